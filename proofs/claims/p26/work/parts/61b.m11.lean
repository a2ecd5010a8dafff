/-! the model: lines of films, more -/
section XMB
variable {d : Nat} {w : List (List xE)} {bd : List (Nat × Nat)} {fc : List (Nat × Nat × Bool)} {rr : Nat × Nat}
set_option maxHeartbeats 60000000 in
theorem mALineS1 {at_ : Nat} (hI : xMnv w) (hps : PS w) (hmb : ∀ s, s < 7 → rwv w 85 s ≤ 1000) (hln : fld w 82 14 ≤ 1000) (h7 : fld w 82 7 = 3) (hat : at_ ≤ 4294967295) : xTo (d + 7) mX12_aLine (43, [], [(2, (0, at_)), (1, (0, 1)), (0, (2, 82))], [], (w, bd, fc, 0, 0, rr)) (fun φ => ∃ w', xEnd 0 [] (w', bd, fc, 0, 0, rr) φ ∧ xMnv w' ∧ xFr [82, 83, 85, 86, 87] w w' ∧ ((FA w ≠ 0 → FA w' ≠ 0) ∧ PS w' ∧ ((fld w' 82 10 = 1 ∧ mu w' = mu w ∧ fld w' 82 14 = fld w 82 14 ∧ ∀ s, s < 7 → rwv w' 85 s = rwv w 85 s) ∨ (mu w' < mu w ∧ fld w' 82 14 = fld w 82 14 + 1 ∧ ∀ s, s < 7 → rwv w' 85 s ≤ rwv w 85 s + 1)) ∧ (FA w' ≠ 0 ∨ (DATA w → DATA w')))) := by
  obtain ⟨f82_1, f82_3, f82_5, f82_7, f82_9, f82_11, f82_13, f82_15, f82_17, f82_19, f82_21, f82_22, f82_23, f82_25, f82_27, f82_29, h82_31, hb2, hb4, hb6, hb8, hb10, hb12, hb14, hb16, hb18, hb20, hb24, hb26, hb28, hb30, hb32⟩ := (hI 82 (by decide) (by decide) : cp82 (wget w 82))
  have hf33 : fld w 82 7 = f82_11 := fld_of h82_31
  have hf34 : fld w 82 10 = f82_17 := fld_of h82_31
  have hf35 : fld w 82 14 = f82_19 := fld_of h82_31
  have hps_ : fld w 82 10 = 0 ∨ FA w ≠ 0 := hps
  obtain ⟨g85_36, h85_37, hb38⟩ := (hI 85 (by decide) (by decide) : cpI 7 52 4294967295 (wget w 85))
  have h85_37 : xRow w 85 7 52 g85_36 := h85_37
  obtain ⟨g86_39, h86_40, hb41⟩ := (hI 86 (by decide) (by decide) : cpI 140 53 4294967295 (wget w 86))
  have h86_40 : xRow w 86 140 53 g86_39 := h86_40
  obtain ⟨g87_42, h87_43, hb44⟩ := (hI 87 (by decide) (by decide) : cpI 20 54 4294967295 (wget w 87))
  have h87_43 : xRow w 87 20 54 g87_42 := h87_43
  refine xg_t (xg_blk (b := [(43, 1, 0, 0, 0, 0), (44, 3, 1, 12, 11, 17), (47, 1, 2, 1, 0, 0), (48, 1, 10, 0, 0, 0), (49, 1, 15, 3, 0, 0), (50, 1, 2, 3, 0, 0), (51, 1, 2, 1, 0, 0), (52, 3, 13, 194, 98, 193), (55, 3, 6, 64, 2, 0), (58, 1, 0, 0, 0, 0), (59, 1, 3, 3, 0, 0), (60, 1, 2, 2, 0, 0), (61, 3, 13, 115, 96, 186)]) rfl) ?_
  refine xg_t (xg_aload (va := (2, 82)) rfl rfl) ?_
  refine xg_t (xg_getf (va := (2, 85)) h82_31 rfl) ?_
  refine xg_t (xg_iload (va := (0, 1)) rfl rfl) ?_
  refine xg_ialdB (n := 1) (B := 4294967295) h85_37 (hb38) xnm0 (by omega) (fun u45 hu46 he47 => ?_)
  have hK48 : rwv w 85 1 = u45 := (rwv_of h85_37 (by decide)).trans he47
  have hm49 := hmb 1 (by decide)
  have hl50 : u45 ≤ 1000 := by omega
  refine xg_t (xg_istore (l1 := [(2, (0, at_)), (1, (0, 1)), (0, (2, 82))]) rfl rfl rfl) ?_
  refine xg_t (xg_iload (va := (0, u45)) rfl rfl) ?_
  refine xg_t (xg_iload (va := (0, 1)) rfl rfl) ?_
  refine xg_t (xg_cSr mX12_mostOf (vs := [(0, 1)]) (rest := [(0, u45)]) (rs := [(0, 4), (0, u45)]) (cn1 := 0) (sl1 := 0) rfl (mMostR1) rfl rfl rfl rfl rfl rfl rfl rfl) ?_
  by_cases hc51 : u45 < 4
  · refine xg_t (xg_icT (u := u45) (v := 4) rfl xnm0 xnm0 (xj_ltT hc51 (by omega))) ?_
    refine xg_t (xg_blk (b := [(64, 1, 0, 0, 0, 0), (65, 3, 13, 110, 96, 190), (68, 1, 2, 1, 0, 0), (69, 39, 33, 362, 0, 9)]) rfl) ?_
    refine xg_t (xg_aload (va := (2, 82)) rfl rfl) ?_
    refine xg_cVv mX12_advance (vs := []) (rest := []) (cn1 := 0) (sl1 := 0) rfl (mAdvance (hI)) rfl h82_31 rfl rfl rfl rfl rfl rfl (fun w52 hq53 => ?_)
    obtain ⟨hI54, hF55, hx56⟩ := hq53
    clear hb2 hb4 hb6 hb8 hb10 hb12 hb14 hb16 hb18 hb20 hb24 hb26 hb28 hb30
    obtain ⟨hv57, hv58, hv59, hv60⟩ := hx56
    have hf62 := FA_fr hF55 (by decide)
    have hs63 := (PK.rf hps).2.2.2
    unfold PS at hs63
    have pk61 : PK w w52 := ⟨fun _ => by omega, hv57, hv60, (show fld w52 82 10 = 0 ∨ FA w52 ≠ 0 by omega)⟩
    clear hs63
    have pk64 : PK w w52 := PK.tr (PK.rf hps) pk61
    have os65 : ∀ j, (j < 50 + 2 * u45 ∨ 52 + 2 * u45 ≤ j) → j < 140 → rwv w52 86 j = rwv w 86 j := fun j hj hl => (rwv_fr hF55 (by decide)).trans ((fun j _ _ => rfl) j hj hl)
    have ms66 : mu w52 < mu w := Nat.lt_of_lt_of_le (hv58 (by omega)) (PK.rf hps).2.1
    clear hv58
    have jn67 : ∀ (w68 : List (List xE)), xMnv w68 → xFr [82, 83, 85, 86, 87] w w68 → (PK w w68 ∧ (∀ j, (j < 50 + 2 * u45 ∨ 52 + 2 * u45 ≤ j) → j < 140 → rwv w68 86 j = rwv w 86 j) ∧ mu w68 < mu w ∧ (FA w68 ≠ 0 ∨ u45 < 4) ∧ (FA w68 ≠ 0 ∨ 4 ≤ u45 ∨ (1 ≤ rwv w68 86 (50 + 2 * u45 + 1) ∧ rwv w68 86 (50 + 2 * u45 + 1) ≤ 999))) → xTo (d + 7) mX12_aLine (394, [], [(0, (2, 82)), (1, (0, 1)), (3, (0, u45))], [], (w68, bd, fc, 0, 0, rr)) (fun φ => ∃ w', xEnd 0 [] (w', bd, fc, 0, 0, rr) φ ∧ xMnv w' ∧ xFr [82, 83, 85, 86, 87] w w' ∧ ((FA w ≠ 0 → FA w' ≠ 0) ∧ PS w' ∧ ((fld w' 82 10 = 1 ∧ mu w' = mu w ∧ fld w' 82 14 = fld w 82 14 ∧ ∀ s, s < 7 → rwv w' 85 s = rwv w 85 s) ∨ (mu w' < mu w ∧ fld w' 82 14 = fld w 82 14 + 1 ∧ ∀ s, s < 7 → rwv w' 85 s ≤ rwv w 85 s + 1)) ∧ (FA w' ≠ 0 ∨ (DATA w → DATA w')))) := by
      intro w68 hI69 hF70 he71
      obtain ⟨hj72, hj73, hj74, hj75, hj76⟩ := he71
      refine xg_t (xg_blk (b := [(394, 1, 0, 0, 0, 0), (395, 3, 1, 12, 10, 180), (398, 3, 7, 416, 1, 0), (401, 1, 0, 0, 0, 0), (402, 3, 1, 12, 7, 151), (405, 1, 3, 2, 0, 0), (406, 3, 6, 416, 1, 0), (409, 1, 0, 0, 0, 0), (410, 3, 13, 110, 96, 190), (413, 3, 8, 420, 0, 0)]) rfl) ?_
      refine xg_t (xg_aload (va := (2, 82)) rfl rfl) ?_
      obtain ⟨f82_77, f82_79, f82_81, f82_83, f82_85, f82_87, f82_89, f82_91, f82_93, f82_95, f82_97, f82_98, f82_99, f82_101, f82_103, f82_105, h82_107, hb78, hb80, hb82, hb84, hb86, hb88, hb90, hb92, hb94, hb96, hb100, hb102, hb104, hb106, hb108⟩ := (hI69 82 (by decide) (by decide) : cp82 (wget w68 82))
      refine xg_t (xg_getf (va := (0, f82_93)) h82_107 rfl) ?_
      by_cases hc109 : f82_93 = 0
      · refine xg_t (xg_ifF (u := f82_93) rfl xnm0 (xj_neF hc109)) ?_
        refine xg_t (xg_aload (va := (2, 82)) rfl rfl) ?_
        refine xg_t (xg_getf (va := (0, f82_87)) h82_107 rfl) ?_
        refine xg_t (xg_const) ?_
        by_cases hc110 : f82_87 = 2
        · refine xg_t (xg_icF (u := f82_87) (v := 2) rfl xnm0 xnm0 (xj_neF hc110)) ?_
          refine xg_t (xg_aload (va := (2, 82)) rfl rfl) ?_
          refine xg_cVv mX12_advance (vs := []) (rest := []) (cn1 := 0) (sl1 := 0) rfl (mAdvance (hI69)) rfl h82_107 rfl rfl rfl rfl rfl rfl (fun w111 hq112 => ?_)
          obtain ⟨hI113, hF114, hx115⟩ := hq112
          clear hb78 hb80 hb82 hb84 hb86 hb88 hb90 hb92 hb94 hb96 hb100 hb102 hb104 hb106
          obtain ⟨hv116, hv117, hv118, hv119⟩ := hx115
          have hf121 := FA_fr hF114 (by decide)
          have hs122 := hj72.2.2.2
          unfold PS at hs122
          have pk120 : PK w68 w111 := ⟨fun _ => by omega, hv116, hv119, (show fld w111 82 10 = 0 ∨ FA w111 ≠ 0 by omega)⟩
          clear hs122
          clear hv117
          have pk123 : PK w w111 := PK.tr hj72 pk120
          have os124 : ∀ j, (j < 50 + 2 * u45 ∨ 52 + 2 * u45 ≤ j) → j < 140 → rwv w111 86 j = rwv w 86 j := fun j hj hl => (rwv_fr hF114 (by decide)).trans (hj73 j hj hl)
          have rg125 : FA w111 ≠ 0 ∨ u45 < 4 := hj75.imp_left pk120.1
          have hl126 : rwv w111 86 (50 + 2 * u45 + 1) = rwv w68 86 (50 + 2 * u45 + 1) := rwv_fr hF114 (by decide)
          have nw127 : FA w111 ≠ 0 ∨ 4 ≤ u45 ∨ (1 ≤ rwv w111 86 (50 + 2 * u45 + 1) ∧ rwv w111 86 (50 + 2 * u45 + 1) ≤ 999) := by have q := hj76; have q1 := pk120.1; omega
          clear hj76
          have ms128 : mu w111 < mu w := Nat.lt_of_le_of_lt pk120.2.1 hj74
          clear hj75
          refine xg_t (xg_goto) ?_
          refine xg_t (xg_blk (b := [(420, 1, 0, 0, 0, 0), (421, 3, 1, 12, 11, 17), (424, 1, 2, 1, 0, 0), (425, 1, 39, 0, 0, 0), (426, 1, 10, 0, 0, 0), (427, 1, 3, 1, 0, 0), (428, 1, 11, 0, 0, 0), (429, 1, 17, 0, 0, 0), (430, 1, 0, 0, 0, 0), (431, 1, 19, 0, 0, 0), (432, 3, 1, 12, 14, 212), (435, 1, 3, 1, 0, 0), (436, 1, 11, 0, 0, 0), (437, 3, 14, 12, 14, 212), (440, 1, 12, 0, 0, 0)]) rfl) ?_
          obtain ⟨f82_129, f82_131, f82_133, f82_135, f82_137, f82_139, f82_141, f82_143, f82_145, f82_147, f82_149, f82_150, f82_151, f82_153, f82_155, f82_157, h82_159, hb130, hb132, hb134, hb136, hb138, hb140, hb142, hb144, hb146, hb148, hb152, hb154, hb156, hb158, hb160⟩ := (hI113 82 (by decide) (by decide) : cp82 (wget w111 82))
          have hf161 : fld w111 82 4 = f82_133 := fld_of h82_159
          have hf162 : fld w111 82 5 = f82_135 := fld_of h82_159
          have hf163 : fld w111 82 7 = f82_139 := fld_of h82_159
          have hf164 : fld w111 82 10 = f82_145 := fld_of h82_159
          have hf165 : fld w111 82 14 = f82_147 := fld_of h82_159
          have hu166 : mu w111 = 2 * (fld w111 82 4 - fld w111 82 5) + min 1 (fld w111 82 7) := rfl
          have hf167 := pk123.2.2.1
          have hl168 : f82_147 ≤ 1000 := by omega
          refine xg_t (xg_aload (va := (2, 82)) rfl rfl) ?_
          refine xg_t (xg_getf (va := (2, 85)) h82_159 rfl) ?_
          refine xg_t (xg_iload (va := (0, 1)) rfl rfl) ?_
          refine xg_t (xg_dup2 rfl) ?_
          obtain ⟨g85_169, h85_170, hb171⟩ := (hI113 85 (by decide) (by decide) : cpI 7 52 4294967295 (wget w111 85))
          have h85_170 : xRow w111 85 7 52 g85_169 := h85_170
          refine xg_ialdB (n := 1) (B := 4294967295) h85_170 (hb171) xnm0 (by omega) (fun u172 hu173 he174 => ?_)
          have hl175 : u172 = u45 := by omega
          refine xg_t (xg_const) ?_
          refine xg_t (xg_iadd (u := u172) (v := 1) (z := u172 + 1) xnm0 xnm0 (by omega)) ?_
          refine xg_iastK (n := 1) (u := u172 + 1) h85_170 xnm0 xnm0 rfl (by omega) (fun w176 hr177 hb178 => ?_)
          refine xg_t (xg_aload (va := (2, 82)) rfl rfl) ?_
          refine xg_t (xg_dup rfl) ?_
          refine xg_t (xg_getf (va := (0, f82_147)) (hb178.get (by decide) h82_159) rfl) ?_
          refine xg_t (xg_const) ?_
          refine xg_t (xg_iadd (u := f82_147) (v := 1) (z := f82_147 + 1) xnm0 xnm0 (by omega)) ?_
          refine xg_putI (fl1 := [(2, 83), (2, 84), (0, f82_129), (0, f82_131), (0, f82_133), (0, f82_135), (0, f82_137), (0, f82_139), (0, f82_141), (0, f82_143), (0, f82_145), (2, 85), (2, 86), (2, 87), (0, f82_147 + 1), (2, 88), (2, 89), (2, 90), (2, 91), (2, 92), (2, 93), (2, 94), (4, f82_149), (4, f82_150), (0, f82_151), (2, 95), (2, 96), (2, 97), (2, 98), (2, 99), (2, 100), (2, 101), (2, 102), (0, f82_153), (2, 103), (2, 104), (2, 105), (2, 106), (2, 107), (2, 108), (2, 109), (0, f82_155), (0, f82_157), (2, 110), (2, 111), (2, 112), (2, 113)]) (hb178.get (by decide) h82_159) rfl rfl rfl (fun w179 hk180 hb181 => ?_)
          have hF182 : xFr [82, 85] w111 w179 := ((xFr.of (S := [82, 85]) hb178 (by decide)).tr (xFr.of (S := [82, 85]) hb181 (by decide)))
          have hA183 := FA_fr hF182 (by decide)
          have hf184 : fld w179 82 4 = f82_133 := fld_of hk180
          have hf185 : fld w179 82 5 = f82_135 := fld_of hk180
          have hf186 : fld w179 82 7 = f82_139 := fld_of hk180
          have hf187 : fld w179 82 10 = f82_145 := fld_of hk180
          have hf188 : fld w179 82 14 = f82_147 + 1 := fld_of hk180
          have hu189 : mu w179 = 2 * (fld w179 82 4 - fld w179 82 5) + min 1 (fld w179 82 7) := rfl
          have pq190 := pk123
          unfold PK PS at pq190
          have hM191 : ∀ s, s < 7 → s ≠ 1 → rwv w179 85 s = rwv w 85 s := fun s hs hn => (rwv_of (hr177.but hb181 (by decide)) hs).trans ((if_neg hn).trans (rwv_of h85_37 hs).symm)
          have hM192 : rwv w179 85 1 = u45 + 1 := (rwv_of (hr177.but hb181 (by decide)) (by decide)).trans ((if_pos rfl).trans (by omega))
          have hM193 : ∀ s, s < 7 → rwv w179 85 s ≤ rwv w 85 s + 1 := fun s hs => by
            by_cases z : s = 1
            · subst z; omega
            · rw [hM191 s hs z]; omega
          have hO194 : ∀ j, (j < 50 + 2 * u45 ∨ 52 + 2 * u45 ≤ j) → j < 140 → rwv w179 86 j = rwv w 86 j := fun j hj hl => (rwv_fr hF182 (by decide)).trans (os124 j hj hl)
          have hl196 : FA w111 ≠ 0 ∨ u45 < 4 := rg125
          have hl197 : rwv w179 86 (50 + 2 * u45 + 1) = rwv w111 86 (50 + 2 * u45 + 1) := rwv_fr hF182 (by decide)
          have hN195 : FA w179 ≠ 0 ∨ 4 ≤ u45 ∨ (1 ≤ rwv w179 86 (50 + 2 * u45 + 1) ∧ rwv w179 86 (50 + 2 * u45 + 1) ≤ 999) := by have q := nw127; omega
          have hX198 : FA w179 ≠ 0 ∨ u45 < 4 := by omega
          have hD199 : FA w179 ≠ 0 ∨ (DATA w → DATA w179) := by
            by_cases z : FA w179 ≠ 0
            · exact Or.inl z
            · exact Or.inr (fun hd => hd.s1 hM191 hK48 hM192 (hX198.resolve_left z) hO194 ((hN195.resolve_left z).resolve_left (by have := hX198.resolve_left z; omega)))
          exact xg_e ⟨w179, ⟨rfl, rfl⟩, xMnv.up (S := [85, 82]) hI113 ((xFr.of (S := [85, 82]) hb178 (by decide)).tr (xFr.of (S := [85, 82]) hb181 (by decide))) (List.forall_mem_cons.mpr ⟨(show cpI 7 52 4294967295 (wget w179 85) from ⟨_, (hr177.but hb181 (by decide)), xrb (by omega) (hb171)⟩), List.forall_mem_cons.mpr ⟨(show cp82 (wget w179 82) from ⟨f82_129, f82_131, f82_133, f82_135, f82_137, f82_139, f82_141, f82_143, f82_145, f82_147 + 1, f82_149, f82_150, f82_151, f82_153, f82_155, f82_157, hk180, hb130, hb132, hb134, hb136, hb138, hb140, hb142, hb144, hb146, by omega, hb152, hb154, hb156, hb158, by omega⟩), fun _ h => absurd h List.not_mem_nil⟩⟩), ((hF70.tr (hF114.up (by decide))).tr ((xFr.of (S := [82, 83, 85, 86, 87]) hb178 (by decide)).tr (xFr.of (S := [82, 83, 85, 86, 87]) hb181 (by decide)))), ⟨fun h => by have := pq190.1 h; omega, (show fld w179 82 10 = 0 ∨ FA w179 ≠ 0 by omega), Or.inr ⟨by have := ms128; omega, by omega, hM193⟩, hD199⟩⟩
        · refine xg_t (xg_icT (u := f82_87) (v := 2) rfl xnm0 xnm0 (xj_neT hc110)) ?_
          refine xg_t (xg_blk (b := [(416, 1, 0, 0, 0, 0), (417, 3, 13, 140, 96, 183)]) rfl) ?_
          refine xg_t (xg_aload (va := (2, 82)) rfl rfl) ?_
          refine xg_cVv mX12_ends (vs := []) (rest := []) (cn1 := 0) (sl1 := 0) rfl (mEnds (hI69) hj72.2.2.2) rfl h82_107 rfl rfl rfl rfl rfl rfl (fun w200 hq201 => ?_)
          obtain ⟨hI202, hF203, hx204⟩ := hq201
          clear hb78 hb80 hb82 hb84 hb86 hb88 hb90 hb92 hb94 hb96 hb100 hb102 hb104 hb106
          obtain ⟨hv205, hv206, hv207, hv208⟩ := hx204
          have pk209 : PK w68 w200 := ⟨fun _ => hv205, by omega, by omega, Or.inr hv205⟩
          have pk210 : PK w w200 := PK.tr hj72 pk209
          have os211 : ∀ j, (j < 50 + 2 * u45 ∨ 52 + 2 * u45 ≤ j) → j < 140 → rwv w200 86 j = rwv w 86 j := fun j hj hl => (rwv_fr hF203 (by decide)).trans (hj73 j hj hl)
          have rg212 : FA w200 ≠ 0 ∨ u45 < 4 := hj75.imp_left pk209.1
          have hl213 : rwv w200 86 (50 + 2 * u45 + 1) = rwv w68 86 (50 + 2 * u45 + 1) := rwv_fr hF203 (by decide)
          have nw214 : FA w200 ≠ 0 ∨ 4 ≤ u45 ∨ (1 ≤ rwv w200 86 (50 + 2 * u45 + 1) ∧ rwv w200 86 (50 + 2 * u45 + 1) ≤ 999) := by have q := hj76; have q1 := pk209.1; omega
          clear hj76
          have ms215 : mu w200 < mu w := Nat.lt_of_le_of_lt pk209.2.1 hj74
          clear hj75
          refine xg_t (xg_blk (b := [(420, 1, 0, 0, 0, 0), (421, 3, 1, 12, 11, 17), (424, 1, 2, 1, 0, 0), (425, 1, 39, 0, 0, 0), (426, 1, 10, 0, 0, 0), (427, 1, 3, 1, 0, 0), (428, 1, 11, 0, 0, 0), (429, 1, 17, 0, 0, 0), (430, 1, 0, 0, 0, 0), (431, 1, 19, 0, 0, 0), (432, 3, 1, 12, 14, 212), (435, 1, 3, 1, 0, 0), (436, 1, 11, 0, 0, 0), (437, 3, 14, 12, 14, 212), (440, 1, 12, 0, 0, 0)]) rfl) ?_
          obtain ⟨f82_216, f82_218, f82_220, f82_222, f82_224, f82_226, f82_228, f82_230, f82_232, f82_234, f82_236, f82_237, f82_238, f82_240, f82_242, f82_244, h82_246, hb217, hb219, hb221, hb223, hb225, hb227, hb229, hb231, hb233, hb235, hb239, hb241, hb243, hb245, hb247⟩ := (hI202 82 (by decide) (by decide) : cp82 (wget w200 82))
          have hf248 : fld w200 82 4 = f82_220 := fld_of h82_246
          have hf249 : fld w200 82 5 = f82_222 := fld_of h82_246
          have hf250 : fld w200 82 7 = f82_226 := fld_of h82_246
          have hf251 : fld w200 82 10 = f82_232 := fld_of h82_246
          have hf252 : fld w200 82 14 = f82_234 := fld_of h82_246
          have hu253 : mu w200 = 2 * (fld w200 82 4 - fld w200 82 5) + min 1 (fld w200 82 7) := rfl
          have hf254 := pk210.2.2.1
          have hl255 : f82_234 ≤ 1000 := by omega
          refine xg_t (xg_aload (va := (2, 82)) rfl rfl) ?_
          refine xg_t (xg_getf (va := (2, 85)) h82_246 rfl) ?_
          refine xg_t (xg_iload (va := (0, 1)) rfl rfl) ?_
          refine xg_t (xg_dup2 rfl) ?_
          obtain ⟨g85_256, h85_257, hb258⟩ := (hI202 85 (by decide) (by decide) : cpI 7 52 4294967295 (wget w200 85))
          have h85_257 : xRow w200 85 7 52 g85_256 := h85_257
          refine xg_ialdB (n := 1) (B := 4294967295) h85_257 (hb258) xnm0 (by omega) (fun u259 hu260 he261 => ?_)
          have hl262 : u259 = u45 := by omega
          refine xg_t (xg_const) ?_
          refine xg_t (xg_iadd (u := u259) (v := 1) (z := u259 + 1) xnm0 xnm0 (by omega)) ?_
          refine xg_iastK (n := 1) (u := u259 + 1) h85_257 xnm0 xnm0 rfl (by omega) (fun w263 hr264 hb265 => ?_)
          refine xg_t (xg_aload (va := (2, 82)) rfl rfl) ?_
          refine xg_t (xg_dup rfl) ?_
          refine xg_t (xg_getf (va := (0, f82_234)) (hb265.get (by decide) h82_246) rfl) ?_
          refine xg_t (xg_const) ?_
          refine xg_t (xg_iadd (u := f82_234) (v := 1) (z := f82_234 + 1) xnm0 xnm0 (by omega)) ?_
          refine xg_putI (fl1 := [(2, 83), (2, 84), (0, f82_216), (0, f82_218), (0, f82_220), (0, f82_222), (0, f82_224), (0, f82_226), (0, f82_228), (0, f82_230), (0, f82_232), (2, 85), (2, 86), (2, 87), (0, f82_234 + 1), (2, 88), (2, 89), (2, 90), (2, 91), (2, 92), (2, 93), (2, 94), (4, f82_236), (4, f82_237), (0, f82_238), (2, 95), (2, 96), (2, 97), (2, 98), (2, 99), (2, 100), (2, 101), (2, 102), (0, f82_240), (2, 103), (2, 104), (2, 105), (2, 106), (2, 107), (2, 108), (2, 109), (0, f82_242), (0, f82_244), (2, 110), (2, 111), (2, 112), (2, 113)]) (hb265.get (by decide) h82_246) rfl rfl rfl (fun w266 hk267 hb268 => ?_)
          have hF269 : xFr [82, 85] w200 w266 := ((xFr.of (S := [82, 85]) hb265 (by decide)).tr (xFr.of (S := [82, 85]) hb268 (by decide)))
          have hA270 := FA_fr hF269 (by decide)
          have hf271 : fld w266 82 4 = f82_220 := fld_of hk267
          have hf272 : fld w266 82 5 = f82_222 := fld_of hk267
          have hf273 : fld w266 82 7 = f82_226 := fld_of hk267
          have hf274 : fld w266 82 10 = f82_232 := fld_of hk267
          have hf275 : fld w266 82 14 = f82_234 + 1 := fld_of hk267
          have hu276 : mu w266 = 2 * (fld w266 82 4 - fld w266 82 5) + min 1 (fld w266 82 7) := rfl
          have pq277 := pk210
          unfold PK PS at pq277
          have hM278 : ∀ s, s < 7 → s ≠ 1 → rwv w266 85 s = rwv w 85 s := fun s hs hn => (rwv_of (hr264.but hb268 (by decide)) hs).trans ((if_neg hn).trans (rwv_of h85_37 hs).symm)
          have hM279 : rwv w266 85 1 = u45 + 1 := (rwv_of (hr264.but hb268 (by decide)) (by decide)).trans ((if_pos rfl).trans (by omega))
          have hM280 : ∀ s, s < 7 → rwv w266 85 s ≤ rwv w 85 s + 1 := fun s hs => by
            by_cases z : s = 1
            · subst z; omega
            · rw [hM278 s hs z]; omega
          have hO281 : ∀ j, (j < 50 + 2 * u45 ∨ 52 + 2 * u45 ≤ j) → j < 140 → rwv w266 86 j = rwv w 86 j := fun j hj hl => (rwv_fr hF269 (by decide)).trans (os211 j hj hl)
          have hl283 : FA w200 ≠ 0 ∨ u45 < 4 := rg212
          have hl284 : rwv w266 86 (50 + 2 * u45 + 1) = rwv w200 86 (50 + 2 * u45 + 1) := rwv_fr hF269 (by decide)
          have hN282 : FA w266 ≠ 0 ∨ 4 ≤ u45 ∨ (1 ≤ rwv w266 86 (50 + 2 * u45 + 1) ∧ rwv w266 86 (50 + 2 * u45 + 1) ≤ 999) := by have q := nw214; omega
          have hX285 : FA w266 ≠ 0 ∨ u45 < 4 := by omega
          have hD286 : FA w266 ≠ 0 ∨ (DATA w → DATA w266) := by
            by_cases z : FA w266 ≠ 0
            · exact Or.inl z
            · exact Or.inr (fun hd => hd.s1 hM278 hK48 hM279 (hX285.resolve_left z) hO281 ((hN282.resolve_left z).resolve_left (by have := hX285.resolve_left z; omega)))
          exact xg_e ⟨w266, ⟨rfl, rfl⟩, xMnv.up (S := [85, 82]) hI202 ((xFr.of (S := [85, 82]) hb265 (by decide)).tr (xFr.of (S := [85, 82]) hb268 (by decide))) (List.forall_mem_cons.mpr ⟨(show cpI 7 52 4294967295 (wget w266 85) from ⟨_, (hr264.but hb268 (by decide)), xrb (by omega) (hb258)⟩), List.forall_mem_cons.mpr ⟨(show cp82 (wget w266 82) from ⟨f82_216, f82_218, f82_220, f82_222, f82_224, f82_226, f82_228, f82_230, f82_232, f82_234 + 1, f82_236, f82_237, f82_238, f82_240, f82_242, f82_244, hk267, hb217, hb219, hb221, hb223, hb225, hb227, hb229, hb231, hb233, by omega, hb239, hb241, hb243, hb245, by omega⟩), fun _ h => absurd h List.not_mem_nil⟩⟩), ((hF70.tr (hF203.up (by decide))).tr ((xFr.of (S := [82, 83, 85, 86, 87]) hb265 (by decide)).tr (xFr.of (S := [82, 83, 85, 86, 87]) hb268 (by decide)))), ⟨fun h => by have := pq277.1 h; omega, (show fld w266 82 10 = 0 ∨ FA w266 ≠ 0 by omega), Or.inr ⟨by have := ms215; omega, by omega, hM280⟩, hD286⟩⟩
      · refine xg_t (xg_ifT (u := f82_93) rfl xnm0 (xj_neT hc109)) ?_
        refine xg_t (xg_blk (b := [(416, 1, 0, 0, 0, 0), (417, 3, 13, 140, 96, 183)]) rfl) ?_
        refine xg_t (xg_aload (va := (2, 82)) rfl rfl) ?_
        refine xg_cVv mX12_ends (vs := []) (rest := []) (cn1 := 0) (sl1 := 0) rfl (mEnds (hI69) hj72.2.2.2) rfl h82_107 rfl rfl rfl rfl rfl rfl (fun w287 hq288 => ?_)
        obtain ⟨hI289, hF290, hx291⟩ := hq288
        clear hb78 hb80 hb82 hb84 hb86 hb88 hb90 hb92 hb94 hb96 hb100 hb102 hb104 hb106
        obtain ⟨hv292, hv293, hv294, hv295⟩ := hx291
        have pk296 : PK w68 w287 := ⟨fun _ => hv292, by omega, by omega, Or.inr hv292⟩
        have pk297 : PK w w287 := PK.tr hj72 pk296
        have os298 : ∀ j, (j < 50 + 2 * u45 ∨ 52 + 2 * u45 ≤ j) → j < 140 → rwv w287 86 j = rwv w 86 j := fun j hj hl => (rwv_fr hF290 (by decide)).trans (hj73 j hj hl)
        have rg299 : FA w287 ≠ 0 ∨ u45 < 4 := hj75.imp_left pk296.1
        have hl300 : rwv w287 86 (50 + 2 * u45 + 1) = rwv w68 86 (50 + 2 * u45 + 1) := rwv_fr hF290 (by decide)
        have nw301 : FA w287 ≠ 0 ∨ 4 ≤ u45 ∨ (1 ≤ rwv w287 86 (50 + 2 * u45 + 1) ∧ rwv w287 86 (50 + 2 * u45 + 1) ≤ 999) := by have q := hj76; have q1 := pk296.1; omega
        clear hj76
        have ms302 : mu w287 < mu w := Nat.lt_of_le_of_lt pk296.2.1 hj74
        clear hj75
        refine xg_t (xg_blk (b := [(420, 1, 0, 0, 0, 0), (421, 3, 1, 12, 11, 17), (424, 1, 2, 1, 0, 0), (425, 1, 39, 0, 0, 0), (426, 1, 10, 0, 0, 0), (427, 1, 3, 1, 0, 0), (428, 1, 11, 0, 0, 0), (429, 1, 17, 0, 0, 0), (430, 1, 0, 0, 0, 0), (431, 1, 19, 0, 0, 0), (432, 3, 1, 12, 14, 212), (435, 1, 3, 1, 0, 0), (436, 1, 11, 0, 0, 0), (437, 3, 14, 12, 14, 212), (440, 1, 12, 0, 0, 0)]) rfl) ?_
        obtain ⟨f82_303, f82_305, f82_307, f82_309, f82_311, f82_313, f82_315, f82_317, f82_319, f82_321, f82_323, f82_324, f82_325, f82_327, f82_329, f82_331, h82_333, hb304, hb306, hb308, hb310, hb312, hb314, hb316, hb318, hb320, hb322, hb326, hb328, hb330, hb332, hb334⟩ := (hI289 82 (by decide) (by decide) : cp82 (wget w287 82))
        have hf335 : fld w287 82 4 = f82_307 := fld_of h82_333
        have hf336 : fld w287 82 5 = f82_309 := fld_of h82_333
        have hf337 : fld w287 82 7 = f82_313 := fld_of h82_333
        have hf338 : fld w287 82 10 = f82_319 := fld_of h82_333
        have hf339 : fld w287 82 14 = f82_321 := fld_of h82_333
        have hu340 : mu w287 = 2 * (fld w287 82 4 - fld w287 82 5) + min 1 (fld w287 82 7) := rfl
        have hf341 := pk297.2.2.1
        have hl342 : f82_321 ≤ 1000 := by omega
        refine xg_t (xg_aload (va := (2, 82)) rfl rfl) ?_
        refine xg_t (xg_getf (va := (2, 85)) h82_333 rfl) ?_
        refine xg_t (xg_iload (va := (0, 1)) rfl rfl) ?_
        refine xg_t (xg_dup2 rfl) ?_
        obtain ⟨g85_343, h85_344, hb345⟩ := (hI289 85 (by decide) (by decide) : cpI 7 52 4294967295 (wget w287 85))
        have h85_344 : xRow w287 85 7 52 g85_343 := h85_344
        refine xg_ialdB (n := 1) (B := 4294967295) h85_344 (hb345) xnm0 (by omega) (fun u346 hu347 he348 => ?_)
        have hl349 : u346 = u45 := by omega
        refine xg_t (xg_const) ?_
        refine xg_t (xg_iadd (u := u346) (v := 1) (z := u346 + 1) xnm0 xnm0 (by omega)) ?_
        refine xg_iastK (n := 1) (u := u346 + 1) h85_344 xnm0 xnm0 rfl (by omega) (fun w350 hr351 hb352 => ?_)
        refine xg_t (xg_aload (va := (2, 82)) rfl rfl) ?_
        refine xg_t (xg_dup rfl) ?_
        refine xg_t (xg_getf (va := (0, f82_321)) (hb352.get (by decide) h82_333) rfl) ?_
        refine xg_t (xg_const) ?_
        refine xg_t (xg_iadd (u := f82_321) (v := 1) (z := f82_321 + 1) xnm0 xnm0 (by omega)) ?_
        refine xg_putI (fl1 := [(2, 83), (2, 84), (0, f82_303), (0, f82_305), (0, f82_307), (0, f82_309), (0, f82_311), (0, f82_313), (0, f82_315), (0, f82_317), (0, f82_319), (2, 85), (2, 86), (2, 87), (0, f82_321 + 1), (2, 88), (2, 89), (2, 90), (2, 91), (2, 92), (2, 93), (2, 94), (4, f82_323), (4, f82_324), (0, f82_325), (2, 95), (2, 96), (2, 97), (2, 98), (2, 99), (2, 100), (2, 101), (2, 102), (0, f82_327), (2, 103), (2, 104), (2, 105), (2, 106), (2, 107), (2, 108), (2, 109), (0, f82_329), (0, f82_331), (2, 110), (2, 111), (2, 112), (2, 113)]) (hb352.get (by decide) h82_333) rfl rfl rfl (fun w353 hk354 hb355 => ?_)
        have hF356 : xFr [82, 85] w287 w353 := ((xFr.of (S := [82, 85]) hb352 (by decide)).tr (xFr.of (S := [82, 85]) hb355 (by decide)))
        have hA357 := FA_fr hF356 (by decide)
        have hf358 : fld w353 82 4 = f82_307 := fld_of hk354
        have hf359 : fld w353 82 5 = f82_309 := fld_of hk354
        have hf360 : fld w353 82 7 = f82_313 := fld_of hk354
        have hf361 : fld w353 82 10 = f82_319 := fld_of hk354
        have hf362 : fld w353 82 14 = f82_321 + 1 := fld_of hk354
        have hu363 : mu w353 = 2 * (fld w353 82 4 - fld w353 82 5) + min 1 (fld w353 82 7) := rfl
        have pq364 := pk297
        unfold PK PS at pq364
        have hM365 : ∀ s, s < 7 → s ≠ 1 → rwv w353 85 s = rwv w 85 s := fun s hs hn => (rwv_of (hr351.but hb355 (by decide)) hs).trans ((if_neg hn).trans (rwv_of h85_37 hs).symm)
        have hM366 : rwv w353 85 1 = u45 + 1 := (rwv_of (hr351.but hb355 (by decide)) (by decide)).trans ((if_pos rfl).trans (by omega))
        have hM367 : ∀ s, s < 7 → rwv w353 85 s ≤ rwv w 85 s + 1 := fun s hs => by
          by_cases z : s = 1
          · subst z; omega
          · rw [hM365 s hs z]; omega
        have hO368 : ∀ j, (j < 50 + 2 * u45 ∨ 52 + 2 * u45 ≤ j) → j < 140 → rwv w353 86 j = rwv w 86 j := fun j hj hl => (rwv_fr hF356 (by decide)).trans (os298 j hj hl)
        have hl370 : FA w287 ≠ 0 ∨ u45 < 4 := rg299
        have hl371 : rwv w353 86 (50 + 2 * u45 + 1) = rwv w287 86 (50 + 2 * u45 + 1) := rwv_fr hF356 (by decide)
        have hN369 : FA w353 ≠ 0 ∨ 4 ≤ u45 ∨ (1 ≤ rwv w353 86 (50 + 2 * u45 + 1) ∧ rwv w353 86 (50 + 2 * u45 + 1) ≤ 999) := by have q := nw301; omega
        have hX372 : FA w353 ≠ 0 ∨ u45 < 4 := by omega
        have hD373 : FA w353 ≠ 0 ∨ (DATA w → DATA w353) := by
          by_cases z : FA w353 ≠ 0
          · exact Or.inl z
          · exact Or.inr (fun hd => hd.s1 hM365 hK48 hM366 (hX372.resolve_left z) hO368 ((hN369.resolve_left z).resolve_left (by have := hX372.resolve_left z; omega)))
        exact xg_e ⟨w353, ⟨rfl, rfl⟩, xMnv.up (S := [85, 82]) hI289 ((xFr.of (S := [85, 82]) hb352 (by decide)).tr (xFr.of (S := [85, 82]) hb355 (by decide))) (List.forall_mem_cons.mpr ⟨(show cpI 7 52 4294967295 (wget w353 85) from ⟨_, (hr351.but hb355 (by decide)), xrb (by omega) (hb345)⟩), List.forall_mem_cons.mpr ⟨(show cp82 (wget w353 82) from ⟨f82_303, f82_305, f82_307, f82_309, f82_311, f82_313, f82_315, f82_317, f82_319, f82_321 + 1, f82_323, f82_324, f82_325, f82_327, f82_329, f82_331, hk354, hb304, hb306, hb308, hb310, hb312, hb314, hb316, hb318, hb320, by omega, hb326, hb328, hb330, hb332, by omega⟩), fun _ h => absurd h List.not_mem_nil⟩⟩), ((hF70.tr (hF290.up (by decide))).tr ((xFr.of (S := [82, 83, 85, 86, 87]) hb352 (by decide)).tr (xFr.of (S := [82, 83, 85, 86, 87]) hb355 (by decide)))), ⟨fun h => by have := pq364.1 h; omega, (show fld w353 82 10 = 0 ∨ FA w353 ≠ 0 by omega), Or.inr ⟨by have := ms302; omega, by omega, hM367⟩, hD373⟩⟩
    refine xg_t (xg_iload (va := (0, 1)) rfl rfl) ?_
    refine xg_t (xg_swt (ks := [(0, 108), (1, 116), (2, 180), (3, 221), (4, 273), (5, 326)]) (u := 1) (z := 116) rfl rfl rfl xnm0 (xsw_n (by omega) (xsw_y rfl))) ?_
    refine xg_t (xg_blk (b := [(116, 1, 0, 0, 0, 0), (117, 1, 3, 0, 0, 0), (118, 2, 4, 99, 0, 0), (120, 3, 13, 199, 96, 196), (123, 2, 15, 4, 0, 0), (125, 1, 0, 0, 0, 0), (126, 2, 2, 4, 0, 0), (128, 1, 2, 3, 0, 0), (129, 3, 13, 167, 96, 208), (132, 3, 7, 141, 0, 0), (135, 1, 0, 0, 0, 0), (136, 1, 3, 3, 0, 0), (137, 1, 2, 2, 0, 0), (138, 3, 13, 115, 96, 186)]) rfl) ?_
    refine xg_t (xg_aload (va := (2, 82)) rfl rfl) ?_
    refine xg_t (xg_const) ?_
    refine xg_t (xg_bip) ?_
    obtain ⟨f82_374, f82_376, f82_378, f82_380, f82_382, f82_384, f82_386, f82_388, f82_390, f82_392, f82_394, f82_395, f82_396, f82_398, f82_400, f82_402, h82_404, hb375, hb377, hb379, hb381, hb383, hb385, hb387, hb389, hb391, hb393, hb397, hb399, hb401, hb403, hb405⟩ := (hI54 82 (by decide) (by decide) : cp82 (wget w52 82))
    refine xg_cVi mX12_numbered (vs := [(0, 0), (0, 99)]) (rest := []) (cn1 := 0) (sl1 := 0) rfl (mNumbered (hI54) (by omega) (by omega) pk64.2.2.2) rfl h82_404 rfl rfl rfl rfl rfl rfl (fun n410 w406 hq407 => ?_)
    obtain ⟨hn411, hI408, hF409⟩ := hq407
    clear hb375 hb377 hb379 hb381 hb383 hb385 hb387 hb389 hb391 hb393 hb397 hb399 hb401 hb403
    obtain ⟨hn412, hn413, hn414⟩ := hn411
    have pk415 : PK w w406 := PK.tr pk64 hn413
    have os416 : ∀ j, (j < 50 + 2 * u45 ∨ 52 + 2 * u45 ≤ j) → j < 140 → rwv w406 86 j = rwv w 86 j := fun j hj hl => (rwv_fr hF409 (by decide)).trans (os65 j hj hl)
    have ms417 : mu w406 < mu w := Nat.lt_of_le_of_lt hn413.2.1 ms66
    refine xg_t (xg_istore (l1 := [(3, (0, u45)), (2, (0, at_)), (1, (0, 1)), (0, (2, 82))]) rfl rfl rfl) ?_
    refine xg_t (xg_aload (va := (2, 82)) rfl rfl) ?_
    refine xg_t (xg_iload (va := (0, n410)) rfl rfl) ?_
    refine xg_t (xg_iload (va := (0, u45)) rfl rfl) ?_
    obtain ⟨f82_418, f82_420, f82_422, f82_424, f82_426, f82_428, f82_430, f82_432, f82_434, f82_436, f82_438, f82_439, f82_440, f82_442, f82_444, f82_446, h82_448, hb419, hb421, hb423, hb425, hb427, hb429, hb431, hb433, hb435, hb437, hb441, hb443, hb445, hb447, hb449⟩ := (hI408 82 (by decide) (by decide) : cp82 (wget w406 82))
    refine xg_cVi mX12_isLifeTold (vs := [(0, n410), (0, u45)]) (rest := []) (cn1 := 0) (sl1 := 0) rfl (mLifeTold (hI408) (by omega) (by omega)) rfl h82_448 rfl rfl rfl rfl rfl rfl (fun n454 w450 hq451 => ?_)
    obtain ⟨hn455, hI452, hF453⟩ := hq451
    have pk456 : PK w w450 := PK.tr pk415 (PK.fr hF453 (by decide) (by decide) pk415.2.2.2)
    have os457 : ∀ j, (j < 50 + 2 * u45 ∨ 52 + 2 * u45 ≤ j) → j < 140 → rwv w450 86 j = rwv w 86 j := fun j hj hl => (rwv_fr hF453 (by decide)).trans (os416 j hj hl)
    have rg458 : FA w450 ≠ 0 ∨ (0 ≤ n410 ∧ n410 ≤ 99) := hn414.imp_left (PK.fr hF453 (by decide) (by decide) pk415.2.2.2).1
    have ms459 : mu w450 < mu w := Nat.lt_of_le_of_lt (PK.fr hF453 (by decide) (by decide) pk415.2.2.2).2.1 ms417
    clear hn414
    by_cases hc460 : n454 = 0
    · refine xg_t (xg_ifT (u := n454) rfl xnm0 (xj_eqT hc460)) ?_
      refine xg_t (xg_blk (b := [(141, 1, 0, 0, 0, 0), (142, 1, 2, 1, 0, 0), (143, 1, 2, 3, 0, 0), (144, 2, 4, 50, 0, 0), (146, 1, 3, 2, 0, 0), (147, 1, 2, 3, 0, 0), (148, 1, 16, 0, 0, 0), (149, 1, 11, 0, 0, 0), (150, 2, 2, 4, 0, 0), (152, 3, 13, 211, 96, 200), (155, 1, 0, 0, 0, 0), (156, 1, 2, 1, 0, 0), (157, 1, 2, 3, 0, 0), (158, 2, 4, 50, 0, 0), (160, 1, 3, 2, 0, 0), (161, 1, 2, 3, 0, 0), (162, 1, 16, 0, 0, 0), (163, 1, 11, 0, 0, 0), (164, 1, 3, 1, 0, 0), (165, 1, 11, 0, 0, 0), (166, 1, 0, 0, 0, 0), (167, 1, 3, 1, 0, 0), (168, 3, 5, 999, 0, 0), (171, 3, 13, 199, 96, 196), (174, 3, 13, 211, 96, 200), (177, 3, 8, 394, 0, 0)]) rfl) ?_
      refine xg_t (xg_aload (va := (2, 82)) rfl rfl) ?_
      refine xg_t (xg_iload (va := (0, 1)) rfl rfl) ?_
      refine xg_t (xg_iload (va := (0, u45)) rfl rfl) ?_
      refine xg_t (xg_bip) ?_
      refine xg_t (xg_const) ?_
      refine xg_t (xg_iload (va := (0, u45)) rfl rfl) ?_
      refine xg_t (xg_imul (u := 2) (v := u45) (z := 2 * u45) xnm0 xnm0 (by omega)) ?_
      refine xg_t (xg_iadd (u := 50) (v := 2 * u45) (z := 50 + (2 * u45)) xnm0 xnm0 (by omega)) ?_
      refine xg_t (xg_iload (va := (0, n410)) rfl rfl) ?_
      refine xg_cVv mX12_puts (vs := [(0, 1), (0, u45), (0, 50 + (2 * u45)), (0, n410)]) (rest := []) (cn1 := 0) (sl1 := 0) rfl (mPuts1 (hI452) (by omega) (by omega) (by omega) (fun _ => by omega)) rfl (hF453.get (by decide) h82_448) rfl rfl rfl rfl rfl rfl (fun w461 hq462 => ?_)
      obtain ⟨hI463, hF464, hx465⟩ := hq462
      obtain ⟨hp466, hp467⟩ := hx465
      have pk468 : PK w w461 := PK.tr pk456 (PK.fr hF464 (by decide) (by decide) pk456.2.2.2)
      have os469 : ∀ j, (j < 50 + 2 * u45 ∨ 52 + 2 * u45 ≤ j) → j < 140 → rwv w461 86 j = rwv w 86 j := fun j hj hl => (hp467 j (by omega) hl).trans (os457 j hj hl)
      have rg470 : FA w461 ≠ 0 ∨ (0 ≤ n410 ∧ n410 ≤ 99) := rg458.imp_left (PK.fr hF464 (by decide) (by decide) pk456.2.2.2).1
      have ms471 : mu w461 < mu w := Nat.lt_of_le_of_lt (PK.fr hF464 (by decide) (by decide) pk456.2.2.2).2.1 ms459
      clear rg458
      refine xg_t (xg_aload (va := (2, 82)) rfl rfl) ?_
      refine xg_t (xg_iload (va := (0, 1)) rfl rfl) ?_
      refine xg_t (xg_iload (va := (0, u45)) rfl rfl) ?_
      refine xg_t (xg_bip) ?_
      refine xg_t (xg_const) ?_
      refine xg_t (xg_iload (va := (0, u45)) rfl rfl) ?_
      refine xg_t (xg_imul (u := 2) (v := u45) (z := 2 * u45) xnm0 xnm0 (by omega)) ?_
      refine xg_t (xg_iadd (u := 50) (v := 2 * u45) (z := 50 + (2 * u45)) xnm0 xnm0 (by omega)) ?_
      refine xg_t (xg_const) ?_
      refine xg_t (xg_iadd (u := 50 + (2 * u45)) (v := 1) (z := (50 + (2 * u45)) + 1) xnm0 xnm0 (by omega)) ?_
      refine xg_t (xg_aload (va := (2, 82)) rfl rfl) ?_
      refine xg_t (xg_const) ?_
      refine xg_t (xg_sip) ?_
      refine xg_cVi mX12_numbered (vs := [(0, 1), (0, 999)]) (rest := [(0, (50 + (2 * u45)) + 1), (0, u45), (0, 1), (2, 82)]) (cn1 := 0) (sl1 := 0) rfl (mNumbered (hI463) (by omega) (by omega) pk468.2.2.2) rfl (hF464.get (by decide) (hF453.get (by decide) h82_448)) rfl rfl rfl rfl rfl rfl (fun n476 w472 hq473 => ?_)
      obtain ⟨hn477, hI474, hF475⟩ := hq473
      clear hb419 hb421 hb423 hb425 hb427 hb429 hb431 hb433 hb435 hb437 hb441 hb443 hb445 hb447
      obtain ⟨hn478, hn479, hn480⟩ := hn477
      have pk481 : PK w w472 := PK.tr pk468 hn479
      have os482 : ∀ j, (j < 50 + 2 * u45 ∨ 52 + 2 * u45 ≤ j) → j < 140 → rwv w472 86 j = rwv w 86 j := fun j hj hl => (rwv_fr hF475 (by decide)).trans (os469 j hj hl)
      have ix483 : u45 < 4 → rwv w472 86 (50 + (2 * u45)) = n410 := fun h => (rwv_fr hF475 (by decide)).trans (hp466 h)
      have rg484 : FA w472 ≠ 0 ∨ (0 ≤ n410 ∧ n410 ≤ 99) := rg470.imp_left hn479.1
      have ms485 : mu w472 < mu w := Nat.lt_of_le_of_lt hn479.2.1 ms471
      clear hp466 rg470
      obtain ⟨f82_486, f82_488, f82_490, f82_492, f82_494, f82_496, f82_498, f82_500, f82_502, f82_504, f82_506, f82_507, f82_508, f82_510, f82_512, f82_514, h82_516, hb487, hb489, hb491, hb493, hb495, hb497, hb499, hb501, hb503, hb505, hb509, hb511, hb513, hb515, hb517⟩ := (hI474 82 (by decide) (by decide) : cp82 (wget w472 82))
      refine xg_cVv mX12_puts (vs := [(0, 1), (0, u45), (0, (50 + (2 * u45)) + 1), (0, n476)]) (rest := []) (cn1 := 0) (sl1 := 0) rfl (mPuts1 (hI474) (by omega) (by omega) (by omega) (fun _ => by omega)) rfl h82_516 rfl rfl rfl rfl rfl rfl (fun w518 hq519 => ?_)
      obtain ⟨hI520, hF521, hx522⟩ := hq519
      obtain ⟨hp523, hp524⟩ := hx522
      have pk525 : PK w w518 := PK.tr pk481 (PK.fr hF521 (by decide) (by decide) pk481.2.2.2)
      have os526 : ∀ j, (j < 50 + 2 * u45 ∨ 52 + 2 * u45 ≤ j) → j < 140 → rwv w518 86 j = rwv w 86 j := fun j hj hl => (hp524 j (by omega) hl).trans (os482 j hj hl)
      have ix527 : u45 < 4 → rwv w518 86 (50 + (2 * u45)) = n410 := fun h => (hp524 _ (by omega) (by omega)).trans (ix483 h)
      have rg528 : FA w518 ≠ 0 ∨ (0 ≤ n410 ∧ n410 ≤ 99) := rg484.imp_left (PK.fr hF521 (by decide) (by decide) pk481.2.2.2).1
      have rg529 : FA w518 ≠ 0 ∨ (1 ≤ n476 ∧ n476 ≤ 999) := hn480.imp_left (PK.fr hF521 (by decide) (by decide) pk481.2.2.2).1
      have ms530 : mu w518 < mu w := Nat.lt_of_le_of_lt (PK.fr hF521 (by decide) (by decide) pk481.2.2.2).2.1 ms485
      clear ix483 rg484 hn480
      refine xg_t (xg_goto) ?_
      refine xg_t (xg_drop (l1 := [(0, (2, 82)), (1, (0, 1)), (3, (0, u45))]) (List.forall_mem_cons.mpr ⟨List.mem_cons_of_mem _ (List.mem_cons_of_mem _ (List.mem_cons_of_mem _ (List.mem_cons_of_mem _ (List.mem_cons_self)))), List.forall_mem_cons.mpr ⟨List.mem_cons_of_mem _ (List.mem_cons_of_mem _ (List.mem_cons_of_mem _ (List.mem_cons_self))), List.forall_mem_cons.mpr ⟨List.mem_cons_of_mem _ (List.mem_cons_self), fun _ h => absurd h List.not_mem_nil⟩⟩⟩)) ?_
      have hX531 : FA w518 ≠ 0 ∨ u45 < 4 := Or.inr (by omega)
      have hN532 : FA w518 ≠ 0 ∨ 4 ≤ u45 ∨ (1 ≤ rwv w518 86 (50 + 2 * u45 + 1) ∧ rwv w518 86 (50 + 2 * u45 + 1) ≤ 999) := by
        have hl533 : u45 < 4 → rwv w518 86 (50 + (2 * u45)) = n410 := ix527
        have hl534 : u45 < 4 → rwv w518 86 ((50 + (2 * u45)) + 1) = n476 := hp523
        have hl535 := rg528
        have hl536 := rg529
        omega
      exact jn67 w518 (hI520) (((((((hF55.up (by decide)).tr (hF409.up (by decide))).tr (hF453.up (by decide))).tr (hF464.up (by decide))).tr (hF475.up (by decide))).tr (hF521.up (by decide)))) (⟨pk525, os526, ms530, hX531, hN532⟩)
    · refine xg_t (xg_ifF (u := n454) rfl xnm0 (xj_eqF hc460)) ?_
      refine xg_t (xg_aload (va := (2, 82)) rfl rfl) ?_
      refine xg_t (xg_const) ?_
      refine xg_t (xg_iload (va := (0, at_)) rfl rfl) ?_
      refine xg_cVv mX12_also (vs := [(0, 3), (0, at_)]) (rest := []) (cn1 := 0) (sl1 := 0) rfl (mAlso (hI452) (by omega) (by omega) (by omega) pk456.2.2.2) rfl (hF453.get (by decide) h82_448) rfl rfl rfl rfl rfl rfl (fun w537 hq538 => ?_)
      obtain ⟨hI539, hF540, hx541⟩ := hq538
      have pk542 : PK w450 w537 := ⟨fun _ => hx541, Nat.le_of_eq (mu_fr hF540 (by decide)), fld_fr hF540 (by decide), Or.inr hx541⟩
      have pk543 : PK w w537 := PK.tr pk456 pk542
      have os544 : ∀ j, (j < 50 + 2 * u45 ∨ 52 + 2 * u45 ≤ j) → j < 140 → rwv w537 86 j = rwv w 86 j := fun j hj hl => (rwv_fr hF540 (by decide)).trans (os457 j hj hl)
      have rg545 : FA w537 ≠ 0 ∨ (0 ≤ n410 ∧ n410 ≤ 99) := rg458.imp_left pk542.1
      have ms546 : mu w537 < mu w := Nat.lt_of_le_of_lt pk542.2.1 ms459
      clear rg458
      refine xg_t (xg_blk (b := [(141, 1, 0, 0, 0, 0), (142, 1, 2, 1, 0, 0), (143, 1, 2, 3, 0, 0), (144, 2, 4, 50, 0, 0), (146, 1, 3, 2, 0, 0), (147, 1, 2, 3, 0, 0), (148, 1, 16, 0, 0, 0), (149, 1, 11, 0, 0, 0), (150, 2, 2, 4, 0, 0), (152, 3, 13, 211, 96, 200), (155, 1, 0, 0, 0, 0), (156, 1, 2, 1, 0, 0), (157, 1, 2, 3, 0, 0), (158, 2, 4, 50, 0, 0), (160, 1, 3, 2, 0, 0), (161, 1, 2, 3, 0, 0), (162, 1, 16, 0, 0, 0), (163, 1, 11, 0, 0, 0), (164, 1, 3, 1, 0, 0), (165, 1, 11, 0, 0, 0), (166, 1, 0, 0, 0, 0), (167, 1, 3, 1, 0, 0), (168, 3, 5, 999, 0, 0), (171, 3, 13, 199, 96, 196), (174, 3, 13, 211, 96, 200), (177, 3, 8, 394, 0, 0)]) rfl) ?_
      refine xg_t (xg_aload (va := (2, 82)) rfl rfl) ?_
      refine xg_t (xg_iload (va := (0, 1)) rfl rfl) ?_
      refine xg_t (xg_iload (va := (0, u45)) rfl rfl) ?_
      refine xg_t (xg_bip) ?_
      refine xg_t (xg_const) ?_
      refine xg_t (xg_iload (va := (0, u45)) rfl rfl) ?_
      refine xg_t (xg_imul (u := 2) (v := u45) (z := 2 * u45) xnm0 xnm0 (by omega)) ?_
      refine xg_t (xg_iadd (u := 50) (v := 2 * u45) (z := 50 + (2 * u45)) xnm0 xnm0 (by omega)) ?_
      refine xg_t (xg_iload (va := (0, n410)) rfl rfl) ?_
      refine xg_cVv mX12_puts (vs := [(0, 1), (0, u45), (0, 50 + (2 * u45)), (0, n410)]) (rest := []) (cn1 := 0) (sl1 := 0) rfl (mPuts1 (hI539) (by omega) (by omega) (by omega) (fun _ => by omega)) rfl (hF540.get (by decide) (hF453.get (by decide) h82_448)) rfl rfl rfl rfl rfl rfl (fun w547 hq548 => ?_)
      obtain ⟨hI549, hF550, hx551⟩ := hq548
      obtain ⟨hp552, hp553⟩ := hx551
      have pk554 : PK w w547 := PK.tr pk543 (PK.fr hF550 (by decide) (by decide) pk543.2.2.2)
      have os555 : ∀ j, (j < 50 + 2 * u45 ∨ 52 + 2 * u45 ≤ j) → j < 140 → rwv w547 86 j = rwv w 86 j := fun j hj hl => (hp553 j (by omega) hl).trans (os544 j hj hl)
      have rg556 : FA w547 ≠ 0 ∨ (0 ≤ n410 ∧ n410 ≤ 99) := rg545.imp_left (PK.fr hF550 (by decide) (by decide) pk543.2.2.2).1
      have rg557 : FA w547 ≠ 0 ∨ 0 = 1 := (Or.inl hx541 : FA w537 ≠ 0 ∨ 0 = 1).imp_left (PK.fr hF550 (by decide) (by decide) pk543.2.2.2).1
      have ms558 : mu w547 < mu w := Nat.lt_of_le_of_lt (PK.fr hF550 (by decide) (by decide) pk543.2.2.2).2.1 ms546
      clear rg545
      refine xg_t (xg_aload (va := (2, 82)) rfl rfl) ?_
      refine xg_t (xg_iload (va := (0, 1)) rfl rfl) ?_
      refine xg_t (xg_iload (va := (0, u45)) rfl rfl) ?_
      refine xg_t (xg_bip) ?_
      refine xg_t (xg_const) ?_
      refine xg_t (xg_iload (va := (0, u45)) rfl rfl) ?_
      refine xg_t (xg_imul (u := 2) (v := u45) (z := 2 * u45) xnm0 xnm0 (by omega)) ?_
      refine xg_t (xg_iadd (u := 50) (v := 2 * u45) (z := 50 + (2 * u45)) xnm0 xnm0 (by omega)) ?_
      refine xg_t (xg_const) ?_
      refine xg_t (xg_iadd (u := 50 + (2 * u45)) (v := 1) (z := (50 + (2 * u45)) + 1) xnm0 xnm0 (by omega)) ?_
      refine xg_t (xg_aload (va := (2, 82)) rfl rfl) ?_
      refine xg_t (xg_const) ?_
      refine xg_t (xg_sip) ?_
      refine xg_cVi mX12_numbered (vs := [(0, 1), (0, 999)]) (rest := [(0, (50 + (2 * u45)) + 1), (0, u45), (0, 1), (2, 82)]) (cn1 := 0) (sl1 := 0) rfl (mNumbered (hI549) (by omega) (by omega) pk554.2.2.2) rfl (hF550.get (by decide) (hF540.get (by decide) (hF453.get (by decide) h82_448))) rfl rfl rfl rfl rfl rfl (fun n563 w559 hq560 => ?_)
      obtain ⟨hn564, hI561, hF562⟩ := hq560
      clear hb419 hb421 hb423 hb425 hb427 hb429 hb431 hb433 hb435 hb437 hb441 hb443 hb445 hb447
      obtain ⟨hn565, hn566, hn567⟩ := hn564
      have pk568 : PK w w559 := PK.tr pk554 hn566
      have os569 : ∀ j, (j < 50 + 2 * u45 ∨ 52 + 2 * u45 ≤ j) → j < 140 → rwv w559 86 j = rwv w 86 j := fun j hj hl => (rwv_fr hF562 (by decide)).trans (os555 j hj hl)
      have ix570 : u45 < 4 → rwv w559 86 (50 + (2 * u45)) = n410 := fun h => (rwv_fr hF562 (by decide)).trans (hp552 h)
      have rg571 : FA w559 ≠ 0 ∨ (0 ≤ n410 ∧ n410 ≤ 99) := rg556.imp_left hn566.1
      have rg572 : FA w559 ≠ 0 ∨ 0 = 1 := rg557.imp_left hn566.1
      have ms573 : mu w559 < mu w := Nat.lt_of_le_of_lt hn566.2.1 ms558
      clear hp552 rg556 rg557
      obtain ⟨f82_574, f82_576, f82_578, f82_580, f82_582, f82_584, f82_586, f82_588, f82_590, f82_592, f82_594, f82_595, f82_596, f82_598, f82_600, f82_602, h82_604, hb575, hb577, hb579, hb581, hb583, hb585, hb587, hb589, hb591, hb593, hb597, hb599, hb601, hb603, hb605⟩ := (hI561 82 (by decide) (by decide) : cp82 (wget w559 82))
      refine xg_cVv mX12_puts (vs := [(0, 1), (0, u45), (0, (50 + (2 * u45)) + 1), (0, n563)]) (rest := []) (cn1 := 0) (sl1 := 0) rfl (mPuts1 (hI561) (by omega) (by omega) (by omega) (fun _ => by omega)) rfl h82_604 rfl rfl rfl rfl rfl rfl (fun w606 hq607 => ?_)
      obtain ⟨hI608, hF609, hx610⟩ := hq607
      obtain ⟨hp611, hp612⟩ := hx610
      have pk613 : PK w w606 := PK.tr pk568 (PK.fr hF609 (by decide) (by decide) pk568.2.2.2)
      have os614 : ∀ j, (j < 50 + 2 * u45 ∨ 52 + 2 * u45 ≤ j) → j < 140 → rwv w606 86 j = rwv w 86 j := fun j hj hl => (hp612 j (by omega) hl).trans (os569 j hj hl)
      have ix615 : u45 < 4 → rwv w606 86 (50 + (2 * u45)) = n410 := fun h => (hp612 _ (by omega) (by omega)).trans (ix570 h)
      have rg616 : FA w606 ≠ 0 ∨ (0 ≤ n410 ∧ n410 ≤ 99) := rg571.imp_left (PK.fr hF609 (by decide) (by decide) pk568.2.2.2).1
      have rg617 : FA w606 ≠ 0 ∨ 0 = 1 := rg572.imp_left (PK.fr hF609 (by decide) (by decide) pk568.2.2.2).1
      have rg618 : FA w606 ≠ 0 ∨ (1 ≤ n563 ∧ n563 ≤ 999) := hn567.imp_left (PK.fr hF609 (by decide) (by decide) pk568.2.2.2).1
      have ms619 : mu w606 < mu w := Nat.lt_of_le_of_lt (PK.fr hF609 (by decide) (by decide) pk568.2.2.2).2.1 ms573
      clear ix570 rg571 rg572 hn567
      refine xg_t (xg_goto) ?_
      refine xg_t (xg_drop (l1 := [(0, (2, 82)), (1, (0, 1)), (3, (0, u45))]) (List.forall_mem_cons.mpr ⟨List.mem_cons_of_mem _ (List.mem_cons_of_mem _ (List.mem_cons_of_mem _ (List.mem_cons_of_mem _ (List.mem_cons_self)))), List.forall_mem_cons.mpr ⟨List.mem_cons_of_mem _ (List.mem_cons_of_mem _ (List.mem_cons_of_mem _ (List.mem_cons_self))), List.forall_mem_cons.mpr ⟨List.mem_cons_of_mem _ (List.mem_cons_self), fun _ h => absurd h List.not_mem_nil⟩⟩⟩)) ?_
      have hX620 : FA w606 ≠ 0 ∨ u45 < 4 := Or.inl (by have q := rg617; omega)
      have hN621 : FA w606 ≠ 0 ∨ 4 ≤ u45 ∨ (1 ≤ rwv w606 86 (50 + 2 * u45 + 1) ∧ rwv w606 86 (50 + 2 * u45 + 1) ≤ 999) := by
        have hl622 : u45 < 4 → rwv w606 86 (50 + (2 * u45)) = n410 := ix615
        have hl623 : u45 < 4 → rwv w606 86 ((50 + (2 * u45)) + 1) = n563 := hp611
        have hl624 := rg616
        have hl625 := rg618
        omega
      exact jn67 w606 (hI608) ((((((((hF55.up (by decide)).tr (hF409.up (by decide))).tr (hF453.up (by decide))).tr (hF540.up (by decide))).tr (hF550.up (by decide))).tr (hF562.up (by decide))).tr (hF609.up (by decide)))) (⟨pk613, os614, ms619, hX620, hN621⟩)
  · refine xg_t (xg_icF (u := u45) (v := 4) rfl xnm0 xnm0 (xj_ltF (by omega) (by omega))) ?_
    refine xg_t (xg_aload (va := (2, 82)) rfl rfl) ?_
    refine xg_t (xg_const) ?_
    refine xg_t (xg_iload (va := (0, at_)) rfl rfl) ?_
    refine xg_cVv mX12_also (vs := [(0, 3), (0, at_)]) (rest := []) (cn1 := 0) (sl1 := 0) rfl (mAlso (hI) (by omega) (by omega) (by omega) (PK.rf hps).2.2.2) rfl h82_31 rfl rfl rfl rfl rfl rfl (fun w626 hq627 => ?_)
    obtain ⟨hI628, hF629, hx630⟩ := hq627
    have pk631 : PK w w626 := ⟨fun _ => hx630, Nat.le_of_eq (mu_fr hF629 (by decide)), fld_fr hF629 (by decide), Or.inr hx630⟩
    have pk632 : PK w w626 := PK.tr (PK.rf hps) pk631
    have os633 : ∀ j, (j < 50 + 2 * u45 ∨ 52 + 2 * u45 ≤ j) → j < 140 → rwv w626 86 j = rwv w 86 j := fun j hj hl => (rwv_fr hF629 (by decide)).trans ((fun j _ _ => rfl) j hj hl)
    have hf634 := fld_fr (c := 82) (j := 7) hF629 (by decide)
    refine xg_t (xg_blk (b := [(64, 1, 0, 0, 0, 0), (65, 3, 13, 110, 96, 190), (68, 1, 2, 1, 0, 0), (69, 39, 33, 362, 0, 9)]) rfl) ?_
    refine xg_t (xg_aload (va := (2, 82)) rfl rfl) ?_
    refine xg_cVv mX12_advance (vs := []) (rest := []) (cn1 := 0) (sl1 := 0) rfl (mAdvance (hI628)) rfl (hF629.get (by decide) h82_31) rfl rfl rfl rfl rfl rfl (fun w635 hq636 => ?_)
    obtain ⟨hI637, hF638, hx639⟩ := hq636
    clear hb2 hb4 hb6 hb8 hb10 hb12 hb14 hb16 hb18 hb20 hb24 hb26 hb28 hb30
    obtain ⟨hv640, hv641, hv642, hv643⟩ := hx639
    have hf645 := FA_fr hF638 (by decide)
    have hs646 := pk632.2.2.2
    unfold PS at hs646
    have pk644 : PK w626 w635 := ⟨fun _ => by omega, hv640, hv643, (show fld w635 82 10 = 0 ∨ FA w635 ≠ 0 by omega)⟩
    clear hs646
    have pk647 : PK w w635 := PK.tr pk632 pk644
    have os648 : ∀ j, (j < 50 + 2 * u45 ∨ 52 + 2 * u45 ≤ j) → j < 140 → rwv w635 86 j = rwv w 86 j := fun j hj hl => (rwv_fr hF638 (by decide)).trans (os633 j hj hl)
    have rg649 : FA w635 ≠ 0 ∨ 0 = 1 := (Or.inl hx630 : FA w626 ≠ 0 ∨ 0 = 1).imp_left pk644.1
    have ms650 : mu w635 < mu w := Nat.lt_of_lt_of_le (hv641 (by omega)) pk632.2.1
    clear hv641
    have jn651 : ∀ (w652 : List (List xE)), xMnv w652 → xFr [82, 83, 85, 86, 87] w w652 → (PK w w652 ∧ (∀ j, (j < 50 + 2 * u45 ∨ 52 + 2 * u45 ≤ j) → j < 140 → rwv w652 86 j = rwv w 86 j) ∧ mu w652 < mu w ∧ (FA w652 ≠ 0 ∨ u45 < 4) ∧ (FA w652 ≠ 0 ∨ 4 ≤ u45 ∨ (1 ≤ rwv w652 86 (50 + 2 * u45 + 1) ∧ rwv w652 86 (50 + 2 * u45 + 1) ≤ 999))) → xTo (d + 7) mX12_aLine (394, [], [(0, (2, 82)), (1, (0, 1)), (3, (0, u45))], [], (w652, bd, fc, 0, 0, rr)) (fun φ => ∃ w', xEnd 0 [] (w', bd, fc, 0, 0, rr) φ ∧ xMnv w' ∧ xFr [82, 83, 85, 86, 87] w w' ∧ ((FA w ≠ 0 → FA w' ≠ 0) ∧ PS w' ∧ ((fld w' 82 10 = 1 ∧ mu w' = mu w ∧ fld w' 82 14 = fld w 82 14 ∧ ∀ s, s < 7 → rwv w' 85 s = rwv w 85 s) ∨ (mu w' < mu w ∧ fld w' 82 14 = fld w 82 14 + 1 ∧ ∀ s, s < 7 → rwv w' 85 s ≤ rwv w 85 s + 1)) ∧ (FA w' ≠ 0 ∨ (DATA w → DATA w')))) := by
      intro w652 hI653 hF654 he655
      obtain ⟨hj656, hj657, hj658, hj659, hj660⟩ := he655
      refine xg_t (xg_blk (b := [(394, 1, 0, 0, 0, 0), (395, 3, 1, 12, 10, 180), (398, 3, 7, 416, 1, 0), (401, 1, 0, 0, 0, 0), (402, 3, 1, 12, 7, 151), (405, 1, 3, 2, 0, 0), (406, 3, 6, 416, 1, 0), (409, 1, 0, 0, 0, 0), (410, 3, 13, 110, 96, 190), (413, 3, 8, 420, 0, 0)]) rfl) ?_
      refine xg_t (xg_aload (va := (2, 82)) rfl rfl) ?_
      obtain ⟨f82_661, f82_663, f82_665, f82_667, f82_669, f82_671, f82_673, f82_675, f82_677, f82_679, f82_681, f82_682, f82_683, f82_685, f82_687, f82_689, h82_691, hb662, hb664, hb666, hb668, hb670, hb672, hb674, hb676, hb678, hb680, hb684, hb686, hb688, hb690, hb692⟩ := (hI653 82 (by decide) (by decide) : cp82 (wget w652 82))
      refine xg_t (xg_getf (va := (0, f82_677)) h82_691 rfl) ?_
      by_cases hc693 : f82_677 = 0
      · refine xg_t (xg_ifF (u := f82_677) rfl xnm0 (xj_neF hc693)) ?_
        refine xg_t (xg_aload (va := (2, 82)) rfl rfl) ?_
        refine xg_t (xg_getf (va := (0, f82_671)) h82_691 rfl) ?_
        refine xg_t (xg_const) ?_
        by_cases hc694 : f82_671 = 2
        · refine xg_t (xg_icF (u := f82_671) (v := 2) rfl xnm0 xnm0 (xj_neF hc694)) ?_
          refine xg_t (xg_aload (va := (2, 82)) rfl rfl) ?_
          refine xg_cVv mX12_advance (vs := []) (rest := []) (cn1 := 0) (sl1 := 0) rfl (mAdvance (hI653)) rfl h82_691 rfl rfl rfl rfl rfl rfl (fun w695 hq696 => ?_)
          obtain ⟨hI697, hF698, hx699⟩ := hq696
          clear hb662 hb664 hb666 hb668 hb670 hb672 hb674 hb676 hb678 hb680 hb684 hb686 hb688 hb690
          obtain ⟨hv700, hv701, hv702, hv703⟩ := hx699
          have hf705 := FA_fr hF698 (by decide)
          have hs706 := hj656.2.2.2
          unfold PS at hs706
          have pk704 : PK w652 w695 := ⟨fun _ => by omega, hv700, hv703, (show fld w695 82 10 = 0 ∨ FA w695 ≠ 0 by omega)⟩
          clear hs706
          clear hv701
          have pk707 : PK w w695 := PK.tr hj656 pk704
          have os708 : ∀ j, (j < 50 + 2 * u45 ∨ 52 + 2 * u45 ≤ j) → j < 140 → rwv w695 86 j = rwv w 86 j := fun j hj hl => (rwv_fr hF698 (by decide)).trans (hj657 j hj hl)
          have rg709 : FA w695 ≠ 0 ∨ u45 < 4 := hj659.imp_left pk704.1
          have hl710 : rwv w695 86 (50 + 2 * u45 + 1) = rwv w652 86 (50 + 2 * u45 + 1) := rwv_fr hF698 (by decide)
          have nw711 : FA w695 ≠ 0 ∨ 4 ≤ u45 ∨ (1 ≤ rwv w695 86 (50 + 2 * u45 + 1) ∧ rwv w695 86 (50 + 2 * u45 + 1) ≤ 999) := by have q := hj660; have q1 := pk704.1; omega
          clear hj660
          have ms712 : mu w695 < mu w := Nat.lt_of_le_of_lt pk704.2.1 hj658
          clear hj659
          refine xg_t (xg_goto) ?_
          refine xg_t (xg_blk (b := [(420, 1, 0, 0, 0, 0), (421, 3, 1, 12, 11, 17), (424, 1, 2, 1, 0, 0), (425, 1, 39, 0, 0, 0), (426, 1, 10, 0, 0, 0), (427, 1, 3, 1, 0, 0), (428, 1, 11, 0, 0, 0), (429, 1, 17, 0, 0, 0), (430, 1, 0, 0, 0, 0), (431, 1, 19, 0, 0, 0), (432, 3, 1, 12, 14, 212), (435, 1, 3, 1, 0, 0), (436, 1, 11, 0, 0, 0), (437, 3, 14, 12, 14, 212), (440, 1, 12, 0, 0, 0)]) rfl) ?_
          obtain ⟨f82_713, f82_715, f82_717, f82_719, f82_721, f82_723, f82_725, f82_727, f82_729, f82_731, f82_733, f82_734, f82_735, f82_737, f82_739, f82_741, h82_743, hb714, hb716, hb718, hb720, hb722, hb724, hb726, hb728, hb730, hb732, hb736, hb738, hb740, hb742, hb744⟩ := (hI697 82 (by decide) (by decide) : cp82 (wget w695 82))
          have hf745 : fld w695 82 4 = f82_717 := fld_of h82_743
          have hf746 : fld w695 82 5 = f82_719 := fld_of h82_743
          have hf747 : fld w695 82 7 = f82_723 := fld_of h82_743
          have hf748 : fld w695 82 10 = f82_729 := fld_of h82_743
          have hf749 : fld w695 82 14 = f82_731 := fld_of h82_743
          have hu750 : mu w695 = 2 * (fld w695 82 4 - fld w695 82 5) + min 1 (fld w695 82 7) := rfl
          have hf751 := pk707.2.2.1
          have hl752 : f82_731 ≤ 1000 := by omega
          refine xg_t (xg_aload (va := (2, 82)) rfl rfl) ?_
          refine xg_t (xg_getf (va := (2, 85)) h82_743 rfl) ?_
          refine xg_t (xg_iload (va := (0, 1)) rfl rfl) ?_
          refine xg_t (xg_dup2 rfl) ?_
          obtain ⟨g85_753, h85_754, hb755⟩ := (hI697 85 (by decide) (by decide) : cpI 7 52 4294967295 (wget w695 85))
          have h85_754 : xRow w695 85 7 52 g85_753 := h85_754
          refine xg_ialdB (n := 1) (B := 4294967295) h85_754 (hb755) xnm0 (by omega) (fun u756 hu757 he758 => ?_)
          have hl759 : u756 = u45 := by omega
          refine xg_t (xg_const) ?_
          refine xg_t (xg_iadd (u := u756) (v := 1) (z := u756 + 1) xnm0 xnm0 (by omega)) ?_
          refine xg_iastK (n := 1) (u := u756 + 1) h85_754 xnm0 xnm0 rfl (by omega) (fun w760 hr761 hb762 => ?_)
          refine xg_t (xg_aload (va := (2, 82)) rfl rfl) ?_
          refine xg_t (xg_dup rfl) ?_
          refine xg_t (xg_getf (va := (0, f82_731)) (hb762.get (by decide) h82_743) rfl) ?_
          refine xg_t (xg_const) ?_
          refine xg_t (xg_iadd (u := f82_731) (v := 1) (z := f82_731 + 1) xnm0 xnm0 (by omega)) ?_
          refine xg_putI (fl1 := [(2, 83), (2, 84), (0, f82_713), (0, f82_715), (0, f82_717), (0, f82_719), (0, f82_721), (0, f82_723), (0, f82_725), (0, f82_727), (0, f82_729), (2, 85), (2, 86), (2, 87), (0, f82_731 + 1), (2, 88), (2, 89), (2, 90), (2, 91), (2, 92), (2, 93), (2, 94), (4, f82_733), (4, f82_734), (0, f82_735), (2, 95), (2, 96), (2, 97), (2, 98), (2, 99), (2, 100), (2, 101), (2, 102), (0, f82_737), (2, 103), (2, 104), (2, 105), (2, 106), (2, 107), (2, 108), (2, 109), (0, f82_739), (0, f82_741), (2, 110), (2, 111), (2, 112), (2, 113)]) (hb762.get (by decide) h82_743) rfl rfl rfl (fun w763 hk764 hb765 => ?_)
          have hF766 : xFr [82, 85] w695 w763 := ((xFr.of (S := [82, 85]) hb762 (by decide)).tr (xFr.of (S := [82, 85]) hb765 (by decide)))
          have hA767 := FA_fr hF766 (by decide)
          have hf768 : fld w763 82 4 = f82_717 := fld_of hk764
          have hf769 : fld w763 82 5 = f82_719 := fld_of hk764
          have hf770 : fld w763 82 7 = f82_723 := fld_of hk764
          have hf771 : fld w763 82 10 = f82_729 := fld_of hk764
          have hf772 : fld w763 82 14 = f82_731 + 1 := fld_of hk764
          have hu773 : mu w763 = 2 * (fld w763 82 4 - fld w763 82 5) + min 1 (fld w763 82 7) := rfl
          have pq774 := pk707
          unfold PK PS at pq774
          have hM775 : ∀ s, s < 7 → s ≠ 1 → rwv w763 85 s = rwv w 85 s := fun s hs hn => (rwv_of (hr761.but hb765 (by decide)) hs).trans ((if_neg hn).trans (rwv_of h85_37 hs).symm)
          have hM776 : rwv w763 85 1 = u45 + 1 := (rwv_of (hr761.but hb765 (by decide)) (by decide)).trans ((if_pos rfl).trans (by omega))
          have hM777 : ∀ s, s < 7 → rwv w763 85 s ≤ rwv w 85 s + 1 := fun s hs => by
            by_cases z : s = 1
            · subst z; omega
            · rw [hM775 s hs z]; omega
          have hO778 : ∀ j, (j < 50 + 2 * u45 ∨ 52 + 2 * u45 ≤ j) → j < 140 → rwv w763 86 j = rwv w 86 j := fun j hj hl => (rwv_fr hF766 (by decide)).trans (os708 j hj hl)
          have hl780 : FA w695 ≠ 0 ∨ u45 < 4 := rg709
          have hl781 : rwv w763 86 (50 + 2 * u45 + 1) = rwv w695 86 (50 + 2 * u45 + 1) := rwv_fr hF766 (by decide)
          have hN779 : FA w763 ≠ 0 ∨ 4 ≤ u45 ∨ (1 ≤ rwv w763 86 (50 + 2 * u45 + 1) ∧ rwv w763 86 (50 + 2 * u45 + 1) ≤ 999) := by have q := nw711; omega
          have hX782 : FA w763 ≠ 0 ∨ u45 < 4 := by omega
          have hD783 : FA w763 ≠ 0 ∨ (DATA w → DATA w763) := by
            by_cases z : FA w763 ≠ 0
            · exact Or.inl z
            · exact Or.inr (fun hd => hd.s1 hM775 hK48 hM776 (hX782.resolve_left z) hO778 ((hN779.resolve_left z).resolve_left (by have := hX782.resolve_left z; omega)))
          exact xg_e ⟨w763, ⟨rfl, rfl⟩, xMnv.up (S := [85, 82]) hI697 ((xFr.of (S := [85, 82]) hb762 (by decide)).tr (xFr.of (S := [85, 82]) hb765 (by decide))) (List.forall_mem_cons.mpr ⟨(show cpI 7 52 4294967295 (wget w763 85) from ⟨_, (hr761.but hb765 (by decide)), xrb (by omega) (hb755)⟩), List.forall_mem_cons.mpr ⟨(show cp82 (wget w763 82) from ⟨f82_713, f82_715, f82_717, f82_719, f82_721, f82_723, f82_725, f82_727, f82_729, f82_731 + 1, f82_733, f82_734, f82_735, f82_737, f82_739, f82_741, hk764, hb714, hb716, hb718, hb720, hb722, hb724, hb726, hb728, hb730, by omega, hb736, hb738, hb740, hb742, by omega⟩), fun _ h => absurd h List.not_mem_nil⟩⟩), ((hF654.tr (hF698.up (by decide))).tr ((xFr.of (S := [82, 83, 85, 86, 87]) hb762 (by decide)).tr (xFr.of (S := [82, 83, 85, 86, 87]) hb765 (by decide)))), ⟨fun h => by have := pq774.1 h; omega, (show fld w763 82 10 = 0 ∨ FA w763 ≠ 0 by omega), Or.inr ⟨by have := ms712; omega, by omega, hM777⟩, hD783⟩⟩
        · refine xg_t (xg_icT (u := f82_671) (v := 2) rfl xnm0 xnm0 (xj_neT hc694)) ?_
          refine xg_t (xg_blk (b := [(416, 1, 0, 0, 0, 0), (417, 3, 13, 140, 96, 183)]) rfl) ?_
          refine xg_t (xg_aload (va := (2, 82)) rfl rfl) ?_
          refine xg_cVv mX12_ends (vs := []) (rest := []) (cn1 := 0) (sl1 := 0) rfl (mEnds (hI653) hj656.2.2.2) rfl h82_691 rfl rfl rfl rfl rfl rfl (fun w784 hq785 => ?_)
          obtain ⟨hI786, hF787, hx788⟩ := hq785
          clear hb662 hb664 hb666 hb668 hb670 hb672 hb674 hb676 hb678 hb680 hb684 hb686 hb688 hb690
          obtain ⟨hv789, hv790, hv791, hv792⟩ := hx788
          have pk793 : PK w652 w784 := ⟨fun _ => hv789, by omega, by omega, Or.inr hv789⟩
          have pk794 : PK w w784 := PK.tr hj656 pk793
          have os795 : ∀ j, (j < 50 + 2 * u45 ∨ 52 + 2 * u45 ≤ j) → j < 140 → rwv w784 86 j = rwv w 86 j := fun j hj hl => (rwv_fr hF787 (by decide)).trans (hj657 j hj hl)
          have rg796 : FA w784 ≠ 0 ∨ u45 < 4 := hj659.imp_left pk793.1
          have hl797 : rwv w784 86 (50 + 2 * u45 + 1) = rwv w652 86 (50 + 2 * u45 + 1) := rwv_fr hF787 (by decide)
          have nw798 : FA w784 ≠ 0 ∨ 4 ≤ u45 ∨ (1 ≤ rwv w784 86 (50 + 2 * u45 + 1) ∧ rwv w784 86 (50 + 2 * u45 + 1) ≤ 999) := by have q := hj660; have q1 := pk793.1; omega
          clear hj660
          have ms799 : mu w784 < mu w := Nat.lt_of_le_of_lt pk793.2.1 hj658
          clear hj659
          refine xg_t (xg_blk (b := [(420, 1, 0, 0, 0, 0), (421, 3, 1, 12, 11, 17), (424, 1, 2, 1, 0, 0), (425, 1, 39, 0, 0, 0), (426, 1, 10, 0, 0, 0), (427, 1, 3, 1, 0, 0), (428, 1, 11, 0, 0, 0), (429, 1, 17, 0, 0, 0), (430, 1, 0, 0, 0, 0), (431, 1, 19, 0, 0, 0), (432, 3, 1, 12, 14, 212), (435, 1, 3, 1, 0, 0), (436, 1, 11, 0, 0, 0), (437, 3, 14, 12, 14, 212), (440, 1, 12, 0, 0, 0)]) rfl) ?_
          obtain ⟨f82_800, f82_802, f82_804, f82_806, f82_808, f82_810, f82_812, f82_814, f82_816, f82_818, f82_820, f82_821, f82_822, f82_824, f82_826, f82_828, h82_830, hb801, hb803, hb805, hb807, hb809, hb811, hb813, hb815, hb817, hb819, hb823, hb825, hb827, hb829, hb831⟩ := (hI786 82 (by decide) (by decide) : cp82 (wget w784 82))
          have hf832 : fld w784 82 4 = f82_804 := fld_of h82_830
          have hf833 : fld w784 82 5 = f82_806 := fld_of h82_830
          have hf834 : fld w784 82 7 = f82_810 := fld_of h82_830
          have hf835 : fld w784 82 10 = f82_816 := fld_of h82_830
          have hf836 : fld w784 82 14 = f82_818 := fld_of h82_830
          have hu837 : mu w784 = 2 * (fld w784 82 4 - fld w784 82 5) + min 1 (fld w784 82 7) := rfl
          have hf838 := pk794.2.2.1
          have hl839 : f82_818 ≤ 1000 := by omega
          refine xg_t (xg_aload (va := (2, 82)) rfl rfl) ?_
          refine xg_t (xg_getf (va := (2, 85)) h82_830 rfl) ?_
          refine xg_t (xg_iload (va := (0, 1)) rfl rfl) ?_
          refine xg_t (xg_dup2 rfl) ?_
          obtain ⟨g85_840, h85_841, hb842⟩ := (hI786 85 (by decide) (by decide) : cpI 7 52 4294967295 (wget w784 85))
          have h85_841 : xRow w784 85 7 52 g85_840 := h85_841
          refine xg_ialdB (n := 1) (B := 4294967295) h85_841 (hb842) xnm0 (by omega) (fun u843 hu844 he845 => ?_)
          have hl846 : u843 = u45 := by omega
          refine xg_t (xg_const) ?_
          refine xg_t (xg_iadd (u := u843) (v := 1) (z := u843 + 1) xnm0 xnm0 (by omega)) ?_
          refine xg_iastK (n := 1) (u := u843 + 1) h85_841 xnm0 xnm0 rfl (by omega) (fun w847 hr848 hb849 => ?_)
          refine xg_t (xg_aload (va := (2, 82)) rfl rfl) ?_
          refine xg_t (xg_dup rfl) ?_
          refine xg_t (xg_getf (va := (0, f82_818)) (hb849.get (by decide) h82_830) rfl) ?_
          refine xg_t (xg_const) ?_
          refine xg_t (xg_iadd (u := f82_818) (v := 1) (z := f82_818 + 1) xnm0 xnm0 (by omega)) ?_
          refine xg_putI (fl1 := [(2, 83), (2, 84), (0, f82_800), (0, f82_802), (0, f82_804), (0, f82_806), (0, f82_808), (0, f82_810), (0, f82_812), (0, f82_814), (0, f82_816), (2, 85), (2, 86), (2, 87), (0, f82_818 + 1), (2, 88), (2, 89), (2, 90), (2, 91), (2, 92), (2, 93), (2, 94), (4, f82_820), (4, f82_821), (0, f82_822), (2, 95), (2, 96), (2, 97), (2, 98), (2, 99), (2, 100), (2, 101), (2, 102), (0, f82_824), (2, 103), (2, 104), (2, 105), (2, 106), (2, 107), (2, 108), (2, 109), (0, f82_826), (0, f82_828), (2, 110), (2, 111), (2, 112), (2, 113)]) (hb849.get (by decide) h82_830) rfl rfl rfl (fun w850 hk851 hb852 => ?_)
          have hF853 : xFr [82, 85] w784 w850 := ((xFr.of (S := [82, 85]) hb849 (by decide)).tr (xFr.of (S := [82, 85]) hb852 (by decide)))
          have hA854 := FA_fr hF853 (by decide)
          have hf855 : fld w850 82 4 = f82_804 := fld_of hk851
          have hf856 : fld w850 82 5 = f82_806 := fld_of hk851
          have hf857 : fld w850 82 7 = f82_810 := fld_of hk851
          have hf858 : fld w850 82 10 = f82_816 := fld_of hk851
          have hf859 : fld w850 82 14 = f82_818 + 1 := fld_of hk851
          have hu860 : mu w850 = 2 * (fld w850 82 4 - fld w850 82 5) + min 1 (fld w850 82 7) := rfl
          have pq861 := pk794
          unfold PK PS at pq861
          have hM862 : ∀ s, s < 7 → s ≠ 1 → rwv w850 85 s = rwv w 85 s := fun s hs hn => (rwv_of (hr848.but hb852 (by decide)) hs).trans ((if_neg hn).trans (rwv_of h85_37 hs).symm)
          have hM863 : rwv w850 85 1 = u45 + 1 := (rwv_of (hr848.but hb852 (by decide)) (by decide)).trans ((if_pos rfl).trans (by omega))
          have hM864 : ∀ s, s < 7 → rwv w850 85 s ≤ rwv w 85 s + 1 := fun s hs => by
            by_cases z : s = 1
            · subst z; omega
            · rw [hM862 s hs z]; omega
          have hO865 : ∀ j, (j < 50 + 2 * u45 ∨ 52 + 2 * u45 ≤ j) → j < 140 → rwv w850 86 j = rwv w 86 j := fun j hj hl => (rwv_fr hF853 (by decide)).trans (os795 j hj hl)
          have hl867 : FA w784 ≠ 0 ∨ u45 < 4 := rg796
          have hl868 : rwv w850 86 (50 + 2 * u45 + 1) = rwv w784 86 (50 + 2 * u45 + 1) := rwv_fr hF853 (by decide)
          have hN866 : FA w850 ≠ 0 ∨ 4 ≤ u45 ∨ (1 ≤ rwv w850 86 (50 + 2 * u45 + 1) ∧ rwv w850 86 (50 + 2 * u45 + 1) ≤ 999) := by have q := nw798; omega
          have hX869 : FA w850 ≠ 0 ∨ u45 < 4 := by omega
          have hD870 : FA w850 ≠ 0 ∨ (DATA w → DATA w850) := by
            by_cases z : FA w850 ≠ 0
            · exact Or.inl z
            · exact Or.inr (fun hd => hd.s1 hM862 hK48 hM863 (hX869.resolve_left z) hO865 ((hN866.resolve_left z).resolve_left (by have := hX869.resolve_left z; omega)))
          exact xg_e ⟨w850, ⟨rfl, rfl⟩, xMnv.up (S := [85, 82]) hI786 ((xFr.of (S := [85, 82]) hb849 (by decide)).tr (xFr.of (S := [85, 82]) hb852 (by decide))) (List.forall_mem_cons.mpr ⟨(show cpI 7 52 4294967295 (wget w850 85) from ⟨_, (hr848.but hb852 (by decide)), xrb (by omega) (hb842)⟩), List.forall_mem_cons.mpr ⟨(show cp82 (wget w850 82) from ⟨f82_800, f82_802, f82_804, f82_806, f82_808, f82_810, f82_812, f82_814, f82_816, f82_818 + 1, f82_820, f82_821, f82_822, f82_824, f82_826, f82_828, hk851, hb801, hb803, hb805, hb807, hb809, hb811, hb813, hb815, hb817, by omega, hb823, hb825, hb827, hb829, by omega⟩), fun _ h => absurd h List.not_mem_nil⟩⟩), ((hF654.tr (hF787.up (by decide))).tr ((xFr.of (S := [82, 83, 85, 86, 87]) hb849 (by decide)).tr (xFr.of (S := [82, 83, 85, 86, 87]) hb852 (by decide)))), ⟨fun h => by have := pq861.1 h; omega, (show fld w850 82 10 = 0 ∨ FA w850 ≠ 0 by omega), Or.inr ⟨by have := ms799; omega, by omega, hM864⟩, hD870⟩⟩
      · refine xg_t (xg_ifT (u := f82_677) rfl xnm0 (xj_neT hc693)) ?_
        refine xg_t (xg_blk (b := [(416, 1, 0, 0, 0, 0), (417, 3, 13, 140, 96, 183)]) rfl) ?_
        refine xg_t (xg_aload (va := (2, 82)) rfl rfl) ?_
        refine xg_cVv mX12_ends (vs := []) (rest := []) (cn1 := 0) (sl1 := 0) rfl (mEnds (hI653) hj656.2.2.2) rfl h82_691 rfl rfl rfl rfl rfl rfl (fun w871 hq872 => ?_)
        obtain ⟨hI873, hF874, hx875⟩ := hq872
        clear hb662 hb664 hb666 hb668 hb670 hb672 hb674 hb676 hb678 hb680 hb684 hb686 hb688 hb690
        obtain ⟨hv876, hv877, hv878, hv879⟩ := hx875
        have pk880 : PK w652 w871 := ⟨fun _ => hv876, by omega, by omega, Or.inr hv876⟩
        have pk881 : PK w w871 := PK.tr hj656 pk880
        have os882 : ∀ j, (j < 50 + 2 * u45 ∨ 52 + 2 * u45 ≤ j) → j < 140 → rwv w871 86 j = rwv w 86 j := fun j hj hl => (rwv_fr hF874 (by decide)).trans (hj657 j hj hl)
        have rg883 : FA w871 ≠ 0 ∨ u45 < 4 := hj659.imp_left pk880.1
        have hl884 : rwv w871 86 (50 + 2 * u45 + 1) = rwv w652 86 (50 + 2 * u45 + 1) := rwv_fr hF874 (by decide)
        have nw885 : FA w871 ≠ 0 ∨ 4 ≤ u45 ∨ (1 ≤ rwv w871 86 (50 + 2 * u45 + 1) ∧ rwv w871 86 (50 + 2 * u45 + 1) ≤ 999) := by have q := hj660; have q1 := pk880.1; omega
        clear hj660
        have ms886 : mu w871 < mu w := Nat.lt_of_le_of_lt pk880.2.1 hj658
        clear hj659
        refine xg_t (xg_blk (b := [(420, 1, 0, 0, 0, 0), (421, 3, 1, 12, 11, 17), (424, 1, 2, 1, 0, 0), (425, 1, 39, 0, 0, 0), (426, 1, 10, 0, 0, 0), (427, 1, 3, 1, 0, 0), (428, 1, 11, 0, 0, 0), (429, 1, 17, 0, 0, 0), (430, 1, 0, 0, 0, 0), (431, 1, 19, 0, 0, 0), (432, 3, 1, 12, 14, 212), (435, 1, 3, 1, 0, 0), (436, 1, 11, 0, 0, 0), (437, 3, 14, 12, 14, 212), (440, 1, 12, 0, 0, 0)]) rfl) ?_
        obtain ⟨f82_887, f82_889, f82_891, f82_893, f82_895, f82_897, f82_899, f82_901, f82_903, f82_905, f82_907, f82_908, f82_909, f82_911, f82_913, f82_915, h82_917, hb888, hb890, hb892, hb894, hb896, hb898, hb900, hb902, hb904, hb906, hb910, hb912, hb914, hb916, hb918⟩ := (hI873 82 (by decide) (by decide) : cp82 (wget w871 82))
        have hf919 : fld w871 82 4 = f82_891 := fld_of h82_917
        have hf920 : fld w871 82 5 = f82_893 := fld_of h82_917
        have hf921 : fld w871 82 7 = f82_897 := fld_of h82_917
        have hf922 : fld w871 82 10 = f82_903 := fld_of h82_917
        have hf923 : fld w871 82 14 = f82_905 := fld_of h82_917
        have hu924 : mu w871 = 2 * (fld w871 82 4 - fld w871 82 5) + min 1 (fld w871 82 7) := rfl
        have hf925 := pk881.2.2.1
        have hl926 : f82_905 ≤ 1000 := by omega
        refine xg_t (xg_aload (va := (2, 82)) rfl rfl) ?_
        refine xg_t (xg_getf (va := (2, 85)) h82_917 rfl) ?_
        refine xg_t (xg_iload (va := (0, 1)) rfl rfl) ?_
        refine xg_t (xg_dup2 rfl) ?_
        obtain ⟨g85_927, h85_928, hb929⟩ := (hI873 85 (by decide) (by decide) : cpI 7 52 4294967295 (wget w871 85))
        have h85_928 : xRow w871 85 7 52 g85_927 := h85_928
        refine xg_ialdB (n := 1) (B := 4294967295) h85_928 (hb929) xnm0 (by omega) (fun u930 hu931 he932 => ?_)
        have hl933 : u930 = u45 := by omega
        refine xg_t (xg_const) ?_
        refine xg_t (xg_iadd (u := u930) (v := 1) (z := u930 + 1) xnm0 xnm0 (by omega)) ?_
        refine xg_iastK (n := 1) (u := u930 + 1) h85_928 xnm0 xnm0 rfl (by omega) (fun w934 hr935 hb936 => ?_)
        refine xg_t (xg_aload (va := (2, 82)) rfl rfl) ?_
        refine xg_t (xg_dup rfl) ?_
        refine xg_t (xg_getf (va := (0, f82_905)) (hb936.get (by decide) h82_917) rfl) ?_
        refine xg_t (xg_const) ?_
        refine xg_t (xg_iadd (u := f82_905) (v := 1) (z := f82_905 + 1) xnm0 xnm0 (by omega)) ?_
        refine xg_putI (fl1 := [(2, 83), (2, 84), (0, f82_887), (0, f82_889), (0, f82_891), (0, f82_893), (0, f82_895), (0, f82_897), (0, f82_899), (0, f82_901), (0, f82_903), (2, 85), (2, 86), (2, 87), (0, f82_905 + 1), (2, 88), (2, 89), (2, 90), (2, 91), (2, 92), (2, 93), (2, 94), (4, f82_907), (4, f82_908), (0, f82_909), (2, 95), (2, 96), (2, 97), (2, 98), (2, 99), (2, 100), (2, 101), (2, 102), (0, f82_911), (2, 103), (2, 104), (2, 105), (2, 106), (2, 107), (2, 108), (2, 109), (0, f82_913), (0, f82_915), (2, 110), (2, 111), (2, 112), (2, 113)]) (hb936.get (by decide) h82_917) rfl rfl rfl (fun w937 hk938 hb939 => ?_)
        have hF940 : xFr [82, 85] w871 w937 := ((xFr.of (S := [82, 85]) hb936 (by decide)).tr (xFr.of (S := [82, 85]) hb939 (by decide)))
        have hA941 := FA_fr hF940 (by decide)
        have hf942 : fld w937 82 4 = f82_891 := fld_of hk938
        have hf943 : fld w937 82 5 = f82_893 := fld_of hk938
        have hf944 : fld w937 82 7 = f82_897 := fld_of hk938
        have hf945 : fld w937 82 10 = f82_903 := fld_of hk938
        have hf946 : fld w937 82 14 = f82_905 + 1 := fld_of hk938
        have hu947 : mu w937 = 2 * (fld w937 82 4 - fld w937 82 5) + min 1 (fld w937 82 7) := rfl
        have pq948 := pk881
        unfold PK PS at pq948
        have hM949 : ∀ s, s < 7 → s ≠ 1 → rwv w937 85 s = rwv w 85 s := fun s hs hn => (rwv_of (hr935.but hb939 (by decide)) hs).trans ((if_neg hn).trans (rwv_of h85_37 hs).symm)
        have hM950 : rwv w937 85 1 = u45 + 1 := (rwv_of (hr935.but hb939 (by decide)) (by decide)).trans ((if_pos rfl).trans (by omega))
        have hM951 : ∀ s, s < 7 → rwv w937 85 s ≤ rwv w 85 s + 1 := fun s hs => by
          by_cases z : s = 1
          · subst z; omega
          · rw [hM949 s hs z]; omega
        have hO952 : ∀ j, (j < 50 + 2 * u45 ∨ 52 + 2 * u45 ≤ j) → j < 140 → rwv w937 86 j = rwv w 86 j := fun j hj hl => (rwv_fr hF940 (by decide)).trans (os882 j hj hl)
        have hl954 : FA w871 ≠ 0 ∨ u45 < 4 := rg883
        have hl955 : rwv w937 86 (50 + 2 * u45 + 1) = rwv w871 86 (50 + 2 * u45 + 1) := rwv_fr hF940 (by decide)
        have hN953 : FA w937 ≠ 0 ∨ 4 ≤ u45 ∨ (1 ≤ rwv w937 86 (50 + 2 * u45 + 1) ∧ rwv w937 86 (50 + 2 * u45 + 1) ≤ 999) := by have q := nw885; omega
        have hX956 : FA w937 ≠ 0 ∨ u45 < 4 := by omega
        have hD957 : FA w937 ≠ 0 ∨ (DATA w → DATA w937) := by
          by_cases z : FA w937 ≠ 0
          · exact Or.inl z
          · exact Or.inr (fun hd => hd.s1 hM949 hK48 hM950 (hX956.resolve_left z) hO952 ((hN953.resolve_left z).resolve_left (by have := hX956.resolve_left z; omega)))
        exact xg_e ⟨w937, ⟨rfl, rfl⟩, xMnv.up (S := [85, 82]) hI873 ((xFr.of (S := [85, 82]) hb936 (by decide)).tr (xFr.of (S := [85, 82]) hb939 (by decide))) (List.forall_mem_cons.mpr ⟨(show cpI 7 52 4294967295 (wget w937 85) from ⟨_, (hr935.but hb939 (by decide)), xrb (by omega) (hb929)⟩), List.forall_mem_cons.mpr ⟨(show cp82 (wget w937 82) from ⟨f82_887, f82_889, f82_891, f82_893, f82_895, f82_897, f82_899, f82_901, f82_903, f82_905 + 1, f82_907, f82_908, f82_909, f82_911, f82_913, f82_915, hk938, hb888, hb890, hb892, hb894, hb896, hb898, hb900, hb902, hb904, by omega, hb910, hb912, hb914, hb916, by omega⟩), fun _ h => absurd h List.not_mem_nil⟩⟩), ((hF654.tr (hF874.up (by decide))).tr ((xFr.of (S := [82, 83, 85, 86, 87]) hb936 (by decide)).tr (xFr.of (S := [82, 83, 85, 86, 87]) hb939 (by decide)))), ⟨fun h => by have := pq948.1 h; omega, (show fld w937 82 10 = 0 ∨ FA w937 ≠ 0 by omega), Or.inr ⟨by have := ms886; omega, by omega, hM951⟩, hD957⟩⟩
    refine xg_t (xg_iload (va := (0, 1)) rfl rfl) ?_
    refine xg_t (xg_swt (ks := [(0, 108), (1, 116), (2, 180), (3, 221), (4, 273), (5, 326)]) (u := 1) (z := 116) rfl rfl rfl xnm0 (xsw_n (by omega) (xsw_y rfl))) ?_
    refine xg_t (xg_blk (b := [(116, 1, 0, 0, 0, 0), (117, 1, 3, 0, 0, 0), (118, 2, 4, 99, 0, 0), (120, 3, 13, 199, 96, 196), (123, 2, 15, 4, 0, 0), (125, 1, 0, 0, 0, 0), (126, 2, 2, 4, 0, 0), (128, 1, 2, 3, 0, 0), (129, 3, 13, 167, 96, 208), (132, 3, 7, 141, 0, 0), (135, 1, 0, 0, 0, 0), (136, 1, 3, 3, 0, 0), (137, 1, 2, 2, 0, 0), (138, 3, 13, 115, 96, 186)]) rfl) ?_
    refine xg_t (xg_aload (va := (2, 82)) rfl rfl) ?_
    refine xg_t (xg_const) ?_
    refine xg_t (xg_bip) ?_
    obtain ⟨f82_958, f82_960, f82_962, f82_964, f82_966, f82_968, f82_970, f82_972, f82_974, f82_976, f82_978, f82_979, f82_980, f82_982, f82_984, f82_986, h82_988, hb959, hb961, hb963, hb965, hb967, hb969, hb971, hb973, hb975, hb977, hb981, hb983, hb985, hb987, hb989⟩ := (hI637 82 (by decide) (by decide) : cp82 (wget w635 82))
    refine xg_cVi mX12_numbered (vs := [(0, 0), (0, 99)]) (rest := []) (cn1 := 0) (sl1 := 0) rfl (mNumbered (hI637) (by omega) (by omega) pk647.2.2.2) rfl h82_988 rfl rfl rfl rfl rfl rfl (fun n994 w990 hq991 => ?_)
    obtain ⟨hn995, hI992, hF993⟩ := hq991
    clear hb959 hb961 hb963 hb965 hb967 hb969 hb971 hb973 hb975 hb977 hb981 hb983 hb985 hb987
    obtain ⟨hn996, hn997, hn998⟩ := hn995
    have pk999 : PK w w990 := PK.tr pk647 hn997
    have os1000 : ∀ j, (j < 50 + 2 * u45 ∨ 52 + 2 * u45 ≤ j) → j < 140 → rwv w990 86 j = rwv w 86 j := fun j hj hl => (rwv_fr hF993 (by decide)).trans (os648 j hj hl)
    have rg1001 : FA w990 ≠ 0 ∨ 0 = 1 := rg649.imp_left hn997.1
    have ms1002 : mu w990 < mu w := Nat.lt_of_le_of_lt hn997.2.1 ms650
    clear rg649
    refine xg_t (xg_istore (l1 := [(3, (0, u45)), (2, (0, at_)), (1, (0, 1)), (0, (2, 82))]) rfl rfl rfl) ?_
    refine xg_t (xg_aload (va := (2, 82)) rfl rfl) ?_
    refine xg_t (xg_iload (va := (0, n994)) rfl rfl) ?_
    refine xg_t (xg_iload (va := (0, u45)) rfl rfl) ?_
    obtain ⟨f82_1003, f82_1005, f82_1007, f82_1009, f82_1011, f82_1013, f82_1015, f82_1017, f82_1019, f82_1021, f82_1023, f82_1024, f82_1025, f82_1027, f82_1029, f82_1031, h82_1033, hb1004, hb1006, hb1008, hb1010, hb1012, hb1014, hb1016, hb1018, hb1020, hb1022, hb1026, hb1028, hb1030, hb1032, hb1034⟩ := (hI992 82 (by decide) (by decide) : cp82 (wget w990 82))
    refine xg_cVi mX12_isLifeTold (vs := [(0, n994), (0, u45)]) (rest := []) (cn1 := 0) (sl1 := 0) rfl (mLifeTold (hI992) (by omega) (by omega)) rfl h82_1033 rfl rfl rfl rfl rfl rfl (fun n1039 w1035 hq1036 => ?_)
    obtain ⟨hn1040, hI1037, hF1038⟩ := hq1036
    have pk1041 : PK w w1035 := PK.tr pk999 (PK.fr hF1038 (by decide) (by decide) pk999.2.2.2)
    have os1042 : ∀ j, (j < 50 + 2 * u45 ∨ 52 + 2 * u45 ≤ j) → j < 140 → rwv w1035 86 j = rwv w 86 j := fun j hj hl => (rwv_fr hF1038 (by decide)).trans (os1000 j hj hl)
    have rg1043 : FA w1035 ≠ 0 ∨ 0 = 1 := rg1001.imp_left (PK.fr hF1038 (by decide) (by decide) pk999.2.2.2).1
    have rg1044 : FA w1035 ≠ 0 ∨ (0 ≤ n994 ∧ n994 ≤ 99) := hn998.imp_left (PK.fr hF1038 (by decide) (by decide) pk999.2.2.2).1
    have ms1045 : mu w1035 < mu w := Nat.lt_of_le_of_lt (PK.fr hF1038 (by decide) (by decide) pk999.2.2.2).2.1 ms1002
    clear rg1001 hn998
    by_cases hc1046 : n1039 = 0
    · refine xg_t (xg_ifT (u := n1039) rfl xnm0 (xj_eqT hc1046)) ?_
      refine xg_t (xg_blk (b := [(141, 1, 0, 0, 0, 0), (142, 1, 2, 1, 0, 0), (143, 1, 2, 3, 0, 0), (144, 2, 4, 50, 0, 0), (146, 1, 3, 2, 0, 0), (147, 1, 2, 3, 0, 0), (148, 1, 16, 0, 0, 0), (149, 1, 11, 0, 0, 0), (150, 2, 2, 4, 0, 0), (152, 3, 13, 211, 96, 200), (155, 1, 0, 0, 0, 0), (156, 1, 2, 1, 0, 0), (157, 1, 2, 3, 0, 0), (158, 2, 4, 50, 0, 0), (160, 1, 3, 2, 0, 0), (161, 1, 2, 3, 0, 0), (162, 1, 16, 0, 0, 0), (163, 1, 11, 0, 0, 0), (164, 1, 3, 1, 0, 0), (165, 1, 11, 0, 0, 0), (166, 1, 0, 0, 0, 0), (167, 1, 3, 1, 0, 0), (168, 3, 5, 999, 0, 0), (171, 3, 13, 199, 96, 196), (174, 3, 13, 211, 96, 200), (177, 3, 8, 394, 0, 0)]) rfl) ?_
      refine xg_t (xg_aload (va := (2, 82)) rfl rfl) ?_
      refine xg_t (xg_iload (va := (0, 1)) rfl rfl) ?_
      refine xg_t (xg_iload (va := (0, u45)) rfl rfl) ?_
      refine xg_t (xg_bip) ?_
      refine xg_t (xg_const) ?_
      refine xg_t (xg_iload (va := (0, u45)) rfl rfl) ?_
      refine xg_t (xg_imul (u := 2) (v := u45) (z := 2 * u45) xnm0 xnm0 (by omega)) ?_
      refine xg_t (xg_iadd (u := 50) (v := 2 * u45) (z := 50 + (2 * u45)) xnm0 xnm0 (by omega)) ?_
      refine xg_t (xg_iload (va := (0, n994)) rfl rfl) ?_
      refine xg_cVv mX12_puts (vs := [(0, 1), (0, u45), (0, 50 + (2 * u45)), (0, n994)]) (rest := []) (cn1 := 0) (sl1 := 0) rfl (mPuts1 (hI1037) (by omega) (by omega) (by omega) (fun _ => by omega)) rfl (hF1038.get (by decide) h82_1033) rfl rfl rfl rfl rfl rfl (fun w1047 hq1048 => ?_)
      obtain ⟨hI1049, hF1050, hx1051⟩ := hq1048
      obtain ⟨hp1052, hp1053⟩ := hx1051
      have pk1054 : PK w w1047 := PK.tr pk1041 (PK.fr hF1050 (by decide) (by decide) pk1041.2.2.2)
      have os1055 : ∀ j, (j < 50 + 2 * u45 ∨ 52 + 2 * u45 ≤ j) → j < 140 → rwv w1047 86 j = rwv w 86 j := fun j hj hl => (hp1053 j (by omega) hl).trans (os1042 j hj hl)
      have rg1056 : FA w1047 ≠ 0 ∨ 0 = 1 := rg1043.imp_left (PK.fr hF1050 (by decide) (by decide) pk1041.2.2.2).1
      have rg1057 : FA w1047 ≠ 0 ∨ (0 ≤ n994 ∧ n994 ≤ 99) := rg1044.imp_left (PK.fr hF1050 (by decide) (by decide) pk1041.2.2.2).1
      have ms1058 : mu w1047 < mu w := Nat.lt_of_le_of_lt (PK.fr hF1050 (by decide) (by decide) pk1041.2.2.2).2.1 ms1045
      clear rg1043 rg1044
      refine xg_t (xg_aload (va := (2, 82)) rfl rfl) ?_
      refine xg_t (xg_iload (va := (0, 1)) rfl rfl) ?_
      refine xg_t (xg_iload (va := (0, u45)) rfl rfl) ?_
      refine xg_t (xg_bip) ?_
      refine xg_t (xg_const) ?_
      refine xg_t (xg_iload (va := (0, u45)) rfl rfl) ?_
      refine xg_t (xg_imul (u := 2) (v := u45) (z := 2 * u45) xnm0 xnm0 (by omega)) ?_
      refine xg_t (xg_iadd (u := 50) (v := 2 * u45) (z := 50 + (2 * u45)) xnm0 xnm0 (by omega)) ?_
      refine xg_t (xg_const) ?_
      refine xg_t (xg_iadd (u := 50 + (2 * u45)) (v := 1) (z := (50 + (2 * u45)) + 1) xnm0 xnm0 (by omega)) ?_
      refine xg_t (xg_aload (va := (2, 82)) rfl rfl) ?_
      refine xg_t (xg_const) ?_
      refine xg_t (xg_sip) ?_
      refine xg_cVi mX12_numbered (vs := [(0, 1), (0, 999)]) (rest := [(0, (50 + (2 * u45)) + 1), (0, u45), (0, 1), (2, 82)]) (cn1 := 0) (sl1 := 0) rfl (mNumbered (hI1049) (by omega) (by omega) pk1054.2.2.2) rfl (hF1050.get (by decide) (hF1038.get (by decide) h82_1033)) rfl rfl rfl rfl rfl rfl (fun n1063 w1059 hq1060 => ?_)
      obtain ⟨hn1064, hI1061, hF1062⟩ := hq1060
      clear hb1004 hb1006 hb1008 hb1010 hb1012 hb1014 hb1016 hb1018 hb1020 hb1022 hb1026 hb1028 hb1030 hb1032
      obtain ⟨hn1065, hn1066, hn1067⟩ := hn1064
      have pk1068 : PK w w1059 := PK.tr pk1054 hn1066
      have os1069 : ∀ j, (j < 50 + 2 * u45 ∨ 52 + 2 * u45 ≤ j) → j < 140 → rwv w1059 86 j = rwv w 86 j := fun j hj hl => (rwv_fr hF1062 (by decide)).trans (os1055 j hj hl)
      have ix1070 : u45 < 4 → rwv w1059 86 (50 + (2 * u45)) = n994 := fun h => (rwv_fr hF1062 (by decide)).trans (hp1052 h)
      have rg1071 : FA w1059 ≠ 0 ∨ 0 = 1 := rg1056.imp_left hn1066.1
      have rg1072 : FA w1059 ≠ 0 ∨ (0 ≤ n994 ∧ n994 ≤ 99) := rg1057.imp_left hn1066.1
      have ms1073 : mu w1059 < mu w := Nat.lt_of_le_of_lt hn1066.2.1 ms1058
      clear hp1052 rg1056 rg1057
      obtain ⟨f82_1074, f82_1076, f82_1078, f82_1080, f82_1082, f82_1084, f82_1086, f82_1088, f82_1090, f82_1092, f82_1094, f82_1095, f82_1096, f82_1098, f82_1100, f82_1102, h82_1104, hb1075, hb1077, hb1079, hb1081, hb1083, hb1085, hb1087, hb1089, hb1091, hb1093, hb1097, hb1099, hb1101, hb1103, hb1105⟩ := (hI1061 82 (by decide) (by decide) : cp82 (wget w1059 82))
      refine xg_cVv mX12_puts (vs := [(0, 1), (0, u45), (0, (50 + (2 * u45)) + 1), (0, n1063)]) (rest := []) (cn1 := 0) (sl1 := 0) rfl (mPuts1 (hI1061) (by omega) (by omega) (by omega) (fun _ => by omega)) rfl h82_1104 rfl rfl rfl rfl rfl rfl (fun w1106 hq1107 => ?_)
      obtain ⟨hI1108, hF1109, hx1110⟩ := hq1107
      obtain ⟨hp1111, hp1112⟩ := hx1110
      have pk1113 : PK w w1106 := PK.tr pk1068 (PK.fr hF1109 (by decide) (by decide) pk1068.2.2.2)
      have os1114 : ∀ j, (j < 50 + 2 * u45 ∨ 52 + 2 * u45 ≤ j) → j < 140 → rwv w1106 86 j = rwv w 86 j := fun j hj hl => (hp1112 j (by omega) hl).trans (os1069 j hj hl)
      have ix1115 : u45 < 4 → rwv w1106 86 (50 + (2 * u45)) = n994 := fun h => (hp1112 _ (by omega) (by omega)).trans (ix1070 h)
      have rg1116 : FA w1106 ≠ 0 ∨ 0 = 1 := rg1071.imp_left (PK.fr hF1109 (by decide) (by decide) pk1068.2.2.2).1
      have rg1117 : FA w1106 ≠ 0 ∨ (0 ≤ n994 ∧ n994 ≤ 99) := rg1072.imp_left (PK.fr hF1109 (by decide) (by decide) pk1068.2.2.2).1
      have rg1118 : FA w1106 ≠ 0 ∨ (1 ≤ n1063 ∧ n1063 ≤ 999) := hn1067.imp_left (PK.fr hF1109 (by decide) (by decide) pk1068.2.2.2).1
      have ms1119 : mu w1106 < mu w := Nat.lt_of_le_of_lt (PK.fr hF1109 (by decide) (by decide) pk1068.2.2.2).2.1 ms1073
      clear ix1070 rg1071 rg1072 hn1067
      refine xg_t (xg_goto) ?_
      refine xg_t (xg_drop (l1 := [(0, (2, 82)), (1, (0, 1)), (3, (0, u45))]) (List.forall_mem_cons.mpr ⟨List.mem_cons_of_mem _ (List.mem_cons_of_mem _ (List.mem_cons_of_mem _ (List.mem_cons_of_mem _ (List.mem_cons_self)))), List.forall_mem_cons.mpr ⟨List.mem_cons_of_mem _ (List.mem_cons_of_mem _ (List.mem_cons_of_mem _ (List.mem_cons_self))), List.forall_mem_cons.mpr ⟨List.mem_cons_of_mem _ (List.mem_cons_self), fun _ h => absurd h List.not_mem_nil⟩⟩⟩)) ?_
      have hX1120 : FA w1106 ≠ 0 ∨ u45 < 4 := Or.inl (by have q := rg1116; omega)
      have hN1121 : FA w1106 ≠ 0 ∨ 4 ≤ u45 ∨ (1 ≤ rwv w1106 86 (50 + 2 * u45 + 1) ∧ rwv w1106 86 (50 + 2 * u45 + 1) ≤ 999) := by
        have hl1122 : u45 < 4 → rwv w1106 86 (50 + (2 * u45)) = n994 := ix1115
        have hl1123 : u45 < 4 → rwv w1106 86 ((50 + (2 * u45)) + 1) = n1063 := hp1111
        have hl1124 := rg1117
        have hl1125 := rg1118
        omega
      exact jn651 w1106 (hI1108) ((((((((hF629.up (by decide)).tr (hF638.up (by decide))).tr (hF993.up (by decide))).tr (hF1038.up (by decide))).tr (hF1050.up (by decide))).tr (hF1062.up (by decide))).tr (hF1109.up (by decide)))) (⟨pk1113, os1114, ms1119, hX1120, hN1121⟩)
    · refine xg_t (xg_ifF (u := n1039) rfl xnm0 (xj_eqF hc1046)) ?_
      refine xg_t (xg_aload (va := (2, 82)) rfl rfl) ?_
      refine xg_t (xg_const) ?_
      refine xg_t (xg_iload (va := (0, at_)) rfl rfl) ?_
      refine xg_cVv mX12_also (vs := [(0, 3), (0, at_)]) (rest := []) (cn1 := 0) (sl1 := 0) rfl (mAlso (hI1037) (by omega) (by omega) (by omega) pk1041.2.2.2) rfl (hF1038.get (by decide) h82_1033) rfl rfl rfl rfl rfl rfl (fun w1126 hq1127 => ?_)
      obtain ⟨hI1128, hF1129, hx1130⟩ := hq1127
      have pk1131 : PK w1035 w1126 := ⟨fun _ => hx1130, Nat.le_of_eq (mu_fr hF1129 (by decide)), fld_fr hF1129 (by decide), Or.inr hx1130⟩
      have pk1132 : PK w w1126 := PK.tr pk1041 pk1131
      have os1133 : ∀ j, (j < 50 + 2 * u45 ∨ 52 + 2 * u45 ≤ j) → j < 140 → rwv w1126 86 j = rwv w 86 j := fun j hj hl => (rwv_fr hF1129 (by decide)).trans (os1042 j hj hl)
      have rg1134 : FA w1126 ≠ 0 ∨ 0 = 1 := rg1043.imp_left pk1131.1
      have rg1135 : FA w1126 ≠ 0 ∨ (0 ≤ n994 ∧ n994 ≤ 99) := rg1044.imp_left pk1131.1
      have ms1136 : mu w1126 < mu w := Nat.lt_of_le_of_lt pk1131.2.1 ms1045
      clear rg1043 rg1044
      refine xg_t (xg_blk (b := [(141, 1, 0, 0, 0, 0), (142, 1, 2, 1, 0, 0), (143, 1, 2, 3, 0, 0), (144, 2, 4, 50, 0, 0), (146, 1, 3, 2, 0, 0), (147, 1, 2, 3, 0, 0), (148, 1, 16, 0, 0, 0), (149, 1, 11, 0, 0, 0), (150, 2, 2, 4, 0, 0), (152, 3, 13, 211, 96, 200), (155, 1, 0, 0, 0, 0), (156, 1, 2, 1, 0, 0), (157, 1, 2, 3, 0, 0), (158, 2, 4, 50, 0, 0), (160, 1, 3, 2, 0, 0), (161, 1, 2, 3, 0, 0), (162, 1, 16, 0, 0, 0), (163, 1, 11, 0, 0, 0), (164, 1, 3, 1, 0, 0), (165, 1, 11, 0, 0, 0), (166, 1, 0, 0, 0, 0), (167, 1, 3, 1, 0, 0), (168, 3, 5, 999, 0, 0), (171, 3, 13, 199, 96, 196), (174, 3, 13, 211, 96, 200), (177, 3, 8, 394, 0, 0)]) rfl) ?_
      refine xg_t (xg_aload (va := (2, 82)) rfl rfl) ?_
      refine xg_t (xg_iload (va := (0, 1)) rfl rfl) ?_
      refine xg_t (xg_iload (va := (0, u45)) rfl rfl) ?_
      refine xg_t (xg_bip) ?_
      refine xg_t (xg_const) ?_
      refine xg_t (xg_iload (va := (0, u45)) rfl rfl) ?_
      refine xg_t (xg_imul (u := 2) (v := u45) (z := 2 * u45) xnm0 xnm0 (by omega)) ?_
      refine xg_t (xg_iadd (u := 50) (v := 2 * u45) (z := 50 + (2 * u45)) xnm0 xnm0 (by omega)) ?_
      refine xg_t (xg_iload (va := (0, n994)) rfl rfl) ?_
      refine xg_cVv mX12_puts (vs := [(0, 1), (0, u45), (0, 50 + (2 * u45)), (0, n994)]) (rest := []) (cn1 := 0) (sl1 := 0) rfl (mPuts1 (hI1128) (by omega) (by omega) (by omega) (fun _ => by omega)) rfl (hF1129.get (by decide) (hF1038.get (by decide) h82_1033)) rfl rfl rfl rfl rfl rfl (fun w1137 hq1138 => ?_)
      obtain ⟨hI1139, hF1140, hx1141⟩ := hq1138
      obtain ⟨hp1142, hp1143⟩ := hx1141
      have pk1144 : PK w w1137 := PK.tr pk1132 (PK.fr hF1140 (by decide) (by decide) pk1132.2.2.2)
      have os1145 : ∀ j, (j < 50 + 2 * u45 ∨ 52 + 2 * u45 ≤ j) → j < 140 → rwv w1137 86 j = rwv w 86 j := fun j hj hl => (hp1143 j (by omega) hl).trans (os1133 j hj hl)
      have rg1146 : FA w1137 ≠ 0 ∨ 0 = 1 := rg1134.imp_left (PK.fr hF1140 (by decide) (by decide) pk1132.2.2.2).1
      have rg1147 : FA w1137 ≠ 0 ∨ (0 ≤ n994 ∧ n994 ≤ 99) := rg1135.imp_left (PK.fr hF1140 (by decide) (by decide) pk1132.2.2.2).1
      have rg1148 : FA w1137 ≠ 0 ∨ 0 = 1 := (Or.inl hx1130 : FA w1126 ≠ 0 ∨ 0 = 1).imp_left (PK.fr hF1140 (by decide) (by decide) pk1132.2.2.2).1
      have ms1149 : mu w1137 < mu w := Nat.lt_of_le_of_lt (PK.fr hF1140 (by decide) (by decide) pk1132.2.2.2).2.1 ms1136
      clear rg1134 rg1135
      refine xg_t (xg_aload (va := (2, 82)) rfl rfl) ?_
      refine xg_t (xg_iload (va := (0, 1)) rfl rfl) ?_
      refine xg_t (xg_iload (va := (0, u45)) rfl rfl) ?_
      refine xg_t (xg_bip) ?_
      refine xg_t (xg_const) ?_
      refine xg_t (xg_iload (va := (0, u45)) rfl rfl) ?_
      refine xg_t (xg_imul (u := 2) (v := u45) (z := 2 * u45) xnm0 xnm0 (by omega)) ?_
      refine xg_t (xg_iadd (u := 50) (v := 2 * u45) (z := 50 + (2 * u45)) xnm0 xnm0 (by omega)) ?_
      refine xg_t (xg_const) ?_
      refine xg_t (xg_iadd (u := 50 + (2 * u45)) (v := 1) (z := (50 + (2 * u45)) + 1) xnm0 xnm0 (by omega)) ?_
      refine xg_t (xg_aload (va := (2, 82)) rfl rfl) ?_
      refine xg_t (xg_const) ?_
      refine xg_t (xg_sip) ?_
      refine xg_cVi mX12_numbered (vs := [(0, 1), (0, 999)]) (rest := [(0, (50 + (2 * u45)) + 1), (0, u45), (0, 1), (2, 82)]) (cn1 := 0) (sl1 := 0) rfl (mNumbered (hI1139) (by omega) (by omega) pk1144.2.2.2) rfl (hF1140.get (by decide) (hF1129.get (by decide) (hF1038.get (by decide) h82_1033))) rfl rfl rfl rfl rfl rfl (fun n1154 w1150 hq1151 => ?_)
      obtain ⟨hn1155, hI1152, hF1153⟩ := hq1151
      clear hb1004 hb1006 hb1008 hb1010 hb1012 hb1014 hb1016 hb1018 hb1020 hb1022 hb1026 hb1028 hb1030 hb1032
      obtain ⟨hn1156, hn1157, hn1158⟩ := hn1155
      have pk1159 : PK w w1150 := PK.tr pk1144 hn1157
      have os1160 : ∀ j, (j < 50 + 2 * u45 ∨ 52 + 2 * u45 ≤ j) → j < 140 → rwv w1150 86 j = rwv w 86 j := fun j hj hl => (rwv_fr hF1153 (by decide)).trans (os1145 j hj hl)
      have ix1161 : u45 < 4 → rwv w1150 86 (50 + (2 * u45)) = n994 := fun h => (rwv_fr hF1153 (by decide)).trans (hp1142 h)
      have rg1162 : FA w1150 ≠ 0 ∨ 0 = 1 := rg1146.imp_left hn1157.1
      have rg1163 : FA w1150 ≠ 0 ∨ (0 ≤ n994 ∧ n994 ≤ 99) := rg1147.imp_left hn1157.1
      have rg1164 : FA w1150 ≠ 0 ∨ 0 = 1 := rg1148.imp_left hn1157.1
      have ms1165 : mu w1150 < mu w := Nat.lt_of_le_of_lt hn1157.2.1 ms1149
      clear hp1142 rg1146 rg1147 rg1148
      obtain ⟨f82_1166, f82_1168, f82_1170, f82_1172, f82_1174, f82_1176, f82_1178, f82_1180, f82_1182, f82_1184, f82_1186, f82_1187, f82_1188, f82_1190, f82_1192, f82_1194, h82_1196, hb1167, hb1169, hb1171, hb1173, hb1175, hb1177, hb1179, hb1181, hb1183, hb1185, hb1189, hb1191, hb1193, hb1195, hb1197⟩ := (hI1152 82 (by decide) (by decide) : cp82 (wget w1150 82))
      refine xg_cVv mX12_puts (vs := [(0, 1), (0, u45), (0, (50 + (2 * u45)) + 1), (0, n1154)]) (rest := []) (cn1 := 0) (sl1 := 0) rfl (mPuts1 (hI1152) (by omega) (by omega) (by omega) (fun _ => by omega)) rfl h82_1196 rfl rfl rfl rfl rfl rfl (fun w1198 hq1199 => ?_)
      obtain ⟨hI1200, hF1201, hx1202⟩ := hq1199
      obtain ⟨hp1203, hp1204⟩ := hx1202
      have pk1205 : PK w w1198 := PK.tr pk1159 (PK.fr hF1201 (by decide) (by decide) pk1159.2.2.2)
      have os1206 : ∀ j, (j < 50 + 2 * u45 ∨ 52 + 2 * u45 ≤ j) → j < 140 → rwv w1198 86 j = rwv w 86 j := fun j hj hl => (hp1204 j (by omega) hl).trans (os1160 j hj hl)
      have ix1207 : u45 < 4 → rwv w1198 86 (50 + (2 * u45)) = n994 := fun h => (hp1204 _ (by omega) (by omega)).trans (ix1161 h)
      have rg1208 : FA w1198 ≠ 0 ∨ 0 = 1 := rg1162.imp_left (PK.fr hF1201 (by decide) (by decide) pk1159.2.2.2).1
      have rg1209 : FA w1198 ≠ 0 ∨ (0 ≤ n994 ∧ n994 ≤ 99) := rg1163.imp_left (PK.fr hF1201 (by decide) (by decide) pk1159.2.2.2).1
      have rg1210 : FA w1198 ≠ 0 ∨ 0 = 1 := rg1164.imp_left (PK.fr hF1201 (by decide) (by decide) pk1159.2.2.2).1
      have rg1211 : FA w1198 ≠ 0 ∨ (1 ≤ n1154 ∧ n1154 ≤ 999) := hn1158.imp_left (PK.fr hF1201 (by decide) (by decide) pk1159.2.2.2).1
      have ms1212 : mu w1198 < mu w := Nat.lt_of_le_of_lt (PK.fr hF1201 (by decide) (by decide) pk1159.2.2.2).2.1 ms1165
      clear ix1161 rg1162 rg1163 rg1164 hn1158
      refine xg_t (xg_goto) ?_
      refine xg_t (xg_drop (l1 := [(0, (2, 82)), (1, (0, 1)), (3, (0, u45))]) (List.forall_mem_cons.mpr ⟨List.mem_cons_of_mem _ (List.mem_cons_of_mem _ (List.mem_cons_of_mem _ (List.mem_cons_of_mem _ (List.mem_cons_self)))), List.forall_mem_cons.mpr ⟨List.mem_cons_of_mem _ (List.mem_cons_of_mem _ (List.mem_cons_of_mem _ (List.mem_cons_self))), List.forall_mem_cons.mpr ⟨List.mem_cons_of_mem _ (List.mem_cons_self), fun _ h => absurd h List.not_mem_nil⟩⟩⟩)) ?_
      have hX1213 : FA w1198 ≠ 0 ∨ u45 < 4 := Or.inl (by have q := rg1208; omega)
      have hN1214 : FA w1198 ≠ 0 ∨ 4 ≤ u45 ∨ (1 ≤ rwv w1198 86 (50 + 2 * u45 + 1) ∧ rwv w1198 86 (50 + 2 * u45 + 1) ≤ 999) := by
        have hl1215 : u45 < 4 → rwv w1198 86 (50 + (2 * u45)) = n994 := ix1207
        have hl1216 : u45 < 4 → rwv w1198 86 ((50 + (2 * u45)) + 1) = n1154 := hp1203
        have hl1217 := rg1209
        have hl1218 := rg1211
        omega
      exact jn651 w1198 (hI1200) (((((((((hF629.up (by decide)).tr (hF638.up (by decide))).tr (hF993.up (by decide))).tr (hF1038.up (by decide))).tr (hF1129.up (by decide))).tr (hF1140.up (by decide))).tr (hF1153.up (by decide))).tr (hF1201.up (by decide)))) (⟨pk1205, os1206, ms1212, hX1213, hN1214⟩)
end XMB
