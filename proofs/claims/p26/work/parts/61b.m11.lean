/-! the model: lines of films, more -/
section XMB
variable {d : Nat} {w : List (List xE)} {bd : List (Nat × Nat)} {fc : List (Nat × Nat × Bool)} {rr : Nat × Nat}
set_option maxHeartbeats 60000000 in
theorem mALineS1 {at_ : Nat} (hI : xMnv w) (hps : PS w) (hmb : ∀ s, s < 7 → rwv w 85 s ≤ 1000) (hln : fld w 82 14 ≤ 1000) (h7 : fld w 82 7 = 3) (hat : at_ ≤ 4294967295) : xTo (d + 7) mX12_aLine (43, [], [(2, (0, at_)), (1, (0, 1)), (0, (2, 82))], [], (w, bd, fc, 0, 0, rr)) (fun φ => ∃ w', xEnd 0 [] (w', bd, fc, 0, 0, rr) φ ∧ xMnv w' ∧ xFr [82, 83, 85, 86, 87] w w' ∧ ((FA w ≠ 0 → FA w' ≠ 0) ∧ PS w' ∧ ((fld w' 82 10 = 1 ∧ mu w' = mu w ∧ fld w' 82 14 = fld w 82 14 ∧ ∀ s, s < 7 → rwv w' 85 s = rwv w 85 s) ∨ (mu w' < mu w ∧ fld w' 82 14 = fld w 82 14 + 1 ∧ ∀ s, s < 7 → rwv w' 85 s ≤ rwv w 85 s + 1)) ∧ (FA w' ≠ 0 ∨ (DATA w → DATA w')))) := by
  obtain ⟨f82_1, f82_3, f82_5, f82_7, f82_9, f82_11, f82_13, f82_15, f82_17, f82_19, f82_21, f82_22, f82_23, f82_25, f82_27, f82_29, h82_31, hb2, hb4, hb6, hb8, hb10, hb12, hb14, hb16, hb18, hb20, hb24, hb26, hb28, hb30, hb32⟩ := (hI 82 (by decide) (by decide) : cp82 (wget w 82))
  have hf33 : fld w 82 7 = f82_11 := fld_of h82_31
  have hf34 : fld w 82 10 = f82_17 := fld_of h82_31
  have hf35 : fld w 82 14 = f82_19 := fld_of h82_31
  have hps_ : fld w 82 10 = 0 ∨ FA w ≠ 0 := hps
  obtain ⟨g85_36, h85_37, hb38⟩ := (hI 85 (by decide) (by decide) : cpI 7 52 4294967295 (wget w 85))
  have h85_37 : xRow w 85 7 52 g85_36 := h85_37
  obtain ⟨g86_39, h86_40, hb41⟩ := (hI 86 (by decide) (by decide) : cpI 140 53 4294967295 (wget w 86))
  have h86_40 : xRow w 86 140 53 g86_39 := h86_40
  obtain ⟨g87_42, h87_43, hb44⟩ := (hI 87 (by decide) (by decide) : cpI 20 54 4294967295 (wget w 87))
  have h87_43 : xRow w 87 20 54 g87_42 := h87_43
  refine xg_t (xg_blk (b := [(43, 1, 0, 0, 0, 0), (44, 3, 1, 12, 11, 17), (47, 1, 2, 1, 0, 0), (48, 1, 10, 0, 0, 0), (49, 1, 15, 3, 0, 0), (50, 1, 2, 3, 0, 0), (51, 1, 2, 1, 0, 0), (52, 3, 13, 194, 98, 193), (55, 3, 6, 64, 2, 0), (58, 1, 0, 0, 0, 0), (59, 1, 3, 3, 0, 0), (60, 1, 2, 2, 0, 0), (61, 3, 13, 115, 96, 186)]) rfl) ?_
  refine xg_t (xg_aload (va := (2, 82)) rfl rfl) ?_
  refine xg_t (xg_getf (va := (2, 85)) h82_31 rfl) ?_
  refine xg_t (xg_iload (va := (0, 1)) rfl rfl) ?_
  refine xg_ialdB (n := 1) (B := 4294967295) h85_37 (hb38) xnm0 (by omega) (fun u45 hu46 he47 => ?_)
  have hK48 : rwv w 85 1 = u45 := (rwv_of h85_37 (by decide)).trans he47
  have hm49 := hmb 1 (by decide)
  have hl50 : u45 ≤ 1000 := by omega
  refine xg_t (xg_istore (l1 := [(2, (0, at_)), (1, (0, 1)), (0, (2, 82))]) rfl rfl rfl) ?_
  refine xg_t (xg_iload (va := (0, u45)) rfl rfl) ?_
  refine xg_t (xg_iload (va := (0, 1)) rfl rfl) ?_
  refine xg_t (xg_cSr mX12_mostOf (vs := [(0, 1)]) (rest := [(0, u45)]) (rs := [(0, 4), (0, u45)]) (cn1 := 0) (sl1 := 0) rfl (mMostR1) rfl rfl rfl rfl rfl rfl rfl rfl) ?_
  by_cases hc51 : u45 < 4
  · refine xg_t (xg_icT (u := u45) (v := 4) rfl xnm0 xnm0 (xj_ltT hc51 (by omega))) ?_
    refine xg_t (xg_blk (b := [(64, 1, 0, 0, 0, 0), (65, 3, 13, 110, 96, 190), (68, 1, 2, 1, 0, 0), (69, 39, 33, 362, 0, 9)]) rfl) ?_
    refine xg_t (xg_aload (va := (2, 82)) rfl rfl) ?_
    refine xg_cVv mX12_advance (vs := []) (rest := []) (cn1 := 0) (sl1 := 0) rfl (mAdvance (hI)) rfl h82_31 rfl rfl rfl rfl rfl rfl (fun w52 hq53 => ?_)
    obtain ⟨hI54, hF55, hx56⟩ := hq53
    clear hb2 hb4 hb6 hb8 hb10 hb12 hb14 hb16 hb18 hb20 hb24 hb26 hb28 hb30
    obtain ⟨hv57, hv58, hv59, hv60⟩ := hx56
    have hf62 := FA_fr hF55 (by decide)
    have hs63 := (PK.rf hps).2.2.2
    unfold PS at hs63
    have pk61 : PK w w52 := ⟨fun _ => by omega, hv57, hv60, (show fld w52 82 10 = 0 ∨ FA w52 ≠ 0 by omega)⟩
    clear hs63
    have pk64 : PK w w52 := PK.tr (PK.rf hps) pk61
    have os65 : ∀ j, (j < 50 + 2 * u45 ∨ 52 + 2 * u45 ≤ j) → j < 140 → rwv w52 86 j = rwv w 86 j := fun j hj hl => (rwv_fr hF55 (by decide)).trans ((fun j _ _ => rfl) j hj hl)
    have mf66 : ∀ s, s < 7 → rwv w52 85 s = rwv w 85 s := fun s hs => (rwv_fr hF55 (by decide)).trans ((fun _ _ => rfl) s hs)
    have ms67 : mu w52 < mu w := Nat.lt_of_lt_of_le (hv58 (by omega)) (PK.rf hps).2.1
    clear hv58
    have jn68 : ∀ (w69 : List (List xE)), xMnv w69 → xFr [82, 83, 85, 86, 87] w w69 → (PK w w69 ∧ (∀ j, (j < 50 + 2 * u45 ∨ 52 + 2 * u45 ≤ j) → j < 140 → rwv w69 86 j = rwv w 86 j) ∧ mu w69 < mu w ∧ (∀ s, s < 7 → rwv w69 85 s = rwv w 85 s) ∧ (FA w69 ≠ 0 ∨ u45 < 4) ∧ (FA w69 ≠ 0 ∨ 4 ≤ u45 ∨ (1 ≤ rwv w69 86 (50 + 2 * u45 + 1) ∧ rwv w69 86 (50 + 2 * u45 + 1) ≤ 999))) → xTo (d + 7) mX12_aLine (394, [], [(0, (2, 82)), (1, (0, 1)), (3, (0, u45))], [], (w69, bd, fc, 0, 0, rr)) (fun φ => ∃ w', xEnd 0 [] (w', bd, fc, 0, 0, rr) φ ∧ xMnv w' ∧ xFr [82, 83, 85, 86, 87] w w' ∧ ((FA w ≠ 0 → FA w' ≠ 0) ∧ PS w' ∧ ((fld w' 82 10 = 1 ∧ mu w' = mu w ∧ fld w' 82 14 = fld w 82 14 ∧ ∀ s, s < 7 → rwv w' 85 s = rwv w 85 s) ∨ (mu w' < mu w ∧ fld w' 82 14 = fld w 82 14 + 1 ∧ ∀ s, s < 7 → rwv w' 85 s ≤ rwv w 85 s + 1)) ∧ (FA w' ≠ 0 ∨ (DATA w → DATA w')))) := by
      intro w69 hI70 hF71 he72
      obtain ⟨hj73, hj74, hj75, hj76, hj77, hj78⟩ := he72
      refine xg_t (xg_blk (b := [(394, 1, 0, 0, 0, 0), (395, 3, 1, 12, 10, 180), (398, 3, 7, 416, 1, 0), (401, 1, 0, 0, 0, 0), (402, 3, 1, 12, 7, 151), (405, 1, 3, 2, 0, 0), (406, 3, 6, 416, 1, 0), (409, 1, 0, 0, 0, 0), (410, 3, 13, 110, 96, 190), (413, 3, 8, 420, 0, 0)]) rfl) ?_
      refine xg_t (xg_aload (va := (2, 82)) rfl rfl) ?_
      obtain ⟨f82_79, f82_81, f82_83, f82_85, f82_87, f82_89, f82_91, f82_93, f82_95, f82_97, f82_99, f82_100, f82_101, f82_103, f82_105, f82_107, h82_109, hb80, hb82, hb84, hb86, hb88, hb90, hb92, hb94, hb96, hb98, hb102, hb104, hb106, hb108, hb110⟩ := (hI70 82 (by decide) (by decide) : cp82 (wget w69 82))
      refine xg_t (xg_getf (va := (0, f82_95)) h82_109 rfl) ?_
      by_cases hc111 : f82_95 = 0
      · refine xg_t (xg_ifF (u := f82_95) rfl xnm0 (xj_neF hc111)) ?_
        refine xg_t (xg_aload (va := (2, 82)) rfl rfl) ?_
        refine xg_t (xg_getf (va := (0, f82_89)) h82_109 rfl) ?_
        refine xg_t (xg_const) ?_
        by_cases hc112 : f82_89 = 2
        · refine xg_t (xg_icF (u := f82_89) (v := 2) rfl xnm0 xnm0 (xj_neF hc112)) ?_
          refine xg_t (xg_aload (va := (2, 82)) rfl rfl) ?_
          refine xg_cVv mX12_advance (vs := []) (rest := []) (cn1 := 0) (sl1 := 0) rfl (mAdvance (hI70)) rfl h82_109 rfl rfl rfl rfl rfl rfl (fun w113 hq114 => ?_)
          obtain ⟨hI115, hF116, hx117⟩ := hq114
          clear hb80 hb82 hb84 hb86 hb88 hb90 hb92 hb94 hb96 hb98 hb102 hb104 hb106 hb108
          obtain ⟨hv118, hv119, hv120, hv121⟩ := hx117
          have hf123 := FA_fr hF116 (by decide)
          have hs124 := hj73.2.2.2
          unfold PS at hs124
          have pk122 : PK w69 w113 := ⟨fun _ => by omega, hv118, hv121, (show fld w113 82 10 = 0 ∨ FA w113 ≠ 0 by omega)⟩
          clear hs124
          clear hv119
          have pk125 : PK w w113 := PK.tr hj73 pk122
          have os126 : ∀ j, (j < 50 + 2 * u45 ∨ 52 + 2 * u45 ≤ j) → j < 140 → rwv w113 86 j = rwv w 86 j := fun j hj hl => (rwv_fr hF116 (by decide)).trans (hj74 j hj hl)
          have rg127 : FA w113 ≠ 0 ∨ u45 < 4 := hj77.imp_left pk122.1
          have mf128 : ∀ s, s < 7 → rwv w113 85 s = rwv w 85 s := fun s hs => (rwv_fr hF116 (by decide)).trans (hj76 s hs)
          have hl129 : rwv w113 86 (50 + 2 * u45 + 1) = rwv w69 86 (50 + 2 * u45 + 1) := rwv_fr hF116 (by decide)
          have nw130 : FA w113 ≠ 0 ∨ 4 ≤ u45 ∨ (1 ≤ rwv w113 86 (50 + 2 * u45 + 1) ∧ rwv w113 86 (50 + 2 * u45 + 1) ≤ 999) := by have q := hj78; have q1 := pk122.1; omega
          clear hj78
          have ms131 : mu w113 < mu w := Nat.lt_of_le_of_lt pk122.2.1 hj75
          clear hj77
          refine xg_t (xg_goto) ?_
          refine xg_t (xg_blk (b := [(420, 1, 0, 0, 0, 0), (421, 3, 1, 12, 11, 17), (424, 1, 2, 1, 0, 0), (425, 1, 39, 0, 0, 0), (426, 1, 10, 0, 0, 0), (427, 1, 3, 1, 0, 0), (428, 1, 11, 0, 0, 0), (429, 1, 17, 0, 0, 0), (430, 1, 0, 0, 0, 0), (431, 1, 19, 0, 0, 0), (432, 3, 1, 12, 14, 212), (435, 1, 3, 1, 0, 0), (436, 1, 11, 0, 0, 0), (437, 3, 14, 12, 14, 212), (440, 1, 12, 0, 0, 0)]) rfl) ?_
          obtain ⟨f82_132, f82_134, f82_136, f82_138, f82_140, f82_142, f82_144, f82_146, f82_148, f82_150, f82_152, f82_153, f82_154, f82_156, f82_158, f82_160, h82_162, hb133, hb135, hb137, hb139, hb141, hb143, hb145, hb147, hb149, hb151, hb155, hb157, hb159, hb161, hb163⟩ := (hI115 82 (by decide) (by decide) : cp82 (wget w113 82))
          have hf164 : fld w113 82 4 = f82_136 := fld_of h82_162
          have hf165 : fld w113 82 5 = f82_138 := fld_of h82_162
          have hf166 : fld w113 82 7 = f82_142 := fld_of h82_162
          have hf167 : fld w113 82 10 = f82_148 := fld_of h82_162
          have hf168 : fld w113 82 14 = f82_150 := fld_of h82_162
          have hu169 : mu w113 = 2 * (fld w113 82 4 - fld w113 82 5) + min 1 (fld w113 82 7) := rfl
          have hf170 := pk125.2.2.1
          have hl171 : f82_150 ≤ 1000 := by omega
          refine xg_t (xg_aload (va := (2, 82)) rfl rfl) ?_
          refine xg_t (xg_getf (va := (2, 85)) h82_162 rfl) ?_
          refine xg_t (xg_iload (va := (0, 1)) rfl rfl) ?_
          refine xg_t (xg_dup2 rfl) ?_
          obtain ⟨g85_172, h85_173, hb174⟩ := (hI115 85 (by decide) (by decide) : cpI 7 52 4294967295 (wget w113 85))
          have h85_173 : xRow w113 85 7 52 g85_172 := h85_173
          refine xg_ialdB (n := 1) (B := 4294967295) h85_173 (hb174) xnm0 (by omega) (fun u175 hu176 he177 => ?_)
          have hl178 : u175 = u45 := by have q1 := rwv_of h85_173 (show 1 < 7 by decide); have q2 := mf128 1 (by decide); omega
          refine xg_t (xg_const) ?_
          refine xg_t (xg_iadd (u := u175) (v := 1) (z := u175 + 1) xnm0 xnm0 (by omega)) ?_
          refine xg_iastK (n := 1) (u := u175 + 1) h85_173 xnm0 xnm0 rfl (by omega) (fun w179 hr180 hb181 => ?_)
          refine xg_t (xg_aload (va := (2, 82)) rfl rfl) ?_
          refine xg_t (xg_dup rfl) ?_
          refine xg_t (xg_getf (va := (0, f82_150)) (hb181.get (by decide) h82_162) rfl) ?_
          refine xg_t (xg_const) ?_
          refine xg_t (xg_iadd (u := f82_150) (v := 1) (z := f82_150 + 1) xnm0 xnm0 (by omega)) ?_
          refine xg_putI (fl1 := [(2, 83), (2, 84), (0, f82_132), (0, f82_134), (0, f82_136), (0, f82_138), (0, f82_140), (0, f82_142), (0, f82_144), (0, f82_146), (0, f82_148), (2, 85), (2, 86), (2, 87), (0, f82_150 + 1), (2, 88), (2, 89), (2, 90), (2, 91), (2, 92), (2, 93), (2, 94), (4, f82_152), (4, f82_153), (0, f82_154), (2, 95), (2, 96), (2, 97), (2, 98), (2, 99), (2, 100), (2, 101), (2, 102), (0, f82_156), (2, 103), (2, 104), (2, 105), (2, 106), (2, 107), (2, 108), (2, 109), (0, f82_158), (0, f82_160), (2, 110), (2, 111), (2, 112), (2, 113)]) (hb181.get (by decide) h82_162) rfl rfl rfl (fun w182 hk183 hb184 => ?_)
          have hF185 : xFr [82, 85] w113 w182 := ((xFr.of (S := [82, 85]) hb181 (by decide)).tr (xFr.of (S := [82, 85]) hb184 (by decide)))
          have hA186 := FA_fr hF185 (by decide)
          have hf187 : fld w182 82 4 = f82_136 := fld_of hk183
          have hf188 : fld w182 82 5 = f82_138 := fld_of hk183
          have hf189 : fld w182 82 7 = f82_142 := fld_of hk183
          have hf190 : fld w182 82 10 = f82_148 := fld_of hk183
          have hf191 : fld w182 82 14 = f82_150 + 1 := fld_of hk183
          have hu192 : mu w182 = 2 * (fld w182 82 4 - fld w182 82 5) + min 1 (fld w182 82 7) := rfl
          have pq193 := pk125
          unfold PK PS at pq193
          have hM194 : ∀ s, s < 7 → s ≠ 1 → rwv w182 85 s = rwv w 85 s := fun s hs hn => (rwv_of (hr180.but hb184 (by decide)) hs).trans ((if_neg hn).trans ((rwv_of h85_173 hs).symm.trans (mf128 s hs)))
          have hM195 : rwv w182 85 1 = u45 + 1 := (rwv_of (hr180.but hb184 (by decide)) (by decide)).trans ((if_pos rfl).trans (by omega))
          have hM196 : ∀ s, s < 7 → rwv w182 85 s ≤ rwv w 85 s + 1 := fun s hs => by
            by_cases z : s = 1
            · subst z; omega
            · rw [hM194 s hs z]; omega
          have hO197 : ∀ j, (j < 50 + 2 * u45 ∨ 52 + 2 * u45 ≤ j) → j < 140 → rwv w182 86 j = rwv w 86 j := fun j hj hl => (rwv_fr hF185 (by decide)).trans (os126 j hj hl)
          have hl199 : FA w113 ≠ 0 ∨ u45 < 4 := rg127
          have hl200 : rwv w182 86 (50 + 2 * u45 + 1) = rwv w113 86 (50 + 2 * u45 + 1) := rwv_fr hF185 (by decide)
          have hN198 : FA w182 ≠ 0 ∨ 4 ≤ u45 ∨ (1 ≤ rwv w182 86 (50 + 2 * u45 + 1) ∧ rwv w182 86 (50 + 2 * u45 + 1) ≤ 999) := by have q := nw130; omega
          have hX201 : FA w182 ≠ 0 ∨ u45 < 4 := by omega
          have hD202 : FA w182 ≠ 0 ∨ (DATA w → DATA w182) := by
            by_cases z : FA w182 ≠ 0
            · exact Or.inl z
            · exact Or.inr (fun hd => hd.s1 hM194 hK48 hM195 (hX201.resolve_left z) hO197 ((hN198.resolve_left z).resolve_left (by have := hX201.resolve_left z; omega)))
          exact xg_e ⟨w182, ⟨rfl, rfl⟩, xMnv.up (S := [85, 82]) hI115 ((xFr.of (S := [85, 82]) hb181 (by decide)).tr (xFr.of (S := [85, 82]) hb184 (by decide))) (List.forall_mem_cons.mpr ⟨(show cpI 7 52 4294967295 (wget w182 85) from ⟨_, (hr180.but hb184 (by decide)), xrb (by omega) (hb174)⟩), List.forall_mem_cons.mpr ⟨(show cp82 (wget w182 82) from ⟨f82_132, f82_134, f82_136, f82_138, f82_140, f82_142, f82_144, f82_146, f82_148, f82_150 + 1, f82_152, f82_153, f82_154, f82_156, f82_158, f82_160, hk183, hb133, hb135, hb137, hb139, hb141, hb143, hb145, hb147, hb149, by omega, hb155, hb157, hb159, hb161, by omega⟩), fun _ h => absurd h List.not_mem_nil⟩⟩), ((hF71.tr (hF116.up (by decide))).tr ((xFr.of (S := [82, 83, 85, 86, 87]) hb181 (by decide)).tr (xFr.of (S := [82, 83, 85, 86, 87]) hb184 (by decide)))), ⟨fun h => by have := pq193.1 h; omega, (show fld w182 82 10 = 0 ∨ FA w182 ≠ 0 by omega), Or.inr ⟨by have := ms131; omega, by omega, hM196⟩, hD202⟩⟩
        · refine xg_t (xg_icT (u := f82_89) (v := 2) rfl xnm0 xnm0 (xj_neT hc112)) ?_
          refine xg_t (xg_blk (b := [(416, 1, 0, 0, 0, 0), (417, 3, 13, 140, 96, 183)]) rfl) ?_
          refine xg_t (xg_aload (va := (2, 82)) rfl rfl) ?_
          refine xg_cVv mX12_ends (vs := []) (rest := []) (cn1 := 0) (sl1 := 0) rfl (mEnds (hI70) hj73.2.2.2) rfl h82_109 rfl rfl rfl rfl rfl rfl (fun w203 hq204 => ?_)
          obtain ⟨hI205, hF206, hx207⟩ := hq204
          clear hb80 hb82 hb84 hb86 hb88 hb90 hb92 hb94 hb96 hb98 hb102 hb104 hb106 hb108
          obtain ⟨hv208, hv209, hv210, hv211⟩ := hx207
          have pk212 : PK w69 w203 := ⟨fun _ => hv208, by omega, by omega, Or.inr hv208⟩
          have pk213 : PK w w203 := PK.tr hj73 pk212
          have os214 : ∀ j, (j < 50 + 2 * u45 ∨ 52 + 2 * u45 ≤ j) → j < 140 → rwv w203 86 j = rwv w 86 j := fun j hj hl => (rwv_fr hF206 (by decide)).trans (hj74 j hj hl)
          have rg215 : FA w203 ≠ 0 ∨ u45 < 4 := hj77.imp_left pk212.1
          have mf216 : ∀ s, s < 7 → rwv w203 85 s = rwv w 85 s := fun s hs => (rwv_fr hF206 (by decide)).trans (hj76 s hs)
          have hl217 : rwv w203 86 (50 + 2 * u45 + 1) = rwv w69 86 (50 + 2 * u45 + 1) := rwv_fr hF206 (by decide)
          have nw218 : FA w203 ≠ 0 ∨ 4 ≤ u45 ∨ (1 ≤ rwv w203 86 (50 + 2 * u45 + 1) ∧ rwv w203 86 (50 + 2 * u45 + 1) ≤ 999) := by have q := hj78; have q1 := pk212.1; omega
          clear hj78
          have ms219 : mu w203 < mu w := Nat.lt_of_le_of_lt pk212.2.1 hj75
          clear hj77
          refine xg_t (xg_blk (b := [(420, 1, 0, 0, 0, 0), (421, 3, 1, 12, 11, 17), (424, 1, 2, 1, 0, 0), (425, 1, 39, 0, 0, 0), (426, 1, 10, 0, 0, 0), (427, 1, 3, 1, 0, 0), (428, 1, 11, 0, 0, 0), (429, 1, 17, 0, 0, 0), (430, 1, 0, 0, 0, 0), (431, 1, 19, 0, 0, 0), (432, 3, 1, 12, 14, 212), (435, 1, 3, 1, 0, 0), (436, 1, 11, 0, 0, 0), (437, 3, 14, 12, 14, 212), (440, 1, 12, 0, 0, 0)]) rfl) ?_
          obtain ⟨f82_220, f82_222, f82_224, f82_226, f82_228, f82_230, f82_232, f82_234, f82_236, f82_238, f82_240, f82_241, f82_242, f82_244, f82_246, f82_248, h82_250, hb221, hb223, hb225, hb227, hb229, hb231, hb233, hb235, hb237, hb239, hb243, hb245, hb247, hb249, hb251⟩ := (hI205 82 (by decide) (by decide) : cp82 (wget w203 82))
          have hf252 : fld w203 82 4 = f82_224 := fld_of h82_250
          have hf253 : fld w203 82 5 = f82_226 := fld_of h82_250
          have hf254 : fld w203 82 7 = f82_230 := fld_of h82_250
          have hf255 : fld w203 82 10 = f82_236 := fld_of h82_250
          have hf256 : fld w203 82 14 = f82_238 := fld_of h82_250
          have hu257 : mu w203 = 2 * (fld w203 82 4 - fld w203 82 5) + min 1 (fld w203 82 7) := rfl
          have hf258 := pk213.2.2.1
          have hl259 : f82_238 ≤ 1000 := by omega
          refine xg_t (xg_aload (va := (2, 82)) rfl rfl) ?_
          refine xg_t (xg_getf (va := (2, 85)) h82_250 rfl) ?_
          refine xg_t (xg_iload (va := (0, 1)) rfl rfl) ?_
          refine xg_t (xg_dup2 rfl) ?_
          obtain ⟨g85_260, h85_261, hb262⟩ := (hI205 85 (by decide) (by decide) : cpI 7 52 4294967295 (wget w203 85))
          have h85_261 : xRow w203 85 7 52 g85_260 := h85_261
          refine xg_ialdB (n := 1) (B := 4294967295) h85_261 (hb262) xnm0 (by omega) (fun u263 hu264 he265 => ?_)
          have hl266 : u263 = u45 := by have q1 := rwv_of h85_261 (show 1 < 7 by decide); have q2 := mf216 1 (by decide); omega
          refine xg_t (xg_const) ?_
          refine xg_t (xg_iadd (u := u263) (v := 1) (z := u263 + 1) xnm0 xnm0 (by omega)) ?_
          refine xg_iastK (n := 1) (u := u263 + 1) h85_261 xnm0 xnm0 rfl (by omega) (fun w267 hr268 hb269 => ?_)
          refine xg_t (xg_aload (va := (2, 82)) rfl rfl) ?_
          refine xg_t (xg_dup rfl) ?_
          refine xg_t (xg_getf (va := (0, f82_238)) (hb269.get (by decide) h82_250) rfl) ?_
          refine xg_t (xg_const) ?_
          refine xg_t (xg_iadd (u := f82_238) (v := 1) (z := f82_238 + 1) xnm0 xnm0 (by omega)) ?_
          refine xg_putI (fl1 := [(2, 83), (2, 84), (0, f82_220), (0, f82_222), (0, f82_224), (0, f82_226), (0, f82_228), (0, f82_230), (0, f82_232), (0, f82_234), (0, f82_236), (2, 85), (2, 86), (2, 87), (0, f82_238 + 1), (2, 88), (2, 89), (2, 90), (2, 91), (2, 92), (2, 93), (2, 94), (4, f82_240), (4, f82_241), (0, f82_242), (2, 95), (2, 96), (2, 97), (2, 98), (2, 99), (2, 100), (2, 101), (2, 102), (0, f82_244), (2, 103), (2, 104), (2, 105), (2, 106), (2, 107), (2, 108), (2, 109), (0, f82_246), (0, f82_248), (2, 110), (2, 111), (2, 112), (2, 113)]) (hb269.get (by decide) h82_250) rfl rfl rfl (fun w270 hk271 hb272 => ?_)
          have hF273 : xFr [82, 85] w203 w270 := ((xFr.of (S := [82, 85]) hb269 (by decide)).tr (xFr.of (S := [82, 85]) hb272 (by decide)))
          have hA274 := FA_fr hF273 (by decide)
          have hf275 : fld w270 82 4 = f82_224 := fld_of hk271
          have hf276 : fld w270 82 5 = f82_226 := fld_of hk271
          have hf277 : fld w270 82 7 = f82_230 := fld_of hk271
          have hf278 : fld w270 82 10 = f82_236 := fld_of hk271
          have hf279 : fld w270 82 14 = f82_238 + 1 := fld_of hk271
          have hu280 : mu w270 = 2 * (fld w270 82 4 - fld w270 82 5) + min 1 (fld w270 82 7) := rfl
          have pq281 := pk213
          unfold PK PS at pq281
          have hM282 : ∀ s, s < 7 → s ≠ 1 → rwv w270 85 s = rwv w 85 s := fun s hs hn => (rwv_of (hr268.but hb272 (by decide)) hs).trans ((if_neg hn).trans ((rwv_of h85_261 hs).symm.trans (mf216 s hs)))
          have hM283 : rwv w270 85 1 = u45 + 1 := (rwv_of (hr268.but hb272 (by decide)) (by decide)).trans ((if_pos rfl).trans (by omega))
          have hM284 : ∀ s, s < 7 → rwv w270 85 s ≤ rwv w 85 s + 1 := fun s hs => by
            by_cases z : s = 1
            · subst z; omega
            · rw [hM282 s hs z]; omega
          have hO285 : ∀ j, (j < 50 + 2 * u45 ∨ 52 + 2 * u45 ≤ j) → j < 140 → rwv w270 86 j = rwv w 86 j := fun j hj hl => (rwv_fr hF273 (by decide)).trans (os214 j hj hl)
          have hl287 : FA w203 ≠ 0 ∨ u45 < 4 := rg215
          have hl288 : rwv w270 86 (50 + 2 * u45 + 1) = rwv w203 86 (50 + 2 * u45 + 1) := rwv_fr hF273 (by decide)
          have hN286 : FA w270 ≠ 0 ∨ 4 ≤ u45 ∨ (1 ≤ rwv w270 86 (50 + 2 * u45 + 1) ∧ rwv w270 86 (50 + 2 * u45 + 1) ≤ 999) := by have q := nw218; omega
          have hX289 : FA w270 ≠ 0 ∨ u45 < 4 := by omega
          have hD290 : FA w270 ≠ 0 ∨ (DATA w → DATA w270) := by
            by_cases z : FA w270 ≠ 0
            · exact Or.inl z
            · exact Or.inr (fun hd => hd.s1 hM282 hK48 hM283 (hX289.resolve_left z) hO285 ((hN286.resolve_left z).resolve_left (by have := hX289.resolve_left z; omega)))
          exact xg_e ⟨w270, ⟨rfl, rfl⟩, xMnv.up (S := [85, 82]) hI205 ((xFr.of (S := [85, 82]) hb269 (by decide)).tr (xFr.of (S := [85, 82]) hb272 (by decide))) (List.forall_mem_cons.mpr ⟨(show cpI 7 52 4294967295 (wget w270 85) from ⟨_, (hr268.but hb272 (by decide)), xrb (by omega) (hb262)⟩), List.forall_mem_cons.mpr ⟨(show cp82 (wget w270 82) from ⟨f82_220, f82_222, f82_224, f82_226, f82_228, f82_230, f82_232, f82_234, f82_236, f82_238 + 1, f82_240, f82_241, f82_242, f82_244, f82_246, f82_248, hk271, hb221, hb223, hb225, hb227, hb229, hb231, hb233, hb235, hb237, by omega, hb243, hb245, hb247, hb249, by omega⟩), fun _ h => absurd h List.not_mem_nil⟩⟩), ((hF71.tr (hF206.up (by decide))).tr ((xFr.of (S := [82, 83, 85, 86, 87]) hb269 (by decide)).tr (xFr.of (S := [82, 83, 85, 86, 87]) hb272 (by decide)))), ⟨fun h => by have := pq281.1 h; omega, (show fld w270 82 10 = 0 ∨ FA w270 ≠ 0 by omega), Or.inr ⟨by have := ms219; omega, by omega, hM284⟩, hD290⟩⟩
      · refine xg_t (xg_ifT (u := f82_95) rfl xnm0 (xj_neT hc111)) ?_
        refine xg_t (xg_blk (b := [(416, 1, 0, 0, 0, 0), (417, 3, 13, 140, 96, 183)]) rfl) ?_
        refine xg_t (xg_aload (va := (2, 82)) rfl rfl) ?_
        refine xg_cVv mX12_ends (vs := []) (rest := []) (cn1 := 0) (sl1 := 0) rfl (mEnds (hI70) hj73.2.2.2) rfl h82_109 rfl rfl rfl rfl rfl rfl (fun w291 hq292 => ?_)
        obtain ⟨hI293, hF294, hx295⟩ := hq292
        clear hb80 hb82 hb84 hb86 hb88 hb90 hb92 hb94 hb96 hb98 hb102 hb104 hb106 hb108
        obtain ⟨hv296, hv297, hv298, hv299⟩ := hx295
        have pk300 : PK w69 w291 := ⟨fun _ => hv296, by omega, by omega, Or.inr hv296⟩
        have pk301 : PK w w291 := PK.tr hj73 pk300
        have os302 : ∀ j, (j < 50 + 2 * u45 ∨ 52 + 2 * u45 ≤ j) → j < 140 → rwv w291 86 j = rwv w 86 j := fun j hj hl => (rwv_fr hF294 (by decide)).trans (hj74 j hj hl)
        have rg303 : FA w291 ≠ 0 ∨ u45 < 4 := hj77.imp_left pk300.1
        have mf304 : ∀ s, s < 7 → rwv w291 85 s = rwv w 85 s := fun s hs => (rwv_fr hF294 (by decide)).trans (hj76 s hs)
        have hl305 : rwv w291 86 (50 + 2 * u45 + 1) = rwv w69 86 (50 + 2 * u45 + 1) := rwv_fr hF294 (by decide)
        have nw306 : FA w291 ≠ 0 ∨ 4 ≤ u45 ∨ (1 ≤ rwv w291 86 (50 + 2 * u45 + 1) ∧ rwv w291 86 (50 + 2 * u45 + 1) ≤ 999) := by have q := hj78; have q1 := pk300.1; omega
        clear hj78
        have ms307 : mu w291 < mu w := Nat.lt_of_le_of_lt pk300.2.1 hj75
        clear hj77
        refine xg_t (xg_blk (b := [(420, 1, 0, 0, 0, 0), (421, 3, 1, 12, 11, 17), (424, 1, 2, 1, 0, 0), (425, 1, 39, 0, 0, 0), (426, 1, 10, 0, 0, 0), (427, 1, 3, 1, 0, 0), (428, 1, 11, 0, 0, 0), (429, 1, 17, 0, 0, 0), (430, 1, 0, 0, 0, 0), (431, 1, 19, 0, 0, 0), (432, 3, 1, 12, 14, 212), (435, 1, 3, 1, 0, 0), (436, 1, 11, 0, 0, 0), (437, 3, 14, 12, 14, 212), (440, 1, 12, 0, 0, 0)]) rfl) ?_
        obtain ⟨f82_308, f82_310, f82_312, f82_314, f82_316, f82_318, f82_320, f82_322, f82_324, f82_326, f82_328, f82_329, f82_330, f82_332, f82_334, f82_336, h82_338, hb309, hb311, hb313, hb315, hb317, hb319, hb321, hb323, hb325, hb327, hb331, hb333, hb335, hb337, hb339⟩ := (hI293 82 (by decide) (by decide) : cp82 (wget w291 82))
        have hf340 : fld w291 82 4 = f82_312 := fld_of h82_338
        have hf341 : fld w291 82 5 = f82_314 := fld_of h82_338
        have hf342 : fld w291 82 7 = f82_318 := fld_of h82_338
        have hf343 : fld w291 82 10 = f82_324 := fld_of h82_338
        have hf344 : fld w291 82 14 = f82_326 := fld_of h82_338
        have hu345 : mu w291 = 2 * (fld w291 82 4 - fld w291 82 5) + min 1 (fld w291 82 7) := rfl
        have hf346 := pk301.2.2.1
        have hl347 : f82_326 ≤ 1000 := by omega
        refine xg_t (xg_aload (va := (2, 82)) rfl rfl) ?_
        refine xg_t (xg_getf (va := (2, 85)) h82_338 rfl) ?_
        refine xg_t (xg_iload (va := (0, 1)) rfl rfl) ?_
        refine xg_t (xg_dup2 rfl) ?_
        obtain ⟨g85_348, h85_349, hb350⟩ := (hI293 85 (by decide) (by decide) : cpI 7 52 4294967295 (wget w291 85))
        have h85_349 : xRow w291 85 7 52 g85_348 := h85_349
        refine xg_ialdB (n := 1) (B := 4294967295) h85_349 (hb350) xnm0 (by omega) (fun u351 hu352 he353 => ?_)
        have hl354 : u351 = u45 := by have q1 := rwv_of h85_349 (show 1 < 7 by decide); have q2 := mf304 1 (by decide); omega
        refine xg_t (xg_const) ?_
        refine xg_t (xg_iadd (u := u351) (v := 1) (z := u351 + 1) xnm0 xnm0 (by omega)) ?_
        refine xg_iastK (n := 1) (u := u351 + 1) h85_349 xnm0 xnm0 rfl (by omega) (fun w355 hr356 hb357 => ?_)
        refine xg_t (xg_aload (va := (2, 82)) rfl rfl) ?_
        refine xg_t (xg_dup rfl) ?_
        refine xg_t (xg_getf (va := (0, f82_326)) (hb357.get (by decide) h82_338) rfl) ?_
        refine xg_t (xg_const) ?_
        refine xg_t (xg_iadd (u := f82_326) (v := 1) (z := f82_326 + 1) xnm0 xnm0 (by omega)) ?_
        refine xg_putI (fl1 := [(2, 83), (2, 84), (0, f82_308), (0, f82_310), (0, f82_312), (0, f82_314), (0, f82_316), (0, f82_318), (0, f82_320), (0, f82_322), (0, f82_324), (2, 85), (2, 86), (2, 87), (0, f82_326 + 1), (2, 88), (2, 89), (2, 90), (2, 91), (2, 92), (2, 93), (2, 94), (4, f82_328), (4, f82_329), (0, f82_330), (2, 95), (2, 96), (2, 97), (2, 98), (2, 99), (2, 100), (2, 101), (2, 102), (0, f82_332), (2, 103), (2, 104), (2, 105), (2, 106), (2, 107), (2, 108), (2, 109), (0, f82_334), (0, f82_336), (2, 110), (2, 111), (2, 112), (2, 113)]) (hb357.get (by decide) h82_338) rfl rfl rfl (fun w358 hk359 hb360 => ?_)
        have hF361 : xFr [82, 85] w291 w358 := ((xFr.of (S := [82, 85]) hb357 (by decide)).tr (xFr.of (S := [82, 85]) hb360 (by decide)))
        have hA362 := FA_fr hF361 (by decide)
        have hf363 : fld w358 82 4 = f82_312 := fld_of hk359
        have hf364 : fld w358 82 5 = f82_314 := fld_of hk359
        have hf365 : fld w358 82 7 = f82_318 := fld_of hk359
        have hf366 : fld w358 82 10 = f82_324 := fld_of hk359
        have hf367 : fld w358 82 14 = f82_326 + 1 := fld_of hk359
        have hu368 : mu w358 = 2 * (fld w358 82 4 - fld w358 82 5) + min 1 (fld w358 82 7) := rfl
        have pq369 := pk301
        unfold PK PS at pq369
        have hM370 : ∀ s, s < 7 → s ≠ 1 → rwv w358 85 s = rwv w 85 s := fun s hs hn => (rwv_of (hr356.but hb360 (by decide)) hs).trans ((if_neg hn).trans ((rwv_of h85_349 hs).symm.trans (mf304 s hs)))
        have hM371 : rwv w358 85 1 = u45 + 1 := (rwv_of (hr356.but hb360 (by decide)) (by decide)).trans ((if_pos rfl).trans (by omega))
        have hM372 : ∀ s, s < 7 → rwv w358 85 s ≤ rwv w 85 s + 1 := fun s hs => by
          by_cases z : s = 1
          · subst z; omega
          · rw [hM370 s hs z]; omega
        have hO373 : ∀ j, (j < 50 + 2 * u45 ∨ 52 + 2 * u45 ≤ j) → j < 140 → rwv w358 86 j = rwv w 86 j := fun j hj hl => (rwv_fr hF361 (by decide)).trans (os302 j hj hl)
        have hl375 : FA w291 ≠ 0 ∨ u45 < 4 := rg303
        have hl376 : rwv w358 86 (50 + 2 * u45 + 1) = rwv w291 86 (50 + 2 * u45 + 1) := rwv_fr hF361 (by decide)
        have hN374 : FA w358 ≠ 0 ∨ 4 ≤ u45 ∨ (1 ≤ rwv w358 86 (50 + 2 * u45 + 1) ∧ rwv w358 86 (50 + 2 * u45 + 1) ≤ 999) := by have q := nw306; omega
        have hX377 : FA w358 ≠ 0 ∨ u45 < 4 := by omega
        have hD378 : FA w358 ≠ 0 ∨ (DATA w → DATA w358) := by
          by_cases z : FA w358 ≠ 0
          · exact Or.inl z
          · exact Or.inr (fun hd => hd.s1 hM370 hK48 hM371 (hX377.resolve_left z) hO373 ((hN374.resolve_left z).resolve_left (by have := hX377.resolve_left z; omega)))
        exact xg_e ⟨w358, ⟨rfl, rfl⟩, xMnv.up (S := [85, 82]) hI293 ((xFr.of (S := [85, 82]) hb357 (by decide)).tr (xFr.of (S := [85, 82]) hb360 (by decide))) (List.forall_mem_cons.mpr ⟨(show cpI 7 52 4294967295 (wget w358 85) from ⟨_, (hr356.but hb360 (by decide)), xrb (by omega) (hb350)⟩), List.forall_mem_cons.mpr ⟨(show cp82 (wget w358 82) from ⟨f82_308, f82_310, f82_312, f82_314, f82_316, f82_318, f82_320, f82_322, f82_324, f82_326 + 1, f82_328, f82_329, f82_330, f82_332, f82_334, f82_336, hk359, hb309, hb311, hb313, hb315, hb317, hb319, hb321, hb323, hb325, by omega, hb331, hb333, hb335, hb337, by omega⟩), fun _ h => absurd h List.not_mem_nil⟩⟩), ((hF71.tr (hF294.up (by decide))).tr ((xFr.of (S := [82, 83, 85, 86, 87]) hb357 (by decide)).tr (xFr.of (S := [82, 83, 85, 86, 87]) hb360 (by decide)))), ⟨fun h => by have := pq369.1 h; omega, (show fld w358 82 10 = 0 ∨ FA w358 ≠ 0 by omega), Or.inr ⟨by have := ms307; omega, by omega, hM372⟩, hD378⟩⟩
    refine xg_t (xg_iload (va := (0, 1)) rfl rfl) ?_
    refine xg_t (xg_swt (ks := [(0, 108), (1, 116), (2, 180), (3, 221), (4, 273), (5, 326)]) (u := 1) (z := 116) rfl rfl rfl xnm0 (xsw_n (by omega) (xsw_y rfl))) ?_
    refine xg_t (xg_blk (b := [(116, 1, 0, 0, 0, 0), (117, 1, 3, 0, 0, 0), (118, 2, 4, 99, 0, 0), (120, 3, 13, 199, 96, 196), (123, 2, 15, 4, 0, 0), (125, 1, 0, 0, 0, 0), (126, 2, 2, 4, 0, 0), (128, 1, 2, 3, 0, 0), (129, 3, 13, 167, 96, 208), (132, 3, 7, 141, 0, 0), (135, 1, 0, 0, 0, 0), (136, 1, 3, 3, 0, 0), (137, 1, 2, 2, 0, 0), (138, 3, 13, 115, 96, 186)]) rfl) ?_
    refine xg_t (xg_aload (va := (2, 82)) rfl rfl) ?_
    refine xg_t (xg_const) ?_
    refine xg_t (xg_bip) ?_
    obtain ⟨f82_379, f82_381, f82_383, f82_385, f82_387, f82_389, f82_391, f82_393, f82_395, f82_397, f82_399, f82_400, f82_401, f82_403, f82_405, f82_407, h82_409, hb380, hb382, hb384, hb386, hb388, hb390, hb392, hb394, hb396, hb398, hb402, hb404, hb406, hb408, hb410⟩ := (hI54 82 (by decide) (by decide) : cp82 (wget w52 82))
    refine xg_cVi mX12_numbered (vs := [(0, 0), (0, 99)]) (rest := []) (cn1 := 0) (sl1 := 0) rfl (mNumbered (hI54) (by omega) (by omega) pk64.2.2.2) rfl h82_409 rfl rfl rfl rfl rfl rfl (fun n415 w411 hq412 => ?_)
    obtain ⟨hn416, hI413, hF414⟩ := hq412
    clear hb380 hb382 hb384 hb386 hb388 hb390 hb392 hb394 hb396 hb398 hb402 hb404 hb406 hb408
    obtain ⟨hn417, hn418, hn419⟩ := hn416
    have pk420 : PK w w411 := PK.tr pk64 hn418
    have os421 : ∀ j, (j < 50 + 2 * u45 ∨ 52 + 2 * u45 ≤ j) → j < 140 → rwv w411 86 j = rwv w 86 j := fun j hj hl => (rwv_fr hF414 (by decide)).trans (os65 j hj hl)
    have mf422 : ∀ s, s < 7 → rwv w411 85 s = rwv w 85 s := fun s hs => (rwv_fr hF414 (by decide)).trans (mf66 s hs)
    have ms423 : mu w411 < mu w := Nat.lt_of_le_of_lt hn418.2.1 ms67
    refine xg_t (xg_istore (l1 := [(3, (0, u45)), (2, (0, at_)), (1, (0, 1)), (0, (2, 82))]) rfl rfl rfl) ?_
    refine xg_t (xg_aload (va := (2, 82)) rfl rfl) ?_
    refine xg_t (xg_iload (va := (0, n415)) rfl rfl) ?_
    refine xg_t (xg_iload (va := (0, u45)) rfl rfl) ?_
    obtain ⟨f82_424, f82_426, f82_428, f82_430, f82_432, f82_434, f82_436, f82_438, f82_440, f82_442, f82_444, f82_445, f82_446, f82_448, f82_450, f82_452, h82_454, hb425, hb427, hb429, hb431, hb433, hb435, hb437, hb439, hb441, hb443, hb447, hb449, hb451, hb453, hb455⟩ := (hI413 82 (by decide) (by decide) : cp82 (wget w411 82))
    refine xg_cVi mX12_isLifeTold (vs := [(0, n415), (0, u45)]) (rest := []) (cn1 := 0) (sl1 := 0) rfl (mLifeTold (hI413) (by omega) (by omega)) rfl h82_454 rfl rfl rfl rfl rfl rfl (fun n460 w456 hq457 => ?_)
    obtain ⟨hn461, hI458, hF459⟩ := hq457
    have pk462 : PK w w456 := PK.tr pk420 (PK.fr hF459 (by decide) (by decide) pk420.2.2.2)
    have os463 : ∀ j, (j < 50 + 2 * u45 ∨ 52 + 2 * u45 ≤ j) → j < 140 → rwv w456 86 j = rwv w 86 j := fun j hj hl => (rwv_fr hF459 (by decide)).trans (os421 j hj hl)
    have rg464 : FA w456 ≠ 0 ∨ (0 ≤ n415 ∧ n415 ≤ 99) := hn419.imp_left (PK.fr hF459 (by decide) (by decide) pk420.2.2.2).1
    have mf465 : ∀ s, s < 7 → rwv w456 85 s = rwv w 85 s := fun s hs => (rwv_fr hF459 (by decide)).trans (mf422 s hs)
    have ms466 : mu w456 < mu w := Nat.lt_of_le_of_lt (PK.fr hF459 (by decide) (by decide) pk420.2.2.2).2.1 ms423
    clear hn419
    by_cases hc467 : n460 = 0
    · refine xg_t (xg_ifT (u := n460) rfl xnm0 (xj_eqT hc467)) ?_
      refine xg_t (xg_blk (b := [(141, 1, 0, 0, 0, 0), (142, 1, 2, 1, 0, 0), (143, 1, 2, 3, 0, 0), (144, 2, 4, 50, 0, 0), (146, 1, 3, 2, 0, 0), (147, 1, 2, 3, 0, 0), (148, 1, 16, 0, 0, 0), (149, 1, 11, 0, 0, 0), (150, 2, 2, 4, 0, 0), (152, 3, 13, 211, 96, 200), (155, 1, 0, 0, 0, 0), (156, 1, 2, 1, 0, 0), (157, 1, 2, 3, 0, 0), (158, 2, 4, 50, 0, 0), (160, 1, 3, 2, 0, 0), (161, 1, 2, 3, 0, 0), (162, 1, 16, 0, 0, 0), (163, 1, 11, 0, 0, 0), (164, 1, 3, 1, 0, 0), (165, 1, 11, 0, 0, 0), (166, 1, 0, 0, 0, 0), (167, 1, 3, 1, 0, 0), (168, 3, 5, 999, 0, 0), (171, 3, 13, 199, 96, 196), (174, 3, 13, 211, 96, 200), (177, 3, 8, 394, 0, 0)]) rfl) ?_
      refine xg_t (xg_aload (va := (2, 82)) rfl rfl) ?_
      refine xg_t (xg_iload (va := (0, 1)) rfl rfl) ?_
      refine xg_t (xg_iload (va := (0, u45)) rfl rfl) ?_
      refine xg_t (xg_bip) ?_
      refine xg_t (xg_const) ?_
      refine xg_t (xg_iload (va := (0, u45)) rfl rfl) ?_
      refine xg_t (xg_imul (u := 2) (v := u45) (z := 2 * u45) xnm0 xnm0 (by omega)) ?_
      refine xg_t (xg_iadd (u := 50) (v := 2 * u45) (z := 50 + (2 * u45)) xnm0 xnm0 (by omega)) ?_
      refine xg_t (xg_iload (va := (0, n415)) rfl rfl) ?_
      refine xg_cVv mX12_puts (vs := [(0, 1), (0, u45), (0, 50 + (2 * u45)), (0, n415)]) (rest := []) (cn1 := 0) (sl1 := 0) rfl (mPuts1 (hI458) (by omega) (by omega) (by omega) (fun _ => by omega)) rfl (hF459.get (by decide) h82_454) rfl rfl rfl rfl rfl rfl (fun w468 hq469 => ?_)
      obtain ⟨hI470, hF471, hx472⟩ := hq469
      obtain ⟨hp473, hp474⟩ := hx472
      have pk475 : PK w w468 := PK.tr pk462 (PK.fr hF471 (by decide) (by decide) pk462.2.2.2)
      have os476 : ∀ j, (j < 50 + 2 * u45 ∨ 52 + 2 * u45 ≤ j) → j < 140 → rwv w468 86 j = rwv w 86 j := fun j hj hl => (hp474 j (by omega) hl).trans (os463 j hj hl)
      have rg477 : FA w468 ≠ 0 ∨ (0 ≤ n415 ∧ n415 ≤ 99) := rg464.imp_left (PK.fr hF471 (by decide) (by decide) pk462.2.2.2).1
      have mf478 : ∀ s, s < 7 → rwv w468 85 s = rwv w 85 s := fun s hs => (rwv_fr hF471 (by decide)).trans (mf465 s hs)
      have ms479 : mu w468 < mu w := Nat.lt_of_le_of_lt (PK.fr hF471 (by decide) (by decide) pk462.2.2.2).2.1 ms466
      clear rg464
      refine xg_t (xg_aload (va := (2, 82)) rfl rfl) ?_
      refine xg_t (xg_iload (va := (0, 1)) rfl rfl) ?_
      refine xg_t (xg_iload (va := (0, u45)) rfl rfl) ?_
      refine xg_t (xg_bip) ?_
      refine xg_t (xg_const) ?_
      refine xg_t (xg_iload (va := (0, u45)) rfl rfl) ?_
      refine xg_t (xg_imul (u := 2) (v := u45) (z := 2 * u45) xnm0 xnm0 (by omega)) ?_
      refine xg_t (xg_iadd (u := 50) (v := 2 * u45) (z := 50 + (2 * u45)) xnm0 xnm0 (by omega)) ?_
      refine xg_t (xg_const) ?_
      refine xg_t (xg_iadd (u := 50 + (2 * u45)) (v := 1) (z := (50 + (2 * u45)) + 1) xnm0 xnm0 (by omega)) ?_
      refine xg_t (xg_aload (va := (2, 82)) rfl rfl) ?_
      refine xg_t (xg_const) ?_
      refine xg_t (xg_sip) ?_
      refine xg_cVi mX12_numbered (vs := [(0, 1), (0, 999)]) (rest := [(0, (50 + (2 * u45)) + 1), (0, u45), (0, 1), (2, 82)]) (cn1 := 0) (sl1 := 0) rfl (mNumbered (hI470) (by omega) (by omega) pk475.2.2.2) rfl (hF471.get (by decide) (hF459.get (by decide) h82_454)) rfl rfl rfl rfl rfl rfl (fun n484 w480 hq481 => ?_)
      obtain ⟨hn485, hI482, hF483⟩ := hq481
      clear hb425 hb427 hb429 hb431 hb433 hb435 hb437 hb439 hb441 hb443 hb447 hb449 hb451 hb453
      obtain ⟨hn486, hn487, hn488⟩ := hn485
      have pk489 : PK w w480 := PK.tr pk475 hn487
      have os490 : ∀ j, (j < 50 + 2 * u45 ∨ 52 + 2 * u45 ≤ j) → j < 140 → rwv w480 86 j = rwv w 86 j := fun j hj hl => (rwv_fr hF483 (by decide)).trans (os476 j hj hl)
      have ix491 : u45 < 4 → rwv w480 86 (50 + (2 * u45)) = n415 := fun h => (rwv_fr hF483 (by decide)).trans (hp473 h)
      have rg492 : FA w480 ≠ 0 ∨ (0 ≤ n415 ∧ n415 ≤ 99) := rg477.imp_left hn487.1
      have mf493 : ∀ s, s < 7 → rwv w480 85 s = rwv w 85 s := fun s hs => (rwv_fr hF483 (by decide)).trans (mf478 s hs)
      have ms494 : mu w480 < mu w := Nat.lt_of_le_of_lt hn487.2.1 ms479
      clear hp473 rg477
      obtain ⟨f82_495, f82_497, f82_499, f82_501, f82_503, f82_505, f82_507, f82_509, f82_511, f82_513, f82_515, f82_516, f82_517, f82_519, f82_521, f82_523, h82_525, hb496, hb498, hb500, hb502, hb504, hb506, hb508, hb510, hb512, hb514, hb518, hb520, hb522, hb524, hb526⟩ := (hI482 82 (by decide) (by decide) : cp82 (wget w480 82))
      refine xg_cVv mX12_puts (vs := [(0, 1), (0, u45), (0, (50 + (2 * u45)) + 1), (0, n484)]) (rest := []) (cn1 := 0) (sl1 := 0) rfl (mPuts1 (hI482) (by omega) (by omega) (by omega) (fun _ => by omega)) rfl h82_525 rfl rfl rfl rfl rfl rfl (fun w527 hq528 => ?_)
      obtain ⟨hI529, hF530, hx531⟩ := hq528
      obtain ⟨hp532, hp533⟩ := hx531
      have pk534 : PK w w527 := PK.tr pk489 (PK.fr hF530 (by decide) (by decide) pk489.2.2.2)
      have os535 : ∀ j, (j < 50 + 2 * u45 ∨ 52 + 2 * u45 ≤ j) → j < 140 → rwv w527 86 j = rwv w 86 j := fun j hj hl => (hp533 j (by omega) hl).trans (os490 j hj hl)
      have ix536 : u45 < 4 → rwv w527 86 (50 + (2 * u45)) = n415 := fun h => (hp533 _ (by omega) (by omega)).trans (ix491 h)
      have rg537 : FA w527 ≠ 0 ∨ (0 ≤ n415 ∧ n415 ≤ 99) := rg492.imp_left (PK.fr hF530 (by decide) (by decide) pk489.2.2.2).1
      have rg538 : FA w527 ≠ 0 ∨ (1 ≤ n484 ∧ n484 ≤ 999) := hn488.imp_left (PK.fr hF530 (by decide) (by decide) pk489.2.2.2).1
      have mf539 : ∀ s, s < 7 → rwv w527 85 s = rwv w 85 s := fun s hs => (rwv_fr hF530 (by decide)).trans (mf493 s hs)
      have ms540 : mu w527 < mu w := Nat.lt_of_le_of_lt (PK.fr hF530 (by decide) (by decide) pk489.2.2.2).2.1 ms494
      clear ix491 rg492 hn488
      refine xg_t (xg_goto) ?_
      refine xg_t (xg_drop (l1 := [(0, (2, 82)), (1, (0, 1)), (3, (0, u45))]) (List.forall_mem_cons.mpr ⟨List.mem_cons_of_mem _ (List.mem_cons_of_mem _ (List.mem_cons_of_mem _ (List.mem_cons_of_mem _ (List.mem_cons_self)))), List.forall_mem_cons.mpr ⟨List.mem_cons_of_mem _ (List.mem_cons_of_mem _ (List.mem_cons_of_mem _ (List.mem_cons_self))), List.forall_mem_cons.mpr ⟨List.mem_cons_of_mem _ (List.mem_cons_self), fun _ h => absurd h List.not_mem_nil⟩⟩⟩)) ?_
      have hX541 : FA w527 ≠ 0 ∨ u45 < 4 := Or.inr (by omega)
      have hN542 : FA w527 ≠ 0 ∨ 4 ≤ u45 ∨ (1 ≤ rwv w527 86 (50 + 2 * u45 + 1) ∧ rwv w527 86 (50 + 2 * u45 + 1) ≤ 999) := by
        have hl543 : u45 < 4 → rwv w527 86 (50 + (2 * u45)) = n415 := ix536
        have hl544 : u45 < 4 → rwv w527 86 ((50 + (2 * u45)) + 1) = n484 := hp532
        have hl545 := rg537
        have hl546 := rg538
        omega
      exact jn68 w527 (hI529) (((((((hF55.up (by decide)).tr (hF414.up (by decide))).tr (hF459.up (by decide))).tr (hF471.up (by decide))).tr (hF483.up (by decide))).tr (hF530.up (by decide)))) (⟨pk534, os535, ms540, mf539, hX541, hN542⟩)
    · refine xg_t (xg_ifF (u := n460) rfl xnm0 (xj_eqF hc467)) ?_
      refine xg_t (xg_aload (va := (2, 82)) rfl rfl) ?_
      refine xg_t (xg_const) ?_
      refine xg_t (xg_iload (va := (0, at_)) rfl rfl) ?_
      refine xg_cVv mX12_also (vs := [(0, 3), (0, at_)]) (rest := []) (cn1 := 0) (sl1 := 0) rfl (mAlso (hI458) (by omega) (by omega) (by omega) pk462.2.2.2) rfl (hF459.get (by decide) h82_454) rfl rfl rfl rfl rfl rfl (fun w547 hq548 => ?_)
      obtain ⟨hI549, hF550, hx551⟩ := hq548
      have pk552 : PK w456 w547 := ⟨fun _ => hx551, Nat.le_of_eq (mu_fr hF550 (by decide)), fld_fr hF550 (by decide), Or.inr hx551⟩
      have pk553 : PK w w547 := PK.tr pk462 pk552
      have os554 : ∀ j, (j < 50 + 2 * u45 ∨ 52 + 2 * u45 ≤ j) → j < 140 → rwv w547 86 j = rwv w 86 j := fun j hj hl => (rwv_fr hF550 (by decide)).trans (os463 j hj hl)
      have rg555 : FA w547 ≠ 0 ∨ (0 ≤ n415 ∧ n415 ≤ 99) := rg464.imp_left pk552.1
      have mf556 : ∀ s, s < 7 → rwv w547 85 s = rwv w 85 s := fun s hs => (rwv_fr hF550 (by decide)).trans (mf465 s hs)
      have ms557 : mu w547 < mu w := Nat.lt_of_le_of_lt pk552.2.1 ms466
      clear rg464
      refine xg_t (xg_blk (b := [(141, 1, 0, 0, 0, 0), (142, 1, 2, 1, 0, 0), (143, 1, 2, 3, 0, 0), (144, 2, 4, 50, 0, 0), (146, 1, 3, 2, 0, 0), (147, 1, 2, 3, 0, 0), (148, 1, 16, 0, 0, 0), (149, 1, 11, 0, 0, 0), (150, 2, 2, 4, 0, 0), (152, 3, 13, 211, 96, 200), (155, 1, 0, 0, 0, 0), (156, 1, 2, 1, 0, 0), (157, 1, 2, 3, 0, 0), (158, 2, 4, 50, 0, 0), (160, 1, 3, 2, 0, 0), (161, 1, 2, 3, 0, 0), (162, 1, 16, 0, 0, 0), (163, 1, 11, 0, 0, 0), (164, 1, 3, 1, 0, 0), (165, 1, 11, 0, 0, 0), (166, 1, 0, 0, 0, 0), (167, 1, 3, 1, 0, 0), (168, 3, 5, 999, 0, 0), (171, 3, 13, 199, 96, 196), (174, 3, 13, 211, 96, 200), (177, 3, 8, 394, 0, 0)]) rfl) ?_
      refine xg_t (xg_aload (va := (2, 82)) rfl rfl) ?_
      refine xg_t (xg_iload (va := (0, 1)) rfl rfl) ?_
      refine xg_t (xg_iload (va := (0, u45)) rfl rfl) ?_
      refine xg_t (xg_bip) ?_
      refine xg_t (xg_const) ?_
      refine xg_t (xg_iload (va := (0, u45)) rfl rfl) ?_
      refine xg_t (xg_imul (u := 2) (v := u45) (z := 2 * u45) xnm0 xnm0 (by omega)) ?_
      refine xg_t (xg_iadd (u := 50) (v := 2 * u45) (z := 50 + (2 * u45)) xnm0 xnm0 (by omega)) ?_
      refine xg_t (xg_iload (va := (0, n415)) rfl rfl) ?_
      refine xg_cVv mX12_puts (vs := [(0, 1), (0, u45), (0, 50 + (2 * u45)), (0, n415)]) (rest := []) (cn1 := 0) (sl1 := 0) rfl (mPuts1 (hI549) (by omega) (by omega) (by omega) (fun _ => by omega)) rfl (hF550.get (by decide) (hF459.get (by decide) h82_454)) rfl rfl rfl rfl rfl rfl (fun w558 hq559 => ?_)
      obtain ⟨hI560, hF561, hx562⟩ := hq559
      obtain ⟨hp563, hp564⟩ := hx562
      have pk565 : PK w w558 := PK.tr pk553 (PK.fr hF561 (by decide) (by decide) pk553.2.2.2)
      have os566 : ∀ j, (j < 50 + 2 * u45 ∨ 52 + 2 * u45 ≤ j) → j < 140 → rwv w558 86 j = rwv w 86 j := fun j hj hl => (hp564 j (by omega) hl).trans (os554 j hj hl)
      have rg567 : FA w558 ≠ 0 ∨ (0 ≤ n415 ∧ n415 ≤ 99) := rg555.imp_left (PK.fr hF561 (by decide) (by decide) pk553.2.2.2).1
      have rg568 : FA w558 ≠ 0 ∨ 0 = 1 := (Or.inl hx551 : FA w547 ≠ 0 ∨ 0 = 1).imp_left (PK.fr hF561 (by decide) (by decide) pk553.2.2.2).1
      have mf569 : ∀ s, s < 7 → rwv w558 85 s = rwv w 85 s := fun s hs => (rwv_fr hF561 (by decide)).trans (mf556 s hs)
      have ms570 : mu w558 < mu w := Nat.lt_of_le_of_lt (PK.fr hF561 (by decide) (by decide) pk553.2.2.2).2.1 ms557
      clear rg555
      refine xg_t (xg_aload (va := (2, 82)) rfl rfl) ?_
      refine xg_t (xg_iload (va := (0, 1)) rfl rfl) ?_
      refine xg_t (xg_iload (va := (0, u45)) rfl rfl) ?_
      refine xg_t (xg_bip) ?_
      refine xg_t (xg_const) ?_
      refine xg_t (xg_iload (va := (0, u45)) rfl rfl) ?_
      refine xg_t (xg_imul (u := 2) (v := u45) (z := 2 * u45) xnm0 xnm0 (by omega)) ?_
      refine xg_t (xg_iadd (u := 50) (v := 2 * u45) (z := 50 + (2 * u45)) xnm0 xnm0 (by omega)) ?_
      refine xg_t (xg_const) ?_
      refine xg_t (xg_iadd (u := 50 + (2 * u45)) (v := 1) (z := (50 + (2 * u45)) + 1) xnm0 xnm0 (by omega)) ?_
      refine xg_t (xg_aload (va := (2, 82)) rfl rfl) ?_
      refine xg_t (xg_const) ?_
      refine xg_t (xg_sip) ?_
      refine xg_cVi mX12_numbered (vs := [(0, 1), (0, 999)]) (rest := [(0, (50 + (2 * u45)) + 1), (0, u45), (0, 1), (2, 82)]) (cn1 := 0) (sl1 := 0) rfl (mNumbered (hI560) (by omega) (by omega) pk565.2.2.2) rfl (hF561.get (by decide) (hF550.get (by decide) (hF459.get (by decide) h82_454))) rfl rfl rfl rfl rfl rfl (fun n575 w571 hq572 => ?_)
      obtain ⟨hn576, hI573, hF574⟩ := hq572
      clear hb425 hb427 hb429 hb431 hb433 hb435 hb437 hb439 hb441 hb443 hb447 hb449 hb451 hb453
      obtain ⟨hn577, hn578, hn579⟩ := hn576
      have pk580 : PK w w571 := PK.tr pk565 hn578
      have os581 : ∀ j, (j < 50 + 2 * u45 ∨ 52 + 2 * u45 ≤ j) → j < 140 → rwv w571 86 j = rwv w 86 j := fun j hj hl => (rwv_fr hF574 (by decide)).trans (os566 j hj hl)
      have ix582 : u45 < 4 → rwv w571 86 (50 + (2 * u45)) = n415 := fun h => (rwv_fr hF574 (by decide)).trans (hp563 h)
      have rg583 : FA w571 ≠ 0 ∨ (0 ≤ n415 ∧ n415 ≤ 99) := rg567.imp_left hn578.1
      have rg584 : FA w571 ≠ 0 ∨ 0 = 1 := rg568.imp_left hn578.1
      have mf585 : ∀ s, s < 7 → rwv w571 85 s = rwv w 85 s := fun s hs => (rwv_fr hF574 (by decide)).trans (mf569 s hs)
      have ms586 : mu w571 < mu w := Nat.lt_of_le_of_lt hn578.2.1 ms570
      clear hp563 rg567 rg568
      obtain ⟨f82_587, f82_589, f82_591, f82_593, f82_595, f82_597, f82_599, f82_601, f82_603, f82_605, f82_607, f82_608, f82_609, f82_611, f82_613, f82_615, h82_617, hb588, hb590, hb592, hb594, hb596, hb598, hb600, hb602, hb604, hb606, hb610, hb612, hb614, hb616, hb618⟩ := (hI573 82 (by decide) (by decide) : cp82 (wget w571 82))
      refine xg_cVv mX12_puts (vs := [(0, 1), (0, u45), (0, (50 + (2 * u45)) + 1), (0, n575)]) (rest := []) (cn1 := 0) (sl1 := 0) rfl (mPuts1 (hI573) (by omega) (by omega) (by omega) (fun _ => by omega)) rfl h82_617 rfl rfl rfl rfl rfl rfl (fun w619 hq620 => ?_)
      obtain ⟨hI621, hF622, hx623⟩ := hq620
      obtain ⟨hp624, hp625⟩ := hx623
      have pk626 : PK w w619 := PK.tr pk580 (PK.fr hF622 (by decide) (by decide) pk580.2.2.2)
      have os627 : ∀ j, (j < 50 + 2 * u45 ∨ 52 + 2 * u45 ≤ j) → j < 140 → rwv w619 86 j = rwv w 86 j := fun j hj hl => (hp625 j (by omega) hl).trans (os581 j hj hl)
      have ix628 : u45 < 4 → rwv w619 86 (50 + (2 * u45)) = n415 := fun h => (hp625 _ (by omega) (by omega)).trans (ix582 h)
      have rg629 : FA w619 ≠ 0 ∨ (0 ≤ n415 ∧ n415 ≤ 99) := rg583.imp_left (PK.fr hF622 (by decide) (by decide) pk580.2.2.2).1
      have rg630 : FA w619 ≠ 0 ∨ 0 = 1 := rg584.imp_left (PK.fr hF622 (by decide) (by decide) pk580.2.2.2).1
      have rg631 : FA w619 ≠ 0 ∨ (1 ≤ n575 ∧ n575 ≤ 999) := hn579.imp_left (PK.fr hF622 (by decide) (by decide) pk580.2.2.2).1
      have mf632 : ∀ s, s < 7 → rwv w619 85 s = rwv w 85 s := fun s hs => (rwv_fr hF622 (by decide)).trans (mf585 s hs)
      have ms633 : mu w619 < mu w := Nat.lt_of_le_of_lt (PK.fr hF622 (by decide) (by decide) pk580.2.2.2).2.1 ms586
      clear ix582 rg583 rg584 hn579
      refine xg_t (xg_goto) ?_
      refine xg_t (xg_drop (l1 := [(0, (2, 82)), (1, (0, 1)), (3, (0, u45))]) (List.forall_mem_cons.mpr ⟨List.mem_cons_of_mem _ (List.mem_cons_of_mem _ (List.mem_cons_of_mem _ (List.mem_cons_of_mem _ (List.mem_cons_self)))), List.forall_mem_cons.mpr ⟨List.mem_cons_of_mem _ (List.mem_cons_of_mem _ (List.mem_cons_of_mem _ (List.mem_cons_self))), List.forall_mem_cons.mpr ⟨List.mem_cons_of_mem _ (List.mem_cons_self), fun _ h => absurd h List.not_mem_nil⟩⟩⟩)) ?_
      have hX634 : FA w619 ≠ 0 ∨ u45 < 4 := Or.inl (by have q := rg630; omega)
      have hN635 : FA w619 ≠ 0 ∨ 4 ≤ u45 ∨ (1 ≤ rwv w619 86 (50 + 2 * u45 + 1) ∧ rwv w619 86 (50 + 2 * u45 + 1) ≤ 999) := by
        have hl636 : u45 < 4 → rwv w619 86 (50 + (2 * u45)) = n415 := ix628
        have hl637 : u45 < 4 → rwv w619 86 ((50 + (2 * u45)) + 1) = n575 := hp624
        have hl638 := rg629
        have hl639 := rg631
        omega
      exact jn68 w619 (hI621) ((((((((hF55.up (by decide)).tr (hF414.up (by decide))).tr (hF459.up (by decide))).tr (hF550.up (by decide))).tr (hF561.up (by decide))).tr (hF574.up (by decide))).tr (hF622.up (by decide)))) (⟨pk626, os627, ms633, mf632, hX634, hN635⟩)
  · refine xg_t (xg_icF (u := u45) (v := 4) rfl xnm0 xnm0 (xj_ltF (by omega) (by omega))) ?_
    refine xg_t (xg_aload (va := (2, 82)) rfl rfl) ?_
    refine xg_t (xg_const) ?_
    refine xg_t (xg_iload (va := (0, at_)) rfl rfl) ?_
    refine xg_cVv mX12_also (vs := [(0, 3), (0, at_)]) (rest := []) (cn1 := 0) (sl1 := 0) rfl (mAlso (hI) (by omega) (by omega) (by omega) (PK.rf hps).2.2.2) rfl h82_31 rfl rfl rfl rfl rfl rfl (fun w640 hq641 => ?_)
    obtain ⟨hI642, hF643, hx644⟩ := hq641
    have pk645 : PK w w640 := ⟨fun _ => hx644, Nat.le_of_eq (mu_fr hF643 (by decide)), fld_fr hF643 (by decide), Or.inr hx644⟩
    have pk646 : PK w w640 := PK.tr (PK.rf hps) pk645
    have os647 : ∀ j, (j < 50 + 2 * u45 ∨ 52 + 2 * u45 ≤ j) → j < 140 → rwv w640 86 j = rwv w 86 j := fun j hj hl => (rwv_fr hF643 (by decide)).trans ((fun j _ _ => rfl) j hj hl)
    have mf648 : ∀ s, s < 7 → rwv w640 85 s = rwv w 85 s := fun s hs => (rwv_fr hF643 (by decide)).trans ((fun _ _ => rfl) s hs)
    have hf649 := fld_fr (c := 82) (j := 7) hF643 (by decide)
    refine xg_t (xg_blk (b := [(64, 1, 0, 0, 0, 0), (65, 3, 13, 110, 96, 190), (68, 1, 2, 1, 0, 0), (69, 39, 33, 362, 0, 9)]) rfl) ?_
    refine xg_t (xg_aload (va := (2, 82)) rfl rfl) ?_
    refine xg_cVv mX12_advance (vs := []) (rest := []) (cn1 := 0) (sl1 := 0) rfl (mAdvance (hI642)) rfl (hF643.get (by decide) h82_31) rfl rfl rfl rfl rfl rfl (fun w650 hq651 => ?_)
    obtain ⟨hI652, hF653, hx654⟩ := hq651
    clear hb2 hb4 hb6 hb8 hb10 hb12 hb14 hb16 hb18 hb20 hb24 hb26 hb28 hb30
    obtain ⟨hv655, hv656, hv657, hv658⟩ := hx654
    have hf660 := FA_fr hF653 (by decide)
    have hs661 := pk646.2.2.2
    unfold PS at hs661
    have pk659 : PK w640 w650 := ⟨fun _ => by omega, hv655, hv658, (show fld w650 82 10 = 0 ∨ FA w650 ≠ 0 by omega)⟩
    clear hs661
    have pk662 : PK w w650 := PK.tr pk646 pk659
    have os663 : ∀ j, (j < 50 + 2 * u45 ∨ 52 + 2 * u45 ≤ j) → j < 140 → rwv w650 86 j = rwv w 86 j := fun j hj hl => (rwv_fr hF653 (by decide)).trans (os647 j hj hl)
    have rg664 : FA w650 ≠ 0 ∨ 0 = 1 := (Or.inl hx644 : FA w640 ≠ 0 ∨ 0 = 1).imp_left pk659.1
    have mf665 : ∀ s, s < 7 → rwv w650 85 s = rwv w 85 s := fun s hs => (rwv_fr hF653 (by decide)).trans (mf648 s hs)
    have ms666 : mu w650 < mu w := Nat.lt_of_lt_of_le (hv656 (by omega)) pk646.2.1
    clear hv656
    have jn667 : ∀ (w668 : List (List xE)), xMnv w668 → xFr [82, 83, 85, 86, 87] w w668 → (PK w w668 ∧ (∀ j, (j < 50 + 2 * u45 ∨ 52 + 2 * u45 ≤ j) → j < 140 → rwv w668 86 j = rwv w 86 j) ∧ mu w668 < mu w ∧ (∀ s, s < 7 → rwv w668 85 s = rwv w 85 s) ∧ (FA w668 ≠ 0 ∨ u45 < 4) ∧ (FA w668 ≠ 0 ∨ 4 ≤ u45 ∨ (1 ≤ rwv w668 86 (50 + 2 * u45 + 1) ∧ rwv w668 86 (50 + 2 * u45 + 1) ≤ 999))) → xTo (d + 7) mX12_aLine (394, [], [(0, (2, 82)), (1, (0, 1)), (3, (0, u45))], [], (w668, bd, fc, 0, 0, rr)) (fun φ => ∃ w', xEnd 0 [] (w', bd, fc, 0, 0, rr) φ ∧ xMnv w' ∧ xFr [82, 83, 85, 86, 87] w w' ∧ ((FA w ≠ 0 → FA w' ≠ 0) ∧ PS w' ∧ ((fld w' 82 10 = 1 ∧ mu w' = mu w ∧ fld w' 82 14 = fld w 82 14 ∧ ∀ s, s < 7 → rwv w' 85 s = rwv w 85 s) ∨ (mu w' < mu w ∧ fld w' 82 14 = fld w 82 14 + 1 ∧ ∀ s, s < 7 → rwv w' 85 s ≤ rwv w 85 s + 1)) ∧ (FA w' ≠ 0 ∨ (DATA w → DATA w')))) := by
      intro w668 hI669 hF670 he671
      obtain ⟨hj672, hj673, hj674, hj675, hj676, hj677⟩ := he671
      refine xg_t (xg_blk (b := [(394, 1, 0, 0, 0, 0), (395, 3, 1, 12, 10, 180), (398, 3, 7, 416, 1, 0), (401, 1, 0, 0, 0, 0), (402, 3, 1, 12, 7, 151), (405, 1, 3, 2, 0, 0), (406, 3, 6, 416, 1, 0), (409, 1, 0, 0, 0, 0), (410, 3, 13, 110, 96, 190), (413, 3, 8, 420, 0, 0)]) rfl) ?_
      refine xg_t (xg_aload (va := (2, 82)) rfl rfl) ?_
      obtain ⟨f82_678, f82_680, f82_682, f82_684, f82_686, f82_688, f82_690, f82_692, f82_694, f82_696, f82_698, f82_699, f82_700, f82_702, f82_704, f82_706, h82_708, hb679, hb681, hb683, hb685, hb687, hb689, hb691, hb693, hb695, hb697, hb701, hb703, hb705, hb707, hb709⟩ := (hI669 82 (by decide) (by decide) : cp82 (wget w668 82))
      refine xg_t (xg_getf (va := (0, f82_694)) h82_708 rfl) ?_
      by_cases hc710 : f82_694 = 0
      · refine xg_t (xg_ifF (u := f82_694) rfl xnm0 (xj_neF hc710)) ?_
        refine xg_t (xg_aload (va := (2, 82)) rfl rfl) ?_
        refine xg_t (xg_getf (va := (0, f82_688)) h82_708 rfl) ?_
        refine xg_t (xg_const) ?_
        by_cases hc711 : f82_688 = 2
        · refine xg_t (xg_icF (u := f82_688) (v := 2) rfl xnm0 xnm0 (xj_neF hc711)) ?_
          refine xg_t (xg_aload (va := (2, 82)) rfl rfl) ?_
          refine xg_cVv mX12_advance (vs := []) (rest := []) (cn1 := 0) (sl1 := 0) rfl (mAdvance (hI669)) rfl h82_708 rfl rfl rfl rfl rfl rfl (fun w712 hq713 => ?_)
          obtain ⟨hI714, hF715, hx716⟩ := hq713
          clear hb679 hb681 hb683 hb685 hb687 hb689 hb691 hb693 hb695 hb697 hb701 hb703 hb705 hb707
          obtain ⟨hv717, hv718, hv719, hv720⟩ := hx716
          have hf722 := FA_fr hF715 (by decide)
          have hs723 := hj672.2.2.2
          unfold PS at hs723
          have pk721 : PK w668 w712 := ⟨fun _ => by omega, hv717, hv720, (show fld w712 82 10 = 0 ∨ FA w712 ≠ 0 by omega)⟩
          clear hs723
          clear hv718
          have pk724 : PK w w712 := PK.tr hj672 pk721
          have os725 : ∀ j, (j < 50 + 2 * u45 ∨ 52 + 2 * u45 ≤ j) → j < 140 → rwv w712 86 j = rwv w 86 j := fun j hj hl => (rwv_fr hF715 (by decide)).trans (hj673 j hj hl)
          have rg726 : FA w712 ≠ 0 ∨ u45 < 4 := hj676.imp_left pk721.1
          have mf727 : ∀ s, s < 7 → rwv w712 85 s = rwv w 85 s := fun s hs => (rwv_fr hF715 (by decide)).trans (hj675 s hs)
          have hl728 : rwv w712 86 (50 + 2 * u45 + 1) = rwv w668 86 (50 + 2 * u45 + 1) := rwv_fr hF715 (by decide)
          have nw729 : FA w712 ≠ 0 ∨ 4 ≤ u45 ∨ (1 ≤ rwv w712 86 (50 + 2 * u45 + 1) ∧ rwv w712 86 (50 + 2 * u45 + 1) ≤ 999) := by have q := hj677; have q1 := pk721.1; omega
          clear hj677
          have ms730 : mu w712 < mu w := Nat.lt_of_le_of_lt pk721.2.1 hj674
          clear hj676
          refine xg_t (xg_goto) ?_
          refine xg_t (xg_blk (b := [(420, 1, 0, 0, 0, 0), (421, 3, 1, 12, 11, 17), (424, 1, 2, 1, 0, 0), (425, 1, 39, 0, 0, 0), (426, 1, 10, 0, 0, 0), (427, 1, 3, 1, 0, 0), (428, 1, 11, 0, 0, 0), (429, 1, 17, 0, 0, 0), (430, 1, 0, 0, 0, 0), (431, 1, 19, 0, 0, 0), (432, 3, 1, 12, 14, 212), (435, 1, 3, 1, 0, 0), (436, 1, 11, 0, 0, 0), (437, 3, 14, 12, 14, 212), (440, 1, 12, 0, 0, 0)]) rfl) ?_
          obtain ⟨f82_731, f82_733, f82_735, f82_737, f82_739, f82_741, f82_743, f82_745, f82_747, f82_749, f82_751, f82_752, f82_753, f82_755, f82_757, f82_759, h82_761, hb732, hb734, hb736, hb738, hb740, hb742, hb744, hb746, hb748, hb750, hb754, hb756, hb758, hb760, hb762⟩ := (hI714 82 (by decide) (by decide) : cp82 (wget w712 82))
          have hf763 : fld w712 82 4 = f82_735 := fld_of h82_761
          have hf764 : fld w712 82 5 = f82_737 := fld_of h82_761
          have hf765 : fld w712 82 7 = f82_741 := fld_of h82_761
          have hf766 : fld w712 82 10 = f82_747 := fld_of h82_761
          have hf767 : fld w712 82 14 = f82_749 := fld_of h82_761
          have hu768 : mu w712 = 2 * (fld w712 82 4 - fld w712 82 5) + min 1 (fld w712 82 7) := rfl
          have hf769 := pk724.2.2.1
          have hl770 : f82_749 ≤ 1000 := by omega
          refine xg_t (xg_aload (va := (2, 82)) rfl rfl) ?_
          refine xg_t (xg_getf (va := (2, 85)) h82_761 rfl) ?_
          refine xg_t (xg_iload (va := (0, 1)) rfl rfl) ?_
          refine xg_t (xg_dup2 rfl) ?_
          obtain ⟨g85_771, h85_772, hb773⟩ := (hI714 85 (by decide) (by decide) : cpI 7 52 4294967295 (wget w712 85))
          have h85_772 : xRow w712 85 7 52 g85_771 := h85_772
          refine xg_ialdB (n := 1) (B := 4294967295) h85_772 (hb773) xnm0 (by omega) (fun u774 hu775 he776 => ?_)
          have hl777 : u774 = u45 := by have q1 := rwv_of h85_772 (show 1 < 7 by decide); have q2 := mf727 1 (by decide); omega
          refine xg_t (xg_const) ?_
          refine xg_t (xg_iadd (u := u774) (v := 1) (z := u774 + 1) xnm0 xnm0 (by omega)) ?_
          refine xg_iastK (n := 1) (u := u774 + 1) h85_772 xnm0 xnm0 rfl (by omega) (fun w778 hr779 hb780 => ?_)
          refine xg_t (xg_aload (va := (2, 82)) rfl rfl) ?_
          refine xg_t (xg_dup rfl) ?_
          refine xg_t (xg_getf (va := (0, f82_749)) (hb780.get (by decide) h82_761) rfl) ?_
          refine xg_t (xg_const) ?_
          refine xg_t (xg_iadd (u := f82_749) (v := 1) (z := f82_749 + 1) xnm0 xnm0 (by omega)) ?_
          refine xg_putI (fl1 := [(2, 83), (2, 84), (0, f82_731), (0, f82_733), (0, f82_735), (0, f82_737), (0, f82_739), (0, f82_741), (0, f82_743), (0, f82_745), (0, f82_747), (2, 85), (2, 86), (2, 87), (0, f82_749 + 1), (2, 88), (2, 89), (2, 90), (2, 91), (2, 92), (2, 93), (2, 94), (4, f82_751), (4, f82_752), (0, f82_753), (2, 95), (2, 96), (2, 97), (2, 98), (2, 99), (2, 100), (2, 101), (2, 102), (0, f82_755), (2, 103), (2, 104), (2, 105), (2, 106), (2, 107), (2, 108), (2, 109), (0, f82_757), (0, f82_759), (2, 110), (2, 111), (2, 112), (2, 113)]) (hb780.get (by decide) h82_761) rfl rfl rfl (fun w781 hk782 hb783 => ?_)
          have hF784 : xFr [82, 85] w712 w781 := ((xFr.of (S := [82, 85]) hb780 (by decide)).tr (xFr.of (S := [82, 85]) hb783 (by decide)))
          have hA785 := FA_fr hF784 (by decide)
          have hf786 : fld w781 82 4 = f82_735 := fld_of hk782
          have hf787 : fld w781 82 5 = f82_737 := fld_of hk782
          have hf788 : fld w781 82 7 = f82_741 := fld_of hk782
          have hf789 : fld w781 82 10 = f82_747 := fld_of hk782
          have hf790 : fld w781 82 14 = f82_749 + 1 := fld_of hk782
          have hu791 : mu w781 = 2 * (fld w781 82 4 - fld w781 82 5) + min 1 (fld w781 82 7) := rfl
          have pq792 := pk724
          unfold PK PS at pq792
          have hM793 : ∀ s, s < 7 → s ≠ 1 → rwv w781 85 s = rwv w 85 s := fun s hs hn => (rwv_of (hr779.but hb783 (by decide)) hs).trans ((if_neg hn).trans ((rwv_of h85_772 hs).symm.trans (mf727 s hs)))
          have hM794 : rwv w781 85 1 = u45 + 1 := (rwv_of (hr779.but hb783 (by decide)) (by decide)).trans ((if_pos rfl).trans (by omega))
          have hM795 : ∀ s, s < 7 → rwv w781 85 s ≤ rwv w 85 s + 1 := fun s hs => by
            by_cases z : s = 1
            · subst z; omega
            · rw [hM793 s hs z]; omega
          have hO796 : ∀ j, (j < 50 + 2 * u45 ∨ 52 + 2 * u45 ≤ j) → j < 140 → rwv w781 86 j = rwv w 86 j := fun j hj hl => (rwv_fr hF784 (by decide)).trans (os725 j hj hl)
          have hl798 : FA w712 ≠ 0 ∨ u45 < 4 := rg726
          have hl799 : rwv w781 86 (50 + 2 * u45 + 1) = rwv w712 86 (50 + 2 * u45 + 1) := rwv_fr hF784 (by decide)
          have hN797 : FA w781 ≠ 0 ∨ 4 ≤ u45 ∨ (1 ≤ rwv w781 86 (50 + 2 * u45 + 1) ∧ rwv w781 86 (50 + 2 * u45 + 1) ≤ 999) := by have q := nw729; omega
          have hX800 : FA w781 ≠ 0 ∨ u45 < 4 := by omega
          have hD801 : FA w781 ≠ 0 ∨ (DATA w → DATA w781) := by
            by_cases z : FA w781 ≠ 0
            · exact Or.inl z
            · exact Or.inr (fun hd => hd.s1 hM793 hK48 hM794 (hX800.resolve_left z) hO796 ((hN797.resolve_left z).resolve_left (by have := hX800.resolve_left z; omega)))
          exact xg_e ⟨w781, ⟨rfl, rfl⟩, xMnv.up (S := [85, 82]) hI714 ((xFr.of (S := [85, 82]) hb780 (by decide)).tr (xFr.of (S := [85, 82]) hb783 (by decide))) (List.forall_mem_cons.mpr ⟨(show cpI 7 52 4294967295 (wget w781 85) from ⟨_, (hr779.but hb783 (by decide)), xrb (by omega) (hb773)⟩), List.forall_mem_cons.mpr ⟨(show cp82 (wget w781 82) from ⟨f82_731, f82_733, f82_735, f82_737, f82_739, f82_741, f82_743, f82_745, f82_747, f82_749 + 1, f82_751, f82_752, f82_753, f82_755, f82_757, f82_759, hk782, hb732, hb734, hb736, hb738, hb740, hb742, hb744, hb746, hb748, by omega, hb754, hb756, hb758, hb760, by omega⟩), fun _ h => absurd h List.not_mem_nil⟩⟩), ((hF670.tr (hF715.up (by decide))).tr ((xFr.of (S := [82, 83, 85, 86, 87]) hb780 (by decide)).tr (xFr.of (S := [82, 83, 85, 86, 87]) hb783 (by decide)))), ⟨fun h => by have := pq792.1 h; omega, (show fld w781 82 10 = 0 ∨ FA w781 ≠ 0 by omega), Or.inr ⟨by have := ms730; omega, by omega, hM795⟩, hD801⟩⟩
        · refine xg_t (xg_icT (u := f82_688) (v := 2) rfl xnm0 xnm0 (xj_neT hc711)) ?_
          refine xg_t (xg_blk (b := [(416, 1, 0, 0, 0, 0), (417, 3, 13, 140, 96, 183)]) rfl) ?_
          refine xg_t (xg_aload (va := (2, 82)) rfl rfl) ?_
          refine xg_cVv mX12_ends (vs := []) (rest := []) (cn1 := 0) (sl1 := 0) rfl (mEnds (hI669) hj672.2.2.2) rfl h82_708 rfl rfl rfl rfl rfl rfl (fun w802 hq803 => ?_)
          obtain ⟨hI804, hF805, hx806⟩ := hq803
          clear hb679 hb681 hb683 hb685 hb687 hb689 hb691 hb693 hb695 hb697 hb701 hb703 hb705 hb707
          obtain ⟨hv807, hv808, hv809, hv810⟩ := hx806
          have pk811 : PK w668 w802 := ⟨fun _ => hv807, by omega, by omega, Or.inr hv807⟩
          have pk812 : PK w w802 := PK.tr hj672 pk811
          have os813 : ∀ j, (j < 50 + 2 * u45 ∨ 52 + 2 * u45 ≤ j) → j < 140 → rwv w802 86 j = rwv w 86 j := fun j hj hl => (rwv_fr hF805 (by decide)).trans (hj673 j hj hl)
          have rg814 : FA w802 ≠ 0 ∨ u45 < 4 := hj676.imp_left pk811.1
          have mf815 : ∀ s, s < 7 → rwv w802 85 s = rwv w 85 s := fun s hs => (rwv_fr hF805 (by decide)).trans (hj675 s hs)
          have hl816 : rwv w802 86 (50 + 2 * u45 + 1) = rwv w668 86 (50 + 2 * u45 + 1) := rwv_fr hF805 (by decide)
          have nw817 : FA w802 ≠ 0 ∨ 4 ≤ u45 ∨ (1 ≤ rwv w802 86 (50 + 2 * u45 + 1) ∧ rwv w802 86 (50 + 2 * u45 + 1) ≤ 999) := by have q := hj677; have q1 := pk811.1; omega
          clear hj677
          have ms818 : mu w802 < mu w := Nat.lt_of_le_of_lt pk811.2.1 hj674
          clear hj676
          refine xg_t (xg_blk (b := [(420, 1, 0, 0, 0, 0), (421, 3, 1, 12, 11, 17), (424, 1, 2, 1, 0, 0), (425, 1, 39, 0, 0, 0), (426, 1, 10, 0, 0, 0), (427, 1, 3, 1, 0, 0), (428, 1, 11, 0, 0, 0), (429, 1, 17, 0, 0, 0), (430, 1, 0, 0, 0, 0), (431, 1, 19, 0, 0, 0), (432, 3, 1, 12, 14, 212), (435, 1, 3, 1, 0, 0), (436, 1, 11, 0, 0, 0), (437, 3, 14, 12, 14, 212), (440, 1, 12, 0, 0, 0)]) rfl) ?_
          obtain ⟨f82_819, f82_821, f82_823, f82_825, f82_827, f82_829, f82_831, f82_833, f82_835, f82_837, f82_839, f82_840, f82_841, f82_843, f82_845, f82_847, h82_849, hb820, hb822, hb824, hb826, hb828, hb830, hb832, hb834, hb836, hb838, hb842, hb844, hb846, hb848, hb850⟩ := (hI804 82 (by decide) (by decide) : cp82 (wget w802 82))
          have hf851 : fld w802 82 4 = f82_823 := fld_of h82_849
          have hf852 : fld w802 82 5 = f82_825 := fld_of h82_849
          have hf853 : fld w802 82 7 = f82_829 := fld_of h82_849
          have hf854 : fld w802 82 10 = f82_835 := fld_of h82_849
          have hf855 : fld w802 82 14 = f82_837 := fld_of h82_849
          have hu856 : mu w802 = 2 * (fld w802 82 4 - fld w802 82 5) + min 1 (fld w802 82 7) := rfl
          have hf857 := pk812.2.2.1
          have hl858 : f82_837 ≤ 1000 := by omega
          refine xg_t (xg_aload (va := (2, 82)) rfl rfl) ?_
          refine xg_t (xg_getf (va := (2, 85)) h82_849 rfl) ?_
          refine xg_t (xg_iload (va := (0, 1)) rfl rfl) ?_
          refine xg_t (xg_dup2 rfl) ?_
          obtain ⟨g85_859, h85_860, hb861⟩ := (hI804 85 (by decide) (by decide) : cpI 7 52 4294967295 (wget w802 85))
          have h85_860 : xRow w802 85 7 52 g85_859 := h85_860
          refine xg_ialdB (n := 1) (B := 4294967295) h85_860 (hb861) xnm0 (by omega) (fun u862 hu863 he864 => ?_)
          have hl865 : u862 = u45 := by have q1 := rwv_of h85_860 (show 1 < 7 by decide); have q2 := mf815 1 (by decide); omega
          refine xg_t (xg_const) ?_
          refine xg_t (xg_iadd (u := u862) (v := 1) (z := u862 + 1) xnm0 xnm0 (by omega)) ?_
          refine xg_iastK (n := 1) (u := u862 + 1) h85_860 xnm0 xnm0 rfl (by omega) (fun w866 hr867 hb868 => ?_)
          refine xg_t (xg_aload (va := (2, 82)) rfl rfl) ?_
          refine xg_t (xg_dup rfl) ?_
          refine xg_t (xg_getf (va := (0, f82_837)) (hb868.get (by decide) h82_849) rfl) ?_
          refine xg_t (xg_const) ?_
          refine xg_t (xg_iadd (u := f82_837) (v := 1) (z := f82_837 + 1) xnm0 xnm0 (by omega)) ?_
          refine xg_putI (fl1 := [(2, 83), (2, 84), (0, f82_819), (0, f82_821), (0, f82_823), (0, f82_825), (0, f82_827), (0, f82_829), (0, f82_831), (0, f82_833), (0, f82_835), (2, 85), (2, 86), (2, 87), (0, f82_837 + 1), (2, 88), (2, 89), (2, 90), (2, 91), (2, 92), (2, 93), (2, 94), (4, f82_839), (4, f82_840), (0, f82_841), (2, 95), (2, 96), (2, 97), (2, 98), (2, 99), (2, 100), (2, 101), (2, 102), (0, f82_843), (2, 103), (2, 104), (2, 105), (2, 106), (2, 107), (2, 108), (2, 109), (0, f82_845), (0, f82_847), (2, 110), (2, 111), (2, 112), (2, 113)]) (hb868.get (by decide) h82_849) rfl rfl rfl (fun w869 hk870 hb871 => ?_)
          have hF872 : xFr [82, 85] w802 w869 := ((xFr.of (S := [82, 85]) hb868 (by decide)).tr (xFr.of (S := [82, 85]) hb871 (by decide)))
          have hA873 := FA_fr hF872 (by decide)
          have hf874 : fld w869 82 4 = f82_823 := fld_of hk870
          have hf875 : fld w869 82 5 = f82_825 := fld_of hk870
          have hf876 : fld w869 82 7 = f82_829 := fld_of hk870
          have hf877 : fld w869 82 10 = f82_835 := fld_of hk870
          have hf878 : fld w869 82 14 = f82_837 + 1 := fld_of hk870
          have hu879 : mu w869 = 2 * (fld w869 82 4 - fld w869 82 5) + min 1 (fld w869 82 7) := rfl
          have pq880 := pk812
          unfold PK PS at pq880
          have hM881 : ∀ s, s < 7 → s ≠ 1 → rwv w869 85 s = rwv w 85 s := fun s hs hn => (rwv_of (hr867.but hb871 (by decide)) hs).trans ((if_neg hn).trans ((rwv_of h85_860 hs).symm.trans (mf815 s hs)))
          have hM882 : rwv w869 85 1 = u45 + 1 := (rwv_of (hr867.but hb871 (by decide)) (by decide)).trans ((if_pos rfl).trans (by omega))
          have hM883 : ∀ s, s < 7 → rwv w869 85 s ≤ rwv w 85 s + 1 := fun s hs => by
            by_cases z : s = 1
            · subst z; omega
            · rw [hM881 s hs z]; omega
          have hO884 : ∀ j, (j < 50 + 2 * u45 ∨ 52 + 2 * u45 ≤ j) → j < 140 → rwv w869 86 j = rwv w 86 j := fun j hj hl => (rwv_fr hF872 (by decide)).trans (os813 j hj hl)
          have hl886 : FA w802 ≠ 0 ∨ u45 < 4 := rg814
          have hl887 : rwv w869 86 (50 + 2 * u45 + 1) = rwv w802 86 (50 + 2 * u45 + 1) := rwv_fr hF872 (by decide)
          have hN885 : FA w869 ≠ 0 ∨ 4 ≤ u45 ∨ (1 ≤ rwv w869 86 (50 + 2 * u45 + 1) ∧ rwv w869 86 (50 + 2 * u45 + 1) ≤ 999) := by have q := nw817; omega
          have hX888 : FA w869 ≠ 0 ∨ u45 < 4 := by omega
          have hD889 : FA w869 ≠ 0 ∨ (DATA w → DATA w869) := by
            by_cases z : FA w869 ≠ 0
            · exact Or.inl z
            · exact Or.inr (fun hd => hd.s1 hM881 hK48 hM882 (hX888.resolve_left z) hO884 ((hN885.resolve_left z).resolve_left (by have := hX888.resolve_left z; omega)))
          exact xg_e ⟨w869, ⟨rfl, rfl⟩, xMnv.up (S := [85, 82]) hI804 ((xFr.of (S := [85, 82]) hb868 (by decide)).tr (xFr.of (S := [85, 82]) hb871 (by decide))) (List.forall_mem_cons.mpr ⟨(show cpI 7 52 4294967295 (wget w869 85) from ⟨_, (hr867.but hb871 (by decide)), xrb (by omega) (hb861)⟩), List.forall_mem_cons.mpr ⟨(show cp82 (wget w869 82) from ⟨f82_819, f82_821, f82_823, f82_825, f82_827, f82_829, f82_831, f82_833, f82_835, f82_837 + 1, f82_839, f82_840, f82_841, f82_843, f82_845, f82_847, hk870, hb820, hb822, hb824, hb826, hb828, hb830, hb832, hb834, hb836, by omega, hb842, hb844, hb846, hb848, by omega⟩), fun _ h => absurd h List.not_mem_nil⟩⟩), ((hF670.tr (hF805.up (by decide))).tr ((xFr.of (S := [82, 83, 85, 86, 87]) hb868 (by decide)).tr (xFr.of (S := [82, 83, 85, 86, 87]) hb871 (by decide)))), ⟨fun h => by have := pq880.1 h; omega, (show fld w869 82 10 = 0 ∨ FA w869 ≠ 0 by omega), Or.inr ⟨by have := ms818; omega, by omega, hM883⟩, hD889⟩⟩
      · refine xg_t (xg_ifT (u := f82_694) rfl xnm0 (xj_neT hc710)) ?_
        refine xg_t (xg_blk (b := [(416, 1, 0, 0, 0, 0), (417, 3, 13, 140, 96, 183)]) rfl) ?_
        refine xg_t (xg_aload (va := (2, 82)) rfl rfl) ?_
        refine xg_cVv mX12_ends (vs := []) (rest := []) (cn1 := 0) (sl1 := 0) rfl (mEnds (hI669) hj672.2.2.2) rfl h82_708 rfl rfl rfl rfl rfl rfl (fun w890 hq891 => ?_)
        obtain ⟨hI892, hF893, hx894⟩ := hq891
        clear hb679 hb681 hb683 hb685 hb687 hb689 hb691 hb693 hb695 hb697 hb701 hb703 hb705 hb707
        obtain ⟨hv895, hv896, hv897, hv898⟩ := hx894
        have pk899 : PK w668 w890 := ⟨fun _ => hv895, by omega, by omega, Or.inr hv895⟩
        have pk900 : PK w w890 := PK.tr hj672 pk899
        have os901 : ∀ j, (j < 50 + 2 * u45 ∨ 52 + 2 * u45 ≤ j) → j < 140 → rwv w890 86 j = rwv w 86 j := fun j hj hl => (rwv_fr hF893 (by decide)).trans (hj673 j hj hl)
        have rg902 : FA w890 ≠ 0 ∨ u45 < 4 := hj676.imp_left pk899.1
        have mf903 : ∀ s, s < 7 → rwv w890 85 s = rwv w 85 s := fun s hs => (rwv_fr hF893 (by decide)).trans (hj675 s hs)
        have hl904 : rwv w890 86 (50 + 2 * u45 + 1) = rwv w668 86 (50 + 2 * u45 + 1) := rwv_fr hF893 (by decide)
        have nw905 : FA w890 ≠ 0 ∨ 4 ≤ u45 ∨ (1 ≤ rwv w890 86 (50 + 2 * u45 + 1) ∧ rwv w890 86 (50 + 2 * u45 + 1) ≤ 999) := by have q := hj677; have q1 := pk899.1; omega
        clear hj677
        have ms906 : mu w890 < mu w := Nat.lt_of_le_of_lt pk899.2.1 hj674
        clear hj676
        refine xg_t (xg_blk (b := [(420, 1, 0, 0, 0, 0), (421, 3, 1, 12, 11, 17), (424, 1, 2, 1, 0, 0), (425, 1, 39, 0, 0, 0), (426, 1, 10, 0, 0, 0), (427, 1, 3, 1, 0, 0), (428, 1, 11, 0, 0, 0), (429, 1, 17, 0, 0, 0), (430, 1, 0, 0, 0, 0), (431, 1, 19, 0, 0, 0), (432, 3, 1, 12, 14, 212), (435, 1, 3, 1, 0, 0), (436, 1, 11, 0, 0, 0), (437, 3, 14, 12, 14, 212), (440, 1, 12, 0, 0, 0)]) rfl) ?_
        obtain ⟨f82_907, f82_909, f82_911, f82_913, f82_915, f82_917, f82_919, f82_921, f82_923, f82_925, f82_927, f82_928, f82_929, f82_931, f82_933, f82_935, h82_937, hb908, hb910, hb912, hb914, hb916, hb918, hb920, hb922, hb924, hb926, hb930, hb932, hb934, hb936, hb938⟩ := (hI892 82 (by decide) (by decide) : cp82 (wget w890 82))
        have hf939 : fld w890 82 4 = f82_911 := fld_of h82_937
        have hf940 : fld w890 82 5 = f82_913 := fld_of h82_937
        have hf941 : fld w890 82 7 = f82_917 := fld_of h82_937
        have hf942 : fld w890 82 10 = f82_923 := fld_of h82_937
        have hf943 : fld w890 82 14 = f82_925 := fld_of h82_937
        have hu944 : mu w890 = 2 * (fld w890 82 4 - fld w890 82 5) + min 1 (fld w890 82 7) := rfl
        have hf945 := pk900.2.2.1
        have hl946 : f82_925 ≤ 1000 := by omega
        refine xg_t (xg_aload (va := (2, 82)) rfl rfl) ?_
        refine xg_t (xg_getf (va := (2, 85)) h82_937 rfl) ?_
        refine xg_t (xg_iload (va := (0, 1)) rfl rfl) ?_
        refine xg_t (xg_dup2 rfl) ?_
        obtain ⟨g85_947, h85_948, hb949⟩ := (hI892 85 (by decide) (by decide) : cpI 7 52 4294967295 (wget w890 85))
        have h85_948 : xRow w890 85 7 52 g85_947 := h85_948
        refine xg_ialdB (n := 1) (B := 4294967295) h85_948 (hb949) xnm0 (by omega) (fun u950 hu951 he952 => ?_)
        have hl953 : u950 = u45 := by have q1 := rwv_of h85_948 (show 1 < 7 by decide); have q2 := mf903 1 (by decide); omega
        refine xg_t (xg_const) ?_
        refine xg_t (xg_iadd (u := u950) (v := 1) (z := u950 + 1) xnm0 xnm0 (by omega)) ?_
        refine xg_iastK (n := 1) (u := u950 + 1) h85_948 xnm0 xnm0 rfl (by omega) (fun w954 hr955 hb956 => ?_)
        refine xg_t (xg_aload (va := (2, 82)) rfl rfl) ?_
        refine xg_t (xg_dup rfl) ?_
        refine xg_t (xg_getf (va := (0, f82_925)) (hb956.get (by decide) h82_937) rfl) ?_
        refine xg_t (xg_const) ?_
        refine xg_t (xg_iadd (u := f82_925) (v := 1) (z := f82_925 + 1) xnm0 xnm0 (by omega)) ?_
        refine xg_putI (fl1 := [(2, 83), (2, 84), (0, f82_907), (0, f82_909), (0, f82_911), (0, f82_913), (0, f82_915), (0, f82_917), (0, f82_919), (0, f82_921), (0, f82_923), (2, 85), (2, 86), (2, 87), (0, f82_925 + 1), (2, 88), (2, 89), (2, 90), (2, 91), (2, 92), (2, 93), (2, 94), (4, f82_927), (4, f82_928), (0, f82_929), (2, 95), (2, 96), (2, 97), (2, 98), (2, 99), (2, 100), (2, 101), (2, 102), (0, f82_931), (2, 103), (2, 104), (2, 105), (2, 106), (2, 107), (2, 108), (2, 109), (0, f82_933), (0, f82_935), (2, 110), (2, 111), (2, 112), (2, 113)]) (hb956.get (by decide) h82_937) rfl rfl rfl (fun w957 hk958 hb959 => ?_)
        have hF960 : xFr [82, 85] w890 w957 := ((xFr.of (S := [82, 85]) hb956 (by decide)).tr (xFr.of (S := [82, 85]) hb959 (by decide)))
        have hA961 := FA_fr hF960 (by decide)
        have hf962 : fld w957 82 4 = f82_911 := fld_of hk958
        have hf963 : fld w957 82 5 = f82_913 := fld_of hk958
        have hf964 : fld w957 82 7 = f82_917 := fld_of hk958
        have hf965 : fld w957 82 10 = f82_923 := fld_of hk958
        have hf966 : fld w957 82 14 = f82_925 + 1 := fld_of hk958
        have hu967 : mu w957 = 2 * (fld w957 82 4 - fld w957 82 5) + min 1 (fld w957 82 7) := rfl
        have pq968 := pk900
        unfold PK PS at pq968
        have hM969 : ∀ s, s < 7 → s ≠ 1 → rwv w957 85 s = rwv w 85 s := fun s hs hn => (rwv_of (hr955.but hb959 (by decide)) hs).trans ((if_neg hn).trans ((rwv_of h85_948 hs).symm.trans (mf903 s hs)))
        have hM970 : rwv w957 85 1 = u45 + 1 := (rwv_of (hr955.but hb959 (by decide)) (by decide)).trans ((if_pos rfl).trans (by omega))
        have hM971 : ∀ s, s < 7 → rwv w957 85 s ≤ rwv w 85 s + 1 := fun s hs => by
          by_cases z : s = 1
          · subst z; omega
          · rw [hM969 s hs z]; omega
        have hO972 : ∀ j, (j < 50 + 2 * u45 ∨ 52 + 2 * u45 ≤ j) → j < 140 → rwv w957 86 j = rwv w 86 j := fun j hj hl => (rwv_fr hF960 (by decide)).trans (os901 j hj hl)
        have hl974 : FA w890 ≠ 0 ∨ u45 < 4 := rg902
        have hl975 : rwv w957 86 (50 + 2 * u45 + 1) = rwv w890 86 (50 + 2 * u45 + 1) := rwv_fr hF960 (by decide)
        have hN973 : FA w957 ≠ 0 ∨ 4 ≤ u45 ∨ (1 ≤ rwv w957 86 (50 + 2 * u45 + 1) ∧ rwv w957 86 (50 + 2 * u45 + 1) ≤ 999) := by have q := nw905; omega
        have hX976 : FA w957 ≠ 0 ∨ u45 < 4 := by omega
        have hD977 : FA w957 ≠ 0 ∨ (DATA w → DATA w957) := by
          by_cases z : FA w957 ≠ 0
          · exact Or.inl z
          · exact Or.inr (fun hd => hd.s1 hM969 hK48 hM970 (hX976.resolve_left z) hO972 ((hN973.resolve_left z).resolve_left (by have := hX976.resolve_left z; omega)))
        exact xg_e ⟨w957, ⟨rfl, rfl⟩, xMnv.up (S := [85, 82]) hI892 ((xFr.of (S := [85, 82]) hb956 (by decide)).tr (xFr.of (S := [85, 82]) hb959 (by decide))) (List.forall_mem_cons.mpr ⟨(show cpI 7 52 4294967295 (wget w957 85) from ⟨_, (hr955.but hb959 (by decide)), xrb (by omega) (hb949)⟩), List.forall_mem_cons.mpr ⟨(show cp82 (wget w957 82) from ⟨f82_907, f82_909, f82_911, f82_913, f82_915, f82_917, f82_919, f82_921, f82_923, f82_925 + 1, f82_927, f82_928, f82_929, f82_931, f82_933, f82_935, hk958, hb908, hb910, hb912, hb914, hb916, hb918, hb920, hb922, hb924, by omega, hb930, hb932, hb934, hb936, by omega⟩), fun _ h => absurd h List.not_mem_nil⟩⟩), ((hF670.tr (hF893.up (by decide))).tr ((xFr.of (S := [82, 83, 85, 86, 87]) hb956 (by decide)).tr (xFr.of (S := [82, 83, 85, 86, 87]) hb959 (by decide)))), ⟨fun h => by have := pq968.1 h; omega, (show fld w957 82 10 = 0 ∨ FA w957 ≠ 0 by omega), Or.inr ⟨by have := ms906; omega, by omega, hM971⟩, hD977⟩⟩
    refine xg_t (xg_iload (va := (0, 1)) rfl rfl) ?_
    refine xg_t (xg_swt (ks := [(0, 108), (1, 116), (2, 180), (3, 221), (4, 273), (5, 326)]) (u := 1) (z := 116) rfl rfl rfl xnm0 (xsw_n (by omega) (xsw_y rfl))) ?_
    refine xg_t (xg_blk (b := [(116, 1, 0, 0, 0, 0), (117, 1, 3, 0, 0, 0), (118, 2, 4, 99, 0, 0), (120, 3, 13, 199, 96, 196), (123, 2, 15, 4, 0, 0), (125, 1, 0, 0, 0, 0), (126, 2, 2, 4, 0, 0), (128, 1, 2, 3, 0, 0), (129, 3, 13, 167, 96, 208), (132, 3, 7, 141, 0, 0), (135, 1, 0, 0, 0, 0), (136, 1, 3, 3, 0, 0), (137, 1, 2, 2, 0, 0), (138, 3, 13, 115, 96, 186)]) rfl) ?_
    refine xg_t (xg_aload (va := (2, 82)) rfl rfl) ?_
    refine xg_t (xg_const) ?_
    refine xg_t (xg_bip) ?_
    obtain ⟨f82_978, f82_980, f82_982, f82_984, f82_986, f82_988, f82_990, f82_992, f82_994, f82_996, f82_998, f82_999, f82_1000, f82_1002, f82_1004, f82_1006, h82_1008, hb979, hb981, hb983, hb985, hb987, hb989, hb991, hb993, hb995, hb997, hb1001, hb1003, hb1005, hb1007, hb1009⟩ := (hI652 82 (by decide) (by decide) : cp82 (wget w650 82))
    refine xg_cVi mX12_numbered (vs := [(0, 0), (0, 99)]) (rest := []) (cn1 := 0) (sl1 := 0) rfl (mNumbered (hI652) (by omega) (by omega) pk662.2.2.2) rfl h82_1008 rfl rfl rfl rfl rfl rfl (fun n1014 w1010 hq1011 => ?_)
    obtain ⟨hn1015, hI1012, hF1013⟩ := hq1011
    clear hb979 hb981 hb983 hb985 hb987 hb989 hb991 hb993 hb995 hb997 hb1001 hb1003 hb1005 hb1007
    obtain ⟨hn1016, hn1017, hn1018⟩ := hn1015
    have pk1019 : PK w w1010 := PK.tr pk662 hn1017
    have os1020 : ∀ j, (j < 50 + 2 * u45 ∨ 52 + 2 * u45 ≤ j) → j < 140 → rwv w1010 86 j = rwv w 86 j := fun j hj hl => (rwv_fr hF1013 (by decide)).trans (os663 j hj hl)
    have rg1021 : FA w1010 ≠ 0 ∨ 0 = 1 := rg664.imp_left hn1017.1
    have mf1022 : ∀ s, s < 7 → rwv w1010 85 s = rwv w 85 s := fun s hs => (rwv_fr hF1013 (by decide)).trans (mf665 s hs)
    have ms1023 : mu w1010 < mu w := Nat.lt_of_le_of_lt hn1017.2.1 ms666
    clear rg664
    refine xg_t (xg_istore (l1 := [(3, (0, u45)), (2, (0, at_)), (1, (0, 1)), (0, (2, 82))]) rfl rfl rfl) ?_
    refine xg_t (xg_aload (va := (2, 82)) rfl rfl) ?_
    refine xg_t (xg_iload (va := (0, n1014)) rfl rfl) ?_
    refine xg_t (xg_iload (va := (0, u45)) rfl rfl) ?_
    obtain ⟨f82_1024, f82_1026, f82_1028, f82_1030, f82_1032, f82_1034, f82_1036, f82_1038, f82_1040, f82_1042, f82_1044, f82_1045, f82_1046, f82_1048, f82_1050, f82_1052, h82_1054, hb1025, hb1027, hb1029, hb1031, hb1033, hb1035, hb1037, hb1039, hb1041, hb1043, hb1047, hb1049, hb1051, hb1053, hb1055⟩ := (hI1012 82 (by decide) (by decide) : cp82 (wget w1010 82))
    refine xg_cVi mX12_isLifeTold (vs := [(0, n1014), (0, u45)]) (rest := []) (cn1 := 0) (sl1 := 0) rfl (mLifeTold (hI1012) (by omega) (by omega)) rfl h82_1054 rfl rfl rfl rfl rfl rfl (fun n1060 w1056 hq1057 => ?_)
    obtain ⟨hn1061, hI1058, hF1059⟩ := hq1057
    have pk1062 : PK w w1056 := PK.tr pk1019 (PK.fr hF1059 (by decide) (by decide) pk1019.2.2.2)
    have os1063 : ∀ j, (j < 50 + 2 * u45 ∨ 52 + 2 * u45 ≤ j) → j < 140 → rwv w1056 86 j = rwv w 86 j := fun j hj hl => (rwv_fr hF1059 (by decide)).trans (os1020 j hj hl)
    have rg1064 : FA w1056 ≠ 0 ∨ 0 = 1 := rg1021.imp_left (PK.fr hF1059 (by decide) (by decide) pk1019.2.2.2).1
    have rg1065 : FA w1056 ≠ 0 ∨ (0 ≤ n1014 ∧ n1014 ≤ 99) := hn1018.imp_left (PK.fr hF1059 (by decide) (by decide) pk1019.2.2.2).1
    have mf1066 : ∀ s, s < 7 → rwv w1056 85 s = rwv w 85 s := fun s hs => (rwv_fr hF1059 (by decide)).trans (mf1022 s hs)
    have ms1067 : mu w1056 < mu w := Nat.lt_of_le_of_lt (PK.fr hF1059 (by decide) (by decide) pk1019.2.2.2).2.1 ms1023
    clear rg1021 hn1018
    by_cases hc1068 : n1060 = 0
    · refine xg_t (xg_ifT (u := n1060) rfl xnm0 (xj_eqT hc1068)) ?_
      refine xg_t (xg_blk (b := [(141, 1, 0, 0, 0, 0), (142, 1, 2, 1, 0, 0), (143, 1, 2, 3, 0, 0), (144, 2, 4, 50, 0, 0), (146, 1, 3, 2, 0, 0), (147, 1, 2, 3, 0, 0), (148, 1, 16, 0, 0, 0), (149, 1, 11, 0, 0, 0), (150, 2, 2, 4, 0, 0), (152, 3, 13, 211, 96, 200), (155, 1, 0, 0, 0, 0), (156, 1, 2, 1, 0, 0), (157, 1, 2, 3, 0, 0), (158, 2, 4, 50, 0, 0), (160, 1, 3, 2, 0, 0), (161, 1, 2, 3, 0, 0), (162, 1, 16, 0, 0, 0), (163, 1, 11, 0, 0, 0), (164, 1, 3, 1, 0, 0), (165, 1, 11, 0, 0, 0), (166, 1, 0, 0, 0, 0), (167, 1, 3, 1, 0, 0), (168, 3, 5, 999, 0, 0), (171, 3, 13, 199, 96, 196), (174, 3, 13, 211, 96, 200), (177, 3, 8, 394, 0, 0)]) rfl) ?_
      refine xg_t (xg_aload (va := (2, 82)) rfl rfl) ?_
      refine xg_t (xg_iload (va := (0, 1)) rfl rfl) ?_
      refine xg_t (xg_iload (va := (0, u45)) rfl rfl) ?_
      refine xg_t (xg_bip) ?_
      refine xg_t (xg_const) ?_
      refine xg_t (xg_iload (va := (0, u45)) rfl rfl) ?_
      refine xg_t (xg_imul (u := 2) (v := u45) (z := 2 * u45) xnm0 xnm0 (by omega)) ?_
      refine xg_t (xg_iadd (u := 50) (v := 2 * u45) (z := 50 + (2 * u45)) xnm0 xnm0 (by omega)) ?_
      refine xg_t (xg_iload (va := (0, n1014)) rfl rfl) ?_
      refine xg_cVv mX12_puts (vs := [(0, 1), (0, u45), (0, 50 + (2 * u45)), (0, n1014)]) (rest := []) (cn1 := 0) (sl1 := 0) rfl (mPuts1 (hI1058) (by omega) (by omega) (by omega) (fun _ => by omega)) rfl (hF1059.get (by decide) h82_1054) rfl rfl rfl rfl rfl rfl (fun w1069 hq1070 => ?_)
      obtain ⟨hI1071, hF1072, hx1073⟩ := hq1070
      obtain ⟨hp1074, hp1075⟩ := hx1073
      have pk1076 : PK w w1069 := PK.tr pk1062 (PK.fr hF1072 (by decide) (by decide) pk1062.2.2.2)
      have os1077 : ∀ j, (j < 50 + 2 * u45 ∨ 52 + 2 * u45 ≤ j) → j < 140 → rwv w1069 86 j = rwv w 86 j := fun j hj hl => (hp1075 j (by omega) hl).trans (os1063 j hj hl)
      have rg1078 : FA w1069 ≠ 0 ∨ 0 = 1 := rg1064.imp_left (PK.fr hF1072 (by decide) (by decide) pk1062.2.2.2).1
      have rg1079 : FA w1069 ≠ 0 ∨ (0 ≤ n1014 ∧ n1014 ≤ 99) := rg1065.imp_left (PK.fr hF1072 (by decide) (by decide) pk1062.2.2.2).1
      have mf1080 : ∀ s, s < 7 → rwv w1069 85 s = rwv w 85 s := fun s hs => (rwv_fr hF1072 (by decide)).trans (mf1066 s hs)
      have ms1081 : mu w1069 < mu w := Nat.lt_of_le_of_lt (PK.fr hF1072 (by decide) (by decide) pk1062.2.2.2).2.1 ms1067
      clear rg1064 rg1065
      refine xg_t (xg_aload (va := (2, 82)) rfl rfl) ?_
      refine xg_t (xg_iload (va := (0, 1)) rfl rfl) ?_
      refine xg_t (xg_iload (va := (0, u45)) rfl rfl) ?_
      refine xg_t (xg_bip) ?_
      refine xg_t (xg_const) ?_
      refine xg_t (xg_iload (va := (0, u45)) rfl rfl) ?_
      refine xg_t (xg_imul (u := 2) (v := u45) (z := 2 * u45) xnm0 xnm0 (by omega)) ?_
      refine xg_t (xg_iadd (u := 50) (v := 2 * u45) (z := 50 + (2 * u45)) xnm0 xnm0 (by omega)) ?_
      refine xg_t (xg_const) ?_
      refine xg_t (xg_iadd (u := 50 + (2 * u45)) (v := 1) (z := (50 + (2 * u45)) + 1) xnm0 xnm0 (by omega)) ?_
      refine xg_t (xg_aload (va := (2, 82)) rfl rfl) ?_
      refine xg_t (xg_const) ?_
      refine xg_t (xg_sip) ?_
      refine xg_cVi mX12_numbered (vs := [(0, 1), (0, 999)]) (rest := [(0, (50 + (2 * u45)) + 1), (0, u45), (0, 1), (2, 82)]) (cn1 := 0) (sl1 := 0) rfl (mNumbered (hI1071) (by omega) (by omega) pk1076.2.2.2) rfl (hF1072.get (by decide) (hF1059.get (by decide) h82_1054)) rfl rfl rfl rfl rfl rfl (fun n1086 w1082 hq1083 => ?_)
      obtain ⟨hn1087, hI1084, hF1085⟩ := hq1083
      clear hb1025 hb1027 hb1029 hb1031 hb1033 hb1035 hb1037 hb1039 hb1041 hb1043 hb1047 hb1049 hb1051 hb1053
      obtain ⟨hn1088, hn1089, hn1090⟩ := hn1087
      have pk1091 : PK w w1082 := PK.tr pk1076 hn1089
      have os1092 : ∀ j, (j < 50 + 2 * u45 ∨ 52 + 2 * u45 ≤ j) → j < 140 → rwv w1082 86 j = rwv w 86 j := fun j hj hl => (rwv_fr hF1085 (by decide)).trans (os1077 j hj hl)
      have ix1093 : u45 < 4 → rwv w1082 86 (50 + (2 * u45)) = n1014 := fun h => (rwv_fr hF1085 (by decide)).trans (hp1074 h)
      have rg1094 : FA w1082 ≠ 0 ∨ 0 = 1 := rg1078.imp_left hn1089.1
      have rg1095 : FA w1082 ≠ 0 ∨ (0 ≤ n1014 ∧ n1014 ≤ 99) := rg1079.imp_left hn1089.1
      have mf1096 : ∀ s, s < 7 → rwv w1082 85 s = rwv w 85 s := fun s hs => (rwv_fr hF1085 (by decide)).trans (mf1080 s hs)
      have ms1097 : mu w1082 < mu w := Nat.lt_of_le_of_lt hn1089.2.1 ms1081
      clear hp1074 rg1078 rg1079
      obtain ⟨f82_1098, f82_1100, f82_1102, f82_1104, f82_1106, f82_1108, f82_1110, f82_1112, f82_1114, f82_1116, f82_1118, f82_1119, f82_1120, f82_1122, f82_1124, f82_1126, h82_1128, hb1099, hb1101, hb1103, hb1105, hb1107, hb1109, hb1111, hb1113, hb1115, hb1117, hb1121, hb1123, hb1125, hb1127, hb1129⟩ := (hI1084 82 (by decide) (by decide) : cp82 (wget w1082 82))
      refine xg_cVv mX12_puts (vs := [(0, 1), (0, u45), (0, (50 + (2 * u45)) + 1), (0, n1086)]) (rest := []) (cn1 := 0) (sl1 := 0) rfl (mPuts1 (hI1084) (by omega) (by omega) (by omega) (fun _ => by omega)) rfl h82_1128 rfl rfl rfl rfl rfl rfl (fun w1130 hq1131 => ?_)
      obtain ⟨hI1132, hF1133, hx1134⟩ := hq1131
      obtain ⟨hp1135, hp1136⟩ := hx1134
      have pk1137 : PK w w1130 := PK.tr pk1091 (PK.fr hF1133 (by decide) (by decide) pk1091.2.2.2)
      have os1138 : ∀ j, (j < 50 + 2 * u45 ∨ 52 + 2 * u45 ≤ j) → j < 140 → rwv w1130 86 j = rwv w 86 j := fun j hj hl => (hp1136 j (by omega) hl).trans (os1092 j hj hl)
      have ix1139 : u45 < 4 → rwv w1130 86 (50 + (2 * u45)) = n1014 := fun h => (hp1136 _ (by omega) (by omega)).trans (ix1093 h)
      have rg1140 : FA w1130 ≠ 0 ∨ 0 = 1 := rg1094.imp_left (PK.fr hF1133 (by decide) (by decide) pk1091.2.2.2).1
      have rg1141 : FA w1130 ≠ 0 ∨ (0 ≤ n1014 ∧ n1014 ≤ 99) := rg1095.imp_left (PK.fr hF1133 (by decide) (by decide) pk1091.2.2.2).1
      have rg1142 : FA w1130 ≠ 0 ∨ (1 ≤ n1086 ∧ n1086 ≤ 999) := hn1090.imp_left (PK.fr hF1133 (by decide) (by decide) pk1091.2.2.2).1
      have mf1143 : ∀ s, s < 7 → rwv w1130 85 s = rwv w 85 s := fun s hs => (rwv_fr hF1133 (by decide)).trans (mf1096 s hs)
      have ms1144 : mu w1130 < mu w := Nat.lt_of_le_of_lt (PK.fr hF1133 (by decide) (by decide) pk1091.2.2.2).2.1 ms1097
      clear ix1093 rg1094 rg1095 hn1090
      refine xg_t (xg_goto) ?_
      refine xg_t (xg_drop (l1 := [(0, (2, 82)), (1, (0, 1)), (3, (0, u45))]) (List.forall_mem_cons.mpr ⟨List.mem_cons_of_mem _ (List.mem_cons_of_mem _ (List.mem_cons_of_mem _ (List.mem_cons_of_mem _ (List.mem_cons_self)))), List.forall_mem_cons.mpr ⟨List.mem_cons_of_mem _ (List.mem_cons_of_mem _ (List.mem_cons_of_mem _ (List.mem_cons_self))), List.forall_mem_cons.mpr ⟨List.mem_cons_of_mem _ (List.mem_cons_self), fun _ h => absurd h List.not_mem_nil⟩⟩⟩)) ?_
      have hX1145 : FA w1130 ≠ 0 ∨ u45 < 4 := Or.inl (by have q := rg1140; omega)
      have hN1146 : FA w1130 ≠ 0 ∨ 4 ≤ u45 ∨ (1 ≤ rwv w1130 86 (50 + 2 * u45 + 1) ∧ rwv w1130 86 (50 + 2 * u45 + 1) ≤ 999) := by
        have hl1147 : u45 < 4 → rwv w1130 86 (50 + (2 * u45)) = n1014 := ix1139
        have hl1148 : u45 < 4 → rwv w1130 86 ((50 + (2 * u45)) + 1) = n1086 := hp1135
        have hl1149 := rg1141
        have hl1150 := rg1142
        omega
      exact jn667 w1130 (hI1132) ((((((((hF643.up (by decide)).tr (hF653.up (by decide))).tr (hF1013.up (by decide))).tr (hF1059.up (by decide))).tr (hF1072.up (by decide))).tr (hF1085.up (by decide))).tr (hF1133.up (by decide)))) (⟨pk1137, os1138, ms1144, mf1143, hX1145, hN1146⟩)
    · refine xg_t (xg_ifF (u := n1060) rfl xnm0 (xj_eqF hc1068)) ?_
      refine xg_t (xg_aload (va := (2, 82)) rfl rfl) ?_
      refine xg_t (xg_const) ?_
      refine xg_t (xg_iload (va := (0, at_)) rfl rfl) ?_
      refine xg_cVv mX12_also (vs := [(0, 3), (0, at_)]) (rest := []) (cn1 := 0) (sl1 := 0) rfl (mAlso (hI1058) (by omega) (by omega) (by omega) pk1062.2.2.2) rfl (hF1059.get (by decide) h82_1054) rfl rfl rfl rfl rfl rfl (fun w1151 hq1152 => ?_)
      obtain ⟨hI1153, hF1154, hx1155⟩ := hq1152
      have pk1156 : PK w1056 w1151 := ⟨fun _ => hx1155, Nat.le_of_eq (mu_fr hF1154 (by decide)), fld_fr hF1154 (by decide), Or.inr hx1155⟩
      have pk1157 : PK w w1151 := PK.tr pk1062 pk1156
      have os1158 : ∀ j, (j < 50 + 2 * u45 ∨ 52 + 2 * u45 ≤ j) → j < 140 → rwv w1151 86 j = rwv w 86 j := fun j hj hl => (rwv_fr hF1154 (by decide)).trans (os1063 j hj hl)
      have rg1159 : FA w1151 ≠ 0 ∨ 0 = 1 := rg1064.imp_left pk1156.1
      have rg1160 : FA w1151 ≠ 0 ∨ (0 ≤ n1014 ∧ n1014 ≤ 99) := rg1065.imp_left pk1156.1
      have mf1161 : ∀ s, s < 7 → rwv w1151 85 s = rwv w 85 s := fun s hs => (rwv_fr hF1154 (by decide)).trans (mf1066 s hs)
      have ms1162 : mu w1151 < mu w := Nat.lt_of_le_of_lt pk1156.2.1 ms1067
      clear rg1064 rg1065
      refine xg_t (xg_blk (b := [(141, 1, 0, 0, 0, 0), (142, 1, 2, 1, 0, 0), (143, 1, 2, 3, 0, 0), (144, 2, 4, 50, 0, 0), (146, 1, 3, 2, 0, 0), (147, 1, 2, 3, 0, 0), (148, 1, 16, 0, 0, 0), (149, 1, 11, 0, 0, 0), (150, 2, 2, 4, 0, 0), (152, 3, 13, 211, 96, 200), (155, 1, 0, 0, 0, 0), (156, 1, 2, 1, 0, 0), (157, 1, 2, 3, 0, 0), (158, 2, 4, 50, 0, 0), (160, 1, 3, 2, 0, 0), (161, 1, 2, 3, 0, 0), (162, 1, 16, 0, 0, 0), (163, 1, 11, 0, 0, 0), (164, 1, 3, 1, 0, 0), (165, 1, 11, 0, 0, 0), (166, 1, 0, 0, 0, 0), (167, 1, 3, 1, 0, 0), (168, 3, 5, 999, 0, 0), (171, 3, 13, 199, 96, 196), (174, 3, 13, 211, 96, 200), (177, 3, 8, 394, 0, 0)]) rfl) ?_
      refine xg_t (xg_aload (va := (2, 82)) rfl rfl) ?_
      refine xg_t (xg_iload (va := (0, 1)) rfl rfl) ?_
      refine xg_t (xg_iload (va := (0, u45)) rfl rfl) ?_
      refine xg_t (xg_bip) ?_
      refine xg_t (xg_const) ?_
      refine xg_t (xg_iload (va := (0, u45)) rfl rfl) ?_
      refine xg_t (xg_imul (u := 2) (v := u45) (z := 2 * u45) xnm0 xnm0 (by omega)) ?_
      refine xg_t (xg_iadd (u := 50) (v := 2 * u45) (z := 50 + (2 * u45)) xnm0 xnm0 (by omega)) ?_
      refine xg_t (xg_iload (va := (0, n1014)) rfl rfl) ?_
      refine xg_cVv mX12_puts (vs := [(0, 1), (0, u45), (0, 50 + (2 * u45)), (0, n1014)]) (rest := []) (cn1 := 0) (sl1 := 0) rfl (mPuts1 (hI1153) (by omega) (by omega) (by omega) (fun _ => by omega)) rfl (hF1154.get (by decide) (hF1059.get (by decide) h82_1054)) rfl rfl rfl rfl rfl rfl (fun w1163 hq1164 => ?_)
      obtain ⟨hI1165, hF1166, hx1167⟩ := hq1164
      obtain ⟨hp1168, hp1169⟩ := hx1167
      have pk1170 : PK w w1163 := PK.tr pk1157 (PK.fr hF1166 (by decide) (by decide) pk1157.2.2.2)
      have os1171 : ∀ j, (j < 50 + 2 * u45 ∨ 52 + 2 * u45 ≤ j) → j < 140 → rwv w1163 86 j = rwv w 86 j := fun j hj hl => (hp1169 j (by omega) hl).trans (os1158 j hj hl)
      have rg1172 : FA w1163 ≠ 0 ∨ 0 = 1 := rg1159.imp_left (PK.fr hF1166 (by decide) (by decide) pk1157.2.2.2).1
      have rg1173 : FA w1163 ≠ 0 ∨ (0 ≤ n1014 ∧ n1014 ≤ 99) := rg1160.imp_left (PK.fr hF1166 (by decide) (by decide) pk1157.2.2.2).1
      have rg1174 : FA w1163 ≠ 0 ∨ 0 = 1 := (Or.inl hx1155 : FA w1151 ≠ 0 ∨ 0 = 1).imp_left (PK.fr hF1166 (by decide) (by decide) pk1157.2.2.2).1
      have mf1175 : ∀ s, s < 7 → rwv w1163 85 s = rwv w 85 s := fun s hs => (rwv_fr hF1166 (by decide)).trans (mf1161 s hs)
      have ms1176 : mu w1163 < mu w := Nat.lt_of_le_of_lt (PK.fr hF1166 (by decide) (by decide) pk1157.2.2.2).2.1 ms1162
      clear rg1159 rg1160
      refine xg_t (xg_aload (va := (2, 82)) rfl rfl) ?_
      refine xg_t (xg_iload (va := (0, 1)) rfl rfl) ?_
      refine xg_t (xg_iload (va := (0, u45)) rfl rfl) ?_
      refine xg_t (xg_bip) ?_
      refine xg_t (xg_const) ?_
      refine xg_t (xg_iload (va := (0, u45)) rfl rfl) ?_
      refine xg_t (xg_imul (u := 2) (v := u45) (z := 2 * u45) xnm0 xnm0 (by omega)) ?_
      refine xg_t (xg_iadd (u := 50) (v := 2 * u45) (z := 50 + (2 * u45)) xnm0 xnm0 (by omega)) ?_
      refine xg_t (xg_const) ?_
      refine xg_t (xg_iadd (u := 50 + (2 * u45)) (v := 1) (z := (50 + (2 * u45)) + 1) xnm0 xnm0 (by omega)) ?_
      refine xg_t (xg_aload (va := (2, 82)) rfl rfl) ?_
      refine xg_t (xg_const) ?_
      refine xg_t (xg_sip) ?_
      refine xg_cVi mX12_numbered (vs := [(0, 1), (0, 999)]) (rest := [(0, (50 + (2 * u45)) + 1), (0, u45), (0, 1), (2, 82)]) (cn1 := 0) (sl1 := 0) rfl (mNumbered (hI1165) (by omega) (by omega) pk1170.2.2.2) rfl (hF1166.get (by decide) (hF1154.get (by decide) (hF1059.get (by decide) h82_1054))) rfl rfl rfl rfl rfl rfl (fun n1181 w1177 hq1178 => ?_)
      obtain ⟨hn1182, hI1179, hF1180⟩ := hq1178
      clear hb1025 hb1027 hb1029 hb1031 hb1033 hb1035 hb1037 hb1039 hb1041 hb1043 hb1047 hb1049 hb1051 hb1053
      obtain ⟨hn1183, hn1184, hn1185⟩ := hn1182
      have pk1186 : PK w w1177 := PK.tr pk1170 hn1184
      have os1187 : ∀ j, (j < 50 + 2 * u45 ∨ 52 + 2 * u45 ≤ j) → j < 140 → rwv w1177 86 j = rwv w 86 j := fun j hj hl => (rwv_fr hF1180 (by decide)).trans (os1171 j hj hl)
      have ix1188 : u45 < 4 → rwv w1177 86 (50 + (2 * u45)) = n1014 := fun h => (rwv_fr hF1180 (by decide)).trans (hp1168 h)
      have rg1189 : FA w1177 ≠ 0 ∨ 0 = 1 := rg1172.imp_left hn1184.1
      have rg1190 : FA w1177 ≠ 0 ∨ (0 ≤ n1014 ∧ n1014 ≤ 99) := rg1173.imp_left hn1184.1
      have rg1191 : FA w1177 ≠ 0 ∨ 0 = 1 := rg1174.imp_left hn1184.1
      have mf1192 : ∀ s, s < 7 → rwv w1177 85 s = rwv w 85 s := fun s hs => (rwv_fr hF1180 (by decide)).trans (mf1175 s hs)
      have ms1193 : mu w1177 < mu w := Nat.lt_of_le_of_lt hn1184.2.1 ms1176
      clear hp1168 rg1172 rg1173 rg1174
      obtain ⟨f82_1194, f82_1196, f82_1198, f82_1200, f82_1202, f82_1204, f82_1206, f82_1208, f82_1210, f82_1212, f82_1214, f82_1215, f82_1216, f82_1218, f82_1220, f82_1222, h82_1224, hb1195, hb1197, hb1199, hb1201, hb1203, hb1205, hb1207, hb1209, hb1211, hb1213, hb1217, hb1219, hb1221, hb1223, hb1225⟩ := (hI1179 82 (by decide) (by decide) : cp82 (wget w1177 82))
      refine xg_cVv mX12_puts (vs := [(0, 1), (0, u45), (0, (50 + (2 * u45)) + 1), (0, n1181)]) (rest := []) (cn1 := 0) (sl1 := 0) rfl (mPuts1 (hI1179) (by omega) (by omega) (by omega) (fun _ => by omega)) rfl h82_1224 rfl rfl rfl rfl rfl rfl (fun w1226 hq1227 => ?_)
      obtain ⟨hI1228, hF1229, hx1230⟩ := hq1227
      obtain ⟨hp1231, hp1232⟩ := hx1230
      have pk1233 : PK w w1226 := PK.tr pk1186 (PK.fr hF1229 (by decide) (by decide) pk1186.2.2.2)
      have os1234 : ∀ j, (j < 50 + 2 * u45 ∨ 52 + 2 * u45 ≤ j) → j < 140 → rwv w1226 86 j = rwv w 86 j := fun j hj hl => (hp1232 j (by omega) hl).trans (os1187 j hj hl)
      have ix1235 : u45 < 4 → rwv w1226 86 (50 + (2 * u45)) = n1014 := fun h => (hp1232 _ (by omega) (by omega)).trans (ix1188 h)
      have rg1236 : FA w1226 ≠ 0 ∨ 0 = 1 := rg1189.imp_left (PK.fr hF1229 (by decide) (by decide) pk1186.2.2.2).1
      have rg1237 : FA w1226 ≠ 0 ∨ (0 ≤ n1014 ∧ n1014 ≤ 99) := rg1190.imp_left (PK.fr hF1229 (by decide) (by decide) pk1186.2.2.2).1
      have rg1238 : FA w1226 ≠ 0 ∨ 0 = 1 := rg1191.imp_left (PK.fr hF1229 (by decide) (by decide) pk1186.2.2.2).1
      have rg1239 : FA w1226 ≠ 0 ∨ (1 ≤ n1181 ∧ n1181 ≤ 999) := hn1185.imp_left (PK.fr hF1229 (by decide) (by decide) pk1186.2.2.2).1
      have mf1240 : ∀ s, s < 7 → rwv w1226 85 s = rwv w 85 s := fun s hs => (rwv_fr hF1229 (by decide)).trans (mf1192 s hs)
      have ms1241 : mu w1226 < mu w := Nat.lt_of_le_of_lt (PK.fr hF1229 (by decide) (by decide) pk1186.2.2.2).2.1 ms1193
      clear ix1188 rg1189 rg1190 rg1191 hn1185
      refine xg_t (xg_goto) ?_
      refine xg_t (xg_drop (l1 := [(0, (2, 82)), (1, (0, 1)), (3, (0, u45))]) (List.forall_mem_cons.mpr ⟨List.mem_cons_of_mem _ (List.mem_cons_of_mem _ (List.mem_cons_of_mem _ (List.mem_cons_of_mem _ (List.mem_cons_self)))), List.forall_mem_cons.mpr ⟨List.mem_cons_of_mem _ (List.mem_cons_of_mem _ (List.mem_cons_of_mem _ (List.mem_cons_self))), List.forall_mem_cons.mpr ⟨List.mem_cons_of_mem _ (List.mem_cons_self), fun _ h => absurd h List.not_mem_nil⟩⟩⟩)) ?_
      have hX1242 : FA w1226 ≠ 0 ∨ u45 < 4 := Or.inl (by have q := rg1236; omega)
      have hN1243 : FA w1226 ≠ 0 ∨ 4 ≤ u45 ∨ (1 ≤ rwv w1226 86 (50 + 2 * u45 + 1) ∧ rwv w1226 86 (50 + 2 * u45 + 1) ≤ 999) := by
        have hl1244 : u45 < 4 → rwv w1226 86 (50 + (2 * u45)) = n1014 := ix1235
        have hl1245 : u45 < 4 → rwv w1226 86 ((50 + (2 * u45)) + 1) = n1181 := hp1231
        have hl1246 := rg1237
        have hl1247 := rg1239
        omega
      exact jn667 w1226 (hI1228) (((((((((hF643.up (by decide)).tr (hF653.up (by decide))).tr (hF1013.up (by decide))).tr (hF1059.up (by decide))).tr (hF1154.up (by decide))).tr (hF1166.up (by decide))).tr (hF1180.up (by decide))).tr (hF1229.up (by decide)))) (⟨pk1233, os1234, ms1241, mf1240, hX1242, hN1243⟩)
end XMB
