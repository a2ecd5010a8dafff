/-! the model: lines of films, more -/
section XMB
variable {d : Nat} {w : List (List xE)} {bd : List (Nat × Nat)} {fc : List (Nat × Nat × Bool)} {rr : Nat × Nat}
set_option maxHeartbeats 60000000 in
theorem mALineS1 {at_ : Nat} (hI : xMnv w) (hps : PS w) (hmb : ∀ s, s < 7 → rwv w 85 s ≤ 1000) (hln : fld w 82 14 ≤ 1000) (h7 : fld w 82 7 = 3) (hat : at_ ≤ 4294967295) : xTo (d + 7) mX12_aLine (43, [], [(2, (0, at_)), (1, (0, 1)), (0, (2, 82))], [], (w, bd, fc, 0, 0, rr)) (fun φ => ∃ w', xEnd 0 [] (w', bd, fc, 0, 0, rr) φ ∧ xMnv w' ∧ xFr [82, 83, 85, 86, 87] w w' ∧ ((FA w ≠ 0 → FA w' ≠ 0) ∧ PS w' ∧ ((fld w' 82 10 = 1 ∧ mu w' = mu w ∧ fld w' 82 14 = fld w 82 14 ∧ ∀ s, s < 7 → rwv w' 85 s = rwv w 85 s) ∨ (mu w' < mu w ∧ fld w' 82 14 = fld w 82 14 + 1 ∧ ∀ s, s < 7 → rwv w' 85 s ≤ rwv w 85 s + 1)) ∧ (FA w' ≠ 0 ∨ (DATA w → DATA w')) ∧ K83 w w')) := by
  obtain ⟨f82_1, f82_3, f82_5, f82_7, f82_9, f82_11, f82_13, f82_15, f82_17, f82_19, f82_21, f82_22, f82_23, f82_25, f82_27, f82_29, h82_31, hb2, hb4, hb6, hb8, hb10, hb12, hb14, hb16, hb18, hb20, hb24, hb26, hb28, hb30, hb32⟩ := (hI 82 (by decide) (by decide) : cp82 (wget w 82))
  have hf33 : fld w 82 7 = f82_11 := fld_of h82_31
  have hf34 : fld w 82 10 = f82_17 := fld_of h82_31
  have hf35 : fld w 82 14 = f82_19 := fld_of h82_31
  have hps_ : fld w 82 10 = 0 ∨ FA w ≠ 0 := hps
  obtain ⟨g85_36, h85_37, hb38⟩ := (hI 85 (by decide) (by decide) : cpI 7 52 4294967295 (wget w 85))
  have h85_37 : xRow w 85 7 52 g85_36 := h85_37
  obtain ⟨g86_39, h86_40, hb41⟩ := (hI 86 (by decide) (by decide) : cpI 140 53 4294967295 (wget w 86))
  have h86_40 : xRow w 86 140 53 g86_39 := h86_40
  obtain ⟨g87_42, h87_43, hb44⟩ := (hI 87 (by decide) (by decide) : cpI 20 54 4294967295 (wget w 87))
  have h87_43 : xRow w 87 20 54 g87_42 := h87_43
  refine xg_t (xg_blk (b := [(43, 1, 0, 0, 0, 0), (44, 3, 1, 12, 11, 17), (47, 1, 2, 1, 0, 0), (48, 1, 10, 0, 0, 0), (49, 1, 15, 3, 0, 0), (50, 1, 2, 3, 0, 0), (51, 1, 2, 1, 0, 0), (52, 3, 13, 194, 98, 193), (55, 3, 6, 64, 2, 0), (58, 1, 0, 0, 0, 0), (59, 1, 3, 3, 0, 0), (60, 1, 2, 2, 0, 0), (61, 3, 13, 115, 96, 186)]) rfl) ?_
  refine xg_t (xg_aload (va := (2, 82)) rfl rfl) ?_
  refine xg_t (xg_getf (va := (2, 85)) h82_31 rfl) ?_
  refine xg_t (xg_iload (va := (0, 1)) rfl rfl) ?_
  refine xg_ialdB (n := 1) (B := 4294967295) h85_37 (hb38) xnm0 (by omega) (fun u45 hu46 he47 => ?_)
  have hK48 : rwv w 85 1 = u45 := (rwv_of h85_37 (by decide)).trans he47
  have hm49 := hmb 1 (by decide)
  have hl50 : u45 ≤ 1000 := by omega
  refine xg_t (xg_istore (l1 := [(2, (0, at_)), (1, (0, 1)), (0, (2, 82))]) rfl rfl rfl) ?_
  refine xg_t (xg_iload (va := (0, u45)) rfl rfl) ?_
  refine xg_t (xg_iload (va := (0, 1)) rfl rfl) ?_
  refine xg_t (xg_cSr mX12_mostOf (vs := [(0, 1)]) (rest := [(0, u45)]) (rs := [(0, 4), (0, u45)]) (cn1 := 0) (sl1 := 0) rfl (mMostR1) rfl rfl rfl rfl rfl rfl rfl rfl) ?_
  by_cases hc51 : u45 < 4
  · refine xg_t (xg_icT (u := u45) (v := 4) rfl xnm0 xnm0 (xj_ltT hc51 (by omega))) ?_
    refine xg_t (xg_blk (b := [(64, 1, 0, 0, 0, 0), (65, 3, 13, 110, 96, 190), (68, 1, 2, 1, 0, 0), (69, 39, 33, 362, 0, 9)]) rfl) ?_
    refine xg_t (xg_aload (va := (2, 82)) rfl rfl) ?_
    refine xg_cVv mX12_advance (vs := []) (rest := []) (cn1 := 0) (sl1 := 0) rfl (mAdvance (hI)) rfl h82_31 rfl rfl rfl rfl rfl rfl (fun w52 hq53 => ?_)
    obtain ⟨hI54, hF55, hx56⟩ := hq53
    clear hb2 hb4 hb6 hb8 hb10 hb12 hb14 hb16 hb18 hb20 hb24 hb26 hb28 hb30
    obtain ⟨hv57, hv58, hv59, hv60⟩ := hx56
    have hf62 := FA_fr hF55 (by decide)
    have hs63 := (PK.rf hps).2.2.2.1
    unfold PS at hs63
    have pk61 : PK w w52 := ⟨fun _ => by omega, hv57, hv60, (show fld w52 82 10 = 0 ∨ FA w52 ≠ 0 by omega), K83.fr hF55 (by decide)⟩
    clear hs63
    have pk64 : PK w w52 := PK.tr (PK.rf hps) pk61
    have os65 : ∀ j, (j < 50 + 2 * u45 ∨ 52 + 2 * u45 ≤ j) → j < 140 → rwv w52 86 j = rwv w 86 j := fun j hj hl => (rwv_fr hF55 (by decide)).trans ((fun j _ _ => rfl) j hj hl)
    have mf66 : ∀ s, s < 7 → rwv w52 85 s = rwv w 85 s := fun s hs => (rwv_fr hF55 (by decide)).trans ((fun _ _ => rfl) s hs)
    have ms67 : mu w52 < mu w := Nat.lt_of_lt_of_le (hv58 (by omega)) (PK.rf hps).2.1
    clear hv58
    have jn68 : ∀ (w69 : List (List xE)), xMnv w69 → xFr [82, 83, 85, 86, 87] w w69 → (PK w w69 ∧ (∀ j, (j < 50 + 2 * u45 ∨ 52 + 2 * u45 ≤ j) → j < 140 → rwv w69 86 j = rwv w 86 j) ∧ mu w69 < mu w ∧ (∀ s, s < 7 → rwv w69 85 s = rwv w 85 s) ∧ (FA w69 ≠ 0 ∨ u45 < 4) ∧ (FA w69 ≠ 0 ∨ 4 ≤ u45 ∨ (1 ≤ rwv w69 86 (50 + 2 * u45 + 1) ∧ rwv w69 86 (50 + 2 * u45 + 1) ≤ 999))) → xTo (d + 7) mX12_aLine (394, [], [(0, (2, 82)), (1, (0, 1)), (3, (0, u45))], [], (w69, bd, fc, 0, 0, rr)) (fun φ => ∃ w', xEnd 0 [] (w', bd, fc, 0, 0, rr) φ ∧ xMnv w' ∧ xFr [82, 83, 85, 86, 87] w w' ∧ ((FA w ≠ 0 → FA w' ≠ 0) ∧ PS w' ∧ ((fld w' 82 10 = 1 ∧ mu w' = mu w ∧ fld w' 82 14 = fld w 82 14 ∧ ∀ s, s < 7 → rwv w' 85 s = rwv w 85 s) ∨ (mu w' < mu w ∧ fld w' 82 14 = fld w 82 14 + 1 ∧ ∀ s, s < 7 → rwv w' 85 s ≤ rwv w 85 s + 1)) ∧ (FA w' ≠ 0 ∨ (DATA w → DATA w')) ∧ K83 w w')) := by
      intro w69 hI70 hF71 he72
      obtain ⟨hj73, hj74, hj75, hj76, hj77, hj78⟩ := he72
      refine xg_t (xg_blk (b := [(394, 1, 0, 0, 0, 0), (395, 3, 1, 12, 10, 180), (398, 3, 7, 416, 1, 0), (401, 1, 0, 0, 0, 0), (402, 3, 1, 12, 7, 151), (405, 1, 3, 2, 0, 0), (406, 3, 6, 416, 1, 0), (409, 1, 0, 0, 0, 0), (410, 3, 13, 110, 96, 190), (413, 3, 8, 420, 0, 0)]) rfl) ?_
      refine xg_t (xg_aload (va := (2, 82)) rfl rfl) ?_
      obtain ⟨f82_79, f82_81, f82_83, f82_85, f82_87, f82_89, f82_91, f82_93, f82_95, f82_97, f82_99, f82_100, f82_101, f82_103, f82_105, f82_107, h82_109, hb80, hb82, hb84, hb86, hb88, hb90, hb92, hb94, hb96, hb98, hb102, hb104, hb106, hb108, hb110⟩ := (hI70 82 (by decide) (by decide) : cp82 (wget w69 82))
      refine xg_t (xg_getf (va := (0, f82_95)) h82_109 rfl) ?_
      by_cases hc111 : f82_95 = 0
      · refine xg_t (xg_ifF (u := f82_95) rfl xnm0 (xj_neF hc111)) ?_
        refine xg_t (xg_aload (va := (2, 82)) rfl rfl) ?_
        refine xg_t (xg_getf (va := (0, f82_89)) h82_109 rfl) ?_
        refine xg_t (xg_const) ?_
        by_cases hc112 : f82_89 = 2
        · refine xg_t (xg_icF (u := f82_89) (v := 2) rfl xnm0 xnm0 (xj_neF hc112)) ?_
          refine xg_t (xg_aload (va := (2, 82)) rfl rfl) ?_
          refine xg_cVv mX12_advance (vs := []) (rest := []) (cn1 := 0) (sl1 := 0) rfl (mAdvance (hI70)) rfl h82_109 rfl rfl rfl rfl rfl rfl (fun w113 hq114 => ?_)
          obtain ⟨hI115, hF116, hx117⟩ := hq114
          clear hb80 hb82 hb84 hb86 hb88 hb90 hb92 hb94 hb96 hb98 hb102 hb104 hb106 hb108
          obtain ⟨hv118, hv119, hv120, hv121⟩ := hx117
          have hf123 := FA_fr hF116 (by decide)
          have hs124 := hj73.2.2.2.1
          unfold PS at hs124
          have pk122 : PK w69 w113 := ⟨fun _ => by omega, hv118, hv121, (show fld w113 82 10 = 0 ∨ FA w113 ≠ 0 by omega), K83.fr hF116 (by decide)⟩
          clear hs124
          clear hv119
          have pk125 : PK w w113 := PK.tr hj73 pk122
          have os126 : ∀ j, (j < 50 + 2 * u45 ∨ 52 + 2 * u45 ≤ j) → j < 140 → rwv w113 86 j = rwv w 86 j := fun j hj hl => (rwv_fr hF116 (by decide)).trans (hj74 j hj hl)
          have rg127 : FA w113 ≠ 0 ∨ u45 < 4 := hj77.imp_left pk122.1
          have mf128 : ∀ s, s < 7 → rwv w113 85 s = rwv w 85 s := fun s hs => (rwv_fr hF116 (by decide)).trans (hj76 s hs)
          have hl129 : rwv w113 86 (50 + 2 * u45 + 1) = rwv w69 86 (50 + 2 * u45 + 1) := rwv_fr hF116 (by decide)
          have nw130 : FA w113 ≠ 0 ∨ 4 ≤ u45 ∨ (1 ≤ rwv w113 86 (50 + 2 * u45 + 1) ∧ rwv w113 86 (50 + 2 * u45 + 1) ≤ 999) := by have q := hj78; have q1 := pk122.1; omega
          clear hj78
          have ms131 : mu w113 < mu w := Nat.lt_of_le_of_lt pk122.2.1 hj75
          clear hj77
          refine xg_t (xg_goto) ?_
          refine xg_t (xg_blk (b := [(420, 1, 0, 0, 0, 0), (421, 3, 1, 12, 11, 17), (424, 1, 2, 1, 0, 0), (425, 1, 39, 0, 0, 0), (426, 1, 10, 0, 0, 0), (427, 1, 3, 1, 0, 0), (428, 1, 11, 0, 0, 0), (429, 1, 17, 0, 0, 0), (430, 1, 0, 0, 0, 0), (431, 1, 19, 0, 0, 0), (432, 3, 1, 12, 14, 212), (435, 1, 3, 1, 0, 0), (436, 1, 11, 0, 0, 0), (437, 3, 14, 12, 14, 212), (440, 1, 12, 0, 0, 0)]) rfl) ?_
          obtain ⟨f82_132, f82_134, f82_136, f82_138, f82_140, f82_142, f82_144, f82_146, f82_148, f82_150, f82_152, f82_153, f82_154, f82_156, f82_158, f82_160, h82_162, hb133, hb135, hb137, hb139, hb141, hb143, hb145, hb147, hb149, hb151, hb155, hb157, hb159, hb161, hb163⟩ := (hI115 82 (by decide) (by decide) : cp82 (wget w113 82))
          have hf164 : fld w113 82 4 = f82_136 := fld_of h82_162
          have hf165 : fld w113 82 5 = f82_138 := fld_of h82_162
          have hf166 : fld w113 82 7 = f82_142 := fld_of h82_162
          have hf167 : fld w113 82 10 = f82_148 := fld_of h82_162
          have hf168 : fld w113 82 14 = f82_150 := fld_of h82_162
          have hu169 : mu w113 = 2 * (fld w113 82 4 - fld w113 82 5) + min 1 (fld w113 82 7) := rfl
          have hf170 := pk125.2.2.1
          have hl171 : f82_150 ≤ 1000 := by omega
          refine xg_t (xg_aload (va := (2, 82)) rfl rfl) ?_
          refine xg_t (xg_getf (va := (2, 85)) h82_162 rfl) ?_
          refine xg_t (xg_iload (va := (0, 1)) rfl rfl) ?_
          refine xg_t (xg_dup2 rfl) ?_
          obtain ⟨g85_172, h85_173, hb174⟩ := (hI115 85 (by decide) (by decide) : cpI 7 52 4294967295 (wget w113 85))
          have h85_173 : xRow w113 85 7 52 g85_172 := h85_173
          refine xg_ialdB (n := 1) (B := 4294967295) h85_173 (hb174) xnm0 (by omega) (fun u175 hu176 he177 => ?_)
          have hl178 : u175 = u45 := by have q1 := rwv_of h85_173 (show 1 < 7 by decide); have q2 := mf128 1 (by decide); omega
          refine xg_t (xg_const) ?_
          refine xg_t (xg_iadd (u := u175) (v := 1) (z := u175 + 1) xnm0 xnm0 (by omega)) ?_
          refine xg_iastK (n := 1) (u := u175 + 1) h85_173 xnm0 xnm0 rfl (by omega) (fun w179 hr180 hb181 => ?_)
          refine xg_t (xg_aload (va := (2, 82)) rfl rfl) ?_
          refine xg_t (xg_dup rfl) ?_
          refine xg_t (xg_getf (va := (0, f82_150)) (hb181.get (by decide) h82_162) rfl) ?_
          refine xg_t (xg_const) ?_
          refine xg_t (xg_iadd (u := f82_150) (v := 1) (z := f82_150 + 1) xnm0 xnm0 (by omega)) ?_
          refine xg_putI (fl1 := [(2, 83), (2, 84), (0, f82_132), (0, f82_134), (0, f82_136), (0, f82_138), (0, f82_140), (0, f82_142), (0, f82_144), (0, f82_146), (0, f82_148), (2, 85), (2, 86), (2, 87), (0, f82_150 + 1), (2, 88), (2, 89), (2, 90), (2, 91), (2, 92), (2, 93), (2, 94), (4, f82_152), (4, f82_153), (0, f82_154), (2, 95), (2, 96), (2, 97), (2, 98), (2, 99), (2, 100), (2, 101), (2, 102), (0, f82_156), (2, 103), (2, 104), (2, 105), (2, 106), (2, 107), (2, 108), (2, 109), (0, f82_158), (0, f82_160), (2, 110), (2, 111), (2, 112), (2, 113)]) (hb181.get (by decide) h82_162) rfl rfl rfl (fun w182 hk183 hb184 => ?_)
          have hF185 : xFr [82, 85] w113 w182 := ((xFr.of (S := [82, 85]) hb181 (by decide)).tr (xFr.of (S := [82, 85]) hb184 (by decide)))
          have hA186 := FA_fr hF185 (by decide)
          have hf187 : fld w182 82 4 = f82_136 := fld_of hk183
          have hf188 : fld w182 82 5 = f82_138 := fld_of hk183
          have hf189 : fld w182 82 7 = f82_142 := fld_of hk183
          have hf190 : fld w182 82 10 = f82_148 := fld_of hk183
          have hf191 : fld w182 82 14 = f82_150 + 1 := fld_of hk183
          have hu192 : mu w182 = 2 * (fld w182 82 4 - fld w182 82 5) + min 1 (fld w182 82 7) := rfl
          have pq193 := pk125
          unfold PK PS at pq193
          have hM194 : ∀ s, s < 7 → s ≠ 1 → rwv w182 85 s = rwv w 85 s := fun s hs hn => (rwv_of (hr180.but hb184 (by decide)) hs).trans ((if_neg hn).trans ((rwv_of h85_173 hs).symm.trans (mf128 s hs)))
          have hM195 : rwv w182 85 1 = u45 + 1 := (rwv_of (hr180.but hb184 (by decide)) (by decide)).trans ((if_pos rfl).trans (by omega))
          have hM196 : ∀ s, s < 7 → rwv w182 85 s ≤ rwv w 85 s + 1 := fun s hs => by
            by_cases z : s = 1
            · subst z; omega
            · rw [hM194 s hs z]; omega
          have hO197 : ∀ j, (j < 50 + 2 * u45 ∨ 52 + 2 * u45 ≤ j) → j < 140 → rwv w182 86 j = rwv w 86 j := fun j hj hl => (rwv_fr hF185 (by decide)).trans (os126 j hj hl)
          have hl199 : FA w113 ≠ 0 ∨ u45 < 4 := rg127
          have hl200 : rwv w182 86 (50 + 2 * u45 + 1) = rwv w113 86 (50 + 2 * u45 + 1) := rwv_fr hF185 (by decide)
          have hN198 : FA w182 ≠ 0 ∨ 4 ≤ u45 ∨ (1 ≤ rwv w182 86 (50 + 2 * u45 + 1) ∧ rwv w182 86 (50 + 2 * u45 + 1) ≤ 999) := by have q := nw130; omega
          have hX201 : FA w182 ≠ 0 ∨ u45 < 4 := by omega
          have hD202 : FA w182 ≠ 0 ∨ (DATA w → DATA w182) := by
            by_cases z : FA w182 ≠ 0
            · exact Or.inl z
            · exact Or.inr (fun hd => hd.s1 hM194 hK48 hM195 (hX201.resolve_left z) hO197 ((hN198.resolve_left z).resolve_left (by have := hX201.resolve_left z; omega)))
          exact xg_e ⟨w182, ⟨rfl, rfl⟩, xMnv.up (S := [85, 82]) hI115 ((xFr.of (S := [85, 82]) hb181 (by decide)).tr (xFr.of (S := [85, 82]) hb184 (by decide))) (List.forall_mem_cons.mpr ⟨(show cpI 7 52 4294967295 (wget w182 85) from ⟨_, (hr180.but hb184 (by decide)), xrb (by omega) (hb174)⟩), List.forall_mem_cons.mpr ⟨(show cp82 (wget w182 82) from ⟨f82_132, f82_134, f82_136, f82_138, f82_140, f82_142, f82_144, f82_146, f82_148, f82_150 + 1, f82_152, f82_153, f82_154, f82_156, f82_158, f82_160, hk183, hb133, hb135, hb137, hb139, hb141, hb143, hb145, hb147, hb149, by omega, hb155, hb157, hb159, hb161, by omega⟩), fun _ h => absurd h List.not_mem_nil⟩⟩), ((hF71.tr (hF116.up (by decide))).tr ((xFr.of (S := [82, 83, 85, 86, 87]) hb181 (by decide)).tr (xFr.of (S := [82, 83, 85, 86, 87]) hb184 (by decide)))), ⟨fun h => by have := pq193.1 h; omega, (show fld w182 82 10 = 0 ∨ FA w182 ≠ 0 by omega), Or.inr ⟨by have := ms131; omega, by omega, hM196⟩, hD202, pk125.2.2.2.2.tr (K83.fr hF185 (by decide))⟩⟩
        · refine xg_t (xg_icT (u := f82_89) (v := 2) rfl xnm0 xnm0 (xj_neT hc112)) ?_
          refine xg_t (xg_blk (b := [(416, 1, 0, 0, 0, 0), (417, 3, 13, 140, 96, 183)]) rfl) ?_
          refine xg_t (xg_aload (va := (2, 82)) rfl rfl) ?_
          refine xg_cVv mX12_ends (vs := []) (rest := []) (cn1 := 0) (sl1 := 0) rfl (mEnds (hI70) hj73.2.2.2.1) rfl h82_109 rfl rfl rfl rfl rfl rfl (fun w203 hq204 => ?_)
          obtain ⟨hI205, hF206, hx207⟩ := hq204
          clear hb80 hb82 hb84 hb86 hb88 hb90 hb92 hb94 hb96 hb98 hb102 hb104 hb106 hb108
          obtain ⟨hv208, hv209, hv210, hv211, hv212⟩ := hx207
          have pk213 : PK w69 w203 := ⟨fun _ => hv208, by omega, by omega, Or.inr hv208, hv212⟩
          have pk214 : PK w w203 := PK.tr hj73 pk213
          have os215 : ∀ j, (j < 50 + 2 * u45 ∨ 52 + 2 * u45 ≤ j) → j < 140 → rwv w203 86 j = rwv w 86 j := fun j hj hl => (rwv_fr hF206 (by decide)).trans (hj74 j hj hl)
          have rg216 : FA w203 ≠ 0 ∨ u45 < 4 := hj77.imp_left pk213.1
          have mf217 : ∀ s, s < 7 → rwv w203 85 s = rwv w 85 s := fun s hs => (rwv_fr hF206 (by decide)).trans (hj76 s hs)
          have hl218 : rwv w203 86 (50 + 2 * u45 + 1) = rwv w69 86 (50 + 2 * u45 + 1) := rwv_fr hF206 (by decide)
          have nw219 : FA w203 ≠ 0 ∨ 4 ≤ u45 ∨ (1 ≤ rwv w203 86 (50 + 2 * u45 + 1) ∧ rwv w203 86 (50 + 2 * u45 + 1) ≤ 999) := by have q := hj78; have q1 := pk213.1; omega
          clear hj78
          have ms220 : mu w203 < mu w := Nat.lt_of_le_of_lt pk213.2.1 hj75
          clear hj77
          refine xg_t (xg_blk (b := [(420, 1, 0, 0, 0, 0), (421, 3, 1, 12, 11, 17), (424, 1, 2, 1, 0, 0), (425, 1, 39, 0, 0, 0), (426, 1, 10, 0, 0, 0), (427, 1, 3, 1, 0, 0), (428, 1, 11, 0, 0, 0), (429, 1, 17, 0, 0, 0), (430, 1, 0, 0, 0, 0), (431, 1, 19, 0, 0, 0), (432, 3, 1, 12, 14, 212), (435, 1, 3, 1, 0, 0), (436, 1, 11, 0, 0, 0), (437, 3, 14, 12, 14, 212), (440, 1, 12, 0, 0, 0)]) rfl) ?_
          obtain ⟨f82_221, f82_223, f82_225, f82_227, f82_229, f82_231, f82_233, f82_235, f82_237, f82_239, f82_241, f82_242, f82_243, f82_245, f82_247, f82_249, h82_251, hb222, hb224, hb226, hb228, hb230, hb232, hb234, hb236, hb238, hb240, hb244, hb246, hb248, hb250, hb252⟩ := (hI205 82 (by decide) (by decide) : cp82 (wget w203 82))
          have hf253 : fld w203 82 4 = f82_225 := fld_of h82_251
          have hf254 : fld w203 82 5 = f82_227 := fld_of h82_251
          have hf255 : fld w203 82 7 = f82_231 := fld_of h82_251
          have hf256 : fld w203 82 10 = f82_237 := fld_of h82_251
          have hf257 : fld w203 82 14 = f82_239 := fld_of h82_251
          have hu258 : mu w203 = 2 * (fld w203 82 4 - fld w203 82 5) + min 1 (fld w203 82 7) := rfl
          have hf259 := pk214.2.2.1
          have hl260 : f82_239 ≤ 1000 := by omega
          refine xg_t (xg_aload (va := (2, 82)) rfl rfl) ?_
          refine xg_t (xg_getf (va := (2, 85)) h82_251 rfl) ?_
          refine xg_t (xg_iload (va := (0, 1)) rfl rfl) ?_
          refine xg_t (xg_dup2 rfl) ?_
          obtain ⟨g85_261, h85_262, hb263⟩ := (hI205 85 (by decide) (by decide) : cpI 7 52 4294967295 (wget w203 85))
          have h85_262 : xRow w203 85 7 52 g85_261 := h85_262
          refine xg_ialdB (n := 1) (B := 4294967295) h85_262 (hb263) xnm0 (by omega) (fun u264 hu265 he266 => ?_)
          have hl267 : u264 = u45 := by have q1 := rwv_of h85_262 (show 1 < 7 by decide); have q2 := mf217 1 (by decide); omega
          refine xg_t (xg_const) ?_
          refine xg_t (xg_iadd (u := u264) (v := 1) (z := u264 + 1) xnm0 xnm0 (by omega)) ?_
          refine xg_iastK (n := 1) (u := u264 + 1) h85_262 xnm0 xnm0 rfl (by omega) (fun w268 hr269 hb270 => ?_)
          refine xg_t (xg_aload (va := (2, 82)) rfl rfl) ?_
          refine xg_t (xg_dup rfl) ?_
          refine xg_t (xg_getf (va := (0, f82_239)) (hb270.get (by decide) h82_251) rfl) ?_
          refine xg_t (xg_const) ?_
          refine xg_t (xg_iadd (u := f82_239) (v := 1) (z := f82_239 + 1) xnm0 xnm0 (by omega)) ?_
          refine xg_putI (fl1 := [(2, 83), (2, 84), (0, f82_221), (0, f82_223), (0, f82_225), (0, f82_227), (0, f82_229), (0, f82_231), (0, f82_233), (0, f82_235), (0, f82_237), (2, 85), (2, 86), (2, 87), (0, f82_239 + 1), (2, 88), (2, 89), (2, 90), (2, 91), (2, 92), (2, 93), (2, 94), (4, f82_241), (4, f82_242), (0, f82_243), (2, 95), (2, 96), (2, 97), (2, 98), (2, 99), (2, 100), (2, 101), (2, 102), (0, f82_245), (2, 103), (2, 104), (2, 105), (2, 106), (2, 107), (2, 108), (2, 109), (0, f82_247), (0, f82_249), (2, 110), (2, 111), (2, 112), (2, 113)]) (hb270.get (by decide) h82_251) rfl rfl rfl (fun w271 hk272 hb273 => ?_)
          have hF274 : xFr [82, 85] w203 w271 := ((xFr.of (S := [82, 85]) hb270 (by decide)).tr (xFr.of (S := [82, 85]) hb273 (by decide)))
          have hA275 := FA_fr hF274 (by decide)
          have hf276 : fld w271 82 4 = f82_225 := fld_of hk272
          have hf277 : fld w271 82 5 = f82_227 := fld_of hk272
          have hf278 : fld w271 82 7 = f82_231 := fld_of hk272
          have hf279 : fld w271 82 10 = f82_237 := fld_of hk272
          have hf280 : fld w271 82 14 = f82_239 + 1 := fld_of hk272
          have hu281 : mu w271 = 2 * (fld w271 82 4 - fld w271 82 5) + min 1 (fld w271 82 7) := rfl
          have pq282 := pk214
          unfold PK PS at pq282
          have hM283 : ∀ s, s < 7 → s ≠ 1 → rwv w271 85 s = rwv w 85 s := fun s hs hn => (rwv_of (hr269.but hb273 (by decide)) hs).trans ((if_neg hn).trans ((rwv_of h85_262 hs).symm.trans (mf217 s hs)))
          have hM284 : rwv w271 85 1 = u45 + 1 := (rwv_of (hr269.but hb273 (by decide)) (by decide)).trans ((if_pos rfl).trans (by omega))
          have hM285 : ∀ s, s < 7 → rwv w271 85 s ≤ rwv w 85 s + 1 := fun s hs => by
            by_cases z : s = 1
            · subst z; omega
            · rw [hM283 s hs z]; omega
          have hO286 : ∀ j, (j < 50 + 2 * u45 ∨ 52 + 2 * u45 ≤ j) → j < 140 → rwv w271 86 j = rwv w 86 j := fun j hj hl => (rwv_fr hF274 (by decide)).trans (os215 j hj hl)
          have hl288 : FA w203 ≠ 0 ∨ u45 < 4 := rg216
          have hl289 : rwv w271 86 (50 + 2 * u45 + 1) = rwv w203 86 (50 + 2 * u45 + 1) := rwv_fr hF274 (by decide)
          have hN287 : FA w271 ≠ 0 ∨ 4 ≤ u45 ∨ (1 ≤ rwv w271 86 (50 + 2 * u45 + 1) ∧ rwv w271 86 (50 + 2 * u45 + 1) ≤ 999) := by have q := nw219; omega
          have hX290 : FA w271 ≠ 0 ∨ u45 < 4 := by omega
          have hD291 : FA w271 ≠ 0 ∨ (DATA w → DATA w271) := by
            by_cases z : FA w271 ≠ 0
            · exact Or.inl z
            · exact Or.inr (fun hd => hd.s1 hM283 hK48 hM284 (hX290.resolve_left z) hO286 ((hN287.resolve_left z).resolve_left (by have := hX290.resolve_left z; omega)))
          exact xg_e ⟨w271, ⟨rfl, rfl⟩, xMnv.up (S := [85, 82]) hI205 ((xFr.of (S := [85, 82]) hb270 (by decide)).tr (xFr.of (S := [85, 82]) hb273 (by decide))) (List.forall_mem_cons.mpr ⟨(show cpI 7 52 4294967295 (wget w271 85) from ⟨_, (hr269.but hb273 (by decide)), xrb (by omega) (hb263)⟩), List.forall_mem_cons.mpr ⟨(show cp82 (wget w271 82) from ⟨f82_221, f82_223, f82_225, f82_227, f82_229, f82_231, f82_233, f82_235, f82_237, f82_239 + 1, f82_241, f82_242, f82_243, f82_245, f82_247, f82_249, hk272, hb222, hb224, hb226, hb228, hb230, hb232, hb234, hb236, hb238, by omega, hb244, hb246, hb248, hb250, by omega⟩), fun _ h => absurd h List.not_mem_nil⟩⟩), ((hF71.tr (hF206.up (by decide))).tr ((xFr.of (S := [82, 83, 85, 86, 87]) hb270 (by decide)).tr (xFr.of (S := [82, 83, 85, 86, 87]) hb273 (by decide)))), ⟨fun h => by have := pq282.1 h; omega, (show fld w271 82 10 = 0 ∨ FA w271 ≠ 0 by omega), Or.inr ⟨by have := ms220; omega, by omega, hM285⟩, hD291, pk214.2.2.2.2.tr (K83.fr hF274 (by decide))⟩⟩
      · refine xg_t (xg_ifT (u := f82_95) rfl xnm0 (xj_neT hc111)) ?_
        refine xg_t (xg_blk (b := [(416, 1, 0, 0, 0, 0), (417, 3, 13, 140, 96, 183)]) rfl) ?_
        refine xg_t (xg_aload (va := (2, 82)) rfl rfl) ?_
        refine xg_cVv mX12_ends (vs := []) (rest := []) (cn1 := 0) (sl1 := 0) rfl (mEnds (hI70) hj73.2.2.2.1) rfl h82_109 rfl rfl rfl rfl rfl rfl (fun w292 hq293 => ?_)
        obtain ⟨hI294, hF295, hx296⟩ := hq293
        clear hb80 hb82 hb84 hb86 hb88 hb90 hb92 hb94 hb96 hb98 hb102 hb104 hb106 hb108
        obtain ⟨hv297, hv298, hv299, hv300, hv301⟩ := hx296
        have pk302 : PK w69 w292 := ⟨fun _ => hv297, by omega, by omega, Or.inr hv297, hv301⟩
        have pk303 : PK w w292 := PK.tr hj73 pk302
        have os304 : ∀ j, (j < 50 + 2 * u45 ∨ 52 + 2 * u45 ≤ j) → j < 140 → rwv w292 86 j = rwv w 86 j := fun j hj hl => (rwv_fr hF295 (by decide)).trans (hj74 j hj hl)
        have rg305 : FA w292 ≠ 0 ∨ u45 < 4 := hj77.imp_left pk302.1
        have mf306 : ∀ s, s < 7 → rwv w292 85 s = rwv w 85 s := fun s hs => (rwv_fr hF295 (by decide)).trans (hj76 s hs)
        have hl307 : rwv w292 86 (50 + 2 * u45 + 1) = rwv w69 86 (50 + 2 * u45 + 1) := rwv_fr hF295 (by decide)
        have nw308 : FA w292 ≠ 0 ∨ 4 ≤ u45 ∨ (1 ≤ rwv w292 86 (50 + 2 * u45 + 1) ∧ rwv w292 86 (50 + 2 * u45 + 1) ≤ 999) := by have q := hj78; have q1 := pk302.1; omega
        clear hj78
        have ms309 : mu w292 < mu w := Nat.lt_of_le_of_lt pk302.2.1 hj75
        clear hj77
        refine xg_t (xg_blk (b := [(420, 1, 0, 0, 0, 0), (421, 3, 1, 12, 11, 17), (424, 1, 2, 1, 0, 0), (425, 1, 39, 0, 0, 0), (426, 1, 10, 0, 0, 0), (427, 1, 3, 1, 0, 0), (428, 1, 11, 0, 0, 0), (429, 1, 17, 0, 0, 0), (430, 1, 0, 0, 0, 0), (431, 1, 19, 0, 0, 0), (432, 3, 1, 12, 14, 212), (435, 1, 3, 1, 0, 0), (436, 1, 11, 0, 0, 0), (437, 3, 14, 12, 14, 212), (440, 1, 12, 0, 0, 0)]) rfl) ?_
        obtain ⟨f82_310, f82_312, f82_314, f82_316, f82_318, f82_320, f82_322, f82_324, f82_326, f82_328, f82_330, f82_331, f82_332, f82_334, f82_336, f82_338, h82_340, hb311, hb313, hb315, hb317, hb319, hb321, hb323, hb325, hb327, hb329, hb333, hb335, hb337, hb339, hb341⟩ := (hI294 82 (by decide) (by decide) : cp82 (wget w292 82))
        have hf342 : fld w292 82 4 = f82_314 := fld_of h82_340
        have hf343 : fld w292 82 5 = f82_316 := fld_of h82_340
        have hf344 : fld w292 82 7 = f82_320 := fld_of h82_340
        have hf345 : fld w292 82 10 = f82_326 := fld_of h82_340
        have hf346 : fld w292 82 14 = f82_328 := fld_of h82_340
        have hu347 : mu w292 = 2 * (fld w292 82 4 - fld w292 82 5) + min 1 (fld w292 82 7) := rfl
        have hf348 := pk303.2.2.1
        have hl349 : f82_328 ≤ 1000 := by omega
        refine xg_t (xg_aload (va := (2, 82)) rfl rfl) ?_
        refine xg_t (xg_getf (va := (2, 85)) h82_340 rfl) ?_
        refine xg_t (xg_iload (va := (0, 1)) rfl rfl) ?_
        refine xg_t (xg_dup2 rfl) ?_
        obtain ⟨g85_350, h85_351, hb352⟩ := (hI294 85 (by decide) (by decide) : cpI 7 52 4294967295 (wget w292 85))
        have h85_351 : xRow w292 85 7 52 g85_350 := h85_351
        refine xg_ialdB (n := 1) (B := 4294967295) h85_351 (hb352) xnm0 (by omega) (fun u353 hu354 he355 => ?_)
        have hl356 : u353 = u45 := by have q1 := rwv_of h85_351 (show 1 < 7 by decide); have q2 := mf306 1 (by decide); omega
        refine xg_t (xg_const) ?_
        refine xg_t (xg_iadd (u := u353) (v := 1) (z := u353 + 1) xnm0 xnm0 (by omega)) ?_
        refine xg_iastK (n := 1) (u := u353 + 1) h85_351 xnm0 xnm0 rfl (by omega) (fun w357 hr358 hb359 => ?_)
        refine xg_t (xg_aload (va := (2, 82)) rfl rfl) ?_
        refine xg_t (xg_dup rfl) ?_
        refine xg_t (xg_getf (va := (0, f82_328)) (hb359.get (by decide) h82_340) rfl) ?_
        refine xg_t (xg_const) ?_
        refine xg_t (xg_iadd (u := f82_328) (v := 1) (z := f82_328 + 1) xnm0 xnm0 (by omega)) ?_
        refine xg_putI (fl1 := [(2, 83), (2, 84), (0, f82_310), (0, f82_312), (0, f82_314), (0, f82_316), (0, f82_318), (0, f82_320), (0, f82_322), (0, f82_324), (0, f82_326), (2, 85), (2, 86), (2, 87), (0, f82_328 + 1), (2, 88), (2, 89), (2, 90), (2, 91), (2, 92), (2, 93), (2, 94), (4, f82_330), (4, f82_331), (0, f82_332), (2, 95), (2, 96), (2, 97), (2, 98), (2, 99), (2, 100), (2, 101), (2, 102), (0, f82_334), (2, 103), (2, 104), (2, 105), (2, 106), (2, 107), (2, 108), (2, 109), (0, f82_336), (0, f82_338), (2, 110), (2, 111), (2, 112), (2, 113)]) (hb359.get (by decide) h82_340) rfl rfl rfl (fun w360 hk361 hb362 => ?_)
        have hF363 : xFr [82, 85] w292 w360 := ((xFr.of (S := [82, 85]) hb359 (by decide)).tr (xFr.of (S := [82, 85]) hb362 (by decide)))
        have hA364 := FA_fr hF363 (by decide)
        have hf365 : fld w360 82 4 = f82_314 := fld_of hk361
        have hf366 : fld w360 82 5 = f82_316 := fld_of hk361
        have hf367 : fld w360 82 7 = f82_320 := fld_of hk361
        have hf368 : fld w360 82 10 = f82_326 := fld_of hk361
        have hf369 : fld w360 82 14 = f82_328 + 1 := fld_of hk361
        have hu370 : mu w360 = 2 * (fld w360 82 4 - fld w360 82 5) + min 1 (fld w360 82 7) := rfl
        have pq371 := pk303
        unfold PK PS at pq371
        have hM372 : ∀ s, s < 7 → s ≠ 1 → rwv w360 85 s = rwv w 85 s := fun s hs hn => (rwv_of (hr358.but hb362 (by decide)) hs).trans ((if_neg hn).trans ((rwv_of h85_351 hs).symm.trans (mf306 s hs)))
        have hM373 : rwv w360 85 1 = u45 + 1 := (rwv_of (hr358.but hb362 (by decide)) (by decide)).trans ((if_pos rfl).trans (by omega))
        have hM374 : ∀ s, s < 7 → rwv w360 85 s ≤ rwv w 85 s + 1 := fun s hs => by
          by_cases z : s = 1
          · subst z; omega
          · rw [hM372 s hs z]; omega
        have hO375 : ∀ j, (j < 50 + 2 * u45 ∨ 52 + 2 * u45 ≤ j) → j < 140 → rwv w360 86 j = rwv w 86 j := fun j hj hl => (rwv_fr hF363 (by decide)).trans (os304 j hj hl)
        have hl377 : FA w292 ≠ 0 ∨ u45 < 4 := rg305
        have hl378 : rwv w360 86 (50 + 2 * u45 + 1) = rwv w292 86 (50 + 2 * u45 + 1) := rwv_fr hF363 (by decide)
        have hN376 : FA w360 ≠ 0 ∨ 4 ≤ u45 ∨ (1 ≤ rwv w360 86 (50 + 2 * u45 + 1) ∧ rwv w360 86 (50 + 2 * u45 + 1) ≤ 999) := by have q := nw308; omega
        have hX379 : FA w360 ≠ 0 ∨ u45 < 4 := by omega
        have hD380 : FA w360 ≠ 0 ∨ (DATA w → DATA w360) := by
          by_cases z : FA w360 ≠ 0
          · exact Or.inl z
          · exact Or.inr (fun hd => hd.s1 hM372 hK48 hM373 (hX379.resolve_left z) hO375 ((hN376.resolve_left z).resolve_left (by have := hX379.resolve_left z; omega)))
        exact xg_e ⟨w360, ⟨rfl, rfl⟩, xMnv.up (S := [85, 82]) hI294 ((xFr.of (S := [85, 82]) hb359 (by decide)).tr (xFr.of (S := [85, 82]) hb362 (by decide))) (List.forall_mem_cons.mpr ⟨(show cpI 7 52 4294967295 (wget w360 85) from ⟨_, (hr358.but hb362 (by decide)), xrb (by omega) (hb352)⟩), List.forall_mem_cons.mpr ⟨(show cp82 (wget w360 82) from ⟨f82_310, f82_312, f82_314, f82_316, f82_318, f82_320, f82_322, f82_324, f82_326, f82_328 + 1, f82_330, f82_331, f82_332, f82_334, f82_336, f82_338, hk361, hb311, hb313, hb315, hb317, hb319, hb321, hb323, hb325, hb327, by omega, hb333, hb335, hb337, hb339, by omega⟩), fun _ h => absurd h List.not_mem_nil⟩⟩), ((hF71.tr (hF295.up (by decide))).tr ((xFr.of (S := [82, 83, 85, 86, 87]) hb359 (by decide)).tr (xFr.of (S := [82, 83, 85, 86, 87]) hb362 (by decide)))), ⟨fun h => by have := pq371.1 h; omega, (show fld w360 82 10 = 0 ∨ FA w360 ≠ 0 by omega), Or.inr ⟨by have := ms309; omega, by omega, hM374⟩, hD380, pk303.2.2.2.2.tr (K83.fr hF363 (by decide))⟩⟩
    refine xg_t (xg_iload (va := (0, 1)) rfl rfl) ?_
    refine xg_t (xg_swt (ks := [(0, 108), (1, 116), (2, 180), (3, 221), (4, 273), (5, 326)]) (u := 1) (z := 116) rfl rfl rfl xnm0 (xsw_n (by omega) (xsw_y rfl))) ?_
    refine xg_t (xg_blk (b := [(116, 1, 0, 0, 0, 0), (117, 1, 3, 0, 0, 0), (118, 2, 4, 99, 0, 0), (120, 3, 13, 199, 96, 196), (123, 2, 15, 4, 0, 0), (125, 1, 0, 0, 0, 0), (126, 2, 2, 4, 0, 0), (128, 1, 2, 3, 0, 0), (129, 3, 13, 167, 96, 208), (132, 3, 7, 141, 0, 0), (135, 1, 0, 0, 0, 0), (136, 1, 3, 3, 0, 0), (137, 1, 2, 2, 0, 0), (138, 3, 13, 115, 96, 186)]) rfl) ?_
    refine xg_t (xg_aload (va := (2, 82)) rfl rfl) ?_
    refine xg_t (xg_const) ?_
    refine xg_t (xg_bip) ?_
    obtain ⟨f82_381, f82_383, f82_385, f82_387, f82_389, f82_391, f82_393, f82_395, f82_397, f82_399, f82_401, f82_402, f82_403, f82_405, f82_407, f82_409, h82_411, hb382, hb384, hb386, hb388, hb390, hb392, hb394, hb396, hb398, hb400, hb404, hb406, hb408, hb410, hb412⟩ := (hI54 82 (by decide) (by decide) : cp82 (wget w52 82))
    refine xg_cVi mX12_numbered (vs := [(0, 0), (0, 99)]) (rest := []) (cn1 := 0) (sl1 := 0) rfl (mNumbered (hI54) (by omega) (by omega) pk64.2.2.2.1) rfl h82_411 rfl rfl rfl rfl rfl rfl (fun n417 w413 hq414 => ?_)
    obtain ⟨hn418, hI415, hF416⟩ := hq414
    clear hb382 hb384 hb386 hb388 hb390 hb392 hb394 hb396 hb398 hb400 hb404 hb406 hb408 hb410
    obtain ⟨hn419, hn420, hn421⟩ := hn418
    have pk422 : PK w w413 := PK.tr pk64 hn420
    have os423 : ∀ j, (j < 50 + 2 * u45 ∨ 52 + 2 * u45 ≤ j) → j < 140 → rwv w413 86 j = rwv w 86 j := fun j hj hl => (rwv_fr hF416 (by decide)).trans (os65 j hj hl)
    have mf424 : ∀ s, s < 7 → rwv w413 85 s = rwv w 85 s := fun s hs => (rwv_fr hF416 (by decide)).trans (mf66 s hs)
    have ms425 : mu w413 < mu w := Nat.lt_of_le_of_lt hn420.2.1 ms67
    refine xg_t (xg_istore (l1 := [(3, (0, u45)), (2, (0, at_)), (1, (0, 1)), (0, (2, 82))]) rfl rfl rfl) ?_
    refine xg_t (xg_aload (va := (2, 82)) rfl rfl) ?_
    refine xg_t (xg_iload (va := (0, n417)) rfl rfl) ?_
    refine xg_t (xg_iload (va := (0, u45)) rfl rfl) ?_
    obtain ⟨f82_426, f82_428, f82_430, f82_432, f82_434, f82_436, f82_438, f82_440, f82_442, f82_444, f82_446, f82_447, f82_448, f82_450, f82_452, f82_454, h82_456, hb427, hb429, hb431, hb433, hb435, hb437, hb439, hb441, hb443, hb445, hb449, hb451, hb453, hb455, hb457⟩ := (hI415 82 (by decide) (by decide) : cp82 (wget w413 82))
    refine xg_cVi mX12_isLifeTold (vs := [(0, n417), (0, u45)]) (rest := []) (cn1 := 0) (sl1 := 0) rfl (mLifeTold (hI415) (by omega) (by omega)) rfl h82_456 rfl rfl rfl rfl rfl rfl (fun n462 w458 hq459 => ?_)
    obtain ⟨hn463, hI460, hF461⟩ := hq459
    have pk464 : PK w w458 := PK.tr pk422 (PK.fr hF461 (by decide) (by decide) pk422.2.2.2.1)
    have os465 : ∀ j, (j < 50 + 2 * u45 ∨ 52 + 2 * u45 ≤ j) → j < 140 → rwv w458 86 j = rwv w 86 j := fun j hj hl => (rwv_fr hF461 (by decide)).trans (os423 j hj hl)
    have rg466 : FA w458 ≠ 0 ∨ (0 ≤ n417 ∧ n417 ≤ 99) := hn421.imp_left (PK.fr hF461 (by decide) (by decide) pk422.2.2.2.1).1
    have mf467 : ∀ s, s < 7 → rwv w458 85 s = rwv w 85 s := fun s hs => (rwv_fr hF461 (by decide)).trans (mf424 s hs)
    have ms468 : mu w458 < mu w := Nat.lt_of_le_of_lt (PK.fr hF461 (by decide) (by decide) pk422.2.2.2.1).2.1 ms425
    clear hn421
    by_cases hc469 : n462 = 0
    · refine xg_t (xg_ifT (u := n462) rfl xnm0 (xj_eqT hc469)) ?_
      refine xg_t (xg_blk (b := [(141, 1, 0, 0, 0, 0), (142, 1, 2, 1, 0, 0), (143, 1, 2, 3, 0, 0), (144, 2, 4, 50, 0, 0), (146, 1, 3, 2, 0, 0), (147, 1, 2, 3, 0, 0), (148, 1, 16, 0, 0, 0), (149, 1, 11, 0, 0, 0), (150, 2, 2, 4, 0, 0), (152, 3, 13, 211, 96, 200), (155, 1, 0, 0, 0, 0), (156, 1, 2, 1, 0, 0), (157, 1, 2, 3, 0, 0), (158, 2, 4, 50, 0, 0), (160, 1, 3, 2, 0, 0), (161, 1, 2, 3, 0, 0), (162, 1, 16, 0, 0, 0), (163, 1, 11, 0, 0, 0), (164, 1, 3, 1, 0, 0), (165, 1, 11, 0, 0, 0), (166, 1, 0, 0, 0, 0), (167, 1, 3, 1, 0, 0), (168, 3, 5, 999, 0, 0), (171, 3, 13, 199, 96, 196), (174, 3, 13, 211, 96, 200), (177, 3, 8, 394, 0, 0)]) rfl) ?_
      refine xg_t (xg_aload (va := (2, 82)) rfl rfl) ?_
      refine xg_t (xg_iload (va := (0, 1)) rfl rfl) ?_
      refine xg_t (xg_iload (va := (0, u45)) rfl rfl) ?_
      refine xg_t (xg_bip) ?_
      refine xg_t (xg_const) ?_
      refine xg_t (xg_iload (va := (0, u45)) rfl rfl) ?_
      refine xg_t (xg_imul (u := 2) (v := u45) (z := 2 * u45) xnm0 xnm0 (by omega)) ?_
      refine xg_t (xg_iadd (u := 50) (v := 2 * u45) (z := 50 + (2 * u45)) xnm0 xnm0 (by omega)) ?_
      refine xg_t (xg_iload (va := (0, n417)) rfl rfl) ?_
      refine xg_cVv mX12_puts (vs := [(0, 1), (0, u45), (0, 50 + (2 * u45)), (0, n417)]) (rest := []) (cn1 := 0) (sl1 := 0) rfl (mPuts1 (hI460) (by omega) (by omega) (by omega) (fun _ => by omega)) rfl (hF461.get (by decide) h82_456) rfl rfl rfl rfl rfl rfl (fun w470 hq471 => ?_)
      obtain ⟨hI472, hF473, hx474⟩ := hq471
      obtain ⟨hp475, hp476⟩ := hx474
      have pk477 : PK w w470 := PK.tr pk464 (PK.fr hF473 (by decide) (by decide) pk464.2.2.2.1)
      have os478 : ∀ j, (j < 50 + 2 * u45 ∨ 52 + 2 * u45 ≤ j) → j < 140 → rwv w470 86 j = rwv w 86 j := fun j hj hl => (hp476 j (by omega) hl).trans (os465 j hj hl)
      have rg479 : FA w470 ≠ 0 ∨ (0 ≤ n417 ∧ n417 ≤ 99) := rg466.imp_left (PK.fr hF473 (by decide) (by decide) pk464.2.2.2.1).1
      have mf480 : ∀ s, s < 7 → rwv w470 85 s = rwv w 85 s := fun s hs => (rwv_fr hF473 (by decide)).trans (mf467 s hs)
      have ms481 : mu w470 < mu w := Nat.lt_of_le_of_lt (PK.fr hF473 (by decide) (by decide) pk464.2.2.2.1).2.1 ms468
      clear rg466
      refine xg_t (xg_aload (va := (2, 82)) rfl rfl) ?_
      refine xg_t (xg_iload (va := (0, 1)) rfl rfl) ?_
      refine xg_t (xg_iload (va := (0, u45)) rfl rfl) ?_
      refine xg_t (xg_bip) ?_
      refine xg_t (xg_const) ?_
      refine xg_t (xg_iload (va := (0, u45)) rfl rfl) ?_
      refine xg_t (xg_imul (u := 2) (v := u45) (z := 2 * u45) xnm0 xnm0 (by omega)) ?_
      refine xg_t (xg_iadd (u := 50) (v := 2 * u45) (z := 50 + (2 * u45)) xnm0 xnm0 (by omega)) ?_
      refine xg_t (xg_const) ?_
      refine xg_t (xg_iadd (u := 50 + (2 * u45)) (v := 1) (z := (50 + (2 * u45)) + 1) xnm0 xnm0 (by omega)) ?_
      refine xg_t (xg_aload (va := (2, 82)) rfl rfl) ?_
      refine xg_t (xg_const) ?_
      refine xg_t (xg_sip) ?_
      refine xg_cVi mX12_numbered (vs := [(0, 1), (0, 999)]) (rest := [(0, (50 + (2 * u45)) + 1), (0, u45), (0, 1), (2, 82)]) (cn1 := 0) (sl1 := 0) rfl (mNumbered (hI472) (by omega) (by omega) pk477.2.2.2.1) rfl (hF473.get (by decide) (hF461.get (by decide) h82_456)) rfl rfl rfl rfl rfl rfl (fun n486 w482 hq483 => ?_)
      obtain ⟨hn487, hI484, hF485⟩ := hq483
      clear hb427 hb429 hb431 hb433 hb435 hb437 hb439 hb441 hb443 hb445 hb449 hb451 hb453 hb455
      obtain ⟨hn488, hn489, hn490⟩ := hn487
      have pk491 : PK w w482 := PK.tr pk477 hn489
      have os492 : ∀ j, (j < 50 + 2 * u45 ∨ 52 + 2 * u45 ≤ j) → j < 140 → rwv w482 86 j = rwv w 86 j := fun j hj hl => (rwv_fr hF485 (by decide)).trans (os478 j hj hl)
      have ix493 : u45 < 4 → rwv w482 86 (50 + (2 * u45)) = n417 := fun h => (rwv_fr hF485 (by decide)).trans (hp475 h)
      have rg494 : FA w482 ≠ 0 ∨ (0 ≤ n417 ∧ n417 ≤ 99) := rg479.imp_left hn489.1
      have mf495 : ∀ s, s < 7 → rwv w482 85 s = rwv w 85 s := fun s hs => (rwv_fr hF485 (by decide)).trans (mf480 s hs)
      have ms496 : mu w482 < mu w := Nat.lt_of_le_of_lt hn489.2.1 ms481
      clear hp475 rg479
      obtain ⟨f82_497, f82_499, f82_501, f82_503, f82_505, f82_507, f82_509, f82_511, f82_513, f82_515, f82_517, f82_518, f82_519, f82_521, f82_523, f82_525, h82_527, hb498, hb500, hb502, hb504, hb506, hb508, hb510, hb512, hb514, hb516, hb520, hb522, hb524, hb526, hb528⟩ := (hI484 82 (by decide) (by decide) : cp82 (wget w482 82))
      refine xg_cVv mX12_puts (vs := [(0, 1), (0, u45), (0, (50 + (2 * u45)) + 1), (0, n486)]) (rest := []) (cn1 := 0) (sl1 := 0) rfl (mPuts1 (hI484) (by omega) (by omega) (by omega) (fun _ => by omega)) rfl h82_527 rfl rfl rfl rfl rfl rfl (fun w529 hq530 => ?_)
      obtain ⟨hI531, hF532, hx533⟩ := hq530
      obtain ⟨hp534, hp535⟩ := hx533
      have pk536 : PK w w529 := PK.tr pk491 (PK.fr hF532 (by decide) (by decide) pk491.2.2.2.1)
      have os537 : ∀ j, (j < 50 + 2 * u45 ∨ 52 + 2 * u45 ≤ j) → j < 140 → rwv w529 86 j = rwv w 86 j := fun j hj hl => (hp535 j (by omega) hl).trans (os492 j hj hl)
      have ix538 : u45 < 4 → rwv w529 86 (50 + (2 * u45)) = n417 := fun h => (hp535 _ (by omega) (by omega)).trans (ix493 h)
      have rg539 : FA w529 ≠ 0 ∨ (0 ≤ n417 ∧ n417 ≤ 99) := rg494.imp_left (PK.fr hF532 (by decide) (by decide) pk491.2.2.2.1).1
      have rg540 : FA w529 ≠ 0 ∨ (1 ≤ n486 ∧ n486 ≤ 999) := hn490.imp_left (PK.fr hF532 (by decide) (by decide) pk491.2.2.2.1).1
      have mf541 : ∀ s, s < 7 → rwv w529 85 s = rwv w 85 s := fun s hs => (rwv_fr hF532 (by decide)).trans (mf495 s hs)
      have ms542 : mu w529 < mu w := Nat.lt_of_le_of_lt (PK.fr hF532 (by decide) (by decide) pk491.2.2.2.1).2.1 ms496
      clear ix493 rg494 hn490
      refine xg_t (xg_goto) ?_
      refine xg_t (xg_drop (l1 := [(0, (2, 82)), (1, (0, 1)), (3, (0, u45))]) (List.forall_mem_cons.mpr ⟨List.mem_cons_of_mem _ (List.mem_cons_of_mem _ (List.mem_cons_of_mem _ (List.mem_cons_of_mem _ (List.mem_cons_self)))), List.forall_mem_cons.mpr ⟨List.mem_cons_of_mem _ (List.mem_cons_of_mem _ (List.mem_cons_of_mem _ (List.mem_cons_self))), List.forall_mem_cons.mpr ⟨List.mem_cons_of_mem _ (List.mem_cons_self), fun _ h => absurd h List.not_mem_nil⟩⟩⟩)) ?_
      have hX543 : FA w529 ≠ 0 ∨ u45 < 4 := Or.inr (by omega)
      have hN544 : FA w529 ≠ 0 ∨ 4 ≤ u45 ∨ (1 ≤ rwv w529 86 (50 + 2 * u45 + 1) ∧ rwv w529 86 (50 + 2 * u45 + 1) ≤ 999) := by
        have hl545 : u45 < 4 → rwv w529 86 (50 + (2 * u45)) = n417 := ix538
        have hl546 : u45 < 4 → rwv w529 86 ((50 + (2 * u45)) + 1) = n486 := hp534
        have hl547 := rg539
        have hl548 := rg540
        omega
      exact jn68 w529 (hI531) (((((((hF55.up (by decide)).tr (hF416.up (by decide))).tr (hF461.up (by decide))).tr (hF473.up (by decide))).tr (hF485.up (by decide))).tr (hF532.up (by decide)))) (⟨pk536, os537, ms542, mf541, hX543, hN544⟩)
    · refine xg_t (xg_ifF (u := n462) rfl xnm0 (xj_eqF hc469)) ?_
      refine xg_t (xg_aload (va := (2, 82)) rfl rfl) ?_
      refine xg_t (xg_const) ?_
      refine xg_t (xg_iload (va := (0, at_)) rfl rfl) ?_
      refine xg_cVv mX12_also (vs := [(0, 3), (0, at_)]) (rest := []) (cn1 := 0) (sl1 := 0) rfl (mAlso (hI460) (by omega) (by omega) (by omega) pk464.2.2.2.1) rfl (hF461.get (by decide) h82_456) rfl rfl rfl rfl rfl rfl (fun w549 hq550 => ?_)
      obtain ⟨hI551, hF552, hx553⟩ := hq550
      obtain ⟨hv555, hv556⟩ := hx553
      have pk554 : PK w458 w549 := ⟨fun _ => hv555, Nat.le_of_eq (mu_fr hF552 (by decide)), fld_fr hF552 (by decide), Or.inr hv555, hv556⟩
      have pk557 : PK w w549 := PK.tr pk464 pk554
      have os558 : ∀ j, (j < 50 + 2 * u45 ∨ 52 + 2 * u45 ≤ j) → j < 140 → rwv w549 86 j = rwv w 86 j := fun j hj hl => (rwv_fr hF552 (by decide)).trans (os465 j hj hl)
      have rg559 : FA w549 ≠ 0 ∨ (0 ≤ n417 ∧ n417 ≤ 99) := rg466.imp_left pk554.1
      have mf560 : ∀ s, s < 7 → rwv w549 85 s = rwv w 85 s := fun s hs => (rwv_fr hF552 (by decide)).trans (mf467 s hs)
      have ms561 : mu w549 < mu w := Nat.lt_of_le_of_lt pk554.2.1 ms468
      clear rg466
      refine xg_t (xg_blk (b := [(141, 1, 0, 0, 0, 0), (142, 1, 2, 1, 0, 0), (143, 1, 2, 3, 0, 0), (144, 2, 4, 50, 0, 0), (146, 1, 3, 2, 0, 0), (147, 1, 2, 3, 0, 0), (148, 1, 16, 0, 0, 0), (149, 1, 11, 0, 0, 0), (150, 2, 2, 4, 0, 0), (152, 3, 13, 211, 96, 200), (155, 1, 0, 0, 0, 0), (156, 1, 2, 1, 0, 0), (157, 1, 2, 3, 0, 0), (158, 2, 4, 50, 0, 0), (160, 1, 3, 2, 0, 0), (161, 1, 2, 3, 0, 0), (162, 1, 16, 0, 0, 0), (163, 1, 11, 0, 0, 0), (164, 1, 3, 1, 0, 0), (165, 1, 11, 0, 0, 0), (166, 1, 0, 0, 0, 0), (167, 1, 3, 1, 0, 0), (168, 3, 5, 999, 0, 0), (171, 3, 13, 199, 96, 196), (174, 3, 13, 211, 96, 200), (177, 3, 8, 394, 0, 0)]) rfl) ?_
      refine xg_t (xg_aload (va := (2, 82)) rfl rfl) ?_
      refine xg_t (xg_iload (va := (0, 1)) rfl rfl) ?_
      refine xg_t (xg_iload (va := (0, u45)) rfl rfl) ?_
      refine xg_t (xg_bip) ?_
      refine xg_t (xg_const) ?_
      refine xg_t (xg_iload (va := (0, u45)) rfl rfl) ?_
      refine xg_t (xg_imul (u := 2) (v := u45) (z := 2 * u45) xnm0 xnm0 (by omega)) ?_
      refine xg_t (xg_iadd (u := 50) (v := 2 * u45) (z := 50 + (2 * u45)) xnm0 xnm0 (by omega)) ?_
      refine xg_t (xg_iload (va := (0, n417)) rfl rfl) ?_
      refine xg_cVv mX12_puts (vs := [(0, 1), (0, u45), (0, 50 + (2 * u45)), (0, n417)]) (rest := []) (cn1 := 0) (sl1 := 0) rfl (mPuts1 (hI551) (by omega) (by omega) (by omega) (fun _ => by omega)) rfl (hF552.get (by decide) (hF461.get (by decide) h82_456)) rfl rfl rfl rfl rfl rfl (fun w562 hq563 => ?_)
      obtain ⟨hI564, hF565, hx566⟩ := hq563
      obtain ⟨hp567, hp568⟩ := hx566
      have pk569 : PK w w562 := PK.tr pk557 (PK.fr hF565 (by decide) (by decide) pk557.2.2.2.1)
      have os570 : ∀ j, (j < 50 + 2 * u45 ∨ 52 + 2 * u45 ≤ j) → j < 140 → rwv w562 86 j = rwv w 86 j := fun j hj hl => (hp568 j (by omega) hl).trans (os558 j hj hl)
      have rg571 : FA w562 ≠ 0 ∨ (0 ≤ n417 ∧ n417 ≤ 99) := rg559.imp_left (PK.fr hF565 (by decide) (by decide) pk557.2.2.2.1).1
      have rg572 : FA w562 ≠ 0 ∨ 0 = 1 := (Or.inl hv555 : FA w549 ≠ 0 ∨ 0 = 1).imp_left (PK.fr hF565 (by decide) (by decide) pk557.2.2.2.1).1
      have mf573 : ∀ s, s < 7 → rwv w562 85 s = rwv w 85 s := fun s hs => (rwv_fr hF565 (by decide)).trans (mf560 s hs)
      have ms574 : mu w562 < mu w := Nat.lt_of_le_of_lt (PK.fr hF565 (by decide) (by decide) pk557.2.2.2.1).2.1 ms561
      clear rg559
      refine xg_t (xg_aload (va := (2, 82)) rfl rfl) ?_
      refine xg_t (xg_iload (va := (0, 1)) rfl rfl) ?_
      refine xg_t (xg_iload (va := (0, u45)) rfl rfl) ?_
      refine xg_t (xg_bip) ?_
      refine xg_t (xg_const) ?_
      refine xg_t (xg_iload (va := (0, u45)) rfl rfl) ?_
      refine xg_t (xg_imul (u := 2) (v := u45) (z := 2 * u45) xnm0 xnm0 (by omega)) ?_
      refine xg_t (xg_iadd (u := 50) (v := 2 * u45) (z := 50 + (2 * u45)) xnm0 xnm0 (by omega)) ?_
      refine xg_t (xg_const) ?_
      refine xg_t (xg_iadd (u := 50 + (2 * u45)) (v := 1) (z := (50 + (2 * u45)) + 1) xnm0 xnm0 (by omega)) ?_
      refine xg_t (xg_aload (va := (2, 82)) rfl rfl) ?_
      refine xg_t (xg_const) ?_
      refine xg_t (xg_sip) ?_
      refine xg_cVi mX12_numbered (vs := [(0, 1), (0, 999)]) (rest := [(0, (50 + (2 * u45)) + 1), (0, u45), (0, 1), (2, 82)]) (cn1 := 0) (sl1 := 0) rfl (mNumbered (hI564) (by omega) (by omega) pk569.2.2.2.1) rfl (hF565.get (by decide) (hF552.get (by decide) (hF461.get (by decide) h82_456))) rfl rfl rfl rfl rfl rfl (fun n579 w575 hq576 => ?_)
      obtain ⟨hn580, hI577, hF578⟩ := hq576
      clear hb427 hb429 hb431 hb433 hb435 hb437 hb439 hb441 hb443 hb445 hb449 hb451 hb453 hb455
      obtain ⟨hn581, hn582, hn583⟩ := hn580
      have pk584 : PK w w575 := PK.tr pk569 hn582
      have os585 : ∀ j, (j < 50 + 2 * u45 ∨ 52 + 2 * u45 ≤ j) → j < 140 → rwv w575 86 j = rwv w 86 j := fun j hj hl => (rwv_fr hF578 (by decide)).trans (os570 j hj hl)
      have ix586 : u45 < 4 → rwv w575 86 (50 + (2 * u45)) = n417 := fun h => (rwv_fr hF578 (by decide)).trans (hp567 h)
      have rg587 : FA w575 ≠ 0 ∨ (0 ≤ n417 ∧ n417 ≤ 99) := rg571.imp_left hn582.1
      have rg588 : FA w575 ≠ 0 ∨ 0 = 1 := rg572.imp_left hn582.1
      have mf589 : ∀ s, s < 7 → rwv w575 85 s = rwv w 85 s := fun s hs => (rwv_fr hF578 (by decide)).trans (mf573 s hs)
      have ms590 : mu w575 < mu w := Nat.lt_of_le_of_lt hn582.2.1 ms574
      clear hp567 rg571 rg572
      obtain ⟨f82_591, f82_593, f82_595, f82_597, f82_599, f82_601, f82_603, f82_605, f82_607, f82_609, f82_611, f82_612, f82_613, f82_615, f82_617, f82_619, h82_621, hb592, hb594, hb596, hb598, hb600, hb602, hb604, hb606, hb608, hb610, hb614, hb616, hb618, hb620, hb622⟩ := (hI577 82 (by decide) (by decide) : cp82 (wget w575 82))
      refine xg_cVv mX12_puts (vs := [(0, 1), (0, u45), (0, (50 + (2 * u45)) + 1), (0, n579)]) (rest := []) (cn1 := 0) (sl1 := 0) rfl (mPuts1 (hI577) (by omega) (by omega) (by omega) (fun _ => by omega)) rfl h82_621 rfl rfl rfl rfl rfl rfl (fun w623 hq624 => ?_)
      obtain ⟨hI625, hF626, hx627⟩ := hq624
      obtain ⟨hp628, hp629⟩ := hx627
      have pk630 : PK w w623 := PK.tr pk584 (PK.fr hF626 (by decide) (by decide) pk584.2.2.2.1)
      have os631 : ∀ j, (j < 50 + 2 * u45 ∨ 52 + 2 * u45 ≤ j) → j < 140 → rwv w623 86 j = rwv w 86 j := fun j hj hl => (hp629 j (by omega) hl).trans (os585 j hj hl)
      have ix632 : u45 < 4 → rwv w623 86 (50 + (2 * u45)) = n417 := fun h => (hp629 _ (by omega) (by omega)).trans (ix586 h)
      have rg633 : FA w623 ≠ 0 ∨ (0 ≤ n417 ∧ n417 ≤ 99) := rg587.imp_left (PK.fr hF626 (by decide) (by decide) pk584.2.2.2.1).1
      have rg634 : FA w623 ≠ 0 ∨ 0 = 1 := rg588.imp_left (PK.fr hF626 (by decide) (by decide) pk584.2.2.2.1).1
      have rg635 : FA w623 ≠ 0 ∨ (1 ≤ n579 ∧ n579 ≤ 999) := hn583.imp_left (PK.fr hF626 (by decide) (by decide) pk584.2.2.2.1).1
      have mf636 : ∀ s, s < 7 → rwv w623 85 s = rwv w 85 s := fun s hs => (rwv_fr hF626 (by decide)).trans (mf589 s hs)
      have ms637 : mu w623 < mu w := Nat.lt_of_le_of_lt (PK.fr hF626 (by decide) (by decide) pk584.2.2.2.1).2.1 ms590
      clear ix586 rg587 rg588 hn583
      refine xg_t (xg_goto) ?_
      refine xg_t (xg_drop (l1 := [(0, (2, 82)), (1, (0, 1)), (3, (0, u45))]) (List.forall_mem_cons.mpr ⟨List.mem_cons_of_mem _ (List.mem_cons_of_mem _ (List.mem_cons_of_mem _ (List.mem_cons_of_mem _ (List.mem_cons_self)))), List.forall_mem_cons.mpr ⟨List.mem_cons_of_mem _ (List.mem_cons_of_mem _ (List.mem_cons_of_mem _ (List.mem_cons_self))), List.forall_mem_cons.mpr ⟨List.mem_cons_of_mem _ (List.mem_cons_self), fun _ h => absurd h List.not_mem_nil⟩⟩⟩)) ?_
      have hX638 : FA w623 ≠ 0 ∨ u45 < 4 := Or.inl (by have q := rg634; omega)
      have hN639 : FA w623 ≠ 0 ∨ 4 ≤ u45 ∨ (1 ≤ rwv w623 86 (50 + 2 * u45 + 1) ∧ rwv w623 86 (50 + 2 * u45 + 1) ≤ 999) := by
        have hl640 : u45 < 4 → rwv w623 86 (50 + (2 * u45)) = n417 := ix632
        have hl641 : u45 < 4 → rwv w623 86 ((50 + (2 * u45)) + 1) = n579 := hp628
        have hl642 := rg633
        have hl643 := rg635
        omega
      exact jn68 w623 (hI625) ((((((((hF55.up (by decide)).tr (hF416.up (by decide))).tr (hF461.up (by decide))).tr (hF552.up (by decide))).tr (hF565.up (by decide))).tr (hF578.up (by decide))).tr (hF626.up (by decide)))) (⟨pk630, os631, ms637, mf636, hX638, hN639⟩)
  · refine xg_t (xg_icF (u := u45) (v := 4) rfl xnm0 xnm0 (xj_ltF (by omega) (by omega))) ?_
    refine xg_t (xg_aload (va := (2, 82)) rfl rfl) ?_
    refine xg_t (xg_const) ?_
    refine xg_t (xg_iload (va := (0, at_)) rfl rfl) ?_
    refine xg_cVv mX12_also (vs := [(0, 3), (0, at_)]) (rest := []) (cn1 := 0) (sl1 := 0) rfl (mAlso (hI) (by omega) (by omega) (by omega) (PK.rf hps).2.2.2.1) rfl h82_31 rfl rfl rfl rfl rfl rfl (fun w644 hq645 => ?_)
    obtain ⟨hI646, hF647, hx648⟩ := hq645
    obtain ⟨hv650, hv651⟩ := hx648
    have pk649 : PK w w644 := ⟨fun _ => hv650, Nat.le_of_eq (mu_fr hF647 (by decide)), fld_fr hF647 (by decide), Or.inr hv650, hv651⟩
    have pk652 : PK w w644 := PK.tr (PK.rf hps) pk649
    have os653 : ∀ j, (j < 50 + 2 * u45 ∨ 52 + 2 * u45 ≤ j) → j < 140 → rwv w644 86 j = rwv w 86 j := fun j hj hl => (rwv_fr hF647 (by decide)).trans ((fun j _ _ => rfl) j hj hl)
    have mf654 : ∀ s, s < 7 → rwv w644 85 s = rwv w 85 s := fun s hs => (rwv_fr hF647 (by decide)).trans ((fun _ _ => rfl) s hs)
    have hf655 := fld_fr (c := 82) (j := 7) hF647 (by decide)
    refine xg_t (xg_blk (b := [(64, 1, 0, 0, 0, 0), (65, 3, 13, 110, 96, 190), (68, 1, 2, 1, 0, 0), (69, 39, 33, 362, 0, 9)]) rfl) ?_
    refine xg_t (xg_aload (va := (2, 82)) rfl rfl) ?_
    refine xg_cVv mX12_advance (vs := []) (rest := []) (cn1 := 0) (sl1 := 0) rfl (mAdvance (hI646)) rfl (hF647.get (by decide) h82_31) rfl rfl rfl rfl rfl rfl (fun w656 hq657 => ?_)
    obtain ⟨hI658, hF659, hx660⟩ := hq657
    clear hb2 hb4 hb6 hb8 hb10 hb12 hb14 hb16 hb18 hb20 hb24 hb26 hb28 hb30
    obtain ⟨hv661, hv662, hv663, hv664⟩ := hx660
    have hf666 := FA_fr hF659 (by decide)
    have hs667 := pk652.2.2.2.1
    unfold PS at hs667
    have pk665 : PK w644 w656 := ⟨fun _ => by omega, hv661, hv664, (show fld w656 82 10 = 0 ∨ FA w656 ≠ 0 by omega), K83.fr hF659 (by decide)⟩
    clear hs667
    have pk668 : PK w w656 := PK.tr pk652 pk665
    have os669 : ∀ j, (j < 50 + 2 * u45 ∨ 52 + 2 * u45 ≤ j) → j < 140 → rwv w656 86 j = rwv w 86 j := fun j hj hl => (rwv_fr hF659 (by decide)).trans (os653 j hj hl)
    have rg670 : FA w656 ≠ 0 ∨ 0 = 1 := (Or.inl hv650 : FA w644 ≠ 0 ∨ 0 = 1).imp_left pk665.1
    have mf671 : ∀ s, s < 7 → rwv w656 85 s = rwv w 85 s := fun s hs => (rwv_fr hF659 (by decide)).trans (mf654 s hs)
    have ms672 : mu w656 < mu w := Nat.lt_of_lt_of_le (hv662 (by omega)) pk652.2.1
    clear hv662
    have jn673 : ∀ (w674 : List (List xE)), xMnv w674 → xFr [82, 83, 85, 86, 87] w w674 → (PK w w674 ∧ (∀ j, (j < 50 + 2 * u45 ∨ 52 + 2 * u45 ≤ j) → j < 140 → rwv w674 86 j = rwv w 86 j) ∧ mu w674 < mu w ∧ (∀ s, s < 7 → rwv w674 85 s = rwv w 85 s) ∧ (FA w674 ≠ 0 ∨ u45 < 4) ∧ (FA w674 ≠ 0 ∨ 4 ≤ u45 ∨ (1 ≤ rwv w674 86 (50 + 2 * u45 + 1) ∧ rwv w674 86 (50 + 2 * u45 + 1) ≤ 999))) → xTo (d + 7) mX12_aLine (394, [], [(0, (2, 82)), (1, (0, 1)), (3, (0, u45))], [], (w674, bd, fc, 0, 0, rr)) (fun φ => ∃ w', xEnd 0 [] (w', bd, fc, 0, 0, rr) φ ∧ xMnv w' ∧ xFr [82, 83, 85, 86, 87] w w' ∧ ((FA w ≠ 0 → FA w' ≠ 0) ∧ PS w' ∧ ((fld w' 82 10 = 1 ∧ mu w' = mu w ∧ fld w' 82 14 = fld w 82 14 ∧ ∀ s, s < 7 → rwv w' 85 s = rwv w 85 s) ∨ (mu w' < mu w ∧ fld w' 82 14 = fld w 82 14 + 1 ∧ ∀ s, s < 7 → rwv w' 85 s ≤ rwv w 85 s + 1)) ∧ (FA w' ≠ 0 ∨ (DATA w → DATA w')) ∧ K83 w w')) := by
      intro w674 hI675 hF676 he677
      obtain ⟨hj678, hj679, hj680, hj681, hj682, hj683⟩ := he677
      refine xg_t (xg_blk (b := [(394, 1, 0, 0, 0, 0), (395, 3, 1, 12, 10, 180), (398, 3, 7, 416, 1, 0), (401, 1, 0, 0, 0, 0), (402, 3, 1, 12, 7, 151), (405, 1, 3, 2, 0, 0), (406, 3, 6, 416, 1, 0), (409, 1, 0, 0, 0, 0), (410, 3, 13, 110, 96, 190), (413, 3, 8, 420, 0, 0)]) rfl) ?_
      refine xg_t (xg_aload (va := (2, 82)) rfl rfl) ?_
      obtain ⟨f82_684, f82_686, f82_688, f82_690, f82_692, f82_694, f82_696, f82_698, f82_700, f82_702, f82_704, f82_705, f82_706, f82_708, f82_710, f82_712, h82_714, hb685, hb687, hb689, hb691, hb693, hb695, hb697, hb699, hb701, hb703, hb707, hb709, hb711, hb713, hb715⟩ := (hI675 82 (by decide) (by decide) : cp82 (wget w674 82))
      refine xg_t (xg_getf (va := (0, f82_700)) h82_714 rfl) ?_
      by_cases hc716 : f82_700 = 0
      · refine xg_t (xg_ifF (u := f82_700) rfl xnm0 (xj_neF hc716)) ?_
        refine xg_t (xg_aload (va := (2, 82)) rfl rfl) ?_
        refine xg_t (xg_getf (va := (0, f82_694)) h82_714 rfl) ?_
        refine xg_t (xg_const) ?_
        by_cases hc717 : f82_694 = 2
        · refine xg_t (xg_icF (u := f82_694) (v := 2) rfl xnm0 xnm0 (xj_neF hc717)) ?_
          refine xg_t (xg_aload (va := (2, 82)) rfl rfl) ?_
          refine xg_cVv mX12_advance (vs := []) (rest := []) (cn1 := 0) (sl1 := 0) rfl (mAdvance (hI675)) rfl h82_714 rfl rfl rfl rfl rfl rfl (fun w718 hq719 => ?_)
          obtain ⟨hI720, hF721, hx722⟩ := hq719
          clear hb685 hb687 hb689 hb691 hb693 hb695 hb697 hb699 hb701 hb703 hb707 hb709 hb711 hb713
          obtain ⟨hv723, hv724, hv725, hv726⟩ := hx722
          have hf728 := FA_fr hF721 (by decide)
          have hs729 := hj678.2.2.2.1
          unfold PS at hs729
          have pk727 : PK w674 w718 := ⟨fun _ => by omega, hv723, hv726, (show fld w718 82 10 = 0 ∨ FA w718 ≠ 0 by omega), K83.fr hF721 (by decide)⟩
          clear hs729
          clear hv724
          have pk730 : PK w w718 := PK.tr hj678 pk727
          have os731 : ∀ j, (j < 50 + 2 * u45 ∨ 52 + 2 * u45 ≤ j) → j < 140 → rwv w718 86 j = rwv w 86 j := fun j hj hl => (rwv_fr hF721 (by decide)).trans (hj679 j hj hl)
          have rg732 : FA w718 ≠ 0 ∨ u45 < 4 := hj682.imp_left pk727.1
          have mf733 : ∀ s, s < 7 → rwv w718 85 s = rwv w 85 s := fun s hs => (rwv_fr hF721 (by decide)).trans (hj681 s hs)
          have hl734 : rwv w718 86 (50 + 2 * u45 + 1) = rwv w674 86 (50 + 2 * u45 + 1) := rwv_fr hF721 (by decide)
          have nw735 : FA w718 ≠ 0 ∨ 4 ≤ u45 ∨ (1 ≤ rwv w718 86 (50 + 2 * u45 + 1) ∧ rwv w718 86 (50 + 2 * u45 + 1) ≤ 999) := by have q := hj683; have q1 := pk727.1; omega
          clear hj683
          have ms736 : mu w718 < mu w := Nat.lt_of_le_of_lt pk727.2.1 hj680
          clear hj682
          refine xg_t (xg_goto) ?_
          refine xg_t (xg_blk (b := [(420, 1, 0, 0, 0, 0), (421, 3, 1, 12, 11, 17), (424, 1, 2, 1, 0, 0), (425, 1, 39, 0, 0, 0), (426, 1, 10, 0, 0, 0), (427, 1, 3, 1, 0, 0), (428, 1, 11, 0, 0, 0), (429, 1, 17, 0, 0, 0), (430, 1, 0, 0, 0, 0), (431, 1, 19, 0, 0, 0), (432, 3, 1, 12, 14, 212), (435, 1, 3, 1, 0, 0), (436, 1, 11, 0, 0, 0), (437, 3, 14, 12, 14, 212), (440, 1, 12, 0, 0, 0)]) rfl) ?_
          obtain ⟨f82_737, f82_739, f82_741, f82_743, f82_745, f82_747, f82_749, f82_751, f82_753, f82_755, f82_757, f82_758, f82_759, f82_761, f82_763, f82_765, h82_767, hb738, hb740, hb742, hb744, hb746, hb748, hb750, hb752, hb754, hb756, hb760, hb762, hb764, hb766, hb768⟩ := (hI720 82 (by decide) (by decide) : cp82 (wget w718 82))
          have hf769 : fld w718 82 4 = f82_741 := fld_of h82_767
          have hf770 : fld w718 82 5 = f82_743 := fld_of h82_767
          have hf771 : fld w718 82 7 = f82_747 := fld_of h82_767
          have hf772 : fld w718 82 10 = f82_753 := fld_of h82_767
          have hf773 : fld w718 82 14 = f82_755 := fld_of h82_767
          have hu774 : mu w718 = 2 * (fld w718 82 4 - fld w718 82 5) + min 1 (fld w718 82 7) := rfl
          have hf775 := pk730.2.2.1
          have hl776 : f82_755 ≤ 1000 := by omega
          refine xg_t (xg_aload (va := (2, 82)) rfl rfl) ?_
          refine xg_t (xg_getf (va := (2, 85)) h82_767 rfl) ?_
          refine xg_t (xg_iload (va := (0, 1)) rfl rfl) ?_
          refine xg_t (xg_dup2 rfl) ?_
          obtain ⟨g85_777, h85_778, hb779⟩ := (hI720 85 (by decide) (by decide) : cpI 7 52 4294967295 (wget w718 85))
          have h85_778 : xRow w718 85 7 52 g85_777 := h85_778
          refine xg_ialdB (n := 1) (B := 4294967295) h85_778 (hb779) xnm0 (by omega) (fun u780 hu781 he782 => ?_)
          have hl783 : u780 = u45 := by have q1 := rwv_of h85_778 (show 1 < 7 by decide); have q2 := mf733 1 (by decide); omega
          refine xg_t (xg_const) ?_
          refine xg_t (xg_iadd (u := u780) (v := 1) (z := u780 + 1) xnm0 xnm0 (by omega)) ?_
          refine xg_iastK (n := 1) (u := u780 + 1) h85_778 xnm0 xnm0 rfl (by omega) (fun w784 hr785 hb786 => ?_)
          refine xg_t (xg_aload (va := (2, 82)) rfl rfl) ?_
          refine xg_t (xg_dup rfl) ?_
          refine xg_t (xg_getf (va := (0, f82_755)) (hb786.get (by decide) h82_767) rfl) ?_
          refine xg_t (xg_const) ?_
          refine xg_t (xg_iadd (u := f82_755) (v := 1) (z := f82_755 + 1) xnm0 xnm0 (by omega)) ?_
          refine xg_putI (fl1 := [(2, 83), (2, 84), (0, f82_737), (0, f82_739), (0, f82_741), (0, f82_743), (0, f82_745), (0, f82_747), (0, f82_749), (0, f82_751), (0, f82_753), (2, 85), (2, 86), (2, 87), (0, f82_755 + 1), (2, 88), (2, 89), (2, 90), (2, 91), (2, 92), (2, 93), (2, 94), (4, f82_757), (4, f82_758), (0, f82_759), (2, 95), (2, 96), (2, 97), (2, 98), (2, 99), (2, 100), (2, 101), (2, 102), (0, f82_761), (2, 103), (2, 104), (2, 105), (2, 106), (2, 107), (2, 108), (2, 109), (0, f82_763), (0, f82_765), (2, 110), (2, 111), (2, 112), (2, 113)]) (hb786.get (by decide) h82_767) rfl rfl rfl (fun w787 hk788 hb789 => ?_)
          have hF790 : xFr [82, 85] w718 w787 := ((xFr.of (S := [82, 85]) hb786 (by decide)).tr (xFr.of (S := [82, 85]) hb789 (by decide)))
          have hA791 := FA_fr hF790 (by decide)
          have hf792 : fld w787 82 4 = f82_741 := fld_of hk788
          have hf793 : fld w787 82 5 = f82_743 := fld_of hk788
          have hf794 : fld w787 82 7 = f82_747 := fld_of hk788
          have hf795 : fld w787 82 10 = f82_753 := fld_of hk788
          have hf796 : fld w787 82 14 = f82_755 + 1 := fld_of hk788
          have hu797 : mu w787 = 2 * (fld w787 82 4 - fld w787 82 5) + min 1 (fld w787 82 7) := rfl
          have pq798 := pk730
          unfold PK PS at pq798
          have hM799 : ∀ s, s < 7 → s ≠ 1 → rwv w787 85 s = rwv w 85 s := fun s hs hn => (rwv_of (hr785.but hb789 (by decide)) hs).trans ((if_neg hn).trans ((rwv_of h85_778 hs).symm.trans (mf733 s hs)))
          have hM800 : rwv w787 85 1 = u45 + 1 := (rwv_of (hr785.but hb789 (by decide)) (by decide)).trans ((if_pos rfl).trans (by omega))
          have hM801 : ∀ s, s < 7 → rwv w787 85 s ≤ rwv w 85 s + 1 := fun s hs => by
            by_cases z : s = 1
            · subst z; omega
            · rw [hM799 s hs z]; omega
          have hO802 : ∀ j, (j < 50 + 2 * u45 ∨ 52 + 2 * u45 ≤ j) → j < 140 → rwv w787 86 j = rwv w 86 j := fun j hj hl => (rwv_fr hF790 (by decide)).trans (os731 j hj hl)
          have hl804 : FA w718 ≠ 0 ∨ u45 < 4 := rg732
          have hl805 : rwv w787 86 (50 + 2 * u45 + 1) = rwv w718 86 (50 + 2 * u45 + 1) := rwv_fr hF790 (by decide)
          have hN803 : FA w787 ≠ 0 ∨ 4 ≤ u45 ∨ (1 ≤ rwv w787 86 (50 + 2 * u45 + 1) ∧ rwv w787 86 (50 + 2 * u45 + 1) ≤ 999) := by have q := nw735; omega
          have hX806 : FA w787 ≠ 0 ∨ u45 < 4 := by omega
          have hD807 : FA w787 ≠ 0 ∨ (DATA w → DATA w787) := by
            by_cases z : FA w787 ≠ 0
            · exact Or.inl z
            · exact Or.inr (fun hd => hd.s1 hM799 hK48 hM800 (hX806.resolve_left z) hO802 ((hN803.resolve_left z).resolve_left (by have := hX806.resolve_left z; omega)))
          exact xg_e ⟨w787, ⟨rfl, rfl⟩, xMnv.up (S := [85, 82]) hI720 ((xFr.of (S := [85, 82]) hb786 (by decide)).tr (xFr.of (S := [85, 82]) hb789 (by decide))) (List.forall_mem_cons.mpr ⟨(show cpI 7 52 4294967295 (wget w787 85) from ⟨_, (hr785.but hb789 (by decide)), xrb (by omega) (hb779)⟩), List.forall_mem_cons.mpr ⟨(show cp82 (wget w787 82) from ⟨f82_737, f82_739, f82_741, f82_743, f82_745, f82_747, f82_749, f82_751, f82_753, f82_755 + 1, f82_757, f82_758, f82_759, f82_761, f82_763, f82_765, hk788, hb738, hb740, hb742, hb744, hb746, hb748, hb750, hb752, hb754, by omega, hb760, hb762, hb764, hb766, by omega⟩), fun _ h => absurd h List.not_mem_nil⟩⟩), ((hF676.tr (hF721.up (by decide))).tr ((xFr.of (S := [82, 83, 85, 86, 87]) hb786 (by decide)).tr (xFr.of (S := [82, 83, 85, 86, 87]) hb789 (by decide)))), ⟨fun h => by have := pq798.1 h; omega, (show fld w787 82 10 = 0 ∨ FA w787 ≠ 0 by omega), Or.inr ⟨by have := ms736; omega, by omega, hM801⟩, hD807, pk730.2.2.2.2.tr (K83.fr hF790 (by decide))⟩⟩
        · refine xg_t (xg_icT (u := f82_694) (v := 2) rfl xnm0 xnm0 (xj_neT hc717)) ?_
          refine xg_t (xg_blk (b := [(416, 1, 0, 0, 0, 0), (417, 3, 13, 140, 96, 183)]) rfl) ?_
          refine xg_t (xg_aload (va := (2, 82)) rfl rfl) ?_
          refine xg_cVv mX12_ends (vs := []) (rest := []) (cn1 := 0) (sl1 := 0) rfl (mEnds (hI675) hj678.2.2.2.1) rfl h82_714 rfl rfl rfl rfl rfl rfl (fun w808 hq809 => ?_)
          obtain ⟨hI810, hF811, hx812⟩ := hq809
          clear hb685 hb687 hb689 hb691 hb693 hb695 hb697 hb699 hb701 hb703 hb707 hb709 hb711 hb713
          obtain ⟨hv813, hv814, hv815, hv816, hv817⟩ := hx812
          have pk818 : PK w674 w808 := ⟨fun _ => hv813, by omega, by omega, Or.inr hv813, hv817⟩
          have pk819 : PK w w808 := PK.tr hj678 pk818
          have os820 : ∀ j, (j < 50 + 2 * u45 ∨ 52 + 2 * u45 ≤ j) → j < 140 → rwv w808 86 j = rwv w 86 j := fun j hj hl => (rwv_fr hF811 (by decide)).trans (hj679 j hj hl)
          have rg821 : FA w808 ≠ 0 ∨ u45 < 4 := hj682.imp_left pk818.1
          have mf822 : ∀ s, s < 7 → rwv w808 85 s = rwv w 85 s := fun s hs => (rwv_fr hF811 (by decide)).trans (hj681 s hs)
          have hl823 : rwv w808 86 (50 + 2 * u45 + 1) = rwv w674 86 (50 + 2 * u45 + 1) := rwv_fr hF811 (by decide)
          have nw824 : FA w808 ≠ 0 ∨ 4 ≤ u45 ∨ (1 ≤ rwv w808 86 (50 + 2 * u45 + 1) ∧ rwv w808 86 (50 + 2 * u45 + 1) ≤ 999) := by have q := hj683; have q1 := pk818.1; omega
          clear hj683
          have ms825 : mu w808 < mu w := Nat.lt_of_le_of_lt pk818.2.1 hj680
          clear hj682
          refine xg_t (xg_blk (b := [(420, 1, 0, 0, 0, 0), (421, 3, 1, 12, 11, 17), (424, 1, 2, 1, 0, 0), (425, 1, 39, 0, 0, 0), (426, 1, 10, 0, 0, 0), (427, 1, 3, 1, 0, 0), (428, 1, 11, 0, 0, 0), (429, 1, 17, 0, 0, 0), (430, 1, 0, 0, 0, 0), (431, 1, 19, 0, 0, 0), (432, 3, 1, 12, 14, 212), (435, 1, 3, 1, 0, 0), (436, 1, 11, 0, 0, 0), (437, 3, 14, 12, 14, 212), (440, 1, 12, 0, 0, 0)]) rfl) ?_
          obtain ⟨f82_826, f82_828, f82_830, f82_832, f82_834, f82_836, f82_838, f82_840, f82_842, f82_844, f82_846, f82_847, f82_848, f82_850, f82_852, f82_854, h82_856, hb827, hb829, hb831, hb833, hb835, hb837, hb839, hb841, hb843, hb845, hb849, hb851, hb853, hb855, hb857⟩ := (hI810 82 (by decide) (by decide) : cp82 (wget w808 82))
          have hf858 : fld w808 82 4 = f82_830 := fld_of h82_856
          have hf859 : fld w808 82 5 = f82_832 := fld_of h82_856
          have hf860 : fld w808 82 7 = f82_836 := fld_of h82_856
          have hf861 : fld w808 82 10 = f82_842 := fld_of h82_856
          have hf862 : fld w808 82 14 = f82_844 := fld_of h82_856
          have hu863 : mu w808 = 2 * (fld w808 82 4 - fld w808 82 5) + min 1 (fld w808 82 7) := rfl
          have hf864 := pk819.2.2.1
          have hl865 : f82_844 ≤ 1000 := by omega
          refine xg_t (xg_aload (va := (2, 82)) rfl rfl) ?_
          refine xg_t (xg_getf (va := (2, 85)) h82_856 rfl) ?_
          refine xg_t (xg_iload (va := (0, 1)) rfl rfl) ?_
          refine xg_t (xg_dup2 rfl) ?_
          obtain ⟨g85_866, h85_867, hb868⟩ := (hI810 85 (by decide) (by decide) : cpI 7 52 4294967295 (wget w808 85))
          have h85_867 : xRow w808 85 7 52 g85_866 := h85_867
          refine xg_ialdB (n := 1) (B := 4294967295) h85_867 (hb868) xnm0 (by omega) (fun u869 hu870 he871 => ?_)
          have hl872 : u869 = u45 := by have q1 := rwv_of h85_867 (show 1 < 7 by decide); have q2 := mf822 1 (by decide); omega
          refine xg_t (xg_const) ?_
          refine xg_t (xg_iadd (u := u869) (v := 1) (z := u869 + 1) xnm0 xnm0 (by omega)) ?_
          refine xg_iastK (n := 1) (u := u869 + 1) h85_867 xnm0 xnm0 rfl (by omega) (fun w873 hr874 hb875 => ?_)
          refine xg_t (xg_aload (va := (2, 82)) rfl rfl) ?_
          refine xg_t (xg_dup rfl) ?_
          refine xg_t (xg_getf (va := (0, f82_844)) (hb875.get (by decide) h82_856) rfl) ?_
          refine xg_t (xg_const) ?_
          refine xg_t (xg_iadd (u := f82_844) (v := 1) (z := f82_844 + 1) xnm0 xnm0 (by omega)) ?_
          refine xg_putI (fl1 := [(2, 83), (2, 84), (0, f82_826), (0, f82_828), (0, f82_830), (0, f82_832), (0, f82_834), (0, f82_836), (0, f82_838), (0, f82_840), (0, f82_842), (2, 85), (2, 86), (2, 87), (0, f82_844 + 1), (2, 88), (2, 89), (2, 90), (2, 91), (2, 92), (2, 93), (2, 94), (4, f82_846), (4, f82_847), (0, f82_848), (2, 95), (2, 96), (2, 97), (2, 98), (2, 99), (2, 100), (2, 101), (2, 102), (0, f82_850), (2, 103), (2, 104), (2, 105), (2, 106), (2, 107), (2, 108), (2, 109), (0, f82_852), (0, f82_854), (2, 110), (2, 111), (2, 112), (2, 113)]) (hb875.get (by decide) h82_856) rfl rfl rfl (fun w876 hk877 hb878 => ?_)
          have hF879 : xFr [82, 85] w808 w876 := ((xFr.of (S := [82, 85]) hb875 (by decide)).tr (xFr.of (S := [82, 85]) hb878 (by decide)))
          have hA880 := FA_fr hF879 (by decide)
          have hf881 : fld w876 82 4 = f82_830 := fld_of hk877
          have hf882 : fld w876 82 5 = f82_832 := fld_of hk877
          have hf883 : fld w876 82 7 = f82_836 := fld_of hk877
          have hf884 : fld w876 82 10 = f82_842 := fld_of hk877
          have hf885 : fld w876 82 14 = f82_844 + 1 := fld_of hk877
          have hu886 : mu w876 = 2 * (fld w876 82 4 - fld w876 82 5) + min 1 (fld w876 82 7) := rfl
          have pq887 := pk819
          unfold PK PS at pq887
          have hM888 : ∀ s, s < 7 → s ≠ 1 → rwv w876 85 s = rwv w 85 s := fun s hs hn => (rwv_of (hr874.but hb878 (by decide)) hs).trans ((if_neg hn).trans ((rwv_of h85_867 hs).symm.trans (mf822 s hs)))
          have hM889 : rwv w876 85 1 = u45 + 1 := (rwv_of (hr874.but hb878 (by decide)) (by decide)).trans ((if_pos rfl).trans (by omega))
          have hM890 : ∀ s, s < 7 → rwv w876 85 s ≤ rwv w 85 s + 1 := fun s hs => by
            by_cases z : s = 1
            · subst z; omega
            · rw [hM888 s hs z]; omega
          have hO891 : ∀ j, (j < 50 + 2 * u45 ∨ 52 + 2 * u45 ≤ j) → j < 140 → rwv w876 86 j = rwv w 86 j := fun j hj hl => (rwv_fr hF879 (by decide)).trans (os820 j hj hl)
          have hl893 : FA w808 ≠ 0 ∨ u45 < 4 := rg821
          have hl894 : rwv w876 86 (50 + 2 * u45 + 1) = rwv w808 86 (50 + 2 * u45 + 1) := rwv_fr hF879 (by decide)
          have hN892 : FA w876 ≠ 0 ∨ 4 ≤ u45 ∨ (1 ≤ rwv w876 86 (50 + 2 * u45 + 1) ∧ rwv w876 86 (50 + 2 * u45 + 1) ≤ 999) := by have q := nw824; omega
          have hX895 : FA w876 ≠ 0 ∨ u45 < 4 := by omega
          have hD896 : FA w876 ≠ 0 ∨ (DATA w → DATA w876) := by
            by_cases z : FA w876 ≠ 0
            · exact Or.inl z
            · exact Or.inr (fun hd => hd.s1 hM888 hK48 hM889 (hX895.resolve_left z) hO891 ((hN892.resolve_left z).resolve_left (by have := hX895.resolve_left z; omega)))
          exact xg_e ⟨w876, ⟨rfl, rfl⟩, xMnv.up (S := [85, 82]) hI810 ((xFr.of (S := [85, 82]) hb875 (by decide)).tr (xFr.of (S := [85, 82]) hb878 (by decide))) (List.forall_mem_cons.mpr ⟨(show cpI 7 52 4294967295 (wget w876 85) from ⟨_, (hr874.but hb878 (by decide)), xrb (by omega) (hb868)⟩), List.forall_mem_cons.mpr ⟨(show cp82 (wget w876 82) from ⟨f82_826, f82_828, f82_830, f82_832, f82_834, f82_836, f82_838, f82_840, f82_842, f82_844 + 1, f82_846, f82_847, f82_848, f82_850, f82_852, f82_854, hk877, hb827, hb829, hb831, hb833, hb835, hb837, hb839, hb841, hb843, by omega, hb849, hb851, hb853, hb855, by omega⟩), fun _ h => absurd h List.not_mem_nil⟩⟩), ((hF676.tr (hF811.up (by decide))).tr ((xFr.of (S := [82, 83, 85, 86, 87]) hb875 (by decide)).tr (xFr.of (S := [82, 83, 85, 86, 87]) hb878 (by decide)))), ⟨fun h => by have := pq887.1 h; omega, (show fld w876 82 10 = 0 ∨ FA w876 ≠ 0 by omega), Or.inr ⟨by have := ms825; omega, by omega, hM890⟩, hD896, pk819.2.2.2.2.tr (K83.fr hF879 (by decide))⟩⟩
      · refine xg_t (xg_ifT (u := f82_700) rfl xnm0 (xj_neT hc716)) ?_
        refine xg_t (xg_blk (b := [(416, 1, 0, 0, 0, 0), (417, 3, 13, 140, 96, 183)]) rfl) ?_
        refine xg_t (xg_aload (va := (2, 82)) rfl rfl) ?_
        refine xg_cVv mX12_ends (vs := []) (rest := []) (cn1 := 0) (sl1 := 0) rfl (mEnds (hI675) hj678.2.2.2.1) rfl h82_714 rfl rfl rfl rfl rfl rfl (fun w897 hq898 => ?_)
        obtain ⟨hI899, hF900, hx901⟩ := hq898
        clear hb685 hb687 hb689 hb691 hb693 hb695 hb697 hb699 hb701 hb703 hb707 hb709 hb711 hb713
        obtain ⟨hv902, hv903, hv904, hv905, hv906⟩ := hx901
        have pk907 : PK w674 w897 := ⟨fun _ => hv902, by omega, by omega, Or.inr hv902, hv906⟩
        have pk908 : PK w w897 := PK.tr hj678 pk907
        have os909 : ∀ j, (j < 50 + 2 * u45 ∨ 52 + 2 * u45 ≤ j) → j < 140 → rwv w897 86 j = rwv w 86 j := fun j hj hl => (rwv_fr hF900 (by decide)).trans (hj679 j hj hl)
        have rg910 : FA w897 ≠ 0 ∨ u45 < 4 := hj682.imp_left pk907.1
        have mf911 : ∀ s, s < 7 → rwv w897 85 s = rwv w 85 s := fun s hs => (rwv_fr hF900 (by decide)).trans (hj681 s hs)
        have hl912 : rwv w897 86 (50 + 2 * u45 + 1) = rwv w674 86 (50 + 2 * u45 + 1) := rwv_fr hF900 (by decide)
        have nw913 : FA w897 ≠ 0 ∨ 4 ≤ u45 ∨ (1 ≤ rwv w897 86 (50 + 2 * u45 + 1) ∧ rwv w897 86 (50 + 2 * u45 + 1) ≤ 999) := by have q := hj683; have q1 := pk907.1; omega
        clear hj683
        have ms914 : mu w897 < mu w := Nat.lt_of_le_of_lt pk907.2.1 hj680
        clear hj682
        refine xg_t (xg_blk (b := [(420, 1, 0, 0, 0, 0), (421, 3, 1, 12, 11, 17), (424, 1, 2, 1, 0, 0), (425, 1, 39, 0, 0, 0), (426, 1, 10, 0, 0, 0), (427, 1, 3, 1, 0, 0), (428, 1, 11, 0, 0, 0), (429, 1, 17, 0, 0, 0), (430, 1, 0, 0, 0, 0), (431, 1, 19, 0, 0, 0), (432, 3, 1, 12, 14, 212), (435, 1, 3, 1, 0, 0), (436, 1, 11, 0, 0, 0), (437, 3, 14, 12, 14, 212), (440, 1, 12, 0, 0, 0)]) rfl) ?_
        obtain ⟨f82_915, f82_917, f82_919, f82_921, f82_923, f82_925, f82_927, f82_929, f82_931, f82_933, f82_935, f82_936, f82_937, f82_939, f82_941, f82_943, h82_945, hb916, hb918, hb920, hb922, hb924, hb926, hb928, hb930, hb932, hb934, hb938, hb940, hb942, hb944, hb946⟩ := (hI899 82 (by decide) (by decide) : cp82 (wget w897 82))
        have hf947 : fld w897 82 4 = f82_919 := fld_of h82_945
        have hf948 : fld w897 82 5 = f82_921 := fld_of h82_945
        have hf949 : fld w897 82 7 = f82_925 := fld_of h82_945
        have hf950 : fld w897 82 10 = f82_931 := fld_of h82_945
        have hf951 : fld w897 82 14 = f82_933 := fld_of h82_945
        have hu952 : mu w897 = 2 * (fld w897 82 4 - fld w897 82 5) + min 1 (fld w897 82 7) := rfl
        have hf953 := pk908.2.2.1
        have hl954 : f82_933 ≤ 1000 := by omega
        refine xg_t (xg_aload (va := (2, 82)) rfl rfl) ?_
        refine xg_t (xg_getf (va := (2, 85)) h82_945 rfl) ?_
        refine xg_t (xg_iload (va := (0, 1)) rfl rfl) ?_
        refine xg_t (xg_dup2 rfl) ?_
        obtain ⟨g85_955, h85_956, hb957⟩ := (hI899 85 (by decide) (by decide) : cpI 7 52 4294967295 (wget w897 85))
        have h85_956 : xRow w897 85 7 52 g85_955 := h85_956
        refine xg_ialdB (n := 1) (B := 4294967295) h85_956 (hb957) xnm0 (by omega) (fun u958 hu959 he960 => ?_)
        have hl961 : u958 = u45 := by have q1 := rwv_of h85_956 (show 1 < 7 by decide); have q2 := mf911 1 (by decide); omega
        refine xg_t (xg_const) ?_
        refine xg_t (xg_iadd (u := u958) (v := 1) (z := u958 + 1) xnm0 xnm0 (by omega)) ?_
        refine xg_iastK (n := 1) (u := u958 + 1) h85_956 xnm0 xnm0 rfl (by omega) (fun w962 hr963 hb964 => ?_)
        refine xg_t (xg_aload (va := (2, 82)) rfl rfl) ?_
        refine xg_t (xg_dup rfl) ?_
        refine xg_t (xg_getf (va := (0, f82_933)) (hb964.get (by decide) h82_945) rfl) ?_
        refine xg_t (xg_const) ?_
        refine xg_t (xg_iadd (u := f82_933) (v := 1) (z := f82_933 + 1) xnm0 xnm0 (by omega)) ?_
        refine xg_putI (fl1 := [(2, 83), (2, 84), (0, f82_915), (0, f82_917), (0, f82_919), (0, f82_921), (0, f82_923), (0, f82_925), (0, f82_927), (0, f82_929), (0, f82_931), (2, 85), (2, 86), (2, 87), (0, f82_933 + 1), (2, 88), (2, 89), (2, 90), (2, 91), (2, 92), (2, 93), (2, 94), (4, f82_935), (4, f82_936), (0, f82_937), (2, 95), (2, 96), (2, 97), (2, 98), (2, 99), (2, 100), (2, 101), (2, 102), (0, f82_939), (2, 103), (2, 104), (2, 105), (2, 106), (2, 107), (2, 108), (2, 109), (0, f82_941), (0, f82_943), (2, 110), (2, 111), (2, 112), (2, 113)]) (hb964.get (by decide) h82_945) rfl rfl rfl (fun w965 hk966 hb967 => ?_)
        have hF968 : xFr [82, 85] w897 w965 := ((xFr.of (S := [82, 85]) hb964 (by decide)).tr (xFr.of (S := [82, 85]) hb967 (by decide)))
        have hA969 := FA_fr hF968 (by decide)
        have hf970 : fld w965 82 4 = f82_919 := fld_of hk966
        have hf971 : fld w965 82 5 = f82_921 := fld_of hk966
        have hf972 : fld w965 82 7 = f82_925 := fld_of hk966
        have hf973 : fld w965 82 10 = f82_931 := fld_of hk966
        have hf974 : fld w965 82 14 = f82_933 + 1 := fld_of hk966
        have hu975 : mu w965 = 2 * (fld w965 82 4 - fld w965 82 5) + min 1 (fld w965 82 7) := rfl
        have pq976 := pk908
        unfold PK PS at pq976
        have hM977 : ∀ s, s < 7 → s ≠ 1 → rwv w965 85 s = rwv w 85 s := fun s hs hn => (rwv_of (hr963.but hb967 (by decide)) hs).trans ((if_neg hn).trans ((rwv_of h85_956 hs).symm.trans (mf911 s hs)))
        have hM978 : rwv w965 85 1 = u45 + 1 := (rwv_of (hr963.but hb967 (by decide)) (by decide)).trans ((if_pos rfl).trans (by omega))
        have hM979 : ∀ s, s < 7 → rwv w965 85 s ≤ rwv w 85 s + 1 := fun s hs => by
          by_cases z : s = 1
          · subst z; omega
          · rw [hM977 s hs z]; omega
        have hO980 : ∀ j, (j < 50 + 2 * u45 ∨ 52 + 2 * u45 ≤ j) → j < 140 → rwv w965 86 j = rwv w 86 j := fun j hj hl => (rwv_fr hF968 (by decide)).trans (os909 j hj hl)
        have hl982 : FA w897 ≠ 0 ∨ u45 < 4 := rg910
        have hl983 : rwv w965 86 (50 + 2 * u45 + 1) = rwv w897 86 (50 + 2 * u45 + 1) := rwv_fr hF968 (by decide)
        have hN981 : FA w965 ≠ 0 ∨ 4 ≤ u45 ∨ (1 ≤ rwv w965 86 (50 + 2 * u45 + 1) ∧ rwv w965 86 (50 + 2 * u45 + 1) ≤ 999) := by have q := nw913; omega
        have hX984 : FA w965 ≠ 0 ∨ u45 < 4 := by omega
        have hD985 : FA w965 ≠ 0 ∨ (DATA w → DATA w965) := by
          by_cases z : FA w965 ≠ 0
          · exact Or.inl z
          · exact Or.inr (fun hd => hd.s1 hM977 hK48 hM978 (hX984.resolve_left z) hO980 ((hN981.resolve_left z).resolve_left (by have := hX984.resolve_left z; omega)))
        exact xg_e ⟨w965, ⟨rfl, rfl⟩, xMnv.up (S := [85, 82]) hI899 ((xFr.of (S := [85, 82]) hb964 (by decide)).tr (xFr.of (S := [85, 82]) hb967 (by decide))) (List.forall_mem_cons.mpr ⟨(show cpI 7 52 4294967295 (wget w965 85) from ⟨_, (hr963.but hb967 (by decide)), xrb (by omega) (hb957)⟩), List.forall_mem_cons.mpr ⟨(show cp82 (wget w965 82) from ⟨f82_915, f82_917, f82_919, f82_921, f82_923, f82_925, f82_927, f82_929, f82_931, f82_933 + 1, f82_935, f82_936, f82_937, f82_939, f82_941, f82_943, hk966, hb916, hb918, hb920, hb922, hb924, hb926, hb928, hb930, hb932, by omega, hb938, hb940, hb942, hb944, by omega⟩), fun _ h => absurd h List.not_mem_nil⟩⟩), ((hF676.tr (hF900.up (by decide))).tr ((xFr.of (S := [82, 83, 85, 86, 87]) hb964 (by decide)).tr (xFr.of (S := [82, 83, 85, 86, 87]) hb967 (by decide)))), ⟨fun h => by have := pq976.1 h; omega, (show fld w965 82 10 = 0 ∨ FA w965 ≠ 0 by omega), Or.inr ⟨by have := ms914; omega, by omega, hM979⟩, hD985, pk908.2.2.2.2.tr (K83.fr hF968 (by decide))⟩⟩
    refine xg_t (xg_iload (va := (0, 1)) rfl rfl) ?_
    refine xg_t (xg_swt (ks := [(0, 108), (1, 116), (2, 180), (3, 221), (4, 273), (5, 326)]) (u := 1) (z := 116) rfl rfl rfl xnm0 (xsw_n (by omega) (xsw_y rfl))) ?_
    refine xg_t (xg_blk (b := [(116, 1, 0, 0, 0, 0), (117, 1, 3, 0, 0, 0), (118, 2, 4, 99, 0, 0), (120, 3, 13, 199, 96, 196), (123, 2, 15, 4, 0, 0), (125, 1, 0, 0, 0, 0), (126, 2, 2, 4, 0, 0), (128, 1, 2, 3, 0, 0), (129, 3, 13, 167, 96, 208), (132, 3, 7, 141, 0, 0), (135, 1, 0, 0, 0, 0), (136, 1, 3, 3, 0, 0), (137, 1, 2, 2, 0, 0), (138, 3, 13, 115, 96, 186)]) rfl) ?_
    refine xg_t (xg_aload (va := (2, 82)) rfl rfl) ?_
    refine xg_t (xg_const) ?_
    refine xg_t (xg_bip) ?_
    obtain ⟨f82_986, f82_988, f82_990, f82_992, f82_994, f82_996, f82_998, f82_1000, f82_1002, f82_1004, f82_1006, f82_1007, f82_1008, f82_1010, f82_1012, f82_1014, h82_1016, hb987, hb989, hb991, hb993, hb995, hb997, hb999, hb1001, hb1003, hb1005, hb1009, hb1011, hb1013, hb1015, hb1017⟩ := (hI658 82 (by decide) (by decide) : cp82 (wget w656 82))
    refine xg_cVi mX12_numbered (vs := [(0, 0), (0, 99)]) (rest := []) (cn1 := 0) (sl1 := 0) rfl (mNumbered (hI658) (by omega) (by omega) pk668.2.2.2.1) rfl h82_1016 rfl rfl rfl rfl rfl rfl (fun n1022 w1018 hq1019 => ?_)
    obtain ⟨hn1023, hI1020, hF1021⟩ := hq1019
    clear hb987 hb989 hb991 hb993 hb995 hb997 hb999 hb1001 hb1003 hb1005 hb1009 hb1011 hb1013 hb1015
    obtain ⟨hn1024, hn1025, hn1026⟩ := hn1023
    have pk1027 : PK w w1018 := PK.tr pk668 hn1025
    have os1028 : ∀ j, (j < 50 + 2 * u45 ∨ 52 + 2 * u45 ≤ j) → j < 140 → rwv w1018 86 j = rwv w 86 j := fun j hj hl => (rwv_fr hF1021 (by decide)).trans (os669 j hj hl)
    have rg1029 : FA w1018 ≠ 0 ∨ 0 = 1 := rg670.imp_left hn1025.1
    have mf1030 : ∀ s, s < 7 → rwv w1018 85 s = rwv w 85 s := fun s hs => (rwv_fr hF1021 (by decide)).trans (mf671 s hs)
    have ms1031 : mu w1018 < mu w := Nat.lt_of_le_of_lt hn1025.2.1 ms672
    clear rg670
    refine xg_t (xg_istore (l1 := [(3, (0, u45)), (2, (0, at_)), (1, (0, 1)), (0, (2, 82))]) rfl rfl rfl) ?_
    refine xg_t (xg_aload (va := (2, 82)) rfl rfl) ?_
    refine xg_t (xg_iload (va := (0, n1022)) rfl rfl) ?_
    refine xg_t (xg_iload (va := (0, u45)) rfl rfl) ?_
    obtain ⟨f82_1032, f82_1034, f82_1036, f82_1038, f82_1040, f82_1042, f82_1044, f82_1046, f82_1048, f82_1050, f82_1052, f82_1053, f82_1054, f82_1056, f82_1058, f82_1060, h82_1062, hb1033, hb1035, hb1037, hb1039, hb1041, hb1043, hb1045, hb1047, hb1049, hb1051, hb1055, hb1057, hb1059, hb1061, hb1063⟩ := (hI1020 82 (by decide) (by decide) : cp82 (wget w1018 82))
    refine xg_cVi mX12_isLifeTold (vs := [(0, n1022), (0, u45)]) (rest := []) (cn1 := 0) (sl1 := 0) rfl (mLifeTold (hI1020) (by omega) (by omega)) rfl h82_1062 rfl rfl rfl rfl rfl rfl (fun n1068 w1064 hq1065 => ?_)
    obtain ⟨hn1069, hI1066, hF1067⟩ := hq1065
    have pk1070 : PK w w1064 := PK.tr pk1027 (PK.fr hF1067 (by decide) (by decide) pk1027.2.2.2.1)
    have os1071 : ∀ j, (j < 50 + 2 * u45 ∨ 52 + 2 * u45 ≤ j) → j < 140 → rwv w1064 86 j = rwv w 86 j := fun j hj hl => (rwv_fr hF1067 (by decide)).trans (os1028 j hj hl)
    have rg1072 : FA w1064 ≠ 0 ∨ 0 = 1 := rg1029.imp_left (PK.fr hF1067 (by decide) (by decide) pk1027.2.2.2.1).1
    have rg1073 : FA w1064 ≠ 0 ∨ (0 ≤ n1022 ∧ n1022 ≤ 99) := hn1026.imp_left (PK.fr hF1067 (by decide) (by decide) pk1027.2.2.2.1).1
    have mf1074 : ∀ s, s < 7 → rwv w1064 85 s = rwv w 85 s := fun s hs => (rwv_fr hF1067 (by decide)).trans (mf1030 s hs)
    have ms1075 : mu w1064 < mu w := Nat.lt_of_le_of_lt (PK.fr hF1067 (by decide) (by decide) pk1027.2.2.2.1).2.1 ms1031
    clear rg1029 hn1026
    by_cases hc1076 : n1068 = 0
    · refine xg_t (xg_ifT (u := n1068) rfl xnm0 (xj_eqT hc1076)) ?_
      refine xg_t (xg_blk (b := [(141, 1, 0, 0, 0, 0), (142, 1, 2, 1, 0, 0), (143, 1, 2, 3, 0, 0), (144, 2, 4, 50, 0, 0), (146, 1, 3, 2, 0, 0), (147, 1, 2, 3, 0, 0), (148, 1, 16, 0, 0, 0), (149, 1, 11, 0, 0, 0), (150, 2, 2, 4, 0, 0), (152, 3, 13, 211, 96, 200), (155, 1, 0, 0, 0, 0), (156, 1, 2, 1, 0, 0), (157, 1, 2, 3, 0, 0), (158, 2, 4, 50, 0, 0), (160, 1, 3, 2, 0, 0), (161, 1, 2, 3, 0, 0), (162, 1, 16, 0, 0, 0), (163, 1, 11, 0, 0, 0), (164, 1, 3, 1, 0, 0), (165, 1, 11, 0, 0, 0), (166, 1, 0, 0, 0, 0), (167, 1, 3, 1, 0, 0), (168, 3, 5, 999, 0, 0), (171, 3, 13, 199, 96, 196), (174, 3, 13, 211, 96, 200), (177, 3, 8, 394, 0, 0)]) rfl) ?_
      refine xg_t (xg_aload (va := (2, 82)) rfl rfl) ?_
      refine xg_t (xg_iload (va := (0, 1)) rfl rfl) ?_
      refine xg_t (xg_iload (va := (0, u45)) rfl rfl) ?_
      refine xg_t (xg_bip) ?_
      refine xg_t (xg_const) ?_
      refine xg_t (xg_iload (va := (0, u45)) rfl rfl) ?_
      refine xg_t (xg_imul (u := 2) (v := u45) (z := 2 * u45) xnm0 xnm0 (by omega)) ?_
      refine xg_t (xg_iadd (u := 50) (v := 2 * u45) (z := 50 + (2 * u45)) xnm0 xnm0 (by omega)) ?_
      refine xg_t (xg_iload (va := (0, n1022)) rfl rfl) ?_
      refine xg_cVv mX12_puts (vs := [(0, 1), (0, u45), (0, 50 + (2 * u45)), (0, n1022)]) (rest := []) (cn1 := 0) (sl1 := 0) rfl (mPuts1 (hI1066) (by omega) (by omega) (by omega) (fun _ => by omega)) rfl (hF1067.get (by decide) h82_1062) rfl rfl rfl rfl rfl rfl (fun w1077 hq1078 => ?_)
      obtain ⟨hI1079, hF1080, hx1081⟩ := hq1078
      obtain ⟨hp1082, hp1083⟩ := hx1081
      have pk1084 : PK w w1077 := PK.tr pk1070 (PK.fr hF1080 (by decide) (by decide) pk1070.2.2.2.1)
      have os1085 : ∀ j, (j < 50 + 2 * u45 ∨ 52 + 2 * u45 ≤ j) → j < 140 → rwv w1077 86 j = rwv w 86 j := fun j hj hl => (hp1083 j (by omega) hl).trans (os1071 j hj hl)
      have rg1086 : FA w1077 ≠ 0 ∨ 0 = 1 := rg1072.imp_left (PK.fr hF1080 (by decide) (by decide) pk1070.2.2.2.1).1
      have rg1087 : FA w1077 ≠ 0 ∨ (0 ≤ n1022 ∧ n1022 ≤ 99) := rg1073.imp_left (PK.fr hF1080 (by decide) (by decide) pk1070.2.2.2.1).1
      have mf1088 : ∀ s, s < 7 → rwv w1077 85 s = rwv w 85 s := fun s hs => (rwv_fr hF1080 (by decide)).trans (mf1074 s hs)
      have ms1089 : mu w1077 < mu w := Nat.lt_of_le_of_lt (PK.fr hF1080 (by decide) (by decide) pk1070.2.2.2.1).2.1 ms1075
      clear rg1072 rg1073
      refine xg_t (xg_aload (va := (2, 82)) rfl rfl) ?_
      refine xg_t (xg_iload (va := (0, 1)) rfl rfl) ?_
      refine xg_t (xg_iload (va := (0, u45)) rfl rfl) ?_
      refine xg_t (xg_bip) ?_
      refine xg_t (xg_const) ?_
      refine xg_t (xg_iload (va := (0, u45)) rfl rfl) ?_
      refine xg_t (xg_imul (u := 2) (v := u45) (z := 2 * u45) xnm0 xnm0 (by omega)) ?_
      refine xg_t (xg_iadd (u := 50) (v := 2 * u45) (z := 50 + (2 * u45)) xnm0 xnm0 (by omega)) ?_
      refine xg_t (xg_const) ?_
      refine xg_t (xg_iadd (u := 50 + (2 * u45)) (v := 1) (z := (50 + (2 * u45)) + 1) xnm0 xnm0 (by omega)) ?_
      refine xg_t (xg_aload (va := (2, 82)) rfl rfl) ?_
      refine xg_t (xg_const) ?_
      refine xg_t (xg_sip) ?_
      refine xg_cVi mX12_numbered (vs := [(0, 1), (0, 999)]) (rest := [(0, (50 + (2 * u45)) + 1), (0, u45), (0, 1), (2, 82)]) (cn1 := 0) (sl1 := 0) rfl (mNumbered (hI1079) (by omega) (by omega) pk1084.2.2.2.1) rfl (hF1080.get (by decide) (hF1067.get (by decide) h82_1062)) rfl rfl rfl rfl rfl rfl (fun n1094 w1090 hq1091 => ?_)
      obtain ⟨hn1095, hI1092, hF1093⟩ := hq1091
      clear hb1033 hb1035 hb1037 hb1039 hb1041 hb1043 hb1045 hb1047 hb1049 hb1051 hb1055 hb1057 hb1059 hb1061
      obtain ⟨hn1096, hn1097, hn1098⟩ := hn1095
      have pk1099 : PK w w1090 := PK.tr pk1084 hn1097
      have os1100 : ∀ j, (j < 50 + 2 * u45 ∨ 52 + 2 * u45 ≤ j) → j < 140 → rwv w1090 86 j = rwv w 86 j := fun j hj hl => (rwv_fr hF1093 (by decide)).trans (os1085 j hj hl)
      have ix1101 : u45 < 4 → rwv w1090 86 (50 + (2 * u45)) = n1022 := fun h => (rwv_fr hF1093 (by decide)).trans (hp1082 h)
      have rg1102 : FA w1090 ≠ 0 ∨ 0 = 1 := rg1086.imp_left hn1097.1
      have rg1103 : FA w1090 ≠ 0 ∨ (0 ≤ n1022 ∧ n1022 ≤ 99) := rg1087.imp_left hn1097.1
      have mf1104 : ∀ s, s < 7 → rwv w1090 85 s = rwv w 85 s := fun s hs => (rwv_fr hF1093 (by decide)).trans (mf1088 s hs)
      have ms1105 : mu w1090 < mu w := Nat.lt_of_le_of_lt hn1097.2.1 ms1089
      clear hp1082 rg1086 rg1087
      obtain ⟨f82_1106, f82_1108, f82_1110, f82_1112, f82_1114, f82_1116, f82_1118, f82_1120, f82_1122, f82_1124, f82_1126, f82_1127, f82_1128, f82_1130, f82_1132, f82_1134, h82_1136, hb1107, hb1109, hb1111, hb1113, hb1115, hb1117, hb1119, hb1121, hb1123, hb1125, hb1129, hb1131, hb1133, hb1135, hb1137⟩ := (hI1092 82 (by decide) (by decide) : cp82 (wget w1090 82))
      refine xg_cVv mX12_puts (vs := [(0, 1), (0, u45), (0, (50 + (2 * u45)) + 1), (0, n1094)]) (rest := []) (cn1 := 0) (sl1 := 0) rfl (mPuts1 (hI1092) (by omega) (by omega) (by omega) (fun _ => by omega)) rfl h82_1136 rfl rfl rfl rfl rfl rfl (fun w1138 hq1139 => ?_)
      obtain ⟨hI1140, hF1141, hx1142⟩ := hq1139
      obtain ⟨hp1143, hp1144⟩ := hx1142
      have pk1145 : PK w w1138 := PK.tr pk1099 (PK.fr hF1141 (by decide) (by decide) pk1099.2.2.2.1)
      have os1146 : ∀ j, (j < 50 + 2 * u45 ∨ 52 + 2 * u45 ≤ j) → j < 140 → rwv w1138 86 j = rwv w 86 j := fun j hj hl => (hp1144 j (by omega) hl).trans (os1100 j hj hl)
      have ix1147 : u45 < 4 → rwv w1138 86 (50 + (2 * u45)) = n1022 := fun h => (hp1144 _ (by omega) (by omega)).trans (ix1101 h)
      have rg1148 : FA w1138 ≠ 0 ∨ 0 = 1 := rg1102.imp_left (PK.fr hF1141 (by decide) (by decide) pk1099.2.2.2.1).1
      have rg1149 : FA w1138 ≠ 0 ∨ (0 ≤ n1022 ∧ n1022 ≤ 99) := rg1103.imp_left (PK.fr hF1141 (by decide) (by decide) pk1099.2.2.2.1).1
      have rg1150 : FA w1138 ≠ 0 ∨ (1 ≤ n1094 ∧ n1094 ≤ 999) := hn1098.imp_left (PK.fr hF1141 (by decide) (by decide) pk1099.2.2.2.1).1
      have mf1151 : ∀ s, s < 7 → rwv w1138 85 s = rwv w 85 s := fun s hs => (rwv_fr hF1141 (by decide)).trans (mf1104 s hs)
      have ms1152 : mu w1138 < mu w := Nat.lt_of_le_of_lt (PK.fr hF1141 (by decide) (by decide) pk1099.2.2.2.1).2.1 ms1105
      clear ix1101 rg1102 rg1103 hn1098
      refine xg_t (xg_goto) ?_
      refine xg_t (xg_drop (l1 := [(0, (2, 82)), (1, (0, 1)), (3, (0, u45))]) (List.forall_mem_cons.mpr ⟨List.mem_cons_of_mem _ (List.mem_cons_of_mem _ (List.mem_cons_of_mem _ (List.mem_cons_of_mem _ (List.mem_cons_self)))), List.forall_mem_cons.mpr ⟨List.mem_cons_of_mem _ (List.mem_cons_of_mem _ (List.mem_cons_of_mem _ (List.mem_cons_self))), List.forall_mem_cons.mpr ⟨List.mem_cons_of_mem _ (List.mem_cons_self), fun _ h => absurd h List.not_mem_nil⟩⟩⟩)) ?_
      have hX1153 : FA w1138 ≠ 0 ∨ u45 < 4 := Or.inl (by have q := rg1148; omega)
      have hN1154 : FA w1138 ≠ 0 ∨ 4 ≤ u45 ∨ (1 ≤ rwv w1138 86 (50 + 2 * u45 + 1) ∧ rwv w1138 86 (50 + 2 * u45 + 1) ≤ 999) := by
        have hl1155 : u45 < 4 → rwv w1138 86 (50 + (2 * u45)) = n1022 := ix1147
        have hl1156 : u45 < 4 → rwv w1138 86 ((50 + (2 * u45)) + 1) = n1094 := hp1143
        have hl1157 := rg1149
        have hl1158 := rg1150
        omega
      exact jn673 w1138 (hI1140) ((((((((hF647.up (by decide)).tr (hF659.up (by decide))).tr (hF1021.up (by decide))).tr (hF1067.up (by decide))).tr (hF1080.up (by decide))).tr (hF1093.up (by decide))).tr (hF1141.up (by decide)))) (⟨pk1145, os1146, ms1152, mf1151, hX1153, hN1154⟩)
    · refine xg_t (xg_ifF (u := n1068) rfl xnm0 (xj_eqF hc1076)) ?_
      refine xg_t (xg_aload (va := (2, 82)) rfl rfl) ?_
      refine xg_t (xg_const) ?_
      refine xg_t (xg_iload (va := (0, at_)) rfl rfl) ?_
      refine xg_cVv mX12_also (vs := [(0, 3), (0, at_)]) (rest := []) (cn1 := 0) (sl1 := 0) rfl (mAlso (hI1066) (by omega) (by omega) (by omega) pk1070.2.2.2.1) rfl (hF1067.get (by decide) h82_1062) rfl rfl rfl rfl rfl rfl (fun w1159 hq1160 => ?_)
      obtain ⟨hI1161, hF1162, hx1163⟩ := hq1160
      obtain ⟨hv1165, hv1166⟩ := hx1163
      have pk1164 : PK w1064 w1159 := ⟨fun _ => hv1165, Nat.le_of_eq (mu_fr hF1162 (by decide)), fld_fr hF1162 (by decide), Or.inr hv1165, hv1166⟩
      have pk1167 : PK w w1159 := PK.tr pk1070 pk1164
      have os1168 : ∀ j, (j < 50 + 2 * u45 ∨ 52 + 2 * u45 ≤ j) → j < 140 → rwv w1159 86 j = rwv w 86 j := fun j hj hl => (rwv_fr hF1162 (by decide)).trans (os1071 j hj hl)
      have rg1169 : FA w1159 ≠ 0 ∨ 0 = 1 := rg1072.imp_left pk1164.1
      have rg1170 : FA w1159 ≠ 0 ∨ (0 ≤ n1022 ∧ n1022 ≤ 99) := rg1073.imp_left pk1164.1
      have mf1171 : ∀ s, s < 7 → rwv w1159 85 s = rwv w 85 s := fun s hs => (rwv_fr hF1162 (by decide)).trans (mf1074 s hs)
      have ms1172 : mu w1159 < mu w := Nat.lt_of_le_of_lt pk1164.2.1 ms1075
      clear rg1072 rg1073
      refine xg_t (xg_blk (b := [(141, 1, 0, 0, 0, 0), (142, 1, 2, 1, 0, 0), (143, 1, 2, 3, 0, 0), (144, 2, 4, 50, 0, 0), (146, 1, 3, 2, 0, 0), (147, 1, 2, 3, 0, 0), (148, 1, 16, 0, 0, 0), (149, 1, 11, 0, 0, 0), (150, 2, 2, 4, 0, 0), (152, 3, 13, 211, 96, 200), (155, 1, 0, 0, 0, 0), (156, 1, 2, 1, 0, 0), (157, 1, 2, 3, 0, 0), (158, 2, 4, 50, 0, 0), (160, 1, 3, 2, 0, 0), (161, 1, 2, 3, 0, 0), (162, 1, 16, 0, 0, 0), (163, 1, 11, 0, 0, 0), (164, 1, 3, 1, 0, 0), (165, 1, 11, 0, 0, 0), (166, 1, 0, 0, 0, 0), (167, 1, 3, 1, 0, 0), (168, 3, 5, 999, 0, 0), (171, 3, 13, 199, 96, 196), (174, 3, 13, 211, 96, 200), (177, 3, 8, 394, 0, 0)]) rfl) ?_
      refine xg_t (xg_aload (va := (2, 82)) rfl rfl) ?_
      refine xg_t (xg_iload (va := (0, 1)) rfl rfl) ?_
      refine xg_t (xg_iload (va := (0, u45)) rfl rfl) ?_
      refine xg_t (xg_bip) ?_
      refine xg_t (xg_const) ?_
      refine xg_t (xg_iload (va := (0, u45)) rfl rfl) ?_
      refine xg_t (xg_imul (u := 2) (v := u45) (z := 2 * u45) xnm0 xnm0 (by omega)) ?_
      refine xg_t (xg_iadd (u := 50) (v := 2 * u45) (z := 50 + (2 * u45)) xnm0 xnm0 (by omega)) ?_
      refine xg_t (xg_iload (va := (0, n1022)) rfl rfl) ?_
      refine xg_cVv mX12_puts (vs := [(0, 1), (0, u45), (0, 50 + (2 * u45)), (0, n1022)]) (rest := []) (cn1 := 0) (sl1 := 0) rfl (mPuts1 (hI1161) (by omega) (by omega) (by omega) (fun _ => by omega)) rfl (hF1162.get (by decide) (hF1067.get (by decide) h82_1062)) rfl rfl rfl rfl rfl rfl (fun w1173 hq1174 => ?_)
      obtain ⟨hI1175, hF1176, hx1177⟩ := hq1174
      obtain ⟨hp1178, hp1179⟩ := hx1177
      have pk1180 : PK w w1173 := PK.tr pk1167 (PK.fr hF1176 (by decide) (by decide) pk1167.2.2.2.1)
      have os1181 : ∀ j, (j < 50 + 2 * u45 ∨ 52 + 2 * u45 ≤ j) → j < 140 → rwv w1173 86 j = rwv w 86 j := fun j hj hl => (hp1179 j (by omega) hl).trans (os1168 j hj hl)
      have rg1182 : FA w1173 ≠ 0 ∨ 0 = 1 := rg1169.imp_left (PK.fr hF1176 (by decide) (by decide) pk1167.2.2.2.1).1
      have rg1183 : FA w1173 ≠ 0 ∨ (0 ≤ n1022 ∧ n1022 ≤ 99) := rg1170.imp_left (PK.fr hF1176 (by decide) (by decide) pk1167.2.2.2.1).1
      have rg1184 : FA w1173 ≠ 0 ∨ 0 = 1 := (Or.inl hv1165 : FA w1159 ≠ 0 ∨ 0 = 1).imp_left (PK.fr hF1176 (by decide) (by decide) pk1167.2.2.2.1).1
      have mf1185 : ∀ s, s < 7 → rwv w1173 85 s = rwv w 85 s := fun s hs => (rwv_fr hF1176 (by decide)).trans (mf1171 s hs)
      have ms1186 : mu w1173 < mu w := Nat.lt_of_le_of_lt (PK.fr hF1176 (by decide) (by decide) pk1167.2.2.2.1).2.1 ms1172
      clear rg1169 rg1170
      refine xg_t (xg_aload (va := (2, 82)) rfl rfl) ?_
      refine xg_t (xg_iload (va := (0, 1)) rfl rfl) ?_
      refine xg_t (xg_iload (va := (0, u45)) rfl rfl) ?_
      refine xg_t (xg_bip) ?_
      refine xg_t (xg_const) ?_
      refine xg_t (xg_iload (va := (0, u45)) rfl rfl) ?_
      refine xg_t (xg_imul (u := 2) (v := u45) (z := 2 * u45) xnm0 xnm0 (by omega)) ?_
      refine xg_t (xg_iadd (u := 50) (v := 2 * u45) (z := 50 + (2 * u45)) xnm0 xnm0 (by omega)) ?_
      refine xg_t (xg_const) ?_
      refine xg_t (xg_iadd (u := 50 + (2 * u45)) (v := 1) (z := (50 + (2 * u45)) + 1) xnm0 xnm0 (by omega)) ?_
      refine xg_t (xg_aload (va := (2, 82)) rfl rfl) ?_
      refine xg_t (xg_const) ?_
      refine xg_t (xg_sip) ?_
      refine xg_cVi mX12_numbered (vs := [(0, 1), (0, 999)]) (rest := [(0, (50 + (2 * u45)) + 1), (0, u45), (0, 1), (2, 82)]) (cn1 := 0) (sl1 := 0) rfl (mNumbered (hI1175) (by omega) (by omega) pk1180.2.2.2.1) rfl (hF1176.get (by decide) (hF1162.get (by decide) (hF1067.get (by decide) h82_1062))) rfl rfl rfl rfl rfl rfl (fun n1191 w1187 hq1188 => ?_)
      obtain ⟨hn1192, hI1189, hF1190⟩ := hq1188
      clear hb1033 hb1035 hb1037 hb1039 hb1041 hb1043 hb1045 hb1047 hb1049 hb1051 hb1055 hb1057 hb1059 hb1061
      obtain ⟨hn1193, hn1194, hn1195⟩ := hn1192
      have pk1196 : PK w w1187 := PK.tr pk1180 hn1194
      have os1197 : ∀ j, (j < 50 + 2 * u45 ∨ 52 + 2 * u45 ≤ j) → j < 140 → rwv w1187 86 j = rwv w 86 j := fun j hj hl => (rwv_fr hF1190 (by decide)).trans (os1181 j hj hl)
      have ix1198 : u45 < 4 → rwv w1187 86 (50 + (2 * u45)) = n1022 := fun h => (rwv_fr hF1190 (by decide)).trans (hp1178 h)
      have rg1199 : FA w1187 ≠ 0 ∨ 0 = 1 := rg1182.imp_left hn1194.1
      have rg1200 : FA w1187 ≠ 0 ∨ (0 ≤ n1022 ∧ n1022 ≤ 99) := rg1183.imp_left hn1194.1
      have rg1201 : FA w1187 ≠ 0 ∨ 0 = 1 := rg1184.imp_left hn1194.1
      have mf1202 : ∀ s, s < 7 → rwv w1187 85 s = rwv w 85 s := fun s hs => (rwv_fr hF1190 (by decide)).trans (mf1185 s hs)
      have ms1203 : mu w1187 < mu w := Nat.lt_of_le_of_lt hn1194.2.1 ms1186
      clear hp1178 rg1182 rg1183 rg1184
      obtain ⟨f82_1204, f82_1206, f82_1208, f82_1210, f82_1212, f82_1214, f82_1216, f82_1218, f82_1220, f82_1222, f82_1224, f82_1225, f82_1226, f82_1228, f82_1230, f82_1232, h82_1234, hb1205, hb1207, hb1209, hb1211, hb1213, hb1215, hb1217, hb1219, hb1221, hb1223, hb1227, hb1229, hb1231, hb1233, hb1235⟩ := (hI1189 82 (by decide) (by decide) : cp82 (wget w1187 82))
      refine xg_cVv mX12_puts (vs := [(0, 1), (0, u45), (0, (50 + (2 * u45)) + 1), (0, n1191)]) (rest := []) (cn1 := 0) (sl1 := 0) rfl (mPuts1 (hI1189) (by omega) (by omega) (by omega) (fun _ => by omega)) rfl h82_1234 rfl rfl rfl rfl rfl rfl (fun w1236 hq1237 => ?_)
      obtain ⟨hI1238, hF1239, hx1240⟩ := hq1237
      obtain ⟨hp1241, hp1242⟩ := hx1240
      have pk1243 : PK w w1236 := PK.tr pk1196 (PK.fr hF1239 (by decide) (by decide) pk1196.2.2.2.1)
      have os1244 : ∀ j, (j < 50 + 2 * u45 ∨ 52 + 2 * u45 ≤ j) → j < 140 → rwv w1236 86 j = rwv w 86 j := fun j hj hl => (hp1242 j (by omega) hl).trans (os1197 j hj hl)
      have ix1245 : u45 < 4 → rwv w1236 86 (50 + (2 * u45)) = n1022 := fun h => (hp1242 _ (by omega) (by omega)).trans (ix1198 h)
      have rg1246 : FA w1236 ≠ 0 ∨ 0 = 1 := rg1199.imp_left (PK.fr hF1239 (by decide) (by decide) pk1196.2.2.2.1).1
      have rg1247 : FA w1236 ≠ 0 ∨ (0 ≤ n1022 ∧ n1022 ≤ 99) := rg1200.imp_left (PK.fr hF1239 (by decide) (by decide) pk1196.2.2.2.1).1
      have rg1248 : FA w1236 ≠ 0 ∨ 0 = 1 := rg1201.imp_left (PK.fr hF1239 (by decide) (by decide) pk1196.2.2.2.1).1
      have rg1249 : FA w1236 ≠ 0 ∨ (1 ≤ n1191 ∧ n1191 ≤ 999) := hn1195.imp_left (PK.fr hF1239 (by decide) (by decide) pk1196.2.2.2.1).1
      have mf1250 : ∀ s, s < 7 → rwv w1236 85 s = rwv w 85 s := fun s hs => (rwv_fr hF1239 (by decide)).trans (mf1202 s hs)
      have ms1251 : mu w1236 < mu w := Nat.lt_of_le_of_lt (PK.fr hF1239 (by decide) (by decide) pk1196.2.2.2.1).2.1 ms1203
      clear ix1198 rg1199 rg1200 rg1201 hn1195
      refine xg_t (xg_goto) ?_
      refine xg_t (xg_drop (l1 := [(0, (2, 82)), (1, (0, 1)), (3, (0, u45))]) (List.forall_mem_cons.mpr ⟨List.mem_cons_of_mem _ (List.mem_cons_of_mem _ (List.mem_cons_of_mem _ (List.mem_cons_of_mem _ (List.mem_cons_self)))), List.forall_mem_cons.mpr ⟨List.mem_cons_of_mem _ (List.mem_cons_of_mem _ (List.mem_cons_of_mem _ (List.mem_cons_self))), List.forall_mem_cons.mpr ⟨List.mem_cons_of_mem _ (List.mem_cons_self), fun _ h => absurd h List.not_mem_nil⟩⟩⟩)) ?_
      have hX1252 : FA w1236 ≠ 0 ∨ u45 < 4 := Or.inl (by have q := rg1246; omega)
      have hN1253 : FA w1236 ≠ 0 ∨ 4 ≤ u45 ∨ (1 ≤ rwv w1236 86 (50 + 2 * u45 + 1) ∧ rwv w1236 86 (50 + 2 * u45 + 1) ≤ 999) := by
        have hl1254 : u45 < 4 → rwv w1236 86 (50 + (2 * u45)) = n1022 := ix1245
        have hl1255 : u45 < 4 → rwv w1236 86 ((50 + (2 * u45)) + 1) = n1191 := hp1241
        have hl1256 := rg1247
        have hl1257 := rg1249
        omega
      exact jn673 w1236 (hI1238) (((((((((hF647.up (by decide)).tr (hF659.up (by decide))).tr (hF1021.up (by decide))).tr (hF1067.up (by decide))).tr (hF1162.up (by decide))).tr (hF1176.up (by decide))).tr (hF1190.up (by decide))).tr (hF1239.up (by decide)))) (⟨pk1243, os1244, ms1251, mf1250, hX1252, hN1253⟩)
end XMB
