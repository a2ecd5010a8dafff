/-! the model: lines of films, more -/
section XMB
variable {d : Nat} {w : List (List xE)} {bd : List (Nat × Nat)} {fc : List (Nat × Nat × Bool)} {rr : Nat × Nat}
set_option maxHeartbeats 60000000 in
theorem mALineS5 {at_ : Nat} (hI : xMnv w) (hps : PS w) (hmb : ∀ s, s < 7 → rwv w 85 s ≤ 1000) (hln : fld w 82 14 ≤ 1000) (h7 : fld w 82 7 = 3) (hat : at_ ≤ 4294967295) : xTo (d + 7) mX12_aLine (43, [], [(2, (0, at_)), (1, (0, 5)), (0, (2, 82))], [], (w, bd, fc, 0, 0, rr)) (fun φ => ∃ w', xEnd 0 [] (w', bd, fc, 0, 0, rr) φ ∧ xMnv w' ∧ xFr [82, 83, 85, 86, 87] w w' ∧ ((FA w ≠ 0 → FA w' ≠ 0) ∧ PS w' ∧ ((fld w' 82 10 = 1 ∧ mu w' = mu w ∧ fld w' 82 14 = fld w 82 14 ∧ ∀ s, s < 7 → rwv w' 85 s = rwv w 85 s) ∨ (mu w' < mu w ∧ fld w' 82 14 = fld w 82 14 + 1 ∧ ∀ s, s < 7 → rwv w' 85 s ≤ rwv w 85 s + 1)) ∧ (FA w' ≠ 0 ∨ (DATA w → DATA w')))) := by
  obtain ⟨f82_1, f82_3, f82_5, f82_7, f82_9, f82_11, f82_13, f82_15, f82_17, f82_19, f82_21, f82_22, f82_23, f82_25, f82_27, f82_29, h82_31, hb2, hb4, hb6, hb8, hb10, hb12, hb14, hb16, hb18, hb20, hb24, hb26, hb28, hb30, hb32⟩ := (hI 82 (by decide) (by decide) : cp82 (wget w 82))
  have hf33 : fld w 82 7 = f82_11 := fld_of h82_31
  have hf34 : fld w 82 10 = f82_17 := fld_of h82_31
  have hf35 : fld w 82 14 = f82_19 := fld_of h82_31
  have hps_ : fld w 82 10 = 0 ∨ FA w ≠ 0 := hps
  obtain ⟨g85_36, h85_37, hb38⟩ := (hI 85 (by decide) (by decide) : cpI 7 52 4294967295 (wget w 85))
  have h85_37 : xRow w 85 7 52 g85_36 := h85_37
  obtain ⟨g86_39, h86_40, hb41⟩ := (hI 86 (by decide) (by decide) : cpI 140 53 4294967295 (wget w 86))
  have h86_40 : xRow w 86 140 53 g86_39 := h86_40
  obtain ⟨g87_42, h87_43, hb44⟩ := (hI 87 (by decide) (by decide) : cpI 20 54 4294967295 (wget w 87))
  have h87_43 : xRow w 87 20 54 g87_42 := h87_43
  refine xg_t (xg_blk (b := [(43, 1, 0, 0, 0, 0), (44, 3, 1, 12, 11, 17), (47, 1, 2, 1, 0, 0), (48, 1, 10, 0, 0, 0), (49, 1, 15, 3, 0, 0), (50, 1, 2, 3, 0, 0), (51, 1, 2, 1, 0, 0), (52, 3, 13, 194, 98, 193), (55, 3, 6, 64, 2, 0), (58, 1, 0, 0, 0, 0), (59, 1, 3, 3, 0, 0), (60, 1, 2, 2, 0, 0), (61, 3, 13, 115, 96, 186)]) rfl) ?_
  refine xg_t (xg_aload (va := (2, 82)) rfl rfl) ?_
  refine xg_t (xg_getf (va := (2, 85)) h82_31 rfl) ?_
  refine xg_t (xg_iload (va := (0, 5)) rfl rfl) ?_
  refine xg_ialdB (n := 5) (B := 4294967295) h85_37 (hb38) xnm0 (by omega) (fun u45 hu46 he47 => ?_)
  have hK48 : rwv w 85 5 = u45 := (rwv_of h85_37 (by decide)).trans he47
  have hm49 := hmb 5 (by decide)
  have hl50 : u45 ≤ 1000 := by omega
  refine xg_t (xg_istore (l1 := [(2, (0, at_)), (1, (0, 5)), (0, (2, 82))]) rfl rfl rfl) ?_
  refine xg_t (xg_iload (va := (0, u45)) rfl rfl) ?_
  refine xg_t (xg_iload (va := (0, 5)) rfl rfl) ?_
  refine xg_t (xg_cSr mX12_mostOf (vs := [(0, 5)]) (rest := [(0, u45)]) (rs := [(0, 1), (0, u45)]) (cn1 := 0) (sl1 := 0) rfl (mMostR5) rfl rfl rfl rfl rfl rfl rfl rfl) ?_
  by_cases hc51 : u45 < 1
  · refine xg_t (xg_icT (u := u45) (v := 1) rfl xnm0 xnm0 (xj_ltT hc51 (by omega))) ?_
    refine xg_t (xg_blk (b := [(64, 1, 0, 0, 0, 0), (65, 3, 13, 110, 96, 190), (68, 1, 2, 1, 0, 0), (69, 39, 33, 362, 0, 9)]) rfl) ?_
    refine xg_t (xg_aload (va := (2, 82)) rfl rfl) ?_
    refine xg_cVv mX12_advance (vs := []) (rest := []) (cn1 := 0) (sl1 := 0) rfl (mAdvance (hI)) rfl h82_31 rfl rfl rfl rfl rfl rfl (fun w52 hq53 => ?_)
    obtain ⟨hI54, hF55, hx56⟩ := hq53
    clear hb2 hb4 hb6 hb8 hb10 hb12 hb14 hb16 hb18 hb20 hb24 hb26 hb28 hb30
    obtain ⟨hv57, hv58, hv59, hv60⟩ := hx56
    have hf62 := FA_fr hF55 (by decide)
    have hs63 := (PK.rf hps).2.2.2
    unfold PS at hs63
    have pk61 : PK w w52 := ⟨fun _ => by omega, hv57, hv60, (show fld w52 82 10 = 0 ∨ FA w52 ≠ 0 by omega)⟩
    clear hs63
    have pk64 : PK w w52 := PK.tr (PK.rf hps) pk61
    have os65 : ∀ j, (j < 7 ∨ 9 ≤ j) → j < 140 → rwv w52 86 j = rwv w 86 j := fun j hj hl => (rwv_fr hF55 (by decide)).trans ((fun j _ _ => rfl) j hj hl)
    have mf66 : ∀ s, s < 7 → rwv w52 85 s = rwv w 85 s := fun s hs => (rwv_fr hF55 (by decide)).trans ((fun _ _ => rfl) s hs)
    have ms67 : mu w52 < mu w := Nat.lt_of_lt_of_le (hv58 (by omega)) (PK.rf hps).2.1
    clear hv58
    have jn68 : ∀ (w69 : List (List xE)), xMnv w69 → xFr [82, 83, 85, 86, 87] w w69 → (PK w w69 ∧ (∀ j, (j < 7 ∨ 9 ≤ j) → j < 140 → rwv w69 86 j = rwv w 86 j) ∧ mu w69 < mu w ∧ (∀ s, s < 7 → rwv w69 85 s = rwv w 85 s) ∧ (FA w69 ≠ 0 ∨ u45 < 1) ∧ (FA w69 ≠ 0 ∨ 1 ≤ u45 ∨ (1 ≤ rwv w69 86 7 ∧ rwv w69 86 7 ≤ 10 ∧ 1 ≤ rwv w69 86 8 ∧ rwv w69 86 8 ≤ 10))) → xTo (d + 7) mX12_aLine (394, [], [(0, (2, 82)), (1, (0, 5)), (3, (0, u45))], [], (w69, bd, fc, 0, 0, rr)) (fun φ => ∃ w', xEnd 0 [] (w', bd, fc, 0, 0, rr) φ ∧ xMnv w' ∧ xFr [82, 83, 85, 86, 87] w w' ∧ ((FA w ≠ 0 → FA w' ≠ 0) ∧ PS w' ∧ ((fld w' 82 10 = 1 ∧ mu w' = mu w ∧ fld w' 82 14 = fld w 82 14 ∧ ∀ s, s < 7 → rwv w' 85 s = rwv w 85 s) ∨ (mu w' < mu w ∧ fld w' 82 14 = fld w 82 14 + 1 ∧ ∀ s, s < 7 → rwv w' 85 s ≤ rwv w 85 s + 1)) ∧ (FA w' ≠ 0 ∨ (DATA w → DATA w')))) := by
      intro w69 hI70 hF71 he72
      obtain ⟨hj73, hj74, hj75, hj76, hj77, hj78⟩ := he72
      refine xg_t (xg_blk (b := [(394, 1, 0, 0, 0, 0), (395, 3, 1, 12, 10, 180), (398, 3, 7, 416, 1, 0), (401, 1, 0, 0, 0, 0), (402, 3, 1, 12, 7, 151), (405, 1, 3, 2, 0, 0), (406, 3, 6, 416, 1, 0), (409, 1, 0, 0, 0, 0), (410, 3, 13, 110, 96, 190), (413, 3, 8, 420, 0, 0)]) rfl) ?_
      refine xg_t (xg_aload (va := (2, 82)) rfl rfl) ?_
      obtain ⟨f82_79, f82_81, f82_83, f82_85, f82_87, f82_89, f82_91, f82_93, f82_95, f82_97, f82_99, f82_100, f82_101, f82_103, f82_105, f82_107, h82_109, hb80, hb82, hb84, hb86, hb88, hb90, hb92, hb94, hb96, hb98, hb102, hb104, hb106, hb108, hb110⟩ := (hI70 82 (by decide) (by decide) : cp82 (wget w69 82))
      refine xg_t (xg_getf (va := (0, f82_95)) h82_109 rfl) ?_
      by_cases hc111 : f82_95 = 0
      · refine xg_t (xg_ifF (u := f82_95) rfl xnm0 (xj_neF hc111)) ?_
        refine xg_t (xg_aload (va := (2, 82)) rfl rfl) ?_
        refine xg_t (xg_getf (va := (0, f82_89)) h82_109 rfl) ?_
        refine xg_t (xg_const) ?_
        by_cases hc112 : f82_89 = 2
        · refine xg_t (xg_icF (u := f82_89) (v := 2) rfl xnm0 xnm0 (xj_neF hc112)) ?_
          refine xg_t (xg_aload (va := (2, 82)) rfl rfl) ?_
          refine xg_cVv mX12_advance (vs := []) (rest := []) (cn1 := 0) (sl1 := 0) rfl (mAdvance (hI70)) rfl h82_109 rfl rfl rfl rfl rfl rfl (fun w113 hq114 => ?_)
          obtain ⟨hI115, hF116, hx117⟩ := hq114
          clear hb80 hb82 hb84 hb86 hb88 hb90 hb92 hb94 hb96 hb98 hb102 hb104 hb106 hb108
          obtain ⟨hv118, hv119, hv120, hv121⟩ := hx117
          have hf123 := FA_fr hF116 (by decide)
          have hs124 := hj73.2.2.2
          unfold PS at hs124
          have pk122 : PK w69 w113 := ⟨fun _ => by omega, hv118, hv121, (show fld w113 82 10 = 0 ∨ FA w113 ≠ 0 by omega)⟩
          clear hs124
          clear hv119
          have pk125 : PK w w113 := PK.tr hj73 pk122
          have os126 : ∀ j, (j < 7 ∨ 9 ≤ j) → j < 140 → rwv w113 86 j = rwv w 86 j := fun j hj hl => (rwv_fr hF116 (by decide)).trans (hj74 j hj hl)
          have rg127 : FA w113 ≠ 0 ∨ u45 < 1 := hj77.imp_left pk122.1
          have mf128 : ∀ s, s < 7 → rwv w113 85 s = rwv w 85 s := fun s hs => (rwv_fr hF116 (by decide)).trans (hj76 s hs)
          have hl129 : rwv w113 86 (7) = rwv w69 86 (7) := rwv_fr hF116 (by decide)
          have hl130 : rwv w113 86 (8) = rwv w69 86 (8) := rwv_fr hF116 (by decide)
          have nw131 : FA w113 ≠ 0 ∨ 1 ≤ u45 ∨ (1 ≤ rwv w113 86 7 ∧ rwv w113 86 7 ≤ 10 ∧ 1 ≤ rwv w113 86 8 ∧ rwv w113 86 8 ≤ 10) := by have q := hj78; have q1 := pk122.1; omega
          clear hj78
          have ms132 : mu w113 < mu w := Nat.lt_of_le_of_lt pk122.2.1 hj75
          clear hj77
          refine xg_t (xg_goto) ?_
          refine xg_t (xg_blk (b := [(420, 1, 0, 0, 0, 0), (421, 3, 1, 12, 11, 17), (424, 1, 2, 1, 0, 0), (425, 1, 39, 0, 0, 0), (426, 1, 10, 0, 0, 0), (427, 1, 3, 1, 0, 0), (428, 1, 11, 0, 0, 0), (429, 1, 17, 0, 0, 0), (430, 1, 0, 0, 0, 0), (431, 1, 19, 0, 0, 0), (432, 3, 1, 12, 14, 212), (435, 1, 3, 1, 0, 0), (436, 1, 11, 0, 0, 0), (437, 3, 14, 12, 14, 212), (440, 1, 12, 0, 0, 0)]) rfl) ?_
          obtain ⟨f82_133, f82_135, f82_137, f82_139, f82_141, f82_143, f82_145, f82_147, f82_149, f82_151, f82_153, f82_154, f82_155, f82_157, f82_159, f82_161, h82_163, hb134, hb136, hb138, hb140, hb142, hb144, hb146, hb148, hb150, hb152, hb156, hb158, hb160, hb162, hb164⟩ := (hI115 82 (by decide) (by decide) : cp82 (wget w113 82))
          have hf165 : fld w113 82 4 = f82_137 := fld_of h82_163
          have hf166 : fld w113 82 5 = f82_139 := fld_of h82_163
          have hf167 : fld w113 82 7 = f82_143 := fld_of h82_163
          have hf168 : fld w113 82 10 = f82_149 := fld_of h82_163
          have hf169 : fld w113 82 14 = f82_151 := fld_of h82_163
          have hu170 : mu w113 = 2 * (fld w113 82 4 - fld w113 82 5) + min 1 (fld w113 82 7) := rfl
          have hf171 := pk125.2.2.1
          have hl172 : f82_151 ≤ 1000 := by omega
          refine xg_t (xg_aload (va := (2, 82)) rfl rfl) ?_
          refine xg_t (xg_getf (va := (2, 85)) h82_163 rfl) ?_
          refine xg_t (xg_iload (va := (0, 5)) rfl rfl) ?_
          refine xg_t (xg_dup2 rfl) ?_
          obtain ⟨g85_173, h85_174, hb175⟩ := (hI115 85 (by decide) (by decide) : cpI 7 52 4294967295 (wget w113 85))
          have h85_174 : xRow w113 85 7 52 g85_173 := h85_174
          refine xg_ialdB (n := 5) (B := 4294967295) h85_174 (hb175) xnm0 (by omega) (fun u176 hu177 he178 => ?_)
          have hl179 : u176 = u45 := by have q1 := rwv_of h85_174 (show 5 < 7 by decide); have q2 := mf128 5 (by decide); omega
          refine xg_t (xg_const) ?_
          refine xg_t (xg_iadd (u := u176) (v := 1) (z := u176 + 1) xnm0 xnm0 (by omega)) ?_
          refine xg_iastK (n := 5) (u := u176 + 1) h85_174 xnm0 xnm0 rfl (by omega) (fun w180 hr181 hb182 => ?_)
          refine xg_t (xg_aload (va := (2, 82)) rfl rfl) ?_
          refine xg_t (xg_dup rfl) ?_
          refine xg_t (xg_getf (va := (0, f82_151)) (hb182.get (by decide) h82_163) rfl) ?_
          refine xg_t (xg_const) ?_
          refine xg_t (xg_iadd (u := f82_151) (v := 1) (z := f82_151 + 1) xnm0 xnm0 (by omega)) ?_
          refine xg_putI (fl1 := [(2, 83), (2, 84), (0, f82_133), (0, f82_135), (0, f82_137), (0, f82_139), (0, f82_141), (0, f82_143), (0, f82_145), (0, f82_147), (0, f82_149), (2, 85), (2, 86), (2, 87), (0, f82_151 + 1), (2, 88), (2, 89), (2, 90), (2, 91), (2, 92), (2, 93), (2, 94), (4, f82_153), (4, f82_154), (0, f82_155), (2, 95), (2, 96), (2, 97), (2, 98), (2, 99), (2, 100), (2, 101), (2, 102), (0, f82_157), (2, 103), (2, 104), (2, 105), (2, 106), (2, 107), (2, 108), (2, 109), (0, f82_159), (0, f82_161), (2, 110), (2, 111), (2, 112), (2, 113)]) (hb182.get (by decide) h82_163) rfl rfl rfl (fun w183 hk184 hb185 => ?_)
          have hF186 : xFr [82, 85] w113 w183 := ((xFr.of (S := [82, 85]) hb182 (by decide)).tr (xFr.of (S := [82, 85]) hb185 (by decide)))
          have hA187 := FA_fr hF186 (by decide)
          have hf188 : fld w183 82 4 = f82_137 := fld_of hk184
          have hf189 : fld w183 82 5 = f82_139 := fld_of hk184
          have hf190 : fld w183 82 7 = f82_143 := fld_of hk184
          have hf191 : fld w183 82 10 = f82_149 := fld_of hk184
          have hf192 : fld w183 82 14 = f82_151 + 1 := fld_of hk184
          have hu193 : mu w183 = 2 * (fld w183 82 4 - fld w183 82 5) + min 1 (fld w183 82 7) := rfl
          have pq194 := pk125
          unfold PK PS at pq194
          have hM195 : ∀ s, s < 7 → s ≠ 5 → rwv w183 85 s = rwv w 85 s := fun s hs hn => (rwv_of (hr181.but hb185 (by decide)) hs).trans ((if_neg hn).trans ((rwv_of h85_174 hs).symm.trans (mf128 s hs)))
          have hM196 : rwv w183 85 5 = u45 + 1 := (rwv_of (hr181.but hb185 (by decide)) (by decide)).trans ((if_pos rfl).trans (by omega))
          have hM197 : ∀ s, s < 7 → rwv w183 85 s ≤ rwv w 85 s + 1 := fun s hs => by
            by_cases z : s = 5
            · subst z; omega
            · rw [hM195 s hs z]; omega
          have hO198 : ∀ j, (j < 7 ∨ 9 ≤ j) → j < 140 → rwv w183 86 j = rwv w 86 j := fun j hj hl => (rwv_fr hF186 (by decide)).trans (os126 j hj hl)
          have hl200 : FA w113 ≠ 0 ∨ u45 < 1 := rg127
          have hl201 : rwv w183 86 (7) = rwv w113 86 (7) := rwv_fr hF186 (by decide)
          have hl202 : rwv w183 86 (8) = rwv w113 86 (8) := rwv_fr hF186 (by decide)
          have hN199 : FA w183 ≠ 0 ∨ 1 ≤ u45 ∨ (1 ≤ rwv w183 86 7 ∧ rwv w183 86 7 ≤ 10 ∧ 1 ≤ rwv w183 86 8 ∧ rwv w183 86 8 ≤ 10) := by have q := nw131; omega
          have hX203 : FA w183 ≠ 0 ∨ u45 < 1 := by omega
          have hD204 : FA w183 ≠ 0 ∨ (DATA w → DATA w183) := by
            by_cases z : FA w183 ≠ 0
            · exact Or.inl z
            · exact Or.inr (fun hd => hd.s5 hM195 hK48 hM196 (hX203.resolve_left z) hO198 ((hN199.resolve_left z).resolve_left (by have := hX203.resolve_left z; omega)))
          exact xg_e ⟨w183, ⟨rfl, rfl⟩, xMnv.up (S := [85, 82]) hI115 ((xFr.of (S := [85, 82]) hb182 (by decide)).tr (xFr.of (S := [85, 82]) hb185 (by decide))) (List.forall_mem_cons.mpr ⟨(show cpI 7 52 4294967295 (wget w183 85) from ⟨_, (hr181.but hb185 (by decide)), xrb (by omega) (hb175)⟩), List.forall_mem_cons.mpr ⟨(show cp82 (wget w183 82) from ⟨f82_133, f82_135, f82_137, f82_139, f82_141, f82_143, f82_145, f82_147, f82_149, f82_151 + 1, f82_153, f82_154, f82_155, f82_157, f82_159, f82_161, hk184, hb134, hb136, hb138, hb140, hb142, hb144, hb146, hb148, hb150, by omega, hb156, hb158, hb160, hb162, by omega⟩), fun _ h => absurd h List.not_mem_nil⟩⟩), ((hF71.tr (hF116.up (by decide))).tr ((xFr.of (S := [82, 83, 85, 86, 87]) hb182 (by decide)).tr (xFr.of (S := [82, 83, 85, 86, 87]) hb185 (by decide)))), ⟨fun h => by have := pq194.1 h; omega, (show fld w183 82 10 = 0 ∨ FA w183 ≠ 0 by omega), Or.inr ⟨by have := ms132; omega, by omega, hM197⟩, hD204⟩⟩
        · refine xg_t (xg_icT (u := f82_89) (v := 2) rfl xnm0 xnm0 (xj_neT hc112)) ?_
          refine xg_t (xg_blk (b := [(416, 1, 0, 0, 0, 0), (417, 3, 13, 140, 96, 183)]) rfl) ?_
          refine xg_t (xg_aload (va := (2, 82)) rfl rfl) ?_
          refine xg_cVv mX12_ends (vs := []) (rest := []) (cn1 := 0) (sl1 := 0) rfl (mEnds (hI70) hj73.2.2.2) rfl h82_109 rfl rfl rfl rfl rfl rfl (fun w205 hq206 => ?_)
          obtain ⟨hI207, hF208, hx209⟩ := hq206
          clear hb80 hb82 hb84 hb86 hb88 hb90 hb92 hb94 hb96 hb98 hb102 hb104 hb106 hb108
          obtain ⟨hv210, hv211, hv212, hv213⟩ := hx209
          have pk214 : PK w69 w205 := ⟨fun _ => hv210, by omega, by omega, Or.inr hv210⟩
          have pk215 : PK w w205 := PK.tr hj73 pk214
          have os216 : ∀ j, (j < 7 ∨ 9 ≤ j) → j < 140 → rwv w205 86 j = rwv w 86 j := fun j hj hl => (rwv_fr hF208 (by decide)).trans (hj74 j hj hl)
          have rg217 : FA w205 ≠ 0 ∨ u45 < 1 := hj77.imp_left pk214.1
          have mf218 : ∀ s, s < 7 → rwv w205 85 s = rwv w 85 s := fun s hs => (rwv_fr hF208 (by decide)).trans (hj76 s hs)
          have hl219 : rwv w205 86 (7) = rwv w69 86 (7) := rwv_fr hF208 (by decide)
          have hl220 : rwv w205 86 (8) = rwv w69 86 (8) := rwv_fr hF208 (by decide)
          have nw221 : FA w205 ≠ 0 ∨ 1 ≤ u45 ∨ (1 ≤ rwv w205 86 7 ∧ rwv w205 86 7 ≤ 10 ∧ 1 ≤ rwv w205 86 8 ∧ rwv w205 86 8 ≤ 10) := by have q := hj78; have q1 := pk214.1; omega
          clear hj78
          have ms222 : mu w205 < mu w := Nat.lt_of_le_of_lt pk214.2.1 hj75
          clear hj77
          refine xg_t (xg_blk (b := [(420, 1, 0, 0, 0, 0), (421, 3, 1, 12, 11, 17), (424, 1, 2, 1, 0, 0), (425, 1, 39, 0, 0, 0), (426, 1, 10, 0, 0, 0), (427, 1, 3, 1, 0, 0), (428, 1, 11, 0, 0, 0), (429, 1, 17, 0, 0, 0), (430, 1, 0, 0, 0, 0), (431, 1, 19, 0, 0, 0), (432, 3, 1, 12, 14, 212), (435, 1, 3, 1, 0, 0), (436, 1, 11, 0, 0, 0), (437, 3, 14, 12, 14, 212), (440, 1, 12, 0, 0, 0)]) rfl) ?_
          obtain ⟨f82_223, f82_225, f82_227, f82_229, f82_231, f82_233, f82_235, f82_237, f82_239, f82_241, f82_243, f82_244, f82_245, f82_247, f82_249, f82_251, h82_253, hb224, hb226, hb228, hb230, hb232, hb234, hb236, hb238, hb240, hb242, hb246, hb248, hb250, hb252, hb254⟩ := (hI207 82 (by decide) (by decide) : cp82 (wget w205 82))
          have hf255 : fld w205 82 4 = f82_227 := fld_of h82_253
          have hf256 : fld w205 82 5 = f82_229 := fld_of h82_253
          have hf257 : fld w205 82 7 = f82_233 := fld_of h82_253
          have hf258 : fld w205 82 10 = f82_239 := fld_of h82_253
          have hf259 : fld w205 82 14 = f82_241 := fld_of h82_253
          have hu260 : mu w205 = 2 * (fld w205 82 4 - fld w205 82 5) + min 1 (fld w205 82 7) := rfl
          have hf261 := pk215.2.2.1
          have hl262 : f82_241 ≤ 1000 := by omega
          refine xg_t (xg_aload (va := (2, 82)) rfl rfl) ?_
          refine xg_t (xg_getf (va := (2, 85)) h82_253 rfl) ?_
          refine xg_t (xg_iload (va := (0, 5)) rfl rfl) ?_
          refine xg_t (xg_dup2 rfl) ?_
          obtain ⟨g85_263, h85_264, hb265⟩ := (hI207 85 (by decide) (by decide) : cpI 7 52 4294967295 (wget w205 85))
          have h85_264 : xRow w205 85 7 52 g85_263 := h85_264
          refine xg_ialdB (n := 5) (B := 4294967295) h85_264 (hb265) xnm0 (by omega) (fun u266 hu267 he268 => ?_)
          have hl269 : u266 = u45 := by have q1 := rwv_of h85_264 (show 5 < 7 by decide); have q2 := mf218 5 (by decide); omega
          refine xg_t (xg_const) ?_
          refine xg_t (xg_iadd (u := u266) (v := 1) (z := u266 + 1) xnm0 xnm0 (by omega)) ?_
          refine xg_iastK (n := 5) (u := u266 + 1) h85_264 xnm0 xnm0 rfl (by omega) (fun w270 hr271 hb272 => ?_)
          refine xg_t (xg_aload (va := (2, 82)) rfl rfl) ?_
          refine xg_t (xg_dup rfl) ?_
          refine xg_t (xg_getf (va := (0, f82_241)) (hb272.get (by decide) h82_253) rfl) ?_
          refine xg_t (xg_const) ?_
          refine xg_t (xg_iadd (u := f82_241) (v := 1) (z := f82_241 + 1) xnm0 xnm0 (by omega)) ?_
          refine xg_putI (fl1 := [(2, 83), (2, 84), (0, f82_223), (0, f82_225), (0, f82_227), (0, f82_229), (0, f82_231), (0, f82_233), (0, f82_235), (0, f82_237), (0, f82_239), (2, 85), (2, 86), (2, 87), (0, f82_241 + 1), (2, 88), (2, 89), (2, 90), (2, 91), (2, 92), (2, 93), (2, 94), (4, f82_243), (4, f82_244), (0, f82_245), (2, 95), (2, 96), (2, 97), (2, 98), (2, 99), (2, 100), (2, 101), (2, 102), (0, f82_247), (2, 103), (2, 104), (2, 105), (2, 106), (2, 107), (2, 108), (2, 109), (0, f82_249), (0, f82_251), (2, 110), (2, 111), (2, 112), (2, 113)]) (hb272.get (by decide) h82_253) rfl rfl rfl (fun w273 hk274 hb275 => ?_)
          have hF276 : xFr [82, 85] w205 w273 := ((xFr.of (S := [82, 85]) hb272 (by decide)).tr (xFr.of (S := [82, 85]) hb275 (by decide)))
          have hA277 := FA_fr hF276 (by decide)
          have hf278 : fld w273 82 4 = f82_227 := fld_of hk274
          have hf279 : fld w273 82 5 = f82_229 := fld_of hk274
          have hf280 : fld w273 82 7 = f82_233 := fld_of hk274
          have hf281 : fld w273 82 10 = f82_239 := fld_of hk274
          have hf282 : fld w273 82 14 = f82_241 + 1 := fld_of hk274
          have hu283 : mu w273 = 2 * (fld w273 82 4 - fld w273 82 5) + min 1 (fld w273 82 7) := rfl
          have pq284 := pk215
          unfold PK PS at pq284
          have hM285 : ∀ s, s < 7 → s ≠ 5 → rwv w273 85 s = rwv w 85 s := fun s hs hn => (rwv_of (hr271.but hb275 (by decide)) hs).trans ((if_neg hn).trans ((rwv_of h85_264 hs).symm.trans (mf218 s hs)))
          have hM286 : rwv w273 85 5 = u45 + 1 := (rwv_of (hr271.but hb275 (by decide)) (by decide)).trans ((if_pos rfl).trans (by omega))
          have hM287 : ∀ s, s < 7 → rwv w273 85 s ≤ rwv w 85 s + 1 := fun s hs => by
            by_cases z : s = 5
            · subst z; omega
            · rw [hM285 s hs z]; omega
          have hO288 : ∀ j, (j < 7 ∨ 9 ≤ j) → j < 140 → rwv w273 86 j = rwv w 86 j := fun j hj hl => (rwv_fr hF276 (by decide)).trans (os216 j hj hl)
          have hl290 : FA w205 ≠ 0 ∨ u45 < 1 := rg217
          have hl291 : rwv w273 86 (7) = rwv w205 86 (7) := rwv_fr hF276 (by decide)
          have hl292 : rwv w273 86 (8) = rwv w205 86 (8) := rwv_fr hF276 (by decide)
          have hN289 : FA w273 ≠ 0 ∨ 1 ≤ u45 ∨ (1 ≤ rwv w273 86 7 ∧ rwv w273 86 7 ≤ 10 ∧ 1 ≤ rwv w273 86 8 ∧ rwv w273 86 8 ≤ 10) := by have q := nw221; omega
          have hX293 : FA w273 ≠ 0 ∨ u45 < 1 := by omega
          have hD294 : FA w273 ≠ 0 ∨ (DATA w → DATA w273) := by
            by_cases z : FA w273 ≠ 0
            · exact Or.inl z
            · exact Or.inr (fun hd => hd.s5 hM285 hK48 hM286 (hX293.resolve_left z) hO288 ((hN289.resolve_left z).resolve_left (by have := hX293.resolve_left z; omega)))
          exact xg_e ⟨w273, ⟨rfl, rfl⟩, xMnv.up (S := [85, 82]) hI207 ((xFr.of (S := [85, 82]) hb272 (by decide)).tr (xFr.of (S := [85, 82]) hb275 (by decide))) (List.forall_mem_cons.mpr ⟨(show cpI 7 52 4294967295 (wget w273 85) from ⟨_, (hr271.but hb275 (by decide)), xrb (by omega) (hb265)⟩), List.forall_mem_cons.mpr ⟨(show cp82 (wget w273 82) from ⟨f82_223, f82_225, f82_227, f82_229, f82_231, f82_233, f82_235, f82_237, f82_239, f82_241 + 1, f82_243, f82_244, f82_245, f82_247, f82_249, f82_251, hk274, hb224, hb226, hb228, hb230, hb232, hb234, hb236, hb238, hb240, by omega, hb246, hb248, hb250, hb252, by omega⟩), fun _ h => absurd h List.not_mem_nil⟩⟩), ((hF71.tr (hF208.up (by decide))).tr ((xFr.of (S := [82, 83, 85, 86, 87]) hb272 (by decide)).tr (xFr.of (S := [82, 83, 85, 86, 87]) hb275 (by decide)))), ⟨fun h => by have := pq284.1 h; omega, (show fld w273 82 10 = 0 ∨ FA w273 ≠ 0 by omega), Or.inr ⟨by have := ms222; omega, by omega, hM287⟩, hD294⟩⟩
      · refine xg_t (xg_ifT (u := f82_95) rfl xnm0 (xj_neT hc111)) ?_
        refine xg_t (xg_blk (b := [(416, 1, 0, 0, 0, 0), (417, 3, 13, 140, 96, 183)]) rfl) ?_
        refine xg_t (xg_aload (va := (2, 82)) rfl rfl) ?_
        refine xg_cVv mX12_ends (vs := []) (rest := []) (cn1 := 0) (sl1 := 0) rfl (mEnds (hI70) hj73.2.2.2) rfl h82_109 rfl rfl rfl rfl rfl rfl (fun w295 hq296 => ?_)
        obtain ⟨hI297, hF298, hx299⟩ := hq296
        clear hb80 hb82 hb84 hb86 hb88 hb90 hb92 hb94 hb96 hb98 hb102 hb104 hb106 hb108
        obtain ⟨hv300, hv301, hv302, hv303⟩ := hx299
        have pk304 : PK w69 w295 := ⟨fun _ => hv300, by omega, by omega, Or.inr hv300⟩
        have pk305 : PK w w295 := PK.tr hj73 pk304
        have os306 : ∀ j, (j < 7 ∨ 9 ≤ j) → j < 140 → rwv w295 86 j = rwv w 86 j := fun j hj hl => (rwv_fr hF298 (by decide)).trans (hj74 j hj hl)
        have rg307 : FA w295 ≠ 0 ∨ u45 < 1 := hj77.imp_left pk304.1
        have mf308 : ∀ s, s < 7 → rwv w295 85 s = rwv w 85 s := fun s hs => (rwv_fr hF298 (by decide)).trans (hj76 s hs)
        have hl309 : rwv w295 86 (7) = rwv w69 86 (7) := rwv_fr hF298 (by decide)
        have hl310 : rwv w295 86 (8) = rwv w69 86 (8) := rwv_fr hF298 (by decide)
        have nw311 : FA w295 ≠ 0 ∨ 1 ≤ u45 ∨ (1 ≤ rwv w295 86 7 ∧ rwv w295 86 7 ≤ 10 ∧ 1 ≤ rwv w295 86 8 ∧ rwv w295 86 8 ≤ 10) := by have q := hj78; have q1 := pk304.1; omega
        clear hj78
        have ms312 : mu w295 < mu w := Nat.lt_of_le_of_lt pk304.2.1 hj75
        clear hj77
        refine xg_t (xg_blk (b := [(420, 1, 0, 0, 0, 0), (421, 3, 1, 12, 11, 17), (424, 1, 2, 1, 0, 0), (425, 1, 39, 0, 0, 0), (426, 1, 10, 0, 0, 0), (427, 1, 3, 1, 0, 0), (428, 1, 11, 0, 0, 0), (429, 1, 17, 0, 0, 0), (430, 1, 0, 0, 0, 0), (431, 1, 19, 0, 0, 0), (432, 3, 1, 12, 14, 212), (435, 1, 3, 1, 0, 0), (436, 1, 11, 0, 0, 0), (437, 3, 14, 12, 14, 212), (440, 1, 12, 0, 0, 0)]) rfl) ?_
        obtain ⟨f82_313, f82_315, f82_317, f82_319, f82_321, f82_323, f82_325, f82_327, f82_329, f82_331, f82_333, f82_334, f82_335, f82_337, f82_339, f82_341, h82_343, hb314, hb316, hb318, hb320, hb322, hb324, hb326, hb328, hb330, hb332, hb336, hb338, hb340, hb342, hb344⟩ := (hI297 82 (by decide) (by decide) : cp82 (wget w295 82))
        have hf345 : fld w295 82 4 = f82_317 := fld_of h82_343
        have hf346 : fld w295 82 5 = f82_319 := fld_of h82_343
        have hf347 : fld w295 82 7 = f82_323 := fld_of h82_343
        have hf348 : fld w295 82 10 = f82_329 := fld_of h82_343
        have hf349 : fld w295 82 14 = f82_331 := fld_of h82_343
        have hu350 : mu w295 = 2 * (fld w295 82 4 - fld w295 82 5) + min 1 (fld w295 82 7) := rfl
        have hf351 := pk305.2.2.1
        have hl352 : f82_331 ≤ 1000 := by omega
        refine xg_t (xg_aload (va := (2, 82)) rfl rfl) ?_
        refine xg_t (xg_getf (va := (2, 85)) h82_343 rfl) ?_
        refine xg_t (xg_iload (va := (0, 5)) rfl rfl) ?_
        refine xg_t (xg_dup2 rfl) ?_
        obtain ⟨g85_353, h85_354, hb355⟩ := (hI297 85 (by decide) (by decide) : cpI 7 52 4294967295 (wget w295 85))
        have h85_354 : xRow w295 85 7 52 g85_353 := h85_354
        refine xg_ialdB (n := 5) (B := 4294967295) h85_354 (hb355) xnm0 (by omega) (fun u356 hu357 he358 => ?_)
        have hl359 : u356 = u45 := by have q1 := rwv_of h85_354 (show 5 < 7 by decide); have q2 := mf308 5 (by decide); omega
        refine xg_t (xg_const) ?_
        refine xg_t (xg_iadd (u := u356) (v := 1) (z := u356 + 1) xnm0 xnm0 (by omega)) ?_
        refine xg_iastK (n := 5) (u := u356 + 1) h85_354 xnm0 xnm0 rfl (by omega) (fun w360 hr361 hb362 => ?_)
        refine xg_t (xg_aload (va := (2, 82)) rfl rfl) ?_
        refine xg_t (xg_dup rfl) ?_
        refine xg_t (xg_getf (va := (0, f82_331)) (hb362.get (by decide) h82_343) rfl) ?_
        refine xg_t (xg_const) ?_
        refine xg_t (xg_iadd (u := f82_331) (v := 1) (z := f82_331 + 1) xnm0 xnm0 (by omega)) ?_
        refine xg_putI (fl1 := [(2, 83), (2, 84), (0, f82_313), (0, f82_315), (0, f82_317), (0, f82_319), (0, f82_321), (0, f82_323), (0, f82_325), (0, f82_327), (0, f82_329), (2, 85), (2, 86), (2, 87), (0, f82_331 + 1), (2, 88), (2, 89), (2, 90), (2, 91), (2, 92), (2, 93), (2, 94), (4, f82_333), (4, f82_334), (0, f82_335), (2, 95), (2, 96), (2, 97), (2, 98), (2, 99), (2, 100), (2, 101), (2, 102), (0, f82_337), (2, 103), (2, 104), (2, 105), (2, 106), (2, 107), (2, 108), (2, 109), (0, f82_339), (0, f82_341), (2, 110), (2, 111), (2, 112), (2, 113)]) (hb362.get (by decide) h82_343) rfl rfl rfl (fun w363 hk364 hb365 => ?_)
        have hF366 : xFr [82, 85] w295 w363 := ((xFr.of (S := [82, 85]) hb362 (by decide)).tr (xFr.of (S := [82, 85]) hb365 (by decide)))
        have hA367 := FA_fr hF366 (by decide)
        have hf368 : fld w363 82 4 = f82_317 := fld_of hk364
        have hf369 : fld w363 82 5 = f82_319 := fld_of hk364
        have hf370 : fld w363 82 7 = f82_323 := fld_of hk364
        have hf371 : fld w363 82 10 = f82_329 := fld_of hk364
        have hf372 : fld w363 82 14 = f82_331 + 1 := fld_of hk364
        have hu373 : mu w363 = 2 * (fld w363 82 4 - fld w363 82 5) + min 1 (fld w363 82 7) := rfl
        have pq374 := pk305
        unfold PK PS at pq374
        have hM375 : ∀ s, s < 7 → s ≠ 5 → rwv w363 85 s = rwv w 85 s := fun s hs hn => (rwv_of (hr361.but hb365 (by decide)) hs).trans ((if_neg hn).trans ((rwv_of h85_354 hs).symm.trans (mf308 s hs)))
        have hM376 : rwv w363 85 5 = u45 + 1 := (rwv_of (hr361.but hb365 (by decide)) (by decide)).trans ((if_pos rfl).trans (by omega))
        have hM377 : ∀ s, s < 7 → rwv w363 85 s ≤ rwv w 85 s + 1 := fun s hs => by
          by_cases z : s = 5
          · subst z; omega
          · rw [hM375 s hs z]; omega
        have hO378 : ∀ j, (j < 7 ∨ 9 ≤ j) → j < 140 → rwv w363 86 j = rwv w 86 j := fun j hj hl => (rwv_fr hF366 (by decide)).trans (os306 j hj hl)
        have hl380 : FA w295 ≠ 0 ∨ u45 < 1 := rg307
        have hl381 : rwv w363 86 (7) = rwv w295 86 (7) := rwv_fr hF366 (by decide)
        have hl382 : rwv w363 86 (8) = rwv w295 86 (8) := rwv_fr hF366 (by decide)
        have hN379 : FA w363 ≠ 0 ∨ 1 ≤ u45 ∨ (1 ≤ rwv w363 86 7 ∧ rwv w363 86 7 ≤ 10 ∧ 1 ≤ rwv w363 86 8 ∧ rwv w363 86 8 ≤ 10) := by have q := nw311; omega
        have hX383 : FA w363 ≠ 0 ∨ u45 < 1 := by omega
        have hD384 : FA w363 ≠ 0 ∨ (DATA w → DATA w363) := by
          by_cases z : FA w363 ≠ 0
          · exact Or.inl z
          · exact Or.inr (fun hd => hd.s5 hM375 hK48 hM376 (hX383.resolve_left z) hO378 ((hN379.resolve_left z).resolve_left (by have := hX383.resolve_left z; omega)))
        exact xg_e ⟨w363, ⟨rfl, rfl⟩, xMnv.up (S := [85, 82]) hI297 ((xFr.of (S := [85, 82]) hb362 (by decide)).tr (xFr.of (S := [85, 82]) hb365 (by decide))) (List.forall_mem_cons.mpr ⟨(show cpI 7 52 4294967295 (wget w363 85) from ⟨_, (hr361.but hb365 (by decide)), xrb (by omega) (hb355)⟩), List.forall_mem_cons.mpr ⟨(show cp82 (wget w363 82) from ⟨f82_313, f82_315, f82_317, f82_319, f82_321, f82_323, f82_325, f82_327, f82_329, f82_331 + 1, f82_333, f82_334, f82_335, f82_337, f82_339, f82_341, hk364, hb314, hb316, hb318, hb320, hb322, hb324, hb326, hb328, hb330, by omega, hb336, hb338, hb340, hb342, by omega⟩), fun _ h => absurd h List.not_mem_nil⟩⟩), ((hF71.tr (hF298.up (by decide))).tr ((xFr.of (S := [82, 83, 85, 86, 87]) hb362 (by decide)).tr (xFr.of (S := [82, 83, 85, 86, 87]) hb365 (by decide)))), ⟨fun h => by have := pq374.1 h; omega, (show fld w363 82 10 = 0 ∨ FA w363 ≠ 0 by omega), Or.inr ⟨by have := ms312; omega, by omega, hM377⟩, hD384⟩⟩
    refine xg_t (xg_iload (va := (0, 5)) rfl rfl) ?_
    refine xg_t (xg_swt (ks := [(0, 108), (1, 116), (2, 180), (3, 221), (4, 273), (5, 326)]) (u := 5) (z := 326) rfl rfl rfl xnm0 (xsw_n (by omega) (xsw_n (by omega) (xsw_n (by omega) (xsw_n (by omega) (xsw_n (by omega) (xsw_y rfl))))))) ?_
    refine xg_t (xg_blk (b := [(326, 1, 3, 0, 0, 0), (327, 2, 15, 4, 0, 0)]) rfl) ?_
    refine xg_t (xg_const) ?_
    refine xg_t (xg_istore (l1 := [(3, (0, u45)), (2, (0, at_)), (1, (0, 5)), (0, (2, 82))]) rfl rfl rfl) ?_
    refine xg_t (xg_blk (b := [(329, 2, 2, 4, 0, 0), (331, 1, 3, 2, 0, 0), (332, 3, 6, 359, 3, 0), (335, 1, 0, 0, 0, 0), (336, 1, 2, 1, 0, 0), (337, 1, 2, 3, 0, 0), (338, 2, 4, 7, 0, 0), (340, 2, 2, 4, 0, 0), (342, 1, 11, 0, 0, 0), (343, 1, 0, 0, 0, 0), (344, 1, 3, 1, 0, 0), (345, 2, 4, 10, 0, 0), (347, 3, 13, 199, 96, 196), (350, 3, 13, 211, 96, 200), (353, 3, 9, 4, 1, 0), (356, 3, 8, 329, 0, 0)]) rfl) ?_
    refine xg_t (xg_iload (va := (0, 0)) rfl rfl) ?_
    refine xg_t (xg_const) ?_
    refine xg_t (xg_icF (u := 0) (v := 2) rfl xnm0 xnm0 (by decide)) ?_
    refine xg_t (xg_aload (va := (2, 82)) rfl rfl) ?_
    refine xg_t (xg_iload (va := (0, 5)) rfl rfl) ?_
    refine xg_t (xg_iload (va := (0, u45)) rfl rfl) ?_
    refine xg_t (xg_bip) ?_
    refine xg_t (xg_iload (va := (0, 0)) rfl rfl) ?_
    refine xg_t (xg_iadd (u := 7) (v := 0) (z := 7) xnm0 xnm0 (by decide)) ?_
    refine xg_t (xg_aload (va := (2, 82)) rfl rfl) ?_
    refine xg_t (xg_const) ?_
    refine xg_t (xg_bip) ?_
    obtain ⟨f82_385, f82_387, f82_389, f82_391, f82_393, f82_395, f82_397, f82_399, f82_401, f82_403, f82_405, f82_406, f82_407, f82_409, f82_411, f82_413, h82_415, hb386, hb388, hb390, hb392, hb394, hb396, hb398, hb400, hb402, hb404, hb408, hb410, hb412, hb414, hb416⟩ := (hI54 82 (by decide) (by decide) : cp82 (wget w52 82))
    refine xg_cVi mX12_numbered (vs := [(0, 1), (0, 10)]) (rest := [(0, 7), (0, u45), (0, 5), (2, 82)]) (cn1 := 0) (sl1 := 0) rfl (mNumbered (hI54) (by omega) (by omega) pk64.2.2.2) rfl h82_415 rfl rfl rfl rfl rfl rfl (fun n421 w417 hq418 => ?_)
    obtain ⟨hn422, hI419, hF420⟩ := hq418
    clear hb386 hb388 hb390 hb392 hb394 hb396 hb398 hb400 hb402 hb404 hb408 hb410 hb412 hb414
    obtain ⟨hn423, hn424, hn425⟩ := hn422
    have pk426 : PK w w417 := PK.tr pk64 hn424
    have os427 : ∀ j, (j < 7 ∨ 9 ≤ j) → j < 140 → rwv w417 86 j = rwv w 86 j := fun j hj hl => (rwv_fr hF420 (by decide)).trans (os65 j hj hl)
    have mf428 : ∀ s, s < 7 → rwv w417 85 s = rwv w 85 s := fun s hs => (rwv_fr hF420 (by decide)).trans (mf66 s hs)
    have ms429 : mu w417 < mu w := Nat.lt_of_le_of_lt hn424.2.1 ms67
    obtain ⟨f82_430, f82_432, f82_434, f82_436, f82_438, f82_440, f82_442, f82_444, f82_446, f82_448, f82_450, f82_451, f82_452, f82_454, f82_456, f82_458, h82_460, hb431, hb433, hb435, hb437, hb439, hb441, hb443, hb445, hb447, hb449, hb453, hb455, hb457, hb459, hb461⟩ := (hI419 82 (by decide) (by decide) : cp82 (wget w417 82))
    refine xg_cVv mX12_puts (vs := [(0, 5), (0, u45), (0, 7), (0, n421)]) (rest := []) (cn1 := 0) (sl1 := 0) rfl (mPuts5 (hI419) (by omega) (by omega) (by omega) (fun _ => by omega)) rfl h82_460 rfl rfl rfl rfl rfl rfl (fun w462 hq463 => ?_)
    obtain ⟨hI464, hF465, hx466⟩ := hq463
    obtain ⟨hp467, hp468⟩ := hx466
    have pk469 : PK w w462 := PK.tr pk426 (PK.fr hF465 (by decide) (by decide) pk426.2.2.2)
    have os470 : ∀ j, (j < 7 ∨ 9 ≤ j) → j < 140 → rwv w462 86 j = rwv w 86 j := fun j hj hl => (hp468 j (by omega) hl).trans (os427 j hj hl)
    have rg471 : FA w462 ≠ 0 ∨ (1 ≤ n421 ∧ n421 ≤ 10) := hn425.imp_left (PK.fr hF465 (by decide) (by decide) pk426.2.2.2).1
    have mf472 : ∀ s, s < 7 → rwv w462 85 s = rwv w 85 s := fun s hs => (rwv_fr hF465 (by decide)).trans (mf428 s hs)
    have ms473 : mu w462 < mu w := Nat.lt_of_le_of_lt (PK.fr hF465 (by decide) (by decide) pk426.2.2.2).2.1 ms429
    clear hn425
    refine xg_t (xg_iinc (u := 0) (z := 1) (l1 := [(3, (0, u45)), (2, (0, at_)), (1, (0, 5)), (0, (2, 82))]) rfl rfl (by decide) rfl) ?_
    refine xg_t (xg_goto) ?_
    refine xg_t (xg_blk (b := [(329, 2, 2, 4, 0, 0), (331, 1, 3, 2, 0, 0), (332, 3, 6, 359, 3, 0), (335, 1, 0, 0, 0, 0), (336, 1, 2, 1, 0, 0), (337, 1, 2, 3, 0, 0), (338, 2, 4, 7, 0, 0), (340, 2, 2, 4, 0, 0), (342, 1, 11, 0, 0, 0), (343, 1, 0, 0, 0, 0), (344, 1, 3, 1, 0, 0), (345, 2, 4, 10, 0, 0), (347, 3, 13, 199, 96, 196), (350, 3, 13, 211, 96, 200), (353, 3, 9, 4, 1, 0), (356, 3, 8, 329, 0, 0)]) rfl) ?_
    refine xg_t (xg_iload (va := (0, 1)) rfl rfl) ?_
    refine xg_t (xg_const) ?_
    refine xg_t (xg_icF (u := 1) (v := 2) rfl xnm0 xnm0 (by decide)) ?_
    refine xg_t (xg_aload (va := (2, 82)) rfl rfl) ?_
    refine xg_t (xg_iload (va := (0, 5)) rfl rfl) ?_
    refine xg_t (xg_iload (va := (0, u45)) rfl rfl) ?_
    refine xg_t (xg_bip) ?_
    refine xg_t (xg_iload (va := (0, 1)) rfl rfl) ?_
    refine xg_t (xg_iadd (u := 7) (v := 1) (z := 8) xnm0 xnm0 (by decide)) ?_
    refine xg_t (xg_aload (va := (2, 82)) rfl rfl) ?_
    refine xg_t (xg_const) ?_
    refine xg_t (xg_bip) ?_
    refine xg_cVi mX12_numbered (vs := [(0, 1), (0, 10)]) (rest := [(0, 8), (0, u45), (0, 5), (2, 82)]) (cn1 := 0) (sl1 := 0) rfl (mNumbered (hI464) (by omega) (by omega) pk469.2.2.2) rfl (hF465.get (by decide) h82_460) rfl rfl rfl rfl rfl rfl (fun n478 w474 hq475 => ?_)
    obtain ⟨hn479, hI476, hF477⟩ := hq475
    clear hb431 hb433 hb435 hb437 hb439 hb441 hb443 hb445 hb447 hb449 hb453 hb455 hb457 hb459
    obtain ⟨hn480, hn481, hn482⟩ := hn479
    have pk483 : PK w w474 := PK.tr pk469 hn481
    have os484 : ∀ j, (j < 7 ∨ 9 ≤ j) → j < 140 → rwv w474 86 j = rwv w 86 j := fun j hj hl => (rwv_fr hF477 (by decide)).trans (os470 j hj hl)
    have ix485 : u45 < 1 → rwv w474 86 (7) = n421 := fun h => (rwv_fr hF477 (by decide)).trans (hp467 h)
    have rg486 : FA w474 ≠ 0 ∨ (1 ≤ n421 ∧ n421 ≤ 10) := rg471.imp_left hn481.1
    have mf487 : ∀ s, s < 7 → rwv w474 85 s = rwv w 85 s := fun s hs => (rwv_fr hF477 (by decide)).trans (mf472 s hs)
    have ms488 : mu w474 < mu w := Nat.lt_of_le_of_lt hn481.2.1 ms473
    clear hp467 rg471
    obtain ⟨f82_489, f82_491, f82_493, f82_495, f82_497, f82_499, f82_501, f82_503, f82_505, f82_507, f82_509, f82_510, f82_511, f82_513, f82_515, f82_517, h82_519, hb490, hb492, hb494, hb496, hb498, hb500, hb502, hb504, hb506, hb508, hb512, hb514, hb516, hb518, hb520⟩ := (hI476 82 (by decide) (by decide) : cp82 (wget w474 82))
    refine xg_cVv mX12_puts (vs := [(0, 5), (0, u45), (0, 8), (0, n478)]) (rest := []) (cn1 := 0) (sl1 := 0) rfl (mPuts5 (hI476) (by omega) (by omega) (by omega) (fun _ => by omega)) rfl h82_519 rfl rfl rfl rfl rfl rfl (fun w521 hq522 => ?_)
    obtain ⟨hI523, hF524, hx525⟩ := hq522
    obtain ⟨hp526, hp527⟩ := hx525
    have pk528 : PK w w521 := PK.tr pk483 (PK.fr hF524 (by decide) (by decide) pk483.2.2.2)
    have os529 : ∀ j, (j < 7 ∨ 9 ≤ j) → j < 140 → rwv w521 86 j = rwv w 86 j := fun j hj hl => (hp527 j (by omega) hl).trans (os484 j hj hl)
    have ix530 : u45 < 1 → rwv w521 86 (7) = n421 := fun h => (hp527 _ (by omega) (by omega)).trans (ix485 h)
    have rg531 : FA w521 ≠ 0 ∨ (1 ≤ n421 ∧ n421 ≤ 10) := rg486.imp_left (PK.fr hF524 (by decide) (by decide) pk483.2.2.2).1
    have rg532 : FA w521 ≠ 0 ∨ (1 ≤ n478 ∧ n478 ≤ 10) := hn482.imp_left (PK.fr hF524 (by decide) (by decide) pk483.2.2.2).1
    have mf533 : ∀ s, s < 7 → rwv w521 85 s = rwv w 85 s := fun s hs => (rwv_fr hF524 (by decide)).trans (mf487 s hs)
    have ms534 : mu w521 < mu w := Nat.lt_of_le_of_lt (PK.fr hF524 (by decide) (by decide) pk483.2.2.2).2.1 ms488
    clear ix485 rg486 hn482
    refine xg_t (xg_iinc (u := 1) (z := 2) (l1 := [(3, (0, u45)), (2, (0, at_)), (1, (0, 5)), (0, (2, 82))]) rfl rfl (by decide) rfl) ?_
    refine xg_t (xg_goto) ?_
    refine xg_t (xg_blk (b := [(329, 2, 2, 4, 0, 0), (331, 1, 3, 2, 0, 0), (332, 3, 6, 359, 3, 0), (335, 1, 0, 0, 0, 0), (336, 1, 2, 1, 0, 0), (337, 1, 2, 3, 0, 0), (338, 2, 4, 7, 0, 0), (340, 2, 2, 4, 0, 0), (342, 1, 11, 0, 0, 0), (343, 1, 0, 0, 0, 0), (344, 1, 3, 1, 0, 0), (345, 2, 4, 10, 0, 0), (347, 3, 13, 199, 96, 196), (350, 3, 13, 211, 96, 200), (353, 3, 9, 4, 1, 0), (356, 3, 8, 329, 0, 0)]) rfl) ?_
    refine xg_t (xg_iload (va := (0, 2)) rfl rfl) ?_
    refine xg_t (xg_const) ?_
    refine xg_t (xg_icT (u := 2) (v := 2) rfl xnm0 xnm0 (by decide)) ?_
    refine xg_t (xg_blk (b := [(359, 3, 8, 394, 0, 0)]) rfl) ?_
    refine xg_t (xg_goto) ?_
    refine xg_t (xg_drop (l1 := [(0, (2, 82)), (1, (0, 5)), (3, (0, u45))]) (List.forall_mem_cons.mpr ⟨List.mem_cons_of_mem _ (List.mem_cons_of_mem _ (List.mem_cons_of_mem _ (List.mem_cons_of_mem _ (List.mem_cons_self)))), List.forall_mem_cons.mpr ⟨List.mem_cons_of_mem _ (List.mem_cons_of_mem _ (List.mem_cons_of_mem _ (List.mem_cons_self))), List.forall_mem_cons.mpr ⟨List.mem_cons_of_mem _ (List.mem_cons_self), fun _ h => absurd h List.not_mem_nil⟩⟩⟩)) ?_
    have hX535 : FA w521 ≠ 0 ∨ u45 < 1 := Or.inr (by omega)
    have hN536 : FA w521 ≠ 0 ∨ 1 ≤ u45 ∨ (1 ≤ rwv w521 86 7 ∧ rwv w521 86 7 ≤ 10 ∧ 1 ≤ rwv w521 86 8 ∧ rwv w521 86 8 ≤ 10) := by
      have hl537 : u45 < 1 → rwv w521 86 (7) = n421 := ix530
      have hl538 : u45 < 1 → rwv w521 86 (8) = n478 := hp526
      have hl539 := rg531
      have hl540 := rg532
      omega
    exact jn68 w521 (hI523) ((((((hF55.up (by decide)).tr (hF420.up (by decide))).tr (hF465.up (by decide))).tr (hF477.up (by decide))).tr (hF524.up (by decide)))) (⟨pk528, os529, ms534, mf533, hX535, hN536⟩)
  · refine xg_t (xg_icF (u := u45) (v := 1) rfl xnm0 xnm0 (xj_ltF (by omega) (by omega))) ?_
    refine xg_t (xg_aload (va := (2, 82)) rfl rfl) ?_
    refine xg_t (xg_const) ?_
    refine xg_t (xg_iload (va := (0, at_)) rfl rfl) ?_
    refine xg_cVv mX12_also (vs := [(0, 3), (0, at_)]) (rest := []) (cn1 := 0) (sl1 := 0) rfl (mAlso (hI) (by omega) (by omega) (by omega) (PK.rf hps).2.2.2) rfl h82_31 rfl rfl rfl rfl rfl rfl (fun w541 hq542 => ?_)
    obtain ⟨hI543, hF544, hx545⟩ := hq542
    have pk546 : PK w w541 := ⟨fun _ => hx545, Nat.le_of_eq (mu_fr hF544 (by decide)), fld_fr hF544 (by decide), Or.inr hx545⟩
    have pk547 : PK w w541 := PK.tr (PK.rf hps) pk546
    have os548 : ∀ j, (j < 7 ∨ 9 ≤ j) → j < 140 → rwv w541 86 j = rwv w 86 j := fun j hj hl => (rwv_fr hF544 (by decide)).trans ((fun j _ _ => rfl) j hj hl)
    have mf549 : ∀ s, s < 7 → rwv w541 85 s = rwv w 85 s := fun s hs => (rwv_fr hF544 (by decide)).trans ((fun _ _ => rfl) s hs)
    have hf550 := fld_fr (c := 82) (j := 7) hF544 (by decide)
    refine xg_t (xg_blk (b := [(64, 1, 0, 0, 0, 0), (65, 3, 13, 110, 96, 190), (68, 1, 2, 1, 0, 0), (69, 39, 33, 362, 0, 9)]) rfl) ?_
    refine xg_t (xg_aload (va := (2, 82)) rfl rfl) ?_
    refine xg_cVv mX12_advance (vs := []) (rest := []) (cn1 := 0) (sl1 := 0) rfl (mAdvance (hI543)) rfl (hF544.get (by decide) h82_31) rfl rfl rfl rfl rfl rfl (fun w551 hq552 => ?_)
    obtain ⟨hI553, hF554, hx555⟩ := hq552
    clear hb2 hb4 hb6 hb8 hb10 hb12 hb14 hb16 hb18 hb20 hb24 hb26 hb28 hb30
    obtain ⟨hv556, hv557, hv558, hv559⟩ := hx555
    have hf561 := FA_fr hF554 (by decide)
    have hs562 := pk547.2.2.2
    unfold PS at hs562
    have pk560 : PK w541 w551 := ⟨fun _ => by omega, hv556, hv559, (show fld w551 82 10 = 0 ∨ FA w551 ≠ 0 by omega)⟩
    clear hs562
    have pk563 : PK w w551 := PK.tr pk547 pk560
    have os564 : ∀ j, (j < 7 ∨ 9 ≤ j) → j < 140 → rwv w551 86 j = rwv w 86 j := fun j hj hl => (rwv_fr hF554 (by decide)).trans (os548 j hj hl)
    have rg565 : FA w551 ≠ 0 ∨ 0 = 1 := (Or.inl hx545 : FA w541 ≠ 0 ∨ 0 = 1).imp_left pk560.1
    have mf566 : ∀ s, s < 7 → rwv w551 85 s = rwv w 85 s := fun s hs => (rwv_fr hF554 (by decide)).trans (mf549 s hs)
    have ms567 : mu w551 < mu w := Nat.lt_of_lt_of_le (hv557 (by omega)) pk547.2.1
    clear hv557
    have jn568 : ∀ (w569 : List (List xE)), xMnv w569 → xFr [82, 83, 85, 86, 87] w w569 → (PK w w569 ∧ (∀ j, (j < 7 ∨ 9 ≤ j) → j < 140 → rwv w569 86 j = rwv w 86 j) ∧ mu w569 < mu w ∧ (∀ s, s < 7 → rwv w569 85 s = rwv w 85 s) ∧ (FA w569 ≠ 0 ∨ u45 < 1) ∧ (FA w569 ≠ 0 ∨ 1 ≤ u45 ∨ (1 ≤ rwv w569 86 7 ∧ rwv w569 86 7 ≤ 10 ∧ 1 ≤ rwv w569 86 8 ∧ rwv w569 86 8 ≤ 10))) → xTo (d + 7) mX12_aLine (394, [], [(0, (2, 82)), (1, (0, 5)), (3, (0, u45))], [], (w569, bd, fc, 0, 0, rr)) (fun φ => ∃ w', xEnd 0 [] (w', bd, fc, 0, 0, rr) φ ∧ xMnv w' ∧ xFr [82, 83, 85, 86, 87] w w' ∧ ((FA w ≠ 0 → FA w' ≠ 0) ∧ PS w' ∧ ((fld w' 82 10 = 1 ∧ mu w' = mu w ∧ fld w' 82 14 = fld w 82 14 ∧ ∀ s, s < 7 → rwv w' 85 s = rwv w 85 s) ∨ (mu w' < mu w ∧ fld w' 82 14 = fld w 82 14 + 1 ∧ ∀ s, s < 7 → rwv w' 85 s ≤ rwv w 85 s + 1)) ∧ (FA w' ≠ 0 ∨ (DATA w → DATA w')))) := by
      intro w569 hI570 hF571 he572
      obtain ⟨hj573, hj574, hj575, hj576, hj577, hj578⟩ := he572
      refine xg_t (xg_blk (b := [(394, 1, 0, 0, 0, 0), (395, 3, 1, 12, 10, 180), (398, 3, 7, 416, 1, 0), (401, 1, 0, 0, 0, 0), (402, 3, 1, 12, 7, 151), (405, 1, 3, 2, 0, 0), (406, 3, 6, 416, 1, 0), (409, 1, 0, 0, 0, 0), (410, 3, 13, 110, 96, 190), (413, 3, 8, 420, 0, 0)]) rfl) ?_
      refine xg_t (xg_aload (va := (2, 82)) rfl rfl) ?_
      obtain ⟨f82_579, f82_581, f82_583, f82_585, f82_587, f82_589, f82_591, f82_593, f82_595, f82_597, f82_599, f82_600, f82_601, f82_603, f82_605, f82_607, h82_609, hb580, hb582, hb584, hb586, hb588, hb590, hb592, hb594, hb596, hb598, hb602, hb604, hb606, hb608, hb610⟩ := (hI570 82 (by decide) (by decide) : cp82 (wget w569 82))
      refine xg_t (xg_getf (va := (0, f82_595)) h82_609 rfl) ?_
      by_cases hc611 : f82_595 = 0
      · refine xg_t (xg_ifF (u := f82_595) rfl xnm0 (xj_neF hc611)) ?_
        refine xg_t (xg_aload (va := (2, 82)) rfl rfl) ?_
        refine xg_t (xg_getf (va := (0, f82_589)) h82_609 rfl) ?_
        refine xg_t (xg_const) ?_
        by_cases hc612 : f82_589 = 2
        · refine xg_t (xg_icF (u := f82_589) (v := 2) rfl xnm0 xnm0 (xj_neF hc612)) ?_
          refine xg_t (xg_aload (va := (2, 82)) rfl rfl) ?_
          refine xg_cVv mX12_advance (vs := []) (rest := []) (cn1 := 0) (sl1 := 0) rfl (mAdvance (hI570)) rfl h82_609 rfl rfl rfl rfl rfl rfl (fun w613 hq614 => ?_)
          obtain ⟨hI615, hF616, hx617⟩ := hq614
          clear hb580 hb582 hb584 hb586 hb588 hb590 hb592 hb594 hb596 hb598 hb602 hb604 hb606 hb608
          obtain ⟨hv618, hv619, hv620, hv621⟩ := hx617
          have hf623 := FA_fr hF616 (by decide)
          have hs624 := hj573.2.2.2
          unfold PS at hs624
          have pk622 : PK w569 w613 := ⟨fun _ => by omega, hv618, hv621, (show fld w613 82 10 = 0 ∨ FA w613 ≠ 0 by omega)⟩
          clear hs624
          clear hv619
          have pk625 : PK w w613 := PK.tr hj573 pk622
          have os626 : ∀ j, (j < 7 ∨ 9 ≤ j) → j < 140 → rwv w613 86 j = rwv w 86 j := fun j hj hl => (rwv_fr hF616 (by decide)).trans (hj574 j hj hl)
          have rg627 : FA w613 ≠ 0 ∨ u45 < 1 := hj577.imp_left pk622.1
          have mf628 : ∀ s, s < 7 → rwv w613 85 s = rwv w 85 s := fun s hs => (rwv_fr hF616 (by decide)).trans (hj576 s hs)
          have hl629 : rwv w613 86 (7) = rwv w569 86 (7) := rwv_fr hF616 (by decide)
          have hl630 : rwv w613 86 (8) = rwv w569 86 (8) := rwv_fr hF616 (by decide)
          have nw631 : FA w613 ≠ 0 ∨ 1 ≤ u45 ∨ (1 ≤ rwv w613 86 7 ∧ rwv w613 86 7 ≤ 10 ∧ 1 ≤ rwv w613 86 8 ∧ rwv w613 86 8 ≤ 10) := by have q := hj578; have q1 := pk622.1; omega
          clear hj578
          have ms632 : mu w613 < mu w := Nat.lt_of_le_of_lt pk622.2.1 hj575
          clear hj577
          refine xg_t (xg_goto) ?_
          refine xg_t (xg_blk (b := [(420, 1, 0, 0, 0, 0), (421, 3, 1, 12, 11, 17), (424, 1, 2, 1, 0, 0), (425, 1, 39, 0, 0, 0), (426, 1, 10, 0, 0, 0), (427, 1, 3, 1, 0, 0), (428, 1, 11, 0, 0, 0), (429, 1, 17, 0, 0, 0), (430, 1, 0, 0, 0, 0), (431, 1, 19, 0, 0, 0), (432, 3, 1, 12, 14, 212), (435, 1, 3, 1, 0, 0), (436, 1, 11, 0, 0, 0), (437, 3, 14, 12, 14, 212), (440, 1, 12, 0, 0, 0)]) rfl) ?_
          obtain ⟨f82_633, f82_635, f82_637, f82_639, f82_641, f82_643, f82_645, f82_647, f82_649, f82_651, f82_653, f82_654, f82_655, f82_657, f82_659, f82_661, h82_663, hb634, hb636, hb638, hb640, hb642, hb644, hb646, hb648, hb650, hb652, hb656, hb658, hb660, hb662, hb664⟩ := (hI615 82 (by decide) (by decide) : cp82 (wget w613 82))
          have hf665 : fld w613 82 4 = f82_637 := fld_of h82_663
          have hf666 : fld w613 82 5 = f82_639 := fld_of h82_663
          have hf667 : fld w613 82 7 = f82_643 := fld_of h82_663
          have hf668 : fld w613 82 10 = f82_649 := fld_of h82_663
          have hf669 : fld w613 82 14 = f82_651 := fld_of h82_663
          have hu670 : mu w613 = 2 * (fld w613 82 4 - fld w613 82 5) + min 1 (fld w613 82 7) := rfl
          have hf671 := pk625.2.2.1
          have hl672 : f82_651 ≤ 1000 := by omega
          refine xg_t (xg_aload (va := (2, 82)) rfl rfl) ?_
          refine xg_t (xg_getf (va := (2, 85)) h82_663 rfl) ?_
          refine xg_t (xg_iload (va := (0, 5)) rfl rfl) ?_
          refine xg_t (xg_dup2 rfl) ?_
          obtain ⟨g85_673, h85_674, hb675⟩ := (hI615 85 (by decide) (by decide) : cpI 7 52 4294967295 (wget w613 85))
          have h85_674 : xRow w613 85 7 52 g85_673 := h85_674
          refine xg_ialdB (n := 5) (B := 4294967295) h85_674 (hb675) xnm0 (by omega) (fun u676 hu677 he678 => ?_)
          have hl679 : u676 = u45 := by have q1 := rwv_of h85_674 (show 5 < 7 by decide); have q2 := mf628 5 (by decide); omega
          refine xg_t (xg_const) ?_
          refine xg_t (xg_iadd (u := u676) (v := 1) (z := u676 + 1) xnm0 xnm0 (by omega)) ?_
          refine xg_iastK (n := 5) (u := u676 + 1) h85_674 xnm0 xnm0 rfl (by omega) (fun w680 hr681 hb682 => ?_)
          refine xg_t (xg_aload (va := (2, 82)) rfl rfl) ?_
          refine xg_t (xg_dup rfl) ?_
          refine xg_t (xg_getf (va := (0, f82_651)) (hb682.get (by decide) h82_663) rfl) ?_
          refine xg_t (xg_const) ?_
          refine xg_t (xg_iadd (u := f82_651) (v := 1) (z := f82_651 + 1) xnm0 xnm0 (by omega)) ?_
          refine xg_putI (fl1 := [(2, 83), (2, 84), (0, f82_633), (0, f82_635), (0, f82_637), (0, f82_639), (0, f82_641), (0, f82_643), (0, f82_645), (0, f82_647), (0, f82_649), (2, 85), (2, 86), (2, 87), (0, f82_651 + 1), (2, 88), (2, 89), (2, 90), (2, 91), (2, 92), (2, 93), (2, 94), (4, f82_653), (4, f82_654), (0, f82_655), (2, 95), (2, 96), (2, 97), (2, 98), (2, 99), (2, 100), (2, 101), (2, 102), (0, f82_657), (2, 103), (2, 104), (2, 105), (2, 106), (2, 107), (2, 108), (2, 109), (0, f82_659), (0, f82_661), (2, 110), (2, 111), (2, 112), (2, 113)]) (hb682.get (by decide) h82_663) rfl rfl rfl (fun w683 hk684 hb685 => ?_)
          have hF686 : xFr [82, 85] w613 w683 := ((xFr.of (S := [82, 85]) hb682 (by decide)).tr (xFr.of (S := [82, 85]) hb685 (by decide)))
          have hA687 := FA_fr hF686 (by decide)
          have hf688 : fld w683 82 4 = f82_637 := fld_of hk684
          have hf689 : fld w683 82 5 = f82_639 := fld_of hk684
          have hf690 : fld w683 82 7 = f82_643 := fld_of hk684
          have hf691 : fld w683 82 10 = f82_649 := fld_of hk684
          have hf692 : fld w683 82 14 = f82_651 + 1 := fld_of hk684
          have hu693 : mu w683 = 2 * (fld w683 82 4 - fld w683 82 5) + min 1 (fld w683 82 7) := rfl
          have pq694 := pk625
          unfold PK PS at pq694
          have hM695 : ∀ s, s < 7 → s ≠ 5 → rwv w683 85 s = rwv w 85 s := fun s hs hn => (rwv_of (hr681.but hb685 (by decide)) hs).trans ((if_neg hn).trans ((rwv_of h85_674 hs).symm.trans (mf628 s hs)))
          have hM696 : rwv w683 85 5 = u45 + 1 := (rwv_of (hr681.but hb685 (by decide)) (by decide)).trans ((if_pos rfl).trans (by omega))
          have hM697 : ∀ s, s < 7 → rwv w683 85 s ≤ rwv w 85 s + 1 := fun s hs => by
            by_cases z : s = 5
            · subst z; omega
            · rw [hM695 s hs z]; omega
          have hO698 : ∀ j, (j < 7 ∨ 9 ≤ j) → j < 140 → rwv w683 86 j = rwv w 86 j := fun j hj hl => (rwv_fr hF686 (by decide)).trans (os626 j hj hl)
          have hl700 : FA w613 ≠ 0 ∨ u45 < 1 := rg627
          have hl701 : rwv w683 86 (7) = rwv w613 86 (7) := rwv_fr hF686 (by decide)
          have hl702 : rwv w683 86 (8) = rwv w613 86 (8) := rwv_fr hF686 (by decide)
          have hN699 : FA w683 ≠ 0 ∨ 1 ≤ u45 ∨ (1 ≤ rwv w683 86 7 ∧ rwv w683 86 7 ≤ 10 ∧ 1 ≤ rwv w683 86 8 ∧ rwv w683 86 8 ≤ 10) := by have q := nw631; omega
          have hX703 : FA w683 ≠ 0 ∨ u45 < 1 := by omega
          have hD704 : FA w683 ≠ 0 ∨ (DATA w → DATA w683) := by
            by_cases z : FA w683 ≠ 0
            · exact Or.inl z
            · exact Or.inr (fun hd => hd.s5 hM695 hK48 hM696 (hX703.resolve_left z) hO698 ((hN699.resolve_left z).resolve_left (by have := hX703.resolve_left z; omega)))
          exact xg_e ⟨w683, ⟨rfl, rfl⟩, xMnv.up (S := [85, 82]) hI615 ((xFr.of (S := [85, 82]) hb682 (by decide)).tr (xFr.of (S := [85, 82]) hb685 (by decide))) (List.forall_mem_cons.mpr ⟨(show cpI 7 52 4294967295 (wget w683 85) from ⟨_, (hr681.but hb685 (by decide)), xrb (by omega) (hb675)⟩), List.forall_mem_cons.mpr ⟨(show cp82 (wget w683 82) from ⟨f82_633, f82_635, f82_637, f82_639, f82_641, f82_643, f82_645, f82_647, f82_649, f82_651 + 1, f82_653, f82_654, f82_655, f82_657, f82_659, f82_661, hk684, hb634, hb636, hb638, hb640, hb642, hb644, hb646, hb648, hb650, by omega, hb656, hb658, hb660, hb662, by omega⟩), fun _ h => absurd h List.not_mem_nil⟩⟩), ((hF571.tr (hF616.up (by decide))).tr ((xFr.of (S := [82, 83, 85, 86, 87]) hb682 (by decide)).tr (xFr.of (S := [82, 83, 85, 86, 87]) hb685 (by decide)))), ⟨fun h => by have := pq694.1 h; omega, (show fld w683 82 10 = 0 ∨ FA w683 ≠ 0 by omega), Or.inr ⟨by have := ms632; omega, by omega, hM697⟩, hD704⟩⟩
        · refine xg_t (xg_icT (u := f82_589) (v := 2) rfl xnm0 xnm0 (xj_neT hc612)) ?_
          refine xg_t (xg_blk (b := [(416, 1, 0, 0, 0, 0), (417, 3, 13, 140, 96, 183)]) rfl) ?_
          refine xg_t (xg_aload (va := (2, 82)) rfl rfl) ?_
          refine xg_cVv mX12_ends (vs := []) (rest := []) (cn1 := 0) (sl1 := 0) rfl (mEnds (hI570) hj573.2.2.2) rfl h82_609 rfl rfl rfl rfl rfl rfl (fun w705 hq706 => ?_)
          obtain ⟨hI707, hF708, hx709⟩ := hq706
          clear hb580 hb582 hb584 hb586 hb588 hb590 hb592 hb594 hb596 hb598 hb602 hb604 hb606 hb608
          obtain ⟨hv710, hv711, hv712, hv713⟩ := hx709
          have pk714 : PK w569 w705 := ⟨fun _ => hv710, by omega, by omega, Or.inr hv710⟩
          have pk715 : PK w w705 := PK.tr hj573 pk714
          have os716 : ∀ j, (j < 7 ∨ 9 ≤ j) → j < 140 → rwv w705 86 j = rwv w 86 j := fun j hj hl => (rwv_fr hF708 (by decide)).trans (hj574 j hj hl)
          have rg717 : FA w705 ≠ 0 ∨ u45 < 1 := hj577.imp_left pk714.1
          have mf718 : ∀ s, s < 7 → rwv w705 85 s = rwv w 85 s := fun s hs => (rwv_fr hF708 (by decide)).trans (hj576 s hs)
          have hl719 : rwv w705 86 (7) = rwv w569 86 (7) := rwv_fr hF708 (by decide)
          have hl720 : rwv w705 86 (8) = rwv w569 86 (8) := rwv_fr hF708 (by decide)
          have nw721 : FA w705 ≠ 0 ∨ 1 ≤ u45 ∨ (1 ≤ rwv w705 86 7 ∧ rwv w705 86 7 ≤ 10 ∧ 1 ≤ rwv w705 86 8 ∧ rwv w705 86 8 ≤ 10) := by have q := hj578; have q1 := pk714.1; omega
          clear hj578
          have ms722 : mu w705 < mu w := Nat.lt_of_le_of_lt pk714.2.1 hj575
          clear hj577
          refine xg_t (xg_blk (b := [(420, 1, 0, 0, 0, 0), (421, 3, 1, 12, 11, 17), (424, 1, 2, 1, 0, 0), (425, 1, 39, 0, 0, 0), (426, 1, 10, 0, 0, 0), (427, 1, 3, 1, 0, 0), (428, 1, 11, 0, 0, 0), (429, 1, 17, 0, 0, 0), (430, 1, 0, 0, 0, 0), (431, 1, 19, 0, 0, 0), (432, 3, 1, 12, 14, 212), (435, 1, 3, 1, 0, 0), (436, 1, 11, 0, 0, 0), (437, 3, 14, 12, 14, 212), (440, 1, 12, 0, 0, 0)]) rfl) ?_
          obtain ⟨f82_723, f82_725, f82_727, f82_729, f82_731, f82_733, f82_735, f82_737, f82_739, f82_741, f82_743, f82_744, f82_745, f82_747, f82_749, f82_751, h82_753, hb724, hb726, hb728, hb730, hb732, hb734, hb736, hb738, hb740, hb742, hb746, hb748, hb750, hb752, hb754⟩ := (hI707 82 (by decide) (by decide) : cp82 (wget w705 82))
          have hf755 : fld w705 82 4 = f82_727 := fld_of h82_753
          have hf756 : fld w705 82 5 = f82_729 := fld_of h82_753
          have hf757 : fld w705 82 7 = f82_733 := fld_of h82_753
          have hf758 : fld w705 82 10 = f82_739 := fld_of h82_753
          have hf759 : fld w705 82 14 = f82_741 := fld_of h82_753
          have hu760 : mu w705 = 2 * (fld w705 82 4 - fld w705 82 5) + min 1 (fld w705 82 7) := rfl
          have hf761 := pk715.2.2.1
          have hl762 : f82_741 ≤ 1000 := by omega
          refine xg_t (xg_aload (va := (2, 82)) rfl rfl) ?_
          refine xg_t (xg_getf (va := (2, 85)) h82_753 rfl) ?_
          refine xg_t (xg_iload (va := (0, 5)) rfl rfl) ?_
          refine xg_t (xg_dup2 rfl) ?_
          obtain ⟨g85_763, h85_764, hb765⟩ := (hI707 85 (by decide) (by decide) : cpI 7 52 4294967295 (wget w705 85))
          have h85_764 : xRow w705 85 7 52 g85_763 := h85_764
          refine xg_ialdB (n := 5) (B := 4294967295) h85_764 (hb765) xnm0 (by omega) (fun u766 hu767 he768 => ?_)
          have hl769 : u766 = u45 := by have q1 := rwv_of h85_764 (show 5 < 7 by decide); have q2 := mf718 5 (by decide); omega
          refine xg_t (xg_const) ?_
          refine xg_t (xg_iadd (u := u766) (v := 1) (z := u766 + 1) xnm0 xnm0 (by omega)) ?_
          refine xg_iastK (n := 5) (u := u766 + 1) h85_764 xnm0 xnm0 rfl (by omega) (fun w770 hr771 hb772 => ?_)
          refine xg_t (xg_aload (va := (2, 82)) rfl rfl) ?_
          refine xg_t (xg_dup rfl) ?_
          refine xg_t (xg_getf (va := (0, f82_741)) (hb772.get (by decide) h82_753) rfl) ?_
          refine xg_t (xg_const) ?_
          refine xg_t (xg_iadd (u := f82_741) (v := 1) (z := f82_741 + 1) xnm0 xnm0 (by omega)) ?_
          refine xg_putI (fl1 := [(2, 83), (2, 84), (0, f82_723), (0, f82_725), (0, f82_727), (0, f82_729), (0, f82_731), (0, f82_733), (0, f82_735), (0, f82_737), (0, f82_739), (2, 85), (2, 86), (2, 87), (0, f82_741 + 1), (2, 88), (2, 89), (2, 90), (2, 91), (2, 92), (2, 93), (2, 94), (4, f82_743), (4, f82_744), (0, f82_745), (2, 95), (2, 96), (2, 97), (2, 98), (2, 99), (2, 100), (2, 101), (2, 102), (0, f82_747), (2, 103), (2, 104), (2, 105), (2, 106), (2, 107), (2, 108), (2, 109), (0, f82_749), (0, f82_751), (2, 110), (2, 111), (2, 112), (2, 113)]) (hb772.get (by decide) h82_753) rfl rfl rfl (fun w773 hk774 hb775 => ?_)
          have hF776 : xFr [82, 85] w705 w773 := ((xFr.of (S := [82, 85]) hb772 (by decide)).tr (xFr.of (S := [82, 85]) hb775 (by decide)))
          have hA777 := FA_fr hF776 (by decide)
          have hf778 : fld w773 82 4 = f82_727 := fld_of hk774
          have hf779 : fld w773 82 5 = f82_729 := fld_of hk774
          have hf780 : fld w773 82 7 = f82_733 := fld_of hk774
          have hf781 : fld w773 82 10 = f82_739 := fld_of hk774
          have hf782 : fld w773 82 14 = f82_741 + 1 := fld_of hk774
          have hu783 : mu w773 = 2 * (fld w773 82 4 - fld w773 82 5) + min 1 (fld w773 82 7) := rfl
          have pq784 := pk715
          unfold PK PS at pq784
          have hM785 : ∀ s, s < 7 → s ≠ 5 → rwv w773 85 s = rwv w 85 s := fun s hs hn => (rwv_of (hr771.but hb775 (by decide)) hs).trans ((if_neg hn).trans ((rwv_of h85_764 hs).symm.trans (mf718 s hs)))
          have hM786 : rwv w773 85 5 = u45 + 1 := (rwv_of (hr771.but hb775 (by decide)) (by decide)).trans ((if_pos rfl).trans (by omega))
          have hM787 : ∀ s, s < 7 → rwv w773 85 s ≤ rwv w 85 s + 1 := fun s hs => by
            by_cases z : s = 5
            · subst z; omega
            · rw [hM785 s hs z]; omega
          have hO788 : ∀ j, (j < 7 ∨ 9 ≤ j) → j < 140 → rwv w773 86 j = rwv w 86 j := fun j hj hl => (rwv_fr hF776 (by decide)).trans (os716 j hj hl)
          have hl790 : FA w705 ≠ 0 ∨ u45 < 1 := rg717
          have hl791 : rwv w773 86 (7) = rwv w705 86 (7) := rwv_fr hF776 (by decide)
          have hl792 : rwv w773 86 (8) = rwv w705 86 (8) := rwv_fr hF776 (by decide)
          have hN789 : FA w773 ≠ 0 ∨ 1 ≤ u45 ∨ (1 ≤ rwv w773 86 7 ∧ rwv w773 86 7 ≤ 10 ∧ 1 ≤ rwv w773 86 8 ∧ rwv w773 86 8 ≤ 10) := by have q := nw721; omega
          have hX793 : FA w773 ≠ 0 ∨ u45 < 1 := by omega
          have hD794 : FA w773 ≠ 0 ∨ (DATA w → DATA w773) := by
            by_cases z : FA w773 ≠ 0
            · exact Or.inl z
            · exact Or.inr (fun hd => hd.s5 hM785 hK48 hM786 (hX793.resolve_left z) hO788 ((hN789.resolve_left z).resolve_left (by have := hX793.resolve_left z; omega)))
          exact xg_e ⟨w773, ⟨rfl, rfl⟩, xMnv.up (S := [85, 82]) hI707 ((xFr.of (S := [85, 82]) hb772 (by decide)).tr (xFr.of (S := [85, 82]) hb775 (by decide))) (List.forall_mem_cons.mpr ⟨(show cpI 7 52 4294967295 (wget w773 85) from ⟨_, (hr771.but hb775 (by decide)), xrb (by omega) (hb765)⟩), List.forall_mem_cons.mpr ⟨(show cp82 (wget w773 82) from ⟨f82_723, f82_725, f82_727, f82_729, f82_731, f82_733, f82_735, f82_737, f82_739, f82_741 + 1, f82_743, f82_744, f82_745, f82_747, f82_749, f82_751, hk774, hb724, hb726, hb728, hb730, hb732, hb734, hb736, hb738, hb740, by omega, hb746, hb748, hb750, hb752, by omega⟩), fun _ h => absurd h List.not_mem_nil⟩⟩), ((hF571.tr (hF708.up (by decide))).tr ((xFr.of (S := [82, 83, 85, 86, 87]) hb772 (by decide)).tr (xFr.of (S := [82, 83, 85, 86, 87]) hb775 (by decide)))), ⟨fun h => by have := pq784.1 h; omega, (show fld w773 82 10 = 0 ∨ FA w773 ≠ 0 by omega), Or.inr ⟨by have := ms722; omega, by omega, hM787⟩, hD794⟩⟩
      · refine xg_t (xg_ifT (u := f82_595) rfl xnm0 (xj_neT hc611)) ?_
        refine xg_t (xg_blk (b := [(416, 1, 0, 0, 0, 0), (417, 3, 13, 140, 96, 183)]) rfl) ?_
        refine xg_t (xg_aload (va := (2, 82)) rfl rfl) ?_
        refine xg_cVv mX12_ends (vs := []) (rest := []) (cn1 := 0) (sl1 := 0) rfl (mEnds (hI570) hj573.2.2.2) rfl h82_609 rfl rfl rfl rfl rfl rfl (fun w795 hq796 => ?_)
        obtain ⟨hI797, hF798, hx799⟩ := hq796
        clear hb580 hb582 hb584 hb586 hb588 hb590 hb592 hb594 hb596 hb598 hb602 hb604 hb606 hb608
        obtain ⟨hv800, hv801, hv802, hv803⟩ := hx799
        have pk804 : PK w569 w795 := ⟨fun _ => hv800, by omega, by omega, Or.inr hv800⟩
        have pk805 : PK w w795 := PK.tr hj573 pk804
        have os806 : ∀ j, (j < 7 ∨ 9 ≤ j) → j < 140 → rwv w795 86 j = rwv w 86 j := fun j hj hl => (rwv_fr hF798 (by decide)).trans (hj574 j hj hl)
        have rg807 : FA w795 ≠ 0 ∨ u45 < 1 := hj577.imp_left pk804.1
        have mf808 : ∀ s, s < 7 → rwv w795 85 s = rwv w 85 s := fun s hs => (rwv_fr hF798 (by decide)).trans (hj576 s hs)
        have hl809 : rwv w795 86 (7) = rwv w569 86 (7) := rwv_fr hF798 (by decide)
        have hl810 : rwv w795 86 (8) = rwv w569 86 (8) := rwv_fr hF798 (by decide)
        have nw811 : FA w795 ≠ 0 ∨ 1 ≤ u45 ∨ (1 ≤ rwv w795 86 7 ∧ rwv w795 86 7 ≤ 10 ∧ 1 ≤ rwv w795 86 8 ∧ rwv w795 86 8 ≤ 10) := by have q := hj578; have q1 := pk804.1; omega
        clear hj578
        have ms812 : mu w795 < mu w := Nat.lt_of_le_of_lt pk804.2.1 hj575
        clear hj577
        refine xg_t (xg_blk (b := [(420, 1, 0, 0, 0, 0), (421, 3, 1, 12, 11, 17), (424, 1, 2, 1, 0, 0), (425, 1, 39, 0, 0, 0), (426, 1, 10, 0, 0, 0), (427, 1, 3, 1, 0, 0), (428, 1, 11, 0, 0, 0), (429, 1, 17, 0, 0, 0), (430, 1, 0, 0, 0, 0), (431, 1, 19, 0, 0, 0), (432, 3, 1, 12, 14, 212), (435, 1, 3, 1, 0, 0), (436, 1, 11, 0, 0, 0), (437, 3, 14, 12, 14, 212), (440, 1, 12, 0, 0, 0)]) rfl) ?_
        obtain ⟨f82_813, f82_815, f82_817, f82_819, f82_821, f82_823, f82_825, f82_827, f82_829, f82_831, f82_833, f82_834, f82_835, f82_837, f82_839, f82_841, h82_843, hb814, hb816, hb818, hb820, hb822, hb824, hb826, hb828, hb830, hb832, hb836, hb838, hb840, hb842, hb844⟩ := (hI797 82 (by decide) (by decide) : cp82 (wget w795 82))
        have hf845 : fld w795 82 4 = f82_817 := fld_of h82_843
        have hf846 : fld w795 82 5 = f82_819 := fld_of h82_843
        have hf847 : fld w795 82 7 = f82_823 := fld_of h82_843
        have hf848 : fld w795 82 10 = f82_829 := fld_of h82_843
        have hf849 : fld w795 82 14 = f82_831 := fld_of h82_843
        have hu850 : mu w795 = 2 * (fld w795 82 4 - fld w795 82 5) + min 1 (fld w795 82 7) := rfl
        have hf851 := pk805.2.2.1
        have hl852 : f82_831 ≤ 1000 := by omega
        refine xg_t (xg_aload (va := (2, 82)) rfl rfl) ?_
        refine xg_t (xg_getf (va := (2, 85)) h82_843 rfl) ?_
        refine xg_t (xg_iload (va := (0, 5)) rfl rfl) ?_
        refine xg_t (xg_dup2 rfl) ?_
        obtain ⟨g85_853, h85_854, hb855⟩ := (hI797 85 (by decide) (by decide) : cpI 7 52 4294967295 (wget w795 85))
        have h85_854 : xRow w795 85 7 52 g85_853 := h85_854
        refine xg_ialdB (n := 5) (B := 4294967295) h85_854 (hb855) xnm0 (by omega) (fun u856 hu857 he858 => ?_)
        have hl859 : u856 = u45 := by have q1 := rwv_of h85_854 (show 5 < 7 by decide); have q2 := mf808 5 (by decide); omega
        refine xg_t (xg_const) ?_
        refine xg_t (xg_iadd (u := u856) (v := 1) (z := u856 + 1) xnm0 xnm0 (by omega)) ?_
        refine xg_iastK (n := 5) (u := u856 + 1) h85_854 xnm0 xnm0 rfl (by omega) (fun w860 hr861 hb862 => ?_)
        refine xg_t (xg_aload (va := (2, 82)) rfl rfl) ?_
        refine xg_t (xg_dup rfl) ?_
        refine xg_t (xg_getf (va := (0, f82_831)) (hb862.get (by decide) h82_843) rfl) ?_
        refine xg_t (xg_const) ?_
        refine xg_t (xg_iadd (u := f82_831) (v := 1) (z := f82_831 + 1) xnm0 xnm0 (by omega)) ?_
        refine xg_putI (fl1 := [(2, 83), (2, 84), (0, f82_813), (0, f82_815), (0, f82_817), (0, f82_819), (0, f82_821), (0, f82_823), (0, f82_825), (0, f82_827), (0, f82_829), (2, 85), (2, 86), (2, 87), (0, f82_831 + 1), (2, 88), (2, 89), (2, 90), (2, 91), (2, 92), (2, 93), (2, 94), (4, f82_833), (4, f82_834), (0, f82_835), (2, 95), (2, 96), (2, 97), (2, 98), (2, 99), (2, 100), (2, 101), (2, 102), (0, f82_837), (2, 103), (2, 104), (2, 105), (2, 106), (2, 107), (2, 108), (2, 109), (0, f82_839), (0, f82_841), (2, 110), (2, 111), (2, 112), (2, 113)]) (hb862.get (by decide) h82_843) rfl rfl rfl (fun w863 hk864 hb865 => ?_)
        have hF866 : xFr [82, 85] w795 w863 := ((xFr.of (S := [82, 85]) hb862 (by decide)).tr (xFr.of (S := [82, 85]) hb865 (by decide)))
        have hA867 := FA_fr hF866 (by decide)
        have hf868 : fld w863 82 4 = f82_817 := fld_of hk864
        have hf869 : fld w863 82 5 = f82_819 := fld_of hk864
        have hf870 : fld w863 82 7 = f82_823 := fld_of hk864
        have hf871 : fld w863 82 10 = f82_829 := fld_of hk864
        have hf872 : fld w863 82 14 = f82_831 + 1 := fld_of hk864
        have hu873 : mu w863 = 2 * (fld w863 82 4 - fld w863 82 5) + min 1 (fld w863 82 7) := rfl
        have pq874 := pk805
        unfold PK PS at pq874
        have hM875 : ∀ s, s < 7 → s ≠ 5 → rwv w863 85 s = rwv w 85 s := fun s hs hn => (rwv_of (hr861.but hb865 (by decide)) hs).trans ((if_neg hn).trans ((rwv_of h85_854 hs).symm.trans (mf808 s hs)))
        have hM876 : rwv w863 85 5 = u45 + 1 := (rwv_of (hr861.but hb865 (by decide)) (by decide)).trans ((if_pos rfl).trans (by omega))
        have hM877 : ∀ s, s < 7 → rwv w863 85 s ≤ rwv w 85 s + 1 := fun s hs => by
          by_cases z : s = 5
          · subst z; omega
          · rw [hM875 s hs z]; omega
        have hO878 : ∀ j, (j < 7 ∨ 9 ≤ j) → j < 140 → rwv w863 86 j = rwv w 86 j := fun j hj hl => (rwv_fr hF866 (by decide)).trans (os806 j hj hl)
        have hl880 : FA w795 ≠ 0 ∨ u45 < 1 := rg807
        have hl881 : rwv w863 86 (7) = rwv w795 86 (7) := rwv_fr hF866 (by decide)
        have hl882 : rwv w863 86 (8) = rwv w795 86 (8) := rwv_fr hF866 (by decide)
        have hN879 : FA w863 ≠ 0 ∨ 1 ≤ u45 ∨ (1 ≤ rwv w863 86 7 ∧ rwv w863 86 7 ≤ 10 ∧ 1 ≤ rwv w863 86 8 ∧ rwv w863 86 8 ≤ 10) := by have q := nw811; omega
        have hX883 : FA w863 ≠ 0 ∨ u45 < 1 := by omega
        have hD884 : FA w863 ≠ 0 ∨ (DATA w → DATA w863) := by
          by_cases z : FA w863 ≠ 0
          · exact Or.inl z
          · exact Or.inr (fun hd => hd.s5 hM875 hK48 hM876 (hX883.resolve_left z) hO878 ((hN879.resolve_left z).resolve_left (by have := hX883.resolve_left z; omega)))
        exact xg_e ⟨w863, ⟨rfl, rfl⟩, xMnv.up (S := [85, 82]) hI797 ((xFr.of (S := [85, 82]) hb862 (by decide)).tr (xFr.of (S := [85, 82]) hb865 (by decide))) (List.forall_mem_cons.mpr ⟨(show cpI 7 52 4294967295 (wget w863 85) from ⟨_, (hr861.but hb865 (by decide)), xrb (by omega) (hb855)⟩), List.forall_mem_cons.mpr ⟨(show cp82 (wget w863 82) from ⟨f82_813, f82_815, f82_817, f82_819, f82_821, f82_823, f82_825, f82_827, f82_829, f82_831 + 1, f82_833, f82_834, f82_835, f82_837, f82_839, f82_841, hk864, hb814, hb816, hb818, hb820, hb822, hb824, hb826, hb828, hb830, by omega, hb836, hb838, hb840, hb842, by omega⟩), fun _ h => absurd h List.not_mem_nil⟩⟩), ((hF571.tr (hF798.up (by decide))).tr ((xFr.of (S := [82, 83, 85, 86, 87]) hb862 (by decide)).tr (xFr.of (S := [82, 83, 85, 86, 87]) hb865 (by decide)))), ⟨fun h => by have := pq874.1 h; omega, (show fld w863 82 10 = 0 ∨ FA w863 ≠ 0 by omega), Or.inr ⟨by have := ms812; omega, by omega, hM877⟩, hD884⟩⟩
    refine xg_t (xg_iload (va := (0, 5)) rfl rfl) ?_
    refine xg_t (xg_swt (ks := [(0, 108), (1, 116), (2, 180), (3, 221), (4, 273), (5, 326)]) (u := 5) (z := 326) rfl rfl rfl xnm0 (xsw_n (by omega) (xsw_n (by omega) (xsw_n (by omega) (xsw_n (by omega) (xsw_n (by omega) (xsw_y rfl))))))) ?_
    refine xg_t (xg_blk (b := [(326, 1, 3, 0, 0, 0), (327, 2, 15, 4, 0, 0)]) rfl) ?_
    refine xg_t (xg_const) ?_
    refine xg_t (xg_istore (l1 := [(3, (0, u45)), (2, (0, at_)), (1, (0, 5)), (0, (2, 82))]) rfl rfl rfl) ?_
    refine xg_t (xg_blk (b := [(329, 2, 2, 4, 0, 0), (331, 1, 3, 2, 0, 0), (332, 3, 6, 359, 3, 0), (335, 1, 0, 0, 0, 0), (336, 1, 2, 1, 0, 0), (337, 1, 2, 3, 0, 0), (338, 2, 4, 7, 0, 0), (340, 2, 2, 4, 0, 0), (342, 1, 11, 0, 0, 0), (343, 1, 0, 0, 0, 0), (344, 1, 3, 1, 0, 0), (345, 2, 4, 10, 0, 0), (347, 3, 13, 199, 96, 196), (350, 3, 13, 211, 96, 200), (353, 3, 9, 4, 1, 0), (356, 3, 8, 329, 0, 0)]) rfl) ?_
    refine xg_t (xg_iload (va := (0, 0)) rfl rfl) ?_
    refine xg_t (xg_const) ?_
    refine xg_t (xg_icF (u := 0) (v := 2) rfl xnm0 xnm0 (by decide)) ?_
    refine xg_t (xg_aload (va := (2, 82)) rfl rfl) ?_
    refine xg_t (xg_iload (va := (0, 5)) rfl rfl) ?_
    refine xg_t (xg_iload (va := (0, u45)) rfl rfl) ?_
    refine xg_t (xg_bip) ?_
    refine xg_t (xg_iload (va := (0, 0)) rfl rfl) ?_
    refine xg_t (xg_iadd (u := 7) (v := 0) (z := 7) xnm0 xnm0 (by decide)) ?_
    refine xg_t (xg_aload (va := (2, 82)) rfl rfl) ?_
    refine xg_t (xg_const) ?_
    refine xg_t (xg_bip) ?_
    obtain ⟨f82_885, f82_887, f82_889, f82_891, f82_893, f82_895, f82_897, f82_899, f82_901, f82_903, f82_905, f82_906, f82_907, f82_909, f82_911, f82_913, h82_915, hb886, hb888, hb890, hb892, hb894, hb896, hb898, hb900, hb902, hb904, hb908, hb910, hb912, hb914, hb916⟩ := (hI553 82 (by decide) (by decide) : cp82 (wget w551 82))
    refine xg_cVi mX12_numbered (vs := [(0, 1), (0, 10)]) (rest := [(0, 7), (0, u45), (0, 5), (2, 82)]) (cn1 := 0) (sl1 := 0) rfl (mNumbered (hI553) (by omega) (by omega) pk563.2.2.2) rfl h82_915 rfl rfl rfl rfl rfl rfl (fun n921 w917 hq918 => ?_)
    obtain ⟨hn922, hI919, hF920⟩ := hq918
    clear hb886 hb888 hb890 hb892 hb894 hb896 hb898 hb900 hb902 hb904 hb908 hb910 hb912 hb914
    obtain ⟨hn923, hn924, hn925⟩ := hn922
    have pk926 : PK w w917 := PK.tr pk563 hn924
    have os927 : ∀ j, (j < 7 ∨ 9 ≤ j) → j < 140 → rwv w917 86 j = rwv w 86 j := fun j hj hl => (rwv_fr hF920 (by decide)).trans (os564 j hj hl)
    have rg928 : FA w917 ≠ 0 ∨ 0 = 1 := rg565.imp_left hn924.1
    have mf929 : ∀ s, s < 7 → rwv w917 85 s = rwv w 85 s := fun s hs => (rwv_fr hF920 (by decide)).trans (mf566 s hs)
    have ms930 : mu w917 < mu w := Nat.lt_of_le_of_lt hn924.2.1 ms567
    clear rg565
    obtain ⟨f82_931, f82_933, f82_935, f82_937, f82_939, f82_941, f82_943, f82_945, f82_947, f82_949, f82_951, f82_952, f82_953, f82_955, f82_957, f82_959, h82_961, hb932, hb934, hb936, hb938, hb940, hb942, hb944, hb946, hb948, hb950, hb954, hb956, hb958, hb960, hb962⟩ := (hI919 82 (by decide) (by decide) : cp82 (wget w917 82))
    refine xg_cVv mX12_puts (vs := [(0, 5), (0, u45), (0, 7), (0, n921)]) (rest := []) (cn1 := 0) (sl1 := 0) rfl (mPuts5 (hI919) (by omega) (by omega) (by omega) (fun _ => by omega)) rfl h82_961 rfl rfl rfl rfl rfl rfl (fun w963 hq964 => ?_)
    obtain ⟨hI965, hF966, hx967⟩ := hq964
    obtain ⟨hp968, hp969⟩ := hx967
    have pk970 : PK w w963 := PK.tr pk926 (PK.fr hF966 (by decide) (by decide) pk926.2.2.2)
    have os971 : ∀ j, (j < 7 ∨ 9 ≤ j) → j < 140 → rwv w963 86 j = rwv w 86 j := fun j hj hl => (hp969 j (by omega) hl).trans (os927 j hj hl)
    have rg972 : FA w963 ≠ 0 ∨ 0 = 1 := rg928.imp_left (PK.fr hF966 (by decide) (by decide) pk926.2.2.2).1
    have rg973 : FA w963 ≠ 0 ∨ (1 ≤ n921 ∧ n921 ≤ 10) := hn925.imp_left (PK.fr hF966 (by decide) (by decide) pk926.2.2.2).1
    have mf974 : ∀ s, s < 7 → rwv w963 85 s = rwv w 85 s := fun s hs => (rwv_fr hF966 (by decide)).trans (mf929 s hs)
    have ms975 : mu w963 < mu w := Nat.lt_of_le_of_lt (PK.fr hF966 (by decide) (by decide) pk926.2.2.2).2.1 ms930
    clear rg928 hn925
    refine xg_t (xg_iinc (u := 0) (z := 1) (l1 := [(3, (0, u45)), (2, (0, at_)), (1, (0, 5)), (0, (2, 82))]) rfl rfl (by decide) rfl) ?_
    refine xg_t (xg_goto) ?_
    refine xg_t (xg_blk (b := [(329, 2, 2, 4, 0, 0), (331, 1, 3, 2, 0, 0), (332, 3, 6, 359, 3, 0), (335, 1, 0, 0, 0, 0), (336, 1, 2, 1, 0, 0), (337, 1, 2, 3, 0, 0), (338, 2, 4, 7, 0, 0), (340, 2, 2, 4, 0, 0), (342, 1, 11, 0, 0, 0), (343, 1, 0, 0, 0, 0), (344, 1, 3, 1, 0, 0), (345, 2, 4, 10, 0, 0), (347, 3, 13, 199, 96, 196), (350, 3, 13, 211, 96, 200), (353, 3, 9, 4, 1, 0), (356, 3, 8, 329, 0, 0)]) rfl) ?_
    refine xg_t (xg_iload (va := (0, 1)) rfl rfl) ?_
    refine xg_t (xg_const) ?_
    refine xg_t (xg_icF (u := 1) (v := 2) rfl xnm0 xnm0 (by decide)) ?_
    refine xg_t (xg_aload (va := (2, 82)) rfl rfl) ?_
    refine xg_t (xg_iload (va := (0, 5)) rfl rfl) ?_
    refine xg_t (xg_iload (va := (0, u45)) rfl rfl) ?_
    refine xg_t (xg_bip) ?_
    refine xg_t (xg_iload (va := (0, 1)) rfl rfl) ?_
    refine xg_t (xg_iadd (u := 7) (v := 1) (z := 8) xnm0 xnm0 (by decide)) ?_
    refine xg_t (xg_aload (va := (2, 82)) rfl rfl) ?_
    refine xg_t (xg_const) ?_
    refine xg_t (xg_bip) ?_
    refine xg_cVi mX12_numbered (vs := [(0, 1), (0, 10)]) (rest := [(0, 8), (0, u45), (0, 5), (2, 82)]) (cn1 := 0) (sl1 := 0) rfl (mNumbered (hI965) (by omega) (by omega) pk970.2.2.2) rfl (hF966.get (by decide) h82_961) rfl rfl rfl rfl rfl rfl (fun n980 w976 hq977 => ?_)
    obtain ⟨hn981, hI978, hF979⟩ := hq977
    clear hb932 hb934 hb936 hb938 hb940 hb942 hb944 hb946 hb948 hb950 hb954 hb956 hb958 hb960
    obtain ⟨hn982, hn983, hn984⟩ := hn981
    have pk985 : PK w w976 := PK.tr pk970 hn983
    have os986 : ∀ j, (j < 7 ∨ 9 ≤ j) → j < 140 → rwv w976 86 j = rwv w 86 j := fun j hj hl => (rwv_fr hF979 (by decide)).trans (os971 j hj hl)
    have ix987 : u45 < 1 → rwv w976 86 (7) = n921 := fun h => (rwv_fr hF979 (by decide)).trans (hp968 h)
    have rg988 : FA w976 ≠ 0 ∨ 0 = 1 := rg972.imp_left hn983.1
    have rg989 : FA w976 ≠ 0 ∨ (1 ≤ n921 ∧ n921 ≤ 10) := rg973.imp_left hn983.1
    have mf990 : ∀ s, s < 7 → rwv w976 85 s = rwv w 85 s := fun s hs => (rwv_fr hF979 (by decide)).trans (mf974 s hs)
    have ms991 : mu w976 < mu w := Nat.lt_of_le_of_lt hn983.2.1 ms975
    clear hp968 rg972 rg973
    obtain ⟨f82_992, f82_994, f82_996, f82_998, f82_1000, f82_1002, f82_1004, f82_1006, f82_1008, f82_1010, f82_1012, f82_1013, f82_1014, f82_1016, f82_1018, f82_1020, h82_1022, hb993, hb995, hb997, hb999, hb1001, hb1003, hb1005, hb1007, hb1009, hb1011, hb1015, hb1017, hb1019, hb1021, hb1023⟩ := (hI978 82 (by decide) (by decide) : cp82 (wget w976 82))
    refine xg_cVv mX12_puts (vs := [(0, 5), (0, u45), (0, 8), (0, n980)]) (rest := []) (cn1 := 0) (sl1 := 0) rfl (mPuts5 (hI978) (by omega) (by omega) (by omega) (fun _ => by omega)) rfl h82_1022 rfl rfl rfl rfl rfl rfl (fun w1024 hq1025 => ?_)
    obtain ⟨hI1026, hF1027, hx1028⟩ := hq1025
    obtain ⟨hp1029, hp1030⟩ := hx1028
    have pk1031 : PK w w1024 := PK.tr pk985 (PK.fr hF1027 (by decide) (by decide) pk985.2.2.2)
    have os1032 : ∀ j, (j < 7 ∨ 9 ≤ j) → j < 140 → rwv w1024 86 j = rwv w 86 j := fun j hj hl => (hp1030 j (by omega) hl).trans (os986 j hj hl)
    have ix1033 : u45 < 1 → rwv w1024 86 (7) = n921 := fun h => (hp1030 _ (by omega) (by omega)).trans (ix987 h)
    have rg1034 : FA w1024 ≠ 0 ∨ 0 = 1 := rg988.imp_left (PK.fr hF1027 (by decide) (by decide) pk985.2.2.2).1
    have rg1035 : FA w1024 ≠ 0 ∨ (1 ≤ n921 ∧ n921 ≤ 10) := rg989.imp_left (PK.fr hF1027 (by decide) (by decide) pk985.2.2.2).1
    have rg1036 : FA w1024 ≠ 0 ∨ (1 ≤ n980 ∧ n980 ≤ 10) := hn984.imp_left (PK.fr hF1027 (by decide) (by decide) pk985.2.2.2).1
    have mf1037 : ∀ s, s < 7 → rwv w1024 85 s = rwv w 85 s := fun s hs => (rwv_fr hF1027 (by decide)).trans (mf990 s hs)
    have ms1038 : mu w1024 < mu w := Nat.lt_of_le_of_lt (PK.fr hF1027 (by decide) (by decide) pk985.2.2.2).2.1 ms991
    clear ix987 rg988 rg989 hn984
    refine xg_t (xg_iinc (u := 1) (z := 2) (l1 := [(3, (0, u45)), (2, (0, at_)), (1, (0, 5)), (0, (2, 82))]) rfl rfl (by decide) rfl) ?_
    refine xg_t (xg_goto) ?_
    refine xg_t (xg_blk (b := [(329, 2, 2, 4, 0, 0), (331, 1, 3, 2, 0, 0), (332, 3, 6, 359, 3, 0), (335, 1, 0, 0, 0, 0), (336, 1, 2, 1, 0, 0), (337, 1, 2, 3, 0, 0), (338, 2, 4, 7, 0, 0), (340, 2, 2, 4, 0, 0), (342, 1, 11, 0, 0, 0), (343, 1, 0, 0, 0, 0), (344, 1, 3, 1, 0, 0), (345, 2, 4, 10, 0, 0), (347, 3, 13, 199, 96, 196), (350, 3, 13, 211, 96, 200), (353, 3, 9, 4, 1, 0), (356, 3, 8, 329, 0, 0)]) rfl) ?_
    refine xg_t (xg_iload (va := (0, 2)) rfl rfl) ?_
    refine xg_t (xg_const) ?_
    refine xg_t (xg_icT (u := 2) (v := 2) rfl xnm0 xnm0 (by decide)) ?_
    refine xg_t (xg_blk (b := [(359, 3, 8, 394, 0, 0)]) rfl) ?_
    refine xg_t (xg_goto) ?_
    refine xg_t (xg_drop (l1 := [(0, (2, 82)), (1, (0, 5)), (3, (0, u45))]) (List.forall_mem_cons.mpr ⟨List.mem_cons_of_mem _ (List.mem_cons_of_mem _ (List.mem_cons_of_mem _ (List.mem_cons_of_mem _ (List.mem_cons_self)))), List.forall_mem_cons.mpr ⟨List.mem_cons_of_mem _ (List.mem_cons_of_mem _ (List.mem_cons_of_mem _ (List.mem_cons_self))), List.forall_mem_cons.mpr ⟨List.mem_cons_of_mem _ (List.mem_cons_self), fun _ h => absurd h List.not_mem_nil⟩⟩⟩)) ?_
    have hX1039 : FA w1024 ≠ 0 ∨ u45 < 1 := Or.inl (by have q := rg1034; omega)
    have hN1040 : FA w1024 ≠ 0 ∨ 1 ≤ u45 ∨ (1 ≤ rwv w1024 86 7 ∧ rwv w1024 86 7 ≤ 10 ∧ 1 ≤ rwv w1024 86 8 ∧ rwv w1024 86 8 ≤ 10) := by
      have hl1041 : u45 < 1 → rwv w1024 86 (7) = n921 := ix1033
      have hl1042 : u45 < 1 → rwv w1024 86 (8) = n980 := hp1029
      have hl1043 := rg1035
      have hl1044 := rg1036
      omega
    exact jn568 w1024 (hI1026) (((((((hF544.up (by decide)).tr (hF554.up (by decide))).tr (hF920.up (by decide))).tr (hF966.up (by decide))).tr (hF979.up (by decide))).tr (hF1027.up (by decide)))) (⟨pk1031, os1032, ms1038, mf1037, hX1039, hN1040⟩)
set_option maxHeartbeats 60000000 in
theorem mALineS6 {at_ : Nat} (hI : xMnv w) (hps : PS w) (hmb : ∀ s, s < 7 → rwv w 85 s ≤ 1000) (hln : fld w 82 14 ≤ 1000) (h7 : fld w 82 7 = 3) (hat : at_ ≤ 4294967295) : xTo (d + 7) mX12_aLine (43, [], [(2, (0, at_)), (1, (0, 6)), (0, (2, 82))], [], (w, bd, fc, 0, 0, rr)) (fun φ => ∃ w', xEnd 0 [] (w', bd, fc, 0, 0, rr) φ ∧ xMnv w' ∧ xFr [82, 83, 85, 86, 87] w w' ∧ ((FA w ≠ 0 → FA w' ≠ 0) ∧ PS w' ∧ ((fld w' 82 10 = 1 ∧ mu w' = mu w ∧ fld w' 82 14 = fld w 82 14 ∧ ∀ s, s < 7 → rwv w' 85 s = rwv w 85 s) ∨ (mu w' < mu w ∧ fld w' 82 14 = fld w 82 14 + 1 ∧ ∀ s, s < 7 → rwv w' 85 s ≤ rwv w 85 s + 1)) ∧ (FA w' ≠ 0 ∨ (DATA w → DATA w')))) := by
  obtain ⟨f82_1, f82_3, f82_5, f82_7, f82_9, f82_11, f82_13, f82_15, f82_17, f82_19, f82_21, f82_22, f82_23, f82_25, f82_27, f82_29, h82_31, hb2, hb4, hb6, hb8, hb10, hb12, hb14, hb16, hb18, hb20, hb24, hb26, hb28, hb30, hb32⟩ := (hI 82 (by decide) (by decide) : cp82 (wget w 82))
  have hf33 : fld w 82 7 = f82_11 := fld_of h82_31
  have hf34 : fld w 82 10 = f82_17 := fld_of h82_31
  have hf35 : fld w 82 14 = f82_19 := fld_of h82_31
  have hps_ : fld w 82 10 = 0 ∨ FA w ≠ 0 := hps
  obtain ⟨g85_36, h85_37, hb38⟩ := (hI 85 (by decide) (by decide) : cpI 7 52 4294967295 (wget w 85))
  have h85_37 : xRow w 85 7 52 g85_36 := h85_37
  obtain ⟨g86_39, h86_40, hb41⟩ := (hI 86 (by decide) (by decide) : cpI 140 53 4294967295 (wget w 86))
  have h86_40 : xRow w 86 140 53 g86_39 := h86_40
  obtain ⟨g87_42, h87_43, hb44⟩ := (hI 87 (by decide) (by decide) : cpI 20 54 4294967295 (wget w 87))
  have h87_43 : xRow w 87 20 54 g87_42 := h87_43
  refine xg_t (xg_blk (b := [(43, 1, 0, 0, 0, 0), (44, 3, 1, 12, 11, 17), (47, 1, 2, 1, 0, 0), (48, 1, 10, 0, 0, 0), (49, 1, 15, 3, 0, 0), (50, 1, 2, 3, 0, 0), (51, 1, 2, 1, 0, 0), (52, 3, 13, 194, 98, 193), (55, 3, 6, 64, 2, 0), (58, 1, 0, 0, 0, 0), (59, 1, 3, 3, 0, 0), (60, 1, 2, 2, 0, 0), (61, 3, 13, 115, 96, 186)]) rfl) ?_
  refine xg_t (xg_aload (va := (2, 82)) rfl rfl) ?_
  refine xg_t (xg_getf (va := (2, 85)) h82_31 rfl) ?_
  refine xg_t (xg_iload (va := (0, 6)) rfl rfl) ?_
  refine xg_ialdB (n := 6) (B := 4294967295) h85_37 (hb38) xnm0 (by omega) (fun u45 hu46 he47 => ?_)
  have hK48 : rwv w 85 6 = u45 := (rwv_of h85_37 (by decide)).trans he47
  have hm49 := hmb 6 (by decide)
  have hl50 : u45 ≤ 1000 := by omega
  refine xg_t (xg_istore (l1 := [(2, (0, at_)), (1, (0, 6)), (0, (2, 82))]) rfl rfl rfl) ?_
  refine xg_t (xg_iload (va := (0, u45)) rfl rfl) ?_
  refine xg_t (xg_iload (va := (0, 6)) rfl rfl) ?_
  refine xg_t (xg_cSr mX12_mostOf (vs := [(0, 6)]) (rest := [(0, u45)]) (rs := [(0, 1), (0, u45)]) (cn1 := 0) (sl1 := 0) rfl (mMostR6) rfl rfl rfl rfl rfl rfl rfl rfl) ?_
  by_cases hc51 : u45 < 1
  · refine xg_t (xg_icT (u := u45) (v := 1) rfl xnm0 xnm0 (xj_ltT hc51 (by omega))) ?_
    refine xg_t (xg_blk (b := [(64, 1, 0, 0, 0, 0), (65, 3, 13, 110, 96, 190), (68, 1, 2, 1, 0, 0), (69, 39, 33, 362, 0, 9)]) rfl) ?_
    refine xg_t (xg_aload (va := (2, 82)) rfl rfl) ?_
    refine xg_cVv mX12_advance (vs := []) (rest := []) (cn1 := 0) (sl1 := 0) rfl (mAdvance (hI)) rfl h82_31 rfl rfl rfl rfl rfl rfl (fun w52 hq53 => ?_)
    obtain ⟨hI54, hF55, hx56⟩ := hq53
    clear hb2 hb4 hb6 hb8 hb10 hb12 hb14 hb16 hb18 hb20 hb24 hb26 hb28 hb30
    obtain ⟨hv57, hv58, hv59, hv60⟩ := hx56
    have hf62 := FA_fr hF55 (by decide)
    have hs63 := (PK.rf hps).2.2.2
    unfold PS at hs63
    have pk61 : PK w w52 := ⟨fun _ => by omega, hv57, hv60, (show fld w52 82 10 = 0 ∨ FA w52 ≠ 0 by omega)⟩
    clear hs63
    have pk64 : PK w w52 := PK.tr (PK.rf hps) pk61
    have os65 : ∀ j, (j < 5 ∨ 7 ≤ j) → j < 140 → rwv w52 86 j = rwv w 86 j := fun j hj hl => (rwv_fr hF55 (by decide)).trans ((fun j _ _ => rfl) j hj hl)
    have mf66 : ∀ s, s < 7 → rwv w52 85 s = rwv w 85 s := fun s hs => (rwv_fr hF55 (by decide)).trans ((fun _ _ => rfl) s hs)
    have ms67 : mu w52 < mu w := Nat.lt_of_lt_of_le (hv58 (by omega)) (PK.rf hps).2.1
    clear hv58
    have jn68 : ∀ (w69 : List (List xE)), xMnv w69 → xFr [82, 83, 85, 86, 87] w w69 → (PK w w69 ∧ (∀ j, (j < 5 ∨ 7 ≤ j) → j < 140 → rwv w69 86 j = rwv w 86 j) ∧ mu w69 < mu w ∧ (∀ s, s < 7 → rwv w69 85 s = rwv w 85 s) ∧ (FA w69 ≠ 0 ∨ u45 < 1) ∧ (FA w69 ≠ 0 ∨ 1 ≤ u45 ∨ (1 ≤ rwv w69 86 5 ∧ rwv w69 86 5 ≤ 6 ∧ 1 ≤ rwv w69 86 6 ∧ rwv w69 86 6 ≤ 6))) → xTo (d + 7) mX12_aLine (394, [], [(0, (2, 82)), (1, (0, 6)), (3, (0, u45))], [], (w69, bd, fc, 0, 0, rr)) (fun φ => ∃ w', xEnd 0 [] (w', bd, fc, 0, 0, rr) φ ∧ xMnv w' ∧ xFr [82, 83, 85, 86, 87] w w' ∧ ((FA w ≠ 0 → FA w' ≠ 0) ∧ PS w' ∧ ((fld w' 82 10 = 1 ∧ mu w' = mu w ∧ fld w' 82 14 = fld w 82 14 ∧ ∀ s, s < 7 → rwv w' 85 s = rwv w 85 s) ∨ (mu w' < mu w ∧ fld w' 82 14 = fld w 82 14 + 1 ∧ ∀ s, s < 7 → rwv w' 85 s ≤ rwv w 85 s + 1)) ∧ (FA w' ≠ 0 ∨ (DATA w → DATA w')))) := by
      intro w69 hI70 hF71 he72
      obtain ⟨hj73, hj74, hj75, hj76, hj77, hj78⟩ := he72
      refine xg_t (xg_blk (b := [(394, 1, 0, 0, 0, 0), (395, 3, 1, 12, 10, 180), (398, 3, 7, 416, 1, 0), (401, 1, 0, 0, 0, 0), (402, 3, 1, 12, 7, 151), (405, 1, 3, 2, 0, 0), (406, 3, 6, 416, 1, 0), (409, 1, 0, 0, 0, 0), (410, 3, 13, 110, 96, 190), (413, 3, 8, 420, 0, 0)]) rfl) ?_
      refine xg_t (xg_aload (va := (2, 82)) rfl rfl) ?_
      obtain ⟨f82_79, f82_81, f82_83, f82_85, f82_87, f82_89, f82_91, f82_93, f82_95, f82_97, f82_99, f82_100, f82_101, f82_103, f82_105, f82_107, h82_109, hb80, hb82, hb84, hb86, hb88, hb90, hb92, hb94, hb96, hb98, hb102, hb104, hb106, hb108, hb110⟩ := (hI70 82 (by decide) (by decide) : cp82 (wget w69 82))
      refine xg_t (xg_getf (va := (0, f82_95)) h82_109 rfl) ?_
      by_cases hc111 : f82_95 = 0
      · refine xg_t (xg_ifF (u := f82_95) rfl xnm0 (xj_neF hc111)) ?_
        refine xg_t (xg_aload (va := (2, 82)) rfl rfl) ?_
        refine xg_t (xg_getf (va := (0, f82_89)) h82_109 rfl) ?_
        refine xg_t (xg_const) ?_
        by_cases hc112 : f82_89 = 2
        · refine xg_t (xg_icF (u := f82_89) (v := 2) rfl xnm0 xnm0 (xj_neF hc112)) ?_
          refine xg_t (xg_aload (va := (2, 82)) rfl rfl) ?_
          refine xg_cVv mX12_advance (vs := []) (rest := []) (cn1 := 0) (sl1 := 0) rfl (mAdvance (hI70)) rfl h82_109 rfl rfl rfl rfl rfl rfl (fun w113 hq114 => ?_)
          obtain ⟨hI115, hF116, hx117⟩ := hq114
          clear hb80 hb82 hb84 hb86 hb88 hb90 hb92 hb94 hb96 hb98 hb102 hb104 hb106 hb108
          obtain ⟨hv118, hv119, hv120, hv121⟩ := hx117
          have hf123 := FA_fr hF116 (by decide)
          have hs124 := hj73.2.2.2
          unfold PS at hs124
          have pk122 : PK w69 w113 := ⟨fun _ => by omega, hv118, hv121, (show fld w113 82 10 = 0 ∨ FA w113 ≠ 0 by omega)⟩
          clear hs124
          clear hv119
          have pk125 : PK w w113 := PK.tr hj73 pk122
          have os126 : ∀ j, (j < 5 ∨ 7 ≤ j) → j < 140 → rwv w113 86 j = rwv w 86 j := fun j hj hl => (rwv_fr hF116 (by decide)).trans (hj74 j hj hl)
          have rg127 : FA w113 ≠ 0 ∨ u45 < 1 := hj77.imp_left pk122.1
          have mf128 : ∀ s, s < 7 → rwv w113 85 s = rwv w 85 s := fun s hs => (rwv_fr hF116 (by decide)).trans (hj76 s hs)
          have hl129 : rwv w113 86 (5) = rwv w69 86 (5) := rwv_fr hF116 (by decide)
          have hl130 : rwv w113 86 (6) = rwv w69 86 (6) := rwv_fr hF116 (by decide)
          have nw131 : FA w113 ≠ 0 ∨ 1 ≤ u45 ∨ (1 ≤ rwv w113 86 5 ∧ rwv w113 86 5 ≤ 6 ∧ 1 ≤ rwv w113 86 6 ∧ rwv w113 86 6 ≤ 6) := by have q := hj78; have q1 := pk122.1; omega
          clear hj78
          have ms132 : mu w113 < mu w := Nat.lt_of_le_of_lt pk122.2.1 hj75
          clear hj77
          refine xg_t (xg_goto) ?_
          refine xg_t (xg_blk (b := [(420, 1, 0, 0, 0, 0), (421, 3, 1, 12, 11, 17), (424, 1, 2, 1, 0, 0), (425, 1, 39, 0, 0, 0), (426, 1, 10, 0, 0, 0), (427, 1, 3, 1, 0, 0), (428, 1, 11, 0, 0, 0), (429, 1, 17, 0, 0, 0), (430, 1, 0, 0, 0, 0), (431, 1, 19, 0, 0, 0), (432, 3, 1, 12, 14, 212), (435, 1, 3, 1, 0, 0), (436, 1, 11, 0, 0, 0), (437, 3, 14, 12, 14, 212), (440, 1, 12, 0, 0, 0)]) rfl) ?_
          obtain ⟨f82_133, f82_135, f82_137, f82_139, f82_141, f82_143, f82_145, f82_147, f82_149, f82_151, f82_153, f82_154, f82_155, f82_157, f82_159, f82_161, h82_163, hb134, hb136, hb138, hb140, hb142, hb144, hb146, hb148, hb150, hb152, hb156, hb158, hb160, hb162, hb164⟩ := (hI115 82 (by decide) (by decide) : cp82 (wget w113 82))
          have hf165 : fld w113 82 4 = f82_137 := fld_of h82_163
          have hf166 : fld w113 82 5 = f82_139 := fld_of h82_163
          have hf167 : fld w113 82 7 = f82_143 := fld_of h82_163
          have hf168 : fld w113 82 10 = f82_149 := fld_of h82_163
          have hf169 : fld w113 82 14 = f82_151 := fld_of h82_163
          have hu170 : mu w113 = 2 * (fld w113 82 4 - fld w113 82 5) + min 1 (fld w113 82 7) := rfl
          have hf171 := pk125.2.2.1
          have hl172 : f82_151 ≤ 1000 := by omega
          refine xg_t (xg_aload (va := (2, 82)) rfl rfl) ?_
          refine xg_t (xg_getf (va := (2, 85)) h82_163 rfl) ?_
          refine xg_t (xg_iload (va := (0, 6)) rfl rfl) ?_
          refine xg_t (xg_dup2 rfl) ?_
          obtain ⟨g85_173, h85_174, hb175⟩ := (hI115 85 (by decide) (by decide) : cpI 7 52 4294967295 (wget w113 85))
          have h85_174 : xRow w113 85 7 52 g85_173 := h85_174
          refine xg_ialdB (n := 6) (B := 4294967295) h85_174 (hb175) xnm0 (by omega) (fun u176 hu177 he178 => ?_)
          have hl179 : u176 = u45 := by have q1 := rwv_of h85_174 (show 6 < 7 by decide); have q2 := mf128 6 (by decide); omega
          refine xg_t (xg_const) ?_
          refine xg_t (xg_iadd (u := u176) (v := 1) (z := u176 + 1) xnm0 xnm0 (by omega)) ?_
          refine xg_iastK (n := 6) (u := u176 + 1) h85_174 xnm0 xnm0 rfl (by omega) (fun w180 hr181 hb182 => ?_)
          refine xg_t (xg_aload (va := (2, 82)) rfl rfl) ?_
          refine xg_t (xg_dup rfl) ?_
          refine xg_t (xg_getf (va := (0, f82_151)) (hb182.get (by decide) h82_163) rfl) ?_
          refine xg_t (xg_const) ?_
          refine xg_t (xg_iadd (u := f82_151) (v := 1) (z := f82_151 + 1) xnm0 xnm0 (by omega)) ?_
          refine xg_putI (fl1 := [(2, 83), (2, 84), (0, f82_133), (0, f82_135), (0, f82_137), (0, f82_139), (0, f82_141), (0, f82_143), (0, f82_145), (0, f82_147), (0, f82_149), (2, 85), (2, 86), (2, 87), (0, f82_151 + 1), (2, 88), (2, 89), (2, 90), (2, 91), (2, 92), (2, 93), (2, 94), (4, f82_153), (4, f82_154), (0, f82_155), (2, 95), (2, 96), (2, 97), (2, 98), (2, 99), (2, 100), (2, 101), (2, 102), (0, f82_157), (2, 103), (2, 104), (2, 105), (2, 106), (2, 107), (2, 108), (2, 109), (0, f82_159), (0, f82_161), (2, 110), (2, 111), (2, 112), (2, 113)]) (hb182.get (by decide) h82_163) rfl rfl rfl (fun w183 hk184 hb185 => ?_)
          have hF186 : xFr [82, 85] w113 w183 := ((xFr.of (S := [82, 85]) hb182 (by decide)).tr (xFr.of (S := [82, 85]) hb185 (by decide)))
          have hA187 := FA_fr hF186 (by decide)
          have hf188 : fld w183 82 4 = f82_137 := fld_of hk184
          have hf189 : fld w183 82 5 = f82_139 := fld_of hk184
          have hf190 : fld w183 82 7 = f82_143 := fld_of hk184
          have hf191 : fld w183 82 10 = f82_149 := fld_of hk184
          have hf192 : fld w183 82 14 = f82_151 + 1 := fld_of hk184
          have hu193 : mu w183 = 2 * (fld w183 82 4 - fld w183 82 5) + min 1 (fld w183 82 7) := rfl
          have pq194 := pk125
          unfold PK PS at pq194
          have hM195 : ∀ s, s < 7 → s ≠ 6 → rwv w183 85 s = rwv w 85 s := fun s hs hn => (rwv_of (hr181.but hb185 (by decide)) hs).trans ((if_neg hn).trans ((rwv_of h85_174 hs).symm.trans (mf128 s hs)))
          have hM196 : rwv w183 85 6 = u45 + 1 := (rwv_of (hr181.but hb185 (by decide)) (by decide)).trans ((if_pos rfl).trans (by omega))
          have hM197 : ∀ s, s < 7 → rwv w183 85 s ≤ rwv w 85 s + 1 := fun s hs => by
            by_cases z : s = 6
            · subst z; omega
            · rw [hM195 s hs z]; omega
          have hO198 : ∀ j, (j < 5 ∨ 7 ≤ j) → j < 140 → rwv w183 86 j = rwv w 86 j := fun j hj hl => (rwv_fr hF186 (by decide)).trans (os126 j hj hl)
          have hl200 : FA w113 ≠ 0 ∨ u45 < 1 := rg127
          have hl201 : rwv w183 86 (5) = rwv w113 86 (5) := rwv_fr hF186 (by decide)
          have hl202 : rwv w183 86 (6) = rwv w113 86 (6) := rwv_fr hF186 (by decide)
          have hN199 : FA w183 ≠ 0 ∨ 1 ≤ u45 ∨ (1 ≤ rwv w183 86 5 ∧ rwv w183 86 5 ≤ 6 ∧ 1 ≤ rwv w183 86 6 ∧ rwv w183 86 6 ≤ 6) := by have q := nw131; omega
          have hX203 : FA w183 ≠ 0 ∨ u45 < 1 := by omega
          have hD204 : FA w183 ≠ 0 ∨ (DATA w → DATA w183) := by
            by_cases z : FA w183 ≠ 0
            · exact Or.inl z
            · exact Or.inr (fun hd => hd.s6 hM195 hK48 hM196 (hX203.resolve_left z) hO198 ((hN199.resolve_left z).resolve_left (by have := hX203.resolve_left z; omega)))
          exact xg_e ⟨w183, ⟨rfl, rfl⟩, xMnv.up (S := [85, 82]) hI115 ((xFr.of (S := [85, 82]) hb182 (by decide)).tr (xFr.of (S := [85, 82]) hb185 (by decide))) (List.forall_mem_cons.mpr ⟨(show cpI 7 52 4294967295 (wget w183 85) from ⟨_, (hr181.but hb185 (by decide)), xrb (by omega) (hb175)⟩), List.forall_mem_cons.mpr ⟨(show cp82 (wget w183 82) from ⟨f82_133, f82_135, f82_137, f82_139, f82_141, f82_143, f82_145, f82_147, f82_149, f82_151 + 1, f82_153, f82_154, f82_155, f82_157, f82_159, f82_161, hk184, hb134, hb136, hb138, hb140, hb142, hb144, hb146, hb148, hb150, by omega, hb156, hb158, hb160, hb162, by omega⟩), fun _ h => absurd h List.not_mem_nil⟩⟩), ((hF71.tr (hF116.up (by decide))).tr ((xFr.of (S := [82, 83, 85, 86, 87]) hb182 (by decide)).tr (xFr.of (S := [82, 83, 85, 86, 87]) hb185 (by decide)))), ⟨fun h => by have := pq194.1 h; omega, (show fld w183 82 10 = 0 ∨ FA w183 ≠ 0 by omega), Or.inr ⟨by have := ms132; omega, by omega, hM197⟩, hD204⟩⟩
        · refine xg_t (xg_icT (u := f82_89) (v := 2) rfl xnm0 xnm0 (xj_neT hc112)) ?_
          refine xg_t (xg_blk (b := [(416, 1, 0, 0, 0, 0), (417, 3, 13, 140, 96, 183)]) rfl) ?_
          refine xg_t (xg_aload (va := (2, 82)) rfl rfl) ?_
          refine xg_cVv mX12_ends (vs := []) (rest := []) (cn1 := 0) (sl1 := 0) rfl (mEnds (hI70) hj73.2.2.2) rfl h82_109 rfl rfl rfl rfl rfl rfl (fun w205 hq206 => ?_)
          obtain ⟨hI207, hF208, hx209⟩ := hq206
          clear hb80 hb82 hb84 hb86 hb88 hb90 hb92 hb94 hb96 hb98 hb102 hb104 hb106 hb108
          obtain ⟨hv210, hv211, hv212, hv213⟩ := hx209
          have pk214 : PK w69 w205 := ⟨fun _ => hv210, by omega, by omega, Or.inr hv210⟩
          have pk215 : PK w w205 := PK.tr hj73 pk214
          have os216 : ∀ j, (j < 5 ∨ 7 ≤ j) → j < 140 → rwv w205 86 j = rwv w 86 j := fun j hj hl => (rwv_fr hF208 (by decide)).trans (hj74 j hj hl)
          have rg217 : FA w205 ≠ 0 ∨ u45 < 1 := hj77.imp_left pk214.1
          have mf218 : ∀ s, s < 7 → rwv w205 85 s = rwv w 85 s := fun s hs => (rwv_fr hF208 (by decide)).trans (hj76 s hs)
          have hl219 : rwv w205 86 (5) = rwv w69 86 (5) := rwv_fr hF208 (by decide)
          have hl220 : rwv w205 86 (6) = rwv w69 86 (6) := rwv_fr hF208 (by decide)
          have nw221 : FA w205 ≠ 0 ∨ 1 ≤ u45 ∨ (1 ≤ rwv w205 86 5 ∧ rwv w205 86 5 ≤ 6 ∧ 1 ≤ rwv w205 86 6 ∧ rwv w205 86 6 ≤ 6) := by have q := hj78; have q1 := pk214.1; omega
          clear hj78
          have ms222 : mu w205 < mu w := Nat.lt_of_le_of_lt pk214.2.1 hj75
          clear hj77
          refine xg_t (xg_blk (b := [(420, 1, 0, 0, 0, 0), (421, 3, 1, 12, 11, 17), (424, 1, 2, 1, 0, 0), (425, 1, 39, 0, 0, 0), (426, 1, 10, 0, 0, 0), (427, 1, 3, 1, 0, 0), (428, 1, 11, 0, 0, 0), (429, 1, 17, 0, 0, 0), (430, 1, 0, 0, 0, 0), (431, 1, 19, 0, 0, 0), (432, 3, 1, 12, 14, 212), (435, 1, 3, 1, 0, 0), (436, 1, 11, 0, 0, 0), (437, 3, 14, 12, 14, 212), (440, 1, 12, 0, 0, 0)]) rfl) ?_
          obtain ⟨f82_223, f82_225, f82_227, f82_229, f82_231, f82_233, f82_235, f82_237, f82_239, f82_241, f82_243, f82_244, f82_245, f82_247, f82_249, f82_251, h82_253, hb224, hb226, hb228, hb230, hb232, hb234, hb236, hb238, hb240, hb242, hb246, hb248, hb250, hb252, hb254⟩ := (hI207 82 (by decide) (by decide) : cp82 (wget w205 82))
          have hf255 : fld w205 82 4 = f82_227 := fld_of h82_253
          have hf256 : fld w205 82 5 = f82_229 := fld_of h82_253
          have hf257 : fld w205 82 7 = f82_233 := fld_of h82_253
          have hf258 : fld w205 82 10 = f82_239 := fld_of h82_253
          have hf259 : fld w205 82 14 = f82_241 := fld_of h82_253
          have hu260 : mu w205 = 2 * (fld w205 82 4 - fld w205 82 5) + min 1 (fld w205 82 7) := rfl
          have hf261 := pk215.2.2.1
          have hl262 : f82_241 ≤ 1000 := by omega
          refine xg_t (xg_aload (va := (2, 82)) rfl rfl) ?_
          refine xg_t (xg_getf (va := (2, 85)) h82_253 rfl) ?_
          refine xg_t (xg_iload (va := (0, 6)) rfl rfl) ?_
          refine xg_t (xg_dup2 rfl) ?_
          obtain ⟨g85_263, h85_264, hb265⟩ := (hI207 85 (by decide) (by decide) : cpI 7 52 4294967295 (wget w205 85))
          have h85_264 : xRow w205 85 7 52 g85_263 := h85_264
          refine xg_ialdB (n := 6) (B := 4294967295) h85_264 (hb265) xnm0 (by omega) (fun u266 hu267 he268 => ?_)
          have hl269 : u266 = u45 := by have q1 := rwv_of h85_264 (show 6 < 7 by decide); have q2 := mf218 6 (by decide); omega
          refine xg_t (xg_const) ?_
          refine xg_t (xg_iadd (u := u266) (v := 1) (z := u266 + 1) xnm0 xnm0 (by omega)) ?_
          refine xg_iastK (n := 6) (u := u266 + 1) h85_264 xnm0 xnm0 rfl (by omega) (fun w270 hr271 hb272 => ?_)
          refine xg_t (xg_aload (va := (2, 82)) rfl rfl) ?_
          refine xg_t (xg_dup rfl) ?_
          refine xg_t (xg_getf (va := (0, f82_241)) (hb272.get (by decide) h82_253) rfl) ?_
          refine xg_t (xg_const) ?_
          refine xg_t (xg_iadd (u := f82_241) (v := 1) (z := f82_241 + 1) xnm0 xnm0 (by omega)) ?_
          refine xg_putI (fl1 := [(2, 83), (2, 84), (0, f82_223), (0, f82_225), (0, f82_227), (0, f82_229), (0, f82_231), (0, f82_233), (0, f82_235), (0, f82_237), (0, f82_239), (2, 85), (2, 86), (2, 87), (0, f82_241 + 1), (2, 88), (2, 89), (2, 90), (2, 91), (2, 92), (2, 93), (2, 94), (4, f82_243), (4, f82_244), (0, f82_245), (2, 95), (2, 96), (2, 97), (2, 98), (2, 99), (2, 100), (2, 101), (2, 102), (0, f82_247), (2, 103), (2, 104), (2, 105), (2, 106), (2, 107), (2, 108), (2, 109), (0, f82_249), (0, f82_251), (2, 110), (2, 111), (2, 112), (2, 113)]) (hb272.get (by decide) h82_253) rfl rfl rfl (fun w273 hk274 hb275 => ?_)
          have hF276 : xFr [82, 85] w205 w273 := ((xFr.of (S := [82, 85]) hb272 (by decide)).tr (xFr.of (S := [82, 85]) hb275 (by decide)))
          have hA277 := FA_fr hF276 (by decide)
          have hf278 : fld w273 82 4 = f82_227 := fld_of hk274
          have hf279 : fld w273 82 5 = f82_229 := fld_of hk274
          have hf280 : fld w273 82 7 = f82_233 := fld_of hk274
          have hf281 : fld w273 82 10 = f82_239 := fld_of hk274
          have hf282 : fld w273 82 14 = f82_241 + 1 := fld_of hk274
          have hu283 : mu w273 = 2 * (fld w273 82 4 - fld w273 82 5) + min 1 (fld w273 82 7) := rfl
          have pq284 := pk215
          unfold PK PS at pq284
          have hM285 : ∀ s, s < 7 → s ≠ 6 → rwv w273 85 s = rwv w 85 s := fun s hs hn => (rwv_of (hr271.but hb275 (by decide)) hs).trans ((if_neg hn).trans ((rwv_of h85_264 hs).symm.trans (mf218 s hs)))
          have hM286 : rwv w273 85 6 = u45 + 1 := (rwv_of (hr271.but hb275 (by decide)) (by decide)).trans ((if_pos rfl).trans (by omega))
          have hM287 : ∀ s, s < 7 → rwv w273 85 s ≤ rwv w 85 s + 1 := fun s hs => by
            by_cases z : s = 6
            · subst z; omega
            · rw [hM285 s hs z]; omega
          have hO288 : ∀ j, (j < 5 ∨ 7 ≤ j) → j < 140 → rwv w273 86 j = rwv w 86 j := fun j hj hl => (rwv_fr hF276 (by decide)).trans (os216 j hj hl)
          have hl290 : FA w205 ≠ 0 ∨ u45 < 1 := rg217
          have hl291 : rwv w273 86 (5) = rwv w205 86 (5) := rwv_fr hF276 (by decide)
          have hl292 : rwv w273 86 (6) = rwv w205 86 (6) := rwv_fr hF276 (by decide)
          have hN289 : FA w273 ≠ 0 ∨ 1 ≤ u45 ∨ (1 ≤ rwv w273 86 5 ∧ rwv w273 86 5 ≤ 6 ∧ 1 ≤ rwv w273 86 6 ∧ rwv w273 86 6 ≤ 6) := by have q := nw221; omega
          have hX293 : FA w273 ≠ 0 ∨ u45 < 1 := by omega
          have hD294 : FA w273 ≠ 0 ∨ (DATA w → DATA w273) := by
            by_cases z : FA w273 ≠ 0
            · exact Or.inl z
            · exact Or.inr (fun hd => hd.s6 hM285 hK48 hM286 (hX293.resolve_left z) hO288 ((hN289.resolve_left z).resolve_left (by have := hX293.resolve_left z; omega)))
          exact xg_e ⟨w273, ⟨rfl, rfl⟩, xMnv.up (S := [85, 82]) hI207 ((xFr.of (S := [85, 82]) hb272 (by decide)).tr (xFr.of (S := [85, 82]) hb275 (by decide))) (List.forall_mem_cons.mpr ⟨(show cpI 7 52 4294967295 (wget w273 85) from ⟨_, (hr271.but hb275 (by decide)), xrb (by omega) (hb265)⟩), List.forall_mem_cons.mpr ⟨(show cp82 (wget w273 82) from ⟨f82_223, f82_225, f82_227, f82_229, f82_231, f82_233, f82_235, f82_237, f82_239, f82_241 + 1, f82_243, f82_244, f82_245, f82_247, f82_249, f82_251, hk274, hb224, hb226, hb228, hb230, hb232, hb234, hb236, hb238, hb240, by omega, hb246, hb248, hb250, hb252, by omega⟩), fun _ h => absurd h List.not_mem_nil⟩⟩), ((hF71.tr (hF208.up (by decide))).tr ((xFr.of (S := [82, 83, 85, 86, 87]) hb272 (by decide)).tr (xFr.of (S := [82, 83, 85, 86, 87]) hb275 (by decide)))), ⟨fun h => by have := pq284.1 h; omega, (show fld w273 82 10 = 0 ∨ FA w273 ≠ 0 by omega), Or.inr ⟨by have := ms222; omega, by omega, hM287⟩, hD294⟩⟩
      · refine xg_t (xg_ifT (u := f82_95) rfl xnm0 (xj_neT hc111)) ?_
        refine xg_t (xg_blk (b := [(416, 1, 0, 0, 0, 0), (417, 3, 13, 140, 96, 183)]) rfl) ?_
        refine xg_t (xg_aload (va := (2, 82)) rfl rfl) ?_
        refine xg_cVv mX12_ends (vs := []) (rest := []) (cn1 := 0) (sl1 := 0) rfl (mEnds (hI70) hj73.2.2.2) rfl h82_109 rfl rfl rfl rfl rfl rfl (fun w295 hq296 => ?_)
        obtain ⟨hI297, hF298, hx299⟩ := hq296
        clear hb80 hb82 hb84 hb86 hb88 hb90 hb92 hb94 hb96 hb98 hb102 hb104 hb106 hb108
        obtain ⟨hv300, hv301, hv302, hv303⟩ := hx299
        have pk304 : PK w69 w295 := ⟨fun _ => hv300, by omega, by omega, Or.inr hv300⟩
        have pk305 : PK w w295 := PK.tr hj73 pk304
        have os306 : ∀ j, (j < 5 ∨ 7 ≤ j) → j < 140 → rwv w295 86 j = rwv w 86 j := fun j hj hl => (rwv_fr hF298 (by decide)).trans (hj74 j hj hl)
        have rg307 : FA w295 ≠ 0 ∨ u45 < 1 := hj77.imp_left pk304.1
        have mf308 : ∀ s, s < 7 → rwv w295 85 s = rwv w 85 s := fun s hs => (rwv_fr hF298 (by decide)).trans (hj76 s hs)
        have hl309 : rwv w295 86 (5) = rwv w69 86 (5) := rwv_fr hF298 (by decide)
        have hl310 : rwv w295 86 (6) = rwv w69 86 (6) := rwv_fr hF298 (by decide)
        have nw311 : FA w295 ≠ 0 ∨ 1 ≤ u45 ∨ (1 ≤ rwv w295 86 5 ∧ rwv w295 86 5 ≤ 6 ∧ 1 ≤ rwv w295 86 6 ∧ rwv w295 86 6 ≤ 6) := by have q := hj78; have q1 := pk304.1; omega
        clear hj78
        have ms312 : mu w295 < mu w := Nat.lt_of_le_of_lt pk304.2.1 hj75
        clear hj77
        refine xg_t (xg_blk (b := [(420, 1, 0, 0, 0, 0), (421, 3, 1, 12, 11, 17), (424, 1, 2, 1, 0, 0), (425, 1, 39, 0, 0, 0), (426, 1, 10, 0, 0, 0), (427, 1, 3, 1, 0, 0), (428, 1, 11, 0, 0, 0), (429, 1, 17, 0, 0, 0), (430, 1, 0, 0, 0, 0), (431, 1, 19, 0, 0, 0), (432, 3, 1, 12, 14, 212), (435, 1, 3, 1, 0, 0), (436, 1, 11, 0, 0, 0), (437, 3, 14, 12, 14, 212), (440, 1, 12, 0, 0, 0)]) rfl) ?_
        obtain ⟨f82_313, f82_315, f82_317, f82_319, f82_321, f82_323, f82_325, f82_327, f82_329, f82_331, f82_333, f82_334, f82_335, f82_337, f82_339, f82_341, h82_343, hb314, hb316, hb318, hb320, hb322, hb324, hb326, hb328, hb330, hb332, hb336, hb338, hb340, hb342, hb344⟩ := (hI297 82 (by decide) (by decide) : cp82 (wget w295 82))
        have hf345 : fld w295 82 4 = f82_317 := fld_of h82_343
        have hf346 : fld w295 82 5 = f82_319 := fld_of h82_343
        have hf347 : fld w295 82 7 = f82_323 := fld_of h82_343
        have hf348 : fld w295 82 10 = f82_329 := fld_of h82_343
        have hf349 : fld w295 82 14 = f82_331 := fld_of h82_343
        have hu350 : mu w295 = 2 * (fld w295 82 4 - fld w295 82 5) + min 1 (fld w295 82 7) := rfl
        have hf351 := pk305.2.2.1
        have hl352 : f82_331 ≤ 1000 := by omega
        refine xg_t (xg_aload (va := (2, 82)) rfl rfl) ?_
        refine xg_t (xg_getf (va := (2, 85)) h82_343 rfl) ?_
        refine xg_t (xg_iload (va := (0, 6)) rfl rfl) ?_
        refine xg_t (xg_dup2 rfl) ?_
        obtain ⟨g85_353, h85_354, hb355⟩ := (hI297 85 (by decide) (by decide) : cpI 7 52 4294967295 (wget w295 85))
        have h85_354 : xRow w295 85 7 52 g85_353 := h85_354
        refine xg_ialdB (n := 6) (B := 4294967295) h85_354 (hb355) xnm0 (by omega) (fun u356 hu357 he358 => ?_)
        have hl359 : u356 = u45 := by have q1 := rwv_of h85_354 (show 6 < 7 by decide); have q2 := mf308 6 (by decide); omega
        refine xg_t (xg_const) ?_
        refine xg_t (xg_iadd (u := u356) (v := 1) (z := u356 + 1) xnm0 xnm0 (by omega)) ?_
        refine xg_iastK (n := 6) (u := u356 + 1) h85_354 xnm0 xnm0 rfl (by omega) (fun w360 hr361 hb362 => ?_)
        refine xg_t (xg_aload (va := (2, 82)) rfl rfl) ?_
        refine xg_t (xg_dup rfl) ?_
        refine xg_t (xg_getf (va := (0, f82_331)) (hb362.get (by decide) h82_343) rfl) ?_
        refine xg_t (xg_const) ?_
        refine xg_t (xg_iadd (u := f82_331) (v := 1) (z := f82_331 + 1) xnm0 xnm0 (by omega)) ?_
        refine xg_putI (fl1 := [(2, 83), (2, 84), (0, f82_313), (0, f82_315), (0, f82_317), (0, f82_319), (0, f82_321), (0, f82_323), (0, f82_325), (0, f82_327), (0, f82_329), (2, 85), (2, 86), (2, 87), (0, f82_331 + 1), (2, 88), (2, 89), (2, 90), (2, 91), (2, 92), (2, 93), (2, 94), (4, f82_333), (4, f82_334), (0, f82_335), (2, 95), (2, 96), (2, 97), (2, 98), (2, 99), (2, 100), (2, 101), (2, 102), (0, f82_337), (2, 103), (2, 104), (2, 105), (2, 106), (2, 107), (2, 108), (2, 109), (0, f82_339), (0, f82_341), (2, 110), (2, 111), (2, 112), (2, 113)]) (hb362.get (by decide) h82_343) rfl rfl rfl (fun w363 hk364 hb365 => ?_)
        have hF366 : xFr [82, 85] w295 w363 := ((xFr.of (S := [82, 85]) hb362 (by decide)).tr (xFr.of (S := [82, 85]) hb365 (by decide)))
        have hA367 := FA_fr hF366 (by decide)
        have hf368 : fld w363 82 4 = f82_317 := fld_of hk364
        have hf369 : fld w363 82 5 = f82_319 := fld_of hk364
        have hf370 : fld w363 82 7 = f82_323 := fld_of hk364
        have hf371 : fld w363 82 10 = f82_329 := fld_of hk364
        have hf372 : fld w363 82 14 = f82_331 + 1 := fld_of hk364
        have hu373 : mu w363 = 2 * (fld w363 82 4 - fld w363 82 5) + min 1 (fld w363 82 7) := rfl
        have pq374 := pk305
        unfold PK PS at pq374
        have hM375 : ∀ s, s < 7 → s ≠ 6 → rwv w363 85 s = rwv w 85 s := fun s hs hn => (rwv_of (hr361.but hb365 (by decide)) hs).trans ((if_neg hn).trans ((rwv_of h85_354 hs).symm.trans (mf308 s hs)))
        have hM376 : rwv w363 85 6 = u45 + 1 := (rwv_of (hr361.but hb365 (by decide)) (by decide)).trans ((if_pos rfl).trans (by omega))
        have hM377 : ∀ s, s < 7 → rwv w363 85 s ≤ rwv w 85 s + 1 := fun s hs => by
          by_cases z : s = 6
          · subst z; omega
          · rw [hM375 s hs z]; omega
        have hO378 : ∀ j, (j < 5 ∨ 7 ≤ j) → j < 140 → rwv w363 86 j = rwv w 86 j := fun j hj hl => (rwv_fr hF366 (by decide)).trans (os306 j hj hl)
        have hl380 : FA w295 ≠ 0 ∨ u45 < 1 := rg307
        have hl381 : rwv w363 86 (5) = rwv w295 86 (5) := rwv_fr hF366 (by decide)
        have hl382 : rwv w363 86 (6) = rwv w295 86 (6) := rwv_fr hF366 (by decide)
        have hN379 : FA w363 ≠ 0 ∨ 1 ≤ u45 ∨ (1 ≤ rwv w363 86 5 ∧ rwv w363 86 5 ≤ 6 ∧ 1 ≤ rwv w363 86 6 ∧ rwv w363 86 6 ≤ 6) := by have q := nw311; omega
        have hX383 : FA w363 ≠ 0 ∨ u45 < 1 := by omega
        have hD384 : FA w363 ≠ 0 ∨ (DATA w → DATA w363) := by
          by_cases z : FA w363 ≠ 0
          · exact Or.inl z
          · exact Or.inr (fun hd => hd.s6 hM375 hK48 hM376 (hX383.resolve_left z) hO378 ((hN379.resolve_left z).resolve_left (by have := hX383.resolve_left z; omega)))
        exact xg_e ⟨w363, ⟨rfl, rfl⟩, xMnv.up (S := [85, 82]) hI297 ((xFr.of (S := [85, 82]) hb362 (by decide)).tr (xFr.of (S := [85, 82]) hb365 (by decide))) (List.forall_mem_cons.mpr ⟨(show cpI 7 52 4294967295 (wget w363 85) from ⟨_, (hr361.but hb365 (by decide)), xrb (by omega) (hb355)⟩), List.forall_mem_cons.mpr ⟨(show cp82 (wget w363 82) from ⟨f82_313, f82_315, f82_317, f82_319, f82_321, f82_323, f82_325, f82_327, f82_329, f82_331 + 1, f82_333, f82_334, f82_335, f82_337, f82_339, f82_341, hk364, hb314, hb316, hb318, hb320, hb322, hb324, hb326, hb328, hb330, by omega, hb336, hb338, hb340, hb342, by omega⟩), fun _ h => absurd h List.not_mem_nil⟩⟩), ((hF71.tr (hF298.up (by decide))).tr ((xFr.of (S := [82, 83, 85, 86, 87]) hb362 (by decide)).tr (xFr.of (S := [82, 83, 85, 86, 87]) hb365 (by decide)))), ⟨fun h => by have := pq374.1 h; omega, (show fld w363 82 10 = 0 ∨ FA w363 ≠ 0 by omega), Or.inr ⟨by have := ms312; omega, by omega, hM377⟩, hD384⟩⟩
    refine xg_t (xg_iload (va := (0, 6)) rfl rfl) ?_
    refine xg_t (xg_swt (ks := [(0, 108), (1, 116), (2, 180), (3, 221), (4, 273), (5, 326)]) (u := 6) (z := 362) rfl rfl rfl xnm0 (xsw_n (by omega) (xsw_n (by omega) (xsw_n (by omega) (xsw_n (by omega) (xsw_n (by omega) (xsw_n (by omega) (xsw_d)))))))) ?_
    refine xg_t (xg_blk (b := [(362, 1, 3, 0, 0, 0), (363, 2, 15, 4, 0, 0)]) rfl) ?_
    refine xg_t (xg_const) ?_
    refine xg_t (xg_istore (l1 := [(3, (0, u45)), (2, (0, at_)), (1, (0, 6)), (0, (2, 82))]) rfl rfl rfl) ?_
    refine xg_t (xg_blk (b := [(365, 2, 2, 4, 0, 0), (367, 1, 3, 2, 0, 0), (368, 3, 6, 394, 3, 0), (371, 1, 0, 0, 0, 0), (372, 1, 2, 1, 0, 0), (373, 1, 2, 3, 0, 0), (374, 1, 3, 5, 0, 0), (375, 2, 2, 4, 0, 0), (377, 1, 11, 0, 0, 0), (378, 1, 0, 0, 0, 0), (379, 1, 3, 1, 0, 0), (380, 2, 4, 6, 0, 0), (382, 3, 13, 199, 96, 196), (385, 3, 13, 211, 96, 200), (388, 3, 9, 4, 1, 0), (391, 3, 8, 365, 0, 0)]) rfl) ?_
    refine xg_t (xg_iload (va := (0, 0)) rfl rfl) ?_
    refine xg_t (xg_const) ?_
    refine xg_t (xg_icF (u := 0) (v := 2) rfl xnm0 xnm0 (by decide)) ?_
    refine xg_t (xg_aload (va := (2, 82)) rfl rfl) ?_
    refine xg_t (xg_iload (va := (0, 6)) rfl rfl) ?_
    refine xg_t (xg_iload (va := (0, u45)) rfl rfl) ?_
    refine xg_t (xg_const) ?_
    refine xg_t (xg_iload (va := (0, 0)) rfl rfl) ?_
    refine xg_t (xg_iadd (u := 5) (v := 0) (z := 5) xnm0 xnm0 (by decide)) ?_
    refine xg_t (xg_aload (va := (2, 82)) rfl rfl) ?_
    refine xg_t (xg_const) ?_
    refine xg_t (xg_bip) ?_
    obtain ⟨f82_385, f82_387, f82_389, f82_391, f82_393, f82_395, f82_397, f82_399, f82_401, f82_403, f82_405, f82_406, f82_407, f82_409, f82_411, f82_413, h82_415, hb386, hb388, hb390, hb392, hb394, hb396, hb398, hb400, hb402, hb404, hb408, hb410, hb412, hb414, hb416⟩ := (hI54 82 (by decide) (by decide) : cp82 (wget w52 82))
    refine xg_cVi mX12_numbered (vs := [(0, 1), (0, 6)]) (rest := [(0, 5), (0, u45), (0, 6), (2, 82)]) (cn1 := 0) (sl1 := 0) rfl (mNumbered (hI54) (by omega) (by omega) pk64.2.2.2) rfl h82_415 rfl rfl rfl rfl rfl rfl (fun n421 w417 hq418 => ?_)
    obtain ⟨hn422, hI419, hF420⟩ := hq418
    clear hb386 hb388 hb390 hb392 hb394 hb396 hb398 hb400 hb402 hb404 hb408 hb410 hb412 hb414
    obtain ⟨hn423, hn424, hn425⟩ := hn422
    have pk426 : PK w w417 := PK.tr pk64 hn424
    have os427 : ∀ j, (j < 5 ∨ 7 ≤ j) → j < 140 → rwv w417 86 j = rwv w 86 j := fun j hj hl => (rwv_fr hF420 (by decide)).trans (os65 j hj hl)
    have mf428 : ∀ s, s < 7 → rwv w417 85 s = rwv w 85 s := fun s hs => (rwv_fr hF420 (by decide)).trans (mf66 s hs)
    have ms429 : mu w417 < mu w := Nat.lt_of_le_of_lt hn424.2.1 ms67
    obtain ⟨f82_430, f82_432, f82_434, f82_436, f82_438, f82_440, f82_442, f82_444, f82_446, f82_448, f82_450, f82_451, f82_452, f82_454, f82_456, f82_458, h82_460, hb431, hb433, hb435, hb437, hb439, hb441, hb443, hb445, hb447, hb449, hb453, hb455, hb457, hb459, hb461⟩ := (hI419 82 (by decide) (by decide) : cp82 (wget w417 82))
    refine xg_cVv mX12_puts (vs := [(0, 6), (0, u45), (0, 5), (0, n421)]) (rest := []) (cn1 := 0) (sl1 := 0) rfl (mPuts6 (hI419) (by omega) (by omega) (by omega) (fun _ => by omega)) rfl h82_460 rfl rfl rfl rfl rfl rfl (fun w462 hq463 => ?_)
    obtain ⟨hI464, hF465, hx466⟩ := hq463
    obtain ⟨hp467, hp468⟩ := hx466
    have pk469 : PK w w462 := PK.tr pk426 (PK.fr hF465 (by decide) (by decide) pk426.2.2.2)
    have os470 : ∀ j, (j < 5 ∨ 7 ≤ j) → j < 140 → rwv w462 86 j = rwv w 86 j := fun j hj hl => (hp468 j (by omega) hl).trans (os427 j hj hl)
    have rg471 : FA w462 ≠ 0 ∨ (1 ≤ n421 ∧ n421 ≤ 6) := hn425.imp_left (PK.fr hF465 (by decide) (by decide) pk426.2.2.2).1
    have mf472 : ∀ s, s < 7 → rwv w462 85 s = rwv w 85 s := fun s hs => (rwv_fr hF465 (by decide)).trans (mf428 s hs)
    have ms473 : mu w462 < mu w := Nat.lt_of_le_of_lt (PK.fr hF465 (by decide) (by decide) pk426.2.2.2).2.1 ms429
    clear hn425
    refine xg_t (xg_iinc (u := 0) (z := 1) (l1 := [(3, (0, u45)), (2, (0, at_)), (1, (0, 6)), (0, (2, 82))]) rfl rfl (by decide) rfl) ?_
    refine xg_t (xg_goto) ?_
    refine xg_t (xg_blk (b := [(365, 2, 2, 4, 0, 0), (367, 1, 3, 2, 0, 0), (368, 3, 6, 394, 3, 0), (371, 1, 0, 0, 0, 0), (372, 1, 2, 1, 0, 0), (373, 1, 2, 3, 0, 0), (374, 1, 3, 5, 0, 0), (375, 2, 2, 4, 0, 0), (377, 1, 11, 0, 0, 0), (378, 1, 0, 0, 0, 0), (379, 1, 3, 1, 0, 0), (380, 2, 4, 6, 0, 0), (382, 3, 13, 199, 96, 196), (385, 3, 13, 211, 96, 200), (388, 3, 9, 4, 1, 0), (391, 3, 8, 365, 0, 0)]) rfl) ?_
    refine xg_t (xg_iload (va := (0, 1)) rfl rfl) ?_
    refine xg_t (xg_const) ?_
    refine xg_t (xg_icF (u := 1) (v := 2) rfl xnm0 xnm0 (by decide)) ?_
    refine xg_t (xg_aload (va := (2, 82)) rfl rfl) ?_
    refine xg_t (xg_iload (va := (0, 6)) rfl rfl) ?_
    refine xg_t (xg_iload (va := (0, u45)) rfl rfl) ?_
    refine xg_t (xg_const) ?_
    refine xg_t (xg_iload (va := (0, 1)) rfl rfl) ?_
    refine xg_t (xg_iadd (u := 5) (v := 1) (z := 6) xnm0 xnm0 (by decide)) ?_
    refine xg_t (xg_aload (va := (2, 82)) rfl rfl) ?_
    refine xg_t (xg_const) ?_
    refine xg_t (xg_bip) ?_
    refine xg_cVi mX12_numbered (vs := [(0, 1), (0, 6)]) (rest := [(0, 6), (0, u45), (0, 6), (2, 82)]) (cn1 := 0) (sl1 := 0) rfl (mNumbered (hI464) (by omega) (by omega) pk469.2.2.2) rfl (hF465.get (by decide) h82_460) rfl rfl rfl rfl rfl rfl (fun n478 w474 hq475 => ?_)
    obtain ⟨hn479, hI476, hF477⟩ := hq475
    clear hb431 hb433 hb435 hb437 hb439 hb441 hb443 hb445 hb447 hb449 hb453 hb455 hb457 hb459
    obtain ⟨hn480, hn481, hn482⟩ := hn479
    have pk483 : PK w w474 := PK.tr pk469 hn481
    have os484 : ∀ j, (j < 5 ∨ 7 ≤ j) → j < 140 → rwv w474 86 j = rwv w 86 j := fun j hj hl => (rwv_fr hF477 (by decide)).trans (os470 j hj hl)
    have ix485 : u45 < 1 → rwv w474 86 (5) = n421 := fun h => (rwv_fr hF477 (by decide)).trans (hp467 h)
    have rg486 : FA w474 ≠ 0 ∨ (1 ≤ n421 ∧ n421 ≤ 6) := rg471.imp_left hn481.1
    have mf487 : ∀ s, s < 7 → rwv w474 85 s = rwv w 85 s := fun s hs => (rwv_fr hF477 (by decide)).trans (mf472 s hs)
    have ms488 : mu w474 < mu w := Nat.lt_of_le_of_lt hn481.2.1 ms473
    clear hp467 rg471
    obtain ⟨f82_489, f82_491, f82_493, f82_495, f82_497, f82_499, f82_501, f82_503, f82_505, f82_507, f82_509, f82_510, f82_511, f82_513, f82_515, f82_517, h82_519, hb490, hb492, hb494, hb496, hb498, hb500, hb502, hb504, hb506, hb508, hb512, hb514, hb516, hb518, hb520⟩ := (hI476 82 (by decide) (by decide) : cp82 (wget w474 82))
    refine xg_cVv mX12_puts (vs := [(0, 6), (0, u45), (0, 6), (0, n478)]) (rest := []) (cn1 := 0) (sl1 := 0) rfl (mPuts6 (hI476) (by omega) (by omega) (by omega) (fun _ => by omega)) rfl h82_519 rfl rfl rfl rfl rfl rfl (fun w521 hq522 => ?_)
    obtain ⟨hI523, hF524, hx525⟩ := hq522
    obtain ⟨hp526, hp527⟩ := hx525
    have pk528 : PK w w521 := PK.tr pk483 (PK.fr hF524 (by decide) (by decide) pk483.2.2.2)
    have os529 : ∀ j, (j < 5 ∨ 7 ≤ j) → j < 140 → rwv w521 86 j = rwv w 86 j := fun j hj hl => (hp527 j (by omega) hl).trans (os484 j hj hl)
    have ix530 : u45 < 1 → rwv w521 86 (5) = n421 := fun h => (hp527 _ (by omega) (by omega)).trans (ix485 h)
    have rg531 : FA w521 ≠ 0 ∨ (1 ≤ n421 ∧ n421 ≤ 6) := rg486.imp_left (PK.fr hF524 (by decide) (by decide) pk483.2.2.2).1
    have rg532 : FA w521 ≠ 0 ∨ (1 ≤ n478 ∧ n478 ≤ 6) := hn482.imp_left (PK.fr hF524 (by decide) (by decide) pk483.2.2.2).1
    have mf533 : ∀ s, s < 7 → rwv w521 85 s = rwv w 85 s := fun s hs => (rwv_fr hF524 (by decide)).trans (mf487 s hs)
    have ms534 : mu w521 < mu w := Nat.lt_of_le_of_lt (PK.fr hF524 (by decide) (by decide) pk483.2.2.2).2.1 ms488
    clear ix485 rg486 hn482
    refine xg_t (xg_iinc (u := 1) (z := 2) (l1 := [(3, (0, u45)), (2, (0, at_)), (1, (0, 6)), (0, (2, 82))]) rfl rfl (by decide) rfl) ?_
    refine xg_t (xg_goto) ?_
    refine xg_t (xg_blk (b := [(365, 2, 2, 4, 0, 0), (367, 1, 3, 2, 0, 0), (368, 3, 6, 394, 3, 0), (371, 1, 0, 0, 0, 0), (372, 1, 2, 1, 0, 0), (373, 1, 2, 3, 0, 0), (374, 1, 3, 5, 0, 0), (375, 2, 2, 4, 0, 0), (377, 1, 11, 0, 0, 0), (378, 1, 0, 0, 0, 0), (379, 1, 3, 1, 0, 0), (380, 2, 4, 6, 0, 0), (382, 3, 13, 199, 96, 196), (385, 3, 13, 211, 96, 200), (388, 3, 9, 4, 1, 0), (391, 3, 8, 365, 0, 0)]) rfl) ?_
    refine xg_t (xg_iload (va := (0, 2)) rfl rfl) ?_
    refine xg_t (xg_const) ?_
    refine xg_t (xg_icT (u := 2) (v := 2) rfl xnm0 xnm0 (by decide)) ?_
    refine xg_t (xg_drop (l1 := [(0, (2, 82)), (1, (0, 6)), (3, (0, u45))]) (List.forall_mem_cons.mpr ⟨List.mem_cons_of_mem _ (List.mem_cons_of_mem _ (List.mem_cons_of_mem _ (List.mem_cons_of_mem _ (List.mem_cons_self)))), List.forall_mem_cons.mpr ⟨List.mem_cons_of_mem _ (List.mem_cons_of_mem _ (List.mem_cons_of_mem _ (List.mem_cons_self))), List.forall_mem_cons.mpr ⟨List.mem_cons_of_mem _ (List.mem_cons_self), fun _ h => absurd h List.not_mem_nil⟩⟩⟩)) ?_
    have hX535 : FA w521 ≠ 0 ∨ u45 < 1 := Or.inr (by omega)
    have hN536 : FA w521 ≠ 0 ∨ 1 ≤ u45 ∨ (1 ≤ rwv w521 86 5 ∧ rwv w521 86 5 ≤ 6 ∧ 1 ≤ rwv w521 86 6 ∧ rwv w521 86 6 ≤ 6) := by
      have hl537 : u45 < 1 → rwv w521 86 (5) = n421 := ix530
      have hl538 : u45 < 1 → rwv w521 86 (6) = n478 := hp526
      have hl539 := rg531
      have hl540 := rg532
      omega
    exact jn68 w521 (hI523) ((((((hF55.up (by decide)).tr (hF420.up (by decide))).tr (hF465.up (by decide))).tr (hF477.up (by decide))).tr (hF524.up (by decide)))) (⟨pk528, os529, ms534, mf533, hX535, hN536⟩)
  · refine xg_t (xg_icF (u := u45) (v := 1) rfl xnm0 xnm0 (xj_ltF (by omega) (by omega))) ?_
    refine xg_t (xg_aload (va := (2, 82)) rfl rfl) ?_
    refine xg_t (xg_const) ?_
    refine xg_t (xg_iload (va := (0, at_)) rfl rfl) ?_
    refine xg_cVv mX12_also (vs := [(0, 3), (0, at_)]) (rest := []) (cn1 := 0) (sl1 := 0) rfl (mAlso (hI) (by omega) (by omega) (by omega) (PK.rf hps).2.2.2) rfl h82_31 rfl rfl rfl rfl rfl rfl (fun w541 hq542 => ?_)
    obtain ⟨hI543, hF544, hx545⟩ := hq542
    have pk546 : PK w w541 := ⟨fun _ => hx545, Nat.le_of_eq (mu_fr hF544 (by decide)), fld_fr hF544 (by decide), Or.inr hx545⟩
    have pk547 : PK w w541 := PK.tr (PK.rf hps) pk546
    have os548 : ∀ j, (j < 5 ∨ 7 ≤ j) → j < 140 → rwv w541 86 j = rwv w 86 j := fun j hj hl => (rwv_fr hF544 (by decide)).trans ((fun j _ _ => rfl) j hj hl)
    have mf549 : ∀ s, s < 7 → rwv w541 85 s = rwv w 85 s := fun s hs => (rwv_fr hF544 (by decide)).trans ((fun _ _ => rfl) s hs)
    have hf550 := fld_fr (c := 82) (j := 7) hF544 (by decide)
    refine xg_t (xg_blk (b := [(64, 1, 0, 0, 0, 0), (65, 3, 13, 110, 96, 190), (68, 1, 2, 1, 0, 0), (69, 39, 33, 362, 0, 9)]) rfl) ?_
    refine xg_t (xg_aload (va := (2, 82)) rfl rfl) ?_
    refine xg_cVv mX12_advance (vs := []) (rest := []) (cn1 := 0) (sl1 := 0) rfl (mAdvance (hI543)) rfl (hF544.get (by decide) h82_31) rfl rfl rfl rfl rfl rfl (fun w551 hq552 => ?_)
    obtain ⟨hI553, hF554, hx555⟩ := hq552
    clear hb2 hb4 hb6 hb8 hb10 hb12 hb14 hb16 hb18 hb20 hb24 hb26 hb28 hb30
    obtain ⟨hv556, hv557, hv558, hv559⟩ := hx555
    have hf561 := FA_fr hF554 (by decide)
    have hs562 := pk547.2.2.2
    unfold PS at hs562
    have pk560 : PK w541 w551 := ⟨fun _ => by omega, hv556, hv559, (show fld w551 82 10 = 0 ∨ FA w551 ≠ 0 by omega)⟩
    clear hs562
    have pk563 : PK w w551 := PK.tr pk547 pk560
    have os564 : ∀ j, (j < 5 ∨ 7 ≤ j) → j < 140 → rwv w551 86 j = rwv w 86 j := fun j hj hl => (rwv_fr hF554 (by decide)).trans (os548 j hj hl)
    have rg565 : FA w551 ≠ 0 ∨ 0 = 1 := (Or.inl hx545 : FA w541 ≠ 0 ∨ 0 = 1).imp_left pk560.1
    have mf566 : ∀ s, s < 7 → rwv w551 85 s = rwv w 85 s := fun s hs => (rwv_fr hF554 (by decide)).trans (mf549 s hs)
    have ms567 : mu w551 < mu w := Nat.lt_of_lt_of_le (hv557 (by omega)) pk547.2.1
    clear hv557
    have jn568 : ∀ (w569 : List (List xE)), xMnv w569 → xFr [82, 83, 85, 86, 87] w w569 → (PK w w569 ∧ (∀ j, (j < 5 ∨ 7 ≤ j) → j < 140 → rwv w569 86 j = rwv w 86 j) ∧ mu w569 < mu w ∧ (∀ s, s < 7 → rwv w569 85 s = rwv w 85 s) ∧ (FA w569 ≠ 0 ∨ u45 < 1) ∧ (FA w569 ≠ 0 ∨ 1 ≤ u45 ∨ (1 ≤ rwv w569 86 5 ∧ rwv w569 86 5 ≤ 6 ∧ 1 ≤ rwv w569 86 6 ∧ rwv w569 86 6 ≤ 6))) → xTo (d + 7) mX12_aLine (394, [], [(0, (2, 82)), (1, (0, 6)), (3, (0, u45))], [], (w569, bd, fc, 0, 0, rr)) (fun φ => ∃ w', xEnd 0 [] (w', bd, fc, 0, 0, rr) φ ∧ xMnv w' ∧ xFr [82, 83, 85, 86, 87] w w' ∧ ((FA w ≠ 0 → FA w' ≠ 0) ∧ PS w' ∧ ((fld w' 82 10 = 1 ∧ mu w' = mu w ∧ fld w' 82 14 = fld w 82 14 ∧ ∀ s, s < 7 → rwv w' 85 s = rwv w 85 s) ∨ (mu w' < mu w ∧ fld w' 82 14 = fld w 82 14 + 1 ∧ ∀ s, s < 7 → rwv w' 85 s ≤ rwv w 85 s + 1)) ∧ (FA w' ≠ 0 ∨ (DATA w → DATA w')))) := by
      intro w569 hI570 hF571 he572
      obtain ⟨hj573, hj574, hj575, hj576, hj577, hj578⟩ := he572
      refine xg_t (xg_blk (b := [(394, 1, 0, 0, 0, 0), (395, 3, 1, 12, 10, 180), (398, 3, 7, 416, 1, 0), (401, 1, 0, 0, 0, 0), (402, 3, 1, 12, 7, 151), (405, 1, 3, 2, 0, 0), (406, 3, 6, 416, 1, 0), (409, 1, 0, 0, 0, 0), (410, 3, 13, 110, 96, 190), (413, 3, 8, 420, 0, 0)]) rfl) ?_
      refine xg_t (xg_aload (va := (2, 82)) rfl rfl) ?_
      obtain ⟨f82_579, f82_581, f82_583, f82_585, f82_587, f82_589, f82_591, f82_593, f82_595, f82_597, f82_599, f82_600, f82_601, f82_603, f82_605, f82_607, h82_609, hb580, hb582, hb584, hb586, hb588, hb590, hb592, hb594, hb596, hb598, hb602, hb604, hb606, hb608, hb610⟩ := (hI570 82 (by decide) (by decide) : cp82 (wget w569 82))
      refine xg_t (xg_getf (va := (0, f82_595)) h82_609 rfl) ?_
      by_cases hc611 : f82_595 = 0
      · refine xg_t (xg_ifF (u := f82_595) rfl xnm0 (xj_neF hc611)) ?_
        refine xg_t (xg_aload (va := (2, 82)) rfl rfl) ?_
        refine xg_t (xg_getf (va := (0, f82_589)) h82_609 rfl) ?_
        refine xg_t (xg_const) ?_
        by_cases hc612 : f82_589 = 2
        · refine xg_t (xg_icF (u := f82_589) (v := 2) rfl xnm0 xnm0 (xj_neF hc612)) ?_
          refine xg_t (xg_aload (va := (2, 82)) rfl rfl) ?_
          refine xg_cVv mX12_advance (vs := []) (rest := []) (cn1 := 0) (sl1 := 0) rfl (mAdvance (hI570)) rfl h82_609 rfl rfl rfl rfl rfl rfl (fun w613 hq614 => ?_)
          obtain ⟨hI615, hF616, hx617⟩ := hq614
          clear hb580 hb582 hb584 hb586 hb588 hb590 hb592 hb594 hb596 hb598 hb602 hb604 hb606 hb608
          obtain ⟨hv618, hv619, hv620, hv621⟩ := hx617
          have hf623 := FA_fr hF616 (by decide)
          have hs624 := hj573.2.2.2
          unfold PS at hs624
          have pk622 : PK w569 w613 := ⟨fun _ => by omega, hv618, hv621, (show fld w613 82 10 = 0 ∨ FA w613 ≠ 0 by omega)⟩
          clear hs624
          clear hv619
          have pk625 : PK w w613 := PK.tr hj573 pk622
          have os626 : ∀ j, (j < 5 ∨ 7 ≤ j) → j < 140 → rwv w613 86 j = rwv w 86 j := fun j hj hl => (rwv_fr hF616 (by decide)).trans (hj574 j hj hl)
          have rg627 : FA w613 ≠ 0 ∨ u45 < 1 := hj577.imp_left pk622.1
          have mf628 : ∀ s, s < 7 → rwv w613 85 s = rwv w 85 s := fun s hs => (rwv_fr hF616 (by decide)).trans (hj576 s hs)
          have hl629 : rwv w613 86 (5) = rwv w569 86 (5) := rwv_fr hF616 (by decide)
          have hl630 : rwv w613 86 (6) = rwv w569 86 (6) := rwv_fr hF616 (by decide)
          have nw631 : FA w613 ≠ 0 ∨ 1 ≤ u45 ∨ (1 ≤ rwv w613 86 5 ∧ rwv w613 86 5 ≤ 6 ∧ 1 ≤ rwv w613 86 6 ∧ rwv w613 86 6 ≤ 6) := by have q := hj578; have q1 := pk622.1; omega
          clear hj578
          have ms632 : mu w613 < mu w := Nat.lt_of_le_of_lt pk622.2.1 hj575
          clear hj577
          refine xg_t (xg_goto) ?_
          refine xg_t (xg_blk (b := [(420, 1, 0, 0, 0, 0), (421, 3, 1, 12, 11, 17), (424, 1, 2, 1, 0, 0), (425, 1, 39, 0, 0, 0), (426, 1, 10, 0, 0, 0), (427, 1, 3, 1, 0, 0), (428, 1, 11, 0, 0, 0), (429, 1, 17, 0, 0, 0), (430, 1, 0, 0, 0, 0), (431, 1, 19, 0, 0, 0), (432, 3, 1, 12, 14, 212), (435, 1, 3, 1, 0, 0), (436, 1, 11, 0, 0, 0), (437, 3, 14, 12, 14, 212), (440, 1, 12, 0, 0, 0)]) rfl) ?_
          obtain ⟨f82_633, f82_635, f82_637, f82_639, f82_641, f82_643, f82_645, f82_647, f82_649, f82_651, f82_653, f82_654, f82_655, f82_657, f82_659, f82_661, h82_663, hb634, hb636, hb638, hb640, hb642, hb644, hb646, hb648, hb650, hb652, hb656, hb658, hb660, hb662, hb664⟩ := (hI615 82 (by decide) (by decide) : cp82 (wget w613 82))
          have hf665 : fld w613 82 4 = f82_637 := fld_of h82_663
          have hf666 : fld w613 82 5 = f82_639 := fld_of h82_663
          have hf667 : fld w613 82 7 = f82_643 := fld_of h82_663
          have hf668 : fld w613 82 10 = f82_649 := fld_of h82_663
          have hf669 : fld w613 82 14 = f82_651 := fld_of h82_663
          have hu670 : mu w613 = 2 * (fld w613 82 4 - fld w613 82 5) + min 1 (fld w613 82 7) := rfl
          have hf671 := pk625.2.2.1
          have hl672 : f82_651 ≤ 1000 := by omega
          refine xg_t (xg_aload (va := (2, 82)) rfl rfl) ?_
          refine xg_t (xg_getf (va := (2, 85)) h82_663 rfl) ?_
          refine xg_t (xg_iload (va := (0, 6)) rfl rfl) ?_
          refine xg_t (xg_dup2 rfl) ?_
          obtain ⟨g85_673, h85_674, hb675⟩ := (hI615 85 (by decide) (by decide) : cpI 7 52 4294967295 (wget w613 85))
          have h85_674 : xRow w613 85 7 52 g85_673 := h85_674
          refine xg_ialdB (n := 6) (B := 4294967295) h85_674 (hb675) xnm0 (by omega) (fun u676 hu677 he678 => ?_)
          have hl679 : u676 = u45 := by have q1 := rwv_of h85_674 (show 6 < 7 by decide); have q2 := mf628 6 (by decide); omega
          refine xg_t (xg_const) ?_
          refine xg_t (xg_iadd (u := u676) (v := 1) (z := u676 + 1) xnm0 xnm0 (by omega)) ?_
          refine xg_iastK (n := 6) (u := u676 + 1) h85_674 xnm0 xnm0 rfl (by omega) (fun w680 hr681 hb682 => ?_)
          refine xg_t (xg_aload (va := (2, 82)) rfl rfl) ?_
          refine xg_t (xg_dup rfl) ?_
          refine xg_t (xg_getf (va := (0, f82_651)) (hb682.get (by decide) h82_663) rfl) ?_
          refine xg_t (xg_const) ?_
          refine xg_t (xg_iadd (u := f82_651) (v := 1) (z := f82_651 + 1) xnm0 xnm0 (by omega)) ?_
          refine xg_putI (fl1 := [(2, 83), (2, 84), (0, f82_633), (0, f82_635), (0, f82_637), (0, f82_639), (0, f82_641), (0, f82_643), (0, f82_645), (0, f82_647), (0, f82_649), (2, 85), (2, 86), (2, 87), (0, f82_651 + 1), (2, 88), (2, 89), (2, 90), (2, 91), (2, 92), (2, 93), (2, 94), (4, f82_653), (4, f82_654), (0, f82_655), (2, 95), (2, 96), (2, 97), (2, 98), (2, 99), (2, 100), (2, 101), (2, 102), (0, f82_657), (2, 103), (2, 104), (2, 105), (2, 106), (2, 107), (2, 108), (2, 109), (0, f82_659), (0, f82_661), (2, 110), (2, 111), (2, 112), (2, 113)]) (hb682.get (by decide) h82_663) rfl rfl rfl (fun w683 hk684 hb685 => ?_)
          have hF686 : xFr [82, 85] w613 w683 := ((xFr.of (S := [82, 85]) hb682 (by decide)).tr (xFr.of (S := [82, 85]) hb685 (by decide)))
          have hA687 := FA_fr hF686 (by decide)
          have hf688 : fld w683 82 4 = f82_637 := fld_of hk684
          have hf689 : fld w683 82 5 = f82_639 := fld_of hk684
          have hf690 : fld w683 82 7 = f82_643 := fld_of hk684
          have hf691 : fld w683 82 10 = f82_649 := fld_of hk684
          have hf692 : fld w683 82 14 = f82_651 + 1 := fld_of hk684
          have hu693 : mu w683 = 2 * (fld w683 82 4 - fld w683 82 5) + min 1 (fld w683 82 7) := rfl
          have pq694 := pk625
          unfold PK PS at pq694
          have hM695 : ∀ s, s < 7 → s ≠ 6 → rwv w683 85 s = rwv w 85 s := fun s hs hn => (rwv_of (hr681.but hb685 (by decide)) hs).trans ((if_neg hn).trans ((rwv_of h85_674 hs).symm.trans (mf628 s hs)))
          have hM696 : rwv w683 85 6 = u45 + 1 := (rwv_of (hr681.but hb685 (by decide)) (by decide)).trans ((if_pos rfl).trans (by omega))
          have hM697 : ∀ s, s < 7 → rwv w683 85 s ≤ rwv w 85 s + 1 := fun s hs => by
            by_cases z : s = 6
            · subst z; omega
            · rw [hM695 s hs z]; omega
          have hO698 : ∀ j, (j < 5 ∨ 7 ≤ j) → j < 140 → rwv w683 86 j = rwv w 86 j := fun j hj hl => (rwv_fr hF686 (by decide)).trans (os626 j hj hl)
          have hl700 : FA w613 ≠ 0 ∨ u45 < 1 := rg627
          have hl701 : rwv w683 86 (5) = rwv w613 86 (5) := rwv_fr hF686 (by decide)
          have hl702 : rwv w683 86 (6) = rwv w613 86 (6) := rwv_fr hF686 (by decide)
          have hN699 : FA w683 ≠ 0 ∨ 1 ≤ u45 ∨ (1 ≤ rwv w683 86 5 ∧ rwv w683 86 5 ≤ 6 ∧ 1 ≤ rwv w683 86 6 ∧ rwv w683 86 6 ≤ 6) := by have q := nw631; omega
          have hX703 : FA w683 ≠ 0 ∨ u45 < 1 := by omega
          have hD704 : FA w683 ≠ 0 ∨ (DATA w → DATA w683) := by
            by_cases z : FA w683 ≠ 0
            · exact Or.inl z
            · exact Or.inr (fun hd => hd.s6 hM695 hK48 hM696 (hX703.resolve_left z) hO698 ((hN699.resolve_left z).resolve_left (by have := hX703.resolve_left z; omega)))
          exact xg_e ⟨w683, ⟨rfl, rfl⟩, xMnv.up (S := [85, 82]) hI615 ((xFr.of (S := [85, 82]) hb682 (by decide)).tr (xFr.of (S := [85, 82]) hb685 (by decide))) (List.forall_mem_cons.mpr ⟨(show cpI 7 52 4294967295 (wget w683 85) from ⟨_, (hr681.but hb685 (by decide)), xrb (by omega) (hb675)⟩), List.forall_mem_cons.mpr ⟨(show cp82 (wget w683 82) from ⟨f82_633, f82_635, f82_637, f82_639, f82_641, f82_643, f82_645, f82_647, f82_649, f82_651 + 1, f82_653, f82_654, f82_655, f82_657, f82_659, f82_661, hk684, hb634, hb636, hb638, hb640, hb642, hb644, hb646, hb648, hb650, by omega, hb656, hb658, hb660, hb662, by omega⟩), fun _ h => absurd h List.not_mem_nil⟩⟩), ((hF571.tr (hF616.up (by decide))).tr ((xFr.of (S := [82, 83, 85, 86, 87]) hb682 (by decide)).tr (xFr.of (S := [82, 83, 85, 86, 87]) hb685 (by decide)))), ⟨fun h => by have := pq694.1 h; omega, (show fld w683 82 10 = 0 ∨ FA w683 ≠ 0 by omega), Or.inr ⟨by have := ms632; omega, by omega, hM697⟩, hD704⟩⟩
        · refine xg_t (xg_icT (u := f82_589) (v := 2) rfl xnm0 xnm0 (xj_neT hc612)) ?_
          refine xg_t (xg_blk (b := [(416, 1, 0, 0, 0, 0), (417, 3, 13, 140, 96, 183)]) rfl) ?_
          refine xg_t (xg_aload (va := (2, 82)) rfl rfl) ?_
          refine xg_cVv mX12_ends (vs := []) (rest := []) (cn1 := 0) (sl1 := 0) rfl (mEnds (hI570) hj573.2.2.2) rfl h82_609 rfl rfl rfl rfl rfl rfl (fun w705 hq706 => ?_)
          obtain ⟨hI707, hF708, hx709⟩ := hq706
          clear hb580 hb582 hb584 hb586 hb588 hb590 hb592 hb594 hb596 hb598 hb602 hb604 hb606 hb608
          obtain ⟨hv710, hv711, hv712, hv713⟩ := hx709
          have pk714 : PK w569 w705 := ⟨fun _ => hv710, by omega, by omega, Or.inr hv710⟩
          have pk715 : PK w w705 := PK.tr hj573 pk714
          have os716 : ∀ j, (j < 5 ∨ 7 ≤ j) → j < 140 → rwv w705 86 j = rwv w 86 j := fun j hj hl => (rwv_fr hF708 (by decide)).trans (hj574 j hj hl)
          have rg717 : FA w705 ≠ 0 ∨ u45 < 1 := hj577.imp_left pk714.1
          have mf718 : ∀ s, s < 7 → rwv w705 85 s = rwv w 85 s := fun s hs => (rwv_fr hF708 (by decide)).trans (hj576 s hs)
          have hl719 : rwv w705 86 (5) = rwv w569 86 (5) := rwv_fr hF708 (by decide)
          have hl720 : rwv w705 86 (6) = rwv w569 86 (6) := rwv_fr hF708 (by decide)
          have nw721 : FA w705 ≠ 0 ∨ 1 ≤ u45 ∨ (1 ≤ rwv w705 86 5 ∧ rwv w705 86 5 ≤ 6 ∧ 1 ≤ rwv w705 86 6 ∧ rwv w705 86 6 ≤ 6) := by have q := hj578; have q1 := pk714.1; omega
          clear hj578
          have ms722 : mu w705 < mu w := Nat.lt_of_le_of_lt pk714.2.1 hj575
          clear hj577
          refine xg_t (xg_blk (b := [(420, 1, 0, 0, 0, 0), (421, 3, 1, 12, 11, 17), (424, 1, 2, 1, 0, 0), (425, 1, 39, 0, 0, 0), (426, 1, 10, 0, 0, 0), (427, 1, 3, 1, 0, 0), (428, 1, 11, 0, 0, 0), (429, 1, 17, 0, 0, 0), (430, 1, 0, 0, 0, 0), (431, 1, 19, 0, 0, 0), (432, 3, 1, 12, 14, 212), (435, 1, 3, 1, 0, 0), (436, 1, 11, 0, 0, 0), (437, 3, 14, 12, 14, 212), (440, 1, 12, 0, 0, 0)]) rfl) ?_
          obtain ⟨f82_723, f82_725, f82_727, f82_729, f82_731, f82_733, f82_735, f82_737, f82_739, f82_741, f82_743, f82_744, f82_745, f82_747, f82_749, f82_751, h82_753, hb724, hb726, hb728, hb730, hb732, hb734, hb736, hb738, hb740, hb742, hb746, hb748, hb750, hb752, hb754⟩ := (hI707 82 (by decide) (by decide) : cp82 (wget w705 82))
          have hf755 : fld w705 82 4 = f82_727 := fld_of h82_753
          have hf756 : fld w705 82 5 = f82_729 := fld_of h82_753
          have hf757 : fld w705 82 7 = f82_733 := fld_of h82_753
          have hf758 : fld w705 82 10 = f82_739 := fld_of h82_753
          have hf759 : fld w705 82 14 = f82_741 := fld_of h82_753
          have hu760 : mu w705 = 2 * (fld w705 82 4 - fld w705 82 5) + min 1 (fld w705 82 7) := rfl
          have hf761 := pk715.2.2.1
          have hl762 : f82_741 ≤ 1000 := by omega
          refine xg_t (xg_aload (va := (2, 82)) rfl rfl) ?_
          refine xg_t (xg_getf (va := (2, 85)) h82_753 rfl) ?_
          refine xg_t (xg_iload (va := (0, 6)) rfl rfl) ?_
          refine xg_t (xg_dup2 rfl) ?_
          obtain ⟨g85_763, h85_764, hb765⟩ := (hI707 85 (by decide) (by decide) : cpI 7 52 4294967295 (wget w705 85))
          have h85_764 : xRow w705 85 7 52 g85_763 := h85_764
          refine xg_ialdB (n := 6) (B := 4294967295) h85_764 (hb765) xnm0 (by omega) (fun u766 hu767 he768 => ?_)
          have hl769 : u766 = u45 := by have q1 := rwv_of h85_764 (show 6 < 7 by decide); have q2 := mf718 6 (by decide); omega
          refine xg_t (xg_const) ?_
          refine xg_t (xg_iadd (u := u766) (v := 1) (z := u766 + 1) xnm0 xnm0 (by omega)) ?_
          refine xg_iastK (n := 6) (u := u766 + 1) h85_764 xnm0 xnm0 rfl (by omega) (fun w770 hr771 hb772 => ?_)
          refine xg_t (xg_aload (va := (2, 82)) rfl rfl) ?_
          refine xg_t (xg_dup rfl) ?_
          refine xg_t (xg_getf (va := (0, f82_741)) (hb772.get (by decide) h82_753) rfl) ?_
          refine xg_t (xg_const) ?_
          refine xg_t (xg_iadd (u := f82_741) (v := 1) (z := f82_741 + 1) xnm0 xnm0 (by omega)) ?_
          refine xg_putI (fl1 := [(2, 83), (2, 84), (0, f82_723), (0, f82_725), (0, f82_727), (0, f82_729), (0, f82_731), (0, f82_733), (0, f82_735), (0, f82_737), (0, f82_739), (2, 85), (2, 86), (2, 87), (0, f82_741 + 1), (2, 88), (2, 89), (2, 90), (2, 91), (2, 92), (2, 93), (2, 94), (4, f82_743), (4, f82_744), (0, f82_745), (2, 95), (2, 96), (2, 97), (2, 98), (2, 99), (2, 100), (2, 101), (2, 102), (0, f82_747), (2, 103), (2, 104), (2, 105), (2, 106), (2, 107), (2, 108), (2, 109), (0, f82_749), (0, f82_751), (2, 110), (2, 111), (2, 112), (2, 113)]) (hb772.get (by decide) h82_753) rfl rfl rfl (fun w773 hk774 hb775 => ?_)
          have hF776 : xFr [82, 85] w705 w773 := ((xFr.of (S := [82, 85]) hb772 (by decide)).tr (xFr.of (S := [82, 85]) hb775 (by decide)))
          have hA777 := FA_fr hF776 (by decide)
          have hf778 : fld w773 82 4 = f82_727 := fld_of hk774
          have hf779 : fld w773 82 5 = f82_729 := fld_of hk774
          have hf780 : fld w773 82 7 = f82_733 := fld_of hk774
          have hf781 : fld w773 82 10 = f82_739 := fld_of hk774
          have hf782 : fld w773 82 14 = f82_741 + 1 := fld_of hk774
          have hu783 : mu w773 = 2 * (fld w773 82 4 - fld w773 82 5) + min 1 (fld w773 82 7) := rfl
          have pq784 := pk715
          unfold PK PS at pq784
          have hM785 : ∀ s, s < 7 → s ≠ 6 → rwv w773 85 s = rwv w 85 s := fun s hs hn => (rwv_of (hr771.but hb775 (by decide)) hs).trans ((if_neg hn).trans ((rwv_of h85_764 hs).symm.trans (mf718 s hs)))
          have hM786 : rwv w773 85 6 = u45 + 1 := (rwv_of (hr771.but hb775 (by decide)) (by decide)).trans ((if_pos rfl).trans (by omega))
          have hM787 : ∀ s, s < 7 → rwv w773 85 s ≤ rwv w 85 s + 1 := fun s hs => by
            by_cases z : s = 6
            · subst z; omega
            · rw [hM785 s hs z]; omega
          have hO788 : ∀ j, (j < 5 ∨ 7 ≤ j) → j < 140 → rwv w773 86 j = rwv w 86 j := fun j hj hl => (rwv_fr hF776 (by decide)).trans (os716 j hj hl)
          have hl790 : FA w705 ≠ 0 ∨ u45 < 1 := rg717
          have hl791 : rwv w773 86 (5) = rwv w705 86 (5) := rwv_fr hF776 (by decide)
          have hl792 : rwv w773 86 (6) = rwv w705 86 (6) := rwv_fr hF776 (by decide)
          have hN789 : FA w773 ≠ 0 ∨ 1 ≤ u45 ∨ (1 ≤ rwv w773 86 5 ∧ rwv w773 86 5 ≤ 6 ∧ 1 ≤ rwv w773 86 6 ∧ rwv w773 86 6 ≤ 6) := by have q := nw721; omega
          have hX793 : FA w773 ≠ 0 ∨ u45 < 1 := by omega
          have hD794 : FA w773 ≠ 0 ∨ (DATA w → DATA w773) := by
            by_cases z : FA w773 ≠ 0
            · exact Or.inl z
            · exact Or.inr (fun hd => hd.s6 hM785 hK48 hM786 (hX793.resolve_left z) hO788 ((hN789.resolve_left z).resolve_left (by have := hX793.resolve_left z; omega)))
          exact xg_e ⟨w773, ⟨rfl, rfl⟩, xMnv.up (S := [85, 82]) hI707 ((xFr.of (S := [85, 82]) hb772 (by decide)).tr (xFr.of (S := [85, 82]) hb775 (by decide))) (List.forall_mem_cons.mpr ⟨(show cpI 7 52 4294967295 (wget w773 85) from ⟨_, (hr771.but hb775 (by decide)), xrb (by omega) (hb765)⟩), List.forall_mem_cons.mpr ⟨(show cp82 (wget w773 82) from ⟨f82_723, f82_725, f82_727, f82_729, f82_731, f82_733, f82_735, f82_737, f82_739, f82_741 + 1, f82_743, f82_744, f82_745, f82_747, f82_749, f82_751, hk774, hb724, hb726, hb728, hb730, hb732, hb734, hb736, hb738, hb740, by omega, hb746, hb748, hb750, hb752, by omega⟩), fun _ h => absurd h List.not_mem_nil⟩⟩), ((hF571.tr (hF708.up (by decide))).tr ((xFr.of (S := [82, 83, 85, 86, 87]) hb772 (by decide)).tr (xFr.of (S := [82, 83, 85, 86, 87]) hb775 (by decide)))), ⟨fun h => by have := pq784.1 h; omega, (show fld w773 82 10 = 0 ∨ FA w773 ≠ 0 by omega), Or.inr ⟨by have := ms722; omega, by omega, hM787⟩, hD794⟩⟩
      · refine xg_t (xg_ifT (u := f82_595) rfl xnm0 (xj_neT hc611)) ?_
        refine xg_t (xg_blk (b := [(416, 1, 0, 0, 0, 0), (417, 3, 13, 140, 96, 183)]) rfl) ?_
        refine xg_t (xg_aload (va := (2, 82)) rfl rfl) ?_
        refine xg_cVv mX12_ends (vs := []) (rest := []) (cn1 := 0) (sl1 := 0) rfl (mEnds (hI570) hj573.2.2.2) rfl h82_609 rfl rfl rfl rfl rfl rfl (fun w795 hq796 => ?_)
        obtain ⟨hI797, hF798, hx799⟩ := hq796
        clear hb580 hb582 hb584 hb586 hb588 hb590 hb592 hb594 hb596 hb598 hb602 hb604 hb606 hb608
        obtain ⟨hv800, hv801, hv802, hv803⟩ := hx799
        have pk804 : PK w569 w795 := ⟨fun _ => hv800, by omega, by omega, Or.inr hv800⟩
        have pk805 : PK w w795 := PK.tr hj573 pk804
        have os806 : ∀ j, (j < 5 ∨ 7 ≤ j) → j < 140 → rwv w795 86 j = rwv w 86 j := fun j hj hl => (rwv_fr hF798 (by decide)).trans (hj574 j hj hl)
        have rg807 : FA w795 ≠ 0 ∨ u45 < 1 := hj577.imp_left pk804.1
        have mf808 : ∀ s, s < 7 → rwv w795 85 s = rwv w 85 s := fun s hs => (rwv_fr hF798 (by decide)).trans (hj576 s hs)
        have hl809 : rwv w795 86 (5) = rwv w569 86 (5) := rwv_fr hF798 (by decide)
        have hl810 : rwv w795 86 (6) = rwv w569 86 (6) := rwv_fr hF798 (by decide)
        have nw811 : FA w795 ≠ 0 ∨ 1 ≤ u45 ∨ (1 ≤ rwv w795 86 5 ∧ rwv w795 86 5 ≤ 6 ∧ 1 ≤ rwv w795 86 6 ∧ rwv w795 86 6 ≤ 6) := by have q := hj578; have q1 := pk804.1; omega
        clear hj578
        have ms812 : mu w795 < mu w := Nat.lt_of_le_of_lt pk804.2.1 hj575
        clear hj577
        refine xg_t (xg_blk (b := [(420, 1, 0, 0, 0, 0), (421, 3, 1, 12, 11, 17), (424, 1, 2, 1, 0, 0), (425, 1, 39, 0, 0, 0), (426, 1, 10, 0, 0, 0), (427, 1, 3, 1, 0, 0), (428, 1, 11, 0, 0, 0), (429, 1, 17, 0, 0, 0), (430, 1, 0, 0, 0, 0), (431, 1, 19, 0, 0, 0), (432, 3, 1, 12, 14, 212), (435, 1, 3, 1, 0, 0), (436, 1, 11, 0, 0, 0), (437, 3, 14, 12, 14, 212), (440, 1, 12, 0, 0, 0)]) rfl) ?_
        obtain ⟨f82_813, f82_815, f82_817, f82_819, f82_821, f82_823, f82_825, f82_827, f82_829, f82_831, f82_833, f82_834, f82_835, f82_837, f82_839, f82_841, h82_843, hb814, hb816, hb818, hb820, hb822, hb824, hb826, hb828, hb830, hb832, hb836, hb838, hb840, hb842, hb844⟩ := (hI797 82 (by decide) (by decide) : cp82 (wget w795 82))
        have hf845 : fld w795 82 4 = f82_817 := fld_of h82_843
        have hf846 : fld w795 82 5 = f82_819 := fld_of h82_843
        have hf847 : fld w795 82 7 = f82_823 := fld_of h82_843
        have hf848 : fld w795 82 10 = f82_829 := fld_of h82_843
        have hf849 : fld w795 82 14 = f82_831 := fld_of h82_843
        have hu850 : mu w795 = 2 * (fld w795 82 4 - fld w795 82 5) + min 1 (fld w795 82 7) := rfl
        have hf851 := pk805.2.2.1
        have hl852 : f82_831 ≤ 1000 := by omega
        refine xg_t (xg_aload (va := (2, 82)) rfl rfl) ?_
        refine xg_t (xg_getf (va := (2, 85)) h82_843 rfl) ?_
        refine xg_t (xg_iload (va := (0, 6)) rfl rfl) ?_
        refine xg_t (xg_dup2 rfl) ?_
        obtain ⟨g85_853, h85_854, hb855⟩ := (hI797 85 (by decide) (by decide) : cpI 7 52 4294967295 (wget w795 85))
        have h85_854 : xRow w795 85 7 52 g85_853 := h85_854
        refine xg_ialdB (n := 6) (B := 4294967295) h85_854 (hb855) xnm0 (by omega) (fun u856 hu857 he858 => ?_)
        have hl859 : u856 = u45 := by have q1 := rwv_of h85_854 (show 6 < 7 by decide); have q2 := mf808 6 (by decide); omega
        refine xg_t (xg_const) ?_
        refine xg_t (xg_iadd (u := u856) (v := 1) (z := u856 + 1) xnm0 xnm0 (by omega)) ?_
        refine xg_iastK (n := 6) (u := u856 + 1) h85_854 xnm0 xnm0 rfl (by omega) (fun w860 hr861 hb862 => ?_)
        refine xg_t (xg_aload (va := (2, 82)) rfl rfl) ?_
        refine xg_t (xg_dup rfl) ?_
        refine xg_t (xg_getf (va := (0, f82_831)) (hb862.get (by decide) h82_843) rfl) ?_
        refine xg_t (xg_const) ?_
        refine xg_t (xg_iadd (u := f82_831) (v := 1) (z := f82_831 + 1) xnm0 xnm0 (by omega)) ?_
        refine xg_putI (fl1 := [(2, 83), (2, 84), (0, f82_813), (0, f82_815), (0, f82_817), (0, f82_819), (0, f82_821), (0, f82_823), (0, f82_825), (0, f82_827), (0, f82_829), (2, 85), (2, 86), (2, 87), (0, f82_831 + 1), (2, 88), (2, 89), (2, 90), (2, 91), (2, 92), (2, 93), (2, 94), (4, f82_833), (4, f82_834), (0, f82_835), (2, 95), (2, 96), (2, 97), (2, 98), (2, 99), (2, 100), (2, 101), (2, 102), (0, f82_837), (2, 103), (2, 104), (2, 105), (2, 106), (2, 107), (2, 108), (2, 109), (0, f82_839), (0, f82_841), (2, 110), (2, 111), (2, 112), (2, 113)]) (hb862.get (by decide) h82_843) rfl rfl rfl (fun w863 hk864 hb865 => ?_)
        have hF866 : xFr [82, 85] w795 w863 := ((xFr.of (S := [82, 85]) hb862 (by decide)).tr (xFr.of (S := [82, 85]) hb865 (by decide)))
        have hA867 := FA_fr hF866 (by decide)
        have hf868 : fld w863 82 4 = f82_817 := fld_of hk864
        have hf869 : fld w863 82 5 = f82_819 := fld_of hk864
        have hf870 : fld w863 82 7 = f82_823 := fld_of hk864
        have hf871 : fld w863 82 10 = f82_829 := fld_of hk864
        have hf872 : fld w863 82 14 = f82_831 + 1 := fld_of hk864
        have hu873 : mu w863 = 2 * (fld w863 82 4 - fld w863 82 5) + min 1 (fld w863 82 7) := rfl
        have pq874 := pk805
        unfold PK PS at pq874
        have hM875 : ∀ s, s < 7 → s ≠ 6 → rwv w863 85 s = rwv w 85 s := fun s hs hn => (rwv_of (hr861.but hb865 (by decide)) hs).trans ((if_neg hn).trans ((rwv_of h85_854 hs).symm.trans (mf808 s hs)))
        have hM876 : rwv w863 85 6 = u45 + 1 := (rwv_of (hr861.but hb865 (by decide)) (by decide)).trans ((if_pos rfl).trans (by omega))
        have hM877 : ∀ s, s < 7 → rwv w863 85 s ≤ rwv w 85 s + 1 := fun s hs => by
          by_cases z : s = 6
          · subst z; omega
          · rw [hM875 s hs z]; omega
        have hO878 : ∀ j, (j < 5 ∨ 7 ≤ j) → j < 140 → rwv w863 86 j = rwv w 86 j := fun j hj hl => (rwv_fr hF866 (by decide)).trans (os806 j hj hl)
        have hl880 : FA w795 ≠ 0 ∨ u45 < 1 := rg807
        have hl881 : rwv w863 86 (5) = rwv w795 86 (5) := rwv_fr hF866 (by decide)
        have hl882 : rwv w863 86 (6) = rwv w795 86 (6) := rwv_fr hF866 (by decide)
        have hN879 : FA w863 ≠ 0 ∨ 1 ≤ u45 ∨ (1 ≤ rwv w863 86 5 ∧ rwv w863 86 5 ≤ 6 ∧ 1 ≤ rwv w863 86 6 ∧ rwv w863 86 6 ≤ 6) := by have q := nw811; omega
        have hX883 : FA w863 ≠ 0 ∨ u45 < 1 := by omega
        have hD884 : FA w863 ≠ 0 ∨ (DATA w → DATA w863) := by
          by_cases z : FA w863 ≠ 0
          · exact Or.inl z
          · exact Or.inr (fun hd => hd.s6 hM875 hK48 hM876 (hX883.resolve_left z) hO878 ((hN879.resolve_left z).resolve_left (by have := hX883.resolve_left z; omega)))
        exact xg_e ⟨w863, ⟨rfl, rfl⟩, xMnv.up (S := [85, 82]) hI797 ((xFr.of (S := [85, 82]) hb862 (by decide)).tr (xFr.of (S := [85, 82]) hb865 (by decide))) (List.forall_mem_cons.mpr ⟨(show cpI 7 52 4294967295 (wget w863 85) from ⟨_, (hr861.but hb865 (by decide)), xrb (by omega) (hb855)⟩), List.forall_mem_cons.mpr ⟨(show cp82 (wget w863 82) from ⟨f82_813, f82_815, f82_817, f82_819, f82_821, f82_823, f82_825, f82_827, f82_829, f82_831 + 1, f82_833, f82_834, f82_835, f82_837, f82_839, f82_841, hk864, hb814, hb816, hb818, hb820, hb822, hb824, hb826, hb828, hb830, by omega, hb836, hb838, hb840, hb842, by omega⟩), fun _ h => absurd h List.not_mem_nil⟩⟩), ((hF571.tr (hF798.up (by decide))).tr ((xFr.of (S := [82, 83, 85, 86, 87]) hb862 (by decide)).tr (xFr.of (S := [82, 83, 85, 86, 87]) hb865 (by decide)))), ⟨fun h => by have := pq874.1 h; omega, (show fld w863 82 10 = 0 ∨ FA w863 ≠ 0 by omega), Or.inr ⟨by have := ms812; omega, by omega, hM877⟩, hD884⟩⟩
    refine xg_t (xg_iload (va := (0, 6)) rfl rfl) ?_
    refine xg_t (xg_swt (ks := [(0, 108), (1, 116), (2, 180), (3, 221), (4, 273), (5, 326)]) (u := 6) (z := 362) rfl rfl rfl xnm0 (xsw_n (by omega) (xsw_n (by omega) (xsw_n (by omega) (xsw_n (by omega) (xsw_n (by omega) (xsw_n (by omega) (xsw_d)))))))) ?_
    refine xg_t (xg_blk (b := [(362, 1, 3, 0, 0, 0), (363, 2, 15, 4, 0, 0)]) rfl) ?_
    refine xg_t (xg_const) ?_
    refine xg_t (xg_istore (l1 := [(3, (0, u45)), (2, (0, at_)), (1, (0, 6)), (0, (2, 82))]) rfl rfl rfl) ?_
    refine xg_t (xg_blk (b := [(365, 2, 2, 4, 0, 0), (367, 1, 3, 2, 0, 0), (368, 3, 6, 394, 3, 0), (371, 1, 0, 0, 0, 0), (372, 1, 2, 1, 0, 0), (373, 1, 2, 3, 0, 0), (374, 1, 3, 5, 0, 0), (375, 2, 2, 4, 0, 0), (377, 1, 11, 0, 0, 0), (378, 1, 0, 0, 0, 0), (379, 1, 3, 1, 0, 0), (380, 2, 4, 6, 0, 0), (382, 3, 13, 199, 96, 196), (385, 3, 13, 211, 96, 200), (388, 3, 9, 4, 1, 0), (391, 3, 8, 365, 0, 0)]) rfl) ?_
    refine xg_t (xg_iload (va := (0, 0)) rfl rfl) ?_
    refine xg_t (xg_const) ?_
    refine xg_t (xg_icF (u := 0) (v := 2) rfl xnm0 xnm0 (by decide)) ?_
    refine xg_t (xg_aload (va := (2, 82)) rfl rfl) ?_
    refine xg_t (xg_iload (va := (0, 6)) rfl rfl) ?_
    refine xg_t (xg_iload (va := (0, u45)) rfl rfl) ?_
    refine xg_t (xg_const) ?_
    refine xg_t (xg_iload (va := (0, 0)) rfl rfl) ?_
    refine xg_t (xg_iadd (u := 5) (v := 0) (z := 5) xnm0 xnm0 (by decide)) ?_
    refine xg_t (xg_aload (va := (2, 82)) rfl rfl) ?_
    refine xg_t (xg_const) ?_
    refine xg_t (xg_bip) ?_
    obtain ⟨f82_885, f82_887, f82_889, f82_891, f82_893, f82_895, f82_897, f82_899, f82_901, f82_903, f82_905, f82_906, f82_907, f82_909, f82_911, f82_913, h82_915, hb886, hb888, hb890, hb892, hb894, hb896, hb898, hb900, hb902, hb904, hb908, hb910, hb912, hb914, hb916⟩ := (hI553 82 (by decide) (by decide) : cp82 (wget w551 82))
    refine xg_cVi mX12_numbered (vs := [(0, 1), (0, 6)]) (rest := [(0, 5), (0, u45), (0, 6), (2, 82)]) (cn1 := 0) (sl1 := 0) rfl (mNumbered (hI553) (by omega) (by omega) pk563.2.2.2) rfl h82_915 rfl rfl rfl rfl rfl rfl (fun n921 w917 hq918 => ?_)
    obtain ⟨hn922, hI919, hF920⟩ := hq918
    clear hb886 hb888 hb890 hb892 hb894 hb896 hb898 hb900 hb902 hb904 hb908 hb910 hb912 hb914
    obtain ⟨hn923, hn924, hn925⟩ := hn922
    have pk926 : PK w w917 := PK.tr pk563 hn924
    have os927 : ∀ j, (j < 5 ∨ 7 ≤ j) → j < 140 → rwv w917 86 j = rwv w 86 j := fun j hj hl => (rwv_fr hF920 (by decide)).trans (os564 j hj hl)
    have rg928 : FA w917 ≠ 0 ∨ 0 = 1 := rg565.imp_left hn924.1
    have mf929 : ∀ s, s < 7 → rwv w917 85 s = rwv w 85 s := fun s hs => (rwv_fr hF920 (by decide)).trans (mf566 s hs)
    have ms930 : mu w917 < mu w := Nat.lt_of_le_of_lt hn924.2.1 ms567
    clear rg565
    obtain ⟨f82_931, f82_933, f82_935, f82_937, f82_939, f82_941, f82_943, f82_945, f82_947, f82_949, f82_951, f82_952, f82_953, f82_955, f82_957, f82_959, h82_961, hb932, hb934, hb936, hb938, hb940, hb942, hb944, hb946, hb948, hb950, hb954, hb956, hb958, hb960, hb962⟩ := (hI919 82 (by decide) (by decide) : cp82 (wget w917 82))
    refine xg_cVv mX12_puts (vs := [(0, 6), (0, u45), (0, 5), (0, n921)]) (rest := []) (cn1 := 0) (sl1 := 0) rfl (mPuts6 (hI919) (by omega) (by omega) (by omega) (fun _ => by omega)) rfl h82_961 rfl rfl rfl rfl rfl rfl (fun w963 hq964 => ?_)
    obtain ⟨hI965, hF966, hx967⟩ := hq964
    obtain ⟨hp968, hp969⟩ := hx967
    have pk970 : PK w w963 := PK.tr pk926 (PK.fr hF966 (by decide) (by decide) pk926.2.2.2)
    have os971 : ∀ j, (j < 5 ∨ 7 ≤ j) → j < 140 → rwv w963 86 j = rwv w 86 j := fun j hj hl => (hp969 j (by omega) hl).trans (os927 j hj hl)
    have rg972 : FA w963 ≠ 0 ∨ 0 = 1 := rg928.imp_left (PK.fr hF966 (by decide) (by decide) pk926.2.2.2).1
    have rg973 : FA w963 ≠ 0 ∨ (1 ≤ n921 ∧ n921 ≤ 6) := hn925.imp_left (PK.fr hF966 (by decide) (by decide) pk926.2.2.2).1
    have mf974 : ∀ s, s < 7 → rwv w963 85 s = rwv w 85 s := fun s hs => (rwv_fr hF966 (by decide)).trans (mf929 s hs)
    have ms975 : mu w963 < mu w := Nat.lt_of_le_of_lt (PK.fr hF966 (by decide) (by decide) pk926.2.2.2).2.1 ms930
    clear rg928 hn925
    refine xg_t (xg_iinc (u := 0) (z := 1) (l1 := [(3, (0, u45)), (2, (0, at_)), (1, (0, 6)), (0, (2, 82))]) rfl rfl (by decide) rfl) ?_
    refine xg_t (xg_goto) ?_
    refine xg_t (xg_blk (b := [(365, 2, 2, 4, 0, 0), (367, 1, 3, 2, 0, 0), (368, 3, 6, 394, 3, 0), (371, 1, 0, 0, 0, 0), (372, 1, 2, 1, 0, 0), (373, 1, 2, 3, 0, 0), (374, 1, 3, 5, 0, 0), (375, 2, 2, 4, 0, 0), (377, 1, 11, 0, 0, 0), (378, 1, 0, 0, 0, 0), (379, 1, 3, 1, 0, 0), (380, 2, 4, 6, 0, 0), (382, 3, 13, 199, 96, 196), (385, 3, 13, 211, 96, 200), (388, 3, 9, 4, 1, 0), (391, 3, 8, 365, 0, 0)]) rfl) ?_
    refine xg_t (xg_iload (va := (0, 1)) rfl rfl) ?_
    refine xg_t (xg_const) ?_
    refine xg_t (xg_icF (u := 1) (v := 2) rfl xnm0 xnm0 (by decide)) ?_
    refine xg_t (xg_aload (va := (2, 82)) rfl rfl) ?_
    refine xg_t (xg_iload (va := (0, 6)) rfl rfl) ?_
    refine xg_t (xg_iload (va := (0, u45)) rfl rfl) ?_
    refine xg_t (xg_const) ?_
    refine xg_t (xg_iload (va := (0, 1)) rfl rfl) ?_
    refine xg_t (xg_iadd (u := 5) (v := 1) (z := 6) xnm0 xnm0 (by decide)) ?_
    refine xg_t (xg_aload (va := (2, 82)) rfl rfl) ?_
    refine xg_t (xg_const) ?_
    refine xg_t (xg_bip) ?_
    refine xg_cVi mX12_numbered (vs := [(0, 1), (0, 6)]) (rest := [(0, 6), (0, u45), (0, 6), (2, 82)]) (cn1 := 0) (sl1 := 0) rfl (mNumbered (hI965) (by omega) (by omega) pk970.2.2.2) rfl (hF966.get (by decide) h82_961) rfl rfl rfl rfl rfl rfl (fun n980 w976 hq977 => ?_)
    obtain ⟨hn981, hI978, hF979⟩ := hq977
    clear hb932 hb934 hb936 hb938 hb940 hb942 hb944 hb946 hb948 hb950 hb954 hb956 hb958 hb960
    obtain ⟨hn982, hn983, hn984⟩ := hn981
    have pk985 : PK w w976 := PK.tr pk970 hn983
    have os986 : ∀ j, (j < 5 ∨ 7 ≤ j) → j < 140 → rwv w976 86 j = rwv w 86 j := fun j hj hl => (rwv_fr hF979 (by decide)).trans (os971 j hj hl)
    have ix987 : u45 < 1 → rwv w976 86 (5) = n921 := fun h => (rwv_fr hF979 (by decide)).trans (hp968 h)
    have rg988 : FA w976 ≠ 0 ∨ 0 = 1 := rg972.imp_left hn983.1
    have rg989 : FA w976 ≠ 0 ∨ (1 ≤ n921 ∧ n921 ≤ 6) := rg973.imp_left hn983.1
    have mf990 : ∀ s, s < 7 → rwv w976 85 s = rwv w 85 s := fun s hs => (rwv_fr hF979 (by decide)).trans (mf974 s hs)
    have ms991 : mu w976 < mu w := Nat.lt_of_le_of_lt hn983.2.1 ms975
    clear hp968 rg972 rg973
    obtain ⟨f82_992, f82_994, f82_996, f82_998, f82_1000, f82_1002, f82_1004, f82_1006, f82_1008, f82_1010, f82_1012, f82_1013, f82_1014, f82_1016, f82_1018, f82_1020, h82_1022, hb993, hb995, hb997, hb999, hb1001, hb1003, hb1005, hb1007, hb1009, hb1011, hb1015, hb1017, hb1019, hb1021, hb1023⟩ := (hI978 82 (by decide) (by decide) : cp82 (wget w976 82))
    refine xg_cVv mX12_puts (vs := [(0, 6), (0, u45), (0, 6), (0, n980)]) (rest := []) (cn1 := 0) (sl1 := 0) rfl (mPuts6 (hI978) (by omega) (by omega) (by omega) (fun _ => by omega)) rfl h82_1022 rfl rfl rfl rfl rfl rfl (fun w1024 hq1025 => ?_)
    obtain ⟨hI1026, hF1027, hx1028⟩ := hq1025
    obtain ⟨hp1029, hp1030⟩ := hx1028
    have pk1031 : PK w w1024 := PK.tr pk985 (PK.fr hF1027 (by decide) (by decide) pk985.2.2.2)
    have os1032 : ∀ j, (j < 5 ∨ 7 ≤ j) → j < 140 → rwv w1024 86 j = rwv w 86 j := fun j hj hl => (hp1030 j (by omega) hl).trans (os986 j hj hl)
    have ix1033 : u45 < 1 → rwv w1024 86 (5) = n921 := fun h => (hp1030 _ (by omega) (by omega)).trans (ix987 h)
    have rg1034 : FA w1024 ≠ 0 ∨ 0 = 1 := rg988.imp_left (PK.fr hF1027 (by decide) (by decide) pk985.2.2.2).1
    have rg1035 : FA w1024 ≠ 0 ∨ (1 ≤ n921 ∧ n921 ≤ 6) := rg989.imp_left (PK.fr hF1027 (by decide) (by decide) pk985.2.2.2).1
    have rg1036 : FA w1024 ≠ 0 ∨ (1 ≤ n980 ∧ n980 ≤ 6) := hn984.imp_left (PK.fr hF1027 (by decide) (by decide) pk985.2.2.2).1
    have mf1037 : ∀ s, s < 7 → rwv w1024 85 s = rwv w 85 s := fun s hs => (rwv_fr hF1027 (by decide)).trans (mf990 s hs)
    have ms1038 : mu w1024 < mu w := Nat.lt_of_le_of_lt (PK.fr hF1027 (by decide) (by decide) pk985.2.2.2).2.1 ms991
    clear ix987 rg988 rg989 hn984
    refine xg_t (xg_iinc (u := 1) (z := 2) (l1 := [(3, (0, u45)), (2, (0, at_)), (1, (0, 6)), (0, (2, 82))]) rfl rfl (by decide) rfl) ?_
    refine xg_t (xg_goto) ?_
    refine xg_t (xg_blk (b := [(365, 2, 2, 4, 0, 0), (367, 1, 3, 2, 0, 0), (368, 3, 6, 394, 3, 0), (371, 1, 0, 0, 0, 0), (372, 1, 2, 1, 0, 0), (373, 1, 2, 3, 0, 0), (374, 1, 3, 5, 0, 0), (375, 2, 2, 4, 0, 0), (377, 1, 11, 0, 0, 0), (378, 1, 0, 0, 0, 0), (379, 1, 3, 1, 0, 0), (380, 2, 4, 6, 0, 0), (382, 3, 13, 199, 96, 196), (385, 3, 13, 211, 96, 200), (388, 3, 9, 4, 1, 0), (391, 3, 8, 365, 0, 0)]) rfl) ?_
    refine xg_t (xg_iload (va := (0, 2)) rfl rfl) ?_
    refine xg_t (xg_const) ?_
    refine xg_t (xg_icT (u := 2) (v := 2) rfl xnm0 xnm0 (by decide)) ?_
    refine xg_t (xg_drop (l1 := [(0, (2, 82)), (1, (0, 6)), (3, (0, u45))]) (List.forall_mem_cons.mpr ⟨List.mem_cons_of_mem _ (List.mem_cons_of_mem _ (List.mem_cons_of_mem _ (List.mem_cons_of_mem _ (List.mem_cons_self)))), List.forall_mem_cons.mpr ⟨List.mem_cons_of_mem _ (List.mem_cons_of_mem _ (List.mem_cons_of_mem _ (List.mem_cons_self))), List.forall_mem_cons.mpr ⟨List.mem_cons_of_mem _ (List.mem_cons_self), fun _ h => absurd h List.not_mem_nil⟩⟩⟩)) ?_
    have hX1039 : FA w1024 ≠ 0 ∨ u45 < 1 := Or.inl (by have q := rg1034; omega)
    have hN1040 : FA w1024 ≠ 0 ∨ 1 ≤ u45 ∨ (1 ≤ rwv w1024 86 5 ∧ rwv w1024 86 5 ≤ 6 ∧ 1 ≤ rwv w1024 86 6 ∧ rwv w1024 86 6 ≤ 6) := by
      have hl1041 : u45 < 1 → rwv w1024 86 (5) = n921 := ix1033
      have hl1042 : u45 < 1 → rwv w1024 86 (6) = n980 := hp1029
      have hl1043 := rg1035
      have hl1044 := rg1036
      omega
    exact jn568 w1024 (hI1026) (((((((hF544.up (by decide)).tr (hF554.up (by decide))).tr (hF920.up (by decide))).tr (hF966.up (by decide))).tr (hF979.up (by decide))).tr (hF1027.up (by decide)))) (⟨pk1031, os1032, ms1038, mf1037, hX1039, hN1040⟩)
set_option maxHeartbeats 60000000 in
theorem mALine (hI : xMnv w) (hps : PS w) (hmb : ∀ s, s < 7 → rwv w 85 s ≤ 1000) (hln : fld w 82 14 ≤ 1000) : xPq (d + 7) mX12_aLine [(2, 82)] w bd fc rr [] (fun w' => xMnv w' ∧ xFr [82, 83, 85, 86, 87] w w' ∧ ((FA w ≠ 0 → FA w' ≠ 0) ∧ PS w' ∧ ((fld w' 82 10 = 1 ∧ mu w' = mu w ∧ fld w' 82 14 = fld w 82 14 ∧ ∀ s, s < 7 → rwv w' 85 s = rwv w 85 s) ∨ (mu w' < mu w ∧ fld w' 82 14 = fld w 82 14 + 1 ∧ ∀ s, s < 7 → rwv w' 85 s ≤ rwv w 85 s + 1)) ∧ (FA w' ≠ 0 ∨ (DATA w → DATA w')))) := by
  refine xPq.of ?_
  show xTo (d + 7) mX12_aLine (0, [], [(0, (2, 82))], [], (w, bd, fc, 0, 0, rr)) (fun φ => ∃ w', xEnd 0 [] (w', bd, fc, 0, 0, rr) φ ∧ xMnv w' ∧ xFr [82, 83, 85, 86, 87] w w' ∧ ((FA w ≠ 0 → FA w' ≠ 0) ∧ PS w' ∧ ((fld w' 82 10 = 1 ∧ mu w' = mu w ∧ fld w' 82 14 = fld w 82 14 ∧ ∀ s, s < 7 → rwv w' 85 s = rwv w 85 s) ∨ (mu w' < mu w ∧ fld w' 82 14 = fld w 82 14 + 1 ∧ ∀ s, s < 7 → rwv w' 85 s ≤ rwv w 85 s + 1)) ∧ (FA w' ≠ 0 ∨ (DATA w → DATA w'))))
  obtain ⟨f82_1, f82_3, f82_5, f82_7, f82_9, f82_11, f82_13, f82_15, f82_17, f82_19, f82_21, f82_22, f82_23, f82_25, f82_27, f82_29, h82_31, hb2, hb4, hb6, hb8, hb10, hb12, hb14, hb16, hb18, hb20, hb24, hb26, hb28, hb30, hb32⟩ := (hI 82 (by decide) (by decide) : cp82 (wget w 82))
  have hf33 : fld w 82 7 = f82_11 := fld_of h82_31
  have hf34 : fld w 82 10 = f82_17 := fld_of h82_31
  have hf35 : fld w 82 14 = f82_19 := fld_of h82_31
  have hps_ : fld w 82 10 = 0 ∨ FA w ≠ 0 := hps
  obtain ⟨g85_36, h85_37, hb38⟩ := (hI 85 (by decide) (by decide) : cpI 7 52 4294967295 (wget w 85))
  have h85_37 : xRow w 85 7 52 g85_36 := h85_37
  obtain ⟨g86_39, h86_40, hb41⟩ := (hI 86 (by decide) (by decide) : cpI 140 53 4294967295 (wget w 86))
  have h86_40 : xRow w 86 140 53 g86_39 := h86_40
  obtain ⟨g87_42, h87_43, hb44⟩ := (hI 87 (by decide) (by decide) : cpI 20 54 4294967295 (wget w 87))
  have h87_43 : xRow w 87 20 54 g87_42 := h87_43
  refine xg_t (xg_blk (b := [(0, 1, 0, 0, 0, 0), (1, 3, 1, 12, 9, 165), (4, 1, 15, 1, 0, 0), (5, 1, 0, 0, 0, 0), (6, 3, 1, 12, 6, 148), (9, 1, 15, 2, 0, 0), (10, 1, 0, 0, 0, 0), (11, 3, 1, 12, 10, 180), (14, 3, 7, 38, 1, 0), (17, 1, 0, 0, 0, 0), (18, 3, 1, 12, 7, 151), (21, 1, 3, 3, 0, 0), (22, 3, 6, 38, 1, 0), (25, 1, 0, 0, 0, 0), (26, 3, 1, 12, 9, 165), (29, 1, 3, 0, 0, 0), (30, 2, 4, 6, 0, 0), (32, 3, 13, 161, 98, 105), (35, 3, 7, 43, 1, 0)]) rfl) ?_
  refine xg_t (xg_aload (va := (2, 82)) rfl rfl) ?_
  refine xg_t (xg_getf (va := (0, f82_15)) h82_31 rfl) ?_
  refine xg_t (xg_istore (l1 := [(0, (2, 82))]) rfl rfl rfl) ?_
  refine xg_t (xg_aload (va := (2, 82)) rfl rfl) ?_
  refine xg_t (xg_getf (va := (0, f82_9)) h82_31 rfl) ?_
  refine xg_t (xg_istore (l1 := [(1, (0, f82_15)), (0, (2, 82))]) rfl rfl rfl) ?_
  refine xg_t (xg_aload (va := (2, 82)) rfl rfl) ?_
  refine xg_t (xg_getf (va := (0, f82_17)) h82_31 rfl) ?_
  by_cases hc45 : f82_17 = 0
  · refine xg_t (xg_ifF (u := f82_17) rfl xnm0 (xj_neF hc45)) ?_
    refine xg_t (xg_aload (va := (2, 82)) rfl rfl) ?_
    refine xg_t (xg_getf (va := (0, f82_11)) h82_31 rfl) ?_
    refine xg_t (xg_const) ?_
    by_cases hc46 : f82_11 = 3
    · refine xg_t (xg_icF (u := f82_11) (v := 3) rfl xnm0 xnm0 (xj_neF hc46)) ?_
      refine xg_t (xg_aload (va := (2, 82)) rfl rfl) ?_
      refine xg_t (xg_getf (va := (0, f82_15)) h82_31 rfl) ?_
      refine xg_t (xg_const) ?_
      refine xg_t (xg_bip) ?_
      refine xg_t (xg_cSr mX12_isIn (vs := [(0, f82_15), (0, 0), (0, 6)]) (rest := []) (rs := [(0, if 0 ≤ f82_15 ∧ f82_15 ≤ 6 then 1 else 0)]) (cn1 := 0) (sl1 := 0) rfl (mIsIn (by omega) (by omega) (by omega)) rfl rfl rfl rfl rfl rfl rfl rfl) ?_
      by_cases hc47 : 0 ≤ f82_15 ∧ f82_15 ≤ 6
      · refine xg_t (xg_ifT (u := (if 0 ≤ f82_15 ∧ f82_15 ≤ 6 then 1 else 0)) rfl xnm0 (xj_neT (xite1 hc47))) ?_
        rcases (show f82_15 = 0 ∨ f82_15 = 1 ∨ f82_15 = 2 ∨ f82_15 = 3 ∨ f82_15 = 4 ∨ f82_15 = 5 ∨ f82_15 = 6 by omega) with rfl | rfl | rfl | rfl | rfl | rfl | rfl
        · exact mALineS0 hI hps hmb hln (by omega) (by omega)
        · exact mALineS1 hI hps hmb hln (by omega) (by omega)
        · exact mALineS2 hI hps hmb hln (by omega) (by omega)
        · exact mALineS3 hI hps hmb hln (by omega) (by omega)
        · exact mALineS4 hI hps hmb hln (by omega) (by omega)
        · exact mALineS5 hI hps hmb hln (by omega) (by omega)
        · exact mALineS6 hI hps hmb hln (by omega) (by omega)
      · refine xg_t (xg_ifF (u := (if 0 ≤ f82_15 ∧ f82_15 ≤ 6 then 1 else 0)) rfl xnm0 (xj_neF (xite0 hc47))) ?_
        refine xg_t (xg_blk (b := [(38, 1, 0, 0, 0, 0), (39, 3, 13, 140, 96, 183), (42, 1, 12, 0, 0, 0)]) rfl) ?_
        refine xg_t (xg_aload (va := (2, 82)) rfl rfl) ?_
        refine xg_cVv mX12_ends (vs := []) (rest := []) (cn1 := 0) (sl1 := 0) rfl (mEnds (hI) hps) rfl h82_31 rfl rfl rfl rfl rfl rfl (fun w48 hq49 => ?_)
        obtain ⟨hI50, hF51, hx52⟩ := hq49
        obtain ⟨hv53, hv54, hv55, hv56⟩ := hx52
        obtain ⟨f82_57, f82_59, f82_61, f82_63, f82_65, f82_67, f82_69, f82_71, f82_73, f82_75, f82_77, f82_78, f82_79, f82_81, f82_83, f82_85, h82_87, hb58, hb60, hb62, hb64, hb66, hb68, hb70, hb72, hb74, hb76, hb80, hb82, hb84, hb86, hb88⟩ := (hI50 82 (by decide) (by decide) : cp82 (wget w48 82))
        exact xg_e ⟨w48, ⟨rfl, rfl⟩, hI50, (hF51.up (by decide)), ⟨fun _ => hv53, Or.inr hv53, Or.inl ⟨hv54, hv55, hv56, fun s hs => rwv_fr hF51 (by decide)⟩, Or.inl hv53⟩⟩
    · refine xg_t (xg_icT (u := f82_11) (v := 3) rfl xnm0 xnm0 (xj_neT hc46)) ?_
      refine xg_t (xg_blk (b := [(38, 1, 0, 0, 0, 0), (39, 3, 13, 140, 96, 183), (42, 1, 12, 0, 0, 0)]) rfl) ?_
      refine xg_t (xg_aload (va := (2, 82)) rfl rfl) ?_
      refine xg_cVv mX12_ends (vs := []) (rest := []) (cn1 := 0) (sl1 := 0) rfl (mEnds (hI) hps) rfl h82_31 rfl rfl rfl rfl rfl rfl (fun w89 hq90 => ?_)
      obtain ⟨hI91, hF92, hx93⟩ := hq90
      obtain ⟨hv94, hv95, hv96, hv97⟩ := hx93
      obtain ⟨f82_98, f82_100, f82_102, f82_104, f82_106, f82_108, f82_110, f82_112, f82_114, f82_116, f82_118, f82_119, f82_120, f82_122, f82_124, f82_126, h82_128, hb99, hb101, hb103, hb105, hb107, hb109, hb111, hb113, hb115, hb117, hb121, hb123, hb125, hb127, hb129⟩ := (hI91 82 (by decide) (by decide) : cp82 (wget w89 82))
      exact xg_e ⟨w89, ⟨rfl, rfl⟩, hI91, (hF92.up (by decide)), ⟨fun _ => hv94, Or.inr hv94, Or.inl ⟨hv95, hv96, hv97, fun s hs => rwv_fr hF92 (by decide)⟩, Or.inl hv94⟩⟩
  · refine xg_t (xg_ifT (u := f82_17) rfl xnm0 (xj_neT hc45)) ?_
    refine xg_t (xg_blk (b := [(38, 1, 0, 0, 0, 0), (39, 3, 13, 140, 96, 183), (42, 1, 12, 0, 0, 0)]) rfl) ?_
    refine xg_t (xg_aload (va := (2, 82)) rfl rfl) ?_
    refine xg_cVv mX12_ends (vs := []) (rest := []) (cn1 := 0) (sl1 := 0) rfl (mEnds (hI) hps) rfl h82_31 rfl rfl rfl rfl rfl rfl (fun w130 hq131 => ?_)
    obtain ⟨hI132, hF133, hx134⟩ := hq131
    obtain ⟨hv135, hv136, hv137, hv138⟩ := hx134
    obtain ⟨f82_139, f82_141, f82_143, f82_145, f82_147, f82_149, f82_151, f82_153, f82_155, f82_157, f82_159, f82_160, f82_161, f82_163, f82_165, f82_167, h82_169, hb140, hb142, hb144, hb146, hb148, hb150, hb152, hb154, hb156, hb158, hb162, hb164, hb166, hb168, hb170⟩ := (hI132 82 (by decide) (by decide) : cp82 (wget w130 82))
    exact xg_e ⟨w130, ⟨rfl, rfl⟩, hI132, (hF133.up (by decide)), ⟨fun _ => hv135, Or.inr hv135, Or.inl ⟨hv136, hv137, hv138, fun s hs => rwv_fr hF133 (by decide)⟩, Or.inl hv135⟩⟩
end XMB
