/-! the model: lines of films, more -/
section XMB
variable {d : Nat} {w : List (List xE)} {bd : List (Nat × Nat)} {fc : List (Nat × Nat × Bool)} {rr : Nat × Nat}
set_option maxHeartbeats 60000000 in
theorem mALineS5 {at_ : Nat} (hI : xMnv w) (hps : PS w) (hmb : ∀ s, s < 7 → rwv w 85 s ≤ 1000) (hln : fld w 82 14 ≤ 1000) (h7 : fld w 82 7 = 3) (hat : at_ ≤ 4294967295) : xTo (d + 7) mX12_aLine (43, [], [(2, (0, at_)), (1, (0, 5)), (0, (2, 82))], [], (w, bd, fc, 0, 0, rr)) (fun φ => ∃ w', xEnd 0 [] (w', bd, fc, 0, 0, rr) φ ∧ xMnv w' ∧ xFr [82, 83, 85, 86, 87] w w' ∧ ((FA w ≠ 0 → FA w' ≠ 0) ∧ PS w' ∧ ((fld w' 82 10 = 1 ∧ mu w' = mu w ∧ fld w' 82 14 = fld w 82 14 ∧ ∀ s, s < 7 → rwv w' 85 s = rwv w 85 s) ∨ (mu w' < mu w ∧ fld w' 82 14 = fld w 82 14 + 1 ∧ ∀ s, s < 7 → rwv w' 85 s ≤ rwv w 85 s + 1)) ∧ (FA w' ≠ 0 ∨ (DATA w → DATA w')) ∧ K83 w w')) := by
  obtain ⟨f82_1, f82_3, f82_5, f82_7, f82_9, f82_11, f82_13, f82_15, f82_17, f82_19, f82_21, f82_22, f82_23, f82_25, f82_27, f82_29, h82_31, hb2, hb4, hb6, hb8, hb10, hb12, hb14, hb16, hb18, hb20, hb24, hb26, hb28, hb30, hb32⟩ := (hI 82 (by decide) (by decide) : cp82 (wget w 82))
  have hf33 : fld w 82 7 = f82_11 := fld_of h82_31
  have hf34 : fld w 82 10 = f82_17 := fld_of h82_31
  have hf35 : fld w 82 14 = f82_19 := fld_of h82_31
  have hps_ : fld w 82 10 = 0 ∨ FA w ≠ 0 := hps
  obtain ⟨g85_36, h85_37, hb38⟩ := (hI 85 (by decide) (by decide) : cpI 7 52 4294967295 (wget w 85))
  have h85_37 : xRow w 85 7 52 g85_36 := h85_37
  obtain ⟨g86_39, h86_40, hb41⟩ := (hI 86 (by decide) (by decide) : cpI 140 53 4294967295 (wget w 86))
  have h86_40 : xRow w 86 140 53 g86_39 := h86_40
  obtain ⟨g87_42, h87_43, hb44⟩ := (hI 87 (by decide) (by decide) : cpI 20 54 4294967295 (wget w 87))
  have h87_43 : xRow w 87 20 54 g87_42 := h87_43
  refine xg_t (xg_blk (b := [(43, 1, 0, 0, 0, 0), (44, 3, 1, 12, 11, 17), (47, 1, 2, 1, 0, 0), (48, 1, 10, 0, 0, 0), (49, 1, 15, 3, 0, 0), (50, 1, 2, 3, 0, 0), (51, 1, 2, 1, 0, 0), (52, 3, 13, 194, 98, 193), (55, 3, 6, 64, 2, 0), (58, 1, 0, 0, 0, 0), (59, 1, 3, 3, 0, 0), (60, 1, 2, 2, 0, 0), (61, 3, 13, 115, 96, 186)]) rfl) ?_
  refine xg_t (xg_aload (va := (2, 82)) rfl rfl) ?_
  refine xg_t (xg_getf (va := (2, 85)) h82_31 rfl) ?_
  refine xg_t (xg_iload (va := (0, 5)) rfl rfl) ?_
  refine xg_ialdB (n := 5) (B := 4294967295) h85_37 (hb38) xnm0 (by omega) (fun u45 hu46 he47 => ?_)
  have hK48 : rwv w 85 5 = u45 := (rwv_of h85_37 (by decide)).trans he47
  have hm49 := hmb 5 (by decide)
  have hl50 : u45 ≤ 1000 := by omega
  refine xg_t (xg_istore (l1 := [(2, (0, at_)), (1, (0, 5)), (0, (2, 82))]) rfl rfl rfl) ?_
  refine xg_t (xg_iload (va := (0, u45)) rfl rfl) ?_
  refine xg_t (xg_iload (va := (0, 5)) rfl rfl) ?_
  refine xg_t (xg_cSr mX12_mostOf (vs := [(0, 5)]) (rest := [(0, u45)]) (rs := [(0, 1), (0, u45)]) (cn1 := 0) (sl1 := 0) rfl (mMostR5) rfl rfl rfl rfl rfl rfl rfl rfl) ?_
  by_cases hc51 : u45 < 1
  · refine xg_t (xg_icT (u := u45) (v := 1) rfl xnm0 xnm0 (xj_ltT hc51 (by omega))) ?_
    refine xg_t (xg_blk (b := [(64, 1, 0, 0, 0, 0), (65, 3, 13, 110, 96, 190), (68, 1, 2, 1, 0, 0), (69, 39, 33, 362, 0, 9)]) rfl) ?_
    refine xg_t (xg_aload (va := (2, 82)) rfl rfl) ?_
    refine xg_cVv mX12_advance (vs := []) (rest := []) (cn1 := 0) (sl1 := 0) rfl (mAdvance (hI)) rfl h82_31 rfl rfl rfl rfl rfl rfl (fun w52 hq53 => ?_)
    obtain ⟨hI54, hF55, hx56⟩ := hq53
    clear hb2 hb4 hb6 hb8 hb10 hb12 hb14 hb16 hb18 hb20 hb24 hb26 hb28 hb30
    obtain ⟨hv57, hv58, hv59, hv60⟩ := hx56
    have hf62 := FA_fr hF55 (by decide)
    have hs63 := (PK.rf hps).2.2.2.1
    unfold PS at hs63
    have pk61 : PK w w52 := ⟨fun _ => by omega, hv57, hv60, (show fld w52 82 10 = 0 ∨ FA w52 ≠ 0 by omega), K83.fr hF55 (by decide)⟩
    clear hs63
    have pk64 : PK w w52 := PK.tr (PK.rf hps) pk61
    have os65 : ∀ j, (j < 7 ∨ 9 ≤ j) → j < 140 → rwv w52 86 j = rwv w 86 j := fun j hj hl => (rwv_fr hF55 (by decide)).trans ((fun j _ _ => rfl) j hj hl)
    have mf66 : ∀ s, s < 7 → rwv w52 85 s = rwv w 85 s := fun s hs => (rwv_fr hF55 (by decide)).trans ((fun _ _ => rfl) s hs)
    have ms67 : mu w52 < mu w := Nat.lt_of_lt_of_le (hv58 (by omega)) (PK.rf hps).2.1
    clear hv58
    have jn68 : ∀ (w69 : List (List xE)), xMnv w69 → xFr [82, 83, 85, 86, 87] w w69 → (PK w w69 ∧ (∀ j, (j < 7 ∨ 9 ≤ j) → j < 140 → rwv w69 86 j = rwv w 86 j) ∧ mu w69 < mu w ∧ (∀ s, s < 7 → rwv w69 85 s = rwv w 85 s) ∧ (FA w69 ≠ 0 ∨ u45 < 1) ∧ (FA w69 ≠ 0 ∨ 1 ≤ u45 ∨ (1 ≤ rwv w69 86 7 ∧ rwv w69 86 7 ≤ 10 ∧ 1 ≤ rwv w69 86 8 ∧ rwv w69 86 8 ≤ 10))) → xTo (d + 7) mX12_aLine (394, [], [(0, (2, 82)), (1, (0, 5)), (3, (0, u45))], [], (w69, bd, fc, 0, 0, rr)) (fun φ => ∃ w', xEnd 0 [] (w', bd, fc, 0, 0, rr) φ ∧ xMnv w' ∧ xFr [82, 83, 85, 86, 87] w w' ∧ ((FA w ≠ 0 → FA w' ≠ 0) ∧ PS w' ∧ ((fld w' 82 10 = 1 ∧ mu w' = mu w ∧ fld w' 82 14 = fld w 82 14 ∧ ∀ s, s < 7 → rwv w' 85 s = rwv w 85 s) ∨ (mu w' < mu w ∧ fld w' 82 14 = fld w 82 14 + 1 ∧ ∀ s, s < 7 → rwv w' 85 s ≤ rwv w 85 s + 1)) ∧ (FA w' ≠ 0 ∨ (DATA w → DATA w')) ∧ K83 w w')) := by
      intro w69 hI70 hF71 he72
      obtain ⟨hj73, hj74, hj75, hj76, hj77, hj78⟩ := he72
      refine xg_t (xg_blk (b := [(394, 1, 0, 0, 0, 0), (395, 3, 1, 12, 10, 180), (398, 3, 7, 416, 1, 0), (401, 1, 0, 0, 0, 0), (402, 3, 1, 12, 7, 151), (405, 1, 3, 2, 0, 0), (406, 3, 6, 416, 1, 0), (409, 1, 0, 0, 0, 0), (410, 3, 13, 110, 96, 190), (413, 3, 8, 420, 0, 0)]) rfl) ?_
      refine xg_t (xg_aload (va := (2, 82)) rfl rfl) ?_
      obtain ⟨f82_79, f82_81, f82_83, f82_85, f82_87, f82_89, f82_91, f82_93, f82_95, f82_97, f82_99, f82_100, f82_101, f82_103, f82_105, f82_107, h82_109, hb80, hb82, hb84, hb86, hb88, hb90, hb92, hb94, hb96, hb98, hb102, hb104, hb106, hb108, hb110⟩ := (hI70 82 (by decide) (by decide) : cp82 (wget w69 82))
      refine xg_t (xg_getf (va := (0, f82_95)) h82_109 rfl) ?_
      by_cases hc111 : f82_95 = 0
      · refine xg_t (xg_ifF (u := f82_95) rfl xnm0 (xj_neF hc111)) ?_
        refine xg_t (xg_aload (va := (2, 82)) rfl rfl) ?_
        refine xg_t (xg_getf (va := (0, f82_89)) h82_109 rfl) ?_
        refine xg_t (xg_const) ?_
        by_cases hc112 : f82_89 = 2
        · refine xg_t (xg_icF (u := f82_89) (v := 2) rfl xnm0 xnm0 (xj_neF hc112)) ?_
          refine xg_t (xg_aload (va := (2, 82)) rfl rfl) ?_
          refine xg_cVv mX12_advance (vs := []) (rest := []) (cn1 := 0) (sl1 := 0) rfl (mAdvance (hI70)) rfl h82_109 rfl rfl rfl rfl rfl rfl (fun w113 hq114 => ?_)
          obtain ⟨hI115, hF116, hx117⟩ := hq114
          clear hb80 hb82 hb84 hb86 hb88 hb90 hb92 hb94 hb96 hb98 hb102 hb104 hb106 hb108
          obtain ⟨hv118, hv119, hv120, hv121⟩ := hx117
          have hf123 := FA_fr hF116 (by decide)
          have hs124 := hj73.2.2.2.1
          unfold PS at hs124
          have pk122 : PK w69 w113 := ⟨fun _ => by omega, hv118, hv121, (show fld w113 82 10 = 0 ∨ FA w113 ≠ 0 by omega), K83.fr hF116 (by decide)⟩
          clear hs124
          clear hv119
          have pk125 : PK w w113 := PK.tr hj73 pk122
          have os126 : ∀ j, (j < 7 ∨ 9 ≤ j) → j < 140 → rwv w113 86 j = rwv w 86 j := fun j hj hl => (rwv_fr hF116 (by decide)).trans (hj74 j hj hl)
          have rg127 : FA w113 ≠ 0 ∨ u45 < 1 := hj77.imp_left pk122.1
          have mf128 : ∀ s, s < 7 → rwv w113 85 s = rwv w 85 s := fun s hs => (rwv_fr hF116 (by decide)).trans (hj76 s hs)
          have hl129 : rwv w113 86 (7) = rwv w69 86 (7) := rwv_fr hF116 (by decide)
          have hl130 : rwv w113 86 (8) = rwv w69 86 (8) := rwv_fr hF116 (by decide)
          have nw131 : FA w113 ≠ 0 ∨ 1 ≤ u45 ∨ (1 ≤ rwv w113 86 7 ∧ rwv w113 86 7 ≤ 10 ∧ 1 ≤ rwv w113 86 8 ∧ rwv w113 86 8 ≤ 10) := by have q := hj78; have q1 := pk122.1; omega
          clear hj78
          have ms132 : mu w113 < mu w := Nat.lt_of_le_of_lt pk122.2.1 hj75
          clear hj77
          refine xg_t (xg_goto) ?_
          refine xg_t (xg_blk (b := [(420, 1, 0, 0, 0, 0), (421, 3, 1, 12, 11, 17), (424, 1, 2, 1, 0, 0), (425, 1, 39, 0, 0, 0), (426, 1, 10, 0, 0, 0), (427, 1, 3, 1, 0, 0), (428, 1, 11, 0, 0, 0), (429, 1, 17, 0, 0, 0), (430, 1, 0, 0, 0, 0), (431, 1, 19, 0, 0, 0), (432, 3, 1, 12, 14, 212), (435, 1, 3, 1, 0, 0), (436, 1, 11, 0, 0, 0), (437, 3, 14, 12, 14, 212), (440, 1, 12, 0, 0, 0)]) rfl) ?_
          obtain ⟨f82_133, f82_135, f82_137, f82_139, f82_141, f82_143, f82_145, f82_147, f82_149, f82_151, f82_153, f82_154, f82_155, f82_157, f82_159, f82_161, h82_163, hb134, hb136, hb138, hb140, hb142, hb144, hb146, hb148, hb150, hb152, hb156, hb158, hb160, hb162, hb164⟩ := (hI115 82 (by decide) (by decide) : cp82 (wget w113 82))
          have hf165 : fld w113 82 4 = f82_137 := fld_of h82_163
          have hf166 : fld w113 82 5 = f82_139 := fld_of h82_163
          have hf167 : fld w113 82 7 = f82_143 := fld_of h82_163
          have hf168 : fld w113 82 10 = f82_149 := fld_of h82_163
          have hf169 : fld w113 82 14 = f82_151 := fld_of h82_163
          have hu170 : mu w113 = 2 * (fld w113 82 4 - fld w113 82 5) + min 1 (fld w113 82 7) := rfl
          have hf171 := pk125.2.2.1
          have hl172 : f82_151 ≤ 1000 := by omega
          refine xg_t (xg_aload (va := (2, 82)) rfl rfl) ?_
          refine xg_t (xg_getf (va := (2, 85)) h82_163 rfl) ?_
          refine xg_t (xg_iload (va := (0, 5)) rfl rfl) ?_
          refine xg_t (xg_dup2 rfl) ?_
          obtain ⟨g85_173, h85_174, hb175⟩ := (hI115 85 (by decide) (by decide) : cpI 7 52 4294967295 (wget w113 85))
          have h85_174 : xRow w113 85 7 52 g85_173 := h85_174
          refine xg_ialdB (n := 5) (B := 4294967295) h85_174 (hb175) xnm0 (by omega) (fun u176 hu177 he178 => ?_)
          have hl179 : u176 = u45 := by have q1 := rwv_of h85_174 (show 5 < 7 by decide); have q2 := mf128 5 (by decide); omega
          refine xg_t (xg_const) ?_
          refine xg_t (xg_iadd (u := u176) (v := 1) (z := u176 + 1) xnm0 xnm0 (by omega)) ?_
          refine xg_iastK (n := 5) (u := u176 + 1) h85_174 xnm0 xnm0 rfl (by omega) (fun w180 hr181 hb182 => ?_)
          refine xg_t (xg_aload (va := (2, 82)) rfl rfl) ?_
          refine xg_t (xg_dup rfl) ?_
          refine xg_t (xg_getf (va := (0, f82_151)) (hb182.get (by decide) h82_163) rfl) ?_
          refine xg_t (xg_const) ?_
          refine xg_t (xg_iadd (u := f82_151) (v := 1) (z := f82_151 + 1) xnm0 xnm0 (by omega)) ?_
          refine xg_putI (fl1 := [(2, 83), (2, 84), (0, f82_133), (0, f82_135), (0, f82_137), (0, f82_139), (0, f82_141), (0, f82_143), (0, f82_145), (0, f82_147), (0, f82_149), (2, 85), (2, 86), (2, 87), (0, f82_151 + 1), (2, 88), (2, 89), (2, 90), (2, 91), (2, 92), (2, 93), (2, 94), (4, f82_153), (4, f82_154), (0, f82_155), (2, 95), (2, 96), (2, 97), (2, 98), (2, 99), (2, 100), (2, 101), (2, 102), (0, f82_157), (2, 103), (2, 104), (2, 105), (2, 106), (2, 107), (2, 108), (2, 109), (0, f82_159), (0, f82_161), (2, 110), (2, 111), (2, 112), (2, 113)]) (hb182.get (by decide) h82_163) rfl rfl rfl (fun w183 hk184 hb185 => ?_)
          have hF186 : xFr [82, 85] w113 w183 := ((xFr.of (S := [82, 85]) hb182 (by decide)).tr (xFr.of (S := [82, 85]) hb185 (by decide)))
          have hA187 := FA_fr hF186 (by decide)
          have hf188 : fld w183 82 4 = f82_137 := fld_of hk184
          have hf189 : fld w183 82 5 = f82_139 := fld_of hk184
          have hf190 : fld w183 82 7 = f82_143 := fld_of hk184
          have hf191 : fld w183 82 10 = f82_149 := fld_of hk184
          have hf192 : fld w183 82 14 = f82_151 + 1 := fld_of hk184
          have hu193 : mu w183 = 2 * (fld w183 82 4 - fld w183 82 5) + min 1 (fld w183 82 7) := rfl
          have pq194 := pk125
          unfold PK PS at pq194
          have hM195 : ∀ s, s < 7 → s ≠ 5 → rwv w183 85 s = rwv w 85 s := fun s hs hn => (rwv_of (hr181.but hb185 (by decide)) hs).trans ((if_neg hn).trans ((rwv_of h85_174 hs).symm.trans (mf128 s hs)))
          have hM196 : rwv w183 85 5 = u45 + 1 := (rwv_of (hr181.but hb185 (by decide)) (by decide)).trans ((if_pos rfl).trans (by omega))
          have hM197 : ∀ s, s < 7 → rwv w183 85 s ≤ rwv w 85 s + 1 := fun s hs => by
            by_cases z : s = 5
            · subst z; omega
            · rw [hM195 s hs z]; omega
          have hO198 : ∀ j, (j < 7 ∨ 9 ≤ j) → j < 140 → rwv w183 86 j = rwv w 86 j := fun j hj hl => (rwv_fr hF186 (by decide)).trans (os126 j hj hl)
          have hl200 : FA w113 ≠ 0 ∨ u45 < 1 := rg127
          have hl201 : rwv w183 86 (7) = rwv w113 86 (7) := rwv_fr hF186 (by decide)
          have hl202 : rwv w183 86 (8) = rwv w113 86 (8) := rwv_fr hF186 (by decide)
          have hN199 : FA w183 ≠ 0 ∨ 1 ≤ u45 ∨ (1 ≤ rwv w183 86 7 ∧ rwv w183 86 7 ≤ 10 ∧ 1 ≤ rwv w183 86 8 ∧ rwv w183 86 8 ≤ 10) := by have q := nw131; omega
          have hX203 : FA w183 ≠ 0 ∨ u45 < 1 := by omega
          have hD204 : FA w183 ≠ 0 ∨ (DATA w → DATA w183) := by
            by_cases z : FA w183 ≠ 0
            · exact Or.inl z
            · exact Or.inr (fun hd => hd.s5 hM195 hK48 hM196 (hX203.resolve_left z) hO198 ((hN199.resolve_left z).resolve_left (by have := hX203.resolve_left z; omega)))
          exact xg_e ⟨w183, ⟨rfl, rfl⟩, xMnv.up (S := [85, 82]) hI115 ((xFr.of (S := [85, 82]) hb182 (by decide)).tr (xFr.of (S := [85, 82]) hb185 (by decide))) (List.forall_mem_cons.mpr ⟨(show cpI 7 52 4294967295 (wget w183 85) from ⟨_, (hr181.but hb185 (by decide)), xrb (by omega) (hb175)⟩), List.forall_mem_cons.mpr ⟨(show cp82 (wget w183 82) from ⟨f82_133, f82_135, f82_137, f82_139, f82_141, f82_143, f82_145, f82_147, f82_149, f82_151 + 1, f82_153, f82_154, f82_155, f82_157, f82_159, f82_161, hk184, hb134, hb136, hb138, hb140, hb142, hb144, hb146, hb148, hb150, by omega, hb156, hb158, hb160, hb162, by omega⟩), fun _ h => absurd h List.not_mem_nil⟩⟩), ((hF71.tr (hF116.up (by decide))).tr ((xFr.of (S := [82, 83, 85, 86, 87]) hb182 (by decide)).tr (xFr.of (S := [82, 83, 85, 86, 87]) hb185 (by decide)))), ⟨fun h => by have := pq194.1 h; omega, (show fld w183 82 10 = 0 ∨ FA w183 ≠ 0 by omega), Or.inr ⟨by have := ms132; omega, by omega, hM197⟩, hD204, pk125.2.2.2.2.tr (K83.fr hF186 (by decide))⟩⟩
        · refine xg_t (xg_icT (u := f82_89) (v := 2) rfl xnm0 xnm0 (xj_neT hc112)) ?_
          refine xg_t (xg_blk (b := [(416, 1, 0, 0, 0, 0), (417, 3, 13, 140, 96, 183)]) rfl) ?_
          refine xg_t (xg_aload (va := (2, 82)) rfl rfl) ?_
          refine xg_cVv mX12_ends (vs := []) (rest := []) (cn1 := 0) (sl1 := 0) rfl (mEnds (hI70) hj73.2.2.2.1) rfl h82_109 rfl rfl rfl rfl rfl rfl (fun w205 hq206 => ?_)
          obtain ⟨hI207, hF208, hx209⟩ := hq206
          clear hb80 hb82 hb84 hb86 hb88 hb90 hb92 hb94 hb96 hb98 hb102 hb104 hb106 hb108
          obtain ⟨hv210, hv211, hv212, hv213, hv214⟩ := hx209
          have pk215 : PK w69 w205 := ⟨fun _ => hv210, by omega, by omega, Or.inr hv210, hv214⟩
          have pk216 : PK w w205 := PK.tr hj73 pk215
          have os217 : ∀ j, (j < 7 ∨ 9 ≤ j) → j < 140 → rwv w205 86 j = rwv w 86 j := fun j hj hl => (rwv_fr hF208 (by decide)).trans (hj74 j hj hl)
          have rg218 : FA w205 ≠ 0 ∨ u45 < 1 := hj77.imp_left pk215.1
          have mf219 : ∀ s, s < 7 → rwv w205 85 s = rwv w 85 s := fun s hs => (rwv_fr hF208 (by decide)).trans (hj76 s hs)
          have hl220 : rwv w205 86 (7) = rwv w69 86 (7) := rwv_fr hF208 (by decide)
          have hl221 : rwv w205 86 (8) = rwv w69 86 (8) := rwv_fr hF208 (by decide)
          have nw222 : FA w205 ≠ 0 ∨ 1 ≤ u45 ∨ (1 ≤ rwv w205 86 7 ∧ rwv w205 86 7 ≤ 10 ∧ 1 ≤ rwv w205 86 8 ∧ rwv w205 86 8 ≤ 10) := by have q := hj78; have q1 := pk215.1; omega
          clear hj78
          have ms223 : mu w205 < mu w := Nat.lt_of_le_of_lt pk215.2.1 hj75
          clear hj77
          refine xg_t (xg_blk (b := [(420, 1, 0, 0, 0, 0), (421, 3, 1, 12, 11, 17), (424, 1, 2, 1, 0, 0), (425, 1, 39, 0, 0, 0), (426, 1, 10, 0, 0, 0), (427, 1, 3, 1, 0, 0), (428, 1, 11, 0, 0, 0), (429, 1, 17, 0, 0, 0), (430, 1, 0, 0, 0, 0), (431, 1, 19, 0, 0, 0), (432, 3, 1, 12, 14, 212), (435, 1, 3, 1, 0, 0), (436, 1, 11, 0, 0, 0), (437, 3, 14, 12, 14, 212), (440, 1, 12, 0, 0, 0)]) rfl) ?_
          obtain ⟨f82_224, f82_226, f82_228, f82_230, f82_232, f82_234, f82_236, f82_238, f82_240, f82_242, f82_244, f82_245, f82_246, f82_248, f82_250, f82_252, h82_254, hb225, hb227, hb229, hb231, hb233, hb235, hb237, hb239, hb241, hb243, hb247, hb249, hb251, hb253, hb255⟩ := (hI207 82 (by decide) (by decide) : cp82 (wget w205 82))
          have hf256 : fld w205 82 4 = f82_228 := fld_of h82_254
          have hf257 : fld w205 82 5 = f82_230 := fld_of h82_254
          have hf258 : fld w205 82 7 = f82_234 := fld_of h82_254
          have hf259 : fld w205 82 10 = f82_240 := fld_of h82_254
          have hf260 : fld w205 82 14 = f82_242 := fld_of h82_254
          have hu261 : mu w205 = 2 * (fld w205 82 4 - fld w205 82 5) + min 1 (fld w205 82 7) := rfl
          have hf262 := pk216.2.2.1
          have hl263 : f82_242 ≤ 1000 := by omega
          refine xg_t (xg_aload (va := (2, 82)) rfl rfl) ?_
          refine xg_t (xg_getf (va := (2, 85)) h82_254 rfl) ?_
          refine xg_t (xg_iload (va := (0, 5)) rfl rfl) ?_
          refine xg_t (xg_dup2 rfl) ?_
          obtain ⟨g85_264, h85_265, hb266⟩ := (hI207 85 (by decide) (by decide) : cpI 7 52 4294967295 (wget w205 85))
          have h85_265 : xRow w205 85 7 52 g85_264 := h85_265
          refine xg_ialdB (n := 5) (B := 4294967295) h85_265 (hb266) xnm0 (by omega) (fun u267 hu268 he269 => ?_)
          have hl270 : u267 = u45 := by have q1 := rwv_of h85_265 (show 5 < 7 by decide); have q2 := mf219 5 (by decide); omega
          refine xg_t (xg_const) ?_
          refine xg_t (xg_iadd (u := u267) (v := 1) (z := u267 + 1) xnm0 xnm0 (by omega)) ?_
          refine xg_iastK (n := 5) (u := u267 + 1) h85_265 xnm0 xnm0 rfl (by omega) (fun w271 hr272 hb273 => ?_)
          refine xg_t (xg_aload (va := (2, 82)) rfl rfl) ?_
          refine xg_t (xg_dup rfl) ?_
          refine xg_t (xg_getf (va := (0, f82_242)) (hb273.get (by decide) h82_254) rfl) ?_
          refine xg_t (xg_const) ?_
          refine xg_t (xg_iadd (u := f82_242) (v := 1) (z := f82_242 + 1) xnm0 xnm0 (by omega)) ?_
          refine xg_putI (fl1 := [(2, 83), (2, 84), (0, f82_224), (0, f82_226), (0, f82_228), (0, f82_230), (0, f82_232), (0, f82_234), (0, f82_236), (0, f82_238), (0, f82_240), (2, 85), (2, 86), (2, 87), (0, f82_242 + 1), (2, 88), (2, 89), (2, 90), (2, 91), (2, 92), (2, 93), (2, 94), (4, f82_244), (4, f82_245), (0, f82_246), (2, 95), (2, 96), (2, 97), (2, 98), (2, 99), (2, 100), (2, 101), (2, 102), (0, f82_248), (2, 103), (2, 104), (2, 105), (2, 106), (2, 107), (2, 108), (2, 109), (0, f82_250), (0, f82_252), (2, 110), (2, 111), (2, 112), (2, 113)]) (hb273.get (by decide) h82_254) rfl rfl rfl (fun w274 hk275 hb276 => ?_)
          have hF277 : xFr [82, 85] w205 w274 := ((xFr.of (S := [82, 85]) hb273 (by decide)).tr (xFr.of (S := [82, 85]) hb276 (by decide)))
          have hA278 := FA_fr hF277 (by decide)
          have hf279 : fld w274 82 4 = f82_228 := fld_of hk275
          have hf280 : fld w274 82 5 = f82_230 := fld_of hk275
          have hf281 : fld w274 82 7 = f82_234 := fld_of hk275
          have hf282 : fld w274 82 10 = f82_240 := fld_of hk275
          have hf283 : fld w274 82 14 = f82_242 + 1 := fld_of hk275
          have hu284 : mu w274 = 2 * (fld w274 82 4 - fld w274 82 5) + min 1 (fld w274 82 7) := rfl
          have pq285 := pk216
          unfold PK PS at pq285
          have hM286 : ∀ s, s < 7 → s ≠ 5 → rwv w274 85 s = rwv w 85 s := fun s hs hn => (rwv_of (hr272.but hb276 (by decide)) hs).trans ((if_neg hn).trans ((rwv_of h85_265 hs).symm.trans (mf219 s hs)))
          have hM287 : rwv w274 85 5 = u45 + 1 := (rwv_of (hr272.but hb276 (by decide)) (by decide)).trans ((if_pos rfl).trans (by omega))
          have hM288 : ∀ s, s < 7 → rwv w274 85 s ≤ rwv w 85 s + 1 := fun s hs => by
            by_cases z : s = 5
            · subst z; omega
            · rw [hM286 s hs z]; omega
          have hO289 : ∀ j, (j < 7 ∨ 9 ≤ j) → j < 140 → rwv w274 86 j = rwv w 86 j := fun j hj hl => (rwv_fr hF277 (by decide)).trans (os217 j hj hl)
          have hl291 : FA w205 ≠ 0 ∨ u45 < 1 := rg218
          have hl292 : rwv w274 86 (7) = rwv w205 86 (7) := rwv_fr hF277 (by decide)
          have hl293 : rwv w274 86 (8) = rwv w205 86 (8) := rwv_fr hF277 (by decide)
          have hN290 : FA w274 ≠ 0 ∨ 1 ≤ u45 ∨ (1 ≤ rwv w274 86 7 ∧ rwv w274 86 7 ≤ 10 ∧ 1 ≤ rwv w274 86 8 ∧ rwv w274 86 8 ≤ 10) := by have q := nw222; omega
          have hX294 : FA w274 ≠ 0 ∨ u45 < 1 := by omega
          have hD295 : FA w274 ≠ 0 ∨ (DATA w → DATA w274) := by
            by_cases z : FA w274 ≠ 0
            · exact Or.inl z
            · exact Or.inr (fun hd => hd.s5 hM286 hK48 hM287 (hX294.resolve_left z) hO289 ((hN290.resolve_left z).resolve_left (by have := hX294.resolve_left z; omega)))
          exact xg_e ⟨w274, ⟨rfl, rfl⟩, xMnv.up (S := [85, 82]) hI207 ((xFr.of (S := [85, 82]) hb273 (by decide)).tr (xFr.of (S := [85, 82]) hb276 (by decide))) (List.forall_mem_cons.mpr ⟨(show cpI 7 52 4294967295 (wget w274 85) from ⟨_, (hr272.but hb276 (by decide)), xrb (by omega) (hb266)⟩), List.forall_mem_cons.mpr ⟨(show cp82 (wget w274 82) from ⟨f82_224, f82_226, f82_228, f82_230, f82_232, f82_234, f82_236, f82_238, f82_240, f82_242 + 1, f82_244, f82_245, f82_246, f82_248, f82_250, f82_252, hk275, hb225, hb227, hb229, hb231, hb233, hb235, hb237, hb239, hb241, by omega, hb247, hb249, hb251, hb253, by omega⟩), fun _ h => absurd h List.not_mem_nil⟩⟩), ((hF71.tr (hF208.up (by decide))).tr ((xFr.of (S := [82, 83, 85, 86, 87]) hb273 (by decide)).tr (xFr.of (S := [82, 83, 85, 86, 87]) hb276 (by decide)))), ⟨fun h => by have := pq285.1 h; omega, (show fld w274 82 10 = 0 ∨ FA w274 ≠ 0 by omega), Or.inr ⟨by have := ms223; omega, by omega, hM288⟩, hD295, pk216.2.2.2.2.tr (K83.fr hF277 (by decide))⟩⟩
      · refine xg_t (xg_ifT (u := f82_95) rfl xnm0 (xj_neT hc111)) ?_
        refine xg_t (xg_blk (b := [(416, 1, 0, 0, 0, 0), (417, 3, 13, 140, 96, 183)]) rfl) ?_
        refine xg_t (xg_aload (va := (2, 82)) rfl rfl) ?_
        refine xg_cVv mX12_ends (vs := []) (rest := []) (cn1 := 0) (sl1 := 0) rfl (mEnds (hI70) hj73.2.2.2.1) rfl h82_109 rfl rfl rfl rfl rfl rfl (fun w296 hq297 => ?_)
        obtain ⟨hI298, hF299, hx300⟩ := hq297
        clear hb80 hb82 hb84 hb86 hb88 hb90 hb92 hb94 hb96 hb98 hb102 hb104 hb106 hb108
        obtain ⟨hv301, hv302, hv303, hv304, hv305⟩ := hx300
        have pk306 : PK w69 w296 := ⟨fun _ => hv301, by omega, by omega, Or.inr hv301, hv305⟩
        have pk307 : PK w w296 := PK.tr hj73 pk306
        have os308 : ∀ j, (j < 7 ∨ 9 ≤ j) → j < 140 → rwv w296 86 j = rwv w 86 j := fun j hj hl => (rwv_fr hF299 (by decide)).trans (hj74 j hj hl)
        have rg309 : FA w296 ≠ 0 ∨ u45 < 1 := hj77.imp_left pk306.1
        have mf310 : ∀ s, s < 7 → rwv w296 85 s = rwv w 85 s := fun s hs => (rwv_fr hF299 (by decide)).trans (hj76 s hs)
        have hl311 : rwv w296 86 (7) = rwv w69 86 (7) := rwv_fr hF299 (by decide)
        have hl312 : rwv w296 86 (8) = rwv w69 86 (8) := rwv_fr hF299 (by decide)
        have nw313 : FA w296 ≠ 0 ∨ 1 ≤ u45 ∨ (1 ≤ rwv w296 86 7 ∧ rwv w296 86 7 ≤ 10 ∧ 1 ≤ rwv w296 86 8 ∧ rwv w296 86 8 ≤ 10) := by have q := hj78; have q1 := pk306.1; omega
        clear hj78
        have ms314 : mu w296 < mu w := Nat.lt_of_le_of_lt pk306.2.1 hj75
        clear hj77
        refine xg_t (xg_blk (b := [(420, 1, 0, 0, 0, 0), (421, 3, 1, 12, 11, 17), (424, 1, 2, 1, 0, 0), (425, 1, 39, 0, 0, 0), (426, 1, 10, 0, 0, 0), (427, 1, 3, 1, 0, 0), (428, 1, 11, 0, 0, 0), (429, 1, 17, 0, 0, 0), (430, 1, 0, 0, 0, 0), (431, 1, 19, 0, 0, 0), (432, 3, 1, 12, 14, 212), (435, 1, 3, 1, 0, 0), (436, 1, 11, 0, 0, 0), (437, 3, 14, 12, 14, 212), (440, 1, 12, 0, 0, 0)]) rfl) ?_
        obtain ⟨f82_315, f82_317, f82_319, f82_321, f82_323, f82_325, f82_327, f82_329, f82_331, f82_333, f82_335, f82_336, f82_337, f82_339, f82_341, f82_343, h82_345, hb316, hb318, hb320, hb322, hb324, hb326, hb328, hb330, hb332, hb334, hb338, hb340, hb342, hb344, hb346⟩ := (hI298 82 (by decide) (by decide) : cp82 (wget w296 82))
        have hf347 : fld w296 82 4 = f82_319 := fld_of h82_345
        have hf348 : fld w296 82 5 = f82_321 := fld_of h82_345
        have hf349 : fld w296 82 7 = f82_325 := fld_of h82_345
        have hf350 : fld w296 82 10 = f82_331 := fld_of h82_345
        have hf351 : fld w296 82 14 = f82_333 := fld_of h82_345
        have hu352 : mu w296 = 2 * (fld w296 82 4 - fld w296 82 5) + min 1 (fld w296 82 7) := rfl
        have hf353 := pk307.2.2.1
        have hl354 : f82_333 ≤ 1000 := by omega
        refine xg_t (xg_aload (va := (2, 82)) rfl rfl) ?_
        refine xg_t (xg_getf (va := (2, 85)) h82_345 rfl) ?_
        refine xg_t (xg_iload (va := (0, 5)) rfl rfl) ?_
        refine xg_t (xg_dup2 rfl) ?_
        obtain ⟨g85_355, h85_356, hb357⟩ := (hI298 85 (by decide) (by decide) : cpI 7 52 4294967295 (wget w296 85))
        have h85_356 : xRow w296 85 7 52 g85_355 := h85_356
        refine xg_ialdB (n := 5) (B := 4294967295) h85_356 (hb357) xnm0 (by omega) (fun u358 hu359 he360 => ?_)
        have hl361 : u358 = u45 := by have q1 := rwv_of h85_356 (show 5 < 7 by decide); have q2 := mf310 5 (by decide); omega
        refine xg_t (xg_const) ?_
        refine xg_t (xg_iadd (u := u358) (v := 1) (z := u358 + 1) xnm0 xnm0 (by omega)) ?_
        refine xg_iastK (n := 5) (u := u358 + 1) h85_356 xnm0 xnm0 rfl (by omega) (fun w362 hr363 hb364 => ?_)
        refine xg_t (xg_aload (va := (2, 82)) rfl rfl) ?_
        refine xg_t (xg_dup rfl) ?_
        refine xg_t (xg_getf (va := (0, f82_333)) (hb364.get (by decide) h82_345) rfl) ?_
        refine xg_t (xg_const) ?_
        refine xg_t (xg_iadd (u := f82_333) (v := 1) (z := f82_333 + 1) xnm0 xnm0 (by omega)) ?_
        refine xg_putI (fl1 := [(2, 83), (2, 84), (0, f82_315), (0, f82_317), (0, f82_319), (0, f82_321), (0, f82_323), (0, f82_325), (0, f82_327), (0, f82_329), (0, f82_331), (2, 85), (2, 86), (2, 87), (0, f82_333 + 1), (2, 88), (2, 89), (2, 90), (2, 91), (2, 92), (2, 93), (2, 94), (4, f82_335), (4, f82_336), (0, f82_337), (2, 95), (2, 96), (2, 97), (2, 98), (2, 99), (2, 100), (2, 101), (2, 102), (0, f82_339), (2, 103), (2, 104), (2, 105), (2, 106), (2, 107), (2, 108), (2, 109), (0, f82_341), (0, f82_343), (2, 110), (2, 111), (2, 112), (2, 113)]) (hb364.get (by decide) h82_345) rfl rfl rfl (fun w365 hk366 hb367 => ?_)
        have hF368 : xFr [82, 85] w296 w365 := ((xFr.of (S := [82, 85]) hb364 (by decide)).tr (xFr.of (S := [82, 85]) hb367 (by decide)))
        have hA369 := FA_fr hF368 (by decide)
        have hf370 : fld w365 82 4 = f82_319 := fld_of hk366
        have hf371 : fld w365 82 5 = f82_321 := fld_of hk366
        have hf372 : fld w365 82 7 = f82_325 := fld_of hk366
        have hf373 : fld w365 82 10 = f82_331 := fld_of hk366
        have hf374 : fld w365 82 14 = f82_333 + 1 := fld_of hk366
        have hu375 : mu w365 = 2 * (fld w365 82 4 - fld w365 82 5) + min 1 (fld w365 82 7) := rfl
        have pq376 := pk307
        unfold PK PS at pq376
        have hM377 : ∀ s, s < 7 → s ≠ 5 → rwv w365 85 s = rwv w 85 s := fun s hs hn => (rwv_of (hr363.but hb367 (by decide)) hs).trans ((if_neg hn).trans ((rwv_of h85_356 hs).symm.trans (mf310 s hs)))
        have hM378 : rwv w365 85 5 = u45 + 1 := (rwv_of (hr363.but hb367 (by decide)) (by decide)).trans ((if_pos rfl).trans (by omega))
        have hM379 : ∀ s, s < 7 → rwv w365 85 s ≤ rwv w 85 s + 1 := fun s hs => by
          by_cases z : s = 5
          · subst z; omega
          · rw [hM377 s hs z]; omega
        have hO380 : ∀ j, (j < 7 ∨ 9 ≤ j) → j < 140 → rwv w365 86 j = rwv w 86 j := fun j hj hl => (rwv_fr hF368 (by decide)).trans (os308 j hj hl)
        have hl382 : FA w296 ≠ 0 ∨ u45 < 1 := rg309
        have hl383 : rwv w365 86 (7) = rwv w296 86 (7) := rwv_fr hF368 (by decide)
        have hl384 : rwv w365 86 (8) = rwv w296 86 (8) := rwv_fr hF368 (by decide)
        have hN381 : FA w365 ≠ 0 ∨ 1 ≤ u45 ∨ (1 ≤ rwv w365 86 7 ∧ rwv w365 86 7 ≤ 10 ∧ 1 ≤ rwv w365 86 8 ∧ rwv w365 86 8 ≤ 10) := by have q := nw313; omega
        have hX385 : FA w365 ≠ 0 ∨ u45 < 1 := by omega
        have hD386 : FA w365 ≠ 0 ∨ (DATA w → DATA w365) := by
          by_cases z : FA w365 ≠ 0
          · exact Or.inl z
          · exact Or.inr (fun hd => hd.s5 hM377 hK48 hM378 (hX385.resolve_left z) hO380 ((hN381.resolve_left z).resolve_left (by have := hX385.resolve_left z; omega)))
        exact xg_e ⟨w365, ⟨rfl, rfl⟩, xMnv.up (S := [85, 82]) hI298 ((xFr.of (S := [85, 82]) hb364 (by decide)).tr (xFr.of (S := [85, 82]) hb367 (by decide))) (List.forall_mem_cons.mpr ⟨(show cpI 7 52 4294967295 (wget w365 85) from ⟨_, (hr363.but hb367 (by decide)), xrb (by omega) (hb357)⟩), List.forall_mem_cons.mpr ⟨(show cp82 (wget w365 82) from ⟨f82_315, f82_317, f82_319, f82_321, f82_323, f82_325, f82_327, f82_329, f82_331, f82_333 + 1, f82_335, f82_336, f82_337, f82_339, f82_341, f82_343, hk366, hb316, hb318, hb320, hb322, hb324, hb326, hb328, hb330, hb332, by omega, hb338, hb340, hb342, hb344, by omega⟩), fun _ h => absurd h List.not_mem_nil⟩⟩), ((hF71.tr (hF299.up (by decide))).tr ((xFr.of (S := [82, 83, 85, 86, 87]) hb364 (by decide)).tr (xFr.of (S := [82, 83, 85, 86, 87]) hb367 (by decide)))), ⟨fun h => by have := pq376.1 h; omega, (show fld w365 82 10 = 0 ∨ FA w365 ≠ 0 by omega), Or.inr ⟨by have := ms314; omega, by omega, hM379⟩, hD386, pk307.2.2.2.2.tr (K83.fr hF368 (by decide))⟩⟩
    refine xg_t (xg_iload (va := (0, 5)) rfl rfl) ?_
    refine xg_t (xg_swt (ks := [(0, 108), (1, 116), (2, 180), (3, 221), (4, 273), (5, 326)]) (u := 5) (z := 326) rfl rfl rfl xnm0 (xsw_n (by omega) (xsw_n (by omega) (xsw_n (by omega) (xsw_n (by omega) (xsw_n (by omega) (xsw_y rfl))))))) ?_
    refine xg_t (xg_blk (b := [(326, 1, 3, 0, 0, 0), (327, 2, 15, 4, 0, 0)]) rfl) ?_
    refine xg_t (xg_const) ?_
    refine xg_t (xg_istore (l1 := [(3, (0, u45)), (2, (0, at_)), (1, (0, 5)), (0, (2, 82))]) rfl rfl rfl) ?_
    refine xg_t (xg_blk (b := [(329, 2, 2, 4, 0, 0), (331, 1, 3, 2, 0, 0), (332, 3, 6, 359, 3, 0), (335, 1, 0, 0, 0, 0), (336, 1, 2, 1, 0, 0), (337, 1, 2, 3, 0, 0), (338, 2, 4, 7, 0, 0), (340, 2, 2, 4, 0, 0), (342, 1, 11, 0, 0, 0), (343, 1, 0, 0, 0, 0), (344, 1, 3, 1, 0, 0), (345, 2, 4, 10, 0, 0), (347, 3, 13, 199, 96, 196), (350, 3, 13, 211, 96, 200), (353, 3, 9, 4, 1, 0), (356, 3, 8, 329, 0, 0)]) rfl) ?_
    refine xg_t (xg_iload (va := (0, 0)) rfl rfl) ?_
    refine xg_t (xg_const) ?_
    refine xg_t (xg_icF (u := 0) (v := 2) rfl xnm0 xnm0 (by decide)) ?_
    refine xg_t (xg_aload (va := (2, 82)) rfl rfl) ?_
    refine xg_t (xg_iload (va := (0, 5)) rfl rfl) ?_
    refine xg_t (xg_iload (va := (0, u45)) rfl rfl) ?_
    refine xg_t (xg_bip) ?_
    refine xg_t (xg_iload (va := (0, 0)) rfl rfl) ?_
    refine xg_t (xg_iadd (u := 7) (v := 0) (z := 7) xnm0 xnm0 (by decide)) ?_
    refine xg_t (xg_aload (va := (2, 82)) rfl rfl) ?_
    refine xg_t (xg_const) ?_
    refine xg_t (xg_bip) ?_
    obtain ⟨f82_387, f82_389, f82_391, f82_393, f82_395, f82_397, f82_399, f82_401, f82_403, f82_405, f82_407, f82_408, f82_409, f82_411, f82_413, f82_415, h82_417, hb388, hb390, hb392, hb394, hb396, hb398, hb400, hb402, hb404, hb406, hb410, hb412, hb414, hb416, hb418⟩ := (hI54 82 (by decide) (by decide) : cp82 (wget w52 82))
    refine xg_cVi mX12_numbered (vs := [(0, 1), (0, 10)]) (rest := [(0, 7), (0, u45), (0, 5), (2, 82)]) (cn1 := 0) (sl1 := 0) rfl (mNumbered (hI54) (by omega) (by omega) pk64.2.2.2.1) rfl h82_417 rfl rfl rfl rfl rfl rfl (fun n423 w419 hq420 => ?_)
    obtain ⟨hn424, hI421, hF422⟩ := hq420
    clear hb388 hb390 hb392 hb394 hb396 hb398 hb400 hb402 hb404 hb406 hb410 hb412 hb414 hb416
    obtain ⟨hn425, hn426, hn427⟩ := hn424
    have pk428 : PK w w419 := PK.tr pk64 hn426
    have os429 : ∀ j, (j < 7 ∨ 9 ≤ j) → j < 140 → rwv w419 86 j = rwv w 86 j := fun j hj hl => (rwv_fr hF422 (by decide)).trans (os65 j hj hl)
    have mf430 : ∀ s, s < 7 → rwv w419 85 s = rwv w 85 s := fun s hs => (rwv_fr hF422 (by decide)).trans (mf66 s hs)
    have ms431 : mu w419 < mu w := Nat.lt_of_le_of_lt hn426.2.1 ms67
    obtain ⟨f82_432, f82_434, f82_436, f82_438, f82_440, f82_442, f82_444, f82_446, f82_448, f82_450, f82_452, f82_453, f82_454, f82_456, f82_458, f82_460, h82_462, hb433, hb435, hb437, hb439, hb441, hb443, hb445, hb447, hb449, hb451, hb455, hb457, hb459, hb461, hb463⟩ := (hI421 82 (by decide) (by decide) : cp82 (wget w419 82))
    refine xg_cVv mX12_puts (vs := [(0, 5), (0, u45), (0, 7), (0, n423)]) (rest := []) (cn1 := 0) (sl1 := 0) rfl (mPuts5 (hI421) (by omega) (by omega) (by omega) (fun _ => by omega)) rfl h82_462 rfl rfl rfl rfl rfl rfl (fun w464 hq465 => ?_)
    obtain ⟨hI466, hF467, hx468⟩ := hq465
    obtain ⟨hp469, hp470⟩ := hx468
    have pk471 : PK w w464 := PK.tr pk428 (PK.fr hF467 (by decide) (by decide) pk428.2.2.2.1)
    have os472 : ∀ j, (j < 7 ∨ 9 ≤ j) → j < 140 → rwv w464 86 j = rwv w 86 j := fun j hj hl => (hp470 j (by omega) hl).trans (os429 j hj hl)
    have rg473 : FA w464 ≠ 0 ∨ (1 ≤ n423 ∧ n423 ≤ 10) := hn427.imp_left (PK.fr hF467 (by decide) (by decide) pk428.2.2.2.1).1
    have mf474 : ∀ s, s < 7 → rwv w464 85 s = rwv w 85 s := fun s hs => (rwv_fr hF467 (by decide)).trans (mf430 s hs)
    have ms475 : mu w464 < mu w := Nat.lt_of_le_of_lt (PK.fr hF467 (by decide) (by decide) pk428.2.2.2.1).2.1 ms431
    clear hn427
    refine xg_t (xg_iinc (u := 0) (z := 1) (l1 := [(3, (0, u45)), (2, (0, at_)), (1, (0, 5)), (0, (2, 82))]) rfl rfl (by decide) rfl) ?_
    refine xg_t (xg_goto) ?_
    refine xg_t (xg_blk (b := [(329, 2, 2, 4, 0, 0), (331, 1, 3, 2, 0, 0), (332, 3, 6, 359, 3, 0), (335, 1, 0, 0, 0, 0), (336, 1, 2, 1, 0, 0), (337, 1, 2, 3, 0, 0), (338, 2, 4, 7, 0, 0), (340, 2, 2, 4, 0, 0), (342, 1, 11, 0, 0, 0), (343, 1, 0, 0, 0, 0), (344, 1, 3, 1, 0, 0), (345, 2, 4, 10, 0, 0), (347, 3, 13, 199, 96, 196), (350, 3, 13, 211, 96, 200), (353, 3, 9, 4, 1, 0), (356, 3, 8, 329, 0, 0)]) rfl) ?_
    refine xg_t (xg_iload (va := (0, 1)) rfl rfl) ?_
    refine xg_t (xg_const) ?_
    refine xg_t (xg_icF (u := 1) (v := 2) rfl xnm0 xnm0 (by decide)) ?_
    refine xg_t (xg_aload (va := (2, 82)) rfl rfl) ?_
    refine xg_t (xg_iload (va := (0, 5)) rfl rfl) ?_
    refine xg_t (xg_iload (va := (0, u45)) rfl rfl) ?_
    refine xg_t (xg_bip) ?_
    refine xg_t (xg_iload (va := (0, 1)) rfl rfl) ?_
    refine xg_t (xg_iadd (u := 7) (v := 1) (z := 8) xnm0 xnm0 (by decide)) ?_
    refine xg_t (xg_aload (va := (2, 82)) rfl rfl) ?_
    refine xg_t (xg_const) ?_
    refine xg_t (xg_bip) ?_
    refine xg_cVi mX12_numbered (vs := [(0, 1), (0, 10)]) (rest := [(0, 8), (0, u45), (0, 5), (2, 82)]) (cn1 := 0) (sl1 := 0) rfl (mNumbered (hI466) (by omega) (by omega) pk471.2.2.2.1) rfl (hF467.get (by decide) h82_462) rfl rfl rfl rfl rfl rfl (fun n480 w476 hq477 => ?_)
    obtain ⟨hn481, hI478, hF479⟩ := hq477
    clear hb433 hb435 hb437 hb439 hb441 hb443 hb445 hb447 hb449 hb451 hb455 hb457 hb459 hb461
    obtain ⟨hn482, hn483, hn484⟩ := hn481
    have pk485 : PK w w476 := PK.tr pk471 hn483
    have os486 : ∀ j, (j < 7 ∨ 9 ≤ j) → j < 140 → rwv w476 86 j = rwv w 86 j := fun j hj hl => (rwv_fr hF479 (by decide)).trans (os472 j hj hl)
    have ix487 : u45 < 1 → rwv w476 86 (7) = n423 := fun h => (rwv_fr hF479 (by decide)).trans (hp469 h)
    have rg488 : FA w476 ≠ 0 ∨ (1 ≤ n423 ∧ n423 ≤ 10) := rg473.imp_left hn483.1
    have mf489 : ∀ s, s < 7 → rwv w476 85 s = rwv w 85 s := fun s hs => (rwv_fr hF479 (by decide)).trans (mf474 s hs)
    have ms490 : mu w476 < mu w := Nat.lt_of_le_of_lt hn483.2.1 ms475
    clear hp469 rg473
    obtain ⟨f82_491, f82_493, f82_495, f82_497, f82_499, f82_501, f82_503, f82_505, f82_507, f82_509, f82_511, f82_512, f82_513, f82_515, f82_517, f82_519, h82_521, hb492, hb494, hb496, hb498, hb500, hb502, hb504, hb506, hb508, hb510, hb514, hb516, hb518, hb520, hb522⟩ := (hI478 82 (by decide) (by decide) : cp82 (wget w476 82))
    refine xg_cVv mX12_puts (vs := [(0, 5), (0, u45), (0, 8), (0, n480)]) (rest := []) (cn1 := 0) (sl1 := 0) rfl (mPuts5 (hI478) (by omega) (by omega) (by omega) (fun _ => by omega)) rfl h82_521 rfl rfl rfl rfl rfl rfl (fun w523 hq524 => ?_)
    obtain ⟨hI525, hF526, hx527⟩ := hq524
    obtain ⟨hp528, hp529⟩ := hx527
    have pk530 : PK w w523 := PK.tr pk485 (PK.fr hF526 (by decide) (by decide) pk485.2.2.2.1)
    have os531 : ∀ j, (j < 7 ∨ 9 ≤ j) → j < 140 → rwv w523 86 j = rwv w 86 j := fun j hj hl => (hp529 j (by omega) hl).trans (os486 j hj hl)
    have ix532 : u45 < 1 → rwv w523 86 (7) = n423 := fun h => (hp529 _ (by omega) (by omega)).trans (ix487 h)
    have rg533 : FA w523 ≠ 0 ∨ (1 ≤ n423 ∧ n423 ≤ 10) := rg488.imp_left (PK.fr hF526 (by decide) (by decide) pk485.2.2.2.1).1
    have rg534 : FA w523 ≠ 0 ∨ (1 ≤ n480 ∧ n480 ≤ 10) := hn484.imp_left (PK.fr hF526 (by decide) (by decide) pk485.2.2.2.1).1
    have mf535 : ∀ s, s < 7 → rwv w523 85 s = rwv w 85 s := fun s hs => (rwv_fr hF526 (by decide)).trans (mf489 s hs)
    have ms536 : mu w523 < mu w := Nat.lt_of_le_of_lt (PK.fr hF526 (by decide) (by decide) pk485.2.2.2.1).2.1 ms490
    clear ix487 rg488 hn484
    refine xg_t (xg_iinc (u := 1) (z := 2) (l1 := [(3, (0, u45)), (2, (0, at_)), (1, (0, 5)), (0, (2, 82))]) rfl rfl (by decide) rfl) ?_
    refine xg_t (xg_goto) ?_
    refine xg_t (xg_blk (b := [(329, 2, 2, 4, 0, 0), (331, 1, 3, 2, 0, 0), (332, 3, 6, 359, 3, 0), (335, 1, 0, 0, 0, 0), (336, 1, 2, 1, 0, 0), (337, 1, 2, 3, 0, 0), (338, 2, 4, 7, 0, 0), (340, 2, 2, 4, 0, 0), (342, 1, 11, 0, 0, 0), (343, 1, 0, 0, 0, 0), (344, 1, 3, 1, 0, 0), (345, 2, 4, 10, 0, 0), (347, 3, 13, 199, 96, 196), (350, 3, 13, 211, 96, 200), (353, 3, 9, 4, 1, 0), (356, 3, 8, 329, 0, 0)]) rfl) ?_
    refine xg_t (xg_iload (va := (0, 2)) rfl rfl) ?_
    refine xg_t (xg_const) ?_
    refine xg_t (xg_icT (u := 2) (v := 2) rfl xnm0 xnm0 (by decide)) ?_
    refine xg_t (xg_blk (b := [(359, 3, 8, 394, 0, 0)]) rfl) ?_
    refine xg_t (xg_goto) ?_
    refine xg_t (xg_drop (l1 := [(0, (2, 82)), (1, (0, 5)), (3, (0, u45))]) (List.forall_mem_cons.mpr ⟨List.mem_cons_of_mem _ (List.mem_cons_of_mem _ (List.mem_cons_of_mem _ (List.mem_cons_of_mem _ (List.mem_cons_self)))), List.forall_mem_cons.mpr ⟨List.mem_cons_of_mem _ (List.mem_cons_of_mem _ (List.mem_cons_of_mem _ (List.mem_cons_self))), List.forall_mem_cons.mpr ⟨List.mem_cons_of_mem _ (List.mem_cons_self), fun _ h => absurd h List.not_mem_nil⟩⟩⟩)) ?_
    have hX537 : FA w523 ≠ 0 ∨ u45 < 1 := Or.inr (by omega)
    have hN538 : FA w523 ≠ 0 ∨ 1 ≤ u45 ∨ (1 ≤ rwv w523 86 7 ∧ rwv w523 86 7 ≤ 10 ∧ 1 ≤ rwv w523 86 8 ∧ rwv w523 86 8 ≤ 10) := by
      have hl539 : u45 < 1 → rwv w523 86 (7) = n423 := ix532
      have hl540 : u45 < 1 → rwv w523 86 (8) = n480 := hp528
      have hl541 := rg533
      have hl542 := rg534
      omega
    exact jn68 w523 (hI525) ((((((hF55.up (by decide)).tr (hF422.up (by decide))).tr (hF467.up (by decide))).tr (hF479.up (by decide))).tr (hF526.up (by decide)))) (⟨pk530, os531, ms536, mf535, hX537, hN538⟩)
  · refine xg_t (xg_icF (u := u45) (v := 1) rfl xnm0 xnm0 (xj_ltF (by omega) (by omega))) ?_
    refine xg_t (xg_aload (va := (2, 82)) rfl rfl) ?_
    refine xg_t (xg_const) ?_
    refine xg_t (xg_iload (va := (0, at_)) rfl rfl) ?_
    refine xg_cVv mX12_also (vs := [(0, 3), (0, at_)]) (rest := []) (cn1 := 0) (sl1 := 0) rfl (mAlso (hI) (by omega) (by omega) (by omega) (PK.rf hps).2.2.2.1) rfl h82_31 rfl rfl rfl rfl rfl rfl (fun w543 hq544 => ?_)
    obtain ⟨hI545, hF546, hx547⟩ := hq544
    obtain ⟨hv549, hv550⟩ := hx547
    have pk548 : PK w w543 := ⟨fun _ => hv549, Nat.le_of_eq (mu_fr hF546 (by decide)), fld_fr hF546 (by decide), Or.inr hv549, hv550⟩
    have pk551 : PK w w543 := PK.tr (PK.rf hps) pk548
    have os552 : ∀ j, (j < 7 ∨ 9 ≤ j) → j < 140 → rwv w543 86 j = rwv w 86 j := fun j hj hl => (rwv_fr hF546 (by decide)).trans ((fun j _ _ => rfl) j hj hl)
    have mf553 : ∀ s, s < 7 → rwv w543 85 s = rwv w 85 s := fun s hs => (rwv_fr hF546 (by decide)).trans ((fun _ _ => rfl) s hs)
    have hf554 := fld_fr (c := 82) (j := 7) hF546 (by decide)
    refine xg_t (xg_blk (b := [(64, 1, 0, 0, 0, 0), (65, 3, 13, 110, 96, 190), (68, 1, 2, 1, 0, 0), (69, 39, 33, 362, 0, 9)]) rfl) ?_
    refine xg_t (xg_aload (va := (2, 82)) rfl rfl) ?_
    refine xg_cVv mX12_advance (vs := []) (rest := []) (cn1 := 0) (sl1 := 0) rfl (mAdvance (hI545)) rfl (hF546.get (by decide) h82_31) rfl rfl rfl rfl rfl rfl (fun w555 hq556 => ?_)
    obtain ⟨hI557, hF558, hx559⟩ := hq556
    clear hb2 hb4 hb6 hb8 hb10 hb12 hb14 hb16 hb18 hb20 hb24 hb26 hb28 hb30
    obtain ⟨hv560, hv561, hv562, hv563⟩ := hx559
    have hf565 := FA_fr hF558 (by decide)
    have hs566 := pk551.2.2.2.1
    unfold PS at hs566
    have pk564 : PK w543 w555 := ⟨fun _ => by omega, hv560, hv563, (show fld w555 82 10 = 0 ∨ FA w555 ≠ 0 by omega), K83.fr hF558 (by decide)⟩
    clear hs566
    have pk567 : PK w w555 := PK.tr pk551 pk564
    have os568 : ∀ j, (j < 7 ∨ 9 ≤ j) → j < 140 → rwv w555 86 j = rwv w 86 j := fun j hj hl => (rwv_fr hF558 (by decide)).trans (os552 j hj hl)
    have rg569 : FA w555 ≠ 0 ∨ 0 = 1 := (Or.inl hv549 : FA w543 ≠ 0 ∨ 0 = 1).imp_left pk564.1
    have mf570 : ∀ s, s < 7 → rwv w555 85 s = rwv w 85 s := fun s hs => (rwv_fr hF558 (by decide)).trans (mf553 s hs)
    have ms571 : mu w555 < mu w := Nat.lt_of_lt_of_le (hv561 (by omega)) pk551.2.1
    clear hv561
    have jn572 : ∀ (w573 : List (List xE)), xMnv w573 → xFr [82, 83, 85, 86, 87] w w573 → (PK w w573 ∧ (∀ j, (j < 7 ∨ 9 ≤ j) → j < 140 → rwv w573 86 j = rwv w 86 j) ∧ mu w573 < mu w ∧ (∀ s, s < 7 → rwv w573 85 s = rwv w 85 s) ∧ (FA w573 ≠ 0 ∨ u45 < 1) ∧ (FA w573 ≠ 0 ∨ 1 ≤ u45 ∨ (1 ≤ rwv w573 86 7 ∧ rwv w573 86 7 ≤ 10 ∧ 1 ≤ rwv w573 86 8 ∧ rwv w573 86 8 ≤ 10))) → xTo (d + 7) mX12_aLine (394, [], [(0, (2, 82)), (1, (0, 5)), (3, (0, u45))], [], (w573, bd, fc, 0, 0, rr)) (fun φ => ∃ w', xEnd 0 [] (w', bd, fc, 0, 0, rr) φ ∧ xMnv w' ∧ xFr [82, 83, 85, 86, 87] w w' ∧ ((FA w ≠ 0 → FA w' ≠ 0) ∧ PS w' ∧ ((fld w' 82 10 = 1 ∧ mu w' = mu w ∧ fld w' 82 14 = fld w 82 14 ∧ ∀ s, s < 7 → rwv w' 85 s = rwv w 85 s) ∨ (mu w' < mu w ∧ fld w' 82 14 = fld w 82 14 + 1 ∧ ∀ s, s < 7 → rwv w' 85 s ≤ rwv w 85 s + 1)) ∧ (FA w' ≠ 0 ∨ (DATA w → DATA w')) ∧ K83 w w')) := by
      intro w573 hI574 hF575 he576
      obtain ⟨hj577, hj578, hj579, hj580, hj581, hj582⟩ := he576
      refine xg_t (xg_blk (b := [(394, 1, 0, 0, 0, 0), (395, 3, 1, 12, 10, 180), (398, 3, 7, 416, 1, 0), (401, 1, 0, 0, 0, 0), (402, 3, 1, 12, 7, 151), (405, 1, 3, 2, 0, 0), (406, 3, 6, 416, 1, 0), (409, 1, 0, 0, 0, 0), (410, 3, 13, 110, 96, 190), (413, 3, 8, 420, 0, 0)]) rfl) ?_
      refine xg_t (xg_aload (va := (2, 82)) rfl rfl) ?_
      obtain ⟨f82_583, f82_585, f82_587, f82_589, f82_591, f82_593, f82_595, f82_597, f82_599, f82_601, f82_603, f82_604, f82_605, f82_607, f82_609, f82_611, h82_613, hb584, hb586, hb588, hb590, hb592, hb594, hb596, hb598, hb600, hb602, hb606, hb608, hb610, hb612, hb614⟩ := (hI574 82 (by decide) (by decide) : cp82 (wget w573 82))
      refine xg_t (xg_getf (va := (0, f82_599)) h82_613 rfl) ?_
      by_cases hc615 : f82_599 = 0
      · refine xg_t (xg_ifF (u := f82_599) rfl xnm0 (xj_neF hc615)) ?_
        refine xg_t (xg_aload (va := (2, 82)) rfl rfl) ?_
        refine xg_t (xg_getf (va := (0, f82_593)) h82_613 rfl) ?_
        refine xg_t (xg_const) ?_
        by_cases hc616 : f82_593 = 2
        · refine xg_t (xg_icF (u := f82_593) (v := 2) rfl xnm0 xnm0 (xj_neF hc616)) ?_
          refine xg_t (xg_aload (va := (2, 82)) rfl rfl) ?_
          refine xg_cVv mX12_advance (vs := []) (rest := []) (cn1 := 0) (sl1 := 0) rfl (mAdvance (hI574)) rfl h82_613 rfl rfl rfl rfl rfl rfl (fun w617 hq618 => ?_)
          obtain ⟨hI619, hF620, hx621⟩ := hq618
          clear hb584 hb586 hb588 hb590 hb592 hb594 hb596 hb598 hb600 hb602 hb606 hb608 hb610 hb612
          obtain ⟨hv622, hv623, hv624, hv625⟩ := hx621
          have hf627 := FA_fr hF620 (by decide)
          have hs628 := hj577.2.2.2.1
          unfold PS at hs628
          have pk626 : PK w573 w617 := ⟨fun _ => by omega, hv622, hv625, (show fld w617 82 10 = 0 ∨ FA w617 ≠ 0 by omega), K83.fr hF620 (by decide)⟩
          clear hs628
          clear hv623
          have pk629 : PK w w617 := PK.tr hj577 pk626
          have os630 : ∀ j, (j < 7 ∨ 9 ≤ j) → j < 140 → rwv w617 86 j = rwv w 86 j := fun j hj hl => (rwv_fr hF620 (by decide)).trans (hj578 j hj hl)
          have rg631 : FA w617 ≠ 0 ∨ u45 < 1 := hj581.imp_left pk626.1
          have mf632 : ∀ s, s < 7 → rwv w617 85 s = rwv w 85 s := fun s hs => (rwv_fr hF620 (by decide)).trans (hj580 s hs)
          have hl633 : rwv w617 86 (7) = rwv w573 86 (7) := rwv_fr hF620 (by decide)
          have hl634 : rwv w617 86 (8) = rwv w573 86 (8) := rwv_fr hF620 (by decide)
          have nw635 : FA w617 ≠ 0 ∨ 1 ≤ u45 ∨ (1 ≤ rwv w617 86 7 ∧ rwv w617 86 7 ≤ 10 ∧ 1 ≤ rwv w617 86 8 ∧ rwv w617 86 8 ≤ 10) := by have q := hj582; have q1 := pk626.1; omega
          clear hj582
          have ms636 : mu w617 < mu w := Nat.lt_of_le_of_lt pk626.2.1 hj579
          clear hj581
          refine xg_t (xg_goto) ?_
          refine xg_t (xg_blk (b := [(420, 1, 0, 0, 0, 0), (421, 3, 1, 12, 11, 17), (424, 1, 2, 1, 0, 0), (425, 1, 39, 0, 0, 0), (426, 1, 10, 0, 0, 0), (427, 1, 3, 1, 0, 0), (428, 1, 11, 0, 0, 0), (429, 1, 17, 0, 0, 0), (430, 1, 0, 0, 0, 0), (431, 1, 19, 0, 0, 0), (432, 3, 1, 12, 14, 212), (435, 1, 3, 1, 0, 0), (436, 1, 11, 0, 0, 0), (437, 3, 14, 12, 14, 212), (440, 1, 12, 0, 0, 0)]) rfl) ?_
          obtain ⟨f82_637, f82_639, f82_641, f82_643, f82_645, f82_647, f82_649, f82_651, f82_653, f82_655, f82_657, f82_658, f82_659, f82_661, f82_663, f82_665, h82_667, hb638, hb640, hb642, hb644, hb646, hb648, hb650, hb652, hb654, hb656, hb660, hb662, hb664, hb666, hb668⟩ := (hI619 82 (by decide) (by decide) : cp82 (wget w617 82))
          have hf669 : fld w617 82 4 = f82_641 := fld_of h82_667
          have hf670 : fld w617 82 5 = f82_643 := fld_of h82_667
          have hf671 : fld w617 82 7 = f82_647 := fld_of h82_667
          have hf672 : fld w617 82 10 = f82_653 := fld_of h82_667
          have hf673 : fld w617 82 14 = f82_655 := fld_of h82_667
          have hu674 : mu w617 = 2 * (fld w617 82 4 - fld w617 82 5) + min 1 (fld w617 82 7) := rfl
          have hf675 := pk629.2.2.1
          have hl676 : f82_655 ≤ 1000 := by omega
          refine xg_t (xg_aload (va := (2, 82)) rfl rfl) ?_
          refine xg_t (xg_getf (va := (2, 85)) h82_667 rfl) ?_
          refine xg_t (xg_iload (va := (0, 5)) rfl rfl) ?_
          refine xg_t (xg_dup2 rfl) ?_
          obtain ⟨g85_677, h85_678, hb679⟩ := (hI619 85 (by decide) (by decide) : cpI 7 52 4294967295 (wget w617 85))
          have h85_678 : xRow w617 85 7 52 g85_677 := h85_678
          refine xg_ialdB (n := 5) (B := 4294967295) h85_678 (hb679) xnm0 (by omega) (fun u680 hu681 he682 => ?_)
          have hl683 : u680 = u45 := by have q1 := rwv_of h85_678 (show 5 < 7 by decide); have q2 := mf632 5 (by decide); omega
          refine xg_t (xg_const) ?_
          refine xg_t (xg_iadd (u := u680) (v := 1) (z := u680 + 1) xnm0 xnm0 (by omega)) ?_
          refine xg_iastK (n := 5) (u := u680 + 1) h85_678 xnm0 xnm0 rfl (by omega) (fun w684 hr685 hb686 => ?_)
          refine xg_t (xg_aload (va := (2, 82)) rfl rfl) ?_
          refine xg_t (xg_dup rfl) ?_
          refine xg_t (xg_getf (va := (0, f82_655)) (hb686.get (by decide) h82_667) rfl) ?_
          refine xg_t (xg_const) ?_
          refine xg_t (xg_iadd (u := f82_655) (v := 1) (z := f82_655 + 1) xnm0 xnm0 (by omega)) ?_
          refine xg_putI (fl1 := [(2, 83), (2, 84), (0, f82_637), (0, f82_639), (0, f82_641), (0, f82_643), (0, f82_645), (0, f82_647), (0, f82_649), (0, f82_651), (0, f82_653), (2, 85), (2, 86), (2, 87), (0, f82_655 + 1), (2, 88), (2, 89), (2, 90), (2, 91), (2, 92), (2, 93), (2, 94), (4, f82_657), (4, f82_658), (0, f82_659), (2, 95), (2, 96), (2, 97), (2, 98), (2, 99), (2, 100), (2, 101), (2, 102), (0, f82_661), (2, 103), (2, 104), (2, 105), (2, 106), (2, 107), (2, 108), (2, 109), (0, f82_663), (0, f82_665), (2, 110), (2, 111), (2, 112), (2, 113)]) (hb686.get (by decide) h82_667) rfl rfl rfl (fun w687 hk688 hb689 => ?_)
          have hF690 : xFr [82, 85] w617 w687 := ((xFr.of (S := [82, 85]) hb686 (by decide)).tr (xFr.of (S := [82, 85]) hb689 (by decide)))
          have hA691 := FA_fr hF690 (by decide)
          have hf692 : fld w687 82 4 = f82_641 := fld_of hk688
          have hf693 : fld w687 82 5 = f82_643 := fld_of hk688
          have hf694 : fld w687 82 7 = f82_647 := fld_of hk688
          have hf695 : fld w687 82 10 = f82_653 := fld_of hk688
          have hf696 : fld w687 82 14 = f82_655 + 1 := fld_of hk688
          have hu697 : mu w687 = 2 * (fld w687 82 4 - fld w687 82 5) + min 1 (fld w687 82 7) := rfl
          have pq698 := pk629
          unfold PK PS at pq698
          have hM699 : ∀ s, s < 7 → s ≠ 5 → rwv w687 85 s = rwv w 85 s := fun s hs hn => (rwv_of (hr685.but hb689 (by decide)) hs).trans ((if_neg hn).trans ((rwv_of h85_678 hs).symm.trans (mf632 s hs)))
          have hM700 : rwv w687 85 5 = u45 + 1 := (rwv_of (hr685.but hb689 (by decide)) (by decide)).trans ((if_pos rfl).trans (by omega))
          have hM701 : ∀ s, s < 7 → rwv w687 85 s ≤ rwv w 85 s + 1 := fun s hs => by
            by_cases z : s = 5
            · subst z; omega
            · rw [hM699 s hs z]; omega
          have hO702 : ∀ j, (j < 7 ∨ 9 ≤ j) → j < 140 → rwv w687 86 j = rwv w 86 j := fun j hj hl => (rwv_fr hF690 (by decide)).trans (os630 j hj hl)
          have hl704 : FA w617 ≠ 0 ∨ u45 < 1 := rg631
          have hl705 : rwv w687 86 (7) = rwv w617 86 (7) := rwv_fr hF690 (by decide)
          have hl706 : rwv w687 86 (8) = rwv w617 86 (8) := rwv_fr hF690 (by decide)
          have hN703 : FA w687 ≠ 0 ∨ 1 ≤ u45 ∨ (1 ≤ rwv w687 86 7 ∧ rwv w687 86 7 ≤ 10 ∧ 1 ≤ rwv w687 86 8 ∧ rwv w687 86 8 ≤ 10) := by have q := nw635; omega
          have hX707 : FA w687 ≠ 0 ∨ u45 < 1 := by omega
          have hD708 : FA w687 ≠ 0 ∨ (DATA w → DATA w687) := by
            by_cases z : FA w687 ≠ 0
            · exact Or.inl z
            · exact Or.inr (fun hd => hd.s5 hM699 hK48 hM700 (hX707.resolve_left z) hO702 ((hN703.resolve_left z).resolve_left (by have := hX707.resolve_left z; omega)))
          exact xg_e ⟨w687, ⟨rfl, rfl⟩, xMnv.up (S := [85, 82]) hI619 ((xFr.of (S := [85, 82]) hb686 (by decide)).tr (xFr.of (S := [85, 82]) hb689 (by decide))) (List.forall_mem_cons.mpr ⟨(show cpI 7 52 4294967295 (wget w687 85) from ⟨_, (hr685.but hb689 (by decide)), xrb (by omega) (hb679)⟩), List.forall_mem_cons.mpr ⟨(show cp82 (wget w687 82) from ⟨f82_637, f82_639, f82_641, f82_643, f82_645, f82_647, f82_649, f82_651, f82_653, f82_655 + 1, f82_657, f82_658, f82_659, f82_661, f82_663, f82_665, hk688, hb638, hb640, hb642, hb644, hb646, hb648, hb650, hb652, hb654, by omega, hb660, hb662, hb664, hb666, by omega⟩), fun _ h => absurd h List.not_mem_nil⟩⟩), ((hF575.tr (hF620.up (by decide))).tr ((xFr.of (S := [82, 83, 85, 86, 87]) hb686 (by decide)).tr (xFr.of (S := [82, 83, 85, 86, 87]) hb689 (by decide)))), ⟨fun h => by have := pq698.1 h; omega, (show fld w687 82 10 = 0 ∨ FA w687 ≠ 0 by omega), Or.inr ⟨by have := ms636; omega, by omega, hM701⟩, hD708, pk629.2.2.2.2.tr (K83.fr hF690 (by decide))⟩⟩
        · refine xg_t (xg_icT (u := f82_593) (v := 2) rfl xnm0 xnm0 (xj_neT hc616)) ?_
          refine xg_t (xg_blk (b := [(416, 1, 0, 0, 0, 0), (417, 3, 13, 140, 96, 183)]) rfl) ?_
          refine xg_t (xg_aload (va := (2, 82)) rfl rfl) ?_
          refine xg_cVv mX12_ends (vs := []) (rest := []) (cn1 := 0) (sl1 := 0) rfl (mEnds (hI574) hj577.2.2.2.1) rfl h82_613 rfl rfl rfl rfl rfl rfl (fun w709 hq710 => ?_)
          obtain ⟨hI711, hF712, hx713⟩ := hq710
          clear hb584 hb586 hb588 hb590 hb592 hb594 hb596 hb598 hb600 hb602 hb606 hb608 hb610 hb612
          obtain ⟨hv714, hv715, hv716, hv717, hv718⟩ := hx713
          have pk719 : PK w573 w709 := ⟨fun _ => hv714, by omega, by omega, Or.inr hv714, hv718⟩
          have pk720 : PK w w709 := PK.tr hj577 pk719
          have os721 : ∀ j, (j < 7 ∨ 9 ≤ j) → j < 140 → rwv w709 86 j = rwv w 86 j := fun j hj hl => (rwv_fr hF712 (by decide)).trans (hj578 j hj hl)
          have rg722 : FA w709 ≠ 0 ∨ u45 < 1 := hj581.imp_left pk719.1
          have mf723 : ∀ s, s < 7 → rwv w709 85 s = rwv w 85 s := fun s hs => (rwv_fr hF712 (by decide)).trans (hj580 s hs)
          have hl724 : rwv w709 86 (7) = rwv w573 86 (7) := rwv_fr hF712 (by decide)
          have hl725 : rwv w709 86 (8) = rwv w573 86 (8) := rwv_fr hF712 (by decide)
          have nw726 : FA w709 ≠ 0 ∨ 1 ≤ u45 ∨ (1 ≤ rwv w709 86 7 ∧ rwv w709 86 7 ≤ 10 ∧ 1 ≤ rwv w709 86 8 ∧ rwv w709 86 8 ≤ 10) := by have q := hj582; have q1 := pk719.1; omega
          clear hj582
          have ms727 : mu w709 < mu w := Nat.lt_of_le_of_lt pk719.2.1 hj579
          clear hj581
          refine xg_t (xg_blk (b := [(420, 1, 0, 0, 0, 0), (421, 3, 1, 12, 11, 17), (424, 1, 2, 1, 0, 0), (425, 1, 39, 0, 0, 0), (426, 1, 10, 0, 0, 0), (427, 1, 3, 1, 0, 0), (428, 1, 11, 0, 0, 0), (429, 1, 17, 0, 0, 0), (430, 1, 0, 0, 0, 0), (431, 1, 19, 0, 0, 0), (432, 3, 1, 12, 14, 212), (435, 1, 3, 1, 0, 0), (436, 1, 11, 0, 0, 0), (437, 3, 14, 12, 14, 212), (440, 1, 12, 0, 0, 0)]) rfl) ?_
          obtain ⟨f82_728, f82_730, f82_732, f82_734, f82_736, f82_738, f82_740, f82_742, f82_744, f82_746, f82_748, f82_749, f82_750, f82_752, f82_754, f82_756, h82_758, hb729, hb731, hb733, hb735, hb737, hb739, hb741, hb743, hb745, hb747, hb751, hb753, hb755, hb757, hb759⟩ := (hI711 82 (by decide) (by decide) : cp82 (wget w709 82))
          have hf760 : fld w709 82 4 = f82_732 := fld_of h82_758
          have hf761 : fld w709 82 5 = f82_734 := fld_of h82_758
          have hf762 : fld w709 82 7 = f82_738 := fld_of h82_758
          have hf763 : fld w709 82 10 = f82_744 := fld_of h82_758
          have hf764 : fld w709 82 14 = f82_746 := fld_of h82_758
          have hu765 : mu w709 = 2 * (fld w709 82 4 - fld w709 82 5) + min 1 (fld w709 82 7) := rfl
          have hf766 := pk720.2.2.1
          have hl767 : f82_746 ≤ 1000 := by omega
          refine xg_t (xg_aload (va := (2, 82)) rfl rfl) ?_
          refine xg_t (xg_getf (va := (2, 85)) h82_758 rfl) ?_
          refine xg_t (xg_iload (va := (0, 5)) rfl rfl) ?_
          refine xg_t (xg_dup2 rfl) ?_
          obtain ⟨g85_768, h85_769, hb770⟩ := (hI711 85 (by decide) (by decide) : cpI 7 52 4294967295 (wget w709 85))
          have h85_769 : xRow w709 85 7 52 g85_768 := h85_769
          refine xg_ialdB (n := 5) (B := 4294967295) h85_769 (hb770) xnm0 (by omega) (fun u771 hu772 he773 => ?_)
          have hl774 : u771 = u45 := by have q1 := rwv_of h85_769 (show 5 < 7 by decide); have q2 := mf723 5 (by decide); omega
          refine xg_t (xg_const) ?_
          refine xg_t (xg_iadd (u := u771) (v := 1) (z := u771 + 1) xnm0 xnm0 (by omega)) ?_
          refine xg_iastK (n := 5) (u := u771 + 1) h85_769 xnm0 xnm0 rfl (by omega) (fun w775 hr776 hb777 => ?_)
          refine xg_t (xg_aload (va := (2, 82)) rfl rfl) ?_
          refine xg_t (xg_dup rfl) ?_
          refine xg_t (xg_getf (va := (0, f82_746)) (hb777.get (by decide) h82_758) rfl) ?_
          refine xg_t (xg_const) ?_
          refine xg_t (xg_iadd (u := f82_746) (v := 1) (z := f82_746 + 1) xnm0 xnm0 (by omega)) ?_
          refine xg_putI (fl1 := [(2, 83), (2, 84), (0, f82_728), (0, f82_730), (0, f82_732), (0, f82_734), (0, f82_736), (0, f82_738), (0, f82_740), (0, f82_742), (0, f82_744), (2, 85), (2, 86), (2, 87), (0, f82_746 + 1), (2, 88), (2, 89), (2, 90), (2, 91), (2, 92), (2, 93), (2, 94), (4, f82_748), (4, f82_749), (0, f82_750), (2, 95), (2, 96), (2, 97), (2, 98), (2, 99), (2, 100), (2, 101), (2, 102), (0, f82_752), (2, 103), (2, 104), (2, 105), (2, 106), (2, 107), (2, 108), (2, 109), (0, f82_754), (0, f82_756), (2, 110), (2, 111), (2, 112), (2, 113)]) (hb777.get (by decide) h82_758) rfl rfl rfl (fun w778 hk779 hb780 => ?_)
          have hF781 : xFr [82, 85] w709 w778 := ((xFr.of (S := [82, 85]) hb777 (by decide)).tr (xFr.of (S := [82, 85]) hb780 (by decide)))
          have hA782 := FA_fr hF781 (by decide)
          have hf783 : fld w778 82 4 = f82_732 := fld_of hk779
          have hf784 : fld w778 82 5 = f82_734 := fld_of hk779
          have hf785 : fld w778 82 7 = f82_738 := fld_of hk779
          have hf786 : fld w778 82 10 = f82_744 := fld_of hk779
          have hf787 : fld w778 82 14 = f82_746 + 1 := fld_of hk779
          have hu788 : mu w778 = 2 * (fld w778 82 4 - fld w778 82 5) + min 1 (fld w778 82 7) := rfl
          have pq789 := pk720
          unfold PK PS at pq789
          have hM790 : ∀ s, s < 7 → s ≠ 5 → rwv w778 85 s = rwv w 85 s := fun s hs hn => (rwv_of (hr776.but hb780 (by decide)) hs).trans ((if_neg hn).trans ((rwv_of h85_769 hs).symm.trans (mf723 s hs)))
          have hM791 : rwv w778 85 5 = u45 + 1 := (rwv_of (hr776.but hb780 (by decide)) (by decide)).trans ((if_pos rfl).trans (by omega))
          have hM792 : ∀ s, s < 7 → rwv w778 85 s ≤ rwv w 85 s + 1 := fun s hs => by
            by_cases z : s = 5
            · subst z; omega
            · rw [hM790 s hs z]; omega
          have hO793 : ∀ j, (j < 7 ∨ 9 ≤ j) → j < 140 → rwv w778 86 j = rwv w 86 j := fun j hj hl => (rwv_fr hF781 (by decide)).trans (os721 j hj hl)
          have hl795 : FA w709 ≠ 0 ∨ u45 < 1 := rg722
          have hl796 : rwv w778 86 (7) = rwv w709 86 (7) := rwv_fr hF781 (by decide)
          have hl797 : rwv w778 86 (8) = rwv w709 86 (8) := rwv_fr hF781 (by decide)
          have hN794 : FA w778 ≠ 0 ∨ 1 ≤ u45 ∨ (1 ≤ rwv w778 86 7 ∧ rwv w778 86 7 ≤ 10 ∧ 1 ≤ rwv w778 86 8 ∧ rwv w778 86 8 ≤ 10) := by have q := nw726; omega
          have hX798 : FA w778 ≠ 0 ∨ u45 < 1 := by omega
          have hD799 : FA w778 ≠ 0 ∨ (DATA w → DATA w778) := by
            by_cases z : FA w778 ≠ 0
            · exact Or.inl z
            · exact Or.inr (fun hd => hd.s5 hM790 hK48 hM791 (hX798.resolve_left z) hO793 ((hN794.resolve_left z).resolve_left (by have := hX798.resolve_left z; omega)))
          exact xg_e ⟨w778, ⟨rfl, rfl⟩, xMnv.up (S := [85, 82]) hI711 ((xFr.of (S := [85, 82]) hb777 (by decide)).tr (xFr.of (S := [85, 82]) hb780 (by decide))) (List.forall_mem_cons.mpr ⟨(show cpI 7 52 4294967295 (wget w778 85) from ⟨_, (hr776.but hb780 (by decide)), xrb (by omega) (hb770)⟩), List.forall_mem_cons.mpr ⟨(show cp82 (wget w778 82) from ⟨f82_728, f82_730, f82_732, f82_734, f82_736, f82_738, f82_740, f82_742, f82_744, f82_746 + 1, f82_748, f82_749, f82_750, f82_752, f82_754, f82_756, hk779, hb729, hb731, hb733, hb735, hb737, hb739, hb741, hb743, hb745, by omega, hb751, hb753, hb755, hb757, by omega⟩), fun _ h => absurd h List.not_mem_nil⟩⟩), ((hF575.tr (hF712.up (by decide))).tr ((xFr.of (S := [82, 83, 85, 86, 87]) hb777 (by decide)).tr (xFr.of (S := [82, 83, 85, 86, 87]) hb780 (by decide)))), ⟨fun h => by have := pq789.1 h; omega, (show fld w778 82 10 = 0 ∨ FA w778 ≠ 0 by omega), Or.inr ⟨by have := ms727; omega, by omega, hM792⟩, hD799, pk720.2.2.2.2.tr (K83.fr hF781 (by decide))⟩⟩
      · refine xg_t (xg_ifT (u := f82_599) rfl xnm0 (xj_neT hc615)) ?_
        refine xg_t (xg_blk (b := [(416, 1, 0, 0, 0, 0), (417, 3, 13, 140, 96, 183)]) rfl) ?_
        refine xg_t (xg_aload (va := (2, 82)) rfl rfl) ?_
        refine xg_cVv mX12_ends (vs := []) (rest := []) (cn1 := 0) (sl1 := 0) rfl (mEnds (hI574) hj577.2.2.2.1) rfl h82_613 rfl rfl rfl rfl rfl rfl (fun w800 hq801 => ?_)
        obtain ⟨hI802, hF803, hx804⟩ := hq801
        clear hb584 hb586 hb588 hb590 hb592 hb594 hb596 hb598 hb600 hb602 hb606 hb608 hb610 hb612
        obtain ⟨hv805, hv806, hv807, hv808, hv809⟩ := hx804
        have pk810 : PK w573 w800 := ⟨fun _ => hv805, by omega, by omega, Or.inr hv805, hv809⟩
        have pk811 : PK w w800 := PK.tr hj577 pk810
        have os812 : ∀ j, (j < 7 ∨ 9 ≤ j) → j < 140 → rwv w800 86 j = rwv w 86 j := fun j hj hl => (rwv_fr hF803 (by decide)).trans (hj578 j hj hl)
        have rg813 : FA w800 ≠ 0 ∨ u45 < 1 := hj581.imp_left pk810.1
        have mf814 : ∀ s, s < 7 → rwv w800 85 s = rwv w 85 s := fun s hs => (rwv_fr hF803 (by decide)).trans (hj580 s hs)
        have hl815 : rwv w800 86 (7) = rwv w573 86 (7) := rwv_fr hF803 (by decide)
        have hl816 : rwv w800 86 (8) = rwv w573 86 (8) := rwv_fr hF803 (by decide)
        have nw817 : FA w800 ≠ 0 ∨ 1 ≤ u45 ∨ (1 ≤ rwv w800 86 7 ∧ rwv w800 86 7 ≤ 10 ∧ 1 ≤ rwv w800 86 8 ∧ rwv w800 86 8 ≤ 10) := by have q := hj582; have q1 := pk810.1; omega
        clear hj582
        have ms818 : mu w800 < mu w := Nat.lt_of_le_of_lt pk810.2.1 hj579
        clear hj581
        refine xg_t (xg_blk (b := [(420, 1, 0, 0, 0, 0), (421, 3, 1, 12, 11, 17), (424, 1, 2, 1, 0, 0), (425, 1, 39, 0, 0, 0), (426, 1, 10, 0, 0, 0), (427, 1, 3, 1, 0, 0), (428, 1, 11, 0, 0, 0), (429, 1, 17, 0, 0, 0), (430, 1, 0, 0, 0, 0), (431, 1, 19, 0, 0, 0), (432, 3, 1, 12, 14, 212), (435, 1, 3, 1, 0, 0), (436, 1, 11, 0, 0, 0), (437, 3, 14, 12, 14, 212), (440, 1, 12, 0, 0, 0)]) rfl) ?_
        obtain ⟨f82_819, f82_821, f82_823, f82_825, f82_827, f82_829, f82_831, f82_833, f82_835, f82_837, f82_839, f82_840, f82_841, f82_843, f82_845, f82_847, h82_849, hb820, hb822, hb824, hb826, hb828, hb830, hb832, hb834, hb836, hb838, hb842, hb844, hb846, hb848, hb850⟩ := (hI802 82 (by decide) (by decide) : cp82 (wget w800 82))
        have hf851 : fld w800 82 4 = f82_823 := fld_of h82_849
        have hf852 : fld w800 82 5 = f82_825 := fld_of h82_849
        have hf853 : fld w800 82 7 = f82_829 := fld_of h82_849
        have hf854 : fld w800 82 10 = f82_835 := fld_of h82_849
        have hf855 : fld w800 82 14 = f82_837 := fld_of h82_849
        have hu856 : mu w800 = 2 * (fld w800 82 4 - fld w800 82 5) + min 1 (fld w800 82 7) := rfl
        have hf857 := pk811.2.2.1
        have hl858 : f82_837 ≤ 1000 := by omega
        refine xg_t (xg_aload (va := (2, 82)) rfl rfl) ?_
        refine xg_t (xg_getf (va := (2, 85)) h82_849 rfl) ?_
        refine xg_t (xg_iload (va := (0, 5)) rfl rfl) ?_
        refine xg_t (xg_dup2 rfl) ?_
        obtain ⟨g85_859, h85_860, hb861⟩ := (hI802 85 (by decide) (by decide) : cpI 7 52 4294967295 (wget w800 85))
        have h85_860 : xRow w800 85 7 52 g85_859 := h85_860
        refine xg_ialdB (n := 5) (B := 4294967295) h85_860 (hb861) xnm0 (by omega) (fun u862 hu863 he864 => ?_)
        have hl865 : u862 = u45 := by have q1 := rwv_of h85_860 (show 5 < 7 by decide); have q2 := mf814 5 (by decide); omega
        refine xg_t (xg_const) ?_
        refine xg_t (xg_iadd (u := u862) (v := 1) (z := u862 + 1) xnm0 xnm0 (by omega)) ?_
        refine xg_iastK (n := 5) (u := u862 + 1) h85_860 xnm0 xnm0 rfl (by omega) (fun w866 hr867 hb868 => ?_)
        refine xg_t (xg_aload (va := (2, 82)) rfl rfl) ?_
        refine xg_t (xg_dup rfl) ?_
        refine xg_t (xg_getf (va := (0, f82_837)) (hb868.get (by decide) h82_849) rfl) ?_
        refine xg_t (xg_const) ?_
        refine xg_t (xg_iadd (u := f82_837) (v := 1) (z := f82_837 + 1) xnm0 xnm0 (by omega)) ?_
        refine xg_putI (fl1 := [(2, 83), (2, 84), (0, f82_819), (0, f82_821), (0, f82_823), (0, f82_825), (0, f82_827), (0, f82_829), (0, f82_831), (0, f82_833), (0, f82_835), (2, 85), (2, 86), (2, 87), (0, f82_837 + 1), (2, 88), (2, 89), (2, 90), (2, 91), (2, 92), (2, 93), (2, 94), (4, f82_839), (4, f82_840), (0, f82_841), (2, 95), (2, 96), (2, 97), (2, 98), (2, 99), (2, 100), (2, 101), (2, 102), (0, f82_843), (2, 103), (2, 104), (2, 105), (2, 106), (2, 107), (2, 108), (2, 109), (0, f82_845), (0, f82_847), (2, 110), (2, 111), (2, 112), (2, 113)]) (hb868.get (by decide) h82_849) rfl rfl rfl (fun w869 hk870 hb871 => ?_)
        have hF872 : xFr [82, 85] w800 w869 := ((xFr.of (S := [82, 85]) hb868 (by decide)).tr (xFr.of (S := [82, 85]) hb871 (by decide)))
        have hA873 := FA_fr hF872 (by decide)
        have hf874 : fld w869 82 4 = f82_823 := fld_of hk870
        have hf875 : fld w869 82 5 = f82_825 := fld_of hk870
        have hf876 : fld w869 82 7 = f82_829 := fld_of hk870
        have hf877 : fld w869 82 10 = f82_835 := fld_of hk870
        have hf878 : fld w869 82 14 = f82_837 + 1 := fld_of hk870
        have hu879 : mu w869 = 2 * (fld w869 82 4 - fld w869 82 5) + min 1 (fld w869 82 7) := rfl
        have pq880 := pk811
        unfold PK PS at pq880
        have hM881 : ∀ s, s < 7 → s ≠ 5 → rwv w869 85 s = rwv w 85 s := fun s hs hn => (rwv_of (hr867.but hb871 (by decide)) hs).trans ((if_neg hn).trans ((rwv_of h85_860 hs).symm.trans (mf814 s hs)))
        have hM882 : rwv w869 85 5 = u45 + 1 := (rwv_of (hr867.but hb871 (by decide)) (by decide)).trans ((if_pos rfl).trans (by omega))
        have hM883 : ∀ s, s < 7 → rwv w869 85 s ≤ rwv w 85 s + 1 := fun s hs => by
          by_cases z : s = 5
          · subst z; omega
          · rw [hM881 s hs z]; omega
        have hO884 : ∀ j, (j < 7 ∨ 9 ≤ j) → j < 140 → rwv w869 86 j = rwv w 86 j := fun j hj hl => (rwv_fr hF872 (by decide)).trans (os812 j hj hl)
        have hl886 : FA w800 ≠ 0 ∨ u45 < 1 := rg813
        have hl887 : rwv w869 86 (7) = rwv w800 86 (7) := rwv_fr hF872 (by decide)
        have hl888 : rwv w869 86 (8) = rwv w800 86 (8) := rwv_fr hF872 (by decide)
        have hN885 : FA w869 ≠ 0 ∨ 1 ≤ u45 ∨ (1 ≤ rwv w869 86 7 ∧ rwv w869 86 7 ≤ 10 ∧ 1 ≤ rwv w869 86 8 ∧ rwv w869 86 8 ≤ 10) := by have q := nw817; omega
        have hX889 : FA w869 ≠ 0 ∨ u45 < 1 := by omega
        have hD890 : FA w869 ≠ 0 ∨ (DATA w → DATA w869) := by
          by_cases z : FA w869 ≠ 0
          · exact Or.inl z
          · exact Or.inr (fun hd => hd.s5 hM881 hK48 hM882 (hX889.resolve_left z) hO884 ((hN885.resolve_left z).resolve_left (by have := hX889.resolve_left z; omega)))
        exact xg_e ⟨w869, ⟨rfl, rfl⟩, xMnv.up (S := [85, 82]) hI802 ((xFr.of (S := [85, 82]) hb868 (by decide)).tr (xFr.of (S := [85, 82]) hb871 (by decide))) (List.forall_mem_cons.mpr ⟨(show cpI 7 52 4294967295 (wget w869 85) from ⟨_, (hr867.but hb871 (by decide)), xrb (by omega) (hb861)⟩), List.forall_mem_cons.mpr ⟨(show cp82 (wget w869 82) from ⟨f82_819, f82_821, f82_823, f82_825, f82_827, f82_829, f82_831, f82_833, f82_835, f82_837 + 1, f82_839, f82_840, f82_841, f82_843, f82_845, f82_847, hk870, hb820, hb822, hb824, hb826, hb828, hb830, hb832, hb834, hb836, by omega, hb842, hb844, hb846, hb848, by omega⟩), fun _ h => absurd h List.not_mem_nil⟩⟩), ((hF575.tr (hF803.up (by decide))).tr ((xFr.of (S := [82, 83, 85, 86, 87]) hb868 (by decide)).tr (xFr.of (S := [82, 83, 85, 86, 87]) hb871 (by decide)))), ⟨fun h => by have := pq880.1 h; omega, (show fld w869 82 10 = 0 ∨ FA w869 ≠ 0 by omega), Or.inr ⟨by have := ms818; omega, by omega, hM883⟩, hD890, pk811.2.2.2.2.tr (K83.fr hF872 (by decide))⟩⟩
    refine xg_t (xg_iload (va := (0, 5)) rfl rfl) ?_
    refine xg_t (xg_swt (ks := [(0, 108), (1, 116), (2, 180), (3, 221), (4, 273), (5, 326)]) (u := 5) (z := 326) rfl rfl rfl xnm0 (xsw_n (by omega) (xsw_n (by omega) (xsw_n (by omega) (xsw_n (by omega) (xsw_n (by omega) (xsw_y rfl))))))) ?_
    refine xg_t (xg_blk (b := [(326, 1, 3, 0, 0, 0), (327, 2, 15, 4, 0, 0)]) rfl) ?_
    refine xg_t (xg_const) ?_
    refine xg_t (xg_istore (l1 := [(3, (0, u45)), (2, (0, at_)), (1, (0, 5)), (0, (2, 82))]) rfl rfl rfl) ?_
    refine xg_t (xg_blk (b := [(329, 2, 2, 4, 0, 0), (331, 1, 3, 2, 0, 0), (332, 3, 6, 359, 3, 0), (335, 1, 0, 0, 0, 0), (336, 1, 2, 1, 0, 0), (337, 1, 2, 3, 0, 0), (338, 2, 4, 7, 0, 0), (340, 2, 2, 4, 0, 0), (342, 1, 11, 0, 0, 0), (343, 1, 0, 0, 0, 0), (344, 1, 3, 1, 0, 0), (345, 2, 4, 10, 0, 0), (347, 3, 13, 199, 96, 196), (350, 3, 13, 211, 96, 200), (353, 3, 9, 4, 1, 0), (356, 3, 8, 329, 0, 0)]) rfl) ?_
    refine xg_t (xg_iload (va := (0, 0)) rfl rfl) ?_
    refine xg_t (xg_const) ?_
    refine xg_t (xg_icF (u := 0) (v := 2) rfl xnm0 xnm0 (by decide)) ?_
    refine xg_t (xg_aload (va := (2, 82)) rfl rfl) ?_
    refine xg_t (xg_iload (va := (0, 5)) rfl rfl) ?_
    refine xg_t (xg_iload (va := (0, u45)) rfl rfl) ?_
    refine xg_t (xg_bip) ?_
    refine xg_t (xg_iload (va := (0, 0)) rfl rfl) ?_
    refine xg_t (xg_iadd (u := 7) (v := 0) (z := 7) xnm0 xnm0 (by decide)) ?_
    refine xg_t (xg_aload (va := (2, 82)) rfl rfl) ?_
    refine xg_t (xg_const) ?_
    refine xg_t (xg_bip) ?_
    obtain ⟨f82_891, f82_893, f82_895, f82_897, f82_899, f82_901, f82_903, f82_905, f82_907, f82_909, f82_911, f82_912, f82_913, f82_915, f82_917, f82_919, h82_921, hb892, hb894, hb896, hb898, hb900, hb902, hb904, hb906, hb908, hb910, hb914, hb916, hb918, hb920, hb922⟩ := (hI557 82 (by decide) (by decide) : cp82 (wget w555 82))
    refine xg_cVi mX12_numbered (vs := [(0, 1), (0, 10)]) (rest := [(0, 7), (0, u45), (0, 5), (2, 82)]) (cn1 := 0) (sl1 := 0) rfl (mNumbered (hI557) (by omega) (by omega) pk567.2.2.2.1) rfl h82_921 rfl rfl rfl rfl rfl rfl (fun n927 w923 hq924 => ?_)
    obtain ⟨hn928, hI925, hF926⟩ := hq924
    clear hb892 hb894 hb896 hb898 hb900 hb902 hb904 hb906 hb908 hb910 hb914 hb916 hb918 hb920
    obtain ⟨hn929, hn930, hn931⟩ := hn928
    have pk932 : PK w w923 := PK.tr pk567 hn930
    have os933 : ∀ j, (j < 7 ∨ 9 ≤ j) → j < 140 → rwv w923 86 j = rwv w 86 j := fun j hj hl => (rwv_fr hF926 (by decide)).trans (os568 j hj hl)
    have rg934 : FA w923 ≠ 0 ∨ 0 = 1 := rg569.imp_left hn930.1
    have mf935 : ∀ s, s < 7 → rwv w923 85 s = rwv w 85 s := fun s hs => (rwv_fr hF926 (by decide)).trans (mf570 s hs)
    have ms936 : mu w923 < mu w := Nat.lt_of_le_of_lt hn930.2.1 ms571
    clear rg569
    obtain ⟨f82_937, f82_939, f82_941, f82_943, f82_945, f82_947, f82_949, f82_951, f82_953, f82_955, f82_957, f82_958, f82_959, f82_961, f82_963, f82_965, h82_967, hb938, hb940, hb942, hb944, hb946, hb948, hb950, hb952, hb954, hb956, hb960, hb962, hb964, hb966, hb968⟩ := (hI925 82 (by decide) (by decide) : cp82 (wget w923 82))
    refine xg_cVv mX12_puts (vs := [(0, 5), (0, u45), (0, 7), (0, n927)]) (rest := []) (cn1 := 0) (sl1 := 0) rfl (mPuts5 (hI925) (by omega) (by omega) (by omega) (fun _ => by omega)) rfl h82_967 rfl rfl rfl rfl rfl rfl (fun w969 hq970 => ?_)
    obtain ⟨hI971, hF972, hx973⟩ := hq970
    obtain ⟨hp974, hp975⟩ := hx973
    have pk976 : PK w w969 := PK.tr pk932 (PK.fr hF972 (by decide) (by decide) pk932.2.2.2.1)
    have os977 : ∀ j, (j < 7 ∨ 9 ≤ j) → j < 140 → rwv w969 86 j = rwv w 86 j := fun j hj hl => (hp975 j (by omega) hl).trans (os933 j hj hl)
    have rg978 : FA w969 ≠ 0 ∨ 0 = 1 := rg934.imp_left (PK.fr hF972 (by decide) (by decide) pk932.2.2.2.1).1
    have rg979 : FA w969 ≠ 0 ∨ (1 ≤ n927 ∧ n927 ≤ 10) := hn931.imp_left (PK.fr hF972 (by decide) (by decide) pk932.2.2.2.1).1
    have mf980 : ∀ s, s < 7 → rwv w969 85 s = rwv w 85 s := fun s hs => (rwv_fr hF972 (by decide)).trans (mf935 s hs)
    have ms981 : mu w969 < mu w := Nat.lt_of_le_of_lt (PK.fr hF972 (by decide) (by decide) pk932.2.2.2.1).2.1 ms936
    clear rg934 hn931
    refine xg_t (xg_iinc (u := 0) (z := 1) (l1 := [(3, (0, u45)), (2, (0, at_)), (1, (0, 5)), (0, (2, 82))]) rfl rfl (by decide) rfl) ?_
    refine xg_t (xg_goto) ?_
    refine xg_t (xg_blk (b := [(329, 2, 2, 4, 0, 0), (331, 1, 3, 2, 0, 0), (332, 3, 6, 359, 3, 0), (335, 1, 0, 0, 0, 0), (336, 1, 2, 1, 0, 0), (337, 1, 2, 3, 0, 0), (338, 2, 4, 7, 0, 0), (340, 2, 2, 4, 0, 0), (342, 1, 11, 0, 0, 0), (343, 1, 0, 0, 0, 0), (344, 1, 3, 1, 0, 0), (345, 2, 4, 10, 0, 0), (347, 3, 13, 199, 96, 196), (350, 3, 13, 211, 96, 200), (353, 3, 9, 4, 1, 0), (356, 3, 8, 329, 0, 0)]) rfl) ?_
    refine xg_t (xg_iload (va := (0, 1)) rfl rfl) ?_
    refine xg_t (xg_const) ?_
    refine xg_t (xg_icF (u := 1) (v := 2) rfl xnm0 xnm0 (by decide)) ?_
    refine xg_t (xg_aload (va := (2, 82)) rfl rfl) ?_
    refine xg_t (xg_iload (va := (0, 5)) rfl rfl) ?_
    refine xg_t (xg_iload (va := (0, u45)) rfl rfl) ?_
    refine xg_t (xg_bip) ?_
    refine xg_t (xg_iload (va := (0, 1)) rfl rfl) ?_
    refine xg_t (xg_iadd (u := 7) (v := 1) (z := 8) xnm0 xnm0 (by decide)) ?_
    refine xg_t (xg_aload (va := (2, 82)) rfl rfl) ?_
    refine xg_t (xg_const) ?_
    refine xg_t (xg_bip) ?_
    refine xg_cVi mX12_numbered (vs := [(0, 1), (0, 10)]) (rest := [(0, 8), (0, u45), (0, 5), (2, 82)]) (cn1 := 0) (sl1 := 0) rfl (mNumbered (hI971) (by omega) (by omega) pk976.2.2.2.1) rfl (hF972.get (by decide) h82_967) rfl rfl rfl rfl rfl rfl (fun n986 w982 hq983 => ?_)
    obtain ⟨hn987, hI984, hF985⟩ := hq983
    clear hb938 hb940 hb942 hb944 hb946 hb948 hb950 hb952 hb954 hb956 hb960 hb962 hb964 hb966
    obtain ⟨hn988, hn989, hn990⟩ := hn987
    have pk991 : PK w w982 := PK.tr pk976 hn989
    have os992 : ∀ j, (j < 7 ∨ 9 ≤ j) → j < 140 → rwv w982 86 j = rwv w 86 j := fun j hj hl => (rwv_fr hF985 (by decide)).trans (os977 j hj hl)
    have ix993 : u45 < 1 → rwv w982 86 (7) = n927 := fun h => (rwv_fr hF985 (by decide)).trans (hp974 h)
    have rg994 : FA w982 ≠ 0 ∨ 0 = 1 := rg978.imp_left hn989.1
    have rg995 : FA w982 ≠ 0 ∨ (1 ≤ n927 ∧ n927 ≤ 10) := rg979.imp_left hn989.1
    have mf996 : ∀ s, s < 7 → rwv w982 85 s = rwv w 85 s := fun s hs => (rwv_fr hF985 (by decide)).trans (mf980 s hs)
    have ms997 : mu w982 < mu w := Nat.lt_of_le_of_lt hn989.2.1 ms981
    clear hp974 rg978 rg979
    obtain ⟨f82_998, f82_1000, f82_1002, f82_1004, f82_1006, f82_1008, f82_1010, f82_1012, f82_1014, f82_1016, f82_1018, f82_1019, f82_1020, f82_1022, f82_1024, f82_1026, h82_1028, hb999, hb1001, hb1003, hb1005, hb1007, hb1009, hb1011, hb1013, hb1015, hb1017, hb1021, hb1023, hb1025, hb1027, hb1029⟩ := (hI984 82 (by decide) (by decide) : cp82 (wget w982 82))
    refine xg_cVv mX12_puts (vs := [(0, 5), (0, u45), (0, 8), (0, n986)]) (rest := []) (cn1 := 0) (sl1 := 0) rfl (mPuts5 (hI984) (by omega) (by omega) (by omega) (fun _ => by omega)) rfl h82_1028 rfl rfl rfl rfl rfl rfl (fun w1030 hq1031 => ?_)
    obtain ⟨hI1032, hF1033, hx1034⟩ := hq1031
    obtain ⟨hp1035, hp1036⟩ := hx1034
    have pk1037 : PK w w1030 := PK.tr pk991 (PK.fr hF1033 (by decide) (by decide) pk991.2.2.2.1)
    have os1038 : ∀ j, (j < 7 ∨ 9 ≤ j) → j < 140 → rwv w1030 86 j = rwv w 86 j := fun j hj hl => (hp1036 j (by omega) hl).trans (os992 j hj hl)
    have ix1039 : u45 < 1 → rwv w1030 86 (7) = n927 := fun h => (hp1036 _ (by omega) (by omega)).trans (ix993 h)
    have rg1040 : FA w1030 ≠ 0 ∨ 0 = 1 := rg994.imp_left (PK.fr hF1033 (by decide) (by decide) pk991.2.2.2.1).1
    have rg1041 : FA w1030 ≠ 0 ∨ (1 ≤ n927 ∧ n927 ≤ 10) := rg995.imp_left (PK.fr hF1033 (by decide) (by decide) pk991.2.2.2.1).1
    have rg1042 : FA w1030 ≠ 0 ∨ (1 ≤ n986 ∧ n986 ≤ 10) := hn990.imp_left (PK.fr hF1033 (by decide) (by decide) pk991.2.2.2.1).1
    have mf1043 : ∀ s, s < 7 → rwv w1030 85 s = rwv w 85 s := fun s hs => (rwv_fr hF1033 (by decide)).trans (mf996 s hs)
    have ms1044 : mu w1030 < mu w := Nat.lt_of_le_of_lt (PK.fr hF1033 (by decide) (by decide) pk991.2.2.2.1).2.1 ms997
    clear ix993 rg994 rg995 hn990
    refine xg_t (xg_iinc (u := 1) (z := 2) (l1 := [(3, (0, u45)), (2, (0, at_)), (1, (0, 5)), (0, (2, 82))]) rfl rfl (by decide) rfl) ?_
    refine xg_t (xg_goto) ?_
    refine xg_t (xg_blk (b := [(329, 2, 2, 4, 0, 0), (331, 1, 3, 2, 0, 0), (332, 3, 6, 359, 3, 0), (335, 1, 0, 0, 0, 0), (336, 1, 2, 1, 0, 0), (337, 1, 2, 3, 0, 0), (338, 2, 4, 7, 0, 0), (340, 2, 2, 4, 0, 0), (342, 1, 11, 0, 0, 0), (343, 1, 0, 0, 0, 0), (344, 1, 3, 1, 0, 0), (345, 2, 4, 10, 0, 0), (347, 3, 13, 199, 96, 196), (350, 3, 13, 211, 96, 200), (353, 3, 9, 4, 1, 0), (356, 3, 8, 329, 0, 0)]) rfl) ?_
    refine xg_t (xg_iload (va := (0, 2)) rfl rfl) ?_
    refine xg_t (xg_const) ?_
    refine xg_t (xg_icT (u := 2) (v := 2) rfl xnm0 xnm0 (by decide)) ?_
    refine xg_t (xg_blk (b := [(359, 3, 8, 394, 0, 0)]) rfl) ?_
    refine xg_t (xg_goto) ?_
    refine xg_t (xg_drop (l1 := [(0, (2, 82)), (1, (0, 5)), (3, (0, u45))]) (List.forall_mem_cons.mpr ⟨List.mem_cons_of_mem _ (List.mem_cons_of_mem _ (List.mem_cons_of_mem _ (List.mem_cons_of_mem _ (List.mem_cons_self)))), List.forall_mem_cons.mpr ⟨List.mem_cons_of_mem _ (List.mem_cons_of_mem _ (List.mem_cons_of_mem _ (List.mem_cons_self))), List.forall_mem_cons.mpr ⟨List.mem_cons_of_mem _ (List.mem_cons_self), fun _ h => absurd h List.not_mem_nil⟩⟩⟩)) ?_
    have hX1045 : FA w1030 ≠ 0 ∨ u45 < 1 := Or.inl (by have q := rg1040; omega)
    have hN1046 : FA w1030 ≠ 0 ∨ 1 ≤ u45 ∨ (1 ≤ rwv w1030 86 7 ∧ rwv w1030 86 7 ≤ 10 ∧ 1 ≤ rwv w1030 86 8 ∧ rwv w1030 86 8 ≤ 10) := by
      have hl1047 : u45 < 1 → rwv w1030 86 (7) = n927 := ix1039
      have hl1048 : u45 < 1 → rwv w1030 86 (8) = n986 := hp1035
      have hl1049 := rg1041
      have hl1050 := rg1042
      omega
    exact jn572 w1030 (hI1032) (((((((hF546.up (by decide)).tr (hF558.up (by decide))).tr (hF926.up (by decide))).tr (hF972.up (by decide))).tr (hF985.up (by decide))).tr (hF1033.up (by decide)))) (⟨pk1037, os1038, ms1044, mf1043, hX1045, hN1046⟩)
set_option maxHeartbeats 60000000 in
theorem mALineS6 {at_ : Nat} (hI : xMnv w) (hps : PS w) (hmb : ∀ s, s < 7 → rwv w 85 s ≤ 1000) (hln : fld w 82 14 ≤ 1000) (h7 : fld w 82 7 = 3) (hat : at_ ≤ 4294967295) : xTo (d + 7) mX12_aLine (43, [], [(2, (0, at_)), (1, (0, 6)), (0, (2, 82))], [], (w, bd, fc, 0, 0, rr)) (fun φ => ∃ w', xEnd 0 [] (w', bd, fc, 0, 0, rr) φ ∧ xMnv w' ∧ xFr [82, 83, 85, 86, 87] w w' ∧ ((FA w ≠ 0 → FA w' ≠ 0) ∧ PS w' ∧ ((fld w' 82 10 = 1 ∧ mu w' = mu w ∧ fld w' 82 14 = fld w 82 14 ∧ ∀ s, s < 7 → rwv w' 85 s = rwv w 85 s) ∨ (mu w' < mu w ∧ fld w' 82 14 = fld w 82 14 + 1 ∧ ∀ s, s < 7 → rwv w' 85 s ≤ rwv w 85 s + 1)) ∧ (FA w' ≠ 0 ∨ (DATA w → DATA w')) ∧ K83 w w')) := by
  obtain ⟨f82_1, f82_3, f82_5, f82_7, f82_9, f82_11, f82_13, f82_15, f82_17, f82_19, f82_21, f82_22, f82_23, f82_25, f82_27, f82_29, h82_31, hb2, hb4, hb6, hb8, hb10, hb12, hb14, hb16, hb18, hb20, hb24, hb26, hb28, hb30, hb32⟩ := (hI 82 (by decide) (by decide) : cp82 (wget w 82))
  have hf33 : fld w 82 7 = f82_11 := fld_of h82_31
  have hf34 : fld w 82 10 = f82_17 := fld_of h82_31
  have hf35 : fld w 82 14 = f82_19 := fld_of h82_31
  have hps_ : fld w 82 10 = 0 ∨ FA w ≠ 0 := hps
  obtain ⟨g85_36, h85_37, hb38⟩ := (hI 85 (by decide) (by decide) : cpI 7 52 4294967295 (wget w 85))
  have h85_37 : xRow w 85 7 52 g85_36 := h85_37
  obtain ⟨g86_39, h86_40, hb41⟩ := (hI 86 (by decide) (by decide) : cpI 140 53 4294967295 (wget w 86))
  have h86_40 : xRow w 86 140 53 g86_39 := h86_40
  obtain ⟨g87_42, h87_43, hb44⟩ := (hI 87 (by decide) (by decide) : cpI 20 54 4294967295 (wget w 87))
  have h87_43 : xRow w 87 20 54 g87_42 := h87_43
  refine xg_t (xg_blk (b := [(43, 1, 0, 0, 0, 0), (44, 3, 1, 12, 11, 17), (47, 1, 2, 1, 0, 0), (48, 1, 10, 0, 0, 0), (49, 1, 15, 3, 0, 0), (50, 1, 2, 3, 0, 0), (51, 1, 2, 1, 0, 0), (52, 3, 13, 194, 98, 193), (55, 3, 6, 64, 2, 0), (58, 1, 0, 0, 0, 0), (59, 1, 3, 3, 0, 0), (60, 1, 2, 2, 0, 0), (61, 3, 13, 115, 96, 186)]) rfl) ?_
  refine xg_t (xg_aload (va := (2, 82)) rfl rfl) ?_
  refine xg_t (xg_getf (va := (2, 85)) h82_31 rfl) ?_
  refine xg_t (xg_iload (va := (0, 6)) rfl rfl) ?_
  refine xg_ialdB (n := 6) (B := 4294967295) h85_37 (hb38) xnm0 (by omega) (fun u45 hu46 he47 => ?_)
  have hK48 : rwv w 85 6 = u45 := (rwv_of h85_37 (by decide)).trans he47
  have hm49 := hmb 6 (by decide)
  have hl50 : u45 ≤ 1000 := by omega
  refine xg_t (xg_istore (l1 := [(2, (0, at_)), (1, (0, 6)), (0, (2, 82))]) rfl rfl rfl) ?_
  refine xg_t (xg_iload (va := (0, u45)) rfl rfl) ?_
  refine xg_t (xg_iload (va := (0, 6)) rfl rfl) ?_
  refine xg_t (xg_cSr mX12_mostOf (vs := [(0, 6)]) (rest := [(0, u45)]) (rs := [(0, 1), (0, u45)]) (cn1 := 0) (sl1 := 0) rfl (mMostR6) rfl rfl rfl rfl rfl rfl rfl rfl) ?_
  by_cases hc51 : u45 < 1
  · refine xg_t (xg_icT (u := u45) (v := 1) rfl xnm0 xnm0 (xj_ltT hc51 (by omega))) ?_
    refine xg_t (xg_blk (b := [(64, 1, 0, 0, 0, 0), (65, 3, 13, 110, 96, 190), (68, 1, 2, 1, 0, 0), (69, 39, 33, 362, 0, 9)]) rfl) ?_
    refine xg_t (xg_aload (va := (2, 82)) rfl rfl) ?_
    refine xg_cVv mX12_advance (vs := []) (rest := []) (cn1 := 0) (sl1 := 0) rfl (mAdvance (hI)) rfl h82_31 rfl rfl rfl rfl rfl rfl (fun w52 hq53 => ?_)
    obtain ⟨hI54, hF55, hx56⟩ := hq53
    clear hb2 hb4 hb6 hb8 hb10 hb12 hb14 hb16 hb18 hb20 hb24 hb26 hb28 hb30
    obtain ⟨hv57, hv58, hv59, hv60⟩ := hx56
    have hf62 := FA_fr hF55 (by decide)
    have hs63 := (PK.rf hps).2.2.2.1
    unfold PS at hs63
    have pk61 : PK w w52 := ⟨fun _ => by omega, hv57, hv60, (show fld w52 82 10 = 0 ∨ FA w52 ≠ 0 by omega), K83.fr hF55 (by decide)⟩
    clear hs63
    have pk64 : PK w w52 := PK.tr (PK.rf hps) pk61
    have os65 : ∀ j, (j < 5 ∨ 7 ≤ j) → j < 140 → rwv w52 86 j = rwv w 86 j := fun j hj hl => (rwv_fr hF55 (by decide)).trans ((fun j _ _ => rfl) j hj hl)
    have mf66 : ∀ s, s < 7 → rwv w52 85 s = rwv w 85 s := fun s hs => (rwv_fr hF55 (by decide)).trans ((fun _ _ => rfl) s hs)
    have ms67 : mu w52 < mu w := Nat.lt_of_lt_of_le (hv58 (by omega)) (PK.rf hps).2.1
    clear hv58
    have jn68 : ∀ (w69 : List (List xE)), xMnv w69 → xFr [82, 83, 85, 86, 87] w w69 → (PK w w69 ∧ (∀ j, (j < 5 ∨ 7 ≤ j) → j < 140 → rwv w69 86 j = rwv w 86 j) ∧ mu w69 < mu w ∧ (∀ s, s < 7 → rwv w69 85 s = rwv w 85 s) ∧ (FA w69 ≠ 0 ∨ u45 < 1) ∧ (FA w69 ≠ 0 ∨ 1 ≤ u45 ∨ (1 ≤ rwv w69 86 5 ∧ rwv w69 86 5 ≤ 6 ∧ 1 ≤ rwv w69 86 6 ∧ rwv w69 86 6 ≤ 6))) → xTo (d + 7) mX12_aLine (394, [], [(0, (2, 82)), (1, (0, 6)), (3, (0, u45))], [], (w69, bd, fc, 0, 0, rr)) (fun φ => ∃ w', xEnd 0 [] (w', bd, fc, 0, 0, rr) φ ∧ xMnv w' ∧ xFr [82, 83, 85, 86, 87] w w' ∧ ((FA w ≠ 0 → FA w' ≠ 0) ∧ PS w' ∧ ((fld w' 82 10 = 1 ∧ mu w' = mu w ∧ fld w' 82 14 = fld w 82 14 ∧ ∀ s, s < 7 → rwv w' 85 s = rwv w 85 s) ∨ (mu w' < mu w ∧ fld w' 82 14 = fld w 82 14 + 1 ∧ ∀ s, s < 7 → rwv w' 85 s ≤ rwv w 85 s + 1)) ∧ (FA w' ≠ 0 ∨ (DATA w → DATA w')) ∧ K83 w w')) := by
      intro w69 hI70 hF71 he72
      obtain ⟨hj73, hj74, hj75, hj76, hj77, hj78⟩ := he72
      refine xg_t (xg_blk (b := [(394, 1, 0, 0, 0, 0), (395, 3, 1, 12, 10, 180), (398, 3, 7, 416, 1, 0), (401, 1, 0, 0, 0, 0), (402, 3, 1, 12, 7, 151), (405, 1, 3, 2, 0, 0), (406, 3, 6, 416, 1, 0), (409, 1, 0, 0, 0, 0), (410, 3, 13, 110, 96, 190), (413, 3, 8, 420, 0, 0)]) rfl) ?_
      refine xg_t (xg_aload (va := (2, 82)) rfl rfl) ?_
      obtain ⟨f82_79, f82_81, f82_83, f82_85, f82_87, f82_89, f82_91, f82_93, f82_95, f82_97, f82_99, f82_100, f82_101, f82_103, f82_105, f82_107, h82_109, hb80, hb82, hb84, hb86, hb88, hb90, hb92, hb94, hb96, hb98, hb102, hb104, hb106, hb108, hb110⟩ := (hI70 82 (by decide) (by decide) : cp82 (wget w69 82))
      refine xg_t (xg_getf (va := (0, f82_95)) h82_109 rfl) ?_
      by_cases hc111 : f82_95 = 0
      · refine xg_t (xg_ifF (u := f82_95) rfl xnm0 (xj_neF hc111)) ?_
        refine xg_t (xg_aload (va := (2, 82)) rfl rfl) ?_
        refine xg_t (xg_getf (va := (0, f82_89)) h82_109 rfl) ?_
        refine xg_t (xg_const) ?_
        by_cases hc112 : f82_89 = 2
        · refine xg_t (xg_icF (u := f82_89) (v := 2) rfl xnm0 xnm0 (xj_neF hc112)) ?_
          refine xg_t (xg_aload (va := (2, 82)) rfl rfl) ?_
          refine xg_cVv mX12_advance (vs := []) (rest := []) (cn1 := 0) (sl1 := 0) rfl (mAdvance (hI70)) rfl h82_109 rfl rfl rfl rfl rfl rfl (fun w113 hq114 => ?_)
          obtain ⟨hI115, hF116, hx117⟩ := hq114
          clear hb80 hb82 hb84 hb86 hb88 hb90 hb92 hb94 hb96 hb98 hb102 hb104 hb106 hb108
          obtain ⟨hv118, hv119, hv120, hv121⟩ := hx117
          have hf123 := FA_fr hF116 (by decide)
          have hs124 := hj73.2.2.2.1
          unfold PS at hs124
          have pk122 : PK w69 w113 := ⟨fun _ => by omega, hv118, hv121, (show fld w113 82 10 = 0 ∨ FA w113 ≠ 0 by omega), K83.fr hF116 (by decide)⟩
          clear hs124
          clear hv119
          have pk125 : PK w w113 := PK.tr hj73 pk122
          have os126 : ∀ j, (j < 5 ∨ 7 ≤ j) → j < 140 → rwv w113 86 j = rwv w 86 j := fun j hj hl => (rwv_fr hF116 (by decide)).trans (hj74 j hj hl)
          have rg127 : FA w113 ≠ 0 ∨ u45 < 1 := hj77.imp_left pk122.1
          have mf128 : ∀ s, s < 7 → rwv w113 85 s = rwv w 85 s := fun s hs => (rwv_fr hF116 (by decide)).trans (hj76 s hs)
          have hl129 : rwv w113 86 (5) = rwv w69 86 (5) := rwv_fr hF116 (by decide)
          have hl130 : rwv w113 86 (6) = rwv w69 86 (6) := rwv_fr hF116 (by decide)
          have nw131 : FA w113 ≠ 0 ∨ 1 ≤ u45 ∨ (1 ≤ rwv w113 86 5 ∧ rwv w113 86 5 ≤ 6 ∧ 1 ≤ rwv w113 86 6 ∧ rwv w113 86 6 ≤ 6) := by have q := hj78; have q1 := pk122.1; omega
          clear hj78
          have ms132 : mu w113 < mu w := Nat.lt_of_le_of_lt pk122.2.1 hj75
          clear hj77
          refine xg_t (xg_goto) ?_
          refine xg_t (xg_blk (b := [(420, 1, 0, 0, 0, 0), (421, 3, 1, 12, 11, 17), (424, 1, 2, 1, 0, 0), (425, 1, 39, 0, 0, 0), (426, 1, 10, 0, 0, 0), (427, 1, 3, 1, 0, 0), (428, 1, 11, 0, 0, 0), (429, 1, 17, 0, 0, 0), (430, 1, 0, 0, 0, 0), (431, 1, 19, 0, 0, 0), (432, 3, 1, 12, 14, 212), (435, 1, 3, 1, 0, 0), (436, 1, 11, 0, 0, 0), (437, 3, 14, 12, 14, 212), (440, 1, 12, 0, 0, 0)]) rfl) ?_
          obtain ⟨f82_133, f82_135, f82_137, f82_139, f82_141, f82_143, f82_145, f82_147, f82_149, f82_151, f82_153, f82_154, f82_155, f82_157, f82_159, f82_161, h82_163, hb134, hb136, hb138, hb140, hb142, hb144, hb146, hb148, hb150, hb152, hb156, hb158, hb160, hb162, hb164⟩ := (hI115 82 (by decide) (by decide) : cp82 (wget w113 82))
          have hf165 : fld w113 82 4 = f82_137 := fld_of h82_163
          have hf166 : fld w113 82 5 = f82_139 := fld_of h82_163
          have hf167 : fld w113 82 7 = f82_143 := fld_of h82_163
          have hf168 : fld w113 82 10 = f82_149 := fld_of h82_163
          have hf169 : fld w113 82 14 = f82_151 := fld_of h82_163
          have hu170 : mu w113 = 2 * (fld w113 82 4 - fld w113 82 5) + min 1 (fld w113 82 7) := rfl
          have hf171 := pk125.2.2.1
          have hl172 : f82_151 ≤ 1000 := by omega
          refine xg_t (xg_aload (va := (2, 82)) rfl rfl) ?_
          refine xg_t (xg_getf (va := (2, 85)) h82_163 rfl) ?_
          refine xg_t (xg_iload (va := (0, 6)) rfl rfl) ?_
          refine xg_t (xg_dup2 rfl) ?_
          obtain ⟨g85_173, h85_174, hb175⟩ := (hI115 85 (by decide) (by decide) : cpI 7 52 4294967295 (wget w113 85))
          have h85_174 : xRow w113 85 7 52 g85_173 := h85_174
          refine xg_ialdB (n := 6) (B := 4294967295) h85_174 (hb175) xnm0 (by omega) (fun u176 hu177 he178 => ?_)
          have hl179 : u176 = u45 := by have q1 := rwv_of h85_174 (show 6 < 7 by decide); have q2 := mf128 6 (by decide); omega
          refine xg_t (xg_const) ?_
          refine xg_t (xg_iadd (u := u176) (v := 1) (z := u176 + 1) xnm0 xnm0 (by omega)) ?_
          refine xg_iastK (n := 6) (u := u176 + 1) h85_174 xnm0 xnm0 rfl (by omega) (fun w180 hr181 hb182 => ?_)
          refine xg_t (xg_aload (va := (2, 82)) rfl rfl) ?_
          refine xg_t (xg_dup rfl) ?_
          refine xg_t (xg_getf (va := (0, f82_151)) (hb182.get (by decide) h82_163) rfl) ?_
          refine xg_t (xg_const) ?_
          refine xg_t (xg_iadd (u := f82_151) (v := 1) (z := f82_151 + 1) xnm0 xnm0 (by omega)) ?_
          refine xg_putI (fl1 := [(2, 83), (2, 84), (0, f82_133), (0, f82_135), (0, f82_137), (0, f82_139), (0, f82_141), (0, f82_143), (0, f82_145), (0, f82_147), (0, f82_149), (2, 85), (2, 86), (2, 87), (0, f82_151 + 1), (2, 88), (2, 89), (2, 90), (2, 91), (2, 92), (2, 93), (2, 94), (4, f82_153), (4, f82_154), (0, f82_155), (2, 95), (2, 96), (2, 97), (2, 98), (2, 99), (2, 100), (2, 101), (2, 102), (0, f82_157), (2, 103), (2, 104), (2, 105), (2, 106), (2, 107), (2, 108), (2, 109), (0, f82_159), (0, f82_161), (2, 110), (2, 111), (2, 112), (2, 113)]) (hb182.get (by decide) h82_163) rfl rfl rfl (fun w183 hk184 hb185 => ?_)
          have hF186 : xFr [82, 85] w113 w183 := ((xFr.of (S := [82, 85]) hb182 (by decide)).tr (xFr.of (S := [82, 85]) hb185 (by decide)))
          have hA187 := FA_fr hF186 (by decide)
          have hf188 : fld w183 82 4 = f82_137 := fld_of hk184
          have hf189 : fld w183 82 5 = f82_139 := fld_of hk184
          have hf190 : fld w183 82 7 = f82_143 := fld_of hk184
          have hf191 : fld w183 82 10 = f82_149 := fld_of hk184
          have hf192 : fld w183 82 14 = f82_151 + 1 := fld_of hk184
          have hu193 : mu w183 = 2 * (fld w183 82 4 - fld w183 82 5) + min 1 (fld w183 82 7) := rfl
          have pq194 := pk125
          unfold PK PS at pq194
          have hM195 : ∀ s, s < 7 → s ≠ 6 → rwv w183 85 s = rwv w 85 s := fun s hs hn => (rwv_of (hr181.but hb185 (by decide)) hs).trans ((if_neg hn).trans ((rwv_of h85_174 hs).symm.trans (mf128 s hs)))
          have hM196 : rwv w183 85 6 = u45 + 1 := (rwv_of (hr181.but hb185 (by decide)) (by decide)).trans ((if_pos rfl).trans (by omega))
          have hM197 : ∀ s, s < 7 → rwv w183 85 s ≤ rwv w 85 s + 1 := fun s hs => by
            by_cases z : s = 6
            · subst z; omega
            · rw [hM195 s hs z]; omega
          have hO198 : ∀ j, (j < 5 ∨ 7 ≤ j) → j < 140 → rwv w183 86 j = rwv w 86 j := fun j hj hl => (rwv_fr hF186 (by decide)).trans (os126 j hj hl)
          have hl200 : FA w113 ≠ 0 ∨ u45 < 1 := rg127
          have hl201 : rwv w183 86 (5) = rwv w113 86 (5) := rwv_fr hF186 (by decide)
          have hl202 : rwv w183 86 (6) = rwv w113 86 (6) := rwv_fr hF186 (by decide)
          have hN199 : FA w183 ≠ 0 ∨ 1 ≤ u45 ∨ (1 ≤ rwv w183 86 5 ∧ rwv w183 86 5 ≤ 6 ∧ 1 ≤ rwv w183 86 6 ∧ rwv w183 86 6 ≤ 6) := by have q := nw131; omega
          have hX203 : FA w183 ≠ 0 ∨ u45 < 1 := by omega
          have hD204 : FA w183 ≠ 0 ∨ (DATA w → DATA w183) := by
            by_cases z : FA w183 ≠ 0
            · exact Or.inl z
            · exact Or.inr (fun hd => hd.s6 hM195 hK48 hM196 (hX203.resolve_left z) hO198 ((hN199.resolve_left z).resolve_left (by have := hX203.resolve_left z; omega)))
          exact xg_e ⟨w183, ⟨rfl, rfl⟩, xMnv.up (S := [85, 82]) hI115 ((xFr.of (S := [85, 82]) hb182 (by decide)).tr (xFr.of (S := [85, 82]) hb185 (by decide))) (List.forall_mem_cons.mpr ⟨(show cpI 7 52 4294967295 (wget w183 85) from ⟨_, (hr181.but hb185 (by decide)), xrb (by omega) (hb175)⟩), List.forall_mem_cons.mpr ⟨(show cp82 (wget w183 82) from ⟨f82_133, f82_135, f82_137, f82_139, f82_141, f82_143, f82_145, f82_147, f82_149, f82_151 + 1, f82_153, f82_154, f82_155, f82_157, f82_159, f82_161, hk184, hb134, hb136, hb138, hb140, hb142, hb144, hb146, hb148, hb150, by omega, hb156, hb158, hb160, hb162, by omega⟩), fun _ h => absurd h List.not_mem_nil⟩⟩), ((hF71.tr (hF116.up (by decide))).tr ((xFr.of (S := [82, 83, 85, 86, 87]) hb182 (by decide)).tr (xFr.of (S := [82, 83, 85, 86, 87]) hb185 (by decide)))), ⟨fun h => by have := pq194.1 h; omega, (show fld w183 82 10 = 0 ∨ FA w183 ≠ 0 by omega), Or.inr ⟨by have := ms132; omega, by omega, hM197⟩, hD204, pk125.2.2.2.2.tr (K83.fr hF186 (by decide))⟩⟩
        · refine xg_t (xg_icT (u := f82_89) (v := 2) rfl xnm0 xnm0 (xj_neT hc112)) ?_
          refine xg_t (xg_blk (b := [(416, 1, 0, 0, 0, 0), (417, 3, 13, 140, 96, 183)]) rfl) ?_
          refine xg_t (xg_aload (va := (2, 82)) rfl rfl) ?_
          refine xg_cVv mX12_ends (vs := []) (rest := []) (cn1 := 0) (sl1 := 0) rfl (mEnds (hI70) hj73.2.2.2.1) rfl h82_109 rfl rfl rfl rfl rfl rfl (fun w205 hq206 => ?_)
          obtain ⟨hI207, hF208, hx209⟩ := hq206
          clear hb80 hb82 hb84 hb86 hb88 hb90 hb92 hb94 hb96 hb98 hb102 hb104 hb106 hb108
          obtain ⟨hv210, hv211, hv212, hv213, hv214⟩ := hx209
          have pk215 : PK w69 w205 := ⟨fun _ => hv210, by omega, by omega, Or.inr hv210, hv214⟩
          have pk216 : PK w w205 := PK.tr hj73 pk215
          have os217 : ∀ j, (j < 5 ∨ 7 ≤ j) → j < 140 → rwv w205 86 j = rwv w 86 j := fun j hj hl => (rwv_fr hF208 (by decide)).trans (hj74 j hj hl)
          have rg218 : FA w205 ≠ 0 ∨ u45 < 1 := hj77.imp_left pk215.1
          have mf219 : ∀ s, s < 7 → rwv w205 85 s = rwv w 85 s := fun s hs => (rwv_fr hF208 (by decide)).trans (hj76 s hs)
          have hl220 : rwv w205 86 (5) = rwv w69 86 (5) := rwv_fr hF208 (by decide)
          have hl221 : rwv w205 86 (6) = rwv w69 86 (6) := rwv_fr hF208 (by decide)
          have nw222 : FA w205 ≠ 0 ∨ 1 ≤ u45 ∨ (1 ≤ rwv w205 86 5 ∧ rwv w205 86 5 ≤ 6 ∧ 1 ≤ rwv w205 86 6 ∧ rwv w205 86 6 ≤ 6) := by have q := hj78; have q1 := pk215.1; omega
          clear hj78
          have ms223 : mu w205 < mu w := Nat.lt_of_le_of_lt pk215.2.1 hj75
          clear hj77
          refine xg_t (xg_blk (b := [(420, 1, 0, 0, 0, 0), (421, 3, 1, 12, 11, 17), (424, 1, 2, 1, 0, 0), (425, 1, 39, 0, 0, 0), (426, 1, 10, 0, 0, 0), (427, 1, 3, 1, 0, 0), (428, 1, 11, 0, 0, 0), (429, 1, 17, 0, 0, 0), (430, 1, 0, 0, 0, 0), (431, 1, 19, 0, 0, 0), (432, 3, 1, 12, 14, 212), (435, 1, 3, 1, 0, 0), (436, 1, 11, 0, 0, 0), (437, 3, 14, 12, 14, 212), (440, 1, 12, 0, 0, 0)]) rfl) ?_
          obtain ⟨f82_224, f82_226, f82_228, f82_230, f82_232, f82_234, f82_236, f82_238, f82_240, f82_242, f82_244, f82_245, f82_246, f82_248, f82_250, f82_252, h82_254, hb225, hb227, hb229, hb231, hb233, hb235, hb237, hb239, hb241, hb243, hb247, hb249, hb251, hb253, hb255⟩ := (hI207 82 (by decide) (by decide) : cp82 (wget w205 82))
          have hf256 : fld w205 82 4 = f82_228 := fld_of h82_254
          have hf257 : fld w205 82 5 = f82_230 := fld_of h82_254
          have hf258 : fld w205 82 7 = f82_234 := fld_of h82_254
          have hf259 : fld w205 82 10 = f82_240 := fld_of h82_254
          have hf260 : fld w205 82 14 = f82_242 := fld_of h82_254
          have hu261 : mu w205 = 2 * (fld w205 82 4 - fld w205 82 5) + min 1 (fld w205 82 7) := rfl
          have hf262 := pk216.2.2.1
          have hl263 : f82_242 ≤ 1000 := by omega
          refine xg_t (xg_aload (va := (2, 82)) rfl rfl) ?_
          refine xg_t (xg_getf (va := (2, 85)) h82_254 rfl) ?_
          refine xg_t (xg_iload (va := (0, 6)) rfl rfl) ?_
          refine xg_t (xg_dup2 rfl) ?_
          obtain ⟨g85_264, h85_265, hb266⟩ := (hI207 85 (by decide) (by decide) : cpI 7 52 4294967295 (wget w205 85))
          have h85_265 : xRow w205 85 7 52 g85_264 := h85_265
          refine xg_ialdB (n := 6) (B := 4294967295) h85_265 (hb266) xnm0 (by omega) (fun u267 hu268 he269 => ?_)
          have hl270 : u267 = u45 := by have q1 := rwv_of h85_265 (show 6 < 7 by decide); have q2 := mf219 6 (by decide); omega
          refine xg_t (xg_const) ?_
          refine xg_t (xg_iadd (u := u267) (v := 1) (z := u267 + 1) xnm0 xnm0 (by omega)) ?_
          refine xg_iastK (n := 6) (u := u267 + 1) h85_265 xnm0 xnm0 rfl (by omega) (fun w271 hr272 hb273 => ?_)
          refine xg_t (xg_aload (va := (2, 82)) rfl rfl) ?_
          refine xg_t (xg_dup rfl) ?_
          refine xg_t (xg_getf (va := (0, f82_242)) (hb273.get (by decide) h82_254) rfl) ?_
          refine xg_t (xg_const) ?_
          refine xg_t (xg_iadd (u := f82_242) (v := 1) (z := f82_242 + 1) xnm0 xnm0 (by omega)) ?_
          refine xg_putI (fl1 := [(2, 83), (2, 84), (0, f82_224), (0, f82_226), (0, f82_228), (0, f82_230), (0, f82_232), (0, f82_234), (0, f82_236), (0, f82_238), (0, f82_240), (2, 85), (2, 86), (2, 87), (0, f82_242 + 1), (2, 88), (2, 89), (2, 90), (2, 91), (2, 92), (2, 93), (2, 94), (4, f82_244), (4, f82_245), (0, f82_246), (2, 95), (2, 96), (2, 97), (2, 98), (2, 99), (2, 100), (2, 101), (2, 102), (0, f82_248), (2, 103), (2, 104), (2, 105), (2, 106), (2, 107), (2, 108), (2, 109), (0, f82_250), (0, f82_252), (2, 110), (2, 111), (2, 112), (2, 113)]) (hb273.get (by decide) h82_254) rfl rfl rfl (fun w274 hk275 hb276 => ?_)
          have hF277 : xFr [82, 85] w205 w274 := ((xFr.of (S := [82, 85]) hb273 (by decide)).tr (xFr.of (S := [82, 85]) hb276 (by decide)))
          have hA278 := FA_fr hF277 (by decide)
          have hf279 : fld w274 82 4 = f82_228 := fld_of hk275
          have hf280 : fld w274 82 5 = f82_230 := fld_of hk275
          have hf281 : fld w274 82 7 = f82_234 := fld_of hk275
          have hf282 : fld w274 82 10 = f82_240 := fld_of hk275
          have hf283 : fld w274 82 14 = f82_242 + 1 := fld_of hk275
          have hu284 : mu w274 = 2 * (fld w274 82 4 - fld w274 82 5) + min 1 (fld w274 82 7) := rfl
          have pq285 := pk216
          unfold PK PS at pq285
          have hM286 : ∀ s, s < 7 → s ≠ 6 → rwv w274 85 s = rwv w 85 s := fun s hs hn => (rwv_of (hr272.but hb276 (by decide)) hs).trans ((if_neg hn).trans ((rwv_of h85_265 hs).symm.trans (mf219 s hs)))
          have hM287 : rwv w274 85 6 = u45 + 1 := (rwv_of (hr272.but hb276 (by decide)) (by decide)).trans ((if_pos rfl).trans (by omega))
          have hM288 : ∀ s, s < 7 → rwv w274 85 s ≤ rwv w 85 s + 1 := fun s hs => by
            by_cases z : s = 6
            · subst z; omega
            · rw [hM286 s hs z]; omega
          have hO289 : ∀ j, (j < 5 ∨ 7 ≤ j) → j < 140 → rwv w274 86 j = rwv w 86 j := fun j hj hl => (rwv_fr hF277 (by decide)).trans (os217 j hj hl)
          have hl291 : FA w205 ≠ 0 ∨ u45 < 1 := rg218
          have hl292 : rwv w274 86 (5) = rwv w205 86 (5) := rwv_fr hF277 (by decide)
          have hl293 : rwv w274 86 (6) = rwv w205 86 (6) := rwv_fr hF277 (by decide)
          have hN290 : FA w274 ≠ 0 ∨ 1 ≤ u45 ∨ (1 ≤ rwv w274 86 5 ∧ rwv w274 86 5 ≤ 6 ∧ 1 ≤ rwv w274 86 6 ∧ rwv w274 86 6 ≤ 6) := by have q := nw222; omega
          have hX294 : FA w274 ≠ 0 ∨ u45 < 1 := by omega
          have hD295 : FA w274 ≠ 0 ∨ (DATA w → DATA w274) := by
            by_cases z : FA w274 ≠ 0
            · exact Or.inl z
            · exact Or.inr (fun hd => hd.s6 hM286 hK48 hM287 (hX294.resolve_left z) hO289 ((hN290.resolve_left z).resolve_left (by have := hX294.resolve_left z; omega)))
          exact xg_e ⟨w274, ⟨rfl, rfl⟩, xMnv.up (S := [85, 82]) hI207 ((xFr.of (S := [85, 82]) hb273 (by decide)).tr (xFr.of (S := [85, 82]) hb276 (by decide))) (List.forall_mem_cons.mpr ⟨(show cpI 7 52 4294967295 (wget w274 85) from ⟨_, (hr272.but hb276 (by decide)), xrb (by omega) (hb266)⟩), List.forall_mem_cons.mpr ⟨(show cp82 (wget w274 82) from ⟨f82_224, f82_226, f82_228, f82_230, f82_232, f82_234, f82_236, f82_238, f82_240, f82_242 + 1, f82_244, f82_245, f82_246, f82_248, f82_250, f82_252, hk275, hb225, hb227, hb229, hb231, hb233, hb235, hb237, hb239, hb241, by omega, hb247, hb249, hb251, hb253, by omega⟩), fun _ h => absurd h List.not_mem_nil⟩⟩), ((hF71.tr (hF208.up (by decide))).tr ((xFr.of (S := [82, 83, 85, 86, 87]) hb273 (by decide)).tr (xFr.of (S := [82, 83, 85, 86, 87]) hb276 (by decide)))), ⟨fun h => by have := pq285.1 h; omega, (show fld w274 82 10 = 0 ∨ FA w274 ≠ 0 by omega), Or.inr ⟨by have := ms223; omega, by omega, hM288⟩, hD295, pk216.2.2.2.2.tr (K83.fr hF277 (by decide))⟩⟩
      · refine xg_t (xg_ifT (u := f82_95) rfl xnm0 (xj_neT hc111)) ?_
        refine xg_t (xg_blk (b := [(416, 1, 0, 0, 0, 0), (417, 3, 13, 140, 96, 183)]) rfl) ?_
        refine xg_t (xg_aload (va := (2, 82)) rfl rfl) ?_
        refine xg_cVv mX12_ends (vs := []) (rest := []) (cn1 := 0) (sl1 := 0) rfl (mEnds (hI70) hj73.2.2.2.1) rfl h82_109 rfl rfl rfl rfl rfl rfl (fun w296 hq297 => ?_)
        obtain ⟨hI298, hF299, hx300⟩ := hq297
        clear hb80 hb82 hb84 hb86 hb88 hb90 hb92 hb94 hb96 hb98 hb102 hb104 hb106 hb108
        obtain ⟨hv301, hv302, hv303, hv304, hv305⟩ := hx300
        have pk306 : PK w69 w296 := ⟨fun _ => hv301, by omega, by omega, Or.inr hv301, hv305⟩
        have pk307 : PK w w296 := PK.tr hj73 pk306
        have os308 : ∀ j, (j < 5 ∨ 7 ≤ j) → j < 140 → rwv w296 86 j = rwv w 86 j := fun j hj hl => (rwv_fr hF299 (by decide)).trans (hj74 j hj hl)
        have rg309 : FA w296 ≠ 0 ∨ u45 < 1 := hj77.imp_left pk306.1
        have mf310 : ∀ s, s < 7 → rwv w296 85 s = rwv w 85 s := fun s hs => (rwv_fr hF299 (by decide)).trans (hj76 s hs)
        have hl311 : rwv w296 86 (5) = rwv w69 86 (5) := rwv_fr hF299 (by decide)
        have hl312 : rwv w296 86 (6) = rwv w69 86 (6) := rwv_fr hF299 (by decide)
        have nw313 : FA w296 ≠ 0 ∨ 1 ≤ u45 ∨ (1 ≤ rwv w296 86 5 ∧ rwv w296 86 5 ≤ 6 ∧ 1 ≤ rwv w296 86 6 ∧ rwv w296 86 6 ≤ 6) := by have q := hj78; have q1 := pk306.1; omega
        clear hj78
        have ms314 : mu w296 < mu w := Nat.lt_of_le_of_lt pk306.2.1 hj75
        clear hj77
        refine xg_t (xg_blk (b := [(420, 1, 0, 0, 0, 0), (421, 3, 1, 12, 11, 17), (424, 1, 2, 1, 0, 0), (425, 1, 39, 0, 0, 0), (426, 1, 10, 0, 0, 0), (427, 1, 3, 1, 0, 0), (428, 1, 11, 0, 0, 0), (429, 1, 17, 0, 0, 0), (430, 1, 0, 0, 0, 0), (431, 1, 19, 0, 0, 0), (432, 3, 1, 12, 14, 212), (435, 1, 3, 1, 0, 0), (436, 1, 11, 0, 0, 0), (437, 3, 14, 12, 14, 212), (440, 1, 12, 0, 0, 0)]) rfl) ?_
        obtain ⟨f82_315, f82_317, f82_319, f82_321, f82_323, f82_325, f82_327, f82_329, f82_331, f82_333, f82_335, f82_336, f82_337, f82_339, f82_341, f82_343, h82_345, hb316, hb318, hb320, hb322, hb324, hb326, hb328, hb330, hb332, hb334, hb338, hb340, hb342, hb344, hb346⟩ := (hI298 82 (by decide) (by decide) : cp82 (wget w296 82))
        have hf347 : fld w296 82 4 = f82_319 := fld_of h82_345
        have hf348 : fld w296 82 5 = f82_321 := fld_of h82_345
        have hf349 : fld w296 82 7 = f82_325 := fld_of h82_345
        have hf350 : fld w296 82 10 = f82_331 := fld_of h82_345
        have hf351 : fld w296 82 14 = f82_333 := fld_of h82_345
        have hu352 : mu w296 = 2 * (fld w296 82 4 - fld w296 82 5) + min 1 (fld w296 82 7) := rfl
        have hf353 := pk307.2.2.1
        have hl354 : f82_333 ≤ 1000 := by omega
        refine xg_t (xg_aload (va := (2, 82)) rfl rfl) ?_
        refine xg_t (xg_getf (va := (2, 85)) h82_345 rfl) ?_
        refine xg_t (xg_iload (va := (0, 6)) rfl rfl) ?_
        refine xg_t (xg_dup2 rfl) ?_
        obtain ⟨g85_355, h85_356, hb357⟩ := (hI298 85 (by decide) (by decide) : cpI 7 52 4294967295 (wget w296 85))
        have h85_356 : xRow w296 85 7 52 g85_355 := h85_356
        refine xg_ialdB (n := 6) (B := 4294967295) h85_356 (hb357) xnm0 (by omega) (fun u358 hu359 he360 => ?_)
        have hl361 : u358 = u45 := by have q1 := rwv_of h85_356 (show 6 < 7 by decide); have q2 := mf310 6 (by decide); omega
        refine xg_t (xg_const) ?_
        refine xg_t (xg_iadd (u := u358) (v := 1) (z := u358 + 1) xnm0 xnm0 (by omega)) ?_
        refine xg_iastK (n := 6) (u := u358 + 1) h85_356 xnm0 xnm0 rfl (by omega) (fun w362 hr363 hb364 => ?_)
        refine xg_t (xg_aload (va := (2, 82)) rfl rfl) ?_
        refine xg_t (xg_dup rfl) ?_
        refine xg_t (xg_getf (va := (0, f82_333)) (hb364.get (by decide) h82_345) rfl) ?_
        refine xg_t (xg_const) ?_
        refine xg_t (xg_iadd (u := f82_333) (v := 1) (z := f82_333 + 1) xnm0 xnm0 (by omega)) ?_
        refine xg_putI (fl1 := [(2, 83), (2, 84), (0, f82_315), (0, f82_317), (0, f82_319), (0, f82_321), (0, f82_323), (0, f82_325), (0, f82_327), (0, f82_329), (0, f82_331), (2, 85), (2, 86), (2, 87), (0, f82_333 + 1), (2, 88), (2, 89), (2, 90), (2, 91), (2, 92), (2, 93), (2, 94), (4, f82_335), (4, f82_336), (0, f82_337), (2, 95), (2, 96), (2, 97), (2, 98), (2, 99), (2, 100), (2, 101), (2, 102), (0, f82_339), (2, 103), (2, 104), (2, 105), (2, 106), (2, 107), (2, 108), (2, 109), (0, f82_341), (0, f82_343), (2, 110), (2, 111), (2, 112), (2, 113)]) (hb364.get (by decide) h82_345) rfl rfl rfl (fun w365 hk366 hb367 => ?_)
        have hF368 : xFr [82, 85] w296 w365 := ((xFr.of (S := [82, 85]) hb364 (by decide)).tr (xFr.of (S := [82, 85]) hb367 (by decide)))
        have hA369 := FA_fr hF368 (by decide)
        have hf370 : fld w365 82 4 = f82_319 := fld_of hk366
        have hf371 : fld w365 82 5 = f82_321 := fld_of hk366
        have hf372 : fld w365 82 7 = f82_325 := fld_of hk366
        have hf373 : fld w365 82 10 = f82_331 := fld_of hk366
        have hf374 : fld w365 82 14 = f82_333 + 1 := fld_of hk366
        have hu375 : mu w365 = 2 * (fld w365 82 4 - fld w365 82 5) + min 1 (fld w365 82 7) := rfl
        have pq376 := pk307
        unfold PK PS at pq376
        have hM377 : ∀ s, s < 7 → s ≠ 6 → rwv w365 85 s = rwv w 85 s := fun s hs hn => (rwv_of (hr363.but hb367 (by decide)) hs).trans ((if_neg hn).trans ((rwv_of h85_356 hs).symm.trans (mf310 s hs)))
        have hM378 : rwv w365 85 6 = u45 + 1 := (rwv_of (hr363.but hb367 (by decide)) (by decide)).trans ((if_pos rfl).trans (by omega))
        have hM379 : ∀ s, s < 7 → rwv w365 85 s ≤ rwv w 85 s + 1 := fun s hs => by
          by_cases z : s = 6
          · subst z; omega
          · rw [hM377 s hs z]; omega
        have hO380 : ∀ j, (j < 5 ∨ 7 ≤ j) → j < 140 → rwv w365 86 j = rwv w 86 j := fun j hj hl => (rwv_fr hF368 (by decide)).trans (os308 j hj hl)
        have hl382 : FA w296 ≠ 0 ∨ u45 < 1 := rg309
        have hl383 : rwv w365 86 (5) = rwv w296 86 (5) := rwv_fr hF368 (by decide)
        have hl384 : rwv w365 86 (6) = rwv w296 86 (6) := rwv_fr hF368 (by decide)
        have hN381 : FA w365 ≠ 0 ∨ 1 ≤ u45 ∨ (1 ≤ rwv w365 86 5 ∧ rwv w365 86 5 ≤ 6 ∧ 1 ≤ rwv w365 86 6 ∧ rwv w365 86 6 ≤ 6) := by have q := nw313; omega
        have hX385 : FA w365 ≠ 0 ∨ u45 < 1 := by omega
        have hD386 : FA w365 ≠ 0 ∨ (DATA w → DATA w365) := by
          by_cases z : FA w365 ≠ 0
          · exact Or.inl z
          · exact Or.inr (fun hd => hd.s6 hM377 hK48 hM378 (hX385.resolve_left z) hO380 ((hN381.resolve_left z).resolve_left (by have := hX385.resolve_left z; omega)))
        exact xg_e ⟨w365, ⟨rfl, rfl⟩, xMnv.up (S := [85, 82]) hI298 ((xFr.of (S := [85, 82]) hb364 (by decide)).tr (xFr.of (S := [85, 82]) hb367 (by decide))) (List.forall_mem_cons.mpr ⟨(show cpI 7 52 4294967295 (wget w365 85) from ⟨_, (hr363.but hb367 (by decide)), xrb (by omega) (hb357)⟩), List.forall_mem_cons.mpr ⟨(show cp82 (wget w365 82) from ⟨f82_315, f82_317, f82_319, f82_321, f82_323, f82_325, f82_327, f82_329, f82_331, f82_333 + 1, f82_335, f82_336, f82_337, f82_339, f82_341, f82_343, hk366, hb316, hb318, hb320, hb322, hb324, hb326, hb328, hb330, hb332, by omega, hb338, hb340, hb342, hb344, by omega⟩), fun _ h => absurd h List.not_mem_nil⟩⟩), ((hF71.tr (hF299.up (by decide))).tr ((xFr.of (S := [82, 83, 85, 86, 87]) hb364 (by decide)).tr (xFr.of (S := [82, 83, 85, 86, 87]) hb367 (by decide)))), ⟨fun h => by have := pq376.1 h; omega, (show fld w365 82 10 = 0 ∨ FA w365 ≠ 0 by omega), Or.inr ⟨by have := ms314; omega, by omega, hM379⟩, hD386, pk307.2.2.2.2.tr (K83.fr hF368 (by decide))⟩⟩
    refine xg_t (xg_iload (va := (0, 6)) rfl rfl) ?_
    refine xg_t (xg_swt (ks := [(0, 108), (1, 116), (2, 180), (3, 221), (4, 273), (5, 326)]) (u := 6) (z := 362) rfl rfl rfl xnm0 (xsw_n (by omega) (xsw_n (by omega) (xsw_n (by omega) (xsw_n (by omega) (xsw_n (by omega) (xsw_n (by omega) (xsw_d)))))))) ?_
    refine xg_t (xg_blk (b := [(362, 1, 3, 0, 0, 0), (363, 2, 15, 4, 0, 0)]) rfl) ?_
    refine xg_t (xg_const) ?_
    refine xg_t (xg_istore (l1 := [(3, (0, u45)), (2, (0, at_)), (1, (0, 6)), (0, (2, 82))]) rfl rfl rfl) ?_
    refine xg_t (xg_blk (b := [(365, 2, 2, 4, 0, 0), (367, 1, 3, 2, 0, 0), (368, 3, 6, 394, 3, 0), (371, 1, 0, 0, 0, 0), (372, 1, 2, 1, 0, 0), (373, 1, 2, 3, 0, 0), (374, 1, 3, 5, 0, 0), (375, 2, 2, 4, 0, 0), (377, 1, 11, 0, 0, 0), (378, 1, 0, 0, 0, 0), (379, 1, 3, 1, 0, 0), (380, 2, 4, 6, 0, 0), (382, 3, 13, 199, 96, 196), (385, 3, 13, 211, 96, 200), (388, 3, 9, 4, 1, 0), (391, 3, 8, 365, 0, 0)]) rfl) ?_
    refine xg_t (xg_iload (va := (0, 0)) rfl rfl) ?_
    refine xg_t (xg_const) ?_
    refine xg_t (xg_icF (u := 0) (v := 2) rfl xnm0 xnm0 (by decide)) ?_
    refine xg_t (xg_aload (va := (2, 82)) rfl rfl) ?_
    refine xg_t (xg_iload (va := (0, 6)) rfl rfl) ?_
    refine xg_t (xg_iload (va := (0, u45)) rfl rfl) ?_
    refine xg_t (xg_const) ?_
    refine xg_t (xg_iload (va := (0, 0)) rfl rfl) ?_
    refine xg_t (xg_iadd (u := 5) (v := 0) (z := 5) xnm0 xnm0 (by decide)) ?_
    refine xg_t (xg_aload (va := (2, 82)) rfl rfl) ?_
    refine xg_t (xg_const) ?_
    refine xg_t (xg_bip) ?_
    obtain ⟨f82_387, f82_389, f82_391, f82_393, f82_395, f82_397, f82_399, f82_401, f82_403, f82_405, f82_407, f82_408, f82_409, f82_411, f82_413, f82_415, h82_417, hb388, hb390, hb392, hb394, hb396, hb398, hb400, hb402, hb404, hb406, hb410, hb412, hb414, hb416, hb418⟩ := (hI54 82 (by decide) (by decide) : cp82 (wget w52 82))
    refine xg_cVi mX12_numbered (vs := [(0, 1), (0, 6)]) (rest := [(0, 5), (0, u45), (0, 6), (2, 82)]) (cn1 := 0) (sl1 := 0) rfl (mNumbered (hI54) (by omega) (by omega) pk64.2.2.2.1) rfl h82_417 rfl rfl rfl rfl rfl rfl (fun n423 w419 hq420 => ?_)
    obtain ⟨hn424, hI421, hF422⟩ := hq420
    clear hb388 hb390 hb392 hb394 hb396 hb398 hb400 hb402 hb404 hb406 hb410 hb412 hb414 hb416
    obtain ⟨hn425, hn426, hn427⟩ := hn424
    have pk428 : PK w w419 := PK.tr pk64 hn426
    have os429 : ∀ j, (j < 5 ∨ 7 ≤ j) → j < 140 → rwv w419 86 j = rwv w 86 j := fun j hj hl => (rwv_fr hF422 (by decide)).trans (os65 j hj hl)
    have mf430 : ∀ s, s < 7 → rwv w419 85 s = rwv w 85 s := fun s hs => (rwv_fr hF422 (by decide)).trans (mf66 s hs)
    have ms431 : mu w419 < mu w := Nat.lt_of_le_of_lt hn426.2.1 ms67
    obtain ⟨f82_432, f82_434, f82_436, f82_438, f82_440, f82_442, f82_444, f82_446, f82_448, f82_450, f82_452, f82_453, f82_454, f82_456, f82_458, f82_460, h82_462, hb433, hb435, hb437, hb439, hb441, hb443, hb445, hb447, hb449, hb451, hb455, hb457, hb459, hb461, hb463⟩ := (hI421 82 (by decide) (by decide) : cp82 (wget w419 82))
    refine xg_cVv mX12_puts (vs := [(0, 6), (0, u45), (0, 5), (0, n423)]) (rest := []) (cn1 := 0) (sl1 := 0) rfl (mPuts6 (hI421) (by omega) (by omega) (by omega) (fun _ => by omega)) rfl h82_462 rfl rfl rfl rfl rfl rfl (fun w464 hq465 => ?_)
    obtain ⟨hI466, hF467, hx468⟩ := hq465
    obtain ⟨hp469, hp470⟩ := hx468
    have pk471 : PK w w464 := PK.tr pk428 (PK.fr hF467 (by decide) (by decide) pk428.2.2.2.1)
    have os472 : ∀ j, (j < 5 ∨ 7 ≤ j) → j < 140 → rwv w464 86 j = rwv w 86 j := fun j hj hl => (hp470 j (by omega) hl).trans (os429 j hj hl)
    have rg473 : FA w464 ≠ 0 ∨ (1 ≤ n423 ∧ n423 ≤ 6) := hn427.imp_left (PK.fr hF467 (by decide) (by decide) pk428.2.2.2.1).1
    have mf474 : ∀ s, s < 7 → rwv w464 85 s = rwv w 85 s := fun s hs => (rwv_fr hF467 (by decide)).trans (mf430 s hs)
    have ms475 : mu w464 < mu w := Nat.lt_of_le_of_lt (PK.fr hF467 (by decide) (by decide) pk428.2.2.2.1).2.1 ms431
    clear hn427
    refine xg_t (xg_iinc (u := 0) (z := 1) (l1 := [(3, (0, u45)), (2, (0, at_)), (1, (0, 6)), (0, (2, 82))]) rfl rfl (by decide) rfl) ?_
    refine xg_t (xg_goto) ?_
    refine xg_t (xg_blk (b := [(365, 2, 2, 4, 0, 0), (367, 1, 3, 2, 0, 0), (368, 3, 6, 394, 3, 0), (371, 1, 0, 0, 0, 0), (372, 1, 2, 1, 0, 0), (373, 1, 2, 3, 0, 0), (374, 1, 3, 5, 0, 0), (375, 2, 2, 4, 0, 0), (377, 1, 11, 0, 0, 0), (378, 1, 0, 0, 0, 0), (379, 1, 3, 1, 0, 0), (380, 2, 4, 6, 0, 0), (382, 3, 13, 199, 96, 196), (385, 3, 13, 211, 96, 200), (388, 3, 9, 4, 1, 0), (391, 3, 8, 365, 0, 0)]) rfl) ?_
    refine xg_t (xg_iload (va := (0, 1)) rfl rfl) ?_
    refine xg_t (xg_const) ?_
    refine xg_t (xg_icF (u := 1) (v := 2) rfl xnm0 xnm0 (by decide)) ?_
    refine xg_t (xg_aload (va := (2, 82)) rfl rfl) ?_
    refine xg_t (xg_iload (va := (0, 6)) rfl rfl) ?_
    refine xg_t (xg_iload (va := (0, u45)) rfl rfl) ?_
    refine xg_t (xg_const) ?_
    refine xg_t (xg_iload (va := (0, 1)) rfl rfl) ?_
    refine xg_t (xg_iadd (u := 5) (v := 1) (z := 6) xnm0 xnm0 (by decide)) ?_
    refine xg_t (xg_aload (va := (2, 82)) rfl rfl) ?_
    refine xg_t (xg_const) ?_
    refine xg_t (xg_bip) ?_
    refine xg_cVi mX12_numbered (vs := [(0, 1), (0, 6)]) (rest := [(0, 6), (0, u45), (0, 6), (2, 82)]) (cn1 := 0) (sl1 := 0) rfl (mNumbered (hI466) (by omega) (by omega) pk471.2.2.2.1) rfl (hF467.get (by decide) h82_462) rfl rfl rfl rfl rfl rfl (fun n480 w476 hq477 => ?_)
    obtain ⟨hn481, hI478, hF479⟩ := hq477
    clear hb433 hb435 hb437 hb439 hb441 hb443 hb445 hb447 hb449 hb451 hb455 hb457 hb459 hb461
    obtain ⟨hn482, hn483, hn484⟩ := hn481
    have pk485 : PK w w476 := PK.tr pk471 hn483
    have os486 : ∀ j, (j < 5 ∨ 7 ≤ j) → j < 140 → rwv w476 86 j = rwv w 86 j := fun j hj hl => (rwv_fr hF479 (by decide)).trans (os472 j hj hl)
    have ix487 : u45 < 1 → rwv w476 86 (5) = n423 := fun h => (rwv_fr hF479 (by decide)).trans (hp469 h)
    have rg488 : FA w476 ≠ 0 ∨ (1 ≤ n423 ∧ n423 ≤ 6) := rg473.imp_left hn483.1
    have mf489 : ∀ s, s < 7 → rwv w476 85 s = rwv w 85 s := fun s hs => (rwv_fr hF479 (by decide)).trans (mf474 s hs)
    have ms490 : mu w476 < mu w := Nat.lt_of_le_of_lt hn483.2.1 ms475
    clear hp469 rg473
    obtain ⟨f82_491, f82_493, f82_495, f82_497, f82_499, f82_501, f82_503, f82_505, f82_507, f82_509, f82_511, f82_512, f82_513, f82_515, f82_517, f82_519, h82_521, hb492, hb494, hb496, hb498, hb500, hb502, hb504, hb506, hb508, hb510, hb514, hb516, hb518, hb520, hb522⟩ := (hI478 82 (by decide) (by decide) : cp82 (wget w476 82))
    refine xg_cVv mX12_puts (vs := [(0, 6), (0, u45), (0, 6), (0, n480)]) (rest := []) (cn1 := 0) (sl1 := 0) rfl (mPuts6 (hI478) (by omega) (by omega) (by omega) (fun _ => by omega)) rfl h82_521 rfl rfl rfl rfl rfl rfl (fun w523 hq524 => ?_)
    obtain ⟨hI525, hF526, hx527⟩ := hq524
    obtain ⟨hp528, hp529⟩ := hx527
    have pk530 : PK w w523 := PK.tr pk485 (PK.fr hF526 (by decide) (by decide) pk485.2.2.2.1)
    have os531 : ∀ j, (j < 5 ∨ 7 ≤ j) → j < 140 → rwv w523 86 j = rwv w 86 j := fun j hj hl => (hp529 j (by omega) hl).trans (os486 j hj hl)
    have ix532 : u45 < 1 → rwv w523 86 (5) = n423 := fun h => (hp529 _ (by omega) (by omega)).trans (ix487 h)
    have rg533 : FA w523 ≠ 0 ∨ (1 ≤ n423 ∧ n423 ≤ 6) := rg488.imp_left (PK.fr hF526 (by decide) (by decide) pk485.2.2.2.1).1
    have rg534 : FA w523 ≠ 0 ∨ (1 ≤ n480 ∧ n480 ≤ 6) := hn484.imp_left (PK.fr hF526 (by decide) (by decide) pk485.2.2.2.1).1
    have mf535 : ∀ s, s < 7 → rwv w523 85 s = rwv w 85 s := fun s hs => (rwv_fr hF526 (by decide)).trans (mf489 s hs)
    have ms536 : mu w523 < mu w := Nat.lt_of_le_of_lt (PK.fr hF526 (by decide) (by decide) pk485.2.2.2.1).2.1 ms490
    clear ix487 rg488 hn484
    refine xg_t (xg_iinc (u := 1) (z := 2) (l1 := [(3, (0, u45)), (2, (0, at_)), (1, (0, 6)), (0, (2, 82))]) rfl rfl (by decide) rfl) ?_
    refine xg_t (xg_goto) ?_
    refine xg_t (xg_blk (b := [(365, 2, 2, 4, 0, 0), (367, 1, 3, 2, 0, 0), (368, 3, 6, 394, 3, 0), (371, 1, 0, 0, 0, 0), (372, 1, 2, 1, 0, 0), (373, 1, 2, 3, 0, 0), (374, 1, 3, 5, 0, 0), (375, 2, 2, 4, 0, 0), (377, 1, 11, 0, 0, 0), (378, 1, 0, 0, 0, 0), (379, 1, 3, 1, 0, 0), (380, 2, 4, 6, 0, 0), (382, 3, 13, 199, 96, 196), (385, 3, 13, 211, 96, 200), (388, 3, 9, 4, 1, 0), (391, 3, 8, 365, 0, 0)]) rfl) ?_
    refine xg_t (xg_iload (va := (0, 2)) rfl rfl) ?_
    refine xg_t (xg_const) ?_
    refine xg_t (xg_icT (u := 2) (v := 2) rfl xnm0 xnm0 (by decide)) ?_
    refine xg_t (xg_drop (l1 := [(0, (2, 82)), (1, (0, 6)), (3, (0, u45))]) (List.forall_mem_cons.mpr ⟨List.mem_cons_of_mem _ (List.mem_cons_of_mem _ (List.mem_cons_of_mem _ (List.mem_cons_of_mem _ (List.mem_cons_self)))), List.forall_mem_cons.mpr ⟨List.mem_cons_of_mem _ (List.mem_cons_of_mem _ (List.mem_cons_of_mem _ (List.mem_cons_self))), List.forall_mem_cons.mpr ⟨List.mem_cons_of_mem _ (List.mem_cons_self), fun _ h => absurd h List.not_mem_nil⟩⟩⟩)) ?_
    have hX537 : FA w523 ≠ 0 ∨ u45 < 1 := Or.inr (by omega)
    have hN538 : FA w523 ≠ 0 ∨ 1 ≤ u45 ∨ (1 ≤ rwv w523 86 5 ∧ rwv w523 86 5 ≤ 6 ∧ 1 ≤ rwv w523 86 6 ∧ rwv w523 86 6 ≤ 6) := by
      have hl539 : u45 < 1 → rwv w523 86 (5) = n423 := ix532
      have hl540 : u45 < 1 → rwv w523 86 (6) = n480 := hp528
      have hl541 := rg533
      have hl542 := rg534
      omega
    exact jn68 w523 (hI525) ((((((hF55.up (by decide)).tr (hF422.up (by decide))).tr (hF467.up (by decide))).tr (hF479.up (by decide))).tr (hF526.up (by decide)))) (⟨pk530, os531, ms536, mf535, hX537, hN538⟩)
  · refine xg_t (xg_icF (u := u45) (v := 1) rfl xnm0 xnm0 (xj_ltF (by omega) (by omega))) ?_
    refine xg_t (xg_aload (va := (2, 82)) rfl rfl) ?_
    refine xg_t (xg_const) ?_
    refine xg_t (xg_iload (va := (0, at_)) rfl rfl) ?_
    refine xg_cVv mX12_also (vs := [(0, 3), (0, at_)]) (rest := []) (cn1 := 0) (sl1 := 0) rfl (mAlso (hI) (by omega) (by omega) (by omega) (PK.rf hps).2.2.2.1) rfl h82_31 rfl rfl rfl rfl rfl rfl (fun w543 hq544 => ?_)
    obtain ⟨hI545, hF546, hx547⟩ := hq544
    obtain ⟨hv549, hv550⟩ := hx547
    have pk548 : PK w w543 := ⟨fun _ => hv549, Nat.le_of_eq (mu_fr hF546 (by decide)), fld_fr hF546 (by decide), Or.inr hv549, hv550⟩
    have pk551 : PK w w543 := PK.tr (PK.rf hps) pk548
    have os552 : ∀ j, (j < 5 ∨ 7 ≤ j) → j < 140 → rwv w543 86 j = rwv w 86 j := fun j hj hl => (rwv_fr hF546 (by decide)).trans ((fun j _ _ => rfl) j hj hl)
    have mf553 : ∀ s, s < 7 → rwv w543 85 s = rwv w 85 s := fun s hs => (rwv_fr hF546 (by decide)).trans ((fun _ _ => rfl) s hs)
    have hf554 := fld_fr (c := 82) (j := 7) hF546 (by decide)
    refine xg_t (xg_blk (b := [(64, 1, 0, 0, 0, 0), (65, 3, 13, 110, 96, 190), (68, 1, 2, 1, 0, 0), (69, 39, 33, 362, 0, 9)]) rfl) ?_
    refine xg_t (xg_aload (va := (2, 82)) rfl rfl) ?_
    refine xg_cVv mX12_advance (vs := []) (rest := []) (cn1 := 0) (sl1 := 0) rfl (mAdvance (hI545)) rfl (hF546.get (by decide) h82_31) rfl rfl rfl rfl rfl rfl (fun w555 hq556 => ?_)
    obtain ⟨hI557, hF558, hx559⟩ := hq556
    clear hb2 hb4 hb6 hb8 hb10 hb12 hb14 hb16 hb18 hb20 hb24 hb26 hb28 hb30
    obtain ⟨hv560, hv561, hv562, hv563⟩ := hx559
    have hf565 := FA_fr hF558 (by decide)
    have hs566 := pk551.2.2.2.1
    unfold PS at hs566
    have pk564 : PK w543 w555 := ⟨fun _ => by omega, hv560, hv563, (show fld w555 82 10 = 0 ∨ FA w555 ≠ 0 by omega), K83.fr hF558 (by decide)⟩
    clear hs566
    have pk567 : PK w w555 := PK.tr pk551 pk564
    have os568 : ∀ j, (j < 5 ∨ 7 ≤ j) → j < 140 → rwv w555 86 j = rwv w 86 j := fun j hj hl => (rwv_fr hF558 (by decide)).trans (os552 j hj hl)
    have rg569 : FA w555 ≠ 0 ∨ 0 = 1 := (Or.inl hv549 : FA w543 ≠ 0 ∨ 0 = 1).imp_left pk564.1
    have mf570 : ∀ s, s < 7 → rwv w555 85 s = rwv w 85 s := fun s hs => (rwv_fr hF558 (by decide)).trans (mf553 s hs)
    have ms571 : mu w555 < mu w := Nat.lt_of_lt_of_le (hv561 (by omega)) pk551.2.1
    clear hv561
    have jn572 : ∀ (w573 : List (List xE)), xMnv w573 → xFr [82, 83, 85, 86, 87] w w573 → (PK w w573 ∧ (∀ j, (j < 5 ∨ 7 ≤ j) → j < 140 → rwv w573 86 j = rwv w 86 j) ∧ mu w573 < mu w ∧ (∀ s, s < 7 → rwv w573 85 s = rwv w 85 s) ∧ (FA w573 ≠ 0 ∨ u45 < 1) ∧ (FA w573 ≠ 0 ∨ 1 ≤ u45 ∨ (1 ≤ rwv w573 86 5 ∧ rwv w573 86 5 ≤ 6 ∧ 1 ≤ rwv w573 86 6 ∧ rwv w573 86 6 ≤ 6))) → xTo (d + 7) mX12_aLine (394, [], [(0, (2, 82)), (1, (0, 6)), (3, (0, u45))], [], (w573, bd, fc, 0, 0, rr)) (fun φ => ∃ w', xEnd 0 [] (w', bd, fc, 0, 0, rr) φ ∧ xMnv w' ∧ xFr [82, 83, 85, 86, 87] w w' ∧ ((FA w ≠ 0 → FA w' ≠ 0) ∧ PS w' ∧ ((fld w' 82 10 = 1 ∧ mu w' = mu w ∧ fld w' 82 14 = fld w 82 14 ∧ ∀ s, s < 7 → rwv w' 85 s = rwv w 85 s) ∨ (mu w' < mu w ∧ fld w' 82 14 = fld w 82 14 + 1 ∧ ∀ s, s < 7 → rwv w' 85 s ≤ rwv w 85 s + 1)) ∧ (FA w' ≠ 0 ∨ (DATA w → DATA w')) ∧ K83 w w')) := by
      intro w573 hI574 hF575 he576
      obtain ⟨hj577, hj578, hj579, hj580, hj581, hj582⟩ := he576
      refine xg_t (xg_blk (b := [(394, 1, 0, 0, 0, 0), (395, 3, 1, 12, 10, 180), (398, 3, 7, 416, 1, 0), (401, 1, 0, 0, 0, 0), (402, 3, 1, 12, 7, 151), (405, 1, 3, 2, 0, 0), (406, 3, 6, 416, 1, 0), (409, 1, 0, 0, 0, 0), (410, 3, 13, 110, 96, 190), (413, 3, 8, 420, 0, 0)]) rfl) ?_
      refine xg_t (xg_aload (va := (2, 82)) rfl rfl) ?_
      obtain ⟨f82_583, f82_585, f82_587, f82_589, f82_591, f82_593, f82_595, f82_597, f82_599, f82_601, f82_603, f82_604, f82_605, f82_607, f82_609, f82_611, h82_613, hb584, hb586, hb588, hb590, hb592, hb594, hb596, hb598, hb600, hb602, hb606, hb608, hb610, hb612, hb614⟩ := (hI574 82 (by decide) (by decide) : cp82 (wget w573 82))
      refine xg_t (xg_getf (va := (0, f82_599)) h82_613 rfl) ?_
      by_cases hc615 : f82_599 = 0
      · refine xg_t (xg_ifF (u := f82_599) rfl xnm0 (xj_neF hc615)) ?_
        refine xg_t (xg_aload (va := (2, 82)) rfl rfl) ?_
        refine xg_t (xg_getf (va := (0, f82_593)) h82_613 rfl) ?_
        refine xg_t (xg_const) ?_
        by_cases hc616 : f82_593 = 2
        · refine xg_t (xg_icF (u := f82_593) (v := 2) rfl xnm0 xnm0 (xj_neF hc616)) ?_
          refine xg_t (xg_aload (va := (2, 82)) rfl rfl) ?_
          refine xg_cVv mX12_advance (vs := []) (rest := []) (cn1 := 0) (sl1 := 0) rfl (mAdvance (hI574)) rfl h82_613 rfl rfl rfl rfl rfl rfl (fun w617 hq618 => ?_)
          obtain ⟨hI619, hF620, hx621⟩ := hq618
          clear hb584 hb586 hb588 hb590 hb592 hb594 hb596 hb598 hb600 hb602 hb606 hb608 hb610 hb612
          obtain ⟨hv622, hv623, hv624, hv625⟩ := hx621
          have hf627 := FA_fr hF620 (by decide)
          have hs628 := hj577.2.2.2.1
          unfold PS at hs628
          have pk626 : PK w573 w617 := ⟨fun _ => by omega, hv622, hv625, (show fld w617 82 10 = 0 ∨ FA w617 ≠ 0 by omega), K83.fr hF620 (by decide)⟩
          clear hs628
          clear hv623
          have pk629 : PK w w617 := PK.tr hj577 pk626
          have os630 : ∀ j, (j < 5 ∨ 7 ≤ j) → j < 140 → rwv w617 86 j = rwv w 86 j := fun j hj hl => (rwv_fr hF620 (by decide)).trans (hj578 j hj hl)
          have rg631 : FA w617 ≠ 0 ∨ u45 < 1 := hj581.imp_left pk626.1
          have mf632 : ∀ s, s < 7 → rwv w617 85 s = rwv w 85 s := fun s hs => (rwv_fr hF620 (by decide)).trans (hj580 s hs)
          have hl633 : rwv w617 86 (5) = rwv w573 86 (5) := rwv_fr hF620 (by decide)
          have hl634 : rwv w617 86 (6) = rwv w573 86 (6) := rwv_fr hF620 (by decide)
          have nw635 : FA w617 ≠ 0 ∨ 1 ≤ u45 ∨ (1 ≤ rwv w617 86 5 ∧ rwv w617 86 5 ≤ 6 ∧ 1 ≤ rwv w617 86 6 ∧ rwv w617 86 6 ≤ 6) := by have q := hj582; have q1 := pk626.1; omega
          clear hj582
          have ms636 : mu w617 < mu w := Nat.lt_of_le_of_lt pk626.2.1 hj579
          clear hj581
          refine xg_t (xg_goto) ?_
          refine xg_t (xg_blk (b := [(420, 1, 0, 0, 0, 0), (421, 3, 1, 12, 11, 17), (424, 1, 2, 1, 0, 0), (425, 1, 39, 0, 0, 0), (426, 1, 10, 0, 0, 0), (427, 1, 3, 1, 0, 0), (428, 1, 11, 0, 0, 0), (429, 1, 17, 0, 0, 0), (430, 1, 0, 0, 0, 0), (431, 1, 19, 0, 0, 0), (432, 3, 1, 12, 14, 212), (435, 1, 3, 1, 0, 0), (436, 1, 11, 0, 0, 0), (437, 3, 14, 12, 14, 212), (440, 1, 12, 0, 0, 0)]) rfl) ?_
          obtain ⟨f82_637, f82_639, f82_641, f82_643, f82_645, f82_647, f82_649, f82_651, f82_653, f82_655, f82_657, f82_658, f82_659, f82_661, f82_663, f82_665, h82_667, hb638, hb640, hb642, hb644, hb646, hb648, hb650, hb652, hb654, hb656, hb660, hb662, hb664, hb666, hb668⟩ := (hI619 82 (by decide) (by decide) : cp82 (wget w617 82))
          have hf669 : fld w617 82 4 = f82_641 := fld_of h82_667
          have hf670 : fld w617 82 5 = f82_643 := fld_of h82_667
          have hf671 : fld w617 82 7 = f82_647 := fld_of h82_667
          have hf672 : fld w617 82 10 = f82_653 := fld_of h82_667
          have hf673 : fld w617 82 14 = f82_655 := fld_of h82_667
          have hu674 : mu w617 = 2 * (fld w617 82 4 - fld w617 82 5) + min 1 (fld w617 82 7) := rfl
          have hf675 := pk629.2.2.1
          have hl676 : f82_655 ≤ 1000 := by omega
          refine xg_t (xg_aload (va := (2, 82)) rfl rfl) ?_
          refine xg_t (xg_getf (va := (2, 85)) h82_667 rfl) ?_
          refine xg_t (xg_iload (va := (0, 6)) rfl rfl) ?_
          refine xg_t (xg_dup2 rfl) ?_
          obtain ⟨g85_677, h85_678, hb679⟩ := (hI619 85 (by decide) (by decide) : cpI 7 52 4294967295 (wget w617 85))
          have h85_678 : xRow w617 85 7 52 g85_677 := h85_678
          refine xg_ialdB (n := 6) (B := 4294967295) h85_678 (hb679) xnm0 (by omega) (fun u680 hu681 he682 => ?_)
          have hl683 : u680 = u45 := by have q1 := rwv_of h85_678 (show 6 < 7 by decide); have q2 := mf632 6 (by decide); omega
          refine xg_t (xg_const) ?_
          refine xg_t (xg_iadd (u := u680) (v := 1) (z := u680 + 1) xnm0 xnm0 (by omega)) ?_
          refine xg_iastK (n := 6) (u := u680 + 1) h85_678 xnm0 xnm0 rfl (by omega) (fun w684 hr685 hb686 => ?_)
          refine xg_t (xg_aload (va := (2, 82)) rfl rfl) ?_
          refine xg_t (xg_dup rfl) ?_
          refine xg_t (xg_getf (va := (0, f82_655)) (hb686.get (by decide) h82_667) rfl) ?_
          refine xg_t (xg_const) ?_
          refine xg_t (xg_iadd (u := f82_655) (v := 1) (z := f82_655 + 1) xnm0 xnm0 (by omega)) ?_
          refine xg_putI (fl1 := [(2, 83), (2, 84), (0, f82_637), (0, f82_639), (0, f82_641), (0, f82_643), (0, f82_645), (0, f82_647), (0, f82_649), (0, f82_651), (0, f82_653), (2, 85), (2, 86), (2, 87), (0, f82_655 + 1), (2, 88), (2, 89), (2, 90), (2, 91), (2, 92), (2, 93), (2, 94), (4, f82_657), (4, f82_658), (0, f82_659), (2, 95), (2, 96), (2, 97), (2, 98), (2, 99), (2, 100), (2, 101), (2, 102), (0, f82_661), (2, 103), (2, 104), (2, 105), (2, 106), (2, 107), (2, 108), (2, 109), (0, f82_663), (0, f82_665), (2, 110), (2, 111), (2, 112), (2, 113)]) (hb686.get (by decide) h82_667) rfl rfl rfl (fun w687 hk688 hb689 => ?_)
          have hF690 : xFr [82, 85] w617 w687 := ((xFr.of (S := [82, 85]) hb686 (by decide)).tr (xFr.of (S := [82, 85]) hb689 (by decide)))
          have hA691 := FA_fr hF690 (by decide)
          have hf692 : fld w687 82 4 = f82_641 := fld_of hk688
          have hf693 : fld w687 82 5 = f82_643 := fld_of hk688
          have hf694 : fld w687 82 7 = f82_647 := fld_of hk688
          have hf695 : fld w687 82 10 = f82_653 := fld_of hk688
          have hf696 : fld w687 82 14 = f82_655 + 1 := fld_of hk688
          have hu697 : mu w687 = 2 * (fld w687 82 4 - fld w687 82 5) + min 1 (fld w687 82 7) := rfl
          have pq698 := pk629
          unfold PK PS at pq698
          have hM699 : ∀ s, s < 7 → s ≠ 6 → rwv w687 85 s = rwv w 85 s := fun s hs hn => (rwv_of (hr685.but hb689 (by decide)) hs).trans ((if_neg hn).trans ((rwv_of h85_678 hs).symm.trans (mf632 s hs)))
          have hM700 : rwv w687 85 6 = u45 + 1 := (rwv_of (hr685.but hb689 (by decide)) (by decide)).trans ((if_pos rfl).trans (by omega))
          have hM701 : ∀ s, s < 7 → rwv w687 85 s ≤ rwv w 85 s + 1 := fun s hs => by
            by_cases z : s = 6
            · subst z; omega
            · rw [hM699 s hs z]; omega
          have hO702 : ∀ j, (j < 5 ∨ 7 ≤ j) → j < 140 → rwv w687 86 j = rwv w 86 j := fun j hj hl => (rwv_fr hF690 (by decide)).trans (os630 j hj hl)
          have hl704 : FA w617 ≠ 0 ∨ u45 < 1 := rg631
          have hl705 : rwv w687 86 (5) = rwv w617 86 (5) := rwv_fr hF690 (by decide)
          have hl706 : rwv w687 86 (6) = rwv w617 86 (6) := rwv_fr hF690 (by decide)
          have hN703 : FA w687 ≠ 0 ∨ 1 ≤ u45 ∨ (1 ≤ rwv w687 86 5 ∧ rwv w687 86 5 ≤ 6 ∧ 1 ≤ rwv w687 86 6 ∧ rwv w687 86 6 ≤ 6) := by have q := nw635; omega
          have hX707 : FA w687 ≠ 0 ∨ u45 < 1 := by omega
          have hD708 : FA w687 ≠ 0 ∨ (DATA w → DATA w687) := by
            by_cases z : FA w687 ≠ 0
            · exact Or.inl z
            · exact Or.inr (fun hd => hd.s6 hM699 hK48 hM700 (hX707.resolve_left z) hO702 ((hN703.resolve_left z).resolve_left (by have := hX707.resolve_left z; omega)))
          exact xg_e ⟨w687, ⟨rfl, rfl⟩, xMnv.up (S := [85, 82]) hI619 ((xFr.of (S := [85, 82]) hb686 (by decide)).tr (xFr.of (S := [85, 82]) hb689 (by decide))) (List.forall_mem_cons.mpr ⟨(show cpI 7 52 4294967295 (wget w687 85) from ⟨_, (hr685.but hb689 (by decide)), xrb (by omega) (hb679)⟩), List.forall_mem_cons.mpr ⟨(show cp82 (wget w687 82) from ⟨f82_637, f82_639, f82_641, f82_643, f82_645, f82_647, f82_649, f82_651, f82_653, f82_655 + 1, f82_657, f82_658, f82_659, f82_661, f82_663, f82_665, hk688, hb638, hb640, hb642, hb644, hb646, hb648, hb650, hb652, hb654, by omega, hb660, hb662, hb664, hb666, by omega⟩), fun _ h => absurd h List.not_mem_nil⟩⟩), ((hF575.tr (hF620.up (by decide))).tr ((xFr.of (S := [82, 83, 85, 86, 87]) hb686 (by decide)).tr (xFr.of (S := [82, 83, 85, 86, 87]) hb689 (by decide)))), ⟨fun h => by have := pq698.1 h; omega, (show fld w687 82 10 = 0 ∨ FA w687 ≠ 0 by omega), Or.inr ⟨by have := ms636; omega, by omega, hM701⟩, hD708, pk629.2.2.2.2.tr (K83.fr hF690 (by decide))⟩⟩
        · refine xg_t (xg_icT (u := f82_593) (v := 2) rfl xnm0 xnm0 (xj_neT hc616)) ?_
          refine xg_t (xg_blk (b := [(416, 1, 0, 0, 0, 0), (417, 3, 13, 140, 96, 183)]) rfl) ?_
          refine xg_t (xg_aload (va := (2, 82)) rfl rfl) ?_
          refine xg_cVv mX12_ends (vs := []) (rest := []) (cn1 := 0) (sl1 := 0) rfl (mEnds (hI574) hj577.2.2.2.1) rfl h82_613 rfl rfl rfl rfl rfl rfl (fun w709 hq710 => ?_)
          obtain ⟨hI711, hF712, hx713⟩ := hq710
          clear hb584 hb586 hb588 hb590 hb592 hb594 hb596 hb598 hb600 hb602 hb606 hb608 hb610 hb612
          obtain ⟨hv714, hv715, hv716, hv717, hv718⟩ := hx713
          have pk719 : PK w573 w709 := ⟨fun _ => hv714, by omega, by omega, Or.inr hv714, hv718⟩
          have pk720 : PK w w709 := PK.tr hj577 pk719
          have os721 : ∀ j, (j < 5 ∨ 7 ≤ j) → j < 140 → rwv w709 86 j = rwv w 86 j := fun j hj hl => (rwv_fr hF712 (by decide)).trans (hj578 j hj hl)
          have rg722 : FA w709 ≠ 0 ∨ u45 < 1 := hj581.imp_left pk719.1
          have mf723 : ∀ s, s < 7 → rwv w709 85 s = rwv w 85 s := fun s hs => (rwv_fr hF712 (by decide)).trans (hj580 s hs)
          have hl724 : rwv w709 86 (5) = rwv w573 86 (5) := rwv_fr hF712 (by decide)
          have hl725 : rwv w709 86 (6) = rwv w573 86 (6) := rwv_fr hF712 (by decide)
          have nw726 : FA w709 ≠ 0 ∨ 1 ≤ u45 ∨ (1 ≤ rwv w709 86 5 ∧ rwv w709 86 5 ≤ 6 ∧ 1 ≤ rwv w709 86 6 ∧ rwv w709 86 6 ≤ 6) := by have q := hj582; have q1 := pk719.1; omega
          clear hj582
          have ms727 : mu w709 < mu w := Nat.lt_of_le_of_lt pk719.2.1 hj579
          clear hj581
          refine xg_t (xg_blk (b := [(420, 1, 0, 0, 0, 0), (421, 3, 1, 12, 11, 17), (424, 1, 2, 1, 0, 0), (425, 1, 39, 0, 0, 0), (426, 1, 10, 0, 0, 0), (427, 1, 3, 1, 0, 0), (428, 1, 11, 0, 0, 0), (429, 1, 17, 0, 0, 0), (430, 1, 0, 0, 0, 0), (431, 1, 19, 0, 0, 0), (432, 3, 1, 12, 14, 212), (435, 1, 3, 1, 0, 0), (436, 1, 11, 0, 0, 0), (437, 3, 14, 12, 14, 212), (440, 1, 12, 0, 0, 0)]) rfl) ?_
          obtain ⟨f82_728, f82_730, f82_732, f82_734, f82_736, f82_738, f82_740, f82_742, f82_744, f82_746, f82_748, f82_749, f82_750, f82_752, f82_754, f82_756, h82_758, hb729, hb731, hb733, hb735, hb737, hb739, hb741, hb743, hb745, hb747, hb751, hb753, hb755, hb757, hb759⟩ := (hI711 82 (by decide) (by decide) : cp82 (wget w709 82))
          have hf760 : fld w709 82 4 = f82_732 := fld_of h82_758
          have hf761 : fld w709 82 5 = f82_734 := fld_of h82_758
          have hf762 : fld w709 82 7 = f82_738 := fld_of h82_758
          have hf763 : fld w709 82 10 = f82_744 := fld_of h82_758
          have hf764 : fld w709 82 14 = f82_746 := fld_of h82_758
          have hu765 : mu w709 = 2 * (fld w709 82 4 - fld w709 82 5) + min 1 (fld w709 82 7) := rfl
          have hf766 := pk720.2.2.1
          have hl767 : f82_746 ≤ 1000 := by omega
          refine xg_t (xg_aload (va := (2, 82)) rfl rfl) ?_
          refine xg_t (xg_getf (va := (2, 85)) h82_758 rfl) ?_
          refine xg_t (xg_iload (va := (0, 6)) rfl rfl) ?_
          refine xg_t (xg_dup2 rfl) ?_
          obtain ⟨g85_768, h85_769, hb770⟩ := (hI711 85 (by decide) (by decide) : cpI 7 52 4294967295 (wget w709 85))
          have h85_769 : xRow w709 85 7 52 g85_768 := h85_769
          refine xg_ialdB (n := 6) (B := 4294967295) h85_769 (hb770) xnm0 (by omega) (fun u771 hu772 he773 => ?_)
          have hl774 : u771 = u45 := by have q1 := rwv_of h85_769 (show 6 < 7 by decide); have q2 := mf723 6 (by decide); omega
          refine xg_t (xg_const) ?_
          refine xg_t (xg_iadd (u := u771) (v := 1) (z := u771 + 1) xnm0 xnm0 (by omega)) ?_
          refine xg_iastK (n := 6) (u := u771 + 1) h85_769 xnm0 xnm0 rfl (by omega) (fun w775 hr776 hb777 => ?_)
          refine xg_t (xg_aload (va := (2, 82)) rfl rfl) ?_
          refine xg_t (xg_dup rfl) ?_
          refine xg_t (xg_getf (va := (0, f82_746)) (hb777.get (by decide) h82_758) rfl) ?_
          refine xg_t (xg_const) ?_
          refine xg_t (xg_iadd (u := f82_746) (v := 1) (z := f82_746 + 1) xnm0 xnm0 (by omega)) ?_
          refine xg_putI (fl1 := [(2, 83), (2, 84), (0, f82_728), (0, f82_730), (0, f82_732), (0, f82_734), (0, f82_736), (0, f82_738), (0, f82_740), (0, f82_742), (0, f82_744), (2, 85), (2, 86), (2, 87), (0, f82_746 + 1), (2, 88), (2, 89), (2, 90), (2, 91), (2, 92), (2, 93), (2, 94), (4, f82_748), (4, f82_749), (0, f82_750), (2, 95), (2, 96), (2, 97), (2, 98), (2, 99), (2, 100), (2, 101), (2, 102), (0, f82_752), (2, 103), (2, 104), (2, 105), (2, 106), (2, 107), (2, 108), (2, 109), (0, f82_754), (0, f82_756), (2, 110), (2, 111), (2, 112), (2, 113)]) (hb777.get (by decide) h82_758) rfl rfl rfl (fun w778 hk779 hb780 => ?_)
          have hF781 : xFr [82, 85] w709 w778 := ((xFr.of (S := [82, 85]) hb777 (by decide)).tr (xFr.of (S := [82, 85]) hb780 (by decide)))
          have hA782 := FA_fr hF781 (by decide)
          have hf783 : fld w778 82 4 = f82_732 := fld_of hk779
          have hf784 : fld w778 82 5 = f82_734 := fld_of hk779
          have hf785 : fld w778 82 7 = f82_738 := fld_of hk779
          have hf786 : fld w778 82 10 = f82_744 := fld_of hk779
          have hf787 : fld w778 82 14 = f82_746 + 1 := fld_of hk779
          have hu788 : mu w778 = 2 * (fld w778 82 4 - fld w778 82 5) + min 1 (fld w778 82 7) := rfl
          have pq789 := pk720
          unfold PK PS at pq789
          have hM790 : ∀ s, s < 7 → s ≠ 6 → rwv w778 85 s = rwv w 85 s := fun s hs hn => (rwv_of (hr776.but hb780 (by decide)) hs).trans ((if_neg hn).trans ((rwv_of h85_769 hs).symm.trans (mf723 s hs)))
          have hM791 : rwv w778 85 6 = u45 + 1 := (rwv_of (hr776.but hb780 (by decide)) (by decide)).trans ((if_pos rfl).trans (by omega))
          have hM792 : ∀ s, s < 7 → rwv w778 85 s ≤ rwv w 85 s + 1 := fun s hs => by
            by_cases z : s = 6
            · subst z; omega
            · rw [hM790 s hs z]; omega
          have hO793 : ∀ j, (j < 5 ∨ 7 ≤ j) → j < 140 → rwv w778 86 j = rwv w 86 j := fun j hj hl => (rwv_fr hF781 (by decide)).trans (os721 j hj hl)
          have hl795 : FA w709 ≠ 0 ∨ u45 < 1 := rg722
          have hl796 : rwv w778 86 (5) = rwv w709 86 (5) := rwv_fr hF781 (by decide)
          have hl797 : rwv w778 86 (6) = rwv w709 86 (6) := rwv_fr hF781 (by decide)
          have hN794 : FA w778 ≠ 0 ∨ 1 ≤ u45 ∨ (1 ≤ rwv w778 86 5 ∧ rwv w778 86 5 ≤ 6 ∧ 1 ≤ rwv w778 86 6 ∧ rwv w778 86 6 ≤ 6) := by have q := nw726; omega
          have hX798 : FA w778 ≠ 0 ∨ u45 < 1 := by omega
          have hD799 : FA w778 ≠ 0 ∨ (DATA w → DATA w778) := by
            by_cases z : FA w778 ≠ 0
            · exact Or.inl z
            · exact Or.inr (fun hd => hd.s6 hM790 hK48 hM791 (hX798.resolve_left z) hO793 ((hN794.resolve_left z).resolve_left (by have := hX798.resolve_left z; omega)))
          exact xg_e ⟨w778, ⟨rfl, rfl⟩, xMnv.up (S := [85, 82]) hI711 ((xFr.of (S := [85, 82]) hb777 (by decide)).tr (xFr.of (S := [85, 82]) hb780 (by decide))) (List.forall_mem_cons.mpr ⟨(show cpI 7 52 4294967295 (wget w778 85) from ⟨_, (hr776.but hb780 (by decide)), xrb (by omega) (hb770)⟩), List.forall_mem_cons.mpr ⟨(show cp82 (wget w778 82) from ⟨f82_728, f82_730, f82_732, f82_734, f82_736, f82_738, f82_740, f82_742, f82_744, f82_746 + 1, f82_748, f82_749, f82_750, f82_752, f82_754, f82_756, hk779, hb729, hb731, hb733, hb735, hb737, hb739, hb741, hb743, hb745, by omega, hb751, hb753, hb755, hb757, by omega⟩), fun _ h => absurd h List.not_mem_nil⟩⟩), ((hF575.tr (hF712.up (by decide))).tr ((xFr.of (S := [82, 83, 85, 86, 87]) hb777 (by decide)).tr (xFr.of (S := [82, 83, 85, 86, 87]) hb780 (by decide)))), ⟨fun h => by have := pq789.1 h; omega, (show fld w778 82 10 = 0 ∨ FA w778 ≠ 0 by omega), Or.inr ⟨by have := ms727; omega, by omega, hM792⟩, hD799, pk720.2.2.2.2.tr (K83.fr hF781 (by decide))⟩⟩
      · refine xg_t (xg_ifT (u := f82_599) rfl xnm0 (xj_neT hc615)) ?_
        refine xg_t (xg_blk (b := [(416, 1, 0, 0, 0, 0), (417, 3, 13, 140, 96, 183)]) rfl) ?_
        refine xg_t (xg_aload (va := (2, 82)) rfl rfl) ?_
        refine xg_cVv mX12_ends (vs := []) (rest := []) (cn1 := 0) (sl1 := 0) rfl (mEnds (hI574) hj577.2.2.2.1) rfl h82_613 rfl rfl rfl rfl rfl rfl (fun w800 hq801 => ?_)
        obtain ⟨hI802, hF803, hx804⟩ := hq801
        clear hb584 hb586 hb588 hb590 hb592 hb594 hb596 hb598 hb600 hb602 hb606 hb608 hb610 hb612
        obtain ⟨hv805, hv806, hv807, hv808, hv809⟩ := hx804
        have pk810 : PK w573 w800 := ⟨fun _ => hv805, by omega, by omega, Or.inr hv805, hv809⟩
        have pk811 : PK w w800 := PK.tr hj577 pk810
        have os812 : ∀ j, (j < 5 ∨ 7 ≤ j) → j < 140 → rwv w800 86 j = rwv w 86 j := fun j hj hl => (rwv_fr hF803 (by decide)).trans (hj578 j hj hl)
        have rg813 : FA w800 ≠ 0 ∨ u45 < 1 := hj581.imp_left pk810.1
        have mf814 : ∀ s, s < 7 → rwv w800 85 s = rwv w 85 s := fun s hs => (rwv_fr hF803 (by decide)).trans (hj580 s hs)
        have hl815 : rwv w800 86 (5) = rwv w573 86 (5) := rwv_fr hF803 (by decide)
        have hl816 : rwv w800 86 (6) = rwv w573 86 (6) := rwv_fr hF803 (by decide)
        have nw817 : FA w800 ≠ 0 ∨ 1 ≤ u45 ∨ (1 ≤ rwv w800 86 5 ∧ rwv w800 86 5 ≤ 6 ∧ 1 ≤ rwv w800 86 6 ∧ rwv w800 86 6 ≤ 6) := by have q := hj582; have q1 := pk810.1; omega
        clear hj582
        have ms818 : mu w800 < mu w := Nat.lt_of_le_of_lt pk810.2.1 hj579
        clear hj581
        refine xg_t (xg_blk (b := [(420, 1, 0, 0, 0, 0), (421, 3, 1, 12, 11, 17), (424, 1, 2, 1, 0, 0), (425, 1, 39, 0, 0, 0), (426, 1, 10, 0, 0, 0), (427, 1, 3, 1, 0, 0), (428, 1, 11, 0, 0, 0), (429, 1, 17, 0, 0, 0), (430, 1, 0, 0, 0, 0), (431, 1, 19, 0, 0, 0), (432, 3, 1, 12, 14, 212), (435, 1, 3, 1, 0, 0), (436, 1, 11, 0, 0, 0), (437, 3, 14, 12, 14, 212), (440, 1, 12, 0, 0, 0)]) rfl) ?_
        obtain ⟨f82_819, f82_821, f82_823, f82_825, f82_827, f82_829, f82_831, f82_833, f82_835, f82_837, f82_839, f82_840, f82_841, f82_843, f82_845, f82_847, h82_849, hb820, hb822, hb824, hb826, hb828, hb830, hb832, hb834, hb836, hb838, hb842, hb844, hb846, hb848, hb850⟩ := (hI802 82 (by decide) (by decide) : cp82 (wget w800 82))
        have hf851 : fld w800 82 4 = f82_823 := fld_of h82_849
        have hf852 : fld w800 82 5 = f82_825 := fld_of h82_849
        have hf853 : fld w800 82 7 = f82_829 := fld_of h82_849
        have hf854 : fld w800 82 10 = f82_835 := fld_of h82_849
        have hf855 : fld w800 82 14 = f82_837 := fld_of h82_849
        have hu856 : mu w800 = 2 * (fld w800 82 4 - fld w800 82 5) + min 1 (fld w800 82 7) := rfl
        have hf857 := pk811.2.2.1
        have hl858 : f82_837 ≤ 1000 := by omega
        refine xg_t (xg_aload (va := (2, 82)) rfl rfl) ?_
        refine xg_t (xg_getf (va := (2, 85)) h82_849 rfl) ?_
        refine xg_t (xg_iload (va := (0, 6)) rfl rfl) ?_
        refine xg_t (xg_dup2 rfl) ?_
        obtain ⟨g85_859, h85_860, hb861⟩ := (hI802 85 (by decide) (by decide) : cpI 7 52 4294967295 (wget w800 85))
        have h85_860 : xRow w800 85 7 52 g85_859 := h85_860
        refine xg_ialdB (n := 6) (B := 4294967295) h85_860 (hb861) xnm0 (by omega) (fun u862 hu863 he864 => ?_)
        have hl865 : u862 = u45 := by have q1 := rwv_of h85_860 (show 6 < 7 by decide); have q2 := mf814 6 (by decide); omega
        refine xg_t (xg_const) ?_
        refine xg_t (xg_iadd (u := u862) (v := 1) (z := u862 + 1) xnm0 xnm0 (by omega)) ?_
        refine xg_iastK (n := 6) (u := u862 + 1) h85_860 xnm0 xnm0 rfl (by omega) (fun w866 hr867 hb868 => ?_)
        refine xg_t (xg_aload (va := (2, 82)) rfl rfl) ?_
        refine xg_t (xg_dup rfl) ?_
        refine xg_t (xg_getf (va := (0, f82_837)) (hb868.get (by decide) h82_849) rfl) ?_
        refine xg_t (xg_const) ?_
        refine xg_t (xg_iadd (u := f82_837) (v := 1) (z := f82_837 + 1) xnm0 xnm0 (by omega)) ?_
        refine xg_putI (fl1 := [(2, 83), (2, 84), (0, f82_819), (0, f82_821), (0, f82_823), (0, f82_825), (0, f82_827), (0, f82_829), (0, f82_831), (0, f82_833), (0, f82_835), (2, 85), (2, 86), (2, 87), (0, f82_837 + 1), (2, 88), (2, 89), (2, 90), (2, 91), (2, 92), (2, 93), (2, 94), (4, f82_839), (4, f82_840), (0, f82_841), (2, 95), (2, 96), (2, 97), (2, 98), (2, 99), (2, 100), (2, 101), (2, 102), (0, f82_843), (2, 103), (2, 104), (2, 105), (2, 106), (2, 107), (2, 108), (2, 109), (0, f82_845), (0, f82_847), (2, 110), (2, 111), (2, 112), (2, 113)]) (hb868.get (by decide) h82_849) rfl rfl rfl (fun w869 hk870 hb871 => ?_)
        have hF872 : xFr [82, 85] w800 w869 := ((xFr.of (S := [82, 85]) hb868 (by decide)).tr (xFr.of (S := [82, 85]) hb871 (by decide)))
        have hA873 := FA_fr hF872 (by decide)
        have hf874 : fld w869 82 4 = f82_823 := fld_of hk870
        have hf875 : fld w869 82 5 = f82_825 := fld_of hk870
        have hf876 : fld w869 82 7 = f82_829 := fld_of hk870
        have hf877 : fld w869 82 10 = f82_835 := fld_of hk870
        have hf878 : fld w869 82 14 = f82_837 + 1 := fld_of hk870
        have hu879 : mu w869 = 2 * (fld w869 82 4 - fld w869 82 5) + min 1 (fld w869 82 7) := rfl
        have pq880 := pk811
        unfold PK PS at pq880
        have hM881 : ∀ s, s < 7 → s ≠ 6 → rwv w869 85 s = rwv w 85 s := fun s hs hn => (rwv_of (hr867.but hb871 (by decide)) hs).trans ((if_neg hn).trans ((rwv_of h85_860 hs).symm.trans (mf814 s hs)))
        have hM882 : rwv w869 85 6 = u45 + 1 := (rwv_of (hr867.but hb871 (by decide)) (by decide)).trans ((if_pos rfl).trans (by omega))
        have hM883 : ∀ s, s < 7 → rwv w869 85 s ≤ rwv w 85 s + 1 := fun s hs => by
          by_cases z : s = 6
          · subst z; omega
          · rw [hM881 s hs z]; omega
        have hO884 : ∀ j, (j < 5 ∨ 7 ≤ j) → j < 140 → rwv w869 86 j = rwv w 86 j := fun j hj hl => (rwv_fr hF872 (by decide)).trans (os812 j hj hl)
        have hl886 : FA w800 ≠ 0 ∨ u45 < 1 := rg813
        have hl887 : rwv w869 86 (5) = rwv w800 86 (5) := rwv_fr hF872 (by decide)
        have hl888 : rwv w869 86 (6) = rwv w800 86 (6) := rwv_fr hF872 (by decide)
        have hN885 : FA w869 ≠ 0 ∨ 1 ≤ u45 ∨ (1 ≤ rwv w869 86 5 ∧ rwv w869 86 5 ≤ 6 ∧ 1 ≤ rwv w869 86 6 ∧ rwv w869 86 6 ≤ 6) := by have q := nw817; omega
        have hX889 : FA w869 ≠ 0 ∨ u45 < 1 := by omega
        have hD890 : FA w869 ≠ 0 ∨ (DATA w → DATA w869) := by
          by_cases z : FA w869 ≠ 0
          · exact Or.inl z
          · exact Or.inr (fun hd => hd.s6 hM881 hK48 hM882 (hX889.resolve_left z) hO884 ((hN885.resolve_left z).resolve_left (by have := hX889.resolve_left z; omega)))
        exact xg_e ⟨w869, ⟨rfl, rfl⟩, xMnv.up (S := [85, 82]) hI802 ((xFr.of (S := [85, 82]) hb868 (by decide)).tr (xFr.of (S := [85, 82]) hb871 (by decide))) (List.forall_mem_cons.mpr ⟨(show cpI 7 52 4294967295 (wget w869 85) from ⟨_, (hr867.but hb871 (by decide)), xrb (by omega) (hb861)⟩), List.forall_mem_cons.mpr ⟨(show cp82 (wget w869 82) from ⟨f82_819, f82_821, f82_823, f82_825, f82_827, f82_829, f82_831, f82_833, f82_835, f82_837 + 1, f82_839, f82_840, f82_841, f82_843, f82_845, f82_847, hk870, hb820, hb822, hb824, hb826, hb828, hb830, hb832, hb834, hb836, by omega, hb842, hb844, hb846, hb848, by omega⟩), fun _ h => absurd h List.not_mem_nil⟩⟩), ((hF575.tr (hF803.up (by decide))).tr ((xFr.of (S := [82, 83, 85, 86, 87]) hb868 (by decide)).tr (xFr.of (S := [82, 83, 85, 86, 87]) hb871 (by decide)))), ⟨fun h => by have := pq880.1 h; omega, (show fld w869 82 10 = 0 ∨ FA w869 ≠ 0 by omega), Or.inr ⟨by have := ms818; omega, by omega, hM883⟩, hD890, pk811.2.2.2.2.tr (K83.fr hF872 (by decide))⟩⟩
    refine xg_t (xg_iload (va := (0, 6)) rfl rfl) ?_
    refine xg_t (xg_swt (ks := [(0, 108), (1, 116), (2, 180), (3, 221), (4, 273), (5, 326)]) (u := 6) (z := 362) rfl rfl rfl xnm0 (xsw_n (by omega) (xsw_n (by omega) (xsw_n (by omega) (xsw_n (by omega) (xsw_n (by omega) (xsw_n (by omega) (xsw_d)))))))) ?_
    refine xg_t (xg_blk (b := [(362, 1, 3, 0, 0, 0), (363, 2, 15, 4, 0, 0)]) rfl) ?_
    refine xg_t (xg_const) ?_
    refine xg_t (xg_istore (l1 := [(3, (0, u45)), (2, (0, at_)), (1, (0, 6)), (0, (2, 82))]) rfl rfl rfl) ?_
    refine xg_t (xg_blk (b := [(365, 2, 2, 4, 0, 0), (367, 1, 3, 2, 0, 0), (368, 3, 6, 394, 3, 0), (371, 1, 0, 0, 0, 0), (372, 1, 2, 1, 0, 0), (373, 1, 2, 3, 0, 0), (374, 1, 3, 5, 0, 0), (375, 2, 2, 4, 0, 0), (377, 1, 11, 0, 0, 0), (378, 1, 0, 0, 0, 0), (379, 1, 3, 1, 0, 0), (380, 2, 4, 6, 0, 0), (382, 3, 13, 199, 96, 196), (385, 3, 13, 211, 96, 200), (388, 3, 9, 4, 1, 0), (391, 3, 8, 365, 0, 0)]) rfl) ?_
    refine xg_t (xg_iload (va := (0, 0)) rfl rfl) ?_
    refine xg_t (xg_const) ?_
    refine xg_t (xg_icF (u := 0) (v := 2) rfl xnm0 xnm0 (by decide)) ?_
    refine xg_t (xg_aload (va := (2, 82)) rfl rfl) ?_
    refine xg_t (xg_iload (va := (0, 6)) rfl rfl) ?_
    refine xg_t (xg_iload (va := (0, u45)) rfl rfl) ?_
    refine xg_t (xg_const) ?_
    refine xg_t (xg_iload (va := (0, 0)) rfl rfl) ?_
    refine xg_t (xg_iadd (u := 5) (v := 0) (z := 5) xnm0 xnm0 (by decide)) ?_
    refine xg_t (xg_aload (va := (2, 82)) rfl rfl) ?_
    refine xg_t (xg_const) ?_
    refine xg_t (xg_bip) ?_
    obtain ⟨f82_891, f82_893, f82_895, f82_897, f82_899, f82_901, f82_903, f82_905, f82_907, f82_909, f82_911, f82_912, f82_913, f82_915, f82_917, f82_919, h82_921, hb892, hb894, hb896, hb898, hb900, hb902, hb904, hb906, hb908, hb910, hb914, hb916, hb918, hb920, hb922⟩ := (hI557 82 (by decide) (by decide) : cp82 (wget w555 82))
    refine xg_cVi mX12_numbered (vs := [(0, 1), (0, 6)]) (rest := [(0, 5), (0, u45), (0, 6), (2, 82)]) (cn1 := 0) (sl1 := 0) rfl (mNumbered (hI557) (by omega) (by omega) pk567.2.2.2.1) rfl h82_921 rfl rfl rfl rfl rfl rfl (fun n927 w923 hq924 => ?_)
    obtain ⟨hn928, hI925, hF926⟩ := hq924
    clear hb892 hb894 hb896 hb898 hb900 hb902 hb904 hb906 hb908 hb910 hb914 hb916 hb918 hb920
    obtain ⟨hn929, hn930, hn931⟩ := hn928
    have pk932 : PK w w923 := PK.tr pk567 hn930
    have os933 : ∀ j, (j < 5 ∨ 7 ≤ j) → j < 140 → rwv w923 86 j = rwv w 86 j := fun j hj hl => (rwv_fr hF926 (by decide)).trans (os568 j hj hl)
    have rg934 : FA w923 ≠ 0 ∨ 0 = 1 := rg569.imp_left hn930.1
    have mf935 : ∀ s, s < 7 → rwv w923 85 s = rwv w 85 s := fun s hs => (rwv_fr hF926 (by decide)).trans (mf570 s hs)
    have ms936 : mu w923 < mu w := Nat.lt_of_le_of_lt hn930.2.1 ms571
    clear rg569
    obtain ⟨f82_937, f82_939, f82_941, f82_943, f82_945, f82_947, f82_949, f82_951, f82_953, f82_955, f82_957, f82_958, f82_959, f82_961, f82_963, f82_965, h82_967, hb938, hb940, hb942, hb944, hb946, hb948, hb950, hb952, hb954, hb956, hb960, hb962, hb964, hb966, hb968⟩ := (hI925 82 (by decide) (by decide) : cp82 (wget w923 82))
    refine xg_cVv mX12_puts (vs := [(0, 6), (0, u45), (0, 5), (0, n927)]) (rest := []) (cn1 := 0) (sl1 := 0) rfl (mPuts6 (hI925) (by omega) (by omega) (by omega) (fun _ => by omega)) rfl h82_967 rfl rfl rfl rfl rfl rfl (fun w969 hq970 => ?_)
    obtain ⟨hI971, hF972, hx973⟩ := hq970
    obtain ⟨hp974, hp975⟩ := hx973
    have pk976 : PK w w969 := PK.tr pk932 (PK.fr hF972 (by decide) (by decide) pk932.2.2.2.1)
    have os977 : ∀ j, (j < 5 ∨ 7 ≤ j) → j < 140 → rwv w969 86 j = rwv w 86 j := fun j hj hl => (hp975 j (by omega) hl).trans (os933 j hj hl)
    have rg978 : FA w969 ≠ 0 ∨ 0 = 1 := rg934.imp_left (PK.fr hF972 (by decide) (by decide) pk932.2.2.2.1).1
    have rg979 : FA w969 ≠ 0 ∨ (1 ≤ n927 ∧ n927 ≤ 6) := hn931.imp_left (PK.fr hF972 (by decide) (by decide) pk932.2.2.2.1).1
    have mf980 : ∀ s, s < 7 → rwv w969 85 s = rwv w 85 s := fun s hs => (rwv_fr hF972 (by decide)).trans (mf935 s hs)
    have ms981 : mu w969 < mu w := Nat.lt_of_le_of_lt (PK.fr hF972 (by decide) (by decide) pk932.2.2.2.1).2.1 ms936
    clear rg934 hn931
    refine xg_t (xg_iinc (u := 0) (z := 1) (l1 := [(3, (0, u45)), (2, (0, at_)), (1, (0, 6)), (0, (2, 82))]) rfl rfl (by decide) rfl) ?_
    refine xg_t (xg_goto) ?_
    refine xg_t (xg_blk (b := [(365, 2, 2, 4, 0, 0), (367, 1, 3, 2, 0, 0), (368, 3, 6, 394, 3, 0), (371, 1, 0, 0, 0, 0), (372, 1, 2, 1, 0, 0), (373, 1, 2, 3, 0, 0), (374, 1, 3, 5, 0, 0), (375, 2, 2, 4, 0, 0), (377, 1, 11, 0, 0, 0), (378, 1, 0, 0, 0, 0), (379, 1, 3, 1, 0, 0), (380, 2, 4, 6, 0, 0), (382, 3, 13, 199, 96, 196), (385, 3, 13, 211, 96, 200), (388, 3, 9, 4, 1, 0), (391, 3, 8, 365, 0, 0)]) rfl) ?_
    refine xg_t (xg_iload (va := (0, 1)) rfl rfl) ?_
    refine xg_t (xg_const) ?_
    refine xg_t (xg_icF (u := 1) (v := 2) rfl xnm0 xnm0 (by decide)) ?_
    refine xg_t (xg_aload (va := (2, 82)) rfl rfl) ?_
    refine xg_t (xg_iload (va := (0, 6)) rfl rfl) ?_
    refine xg_t (xg_iload (va := (0, u45)) rfl rfl) ?_
    refine xg_t (xg_const) ?_
    refine xg_t (xg_iload (va := (0, 1)) rfl rfl) ?_
    refine xg_t (xg_iadd (u := 5) (v := 1) (z := 6) xnm0 xnm0 (by decide)) ?_
    refine xg_t (xg_aload (va := (2, 82)) rfl rfl) ?_
    refine xg_t (xg_const) ?_
    refine xg_t (xg_bip) ?_
    refine xg_cVi mX12_numbered (vs := [(0, 1), (0, 6)]) (rest := [(0, 6), (0, u45), (0, 6), (2, 82)]) (cn1 := 0) (sl1 := 0) rfl (mNumbered (hI971) (by omega) (by omega) pk976.2.2.2.1) rfl (hF972.get (by decide) h82_967) rfl rfl rfl rfl rfl rfl (fun n986 w982 hq983 => ?_)
    obtain ⟨hn987, hI984, hF985⟩ := hq983
    clear hb938 hb940 hb942 hb944 hb946 hb948 hb950 hb952 hb954 hb956 hb960 hb962 hb964 hb966
    obtain ⟨hn988, hn989, hn990⟩ := hn987
    have pk991 : PK w w982 := PK.tr pk976 hn989
    have os992 : ∀ j, (j < 5 ∨ 7 ≤ j) → j < 140 → rwv w982 86 j = rwv w 86 j := fun j hj hl => (rwv_fr hF985 (by decide)).trans (os977 j hj hl)
    have ix993 : u45 < 1 → rwv w982 86 (5) = n927 := fun h => (rwv_fr hF985 (by decide)).trans (hp974 h)
    have rg994 : FA w982 ≠ 0 ∨ 0 = 1 := rg978.imp_left hn989.1
    have rg995 : FA w982 ≠ 0 ∨ (1 ≤ n927 ∧ n927 ≤ 6) := rg979.imp_left hn989.1
    have mf996 : ∀ s, s < 7 → rwv w982 85 s = rwv w 85 s := fun s hs => (rwv_fr hF985 (by decide)).trans (mf980 s hs)
    have ms997 : mu w982 < mu w := Nat.lt_of_le_of_lt hn989.2.1 ms981
    clear hp974 rg978 rg979
    obtain ⟨f82_998, f82_1000, f82_1002, f82_1004, f82_1006, f82_1008, f82_1010, f82_1012, f82_1014, f82_1016, f82_1018, f82_1019, f82_1020, f82_1022, f82_1024, f82_1026, h82_1028, hb999, hb1001, hb1003, hb1005, hb1007, hb1009, hb1011, hb1013, hb1015, hb1017, hb1021, hb1023, hb1025, hb1027, hb1029⟩ := (hI984 82 (by decide) (by decide) : cp82 (wget w982 82))
    refine xg_cVv mX12_puts (vs := [(0, 6), (0, u45), (0, 6), (0, n986)]) (rest := []) (cn1 := 0) (sl1 := 0) rfl (mPuts6 (hI984) (by omega) (by omega) (by omega) (fun _ => by omega)) rfl h82_1028 rfl rfl rfl rfl rfl rfl (fun w1030 hq1031 => ?_)
    obtain ⟨hI1032, hF1033, hx1034⟩ := hq1031
    obtain ⟨hp1035, hp1036⟩ := hx1034
    have pk1037 : PK w w1030 := PK.tr pk991 (PK.fr hF1033 (by decide) (by decide) pk991.2.2.2.1)
    have os1038 : ∀ j, (j < 5 ∨ 7 ≤ j) → j < 140 → rwv w1030 86 j = rwv w 86 j := fun j hj hl => (hp1036 j (by omega) hl).trans (os992 j hj hl)
    have ix1039 : u45 < 1 → rwv w1030 86 (5) = n927 := fun h => (hp1036 _ (by omega) (by omega)).trans (ix993 h)
    have rg1040 : FA w1030 ≠ 0 ∨ 0 = 1 := rg994.imp_left (PK.fr hF1033 (by decide) (by decide) pk991.2.2.2.1).1
    have rg1041 : FA w1030 ≠ 0 ∨ (1 ≤ n927 ∧ n927 ≤ 6) := rg995.imp_left (PK.fr hF1033 (by decide) (by decide) pk991.2.2.2.1).1
    have rg1042 : FA w1030 ≠ 0 ∨ (1 ≤ n986 ∧ n986 ≤ 6) := hn990.imp_left (PK.fr hF1033 (by decide) (by decide) pk991.2.2.2.1).1
    have mf1043 : ∀ s, s < 7 → rwv w1030 85 s = rwv w 85 s := fun s hs => (rwv_fr hF1033 (by decide)).trans (mf996 s hs)
    have ms1044 : mu w1030 < mu w := Nat.lt_of_le_of_lt (PK.fr hF1033 (by decide) (by decide) pk991.2.2.2.1).2.1 ms997
    clear ix993 rg994 rg995 hn990
    refine xg_t (xg_iinc (u := 1) (z := 2) (l1 := [(3, (0, u45)), (2, (0, at_)), (1, (0, 6)), (0, (2, 82))]) rfl rfl (by decide) rfl) ?_
    refine xg_t (xg_goto) ?_
    refine xg_t (xg_blk (b := [(365, 2, 2, 4, 0, 0), (367, 1, 3, 2, 0, 0), (368, 3, 6, 394, 3, 0), (371, 1, 0, 0, 0, 0), (372, 1, 2, 1, 0, 0), (373, 1, 2, 3, 0, 0), (374, 1, 3, 5, 0, 0), (375, 2, 2, 4, 0, 0), (377, 1, 11, 0, 0, 0), (378, 1, 0, 0, 0, 0), (379, 1, 3, 1, 0, 0), (380, 2, 4, 6, 0, 0), (382, 3, 13, 199, 96, 196), (385, 3, 13, 211, 96, 200), (388, 3, 9, 4, 1, 0), (391, 3, 8, 365, 0, 0)]) rfl) ?_
    refine xg_t (xg_iload (va := (0, 2)) rfl rfl) ?_
    refine xg_t (xg_const) ?_
    refine xg_t (xg_icT (u := 2) (v := 2) rfl xnm0 xnm0 (by decide)) ?_
    refine xg_t (xg_drop (l1 := [(0, (2, 82)), (1, (0, 6)), (3, (0, u45))]) (List.forall_mem_cons.mpr ⟨List.mem_cons_of_mem _ (List.mem_cons_of_mem _ (List.mem_cons_of_mem _ (List.mem_cons_of_mem _ (List.mem_cons_self)))), List.forall_mem_cons.mpr ⟨List.mem_cons_of_mem _ (List.mem_cons_of_mem _ (List.mem_cons_of_mem _ (List.mem_cons_self))), List.forall_mem_cons.mpr ⟨List.mem_cons_of_mem _ (List.mem_cons_self), fun _ h => absurd h List.not_mem_nil⟩⟩⟩)) ?_
    have hX1045 : FA w1030 ≠ 0 ∨ u45 < 1 := Or.inl (by have q := rg1040; omega)
    have hN1046 : FA w1030 ≠ 0 ∨ 1 ≤ u45 ∨ (1 ≤ rwv w1030 86 5 ∧ rwv w1030 86 5 ≤ 6 ∧ 1 ≤ rwv w1030 86 6 ∧ rwv w1030 86 6 ≤ 6) := by
      have hl1047 : u45 < 1 → rwv w1030 86 (5) = n927 := ix1039
      have hl1048 : u45 < 1 → rwv w1030 86 (6) = n986 := hp1035
      have hl1049 := rg1041
      have hl1050 := rg1042
      omega
    exact jn572 w1030 (hI1032) (((((((hF546.up (by decide)).tr (hF558.up (by decide))).tr (hF926.up (by decide))).tr (hF972.up (by decide))).tr (hF985.up (by decide))).tr (hF1033.up (by decide)))) (⟨pk1037, os1038, ms1044, mf1043, hX1045, hN1046⟩)
set_option maxHeartbeats 60000000 in
theorem mALine (hI : xMnv w) (hps : PS w) (hmb : ∀ s, s < 7 → rwv w 85 s ≤ 1000) (hln : fld w 82 14 ≤ 1000) : xPq (d + 7) mX12_aLine [(2, 82)] w bd fc rr [] (fun w' => xMnv w' ∧ xFr [82, 83, 85, 86, 87] w w' ∧ ((FA w ≠ 0 → FA w' ≠ 0) ∧ PS w' ∧ ((fld w' 82 10 = 1 ∧ mu w' = mu w ∧ fld w' 82 14 = fld w 82 14 ∧ ∀ s, s < 7 → rwv w' 85 s = rwv w 85 s) ∨ (mu w' < mu w ∧ fld w' 82 14 = fld w 82 14 + 1 ∧ ∀ s, s < 7 → rwv w' 85 s ≤ rwv w 85 s + 1)) ∧ (FA w' ≠ 0 ∨ (DATA w → DATA w')) ∧ K83 w w')) := by
  refine xPq.of ?_
  show xTo (d + 7) mX12_aLine (0, [], [(0, (2, 82))], [], (w, bd, fc, 0, 0, rr)) (fun φ => ∃ w', xEnd 0 [] (w', bd, fc, 0, 0, rr) φ ∧ xMnv w' ∧ xFr [82, 83, 85, 86, 87] w w' ∧ ((FA w ≠ 0 → FA w' ≠ 0) ∧ PS w' ∧ ((fld w' 82 10 = 1 ∧ mu w' = mu w ∧ fld w' 82 14 = fld w 82 14 ∧ ∀ s, s < 7 → rwv w' 85 s = rwv w 85 s) ∨ (mu w' < mu w ∧ fld w' 82 14 = fld w 82 14 + 1 ∧ ∀ s, s < 7 → rwv w' 85 s ≤ rwv w 85 s + 1)) ∧ (FA w' ≠ 0 ∨ (DATA w → DATA w')) ∧ K83 w w'))
  obtain ⟨f82_1, f82_3, f82_5, f82_7, f82_9, f82_11, f82_13, f82_15, f82_17, f82_19, f82_21, f82_22, f82_23, f82_25, f82_27, f82_29, h82_31, hb2, hb4, hb6, hb8, hb10, hb12, hb14, hb16, hb18, hb20, hb24, hb26, hb28, hb30, hb32⟩ := (hI 82 (by decide) (by decide) : cp82 (wget w 82))
  have hf33 : fld w 82 7 = f82_11 := fld_of h82_31
  have hf34 : fld w 82 10 = f82_17 := fld_of h82_31
  have hf35 : fld w 82 14 = f82_19 := fld_of h82_31
  have hps_ : fld w 82 10 = 0 ∨ FA w ≠ 0 := hps
  obtain ⟨g85_36, h85_37, hb38⟩ := (hI 85 (by decide) (by decide) : cpI 7 52 4294967295 (wget w 85))
  have h85_37 : xRow w 85 7 52 g85_36 := h85_37
  obtain ⟨g86_39, h86_40, hb41⟩ := (hI 86 (by decide) (by decide) : cpI 140 53 4294967295 (wget w 86))
  have h86_40 : xRow w 86 140 53 g86_39 := h86_40
  obtain ⟨g87_42, h87_43, hb44⟩ := (hI 87 (by decide) (by decide) : cpI 20 54 4294967295 (wget w 87))
  have h87_43 : xRow w 87 20 54 g87_42 := h87_43
  refine xg_t (xg_blk (b := [(0, 1, 0, 0, 0, 0), (1, 3, 1, 12, 9, 165), (4, 1, 15, 1, 0, 0), (5, 1, 0, 0, 0, 0), (6, 3, 1, 12, 6, 148), (9, 1, 15, 2, 0, 0), (10, 1, 0, 0, 0, 0), (11, 3, 1, 12, 10, 180), (14, 3, 7, 38, 1, 0), (17, 1, 0, 0, 0, 0), (18, 3, 1, 12, 7, 151), (21, 1, 3, 3, 0, 0), (22, 3, 6, 38, 1, 0), (25, 1, 0, 0, 0, 0), (26, 3, 1, 12, 9, 165), (29, 1, 3, 0, 0, 0), (30, 2, 4, 6, 0, 0), (32, 3, 13, 161, 98, 105), (35, 3, 7, 43, 1, 0)]) rfl) ?_
  refine xg_t (xg_aload (va := (2, 82)) rfl rfl) ?_
  refine xg_t (xg_getf (va := (0, f82_15)) h82_31 rfl) ?_
  refine xg_t (xg_istore (l1 := [(0, (2, 82))]) rfl rfl rfl) ?_
  refine xg_t (xg_aload (va := (2, 82)) rfl rfl) ?_
  refine xg_t (xg_getf (va := (0, f82_9)) h82_31 rfl) ?_
  refine xg_t (xg_istore (l1 := [(1, (0, f82_15)), (0, (2, 82))]) rfl rfl rfl) ?_
  refine xg_t (xg_aload (va := (2, 82)) rfl rfl) ?_
  refine xg_t (xg_getf (va := (0, f82_17)) h82_31 rfl) ?_
  by_cases hc45 : f82_17 = 0
  · refine xg_t (xg_ifF (u := f82_17) rfl xnm0 (xj_neF hc45)) ?_
    refine xg_t (xg_aload (va := (2, 82)) rfl rfl) ?_
    refine xg_t (xg_getf (va := (0, f82_11)) h82_31 rfl) ?_
    refine xg_t (xg_const) ?_
    by_cases hc46 : f82_11 = 3
    · refine xg_t (xg_icF (u := f82_11) (v := 3) rfl xnm0 xnm0 (xj_neF hc46)) ?_
      refine xg_t (xg_aload (va := (2, 82)) rfl rfl) ?_
      refine xg_t (xg_getf (va := (0, f82_15)) h82_31 rfl) ?_
      refine xg_t (xg_const) ?_
      refine xg_t (xg_bip) ?_
      refine xg_t (xg_cSr mX12_isIn (vs := [(0, f82_15), (0, 0), (0, 6)]) (rest := []) (rs := [(0, if 0 ≤ f82_15 ∧ f82_15 ≤ 6 then 1 else 0)]) (cn1 := 0) (sl1 := 0) rfl (mIsIn (by omega) (by omega) (by omega)) rfl rfl rfl rfl rfl rfl rfl rfl) ?_
      by_cases hc47 : 0 ≤ f82_15 ∧ f82_15 ≤ 6
      · refine xg_t (xg_ifT (u := (if 0 ≤ f82_15 ∧ f82_15 ≤ 6 then 1 else 0)) rfl xnm0 (xj_neT (xite1 hc47))) ?_
        rcases (show f82_15 = 0 ∨ f82_15 = 1 ∨ f82_15 = 2 ∨ f82_15 = 3 ∨ f82_15 = 4 ∨ f82_15 = 5 ∨ f82_15 = 6 by omega) with rfl | rfl | rfl | rfl | rfl | rfl | rfl
        · exact mALineS0 hI hps hmb hln (by omega) (by omega)
        · exact mALineS1 hI hps hmb hln (by omega) (by omega)
        · exact mALineS2 hI hps hmb hln (by omega) (by omega)
        · exact mALineS3 hI hps hmb hln (by omega) (by omega)
        · exact mALineS4 hI hps hmb hln (by omega) (by omega)
        · exact mALineS5 hI hps hmb hln (by omega) (by omega)
        · exact mALineS6 hI hps hmb hln (by omega) (by omega)
      · refine xg_t (xg_ifF (u := (if 0 ≤ f82_15 ∧ f82_15 ≤ 6 then 1 else 0)) rfl xnm0 (xj_neF (xite0 hc47))) ?_
        refine xg_t (xg_blk (b := [(38, 1, 0, 0, 0, 0), (39, 3, 13, 140, 96, 183), (42, 1, 12, 0, 0, 0)]) rfl) ?_
        refine xg_t (xg_aload (va := (2, 82)) rfl rfl) ?_
        refine xg_cVv mX12_ends (vs := []) (rest := []) (cn1 := 0) (sl1 := 0) rfl (mEnds (hI) hps) rfl h82_31 rfl rfl rfl rfl rfl rfl (fun w48 hq49 => ?_)
        obtain ⟨hI50, hF51, hx52⟩ := hq49
        obtain ⟨hv53, hv54, hv55, hv56, hv57⟩ := hx52
        obtain ⟨f82_58, f82_60, f82_62, f82_64, f82_66, f82_68, f82_70, f82_72, f82_74, f82_76, f82_78, f82_79, f82_80, f82_82, f82_84, f82_86, h82_88, hb59, hb61, hb63, hb65, hb67, hb69, hb71, hb73, hb75, hb77, hb81, hb83, hb85, hb87, hb89⟩ := (hI50 82 (by decide) (by decide) : cp82 (wget w48 82))
        exact xg_e ⟨w48, ⟨rfl, rfl⟩, hI50, (hF51.up (by decide)), ⟨fun _ => hv53, Or.inr hv53, Or.inl ⟨hv54, hv55, hv56, fun s hs => rwv_fr hF51 (by decide)⟩, Or.inl hv53, hv57⟩⟩
    · refine xg_t (xg_icT (u := f82_11) (v := 3) rfl xnm0 xnm0 (xj_neT hc46)) ?_
      refine xg_t (xg_blk (b := [(38, 1, 0, 0, 0, 0), (39, 3, 13, 140, 96, 183), (42, 1, 12, 0, 0, 0)]) rfl) ?_
      refine xg_t (xg_aload (va := (2, 82)) rfl rfl) ?_
      refine xg_cVv mX12_ends (vs := []) (rest := []) (cn1 := 0) (sl1 := 0) rfl (mEnds (hI) hps) rfl h82_31 rfl rfl rfl rfl rfl rfl (fun w90 hq91 => ?_)
      obtain ⟨hI92, hF93, hx94⟩ := hq91
      obtain ⟨hv95, hv96, hv97, hv98, hv99⟩ := hx94
      obtain ⟨f82_100, f82_102, f82_104, f82_106, f82_108, f82_110, f82_112, f82_114, f82_116, f82_118, f82_120, f82_121, f82_122, f82_124, f82_126, f82_128, h82_130, hb101, hb103, hb105, hb107, hb109, hb111, hb113, hb115, hb117, hb119, hb123, hb125, hb127, hb129, hb131⟩ := (hI92 82 (by decide) (by decide) : cp82 (wget w90 82))
      exact xg_e ⟨w90, ⟨rfl, rfl⟩, hI92, (hF93.up (by decide)), ⟨fun _ => hv95, Or.inr hv95, Or.inl ⟨hv96, hv97, hv98, fun s hs => rwv_fr hF93 (by decide)⟩, Or.inl hv95, hv99⟩⟩
  · refine xg_t (xg_ifT (u := f82_17) rfl xnm0 (xj_neT hc45)) ?_
    refine xg_t (xg_blk (b := [(38, 1, 0, 0, 0, 0), (39, 3, 13, 140, 96, 183), (42, 1, 12, 0, 0, 0)]) rfl) ?_
    refine xg_t (xg_aload (va := (2, 82)) rfl rfl) ?_
    refine xg_cVv mX12_ends (vs := []) (rest := []) (cn1 := 0) (sl1 := 0) rfl (mEnds (hI) hps) rfl h82_31 rfl rfl rfl rfl rfl rfl (fun w132 hq133 => ?_)
    obtain ⟨hI134, hF135, hx136⟩ := hq133
    obtain ⟨hv137, hv138, hv139, hv140, hv141⟩ := hx136
    obtain ⟨f82_142, f82_144, f82_146, f82_148, f82_150, f82_152, f82_154, f82_156, f82_158, f82_160, f82_162, f82_163, f82_164, f82_166, f82_168, f82_170, h82_172, hb143, hb145, hb147, hb149, hb151, hb153, hb155, hb157, hb159, hb161, hb165, hb167, hb169, hb171, hb173⟩ := (hI134 82 (by decide) (by decide) : cp82 (wget w132 82))
    exact xg_e ⟨w132, ⟨rfl, rfl⟩, hI134, (hF135.up (by decide)), ⟨fun _ => hv137, Or.inr hv137, Or.inl ⟨hv138, hv139, hv140, fun s hs => rwv_fr hF135 (by decide)⟩, Or.inl hv137, hv141⟩⟩
end XMB
