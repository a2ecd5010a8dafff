/-! the model: lines of films, more -/
section XMB
variable {d : Nat} {w : List (List xE)} {bd : List (Nat × Nat)} {fc : List (Nat × Nat × Bool)} {rr : Nat × Nat}
set_option maxHeartbeats 60000000 in
theorem mALineS2 {at_ : Nat} (hI : xMnv w) (hps : PS w) (hmb : ∀ s, s < 7 → rwv w 85 s ≤ 1000) (hln : fld w 82 14 ≤ 1000) (h7 : fld w 82 7 = 3) (hat : at_ ≤ 4294967295) : xTo (d + 7) mX12_aLine (43, [], [(2, (0, at_)), (1, (0, 2)), (0, (2, 82))], [], (w, bd, fc, 0, 0, rr)) (fun φ => ∃ w', xEnd 0 [] (w', bd, fc, 0, 0, rr) φ ∧ xMnv w' ∧ xFr [82, 83, 85, 86, 87] w w' ∧ ((FA w ≠ 0 → FA w' ≠ 0) ∧ PS w' ∧ ((fld w' 82 10 = 1 ∧ mu w' = mu w ∧ fld w' 82 14 = fld w 82 14 ∧ ∀ s, s < 7 → rwv w' 85 s = rwv w 85 s) ∨ (mu w' < mu w ∧ fld w' 82 14 = fld w 82 14 + 1 ∧ ∀ s, s < 7 → rwv w' 85 s ≤ rwv w 85 s + 1)) ∧ (FA w' ≠ 0 ∨ (DATA w → DATA w')))) := by
  obtain ⟨f82_1, f82_3, f82_5, f82_7, f82_9, f82_11, f82_13, f82_15, f82_17, f82_19, f82_21, f82_22, f82_23, f82_25, f82_27, f82_29, h82_31, hb2, hb4, hb6, hb8, hb10, hb12, hb14, hb16, hb18, hb20, hb24, hb26, hb28, hb30, hb32⟩ := (hI 82 (by decide) (by decide) : cp82 (wget w 82))
  have hf33 : fld w 82 7 = f82_11 := fld_of h82_31
  have hf34 : fld w 82 10 = f82_17 := fld_of h82_31
  have hf35 : fld w 82 14 = f82_19 := fld_of h82_31
  have hps_ : fld w 82 10 = 0 ∨ FA w ≠ 0 := hps
  obtain ⟨g85_36, h85_37, hb38⟩ := (hI 85 (by decide) (by decide) : cpI 7 52 4294967295 (wget w 85))
  have h85_37 : xRow w 85 7 52 g85_36 := h85_37
  obtain ⟨g86_39, h86_40, hb41⟩ := (hI 86 (by decide) (by decide) : cpI 140 53 4294967295 (wget w 86))
  have h86_40 : xRow w 86 140 53 g86_39 := h86_40
  obtain ⟨g87_42, h87_43, hb44⟩ := (hI 87 (by decide) (by decide) : cpI 20 54 4294967295 (wget w 87))
  have h87_43 : xRow w 87 20 54 g87_42 := h87_43
  refine xg_t (xg_blk (b := [(43, 1, 0, 0, 0, 0), (44, 3, 1, 12, 11, 17), (47, 1, 2, 1, 0, 0), (48, 1, 10, 0, 0, 0), (49, 1, 15, 3, 0, 0), (50, 1, 2, 3, 0, 0), (51, 1, 2, 1, 0, 0), (52, 3, 13, 194, 98, 193), (55, 3, 6, 64, 2, 0), (58, 1, 0, 0, 0, 0), (59, 1, 3, 3, 0, 0), (60, 1, 2, 2, 0, 0), (61, 3, 13, 115, 96, 186)]) rfl) ?_
  refine xg_t (xg_aload (va := (2, 82)) rfl rfl) ?_
  refine xg_t (xg_getf (va := (2, 85)) h82_31 rfl) ?_
  refine xg_t (xg_iload (va := (0, 2)) rfl rfl) ?_
  refine xg_ialdB (n := 2) (B := 4294967295) h85_37 (hb38) xnm0 (by omega) (fun u45 hu46 he47 => ?_)
  have hK48 : rwv w 85 2 = u45 := (rwv_of h85_37 (by decide)).trans he47
  have hm49 := hmb 2 (by decide)
  have hl50 : u45 ≤ 1000 := by omega
  refine xg_t (xg_istore (l1 := [(2, (0, at_)), (1, (0, 2)), (0, (2, 82))]) rfl rfl rfl) ?_
  refine xg_t (xg_iload (va := (0, u45)) rfl rfl) ?_
  refine xg_t (xg_iload (va := (0, 2)) rfl rfl) ?_
  refine xg_t (xg_cSr mX12_mostOf (vs := [(0, 2)]) (rest := [(0, u45)]) (rs := [(0, 6), (0, u45)]) (cn1 := 0) (sl1 := 0) rfl (mMostR2) rfl rfl rfl rfl rfl rfl rfl rfl) ?_
  by_cases hc51 : u45 < 6
  · refine xg_t (xg_icT (u := u45) (v := 6) rfl xnm0 xnm0 (xj_ltT hc51 (by omega))) ?_
    refine xg_t (xg_blk (b := [(64, 1, 0, 0, 0, 0), (65, 3, 13, 110, 96, 190), (68, 1, 2, 1, 0, 0), (69, 39, 33, 362, 0, 9)]) rfl) ?_
    refine xg_t (xg_aload (va := (2, 82)) rfl rfl) ?_
    refine xg_cVv mX12_advance (vs := []) (rest := []) (cn1 := 0) (sl1 := 0) rfl (mAdvance (hI)) rfl h82_31 rfl rfl rfl rfl rfl rfl (fun w52 hq53 => ?_)
    obtain ⟨hI54, hF55, hx56⟩ := hq53
    clear hb2 hb4 hb6 hb8 hb10 hb12 hb14 hb16 hb18 hb20 hb24 hb26 hb28 hb30
    obtain ⟨hv57, hv58, hv59, hv60⟩ := hx56
    have hf62 := FA_fr hF55 (by decide)
    have hs63 := (PK.rf hps).2.2.2
    unfold PS at hs63
    have pk61 : PK w w52 := ⟨fun _ => by omega, hv57, hv60, (show fld w52 82 10 = 0 ∨ FA w52 ≠ 0 by omega)⟩
    clear hs63
    have pk64 : PK w w52 := PK.tr (PK.rf hps) pk61
    have os65 : ∀ j, (j < 60 + 2 * u45 ∨ 62 + 2 * u45 ≤ j) → j < 140 → rwv w52 86 j = rwv w 86 j := fun j hj hl => (rwv_fr hF55 (by decide)).trans ((fun j _ _ => rfl) j hj hl)
    have ms66 : mu w52 < mu w := Nat.lt_of_lt_of_le (hv58 (by omega)) (PK.rf hps).2.1
    clear hv58
    have jn67 : ∀ (w68 : List (List xE)), xMnv w68 → xFr [82, 83, 85, 86, 87] w w68 → (PK w w68 ∧ (∀ j, (j < 60 + 2 * u45 ∨ 62 + 2 * u45 ≤ j) → j < 140 → rwv w68 86 j = rwv w 86 j) ∧ mu w68 < mu w ∧ (FA w68 ≠ 0 ∨ u45 < 6)) → xTo (d + 7) mX12_aLine (394, [], [(0, (2, 82)), (1, (0, 2)), (3, (0, u45))], [], (w68, bd, fc, 0, 0, rr)) (fun φ => ∃ w', xEnd 0 [] (w', bd, fc, 0, 0, rr) φ ∧ xMnv w' ∧ xFr [82, 83, 85, 86, 87] w w' ∧ ((FA w ≠ 0 → FA w' ≠ 0) ∧ PS w' ∧ ((fld w' 82 10 = 1 ∧ mu w' = mu w ∧ fld w' 82 14 = fld w 82 14 ∧ ∀ s, s < 7 → rwv w' 85 s = rwv w 85 s) ∨ (mu w' < mu w ∧ fld w' 82 14 = fld w 82 14 + 1 ∧ ∀ s, s < 7 → rwv w' 85 s ≤ rwv w 85 s + 1)) ∧ (FA w' ≠ 0 ∨ (DATA w → DATA w')))) := by
      intro w68 hI69 hF70 he71
      obtain ⟨hj72, hj73, hj74, hj75⟩ := he71
      refine xg_t (xg_blk (b := [(394, 1, 0, 0, 0, 0), (395, 3, 1, 12, 10, 180), (398, 3, 7, 416, 1, 0), (401, 1, 0, 0, 0, 0), (402, 3, 1, 12, 7, 151), (405, 1, 3, 2, 0, 0), (406, 3, 6, 416, 1, 0), (409, 1, 0, 0, 0, 0), (410, 3, 13, 110, 96, 190), (413, 3, 8, 420, 0, 0)]) rfl) ?_
      refine xg_t (xg_aload (va := (2, 82)) rfl rfl) ?_
      obtain ⟨f82_76, f82_78, f82_80, f82_82, f82_84, f82_86, f82_88, f82_90, f82_92, f82_94, f82_96, f82_97, f82_98, f82_100, f82_102, f82_104, h82_106, hb77, hb79, hb81, hb83, hb85, hb87, hb89, hb91, hb93, hb95, hb99, hb101, hb103, hb105, hb107⟩ := (hI69 82 (by decide) (by decide) : cp82 (wget w68 82))
      refine xg_t (xg_getf (va := (0, f82_92)) h82_106 rfl) ?_
      by_cases hc108 : f82_92 = 0
      · refine xg_t (xg_ifF (u := f82_92) rfl xnm0 (xj_neF hc108)) ?_
        refine xg_t (xg_aload (va := (2, 82)) rfl rfl) ?_
        refine xg_t (xg_getf (va := (0, f82_86)) h82_106 rfl) ?_
        refine xg_t (xg_const) ?_
        by_cases hc109 : f82_86 = 2
        · refine xg_t (xg_icF (u := f82_86) (v := 2) rfl xnm0 xnm0 (xj_neF hc109)) ?_
          refine xg_t (xg_aload (va := (2, 82)) rfl rfl) ?_
          refine xg_cVv mX12_advance (vs := []) (rest := []) (cn1 := 0) (sl1 := 0) rfl (mAdvance (hI69)) rfl h82_106 rfl rfl rfl rfl rfl rfl (fun w110 hq111 => ?_)
          obtain ⟨hI112, hF113, hx114⟩ := hq111
          clear hb77 hb79 hb81 hb83 hb85 hb87 hb89 hb91 hb93 hb95 hb99 hb101 hb103 hb105
          obtain ⟨hv115, hv116, hv117, hv118⟩ := hx114
          have hf120 := FA_fr hF113 (by decide)
          have hs121 := hj72.2.2.2
          unfold PS at hs121
          have pk119 : PK w68 w110 := ⟨fun _ => by omega, hv115, hv118, (show fld w110 82 10 = 0 ∨ FA w110 ≠ 0 by omega)⟩
          clear hs121
          clear hv116
          have pk122 : PK w w110 := PK.tr hj72 pk119
          have os123 : ∀ j, (j < 60 + 2 * u45 ∨ 62 + 2 * u45 ≤ j) → j < 140 → rwv w110 86 j = rwv w 86 j := fun j hj hl => (rwv_fr hF113 (by decide)).trans (hj73 j hj hl)
          have rg124 : FA w110 ≠ 0 ∨ u45 < 6 := hj75.imp_left pk119.1
          have ms125 : mu w110 < mu w := Nat.lt_of_le_of_lt pk119.2.1 hj74
          clear hj75
          refine xg_t (xg_goto) ?_
          refine xg_t (xg_blk (b := [(420, 1, 0, 0, 0, 0), (421, 3, 1, 12, 11, 17), (424, 1, 2, 1, 0, 0), (425, 1, 39, 0, 0, 0), (426, 1, 10, 0, 0, 0), (427, 1, 3, 1, 0, 0), (428, 1, 11, 0, 0, 0), (429, 1, 17, 0, 0, 0), (430, 1, 0, 0, 0, 0), (431, 1, 19, 0, 0, 0), (432, 3, 1, 12, 14, 212), (435, 1, 3, 1, 0, 0), (436, 1, 11, 0, 0, 0), (437, 3, 14, 12, 14, 212), (440, 1, 12, 0, 0, 0)]) rfl) ?_
          obtain ⟨f82_126, f82_128, f82_130, f82_132, f82_134, f82_136, f82_138, f82_140, f82_142, f82_144, f82_146, f82_147, f82_148, f82_150, f82_152, f82_154, h82_156, hb127, hb129, hb131, hb133, hb135, hb137, hb139, hb141, hb143, hb145, hb149, hb151, hb153, hb155, hb157⟩ := (hI112 82 (by decide) (by decide) : cp82 (wget w110 82))
          have hf158 : fld w110 82 4 = f82_130 := fld_of h82_156
          have hf159 : fld w110 82 5 = f82_132 := fld_of h82_156
          have hf160 : fld w110 82 7 = f82_136 := fld_of h82_156
          have hf161 : fld w110 82 10 = f82_142 := fld_of h82_156
          have hf162 : fld w110 82 14 = f82_144 := fld_of h82_156
          have hu163 : mu w110 = 2 * (fld w110 82 4 - fld w110 82 5) + min 1 (fld w110 82 7) := rfl
          have hf164 := pk122.2.2.1
          have hl165 : f82_144 ≤ 1000 := by omega
          refine xg_t (xg_aload (va := (2, 82)) rfl rfl) ?_
          refine xg_t (xg_getf (va := (2, 85)) h82_156 rfl) ?_
          refine xg_t (xg_iload (va := (0, 2)) rfl rfl) ?_
          refine xg_t (xg_dup2 rfl) ?_
          obtain ⟨g85_166, h85_167, hb168⟩ := (hI112 85 (by decide) (by decide) : cpI 7 52 4294967295 (wget w110 85))
          have h85_167 : xRow w110 85 7 52 g85_166 := h85_167
          refine xg_ialdB (n := 2) (B := 4294967295) h85_167 (hb168) xnm0 (by omega) (fun u169 hu170 he171 => ?_)
          have hl172 : u169 = u45 := by omega
          refine xg_t (xg_const) ?_
          refine xg_t (xg_iadd (u := u169) (v := 1) (z := u169 + 1) xnm0 xnm0 (by omega)) ?_
          refine xg_iastK (n := 2) (u := u169 + 1) h85_167 xnm0 xnm0 rfl (by omega) (fun w173 hr174 hb175 => ?_)
          refine xg_t (xg_aload (va := (2, 82)) rfl rfl) ?_
          refine xg_t (xg_dup rfl) ?_
          refine xg_t (xg_getf (va := (0, f82_144)) (hb175.get (by decide) h82_156) rfl) ?_
          refine xg_t (xg_const) ?_
          refine xg_t (xg_iadd (u := f82_144) (v := 1) (z := f82_144 + 1) xnm0 xnm0 (by omega)) ?_
          refine xg_putI (fl1 := [(2, 83), (2, 84), (0, f82_126), (0, f82_128), (0, f82_130), (0, f82_132), (0, f82_134), (0, f82_136), (0, f82_138), (0, f82_140), (0, f82_142), (2, 85), (2, 86), (2, 87), (0, f82_144 + 1), (2, 88), (2, 89), (2, 90), (2, 91), (2, 92), (2, 93), (2, 94), (4, f82_146), (4, f82_147), (0, f82_148), (2, 95), (2, 96), (2, 97), (2, 98), (2, 99), (2, 100), (2, 101), (2, 102), (0, f82_150), (2, 103), (2, 104), (2, 105), (2, 106), (2, 107), (2, 108), (2, 109), (0, f82_152), (0, f82_154), (2, 110), (2, 111), (2, 112), (2, 113)]) (hb175.get (by decide) h82_156) rfl rfl rfl (fun w176 hk177 hb178 => ?_)
          have hF179 : xFr [82, 85] w110 w176 := ((xFr.of (S := [82, 85]) hb175 (by decide)).tr (xFr.of (S := [82, 85]) hb178 (by decide)))
          have hA180 := FA_fr hF179 (by decide)
          have hf181 : fld w176 82 4 = f82_130 := fld_of hk177
          have hf182 : fld w176 82 5 = f82_132 := fld_of hk177
          have hf183 : fld w176 82 7 = f82_136 := fld_of hk177
          have hf184 : fld w176 82 10 = f82_142 := fld_of hk177
          have hf185 : fld w176 82 14 = f82_144 + 1 := fld_of hk177
          have hu186 : mu w176 = 2 * (fld w176 82 4 - fld w176 82 5) + min 1 (fld w176 82 7) := rfl
          have pq187 := pk122
          unfold PK PS at pq187
          have hM188 : ∀ s, s < 7 → s ≠ 2 → rwv w176 85 s = rwv w 85 s := fun s hs hn => (rwv_of (hr174.but hb178 (by decide)) hs).trans ((if_neg hn).trans (rwv_of h85_37 hs).symm)
          have hM189 : rwv w176 85 2 = u45 + 1 := (rwv_of (hr174.but hb178 (by decide)) (by decide)).trans ((if_pos rfl).trans (by omega))
          have hM190 : ∀ s, s < 7 → rwv w176 85 s ≤ rwv w 85 s + 1 := fun s hs => by
            by_cases z : s = 2
            · subst z; omega
            · rw [hM188 s hs z]; omega
          have hO191 : ∀ j, (j < 60 + 2 * u45 ∨ 62 + 2 * u45 ≤ j) → j < 140 → rwv w176 86 j = rwv w 86 j := fun j hj hl => (rwv_fr hF179 (by decide)).trans (os123 j hj hl)
          have hl193 : FA w110 ≠ 0 ∨ u45 < 6 := rg124
          have hN192 : FA w176 ≠ 0 ∨ 6 ≤ u45 ∨ True := Or.inr (Or.inr trivial)
          have hX194 : FA w176 ≠ 0 ∨ u45 < 6 := by omega
          have hD195 : FA w176 ≠ 0 ∨ (DATA w → DATA w176) := by
            by_cases z : FA w176 ≠ 0
            · exact Or.inl z
            · exact Or.inr (fun hd => hd.s2 hM188 hK48 hM189 (hX194.resolve_left z) hO191 ((hN192.resolve_left z).resolve_left (by have := hX194.resolve_left z; omega)))
          exact xg_e ⟨w176, ⟨rfl, rfl⟩, xMnv.up (S := [85, 82]) hI112 ((xFr.of (S := [85, 82]) hb175 (by decide)).tr (xFr.of (S := [85, 82]) hb178 (by decide))) (List.forall_mem_cons.mpr ⟨(show cpI 7 52 4294967295 (wget w176 85) from ⟨_, (hr174.but hb178 (by decide)), xrb (by omega) (hb168)⟩), List.forall_mem_cons.mpr ⟨(show cp82 (wget w176 82) from ⟨f82_126, f82_128, f82_130, f82_132, f82_134, f82_136, f82_138, f82_140, f82_142, f82_144 + 1, f82_146, f82_147, f82_148, f82_150, f82_152, f82_154, hk177, hb127, hb129, hb131, hb133, hb135, hb137, hb139, hb141, hb143, by omega, hb149, hb151, hb153, hb155, by omega⟩), fun _ h => absurd h List.not_mem_nil⟩⟩), ((hF70.tr (hF113.up (by decide))).tr ((xFr.of (S := [82, 83, 85, 86, 87]) hb175 (by decide)).tr (xFr.of (S := [82, 83, 85, 86, 87]) hb178 (by decide)))), ⟨fun h => by have := pq187.1 h; omega, (show fld w176 82 10 = 0 ∨ FA w176 ≠ 0 by omega), Or.inr ⟨by have := ms125; omega, by omega, hM190⟩, hD195⟩⟩
        · refine xg_t (xg_icT (u := f82_86) (v := 2) rfl xnm0 xnm0 (xj_neT hc109)) ?_
          refine xg_t (xg_blk (b := [(416, 1, 0, 0, 0, 0), (417, 3, 13, 140, 96, 183)]) rfl) ?_
          refine xg_t (xg_aload (va := (2, 82)) rfl rfl) ?_
          refine xg_cVv mX12_ends (vs := []) (rest := []) (cn1 := 0) (sl1 := 0) rfl (mEnds (hI69) hj72.2.2.2) rfl h82_106 rfl rfl rfl rfl rfl rfl (fun w196 hq197 => ?_)
          obtain ⟨hI198, hF199, hx200⟩ := hq197
          clear hb77 hb79 hb81 hb83 hb85 hb87 hb89 hb91 hb93 hb95 hb99 hb101 hb103 hb105
          obtain ⟨hv201, hv202, hv203, hv204⟩ := hx200
          have pk205 : PK w68 w196 := ⟨fun _ => hv201, by omega, by omega, Or.inr hv201⟩
          have pk206 : PK w w196 := PK.tr hj72 pk205
          have os207 : ∀ j, (j < 60 + 2 * u45 ∨ 62 + 2 * u45 ≤ j) → j < 140 → rwv w196 86 j = rwv w 86 j := fun j hj hl => (rwv_fr hF199 (by decide)).trans (hj73 j hj hl)
          have rg208 : FA w196 ≠ 0 ∨ u45 < 6 := hj75.imp_left pk205.1
          have ms209 : mu w196 < mu w := Nat.lt_of_le_of_lt pk205.2.1 hj74
          clear hj75
          refine xg_t (xg_blk (b := [(420, 1, 0, 0, 0, 0), (421, 3, 1, 12, 11, 17), (424, 1, 2, 1, 0, 0), (425, 1, 39, 0, 0, 0), (426, 1, 10, 0, 0, 0), (427, 1, 3, 1, 0, 0), (428, 1, 11, 0, 0, 0), (429, 1, 17, 0, 0, 0), (430, 1, 0, 0, 0, 0), (431, 1, 19, 0, 0, 0), (432, 3, 1, 12, 14, 212), (435, 1, 3, 1, 0, 0), (436, 1, 11, 0, 0, 0), (437, 3, 14, 12, 14, 212), (440, 1, 12, 0, 0, 0)]) rfl) ?_
          obtain ⟨f82_210, f82_212, f82_214, f82_216, f82_218, f82_220, f82_222, f82_224, f82_226, f82_228, f82_230, f82_231, f82_232, f82_234, f82_236, f82_238, h82_240, hb211, hb213, hb215, hb217, hb219, hb221, hb223, hb225, hb227, hb229, hb233, hb235, hb237, hb239, hb241⟩ := (hI198 82 (by decide) (by decide) : cp82 (wget w196 82))
          have hf242 : fld w196 82 4 = f82_214 := fld_of h82_240
          have hf243 : fld w196 82 5 = f82_216 := fld_of h82_240
          have hf244 : fld w196 82 7 = f82_220 := fld_of h82_240
          have hf245 : fld w196 82 10 = f82_226 := fld_of h82_240
          have hf246 : fld w196 82 14 = f82_228 := fld_of h82_240
          have hu247 : mu w196 = 2 * (fld w196 82 4 - fld w196 82 5) + min 1 (fld w196 82 7) := rfl
          have hf248 := pk206.2.2.1
          have hl249 : f82_228 ≤ 1000 := by omega
          refine xg_t (xg_aload (va := (2, 82)) rfl rfl) ?_
          refine xg_t (xg_getf (va := (2, 85)) h82_240 rfl) ?_
          refine xg_t (xg_iload (va := (0, 2)) rfl rfl) ?_
          refine xg_t (xg_dup2 rfl) ?_
          obtain ⟨g85_250, h85_251, hb252⟩ := (hI198 85 (by decide) (by decide) : cpI 7 52 4294967295 (wget w196 85))
          have h85_251 : xRow w196 85 7 52 g85_250 := h85_251
          refine xg_ialdB (n := 2) (B := 4294967295) h85_251 (hb252) xnm0 (by omega) (fun u253 hu254 he255 => ?_)
          have hl256 : u253 = u45 := by omega
          refine xg_t (xg_const) ?_
          refine xg_t (xg_iadd (u := u253) (v := 1) (z := u253 + 1) xnm0 xnm0 (by omega)) ?_
          refine xg_iastK (n := 2) (u := u253 + 1) h85_251 xnm0 xnm0 rfl (by omega) (fun w257 hr258 hb259 => ?_)
          refine xg_t (xg_aload (va := (2, 82)) rfl rfl) ?_
          refine xg_t (xg_dup rfl) ?_
          refine xg_t (xg_getf (va := (0, f82_228)) (hb259.get (by decide) h82_240) rfl) ?_
          refine xg_t (xg_const) ?_
          refine xg_t (xg_iadd (u := f82_228) (v := 1) (z := f82_228 + 1) xnm0 xnm0 (by omega)) ?_
          refine xg_putI (fl1 := [(2, 83), (2, 84), (0, f82_210), (0, f82_212), (0, f82_214), (0, f82_216), (0, f82_218), (0, f82_220), (0, f82_222), (0, f82_224), (0, f82_226), (2, 85), (2, 86), (2, 87), (0, f82_228 + 1), (2, 88), (2, 89), (2, 90), (2, 91), (2, 92), (2, 93), (2, 94), (4, f82_230), (4, f82_231), (0, f82_232), (2, 95), (2, 96), (2, 97), (2, 98), (2, 99), (2, 100), (2, 101), (2, 102), (0, f82_234), (2, 103), (2, 104), (2, 105), (2, 106), (2, 107), (2, 108), (2, 109), (0, f82_236), (0, f82_238), (2, 110), (2, 111), (2, 112), (2, 113)]) (hb259.get (by decide) h82_240) rfl rfl rfl (fun w260 hk261 hb262 => ?_)
          have hF263 : xFr [82, 85] w196 w260 := ((xFr.of (S := [82, 85]) hb259 (by decide)).tr (xFr.of (S := [82, 85]) hb262 (by decide)))
          have hA264 := FA_fr hF263 (by decide)
          have hf265 : fld w260 82 4 = f82_214 := fld_of hk261
          have hf266 : fld w260 82 5 = f82_216 := fld_of hk261
          have hf267 : fld w260 82 7 = f82_220 := fld_of hk261
          have hf268 : fld w260 82 10 = f82_226 := fld_of hk261
          have hf269 : fld w260 82 14 = f82_228 + 1 := fld_of hk261
          have hu270 : mu w260 = 2 * (fld w260 82 4 - fld w260 82 5) + min 1 (fld w260 82 7) := rfl
          have pq271 := pk206
          unfold PK PS at pq271
          have hM272 : ∀ s, s < 7 → s ≠ 2 → rwv w260 85 s = rwv w 85 s := fun s hs hn => (rwv_of (hr258.but hb262 (by decide)) hs).trans ((if_neg hn).trans (rwv_of h85_37 hs).symm)
          have hM273 : rwv w260 85 2 = u45 + 1 := (rwv_of (hr258.but hb262 (by decide)) (by decide)).trans ((if_pos rfl).trans (by omega))
          have hM274 : ∀ s, s < 7 → rwv w260 85 s ≤ rwv w 85 s + 1 := fun s hs => by
            by_cases z : s = 2
            · subst z; omega
            · rw [hM272 s hs z]; omega
          have hO275 : ∀ j, (j < 60 + 2 * u45 ∨ 62 + 2 * u45 ≤ j) → j < 140 → rwv w260 86 j = rwv w 86 j := fun j hj hl => (rwv_fr hF263 (by decide)).trans (os207 j hj hl)
          have hl277 : FA w196 ≠ 0 ∨ u45 < 6 := rg208
          have hN276 : FA w260 ≠ 0 ∨ 6 ≤ u45 ∨ True := Or.inr (Or.inr trivial)
          have hX278 : FA w260 ≠ 0 ∨ u45 < 6 := by omega
          have hD279 : FA w260 ≠ 0 ∨ (DATA w → DATA w260) := by
            by_cases z : FA w260 ≠ 0
            · exact Or.inl z
            · exact Or.inr (fun hd => hd.s2 hM272 hK48 hM273 (hX278.resolve_left z) hO275 ((hN276.resolve_left z).resolve_left (by have := hX278.resolve_left z; omega)))
          exact xg_e ⟨w260, ⟨rfl, rfl⟩, xMnv.up (S := [85, 82]) hI198 ((xFr.of (S := [85, 82]) hb259 (by decide)).tr (xFr.of (S := [85, 82]) hb262 (by decide))) (List.forall_mem_cons.mpr ⟨(show cpI 7 52 4294967295 (wget w260 85) from ⟨_, (hr258.but hb262 (by decide)), xrb (by omega) (hb252)⟩), List.forall_mem_cons.mpr ⟨(show cp82 (wget w260 82) from ⟨f82_210, f82_212, f82_214, f82_216, f82_218, f82_220, f82_222, f82_224, f82_226, f82_228 + 1, f82_230, f82_231, f82_232, f82_234, f82_236, f82_238, hk261, hb211, hb213, hb215, hb217, hb219, hb221, hb223, hb225, hb227, by omega, hb233, hb235, hb237, hb239, by omega⟩), fun _ h => absurd h List.not_mem_nil⟩⟩), ((hF70.tr (hF199.up (by decide))).tr ((xFr.of (S := [82, 83, 85, 86, 87]) hb259 (by decide)).tr (xFr.of (S := [82, 83, 85, 86, 87]) hb262 (by decide)))), ⟨fun h => by have := pq271.1 h; omega, (show fld w260 82 10 = 0 ∨ FA w260 ≠ 0 by omega), Or.inr ⟨by have := ms209; omega, by omega, hM274⟩, hD279⟩⟩
      · refine xg_t (xg_ifT (u := f82_92) rfl xnm0 (xj_neT hc108)) ?_
        refine xg_t (xg_blk (b := [(416, 1, 0, 0, 0, 0), (417, 3, 13, 140, 96, 183)]) rfl) ?_
        refine xg_t (xg_aload (va := (2, 82)) rfl rfl) ?_
        refine xg_cVv mX12_ends (vs := []) (rest := []) (cn1 := 0) (sl1 := 0) rfl (mEnds (hI69) hj72.2.2.2) rfl h82_106 rfl rfl rfl rfl rfl rfl (fun w280 hq281 => ?_)
        obtain ⟨hI282, hF283, hx284⟩ := hq281
        clear hb77 hb79 hb81 hb83 hb85 hb87 hb89 hb91 hb93 hb95 hb99 hb101 hb103 hb105
        obtain ⟨hv285, hv286, hv287, hv288⟩ := hx284
        have pk289 : PK w68 w280 := ⟨fun _ => hv285, by omega, by omega, Or.inr hv285⟩
        have pk290 : PK w w280 := PK.tr hj72 pk289
        have os291 : ∀ j, (j < 60 + 2 * u45 ∨ 62 + 2 * u45 ≤ j) → j < 140 → rwv w280 86 j = rwv w 86 j := fun j hj hl => (rwv_fr hF283 (by decide)).trans (hj73 j hj hl)
        have rg292 : FA w280 ≠ 0 ∨ u45 < 6 := hj75.imp_left pk289.1
        have ms293 : mu w280 < mu w := Nat.lt_of_le_of_lt pk289.2.1 hj74
        clear hj75
        refine xg_t (xg_blk (b := [(420, 1, 0, 0, 0, 0), (421, 3, 1, 12, 11, 17), (424, 1, 2, 1, 0, 0), (425, 1, 39, 0, 0, 0), (426, 1, 10, 0, 0, 0), (427, 1, 3, 1, 0, 0), (428, 1, 11, 0, 0, 0), (429, 1, 17, 0, 0, 0), (430, 1, 0, 0, 0, 0), (431, 1, 19, 0, 0, 0), (432, 3, 1, 12, 14, 212), (435, 1, 3, 1, 0, 0), (436, 1, 11, 0, 0, 0), (437, 3, 14, 12, 14, 212), (440, 1, 12, 0, 0, 0)]) rfl) ?_
        obtain ⟨f82_294, f82_296, f82_298, f82_300, f82_302, f82_304, f82_306, f82_308, f82_310, f82_312, f82_314, f82_315, f82_316, f82_318, f82_320, f82_322, h82_324, hb295, hb297, hb299, hb301, hb303, hb305, hb307, hb309, hb311, hb313, hb317, hb319, hb321, hb323, hb325⟩ := (hI282 82 (by decide) (by decide) : cp82 (wget w280 82))
        have hf326 : fld w280 82 4 = f82_298 := fld_of h82_324
        have hf327 : fld w280 82 5 = f82_300 := fld_of h82_324
        have hf328 : fld w280 82 7 = f82_304 := fld_of h82_324
        have hf329 : fld w280 82 10 = f82_310 := fld_of h82_324
        have hf330 : fld w280 82 14 = f82_312 := fld_of h82_324
        have hu331 : mu w280 = 2 * (fld w280 82 4 - fld w280 82 5) + min 1 (fld w280 82 7) := rfl
        have hf332 := pk290.2.2.1
        have hl333 : f82_312 ≤ 1000 := by omega
        refine xg_t (xg_aload (va := (2, 82)) rfl rfl) ?_
        refine xg_t (xg_getf (va := (2, 85)) h82_324 rfl) ?_
        refine xg_t (xg_iload (va := (0, 2)) rfl rfl) ?_
        refine xg_t (xg_dup2 rfl) ?_
        obtain ⟨g85_334, h85_335, hb336⟩ := (hI282 85 (by decide) (by decide) : cpI 7 52 4294967295 (wget w280 85))
        have h85_335 : xRow w280 85 7 52 g85_334 := h85_335
        refine xg_ialdB (n := 2) (B := 4294967295) h85_335 (hb336) xnm0 (by omega) (fun u337 hu338 he339 => ?_)
        have hl340 : u337 = u45 := by omega
        refine xg_t (xg_const) ?_
        refine xg_t (xg_iadd (u := u337) (v := 1) (z := u337 + 1) xnm0 xnm0 (by omega)) ?_
        refine xg_iastK (n := 2) (u := u337 + 1) h85_335 xnm0 xnm0 rfl (by omega) (fun w341 hr342 hb343 => ?_)
        refine xg_t (xg_aload (va := (2, 82)) rfl rfl) ?_
        refine xg_t (xg_dup rfl) ?_
        refine xg_t (xg_getf (va := (0, f82_312)) (hb343.get (by decide) h82_324) rfl) ?_
        refine xg_t (xg_const) ?_
        refine xg_t (xg_iadd (u := f82_312) (v := 1) (z := f82_312 + 1) xnm0 xnm0 (by omega)) ?_
        refine xg_putI (fl1 := [(2, 83), (2, 84), (0, f82_294), (0, f82_296), (0, f82_298), (0, f82_300), (0, f82_302), (0, f82_304), (0, f82_306), (0, f82_308), (0, f82_310), (2, 85), (2, 86), (2, 87), (0, f82_312 + 1), (2, 88), (2, 89), (2, 90), (2, 91), (2, 92), (2, 93), (2, 94), (4, f82_314), (4, f82_315), (0, f82_316), (2, 95), (2, 96), (2, 97), (2, 98), (2, 99), (2, 100), (2, 101), (2, 102), (0, f82_318), (2, 103), (2, 104), (2, 105), (2, 106), (2, 107), (2, 108), (2, 109), (0, f82_320), (0, f82_322), (2, 110), (2, 111), (2, 112), (2, 113)]) (hb343.get (by decide) h82_324) rfl rfl rfl (fun w344 hk345 hb346 => ?_)
        have hF347 : xFr [82, 85] w280 w344 := ((xFr.of (S := [82, 85]) hb343 (by decide)).tr (xFr.of (S := [82, 85]) hb346 (by decide)))
        have hA348 := FA_fr hF347 (by decide)
        have hf349 : fld w344 82 4 = f82_298 := fld_of hk345
        have hf350 : fld w344 82 5 = f82_300 := fld_of hk345
        have hf351 : fld w344 82 7 = f82_304 := fld_of hk345
        have hf352 : fld w344 82 10 = f82_310 := fld_of hk345
        have hf353 : fld w344 82 14 = f82_312 + 1 := fld_of hk345
        have hu354 : mu w344 = 2 * (fld w344 82 4 - fld w344 82 5) + min 1 (fld w344 82 7) := rfl
        have pq355 := pk290
        unfold PK PS at pq355
        have hM356 : ∀ s, s < 7 → s ≠ 2 → rwv w344 85 s = rwv w 85 s := fun s hs hn => (rwv_of (hr342.but hb346 (by decide)) hs).trans ((if_neg hn).trans (rwv_of h85_37 hs).symm)
        have hM357 : rwv w344 85 2 = u45 + 1 := (rwv_of (hr342.but hb346 (by decide)) (by decide)).trans ((if_pos rfl).trans (by omega))
        have hM358 : ∀ s, s < 7 → rwv w344 85 s ≤ rwv w 85 s + 1 := fun s hs => by
          by_cases z : s = 2
          · subst z; omega
          · rw [hM356 s hs z]; omega
        have hO359 : ∀ j, (j < 60 + 2 * u45 ∨ 62 + 2 * u45 ≤ j) → j < 140 → rwv w344 86 j = rwv w 86 j := fun j hj hl => (rwv_fr hF347 (by decide)).trans (os291 j hj hl)
        have hl361 : FA w280 ≠ 0 ∨ u45 < 6 := rg292
        have hN360 : FA w344 ≠ 0 ∨ 6 ≤ u45 ∨ True := Or.inr (Or.inr trivial)
        have hX362 : FA w344 ≠ 0 ∨ u45 < 6 := by omega
        have hD363 : FA w344 ≠ 0 ∨ (DATA w → DATA w344) := by
          by_cases z : FA w344 ≠ 0
          · exact Or.inl z
          · exact Or.inr (fun hd => hd.s2 hM356 hK48 hM357 (hX362.resolve_left z) hO359 ((hN360.resolve_left z).resolve_left (by have := hX362.resolve_left z; omega)))
        exact xg_e ⟨w344, ⟨rfl, rfl⟩, xMnv.up (S := [85, 82]) hI282 ((xFr.of (S := [85, 82]) hb343 (by decide)).tr (xFr.of (S := [85, 82]) hb346 (by decide))) (List.forall_mem_cons.mpr ⟨(show cpI 7 52 4294967295 (wget w344 85) from ⟨_, (hr342.but hb346 (by decide)), xrb (by omega) (hb336)⟩), List.forall_mem_cons.mpr ⟨(show cp82 (wget w344 82) from ⟨f82_294, f82_296, f82_298, f82_300, f82_302, f82_304, f82_306, f82_308, f82_310, f82_312 + 1, f82_314, f82_315, f82_316, f82_318, f82_320, f82_322, hk345, hb295, hb297, hb299, hb301, hb303, hb305, hb307, hb309, hb311, by omega, hb317, hb319, hb321, hb323, by omega⟩), fun _ h => absurd h List.not_mem_nil⟩⟩), ((hF70.tr (hF283.up (by decide))).tr ((xFr.of (S := [82, 83, 85, 86, 87]) hb343 (by decide)).tr (xFr.of (S := [82, 83, 85, 86, 87]) hb346 (by decide)))), ⟨fun h => by have := pq355.1 h; omega, (show fld w344 82 10 = 0 ∨ FA w344 ≠ 0 by omega), Or.inr ⟨by have := ms293; omega, by omega, hM358⟩, hD363⟩⟩
    refine xg_t (xg_iload (va := (0, 2)) rfl rfl) ?_
    refine xg_t (xg_swt (ks := [(0, 108), (1, 116), (2, 180), (3, 221), (4, 273), (5, 326)]) (u := 2) (z := 180) rfl rfl rfl xnm0 (xsw_n (by omega) (xsw_n (by omega) (xsw_y rfl)))) ?_
    refine xg_t (xg_blk (b := [(180, 1, 3, 0, 0, 0), (181, 2, 15, 4, 0, 0)]) rfl) ?_
    refine xg_t (xg_const) ?_
    refine xg_t (xg_istore (l1 := [(3, (0, u45)), (2, (0, at_)), (1, (0, 2)), (0, (2, 82))]) rfl rfl rfl) ?_
    refine xg_t (xg_blk (b := [(183, 2, 2, 4, 0, 0), (185, 1, 3, 2, 0, 0), (186, 3, 6, 218, 3, 0), (189, 1, 0, 0, 0, 0), (190, 1, 2, 1, 0, 0), (191, 1, 2, 3, 0, 0), (192, 2, 4, 60, 0, 0), (194, 1, 3, 2, 0, 0), (195, 1, 2, 3, 0, 0), (196, 1, 16, 0, 0, 0), (197, 1, 11, 0, 0, 0), (198, 2, 2, 4, 0, 0), (200, 1, 11, 0, 0, 0), (201, 1, 0, 0, 0, 0), (202, 1, 3, 1, 0, 0), (203, 3, 5, 9999, 0, 0), (206, 3, 13, 199, 96, 196), (209, 3, 13, 211, 96, 200), (212, 3, 9, 4, 1, 0), (215, 3, 8, 183, 0, 0)]) rfl) ?_
    refine xg_t (xg_iload (va := (0, 0)) rfl rfl) ?_
    refine xg_t (xg_const) ?_
    refine xg_t (xg_icF (u := 0) (v := 2) rfl xnm0 xnm0 (by decide)) ?_
    refine xg_t (xg_aload (va := (2, 82)) rfl rfl) ?_
    refine xg_t (xg_iload (va := (0, 2)) rfl rfl) ?_
    refine xg_t (xg_iload (va := (0, u45)) rfl rfl) ?_
    refine xg_t (xg_bip) ?_
    refine xg_t (xg_const) ?_
    refine xg_t (xg_iload (va := (0, u45)) rfl rfl) ?_
    refine xg_t (xg_imul (u := 2) (v := u45) (z := 2 * u45) xnm0 xnm0 (by omega)) ?_
    refine xg_t (xg_iadd (u := 60) (v := 2 * u45) (z := 60 + (2 * u45)) xnm0 xnm0 (by omega)) ?_
    refine xg_t (xg_iload (va := (0, 0)) rfl rfl) ?_
    refine xg_t (xg_iadd (u := 60 + (2 * u45)) (v := 0) (z := (60 + (2 * u45)) + 0) xnm0 xnm0 (by omega)) ?_
    refine xg_t (xg_aload (va := (2, 82)) rfl rfl) ?_
    refine xg_t (xg_const) ?_
    refine xg_t (xg_sip) ?_
    obtain ⟨f82_364, f82_366, f82_368, f82_370, f82_372, f82_374, f82_376, f82_378, f82_380, f82_382, f82_384, f82_385, f82_386, f82_388, f82_390, f82_392, h82_394, hb365, hb367, hb369, hb371, hb373, hb375, hb377, hb379, hb381, hb383, hb387, hb389, hb391, hb393, hb395⟩ := (hI54 82 (by decide) (by decide) : cp82 (wget w52 82))
    refine xg_cVi mX12_numbered (vs := [(0, 1), (0, 9999)]) (rest := [(0, (60 + (2 * u45)) + 0), (0, u45), (0, 2), (2, 82)]) (cn1 := 0) (sl1 := 0) rfl (mNumbered (hI54) (by omega) (by omega) pk64.2.2.2) rfl h82_394 rfl rfl rfl rfl rfl rfl (fun n400 w396 hq397 => ?_)
    obtain ⟨hn401, hI398, hF399⟩ := hq397
    clear hb365 hb367 hb369 hb371 hb373 hb375 hb377 hb379 hb381 hb383 hb387 hb389 hb391 hb393
    obtain ⟨hn402, hn403, hn404⟩ := hn401
    have pk405 : PK w w396 := PK.tr pk64 hn403
    have os406 : ∀ j, (j < 60 + 2 * u45 ∨ 62 + 2 * u45 ≤ j) → j < 140 → rwv w396 86 j = rwv w 86 j := fun j hj hl => (rwv_fr hF399 (by decide)).trans (os65 j hj hl)
    have ms407 : mu w396 < mu w := Nat.lt_of_le_of_lt hn403.2.1 ms66
    obtain ⟨f82_408, f82_410, f82_412, f82_414, f82_416, f82_418, f82_420, f82_422, f82_424, f82_426, f82_428, f82_429, f82_430, f82_432, f82_434, f82_436, h82_438, hb409, hb411, hb413, hb415, hb417, hb419, hb421, hb423, hb425, hb427, hb431, hb433, hb435, hb437, hb439⟩ := (hI398 82 (by decide) (by decide) : cp82 (wget w396 82))
    refine xg_cVv mX12_puts (vs := [(0, 2), (0, u45), (0, (60 + (2 * u45)) + 0), (0, n400)]) (rest := []) (cn1 := 0) (sl1 := 0) rfl (mPuts2 (hI398) (by omega) (by omega) (by omega) (fun _ => by omega)) rfl h82_438 rfl rfl rfl rfl rfl rfl (fun w440 hq441 => ?_)
    obtain ⟨hI442, hF443, hx444⟩ := hq441
    obtain ⟨hp445, hp446⟩ := hx444
    have pk447 : PK w w440 := PK.tr pk405 (PK.fr hF443 (by decide) (by decide) pk405.2.2.2)
    have os448 : ∀ j, (j < 60 + 2 * u45 ∨ 62 + 2 * u45 ≤ j) → j < 140 → rwv w440 86 j = rwv w 86 j := fun j hj hl => (hp446 j (by omega) hl).trans (os406 j hj hl)
    have rg449 : FA w440 ≠ 0 ∨ (1 ≤ n400 ∧ n400 ≤ 9999) := hn404.imp_left (PK.fr hF443 (by decide) (by decide) pk405.2.2.2).1
    have ms450 : mu w440 < mu w := Nat.lt_of_le_of_lt (PK.fr hF443 (by decide) (by decide) pk405.2.2.2).2.1 ms407
    clear hn404
    refine xg_t (xg_iinc (u := 0) (z := 1) (l1 := [(3, (0, u45)), (2, (0, at_)), (1, (0, 2)), (0, (2, 82))]) rfl rfl (by decide) rfl) ?_
    refine xg_t (xg_goto) ?_
    refine xg_t (xg_blk (b := [(183, 2, 2, 4, 0, 0), (185, 1, 3, 2, 0, 0), (186, 3, 6, 218, 3, 0), (189, 1, 0, 0, 0, 0), (190, 1, 2, 1, 0, 0), (191, 1, 2, 3, 0, 0), (192, 2, 4, 60, 0, 0), (194, 1, 3, 2, 0, 0), (195, 1, 2, 3, 0, 0), (196, 1, 16, 0, 0, 0), (197, 1, 11, 0, 0, 0), (198, 2, 2, 4, 0, 0), (200, 1, 11, 0, 0, 0), (201, 1, 0, 0, 0, 0), (202, 1, 3, 1, 0, 0), (203, 3, 5, 9999, 0, 0), (206, 3, 13, 199, 96, 196), (209, 3, 13, 211, 96, 200), (212, 3, 9, 4, 1, 0), (215, 3, 8, 183, 0, 0)]) rfl) ?_
    refine xg_t (xg_iload (va := (0, 1)) rfl rfl) ?_
    refine xg_t (xg_const) ?_
    refine xg_t (xg_icF (u := 1) (v := 2) rfl xnm0 xnm0 (by decide)) ?_
    refine xg_t (xg_aload (va := (2, 82)) rfl rfl) ?_
    refine xg_t (xg_iload (va := (0, 2)) rfl rfl) ?_
    refine xg_t (xg_iload (va := (0, u45)) rfl rfl) ?_
    refine xg_t (xg_bip) ?_
    refine xg_t (xg_const) ?_
    refine xg_t (xg_iload (va := (0, u45)) rfl rfl) ?_
    refine xg_t (xg_imul (u := 2) (v := u45) (z := 2 * u45) xnm0 xnm0 (by omega)) ?_
    refine xg_t (xg_iadd (u := 60) (v := 2 * u45) (z := 60 + (2 * u45)) xnm0 xnm0 (by omega)) ?_
    refine xg_t (xg_iload (va := (0, 1)) rfl rfl) ?_
    refine xg_t (xg_iadd (u := 60 + (2 * u45)) (v := 1) (z := (60 + (2 * u45)) + 1) xnm0 xnm0 (by omega)) ?_
    refine xg_t (xg_aload (va := (2, 82)) rfl rfl) ?_
    refine xg_t (xg_const) ?_
    refine xg_t (xg_sip) ?_
    refine xg_cVi mX12_numbered (vs := [(0, 1), (0, 9999)]) (rest := [(0, (60 + (2 * u45)) + 1), (0, u45), (0, 2), (2, 82)]) (cn1 := 0) (sl1 := 0) rfl (mNumbered (hI442) (by omega) (by omega) pk447.2.2.2) rfl (hF443.get (by decide) h82_438) rfl rfl rfl rfl rfl rfl (fun n455 w451 hq452 => ?_)
    obtain ⟨hn456, hI453, hF454⟩ := hq452
    clear hb409 hb411 hb413 hb415 hb417 hb419 hb421 hb423 hb425 hb427 hb431 hb433 hb435 hb437
    obtain ⟨hn457, hn458, hn459⟩ := hn456
    have pk460 : PK w w451 := PK.tr pk447 hn458
    have os461 : ∀ j, (j < 60 + 2 * u45 ∨ 62 + 2 * u45 ≤ j) → j < 140 → rwv w451 86 j = rwv w 86 j := fun j hj hl => (rwv_fr hF454 (by decide)).trans (os448 j hj hl)
    have ix462 : u45 < 6 → rwv w451 86 ((60 + (2 * u45)) + 0) = n400 := fun h => (rwv_fr hF454 (by decide)).trans (hp445 h)
    have rg463 : FA w451 ≠ 0 ∨ (1 ≤ n400 ∧ n400 ≤ 9999) := rg449.imp_left hn458.1
    have ms464 : mu w451 < mu w := Nat.lt_of_le_of_lt hn458.2.1 ms450
    clear hp445 rg449
    obtain ⟨f82_465, f82_467, f82_469, f82_471, f82_473, f82_475, f82_477, f82_479, f82_481, f82_483, f82_485, f82_486, f82_487, f82_489, f82_491, f82_493, h82_495, hb466, hb468, hb470, hb472, hb474, hb476, hb478, hb480, hb482, hb484, hb488, hb490, hb492, hb494, hb496⟩ := (hI453 82 (by decide) (by decide) : cp82 (wget w451 82))
    refine xg_cVv mX12_puts (vs := [(0, 2), (0, u45), (0, (60 + (2 * u45)) + 1), (0, n455)]) (rest := []) (cn1 := 0) (sl1 := 0) rfl (mPuts2 (hI453) (by omega) (by omega) (by omega) (fun _ => by omega)) rfl h82_495 rfl rfl rfl rfl rfl rfl (fun w497 hq498 => ?_)
    obtain ⟨hI499, hF500, hx501⟩ := hq498
    obtain ⟨hp502, hp503⟩ := hx501
    have pk504 : PK w w497 := PK.tr pk460 (PK.fr hF500 (by decide) (by decide) pk460.2.2.2)
    have os505 : ∀ j, (j < 60 + 2 * u45 ∨ 62 + 2 * u45 ≤ j) → j < 140 → rwv w497 86 j = rwv w 86 j := fun j hj hl => (hp503 j (by omega) hl).trans (os461 j hj hl)
    have ix506 : u45 < 6 → rwv w497 86 ((60 + (2 * u45)) + 0) = n400 := fun h => (hp503 _ (by omega) (by omega)).trans (ix462 h)
    have rg507 : FA w497 ≠ 0 ∨ (1 ≤ n400 ∧ n400 ≤ 9999) := rg463.imp_left (PK.fr hF500 (by decide) (by decide) pk460.2.2.2).1
    have rg508 : FA w497 ≠ 0 ∨ (1 ≤ n455 ∧ n455 ≤ 9999) := hn459.imp_left (PK.fr hF500 (by decide) (by decide) pk460.2.2.2).1
    have ms509 : mu w497 < mu w := Nat.lt_of_le_of_lt (PK.fr hF500 (by decide) (by decide) pk460.2.2.2).2.1 ms464
    clear ix462 rg463 hn459
    refine xg_t (xg_iinc (u := 1) (z := 2) (l1 := [(3, (0, u45)), (2, (0, at_)), (1, (0, 2)), (0, (2, 82))]) rfl rfl (by decide) rfl) ?_
    refine xg_t (xg_goto) ?_
    refine xg_t (xg_blk (b := [(183, 2, 2, 4, 0, 0), (185, 1, 3, 2, 0, 0), (186, 3, 6, 218, 3, 0), (189, 1, 0, 0, 0, 0), (190, 1, 2, 1, 0, 0), (191, 1, 2, 3, 0, 0), (192, 2, 4, 60, 0, 0), (194, 1, 3, 2, 0, 0), (195, 1, 2, 3, 0, 0), (196, 1, 16, 0, 0, 0), (197, 1, 11, 0, 0, 0), (198, 2, 2, 4, 0, 0), (200, 1, 11, 0, 0, 0), (201, 1, 0, 0, 0, 0), (202, 1, 3, 1, 0, 0), (203, 3, 5, 9999, 0, 0), (206, 3, 13, 199, 96, 196), (209, 3, 13, 211, 96, 200), (212, 3, 9, 4, 1, 0), (215, 3, 8, 183, 0, 0)]) rfl) ?_
    refine xg_t (xg_iload (va := (0, 2)) rfl rfl) ?_
    refine xg_t (xg_const) ?_
    refine xg_t (xg_icT (u := 2) (v := 2) rfl xnm0 xnm0 (by decide)) ?_
    refine xg_t (xg_blk (b := [(218, 3, 8, 394, 0, 0)]) rfl) ?_
    refine xg_t (xg_goto) ?_
    refine xg_t (xg_drop (l1 := [(0, (2, 82)), (1, (0, 2)), (3, (0, u45))]) (List.forall_mem_cons.mpr ⟨List.mem_cons_of_mem _ (List.mem_cons_of_mem _ (List.mem_cons_of_mem _ (List.mem_cons_of_mem _ (List.mem_cons_self)))), List.forall_mem_cons.mpr ⟨List.mem_cons_of_mem _ (List.mem_cons_of_mem _ (List.mem_cons_of_mem _ (List.mem_cons_self))), List.forall_mem_cons.mpr ⟨List.mem_cons_of_mem _ (List.mem_cons_self), fun _ h => absurd h List.not_mem_nil⟩⟩⟩)) ?_
    have hX510 : FA w497 ≠ 0 ∨ u45 < 6 := Or.inr (by omega)
    exact jn67 w497 (hI499) ((((((hF55.up (by decide)).tr (hF399.up (by decide))).tr (hF443.up (by decide))).tr (hF454.up (by decide))).tr (hF500.up (by decide)))) (⟨pk504, os505, ms509, hX510⟩)
  · refine xg_t (xg_icF (u := u45) (v := 6) rfl xnm0 xnm0 (xj_ltF (by omega) (by omega))) ?_
    refine xg_t (xg_aload (va := (2, 82)) rfl rfl) ?_
    refine xg_t (xg_const) ?_
    refine xg_t (xg_iload (va := (0, at_)) rfl rfl) ?_
    refine xg_cVv mX12_also (vs := [(0, 3), (0, at_)]) (rest := []) (cn1 := 0) (sl1 := 0) rfl (mAlso (hI) (by omega) (by omega) (by omega) (PK.rf hps).2.2.2) rfl h82_31 rfl rfl rfl rfl rfl rfl (fun w511 hq512 => ?_)
    obtain ⟨hI513, hF514, hx515⟩ := hq512
    have pk516 : PK w w511 := ⟨fun _ => hx515, Nat.le_of_eq (mu_fr hF514 (by decide)), fld_fr hF514 (by decide), Or.inr hx515⟩
    have pk517 : PK w w511 := PK.tr (PK.rf hps) pk516
    have os518 : ∀ j, (j < 60 + 2 * u45 ∨ 62 + 2 * u45 ≤ j) → j < 140 → rwv w511 86 j = rwv w 86 j := fun j hj hl => (rwv_fr hF514 (by decide)).trans ((fun j _ _ => rfl) j hj hl)
    have hf519 := fld_fr (c := 82) (j := 7) hF514 (by decide)
    refine xg_t (xg_blk (b := [(64, 1, 0, 0, 0, 0), (65, 3, 13, 110, 96, 190), (68, 1, 2, 1, 0, 0), (69, 39, 33, 362, 0, 9)]) rfl) ?_
    refine xg_t (xg_aload (va := (2, 82)) rfl rfl) ?_
    refine xg_cVv mX12_advance (vs := []) (rest := []) (cn1 := 0) (sl1 := 0) rfl (mAdvance (hI513)) rfl (hF514.get (by decide) h82_31) rfl rfl rfl rfl rfl rfl (fun w520 hq521 => ?_)
    obtain ⟨hI522, hF523, hx524⟩ := hq521
    clear hb2 hb4 hb6 hb8 hb10 hb12 hb14 hb16 hb18 hb20 hb24 hb26 hb28 hb30
    obtain ⟨hv525, hv526, hv527, hv528⟩ := hx524
    have hf530 := FA_fr hF523 (by decide)
    have hs531 := pk517.2.2.2
    unfold PS at hs531
    have pk529 : PK w511 w520 := ⟨fun _ => by omega, hv525, hv528, (show fld w520 82 10 = 0 ∨ FA w520 ≠ 0 by omega)⟩
    clear hs531
    have pk532 : PK w w520 := PK.tr pk517 pk529
    have os533 : ∀ j, (j < 60 + 2 * u45 ∨ 62 + 2 * u45 ≤ j) → j < 140 → rwv w520 86 j = rwv w 86 j := fun j hj hl => (rwv_fr hF523 (by decide)).trans (os518 j hj hl)
    have rg534 : FA w520 ≠ 0 ∨ 0 = 1 := (Or.inl hx515 : FA w511 ≠ 0 ∨ 0 = 1).imp_left pk529.1
    have ms535 : mu w520 < mu w := Nat.lt_of_lt_of_le (hv526 (by omega)) pk517.2.1
    clear hv526
    have jn536 : ∀ (w537 : List (List xE)), xMnv w537 → xFr [82, 83, 85, 86, 87] w w537 → (PK w w537 ∧ (∀ j, (j < 60 + 2 * u45 ∨ 62 + 2 * u45 ≤ j) → j < 140 → rwv w537 86 j = rwv w 86 j) ∧ mu w537 < mu w ∧ (FA w537 ≠ 0 ∨ u45 < 6)) → xTo (d + 7) mX12_aLine (394, [], [(0, (2, 82)), (1, (0, 2)), (3, (0, u45))], [], (w537, bd, fc, 0, 0, rr)) (fun φ => ∃ w', xEnd 0 [] (w', bd, fc, 0, 0, rr) φ ∧ xMnv w' ∧ xFr [82, 83, 85, 86, 87] w w' ∧ ((FA w ≠ 0 → FA w' ≠ 0) ∧ PS w' ∧ ((fld w' 82 10 = 1 ∧ mu w' = mu w ∧ fld w' 82 14 = fld w 82 14 ∧ ∀ s, s < 7 → rwv w' 85 s = rwv w 85 s) ∨ (mu w' < mu w ∧ fld w' 82 14 = fld w 82 14 + 1 ∧ ∀ s, s < 7 → rwv w' 85 s ≤ rwv w 85 s + 1)) ∧ (FA w' ≠ 0 ∨ (DATA w → DATA w')))) := by
      intro w537 hI538 hF539 he540
      obtain ⟨hj541, hj542, hj543, hj544⟩ := he540
      refine xg_t (xg_blk (b := [(394, 1, 0, 0, 0, 0), (395, 3, 1, 12, 10, 180), (398, 3, 7, 416, 1, 0), (401, 1, 0, 0, 0, 0), (402, 3, 1, 12, 7, 151), (405, 1, 3, 2, 0, 0), (406, 3, 6, 416, 1, 0), (409, 1, 0, 0, 0, 0), (410, 3, 13, 110, 96, 190), (413, 3, 8, 420, 0, 0)]) rfl) ?_
      refine xg_t (xg_aload (va := (2, 82)) rfl rfl) ?_
      obtain ⟨f82_545, f82_547, f82_549, f82_551, f82_553, f82_555, f82_557, f82_559, f82_561, f82_563, f82_565, f82_566, f82_567, f82_569, f82_571, f82_573, h82_575, hb546, hb548, hb550, hb552, hb554, hb556, hb558, hb560, hb562, hb564, hb568, hb570, hb572, hb574, hb576⟩ := (hI538 82 (by decide) (by decide) : cp82 (wget w537 82))
      refine xg_t (xg_getf (va := (0, f82_561)) h82_575 rfl) ?_
      by_cases hc577 : f82_561 = 0
      · refine xg_t (xg_ifF (u := f82_561) rfl xnm0 (xj_neF hc577)) ?_
        refine xg_t (xg_aload (va := (2, 82)) rfl rfl) ?_
        refine xg_t (xg_getf (va := (0, f82_555)) h82_575 rfl) ?_
        refine xg_t (xg_const) ?_
        by_cases hc578 : f82_555 = 2
        · refine xg_t (xg_icF (u := f82_555) (v := 2) rfl xnm0 xnm0 (xj_neF hc578)) ?_
          refine xg_t (xg_aload (va := (2, 82)) rfl rfl) ?_
          refine xg_cVv mX12_advance (vs := []) (rest := []) (cn1 := 0) (sl1 := 0) rfl (mAdvance (hI538)) rfl h82_575 rfl rfl rfl rfl rfl rfl (fun w579 hq580 => ?_)
          obtain ⟨hI581, hF582, hx583⟩ := hq580
          clear hb546 hb548 hb550 hb552 hb554 hb556 hb558 hb560 hb562 hb564 hb568 hb570 hb572 hb574
          obtain ⟨hv584, hv585, hv586, hv587⟩ := hx583
          have hf589 := FA_fr hF582 (by decide)
          have hs590 := hj541.2.2.2
          unfold PS at hs590
          have pk588 : PK w537 w579 := ⟨fun _ => by omega, hv584, hv587, (show fld w579 82 10 = 0 ∨ FA w579 ≠ 0 by omega)⟩
          clear hs590
          clear hv585
          have pk591 : PK w w579 := PK.tr hj541 pk588
          have os592 : ∀ j, (j < 60 + 2 * u45 ∨ 62 + 2 * u45 ≤ j) → j < 140 → rwv w579 86 j = rwv w 86 j := fun j hj hl => (rwv_fr hF582 (by decide)).trans (hj542 j hj hl)
          have rg593 : FA w579 ≠ 0 ∨ u45 < 6 := hj544.imp_left pk588.1
          have ms594 : mu w579 < mu w := Nat.lt_of_le_of_lt pk588.2.1 hj543
          clear hj544
          refine xg_t (xg_goto) ?_
          refine xg_t (xg_blk (b := [(420, 1, 0, 0, 0, 0), (421, 3, 1, 12, 11, 17), (424, 1, 2, 1, 0, 0), (425, 1, 39, 0, 0, 0), (426, 1, 10, 0, 0, 0), (427, 1, 3, 1, 0, 0), (428, 1, 11, 0, 0, 0), (429, 1, 17, 0, 0, 0), (430, 1, 0, 0, 0, 0), (431, 1, 19, 0, 0, 0), (432, 3, 1, 12, 14, 212), (435, 1, 3, 1, 0, 0), (436, 1, 11, 0, 0, 0), (437, 3, 14, 12, 14, 212), (440, 1, 12, 0, 0, 0)]) rfl) ?_
          obtain ⟨f82_595, f82_597, f82_599, f82_601, f82_603, f82_605, f82_607, f82_609, f82_611, f82_613, f82_615, f82_616, f82_617, f82_619, f82_621, f82_623, h82_625, hb596, hb598, hb600, hb602, hb604, hb606, hb608, hb610, hb612, hb614, hb618, hb620, hb622, hb624, hb626⟩ := (hI581 82 (by decide) (by decide) : cp82 (wget w579 82))
          have hf627 : fld w579 82 4 = f82_599 := fld_of h82_625
          have hf628 : fld w579 82 5 = f82_601 := fld_of h82_625
          have hf629 : fld w579 82 7 = f82_605 := fld_of h82_625
          have hf630 : fld w579 82 10 = f82_611 := fld_of h82_625
          have hf631 : fld w579 82 14 = f82_613 := fld_of h82_625
          have hu632 : mu w579 = 2 * (fld w579 82 4 - fld w579 82 5) + min 1 (fld w579 82 7) := rfl
          have hf633 := pk591.2.2.1
          have hl634 : f82_613 ≤ 1000 := by omega
          refine xg_t (xg_aload (va := (2, 82)) rfl rfl) ?_
          refine xg_t (xg_getf (va := (2, 85)) h82_625 rfl) ?_
          refine xg_t (xg_iload (va := (0, 2)) rfl rfl) ?_
          refine xg_t (xg_dup2 rfl) ?_
          obtain ⟨g85_635, h85_636, hb637⟩ := (hI581 85 (by decide) (by decide) : cpI 7 52 4294967295 (wget w579 85))
          have h85_636 : xRow w579 85 7 52 g85_635 := h85_636
          refine xg_ialdB (n := 2) (B := 4294967295) h85_636 (hb637) xnm0 (by omega) (fun u638 hu639 he640 => ?_)
          have hl641 : u638 = u45 := by omega
          refine xg_t (xg_const) ?_
          refine xg_t (xg_iadd (u := u638) (v := 1) (z := u638 + 1) xnm0 xnm0 (by omega)) ?_
          refine xg_iastK (n := 2) (u := u638 + 1) h85_636 xnm0 xnm0 rfl (by omega) (fun w642 hr643 hb644 => ?_)
          refine xg_t (xg_aload (va := (2, 82)) rfl rfl) ?_
          refine xg_t (xg_dup rfl) ?_
          refine xg_t (xg_getf (va := (0, f82_613)) (hb644.get (by decide) h82_625) rfl) ?_
          refine xg_t (xg_const) ?_
          refine xg_t (xg_iadd (u := f82_613) (v := 1) (z := f82_613 + 1) xnm0 xnm0 (by omega)) ?_
          refine xg_putI (fl1 := [(2, 83), (2, 84), (0, f82_595), (0, f82_597), (0, f82_599), (0, f82_601), (0, f82_603), (0, f82_605), (0, f82_607), (0, f82_609), (0, f82_611), (2, 85), (2, 86), (2, 87), (0, f82_613 + 1), (2, 88), (2, 89), (2, 90), (2, 91), (2, 92), (2, 93), (2, 94), (4, f82_615), (4, f82_616), (0, f82_617), (2, 95), (2, 96), (2, 97), (2, 98), (2, 99), (2, 100), (2, 101), (2, 102), (0, f82_619), (2, 103), (2, 104), (2, 105), (2, 106), (2, 107), (2, 108), (2, 109), (0, f82_621), (0, f82_623), (2, 110), (2, 111), (2, 112), (2, 113)]) (hb644.get (by decide) h82_625) rfl rfl rfl (fun w645 hk646 hb647 => ?_)
          have hF648 : xFr [82, 85] w579 w645 := ((xFr.of (S := [82, 85]) hb644 (by decide)).tr (xFr.of (S := [82, 85]) hb647 (by decide)))
          have hA649 := FA_fr hF648 (by decide)
          have hf650 : fld w645 82 4 = f82_599 := fld_of hk646
          have hf651 : fld w645 82 5 = f82_601 := fld_of hk646
          have hf652 : fld w645 82 7 = f82_605 := fld_of hk646
          have hf653 : fld w645 82 10 = f82_611 := fld_of hk646
          have hf654 : fld w645 82 14 = f82_613 + 1 := fld_of hk646
          have hu655 : mu w645 = 2 * (fld w645 82 4 - fld w645 82 5) + min 1 (fld w645 82 7) := rfl
          have pq656 := pk591
          unfold PK PS at pq656
          have hM657 : ∀ s, s < 7 → s ≠ 2 → rwv w645 85 s = rwv w 85 s := fun s hs hn => (rwv_of (hr643.but hb647 (by decide)) hs).trans ((if_neg hn).trans (rwv_of h85_37 hs).symm)
          have hM658 : rwv w645 85 2 = u45 + 1 := (rwv_of (hr643.but hb647 (by decide)) (by decide)).trans ((if_pos rfl).trans (by omega))
          have hM659 : ∀ s, s < 7 → rwv w645 85 s ≤ rwv w 85 s + 1 := fun s hs => by
            by_cases z : s = 2
            · subst z; omega
            · rw [hM657 s hs z]; omega
          have hO660 : ∀ j, (j < 60 + 2 * u45 ∨ 62 + 2 * u45 ≤ j) → j < 140 → rwv w645 86 j = rwv w 86 j := fun j hj hl => (rwv_fr hF648 (by decide)).trans (os592 j hj hl)
          have hl662 : FA w579 ≠ 0 ∨ u45 < 6 := rg593
          have hN661 : FA w645 ≠ 0 ∨ 6 ≤ u45 ∨ True := Or.inr (Or.inr trivial)
          have hX663 : FA w645 ≠ 0 ∨ u45 < 6 := by omega
          have hD664 : FA w645 ≠ 0 ∨ (DATA w → DATA w645) := by
            by_cases z : FA w645 ≠ 0
            · exact Or.inl z
            · exact Or.inr (fun hd => hd.s2 hM657 hK48 hM658 (hX663.resolve_left z) hO660 ((hN661.resolve_left z).resolve_left (by have := hX663.resolve_left z; omega)))
          exact xg_e ⟨w645, ⟨rfl, rfl⟩, xMnv.up (S := [85, 82]) hI581 ((xFr.of (S := [85, 82]) hb644 (by decide)).tr (xFr.of (S := [85, 82]) hb647 (by decide))) (List.forall_mem_cons.mpr ⟨(show cpI 7 52 4294967295 (wget w645 85) from ⟨_, (hr643.but hb647 (by decide)), xrb (by omega) (hb637)⟩), List.forall_mem_cons.mpr ⟨(show cp82 (wget w645 82) from ⟨f82_595, f82_597, f82_599, f82_601, f82_603, f82_605, f82_607, f82_609, f82_611, f82_613 + 1, f82_615, f82_616, f82_617, f82_619, f82_621, f82_623, hk646, hb596, hb598, hb600, hb602, hb604, hb606, hb608, hb610, hb612, by omega, hb618, hb620, hb622, hb624, by omega⟩), fun _ h => absurd h List.not_mem_nil⟩⟩), ((hF539.tr (hF582.up (by decide))).tr ((xFr.of (S := [82, 83, 85, 86, 87]) hb644 (by decide)).tr (xFr.of (S := [82, 83, 85, 86, 87]) hb647 (by decide)))), ⟨fun h => by have := pq656.1 h; omega, (show fld w645 82 10 = 0 ∨ FA w645 ≠ 0 by omega), Or.inr ⟨by have := ms594; omega, by omega, hM659⟩, hD664⟩⟩
        · refine xg_t (xg_icT (u := f82_555) (v := 2) rfl xnm0 xnm0 (xj_neT hc578)) ?_
          refine xg_t (xg_blk (b := [(416, 1, 0, 0, 0, 0), (417, 3, 13, 140, 96, 183)]) rfl) ?_
          refine xg_t (xg_aload (va := (2, 82)) rfl rfl) ?_
          refine xg_cVv mX12_ends (vs := []) (rest := []) (cn1 := 0) (sl1 := 0) rfl (mEnds (hI538) hj541.2.2.2) rfl h82_575 rfl rfl rfl rfl rfl rfl (fun w665 hq666 => ?_)
          obtain ⟨hI667, hF668, hx669⟩ := hq666
          clear hb546 hb548 hb550 hb552 hb554 hb556 hb558 hb560 hb562 hb564 hb568 hb570 hb572 hb574
          obtain ⟨hv670, hv671, hv672, hv673⟩ := hx669
          have pk674 : PK w537 w665 := ⟨fun _ => hv670, by omega, by omega, Or.inr hv670⟩
          have pk675 : PK w w665 := PK.tr hj541 pk674
          have os676 : ∀ j, (j < 60 + 2 * u45 ∨ 62 + 2 * u45 ≤ j) → j < 140 → rwv w665 86 j = rwv w 86 j := fun j hj hl => (rwv_fr hF668 (by decide)).trans (hj542 j hj hl)
          have rg677 : FA w665 ≠ 0 ∨ u45 < 6 := hj544.imp_left pk674.1
          have ms678 : mu w665 < mu w := Nat.lt_of_le_of_lt pk674.2.1 hj543
          clear hj544
          refine xg_t (xg_blk (b := [(420, 1, 0, 0, 0, 0), (421, 3, 1, 12, 11, 17), (424, 1, 2, 1, 0, 0), (425, 1, 39, 0, 0, 0), (426, 1, 10, 0, 0, 0), (427, 1, 3, 1, 0, 0), (428, 1, 11, 0, 0, 0), (429, 1, 17, 0, 0, 0), (430, 1, 0, 0, 0, 0), (431, 1, 19, 0, 0, 0), (432, 3, 1, 12, 14, 212), (435, 1, 3, 1, 0, 0), (436, 1, 11, 0, 0, 0), (437, 3, 14, 12, 14, 212), (440, 1, 12, 0, 0, 0)]) rfl) ?_
          obtain ⟨f82_679, f82_681, f82_683, f82_685, f82_687, f82_689, f82_691, f82_693, f82_695, f82_697, f82_699, f82_700, f82_701, f82_703, f82_705, f82_707, h82_709, hb680, hb682, hb684, hb686, hb688, hb690, hb692, hb694, hb696, hb698, hb702, hb704, hb706, hb708, hb710⟩ := (hI667 82 (by decide) (by decide) : cp82 (wget w665 82))
          have hf711 : fld w665 82 4 = f82_683 := fld_of h82_709
          have hf712 : fld w665 82 5 = f82_685 := fld_of h82_709
          have hf713 : fld w665 82 7 = f82_689 := fld_of h82_709
          have hf714 : fld w665 82 10 = f82_695 := fld_of h82_709
          have hf715 : fld w665 82 14 = f82_697 := fld_of h82_709
          have hu716 : mu w665 = 2 * (fld w665 82 4 - fld w665 82 5) + min 1 (fld w665 82 7) := rfl
          have hf717 := pk675.2.2.1
          have hl718 : f82_697 ≤ 1000 := by omega
          refine xg_t (xg_aload (va := (2, 82)) rfl rfl) ?_
          refine xg_t (xg_getf (va := (2, 85)) h82_709 rfl) ?_
          refine xg_t (xg_iload (va := (0, 2)) rfl rfl) ?_
          refine xg_t (xg_dup2 rfl) ?_
          obtain ⟨g85_719, h85_720, hb721⟩ := (hI667 85 (by decide) (by decide) : cpI 7 52 4294967295 (wget w665 85))
          have h85_720 : xRow w665 85 7 52 g85_719 := h85_720
          refine xg_ialdB (n := 2) (B := 4294967295) h85_720 (hb721) xnm0 (by omega) (fun u722 hu723 he724 => ?_)
          have hl725 : u722 = u45 := by omega
          refine xg_t (xg_const) ?_
          refine xg_t (xg_iadd (u := u722) (v := 1) (z := u722 + 1) xnm0 xnm0 (by omega)) ?_
          refine xg_iastK (n := 2) (u := u722 + 1) h85_720 xnm0 xnm0 rfl (by omega) (fun w726 hr727 hb728 => ?_)
          refine xg_t (xg_aload (va := (2, 82)) rfl rfl) ?_
          refine xg_t (xg_dup rfl) ?_
          refine xg_t (xg_getf (va := (0, f82_697)) (hb728.get (by decide) h82_709) rfl) ?_
          refine xg_t (xg_const) ?_
          refine xg_t (xg_iadd (u := f82_697) (v := 1) (z := f82_697 + 1) xnm0 xnm0 (by omega)) ?_
          refine xg_putI (fl1 := [(2, 83), (2, 84), (0, f82_679), (0, f82_681), (0, f82_683), (0, f82_685), (0, f82_687), (0, f82_689), (0, f82_691), (0, f82_693), (0, f82_695), (2, 85), (2, 86), (2, 87), (0, f82_697 + 1), (2, 88), (2, 89), (2, 90), (2, 91), (2, 92), (2, 93), (2, 94), (4, f82_699), (4, f82_700), (0, f82_701), (2, 95), (2, 96), (2, 97), (2, 98), (2, 99), (2, 100), (2, 101), (2, 102), (0, f82_703), (2, 103), (2, 104), (2, 105), (2, 106), (2, 107), (2, 108), (2, 109), (0, f82_705), (0, f82_707), (2, 110), (2, 111), (2, 112), (2, 113)]) (hb728.get (by decide) h82_709) rfl rfl rfl (fun w729 hk730 hb731 => ?_)
          have hF732 : xFr [82, 85] w665 w729 := ((xFr.of (S := [82, 85]) hb728 (by decide)).tr (xFr.of (S := [82, 85]) hb731 (by decide)))
          have hA733 := FA_fr hF732 (by decide)
          have hf734 : fld w729 82 4 = f82_683 := fld_of hk730
          have hf735 : fld w729 82 5 = f82_685 := fld_of hk730
          have hf736 : fld w729 82 7 = f82_689 := fld_of hk730
          have hf737 : fld w729 82 10 = f82_695 := fld_of hk730
          have hf738 : fld w729 82 14 = f82_697 + 1 := fld_of hk730
          have hu739 : mu w729 = 2 * (fld w729 82 4 - fld w729 82 5) + min 1 (fld w729 82 7) := rfl
          have pq740 := pk675
          unfold PK PS at pq740
          have hM741 : ∀ s, s < 7 → s ≠ 2 → rwv w729 85 s = rwv w 85 s := fun s hs hn => (rwv_of (hr727.but hb731 (by decide)) hs).trans ((if_neg hn).trans (rwv_of h85_37 hs).symm)
          have hM742 : rwv w729 85 2 = u45 + 1 := (rwv_of (hr727.but hb731 (by decide)) (by decide)).trans ((if_pos rfl).trans (by omega))
          have hM743 : ∀ s, s < 7 → rwv w729 85 s ≤ rwv w 85 s + 1 := fun s hs => by
            by_cases z : s = 2
            · subst z; omega
            · rw [hM741 s hs z]; omega
          have hO744 : ∀ j, (j < 60 + 2 * u45 ∨ 62 + 2 * u45 ≤ j) → j < 140 → rwv w729 86 j = rwv w 86 j := fun j hj hl => (rwv_fr hF732 (by decide)).trans (os676 j hj hl)
          have hl746 : FA w665 ≠ 0 ∨ u45 < 6 := rg677
          have hN745 : FA w729 ≠ 0 ∨ 6 ≤ u45 ∨ True := Or.inr (Or.inr trivial)
          have hX747 : FA w729 ≠ 0 ∨ u45 < 6 := by omega
          have hD748 : FA w729 ≠ 0 ∨ (DATA w → DATA w729) := by
            by_cases z : FA w729 ≠ 0
            · exact Or.inl z
            · exact Or.inr (fun hd => hd.s2 hM741 hK48 hM742 (hX747.resolve_left z) hO744 ((hN745.resolve_left z).resolve_left (by have := hX747.resolve_left z; omega)))
          exact xg_e ⟨w729, ⟨rfl, rfl⟩, xMnv.up (S := [85, 82]) hI667 ((xFr.of (S := [85, 82]) hb728 (by decide)).tr (xFr.of (S := [85, 82]) hb731 (by decide))) (List.forall_mem_cons.mpr ⟨(show cpI 7 52 4294967295 (wget w729 85) from ⟨_, (hr727.but hb731 (by decide)), xrb (by omega) (hb721)⟩), List.forall_mem_cons.mpr ⟨(show cp82 (wget w729 82) from ⟨f82_679, f82_681, f82_683, f82_685, f82_687, f82_689, f82_691, f82_693, f82_695, f82_697 + 1, f82_699, f82_700, f82_701, f82_703, f82_705, f82_707, hk730, hb680, hb682, hb684, hb686, hb688, hb690, hb692, hb694, hb696, by omega, hb702, hb704, hb706, hb708, by omega⟩), fun _ h => absurd h List.not_mem_nil⟩⟩), ((hF539.tr (hF668.up (by decide))).tr ((xFr.of (S := [82, 83, 85, 86, 87]) hb728 (by decide)).tr (xFr.of (S := [82, 83, 85, 86, 87]) hb731 (by decide)))), ⟨fun h => by have := pq740.1 h; omega, (show fld w729 82 10 = 0 ∨ FA w729 ≠ 0 by omega), Or.inr ⟨by have := ms678; omega, by omega, hM743⟩, hD748⟩⟩
      · refine xg_t (xg_ifT (u := f82_561) rfl xnm0 (xj_neT hc577)) ?_
        refine xg_t (xg_blk (b := [(416, 1, 0, 0, 0, 0), (417, 3, 13, 140, 96, 183)]) rfl) ?_
        refine xg_t (xg_aload (va := (2, 82)) rfl rfl) ?_
        refine xg_cVv mX12_ends (vs := []) (rest := []) (cn1 := 0) (sl1 := 0) rfl (mEnds (hI538) hj541.2.2.2) rfl h82_575 rfl rfl rfl rfl rfl rfl (fun w749 hq750 => ?_)
        obtain ⟨hI751, hF752, hx753⟩ := hq750
        clear hb546 hb548 hb550 hb552 hb554 hb556 hb558 hb560 hb562 hb564 hb568 hb570 hb572 hb574
        obtain ⟨hv754, hv755, hv756, hv757⟩ := hx753
        have pk758 : PK w537 w749 := ⟨fun _ => hv754, by omega, by omega, Or.inr hv754⟩
        have pk759 : PK w w749 := PK.tr hj541 pk758
        have os760 : ∀ j, (j < 60 + 2 * u45 ∨ 62 + 2 * u45 ≤ j) → j < 140 → rwv w749 86 j = rwv w 86 j := fun j hj hl => (rwv_fr hF752 (by decide)).trans (hj542 j hj hl)
        have rg761 : FA w749 ≠ 0 ∨ u45 < 6 := hj544.imp_left pk758.1
        have ms762 : mu w749 < mu w := Nat.lt_of_le_of_lt pk758.2.1 hj543
        clear hj544
        refine xg_t (xg_blk (b := [(420, 1, 0, 0, 0, 0), (421, 3, 1, 12, 11, 17), (424, 1, 2, 1, 0, 0), (425, 1, 39, 0, 0, 0), (426, 1, 10, 0, 0, 0), (427, 1, 3, 1, 0, 0), (428, 1, 11, 0, 0, 0), (429, 1, 17, 0, 0, 0), (430, 1, 0, 0, 0, 0), (431, 1, 19, 0, 0, 0), (432, 3, 1, 12, 14, 212), (435, 1, 3, 1, 0, 0), (436, 1, 11, 0, 0, 0), (437, 3, 14, 12, 14, 212), (440, 1, 12, 0, 0, 0)]) rfl) ?_
        obtain ⟨f82_763, f82_765, f82_767, f82_769, f82_771, f82_773, f82_775, f82_777, f82_779, f82_781, f82_783, f82_784, f82_785, f82_787, f82_789, f82_791, h82_793, hb764, hb766, hb768, hb770, hb772, hb774, hb776, hb778, hb780, hb782, hb786, hb788, hb790, hb792, hb794⟩ := (hI751 82 (by decide) (by decide) : cp82 (wget w749 82))
        have hf795 : fld w749 82 4 = f82_767 := fld_of h82_793
        have hf796 : fld w749 82 5 = f82_769 := fld_of h82_793
        have hf797 : fld w749 82 7 = f82_773 := fld_of h82_793
        have hf798 : fld w749 82 10 = f82_779 := fld_of h82_793
        have hf799 : fld w749 82 14 = f82_781 := fld_of h82_793
        have hu800 : mu w749 = 2 * (fld w749 82 4 - fld w749 82 5) + min 1 (fld w749 82 7) := rfl
        have hf801 := pk759.2.2.1
        have hl802 : f82_781 ≤ 1000 := by omega
        refine xg_t (xg_aload (va := (2, 82)) rfl rfl) ?_
        refine xg_t (xg_getf (va := (2, 85)) h82_793 rfl) ?_
        refine xg_t (xg_iload (va := (0, 2)) rfl rfl) ?_
        refine xg_t (xg_dup2 rfl) ?_
        obtain ⟨g85_803, h85_804, hb805⟩ := (hI751 85 (by decide) (by decide) : cpI 7 52 4294967295 (wget w749 85))
        have h85_804 : xRow w749 85 7 52 g85_803 := h85_804
        refine xg_ialdB (n := 2) (B := 4294967295) h85_804 (hb805) xnm0 (by omega) (fun u806 hu807 he808 => ?_)
        have hl809 : u806 = u45 := by omega
        refine xg_t (xg_const) ?_
        refine xg_t (xg_iadd (u := u806) (v := 1) (z := u806 + 1) xnm0 xnm0 (by omega)) ?_
        refine xg_iastK (n := 2) (u := u806 + 1) h85_804 xnm0 xnm0 rfl (by omega) (fun w810 hr811 hb812 => ?_)
        refine xg_t (xg_aload (va := (2, 82)) rfl rfl) ?_
        refine xg_t (xg_dup rfl) ?_
        refine xg_t (xg_getf (va := (0, f82_781)) (hb812.get (by decide) h82_793) rfl) ?_
        refine xg_t (xg_const) ?_
        refine xg_t (xg_iadd (u := f82_781) (v := 1) (z := f82_781 + 1) xnm0 xnm0 (by omega)) ?_
        refine xg_putI (fl1 := [(2, 83), (2, 84), (0, f82_763), (0, f82_765), (0, f82_767), (0, f82_769), (0, f82_771), (0, f82_773), (0, f82_775), (0, f82_777), (0, f82_779), (2, 85), (2, 86), (2, 87), (0, f82_781 + 1), (2, 88), (2, 89), (2, 90), (2, 91), (2, 92), (2, 93), (2, 94), (4, f82_783), (4, f82_784), (0, f82_785), (2, 95), (2, 96), (2, 97), (2, 98), (2, 99), (2, 100), (2, 101), (2, 102), (0, f82_787), (2, 103), (2, 104), (2, 105), (2, 106), (2, 107), (2, 108), (2, 109), (0, f82_789), (0, f82_791), (2, 110), (2, 111), (2, 112), (2, 113)]) (hb812.get (by decide) h82_793) rfl rfl rfl (fun w813 hk814 hb815 => ?_)
        have hF816 : xFr [82, 85] w749 w813 := ((xFr.of (S := [82, 85]) hb812 (by decide)).tr (xFr.of (S := [82, 85]) hb815 (by decide)))
        have hA817 := FA_fr hF816 (by decide)
        have hf818 : fld w813 82 4 = f82_767 := fld_of hk814
        have hf819 : fld w813 82 5 = f82_769 := fld_of hk814
        have hf820 : fld w813 82 7 = f82_773 := fld_of hk814
        have hf821 : fld w813 82 10 = f82_779 := fld_of hk814
        have hf822 : fld w813 82 14 = f82_781 + 1 := fld_of hk814
        have hu823 : mu w813 = 2 * (fld w813 82 4 - fld w813 82 5) + min 1 (fld w813 82 7) := rfl
        have pq824 := pk759
        unfold PK PS at pq824
        have hM825 : ∀ s, s < 7 → s ≠ 2 → rwv w813 85 s = rwv w 85 s := fun s hs hn => (rwv_of (hr811.but hb815 (by decide)) hs).trans ((if_neg hn).trans (rwv_of h85_37 hs).symm)
        have hM826 : rwv w813 85 2 = u45 + 1 := (rwv_of (hr811.but hb815 (by decide)) (by decide)).trans ((if_pos rfl).trans (by omega))
        have hM827 : ∀ s, s < 7 → rwv w813 85 s ≤ rwv w 85 s + 1 := fun s hs => by
          by_cases z : s = 2
          · subst z; omega
          · rw [hM825 s hs z]; omega
        have hO828 : ∀ j, (j < 60 + 2 * u45 ∨ 62 + 2 * u45 ≤ j) → j < 140 → rwv w813 86 j = rwv w 86 j := fun j hj hl => (rwv_fr hF816 (by decide)).trans (os760 j hj hl)
        have hl830 : FA w749 ≠ 0 ∨ u45 < 6 := rg761
        have hN829 : FA w813 ≠ 0 ∨ 6 ≤ u45 ∨ True := Or.inr (Or.inr trivial)
        have hX831 : FA w813 ≠ 0 ∨ u45 < 6 := by omega
        have hD832 : FA w813 ≠ 0 ∨ (DATA w → DATA w813) := by
          by_cases z : FA w813 ≠ 0
          · exact Or.inl z
          · exact Or.inr (fun hd => hd.s2 hM825 hK48 hM826 (hX831.resolve_left z) hO828 ((hN829.resolve_left z).resolve_left (by have := hX831.resolve_left z; omega)))
        exact xg_e ⟨w813, ⟨rfl, rfl⟩, xMnv.up (S := [85, 82]) hI751 ((xFr.of (S := [85, 82]) hb812 (by decide)).tr (xFr.of (S := [85, 82]) hb815 (by decide))) (List.forall_mem_cons.mpr ⟨(show cpI 7 52 4294967295 (wget w813 85) from ⟨_, (hr811.but hb815 (by decide)), xrb (by omega) (hb805)⟩), List.forall_mem_cons.mpr ⟨(show cp82 (wget w813 82) from ⟨f82_763, f82_765, f82_767, f82_769, f82_771, f82_773, f82_775, f82_777, f82_779, f82_781 + 1, f82_783, f82_784, f82_785, f82_787, f82_789, f82_791, hk814, hb764, hb766, hb768, hb770, hb772, hb774, hb776, hb778, hb780, by omega, hb786, hb788, hb790, hb792, by omega⟩), fun _ h => absurd h List.not_mem_nil⟩⟩), ((hF539.tr (hF752.up (by decide))).tr ((xFr.of (S := [82, 83, 85, 86, 87]) hb812 (by decide)).tr (xFr.of (S := [82, 83, 85, 86, 87]) hb815 (by decide)))), ⟨fun h => by have := pq824.1 h; omega, (show fld w813 82 10 = 0 ∨ FA w813 ≠ 0 by omega), Or.inr ⟨by have := ms762; omega, by omega, hM827⟩, hD832⟩⟩
    refine xg_t (xg_iload (va := (0, 2)) rfl rfl) ?_
    refine xg_t (xg_swt (ks := [(0, 108), (1, 116), (2, 180), (3, 221), (4, 273), (5, 326)]) (u := 2) (z := 180) rfl rfl rfl xnm0 (xsw_n (by omega) (xsw_n (by omega) (xsw_y rfl)))) ?_
    refine xg_t (xg_blk (b := [(180, 1, 3, 0, 0, 0), (181, 2, 15, 4, 0, 0)]) rfl) ?_
    refine xg_t (xg_const) ?_
    refine xg_t (xg_istore (l1 := [(3, (0, u45)), (2, (0, at_)), (1, (0, 2)), (0, (2, 82))]) rfl rfl rfl) ?_
    refine xg_t (xg_blk (b := [(183, 2, 2, 4, 0, 0), (185, 1, 3, 2, 0, 0), (186, 3, 6, 218, 3, 0), (189, 1, 0, 0, 0, 0), (190, 1, 2, 1, 0, 0), (191, 1, 2, 3, 0, 0), (192, 2, 4, 60, 0, 0), (194, 1, 3, 2, 0, 0), (195, 1, 2, 3, 0, 0), (196, 1, 16, 0, 0, 0), (197, 1, 11, 0, 0, 0), (198, 2, 2, 4, 0, 0), (200, 1, 11, 0, 0, 0), (201, 1, 0, 0, 0, 0), (202, 1, 3, 1, 0, 0), (203, 3, 5, 9999, 0, 0), (206, 3, 13, 199, 96, 196), (209, 3, 13, 211, 96, 200), (212, 3, 9, 4, 1, 0), (215, 3, 8, 183, 0, 0)]) rfl) ?_
    refine xg_t (xg_iload (va := (0, 0)) rfl rfl) ?_
    refine xg_t (xg_const) ?_
    refine xg_t (xg_icF (u := 0) (v := 2) rfl xnm0 xnm0 (by decide)) ?_
    refine xg_t (xg_aload (va := (2, 82)) rfl rfl) ?_
    refine xg_t (xg_iload (va := (0, 2)) rfl rfl) ?_
    refine xg_t (xg_iload (va := (0, u45)) rfl rfl) ?_
    refine xg_t (xg_bip) ?_
    refine xg_t (xg_const) ?_
    refine xg_t (xg_iload (va := (0, u45)) rfl rfl) ?_
    refine xg_t (xg_imul (u := 2) (v := u45) (z := 2 * u45) xnm0 xnm0 (by omega)) ?_
    refine xg_t (xg_iadd (u := 60) (v := 2 * u45) (z := 60 + (2 * u45)) xnm0 xnm0 (by omega)) ?_
    refine xg_t (xg_iload (va := (0, 0)) rfl rfl) ?_
    refine xg_t (xg_iadd (u := 60 + (2 * u45)) (v := 0) (z := (60 + (2 * u45)) + 0) xnm0 xnm0 (by omega)) ?_
    refine xg_t (xg_aload (va := (2, 82)) rfl rfl) ?_
    refine xg_t (xg_const) ?_
    refine xg_t (xg_sip) ?_
    obtain ⟨f82_833, f82_835, f82_837, f82_839, f82_841, f82_843, f82_845, f82_847, f82_849, f82_851, f82_853, f82_854, f82_855, f82_857, f82_859, f82_861, h82_863, hb834, hb836, hb838, hb840, hb842, hb844, hb846, hb848, hb850, hb852, hb856, hb858, hb860, hb862, hb864⟩ := (hI522 82 (by decide) (by decide) : cp82 (wget w520 82))
    refine xg_cVi mX12_numbered (vs := [(0, 1), (0, 9999)]) (rest := [(0, (60 + (2 * u45)) + 0), (0, u45), (0, 2), (2, 82)]) (cn1 := 0) (sl1 := 0) rfl (mNumbered (hI522) (by omega) (by omega) pk532.2.2.2) rfl h82_863 rfl rfl rfl rfl rfl rfl (fun n869 w865 hq866 => ?_)
    obtain ⟨hn870, hI867, hF868⟩ := hq866
    clear hb834 hb836 hb838 hb840 hb842 hb844 hb846 hb848 hb850 hb852 hb856 hb858 hb860 hb862
    obtain ⟨hn871, hn872, hn873⟩ := hn870
    have pk874 : PK w w865 := PK.tr pk532 hn872
    have os875 : ∀ j, (j < 60 + 2 * u45 ∨ 62 + 2 * u45 ≤ j) → j < 140 → rwv w865 86 j = rwv w 86 j := fun j hj hl => (rwv_fr hF868 (by decide)).trans (os533 j hj hl)
    have rg876 : FA w865 ≠ 0 ∨ 0 = 1 := rg534.imp_left hn872.1
    have ms877 : mu w865 < mu w := Nat.lt_of_le_of_lt hn872.2.1 ms535
    clear rg534
    obtain ⟨f82_878, f82_880, f82_882, f82_884, f82_886, f82_888, f82_890, f82_892, f82_894, f82_896, f82_898, f82_899, f82_900, f82_902, f82_904, f82_906, h82_908, hb879, hb881, hb883, hb885, hb887, hb889, hb891, hb893, hb895, hb897, hb901, hb903, hb905, hb907, hb909⟩ := (hI867 82 (by decide) (by decide) : cp82 (wget w865 82))
    refine xg_cVv mX12_puts (vs := [(0, 2), (0, u45), (0, (60 + (2 * u45)) + 0), (0, n869)]) (rest := []) (cn1 := 0) (sl1 := 0) rfl (mPuts2 (hI867) (by omega) (by omega) (by omega) (fun _ => by omega)) rfl h82_908 rfl rfl rfl rfl rfl rfl (fun w910 hq911 => ?_)
    obtain ⟨hI912, hF913, hx914⟩ := hq911
    obtain ⟨hp915, hp916⟩ := hx914
    have pk917 : PK w w910 := PK.tr pk874 (PK.fr hF913 (by decide) (by decide) pk874.2.2.2)
    have os918 : ∀ j, (j < 60 + 2 * u45 ∨ 62 + 2 * u45 ≤ j) → j < 140 → rwv w910 86 j = rwv w 86 j := fun j hj hl => (hp916 j (by omega) hl).trans (os875 j hj hl)
    have rg919 : FA w910 ≠ 0 ∨ 0 = 1 := rg876.imp_left (PK.fr hF913 (by decide) (by decide) pk874.2.2.2).1
    have rg920 : FA w910 ≠ 0 ∨ (1 ≤ n869 ∧ n869 ≤ 9999) := hn873.imp_left (PK.fr hF913 (by decide) (by decide) pk874.2.2.2).1
    have ms921 : mu w910 < mu w := Nat.lt_of_le_of_lt (PK.fr hF913 (by decide) (by decide) pk874.2.2.2).2.1 ms877
    clear rg876 hn873
    refine xg_t (xg_iinc (u := 0) (z := 1) (l1 := [(3, (0, u45)), (2, (0, at_)), (1, (0, 2)), (0, (2, 82))]) rfl rfl (by decide) rfl) ?_
    refine xg_t (xg_goto) ?_
    refine xg_t (xg_blk (b := [(183, 2, 2, 4, 0, 0), (185, 1, 3, 2, 0, 0), (186, 3, 6, 218, 3, 0), (189, 1, 0, 0, 0, 0), (190, 1, 2, 1, 0, 0), (191, 1, 2, 3, 0, 0), (192, 2, 4, 60, 0, 0), (194, 1, 3, 2, 0, 0), (195, 1, 2, 3, 0, 0), (196, 1, 16, 0, 0, 0), (197, 1, 11, 0, 0, 0), (198, 2, 2, 4, 0, 0), (200, 1, 11, 0, 0, 0), (201, 1, 0, 0, 0, 0), (202, 1, 3, 1, 0, 0), (203, 3, 5, 9999, 0, 0), (206, 3, 13, 199, 96, 196), (209, 3, 13, 211, 96, 200), (212, 3, 9, 4, 1, 0), (215, 3, 8, 183, 0, 0)]) rfl) ?_
    refine xg_t (xg_iload (va := (0, 1)) rfl rfl) ?_
    refine xg_t (xg_const) ?_
    refine xg_t (xg_icF (u := 1) (v := 2) rfl xnm0 xnm0 (by decide)) ?_
    refine xg_t (xg_aload (va := (2, 82)) rfl rfl) ?_
    refine xg_t (xg_iload (va := (0, 2)) rfl rfl) ?_
    refine xg_t (xg_iload (va := (0, u45)) rfl rfl) ?_
    refine xg_t (xg_bip) ?_
    refine xg_t (xg_const) ?_
    refine xg_t (xg_iload (va := (0, u45)) rfl rfl) ?_
    refine xg_t (xg_imul (u := 2) (v := u45) (z := 2 * u45) xnm0 xnm0 (by omega)) ?_
    refine xg_t (xg_iadd (u := 60) (v := 2 * u45) (z := 60 + (2 * u45)) xnm0 xnm0 (by omega)) ?_
    refine xg_t (xg_iload (va := (0, 1)) rfl rfl) ?_
    refine xg_t (xg_iadd (u := 60 + (2 * u45)) (v := 1) (z := (60 + (2 * u45)) + 1) xnm0 xnm0 (by omega)) ?_
    refine xg_t (xg_aload (va := (2, 82)) rfl rfl) ?_
    refine xg_t (xg_const) ?_
    refine xg_t (xg_sip) ?_
    refine xg_cVi mX12_numbered (vs := [(0, 1), (0, 9999)]) (rest := [(0, (60 + (2 * u45)) + 1), (0, u45), (0, 2), (2, 82)]) (cn1 := 0) (sl1 := 0) rfl (mNumbered (hI912) (by omega) (by omega) pk917.2.2.2) rfl (hF913.get (by decide) h82_908) rfl rfl rfl rfl rfl rfl (fun n926 w922 hq923 => ?_)
    obtain ⟨hn927, hI924, hF925⟩ := hq923
    clear hb879 hb881 hb883 hb885 hb887 hb889 hb891 hb893 hb895 hb897 hb901 hb903 hb905 hb907
    obtain ⟨hn928, hn929, hn930⟩ := hn927
    have pk931 : PK w w922 := PK.tr pk917 hn929
    have os932 : ∀ j, (j < 60 + 2 * u45 ∨ 62 + 2 * u45 ≤ j) → j < 140 → rwv w922 86 j = rwv w 86 j := fun j hj hl => (rwv_fr hF925 (by decide)).trans (os918 j hj hl)
    have ix933 : u45 < 6 → rwv w922 86 ((60 + (2 * u45)) + 0) = n869 := fun h => (rwv_fr hF925 (by decide)).trans (hp915 h)
    have rg934 : FA w922 ≠ 0 ∨ 0 = 1 := rg919.imp_left hn929.1
    have rg935 : FA w922 ≠ 0 ∨ (1 ≤ n869 ∧ n869 ≤ 9999) := rg920.imp_left hn929.1
    have ms936 : mu w922 < mu w := Nat.lt_of_le_of_lt hn929.2.1 ms921
    clear hp915 rg919 rg920
    obtain ⟨f82_937, f82_939, f82_941, f82_943, f82_945, f82_947, f82_949, f82_951, f82_953, f82_955, f82_957, f82_958, f82_959, f82_961, f82_963, f82_965, h82_967, hb938, hb940, hb942, hb944, hb946, hb948, hb950, hb952, hb954, hb956, hb960, hb962, hb964, hb966, hb968⟩ := (hI924 82 (by decide) (by decide) : cp82 (wget w922 82))
    refine xg_cVv mX12_puts (vs := [(0, 2), (0, u45), (0, (60 + (2 * u45)) + 1), (0, n926)]) (rest := []) (cn1 := 0) (sl1 := 0) rfl (mPuts2 (hI924) (by omega) (by omega) (by omega) (fun _ => by omega)) rfl h82_967 rfl rfl rfl rfl rfl rfl (fun w969 hq970 => ?_)
    obtain ⟨hI971, hF972, hx973⟩ := hq970
    obtain ⟨hp974, hp975⟩ := hx973
    have pk976 : PK w w969 := PK.tr pk931 (PK.fr hF972 (by decide) (by decide) pk931.2.2.2)
    have os977 : ∀ j, (j < 60 + 2 * u45 ∨ 62 + 2 * u45 ≤ j) → j < 140 → rwv w969 86 j = rwv w 86 j := fun j hj hl => (hp975 j (by omega) hl).trans (os932 j hj hl)
    have ix978 : u45 < 6 → rwv w969 86 ((60 + (2 * u45)) + 0) = n869 := fun h => (hp975 _ (by omega) (by omega)).trans (ix933 h)
    have rg979 : FA w969 ≠ 0 ∨ 0 = 1 := rg934.imp_left (PK.fr hF972 (by decide) (by decide) pk931.2.2.2).1
    have rg980 : FA w969 ≠ 0 ∨ (1 ≤ n869 ∧ n869 ≤ 9999) := rg935.imp_left (PK.fr hF972 (by decide) (by decide) pk931.2.2.2).1
    have rg981 : FA w969 ≠ 0 ∨ (1 ≤ n926 ∧ n926 ≤ 9999) := hn930.imp_left (PK.fr hF972 (by decide) (by decide) pk931.2.2.2).1
    have ms982 : mu w969 < mu w := Nat.lt_of_le_of_lt (PK.fr hF972 (by decide) (by decide) pk931.2.2.2).2.1 ms936
    clear ix933 rg934 rg935 hn930
    refine xg_t (xg_iinc (u := 1) (z := 2) (l1 := [(3, (0, u45)), (2, (0, at_)), (1, (0, 2)), (0, (2, 82))]) rfl rfl (by decide) rfl) ?_
    refine xg_t (xg_goto) ?_
    refine xg_t (xg_blk (b := [(183, 2, 2, 4, 0, 0), (185, 1, 3, 2, 0, 0), (186, 3, 6, 218, 3, 0), (189, 1, 0, 0, 0, 0), (190, 1, 2, 1, 0, 0), (191, 1, 2, 3, 0, 0), (192, 2, 4, 60, 0, 0), (194, 1, 3, 2, 0, 0), (195, 1, 2, 3, 0, 0), (196, 1, 16, 0, 0, 0), (197, 1, 11, 0, 0, 0), (198, 2, 2, 4, 0, 0), (200, 1, 11, 0, 0, 0), (201, 1, 0, 0, 0, 0), (202, 1, 3, 1, 0, 0), (203, 3, 5, 9999, 0, 0), (206, 3, 13, 199, 96, 196), (209, 3, 13, 211, 96, 200), (212, 3, 9, 4, 1, 0), (215, 3, 8, 183, 0, 0)]) rfl) ?_
    refine xg_t (xg_iload (va := (0, 2)) rfl rfl) ?_
    refine xg_t (xg_const) ?_
    refine xg_t (xg_icT (u := 2) (v := 2) rfl xnm0 xnm0 (by decide)) ?_
    refine xg_t (xg_blk (b := [(218, 3, 8, 394, 0, 0)]) rfl) ?_
    refine xg_t (xg_goto) ?_
    refine xg_t (xg_drop (l1 := [(0, (2, 82)), (1, (0, 2)), (3, (0, u45))]) (List.forall_mem_cons.mpr ⟨List.mem_cons_of_mem _ (List.mem_cons_of_mem _ (List.mem_cons_of_mem _ (List.mem_cons_of_mem _ (List.mem_cons_self)))), List.forall_mem_cons.mpr ⟨List.mem_cons_of_mem _ (List.mem_cons_of_mem _ (List.mem_cons_of_mem _ (List.mem_cons_self))), List.forall_mem_cons.mpr ⟨List.mem_cons_of_mem _ (List.mem_cons_self), fun _ h => absurd h List.not_mem_nil⟩⟩⟩)) ?_
    have hX983 : FA w969 ≠ 0 ∨ u45 < 6 := Or.inl (by have q := rg979; omega)
    exact jn536 w969 (hI971) (((((((hF514.up (by decide)).tr (hF523.up (by decide))).tr (hF868.up (by decide))).tr (hF913.up (by decide))).tr (hF925.up (by decide))).tr (hF972.up (by decide)))) (⟨pk976, os977, ms982, hX983⟩)
set_option maxHeartbeats 60000000 in
theorem mALineS3 {at_ : Nat} (hI : xMnv w) (hps : PS w) (hmb : ∀ s, s < 7 → rwv w 85 s ≤ 1000) (hln : fld w 82 14 ≤ 1000) (h7 : fld w 82 7 = 3) (hat : at_ ≤ 4294967295) : xTo (d + 7) mX12_aLine (43, [], [(2, (0, at_)), (1, (0, 3)), (0, (2, 82))], [], (w, bd, fc, 0, 0, rr)) (fun φ => ∃ w', xEnd 0 [] (w', bd, fc, 0, 0, rr) φ ∧ xMnv w' ∧ xFr [82, 83, 85, 86, 87] w w' ∧ ((FA w ≠ 0 → FA w' ≠ 0) ∧ PS w' ∧ ((fld w' 82 10 = 1 ∧ mu w' = mu w ∧ fld w' 82 14 = fld w 82 14 ∧ ∀ s, s < 7 → rwv w' 85 s = rwv w 85 s) ∨ (mu w' < mu w ∧ fld w' 82 14 = fld w 82 14 + 1 ∧ ∀ s, s < 7 → rwv w' 85 s ≤ rwv w 85 s + 1)) ∧ (FA w' ≠ 0 ∨ (DATA w → DATA w')))) := by
  obtain ⟨f82_1, f82_3, f82_5, f82_7, f82_9, f82_11, f82_13, f82_15, f82_17, f82_19, f82_21, f82_22, f82_23, f82_25, f82_27, f82_29, h82_31, hb2, hb4, hb6, hb8, hb10, hb12, hb14, hb16, hb18, hb20, hb24, hb26, hb28, hb30, hb32⟩ := (hI 82 (by decide) (by decide) : cp82 (wget w 82))
  have hf33 : fld w 82 7 = f82_11 := fld_of h82_31
  have hf34 : fld w 82 10 = f82_17 := fld_of h82_31
  have hf35 : fld w 82 14 = f82_19 := fld_of h82_31
  have hps_ : fld w 82 10 = 0 ∨ FA w ≠ 0 := hps
  obtain ⟨g85_36, h85_37, hb38⟩ := (hI 85 (by decide) (by decide) : cpI 7 52 4294967295 (wget w 85))
  have h85_37 : xRow w 85 7 52 g85_36 := h85_37
  obtain ⟨g86_39, h86_40, hb41⟩ := (hI 86 (by decide) (by decide) : cpI 140 53 4294967295 (wget w 86))
  have h86_40 : xRow w 86 140 53 g86_39 := h86_40
  obtain ⟨g87_42, h87_43, hb44⟩ := (hI 87 (by decide) (by decide) : cpI 20 54 4294967295 (wget w 87))
  have h87_43 : xRow w 87 20 54 g87_42 := h87_43
  refine xg_t (xg_blk (b := [(43, 1, 0, 0, 0, 0), (44, 3, 1, 12, 11, 17), (47, 1, 2, 1, 0, 0), (48, 1, 10, 0, 0, 0), (49, 1, 15, 3, 0, 0), (50, 1, 2, 3, 0, 0), (51, 1, 2, 1, 0, 0), (52, 3, 13, 194, 98, 193), (55, 3, 6, 64, 2, 0), (58, 1, 0, 0, 0, 0), (59, 1, 3, 3, 0, 0), (60, 1, 2, 2, 0, 0), (61, 3, 13, 115, 96, 186)]) rfl) ?_
  refine xg_t (xg_aload (va := (2, 82)) rfl rfl) ?_
  refine xg_t (xg_getf (va := (2, 85)) h82_31 rfl) ?_
  refine xg_t (xg_iload (va := (0, 3)) rfl rfl) ?_
  refine xg_ialdB (n := 3) (B := 4294967295) h85_37 (hb38) xnm0 (by omega) (fun u45 hu46 he47 => ?_)
  have hK48 : rwv w 85 3 = u45 := (rwv_of h85_37 (by decide)).trans he47
  have hm49 := hmb 3 (by decide)
  have hl50 : u45 ≤ 1000 := by omega
  refine xg_t (xg_istore (l1 := [(2, (0, at_)), (1, (0, 3)), (0, (2, 82))]) rfl rfl rfl) ?_
  refine xg_t (xg_iload (va := (0, u45)) rfl rfl) ?_
  refine xg_t (xg_iload (va := (0, 3)) rfl rfl) ?_
  refine xg_t (xg_cSr mX12_mostOf (vs := [(0, 3)]) (rest := [(0, u45)]) (rs := [(0, 4), (0, u45)]) (cn1 := 0) (sl1 := 0) rfl (mMostR3) rfl rfl rfl rfl rfl rfl rfl rfl) ?_
  by_cases hc51 : u45 < 4
  · refine xg_t (xg_icT (u := u45) (v := 4) rfl xnm0 xnm0 (xj_ltT hc51 (by omega))) ?_
    refine xg_t (xg_blk (b := [(64, 1, 0, 0, 0, 0), (65, 3, 13, 110, 96, 190), (68, 1, 2, 1, 0, 0), (69, 39, 33, 362, 0, 9)]) rfl) ?_
    refine xg_t (xg_aload (va := (2, 82)) rfl rfl) ?_
    refine xg_cVv mX12_advance (vs := []) (rest := []) (cn1 := 0) (sl1 := 0) rfl (mAdvance (hI)) rfl h82_31 rfl rfl rfl rfl rfl rfl (fun w52 hq53 => ?_)
    obtain ⟨hI54, hF55, hx56⟩ := hq53
    clear hb2 hb4 hb6 hb8 hb10 hb12 hb14 hb16 hb18 hb20 hb24 hb26 hb28 hb30
    obtain ⟨hv57, hv58, hv59, hv60⟩ := hx56
    have hf62 := FA_fr hF55 (by decide)
    have hs63 := (PK.rf hps).2.2.2
    unfold PS at hs63
    have pk61 : PK w w52 := ⟨fun _ => by omega, hv57, hv60, (show fld w52 82 10 = 0 ∨ FA w52 ≠ 0 by omega)⟩
    clear hs63
    have pk64 : PK w w52 := PK.tr (PK.rf hps) pk61
    have os65 : ∀ j, (j < 80 + 3 * u45 ∨ 83 + 3 * u45 ≤ j) → j < 140 → rwv w52 86 j = rwv w 86 j := fun j hj hl => (rwv_fr hF55 (by decide)).trans ((fun j _ _ => rfl) j hj hl)
    have ms66 : mu w52 < mu w := Nat.lt_of_lt_of_le (hv58 (by omega)) (PK.rf hps).2.1
    clear hv58
    have jn67 : ∀ (w68 : List (List xE)), xMnv w68 → xFr [82, 83, 85, 86, 87] w w68 → (PK w w68 ∧ (∀ j, (j < 80 + 3 * u45 ∨ 83 + 3 * u45 ≤ j) → j < 140 → rwv w68 86 j = rwv w 86 j) ∧ mu w68 < mu w ∧ (FA w68 ≠ 0 ∨ u45 < 4)) → xTo (d + 7) mX12_aLine (394, [], [(0, (2, 82)), (1, (0, 3)), (3, (0, u45))], [], (w68, bd, fc, 0, 0, rr)) (fun φ => ∃ w', xEnd 0 [] (w', bd, fc, 0, 0, rr) φ ∧ xMnv w' ∧ xFr [82, 83, 85, 86, 87] w w' ∧ ((FA w ≠ 0 → FA w' ≠ 0) ∧ PS w' ∧ ((fld w' 82 10 = 1 ∧ mu w' = mu w ∧ fld w' 82 14 = fld w 82 14 ∧ ∀ s, s < 7 → rwv w' 85 s = rwv w 85 s) ∨ (mu w' < mu w ∧ fld w' 82 14 = fld w 82 14 + 1 ∧ ∀ s, s < 7 → rwv w' 85 s ≤ rwv w 85 s + 1)) ∧ (FA w' ≠ 0 ∨ (DATA w → DATA w')))) := by
      intro w68 hI69 hF70 he71
      obtain ⟨hj72, hj73, hj74, hj75⟩ := he71
      refine xg_t (xg_blk (b := [(394, 1, 0, 0, 0, 0), (395, 3, 1, 12, 10, 180), (398, 3, 7, 416, 1, 0), (401, 1, 0, 0, 0, 0), (402, 3, 1, 12, 7, 151), (405, 1, 3, 2, 0, 0), (406, 3, 6, 416, 1, 0), (409, 1, 0, 0, 0, 0), (410, 3, 13, 110, 96, 190), (413, 3, 8, 420, 0, 0)]) rfl) ?_
      refine xg_t (xg_aload (va := (2, 82)) rfl rfl) ?_
      obtain ⟨f82_76, f82_78, f82_80, f82_82, f82_84, f82_86, f82_88, f82_90, f82_92, f82_94, f82_96, f82_97, f82_98, f82_100, f82_102, f82_104, h82_106, hb77, hb79, hb81, hb83, hb85, hb87, hb89, hb91, hb93, hb95, hb99, hb101, hb103, hb105, hb107⟩ := (hI69 82 (by decide) (by decide) : cp82 (wget w68 82))
      refine xg_t (xg_getf (va := (0, f82_92)) h82_106 rfl) ?_
      by_cases hc108 : f82_92 = 0
      · refine xg_t (xg_ifF (u := f82_92) rfl xnm0 (xj_neF hc108)) ?_
        refine xg_t (xg_aload (va := (2, 82)) rfl rfl) ?_
        refine xg_t (xg_getf (va := (0, f82_86)) h82_106 rfl) ?_
        refine xg_t (xg_const) ?_
        by_cases hc109 : f82_86 = 2
        · refine xg_t (xg_icF (u := f82_86) (v := 2) rfl xnm0 xnm0 (xj_neF hc109)) ?_
          refine xg_t (xg_aload (va := (2, 82)) rfl rfl) ?_
          refine xg_cVv mX12_advance (vs := []) (rest := []) (cn1 := 0) (sl1 := 0) rfl (mAdvance (hI69)) rfl h82_106 rfl rfl rfl rfl rfl rfl (fun w110 hq111 => ?_)
          obtain ⟨hI112, hF113, hx114⟩ := hq111
          clear hb77 hb79 hb81 hb83 hb85 hb87 hb89 hb91 hb93 hb95 hb99 hb101 hb103 hb105
          obtain ⟨hv115, hv116, hv117, hv118⟩ := hx114
          have hf120 := FA_fr hF113 (by decide)
          have hs121 := hj72.2.2.2
          unfold PS at hs121
          have pk119 : PK w68 w110 := ⟨fun _ => by omega, hv115, hv118, (show fld w110 82 10 = 0 ∨ FA w110 ≠ 0 by omega)⟩
          clear hs121
          clear hv116
          have pk122 : PK w w110 := PK.tr hj72 pk119
          have os123 : ∀ j, (j < 80 + 3 * u45 ∨ 83 + 3 * u45 ≤ j) → j < 140 → rwv w110 86 j = rwv w 86 j := fun j hj hl => (rwv_fr hF113 (by decide)).trans (hj73 j hj hl)
          have rg124 : FA w110 ≠ 0 ∨ u45 < 4 := hj75.imp_left pk119.1
          have ms125 : mu w110 < mu w := Nat.lt_of_le_of_lt pk119.2.1 hj74
          clear hj75
          refine xg_t (xg_goto) ?_
          refine xg_t (xg_blk (b := [(420, 1, 0, 0, 0, 0), (421, 3, 1, 12, 11, 17), (424, 1, 2, 1, 0, 0), (425, 1, 39, 0, 0, 0), (426, 1, 10, 0, 0, 0), (427, 1, 3, 1, 0, 0), (428, 1, 11, 0, 0, 0), (429, 1, 17, 0, 0, 0), (430, 1, 0, 0, 0, 0), (431, 1, 19, 0, 0, 0), (432, 3, 1, 12, 14, 212), (435, 1, 3, 1, 0, 0), (436, 1, 11, 0, 0, 0), (437, 3, 14, 12, 14, 212), (440, 1, 12, 0, 0, 0)]) rfl) ?_
          obtain ⟨f82_126, f82_128, f82_130, f82_132, f82_134, f82_136, f82_138, f82_140, f82_142, f82_144, f82_146, f82_147, f82_148, f82_150, f82_152, f82_154, h82_156, hb127, hb129, hb131, hb133, hb135, hb137, hb139, hb141, hb143, hb145, hb149, hb151, hb153, hb155, hb157⟩ := (hI112 82 (by decide) (by decide) : cp82 (wget w110 82))
          have hf158 : fld w110 82 4 = f82_130 := fld_of h82_156
          have hf159 : fld w110 82 5 = f82_132 := fld_of h82_156
          have hf160 : fld w110 82 7 = f82_136 := fld_of h82_156
          have hf161 : fld w110 82 10 = f82_142 := fld_of h82_156
          have hf162 : fld w110 82 14 = f82_144 := fld_of h82_156
          have hu163 : mu w110 = 2 * (fld w110 82 4 - fld w110 82 5) + min 1 (fld w110 82 7) := rfl
          have hf164 := pk122.2.2.1
          have hl165 : f82_144 ≤ 1000 := by omega
          refine xg_t (xg_aload (va := (2, 82)) rfl rfl) ?_
          refine xg_t (xg_getf (va := (2, 85)) h82_156 rfl) ?_
          refine xg_t (xg_iload (va := (0, 3)) rfl rfl) ?_
          refine xg_t (xg_dup2 rfl) ?_
          obtain ⟨g85_166, h85_167, hb168⟩ := (hI112 85 (by decide) (by decide) : cpI 7 52 4294967295 (wget w110 85))
          have h85_167 : xRow w110 85 7 52 g85_166 := h85_167
          refine xg_ialdB (n := 3) (B := 4294967295) h85_167 (hb168) xnm0 (by omega) (fun u169 hu170 he171 => ?_)
          have hl172 : u169 = u45 := by omega
          refine xg_t (xg_const) ?_
          refine xg_t (xg_iadd (u := u169) (v := 1) (z := u169 + 1) xnm0 xnm0 (by omega)) ?_
          refine xg_iastK (n := 3) (u := u169 + 1) h85_167 xnm0 xnm0 rfl (by omega) (fun w173 hr174 hb175 => ?_)
          refine xg_t (xg_aload (va := (2, 82)) rfl rfl) ?_
          refine xg_t (xg_dup rfl) ?_
          refine xg_t (xg_getf (va := (0, f82_144)) (hb175.get (by decide) h82_156) rfl) ?_
          refine xg_t (xg_const) ?_
          refine xg_t (xg_iadd (u := f82_144) (v := 1) (z := f82_144 + 1) xnm0 xnm0 (by omega)) ?_
          refine xg_putI (fl1 := [(2, 83), (2, 84), (0, f82_126), (0, f82_128), (0, f82_130), (0, f82_132), (0, f82_134), (0, f82_136), (0, f82_138), (0, f82_140), (0, f82_142), (2, 85), (2, 86), (2, 87), (0, f82_144 + 1), (2, 88), (2, 89), (2, 90), (2, 91), (2, 92), (2, 93), (2, 94), (4, f82_146), (4, f82_147), (0, f82_148), (2, 95), (2, 96), (2, 97), (2, 98), (2, 99), (2, 100), (2, 101), (2, 102), (0, f82_150), (2, 103), (2, 104), (2, 105), (2, 106), (2, 107), (2, 108), (2, 109), (0, f82_152), (0, f82_154), (2, 110), (2, 111), (2, 112), (2, 113)]) (hb175.get (by decide) h82_156) rfl rfl rfl (fun w176 hk177 hb178 => ?_)
          have hF179 : xFr [82, 85] w110 w176 := ((xFr.of (S := [82, 85]) hb175 (by decide)).tr (xFr.of (S := [82, 85]) hb178 (by decide)))
          have hA180 := FA_fr hF179 (by decide)
          have hf181 : fld w176 82 4 = f82_130 := fld_of hk177
          have hf182 : fld w176 82 5 = f82_132 := fld_of hk177
          have hf183 : fld w176 82 7 = f82_136 := fld_of hk177
          have hf184 : fld w176 82 10 = f82_142 := fld_of hk177
          have hf185 : fld w176 82 14 = f82_144 + 1 := fld_of hk177
          have hu186 : mu w176 = 2 * (fld w176 82 4 - fld w176 82 5) + min 1 (fld w176 82 7) := rfl
          have pq187 := pk122
          unfold PK PS at pq187
          have hM188 : ∀ s, s < 7 → s ≠ 3 → rwv w176 85 s = rwv w 85 s := fun s hs hn => (rwv_of (hr174.but hb178 (by decide)) hs).trans ((if_neg hn).trans (rwv_of h85_37 hs).symm)
          have hM189 : rwv w176 85 3 = u45 + 1 := (rwv_of (hr174.but hb178 (by decide)) (by decide)).trans ((if_pos rfl).trans (by omega))
          have hM190 : ∀ s, s < 7 → rwv w176 85 s ≤ rwv w 85 s + 1 := fun s hs => by
            by_cases z : s = 3
            · subst z; omega
            · rw [hM188 s hs z]; omega
          have hO191 : ∀ j, (j < 80 + 3 * u45 ∨ 83 + 3 * u45 ≤ j) → j < 140 → rwv w176 86 j = rwv w 86 j := fun j hj hl => (rwv_fr hF179 (by decide)).trans (os123 j hj hl)
          have hl193 : FA w110 ≠ 0 ∨ u45 < 4 := rg124
          have hN192 : FA w176 ≠ 0 ∨ 4 ≤ u45 ∨ True := Or.inr (Or.inr trivial)
          have hX194 : FA w176 ≠ 0 ∨ u45 < 4 := by omega
          have hD195 : FA w176 ≠ 0 ∨ (DATA w → DATA w176) := by
            by_cases z : FA w176 ≠ 0
            · exact Or.inl z
            · exact Or.inr (fun hd => hd.s3 hM188 hK48 hM189 (hX194.resolve_left z) hO191 ((hN192.resolve_left z).resolve_left (by have := hX194.resolve_left z; omega)))
          exact xg_e ⟨w176, ⟨rfl, rfl⟩, xMnv.up (S := [85, 82]) hI112 ((xFr.of (S := [85, 82]) hb175 (by decide)).tr (xFr.of (S := [85, 82]) hb178 (by decide))) (List.forall_mem_cons.mpr ⟨(show cpI 7 52 4294967295 (wget w176 85) from ⟨_, (hr174.but hb178 (by decide)), xrb (by omega) (hb168)⟩), List.forall_mem_cons.mpr ⟨(show cp82 (wget w176 82) from ⟨f82_126, f82_128, f82_130, f82_132, f82_134, f82_136, f82_138, f82_140, f82_142, f82_144 + 1, f82_146, f82_147, f82_148, f82_150, f82_152, f82_154, hk177, hb127, hb129, hb131, hb133, hb135, hb137, hb139, hb141, hb143, by omega, hb149, hb151, hb153, hb155, by omega⟩), fun _ h => absurd h List.not_mem_nil⟩⟩), ((hF70.tr (hF113.up (by decide))).tr ((xFr.of (S := [82, 83, 85, 86, 87]) hb175 (by decide)).tr (xFr.of (S := [82, 83, 85, 86, 87]) hb178 (by decide)))), ⟨fun h => by have := pq187.1 h; omega, (show fld w176 82 10 = 0 ∨ FA w176 ≠ 0 by omega), Or.inr ⟨by have := ms125; omega, by omega, hM190⟩, hD195⟩⟩
        · refine xg_t (xg_icT (u := f82_86) (v := 2) rfl xnm0 xnm0 (xj_neT hc109)) ?_
          refine xg_t (xg_blk (b := [(416, 1, 0, 0, 0, 0), (417, 3, 13, 140, 96, 183)]) rfl) ?_
          refine xg_t (xg_aload (va := (2, 82)) rfl rfl) ?_
          refine xg_cVv mX12_ends (vs := []) (rest := []) (cn1 := 0) (sl1 := 0) rfl (mEnds (hI69) hj72.2.2.2) rfl h82_106 rfl rfl rfl rfl rfl rfl (fun w196 hq197 => ?_)
          obtain ⟨hI198, hF199, hx200⟩ := hq197
          clear hb77 hb79 hb81 hb83 hb85 hb87 hb89 hb91 hb93 hb95 hb99 hb101 hb103 hb105
          obtain ⟨hv201, hv202, hv203, hv204⟩ := hx200
          have pk205 : PK w68 w196 := ⟨fun _ => hv201, by omega, by omega, Or.inr hv201⟩
          have pk206 : PK w w196 := PK.tr hj72 pk205
          have os207 : ∀ j, (j < 80 + 3 * u45 ∨ 83 + 3 * u45 ≤ j) → j < 140 → rwv w196 86 j = rwv w 86 j := fun j hj hl => (rwv_fr hF199 (by decide)).trans (hj73 j hj hl)
          have rg208 : FA w196 ≠ 0 ∨ u45 < 4 := hj75.imp_left pk205.1
          have ms209 : mu w196 < mu w := Nat.lt_of_le_of_lt pk205.2.1 hj74
          clear hj75
          refine xg_t (xg_blk (b := [(420, 1, 0, 0, 0, 0), (421, 3, 1, 12, 11, 17), (424, 1, 2, 1, 0, 0), (425, 1, 39, 0, 0, 0), (426, 1, 10, 0, 0, 0), (427, 1, 3, 1, 0, 0), (428, 1, 11, 0, 0, 0), (429, 1, 17, 0, 0, 0), (430, 1, 0, 0, 0, 0), (431, 1, 19, 0, 0, 0), (432, 3, 1, 12, 14, 212), (435, 1, 3, 1, 0, 0), (436, 1, 11, 0, 0, 0), (437, 3, 14, 12, 14, 212), (440, 1, 12, 0, 0, 0)]) rfl) ?_
          obtain ⟨f82_210, f82_212, f82_214, f82_216, f82_218, f82_220, f82_222, f82_224, f82_226, f82_228, f82_230, f82_231, f82_232, f82_234, f82_236, f82_238, h82_240, hb211, hb213, hb215, hb217, hb219, hb221, hb223, hb225, hb227, hb229, hb233, hb235, hb237, hb239, hb241⟩ := (hI198 82 (by decide) (by decide) : cp82 (wget w196 82))
          have hf242 : fld w196 82 4 = f82_214 := fld_of h82_240
          have hf243 : fld w196 82 5 = f82_216 := fld_of h82_240
          have hf244 : fld w196 82 7 = f82_220 := fld_of h82_240
          have hf245 : fld w196 82 10 = f82_226 := fld_of h82_240
          have hf246 : fld w196 82 14 = f82_228 := fld_of h82_240
          have hu247 : mu w196 = 2 * (fld w196 82 4 - fld w196 82 5) + min 1 (fld w196 82 7) := rfl
          have hf248 := pk206.2.2.1
          have hl249 : f82_228 ≤ 1000 := by omega
          refine xg_t (xg_aload (va := (2, 82)) rfl rfl) ?_
          refine xg_t (xg_getf (va := (2, 85)) h82_240 rfl) ?_
          refine xg_t (xg_iload (va := (0, 3)) rfl rfl) ?_
          refine xg_t (xg_dup2 rfl) ?_
          obtain ⟨g85_250, h85_251, hb252⟩ := (hI198 85 (by decide) (by decide) : cpI 7 52 4294967295 (wget w196 85))
          have h85_251 : xRow w196 85 7 52 g85_250 := h85_251
          refine xg_ialdB (n := 3) (B := 4294967295) h85_251 (hb252) xnm0 (by omega) (fun u253 hu254 he255 => ?_)
          have hl256 : u253 = u45 := by omega
          refine xg_t (xg_const) ?_
          refine xg_t (xg_iadd (u := u253) (v := 1) (z := u253 + 1) xnm0 xnm0 (by omega)) ?_
          refine xg_iastK (n := 3) (u := u253 + 1) h85_251 xnm0 xnm0 rfl (by omega) (fun w257 hr258 hb259 => ?_)
          refine xg_t (xg_aload (va := (2, 82)) rfl rfl) ?_
          refine xg_t (xg_dup rfl) ?_
          refine xg_t (xg_getf (va := (0, f82_228)) (hb259.get (by decide) h82_240) rfl) ?_
          refine xg_t (xg_const) ?_
          refine xg_t (xg_iadd (u := f82_228) (v := 1) (z := f82_228 + 1) xnm0 xnm0 (by omega)) ?_
          refine xg_putI (fl1 := [(2, 83), (2, 84), (0, f82_210), (0, f82_212), (0, f82_214), (0, f82_216), (0, f82_218), (0, f82_220), (0, f82_222), (0, f82_224), (0, f82_226), (2, 85), (2, 86), (2, 87), (0, f82_228 + 1), (2, 88), (2, 89), (2, 90), (2, 91), (2, 92), (2, 93), (2, 94), (4, f82_230), (4, f82_231), (0, f82_232), (2, 95), (2, 96), (2, 97), (2, 98), (2, 99), (2, 100), (2, 101), (2, 102), (0, f82_234), (2, 103), (2, 104), (2, 105), (2, 106), (2, 107), (2, 108), (2, 109), (0, f82_236), (0, f82_238), (2, 110), (2, 111), (2, 112), (2, 113)]) (hb259.get (by decide) h82_240) rfl rfl rfl (fun w260 hk261 hb262 => ?_)
          have hF263 : xFr [82, 85] w196 w260 := ((xFr.of (S := [82, 85]) hb259 (by decide)).tr (xFr.of (S := [82, 85]) hb262 (by decide)))
          have hA264 := FA_fr hF263 (by decide)
          have hf265 : fld w260 82 4 = f82_214 := fld_of hk261
          have hf266 : fld w260 82 5 = f82_216 := fld_of hk261
          have hf267 : fld w260 82 7 = f82_220 := fld_of hk261
          have hf268 : fld w260 82 10 = f82_226 := fld_of hk261
          have hf269 : fld w260 82 14 = f82_228 + 1 := fld_of hk261
          have hu270 : mu w260 = 2 * (fld w260 82 4 - fld w260 82 5) + min 1 (fld w260 82 7) := rfl
          have pq271 := pk206
          unfold PK PS at pq271
          have hM272 : ∀ s, s < 7 → s ≠ 3 → rwv w260 85 s = rwv w 85 s := fun s hs hn => (rwv_of (hr258.but hb262 (by decide)) hs).trans ((if_neg hn).trans (rwv_of h85_37 hs).symm)
          have hM273 : rwv w260 85 3 = u45 + 1 := (rwv_of (hr258.but hb262 (by decide)) (by decide)).trans ((if_pos rfl).trans (by omega))
          have hM274 : ∀ s, s < 7 → rwv w260 85 s ≤ rwv w 85 s + 1 := fun s hs => by
            by_cases z : s = 3
            · subst z; omega
            · rw [hM272 s hs z]; omega
          have hO275 : ∀ j, (j < 80 + 3 * u45 ∨ 83 + 3 * u45 ≤ j) → j < 140 → rwv w260 86 j = rwv w 86 j := fun j hj hl => (rwv_fr hF263 (by decide)).trans (os207 j hj hl)
          have hl277 : FA w196 ≠ 0 ∨ u45 < 4 := rg208
          have hN276 : FA w260 ≠ 0 ∨ 4 ≤ u45 ∨ True := Or.inr (Or.inr trivial)
          have hX278 : FA w260 ≠ 0 ∨ u45 < 4 := by omega
          have hD279 : FA w260 ≠ 0 ∨ (DATA w → DATA w260) := by
            by_cases z : FA w260 ≠ 0
            · exact Or.inl z
            · exact Or.inr (fun hd => hd.s3 hM272 hK48 hM273 (hX278.resolve_left z) hO275 ((hN276.resolve_left z).resolve_left (by have := hX278.resolve_left z; omega)))
          exact xg_e ⟨w260, ⟨rfl, rfl⟩, xMnv.up (S := [85, 82]) hI198 ((xFr.of (S := [85, 82]) hb259 (by decide)).tr (xFr.of (S := [85, 82]) hb262 (by decide))) (List.forall_mem_cons.mpr ⟨(show cpI 7 52 4294967295 (wget w260 85) from ⟨_, (hr258.but hb262 (by decide)), xrb (by omega) (hb252)⟩), List.forall_mem_cons.mpr ⟨(show cp82 (wget w260 82) from ⟨f82_210, f82_212, f82_214, f82_216, f82_218, f82_220, f82_222, f82_224, f82_226, f82_228 + 1, f82_230, f82_231, f82_232, f82_234, f82_236, f82_238, hk261, hb211, hb213, hb215, hb217, hb219, hb221, hb223, hb225, hb227, by omega, hb233, hb235, hb237, hb239, by omega⟩), fun _ h => absurd h List.not_mem_nil⟩⟩), ((hF70.tr (hF199.up (by decide))).tr ((xFr.of (S := [82, 83, 85, 86, 87]) hb259 (by decide)).tr (xFr.of (S := [82, 83, 85, 86, 87]) hb262 (by decide)))), ⟨fun h => by have := pq271.1 h; omega, (show fld w260 82 10 = 0 ∨ FA w260 ≠ 0 by omega), Or.inr ⟨by have := ms209; omega, by omega, hM274⟩, hD279⟩⟩
      · refine xg_t (xg_ifT (u := f82_92) rfl xnm0 (xj_neT hc108)) ?_
        refine xg_t (xg_blk (b := [(416, 1, 0, 0, 0, 0), (417, 3, 13, 140, 96, 183)]) rfl) ?_
        refine xg_t (xg_aload (va := (2, 82)) rfl rfl) ?_
        refine xg_cVv mX12_ends (vs := []) (rest := []) (cn1 := 0) (sl1 := 0) rfl (mEnds (hI69) hj72.2.2.2) rfl h82_106 rfl rfl rfl rfl rfl rfl (fun w280 hq281 => ?_)
        obtain ⟨hI282, hF283, hx284⟩ := hq281
        clear hb77 hb79 hb81 hb83 hb85 hb87 hb89 hb91 hb93 hb95 hb99 hb101 hb103 hb105
        obtain ⟨hv285, hv286, hv287, hv288⟩ := hx284
        have pk289 : PK w68 w280 := ⟨fun _ => hv285, by omega, by omega, Or.inr hv285⟩
        have pk290 : PK w w280 := PK.tr hj72 pk289
        have os291 : ∀ j, (j < 80 + 3 * u45 ∨ 83 + 3 * u45 ≤ j) → j < 140 → rwv w280 86 j = rwv w 86 j := fun j hj hl => (rwv_fr hF283 (by decide)).trans (hj73 j hj hl)
        have rg292 : FA w280 ≠ 0 ∨ u45 < 4 := hj75.imp_left pk289.1
        have ms293 : mu w280 < mu w := Nat.lt_of_le_of_lt pk289.2.1 hj74
        clear hj75
        refine xg_t (xg_blk (b := [(420, 1, 0, 0, 0, 0), (421, 3, 1, 12, 11, 17), (424, 1, 2, 1, 0, 0), (425, 1, 39, 0, 0, 0), (426, 1, 10, 0, 0, 0), (427, 1, 3, 1, 0, 0), (428, 1, 11, 0, 0, 0), (429, 1, 17, 0, 0, 0), (430, 1, 0, 0, 0, 0), (431, 1, 19, 0, 0, 0), (432, 3, 1, 12, 14, 212), (435, 1, 3, 1, 0, 0), (436, 1, 11, 0, 0, 0), (437, 3, 14, 12, 14, 212), (440, 1, 12, 0, 0, 0)]) rfl) ?_
        obtain ⟨f82_294, f82_296, f82_298, f82_300, f82_302, f82_304, f82_306, f82_308, f82_310, f82_312, f82_314, f82_315, f82_316, f82_318, f82_320, f82_322, h82_324, hb295, hb297, hb299, hb301, hb303, hb305, hb307, hb309, hb311, hb313, hb317, hb319, hb321, hb323, hb325⟩ := (hI282 82 (by decide) (by decide) : cp82 (wget w280 82))
        have hf326 : fld w280 82 4 = f82_298 := fld_of h82_324
        have hf327 : fld w280 82 5 = f82_300 := fld_of h82_324
        have hf328 : fld w280 82 7 = f82_304 := fld_of h82_324
        have hf329 : fld w280 82 10 = f82_310 := fld_of h82_324
        have hf330 : fld w280 82 14 = f82_312 := fld_of h82_324
        have hu331 : mu w280 = 2 * (fld w280 82 4 - fld w280 82 5) + min 1 (fld w280 82 7) := rfl
        have hf332 := pk290.2.2.1
        have hl333 : f82_312 ≤ 1000 := by omega
        refine xg_t (xg_aload (va := (2, 82)) rfl rfl) ?_
        refine xg_t (xg_getf (va := (2, 85)) h82_324 rfl) ?_
        refine xg_t (xg_iload (va := (0, 3)) rfl rfl) ?_
        refine xg_t (xg_dup2 rfl) ?_
        obtain ⟨g85_334, h85_335, hb336⟩ := (hI282 85 (by decide) (by decide) : cpI 7 52 4294967295 (wget w280 85))
        have h85_335 : xRow w280 85 7 52 g85_334 := h85_335
        refine xg_ialdB (n := 3) (B := 4294967295) h85_335 (hb336) xnm0 (by omega) (fun u337 hu338 he339 => ?_)
        have hl340 : u337 = u45 := by omega
        refine xg_t (xg_const) ?_
        refine xg_t (xg_iadd (u := u337) (v := 1) (z := u337 + 1) xnm0 xnm0 (by omega)) ?_
        refine xg_iastK (n := 3) (u := u337 + 1) h85_335 xnm0 xnm0 rfl (by omega) (fun w341 hr342 hb343 => ?_)
        refine xg_t (xg_aload (va := (2, 82)) rfl rfl) ?_
        refine xg_t (xg_dup rfl) ?_
        refine xg_t (xg_getf (va := (0, f82_312)) (hb343.get (by decide) h82_324) rfl) ?_
        refine xg_t (xg_const) ?_
        refine xg_t (xg_iadd (u := f82_312) (v := 1) (z := f82_312 + 1) xnm0 xnm0 (by omega)) ?_
        refine xg_putI (fl1 := [(2, 83), (2, 84), (0, f82_294), (0, f82_296), (0, f82_298), (0, f82_300), (0, f82_302), (0, f82_304), (0, f82_306), (0, f82_308), (0, f82_310), (2, 85), (2, 86), (2, 87), (0, f82_312 + 1), (2, 88), (2, 89), (2, 90), (2, 91), (2, 92), (2, 93), (2, 94), (4, f82_314), (4, f82_315), (0, f82_316), (2, 95), (2, 96), (2, 97), (2, 98), (2, 99), (2, 100), (2, 101), (2, 102), (0, f82_318), (2, 103), (2, 104), (2, 105), (2, 106), (2, 107), (2, 108), (2, 109), (0, f82_320), (0, f82_322), (2, 110), (2, 111), (2, 112), (2, 113)]) (hb343.get (by decide) h82_324) rfl rfl rfl (fun w344 hk345 hb346 => ?_)
        have hF347 : xFr [82, 85] w280 w344 := ((xFr.of (S := [82, 85]) hb343 (by decide)).tr (xFr.of (S := [82, 85]) hb346 (by decide)))
        have hA348 := FA_fr hF347 (by decide)
        have hf349 : fld w344 82 4 = f82_298 := fld_of hk345
        have hf350 : fld w344 82 5 = f82_300 := fld_of hk345
        have hf351 : fld w344 82 7 = f82_304 := fld_of hk345
        have hf352 : fld w344 82 10 = f82_310 := fld_of hk345
        have hf353 : fld w344 82 14 = f82_312 + 1 := fld_of hk345
        have hu354 : mu w344 = 2 * (fld w344 82 4 - fld w344 82 5) + min 1 (fld w344 82 7) := rfl
        have pq355 := pk290
        unfold PK PS at pq355
        have hM356 : ∀ s, s < 7 → s ≠ 3 → rwv w344 85 s = rwv w 85 s := fun s hs hn => (rwv_of (hr342.but hb346 (by decide)) hs).trans ((if_neg hn).trans (rwv_of h85_37 hs).symm)
        have hM357 : rwv w344 85 3 = u45 + 1 := (rwv_of (hr342.but hb346 (by decide)) (by decide)).trans ((if_pos rfl).trans (by omega))
        have hM358 : ∀ s, s < 7 → rwv w344 85 s ≤ rwv w 85 s + 1 := fun s hs => by
          by_cases z : s = 3
          · subst z; omega
          · rw [hM356 s hs z]; omega
        have hO359 : ∀ j, (j < 80 + 3 * u45 ∨ 83 + 3 * u45 ≤ j) → j < 140 → rwv w344 86 j = rwv w 86 j := fun j hj hl => (rwv_fr hF347 (by decide)).trans (os291 j hj hl)
        have hl361 : FA w280 ≠ 0 ∨ u45 < 4 := rg292
        have hN360 : FA w344 ≠ 0 ∨ 4 ≤ u45 ∨ True := Or.inr (Or.inr trivial)
        have hX362 : FA w344 ≠ 0 ∨ u45 < 4 := by omega
        have hD363 : FA w344 ≠ 0 ∨ (DATA w → DATA w344) := by
          by_cases z : FA w344 ≠ 0
          · exact Or.inl z
          · exact Or.inr (fun hd => hd.s3 hM356 hK48 hM357 (hX362.resolve_left z) hO359 ((hN360.resolve_left z).resolve_left (by have := hX362.resolve_left z; omega)))
        exact xg_e ⟨w344, ⟨rfl, rfl⟩, xMnv.up (S := [85, 82]) hI282 ((xFr.of (S := [85, 82]) hb343 (by decide)).tr (xFr.of (S := [85, 82]) hb346 (by decide))) (List.forall_mem_cons.mpr ⟨(show cpI 7 52 4294967295 (wget w344 85) from ⟨_, (hr342.but hb346 (by decide)), xrb (by omega) (hb336)⟩), List.forall_mem_cons.mpr ⟨(show cp82 (wget w344 82) from ⟨f82_294, f82_296, f82_298, f82_300, f82_302, f82_304, f82_306, f82_308, f82_310, f82_312 + 1, f82_314, f82_315, f82_316, f82_318, f82_320, f82_322, hk345, hb295, hb297, hb299, hb301, hb303, hb305, hb307, hb309, hb311, by omega, hb317, hb319, hb321, hb323, by omega⟩), fun _ h => absurd h List.not_mem_nil⟩⟩), ((hF70.tr (hF283.up (by decide))).tr ((xFr.of (S := [82, 83, 85, 86, 87]) hb343 (by decide)).tr (xFr.of (S := [82, 83, 85, 86, 87]) hb346 (by decide)))), ⟨fun h => by have := pq355.1 h; omega, (show fld w344 82 10 = 0 ∨ FA w344 ≠ 0 by omega), Or.inr ⟨by have := ms293; omega, by omega, hM358⟩, hD363⟩⟩
    refine xg_t (xg_iload (va := (0, 3)) rfl rfl) ?_
    refine xg_t (xg_swt (ks := [(0, 108), (1, 116), (2, 180), (3, 221), (4, 273), (5, 326)]) (u := 3) (z := 221) rfl rfl rfl xnm0 (xsw_n (by omega) (xsw_n (by omega) (xsw_n (by omega) (xsw_y rfl))))) ?_
    refine xg_t (xg_blk (b := [(221, 1, 3, 0, 0, 0), (222, 2, 15, 4, 0, 0)]) rfl) ?_
    refine xg_t (xg_const) ?_
    refine xg_t (xg_istore (l1 := [(3, (0, u45)), (2, (0, at_)), (1, (0, 3)), (0, (2, 82))]) rfl rfl rfl) ?_
    refine xg_t (xg_blk (b := [(224, 2, 2, 4, 0, 0), (226, 1, 3, 3, 0, 0), (227, 3, 6, 270, 3, 0), (230, 1, 0, 0, 0, 0), (231, 1, 2, 1, 0, 0), (232, 1, 2, 3, 0, 0), (233, 2, 4, 80, 0, 0), (235, 1, 3, 3, 0, 0), (236, 1, 2, 3, 0, 0), (237, 1, 16, 0, 0, 0), (238, 1, 11, 0, 0, 0), (239, 2, 2, 4, 0, 0), (241, 1, 11, 0, 0, 0), (242, 1, 0, 0, 0, 0), (243, 1, 3, 1, 0, 0), (244, 2, 2, 4, 0, 0), (246, 1, 3, 2, 0, 0), (247, 3, 6, 255, 3, 0), (250, 2, 4, 10, 0, 0), (252, 3, 8, 258, 0, 0)]) rfl) ?_
    refine xg_t (xg_iload (va := (0, 0)) rfl rfl) ?_
    refine xg_t (xg_const) ?_
    refine xg_t (xg_icF (u := 0) (v := 3) rfl xnm0 xnm0 (by decide)) ?_
    refine xg_t (xg_aload (va := (2, 82)) rfl rfl) ?_
    refine xg_t (xg_iload (va := (0, 3)) rfl rfl) ?_
    refine xg_t (xg_iload (va := (0, u45)) rfl rfl) ?_
    refine xg_t (xg_bip) ?_
    refine xg_t (xg_const) ?_
    refine xg_t (xg_iload (va := (0, u45)) rfl rfl) ?_
    refine xg_t (xg_imul (u := 3) (v := u45) (z := 3 * u45) xnm0 xnm0 (by omega)) ?_
    refine xg_t (xg_iadd (u := 80) (v := 3 * u45) (z := 80 + (3 * u45)) xnm0 xnm0 (by omega)) ?_
    refine xg_t (xg_iload (va := (0, 0)) rfl rfl) ?_
    refine xg_t (xg_iadd (u := 80 + (3 * u45)) (v := 0) (z := (80 + (3 * u45)) + 0) xnm0 xnm0 (by omega)) ?_
    refine xg_t (xg_aload (va := (2, 82)) rfl rfl) ?_
    refine xg_t (xg_const) ?_
    refine xg_t (xg_iload (va := (0, 0)) rfl rfl) ?_
    refine xg_t (xg_const) ?_
    refine xg_t (xg_icF (u := 0) (v := 2) rfl xnm0 xnm0 (by decide)) ?_
    refine xg_t (xg_bip) ?_
    refine xg_t (xg_goto) ?_
    refine xg_t (xg_blk (b := [(258, 3, 13, 199, 96, 196), (261, 3, 13, 211, 96, 200), (264, 3, 9, 4, 1, 0), (267, 3, 8, 224, 0, 0)]) rfl) ?_
    obtain ⟨f82_364, f82_366, f82_368, f82_370, f82_372, f82_374, f82_376, f82_378, f82_380, f82_382, f82_384, f82_385, f82_386, f82_388, f82_390, f82_392, h82_394, hb365, hb367, hb369, hb371, hb373, hb375, hb377, hb379, hb381, hb383, hb387, hb389, hb391, hb393, hb395⟩ := (hI54 82 (by decide) (by decide) : cp82 (wget w52 82))
    refine xg_cVi mX12_numbered (vs := [(0, 1), (0, 10)]) (rest := [(0, (80 + (3 * u45)) + 0), (0, u45), (0, 3), (2, 82)]) (cn1 := 0) (sl1 := 0) rfl (mNumbered (hI54) (by omega) (by omega) pk64.2.2.2) rfl h82_394 rfl rfl rfl rfl rfl rfl (fun n400 w396 hq397 => ?_)
    obtain ⟨hn401, hI398, hF399⟩ := hq397
    clear hb365 hb367 hb369 hb371 hb373 hb375 hb377 hb379 hb381 hb383 hb387 hb389 hb391 hb393
    obtain ⟨hn402, hn403, hn404⟩ := hn401
    have pk405 : PK w w396 := PK.tr pk64 hn403
    have os406 : ∀ j, (j < 80 + 3 * u45 ∨ 83 + 3 * u45 ≤ j) → j < 140 → rwv w396 86 j = rwv w 86 j := fun j hj hl => (rwv_fr hF399 (by decide)).trans (os65 j hj hl)
    have ms407 : mu w396 < mu w := Nat.lt_of_le_of_lt hn403.2.1 ms66
    obtain ⟨f82_408, f82_410, f82_412, f82_414, f82_416, f82_418, f82_420, f82_422, f82_424, f82_426, f82_428, f82_429, f82_430, f82_432, f82_434, f82_436, h82_438, hb409, hb411, hb413, hb415, hb417, hb419, hb421, hb423, hb425, hb427, hb431, hb433, hb435, hb437, hb439⟩ := (hI398 82 (by decide) (by decide) : cp82 (wget w396 82))
    refine xg_cVv mX12_puts (vs := [(0, 3), (0, u45), (0, (80 + (3 * u45)) + 0), (0, n400)]) (rest := []) (cn1 := 0) (sl1 := 0) rfl (mPuts3 (hI398) (by omega) (by omega) (by omega) (fun _ => by omega)) rfl h82_438 rfl rfl rfl rfl rfl rfl (fun w440 hq441 => ?_)
    obtain ⟨hI442, hF443, hx444⟩ := hq441
    obtain ⟨hp445, hp446⟩ := hx444
    have pk447 : PK w w440 := PK.tr pk405 (PK.fr hF443 (by decide) (by decide) pk405.2.2.2)
    have os448 : ∀ j, (j < 80 + 3 * u45 ∨ 83 + 3 * u45 ≤ j) → j < 140 → rwv w440 86 j = rwv w 86 j := fun j hj hl => (hp446 j (by omega) hl).trans (os406 j hj hl)
    have rg449 : FA w440 ≠ 0 ∨ (1 ≤ n400 ∧ n400 ≤ 10) := hn404.imp_left (PK.fr hF443 (by decide) (by decide) pk405.2.2.2).1
    have ms450 : mu w440 < mu w := Nat.lt_of_le_of_lt (PK.fr hF443 (by decide) (by decide) pk405.2.2.2).2.1 ms407
    clear hn404
    refine xg_t (xg_iinc (u := 0) (z := 1) (l1 := [(3, (0, u45)), (2, (0, at_)), (1, (0, 3)), (0, (2, 82))]) rfl rfl (by decide) rfl) ?_
    refine xg_t (xg_goto) ?_
    refine xg_t (xg_blk (b := [(224, 2, 2, 4, 0, 0), (226, 1, 3, 3, 0, 0), (227, 3, 6, 270, 3, 0), (230, 1, 0, 0, 0, 0), (231, 1, 2, 1, 0, 0), (232, 1, 2, 3, 0, 0), (233, 2, 4, 80, 0, 0), (235, 1, 3, 3, 0, 0), (236, 1, 2, 3, 0, 0), (237, 1, 16, 0, 0, 0), (238, 1, 11, 0, 0, 0), (239, 2, 2, 4, 0, 0), (241, 1, 11, 0, 0, 0), (242, 1, 0, 0, 0, 0), (243, 1, 3, 1, 0, 0), (244, 2, 2, 4, 0, 0), (246, 1, 3, 2, 0, 0), (247, 3, 6, 255, 3, 0), (250, 2, 4, 10, 0, 0), (252, 3, 8, 258, 0, 0)]) rfl) ?_
    refine xg_t (xg_iload (va := (0, 1)) rfl rfl) ?_
    refine xg_t (xg_const) ?_
    refine xg_t (xg_icF (u := 1) (v := 3) rfl xnm0 xnm0 (by decide)) ?_
    refine xg_t (xg_aload (va := (2, 82)) rfl rfl) ?_
    refine xg_t (xg_iload (va := (0, 3)) rfl rfl) ?_
    refine xg_t (xg_iload (va := (0, u45)) rfl rfl) ?_
    refine xg_t (xg_bip) ?_
    refine xg_t (xg_const) ?_
    refine xg_t (xg_iload (va := (0, u45)) rfl rfl) ?_
    refine xg_t (xg_imul (u := 3) (v := u45) (z := 3 * u45) xnm0 xnm0 (by omega)) ?_
    refine xg_t (xg_iadd (u := 80) (v := 3 * u45) (z := 80 + (3 * u45)) xnm0 xnm0 (by omega)) ?_
    refine xg_t (xg_iload (va := (0, 1)) rfl rfl) ?_
    refine xg_t (xg_iadd (u := 80 + (3 * u45)) (v := 1) (z := (80 + (3 * u45)) + 1) xnm0 xnm0 (by omega)) ?_
    refine xg_t (xg_aload (va := (2, 82)) rfl rfl) ?_
    refine xg_t (xg_const) ?_
    refine xg_t (xg_iload (va := (0, 1)) rfl rfl) ?_
    refine xg_t (xg_const) ?_
    refine xg_t (xg_icF (u := 1) (v := 2) rfl xnm0 xnm0 (by decide)) ?_
    refine xg_t (xg_bip) ?_
    refine xg_t (xg_goto) ?_
    refine xg_t (xg_blk (b := [(258, 3, 13, 199, 96, 196), (261, 3, 13, 211, 96, 200), (264, 3, 9, 4, 1, 0), (267, 3, 8, 224, 0, 0)]) rfl) ?_
    refine xg_cVi mX12_numbered (vs := [(0, 1), (0, 10)]) (rest := [(0, (80 + (3 * u45)) + 1), (0, u45), (0, 3), (2, 82)]) (cn1 := 0) (sl1 := 0) rfl (mNumbered (hI442) (by omega) (by omega) pk447.2.2.2) rfl (hF443.get (by decide) h82_438) rfl rfl rfl rfl rfl rfl (fun n455 w451 hq452 => ?_)
    obtain ⟨hn456, hI453, hF454⟩ := hq452
    clear hb409 hb411 hb413 hb415 hb417 hb419 hb421 hb423 hb425 hb427 hb431 hb433 hb435 hb437
    obtain ⟨hn457, hn458, hn459⟩ := hn456
    have pk460 : PK w w451 := PK.tr pk447 hn458
    have os461 : ∀ j, (j < 80 + 3 * u45 ∨ 83 + 3 * u45 ≤ j) → j < 140 → rwv w451 86 j = rwv w 86 j := fun j hj hl => (rwv_fr hF454 (by decide)).trans (os448 j hj hl)
    have ix462 : u45 < 4 → rwv w451 86 ((80 + (3 * u45)) + 0) = n400 := fun h => (rwv_fr hF454 (by decide)).trans (hp445 h)
    have rg463 : FA w451 ≠ 0 ∨ (1 ≤ n400 ∧ n400 ≤ 10) := rg449.imp_left hn458.1
    have ms464 : mu w451 < mu w := Nat.lt_of_le_of_lt hn458.2.1 ms450
    clear hp445 rg449
    obtain ⟨f82_465, f82_467, f82_469, f82_471, f82_473, f82_475, f82_477, f82_479, f82_481, f82_483, f82_485, f82_486, f82_487, f82_489, f82_491, f82_493, h82_495, hb466, hb468, hb470, hb472, hb474, hb476, hb478, hb480, hb482, hb484, hb488, hb490, hb492, hb494, hb496⟩ := (hI453 82 (by decide) (by decide) : cp82 (wget w451 82))
    refine xg_cVv mX12_puts (vs := [(0, 3), (0, u45), (0, (80 + (3 * u45)) + 1), (0, n455)]) (rest := []) (cn1 := 0) (sl1 := 0) rfl (mPuts3 (hI453) (by omega) (by omega) (by omega) (fun _ => by omega)) rfl h82_495 rfl rfl rfl rfl rfl rfl (fun w497 hq498 => ?_)
    obtain ⟨hI499, hF500, hx501⟩ := hq498
    obtain ⟨hp502, hp503⟩ := hx501
    have pk504 : PK w w497 := PK.tr pk460 (PK.fr hF500 (by decide) (by decide) pk460.2.2.2)
    have os505 : ∀ j, (j < 80 + 3 * u45 ∨ 83 + 3 * u45 ≤ j) → j < 140 → rwv w497 86 j = rwv w 86 j := fun j hj hl => (hp503 j (by omega) hl).trans (os461 j hj hl)
    have ix506 : u45 < 4 → rwv w497 86 ((80 + (3 * u45)) + 0) = n400 := fun h => (hp503 _ (by omega) (by omega)).trans (ix462 h)
    have rg507 : FA w497 ≠ 0 ∨ (1 ≤ n400 ∧ n400 ≤ 10) := rg463.imp_left (PK.fr hF500 (by decide) (by decide) pk460.2.2.2).1
    have rg508 : FA w497 ≠ 0 ∨ (1 ≤ n455 ∧ n455 ≤ 10) := hn459.imp_left (PK.fr hF500 (by decide) (by decide) pk460.2.2.2).1
    have ms509 : mu w497 < mu w := Nat.lt_of_le_of_lt (PK.fr hF500 (by decide) (by decide) pk460.2.2.2).2.1 ms464
    clear ix462 rg463 hn459
    refine xg_t (xg_iinc (u := 1) (z := 2) (l1 := [(3, (0, u45)), (2, (0, at_)), (1, (0, 3)), (0, (2, 82))]) rfl rfl (by decide) rfl) ?_
    refine xg_t (xg_goto) ?_
    refine xg_t (xg_blk (b := [(224, 2, 2, 4, 0, 0), (226, 1, 3, 3, 0, 0), (227, 3, 6, 270, 3, 0), (230, 1, 0, 0, 0, 0), (231, 1, 2, 1, 0, 0), (232, 1, 2, 3, 0, 0), (233, 2, 4, 80, 0, 0), (235, 1, 3, 3, 0, 0), (236, 1, 2, 3, 0, 0), (237, 1, 16, 0, 0, 0), (238, 1, 11, 0, 0, 0), (239, 2, 2, 4, 0, 0), (241, 1, 11, 0, 0, 0), (242, 1, 0, 0, 0, 0), (243, 1, 3, 1, 0, 0), (244, 2, 2, 4, 0, 0), (246, 1, 3, 2, 0, 0), (247, 3, 6, 255, 3, 0), (250, 2, 4, 10, 0, 0), (252, 3, 8, 258, 0, 0)]) rfl) ?_
    refine xg_t (xg_iload (va := (0, 2)) rfl rfl) ?_
    refine xg_t (xg_const) ?_
    refine xg_t (xg_icF (u := 2) (v := 3) rfl xnm0 xnm0 (by decide)) ?_
    refine xg_t (xg_aload (va := (2, 82)) rfl rfl) ?_
    refine xg_t (xg_iload (va := (0, 3)) rfl rfl) ?_
    refine xg_t (xg_iload (va := (0, u45)) rfl rfl) ?_
    refine xg_t (xg_bip) ?_
    refine xg_t (xg_const) ?_
    refine xg_t (xg_iload (va := (0, u45)) rfl rfl) ?_
    refine xg_t (xg_imul (u := 3) (v := u45) (z := 3 * u45) xnm0 xnm0 (by omega)) ?_
    refine xg_t (xg_iadd (u := 80) (v := 3 * u45) (z := 80 + (3 * u45)) xnm0 xnm0 (by omega)) ?_
    refine xg_t (xg_iload (va := (0, 2)) rfl rfl) ?_
    refine xg_t (xg_iadd (u := 80 + (3 * u45)) (v := 2) (z := (80 + (3 * u45)) + 2) xnm0 xnm0 (by omega)) ?_
    refine xg_t (xg_aload (va := (2, 82)) rfl rfl) ?_
    refine xg_t (xg_const) ?_
    refine xg_t (xg_iload (va := (0, 2)) rfl rfl) ?_
    refine xg_t (xg_const) ?_
    refine xg_t (xg_icT (u := 2) (v := 2) rfl xnm0 xnm0 (by decide)) ?_
    refine xg_t (xg_blk (b := [(255, 3, 5, 999, 0, 0)]) rfl) ?_
    refine xg_t (xg_sip) ?_
    refine xg_t (xg_blk (b := [(258, 3, 13, 199, 96, 196), (261, 3, 13, 211, 96, 200), (264, 3, 9, 4, 1, 0), (267, 3, 8, 224, 0, 0)]) rfl) ?_
    refine xg_cVi mX12_numbered (vs := [(0, 1), (0, 999)]) (rest := [(0, (80 + (3 * u45)) + 2), (0, u45), (0, 3), (2, 82)]) (cn1 := 0) (sl1 := 0) rfl (mNumbered (hI499) (by omega) (by omega) pk504.2.2.2) rfl (hF500.get (by decide) h82_495) rfl rfl rfl rfl rfl rfl (fun n514 w510 hq511 => ?_)
    obtain ⟨hn515, hI512, hF513⟩ := hq511
    clear hb466 hb468 hb470 hb472 hb474 hb476 hb478 hb480 hb482 hb484 hb488 hb490 hb492 hb494
    obtain ⟨hn516, hn517, hn518⟩ := hn515
    have pk519 : PK w w510 := PK.tr pk504 hn517
    have os520 : ∀ j, (j < 80 + 3 * u45 ∨ 83 + 3 * u45 ≤ j) → j < 140 → rwv w510 86 j = rwv w 86 j := fun j hj hl => (rwv_fr hF513 (by decide)).trans (os505 j hj hl)
    have ix521 : u45 < 4 → rwv w510 86 ((80 + (3 * u45)) + 0) = n400 := fun h => (rwv_fr hF513 (by decide)).trans (ix506 h)
    have ix522 : u45 < 4 → rwv w510 86 ((80 + (3 * u45)) + 1) = n455 := fun h => (rwv_fr hF513 (by decide)).trans (hp502 h)
    have rg523 : FA w510 ≠ 0 ∨ (1 ≤ n400 ∧ n400 ≤ 10) := rg507.imp_left hn517.1
    have rg524 : FA w510 ≠ 0 ∨ (1 ≤ n455 ∧ n455 ≤ 10) := rg508.imp_left hn517.1
    have ms525 : mu w510 < mu w := Nat.lt_of_le_of_lt hn517.2.1 ms509
    clear ix506 hp502 rg507 rg508
    obtain ⟨f82_526, f82_528, f82_530, f82_532, f82_534, f82_536, f82_538, f82_540, f82_542, f82_544, f82_546, f82_547, f82_548, f82_550, f82_552, f82_554, h82_556, hb527, hb529, hb531, hb533, hb535, hb537, hb539, hb541, hb543, hb545, hb549, hb551, hb553, hb555, hb557⟩ := (hI512 82 (by decide) (by decide) : cp82 (wget w510 82))
    refine xg_cVv mX12_puts (vs := [(0, 3), (0, u45), (0, (80 + (3 * u45)) + 2), (0, n514)]) (rest := []) (cn1 := 0) (sl1 := 0) rfl (mPuts3 (hI512) (by omega) (by omega) (by omega) (fun _ => by omega)) rfl h82_556 rfl rfl rfl rfl rfl rfl (fun w558 hq559 => ?_)
    obtain ⟨hI560, hF561, hx562⟩ := hq559
    obtain ⟨hp563, hp564⟩ := hx562
    have pk565 : PK w w558 := PK.tr pk519 (PK.fr hF561 (by decide) (by decide) pk519.2.2.2)
    have os566 : ∀ j, (j < 80 + 3 * u45 ∨ 83 + 3 * u45 ≤ j) → j < 140 → rwv w558 86 j = rwv w 86 j := fun j hj hl => (hp564 j (by omega) hl).trans (os520 j hj hl)
    have ix567 : u45 < 4 → rwv w558 86 ((80 + (3 * u45)) + 0) = n400 := fun h => (hp564 _ (by omega) (by omega)).trans (ix521 h)
    have ix568 : u45 < 4 → rwv w558 86 ((80 + (3 * u45)) + 1) = n455 := fun h => (hp564 _ (by omega) (by omega)).trans (ix522 h)
    have rg569 : FA w558 ≠ 0 ∨ (1 ≤ n400 ∧ n400 ≤ 10) := rg523.imp_left (PK.fr hF561 (by decide) (by decide) pk519.2.2.2).1
    have rg570 : FA w558 ≠ 0 ∨ (1 ≤ n455 ∧ n455 ≤ 10) := rg524.imp_left (PK.fr hF561 (by decide) (by decide) pk519.2.2.2).1
    have rg571 : FA w558 ≠ 0 ∨ (1 ≤ n514 ∧ n514 ≤ 999) := hn518.imp_left (PK.fr hF561 (by decide) (by decide) pk519.2.2.2).1
    have ms572 : mu w558 < mu w := Nat.lt_of_le_of_lt (PK.fr hF561 (by decide) (by decide) pk519.2.2.2).2.1 ms525
    clear ix521 ix522 rg523 rg524 hn518
    refine xg_t (xg_iinc (u := 2) (z := 3) (l1 := [(3, (0, u45)), (2, (0, at_)), (1, (0, 3)), (0, (2, 82))]) rfl rfl (by decide) rfl) ?_
    refine xg_t (xg_goto) ?_
    refine xg_t (xg_blk (b := [(224, 2, 2, 4, 0, 0), (226, 1, 3, 3, 0, 0), (227, 3, 6, 270, 3, 0), (230, 1, 0, 0, 0, 0), (231, 1, 2, 1, 0, 0), (232, 1, 2, 3, 0, 0), (233, 2, 4, 80, 0, 0), (235, 1, 3, 3, 0, 0), (236, 1, 2, 3, 0, 0), (237, 1, 16, 0, 0, 0), (238, 1, 11, 0, 0, 0), (239, 2, 2, 4, 0, 0), (241, 1, 11, 0, 0, 0), (242, 1, 0, 0, 0, 0), (243, 1, 3, 1, 0, 0), (244, 2, 2, 4, 0, 0), (246, 1, 3, 2, 0, 0), (247, 3, 6, 255, 3, 0), (250, 2, 4, 10, 0, 0), (252, 3, 8, 258, 0, 0)]) rfl) ?_
    refine xg_t (xg_iload (va := (0, 3)) rfl rfl) ?_
    refine xg_t (xg_const) ?_
    refine xg_t (xg_icT (u := 3) (v := 3) rfl xnm0 xnm0 (by decide)) ?_
    refine xg_t (xg_blk (b := [(270, 3, 8, 394, 0, 0)]) rfl) ?_
    refine xg_t (xg_goto) ?_
    refine xg_t (xg_drop (l1 := [(0, (2, 82)), (1, (0, 3)), (3, (0, u45))]) (List.forall_mem_cons.mpr ⟨List.mem_cons_of_mem _ (List.mem_cons_of_mem _ (List.mem_cons_of_mem _ (List.mem_cons_of_mem _ (List.mem_cons_self)))), List.forall_mem_cons.mpr ⟨List.mem_cons_of_mem _ (List.mem_cons_of_mem _ (List.mem_cons_of_mem _ (List.mem_cons_self))), List.forall_mem_cons.mpr ⟨List.mem_cons_of_mem _ (List.mem_cons_self), fun _ h => absurd h List.not_mem_nil⟩⟩⟩)) ?_
    have hX573 : FA w558 ≠ 0 ∨ u45 < 4 := Or.inr (by omega)
    exact jn67 w558 (hI560) ((((((((hF55.up (by decide)).tr (hF399.up (by decide))).tr (hF443.up (by decide))).tr (hF454.up (by decide))).tr (hF500.up (by decide))).tr (hF513.up (by decide))).tr (hF561.up (by decide)))) (⟨pk565, os566, ms572, hX573⟩)
  · refine xg_t (xg_icF (u := u45) (v := 4) rfl xnm0 xnm0 (xj_ltF (by omega) (by omega))) ?_
    refine xg_t (xg_aload (va := (2, 82)) rfl rfl) ?_
    refine xg_t (xg_const) ?_
    refine xg_t (xg_iload (va := (0, at_)) rfl rfl) ?_
    refine xg_cVv mX12_also (vs := [(0, 3), (0, at_)]) (rest := []) (cn1 := 0) (sl1 := 0) rfl (mAlso (hI) (by omega) (by omega) (by omega) (PK.rf hps).2.2.2) rfl h82_31 rfl rfl rfl rfl rfl rfl (fun w574 hq575 => ?_)
    obtain ⟨hI576, hF577, hx578⟩ := hq575
    have pk579 : PK w w574 := ⟨fun _ => hx578, Nat.le_of_eq (mu_fr hF577 (by decide)), fld_fr hF577 (by decide), Or.inr hx578⟩
    have pk580 : PK w w574 := PK.tr (PK.rf hps) pk579
    have os581 : ∀ j, (j < 80 + 3 * u45 ∨ 83 + 3 * u45 ≤ j) → j < 140 → rwv w574 86 j = rwv w 86 j := fun j hj hl => (rwv_fr hF577 (by decide)).trans ((fun j _ _ => rfl) j hj hl)
    have hf582 := fld_fr (c := 82) (j := 7) hF577 (by decide)
    refine xg_t (xg_blk (b := [(64, 1, 0, 0, 0, 0), (65, 3, 13, 110, 96, 190), (68, 1, 2, 1, 0, 0), (69, 39, 33, 362, 0, 9)]) rfl) ?_
    refine xg_t (xg_aload (va := (2, 82)) rfl rfl) ?_
    refine xg_cVv mX12_advance (vs := []) (rest := []) (cn1 := 0) (sl1 := 0) rfl (mAdvance (hI576)) rfl (hF577.get (by decide) h82_31) rfl rfl rfl rfl rfl rfl (fun w583 hq584 => ?_)
    obtain ⟨hI585, hF586, hx587⟩ := hq584
    clear hb2 hb4 hb6 hb8 hb10 hb12 hb14 hb16 hb18 hb20 hb24 hb26 hb28 hb30
    obtain ⟨hv588, hv589, hv590, hv591⟩ := hx587
    have hf593 := FA_fr hF586 (by decide)
    have hs594 := pk580.2.2.2
    unfold PS at hs594
    have pk592 : PK w574 w583 := ⟨fun _ => by omega, hv588, hv591, (show fld w583 82 10 = 0 ∨ FA w583 ≠ 0 by omega)⟩
    clear hs594
    have pk595 : PK w w583 := PK.tr pk580 pk592
    have os596 : ∀ j, (j < 80 + 3 * u45 ∨ 83 + 3 * u45 ≤ j) → j < 140 → rwv w583 86 j = rwv w 86 j := fun j hj hl => (rwv_fr hF586 (by decide)).trans (os581 j hj hl)
    have rg597 : FA w583 ≠ 0 ∨ 0 = 1 := (Or.inl hx578 : FA w574 ≠ 0 ∨ 0 = 1).imp_left pk592.1
    have ms598 : mu w583 < mu w := Nat.lt_of_lt_of_le (hv589 (by omega)) pk580.2.1
    clear hv589
    have jn599 : ∀ (w600 : List (List xE)), xMnv w600 → xFr [82, 83, 85, 86, 87] w w600 → (PK w w600 ∧ (∀ j, (j < 80 + 3 * u45 ∨ 83 + 3 * u45 ≤ j) → j < 140 → rwv w600 86 j = rwv w 86 j) ∧ mu w600 < mu w ∧ (FA w600 ≠ 0 ∨ u45 < 4)) → xTo (d + 7) mX12_aLine (394, [], [(0, (2, 82)), (1, (0, 3)), (3, (0, u45))], [], (w600, bd, fc, 0, 0, rr)) (fun φ => ∃ w', xEnd 0 [] (w', bd, fc, 0, 0, rr) φ ∧ xMnv w' ∧ xFr [82, 83, 85, 86, 87] w w' ∧ ((FA w ≠ 0 → FA w' ≠ 0) ∧ PS w' ∧ ((fld w' 82 10 = 1 ∧ mu w' = mu w ∧ fld w' 82 14 = fld w 82 14 ∧ ∀ s, s < 7 → rwv w' 85 s = rwv w 85 s) ∨ (mu w' < mu w ∧ fld w' 82 14 = fld w 82 14 + 1 ∧ ∀ s, s < 7 → rwv w' 85 s ≤ rwv w 85 s + 1)) ∧ (FA w' ≠ 0 ∨ (DATA w → DATA w')))) := by
      intro w600 hI601 hF602 he603
      obtain ⟨hj604, hj605, hj606, hj607⟩ := he603
      refine xg_t (xg_blk (b := [(394, 1, 0, 0, 0, 0), (395, 3, 1, 12, 10, 180), (398, 3, 7, 416, 1, 0), (401, 1, 0, 0, 0, 0), (402, 3, 1, 12, 7, 151), (405, 1, 3, 2, 0, 0), (406, 3, 6, 416, 1, 0), (409, 1, 0, 0, 0, 0), (410, 3, 13, 110, 96, 190), (413, 3, 8, 420, 0, 0)]) rfl) ?_
      refine xg_t (xg_aload (va := (2, 82)) rfl rfl) ?_
      obtain ⟨f82_608, f82_610, f82_612, f82_614, f82_616, f82_618, f82_620, f82_622, f82_624, f82_626, f82_628, f82_629, f82_630, f82_632, f82_634, f82_636, h82_638, hb609, hb611, hb613, hb615, hb617, hb619, hb621, hb623, hb625, hb627, hb631, hb633, hb635, hb637, hb639⟩ := (hI601 82 (by decide) (by decide) : cp82 (wget w600 82))
      refine xg_t (xg_getf (va := (0, f82_624)) h82_638 rfl) ?_
      by_cases hc640 : f82_624 = 0
      · refine xg_t (xg_ifF (u := f82_624) rfl xnm0 (xj_neF hc640)) ?_
        refine xg_t (xg_aload (va := (2, 82)) rfl rfl) ?_
        refine xg_t (xg_getf (va := (0, f82_618)) h82_638 rfl) ?_
        refine xg_t (xg_const) ?_
        by_cases hc641 : f82_618 = 2
        · refine xg_t (xg_icF (u := f82_618) (v := 2) rfl xnm0 xnm0 (xj_neF hc641)) ?_
          refine xg_t (xg_aload (va := (2, 82)) rfl rfl) ?_
          refine xg_cVv mX12_advance (vs := []) (rest := []) (cn1 := 0) (sl1 := 0) rfl (mAdvance (hI601)) rfl h82_638 rfl rfl rfl rfl rfl rfl (fun w642 hq643 => ?_)
          obtain ⟨hI644, hF645, hx646⟩ := hq643
          clear hb609 hb611 hb613 hb615 hb617 hb619 hb621 hb623 hb625 hb627 hb631 hb633 hb635 hb637
          obtain ⟨hv647, hv648, hv649, hv650⟩ := hx646
          have hf652 := FA_fr hF645 (by decide)
          have hs653 := hj604.2.2.2
          unfold PS at hs653
          have pk651 : PK w600 w642 := ⟨fun _ => by omega, hv647, hv650, (show fld w642 82 10 = 0 ∨ FA w642 ≠ 0 by omega)⟩
          clear hs653
          clear hv648
          have pk654 : PK w w642 := PK.tr hj604 pk651
          have os655 : ∀ j, (j < 80 + 3 * u45 ∨ 83 + 3 * u45 ≤ j) → j < 140 → rwv w642 86 j = rwv w 86 j := fun j hj hl => (rwv_fr hF645 (by decide)).trans (hj605 j hj hl)
          have rg656 : FA w642 ≠ 0 ∨ u45 < 4 := hj607.imp_left pk651.1
          have ms657 : mu w642 < mu w := Nat.lt_of_le_of_lt pk651.2.1 hj606
          clear hj607
          refine xg_t (xg_goto) ?_
          refine xg_t (xg_blk (b := [(420, 1, 0, 0, 0, 0), (421, 3, 1, 12, 11, 17), (424, 1, 2, 1, 0, 0), (425, 1, 39, 0, 0, 0), (426, 1, 10, 0, 0, 0), (427, 1, 3, 1, 0, 0), (428, 1, 11, 0, 0, 0), (429, 1, 17, 0, 0, 0), (430, 1, 0, 0, 0, 0), (431, 1, 19, 0, 0, 0), (432, 3, 1, 12, 14, 212), (435, 1, 3, 1, 0, 0), (436, 1, 11, 0, 0, 0), (437, 3, 14, 12, 14, 212), (440, 1, 12, 0, 0, 0)]) rfl) ?_
          obtain ⟨f82_658, f82_660, f82_662, f82_664, f82_666, f82_668, f82_670, f82_672, f82_674, f82_676, f82_678, f82_679, f82_680, f82_682, f82_684, f82_686, h82_688, hb659, hb661, hb663, hb665, hb667, hb669, hb671, hb673, hb675, hb677, hb681, hb683, hb685, hb687, hb689⟩ := (hI644 82 (by decide) (by decide) : cp82 (wget w642 82))
          have hf690 : fld w642 82 4 = f82_662 := fld_of h82_688
          have hf691 : fld w642 82 5 = f82_664 := fld_of h82_688
          have hf692 : fld w642 82 7 = f82_668 := fld_of h82_688
          have hf693 : fld w642 82 10 = f82_674 := fld_of h82_688
          have hf694 : fld w642 82 14 = f82_676 := fld_of h82_688
          have hu695 : mu w642 = 2 * (fld w642 82 4 - fld w642 82 5) + min 1 (fld w642 82 7) := rfl
          have hf696 := pk654.2.2.1
          have hl697 : f82_676 ≤ 1000 := by omega
          refine xg_t (xg_aload (va := (2, 82)) rfl rfl) ?_
          refine xg_t (xg_getf (va := (2, 85)) h82_688 rfl) ?_
          refine xg_t (xg_iload (va := (0, 3)) rfl rfl) ?_
          refine xg_t (xg_dup2 rfl) ?_
          obtain ⟨g85_698, h85_699, hb700⟩ := (hI644 85 (by decide) (by decide) : cpI 7 52 4294967295 (wget w642 85))
          have h85_699 : xRow w642 85 7 52 g85_698 := h85_699
          refine xg_ialdB (n := 3) (B := 4294967295) h85_699 (hb700) xnm0 (by omega) (fun u701 hu702 he703 => ?_)
          have hl704 : u701 = u45 := by omega
          refine xg_t (xg_const) ?_
          refine xg_t (xg_iadd (u := u701) (v := 1) (z := u701 + 1) xnm0 xnm0 (by omega)) ?_
          refine xg_iastK (n := 3) (u := u701 + 1) h85_699 xnm0 xnm0 rfl (by omega) (fun w705 hr706 hb707 => ?_)
          refine xg_t (xg_aload (va := (2, 82)) rfl rfl) ?_
          refine xg_t (xg_dup rfl) ?_
          refine xg_t (xg_getf (va := (0, f82_676)) (hb707.get (by decide) h82_688) rfl) ?_
          refine xg_t (xg_const) ?_
          refine xg_t (xg_iadd (u := f82_676) (v := 1) (z := f82_676 + 1) xnm0 xnm0 (by omega)) ?_
          refine xg_putI (fl1 := [(2, 83), (2, 84), (0, f82_658), (0, f82_660), (0, f82_662), (0, f82_664), (0, f82_666), (0, f82_668), (0, f82_670), (0, f82_672), (0, f82_674), (2, 85), (2, 86), (2, 87), (0, f82_676 + 1), (2, 88), (2, 89), (2, 90), (2, 91), (2, 92), (2, 93), (2, 94), (4, f82_678), (4, f82_679), (0, f82_680), (2, 95), (2, 96), (2, 97), (2, 98), (2, 99), (2, 100), (2, 101), (2, 102), (0, f82_682), (2, 103), (2, 104), (2, 105), (2, 106), (2, 107), (2, 108), (2, 109), (0, f82_684), (0, f82_686), (2, 110), (2, 111), (2, 112), (2, 113)]) (hb707.get (by decide) h82_688) rfl rfl rfl (fun w708 hk709 hb710 => ?_)
          have hF711 : xFr [82, 85] w642 w708 := ((xFr.of (S := [82, 85]) hb707 (by decide)).tr (xFr.of (S := [82, 85]) hb710 (by decide)))
          have hA712 := FA_fr hF711 (by decide)
          have hf713 : fld w708 82 4 = f82_662 := fld_of hk709
          have hf714 : fld w708 82 5 = f82_664 := fld_of hk709
          have hf715 : fld w708 82 7 = f82_668 := fld_of hk709
          have hf716 : fld w708 82 10 = f82_674 := fld_of hk709
          have hf717 : fld w708 82 14 = f82_676 + 1 := fld_of hk709
          have hu718 : mu w708 = 2 * (fld w708 82 4 - fld w708 82 5) + min 1 (fld w708 82 7) := rfl
          have pq719 := pk654
          unfold PK PS at pq719
          have hM720 : ∀ s, s < 7 → s ≠ 3 → rwv w708 85 s = rwv w 85 s := fun s hs hn => (rwv_of (hr706.but hb710 (by decide)) hs).trans ((if_neg hn).trans (rwv_of h85_37 hs).symm)
          have hM721 : rwv w708 85 3 = u45 + 1 := (rwv_of (hr706.but hb710 (by decide)) (by decide)).trans ((if_pos rfl).trans (by omega))
          have hM722 : ∀ s, s < 7 → rwv w708 85 s ≤ rwv w 85 s + 1 := fun s hs => by
            by_cases z : s = 3
            · subst z; omega
            · rw [hM720 s hs z]; omega
          have hO723 : ∀ j, (j < 80 + 3 * u45 ∨ 83 + 3 * u45 ≤ j) → j < 140 → rwv w708 86 j = rwv w 86 j := fun j hj hl => (rwv_fr hF711 (by decide)).trans (os655 j hj hl)
          have hl725 : FA w642 ≠ 0 ∨ u45 < 4 := rg656
          have hN724 : FA w708 ≠ 0 ∨ 4 ≤ u45 ∨ True := Or.inr (Or.inr trivial)
          have hX726 : FA w708 ≠ 0 ∨ u45 < 4 := by omega
          have hD727 : FA w708 ≠ 0 ∨ (DATA w → DATA w708) := by
            by_cases z : FA w708 ≠ 0
            · exact Or.inl z
            · exact Or.inr (fun hd => hd.s3 hM720 hK48 hM721 (hX726.resolve_left z) hO723 ((hN724.resolve_left z).resolve_left (by have := hX726.resolve_left z; omega)))
          exact xg_e ⟨w708, ⟨rfl, rfl⟩, xMnv.up (S := [85, 82]) hI644 ((xFr.of (S := [85, 82]) hb707 (by decide)).tr (xFr.of (S := [85, 82]) hb710 (by decide))) (List.forall_mem_cons.mpr ⟨(show cpI 7 52 4294967295 (wget w708 85) from ⟨_, (hr706.but hb710 (by decide)), xrb (by omega) (hb700)⟩), List.forall_mem_cons.mpr ⟨(show cp82 (wget w708 82) from ⟨f82_658, f82_660, f82_662, f82_664, f82_666, f82_668, f82_670, f82_672, f82_674, f82_676 + 1, f82_678, f82_679, f82_680, f82_682, f82_684, f82_686, hk709, hb659, hb661, hb663, hb665, hb667, hb669, hb671, hb673, hb675, by omega, hb681, hb683, hb685, hb687, by omega⟩), fun _ h => absurd h List.not_mem_nil⟩⟩), ((hF602.tr (hF645.up (by decide))).tr ((xFr.of (S := [82, 83, 85, 86, 87]) hb707 (by decide)).tr (xFr.of (S := [82, 83, 85, 86, 87]) hb710 (by decide)))), ⟨fun h => by have := pq719.1 h; omega, (show fld w708 82 10 = 0 ∨ FA w708 ≠ 0 by omega), Or.inr ⟨by have := ms657; omega, by omega, hM722⟩, hD727⟩⟩
        · refine xg_t (xg_icT (u := f82_618) (v := 2) rfl xnm0 xnm0 (xj_neT hc641)) ?_
          refine xg_t (xg_blk (b := [(416, 1, 0, 0, 0, 0), (417, 3, 13, 140, 96, 183)]) rfl) ?_
          refine xg_t (xg_aload (va := (2, 82)) rfl rfl) ?_
          refine xg_cVv mX12_ends (vs := []) (rest := []) (cn1 := 0) (sl1 := 0) rfl (mEnds (hI601) hj604.2.2.2) rfl h82_638 rfl rfl rfl rfl rfl rfl (fun w728 hq729 => ?_)
          obtain ⟨hI730, hF731, hx732⟩ := hq729
          clear hb609 hb611 hb613 hb615 hb617 hb619 hb621 hb623 hb625 hb627 hb631 hb633 hb635 hb637
          obtain ⟨hv733, hv734, hv735, hv736⟩ := hx732
          have pk737 : PK w600 w728 := ⟨fun _ => hv733, by omega, by omega, Or.inr hv733⟩
          have pk738 : PK w w728 := PK.tr hj604 pk737
          have os739 : ∀ j, (j < 80 + 3 * u45 ∨ 83 + 3 * u45 ≤ j) → j < 140 → rwv w728 86 j = rwv w 86 j := fun j hj hl => (rwv_fr hF731 (by decide)).trans (hj605 j hj hl)
          have rg740 : FA w728 ≠ 0 ∨ u45 < 4 := hj607.imp_left pk737.1
          have ms741 : mu w728 < mu w := Nat.lt_of_le_of_lt pk737.2.1 hj606
          clear hj607
          refine xg_t (xg_blk (b := [(420, 1, 0, 0, 0, 0), (421, 3, 1, 12, 11, 17), (424, 1, 2, 1, 0, 0), (425, 1, 39, 0, 0, 0), (426, 1, 10, 0, 0, 0), (427, 1, 3, 1, 0, 0), (428, 1, 11, 0, 0, 0), (429, 1, 17, 0, 0, 0), (430, 1, 0, 0, 0, 0), (431, 1, 19, 0, 0, 0), (432, 3, 1, 12, 14, 212), (435, 1, 3, 1, 0, 0), (436, 1, 11, 0, 0, 0), (437, 3, 14, 12, 14, 212), (440, 1, 12, 0, 0, 0)]) rfl) ?_
          obtain ⟨f82_742, f82_744, f82_746, f82_748, f82_750, f82_752, f82_754, f82_756, f82_758, f82_760, f82_762, f82_763, f82_764, f82_766, f82_768, f82_770, h82_772, hb743, hb745, hb747, hb749, hb751, hb753, hb755, hb757, hb759, hb761, hb765, hb767, hb769, hb771, hb773⟩ := (hI730 82 (by decide) (by decide) : cp82 (wget w728 82))
          have hf774 : fld w728 82 4 = f82_746 := fld_of h82_772
          have hf775 : fld w728 82 5 = f82_748 := fld_of h82_772
          have hf776 : fld w728 82 7 = f82_752 := fld_of h82_772
          have hf777 : fld w728 82 10 = f82_758 := fld_of h82_772
          have hf778 : fld w728 82 14 = f82_760 := fld_of h82_772
          have hu779 : mu w728 = 2 * (fld w728 82 4 - fld w728 82 5) + min 1 (fld w728 82 7) := rfl
          have hf780 := pk738.2.2.1
          have hl781 : f82_760 ≤ 1000 := by omega
          refine xg_t (xg_aload (va := (2, 82)) rfl rfl) ?_
          refine xg_t (xg_getf (va := (2, 85)) h82_772 rfl) ?_
          refine xg_t (xg_iload (va := (0, 3)) rfl rfl) ?_
          refine xg_t (xg_dup2 rfl) ?_
          obtain ⟨g85_782, h85_783, hb784⟩ := (hI730 85 (by decide) (by decide) : cpI 7 52 4294967295 (wget w728 85))
          have h85_783 : xRow w728 85 7 52 g85_782 := h85_783
          refine xg_ialdB (n := 3) (B := 4294967295) h85_783 (hb784) xnm0 (by omega) (fun u785 hu786 he787 => ?_)
          have hl788 : u785 = u45 := by omega
          refine xg_t (xg_const) ?_
          refine xg_t (xg_iadd (u := u785) (v := 1) (z := u785 + 1) xnm0 xnm0 (by omega)) ?_
          refine xg_iastK (n := 3) (u := u785 + 1) h85_783 xnm0 xnm0 rfl (by omega) (fun w789 hr790 hb791 => ?_)
          refine xg_t (xg_aload (va := (2, 82)) rfl rfl) ?_
          refine xg_t (xg_dup rfl) ?_
          refine xg_t (xg_getf (va := (0, f82_760)) (hb791.get (by decide) h82_772) rfl) ?_
          refine xg_t (xg_const) ?_
          refine xg_t (xg_iadd (u := f82_760) (v := 1) (z := f82_760 + 1) xnm0 xnm0 (by omega)) ?_
          refine xg_putI (fl1 := [(2, 83), (2, 84), (0, f82_742), (0, f82_744), (0, f82_746), (0, f82_748), (0, f82_750), (0, f82_752), (0, f82_754), (0, f82_756), (0, f82_758), (2, 85), (2, 86), (2, 87), (0, f82_760 + 1), (2, 88), (2, 89), (2, 90), (2, 91), (2, 92), (2, 93), (2, 94), (4, f82_762), (4, f82_763), (0, f82_764), (2, 95), (2, 96), (2, 97), (2, 98), (2, 99), (2, 100), (2, 101), (2, 102), (0, f82_766), (2, 103), (2, 104), (2, 105), (2, 106), (2, 107), (2, 108), (2, 109), (0, f82_768), (0, f82_770), (2, 110), (2, 111), (2, 112), (2, 113)]) (hb791.get (by decide) h82_772) rfl rfl rfl (fun w792 hk793 hb794 => ?_)
          have hF795 : xFr [82, 85] w728 w792 := ((xFr.of (S := [82, 85]) hb791 (by decide)).tr (xFr.of (S := [82, 85]) hb794 (by decide)))
          have hA796 := FA_fr hF795 (by decide)
          have hf797 : fld w792 82 4 = f82_746 := fld_of hk793
          have hf798 : fld w792 82 5 = f82_748 := fld_of hk793
          have hf799 : fld w792 82 7 = f82_752 := fld_of hk793
          have hf800 : fld w792 82 10 = f82_758 := fld_of hk793
          have hf801 : fld w792 82 14 = f82_760 + 1 := fld_of hk793
          have hu802 : mu w792 = 2 * (fld w792 82 4 - fld w792 82 5) + min 1 (fld w792 82 7) := rfl
          have pq803 := pk738
          unfold PK PS at pq803
          have hM804 : ∀ s, s < 7 → s ≠ 3 → rwv w792 85 s = rwv w 85 s := fun s hs hn => (rwv_of (hr790.but hb794 (by decide)) hs).trans ((if_neg hn).trans (rwv_of h85_37 hs).symm)
          have hM805 : rwv w792 85 3 = u45 + 1 := (rwv_of (hr790.but hb794 (by decide)) (by decide)).trans ((if_pos rfl).trans (by omega))
          have hM806 : ∀ s, s < 7 → rwv w792 85 s ≤ rwv w 85 s + 1 := fun s hs => by
            by_cases z : s = 3
            · subst z; omega
            · rw [hM804 s hs z]; omega
          have hO807 : ∀ j, (j < 80 + 3 * u45 ∨ 83 + 3 * u45 ≤ j) → j < 140 → rwv w792 86 j = rwv w 86 j := fun j hj hl => (rwv_fr hF795 (by decide)).trans (os739 j hj hl)
          have hl809 : FA w728 ≠ 0 ∨ u45 < 4 := rg740
          have hN808 : FA w792 ≠ 0 ∨ 4 ≤ u45 ∨ True := Or.inr (Or.inr trivial)
          have hX810 : FA w792 ≠ 0 ∨ u45 < 4 := by omega
          have hD811 : FA w792 ≠ 0 ∨ (DATA w → DATA w792) := by
            by_cases z : FA w792 ≠ 0
            · exact Or.inl z
            · exact Or.inr (fun hd => hd.s3 hM804 hK48 hM805 (hX810.resolve_left z) hO807 ((hN808.resolve_left z).resolve_left (by have := hX810.resolve_left z; omega)))
          exact xg_e ⟨w792, ⟨rfl, rfl⟩, xMnv.up (S := [85, 82]) hI730 ((xFr.of (S := [85, 82]) hb791 (by decide)).tr (xFr.of (S := [85, 82]) hb794 (by decide))) (List.forall_mem_cons.mpr ⟨(show cpI 7 52 4294967295 (wget w792 85) from ⟨_, (hr790.but hb794 (by decide)), xrb (by omega) (hb784)⟩), List.forall_mem_cons.mpr ⟨(show cp82 (wget w792 82) from ⟨f82_742, f82_744, f82_746, f82_748, f82_750, f82_752, f82_754, f82_756, f82_758, f82_760 + 1, f82_762, f82_763, f82_764, f82_766, f82_768, f82_770, hk793, hb743, hb745, hb747, hb749, hb751, hb753, hb755, hb757, hb759, by omega, hb765, hb767, hb769, hb771, by omega⟩), fun _ h => absurd h List.not_mem_nil⟩⟩), ((hF602.tr (hF731.up (by decide))).tr ((xFr.of (S := [82, 83, 85, 86, 87]) hb791 (by decide)).tr (xFr.of (S := [82, 83, 85, 86, 87]) hb794 (by decide)))), ⟨fun h => by have := pq803.1 h; omega, (show fld w792 82 10 = 0 ∨ FA w792 ≠ 0 by omega), Or.inr ⟨by have := ms741; omega, by omega, hM806⟩, hD811⟩⟩
      · refine xg_t (xg_ifT (u := f82_624) rfl xnm0 (xj_neT hc640)) ?_
        refine xg_t (xg_blk (b := [(416, 1, 0, 0, 0, 0), (417, 3, 13, 140, 96, 183)]) rfl) ?_
        refine xg_t (xg_aload (va := (2, 82)) rfl rfl) ?_
        refine xg_cVv mX12_ends (vs := []) (rest := []) (cn1 := 0) (sl1 := 0) rfl (mEnds (hI601) hj604.2.2.2) rfl h82_638 rfl rfl rfl rfl rfl rfl (fun w812 hq813 => ?_)
        obtain ⟨hI814, hF815, hx816⟩ := hq813
        clear hb609 hb611 hb613 hb615 hb617 hb619 hb621 hb623 hb625 hb627 hb631 hb633 hb635 hb637
        obtain ⟨hv817, hv818, hv819, hv820⟩ := hx816
        have pk821 : PK w600 w812 := ⟨fun _ => hv817, by omega, by omega, Or.inr hv817⟩
        have pk822 : PK w w812 := PK.tr hj604 pk821
        have os823 : ∀ j, (j < 80 + 3 * u45 ∨ 83 + 3 * u45 ≤ j) → j < 140 → rwv w812 86 j = rwv w 86 j := fun j hj hl => (rwv_fr hF815 (by decide)).trans (hj605 j hj hl)
        have rg824 : FA w812 ≠ 0 ∨ u45 < 4 := hj607.imp_left pk821.1
        have ms825 : mu w812 < mu w := Nat.lt_of_le_of_lt pk821.2.1 hj606
        clear hj607
        refine xg_t (xg_blk (b := [(420, 1, 0, 0, 0, 0), (421, 3, 1, 12, 11, 17), (424, 1, 2, 1, 0, 0), (425, 1, 39, 0, 0, 0), (426, 1, 10, 0, 0, 0), (427, 1, 3, 1, 0, 0), (428, 1, 11, 0, 0, 0), (429, 1, 17, 0, 0, 0), (430, 1, 0, 0, 0, 0), (431, 1, 19, 0, 0, 0), (432, 3, 1, 12, 14, 212), (435, 1, 3, 1, 0, 0), (436, 1, 11, 0, 0, 0), (437, 3, 14, 12, 14, 212), (440, 1, 12, 0, 0, 0)]) rfl) ?_
        obtain ⟨f82_826, f82_828, f82_830, f82_832, f82_834, f82_836, f82_838, f82_840, f82_842, f82_844, f82_846, f82_847, f82_848, f82_850, f82_852, f82_854, h82_856, hb827, hb829, hb831, hb833, hb835, hb837, hb839, hb841, hb843, hb845, hb849, hb851, hb853, hb855, hb857⟩ := (hI814 82 (by decide) (by decide) : cp82 (wget w812 82))
        have hf858 : fld w812 82 4 = f82_830 := fld_of h82_856
        have hf859 : fld w812 82 5 = f82_832 := fld_of h82_856
        have hf860 : fld w812 82 7 = f82_836 := fld_of h82_856
        have hf861 : fld w812 82 10 = f82_842 := fld_of h82_856
        have hf862 : fld w812 82 14 = f82_844 := fld_of h82_856
        have hu863 : mu w812 = 2 * (fld w812 82 4 - fld w812 82 5) + min 1 (fld w812 82 7) := rfl
        have hf864 := pk822.2.2.1
        have hl865 : f82_844 ≤ 1000 := by omega
        refine xg_t (xg_aload (va := (2, 82)) rfl rfl) ?_
        refine xg_t (xg_getf (va := (2, 85)) h82_856 rfl) ?_
        refine xg_t (xg_iload (va := (0, 3)) rfl rfl) ?_
        refine xg_t (xg_dup2 rfl) ?_
        obtain ⟨g85_866, h85_867, hb868⟩ := (hI814 85 (by decide) (by decide) : cpI 7 52 4294967295 (wget w812 85))
        have h85_867 : xRow w812 85 7 52 g85_866 := h85_867
        refine xg_ialdB (n := 3) (B := 4294967295) h85_867 (hb868) xnm0 (by omega) (fun u869 hu870 he871 => ?_)
        have hl872 : u869 = u45 := by omega
        refine xg_t (xg_const) ?_
        refine xg_t (xg_iadd (u := u869) (v := 1) (z := u869 + 1) xnm0 xnm0 (by omega)) ?_
        refine xg_iastK (n := 3) (u := u869 + 1) h85_867 xnm0 xnm0 rfl (by omega) (fun w873 hr874 hb875 => ?_)
        refine xg_t (xg_aload (va := (2, 82)) rfl rfl) ?_
        refine xg_t (xg_dup rfl) ?_
        refine xg_t (xg_getf (va := (0, f82_844)) (hb875.get (by decide) h82_856) rfl) ?_
        refine xg_t (xg_const) ?_
        refine xg_t (xg_iadd (u := f82_844) (v := 1) (z := f82_844 + 1) xnm0 xnm0 (by omega)) ?_
        refine xg_putI (fl1 := [(2, 83), (2, 84), (0, f82_826), (0, f82_828), (0, f82_830), (0, f82_832), (0, f82_834), (0, f82_836), (0, f82_838), (0, f82_840), (0, f82_842), (2, 85), (2, 86), (2, 87), (0, f82_844 + 1), (2, 88), (2, 89), (2, 90), (2, 91), (2, 92), (2, 93), (2, 94), (4, f82_846), (4, f82_847), (0, f82_848), (2, 95), (2, 96), (2, 97), (2, 98), (2, 99), (2, 100), (2, 101), (2, 102), (0, f82_850), (2, 103), (2, 104), (2, 105), (2, 106), (2, 107), (2, 108), (2, 109), (0, f82_852), (0, f82_854), (2, 110), (2, 111), (2, 112), (2, 113)]) (hb875.get (by decide) h82_856) rfl rfl rfl (fun w876 hk877 hb878 => ?_)
        have hF879 : xFr [82, 85] w812 w876 := ((xFr.of (S := [82, 85]) hb875 (by decide)).tr (xFr.of (S := [82, 85]) hb878 (by decide)))
        have hA880 := FA_fr hF879 (by decide)
        have hf881 : fld w876 82 4 = f82_830 := fld_of hk877
        have hf882 : fld w876 82 5 = f82_832 := fld_of hk877
        have hf883 : fld w876 82 7 = f82_836 := fld_of hk877
        have hf884 : fld w876 82 10 = f82_842 := fld_of hk877
        have hf885 : fld w876 82 14 = f82_844 + 1 := fld_of hk877
        have hu886 : mu w876 = 2 * (fld w876 82 4 - fld w876 82 5) + min 1 (fld w876 82 7) := rfl
        have pq887 := pk822
        unfold PK PS at pq887
        have hM888 : ∀ s, s < 7 → s ≠ 3 → rwv w876 85 s = rwv w 85 s := fun s hs hn => (rwv_of (hr874.but hb878 (by decide)) hs).trans ((if_neg hn).trans (rwv_of h85_37 hs).symm)
        have hM889 : rwv w876 85 3 = u45 + 1 := (rwv_of (hr874.but hb878 (by decide)) (by decide)).trans ((if_pos rfl).trans (by omega))
        have hM890 : ∀ s, s < 7 → rwv w876 85 s ≤ rwv w 85 s + 1 := fun s hs => by
          by_cases z : s = 3
          · subst z; omega
          · rw [hM888 s hs z]; omega
        have hO891 : ∀ j, (j < 80 + 3 * u45 ∨ 83 + 3 * u45 ≤ j) → j < 140 → rwv w876 86 j = rwv w 86 j := fun j hj hl => (rwv_fr hF879 (by decide)).trans (os823 j hj hl)
        have hl893 : FA w812 ≠ 0 ∨ u45 < 4 := rg824
        have hN892 : FA w876 ≠ 0 ∨ 4 ≤ u45 ∨ True := Or.inr (Or.inr trivial)
        have hX894 : FA w876 ≠ 0 ∨ u45 < 4 := by omega
        have hD895 : FA w876 ≠ 0 ∨ (DATA w → DATA w876) := by
          by_cases z : FA w876 ≠ 0
          · exact Or.inl z
          · exact Or.inr (fun hd => hd.s3 hM888 hK48 hM889 (hX894.resolve_left z) hO891 ((hN892.resolve_left z).resolve_left (by have := hX894.resolve_left z; omega)))
        exact xg_e ⟨w876, ⟨rfl, rfl⟩, xMnv.up (S := [85, 82]) hI814 ((xFr.of (S := [85, 82]) hb875 (by decide)).tr (xFr.of (S := [85, 82]) hb878 (by decide))) (List.forall_mem_cons.mpr ⟨(show cpI 7 52 4294967295 (wget w876 85) from ⟨_, (hr874.but hb878 (by decide)), xrb (by omega) (hb868)⟩), List.forall_mem_cons.mpr ⟨(show cp82 (wget w876 82) from ⟨f82_826, f82_828, f82_830, f82_832, f82_834, f82_836, f82_838, f82_840, f82_842, f82_844 + 1, f82_846, f82_847, f82_848, f82_850, f82_852, f82_854, hk877, hb827, hb829, hb831, hb833, hb835, hb837, hb839, hb841, hb843, by omega, hb849, hb851, hb853, hb855, by omega⟩), fun _ h => absurd h List.not_mem_nil⟩⟩), ((hF602.tr (hF815.up (by decide))).tr ((xFr.of (S := [82, 83, 85, 86, 87]) hb875 (by decide)).tr (xFr.of (S := [82, 83, 85, 86, 87]) hb878 (by decide)))), ⟨fun h => by have := pq887.1 h; omega, (show fld w876 82 10 = 0 ∨ FA w876 ≠ 0 by omega), Or.inr ⟨by have := ms825; omega, by omega, hM890⟩, hD895⟩⟩
    refine xg_t (xg_iload (va := (0, 3)) rfl rfl) ?_
    refine xg_t (xg_swt (ks := [(0, 108), (1, 116), (2, 180), (3, 221), (4, 273), (5, 326)]) (u := 3) (z := 221) rfl rfl rfl xnm0 (xsw_n (by omega) (xsw_n (by omega) (xsw_n (by omega) (xsw_y rfl))))) ?_
    refine xg_t (xg_blk (b := [(221, 1, 3, 0, 0, 0), (222, 2, 15, 4, 0, 0)]) rfl) ?_
    refine xg_t (xg_const) ?_
    refine xg_t (xg_istore (l1 := [(3, (0, u45)), (2, (0, at_)), (1, (0, 3)), (0, (2, 82))]) rfl rfl rfl) ?_
    refine xg_t (xg_blk (b := [(224, 2, 2, 4, 0, 0), (226, 1, 3, 3, 0, 0), (227, 3, 6, 270, 3, 0), (230, 1, 0, 0, 0, 0), (231, 1, 2, 1, 0, 0), (232, 1, 2, 3, 0, 0), (233, 2, 4, 80, 0, 0), (235, 1, 3, 3, 0, 0), (236, 1, 2, 3, 0, 0), (237, 1, 16, 0, 0, 0), (238, 1, 11, 0, 0, 0), (239, 2, 2, 4, 0, 0), (241, 1, 11, 0, 0, 0), (242, 1, 0, 0, 0, 0), (243, 1, 3, 1, 0, 0), (244, 2, 2, 4, 0, 0), (246, 1, 3, 2, 0, 0), (247, 3, 6, 255, 3, 0), (250, 2, 4, 10, 0, 0), (252, 3, 8, 258, 0, 0)]) rfl) ?_
    refine xg_t (xg_iload (va := (0, 0)) rfl rfl) ?_
    refine xg_t (xg_const) ?_
    refine xg_t (xg_icF (u := 0) (v := 3) rfl xnm0 xnm0 (by decide)) ?_
    refine xg_t (xg_aload (va := (2, 82)) rfl rfl) ?_
    refine xg_t (xg_iload (va := (0, 3)) rfl rfl) ?_
    refine xg_t (xg_iload (va := (0, u45)) rfl rfl) ?_
    refine xg_t (xg_bip) ?_
    refine xg_t (xg_const) ?_
    refine xg_t (xg_iload (va := (0, u45)) rfl rfl) ?_
    refine xg_t (xg_imul (u := 3) (v := u45) (z := 3 * u45) xnm0 xnm0 (by omega)) ?_
    refine xg_t (xg_iadd (u := 80) (v := 3 * u45) (z := 80 + (3 * u45)) xnm0 xnm0 (by omega)) ?_
    refine xg_t (xg_iload (va := (0, 0)) rfl rfl) ?_
    refine xg_t (xg_iadd (u := 80 + (3 * u45)) (v := 0) (z := (80 + (3 * u45)) + 0) xnm0 xnm0 (by omega)) ?_
    refine xg_t (xg_aload (va := (2, 82)) rfl rfl) ?_
    refine xg_t (xg_const) ?_
    refine xg_t (xg_iload (va := (0, 0)) rfl rfl) ?_
    refine xg_t (xg_const) ?_
    refine xg_t (xg_icF (u := 0) (v := 2) rfl xnm0 xnm0 (by decide)) ?_
    refine xg_t (xg_bip) ?_
    refine xg_t (xg_goto) ?_
    refine xg_t (xg_blk (b := [(258, 3, 13, 199, 96, 196), (261, 3, 13, 211, 96, 200), (264, 3, 9, 4, 1, 0), (267, 3, 8, 224, 0, 0)]) rfl) ?_
    obtain ⟨f82_896, f82_898, f82_900, f82_902, f82_904, f82_906, f82_908, f82_910, f82_912, f82_914, f82_916, f82_917, f82_918, f82_920, f82_922, f82_924, h82_926, hb897, hb899, hb901, hb903, hb905, hb907, hb909, hb911, hb913, hb915, hb919, hb921, hb923, hb925, hb927⟩ := (hI585 82 (by decide) (by decide) : cp82 (wget w583 82))
    refine xg_cVi mX12_numbered (vs := [(0, 1), (0, 10)]) (rest := [(0, (80 + (3 * u45)) + 0), (0, u45), (0, 3), (2, 82)]) (cn1 := 0) (sl1 := 0) rfl (mNumbered (hI585) (by omega) (by omega) pk595.2.2.2) rfl h82_926 rfl rfl rfl rfl rfl rfl (fun n932 w928 hq929 => ?_)
    obtain ⟨hn933, hI930, hF931⟩ := hq929
    clear hb897 hb899 hb901 hb903 hb905 hb907 hb909 hb911 hb913 hb915 hb919 hb921 hb923 hb925
    obtain ⟨hn934, hn935, hn936⟩ := hn933
    have pk937 : PK w w928 := PK.tr pk595 hn935
    have os938 : ∀ j, (j < 80 + 3 * u45 ∨ 83 + 3 * u45 ≤ j) → j < 140 → rwv w928 86 j = rwv w 86 j := fun j hj hl => (rwv_fr hF931 (by decide)).trans (os596 j hj hl)
    have rg939 : FA w928 ≠ 0 ∨ 0 = 1 := rg597.imp_left hn935.1
    have ms940 : mu w928 < mu w := Nat.lt_of_le_of_lt hn935.2.1 ms598
    clear rg597
    obtain ⟨f82_941, f82_943, f82_945, f82_947, f82_949, f82_951, f82_953, f82_955, f82_957, f82_959, f82_961, f82_962, f82_963, f82_965, f82_967, f82_969, h82_971, hb942, hb944, hb946, hb948, hb950, hb952, hb954, hb956, hb958, hb960, hb964, hb966, hb968, hb970, hb972⟩ := (hI930 82 (by decide) (by decide) : cp82 (wget w928 82))
    refine xg_cVv mX12_puts (vs := [(0, 3), (0, u45), (0, (80 + (3 * u45)) + 0), (0, n932)]) (rest := []) (cn1 := 0) (sl1 := 0) rfl (mPuts3 (hI930) (by omega) (by omega) (by omega) (fun _ => by omega)) rfl h82_971 rfl rfl rfl rfl rfl rfl (fun w973 hq974 => ?_)
    obtain ⟨hI975, hF976, hx977⟩ := hq974
    obtain ⟨hp978, hp979⟩ := hx977
    have pk980 : PK w w973 := PK.tr pk937 (PK.fr hF976 (by decide) (by decide) pk937.2.2.2)
    have os981 : ∀ j, (j < 80 + 3 * u45 ∨ 83 + 3 * u45 ≤ j) → j < 140 → rwv w973 86 j = rwv w 86 j := fun j hj hl => (hp979 j (by omega) hl).trans (os938 j hj hl)
    have rg982 : FA w973 ≠ 0 ∨ 0 = 1 := rg939.imp_left (PK.fr hF976 (by decide) (by decide) pk937.2.2.2).1
    have rg983 : FA w973 ≠ 0 ∨ (1 ≤ n932 ∧ n932 ≤ 10) := hn936.imp_left (PK.fr hF976 (by decide) (by decide) pk937.2.2.2).1
    have ms984 : mu w973 < mu w := Nat.lt_of_le_of_lt (PK.fr hF976 (by decide) (by decide) pk937.2.2.2).2.1 ms940
    clear rg939 hn936
    refine xg_t (xg_iinc (u := 0) (z := 1) (l1 := [(3, (0, u45)), (2, (0, at_)), (1, (0, 3)), (0, (2, 82))]) rfl rfl (by decide) rfl) ?_
    refine xg_t (xg_goto) ?_
    refine xg_t (xg_blk (b := [(224, 2, 2, 4, 0, 0), (226, 1, 3, 3, 0, 0), (227, 3, 6, 270, 3, 0), (230, 1, 0, 0, 0, 0), (231, 1, 2, 1, 0, 0), (232, 1, 2, 3, 0, 0), (233, 2, 4, 80, 0, 0), (235, 1, 3, 3, 0, 0), (236, 1, 2, 3, 0, 0), (237, 1, 16, 0, 0, 0), (238, 1, 11, 0, 0, 0), (239, 2, 2, 4, 0, 0), (241, 1, 11, 0, 0, 0), (242, 1, 0, 0, 0, 0), (243, 1, 3, 1, 0, 0), (244, 2, 2, 4, 0, 0), (246, 1, 3, 2, 0, 0), (247, 3, 6, 255, 3, 0), (250, 2, 4, 10, 0, 0), (252, 3, 8, 258, 0, 0)]) rfl) ?_
    refine xg_t (xg_iload (va := (0, 1)) rfl rfl) ?_
    refine xg_t (xg_const) ?_
    refine xg_t (xg_icF (u := 1) (v := 3) rfl xnm0 xnm0 (by decide)) ?_
    refine xg_t (xg_aload (va := (2, 82)) rfl rfl) ?_
    refine xg_t (xg_iload (va := (0, 3)) rfl rfl) ?_
    refine xg_t (xg_iload (va := (0, u45)) rfl rfl) ?_
    refine xg_t (xg_bip) ?_
    refine xg_t (xg_const) ?_
    refine xg_t (xg_iload (va := (0, u45)) rfl rfl) ?_
    refine xg_t (xg_imul (u := 3) (v := u45) (z := 3 * u45) xnm0 xnm0 (by omega)) ?_
    refine xg_t (xg_iadd (u := 80) (v := 3 * u45) (z := 80 + (3 * u45)) xnm0 xnm0 (by omega)) ?_
    refine xg_t (xg_iload (va := (0, 1)) rfl rfl) ?_
    refine xg_t (xg_iadd (u := 80 + (3 * u45)) (v := 1) (z := (80 + (3 * u45)) + 1) xnm0 xnm0 (by omega)) ?_
    refine xg_t (xg_aload (va := (2, 82)) rfl rfl) ?_
    refine xg_t (xg_const) ?_
    refine xg_t (xg_iload (va := (0, 1)) rfl rfl) ?_
    refine xg_t (xg_const) ?_
    refine xg_t (xg_icF (u := 1) (v := 2) rfl xnm0 xnm0 (by decide)) ?_
    refine xg_t (xg_bip) ?_
    refine xg_t (xg_goto) ?_
    refine xg_t (xg_blk (b := [(258, 3, 13, 199, 96, 196), (261, 3, 13, 211, 96, 200), (264, 3, 9, 4, 1, 0), (267, 3, 8, 224, 0, 0)]) rfl) ?_
    refine xg_cVi mX12_numbered (vs := [(0, 1), (0, 10)]) (rest := [(0, (80 + (3 * u45)) + 1), (0, u45), (0, 3), (2, 82)]) (cn1 := 0) (sl1 := 0) rfl (mNumbered (hI975) (by omega) (by omega) pk980.2.2.2) rfl (hF976.get (by decide) h82_971) rfl rfl rfl rfl rfl rfl (fun n989 w985 hq986 => ?_)
    obtain ⟨hn990, hI987, hF988⟩ := hq986
    clear hb942 hb944 hb946 hb948 hb950 hb952 hb954 hb956 hb958 hb960 hb964 hb966 hb968 hb970
    obtain ⟨hn991, hn992, hn993⟩ := hn990
    have pk994 : PK w w985 := PK.tr pk980 hn992
    have os995 : ∀ j, (j < 80 + 3 * u45 ∨ 83 + 3 * u45 ≤ j) → j < 140 → rwv w985 86 j = rwv w 86 j := fun j hj hl => (rwv_fr hF988 (by decide)).trans (os981 j hj hl)
    have ix996 : u45 < 4 → rwv w985 86 ((80 + (3 * u45)) + 0) = n932 := fun h => (rwv_fr hF988 (by decide)).trans (hp978 h)
    have rg997 : FA w985 ≠ 0 ∨ 0 = 1 := rg982.imp_left hn992.1
    have rg998 : FA w985 ≠ 0 ∨ (1 ≤ n932 ∧ n932 ≤ 10) := rg983.imp_left hn992.1
    have ms999 : mu w985 < mu w := Nat.lt_of_le_of_lt hn992.2.1 ms984
    clear hp978 rg982 rg983
    obtain ⟨f82_1000, f82_1002, f82_1004, f82_1006, f82_1008, f82_1010, f82_1012, f82_1014, f82_1016, f82_1018, f82_1020, f82_1021, f82_1022, f82_1024, f82_1026, f82_1028, h82_1030, hb1001, hb1003, hb1005, hb1007, hb1009, hb1011, hb1013, hb1015, hb1017, hb1019, hb1023, hb1025, hb1027, hb1029, hb1031⟩ := (hI987 82 (by decide) (by decide) : cp82 (wget w985 82))
    refine xg_cVv mX12_puts (vs := [(0, 3), (0, u45), (0, (80 + (3 * u45)) + 1), (0, n989)]) (rest := []) (cn1 := 0) (sl1 := 0) rfl (mPuts3 (hI987) (by omega) (by omega) (by omega) (fun _ => by omega)) rfl h82_1030 rfl rfl rfl rfl rfl rfl (fun w1032 hq1033 => ?_)
    obtain ⟨hI1034, hF1035, hx1036⟩ := hq1033
    obtain ⟨hp1037, hp1038⟩ := hx1036
    have pk1039 : PK w w1032 := PK.tr pk994 (PK.fr hF1035 (by decide) (by decide) pk994.2.2.2)
    have os1040 : ∀ j, (j < 80 + 3 * u45 ∨ 83 + 3 * u45 ≤ j) → j < 140 → rwv w1032 86 j = rwv w 86 j := fun j hj hl => (hp1038 j (by omega) hl).trans (os995 j hj hl)
    have ix1041 : u45 < 4 → rwv w1032 86 ((80 + (3 * u45)) + 0) = n932 := fun h => (hp1038 _ (by omega) (by omega)).trans (ix996 h)
    have rg1042 : FA w1032 ≠ 0 ∨ 0 = 1 := rg997.imp_left (PK.fr hF1035 (by decide) (by decide) pk994.2.2.2).1
    have rg1043 : FA w1032 ≠ 0 ∨ (1 ≤ n932 ∧ n932 ≤ 10) := rg998.imp_left (PK.fr hF1035 (by decide) (by decide) pk994.2.2.2).1
    have rg1044 : FA w1032 ≠ 0 ∨ (1 ≤ n989 ∧ n989 ≤ 10) := hn993.imp_left (PK.fr hF1035 (by decide) (by decide) pk994.2.2.2).1
    have ms1045 : mu w1032 < mu w := Nat.lt_of_le_of_lt (PK.fr hF1035 (by decide) (by decide) pk994.2.2.2).2.1 ms999
    clear ix996 rg997 rg998 hn993
    refine xg_t (xg_iinc (u := 1) (z := 2) (l1 := [(3, (0, u45)), (2, (0, at_)), (1, (0, 3)), (0, (2, 82))]) rfl rfl (by decide) rfl) ?_
    refine xg_t (xg_goto) ?_
    refine xg_t (xg_blk (b := [(224, 2, 2, 4, 0, 0), (226, 1, 3, 3, 0, 0), (227, 3, 6, 270, 3, 0), (230, 1, 0, 0, 0, 0), (231, 1, 2, 1, 0, 0), (232, 1, 2, 3, 0, 0), (233, 2, 4, 80, 0, 0), (235, 1, 3, 3, 0, 0), (236, 1, 2, 3, 0, 0), (237, 1, 16, 0, 0, 0), (238, 1, 11, 0, 0, 0), (239, 2, 2, 4, 0, 0), (241, 1, 11, 0, 0, 0), (242, 1, 0, 0, 0, 0), (243, 1, 3, 1, 0, 0), (244, 2, 2, 4, 0, 0), (246, 1, 3, 2, 0, 0), (247, 3, 6, 255, 3, 0), (250, 2, 4, 10, 0, 0), (252, 3, 8, 258, 0, 0)]) rfl) ?_
    refine xg_t (xg_iload (va := (0, 2)) rfl rfl) ?_
    refine xg_t (xg_const) ?_
    refine xg_t (xg_icF (u := 2) (v := 3) rfl xnm0 xnm0 (by decide)) ?_
    refine xg_t (xg_aload (va := (2, 82)) rfl rfl) ?_
    refine xg_t (xg_iload (va := (0, 3)) rfl rfl) ?_
    refine xg_t (xg_iload (va := (0, u45)) rfl rfl) ?_
    refine xg_t (xg_bip) ?_
    refine xg_t (xg_const) ?_
    refine xg_t (xg_iload (va := (0, u45)) rfl rfl) ?_
    refine xg_t (xg_imul (u := 3) (v := u45) (z := 3 * u45) xnm0 xnm0 (by omega)) ?_
    refine xg_t (xg_iadd (u := 80) (v := 3 * u45) (z := 80 + (3 * u45)) xnm0 xnm0 (by omega)) ?_
    refine xg_t (xg_iload (va := (0, 2)) rfl rfl) ?_
    refine xg_t (xg_iadd (u := 80 + (3 * u45)) (v := 2) (z := (80 + (3 * u45)) + 2) xnm0 xnm0 (by omega)) ?_
    refine xg_t (xg_aload (va := (2, 82)) rfl rfl) ?_
    refine xg_t (xg_const) ?_
    refine xg_t (xg_iload (va := (0, 2)) rfl rfl) ?_
    refine xg_t (xg_const) ?_
    refine xg_t (xg_icT (u := 2) (v := 2) rfl xnm0 xnm0 (by decide)) ?_
    refine xg_t (xg_blk (b := [(255, 3, 5, 999, 0, 0)]) rfl) ?_
    refine xg_t (xg_sip) ?_
    refine xg_t (xg_blk (b := [(258, 3, 13, 199, 96, 196), (261, 3, 13, 211, 96, 200), (264, 3, 9, 4, 1, 0), (267, 3, 8, 224, 0, 0)]) rfl) ?_
    refine xg_cVi mX12_numbered (vs := [(0, 1), (0, 999)]) (rest := [(0, (80 + (3 * u45)) + 2), (0, u45), (0, 3), (2, 82)]) (cn1 := 0) (sl1 := 0) rfl (mNumbered (hI1034) (by omega) (by omega) pk1039.2.2.2) rfl (hF1035.get (by decide) h82_1030) rfl rfl rfl rfl rfl rfl (fun n1050 w1046 hq1047 => ?_)
    obtain ⟨hn1051, hI1048, hF1049⟩ := hq1047
    clear hb1001 hb1003 hb1005 hb1007 hb1009 hb1011 hb1013 hb1015 hb1017 hb1019 hb1023 hb1025 hb1027 hb1029
    obtain ⟨hn1052, hn1053, hn1054⟩ := hn1051
    have pk1055 : PK w w1046 := PK.tr pk1039 hn1053
    have os1056 : ∀ j, (j < 80 + 3 * u45 ∨ 83 + 3 * u45 ≤ j) → j < 140 → rwv w1046 86 j = rwv w 86 j := fun j hj hl => (rwv_fr hF1049 (by decide)).trans (os1040 j hj hl)
    have ix1057 : u45 < 4 → rwv w1046 86 ((80 + (3 * u45)) + 0) = n932 := fun h => (rwv_fr hF1049 (by decide)).trans (ix1041 h)
    have ix1058 : u45 < 4 → rwv w1046 86 ((80 + (3 * u45)) + 1) = n989 := fun h => (rwv_fr hF1049 (by decide)).trans (hp1037 h)
    have rg1059 : FA w1046 ≠ 0 ∨ 0 = 1 := rg1042.imp_left hn1053.1
    have rg1060 : FA w1046 ≠ 0 ∨ (1 ≤ n932 ∧ n932 ≤ 10) := rg1043.imp_left hn1053.1
    have rg1061 : FA w1046 ≠ 0 ∨ (1 ≤ n989 ∧ n989 ≤ 10) := rg1044.imp_left hn1053.1
    have ms1062 : mu w1046 < mu w := Nat.lt_of_le_of_lt hn1053.2.1 ms1045
    clear ix1041 hp1037 rg1042 rg1043 rg1044
    obtain ⟨f82_1063, f82_1065, f82_1067, f82_1069, f82_1071, f82_1073, f82_1075, f82_1077, f82_1079, f82_1081, f82_1083, f82_1084, f82_1085, f82_1087, f82_1089, f82_1091, h82_1093, hb1064, hb1066, hb1068, hb1070, hb1072, hb1074, hb1076, hb1078, hb1080, hb1082, hb1086, hb1088, hb1090, hb1092, hb1094⟩ := (hI1048 82 (by decide) (by decide) : cp82 (wget w1046 82))
    refine xg_cVv mX12_puts (vs := [(0, 3), (0, u45), (0, (80 + (3 * u45)) + 2), (0, n1050)]) (rest := []) (cn1 := 0) (sl1 := 0) rfl (mPuts3 (hI1048) (by omega) (by omega) (by omega) (fun _ => by omega)) rfl h82_1093 rfl rfl rfl rfl rfl rfl (fun w1095 hq1096 => ?_)
    obtain ⟨hI1097, hF1098, hx1099⟩ := hq1096
    obtain ⟨hp1100, hp1101⟩ := hx1099
    have pk1102 : PK w w1095 := PK.tr pk1055 (PK.fr hF1098 (by decide) (by decide) pk1055.2.2.2)
    have os1103 : ∀ j, (j < 80 + 3 * u45 ∨ 83 + 3 * u45 ≤ j) → j < 140 → rwv w1095 86 j = rwv w 86 j := fun j hj hl => (hp1101 j (by omega) hl).trans (os1056 j hj hl)
    have ix1104 : u45 < 4 → rwv w1095 86 ((80 + (3 * u45)) + 0) = n932 := fun h => (hp1101 _ (by omega) (by omega)).trans (ix1057 h)
    have ix1105 : u45 < 4 → rwv w1095 86 ((80 + (3 * u45)) + 1) = n989 := fun h => (hp1101 _ (by omega) (by omega)).trans (ix1058 h)
    have rg1106 : FA w1095 ≠ 0 ∨ 0 = 1 := rg1059.imp_left (PK.fr hF1098 (by decide) (by decide) pk1055.2.2.2).1
    have rg1107 : FA w1095 ≠ 0 ∨ (1 ≤ n932 ∧ n932 ≤ 10) := rg1060.imp_left (PK.fr hF1098 (by decide) (by decide) pk1055.2.2.2).1
    have rg1108 : FA w1095 ≠ 0 ∨ (1 ≤ n989 ∧ n989 ≤ 10) := rg1061.imp_left (PK.fr hF1098 (by decide) (by decide) pk1055.2.2.2).1
    have rg1109 : FA w1095 ≠ 0 ∨ (1 ≤ n1050 ∧ n1050 ≤ 999) := hn1054.imp_left (PK.fr hF1098 (by decide) (by decide) pk1055.2.2.2).1
    have ms1110 : mu w1095 < mu w := Nat.lt_of_le_of_lt (PK.fr hF1098 (by decide) (by decide) pk1055.2.2.2).2.1 ms1062
    clear ix1057 ix1058 rg1059 rg1060 rg1061 hn1054
    refine xg_t (xg_iinc (u := 2) (z := 3) (l1 := [(3, (0, u45)), (2, (0, at_)), (1, (0, 3)), (0, (2, 82))]) rfl rfl (by decide) rfl) ?_
    refine xg_t (xg_goto) ?_
    refine xg_t (xg_blk (b := [(224, 2, 2, 4, 0, 0), (226, 1, 3, 3, 0, 0), (227, 3, 6, 270, 3, 0), (230, 1, 0, 0, 0, 0), (231, 1, 2, 1, 0, 0), (232, 1, 2, 3, 0, 0), (233, 2, 4, 80, 0, 0), (235, 1, 3, 3, 0, 0), (236, 1, 2, 3, 0, 0), (237, 1, 16, 0, 0, 0), (238, 1, 11, 0, 0, 0), (239, 2, 2, 4, 0, 0), (241, 1, 11, 0, 0, 0), (242, 1, 0, 0, 0, 0), (243, 1, 3, 1, 0, 0), (244, 2, 2, 4, 0, 0), (246, 1, 3, 2, 0, 0), (247, 3, 6, 255, 3, 0), (250, 2, 4, 10, 0, 0), (252, 3, 8, 258, 0, 0)]) rfl) ?_
    refine xg_t (xg_iload (va := (0, 3)) rfl rfl) ?_
    refine xg_t (xg_const) ?_
    refine xg_t (xg_icT (u := 3) (v := 3) rfl xnm0 xnm0 (by decide)) ?_
    refine xg_t (xg_blk (b := [(270, 3, 8, 394, 0, 0)]) rfl) ?_
    refine xg_t (xg_goto) ?_
    refine xg_t (xg_drop (l1 := [(0, (2, 82)), (1, (0, 3)), (3, (0, u45))]) (List.forall_mem_cons.mpr ⟨List.mem_cons_of_mem _ (List.mem_cons_of_mem _ (List.mem_cons_of_mem _ (List.mem_cons_of_mem _ (List.mem_cons_self)))), List.forall_mem_cons.mpr ⟨List.mem_cons_of_mem _ (List.mem_cons_of_mem _ (List.mem_cons_of_mem _ (List.mem_cons_self))), List.forall_mem_cons.mpr ⟨List.mem_cons_of_mem _ (List.mem_cons_self), fun _ h => absurd h List.not_mem_nil⟩⟩⟩)) ?_
    have hX1111 : FA w1095 ≠ 0 ∨ u45 < 4 := Or.inl (by have q := rg1106; omega)
    exact jn599 w1095 (hI1097) (((((((((hF577.up (by decide)).tr (hF586.up (by decide))).tr (hF931.up (by decide))).tr (hF976.up (by decide))).tr (hF988.up (by decide))).tr (hF1035.up (by decide))).tr (hF1049.up (by decide))).tr (hF1098.up (by decide)))) (⟨pk1102, os1103, ms1110, hX1111⟩)
end XMB
