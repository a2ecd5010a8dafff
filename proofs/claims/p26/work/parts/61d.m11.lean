/-! the model: lines of films, more -/
section XMB
variable {d : Nat} {w : List (List xE)} {bd : List (Nat × Nat)} {fc : List (Nat × Nat × Bool)} {rr : Nat × Nat}
set_option maxHeartbeats 60000000 in
theorem mALineS4 {at_ : Nat} (hI : xMnv w) (hps : PS w) (hmb : ∀ s, s < 7 → rwv w 85 s ≤ 1000) (hln : fld w 82 14 ≤ 1000) (h7 : fld w 82 7 = 3) (hat : at_ ≤ 4294967295) : xTo (d + 7) mX12_aLine (43, [], [(2, (0, at_)), (1, (0, 4)), (0, (2, 82))], [], (w, bd, fc, 0, 0, rr)) (fun φ => ∃ w', xEnd 0 [] (w', bd, fc, 0, 0, rr) φ ∧ xMnv w' ∧ xFr [82, 83, 85, 86, 87] w w' ∧ ((FA w ≠ 0 → FA w' ≠ 0) ∧ PS w' ∧ ((fld w' 82 10 = 1 ∧ mu w' = mu w ∧ fld w' 82 14 = fld w 82 14 ∧ ∀ s, s < 7 → rwv w' 85 s = rwv w 85 s) ∨ (mu w' < mu w ∧ fld w' 82 14 = fld w 82 14 + 1 ∧ ∀ s, s < 7 → rwv w' 85 s ≤ rwv w 85 s + 1)) ∧ (FA w' ≠ 0 ∨ (DATA w → DATA w')))) := by
  obtain ⟨f82_1, f82_3, f82_5, f82_7, f82_9, f82_11, f82_13, f82_15, f82_17, f82_19, f82_21, f82_22, f82_23, f82_25, f82_27, f82_29, h82_31, hb2, hb4, hb6, hb8, hb10, hb12, hb14, hb16, hb18, hb20, hb24, hb26, hb28, hb30, hb32⟩ := (hI 82 (by decide) (by decide) : cp82 (wget w 82))
  have hf33 : fld w 82 7 = f82_11 := fld_of h82_31
  have hf34 : fld w 82 10 = f82_17 := fld_of h82_31
  have hf35 : fld w 82 14 = f82_19 := fld_of h82_31
  have hps_ : fld w 82 10 = 0 ∨ FA w ≠ 0 := hps
  obtain ⟨g85_36, h85_37, hb38⟩ := (hI 85 (by decide) (by decide) : cpI 7 52 4294967295 (wget w 85))
  have h85_37 : xRow w 85 7 52 g85_36 := h85_37
  obtain ⟨g86_39, h86_40, hb41⟩ := (hI 86 (by decide) (by decide) : cpI 140 53 4294967295 (wget w 86))
  have h86_40 : xRow w 86 140 53 g86_39 := h86_40
  obtain ⟨g87_42, h87_43, hb44⟩ := (hI 87 (by decide) (by decide) : cpI 20 54 4294967295 (wget w 87))
  have h87_43 : xRow w 87 20 54 g87_42 := h87_43
  refine xg_t (xg_blk (b := [(43, 1, 0, 0, 0, 0), (44, 3, 1, 12, 11, 17), (47, 1, 2, 1, 0, 0), (48, 1, 10, 0, 0, 0), (49, 1, 15, 3, 0, 0), (50, 1, 2, 3, 0, 0), (51, 1, 2, 1, 0, 0), (52, 3, 13, 194, 98, 193), (55, 3, 6, 64, 2, 0), (58, 1, 0, 0, 0, 0), (59, 1, 3, 3, 0, 0), (60, 1, 2, 2, 0, 0), (61, 3, 13, 115, 96, 186)]) rfl) ?_
  refine xg_t (xg_aload (va := (2, 82)) rfl rfl) ?_
  refine xg_t (xg_getf (va := (2, 85)) h82_31 rfl) ?_
  refine xg_t (xg_iload (va := (0, 4)) rfl rfl) ?_
  refine xg_ialdB (n := 4) (B := 4294967295) h85_37 (hb38) xnm0 (by omega) (fun u45 hu46 he47 => ?_)
  have hK48 : rwv w 85 4 = u45 := (rwv_of h85_37 (by decide)).trans he47
  have hm49 := hmb 4 (by decide)
  have hl50 : u45 ≤ 1000 := by omega
  refine xg_t (xg_istore (l1 := [(2, (0, at_)), (1, (0, 4)), (0, (2, 82))]) rfl rfl rfl) ?_
  refine xg_t (xg_iload (va := (0, u45)) rfl rfl) ?_
  refine xg_t (xg_iload (va := (0, 4)) rfl rfl) ?_
  refine xg_t (xg_cSr mX12_mostOf (vs := [(0, 4)]) (rest := [(0, u45)]) (rs := [(0, 20), (0, u45)]) (cn1 := 0) (sl1 := 0) rfl (mMostR4) rfl rfl rfl rfl rfl rfl rfl rfl) ?_
  by_cases hc51 : u45 < 20
  · refine xg_t (xg_icT (u := u45) (v := 20) rfl xnm0 xnm0 (xj_ltT hc51 (by omega))) ?_
    refine xg_t (xg_blk (b := [(64, 1, 0, 0, 0, 0), (65, 3, 13, 110, 96, 190), (68, 1, 2, 1, 0, 0), (69, 39, 33, 362, 0, 9)]) rfl) ?_
    refine xg_t (xg_aload (va := (2, 82)) rfl rfl) ?_
    refine xg_cVv mX12_advance (vs := []) (rest := []) (cn1 := 0) (sl1 := 0) rfl (mAdvance (hI)) rfl h82_31 rfl rfl rfl rfl rfl rfl (fun w52 hq53 => ?_)
    obtain ⟨hI54, hF55, hx56⟩ := hq53
    clear hb2 hb4 hb6 hb8 hb10 hb12 hb14 hb16 hb18 hb20 hb24 hb26 hb28 hb30
    obtain ⟨hv57, hv58, hv59, hv60⟩ := hx56
    have hf62 := FA_fr hF55 (by decide)
    have hs63 := (PK.rf hps).2.2.2
    unfold PS at hs63
    have pk61 : PK w w52 := ⟨fun _ => by omega, hv57, hv60, (show fld w52 82 10 = 0 ∨ FA w52 ≠ 0 by omega)⟩
    clear hs63
    have pk64 : PK w w52 := PK.tr (PK.rf hps) pk61
    have os65 : ∀ j, (j < 100 + 2 * u45 ∨ 102 + 2 * u45 ≤ j) → j < 140 → rwv w52 86 j = rwv w 86 j := fun j hj hl => (rwv_fr hF55 (by decide)).trans ((fun j _ _ => rfl) j hj hl)
    have ms66 : mu w52 < mu w := Nat.lt_of_lt_of_le (hv58 (by omega)) (PK.rf hps).2.1
    clear hv58
    have jn67 : ∀ (w68 : List (List xE)), xMnv w68 → xFr [82, 83, 85, 86, 87] w w68 → (PK w w68 ∧ (∀ j, (j < 100 + 2 * u45 ∨ 102 + 2 * u45 ≤ j) → j < 140 → rwv w68 86 j = rwv w 86 j) ∧ mu w68 < mu w ∧ (FA w68 ≠ 0 ∨ u45 < 20)) → xTo (d + 7) mX12_aLine (394, [], [(0, (2, 82)), (1, (0, 4)), (3, (0, u45))], [], (w68, bd, fc, 0, 0, rr)) (fun φ => ∃ w', xEnd 0 [] (w', bd, fc, 0, 0, rr) φ ∧ xMnv w' ∧ xFr [82, 83, 85, 86, 87] w w' ∧ ((FA w ≠ 0 → FA w' ≠ 0) ∧ PS w' ∧ ((fld w' 82 10 = 1 ∧ mu w' = mu w ∧ fld w' 82 14 = fld w 82 14 ∧ ∀ s, s < 7 → rwv w' 85 s = rwv w 85 s) ∨ (mu w' < mu w ∧ fld w' 82 14 = fld w 82 14 + 1 ∧ ∀ s, s < 7 → rwv w' 85 s ≤ rwv w 85 s + 1)) ∧ (FA w' ≠ 0 ∨ (DATA w → DATA w')))) := by
      intro w68 hI69 hF70 he71
      obtain ⟨hj72, hj73, hj74, hj75⟩ := he71
      refine xg_t (xg_blk (b := [(394, 1, 0, 0, 0, 0), (395, 3, 1, 12, 10, 180), (398, 3, 7, 416, 1, 0), (401, 1, 0, 0, 0, 0), (402, 3, 1, 12, 7, 151), (405, 1, 3, 2, 0, 0), (406, 3, 6, 416, 1, 0), (409, 1, 0, 0, 0, 0), (410, 3, 13, 110, 96, 190), (413, 3, 8, 420, 0, 0)]) rfl) ?_
      refine xg_t (xg_aload (va := (2, 82)) rfl rfl) ?_
      obtain ⟨f82_76, f82_78, f82_80, f82_82, f82_84, f82_86, f82_88, f82_90, f82_92, f82_94, f82_96, f82_97, f82_98, f82_100, f82_102, f82_104, h82_106, hb77, hb79, hb81, hb83, hb85, hb87, hb89, hb91, hb93, hb95, hb99, hb101, hb103, hb105, hb107⟩ := (hI69 82 (by decide) (by decide) : cp82 (wget w68 82))
      refine xg_t (xg_getf (va := (0, f82_92)) h82_106 rfl) ?_
      by_cases hc108 : f82_92 = 0
      · refine xg_t (xg_ifF (u := f82_92) rfl xnm0 (xj_neF hc108)) ?_
        refine xg_t (xg_aload (va := (2, 82)) rfl rfl) ?_
        refine xg_t (xg_getf (va := (0, f82_86)) h82_106 rfl) ?_
        refine xg_t (xg_const) ?_
        by_cases hc109 : f82_86 = 2
        · refine xg_t (xg_icF (u := f82_86) (v := 2) rfl xnm0 xnm0 (xj_neF hc109)) ?_
          refine xg_t (xg_aload (va := (2, 82)) rfl rfl) ?_
          refine xg_cVv mX12_advance (vs := []) (rest := []) (cn1 := 0) (sl1 := 0) rfl (mAdvance (hI69)) rfl h82_106 rfl rfl rfl rfl rfl rfl (fun w110 hq111 => ?_)
          obtain ⟨hI112, hF113, hx114⟩ := hq111
          clear hb77 hb79 hb81 hb83 hb85 hb87 hb89 hb91 hb93 hb95 hb99 hb101 hb103 hb105
          obtain ⟨hv115, hv116, hv117, hv118⟩ := hx114
          have hf120 := FA_fr hF113 (by decide)
          have hs121 := hj72.2.2.2
          unfold PS at hs121
          have pk119 : PK w68 w110 := ⟨fun _ => by omega, hv115, hv118, (show fld w110 82 10 = 0 ∨ FA w110 ≠ 0 by omega)⟩
          clear hs121
          clear hv116
          have pk122 : PK w w110 := PK.tr hj72 pk119
          have os123 : ∀ j, (j < 100 + 2 * u45 ∨ 102 + 2 * u45 ≤ j) → j < 140 → rwv w110 86 j = rwv w 86 j := fun j hj hl => (rwv_fr hF113 (by decide)).trans (hj73 j hj hl)
          have rg124 : FA w110 ≠ 0 ∨ u45 < 20 := hj75.imp_left pk119.1
          have ms125 : mu w110 < mu w := Nat.lt_of_le_of_lt pk119.2.1 hj74
          clear hj75
          refine xg_t (xg_goto) ?_
          refine xg_t (xg_blk (b := [(420, 1, 0, 0, 0, 0), (421, 3, 1, 12, 11, 17), (424, 1, 2, 1, 0, 0), (425, 1, 39, 0, 0, 0), (426, 1, 10, 0, 0, 0), (427, 1, 3, 1, 0, 0), (428, 1, 11, 0, 0, 0), (429, 1, 17, 0, 0, 0), (430, 1, 0, 0, 0, 0), (431, 1, 19, 0, 0, 0), (432, 3, 1, 12, 14, 212), (435, 1, 3, 1, 0, 0), (436, 1, 11, 0, 0, 0), (437, 3, 14, 12, 14, 212), (440, 1, 12, 0, 0, 0)]) rfl) ?_
          obtain ⟨f82_126, f82_128, f82_130, f82_132, f82_134, f82_136, f82_138, f82_140, f82_142, f82_144, f82_146, f82_147, f82_148, f82_150, f82_152, f82_154, h82_156, hb127, hb129, hb131, hb133, hb135, hb137, hb139, hb141, hb143, hb145, hb149, hb151, hb153, hb155, hb157⟩ := (hI112 82 (by decide) (by decide) : cp82 (wget w110 82))
          have hf158 : fld w110 82 4 = f82_130 := fld_of h82_156
          have hf159 : fld w110 82 5 = f82_132 := fld_of h82_156
          have hf160 : fld w110 82 7 = f82_136 := fld_of h82_156
          have hf161 : fld w110 82 10 = f82_142 := fld_of h82_156
          have hf162 : fld w110 82 14 = f82_144 := fld_of h82_156
          have hu163 : mu w110 = 2 * (fld w110 82 4 - fld w110 82 5) + min 1 (fld w110 82 7) := rfl
          have hf164 := pk122.2.2.1
          have hl165 : f82_144 ≤ 1000 := by omega
          refine xg_t (xg_aload (va := (2, 82)) rfl rfl) ?_
          refine xg_t (xg_getf (va := (2, 85)) h82_156 rfl) ?_
          refine xg_t (xg_iload (va := (0, 4)) rfl rfl) ?_
          refine xg_t (xg_dup2 rfl) ?_
          obtain ⟨g85_166, h85_167, hb168⟩ := (hI112 85 (by decide) (by decide) : cpI 7 52 4294967295 (wget w110 85))
          have h85_167 : xRow w110 85 7 52 g85_166 := h85_167
          refine xg_ialdB (n := 4) (B := 4294967295) h85_167 (hb168) xnm0 (by omega) (fun u169 hu170 he171 => ?_)
          have hl172 : u169 = u45 := by omega
          refine xg_t (xg_const) ?_
          refine xg_t (xg_iadd (u := u169) (v := 1) (z := u169 + 1) xnm0 xnm0 (by omega)) ?_
          refine xg_iastK (n := 4) (u := u169 + 1) h85_167 xnm0 xnm0 rfl (by omega) (fun w173 hr174 hb175 => ?_)
          refine xg_t (xg_aload (va := (2, 82)) rfl rfl) ?_
          refine xg_t (xg_dup rfl) ?_
          refine xg_t (xg_getf (va := (0, f82_144)) (hb175.get (by decide) h82_156) rfl) ?_
          refine xg_t (xg_const) ?_
          refine xg_t (xg_iadd (u := f82_144) (v := 1) (z := f82_144 + 1) xnm0 xnm0 (by omega)) ?_
          refine xg_putI (fl1 := [(2, 83), (2, 84), (0, f82_126), (0, f82_128), (0, f82_130), (0, f82_132), (0, f82_134), (0, f82_136), (0, f82_138), (0, f82_140), (0, f82_142), (2, 85), (2, 86), (2, 87), (0, f82_144 + 1), (2, 88), (2, 89), (2, 90), (2, 91), (2, 92), (2, 93), (2, 94), (4, f82_146), (4, f82_147), (0, f82_148), (2, 95), (2, 96), (2, 97), (2, 98), (2, 99), (2, 100), (2, 101), (2, 102), (0, f82_150), (2, 103), (2, 104), (2, 105), (2, 106), (2, 107), (2, 108), (2, 109), (0, f82_152), (0, f82_154), (2, 110), (2, 111), (2, 112), (2, 113)]) (hb175.get (by decide) h82_156) rfl rfl rfl (fun w176 hk177 hb178 => ?_)
          have hF179 : xFr [82, 85] w110 w176 := ((xFr.of (S := [82, 85]) hb175 (by decide)).tr (xFr.of (S := [82, 85]) hb178 (by decide)))
          have hA180 := FA_fr hF179 (by decide)
          have hf181 : fld w176 82 4 = f82_130 := fld_of hk177
          have hf182 : fld w176 82 5 = f82_132 := fld_of hk177
          have hf183 : fld w176 82 7 = f82_136 := fld_of hk177
          have hf184 : fld w176 82 10 = f82_142 := fld_of hk177
          have hf185 : fld w176 82 14 = f82_144 + 1 := fld_of hk177
          have hu186 : mu w176 = 2 * (fld w176 82 4 - fld w176 82 5) + min 1 (fld w176 82 7) := rfl
          have pq187 := pk122
          unfold PK PS at pq187
          have hM188 : ∀ s, s < 7 → s ≠ 4 → rwv w176 85 s = rwv w 85 s := fun s hs hn => (rwv_of (hr174.but hb178 (by decide)) hs).trans ((if_neg hn).trans (rwv_of h85_37 hs).symm)
          have hM189 : rwv w176 85 4 = u45 + 1 := (rwv_of (hr174.but hb178 (by decide)) (by decide)).trans ((if_pos rfl).trans (by omega))
          have hM190 : ∀ s, s < 7 → rwv w176 85 s ≤ rwv w 85 s + 1 := fun s hs => by
            by_cases z : s = 4
            · subst z; omega
            · rw [hM188 s hs z]; omega
          have hO191 : ∀ j, (j < 100 + 2 * u45 ∨ 102 + 2 * u45 ≤ j) → j < 140 → rwv w176 86 j = rwv w 86 j := fun j hj hl => (rwv_fr hF179 (by decide)).trans (os123 j hj hl)
          have hl193 : FA w110 ≠ 0 ∨ u45 < 20 := rg124
          have hN192 : FA w176 ≠ 0 ∨ 20 ≤ u45 ∨ True := Or.inr (Or.inr trivial)
          have hX194 : FA w176 ≠ 0 ∨ u45 < 20 := by omega
          have hD195 : FA w176 ≠ 0 ∨ (DATA w → DATA w176) := by
            by_cases z : FA w176 ≠ 0
            · exact Or.inl z
            · exact Or.inr (fun hd => hd.s4 hM188 hK48 hM189 (hX194.resolve_left z) hO191 ((hN192.resolve_left z).resolve_left (by have := hX194.resolve_left z; omega)))
          exact xg_e ⟨w176, ⟨rfl, rfl⟩, xMnv.up (S := [85, 82]) hI112 ((xFr.of (S := [85, 82]) hb175 (by decide)).tr (xFr.of (S := [85, 82]) hb178 (by decide))) (List.forall_mem_cons.mpr ⟨(show cpI 7 52 4294967295 (wget w176 85) from ⟨_, (hr174.but hb178 (by decide)), xrb (by omega) (hb168)⟩), List.forall_mem_cons.mpr ⟨(show cp82 (wget w176 82) from ⟨f82_126, f82_128, f82_130, f82_132, f82_134, f82_136, f82_138, f82_140, f82_142, f82_144 + 1, f82_146, f82_147, f82_148, f82_150, f82_152, f82_154, hk177, hb127, hb129, hb131, hb133, hb135, hb137, hb139, hb141, hb143, by omega, hb149, hb151, hb153, hb155, by omega⟩), fun _ h => absurd h List.not_mem_nil⟩⟩), ((hF70.tr (hF113.up (by decide))).tr ((xFr.of (S := [82, 83, 85, 86, 87]) hb175 (by decide)).tr (xFr.of (S := [82, 83, 85, 86, 87]) hb178 (by decide)))), ⟨fun h => by have := pq187.1 h; omega, (show fld w176 82 10 = 0 ∨ FA w176 ≠ 0 by omega), Or.inr ⟨by have := ms125; omega, by omega, hM190⟩, hD195⟩⟩
        · refine xg_t (xg_icT (u := f82_86) (v := 2) rfl xnm0 xnm0 (xj_neT hc109)) ?_
          refine xg_t (xg_blk (b := [(416, 1, 0, 0, 0, 0), (417, 3, 13, 140, 96, 183)]) rfl) ?_
          refine xg_t (xg_aload (va := (2, 82)) rfl rfl) ?_
          refine xg_cVv mX12_ends (vs := []) (rest := []) (cn1 := 0) (sl1 := 0) rfl (mEnds (hI69) hj72.2.2.2) rfl h82_106 rfl rfl rfl rfl rfl rfl (fun w196 hq197 => ?_)
          obtain ⟨hI198, hF199, hx200⟩ := hq197
          clear hb77 hb79 hb81 hb83 hb85 hb87 hb89 hb91 hb93 hb95 hb99 hb101 hb103 hb105
          obtain ⟨hv201, hv202, hv203, hv204⟩ := hx200
          have pk205 : PK w68 w196 := ⟨fun _ => hv201, by omega, by omega, Or.inr hv201⟩
          have pk206 : PK w w196 := PK.tr hj72 pk205
          have os207 : ∀ j, (j < 100 + 2 * u45 ∨ 102 + 2 * u45 ≤ j) → j < 140 → rwv w196 86 j = rwv w 86 j := fun j hj hl => (rwv_fr hF199 (by decide)).trans (hj73 j hj hl)
          have rg208 : FA w196 ≠ 0 ∨ u45 < 20 := hj75.imp_left pk205.1
          have ms209 : mu w196 < mu w := Nat.lt_of_le_of_lt pk205.2.1 hj74
          clear hj75
          refine xg_t (xg_blk (b := [(420, 1, 0, 0, 0, 0), (421, 3, 1, 12, 11, 17), (424, 1, 2, 1, 0, 0), (425, 1, 39, 0, 0, 0), (426, 1, 10, 0, 0, 0), (427, 1, 3, 1, 0, 0), (428, 1, 11, 0, 0, 0), (429, 1, 17, 0, 0, 0), (430, 1, 0, 0, 0, 0), (431, 1, 19, 0, 0, 0), (432, 3, 1, 12, 14, 212), (435, 1, 3, 1, 0, 0), (436, 1, 11, 0, 0, 0), (437, 3, 14, 12, 14, 212), (440, 1, 12, 0, 0, 0)]) rfl) ?_
          obtain ⟨f82_210, f82_212, f82_214, f82_216, f82_218, f82_220, f82_222, f82_224, f82_226, f82_228, f82_230, f82_231, f82_232, f82_234, f82_236, f82_238, h82_240, hb211, hb213, hb215, hb217, hb219, hb221, hb223, hb225, hb227, hb229, hb233, hb235, hb237, hb239, hb241⟩ := (hI198 82 (by decide) (by decide) : cp82 (wget w196 82))
          have hf242 : fld w196 82 4 = f82_214 := fld_of h82_240
          have hf243 : fld w196 82 5 = f82_216 := fld_of h82_240
          have hf244 : fld w196 82 7 = f82_220 := fld_of h82_240
          have hf245 : fld w196 82 10 = f82_226 := fld_of h82_240
          have hf246 : fld w196 82 14 = f82_228 := fld_of h82_240
          have hu247 : mu w196 = 2 * (fld w196 82 4 - fld w196 82 5) + min 1 (fld w196 82 7) := rfl
          have hf248 := pk206.2.2.1
          have hl249 : f82_228 ≤ 1000 := by omega
          refine xg_t (xg_aload (va := (2, 82)) rfl rfl) ?_
          refine xg_t (xg_getf (va := (2, 85)) h82_240 rfl) ?_
          refine xg_t (xg_iload (va := (0, 4)) rfl rfl) ?_
          refine xg_t (xg_dup2 rfl) ?_
          obtain ⟨g85_250, h85_251, hb252⟩ := (hI198 85 (by decide) (by decide) : cpI 7 52 4294967295 (wget w196 85))
          have h85_251 : xRow w196 85 7 52 g85_250 := h85_251
          refine xg_ialdB (n := 4) (B := 4294967295) h85_251 (hb252) xnm0 (by omega) (fun u253 hu254 he255 => ?_)
          have hl256 : u253 = u45 := by omega
          refine xg_t (xg_const) ?_
          refine xg_t (xg_iadd (u := u253) (v := 1) (z := u253 + 1) xnm0 xnm0 (by omega)) ?_
          refine xg_iastK (n := 4) (u := u253 + 1) h85_251 xnm0 xnm0 rfl (by omega) (fun w257 hr258 hb259 => ?_)
          refine xg_t (xg_aload (va := (2, 82)) rfl rfl) ?_
          refine xg_t (xg_dup rfl) ?_
          refine xg_t (xg_getf (va := (0, f82_228)) (hb259.get (by decide) h82_240) rfl) ?_
          refine xg_t (xg_const) ?_
          refine xg_t (xg_iadd (u := f82_228) (v := 1) (z := f82_228 + 1) xnm0 xnm0 (by omega)) ?_
          refine xg_putI (fl1 := [(2, 83), (2, 84), (0, f82_210), (0, f82_212), (0, f82_214), (0, f82_216), (0, f82_218), (0, f82_220), (0, f82_222), (0, f82_224), (0, f82_226), (2, 85), (2, 86), (2, 87), (0, f82_228 + 1), (2, 88), (2, 89), (2, 90), (2, 91), (2, 92), (2, 93), (2, 94), (4, f82_230), (4, f82_231), (0, f82_232), (2, 95), (2, 96), (2, 97), (2, 98), (2, 99), (2, 100), (2, 101), (2, 102), (0, f82_234), (2, 103), (2, 104), (2, 105), (2, 106), (2, 107), (2, 108), (2, 109), (0, f82_236), (0, f82_238), (2, 110), (2, 111), (2, 112), (2, 113)]) (hb259.get (by decide) h82_240) rfl rfl rfl (fun w260 hk261 hb262 => ?_)
          have hF263 : xFr [82, 85] w196 w260 := ((xFr.of (S := [82, 85]) hb259 (by decide)).tr (xFr.of (S := [82, 85]) hb262 (by decide)))
          have hA264 := FA_fr hF263 (by decide)
          have hf265 : fld w260 82 4 = f82_214 := fld_of hk261
          have hf266 : fld w260 82 5 = f82_216 := fld_of hk261
          have hf267 : fld w260 82 7 = f82_220 := fld_of hk261
          have hf268 : fld w260 82 10 = f82_226 := fld_of hk261
          have hf269 : fld w260 82 14 = f82_228 + 1 := fld_of hk261
          have hu270 : mu w260 = 2 * (fld w260 82 4 - fld w260 82 5) + min 1 (fld w260 82 7) := rfl
          have pq271 := pk206
          unfold PK PS at pq271
          have hM272 : ∀ s, s < 7 → s ≠ 4 → rwv w260 85 s = rwv w 85 s := fun s hs hn => (rwv_of (hr258.but hb262 (by decide)) hs).trans ((if_neg hn).trans (rwv_of h85_37 hs).symm)
          have hM273 : rwv w260 85 4 = u45 + 1 := (rwv_of (hr258.but hb262 (by decide)) (by decide)).trans ((if_pos rfl).trans (by omega))
          have hM274 : ∀ s, s < 7 → rwv w260 85 s ≤ rwv w 85 s + 1 := fun s hs => by
            by_cases z : s = 4
            · subst z; omega
            · rw [hM272 s hs z]; omega
          have hO275 : ∀ j, (j < 100 + 2 * u45 ∨ 102 + 2 * u45 ≤ j) → j < 140 → rwv w260 86 j = rwv w 86 j := fun j hj hl => (rwv_fr hF263 (by decide)).trans (os207 j hj hl)
          have hl277 : FA w196 ≠ 0 ∨ u45 < 20 := rg208
          have hN276 : FA w260 ≠ 0 ∨ 20 ≤ u45 ∨ True := Or.inr (Or.inr trivial)
          have hX278 : FA w260 ≠ 0 ∨ u45 < 20 := by omega
          have hD279 : FA w260 ≠ 0 ∨ (DATA w → DATA w260) := by
            by_cases z : FA w260 ≠ 0
            · exact Or.inl z
            · exact Or.inr (fun hd => hd.s4 hM272 hK48 hM273 (hX278.resolve_left z) hO275 ((hN276.resolve_left z).resolve_left (by have := hX278.resolve_left z; omega)))
          exact xg_e ⟨w260, ⟨rfl, rfl⟩, xMnv.up (S := [85, 82]) hI198 ((xFr.of (S := [85, 82]) hb259 (by decide)).tr (xFr.of (S := [85, 82]) hb262 (by decide))) (List.forall_mem_cons.mpr ⟨(show cpI 7 52 4294967295 (wget w260 85) from ⟨_, (hr258.but hb262 (by decide)), xrb (by omega) (hb252)⟩), List.forall_mem_cons.mpr ⟨(show cp82 (wget w260 82) from ⟨f82_210, f82_212, f82_214, f82_216, f82_218, f82_220, f82_222, f82_224, f82_226, f82_228 + 1, f82_230, f82_231, f82_232, f82_234, f82_236, f82_238, hk261, hb211, hb213, hb215, hb217, hb219, hb221, hb223, hb225, hb227, by omega, hb233, hb235, hb237, hb239, by omega⟩), fun _ h => absurd h List.not_mem_nil⟩⟩), ((hF70.tr (hF199.up (by decide))).tr ((xFr.of (S := [82, 83, 85, 86, 87]) hb259 (by decide)).tr (xFr.of (S := [82, 83, 85, 86, 87]) hb262 (by decide)))), ⟨fun h => by have := pq271.1 h; omega, (show fld w260 82 10 = 0 ∨ FA w260 ≠ 0 by omega), Or.inr ⟨by have := ms209; omega, by omega, hM274⟩, hD279⟩⟩
      · refine xg_t (xg_ifT (u := f82_92) rfl xnm0 (xj_neT hc108)) ?_
        refine xg_t (xg_blk (b := [(416, 1, 0, 0, 0, 0), (417, 3, 13, 140, 96, 183)]) rfl) ?_
        refine xg_t (xg_aload (va := (2, 82)) rfl rfl) ?_
        refine xg_cVv mX12_ends (vs := []) (rest := []) (cn1 := 0) (sl1 := 0) rfl (mEnds (hI69) hj72.2.2.2) rfl h82_106 rfl rfl rfl rfl rfl rfl (fun w280 hq281 => ?_)
        obtain ⟨hI282, hF283, hx284⟩ := hq281
        clear hb77 hb79 hb81 hb83 hb85 hb87 hb89 hb91 hb93 hb95 hb99 hb101 hb103 hb105
        obtain ⟨hv285, hv286, hv287, hv288⟩ := hx284
        have pk289 : PK w68 w280 := ⟨fun _ => hv285, by omega, by omega, Or.inr hv285⟩
        have pk290 : PK w w280 := PK.tr hj72 pk289
        have os291 : ∀ j, (j < 100 + 2 * u45 ∨ 102 + 2 * u45 ≤ j) → j < 140 → rwv w280 86 j = rwv w 86 j := fun j hj hl => (rwv_fr hF283 (by decide)).trans (hj73 j hj hl)
        have rg292 : FA w280 ≠ 0 ∨ u45 < 20 := hj75.imp_left pk289.1
        have ms293 : mu w280 < mu w := Nat.lt_of_le_of_lt pk289.2.1 hj74
        clear hj75
        refine xg_t (xg_blk (b := [(420, 1, 0, 0, 0, 0), (421, 3, 1, 12, 11, 17), (424, 1, 2, 1, 0, 0), (425, 1, 39, 0, 0, 0), (426, 1, 10, 0, 0, 0), (427, 1, 3, 1, 0, 0), (428, 1, 11, 0, 0, 0), (429, 1, 17, 0, 0, 0), (430, 1, 0, 0, 0, 0), (431, 1, 19, 0, 0, 0), (432, 3, 1, 12, 14, 212), (435, 1, 3, 1, 0, 0), (436, 1, 11, 0, 0, 0), (437, 3, 14, 12, 14, 212), (440, 1, 12, 0, 0, 0)]) rfl) ?_
        obtain ⟨f82_294, f82_296, f82_298, f82_300, f82_302, f82_304, f82_306, f82_308, f82_310, f82_312, f82_314, f82_315, f82_316, f82_318, f82_320, f82_322, h82_324, hb295, hb297, hb299, hb301, hb303, hb305, hb307, hb309, hb311, hb313, hb317, hb319, hb321, hb323, hb325⟩ := (hI282 82 (by decide) (by decide) : cp82 (wget w280 82))
        have hf326 : fld w280 82 4 = f82_298 := fld_of h82_324
        have hf327 : fld w280 82 5 = f82_300 := fld_of h82_324
        have hf328 : fld w280 82 7 = f82_304 := fld_of h82_324
        have hf329 : fld w280 82 10 = f82_310 := fld_of h82_324
        have hf330 : fld w280 82 14 = f82_312 := fld_of h82_324
        have hu331 : mu w280 = 2 * (fld w280 82 4 - fld w280 82 5) + min 1 (fld w280 82 7) := rfl
        have hf332 := pk290.2.2.1
        have hl333 : f82_312 ≤ 1000 := by omega
        refine xg_t (xg_aload (va := (2, 82)) rfl rfl) ?_
        refine xg_t (xg_getf (va := (2, 85)) h82_324 rfl) ?_
        refine xg_t (xg_iload (va := (0, 4)) rfl rfl) ?_
        refine xg_t (xg_dup2 rfl) ?_
        obtain ⟨g85_334, h85_335, hb336⟩ := (hI282 85 (by decide) (by decide) : cpI 7 52 4294967295 (wget w280 85))
        have h85_335 : xRow w280 85 7 52 g85_334 := h85_335
        refine xg_ialdB (n := 4) (B := 4294967295) h85_335 (hb336) xnm0 (by omega) (fun u337 hu338 he339 => ?_)
        have hl340 : u337 = u45 := by omega
        refine xg_t (xg_const) ?_
        refine xg_t (xg_iadd (u := u337) (v := 1) (z := u337 + 1) xnm0 xnm0 (by omega)) ?_
        refine xg_iastK (n := 4) (u := u337 + 1) h85_335 xnm0 xnm0 rfl (by omega) (fun w341 hr342 hb343 => ?_)
        refine xg_t (xg_aload (va := (2, 82)) rfl rfl) ?_
        refine xg_t (xg_dup rfl) ?_
        refine xg_t (xg_getf (va := (0, f82_312)) (hb343.get (by decide) h82_324) rfl) ?_
        refine xg_t (xg_const) ?_
        refine xg_t (xg_iadd (u := f82_312) (v := 1) (z := f82_312 + 1) xnm0 xnm0 (by omega)) ?_
        refine xg_putI (fl1 := [(2, 83), (2, 84), (0, f82_294), (0, f82_296), (0, f82_298), (0, f82_300), (0, f82_302), (0, f82_304), (0, f82_306), (0, f82_308), (0, f82_310), (2, 85), (2, 86), (2, 87), (0, f82_312 + 1), (2, 88), (2, 89), (2, 90), (2, 91), (2, 92), (2, 93), (2, 94), (4, f82_314), (4, f82_315), (0, f82_316), (2, 95), (2, 96), (2, 97), (2, 98), (2, 99), (2, 100), (2, 101), (2, 102), (0, f82_318), (2, 103), (2, 104), (2, 105), (2, 106), (2, 107), (2, 108), (2, 109), (0, f82_320), (0, f82_322), (2, 110), (2, 111), (2, 112), (2, 113)]) (hb343.get (by decide) h82_324) rfl rfl rfl (fun w344 hk345 hb346 => ?_)
        have hF347 : xFr [82, 85] w280 w344 := ((xFr.of (S := [82, 85]) hb343 (by decide)).tr (xFr.of (S := [82, 85]) hb346 (by decide)))
        have hA348 := FA_fr hF347 (by decide)
        have hf349 : fld w344 82 4 = f82_298 := fld_of hk345
        have hf350 : fld w344 82 5 = f82_300 := fld_of hk345
        have hf351 : fld w344 82 7 = f82_304 := fld_of hk345
        have hf352 : fld w344 82 10 = f82_310 := fld_of hk345
        have hf353 : fld w344 82 14 = f82_312 + 1 := fld_of hk345
        have hu354 : mu w344 = 2 * (fld w344 82 4 - fld w344 82 5) + min 1 (fld w344 82 7) := rfl
        have pq355 := pk290
        unfold PK PS at pq355
        have hM356 : ∀ s, s < 7 → s ≠ 4 → rwv w344 85 s = rwv w 85 s := fun s hs hn => (rwv_of (hr342.but hb346 (by decide)) hs).trans ((if_neg hn).trans (rwv_of h85_37 hs).symm)
        have hM357 : rwv w344 85 4 = u45 + 1 := (rwv_of (hr342.but hb346 (by decide)) (by decide)).trans ((if_pos rfl).trans (by omega))
        have hM358 : ∀ s, s < 7 → rwv w344 85 s ≤ rwv w 85 s + 1 := fun s hs => by
          by_cases z : s = 4
          · subst z; omega
          · rw [hM356 s hs z]; omega
        have hO359 : ∀ j, (j < 100 + 2 * u45 ∨ 102 + 2 * u45 ≤ j) → j < 140 → rwv w344 86 j = rwv w 86 j := fun j hj hl => (rwv_fr hF347 (by decide)).trans (os291 j hj hl)
        have hl361 : FA w280 ≠ 0 ∨ u45 < 20 := rg292
        have hN360 : FA w344 ≠ 0 ∨ 20 ≤ u45 ∨ True := Or.inr (Or.inr trivial)
        have hX362 : FA w344 ≠ 0 ∨ u45 < 20 := by omega
        have hD363 : FA w344 ≠ 0 ∨ (DATA w → DATA w344) := by
          by_cases z : FA w344 ≠ 0
          · exact Or.inl z
          · exact Or.inr (fun hd => hd.s4 hM356 hK48 hM357 (hX362.resolve_left z) hO359 ((hN360.resolve_left z).resolve_left (by have := hX362.resolve_left z; omega)))
        exact xg_e ⟨w344, ⟨rfl, rfl⟩, xMnv.up (S := [85, 82]) hI282 ((xFr.of (S := [85, 82]) hb343 (by decide)).tr (xFr.of (S := [85, 82]) hb346 (by decide))) (List.forall_mem_cons.mpr ⟨(show cpI 7 52 4294967295 (wget w344 85) from ⟨_, (hr342.but hb346 (by decide)), xrb (by omega) (hb336)⟩), List.forall_mem_cons.mpr ⟨(show cp82 (wget w344 82) from ⟨f82_294, f82_296, f82_298, f82_300, f82_302, f82_304, f82_306, f82_308, f82_310, f82_312 + 1, f82_314, f82_315, f82_316, f82_318, f82_320, f82_322, hk345, hb295, hb297, hb299, hb301, hb303, hb305, hb307, hb309, hb311, by omega, hb317, hb319, hb321, hb323, by omega⟩), fun _ h => absurd h List.not_mem_nil⟩⟩), ((hF70.tr (hF283.up (by decide))).tr ((xFr.of (S := [82, 83, 85, 86, 87]) hb343 (by decide)).tr (xFr.of (S := [82, 83, 85, 86, 87]) hb346 (by decide)))), ⟨fun h => by have := pq355.1 h; omega, (show fld w344 82 10 = 0 ∨ FA w344 ≠ 0 by omega), Or.inr ⟨by have := ms293; omega, by omega, hM358⟩, hD363⟩⟩
    refine xg_t (xg_iload (va := (0, 4)) rfl rfl) ?_
    refine xg_t (xg_swt (ks := [(0, 108), (1, 116), (2, 180), (3, 221), (4, 273), (5, 326)]) (u := 4) (z := 273) rfl rfl rfl xnm0 (xsw_n (by omega) (xsw_n (by omega) (xsw_n (by omega) (xsw_n (by omega) (xsw_y rfl)))))) ?_
    refine xg_t (xg_blk (b := [(273, 1, 2, 3, 0, 0), (274, 2, 4, 20, 0, 0), (276, 3, 6, 286, 3, 0), (279, 1, 0, 0, 0, 0), (280, 3, 1, 12, 13, 23), (283, 1, 2, 3, 0, 0), (284, 1, 2, 2, 0, 0), (285, 1, 17, 0, 0, 0)]) rfl) ?_
    refine xg_t (xg_iload (va := (0, u45)) rfl rfl) ?_
    refine xg_t (xg_bip) ?_
    refine xg_t (xg_icF (u := u45) (v := 20) rfl xnm0 xnm0 (xj_geF (by omega) (by omega))) ?_
    refine xg_t (xg_aload (va := (2, 82)) rfl rfl) ?_
    obtain ⟨f82_364, f82_366, f82_368, f82_370, f82_372, f82_374, f82_376, f82_378, f82_380, f82_382, f82_384, f82_385, f82_386, f82_388, f82_390, f82_392, h82_394, hb365, hb367, hb369, hb371, hb373, hb375, hb377, hb379, hb381, hb383, hb387, hb389, hb391, hb393, hb395⟩ := (hI54 82 (by decide) (by decide) : cp82 (wget w52 82))
    refine xg_t (xg_getf (va := (2, 87)) h82_394 rfl) ?_
    refine xg_t (xg_iload (va := (0, u45)) rfl rfl) ?_
    refine xg_t (xg_iload (va := (0, at_)) rfl rfl) ?_
    refine xg_iastK (n := u45) (u := at_) (h87_43.fr hF55 (by decide)) xnm0 xnm0 rfl (by omega) (fun w396 hr397 hb398 => ?_)
    refine xg_t (xg_blk (b := [(286, 1, 3, 0, 0, 0), (287, 2, 15, 4, 0, 0)]) rfl) ?_
    refine xg_t (xg_const) ?_
    refine xg_t (xg_istore (l1 := [(3, (0, u45)), (2, (0, at_)), (1, (0, 4)), (0, (2, 82))]) rfl rfl rfl) ?_
    refine xg_t (xg_blk (b := [(289, 2, 2, 4, 0, 0), (291, 1, 3, 2, 0, 0), (292, 3, 6, 323, 3, 0), (295, 1, 0, 0, 0, 0), (296, 1, 2, 1, 0, 0), (297, 1, 2, 3, 0, 0), (298, 2, 4, 100, 0, 0), (300, 1, 3, 2, 0, 0), (301, 1, 2, 3, 0, 0), (302, 1, 16, 0, 0, 0), (303, 1, 11, 0, 0, 0), (304, 2, 2, 4, 0, 0), (306, 1, 11, 0, 0, 0), (307, 1, 0, 0, 0, 0), (308, 1, 3, 0, 0, 0), (309, 2, 4, 9, 0, 0), (311, 3, 13, 199, 96, 196), (314, 3, 13, 211, 96, 200), (317, 3, 9, 4, 1, 0), (320, 3, 8, 289, 0, 0)]) rfl) ?_
    refine xg_t (xg_iload (va := (0, 0)) rfl rfl) ?_
    refine xg_t (xg_const) ?_
    refine xg_t (xg_icF (u := 0) (v := 2) rfl xnm0 xnm0 (by decide)) ?_
    refine xg_t (xg_aload (va := (2, 82)) rfl rfl) ?_
    refine xg_t (xg_iload (va := (0, 4)) rfl rfl) ?_
    refine xg_t (xg_iload (va := (0, u45)) rfl rfl) ?_
    refine xg_t (xg_bip) ?_
    refine xg_t (xg_const) ?_
    refine xg_t (xg_iload (va := (0, u45)) rfl rfl) ?_
    refine xg_t (xg_imul (u := 2) (v := u45) (z := 2 * u45) xnm0 xnm0 (by omega)) ?_
    refine xg_t (xg_iadd (u := 100) (v := 2 * u45) (z := 100 + (2 * u45)) xnm0 xnm0 (by omega)) ?_
    refine xg_t (xg_iload (va := (0, 0)) rfl rfl) ?_
    refine xg_t (xg_iadd (u := 100 + (2 * u45)) (v := 0) (z := (100 + (2 * u45)) + 0) xnm0 xnm0 (by omega)) ?_
    refine xg_t (xg_aload (va := (2, 82)) rfl rfl) ?_
    refine xg_t (xg_const) ?_
    refine xg_t (xg_bip) ?_
    refine xg_cVi mX12_numbered (vs := [(0, 0), (0, 9)]) (rest := [(0, (100 + (2 * u45)) + 0), (0, u45), (0, 4), (2, 82)]) (cn1 := 0) (sl1 := 0) rfl (mNumbered (xMnv.up (S := [87]) hI54 (xFr.of (S := [87]) hb398 (by decide)) (List.forall_mem_cons.mpr ⟨(show cpI 20 54 4294967295 (wget w396 87) from ⟨_, hr397, xrb (by omega) (hb44)⟩), fun _ h => absurd h List.not_mem_nil⟩)) (by omega) (by omega) pk64.2.2.2) rfl (hb398.get (by decide) h82_394) rfl rfl rfl rfl rfl rfl (fun n403 w399 hq400 => ?_)
    obtain ⟨hn404, hI401, hF402⟩ := hq400
    clear hb365 hb367 hb369 hb371 hb373 hb375 hb377 hb379 hb381 hb383 hb387 hb389 hb391 hb393
    obtain ⟨hn405, hn406, hn407⟩ := hn404
    have pk408 : PK w w399 := PK.tr pk64 hn406
    have os409 : ∀ j, (j < 100 + 2 * u45 ∨ 102 + 2 * u45 ≤ j) → j < 140 → rwv w399 86 j = rwv w 86 j := fun j hj hl => (rwv_fr hF402 (by decide)).trans (os65 j hj hl)
    have ms410 : mu w399 < mu w := Nat.lt_of_le_of_lt hn406.2.1 ms66
    obtain ⟨f82_411, f82_413, f82_415, f82_417, f82_419, f82_421, f82_423, f82_425, f82_427, f82_429, f82_431, f82_432, f82_433, f82_435, f82_437, f82_439, h82_441, hb412, hb414, hb416, hb418, hb420, hb422, hb424, hb426, hb428, hb430, hb434, hb436, hb438, hb440, hb442⟩ := (hI401 82 (by decide) (by decide) : cp82 (wget w399 82))
    refine xg_cVv mX12_puts (vs := [(0, 4), (0, u45), (0, (100 + (2 * u45)) + 0), (0, n403)]) (rest := []) (cn1 := 0) (sl1 := 0) rfl (mPuts4 (hI401) (by omega) (by omega) (by omega) (fun _ => by omega)) rfl h82_441 rfl rfl rfl rfl rfl rfl (fun w443 hq444 => ?_)
    obtain ⟨hI445, hF446, hx447⟩ := hq444
    obtain ⟨hp448, hp449⟩ := hx447
    have pk450 : PK w w443 := PK.tr pk408 (PK.fr hF446 (by decide) (by decide) pk408.2.2.2)
    have os451 : ∀ j, (j < 100 + 2 * u45 ∨ 102 + 2 * u45 ≤ j) → j < 140 → rwv w443 86 j = rwv w 86 j := fun j hj hl => (hp449 j (by omega) hl).trans (os409 j hj hl)
    have rg452 : FA w443 ≠ 0 ∨ (0 ≤ n403 ∧ n403 ≤ 9) := hn407.imp_left (PK.fr hF446 (by decide) (by decide) pk408.2.2.2).1
    have ms453 : mu w443 < mu w := Nat.lt_of_le_of_lt (PK.fr hF446 (by decide) (by decide) pk408.2.2.2).2.1 ms410
    clear hn407
    refine xg_t (xg_iinc (u := 0) (z := 1) (l1 := [(3, (0, u45)), (2, (0, at_)), (1, (0, 4)), (0, (2, 82))]) rfl rfl (by decide) rfl) ?_
    refine xg_t (xg_goto) ?_
    refine xg_t (xg_blk (b := [(289, 2, 2, 4, 0, 0), (291, 1, 3, 2, 0, 0), (292, 3, 6, 323, 3, 0), (295, 1, 0, 0, 0, 0), (296, 1, 2, 1, 0, 0), (297, 1, 2, 3, 0, 0), (298, 2, 4, 100, 0, 0), (300, 1, 3, 2, 0, 0), (301, 1, 2, 3, 0, 0), (302, 1, 16, 0, 0, 0), (303, 1, 11, 0, 0, 0), (304, 2, 2, 4, 0, 0), (306, 1, 11, 0, 0, 0), (307, 1, 0, 0, 0, 0), (308, 1, 3, 0, 0, 0), (309, 2, 4, 9, 0, 0), (311, 3, 13, 199, 96, 196), (314, 3, 13, 211, 96, 200), (317, 3, 9, 4, 1, 0), (320, 3, 8, 289, 0, 0)]) rfl) ?_
    refine xg_t (xg_iload (va := (0, 1)) rfl rfl) ?_
    refine xg_t (xg_const) ?_
    refine xg_t (xg_icF (u := 1) (v := 2) rfl xnm0 xnm0 (by decide)) ?_
    refine xg_t (xg_aload (va := (2, 82)) rfl rfl) ?_
    refine xg_t (xg_iload (va := (0, 4)) rfl rfl) ?_
    refine xg_t (xg_iload (va := (0, u45)) rfl rfl) ?_
    refine xg_t (xg_bip) ?_
    refine xg_t (xg_const) ?_
    refine xg_t (xg_iload (va := (0, u45)) rfl rfl) ?_
    refine xg_t (xg_imul (u := 2) (v := u45) (z := 2 * u45) xnm0 xnm0 (by omega)) ?_
    refine xg_t (xg_iadd (u := 100) (v := 2 * u45) (z := 100 + (2 * u45)) xnm0 xnm0 (by omega)) ?_
    refine xg_t (xg_iload (va := (0, 1)) rfl rfl) ?_
    refine xg_t (xg_iadd (u := 100 + (2 * u45)) (v := 1) (z := (100 + (2 * u45)) + 1) xnm0 xnm0 (by omega)) ?_
    refine xg_t (xg_aload (va := (2, 82)) rfl rfl) ?_
    refine xg_t (xg_const) ?_
    refine xg_t (xg_bip) ?_
    refine xg_cVi mX12_numbered (vs := [(0, 0), (0, 9)]) (rest := [(0, (100 + (2 * u45)) + 1), (0, u45), (0, 4), (2, 82)]) (cn1 := 0) (sl1 := 0) rfl (mNumbered (hI445) (by omega) (by omega) pk450.2.2.2) rfl (hF446.get (by decide) h82_441) rfl rfl rfl rfl rfl rfl (fun n458 w454 hq455 => ?_)
    obtain ⟨hn459, hI456, hF457⟩ := hq455
    clear hb412 hb414 hb416 hb418 hb420 hb422 hb424 hb426 hb428 hb430 hb434 hb436 hb438 hb440
    obtain ⟨hn460, hn461, hn462⟩ := hn459
    have pk463 : PK w w454 := PK.tr pk450 hn461
    have os464 : ∀ j, (j < 100 + 2 * u45 ∨ 102 + 2 * u45 ≤ j) → j < 140 → rwv w454 86 j = rwv w 86 j := fun j hj hl => (rwv_fr hF457 (by decide)).trans (os451 j hj hl)
    have ix465 : u45 < 20 → rwv w454 86 ((100 + (2 * u45)) + 0) = n403 := fun h => (rwv_fr hF457 (by decide)).trans (hp448 h)
    have rg466 : FA w454 ≠ 0 ∨ (0 ≤ n403 ∧ n403 ≤ 9) := rg452.imp_left hn461.1
    have ms467 : mu w454 < mu w := Nat.lt_of_le_of_lt hn461.2.1 ms453
    clear hp448 rg452
    obtain ⟨f82_468, f82_470, f82_472, f82_474, f82_476, f82_478, f82_480, f82_482, f82_484, f82_486, f82_488, f82_489, f82_490, f82_492, f82_494, f82_496, h82_498, hb469, hb471, hb473, hb475, hb477, hb479, hb481, hb483, hb485, hb487, hb491, hb493, hb495, hb497, hb499⟩ := (hI456 82 (by decide) (by decide) : cp82 (wget w454 82))
    refine xg_cVv mX12_puts (vs := [(0, 4), (0, u45), (0, (100 + (2 * u45)) + 1), (0, n458)]) (rest := []) (cn1 := 0) (sl1 := 0) rfl (mPuts4 (hI456) (by omega) (by omega) (by omega) (fun _ => by omega)) rfl h82_498 rfl rfl rfl rfl rfl rfl (fun w500 hq501 => ?_)
    obtain ⟨hI502, hF503, hx504⟩ := hq501
    obtain ⟨hp505, hp506⟩ := hx504
    have pk507 : PK w w500 := PK.tr pk463 (PK.fr hF503 (by decide) (by decide) pk463.2.2.2)
    have os508 : ∀ j, (j < 100 + 2 * u45 ∨ 102 + 2 * u45 ≤ j) → j < 140 → rwv w500 86 j = rwv w 86 j := fun j hj hl => (hp506 j (by omega) hl).trans (os464 j hj hl)
    have ix509 : u45 < 20 → rwv w500 86 ((100 + (2 * u45)) + 0) = n403 := fun h => (hp506 _ (by omega) (by omega)).trans (ix465 h)
    have rg510 : FA w500 ≠ 0 ∨ (0 ≤ n403 ∧ n403 ≤ 9) := rg466.imp_left (PK.fr hF503 (by decide) (by decide) pk463.2.2.2).1
    have rg511 : FA w500 ≠ 0 ∨ (0 ≤ n458 ∧ n458 ≤ 9) := hn462.imp_left (PK.fr hF503 (by decide) (by decide) pk463.2.2.2).1
    have ms512 : mu w500 < mu w := Nat.lt_of_le_of_lt (PK.fr hF503 (by decide) (by decide) pk463.2.2.2).2.1 ms467
    clear ix465 rg466 hn462
    refine xg_t (xg_iinc (u := 1) (z := 2) (l1 := [(3, (0, u45)), (2, (0, at_)), (1, (0, 4)), (0, (2, 82))]) rfl rfl (by decide) rfl) ?_
    refine xg_t (xg_goto) ?_
    refine xg_t (xg_blk (b := [(289, 2, 2, 4, 0, 0), (291, 1, 3, 2, 0, 0), (292, 3, 6, 323, 3, 0), (295, 1, 0, 0, 0, 0), (296, 1, 2, 1, 0, 0), (297, 1, 2, 3, 0, 0), (298, 2, 4, 100, 0, 0), (300, 1, 3, 2, 0, 0), (301, 1, 2, 3, 0, 0), (302, 1, 16, 0, 0, 0), (303, 1, 11, 0, 0, 0), (304, 2, 2, 4, 0, 0), (306, 1, 11, 0, 0, 0), (307, 1, 0, 0, 0, 0), (308, 1, 3, 0, 0, 0), (309, 2, 4, 9, 0, 0), (311, 3, 13, 199, 96, 196), (314, 3, 13, 211, 96, 200), (317, 3, 9, 4, 1, 0), (320, 3, 8, 289, 0, 0)]) rfl) ?_
    refine xg_t (xg_iload (va := (0, 2)) rfl rfl) ?_
    refine xg_t (xg_const) ?_
    refine xg_t (xg_icT (u := 2) (v := 2) rfl xnm0 xnm0 (by decide)) ?_
    refine xg_t (xg_blk (b := [(323, 3, 8, 394, 0, 0)]) rfl) ?_
    refine xg_t (xg_goto) ?_
    refine xg_t (xg_drop (l1 := [(0, (2, 82)), (1, (0, 4)), (3, (0, u45))]) (List.forall_mem_cons.mpr ⟨List.mem_cons_of_mem _ (List.mem_cons_of_mem _ (List.mem_cons_of_mem _ (List.mem_cons_of_mem _ (List.mem_cons_self)))), List.forall_mem_cons.mpr ⟨List.mem_cons_of_mem _ (List.mem_cons_of_mem _ (List.mem_cons_of_mem _ (List.mem_cons_self))), List.forall_mem_cons.mpr ⟨List.mem_cons_of_mem _ (List.mem_cons_self), fun _ h => absurd h List.not_mem_nil⟩⟩⟩)) ?_
    have hX513 : FA w500 ≠ 0 ∨ u45 < 20 := Or.inr (by omega)
    exact jn67 w500 (hI502) (((((((hF55.up (by decide)).tr (xFr.of (S := [82, 83, 85, 86, 87]) hb398 (by decide))).tr (hF402.up (by decide))).tr (hF446.up (by decide))).tr (hF457.up (by decide))).tr (hF503.up (by decide)))) (⟨pk507, os508, ms512, hX513⟩)
  · refine xg_t (xg_icF (u := u45) (v := 20) rfl xnm0 xnm0 (xj_ltF (by omega) (by omega))) ?_
    refine xg_t (xg_aload (va := (2, 82)) rfl rfl) ?_
    refine xg_t (xg_const) ?_
    refine xg_t (xg_iload (va := (0, at_)) rfl rfl) ?_
    refine xg_cVv mX12_also (vs := [(0, 3), (0, at_)]) (rest := []) (cn1 := 0) (sl1 := 0) rfl (mAlso (hI) (by omega) (by omega) (by omega) (PK.rf hps).2.2.2) rfl h82_31 rfl rfl rfl rfl rfl rfl (fun w514 hq515 => ?_)
    obtain ⟨hI516, hF517, hx518⟩ := hq515
    have pk519 : PK w w514 := ⟨fun _ => hx518, Nat.le_of_eq (mu_fr hF517 (by decide)), fld_fr hF517 (by decide), Or.inr hx518⟩
    have pk520 : PK w w514 := PK.tr (PK.rf hps) pk519
    have os521 : ∀ j, (j < 100 + 2 * u45 ∨ 102 + 2 * u45 ≤ j) → j < 140 → rwv w514 86 j = rwv w 86 j := fun j hj hl => (rwv_fr hF517 (by decide)).trans ((fun j _ _ => rfl) j hj hl)
    have hf522 := fld_fr (c := 82) (j := 7) hF517 (by decide)
    refine xg_t (xg_blk (b := [(64, 1, 0, 0, 0, 0), (65, 3, 13, 110, 96, 190), (68, 1, 2, 1, 0, 0), (69, 39, 33, 362, 0, 9)]) rfl) ?_
    refine xg_t (xg_aload (va := (2, 82)) rfl rfl) ?_
    refine xg_cVv mX12_advance (vs := []) (rest := []) (cn1 := 0) (sl1 := 0) rfl (mAdvance (hI516)) rfl (hF517.get (by decide) h82_31) rfl rfl rfl rfl rfl rfl (fun w523 hq524 => ?_)
    obtain ⟨hI525, hF526, hx527⟩ := hq524
    clear hb2 hb4 hb6 hb8 hb10 hb12 hb14 hb16 hb18 hb20 hb24 hb26 hb28 hb30
    obtain ⟨hv528, hv529, hv530, hv531⟩ := hx527
    have hf533 := FA_fr hF526 (by decide)
    have hs534 := pk520.2.2.2
    unfold PS at hs534
    have pk532 : PK w514 w523 := ⟨fun _ => by omega, hv528, hv531, (show fld w523 82 10 = 0 ∨ FA w523 ≠ 0 by omega)⟩
    clear hs534
    have pk535 : PK w w523 := PK.tr pk520 pk532
    have os536 : ∀ j, (j < 100 + 2 * u45 ∨ 102 + 2 * u45 ≤ j) → j < 140 → rwv w523 86 j = rwv w 86 j := fun j hj hl => (rwv_fr hF526 (by decide)).trans (os521 j hj hl)
    have rg537 : FA w523 ≠ 0 ∨ 0 = 1 := (Or.inl hx518 : FA w514 ≠ 0 ∨ 0 = 1).imp_left pk532.1
    have ms538 : mu w523 < mu w := Nat.lt_of_lt_of_le (hv529 (by omega)) pk520.2.1
    clear hv529
    have jn539 : ∀ (w540 : List (List xE)), xMnv w540 → xFr [82, 83, 85, 86, 87] w w540 → (PK w w540 ∧ (∀ j, (j < 100 + 2 * u45 ∨ 102 + 2 * u45 ≤ j) → j < 140 → rwv w540 86 j = rwv w 86 j) ∧ mu w540 < mu w ∧ (FA w540 ≠ 0 ∨ u45 < 20)) → xTo (d + 7) mX12_aLine (394, [], [(0, (2, 82)), (1, (0, 4)), (3, (0, u45))], [], (w540, bd, fc, 0, 0, rr)) (fun φ => ∃ w', xEnd 0 [] (w', bd, fc, 0, 0, rr) φ ∧ xMnv w' ∧ xFr [82, 83, 85, 86, 87] w w' ∧ ((FA w ≠ 0 → FA w' ≠ 0) ∧ PS w' ∧ ((fld w' 82 10 = 1 ∧ mu w' = mu w ∧ fld w' 82 14 = fld w 82 14 ∧ ∀ s, s < 7 → rwv w' 85 s = rwv w 85 s) ∨ (mu w' < mu w ∧ fld w' 82 14 = fld w 82 14 + 1 ∧ ∀ s, s < 7 → rwv w' 85 s ≤ rwv w 85 s + 1)) ∧ (FA w' ≠ 0 ∨ (DATA w → DATA w')))) := by
      intro w540 hI541 hF542 he543
      obtain ⟨hj544, hj545, hj546, hj547⟩ := he543
      refine xg_t (xg_blk (b := [(394, 1, 0, 0, 0, 0), (395, 3, 1, 12, 10, 180), (398, 3, 7, 416, 1, 0), (401, 1, 0, 0, 0, 0), (402, 3, 1, 12, 7, 151), (405, 1, 3, 2, 0, 0), (406, 3, 6, 416, 1, 0), (409, 1, 0, 0, 0, 0), (410, 3, 13, 110, 96, 190), (413, 3, 8, 420, 0, 0)]) rfl) ?_
      refine xg_t (xg_aload (va := (2, 82)) rfl rfl) ?_
      obtain ⟨f82_548, f82_550, f82_552, f82_554, f82_556, f82_558, f82_560, f82_562, f82_564, f82_566, f82_568, f82_569, f82_570, f82_572, f82_574, f82_576, h82_578, hb549, hb551, hb553, hb555, hb557, hb559, hb561, hb563, hb565, hb567, hb571, hb573, hb575, hb577, hb579⟩ := (hI541 82 (by decide) (by decide) : cp82 (wget w540 82))
      refine xg_t (xg_getf (va := (0, f82_564)) h82_578 rfl) ?_
      by_cases hc580 : f82_564 = 0
      · refine xg_t (xg_ifF (u := f82_564) rfl xnm0 (xj_neF hc580)) ?_
        refine xg_t (xg_aload (va := (2, 82)) rfl rfl) ?_
        refine xg_t (xg_getf (va := (0, f82_558)) h82_578 rfl) ?_
        refine xg_t (xg_const) ?_
        by_cases hc581 : f82_558 = 2
        · refine xg_t (xg_icF (u := f82_558) (v := 2) rfl xnm0 xnm0 (xj_neF hc581)) ?_
          refine xg_t (xg_aload (va := (2, 82)) rfl rfl) ?_
          refine xg_cVv mX12_advance (vs := []) (rest := []) (cn1 := 0) (sl1 := 0) rfl (mAdvance (hI541)) rfl h82_578 rfl rfl rfl rfl rfl rfl (fun w582 hq583 => ?_)
          obtain ⟨hI584, hF585, hx586⟩ := hq583
          clear hb549 hb551 hb553 hb555 hb557 hb559 hb561 hb563 hb565 hb567 hb571 hb573 hb575 hb577
          obtain ⟨hv587, hv588, hv589, hv590⟩ := hx586
          have hf592 := FA_fr hF585 (by decide)
          have hs593 := hj544.2.2.2
          unfold PS at hs593
          have pk591 : PK w540 w582 := ⟨fun _ => by omega, hv587, hv590, (show fld w582 82 10 = 0 ∨ FA w582 ≠ 0 by omega)⟩
          clear hs593
          clear hv588
          have pk594 : PK w w582 := PK.tr hj544 pk591
          have os595 : ∀ j, (j < 100 + 2 * u45 ∨ 102 + 2 * u45 ≤ j) → j < 140 → rwv w582 86 j = rwv w 86 j := fun j hj hl => (rwv_fr hF585 (by decide)).trans (hj545 j hj hl)
          have rg596 : FA w582 ≠ 0 ∨ u45 < 20 := hj547.imp_left pk591.1
          have ms597 : mu w582 < mu w := Nat.lt_of_le_of_lt pk591.2.1 hj546
          clear hj547
          refine xg_t (xg_goto) ?_
          refine xg_t (xg_blk (b := [(420, 1, 0, 0, 0, 0), (421, 3, 1, 12, 11, 17), (424, 1, 2, 1, 0, 0), (425, 1, 39, 0, 0, 0), (426, 1, 10, 0, 0, 0), (427, 1, 3, 1, 0, 0), (428, 1, 11, 0, 0, 0), (429, 1, 17, 0, 0, 0), (430, 1, 0, 0, 0, 0), (431, 1, 19, 0, 0, 0), (432, 3, 1, 12, 14, 212), (435, 1, 3, 1, 0, 0), (436, 1, 11, 0, 0, 0), (437, 3, 14, 12, 14, 212), (440, 1, 12, 0, 0, 0)]) rfl) ?_
          obtain ⟨f82_598, f82_600, f82_602, f82_604, f82_606, f82_608, f82_610, f82_612, f82_614, f82_616, f82_618, f82_619, f82_620, f82_622, f82_624, f82_626, h82_628, hb599, hb601, hb603, hb605, hb607, hb609, hb611, hb613, hb615, hb617, hb621, hb623, hb625, hb627, hb629⟩ := (hI584 82 (by decide) (by decide) : cp82 (wget w582 82))
          have hf630 : fld w582 82 4 = f82_602 := fld_of h82_628
          have hf631 : fld w582 82 5 = f82_604 := fld_of h82_628
          have hf632 : fld w582 82 7 = f82_608 := fld_of h82_628
          have hf633 : fld w582 82 10 = f82_614 := fld_of h82_628
          have hf634 : fld w582 82 14 = f82_616 := fld_of h82_628
          have hu635 : mu w582 = 2 * (fld w582 82 4 - fld w582 82 5) + min 1 (fld w582 82 7) := rfl
          have hf636 := pk594.2.2.1
          have hl637 : f82_616 ≤ 1000 := by omega
          refine xg_t (xg_aload (va := (2, 82)) rfl rfl) ?_
          refine xg_t (xg_getf (va := (2, 85)) h82_628 rfl) ?_
          refine xg_t (xg_iload (va := (0, 4)) rfl rfl) ?_
          refine xg_t (xg_dup2 rfl) ?_
          obtain ⟨g85_638, h85_639, hb640⟩ := (hI584 85 (by decide) (by decide) : cpI 7 52 4294967295 (wget w582 85))
          have h85_639 : xRow w582 85 7 52 g85_638 := h85_639
          refine xg_ialdB (n := 4) (B := 4294967295) h85_639 (hb640) xnm0 (by omega) (fun u641 hu642 he643 => ?_)
          have hl644 : u641 = u45 := by omega
          refine xg_t (xg_const) ?_
          refine xg_t (xg_iadd (u := u641) (v := 1) (z := u641 + 1) xnm0 xnm0 (by omega)) ?_
          refine xg_iastK (n := 4) (u := u641 + 1) h85_639 xnm0 xnm0 rfl (by omega) (fun w645 hr646 hb647 => ?_)
          refine xg_t (xg_aload (va := (2, 82)) rfl rfl) ?_
          refine xg_t (xg_dup rfl) ?_
          refine xg_t (xg_getf (va := (0, f82_616)) (hb647.get (by decide) h82_628) rfl) ?_
          refine xg_t (xg_const) ?_
          refine xg_t (xg_iadd (u := f82_616) (v := 1) (z := f82_616 + 1) xnm0 xnm0 (by omega)) ?_
          refine xg_putI (fl1 := [(2, 83), (2, 84), (0, f82_598), (0, f82_600), (0, f82_602), (0, f82_604), (0, f82_606), (0, f82_608), (0, f82_610), (0, f82_612), (0, f82_614), (2, 85), (2, 86), (2, 87), (0, f82_616 + 1), (2, 88), (2, 89), (2, 90), (2, 91), (2, 92), (2, 93), (2, 94), (4, f82_618), (4, f82_619), (0, f82_620), (2, 95), (2, 96), (2, 97), (2, 98), (2, 99), (2, 100), (2, 101), (2, 102), (0, f82_622), (2, 103), (2, 104), (2, 105), (2, 106), (2, 107), (2, 108), (2, 109), (0, f82_624), (0, f82_626), (2, 110), (2, 111), (2, 112), (2, 113)]) (hb647.get (by decide) h82_628) rfl rfl rfl (fun w648 hk649 hb650 => ?_)
          have hF651 : xFr [82, 85] w582 w648 := ((xFr.of (S := [82, 85]) hb647 (by decide)).tr (xFr.of (S := [82, 85]) hb650 (by decide)))
          have hA652 := FA_fr hF651 (by decide)
          have hf653 : fld w648 82 4 = f82_602 := fld_of hk649
          have hf654 : fld w648 82 5 = f82_604 := fld_of hk649
          have hf655 : fld w648 82 7 = f82_608 := fld_of hk649
          have hf656 : fld w648 82 10 = f82_614 := fld_of hk649
          have hf657 : fld w648 82 14 = f82_616 + 1 := fld_of hk649
          have hu658 : mu w648 = 2 * (fld w648 82 4 - fld w648 82 5) + min 1 (fld w648 82 7) := rfl
          have pq659 := pk594
          unfold PK PS at pq659
          have hM660 : ∀ s, s < 7 → s ≠ 4 → rwv w648 85 s = rwv w 85 s := fun s hs hn => (rwv_of (hr646.but hb650 (by decide)) hs).trans ((if_neg hn).trans (rwv_of h85_37 hs).symm)
          have hM661 : rwv w648 85 4 = u45 + 1 := (rwv_of (hr646.but hb650 (by decide)) (by decide)).trans ((if_pos rfl).trans (by omega))
          have hM662 : ∀ s, s < 7 → rwv w648 85 s ≤ rwv w 85 s + 1 := fun s hs => by
            by_cases z : s = 4
            · subst z; omega
            · rw [hM660 s hs z]; omega
          have hO663 : ∀ j, (j < 100 + 2 * u45 ∨ 102 + 2 * u45 ≤ j) → j < 140 → rwv w648 86 j = rwv w 86 j := fun j hj hl => (rwv_fr hF651 (by decide)).trans (os595 j hj hl)
          have hl665 : FA w582 ≠ 0 ∨ u45 < 20 := rg596
          have hN664 : FA w648 ≠ 0 ∨ 20 ≤ u45 ∨ True := Or.inr (Or.inr trivial)
          have hX666 : FA w648 ≠ 0 ∨ u45 < 20 := by omega
          have hD667 : FA w648 ≠ 0 ∨ (DATA w → DATA w648) := by
            by_cases z : FA w648 ≠ 0
            · exact Or.inl z
            · exact Or.inr (fun hd => hd.s4 hM660 hK48 hM661 (hX666.resolve_left z) hO663 ((hN664.resolve_left z).resolve_left (by have := hX666.resolve_left z; omega)))
          exact xg_e ⟨w648, ⟨rfl, rfl⟩, xMnv.up (S := [85, 82]) hI584 ((xFr.of (S := [85, 82]) hb647 (by decide)).tr (xFr.of (S := [85, 82]) hb650 (by decide))) (List.forall_mem_cons.mpr ⟨(show cpI 7 52 4294967295 (wget w648 85) from ⟨_, (hr646.but hb650 (by decide)), xrb (by omega) (hb640)⟩), List.forall_mem_cons.mpr ⟨(show cp82 (wget w648 82) from ⟨f82_598, f82_600, f82_602, f82_604, f82_606, f82_608, f82_610, f82_612, f82_614, f82_616 + 1, f82_618, f82_619, f82_620, f82_622, f82_624, f82_626, hk649, hb599, hb601, hb603, hb605, hb607, hb609, hb611, hb613, hb615, by omega, hb621, hb623, hb625, hb627, by omega⟩), fun _ h => absurd h List.not_mem_nil⟩⟩), ((hF542.tr (hF585.up (by decide))).tr ((xFr.of (S := [82, 83, 85, 86, 87]) hb647 (by decide)).tr (xFr.of (S := [82, 83, 85, 86, 87]) hb650 (by decide)))), ⟨fun h => by have := pq659.1 h; omega, (show fld w648 82 10 = 0 ∨ FA w648 ≠ 0 by omega), Or.inr ⟨by have := ms597; omega, by omega, hM662⟩, hD667⟩⟩
        · refine xg_t (xg_icT (u := f82_558) (v := 2) rfl xnm0 xnm0 (xj_neT hc581)) ?_
          refine xg_t (xg_blk (b := [(416, 1, 0, 0, 0, 0), (417, 3, 13, 140, 96, 183)]) rfl) ?_
          refine xg_t (xg_aload (va := (2, 82)) rfl rfl) ?_
          refine xg_cVv mX12_ends (vs := []) (rest := []) (cn1 := 0) (sl1 := 0) rfl (mEnds (hI541) hj544.2.2.2) rfl h82_578 rfl rfl rfl rfl rfl rfl (fun w668 hq669 => ?_)
          obtain ⟨hI670, hF671, hx672⟩ := hq669
          clear hb549 hb551 hb553 hb555 hb557 hb559 hb561 hb563 hb565 hb567 hb571 hb573 hb575 hb577
          obtain ⟨hv673, hv674, hv675, hv676⟩ := hx672
          have pk677 : PK w540 w668 := ⟨fun _ => hv673, by omega, by omega, Or.inr hv673⟩
          have pk678 : PK w w668 := PK.tr hj544 pk677
          have os679 : ∀ j, (j < 100 + 2 * u45 ∨ 102 + 2 * u45 ≤ j) → j < 140 → rwv w668 86 j = rwv w 86 j := fun j hj hl => (rwv_fr hF671 (by decide)).trans (hj545 j hj hl)
          have rg680 : FA w668 ≠ 0 ∨ u45 < 20 := hj547.imp_left pk677.1
          have ms681 : mu w668 < mu w := Nat.lt_of_le_of_lt pk677.2.1 hj546
          clear hj547
          refine xg_t (xg_blk (b := [(420, 1, 0, 0, 0, 0), (421, 3, 1, 12, 11, 17), (424, 1, 2, 1, 0, 0), (425, 1, 39, 0, 0, 0), (426, 1, 10, 0, 0, 0), (427, 1, 3, 1, 0, 0), (428, 1, 11, 0, 0, 0), (429, 1, 17, 0, 0, 0), (430, 1, 0, 0, 0, 0), (431, 1, 19, 0, 0, 0), (432, 3, 1, 12, 14, 212), (435, 1, 3, 1, 0, 0), (436, 1, 11, 0, 0, 0), (437, 3, 14, 12, 14, 212), (440, 1, 12, 0, 0, 0)]) rfl) ?_
          obtain ⟨f82_682, f82_684, f82_686, f82_688, f82_690, f82_692, f82_694, f82_696, f82_698, f82_700, f82_702, f82_703, f82_704, f82_706, f82_708, f82_710, h82_712, hb683, hb685, hb687, hb689, hb691, hb693, hb695, hb697, hb699, hb701, hb705, hb707, hb709, hb711, hb713⟩ := (hI670 82 (by decide) (by decide) : cp82 (wget w668 82))
          have hf714 : fld w668 82 4 = f82_686 := fld_of h82_712
          have hf715 : fld w668 82 5 = f82_688 := fld_of h82_712
          have hf716 : fld w668 82 7 = f82_692 := fld_of h82_712
          have hf717 : fld w668 82 10 = f82_698 := fld_of h82_712
          have hf718 : fld w668 82 14 = f82_700 := fld_of h82_712
          have hu719 : mu w668 = 2 * (fld w668 82 4 - fld w668 82 5) + min 1 (fld w668 82 7) := rfl
          have hf720 := pk678.2.2.1
          have hl721 : f82_700 ≤ 1000 := by omega
          refine xg_t (xg_aload (va := (2, 82)) rfl rfl) ?_
          refine xg_t (xg_getf (va := (2, 85)) h82_712 rfl) ?_
          refine xg_t (xg_iload (va := (0, 4)) rfl rfl) ?_
          refine xg_t (xg_dup2 rfl) ?_
          obtain ⟨g85_722, h85_723, hb724⟩ := (hI670 85 (by decide) (by decide) : cpI 7 52 4294967295 (wget w668 85))
          have h85_723 : xRow w668 85 7 52 g85_722 := h85_723
          refine xg_ialdB (n := 4) (B := 4294967295) h85_723 (hb724) xnm0 (by omega) (fun u725 hu726 he727 => ?_)
          have hl728 : u725 = u45 := by omega
          refine xg_t (xg_const) ?_
          refine xg_t (xg_iadd (u := u725) (v := 1) (z := u725 + 1) xnm0 xnm0 (by omega)) ?_
          refine xg_iastK (n := 4) (u := u725 + 1) h85_723 xnm0 xnm0 rfl (by omega) (fun w729 hr730 hb731 => ?_)
          refine xg_t (xg_aload (va := (2, 82)) rfl rfl) ?_
          refine xg_t (xg_dup rfl) ?_
          refine xg_t (xg_getf (va := (0, f82_700)) (hb731.get (by decide) h82_712) rfl) ?_
          refine xg_t (xg_const) ?_
          refine xg_t (xg_iadd (u := f82_700) (v := 1) (z := f82_700 + 1) xnm0 xnm0 (by omega)) ?_
          refine xg_putI (fl1 := [(2, 83), (2, 84), (0, f82_682), (0, f82_684), (0, f82_686), (0, f82_688), (0, f82_690), (0, f82_692), (0, f82_694), (0, f82_696), (0, f82_698), (2, 85), (2, 86), (2, 87), (0, f82_700 + 1), (2, 88), (2, 89), (2, 90), (2, 91), (2, 92), (2, 93), (2, 94), (4, f82_702), (4, f82_703), (0, f82_704), (2, 95), (2, 96), (2, 97), (2, 98), (2, 99), (2, 100), (2, 101), (2, 102), (0, f82_706), (2, 103), (2, 104), (2, 105), (2, 106), (2, 107), (2, 108), (2, 109), (0, f82_708), (0, f82_710), (2, 110), (2, 111), (2, 112), (2, 113)]) (hb731.get (by decide) h82_712) rfl rfl rfl (fun w732 hk733 hb734 => ?_)
          have hF735 : xFr [82, 85] w668 w732 := ((xFr.of (S := [82, 85]) hb731 (by decide)).tr (xFr.of (S := [82, 85]) hb734 (by decide)))
          have hA736 := FA_fr hF735 (by decide)
          have hf737 : fld w732 82 4 = f82_686 := fld_of hk733
          have hf738 : fld w732 82 5 = f82_688 := fld_of hk733
          have hf739 : fld w732 82 7 = f82_692 := fld_of hk733
          have hf740 : fld w732 82 10 = f82_698 := fld_of hk733
          have hf741 : fld w732 82 14 = f82_700 + 1 := fld_of hk733
          have hu742 : mu w732 = 2 * (fld w732 82 4 - fld w732 82 5) + min 1 (fld w732 82 7) := rfl
          have pq743 := pk678
          unfold PK PS at pq743
          have hM744 : ∀ s, s < 7 → s ≠ 4 → rwv w732 85 s = rwv w 85 s := fun s hs hn => (rwv_of (hr730.but hb734 (by decide)) hs).trans ((if_neg hn).trans (rwv_of h85_37 hs).symm)
          have hM745 : rwv w732 85 4 = u45 + 1 := (rwv_of (hr730.but hb734 (by decide)) (by decide)).trans ((if_pos rfl).trans (by omega))
          have hM746 : ∀ s, s < 7 → rwv w732 85 s ≤ rwv w 85 s + 1 := fun s hs => by
            by_cases z : s = 4
            · subst z; omega
            · rw [hM744 s hs z]; omega
          have hO747 : ∀ j, (j < 100 + 2 * u45 ∨ 102 + 2 * u45 ≤ j) → j < 140 → rwv w732 86 j = rwv w 86 j := fun j hj hl => (rwv_fr hF735 (by decide)).trans (os679 j hj hl)
          have hl749 : FA w668 ≠ 0 ∨ u45 < 20 := rg680
          have hN748 : FA w732 ≠ 0 ∨ 20 ≤ u45 ∨ True := Or.inr (Or.inr trivial)
          have hX750 : FA w732 ≠ 0 ∨ u45 < 20 := by omega
          have hD751 : FA w732 ≠ 0 ∨ (DATA w → DATA w732) := by
            by_cases z : FA w732 ≠ 0
            · exact Or.inl z
            · exact Or.inr (fun hd => hd.s4 hM744 hK48 hM745 (hX750.resolve_left z) hO747 ((hN748.resolve_left z).resolve_left (by have := hX750.resolve_left z; omega)))
          exact xg_e ⟨w732, ⟨rfl, rfl⟩, xMnv.up (S := [85, 82]) hI670 ((xFr.of (S := [85, 82]) hb731 (by decide)).tr (xFr.of (S := [85, 82]) hb734 (by decide))) (List.forall_mem_cons.mpr ⟨(show cpI 7 52 4294967295 (wget w732 85) from ⟨_, (hr730.but hb734 (by decide)), xrb (by omega) (hb724)⟩), List.forall_mem_cons.mpr ⟨(show cp82 (wget w732 82) from ⟨f82_682, f82_684, f82_686, f82_688, f82_690, f82_692, f82_694, f82_696, f82_698, f82_700 + 1, f82_702, f82_703, f82_704, f82_706, f82_708, f82_710, hk733, hb683, hb685, hb687, hb689, hb691, hb693, hb695, hb697, hb699, by omega, hb705, hb707, hb709, hb711, by omega⟩), fun _ h => absurd h List.not_mem_nil⟩⟩), ((hF542.tr (hF671.up (by decide))).tr ((xFr.of (S := [82, 83, 85, 86, 87]) hb731 (by decide)).tr (xFr.of (S := [82, 83, 85, 86, 87]) hb734 (by decide)))), ⟨fun h => by have := pq743.1 h; omega, (show fld w732 82 10 = 0 ∨ FA w732 ≠ 0 by omega), Or.inr ⟨by have := ms681; omega, by omega, hM746⟩, hD751⟩⟩
      · refine xg_t (xg_ifT (u := f82_564) rfl xnm0 (xj_neT hc580)) ?_
        refine xg_t (xg_blk (b := [(416, 1, 0, 0, 0, 0), (417, 3, 13, 140, 96, 183)]) rfl) ?_
        refine xg_t (xg_aload (va := (2, 82)) rfl rfl) ?_
        refine xg_cVv mX12_ends (vs := []) (rest := []) (cn1 := 0) (sl1 := 0) rfl (mEnds (hI541) hj544.2.2.2) rfl h82_578 rfl rfl rfl rfl rfl rfl (fun w752 hq753 => ?_)
        obtain ⟨hI754, hF755, hx756⟩ := hq753
        clear hb549 hb551 hb553 hb555 hb557 hb559 hb561 hb563 hb565 hb567 hb571 hb573 hb575 hb577
        obtain ⟨hv757, hv758, hv759, hv760⟩ := hx756
        have pk761 : PK w540 w752 := ⟨fun _ => hv757, by omega, by omega, Or.inr hv757⟩
        have pk762 : PK w w752 := PK.tr hj544 pk761
        have os763 : ∀ j, (j < 100 + 2 * u45 ∨ 102 + 2 * u45 ≤ j) → j < 140 → rwv w752 86 j = rwv w 86 j := fun j hj hl => (rwv_fr hF755 (by decide)).trans (hj545 j hj hl)
        have rg764 : FA w752 ≠ 0 ∨ u45 < 20 := hj547.imp_left pk761.1
        have ms765 : mu w752 < mu w := Nat.lt_of_le_of_lt pk761.2.1 hj546
        clear hj547
        refine xg_t (xg_blk (b := [(420, 1, 0, 0, 0, 0), (421, 3, 1, 12, 11, 17), (424, 1, 2, 1, 0, 0), (425, 1, 39, 0, 0, 0), (426, 1, 10, 0, 0, 0), (427, 1, 3, 1, 0, 0), (428, 1, 11, 0, 0, 0), (429, 1, 17, 0, 0, 0), (430, 1, 0, 0, 0, 0), (431, 1, 19, 0, 0, 0), (432, 3, 1, 12, 14, 212), (435, 1, 3, 1, 0, 0), (436, 1, 11, 0, 0, 0), (437, 3, 14, 12, 14, 212), (440, 1, 12, 0, 0, 0)]) rfl) ?_
        obtain ⟨f82_766, f82_768, f82_770, f82_772, f82_774, f82_776, f82_778, f82_780, f82_782, f82_784, f82_786, f82_787, f82_788, f82_790, f82_792, f82_794, h82_796, hb767, hb769, hb771, hb773, hb775, hb777, hb779, hb781, hb783, hb785, hb789, hb791, hb793, hb795, hb797⟩ := (hI754 82 (by decide) (by decide) : cp82 (wget w752 82))
        have hf798 : fld w752 82 4 = f82_770 := fld_of h82_796
        have hf799 : fld w752 82 5 = f82_772 := fld_of h82_796
        have hf800 : fld w752 82 7 = f82_776 := fld_of h82_796
        have hf801 : fld w752 82 10 = f82_782 := fld_of h82_796
        have hf802 : fld w752 82 14 = f82_784 := fld_of h82_796
        have hu803 : mu w752 = 2 * (fld w752 82 4 - fld w752 82 5) + min 1 (fld w752 82 7) := rfl
        have hf804 := pk762.2.2.1
        have hl805 : f82_784 ≤ 1000 := by omega
        refine xg_t (xg_aload (va := (2, 82)) rfl rfl) ?_
        refine xg_t (xg_getf (va := (2, 85)) h82_796 rfl) ?_
        refine xg_t (xg_iload (va := (0, 4)) rfl rfl) ?_
        refine xg_t (xg_dup2 rfl) ?_
        obtain ⟨g85_806, h85_807, hb808⟩ := (hI754 85 (by decide) (by decide) : cpI 7 52 4294967295 (wget w752 85))
        have h85_807 : xRow w752 85 7 52 g85_806 := h85_807
        refine xg_ialdB (n := 4) (B := 4294967295) h85_807 (hb808) xnm0 (by omega) (fun u809 hu810 he811 => ?_)
        have hl812 : u809 = u45 := by omega
        refine xg_t (xg_const) ?_
        refine xg_t (xg_iadd (u := u809) (v := 1) (z := u809 + 1) xnm0 xnm0 (by omega)) ?_
        refine xg_iastK (n := 4) (u := u809 + 1) h85_807 xnm0 xnm0 rfl (by omega) (fun w813 hr814 hb815 => ?_)
        refine xg_t (xg_aload (va := (2, 82)) rfl rfl) ?_
        refine xg_t (xg_dup rfl) ?_
        refine xg_t (xg_getf (va := (0, f82_784)) (hb815.get (by decide) h82_796) rfl) ?_
        refine xg_t (xg_const) ?_
        refine xg_t (xg_iadd (u := f82_784) (v := 1) (z := f82_784 + 1) xnm0 xnm0 (by omega)) ?_
        refine xg_putI (fl1 := [(2, 83), (2, 84), (0, f82_766), (0, f82_768), (0, f82_770), (0, f82_772), (0, f82_774), (0, f82_776), (0, f82_778), (0, f82_780), (0, f82_782), (2, 85), (2, 86), (2, 87), (0, f82_784 + 1), (2, 88), (2, 89), (2, 90), (2, 91), (2, 92), (2, 93), (2, 94), (4, f82_786), (4, f82_787), (0, f82_788), (2, 95), (2, 96), (2, 97), (2, 98), (2, 99), (2, 100), (2, 101), (2, 102), (0, f82_790), (2, 103), (2, 104), (2, 105), (2, 106), (2, 107), (2, 108), (2, 109), (0, f82_792), (0, f82_794), (2, 110), (2, 111), (2, 112), (2, 113)]) (hb815.get (by decide) h82_796) rfl rfl rfl (fun w816 hk817 hb818 => ?_)
        have hF819 : xFr [82, 85] w752 w816 := ((xFr.of (S := [82, 85]) hb815 (by decide)).tr (xFr.of (S := [82, 85]) hb818 (by decide)))
        have hA820 := FA_fr hF819 (by decide)
        have hf821 : fld w816 82 4 = f82_770 := fld_of hk817
        have hf822 : fld w816 82 5 = f82_772 := fld_of hk817
        have hf823 : fld w816 82 7 = f82_776 := fld_of hk817
        have hf824 : fld w816 82 10 = f82_782 := fld_of hk817
        have hf825 : fld w816 82 14 = f82_784 + 1 := fld_of hk817
        have hu826 : mu w816 = 2 * (fld w816 82 4 - fld w816 82 5) + min 1 (fld w816 82 7) := rfl
        have pq827 := pk762
        unfold PK PS at pq827
        have hM828 : ∀ s, s < 7 → s ≠ 4 → rwv w816 85 s = rwv w 85 s := fun s hs hn => (rwv_of (hr814.but hb818 (by decide)) hs).trans ((if_neg hn).trans (rwv_of h85_37 hs).symm)
        have hM829 : rwv w816 85 4 = u45 + 1 := (rwv_of (hr814.but hb818 (by decide)) (by decide)).trans ((if_pos rfl).trans (by omega))
        have hM830 : ∀ s, s < 7 → rwv w816 85 s ≤ rwv w 85 s + 1 := fun s hs => by
          by_cases z : s = 4
          · subst z; omega
          · rw [hM828 s hs z]; omega
        have hO831 : ∀ j, (j < 100 + 2 * u45 ∨ 102 + 2 * u45 ≤ j) → j < 140 → rwv w816 86 j = rwv w 86 j := fun j hj hl => (rwv_fr hF819 (by decide)).trans (os763 j hj hl)
        have hl833 : FA w752 ≠ 0 ∨ u45 < 20 := rg764
        have hN832 : FA w816 ≠ 0 ∨ 20 ≤ u45 ∨ True := Or.inr (Or.inr trivial)
        have hX834 : FA w816 ≠ 0 ∨ u45 < 20 := by omega
        have hD835 : FA w816 ≠ 0 ∨ (DATA w → DATA w816) := by
          by_cases z : FA w816 ≠ 0
          · exact Or.inl z
          · exact Or.inr (fun hd => hd.s4 hM828 hK48 hM829 (hX834.resolve_left z) hO831 ((hN832.resolve_left z).resolve_left (by have := hX834.resolve_left z; omega)))
        exact xg_e ⟨w816, ⟨rfl, rfl⟩, xMnv.up (S := [85, 82]) hI754 ((xFr.of (S := [85, 82]) hb815 (by decide)).tr (xFr.of (S := [85, 82]) hb818 (by decide))) (List.forall_mem_cons.mpr ⟨(show cpI 7 52 4294967295 (wget w816 85) from ⟨_, (hr814.but hb818 (by decide)), xrb (by omega) (hb808)⟩), List.forall_mem_cons.mpr ⟨(show cp82 (wget w816 82) from ⟨f82_766, f82_768, f82_770, f82_772, f82_774, f82_776, f82_778, f82_780, f82_782, f82_784 + 1, f82_786, f82_787, f82_788, f82_790, f82_792, f82_794, hk817, hb767, hb769, hb771, hb773, hb775, hb777, hb779, hb781, hb783, by omega, hb789, hb791, hb793, hb795, by omega⟩), fun _ h => absurd h List.not_mem_nil⟩⟩), ((hF542.tr (hF755.up (by decide))).tr ((xFr.of (S := [82, 83, 85, 86, 87]) hb815 (by decide)).tr (xFr.of (S := [82, 83, 85, 86, 87]) hb818 (by decide)))), ⟨fun h => by have := pq827.1 h; omega, (show fld w816 82 10 = 0 ∨ FA w816 ≠ 0 by omega), Or.inr ⟨by have := ms765; omega, by omega, hM830⟩, hD835⟩⟩
    refine xg_t (xg_iload (va := (0, 4)) rfl rfl) ?_
    refine xg_t (xg_swt (ks := [(0, 108), (1, 116), (2, 180), (3, 221), (4, 273), (5, 326)]) (u := 4) (z := 273) rfl rfl rfl xnm0 (xsw_n (by omega) (xsw_n (by omega) (xsw_n (by omega) (xsw_n (by omega) (xsw_y rfl)))))) ?_
    refine xg_t (xg_blk (b := [(273, 1, 2, 3, 0, 0), (274, 2, 4, 20, 0, 0), (276, 3, 6, 286, 3, 0), (279, 1, 0, 0, 0, 0), (280, 3, 1, 12, 13, 23), (283, 1, 2, 3, 0, 0), (284, 1, 2, 2, 0, 0), (285, 1, 17, 0, 0, 0)]) rfl) ?_
    refine xg_t (xg_iload (va := (0, u45)) rfl rfl) ?_
    refine xg_t (xg_bip) ?_
    refine xg_t (xg_icT (u := u45) (v := 20) rfl xnm0 xnm0 (xj_geT (by omega) (by omega))) ?_
    refine xg_t (xg_blk (b := [(286, 1, 3, 0, 0, 0), (287, 2, 15, 4, 0, 0)]) rfl) ?_
    refine xg_t (xg_const) ?_
    refine xg_t (xg_istore (l1 := [(3, (0, u45)), (2, (0, at_)), (1, (0, 4)), (0, (2, 82))]) rfl rfl rfl) ?_
    refine xg_t (xg_blk (b := [(289, 2, 2, 4, 0, 0), (291, 1, 3, 2, 0, 0), (292, 3, 6, 323, 3, 0), (295, 1, 0, 0, 0, 0), (296, 1, 2, 1, 0, 0), (297, 1, 2, 3, 0, 0), (298, 2, 4, 100, 0, 0), (300, 1, 3, 2, 0, 0), (301, 1, 2, 3, 0, 0), (302, 1, 16, 0, 0, 0), (303, 1, 11, 0, 0, 0), (304, 2, 2, 4, 0, 0), (306, 1, 11, 0, 0, 0), (307, 1, 0, 0, 0, 0), (308, 1, 3, 0, 0, 0), (309, 2, 4, 9, 0, 0), (311, 3, 13, 199, 96, 196), (314, 3, 13, 211, 96, 200), (317, 3, 9, 4, 1, 0), (320, 3, 8, 289, 0, 0)]) rfl) ?_
    refine xg_t (xg_iload (va := (0, 0)) rfl rfl) ?_
    refine xg_t (xg_const) ?_
    refine xg_t (xg_icF (u := 0) (v := 2) rfl xnm0 xnm0 (by decide)) ?_
    refine xg_t (xg_aload (va := (2, 82)) rfl rfl) ?_
    refine xg_t (xg_iload (va := (0, 4)) rfl rfl) ?_
    refine xg_t (xg_iload (va := (0, u45)) rfl rfl) ?_
    refine xg_t (xg_bip) ?_
    refine xg_t (xg_const) ?_
    refine xg_t (xg_iload (va := (0, u45)) rfl rfl) ?_
    refine xg_t (xg_imul (u := 2) (v := u45) (z := 2 * u45) xnm0 xnm0 (by omega)) ?_
    refine xg_t (xg_iadd (u := 100) (v := 2 * u45) (z := 100 + (2 * u45)) xnm0 xnm0 (by omega)) ?_
    refine xg_t (xg_iload (va := (0, 0)) rfl rfl) ?_
    refine xg_t (xg_iadd (u := 100 + (2 * u45)) (v := 0) (z := (100 + (2 * u45)) + 0) xnm0 xnm0 (by omega)) ?_
    refine xg_t (xg_aload (va := (2, 82)) rfl rfl) ?_
    refine xg_t (xg_const) ?_
    refine xg_t (xg_bip) ?_
    obtain ⟨f82_836, f82_838, f82_840, f82_842, f82_844, f82_846, f82_848, f82_850, f82_852, f82_854, f82_856, f82_857, f82_858, f82_860, f82_862, f82_864, h82_866, hb837, hb839, hb841, hb843, hb845, hb847, hb849, hb851, hb853, hb855, hb859, hb861, hb863, hb865, hb867⟩ := (hI525 82 (by decide) (by decide) : cp82 (wget w523 82))
    refine xg_cVi mX12_numbered (vs := [(0, 0), (0, 9)]) (rest := [(0, (100 + (2 * u45)) + 0), (0, u45), (0, 4), (2, 82)]) (cn1 := 0) (sl1 := 0) rfl (mNumbered (hI525) (by omega) (by omega) pk535.2.2.2) rfl h82_866 rfl rfl rfl rfl rfl rfl (fun n872 w868 hq869 => ?_)
    obtain ⟨hn873, hI870, hF871⟩ := hq869
    clear hb837 hb839 hb841 hb843 hb845 hb847 hb849 hb851 hb853 hb855 hb859 hb861 hb863 hb865
    obtain ⟨hn874, hn875, hn876⟩ := hn873
    have pk877 : PK w w868 := PK.tr pk535 hn875
    have os878 : ∀ j, (j < 100 + 2 * u45 ∨ 102 + 2 * u45 ≤ j) → j < 140 → rwv w868 86 j = rwv w 86 j := fun j hj hl => (rwv_fr hF871 (by decide)).trans (os536 j hj hl)
    have rg879 : FA w868 ≠ 0 ∨ 0 = 1 := rg537.imp_left hn875.1
    have ms880 : mu w868 < mu w := Nat.lt_of_le_of_lt hn875.2.1 ms538
    clear rg537
    obtain ⟨f82_881, f82_883, f82_885, f82_887, f82_889, f82_891, f82_893, f82_895, f82_897, f82_899, f82_901, f82_902, f82_903, f82_905, f82_907, f82_909, h82_911, hb882, hb884, hb886, hb888, hb890, hb892, hb894, hb896, hb898, hb900, hb904, hb906, hb908, hb910, hb912⟩ := (hI870 82 (by decide) (by decide) : cp82 (wget w868 82))
    refine xg_cVv mX12_puts (vs := [(0, 4), (0, u45), (0, (100 + (2 * u45)) + 0), (0, n872)]) (rest := []) (cn1 := 0) (sl1 := 0) rfl (mPuts4 (hI870) (by omega) (by omega) (by omega) (fun _ => by omega)) rfl h82_911 rfl rfl rfl rfl rfl rfl (fun w913 hq914 => ?_)
    obtain ⟨hI915, hF916, hx917⟩ := hq914
    obtain ⟨hp918, hp919⟩ := hx917
    have pk920 : PK w w913 := PK.tr pk877 (PK.fr hF916 (by decide) (by decide) pk877.2.2.2)
    have os921 : ∀ j, (j < 100 + 2 * u45 ∨ 102 + 2 * u45 ≤ j) → j < 140 → rwv w913 86 j = rwv w 86 j := fun j hj hl => (hp919 j (by omega) hl).trans (os878 j hj hl)
    have rg922 : FA w913 ≠ 0 ∨ 0 = 1 := rg879.imp_left (PK.fr hF916 (by decide) (by decide) pk877.2.2.2).1
    have rg923 : FA w913 ≠ 0 ∨ (0 ≤ n872 ∧ n872 ≤ 9) := hn876.imp_left (PK.fr hF916 (by decide) (by decide) pk877.2.2.2).1
    have ms924 : mu w913 < mu w := Nat.lt_of_le_of_lt (PK.fr hF916 (by decide) (by decide) pk877.2.2.2).2.1 ms880
    clear rg879 hn876
    refine xg_t (xg_iinc (u := 0) (z := 1) (l1 := [(3, (0, u45)), (2, (0, at_)), (1, (0, 4)), (0, (2, 82))]) rfl rfl (by decide) rfl) ?_
    refine xg_t (xg_goto) ?_
    refine xg_t (xg_blk (b := [(289, 2, 2, 4, 0, 0), (291, 1, 3, 2, 0, 0), (292, 3, 6, 323, 3, 0), (295, 1, 0, 0, 0, 0), (296, 1, 2, 1, 0, 0), (297, 1, 2, 3, 0, 0), (298, 2, 4, 100, 0, 0), (300, 1, 3, 2, 0, 0), (301, 1, 2, 3, 0, 0), (302, 1, 16, 0, 0, 0), (303, 1, 11, 0, 0, 0), (304, 2, 2, 4, 0, 0), (306, 1, 11, 0, 0, 0), (307, 1, 0, 0, 0, 0), (308, 1, 3, 0, 0, 0), (309, 2, 4, 9, 0, 0), (311, 3, 13, 199, 96, 196), (314, 3, 13, 211, 96, 200), (317, 3, 9, 4, 1, 0), (320, 3, 8, 289, 0, 0)]) rfl) ?_
    refine xg_t (xg_iload (va := (0, 1)) rfl rfl) ?_
    refine xg_t (xg_const) ?_
    refine xg_t (xg_icF (u := 1) (v := 2) rfl xnm0 xnm0 (by decide)) ?_
    refine xg_t (xg_aload (va := (2, 82)) rfl rfl) ?_
    refine xg_t (xg_iload (va := (0, 4)) rfl rfl) ?_
    refine xg_t (xg_iload (va := (0, u45)) rfl rfl) ?_
    refine xg_t (xg_bip) ?_
    refine xg_t (xg_const) ?_
    refine xg_t (xg_iload (va := (0, u45)) rfl rfl) ?_
    refine xg_t (xg_imul (u := 2) (v := u45) (z := 2 * u45) xnm0 xnm0 (by omega)) ?_
    refine xg_t (xg_iadd (u := 100) (v := 2 * u45) (z := 100 + (2 * u45)) xnm0 xnm0 (by omega)) ?_
    refine xg_t (xg_iload (va := (0, 1)) rfl rfl) ?_
    refine xg_t (xg_iadd (u := 100 + (2 * u45)) (v := 1) (z := (100 + (2 * u45)) + 1) xnm0 xnm0 (by omega)) ?_
    refine xg_t (xg_aload (va := (2, 82)) rfl rfl) ?_
    refine xg_t (xg_const) ?_
    refine xg_t (xg_bip) ?_
    refine xg_cVi mX12_numbered (vs := [(0, 0), (0, 9)]) (rest := [(0, (100 + (2 * u45)) + 1), (0, u45), (0, 4), (2, 82)]) (cn1 := 0) (sl1 := 0) rfl (mNumbered (hI915) (by omega) (by omega) pk920.2.2.2) rfl (hF916.get (by decide) h82_911) rfl rfl rfl rfl rfl rfl (fun n929 w925 hq926 => ?_)
    obtain ⟨hn930, hI927, hF928⟩ := hq926
    clear hb882 hb884 hb886 hb888 hb890 hb892 hb894 hb896 hb898 hb900 hb904 hb906 hb908 hb910
    obtain ⟨hn931, hn932, hn933⟩ := hn930
    have pk934 : PK w w925 := PK.tr pk920 hn932
    have os935 : ∀ j, (j < 100 + 2 * u45 ∨ 102 + 2 * u45 ≤ j) → j < 140 → rwv w925 86 j = rwv w 86 j := fun j hj hl => (rwv_fr hF928 (by decide)).trans (os921 j hj hl)
    have ix936 : u45 < 20 → rwv w925 86 ((100 + (2 * u45)) + 0) = n872 := fun h => (rwv_fr hF928 (by decide)).trans (hp918 h)
    have rg937 : FA w925 ≠ 0 ∨ 0 = 1 := rg922.imp_left hn932.1
    have rg938 : FA w925 ≠ 0 ∨ (0 ≤ n872 ∧ n872 ≤ 9) := rg923.imp_left hn932.1
    have ms939 : mu w925 < mu w := Nat.lt_of_le_of_lt hn932.2.1 ms924
    clear hp918 rg922 rg923
    obtain ⟨f82_940, f82_942, f82_944, f82_946, f82_948, f82_950, f82_952, f82_954, f82_956, f82_958, f82_960, f82_961, f82_962, f82_964, f82_966, f82_968, h82_970, hb941, hb943, hb945, hb947, hb949, hb951, hb953, hb955, hb957, hb959, hb963, hb965, hb967, hb969, hb971⟩ := (hI927 82 (by decide) (by decide) : cp82 (wget w925 82))
    refine xg_cVv mX12_puts (vs := [(0, 4), (0, u45), (0, (100 + (2 * u45)) + 1), (0, n929)]) (rest := []) (cn1 := 0) (sl1 := 0) rfl (mPuts4 (hI927) (by omega) (by omega) (by omega) (fun _ => by omega)) rfl h82_970 rfl rfl rfl rfl rfl rfl (fun w972 hq973 => ?_)
    obtain ⟨hI974, hF975, hx976⟩ := hq973
    obtain ⟨hp977, hp978⟩ := hx976
    have pk979 : PK w w972 := PK.tr pk934 (PK.fr hF975 (by decide) (by decide) pk934.2.2.2)
    have os980 : ∀ j, (j < 100 + 2 * u45 ∨ 102 + 2 * u45 ≤ j) → j < 140 → rwv w972 86 j = rwv w 86 j := fun j hj hl => (hp978 j (by omega) hl).trans (os935 j hj hl)
    have ix981 : u45 < 20 → rwv w972 86 ((100 + (2 * u45)) + 0) = n872 := fun h => (hp978 _ (by omega) (by omega)).trans (ix936 h)
    have rg982 : FA w972 ≠ 0 ∨ 0 = 1 := rg937.imp_left (PK.fr hF975 (by decide) (by decide) pk934.2.2.2).1
    have rg983 : FA w972 ≠ 0 ∨ (0 ≤ n872 ∧ n872 ≤ 9) := rg938.imp_left (PK.fr hF975 (by decide) (by decide) pk934.2.2.2).1
    have rg984 : FA w972 ≠ 0 ∨ (0 ≤ n929 ∧ n929 ≤ 9) := hn933.imp_left (PK.fr hF975 (by decide) (by decide) pk934.2.2.2).1
    have ms985 : mu w972 < mu w := Nat.lt_of_le_of_lt (PK.fr hF975 (by decide) (by decide) pk934.2.2.2).2.1 ms939
    clear ix936 rg937 rg938 hn933
    refine xg_t (xg_iinc (u := 1) (z := 2) (l1 := [(3, (0, u45)), (2, (0, at_)), (1, (0, 4)), (0, (2, 82))]) rfl rfl (by decide) rfl) ?_
    refine xg_t (xg_goto) ?_
    refine xg_t (xg_blk (b := [(289, 2, 2, 4, 0, 0), (291, 1, 3, 2, 0, 0), (292, 3, 6, 323, 3, 0), (295, 1, 0, 0, 0, 0), (296, 1, 2, 1, 0, 0), (297, 1, 2, 3, 0, 0), (298, 2, 4, 100, 0, 0), (300, 1, 3, 2, 0, 0), (301, 1, 2, 3, 0, 0), (302, 1, 16, 0, 0, 0), (303, 1, 11, 0, 0, 0), (304, 2, 2, 4, 0, 0), (306, 1, 11, 0, 0, 0), (307, 1, 0, 0, 0, 0), (308, 1, 3, 0, 0, 0), (309, 2, 4, 9, 0, 0), (311, 3, 13, 199, 96, 196), (314, 3, 13, 211, 96, 200), (317, 3, 9, 4, 1, 0), (320, 3, 8, 289, 0, 0)]) rfl) ?_
    refine xg_t (xg_iload (va := (0, 2)) rfl rfl) ?_
    refine xg_t (xg_const) ?_
    refine xg_t (xg_icT (u := 2) (v := 2) rfl xnm0 xnm0 (by decide)) ?_
    refine xg_t (xg_blk (b := [(323, 3, 8, 394, 0, 0)]) rfl) ?_
    refine xg_t (xg_goto) ?_
    refine xg_t (xg_drop (l1 := [(0, (2, 82)), (1, (0, 4)), (3, (0, u45))]) (List.forall_mem_cons.mpr ⟨List.mem_cons_of_mem _ (List.mem_cons_of_mem _ (List.mem_cons_of_mem _ (List.mem_cons_of_mem _ (List.mem_cons_self)))), List.forall_mem_cons.mpr ⟨List.mem_cons_of_mem _ (List.mem_cons_of_mem _ (List.mem_cons_of_mem _ (List.mem_cons_self))), List.forall_mem_cons.mpr ⟨List.mem_cons_of_mem _ (List.mem_cons_self), fun _ h => absurd h List.not_mem_nil⟩⟩⟩)) ?_
    have hX986 : FA w972 ≠ 0 ∨ u45 < 20 := Or.inl (by have q := rg982; omega)
    exact jn539 w972 (hI974) (((((((hF517.up (by decide)).tr (hF526.up (by decide))).tr (hF871.up (by decide))).tr (hF916.up (by decide))).tr (hF928.up (by decide))).tr (hF975.up (by decide)))) (⟨pk979, os980, ms985, hX986⟩)
end XMB
