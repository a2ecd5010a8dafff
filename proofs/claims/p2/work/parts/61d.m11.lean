/-! the model: lines of films, more -/
section XMB
variable {d : Nat} {w : List (List xE)} {bd : List (Nat × Nat)} {fc : List (Nat × Nat × Bool)} {rr : Nat × Nat}
set_option maxHeartbeats 60000000 in
theorem mALineS4 {at_ : Nat} (hI : xMnv w) (hps : PS w) (hmb : ∀ s, s < 7 → rwv w 85 s ≤ 1000) (hln : fld w 82 14 ≤ 1000) (h7 : fld w 82 7 = 3) (hat : at_ ≤ 4294967295) : xTo (d + 7) mX12_aLine (43, [], [(2, (0, at_)), (1, (0, 4)), (0, (2, 82))], [], (w, bd, fc, 0, 0, rr)) (fun φ => ∃ w', xEnd 0 [] (w', bd, fc, 0, 0, rr) φ ∧ xMnv w' ∧ xFr [82, 83, 85, 86, 87] w w' ∧ ((FA w ≠ 0 → FA w' ≠ 0) ∧ PS w' ∧ ((fld w' 82 10 = 1 ∧ mu w' = mu w ∧ fld w' 82 14 = fld w 82 14 ∧ ∀ s, s < 7 → rwv w' 85 s = rwv w 85 s) ∨ (mu w' < mu w ∧ fld w' 82 14 = fld w 82 14 + 1 ∧ ∀ s, s < 7 → rwv w' 85 s ≤ rwv w 85 s + 1)) ∧ (FA w' ≠ 0 ∨ (DATA w → DATA w')) ∧ K83 w w')) := by
  obtain ⟨f82_1, f82_3, f82_5, f82_7, f82_9, f82_11, f82_13, f82_15, f82_17, f82_19, f82_21, f82_22, f82_23, f82_25, f82_27, f82_29, h82_31, hb2, hb4, hb6, hb8, hb10, hb12, hb14, hb16, hb18, hb20, hb24, hb26, hb28, hb30, hb32⟩ := (hI 82 (by decide) (by decide) : cp82 (wget w 82))
  replace hb4 := xHid.of hb4
  replace hb10 := xHid.of hb10
  replace hb14 := xHid.of hb14
  replace hb16 := xHid.of hb16
  replace hb20 := xHid.of hb20
  replace hb24 := xHid.of hb24
  replace hb26 := xHid.of hb26
  replace hb28 := xHid.of hb28
  replace hb30 := xHid.of hb30
  have hf33 : fld w 82 7 = f82_11 := fld_of h82_31
  have hf34 : fld w 82 10 = f82_17 := fld_of h82_31
  have hf35 : fld w 82 14 = f82_19 := fld_of h82_31
  have hps_ : fld w 82 10 = 0 ∨ FA w ≠ 0 := hps
  obtain ⟨g85_36, h85_37, hb38⟩ := (hI 85 (by decide) (by decide) : cpI 7 52 4294967295 (wget w 85))
  have h85_37 : xRow w 85 7 52 g85_36 := h85_37
  obtain ⟨g86_39, h86_40, hb41⟩ := (hI 86 (by decide) (by decide) : cpI 140 53 4294967295 (wget w 86))
  have h86_40 : xRow w 86 140 53 g86_39 := h86_40
  obtain ⟨g87_42, h87_43, hb44⟩ := (hI 87 (by decide) (by decide) : cpI 20 54 4294967295 (wget w 87))
  have h87_43 : xRow w 87 20 54 g87_42 := h87_43
  refine xg_t (xg_blk (b := [(43, 1, 0, 0, 0, 0), (44, 3, 1, 12, 11, 17), (47, 1, 2, 1, 0, 0), (48, 1, 10, 0, 0, 0), (49, 1, 15, 3, 0, 0), (50, 1, 2, 3, 0, 0), (51, 1, 2, 1, 0, 0), (52, 3, 13, 194, 98, 193), (55, 3, 6, 64, 2, 0), (58, 1, 0, 0, 0, 0), (59, 1, 3, 3, 0, 0), (60, 1, 2, 2, 0, 0), (61, 3, 13, 115, 96, 186)]) rfl) ?_
  refine xg_t (xg_aload (va := (2, 82)) rfl rfl) ?_
  refine xg_t (xg_getf (va := (2, 85)) h82_31 rfl) ?_
  refine xg_t (xg_iload (va := (0, 4)) rfl rfl) ?_
  refine xg_ialdB (n := 4) (B := 4294967295) h85_37 (hb38) xnm0 (by omega) (fun u45 hu46 he47 => ?_)
  have hK48 : rwv w 85 4 = u45 := (rwv_of h85_37 (by decide)).trans he47
  have hm49 := hmb 4 (by decide)
  have hl50 : u45 ≤ 1000 := by omega
  refine xg_t (xg_istore (l1 := [(2, (0, at_)), (1, (0, 4)), (0, (2, 82))]) rfl rfl rfl) ?_
  refine xg_t (xg_iload (va := (0, u45)) rfl rfl) ?_
  refine xg_t (xg_iload (va := (0, 4)) rfl rfl) ?_
  refine xg_t (xg_cSr mX12_mostOf (vs := [(0, 4)]) (rest := [(0, u45)]) (rs := [(0, 20), (0, u45)]) (cn1 := 0) (sl1 := 0) rfl (mMostR4) rfl rfl rfl rfl rfl rfl rfl rfl) ?_
  by_cases hc51 : u45 < 20
  · refine xg_t (xg_icT (u := u45) (v := 20) rfl xnm0 xnm0 (xj_ltT hc51 (by omega))) ?_
    refine xg_t (xg_blk (b := [(64, 1, 0, 0, 0, 0), (65, 3, 13, 110, 96, 190), (68, 1, 2, 1, 0, 0), (69, 39, 33, 362, 0, 9)]) rfl) ?_
    refine xg_t (xg_aload (va := (2, 82)) rfl rfl) ?_
    refine xg_cVv mX12_advance (vs := []) (rest := []) (cn1 := 0) (sl1 := 0) rfl (mAdvance (hI)) rfl h82_31 rfl rfl rfl rfl rfl rfl (fun w52 hq53 => ?_)
    obtain ⟨hI54, hF55, hx56⟩ := hq53
    clear hb2 hb4 hb6 hb8 hb10 hb12 hb14 hb16 hb18 hb20 hb24 hb26 hb28 hb30
    obtain ⟨hv57, hv58, hv59, hv60⟩ := hx56
    have hf62 := FA_fr hF55 (by decide)
    have hs63 := (PK.rf hps).2.2.2.1
    unfold PS at hs63
    have pk61 : PK w w52 := ⟨fun _ => by omega, hv57, hv60, (show fld w52 82 10 = 0 ∨ FA w52 ≠ 0 by omega), K83.fr hF55 (by decide)⟩
    clear hs63
    have pk64 : PK w w52 := PK.tr (PK.rf hps) pk61
    have os65 : ∀ j, (j < 100 + 2 * u45 ∨ 102 + 2 * u45 ≤ j) → j < 140 → rwv w52 86 j = rwv w 86 j := fun j hj hl => (rwv_fr hF55 (by decide)).trans ((fun j _ _ => rfl) j hj hl)
    have mf66 : ∀ s, s < 7 → rwv w52 85 s = rwv w 85 s := fun s hs => (rwv_fr hF55 (by decide)).trans ((fun _ _ => rfl) s hs)
    have ms67 : mu w52 < mu w := Nat.lt_of_lt_of_le (hv58 (by omega)) (PK.rf hps).2.1
    clear hv58
    have jn68 : ∀ (w69 : List (List xE)), xMnv w69 → xFr [82, 83, 85, 86, 87] w w69 → (PK w w69 ∧ (∀ j, (j < 100 + 2 * u45 ∨ 102 + 2 * u45 ≤ j) → j < 140 → rwv w69 86 j = rwv w 86 j) ∧ mu w69 < mu w ∧ (∀ s, s < 7 → rwv w69 85 s = rwv w 85 s) ∧ (FA w69 ≠ 0 ∨ u45 < 20)) → xTo (d + 7) mX12_aLine (394, [], [(0, (2, 82)), (1, (0, 4)), (3, (0, u45))], [], (w69, bd, fc, 0, 0, rr)) (fun φ => ∃ w', xEnd 0 [] (w', bd, fc, 0, 0, rr) φ ∧ xMnv w' ∧ xFr [82, 83, 85, 86, 87] w w' ∧ ((FA w ≠ 0 → FA w' ≠ 0) ∧ PS w' ∧ ((fld w' 82 10 = 1 ∧ mu w' = mu w ∧ fld w' 82 14 = fld w 82 14 ∧ ∀ s, s < 7 → rwv w' 85 s = rwv w 85 s) ∨ (mu w' < mu w ∧ fld w' 82 14 = fld w 82 14 + 1 ∧ ∀ s, s < 7 → rwv w' 85 s ≤ rwv w 85 s + 1)) ∧ (FA w' ≠ 0 ∨ (DATA w → DATA w')) ∧ K83 w w')) := by
      intro w69 hI70 hF71 he72
      obtain ⟨hj73, hj74, hj75, hj76, hj77⟩ := he72
      refine xg_t (xg_blk (b := [(394, 1, 0, 0, 0, 0), (395, 3, 1, 12, 10, 180), (398, 3, 7, 416, 1, 0), (401, 1, 0, 0, 0, 0), (402, 3, 1, 12, 7, 151), (405, 1, 3, 2, 0, 0), (406, 3, 6, 416, 1, 0), (409, 1, 0, 0, 0, 0), (410, 3, 13, 110, 96, 190), (413, 3, 8, 420, 0, 0)]) rfl) ?_
      refine xg_t (xg_aload (va := (2, 82)) rfl rfl) ?_
      obtain ⟨f82_78, f82_80, f82_82, f82_84, f82_86, f82_88, f82_90, f82_92, f82_94, f82_96, f82_98, f82_99, f82_100, f82_102, f82_104, f82_106, h82_108, hb79, hb81, hb83, hb85, hb87, hb89, hb91, hb93, hb95, hb97, hb101, hb103, hb105, hb107, hb109⟩ := (hI70 82 (by decide) (by decide) : cp82 (wget w69 82))
      replace hb81 := xHid.of hb81
      replace hb87 := xHid.of hb87
      replace hb91 := xHid.of hb91
      replace hb93 := xHid.of hb93
      replace hb97 := xHid.of hb97
      replace hb101 := xHid.of hb101
      replace hb103 := xHid.of hb103
      replace hb105 := xHid.of hb105
      replace hb107 := xHid.of hb107
      refine xg_t (xg_getf (va := (0, f82_94)) h82_108 rfl) ?_
      by_cases hc110 : f82_94 = 0
      · refine xg_t (xg_ifF (u := f82_94) rfl xnm0 (xj_neF hc110)) ?_
        refine xg_t (xg_aload (va := (2, 82)) rfl rfl) ?_
        refine xg_t (xg_getf (va := (0, f82_88)) h82_108 rfl) ?_
        refine xg_t (xg_const) ?_
        by_cases hc111 : f82_88 = 2
        · refine xg_t (xg_icF (u := f82_88) (v := 2) rfl xnm0 xnm0 (xj_neF hc111)) ?_
          refine xg_t (xg_aload (va := (2, 82)) rfl rfl) ?_
          refine xg_cVv mX12_advance (vs := []) (rest := []) (cn1 := 0) (sl1 := 0) rfl (mAdvance (hI70)) rfl h82_108 rfl rfl rfl rfl rfl rfl (fun w112 hq113 => ?_)
          obtain ⟨hI114, hF115, hx116⟩ := hq113
          clear hb79 hb81 hb83 hb85 hb87 hb89 hb91 hb93 hb95 hb97 hb101 hb103 hb105 hb107
          obtain ⟨hv117, hv118, hv119, hv120⟩ := hx116
          have hf122 := FA_fr hF115 (by decide)
          have hs123 := hj73.2.2.2.1
          unfold PS at hs123
          have pk121 : PK w69 w112 := ⟨fun _ => by omega, hv117, hv120, (show fld w112 82 10 = 0 ∨ FA w112 ≠ 0 by omega), K83.fr hF115 (by decide)⟩
          clear hs123
          clear hv118
          have pk124 : PK w w112 := PK.tr hj73 pk121
          have os125 : ∀ j, (j < 100 + 2 * u45 ∨ 102 + 2 * u45 ≤ j) → j < 140 → rwv w112 86 j = rwv w 86 j := fun j hj hl => (rwv_fr hF115 (by decide)).trans (hj74 j hj hl)
          have rg126 : FA w112 ≠ 0 ∨ u45 < 20 := hj77.imp_left pk121.1
          have mf127 : ∀ s, s < 7 → rwv w112 85 s = rwv w 85 s := fun s hs => (rwv_fr hF115 (by decide)).trans (hj76 s hs)
          have ms128 : mu w112 < mu w := Nat.lt_of_le_of_lt pk121.2.1 hj75
          clear hj77
          refine xg_t (xg_goto) ?_
          refine xg_t (xg_blk (b := [(420, 1, 0, 0, 0, 0), (421, 3, 1, 12, 11, 17), (424, 1, 2, 1, 0, 0), (425, 1, 39, 0, 0, 0), (426, 1, 10, 0, 0, 0), (427, 1, 3, 1, 0, 0), (428, 1, 11, 0, 0, 0), (429, 1, 17, 0, 0, 0), (430, 1, 0, 0, 0, 0), (431, 1, 19, 0, 0, 0), (432, 3, 1, 12, 14, 212), (435, 1, 3, 1, 0, 0), (436, 1, 11, 0, 0, 0), (437, 3, 14, 12, 14, 212), (440, 1, 12, 0, 0, 0)]) rfl) ?_
          obtain ⟨f82_129, f82_131, f82_133, f82_135, f82_137, f82_139, f82_141, f82_143, f82_145, f82_147, f82_149, f82_150, f82_151, f82_153, f82_155, f82_157, h82_159, hb130, hb132, hb134, hb136, hb138, hb140, hb142, hb144, hb146, hb148, hb152, hb154, hb156, hb158, hb160⟩ := (hI114 82 (by decide) (by decide) : cp82 (wget w112 82))
          replace hb132 := xHid.of hb132
          replace hb138 := xHid.of hb138
          replace hb142 := xHid.of hb142
          replace hb144 := xHid.of hb144
          replace hb148 := xHid.of hb148
          replace hb152 := xHid.of hb152
          replace hb154 := xHid.of hb154
          replace hb156 := xHid.of hb156
          replace hb158 := xHid.of hb158
          have hf161 : fld w112 82 4 = f82_133 := fld_of h82_159
          have hf162 : fld w112 82 5 = f82_135 := fld_of h82_159
          have hf163 : fld w112 82 7 = f82_139 := fld_of h82_159
          have hf164 : fld w112 82 10 = f82_145 := fld_of h82_159
          have hf165 : fld w112 82 14 = f82_147 := fld_of h82_159
          have hu166 : mu w112 = 2 * (fld w112 82 4 - fld w112 82 5) + min 1 (fld w112 82 7) := rfl
          have hf167 := pk124.2.2.1
          have hl168 : f82_147 ≤ 1000 := by omega
          refine xg_t (xg_aload (va := (2, 82)) rfl rfl) ?_
          refine xg_t (xg_getf (va := (2, 85)) h82_159 rfl) ?_
          refine xg_t (xg_iload (va := (0, 4)) rfl rfl) ?_
          refine xg_t (xg_dup2 rfl) ?_
          obtain ⟨g85_169, h85_170, hb171⟩ := (hI114 85 (by decide) (by decide) : cpI 7 52 4294967295 (wget w112 85))
          have h85_170 : xRow w112 85 7 52 g85_169 := h85_170
          refine xg_ialdB (n := 4) (B := 4294967295) h85_170 (hb171) xnm0 (by omega) (fun u172 hu173 he174 => ?_)
          have hl175 : u172 = u45 := by have q1 := rwv_of h85_170 (show 4 < 7 by decide); have q2 := mf127 4 (by decide); omega
          refine xg_t (xg_const) ?_
          refine xg_t (xg_iadd (u := u172) (v := 1) (z := u172 + 1) xnm0 xnm0 (by omega)) ?_
          refine xg_iastK (n := 4) (u := u172 + 1) h85_170 xnm0 xnm0 rfl (by omega) (fun w176 hr177 hb178 => ?_)
          refine xg_t (xg_aload (va := (2, 82)) rfl rfl) ?_
          refine xg_t (xg_dup rfl) ?_
          refine xg_t (xg_getf (va := (0, f82_147)) (hb178.get (by decide) h82_159) rfl) ?_
          have hn179 := id hb148
          unfold xHid at hn179
          refine xg_t (xg_const) ?_
          refine xg_t (xg_iadd (u := f82_147) (v := 1) (z := f82_147 + 1) xnm0 xnm0 (by omega)) ?_
          refine xg_putI (fl1 := [(2, 83), (2, 84), (0, f82_129), (0, f82_131), (0, f82_133), (0, f82_135), (0, f82_137), (0, f82_139), (0, f82_141), (0, f82_143), (0, f82_145), (2, 85), (2, 86), (2, 87), (0, f82_147 + 1), (2, 88), (2, 89), (2, 90), (2, 91), (2, 92), (2, 93), (2, 94), (4, f82_149), (4, f82_150), (0, f82_151), (2, 95), (2, 96), (2, 97), (2, 98), (2, 99), (2, 100), (2, 101), (2, 102), (0, f82_153), (2, 103), (2, 104), (2, 105), (2, 106), (2, 107), (2, 108), (2, 109), (0, f82_155), (0, f82_157), (2, 110), (2, 111), (2, 112), (2, 113)]) (hb178.get (by decide) h82_159) rfl rfl rfl (fun w180 hk181 hb182 => ?_)
          have hF183 : xFr [82, 85] w112 w180 := ((xFr.of (S := [82, 85]) hb178 (by decide)).tr (xFr.of (S := [82, 85]) hb182 (by decide)))
          have hA184 := FA_fr hF183 (by decide)
          have hf185 : fld w180 82 4 = f82_133 := fld_of hk181
          have hf186 : fld w180 82 5 = f82_135 := fld_of hk181
          have hf187 : fld w180 82 7 = f82_139 := fld_of hk181
          have hf188 : fld w180 82 10 = f82_145 := fld_of hk181
          have hf189 : fld w180 82 14 = f82_147 + 1 := fld_of hk181
          have hu190 : mu w180 = 2 * (fld w180 82 4 - fld w180 82 5) + min 1 (fld w180 82 7) := rfl
          have pq191 := pk124
          unfold PK PS at pq191
          have hM192 : ∀ s, s < 7 → s ≠ 4 → rwv w180 85 s = rwv w 85 s := fun s hs hn => (rwv_of (hr177.but hb182 (by decide)) hs).trans ((if_neg hn).trans ((rwv_of h85_170 hs).symm.trans (mf127 s hs)))
          have hM193 : rwv w180 85 4 = u45 + 1 := (rwv_of (hr177.but hb182 (by decide)) (by decide)).trans ((if_pos rfl).trans (by omega))
          have hM194 : ∀ s, s < 7 → rwv w180 85 s ≤ rwv w 85 s + 1 := fun s hs => by
            by_cases z : s = 4
            · subst z; omega
            · rw [hM192 s hs z]; omega
          have hO195 : ∀ j, (j < 100 + 2 * u45 ∨ 102 + 2 * u45 ≤ j) → j < 140 → rwv w180 86 j = rwv w 86 j := fun j hj hl => (rwv_fr hF183 (by decide)).trans (os125 j hj hl)
          have hl197 : FA w112 ≠ 0 ∨ u45 < 20 := rg126
          have hN196 : FA w180 ≠ 0 ∨ 20 ≤ u45 ∨ True := Or.inr (Or.inr trivial)
          have hX198 : FA w180 ≠ 0 ∨ u45 < 20 := by omega
          have hD199 : FA w180 ≠ 0 ∨ (DATA w → DATA w180) := by
            by_cases z : FA w180 ≠ 0
            · exact Or.inl z
            · exact Or.inr (fun hd => hd.s4 hM192 hK48 hM193 (hX198.resolve_left z) hO195 ((hN196.resolve_left z).resolve_left (by have := hX198.resolve_left z; omega)))
          exact xg_e ⟨w180, ⟨rfl, rfl⟩, xMnv.up (S := [85, 82]) hI114 ((xFr.of (S := [85, 82]) hb178 (by decide)).tr (xFr.of (S := [85, 82]) hb182 (by decide))) (List.forall_mem_cons.mpr ⟨(show cpI 7 52 4294967295 (wget w180 85) from ⟨_, (hr177.but hb182 (by decide)), xrb (by omega) (hb171)⟩), List.forall_mem_cons.mpr ⟨(show cp82 (wget w180 82) from ⟨f82_129, f82_131, f82_133, f82_135, f82_137, f82_139, f82_141, f82_143, f82_145, f82_147 + 1, f82_149, f82_150, f82_151, f82_153, f82_155, f82_157, hk181, hb130, hb132, hb134, hb136, hb138, hb140, hb142, hb144, hb146, by omega, hb152, hb154, hb156, hb158, by omega⟩), fun _ h => absurd h List.not_mem_nil⟩⟩), ((hF71.tr (hF115.up (by decide))).tr ((xFr.of (S := [82, 83, 85, 86, 87]) hb178 (by decide)).tr (xFr.of (S := [82, 83, 85, 86, 87]) hb182 (by decide)))), ⟨fun h => by have := pq191.1 h; omega, (show fld w180 82 10 = 0 ∨ FA w180 ≠ 0 by omega), Or.inr ⟨by have := ms128; omega, by omega, hM194⟩, hD199, pk124.2.2.2.2.tr (K83.fr hF183 (by decide))⟩⟩
        · refine xg_t (xg_icT (u := f82_88) (v := 2) rfl xnm0 xnm0 (xj_neT hc111)) ?_
          refine xg_t (xg_blk (b := [(416, 1, 0, 0, 0, 0), (417, 3, 13, 140, 96, 183)]) rfl) ?_
          refine xg_t (xg_aload (va := (2, 82)) rfl rfl) ?_
          refine xg_cVv mX12_ends (vs := []) (rest := []) (cn1 := 0) (sl1 := 0) rfl (mEnds (hI70) hj73.2.2.2.1) rfl h82_108 rfl rfl rfl rfl rfl rfl (fun w200 hq201 => ?_)
          obtain ⟨hI202, hF203, hx204⟩ := hq201
          clear hb79 hb81 hb83 hb85 hb87 hb89 hb91 hb93 hb95 hb97 hb101 hb103 hb105 hb107
          obtain ⟨hv205, hv206, hv207, hv208, hv209⟩ := hx204
          have pk210 : PK w69 w200 := ⟨fun _ => hv205, by omega, by omega, Or.inr hv205, hv209⟩
          have pk211 : PK w w200 := PK.tr hj73 pk210
          have os212 : ∀ j, (j < 100 + 2 * u45 ∨ 102 + 2 * u45 ≤ j) → j < 140 → rwv w200 86 j = rwv w 86 j := fun j hj hl => (rwv_fr hF203 (by decide)).trans (hj74 j hj hl)
          have rg213 : FA w200 ≠ 0 ∨ u45 < 20 := hj77.imp_left pk210.1
          have mf214 : ∀ s, s < 7 → rwv w200 85 s = rwv w 85 s := fun s hs => (rwv_fr hF203 (by decide)).trans (hj76 s hs)
          have ms215 : mu w200 < mu w := Nat.lt_of_le_of_lt pk210.2.1 hj75
          clear hj77
          refine xg_t (xg_blk (b := [(420, 1, 0, 0, 0, 0), (421, 3, 1, 12, 11, 17), (424, 1, 2, 1, 0, 0), (425, 1, 39, 0, 0, 0), (426, 1, 10, 0, 0, 0), (427, 1, 3, 1, 0, 0), (428, 1, 11, 0, 0, 0), (429, 1, 17, 0, 0, 0), (430, 1, 0, 0, 0, 0), (431, 1, 19, 0, 0, 0), (432, 3, 1, 12, 14, 212), (435, 1, 3, 1, 0, 0), (436, 1, 11, 0, 0, 0), (437, 3, 14, 12, 14, 212), (440, 1, 12, 0, 0, 0)]) rfl) ?_
          obtain ⟨f82_216, f82_218, f82_220, f82_222, f82_224, f82_226, f82_228, f82_230, f82_232, f82_234, f82_236, f82_237, f82_238, f82_240, f82_242, f82_244, h82_246, hb217, hb219, hb221, hb223, hb225, hb227, hb229, hb231, hb233, hb235, hb239, hb241, hb243, hb245, hb247⟩ := (hI202 82 (by decide) (by decide) : cp82 (wget w200 82))
          replace hb219 := xHid.of hb219
          replace hb225 := xHid.of hb225
          replace hb229 := xHid.of hb229
          replace hb231 := xHid.of hb231
          replace hb235 := xHid.of hb235
          replace hb239 := xHid.of hb239
          replace hb241 := xHid.of hb241
          replace hb243 := xHid.of hb243
          replace hb245 := xHid.of hb245
          have hf248 : fld w200 82 4 = f82_220 := fld_of h82_246
          have hf249 : fld w200 82 5 = f82_222 := fld_of h82_246
          have hf250 : fld w200 82 7 = f82_226 := fld_of h82_246
          have hf251 : fld w200 82 10 = f82_232 := fld_of h82_246
          have hf252 : fld w200 82 14 = f82_234 := fld_of h82_246
          have hu253 : mu w200 = 2 * (fld w200 82 4 - fld w200 82 5) + min 1 (fld w200 82 7) := rfl
          have hf254 := pk211.2.2.1
          have hl255 : f82_234 ≤ 1000 := by omega
          refine xg_t (xg_aload (va := (2, 82)) rfl rfl) ?_
          refine xg_t (xg_getf (va := (2, 85)) h82_246 rfl) ?_
          refine xg_t (xg_iload (va := (0, 4)) rfl rfl) ?_
          refine xg_t (xg_dup2 rfl) ?_
          obtain ⟨g85_256, h85_257, hb258⟩ := (hI202 85 (by decide) (by decide) : cpI 7 52 4294967295 (wget w200 85))
          have h85_257 : xRow w200 85 7 52 g85_256 := h85_257
          refine xg_ialdB (n := 4) (B := 4294967295) h85_257 (hb258) xnm0 (by omega) (fun u259 hu260 he261 => ?_)
          have hl262 : u259 = u45 := by have q1 := rwv_of h85_257 (show 4 < 7 by decide); have q2 := mf214 4 (by decide); omega
          refine xg_t (xg_const) ?_
          refine xg_t (xg_iadd (u := u259) (v := 1) (z := u259 + 1) xnm0 xnm0 (by omega)) ?_
          refine xg_iastK (n := 4) (u := u259 + 1) h85_257 xnm0 xnm0 rfl (by omega) (fun w263 hr264 hb265 => ?_)
          refine xg_t (xg_aload (va := (2, 82)) rfl rfl) ?_
          refine xg_t (xg_dup rfl) ?_
          refine xg_t (xg_getf (va := (0, f82_234)) (hb265.get (by decide) h82_246) rfl) ?_
          have hn266 := id hb235
          unfold xHid at hn266
          refine xg_t (xg_const) ?_
          refine xg_t (xg_iadd (u := f82_234) (v := 1) (z := f82_234 + 1) xnm0 xnm0 (by omega)) ?_
          refine xg_putI (fl1 := [(2, 83), (2, 84), (0, f82_216), (0, f82_218), (0, f82_220), (0, f82_222), (0, f82_224), (0, f82_226), (0, f82_228), (0, f82_230), (0, f82_232), (2, 85), (2, 86), (2, 87), (0, f82_234 + 1), (2, 88), (2, 89), (2, 90), (2, 91), (2, 92), (2, 93), (2, 94), (4, f82_236), (4, f82_237), (0, f82_238), (2, 95), (2, 96), (2, 97), (2, 98), (2, 99), (2, 100), (2, 101), (2, 102), (0, f82_240), (2, 103), (2, 104), (2, 105), (2, 106), (2, 107), (2, 108), (2, 109), (0, f82_242), (0, f82_244), (2, 110), (2, 111), (2, 112), (2, 113)]) (hb265.get (by decide) h82_246) rfl rfl rfl (fun w267 hk268 hb269 => ?_)
          have hF270 : xFr [82, 85] w200 w267 := ((xFr.of (S := [82, 85]) hb265 (by decide)).tr (xFr.of (S := [82, 85]) hb269 (by decide)))
          have hA271 := FA_fr hF270 (by decide)
          have hf272 : fld w267 82 4 = f82_220 := fld_of hk268
          have hf273 : fld w267 82 5 = f82_222 := fld_of hk268
          have hf274 : fld w267 82 7 = f82_226 := fld_of hk268
          have hf275 : fld w267 82 10 = f82_232 := fld_of hk268
          have hf276 : fld w267 82 14 = f82_234 + 1 := fld_of hk268
          have hu277 : mu w267 = 2 * (fld w267 82 4 - fld w267 82 5) + min 1 (fld w267 82 7) := rfl
          have pq278 := pk211
          unfold PK PS at pq278
          have hM279 : ∀ s, s < 7 → s ≠ 4 → rwv w267 85 s = rwv w 85 s := fun s hs hn => (rwv_of (hr264.but hb269 (by decide)) hs).trans ((if_neg hn).trans ((rwv_of h85_257 hs).symm.trans (mf214 s hs)))
          have hM280 : rwv w267 85 4 = u45 + 1 := (rwv_of (hr264.but hb269 (by decide)) (by decide)).trans ((if_pos rfl).trans (by omega))
          have hM281 : ∀ s, s < 7 → rwv w267 85 s ≤ rwv w 85 s + 1 := fun s hs => by
            by_cases z : s = 4
            · subst z; omega
            · rw [hM279 s hs z]; omega
          have hO282 : ∀ j, (j < 100 + 2 * u45 ∨ 102 + 2 * u45 ≤ j) → j < 140 → rwv w267 86 j = rwv w 86 j := fun j hj hl => (rwv_fr hF270 (by decide)).trans (os212 j hj hl)
          have hl284 : FA w200 ≠ 0 ∨ u45 < 20 := rg213
          have hN283 : FA w267 ≠ 0 ∨ 20 ≤ u45 ∨ True := Or.inr (Or.inr trivial)
          have hX285 : FA w267 ≠ 0 ∨ u45 < 20 := by omega
          have hD286 : FA w267 ≠ 0 ∨ (DATA w → DATA w267) := by
            by_cases z : FA w267 ≠ 0
            · exact Or.inl z
            · exact Or.inr (fun hd => hd.s4 hM279 hK48 hM280 (hX285.resolve_left z) hO282 ((hN283.resolve_left z).resolve_left (by have := hX285.resolve_left z; omega)))
          exact xg_e ⟨w267, ⟨rfl, rfl⟩, xMnv.up (S := [85, 82]) hI202 ((xFr.of (S := [85, 82]) hb265 (by decide)).tr (xFr.of (S := [85, 82]) hb269 (by decide))) (List.forall_mem_cons.mpr ⟨(show cpI 7 52 4294967295 (wget w267 85) from ⟨_, (hr264.but hb269 (by decide)), xrb (by omega) (hb258)⟩), List.forall_mem_cons.mpr ⟨(show cp82 (wget w267 82) from ⟨f82_216, f82_218, f82_220, f82_222, f82_224, f82_226, f82_228, f82_230, f82_232, f82_234 + 1, f82_236, f82_237, f82_238, f82_240, f82_242, f82_244, hk268, hb217, hb219, hb221, hb223, hb225, hb227, hb229, hb231, hb233, by omega, hb239, hb241, hb243, hb245, by omega⟩), fun _ h => absurd h List.not_mem_nil⟩⟩), ((hF71.tr (hF203.up (by decide))).tr ((xFr.of (S := [82, 83, 85, 86, 87]) hb265 (by decide)).tr (xFr.of (S := [82, 83, 85, 86, 87]) hb269 (by decide)))), ⟨fun h => by have := pq278.1 h; omega, (show fld w267 82 10 = 0 ∨ FA w267 ≠ 0 by omega), Or.inr ⟨by have := ms215; omega, by omega, hM281⟩, hD286, pk211.2.2.2.2.tr (K83.fr hF270 (by decide))⟩⟩
      · refine xg_t (xg_ifT (u := f82_94) rfl xnm0 (xj_neT hc110)) ?_
        refine xg_t (xg_blk (b := [(416, 1, 0, 0, 0, 0), (417, 3, 13, 140, 96, 183)]) rfl) ?_
        refine xg_t (xg_aload (va := (2, 82)) rfl rfl) ?_
        refine xg_cVv mX12_ends (vs := []) (rest := []) (cn1 := 0) (sl1 := 0) rfl (mEnds (hI70) hj73.2.2.2.1) rfl h82_108 rfl rfl rfl rfl rfl rfl (fun w287 hq288 => ?_)
        obtain ⟨hI289, hF290, hx291⟩ := hq288
        clear hb79 hb81 hb83 hb85 hb87 hb89 hb91 hb93 hb95 hb97 hb101 hb103 hb105 hb107
        obtain ⟨hv292, hv293, hv294, hv295, hv296⟩ := hx291
        have pk297 : PK w69 w287 := ⟨fun _ => hv292, by omega, by omega, Or.inr hv292, hv296⟩
        have pk298 : PK w w287 := PK.tr hj73 pk297
        have os299 : ∀ j, (j < 100 + 2 * u45 ∨ 102 + 2 * u45 ≤ j) → j < 140 → rwv w287 86 j = rwv w 86 j := fun j hj hl => (rwv_fr hF290 (by decide)).trans (hj74 j hj hl)
        have rg300 : FA w287 ≠ 0 ∨ u45 < 20 := hj77.imp_left pk297.1
        have mf301 : ∀ s, s < 7 → rwv w287 85 s = rwv w 85 s := fun s hs => (rwv_fr hF290 (by decide)).trans (hj76 s hs)
        have ms302 : mu w287 < mu w := Nat.lt_of_le_of_lt pk297.2.1 hj75
        clear hj77
        refine xg_t (xg_blk (b := [(420, 1, 0, 0, 0, 0), (421, 3, 1, 12, 11, 17), (424, 1, 2, 1, 0, 0), (425, 1, 39, 0, 0, 0), (426, 1, 10, 0, 0, 0), (427, 1, 3, 1, 0, 0), (428, 1, 11, 0, 0, 0), (429, 1, 17, 0, 0, 0), (430, 1, 0, 0, 0, 0), (431, 1, 19, 0, 0, 0), (432, 3, 1, 12, 14, 212), (435, 1, 3, 1, 0, 0), (436, 1, 11, 0, 0, 0), (437, 3, 14, 12, 14, 212), (440, 1, 12, 0, 0, 0)]) rfl) ?_
        obtain ⟨f82_303, f82_305, f82_307, f82_309, f82_311, f82_313, f82_315, f82_317, f82_319, f82_321, f82_323, f82_324, f82_325, f82_327, f82_329, f82_331, h82_333, hb304, hb306, hb308, hb310, hb312, hb314, hb316, hb318, hb320, hb322, hb326, hb328, hb330, hb332, hb334⟩ := (hI289 82 (by decide) (by decide) : cp82 (wget w287 82))
        replace hb306 := xHid.of hb306
        replace hb312 := xHid.of hb312
        replace hb316 := xHid.of hb316
        replace hb318 := xHid.of hb318
        replace hb322 := xHid.of hb322
        replace hb326 := xHid.of hb326
        replace hb328 := xHid.of hb328
        replace hb330 := xHid.of hb330
        replace hb332 := xHid.of hb332
        have hf335 : fld w287 82 4 = f82_307 := fld_of h82_333
        have hf336 : fld w287 82 5 = f82_309 := fld_of h82_333
        have hf337 : fld w287 82 7 = f82_313 := fld_of h82_333
        have hf338 : fld w287 82 10 = f82_319 := fld_of h82_333
        have hf339 : fld w287 82 14 = f82_321 := fld_of h82_333
        have hu340 : mu w287 = 2 * (fld w287 82 4 - fld w287 82 5) + min 1 (fld w287 82 7) := rfl
        have hf341 := pk298.2.2.1
        have hl342 : f82_321 ≤ 1000 := by omega
        refine xg_t (xg_aload (va := (2, 82)) rfl rfl) ?_
        refine xg_t (xg_getf (va := (2, 85)) h82_333 rfl) ?_
        refine xg_t (xg_iload (va := (0, 4)) rfl rfl) ?_
        refine xg_t (xg_dup2 rfl) ?_
        obtain ⟨g85_343, h85_344, hb345⟩ := (hI289 85 (by decide) (by decide) : cpI 7 52 4294967295 (wget w287 85))
        have h85_344 : xRow w287 85 7 52 g85_343 := h85_344
        refine xg_ialdB (n := 4) (B := 4294967295) h85_344 (hb345) xnm0 (by omega) (fun u346 hu347 he348 => ?_)
        have hl349 : u346 = u45 := by have q1 := rwv_of h85_344 (show 4 < 7 by decide); have q2 := mf301 4 (by decide); omega
        refine xg_t (xg_const) ?_
        refine xg_t (xg_iadd (u := u346) (v := 1) (z := u346 + 1) xnm0 xnm0 (by omega)) ?_
        refine xg_iastK (n := 4) (u := u346 + 1) h85_344 xnm0 xnm0 rfl (by omega) (fun w350 hr351 hb352 => ?_)
        refine xg_t (xg_aload (va := (2, 82)) rfl rfl) ?_
        refine xg_t (xg_dup rfl) ?_
        refine xg_t (xg_getf (va := (0, f82_321)) (hb352.get (by decide) h82_333) rfl) ?_
        have hn353 := id hb322
        unfold xHid at hn353
        refine xg_t (xg_const) ?_
        refine xg_t (xg_iadd (u := f82_321) (v := 1) (z := f82_321 + 1) xnm0 xnm0 (by omega)) ?_
        refine xg_putI (fl1 := [(2, 83), (2, 84), (0, f82_303), (0, f82_305), (0, f82_307), (0, f82_309), (0, f82_311), (0, f82_313), (0, f82_315), (0, f82_317), (0, f82_319), (2, 85), (2, 86), (2, 87), (0, f82_321 + 1), (2, 88), (2, 89), (2, 90), (2, 91), (2, 92), (2, 93), (2, 94), (4, f82_323), (4, f82_324), (0, f82_325), (2, 95), (2, 96), (2, 97), (2, 98), (2, 99), (2, 100), (2, 101), (2, 102), (0, f82_327), (2, 103), (2, 104), (2, 105), (2, 106), (2, 107), (2, 108), (2, 109), (0, f82_329), (0, f82_331), (2, 110), (2, 111), (2, 112), (2, 113)]) (hb352.get (by decide) h82_333) rfl rfl rfl (fun w354 hk355 hb356 => ?_)
        have hF357 : xFr [82, 85] w287 w354 := ((xFr.of (S := [82, 85]) hb352 (by decide)).tr (xFr.of (S := [82, 85]) hb356 (by decide)))
        have hA358 := FA_fr hF357 (by decide)
        have hf359 : fld w354 82 4 = f82_307 := fld_of hk355
        have hf360 : fld w354 82 5 = f82_309 := fld_of hk355
        have hf361 : fld w354 82 7 = f82_313 := fld_of hk355
        have hf362 : fld w354 82 10 = f82_319 := fld_of hk355
        have hf363 : fld w354 82 14 = f82_321 + 1 := fld_of hk355
        have hu364 : mu w354 = 2 * (fld w354 82 4 - fld w354 82 5) + min 1 (fld w354 82 7) := rfl
        have pq365 := pk298
        unfold PK PS at pq365
        have hM366 : ∀ s, s < 7 → s ≠ 4 → rwv w354 85 s = rwv w 85 s := fun s hs hn => (rwv_of (hr351.but hb356 (by decide)) hs).trans ((if_neg hn).trans ((rwv_of h85_344 hs).symm.trans (mf301 s hs)))
        have hM367 : rwv w354 85 4 = u45 + 1 := (rwv_of (hr351.but hb356 (by decide)) (by decide)).trans ((if_pos rfl).trans (by omega))
        have hM368 : ∀ s, s < 7 → rwv w354 85 s ≤ rwv w 85 s + 1 := fun s hs => by
          by_cases z : s = 4
          · subst z; omega
          · rw [hM366 s hs z]; omega
        have hO369 : ∀ j, (j < 100 + 2 * u45 ∨ 102 + 2 * u45 ≤ j) → j < 140 → rwv w354 86 j = rwv w 86 j := fun j hj hl => (rwv_fr hF357 (by decide)).trans (os299 j hj hl)
        have hl371 : FA w287 ≠ 0 ∨ u45 < 20 := rg300
        have hN370 : FA w354 ≠ 0 ∨ 20 ≤ u45 ∨ True := Or.inr (Or.inr trivial)
        have hX372 : FA w354 ≠ 0 ∨ u45 < 20 := by omega
        have hD373 : FA w354 ≠ 0 ∨ (DATA w → DATA w354) := by
          by_cases z : FA w354 ≠ 0
          · exact Or.inl z
          · exact Or.inr (fun hd => hd.s4 hM366 hK48 hM367 (hX372.resolve_left z) hO369 ((hN370.resolve_left z).resolve_left (by have := hX372.resolve_left z; omega)))
        exact xg_e ⟨w354, ⟨rfl, rfl⟩, xMnv.up (S := [85, 82]) hI289 ((xFr.of (S := [85, 82]) hb352 (by decide)).tr (xFr.of (S := [85, 82]) hb356 (by decide))) (List.forall_mem_cons.mpr ⟨(show cpI 7 52 4294967295 (wget w354 85) from ⟨_, (hr351.but hb356 (by decide)), xrb (by omega) (hb345)⟩), List.forall_mem_cons.mpr ⟨(show cp82 (wget w354 82) from ⟨f82_303, f82_305, f82_307, f82_309, f82_311, f82_313, f82_315, f82_317, f82_319, f82_321 + 1, f82_323, f82_324, f82_325, f82_327, f82_329, f82_331, hk355, hb304, hb306, hb308, hb310, hb312, hb314, hb316, hb318, hb320, by omega, hb326, hb328, hb330, hb332, by omega⟩), fun _ h => absurd h List.not_mem_nil⟩⟩), ((hF71.tr (hF290.up (by decide))).tr ((xFr.of (S := [82, 83, 85, 86, 87]) hb352 (by decide)).tr (xFr.of (S := [82, 83, 85, 86, 87]) hb356 (by decide)))), ⟨fun h => by have := pq365.1 h; omega, (show fld w354 82 10 = 0 ∨ FA w354 ≠ 0 by omega), Or.inr ⟨by have := ms302; omega, by omega, hM368⟩, hD373, pk298.2.2.2.2.tr (K83.fr hF357 (by decide))⟩⟩
    refine xg_t (xg_iload (va := (0, 4)) rfl rfl) ?_
    refine xg_t (xg_swt (ks := [(0, 108), (1, 116), (2, 180), (3, 221), (4, 273), (5, 326)]) (u := 4) (z := 273) rfl rfl rfl xnm0 (xsw_n (by omega) (xsw_n (by omega) (xsw_n (by omega) (xsw_n (by omega) (xsw_y rfl)))))) ?_
    refine xg_t (xg_blk (b := [(273, 1, 2, 3, 0, 0), (274, 2, 4, 20, 0, 0), (276, 3, 6, 286, 3, 0), (279, 1, 0, 0, 0, 0), (280, 3, 1, 12, 13, 23), (283, 1, 2, 3, 0, 0), (284, 1, 2, 2, 0, 0), (285, 1, 17, 0, 0, 0)]) rfl) ?_
    refine xg_t (xg_iload (va := (0, u45)) rfl rfl) ?_
    refine xg_t (xg_bip) ?_
    refine xg_t (xg_icF (u := u45) (v := 20) rfl xnm0 xnm0 (xj_geF (by omega) (by omega))) ?_
    refine xg_t (xg_aload (va := (2, 82)) rfl rfl) ?_
    obtain ⟨f82_374, f82_376, f82_378, f82_380, f82_382, f82_384, f82_386, f82_388, f82_390, f82_392, f82_394, f82_395, f82_396, f82_398, f82_400, f82_402, h82_404, hb375, hb377, hb379, hb381, hb383, hb385, hb387, hb389, hb391, hb393, hb397, hb399, hb401, hb403, hb405⟩ := (hI54 82 (by decide) (by decide) : cp82 (wget w52 82))
    replace hb377 := xHid.of hb377
    replace hb383 := xHid.of hb383
    replace hb387 := xHid.of hb387
    replace hb389 := xHid.of hb389
    replace hb393 := xHid.of hb393
    replace hb397 := xHid.of hb397
    replace hb399 := xHid.of hb399
    replace hb401 := xHid.of hb401
    replace hb403 := xHid.of hb403
    refine xg_t (xg_getf (va := (2, 87)) h82_404 rfl) ?_
    refine xg_t (xg_iload (va := (0, u45)) rfl rfl) ?_
    refine xg_t (xg_iload (va := (0, at_)) rfl rfl) ?_
    refine xg_iastK (n := u45) (u := at_) (h87_43.fr hF55 (by decide)) xnm0 xnm0 rfl (by omega) (fun w406 hr407 hb408 => ?_)
    have hF409 : xFr [87] w52 w406 := xFr.of hb408 (by decide)
    have pk410 : PK w w406 := PK.tr pk64 (PK.fr hF409 (by decide) (by decide) pk64.2.2.2.1)
    have os411 : ∀ j, (j < 100 + 2 * u45 ∨ 102 + 2 * u45 ≤ j) → j < 140 → rwv w406 86 j = rwv w 86 j := fun j hj hl => (rwv_fr hF409 (by decide)).trans (os65 j hj hl)
    have mf412 : ∀ s, s < 7 → rwv w406 85 s = rwv w 85 s := fun s hs => (rwv_fr hF409 (by decide)).trans (mf66 s hs)
    have ms413 : mu w406 < mu w := Nat.lt_of_le_of_lt (PK.fr hF409 (by decide) (by decide) pk64.2.2.2.1).2.1 ms67
    refine xg_t (xg_blk (b := [(286, 1, 3, 0, 0, 0), (287, 2, 15, 4, 0, 0)]) rfl) ?_
    refine xg_t (xg_const) ?_
    refine xg_t (xg_istore (l1 := [(3, (0, u45)), (2, (0, at_)), (1, (0, 4)), (0, (2, 82))]) rfl rfl rfl) ?_
    refine xg_t (xg_blk (b := [(289, 2, 2, 4, 0, 0), (291, 1, 3, 2, 0, 0), (292, 3, 6, 323, 3, 0), (295, 1, 0, 0, 0, 0), (296, 1, 2, 1, 0, 0), (297, 1, 2, 3, 0, 0), (298, 2, 4, 100, 0, 0), (300, 1, 3, 2, 0, 0), (301, 1, 2, 3, 0, 0), (302, 1, 16, 0, 0, 0), (303, 1, 11, 0, 0, 0), (304, 2, 2, 4, 0, 0), (306, 1, 11, 0, 0, 0), (307, 1, 0, 0, 0, 0), (308, 1, 3, 0, 0, 0), (309, 2, 4, 9, 0, 0), (311, 3, 13, 199, 96, 196), (314, 3, 13, 211, 96, 200), (317, 3, 9, 4, 1, 0), (320, 3, 8, 289, 0, 0)]) rfl) ?_
    refine xg_t (xg_iload (va := (0, 0)) rfl rfl) ?_
    refine xg_t (xg_const) ?_
    refine xg_t (xg_icF (u := 0) (v := 2) rfl xnm0 xnm0 (by decide)) ?_
    refine xg_t (xg_aload (va := (2, 82)) rfl rfl) ?_
    refine xg_t (xg_iload (va := (0, 4)) rfl rfl) ?_
    refine xg_t (xg_iload (va := (0, u45)) rfl rfl) ?_
    refine xg_t (xg_bip) ?_
    refine xg_t (xg_const) ?_
    refine xg_t (xg_iload (va := (0, u45)) rfl rfl) ?_
    refine xg_t (xg_imul (u := 2) (v := u45) (z := 2 * u45) xnm0 xnm0 (by omega)) ?_
    refine xg_t (xg_iadd (u := 100) (v := 2 * u45) (z := 100 + (2 * u45)) xnm0 xnm0 (by omega)) ?_
    refine xg_t (xg_iload (va := (0, 0)) rfl rfl) ?_
    refine xg_t (xg_iadd (u := 100 + (2 * u45)) (v := 0) (z := (100 + (2 * u45)) + 0) xnm0 xnm0 (by omega)) ?_
    refine xg_t (xg_aload (va := (2, 82)) rfl rfl) ?_
    refine xg_t (xg_const) ?_
    refine xg_t (xg_bip) ?_
    refine xg_cVi mX12_numbered (vs := [(0, 0), (0, 9)]) (rest := [(0, (100 + (2 * u45)) + 0), (0, u45), (0, 4), (2, 82)]) (cn1 := 0) (sl1 := 0) rfl (mNumbered (xMnv.up (S := [87]) hI54 (xFr.of (S := [87]) hb408 (by decide)) (List.forall_mem_cons.mpr ⟨(show cpI 20 54 4294967295 (wget w406 87) from ⟨_, hr407, xrb (by omega) (hb44)⟩), fun _ h => absurd h List.not_mem_nil⟩)) (by omega) (by omega) pk410.2.2.2.1) rfl (hb408.get (by decide) h82_404) rfl rfl rfl rfl rfl rfl (fun n418 w414 hq415 => ?_)
    obtain ⟨hn419, hI416, hF417⟩ := hq415
    clear hb375 hb377 hb379 hb381 hb383 hb385 hb387 hb389 hb391 hb393 hb397 hb399 hb401 hb403
    obtain ⟨hn420, hn421, hn422⟩ := hn419
    have pk423 : PK w w414 := PK.tr pk410 hn421
    have os424 : ∀ j, (j < 100 + 2 * u45 ∨ 102 + 2 * u45 ≤ j) → j < 140 → rwv w414 86 j = rwv w 86 j := fun j hj hl => (rwv_fr hF417 (by decide)).trans (os411 j hj hl)
    have mf425 : ∀ s, s < 7 → rwv w414 85 s = rwv w 85 s := fun s hs => (rwv_fr hF417 (by decide)).trans (mf412 s hs)
    have ms426 : mu w414 < mu w := Nat.lt_of_le_of_lt hn421.2.1 ms413
    obtain ⟨f82_427, f82_429, f82_431, f82_433, f82_435, f82_437, f82_439, f82_441, f82_443, f82_445, f82_447, f82_448, f82_449, f82_451, f82_453, f82_455, h82_457, hb428, hb430, hb432, hb434, hb436, hb438, hb440, hb442, hb444, hb446, hb450, hb452, hb454, hb456, hb458⟩ := (hI416 82 (by decide) (by decide) : cp82 (wget w414 82))
    replace hb430 := xHid.of hb430
    replace hb436 := xHid.of hb436
    replace hb440 := xHid.of hb440
    replace hb442 := xHid.of hb442
    replace hb446 := xHid.of hb446
    replace hb450 := xHid.of hb450
    replace hb452 := xHid.of hb452
    replace hb454 := xHid.of hb454
    replace hb456 := xHid.of hb456
    refine xg_cVv mX12_puts (vs := [(0, 4), (0, u45), (0, (100 + (2 * u45)) + 0), (0, n418)]) (rest := []) (cn1 := 0) (sl1 := 0) rfl (mPuts4 (hI416) (by omega) (by omega) (by omega) (fun _ => by omega)) rfl h82_457 rfl rfl rfl rfl rfl rfl (fun w459 hq460 => ?_)
    obtain ⟨hI461, hF462, hx463⟩ := hq460
    obtain ⟨hp464, hp465⟩ := hx463
    have pk466 : PK w w459 := PK.tr pk423 (PK.fr hF462 (by decide) (by decide) pk423.2.2.2.1)
    have os467 : ∀ j, (j < 100 + 2 * u45 ∨ 102 + 2 * u45 ≤ j) → j < 140 → rwv w459 86 j = rwv w 86 j := fun j hj hl => (hp465 j (by omega) hl).trans (os424 j hj hl)
    have rg468 : FA w459 ≠ 0 ∨ (0 ≤ n418 ∧ n418 ≤ 9) := hn422.imp_left (PK.fr hF462 (by decide) (by decide) pk423.2.2.2.1).1
    have mf469 : ∀ s, s < 7 → rwv w459 85 s = rwv w 85 s := fun s hs => (rwv_fr hF462 (by decide)).trans (mf425 s hs)
    have ms470 : mu w459 < mu w := Nat.lt_of_le_of_lt (PK.fr hF462 (by decide) (by decide) pk423.2.2.2.1).2.1 ms426
    clear hn422
    refine xg_t (xg_iinc (u := 0) (z := 1) (l1 := [(3, (0, u45)), (2, (0, at_)), (1, (0, 4)), (0, (2, 82))]) rfl rfl (by decide) rfl) ?_
    refine xg_t (xg_goto) ?_
    refine xg_t (xg_blk (b := [(289, 2, 2, 4, 0, 0), (291, 1, 3, 2, 0, 0), (292, 3, 6, 323, 3, 0), (295, 1, 0, 0, 0, 0), (296, 1, 2, 1, 0, 0), (297, 1, 2, 3, 0, 0), (298, 2, 4, 100, 0, 0), (300, 1, 3, 2, 0, 0), (301, 1, 2, 3, 0, 0), (302, 1, 16, 0, 0, 0), (303, 1, 11, 0, 0, 0), (304, 2, 2, 4, 0, 0), (306, 1, 11, 0, 0, 0), (307, 1, 0, 0, 0, 0), (308, 1, 3, 0, 0, 0), (309, 2, 4, 9, 0, 0), (311, 3, 13, 199, 96, 196), (314, 3, 13, 211, 96, 200), (317, 3, 9, 4, 1, 0), (320, 3, 8, 289, 0, 0)]) rfl) ?_
    refine xg_t (xg_iload (va := (0, 1)) rfl rfl) ?_
    refine xg_t (xg_const) ?_
    refine xg_t (xg_icF (u := 1) (v := 2) rfl xnm0 xnm0 (by decide)) ?_
    refine xg_t (xg_aload (va := (2, 82)) rfl rfl) ?_
    refine xg_t (xg_iload (va := (0, 4)) rfl rfl) ?_
    refine xg_t (xg_iload (va := (0, u45)) rfl rfl) ?_
    refine xg_t (xg_bip) ?_
    refine xg_t (xg_const) ?_
    refine xg_t (xg_iload (va := (0, u45)) rfl rfl) ?_
    refine xg_t (xg_imul (u := 2) (v := u45) (z := 2 * u45) xnm0 xnm0 (by omega)) ?_
    refine xg_t (xg_iadd (u := 100) (v := 2 * u45) (z := 100 + (2 * u45)) xnm0 xnm0 (by omega)) ?_
    refine xg_t (xg_iload (va := (0, 1)) rfl rfl) ?_
    refine xg_t (xg_iadd (u := 100 + (2 * u45)) (v := 1) (z := (100 + (2 * u45)) + 1) xnm0 xnm0 (by omega)) ?_
    refine xg_t (xg_aload (va := (2, 82)) rfl rfl) ?_
    refine xg_t (xg_const) ?_
    refine xg_t (xg_bip) ?_
    refine xg_cVi mX12_numbered (vs := [(0, 0), (0, 9)]) (rest := [(0, (100 + (2 * u45)) + 1), (0, u45), (0, 4), (2, 82)]) (cn1 := 0) (sl1 := 0) rfl (mNumbered (hI461) (by omega) (by omega) pk466.2.2.2.1) rfl (hF462.get (by decide) h82_457) rfl rfl rfl rfl rfl rfl (fun n475 w471 hq472 => ?_)
    obtain ⟨hn476, hI473, hF474⟩ := hq472
    clear hb428 hb430 hb432 hb434 hb436 hb438 hb440 hb442 hb444 hb446 hb450 hb452 hb454 hb456
    obtain ⟨hn477, hn478, hn479⟩ := hn476
    have pk480 : PK w w471 := PK.tr pk466 hn478
    have os481 : ∀ j, (j < 100 + 2 * u45 ∨ 102 + 2 * u45 ≤ j) → j < 140 → rwv w471 86 j = rwv w 86 j := fun j hj hl => (rwv_fr hF474 (by decide)).trans (os467 j hj hl)
    have ix482 : u45 < 20 → rwv w471 86 ((100 + (2 * u45)) + 0) = n418 := fun h => (rwv_fr hF474 (by decide)).trans (hp464 h)
    have rg483 : FA w471 ≠ 0 ∨ (0 ≤ n418 ∧ n418 ≤ 9) := rg468.imp_left hn478.1
    have mf484 : ∀ s, s < 7 → rwv w471 85 s = rwv w 85 s := fun s hs => (rwv_fr hF474 (by decide)).trans (mf469 s hs)
    have ms485 : mu w471 < mu w := Nat.lt_of_le_of_lt hn478.2.1 ms470
    clear hp464 rg468
    obtain ⟨f82_486, f82_488, f82_490, f82_492, f82_494, f82_496, f82_498, f82_500, f82_502, f82_504, f82_506, f82_507, f82_508, f82_510, f82_512, f82_514, h82_516, hb487, hb489, hb491, hb493, hb495, hb497, hb499, hb501, hb503, hb505, hb509, hb511, hb513, hb515, hb517⟩ := (hI473 82 (by decide) (by decide) : cp82 (wget w471 82))
    replace hb489 := xHid.of hb489
    replace hb495 := xHid.of hb495
    replace hb499 := xHid.of hb499
    replace hb501 := xHid.of hb501
    replace hb505 := xHid.of hb505
    replace hb509 := xHid.of hb509
    replace hb511 := xHid.of hb511
    replace hb513 := xHid.of hb513
    replace hb515 := xHid.of hb515
    refine xg_cVv mX12_puts (vs := [(0, 4), (0, u45), (0, (100 + (2 * u45)) + 1), (0, n475)]) (rest := []) (cn1 := 0) (sl1 := 0) rfl (mPuts4 (hI473) (by omega) (by omega) (by omega) (fun _ => by omega)) rfl h82_516 rfl rfl rfl rfl rfl rfl (fun w518 hq519 => ?_)
    obtain ⟨hI520, hF521, hx522⟩ := hq519
    obtain ⟨hp523, hp524⟩ := hx522
    have pk525 : PK w w518 := PK.tr pk480 (PK.fr hF521 (by decide) (by decide) pk480.2.2.2.1)
    have os526 : ∀ j, (j < 100 + 2 * u45 ∨ 102 + 2 * u45 ≤ j) → j < 140 → rwv w518 86 j = rwv w 86 j := fun j hj hl => (hp524 j (by omega) hl).trans (os481 j hj hl)
    have ix527 : u45 < 20 → rwv w518 86 ((100 + (2 * u45)) + 0) = n418 := fun h => (hp524 _ (by omega) (by omega)).trans (ix482 h)
    have rg528 : FA w518 ≠ 0 ∨ (0 ≤ n418 ∧ n418 ≤ 9) := rg483.imp_left (PK.fr hF521 (by decide) (by decide) pk480.2.2.2.1).1
    have rg529 : FA w518 ≠ 0 ∨ (0 ≤ n475 ∧ n475 ≤ 9) := hn479.imp_left (PK.fr hF521 (by decide) (by decide) pk480.2.2.2.1).1
    have mf530 : ∀ s, s < 7 → rwv w518 85 s = rwv w 85 s := fun s hs => (rwv_fr hF521 (by decide)).trans (mf484 s hs)
    have ms531 : mu w518 < mu w := Nat.lt_of_le_of_lt (PK.fr hF521 (by decide) (by decide) pk480.2.2.2.1).2.1 ms485
    clear ix482 rg483 hn479
    refine xg_t (xg_iinc (u := 1) (z := 2) (l1 := [(3, (0, u45)), (2, (0, at_)), (1, (0, 4)), (0, (2, 82))]) rfl rfl (by decide) rfl) ?_
    refine xg_t (xg_goto) ?_
    refine xg_t (xg_blk (b := [(289, 2, 2, 4, 0, 0), (291, 1, 3, 2, 0, 0), (292, 3, 6, 323, 3, 0), (295, 1, 0, 0, 0, 0), (296, 1, 2, 1, 0, 0), (297, 1, 2, 3, 0, 0), (298, 2, 4, 100, 0, 0), (300, 1, 3, 2, 0, 0), (301, 1, 2, 3, 0, 0), (302, 1, 16, 0, 0, 0), (303, 1, 11, 0, 0, 0), (304, 2, 2, 4, 0, 0), (306, 1, 11, 0, 0, 0), (307, 1, 0, 0, 0, 0), (308, 1, 3, 0, 0, 0), (309, 2, 4, 9, 0, 0), (311, 3, 13, 199, 96, 196), (314, 3, 13, 211, 96, 200), (317, 3, 9, 4, 1, 0), (320, 3, 8, 289, 0, 0)]) rfl) ?_
    refine xg_t (xg_iload (va := (0, 2)) rfl rfl) ?_
    refine xg_t (xg_const) ?_
    refine xg_t (xg_icT (u := 2) (v := 2) rfl xnm0 xnm0 (by decide)) ?_
    refine xg_t (xg_blk (b := [(323, 3, 8, 394, 0, 0)]) rfl) ?_
    refine xg_t (xg_goto) ?_
    refine xg_t (xg_drop (l1 := [(0, (2, 82)), (1, (0, 4)), (3, (0, u45))]) (List.forall_mem_cons.mpr ⟨List.mem_cons_of_mem _ (List.mem_cons_of_mem _ (List.mem_cons_of_mem _ (List.mem_cons_of_mem _ (List.mem_cons_self)))), List.forall_mem_cons.mpr ⟨List.mem_cons_of_mem _ (List.mem_cons_of_mem _ (List.mem_cons_of_mem _ (List.mem_cons_self))), List.forall_mem_cons.mpr ⟨List.mem_cons_of_mem _ (List.mem_cons_self), fun _ h => absurd h List.not_mem_nil⟩⟩⟩)) ?_
    have hX532 : FA w518 ≠ 0 ∨ u45 < 20 := Or.inr (by omega)
    exact jn68 w518 (hI520) (((((((hF55.up (by decide)).tr (xFr.of (S := [82, 83, 85, 86, 87]) hb408 (by decide))).tr (hF417.up (by decide))).tr (hF462.up (by decide))).tr (hF474.up (by decide))).tr (hF521.up (by decide)))) (⟨pk525, os526, ms531, mf530, hX532⟩)
  · refine xg_t (xg_icF (u := u45) (v := 20) rfl xnm0 xnm0 (xj_ltF (by omega) (by omega))) ?_
    refine xg_t (xg_aload (va := (2, 82)) rfl rfl) ?_
    refine xg_t (xg_const) ?_
    refine xg_t (xg_iload (va := (0, at_)) rfl rfl) ?_
    refine xg_cVv mX12_also (vs := [(0, 3), (0, at_)]) (rest := []) (cn1 := 0) (sl1 := 0) rfl (mAlso (hI) (by omega) (by omega) (by omega) (PK.rf hps).2.2.2.1) rfl h82_31 rfl rfl rfl rfl rfl rfl (fun w533 hq534 => ?_)
    obtain ⟨hI535, hF536, hx537⟩ := hq534
    obtain ⟨hv539, hv540⟩ := hx537
    have pk538 : PK w w533 := ⟨fun _ => hv539, Nat.le_of_eq (mu_fr hF536 (by decide)), fld_fr hF536 (by decide), Or.inr hv539, hv540⟩
    have pk541 : PK w w533 := PK.tr (PK.rf hps) pk538
    have os542 : ∀ j, (j < 100 + 2 * u45 ∨ 102 + 2 * u45 ≤ j) → j < 140 → rwv w533 86 j = rwv w 86 j := fun j hj hl => (rwv_fr hF536 (by decide)).trans ((fun j _ _ => rfl) j hj hl)
    have mf543 : ∀ s, s < 7 → rwv w533 85 s = rwv w 85 s := fun s hs => (rwv_fr hF536 (by decide)).trans ((fun _ _ => rfl) s hs)
    have hf544 := fld_fr (c := 82) (j := 7) hF536 (by decide)
    refine xg_t (xg_blk (b := [(64, 1, 0, 0, 0, 0), (65, 3, 13, 110, 96, 190), (68, 1, 2, 1, 0, 0), (69, 39, 33, 362, 0, 9)]) rfl) ?_
    refine xg_t (xg_aload (va := (2, 82)) rfl rfl) ?_
    refine xg_cVv mX12_advance (vs := []) (rest := []) (cn1 := 0) (sl1 := 0) rfl (mAdvance (hI535)) rfl (hF536.get (by decide) h82_31) rfl rfl rfl rfl rfl rfl (fun w545 hq546 => ?_)
    obtain ⟨hI547, hF548, hx549⟩ := hq546
    clear hb2 hb4 hb6 hb8 hb10 hb12 hb14 hb16 hb18 hb20 hb24 hb26 hb28 hb30
    obtain ⟨hv550, hv551, hv552, hv553⟩ := hx549
    have hf555 := FA_fr hF548 (by decide)
    have hs556 := pk541.2.2.2.1
    unfold PS at hs556
    have pk554 : PK w533 w545 := ⟨fun _ => by omega, hv550, hv553, (show fld w545 82 10 = 0 ∨ FA w545 ≠ 0 by omega), K83.fr hF548 (by decide)⟩
    clear hs556
    have pk557 : PK w w545 := PK.tr pk541 pk554
    have os558 : ∀ j, (j < 100 + 2 * u45 ∨ 102 + 2 * u45 ≤ j) → j < 140 → rwv w545 86 j = rwv w 86 j := fun j hj hl => (rwv_fr hF548 (by decide)).trans (os542 j hj hl)
    have rg559 : FA w545 ≠ 0 ∨ 0 = 1 := (Or.inl hv539 : FA w533 ≠ 0 ∨ 0 = 1).imp_left pk554.1
    have mf560 : ∀ s, s < 7 → rwv w545 85 s = rwv w 85 s := fun s hs => (rwv_fr hF548 (by decide)).trans (mf543 s hs)
    have ms561 : mu w545 < mu w := Nat.lt_of_lt_of_le (hv551 (by omega)) pk541.2.1
    clear hv551
    have jn562 : ∀ (w563 : List (List xE)), xMnv w563 → xFr [82, 83, 85, 86, 87] w w563 → (PK w w563 ∧ (∀ j, (j < 100 + 2 * u45 ∨ 102 + 2 * u45 ≤ j) → j < 140 → rwv w563 86 j = rwv w 86 j) ∧ mu w563 < mu w ∧ (∀ s, s < 7 → rwv w563 85 s = rwv w 85 s) ∧ (FA w563 ≠ 0 ∨ u45 < 20)) → xTo (d + 7) mX12_aLine (394, [], [(0, (2, 82)), (1, (0, 4)), (3, (0, u45))], [], (w563, bd, fc, 0, 0, rr)) (fun φ => ∃ w', xEnd 0 [] (w', bd, fc, 0, 0, rr) φ ∧ xMnv w' ∧ xFr [82, 83, 85, 86, 87] w w' ∧ ((FA w ≠ 0 → FA w' ≠ 0) ∧ PS w' ∧ ((fld w' 82 10 = 1 ∧ mu w' = mu w ∧ fld w' 82 14 = fld w 82 14 ∧ ∀ s, s < 7 → rwv w' 85 s = rwv w 85 s) ∨ (mu w' < mu w ∧ fld w' 82 14 = fld w 82 14 + 1 ∧ ∀ s, s < 7 → rwv w' 85 s ≤ rwv w 85 s + 1)) ∧ (FA w' ≠ 0 ∨ (DATA w → DATA w')) ∧ K83 w w')) := by
      intro w563 hI564 hF565 he566
      obtain ⟨hj567, hj568, hj569, hj570, hj571⟩ := he566
      refine xg_t (xg_blk (b := [(394, 1, 0, 0, 0, 0), (395, 3, 1, 12, 10, 180), (398, 3, 7, 416, 1, 0), (401, 1, 0, 0, 0, 0), (402, 3, 1, 12, 7, 151), (405, 1, 3, 2, 0, 0), (406, 3, 6, 416, 1, 0), (409, 1, 0, 0, 0, 0), (410, 3, 13, 110, 96, 190), (413, 3, 8, 420, 0, 0)]) rfl) ?_
      refine xg_t (xg_aload (va := (2, 82)) rfl rfl) ?_
      obtain ⟨f82_572, f82_574, f82_576, f82_578, f82_580, f82_582, f82_584, f82_586, f82_588, f82_590, f82_592, f82_593, f82_594, f82_596, f82_598, f82_600, h82_602, hb573, hb575, hb577, hb579, hb581, hb583, hb585, hb587, hb589, hb591, hb595, hb597, hb599, hb601, hb603⟩ := (hI564 82 (by decide) (by decide) : cp82 (wget w563 82))
      replace hb575 := xHid.of hb575
      replace hb581 := xHid.of hb581
      replace hb585 := xHid.of hb585
      replace hb587 := xHid.of hb587
      replace hb591 := xHid.of hb591
      replace hb595 := xHid.of hb595
      replace hb597 := xHid.of hb597
      replace hb599 := xHid.of hb599
      replace hb601 := xHid.of hb601
      refine xg_t (xg_getf (va := (0, f82_588)) h82_602 rfl) ?_
      by_cases hc604 : f82_588 = 0
      · refine xg_t (xg_ifF (u := f82_588) rfl xnm0 (xj_neF hc604)) ?_
        refine xg_t (xg_aload (va := (2, 82)) rfl rfl) ?_
        refine xg_t (xg_getf (va := (0, f82_582)) h82_602 rfl) ?_
        refine xg_t (xg_const) ?_
        by_cases hc605 : f82_582 = 2
        · refine xg_t (xg_icF (u := f82_582) (v := 2) rfl xnm0 xnm0 (xj_neF hc605)) ?_
          refine xg_t (xg_aload (va := (2, 82)) rfl rfl) ?_
          refine xg_cVv mX12_advance (vs := []) (rest := []) (cn1 := 0) (sl1 := 0) rfl (mAdvance (hI564)) rfl h82_602 rfl rfl rfl rfl rfl rfl (fun w606 hq607 => ?_)
          obtain ⟨hI608, hF609, hx610⟩ := hq607
          clear hb573 hb575 hb577 hb579 hb581 hb583 hb585 hb587 hb589 hb591 hb595 hb597 hb599 hb601
          obtain ⟨hv611, hv612, hv613, hv614⟩ := hx610
          have hf616 := FA_fr hF609 (by decide)
          have hs617 := hj567.2.2.2.1
          unfold PS at hs617
          have pk615 : PK w563 w606 := ⟨fun _ => by omega, hv611, hv614, (show fld w606 82 10 = 0 ∨ FA w606 ≠ 0 by omega), K83.fr hF609 (by decide)⟩
          clear hs617
          clear hv612
          have pk618 : PK w w606 := PK.tr hj567 pk615
          have os619 : ∀ j, (j < 100 + 2 * u45 ∨ 102 + 2 * u45 ≤ j) → j < 140 → rwv w606 86 j = rwv w 86 j := fun j hj hl => (rwv_fr hF609 (by decide)).trans (hj568 j hj hl)
          have rg620 : FA w606 ≠ 0 ∨ u45 < 20 := hj571.imp_left pk615.1
          have mf621 : ∀ s, s < 7 → rwv w606 85 s = rwv w 85 s := fun s hs => (rwv_fr hF609 (by decide)).trans (hj570 s hs)
          have ms622 : mu w606 < mu w := Nat.lt_of_le_of_lt pk615.2.1 hj569
          clear hj571
          refine xg_t (xg_goto) ?_
          refine xg_t (xg_blk (b := [(420, 1, 0, 0, 0, 0), (421, 3, 1, 12, 11, 17), (424, 1, 2, 1, 0, 0), (425, 1, 39, 0, 0, 0), (426, 1, 10, 0, 0, 0), (427, 1, 3, 1, 0, 0), (428, 1, 11, 0, 0, 0), (429, 1, 17, 0, 0, 0), (430, 1, 0, 0, 0, 0), (431, 1, 19, 0, 0, 0), (432, 3, 1, 12, 14, 212), (435, 1, 3, 1, 0, 0), (436, 1, 11, 0, 0, 0), (437, 3, 14, 12, 14, 212), (440, 1, 12, 0, 0, 0)]) rfl) ?_
          obtain ⟨f82_623, f82_625, f82_627, f82_629, f82_631, f82_633, f82_635, f82_637, f82_639, f82_641, f82_643, f82_644, f82_645, f82_647, f82_649, f82_651, h82_653, hb624, hb626, hb628, hb630, hb632, hb634, hb636, hb638, hb640, hb642, hb646, hb648, hb650, hb652, hb654⟩ := (hI608 82 (by decide) (by decide) : cp82 (wget w606 82))
          replace hb626 := xHid.of hb626
          replace hb632 := xHid.of hb632
          replace hb636 := xHid.of hb636
          replace hb638 := xHid.of hb638
          replace hb642 := xHid.of hb642
          replace hb646 := xHid.of hb646
          replace hb648 := xHid.of hb648
          replace hb650 := xHid.of hb650
          replace hb652 := xHid.of hb652
          have hf655 : fld w606 82 4 = f82_627 := fld_of h82_653
          have hf656 : fld w606 82 5 = f82_629 := fld_of h82_653
          have hf657 : fld w606 82 7 = f82_633 := fld_of h82_653
          have hf658 : fld w606 82 10 = f82_639 := fld_of h82_653
          have hf659 : fld w606 82 14 = f82_641 := fld_of h82_653
          have hu660 : mu w606 = 2 * (fld w606 82 4 - fld w606 82 5) + min 1 (fld w606 82 7) := rfl
          have hf661 := pk618.2.2.1
          have hl662 : f82_641 ≤ 1000 := by omega
          refine xg_t (xg_aload (va := (2, 82)) rfl rfl) ?_
          refine xg_t (xg_getf (va := (2, 85)) h82_653 rfl) ?_
          refine xg_t (xg_iload (va := (0, 4)) rfl rfl) ?_
          refine xg_t (xg_dup2 rfl) ?_
          obtain ⟨g85_663, h85_664, hb665⟩ := (hI608 85 (by decide) (by decide) : cpI 7 52 4294967295 (wget w606 85))
          have h85_664 : xRow w606 85 7 52 g85_663 := h85_664
          refine xg_ialdB (n := 4) (B := 4294967295) h85_664 (hb665) xnm0 (by omega) (fun u666 hu667 he668 => ?_)
          have hl669 : u666 = u45 := by have q1 := rwv_of h85_664 (show 4 < 7 by decide); have q2 := mf621 4 (by decide); omega
          refine xg_t (xg_const) ?_
          refine xg_t (xg_iadd (u := u666) (v := 1) (z := u666 + 1) xnm0 xnm0 (by omega)) ?_
          refine xg_iastK (n := 4) (u := u666 + 1) h85_664 xnm0 xnm0 rfl (by omega) (fun w670 hr671 hb672 => ?_)
          refine xg_t (xg_aload (va := (2, 82)) rfl rfl) ?_
          refine xg_t (xg_dup rfl) ?_
          refine xg_t (xg_getf (va := (0, f82_641)) (hb672.get (by decide) h82_653) rfl) ?_
          have hn673 := id hb642
          unfold xHid at hn673
          refine xg_t (xg_const) ?_
          refine xg_t (xg_iadd (u := f82_641) (v := 1) (z := f82_641 + 1) xnm0 xnm0 (by omega)) ?_
          refine xg_putI (fl1 := [(2, 83), (2, 84), (0, f82_623), (0, f82_625), (0, f82_627), (0, f82_629), (0, f82_631), (0, f82_633), (0, f82_635), (0, f82_637), (0, f82_639), (2, 85), (2, 86), (2, 87), (0, f82_641 + 1), (2, 88), (2, 89), (2, 90), (2, 91), (2, 92), (2, 93), (2, 94), (4, f82_643), (4, f82_644), (0, f82_645), (2, 95), (2, 96), (2, 97), (2, 98), (2, 99), (2, 100), (2, 101), (2, 102), (0, f82_647), (2, 103), (2, 104), (2, 105), (2, 106), (2, 107), (2, 108), (2, 109), (0, f82_649), (0, f82_651), (2, 110), (2, 111), (2, 112), (2, 113)]) (hb672.get (by decide) h82_653) rfl rfl rfl (fun w674 hk675 hb676 => ?_)
          have hF677 : xFr [82, 85] w606 w674 := ((xFr.of (S := [82, 85]) hb672 (by decide)).tr (xFr.of (S := [82, 85]) hb676 (by decide)))
          have hA678 := FA_fr hF677 (by decide)
          have hf679 : fld w674 82 4 = f82_627 := fld_of hk675
          have hf680 : fld w674 82 5 = f82_629 := fld_of hk675
          have hf681 : fld w674 82 7 = f82_633 := fld_of hk675
          have hf682 : fld w674 82 10 = f82_639 := fld_of hk675
          have hf683 : fld w674 82 14 = f82_641 + 1 := fld_of hk675
          have hu684 : mu w674 = 2 * (fld w674 82 4 - fld w674 82 5) + min 1 (fld w674 82 7) := rfl
          have pq685 := pk618
          unfold PK PS at pq685
          have hM686 : ∀ s, s < 7 → s ≠ 4 → rwv w674 85 s = rwv w 85 s := fun s hs hn => (rwv_of (hr671.but hb676 (by decide)) hs).trans ((if_neg hn).trans ((rwv_of h85_664 hs).symm.trans (mf621 s hs)))
          have hM687 : rwv w674 85 4 = u45 + 1 := (rwv_of (hr671.but hb676 (by decide)) (by decide)).trans ((if_pos rfl).trans (by omega))
          have hM688 : ∀ s, s < 7 → rwv w674 85 s ≤ rwv w 85 s + 1 := fun s hs => by
            by_cases z : s = 4
            · subst z; omega
            · rw [hM686 s hs z]; omega
          have hO689 : ∀ j, (j < 100 + 2 * u45 ∨ 102 + 2 * u45 ≤ j) → j < 140 → rwv w674 86 j = rwv w 86 j := fun j hj hl => (rwv_fr hF677 (by decide)).trans (os619 j hj hl)
          have hl691 : FA w606 ≠ 0 ∨ u45 < 20 := rg620
          have hN690 : FA w674 ≠ 0 ∨ 20 ≤ u45 ∨ True := Or.inr (Or.inr trivial)
          have hX692 : FA w674 ≠ 0 ∨ u45 < 20 := by omega
          have hD693 : FA w674 ≠ 0 ∨ (DATA w → DATA w674) := by
            by_cases z : FA w674 ≠ 0
            · exact Or.inl z
            · exact Or.inr (fun hd => hd.s4 hM686 hK48 hM687 (hX692.resolve_left z) hO689 ((hN690.resolve_left z).resolve_left (by have := hX692.resolve_left z; omega)))
          exact xg_e ⟨w674, ⟨rfl, rfl⟩, xMnv.up (S := [85, 82]) hI608 ((xFr.of (S := [85, 82]) hb672 (by decide)).tr (xFr.of (S := [85, 82]) hb676 (by decide))) (List.forall_mem_cons.mpr ⟨(show cpI 7 52 4294967295 (wget w674 85) from ⟨_, (hr671.but hb676 (by decide)), xrb (by omega) (hb665)⟩), List.forall_mem_cons.mpr ⟨(show cp82 (wget w674 82) from ⟨f82_623, f82_625, f82_627, f82_629, f82_631, f82_633, f82_635, f82_637, f82_639, f82_641 + 1, f82_643, f82_644, f82_645, f82_647, f82_649, f82_651, hk675, hb624, hb626, hb628, hb630, hb632, hb634, hb636, hb638, hb640, by omega, hb646, hb648, hb650, hb652, by omega⟩), fun _ h => absurd h List.not_mem_nil⟩⟩), ((hF565.tr (hF609.up (by decide))).tr ((xFr.of (S := [82, 83, 85, 86, 87]) hb672 (by decide)).tr (xFr.of (S := [82, 83, 85, 86, 87]) hb676 (by decide)))), ⟨fun h => by have := pq685.1 h; omega, (show fld w674 82 10 = 0 ∨ FA w674 ≠ 0 by omega), Or.inr ⟨by have := ms622; omega, by omega, hM688⟩, hD693, pk618.2.2.2.2.tr (K83.fr hF677 (by decide))⟩⟩
        · refine xg_t (xg_icT (u := f82_582) (v := 2) rfl xnm0 xnm0 (xj_neT hc605)) ?_
          refine xg_t (xg_blk (b := [(416, 1, 0, 0, 0, 0), (417, 3, 13, 140, 96, 183)]) rfl) ?_
          refine xg_t (xg_aload (va := (2, 82)) rfl rfl) ?_
          refine xg_cVv mX12_ends (vs := []) (rest := []) (cn1 := 0) (sl1 := 0) rfl (mEnds (hI564) hj567.2.2.2.1) rfl h82_602 rfl rfl rfl rfl rfl rfl (fun w694 hq695 => ?_)
          obtain ⟨hI696, hF697, hx698⟩ := hq695
          clear hb573 hb575 hb577 hb579 hb581 hb583 hb585 hb587 hb589 hb591 hb595 hb597 hb599 hb601
          obtain ⟨hv699, hv700, hv701, hv702, hv703⟩ := hx698
          have pk704 : PK w563 w694 := ⟨fun _ => hv699, by omega, by omega, Or.inr hv699, hv703⟩
          have pk705 : PK w w694 := PK.tr hj567 pk704
          have os706 : ∀ j, (j < 100 + 2 * u45 ∨ 102 + 2 * u45 ≤ j) → j < 140 → rwv w694 86 j = rwv w 86 j := fun j hj hl => (rwv_fr hF697 (by decide)).trans (hj568 j hj hl)
          have rg707 : FA w694 ≠ 0 ∨ u45 < 20 := hj571.imp_left pk704.1
          have mf708 : ∀ s, s < 7 → rwv w694 85 s = rwv w 85 s := fun s hs => (rwv_fr hF697 (by decide)).trans (hj570 s hs)
          have ms709 : mu w694 < mu w := Nat.lt_of_le_of_lt pk704.2.1 hj569
          clear hj571
          refine xg_t (xg_blk (b := [(420, 1, 0, 0, 0, 0), (421, 3, 1, 12, 11, 17), (424, 1, 2, 1, 0, 0), (425, 1, 39, 0, 0, 0), (426, 1, 10, 0, 0, 0), (427, 1, 3, 1, 0, 0), (428, 1, 11, 0, 0, 0), (429, 1, 17, 0, 0, 0), (430, 1, 0, 0, 0, 0), (431, 1, 19, 0, 0, 0), (432, 3, 1, 12, 14, 212), (435, 1, 3, 1, 0, 0), (436, 1, 11, 0, 0, 0), (437, 3, 14, 12, 14, 212), (440, 1, 12, 0, 0, 0)]) rfl) ?_
          obtain ⟨f82_710, f82_712, f82_714, f82_716, f82_718, f82_720, f82_722, f82_724, f82_726, f82_728, f82_730, f82_731, f82_732, f82_734, f82_736, f82_738, h82_740, hb711, hb713, hb715, hb717, hb719, hb721, hb723, hb725, hb727, hb729, hb733, hb735, hb737, hb739, hb741⟩ := (hI696 82 (by decide) (by decide) : cp82 (wget w694 82))
          replace hb713 := xHid.of hb713
          replace hb719 := xHid.of hb719
          replace hb723 := xHid.of hb723
          replace hb725 := xHid.of hb725
          replace hb729 := xHid.of hb729
          replace hb733 := xHid.of hb733
          replace hb735 := xHid.of hb735
          replace hb737 := xHid.of hb737
          replace hb739 := xHid.of hb739
          have hf742 : fld w694 82 4 = f82_714 := fld_of h82_740
          have hf743 : fld w694 82 5 = f82_716 := fld_of h82_740
          have hf744 : fld w694 82 7 = f82_720 := fld_of h82_740
          have hf745 : fld w694 82 10 = f82_726 := fld_of h82_740
          have hf746 : fld w694 82 14 = f82_728 := fld_of h82_740
          have hu747 : mu w694 = 2 * (fld w694 82 4 - fld w694 82 5) + min 1 (fld w694 82 7) := rfl
          have hf748 := pk705.2.2.1
          have hl749 : f82_728 ≤ 1000 := by omega
          refine xg_t (xg_aload (va := (2, 82)) rfl rfl) ?_
          refine xg_t (xg_getf (va := (2, 85)) h82_740 rfl) ?_
          refine xg_t (xg_iload (va := (0, 4)) rfl rfl) ?_
          refine xg_t (xg_dup2 rfl) ?_
          obtain ⟨g85_750, h85_751, hb752⟩ := (hI696 85 (by decide) (by decide) : cpI 7 52 4294967295 (wget w694 85))
          have h85_751 : xRow w694 85 7 52 g85_750 := h85_751
          refine xg_ialdB (n := 4) (B := 4294967295) h85_751 (hb752) xnm0 (by omega) (fun u753 hu754 he755 => ?_)
          have hl756 : u753 = u45 := by have q1 := rwv_of h85_751 (show 4 < 7 by decide); have q2 := mf708 4 (by decide); omega
          refine xg_t (xg_const) ?_
          refine xg_t (xg_iadd (u := u753) (v := 1) (z := u753 + 1) xnm0 xnm0 (by omega)) ?_
          refine xg_iastK (n := 4) (u := u753 + 1) h85_751 xnm0 xnm0 rfl (by omega) (fun w757 hr758 hb759 => ?_)
          refine xg_t (xg_aload (va := (2, 82)) rfl rfl) ?_
          refine xg_t (xg_dup rfl) ?_
          refine xg_t (xg_getf (va := (0, f82_728)) (hb759.get (by decide) h82_740) rfl) ?_
          have hn760 := id hb729
          unfold xHid at hn760
          refine xg_t (xg_const) ?_
          refine xg_t (xg_iadd (u := f82_728) (v := 1) (z := f82_728 + 1) xnm0 xnm0 (by omega)) ?_
          refine xg_putI (fl1 := [(2, 83), (2, 84), (0, f82_710), (0, f82_712), (0, f82_714), (0, f82_716), (0, f82_718), (0, f82_720), (0, f82_722), (0, f82_724), (0, f82_726), (2, 85), (2, 86), (2, 87), (0, f82_728 + 1), (2, 88), (2, 89), (2, 90), (2, 91), (2, 92), (2, 93), (2, 94), (4, f82_730), (4, f82_731), (0, f82_732), (2, 95), (2, 96), (2, 97), (2, 98), (2, 99), (2, 100), (2, 101), (2, 102), (0, f82_734), (2, 103), (2, 104), (2, 105), (2, 106), (2, 107), (2, 108), (2, 109), (0, f82_736), (0, f82_738), (2, 110), (2, 111), (2, 112), (2, 113)]) (hb759.get (by decide) h82_740) rfl rfl rfl (fun w761 hk762 hb763 => ?_)
          have hF764 : xFr [82, 85] w694 w761 := ((xFr.of (S := [82, 85]) hb759 (by decide)).tr (xFr.of (S := [82, 85]) hb763 (by decide)))
          have hA765 := FA_fr hF764 (by decide)
          have hf766 : fld w761 82 4 = f82_714 := fld_of hk762
          have hf767 : fld w761 82 5 = f82_716 := fld_of hk762
          have hf768 : fld w761 82 7 = f82_720 := fld_of hk762
          have hf769 : fld w761 82 10 = f82_726 := fld_of hk762
          have hf770 : fld w761 82 14 = f82_728 + 1 := fld_of hk762
          have hu771 : mu w761 = 2 * (fld w761 82 4 - fld w761 82 5) + min 1 (fld w761 82 7) := rfl
          have pq772 := pk705
          unfold PK PS at pq772
          have hM773 : ∀ s, s < 7 → s ≠ 4 → rwv w761 85 s = rwv w 85 s := fun s hs hn => (rwv_of (hr758.but hb763 (by decide)) hs).trans ((if_neg hn).trans ((rwv_of h85_751 hs).symm.trans (mf708 s hs)))
          have hM774 : rwv w761 85 4 = u45 + 1 := (rwv_of (hr758.but hb763 (by decide)) (by decide)).trans ((if_pos rfl).trans (by omega))
          have hM775 : ∀ s, s < 7 → rwv w761 85 s ≤ rwv w 85 s + 1 := fun s hs => by
            by_cases z : s = 4
            · subst z; omega
            · rw [hM773 s hs z]; omega
          have hO776 : ∀ j, (j < 100 + 2 * u45 ∨ 102 + 2 * u45 ≤ j) → j < 140 → rwv w761 86 j = rwv w 86 j := fun j hj hl => (rwv_fr hF764 (by decide)).trans (os706 j hj hl)
          have hl778 : FA w694 ≠ 0 ∨ u45 < 20 := rg707
          have hN777 : FA w761 ≠ 0 ∨ 20 ≤ u45 ∨ True := Or.inr (Or.inr trivial)
          have hX779 : FA w761 ≠ 0 ∨ u45 < 20 := by omega
          have hD780 : FA w761 ≠ 0 ∨ (DATA w → DATA w761) := by
            by_cases z : FA w761 ≠ 0
            · exact Or.inl z
            · exact Or.inr (fun hd => hd.s4 hM773 hK48 hM774 (hX779.resolve_left z) hO776 ((hN777.resolve_left z).resolve_left (by have := hX779.resolve_left z; omega)))
          exact xg_e ⟨w761, ⟨rfl, rfl⟩, xMnv.up (S := [85, 82]) hI696 ((xFr.of (S := [85, 82]) hb759 (by decide)).tr (xFr.of (S := [85, 82]) hb763 (by decide))) (List.forall_mem_cons.mpr ⟨(show cpI 7 52 4294967295 (wget w761 85) from ⟨_, (hr758.but hb763 (by decide)), xrb (by omega) (hb752)⟩), List.forall_mem_cons.mpr ⟨(show cp82 (wget w761 82) from ⟨f82_710, f82_712, f82_714, f82_716, f82_718, f82_720, f82_722, f82_724, f82_726, f82_728 + 1, f82_730, f82_731, f82_732, f82_734, f82_736, f82_738, hk762, hb711, hb713, hb715, hb717, hb719, hb721, hb723, hb725, hb727, by omega, hb733, hb735, hb737, hb739, by omega⟩), fun _ h => absurd h List.not_mem_nil⟩⟩), ((hF565.tr (hF697.up (by decide))).tr ((xFr.of (S := [82, 83, 85, 86, 87]) hb759 (by decide)).tr (xFr.of (S := [82, 83, 85, 86, 87]) hb763 (by decide)))), ⟨fun h => by have := pq772.1 h; omega, (show fld w761 82 10 = 0 ∨ FA w761 ≠ 0 by omega), Or.inr ⟨by have := ms709; omega, by omega, hM775⟩, hD780, pk705.2.2.2.2.tr (K83.fr hF764 (by decide))⟩⟩
      · refine xg_t (xg_ifT (u := f82_588) rfl xnm0 (xj_neT hc604)) ?_
        refine xg_t (xg_blk (b := [(416, 1, 0, 0, 0, 0), (417, 3, 13, 140, 96, 183)]) rfl) ?_
        refine xg_t (xg_aload (va := (2, 82)) rfl rfl) ?_
        refine xg_cVv mX12_ends (vs := []) (rest := []) (cn1 := 0) (sl1 := 0) rfl (mEnds (hI564) hj567.2.2.2.1) rfl h82_602 rfl rfl rfl rfl rfl rfl (fun w781 hq782 => ?_)
        obtain ⟨hI783, hF784, hx785⟩ := hq782
        clear hb573 hb575 hb577 hb579 hb581 hb583 hb585 hb587 hb589 hb591 hb595 hb597 hb599 hb601
        obtain ⟨hv786, hv787, hv788, hv789, hv790⟩ := hx785
        have pk791 : PK w563 w781 := ⟨fun _ => hv786, by omega, by omega, Or.inr hv786, hv790⟩
        have pk792 : PK w w781 := PK.tr hj567 pk791
        have os793 : ∀ j, (j < 100 + 2 * u45 ∨ 102 + 2 * u45 ≤ j) → j < 140 → rwv w781 86 j = rwv w 86 j := fun j hj hl => (rwv_fr hF784 (by decide)).trans (hj568 j hj hl)
        have rg794 : FA w781 ≠ 0 ∨ u45 < 20 := hj571.imp_left pk791.1
        have mf795 : ∀ s, s < 7 → rwv w781 85 s = rwv w 85 s := fun s hs => (rwv_fr hF784 (by decide)).trans (hj570 s hs)
        have ms796 : mu w781 < mu w := Nat.lt_of_le_of_lt pk791.2.1 hj569
        clear hj571
        refine xg_t (xg_blk (b := [(420, 1, 0, 0, 0, 0), (421, 3, 1, 12, 11, 17), (424, 1, 2, 1, 0, 0), (425, 1, 39, 0, 0, 0), (426, 1, 10, 0, 0, 0), (427, 1, 3, 1, 0, 0), (428, 1, 11, 0, 0, 0), (429, 1, 17, 0, 0, 0), (430, 1, 0, 0, 0, 0), (431, 1, 19, 0, 0, 0), (432, 3, 1, 12, 14, 212), (435, 1, 3, 1, 0, 0), (436, 1, 11, 0, 0, 0), (437, 3, 14, 12, 14, 212), (440, 1, 12, 0, 0, 0)]) rfl) ?_
        obtain ⟨f82_797, f82_799, f82_801, f82_803, f82_805, f82_807, f82_809, f82_811, f82_813, f82_815, f82_817, f82_818, f82_819, f82_821, f82_823, f82_825, h82_827, hb798, hb800, hb802, hb804, hb806, hb808, hb810, hb812, hb814, hb816, hb820, hb822, hb824, hb826, hb828⟩ := (hI783 82 (by decide) (by decide) : cp82 (wget w781 82))
        replace hb800 := xHid.of hb800
        replace hb806 := xHid.of hb806
        replace hb810 := xHid.of hb810
        replace hb812 := xHid.of hb812
        replace hb816 := xHid.of hb816
        replace hb820 := xHid.of hb820
        replace hb822 := xHid.of hb822
        replace hb824 := xHid.of hb824
        replace hb826 := xHid.of hb826
        have hf829 : fld w781 82 4 = f82_801 := fld_of h82_827
        have hf830 : fld w781 82 5 = f82_803 := fld_of h82_827
        have hf831 : fld w781 82 7 = f82_807 := fld_of h82_827
        have hf832 : fld w781 82 10 = f82_813 := fld_of h82_827
        have hf833 : fld w781 82 14 = f82_815 := fld_of h82_827
        have hu834 : mu w781 = 2 * (fld w781 82 4 - fld w781 82 5) + min 1 (fld w781 82 7) := rfl
        have hf835 := pk792.2.2.1
        have hl836 : f82_815 ≤ 1000 := by omega
        refine xg_t (xg_aload (va := (2, 82)) rfl rfl) ?_
        refine xg_t (xg_getf (va := (2, 85)) h82_827 rfl) ?_
        refine xg_t (xg_iload (va := (0, 4)) rfl rfl) ?_
        refine xg_t (xg_dup2 rfl) ?_
        obtain ⟨g85_837, h85_838, hb839⟩ := (hI783 85 (by decide) (by decide) : cpI 7 52 4294967295 (wget w781 85))
        have h85_838 : xRow w781 85 7 52 g85_837 := h85_838
        refine xg_ialdB (n := 4) (B := 4294967295) h85_838 (hb839) xnm0 (by omega) (fun u840 hu841 he842 => ?_)
        have hl843 : u840 = u45 := by have q1 := rwv_of h85_838 (show 4 < 7 by decide); have q2 := mf795 4 (by decide); omega
        refine xg_t (xg_const) ?_
        refine xg_t (xg_iadd (u := u840) (v := 1) (z := u840 + 1) xnm0 xnm0 (by omega)) ?_
        refine xg_iastK (n := 4) (u := u840 + 1) h85_838 xnm0 xnm0 rfl (by omega) (fun w844 hr845 hb846 => ?_)
        refine xg_t (xg_aload (va := (2, 82)) rfl rfl) ?_
        refine xg_t (xg_dup rfl) ?_
        refine xg_t (xg_getf (va := (0, f82_815)) (hb846.get (by decide) h82_827) rfl) ?_
        have hn847 := id hb816
        unfold xHid at hn847
        refine xg_t (xg_const) ?_
        refine xg_t (xg_iadd (u := f82_815) (v := 1) (z := f82_815 + 1) xnm0 xnm0 (by omega)) ?_
        refine xg_putI (fl1 := [(2, 83), (2, 84), (0, f82_797), (0, f82_799), (0, f82_801), (0, f82_803), (0, f82_805), (0, f82_807), (0, f82_809), (0, f82_811), (0, f82_813), (2, 85), (2, 86), (2, 87), (0, f82_815 + 1), (2, 88), (2, 89), (2, 90), (2, 91), (2, 92), (2, 93), (2, 94), (4, f82_817), (4, f82_818), (0, f82_819), (2, 95), (2, 96), (2, 97), (2, 98), (2, 99), (2, 100), (2, 101), (2, 102), (0, f82_821), (2, 103), (2, 104), (2, 105), (2, 106), (2, 107), (2, 108), (2, 109), (0, f82_823), (0, f82_825), (2, 110), (2, 111), (2, 112), (2, 113)]) (hb846.get (by decide) h82_827) rfl rfl rfl (fun w848 hk849 hb850 => ?_)
        have hF851 : xFr [82, 85] w781 w848 := ((xFr.of (S := [82, 85]) hb846 (by decide)).tr (xFr.of (S := [82, 85]) hb850 (by decide)))
        have hA852 := FA_fr hF851 (by decide)
        have hf853 : fld w848 82 4 = f82_801 := fld_of hk849
        have hf854 : fld w848 82 5 = f82_803 := fld_of hk849
        have hf855 : fld w848 82 7 = f82_807 := fld_of hk849
        have hf856 : fld w848 82 10 = f82_813 := fld_of hk849
        have hf857 : fld w848 82 14 = f82_815 + 1 := fld_of hk849
        have hu858 : mu w848 = 2 * (fld w848 82 4 - fld w848 82 5) + min 1 (fld w848 82 7) := rfl
        have pq859 := pk792
        unfold PK PS at pq859
        have hM860 : ∀ s, s < 7 → s ≠ 4 → rwv w848 85 s = rwv w 85 s := fun s hs hn => (rwv_of (hr845.but hb850 (by decide)) hs).trans ((if_neg hn).trans ((rwv_of h85_838 hs).symm.trans (mf795 s hs)))
        have hM861 : rwv w848 85 4 = u45 + 1 := (rwv_of (hr845.but hb850 (by decide)) (by decide)).trans ((if_pos rfl).trans (by omega))
        have hM862 : ∀ s, s < 7 → rwv w848 85 s ≤ rwv w 85 s + 1 := fun s hs => by
          by_cases z : s = 4
          · subst z; omega
          · rw [hM860 s hs z]; omega
        have hO863 : ∀ j, (j < 100 + 2 * u45 ∨ 102 + 2 * u45 ≤ j) → j < 140 → rwv w848 86 j = rwv w 86 j := fun j hj hl => (rwv_fr hF851 (by decide)).trans (os793 j hj hl)
        have hl865 : FA w781 ≠ 0 ∨ u45 < 20 := rg794
        have hN864 : FA w848 ≠ 0 ∨ 20 ≤ u45 ∨ True := Or.inr (Or.inr trivial)
        have hX866 : FA w848 ≠ 0 ∨ u45 < 20 := by omega
        have hD867 : FA w848 ≠ 0 ∨ (DATA w → DATA w848) := by
          by_cases z : FA w848 ≠ 0
          · exact Or.inl z
          · exact Or.inr (fun hd => hd.s4 hM860 hK48 hM861 (hX866.resolve_left z) hO863 ((hN864.resolve_left z).resolve_left (by have := hX866.resolve_left z; omega)))
        exact xg_e ⟨w848, ⟨rfl, rfl⟩, xMnv.up (S := [85, 82]) hI783 ((xFr.of (S := [85, 82]) hb846 (by decide)).tr (xFr.of (S := [85, 82]) hb850 (by decide))) (List.forall_mem_cons.mpr ⟨(show cpI 7 52 4294967295 (wget w848 85) from ⟨_, (hr845.but hb850 (by decide)), xrb (by omega) (hb839)⟩), List.forall_mem_cons.mpr ⟨(show cp82 (wget w848 82) from ⟨f82_797, f82_799, f82_801, f82_803, f82_805, f82_807, f82_809, f82_811, f82_813, f82_815 + 1, f82_817, f82_818, f82_819, f82_821, f82_823, f82_825, hk849, hb798, hb800, hb802, hb804, hb806, hb808, hb810, hb812, hb814, by omega, hb820, hb822, hb824, hb826, by omega⟩), fun _ h => absurd h List.not_mem_nil⟩⟩), ((hF565.tr (hF784.up (by decide))).tr ((xFr.of (S := [82, 83, 85, 86, 87]) hb846 (by decide)).tr (xFr.of (S := [82, 83, 85, 86, 87]) hb850 (by decide)))), ⟨fun h => by have := pq859.1 h; omega, (show fld w848 82 10 = 0 ∨ FA w848 ≠ 0 by omega), Or.inr ⟨by have := ms796; omega, by omega, hM862⟩, hD867, pk792.2.2.2.2.tr (K83.fr hF851 (by decide))⟩⟩
    refine xg_t (xg_iload (va := (0, 4)) rfl rfl) ?_
    refine xg_t (xg_swt (ks := [(0, 108), (1, 116), (2, 180), (3, 221), (4, 273), (5, 326)]) (u := 4) (z := 273) rfl rfl rfl xnm0 (xsw_n (by omega) (xsw_n (by omega) (xsw_n (by omega) (xsw_n (by omega) (xsw_y rfl)))))) ?_
    refine xg_t (xg_blk (b := [(273, 1, 2, 3, 0, 0), (274, 2, 4, 20, 0, 0), (276, 3, 6, 286, 3, 0), (279, 1, 0, 0, 0, 0), (280, 3, 1, 12, 13, 23), (283, 1, 2, 3, 0, 0), (284, 1, 2, 2, 0, 0), (285, 1, 17, 0, 0, 0)]) rfl) ?_
    refine xg_t (xg_iload (va := (0, u45)) rfl rfl) ?_
    refine xg_t (xg_bip) ?_
    refine xg_t (xg_icT (u := u45) (v := 20) rfl xnm0 xnm0 (xj_geT (by omega) (by omega))) ?_
    refine xg_t (xg_blk (b := [(286, 1, 3, 0, 0, 0), (287, 2, 15, 4, 0, 0)]) rfl) ?_
    refine xg_t (xg_const) ?_
    refine xg_t (xg_istore (l1 := [(3, (0, u45)), (2, (0, at_)), (1, (0, 4)), (0, (2, 82))]) rfl rfl rfl) ?_
    refine xg_t (xg_blk (b := [(289, 2, 2, 4, 0, 0), (291, 1, 3, 2, 0, 0), (292, 3, 6, 323, 3, 0), (295, 1, 0, 0, 0, 0), (296, 1, 2, 1, 0, 0), (297, 1, 2, 3, 0, 0), (298, 2, 4, 100, 0, 0), (300, 1, 3, 2, 0, 0), (301, 1, 2, 3, 0, 0), (302, 1, 16, 0, 0, 0), (303, 1, 11, 0, 0, 0), (304, 2, 2, 4, 0, 0), (306, 1, 11, 0, 0, 0), (307, 1, 0, 0, 0, 0), (308, 1, 3, 0, 0, 0), (309, 2, 4, 9, 0, 0), (311, 3, 13, 199, 96, 196), (314, 3, 13, 211, 96, 200), (317, 3, 9, 4, 1, 0), (320, 3, 8, 289, 0, 0)]) rfl) ?_
    refine xg_t (xg_iload (va := (0, 0)) rfl rfl) ?_
    refine xg_t (xg_const) ?_
    refine xg_t (xg_icF (u := 0) (v := 2) rfl xnm0 xnm0 (by decide)) ?_
    refine xg_t (xg_aload (va := (2, 82)) rfl rfl) ?_
    refine xg_t (xg_iload (va := (0, 4)) rfl rfl) ?_
    refine xg_t (xg_iload (va := (0, u45)) rfl rfl) ?_
    refine xg_t (xg_bip) ?_
    refine xg_t (xg_const) ?_
    refine xg_t (xg_iload (va := (0, u45)) rfl rfl) ?_
    refine xg_t (xg_imul (u := 2) (v := u45) (z := 2 * u45) xnm0 xnm0 (by omega)) ?_
    refine xg_t (xg_iadd (u := 100) (v := 2 * u45) (z := 100 + (2 * u45)) xnm0 xnm0 (by omega)) ?_
    refine xg_t (xg_iload (va := (0, 0)) rfl rfl) ?_
    refine xg_t (xg_iadd (u := 100 + (2 * u45)) (v := 0) (z := (100 + (2 * u45)) + 0) xnm0 xnm0 (by omega)) ?_
    refine xg_t (xg_aload (va := (2, 82)) rfl rfl) ?_
    refine xg_t (xg_const) ?_
    refine xg_t (xg_bip) ?_
    obtain ⟨f82_868, f82_870, f82_872, f82_874, f82_876, f82_878, f82_880, f82_882, f82_884, f82_886, f82_888, f82_889, f82_890, f82_892, f82_894, f82_896, h82_898, hb869, hb871, hb873, hb875, hb877, hb879, hb881, hb883, hb885, hb887, hb891, hb893, hb895, hb897, hb899⟩ := (hI547 82 (by decide) (by decide) : cp82 (wget w545 82))
    replace hb871 := xHid.of hb871
    replace hb877 := xHid.of hb877
    replace hb881 := xHid.of hb881
    replace hb883 := xHid.of hb883
    replace hb887 := xHid.of hb887
    replace hb891 := xHid.of hb891
    replace hb893 := xHid.of hb893
    replace hb895 := xHid.of hb895
    replace hb897 := xHid.of hb897
    refine xg_cVi mX12_numbered (vs := [(0, 0), (0, 9)]) (rest := [(0, (100 + (2 * u45)) + 0), (0, u45), (0, 4), (2, 82)]) (cn1 := 0) (sl1 := 0) rfl (mNumbered (hI547) (by omega) (by omega) pk557.2.2.2.1) rfl h82_898 rfl rfl rfl rfl rfl rfl (fun n904 w900 hq901 => ?_)
    obtain ⟨hn905, hI902, hF903⟩ := hq901
    clear hb869 hb871 hb873 hb875 hb877 hb879 hb881 hb883 hb885 hb887 hb891 hb893 hb895 hb897
    obtain ⟨hn906, hn907, hn908⟩ := hn905
    have pk909 : PK w w900 := PK.tr pk557 hn907
    have os910 : ∀ j, (j < 100 + 2 * u45 ∨ 102 + 2 * u45 ≤ j) → j < 140 → rwv w900 86 j = rwv w 86 j := fun j hj hl => (rwv_fr hF903 (by decide)).trans (os558 j hj hl)
    have rg911 : FA w900 ≠ 0 ∨ 0 = 1 := rg559.imp_left hn907.1
    have mf912 : ∀ s, s < 7 → rwv w900 85 s = rwv w 85 s := fun s hs => (rwv_fr hF903 (by decide)).trans (mf560 s hs)
    have ms913 : mu w900 < mu w := Nat.lt_of_le_of_lt hn907.2.1 ms561
    clear rg559
    obtain ⟨f82_914, f82_916, f82_918, f82_920, f82_922, f82_924, f82_926, f82_928, f82_930, f82_932, f82_934, f82_935, f82_936, f82_938, f82_940, f82_942, h82_944, hb915, hb917, hb919, hb921, hb923, hb925, hb927, hb929, hb931, hb933, hb937, hb939, hb941, hb943, hb945⟩ := (hI902 82 (by decide) (by decide) : cp82 (wget w900 82))
    replace hb917 := xHid.of hb917
    replace hb923 := xHid.of hb923
    replace hb927 := xHid.of hb927
    replace hb929 := xHid.of hb929
    replace hb933 := xHid.of hb933
    replace hb937 := xHid.of hb937
    replace hb939 := xHid.of hb939
    replace hb941 := xHid.of hb941
    replace hb943 := xHid.of hb943
    refine xg_cVv mX12_puts (vs := [(0, 4), (0, u45), (0, (100 + (2 * u45)) + 0), (0, n904)]) (rest := []) (cn1 := 0) (sl1 := 0) rfl (mPuts4 (hI902) (by omega) (by omega) (by omega) (fun _ => by omega)) rfl h82_944 rfl rfl rfl rfl rfl rfl (fun w946 hq947 => ?_)
    obtain ⟨hI948, hF949, hx950⟩ := hq947
    obtain ⟨hp951, hp952⟩ := hx950
    have pk953 : PK w w946 := PK.tr pk909 (PK.fr hF949 (by decide) (by decide) pk909.2.2.2.1)
    have os954 : ∀ j, (j < 100 + 2 * u45 ∨ 102 + 2 * u45 ≤ j) → j < 140 → rwv w946 86 j = rwv w 86 j := fun j hj hl => (hp952 j (by omega) hl).trans (os910 j hj hl)
    have rg955 : FA w946 ≠ 0 ∨ 0 = 1 := rg911.imp_left (PK.fr hF949 (by decide) (by decide) pk909.2.2.2.1).1
    have rg956 : FA w946 ≠ 0 ∨ (0 ≤ n904 ∧ n904 ≤ 9) := hn908.imp_left (PK.fr hF949 (by decide) (by decide) pk909.2.2.2.1).1
    have mf957 : ∀ s, s < 7 → rwv w946 85 s = rwv w 85 s := fun s hs => (rwv_fr hF949 (by decide)).trans (mf912 s hs)
    have ms958 : mu w946 < mu w := Nat.lt_of_le_of_lt (PK.fr hF949 (by decide) (by decide) pk909.2.2.2.1).2.1 ms913
    clear rg911 hn908
    refine xg_t (xg_iinc (u := 0) (z := 1) (l1 := [(3, (0, u45)), (2, (0, at_)), (1, (0, 4)), (0, (2, 82))]) rfl rfl (by decide) rfl) ?_
    refine xg_t (xg_goto) ?_
    refine xg_t (xg_blk (b := [(289, 2, 2, 4, 0, 0), (291, 1, 3, 2, 0, 0), (292, 3, 6, 323, 3, 0), (295, 1, 0, 0, 0, 0), (296, 1, 2, 1, 0, 0), (297, 1, 2, 3, 0, 0), (298, 2, 4, 100, 0, 0), (300, 1, 3, 2, 0, 0), (301, 1, 2, 3, 0, 0), (302, 1, 16, 0, 0, 0), (303, 1, 11, 0, 0, 0), (304, 2, 2, 4, 0, 0), (306, 1, 11, 0, 0, 0), (307, 1, 0, 0, 0, 0), (308, 1, 3, 0, 0, 0), (309, 2, 4, 9, 0, 0), (311, 3, 13, 199, 96, 196), (314, 3, 13, 211, 96, 200), (317, 3, 9, 4, 1, 0), (320, 3, 8, 289, 0, 0)]) rfl) ?_
    refine xg_t (xg_iload (va := (0, 1)) rfl rfl) ?_
    refine xg_t (xg_const) ?_
    refine xg_t (xg_icF (u := 1) (v := 2) rfl xnm0 xnm0 (by decide)) ?_
    refine xg_t (xg_aload (va := (2, 82)) rfl rfl) ?_
    refine xg_t (xg_iload (va := (0, 4)) rfl rfl) ?_
    refine xg_t (xg_iload (va := (0, u45)) rfl rfl) ?_
    refine xg_t (xg_bip) ?_
    refine xg_t (xg_const) ?_
    refine xg_t (xg_iload (va := (0, u45)) rfl rfl) ?_
    refine xg_t (xg_imul (u := 2) (v := u45) (z := 2 * u45) xnm0 xnm0 (by omega)) ?_
    refine xg_t (xg_iadd (u := 100) (v := 2 * u45) (z := 100 + (2 * u45)) xnm0 xnm0 (by omega)) ?_
    refine xg_t (xg_iload (va := (0, 1)) rfl rfl) ?_
    refine xg_t (xg_iadd (u := 100 + (2 * u45)) (v := 1) (z := (100 + (2 * u45)) + 1) xnm0 xnm0 (by omega)) ?_
    refine xg_t (xg_aload (va := (2, 82)) rfl rfl) ?_
    refine xg_t (xg_const) ?_
    refine xg_t (xg_bip) ?_
    refine xg_cVi mX12_numbered (vs := [(0, 0), (0, 9)]) (rest := [(0, (100 + (2 * u45)) + 1), (0, u45), (0, 4), (2, 82)]) (cn1 := 0) (sl1 := 0) rfl (mNumbered (hI948) (by omega) (by omega) pk953.2.2.2.1) rfl (hF949.get (by decide) h82_944) rfl rfl rfl rfl rfl rfl (fun n963 w959 hq960 => ?_)
    obtain ⟨hn964, hI961, hF962⟩ := hq960
    clear hb915 hb917 hb919 hb921 hb923 hb925 hb927 hb929 hb931 hb933 hb937 hb939 hb941 hb943
    obtain ⟨hn965, hn966, hn967⟩ := hn964
    have pk968 : PK w w959 := PK.tr pk953 hn966
    have os969 : ∀ j, (j < 100 + 2 * u45 ∨ 102 + 2 * u45 ≤ j) → j < 140 → rwv w959 86 j = rwv w 86 j := fun j hj hl => (rwv_fr hF962 (by decide)).trans (os954 j hj hl)
    have ix970 : u45 < 20 → rwv w959 86 ((100 + (2 * u45)) + 0) = n904 := fun h => (rwv_fr hF962 (by decide)).trans (hp951 h)
    have rg971 : FA w959 ≠ 0 ∨ 0 = 1 := rg955.imp_left hn966.1
    have rg972 : FA w959 ≠ 0 ∨ (0 ≤ n904 ∧ n904 ≤ 9) := rg956.imp_left hn966.1
    have mf973 : ∀ s, s < 7 → rwv w959 85 s = rwv w 85 s := fun s hs => (rwv_fr hF962 (by decide)).trans (mf957 s hs)
    have ms974 : mu w959 < mu w := Nat.lt_of_le_of_lt hn966.2.1 ms958
    clear hp951 rg955 rg956
    obtain ⟨f82_975, f82_977, f82_979, f82_981, f82_983, f82_985, f82_987, f82_989, f82_991, f82_993, f82_995, f82_996, f82_997, f82_999, f82_1001, f82_1003, h82_1005, hb976, hb978, hb980, hb982, hb984, hb986, hb988, hb990, hb992, hb994, hb998, hb1000, hb1002, hb1004, hb1006⟩ := (hI961 82 (by decide) (by decide) : cp82 (wget w959 82))
    replace hb978 := xHid.of hb978
    replace hb984 := xHid.of hb984
    replace hb988 := xHid.of hb988
    replace hb990 := xHid.of hb990
    replace hb994 := xHid.of hb994
    replace hb998 := xHid.of hb998
    replace hb1000 := xHid.of hb1000
    replace hb1002 := xHid.of hb1002
    replace hb1004 := xHid.of hb1004
    refine xg_cVv mX12_puts (vs := [(0, 4), (0, u45), (0, (100 + (2 * u45)) + 1), (0, n963)]) (rest := []) (cn1 := 0) (sl1 := 0) rfl (mPuts4 (hI961) (by omega) (by omega) (by omega) (fun _ => by omega)) rfl h82_1005 rfl rfl rfl rfl rfl rfl (fun w1007 hq1008 => ?_)
    obtain ⟨hI1009, hF1010, hx1011⟩ := hq1008
    obtain ⟨hp1012, hp1013⟩ := hx1011
    have pk1014 : PK w w1007 := PK.tr pk968 (PK.fr hF1010 (by decide) (by decide) pk968.2.2.2.1)
    have os1015 : ∀ j, (j < 100 + 2 * u45 ∨ 102 + 2 * u45 ≤ j) → j < 140 → rwv w1007 86 j = rwv w 86 j := fun j hj hl => (hp1013 j (by omega) hl).trans (os969 j hj hl)
    have ix1016 : u45 < 20 → rwv w1007 86 ((100 + (2 * u45)) + 0) = n904 := fun h => (hp1013 _ (by omega) (by omega)).trans (ix970 h)
    have rg1017 : FA w1007 ≠ 0 ∨ 0 = 1 := rg971.imp_left (PK.fr hF1010 (by decide) (by decide) pk968.2.2.2.1).1
    have rg1018 : FA w1007 ≠ 0 ∨ (0 ≤ n904 ∧ n904 ≤ 9) := rg972.imp_left (PK.fr hF1010 (by decide) (by decide) pk968.2.2.2.1).1
    have rg1019 : FA w1007 ≠ 0 ∨ (0 ≤ n963 ∧ n963 ≤ 9) := hn967.imp_left (PK.fr hF1010 (by decide) (by decide) pk968.2.2.2.1).1
    have mf1020 : ∀ s, s < 7 → rwv w1007 85 s = rwv w 85 s := fun s hs => (rwv_fr hF1010 (by decide)).trans (mf973 s hs)
    have ms1021 : mu w1007 < mu w := Nat.lt_of_le_of_lt (PK.fr hF1010 (by decide) (by decide) pk968.2.2.2.1).2.1 ms974
    clear ix970 rg971 rg972 hn967
    refine xg_t (xg_iinc (u := 1) (z := 2) (l1 := [(3, (0, u45)), (2, (0, at_)), (1, (0, 4)), (0, (2, 82))]) rfl rfl (by decide) rfl) ?_
    refine xg_t (xg_goto) ?_
    refine xg_t (xg_blk (b := [(289, 2, 2, 4, 0, 0), (291, 1, 3, 2, 0, 0), (292, 3, 6, 323, 3, 0), (295, 1, 0, 0, 0, 0), (296, 1, 2, 1, 0, 0), (297, 1, 2, 3, 0, 0), (298, 2, 4, 100, 0, 0), (300, 1, 3, 2, 0, 0), (301, 1, 2, 3, 0, 0), (302, 1, 16, 0, 0, 0), (303, 1, 11, 0, 0, 0), (304, 2, 2, 4, 0, 0), (306, 1, 11, 0, 0, 0), (307, 1, 0, 0, 0, 0), (308, 1, 3, 0, 0, 0), (309, 2, 4, 9, 0, 0), (311, 3, 13, 199, 96, 196), (314, 3, 13, 211, 96, 200), (317, 3, 9, 4, 1, 0), (320, 3, 8, 289, 0, 0)]) rfl) ?_
    refine xg_t (xg_iload (va := (0, 2)) rfl rfl) ?_
    refine xg_t (xg_const) ?_
    refine xg_t (xg_icT (u := 2) (v := 2) rfl xnm0 xnm0 (by decide)) ?_
    refine xg_t (xg_blk (b := [(323, 3, 8, 394, 0, 0)]) rfl) ?_
    refine xg_t (xg_goto) ?_
    refine xg_t (xg_drop (l1 := [(0, (2, 82)), (1, (0, 4)), (3, (0, u45))]) (List.forall_mem_cons.mpr ⟨List.mem_cons_of_mem _ (List.mem_cons_of_mem _ (List.mem_cons_of_mem _ (List.mem_cons_of_mem _ (List.mem_cons_self)))), List.forall_mem_cons.mpr ⟨List.mem_cons_of_mem _ (List.mem_cons_of_mem _ (List.mem_cons_of_mem _ (List.mem_cons_self))), List.forall_mem_cons.mpr ⟨List.mem_cons_of_mem _ (List.mem_cons_self), fun _ h => absurd h List.not_mem_nil⟩⟩⟩)) ?_
    have hX1022 : FA w1007 ≠ 0 ∨ u45 < 20 := Or.inl (by have q := rg1017; omega)
    exact jn562 w1007 (hI1009) (((((((hF536.up (by decide)).tr (hF548.up (by decide))).tr (hF903.up (by decide))).tr (hF949.up (by decide))).tr (hF962.up (by decide))).tr (hF1010.up (by decide)))) (⟨pk1014, os1015, ms1021, mf1020, hX1022⟩)
end XMB
