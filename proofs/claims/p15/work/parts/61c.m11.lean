/-! the model: lines of films, more -/
section XMB
variable {d : Nat} {w : List (List xE)} {bd : List (Nat × Nat)} {fc : List (Nat × Nat × Bool)} {rr : Nat × Nat}
set_option maxHeartbeats 60000000 in
theorem mALineS2 {at_ : Nat} (hI : xMnv w) (hps : PS w) (hmb : ∀ s, s < 7 → rwv w 85 s ≤ 1000) (hln : fld w 82 14 ≤ 1000) (h7 : fld w 82 7 = 3) (hat : at_ ≤ 4294967295) : xTo (d + 7) mX12_aLine (43, [], [(2, (0, at_)), (1, (0, 2)), (0, (2, 82))], [], (w, bd, fc, 0, 0, rr)) (fun φ => ∃ w', xEnd 0 [] (w', bd, fc, 0, 0, rr) φ ∧ xMnv w' ∧ xFr [82, 83, 85, 86, 87] w w' ∧ ((FA w ≠ 0 → FA w' ≠ 0) ∧ PS w' ∧ ((fld w' 82 10 = 1 ∧ mu w' = mu w ∧ fld w' 82 14 = fld w 82 14 ∧ ∀ s, s < 7 → rwv w' 85 s = rwv w 85 s) ∨ (mu w' < mu w ∧ fld w' 82 14 = fld w 82 14 + 1 ∧ ∀ s, s < 7 → rwv w' 85 s ≤ rwv w 85 s + 1)) ∧ (FA w' ≠ 0 ∨ (DATA w → DATA w')) ∧ K83 w w')) := by
  obtain ⟨f82_1, f82_3, f82_5, f82_7, f82_9, f82_11, f82_13, f82_15, f82_17, f82_19, f82_21, f82_22, f82_23, f82_25, f82_27, f82_29, h82_31, hb2, hb4, hb6, hb8, hb10, hb12, hb14, hb16, hb18, hb20, hb24, hb26, hb28, hb30, hb32⟩ := (hI 82 (by decide) (by decide) : cp82 (wget w 82))
  have hf33 : fld w 82 7 = f82_11 := fld_of h82_31
  have hf34 : fld w 82 10 = f82_17 := fld_of h82_31
  have hf35 : fld w 82 14 = f82_19 := fld_of h82_31
  have hps_ : fld w 82 10 = 0 ∨ FA w ≠ 0 := hps
  obtain ⟨g85_36, h85_37, hb38⟩ := (hI 85 (by decide) (by decide) : cpI 7 52 4294967295 (wget w 85))
  have h85_37 : xRow w 85 7 52 g85_36 := h85_37
  obtain ⟨g86_39, h86_40, hb41⟩ := (hI 86 (by decide) (by decide) : cpI 140 53 4294967295 (wget w 86))
  have h86_40 : xRow w 86 140 53 g86_39 := h86_40
  obtain ⟨g87_42, h87_43, hb44⟩ := (hI 87 (by decide) (by decide) : cpI 20 54 4294967295 (wget w 87))
  have h87_43 : xRow w 87 20 54 g87_42 := h87_43
  refine xg_t (xg_blk (b := [(43, 1, 0, 0, 0, 0), (44, 3, 1, 12, 11, 17), (47, 1, 2, 1, 0, 0), (48, 1, 10, 0, 0, 0), (49, 1, 15, 3, 0, 0), (50, 1, 2, 3, 0, 0), (51, 1, 2, 1, 0, 0), (52, 3, 13, 194, 98, 193), (55, 3, 6, 64, 2, 0), (58, 1, 0, 0, 0, 0), (59, 1, 3, 3, 0, 0), (60, 1, 2, 2, 0, 0), (61, 3, 13, 115, 96, 186)]) rfl) ?_
  refine xg_t (xg_aload (va := (2, 82)) rfl rfl) ?_
  refine xg_t (xg_getf (va := (2, 85)) h82_31 rfl) ?_
  refine xg_t (xg_iload (va := (0, 2)) rfl rfl) ?_
  refine xg_ialdB (n := 2) (B := 4294967295) h85_37 (hb38) xnm0 (by omega) (fun u45 hu46 he47 => ?_)
  have hK48 : rwv w 85 2 = u45 := (rwv_of h85_37 (by decide)).trans he47
  have hm49 := hmb 2 (by decide)
  have hl50 : u45 ≤ 1000 := by omega
  refine xg_t (xg_istore (l1 := [(2, (0, at_)), (1, (0, 2)), (0, (2, 82))]) rfl rfl rfl) ?_
  refine xg_t (xg_iload (va := (0, u45)) rfl rfl) ?_
  refine xg_t (xg_iload (va := (0, 2)) rfl rfl) ?_
  refine xg_t (xg_cSr mX12_mostOf (vs := [(0, 2)]) (rest := [(0, u45)]) (rs := [(0, 6), (0, u45)]) (cn1 := 0) (sl1 := 0) rfl (mMostR2) rfl rfl rfl rfl rfl rfl rfl rfl) ?_
  by_cases hc51 : u45 < 6
  · refine xg_t (xg_icT (u := u45) (v := 6) rfl xnm0 xnm0 (xj_ltT hc51 (by omega))) ?_
    refine xg_t (xg_blk (b := [(64, 1, 0, 0, 0, 0), (65, 3, 13, 110, 96, 190), (68, 1, 2, 1, 0, 0), (69, 39, 33, 362, 0, 9)]) rfl) ?_
    refine xg_t (xg_aload (va := (2, 82)) rfl rfl) ?_
    refine xg_cVv mX12_advance (vs := []) (rest := []) (cn1 := 0) (sl1 := 0) rfl (mAdvance (hI)) rfl h82_31 rfl rfl rfl rfl rfl rfl (fun w52 hq53 => ?_)
    obtain ⟨hI54, hF55, hx56⟩ := hq53
    clear hb2 hb4 hb6 hb8 hb10 hb12 hb14 hb16 hb18 hb20 hb24 hb26 hb28 hb30
    obtain ⟨hv57, hv58, hv59, hv60⟩ := hx56
    have hf62 := FA_fr hF55 (by decide)
    have hs63 := (PK.rf hps).2.2.2.1
    unfold PS at hs63
    have pk61 : PK w w52 := ⟨fun _ => by omega, hv57, hv60, (show fld w52 82 10 = 0 ∨ FA w52 ≠ 0 by omega), K83.fr hF55 (by decide)⟩
    clear hs63
    have pk64 : PK w w52 := PK.tr (PK.rf hps) pk61
    have os65 : ∀ j, (j < 60 + 2 * u45 ∨ 62 + 2 * u45 ≤ j) → j < 140 → rwv w52 86 j = rwv w 86 j := fun j hj hl => (rwv_fr hF55 (by decide)).trans ((fun j _ _ => rfl) j hj hl)
    have mf66 : ∀ s, s < 7 → rwv w52 85 s = rwv w 85 s := fun s hs => (rwv_fr hF55 (by decide)).trans ((fun _ _ => rfl) s hs)
    have ms67 : mu w52 < mu w := Nat.lt_of_lt_of_le (hv58 (by omega)) (PK.rf hps).2.1
    clear hv58
    have jn68 : ∀ (w69 : List (List xE)), xMnv w69 → xFr [82, 83, 85, 86, 87] w w69 → (PK w w69 ∧ (∀ j, (j < 60 + 2 * u45 ∨ 62 + 2 * u45 ≤ j) → j < 140 → rwv w69 86 j = rwv w 86 j) ∧ mu w69 < mu w ∧ (∀ s, s < 7 → rwv w69 85 s = rwv w 85 s) ∧ (FA w69 ≠ 0 ∨ u45 < 6)) → xTo (d + 7) mX12_aLine (394, [], [(0, (2, 82)), (1, (0, 2)), (3, (0, u45))], [], (w69, bd, fc, 0, 0, rr)) (fun φ => ∃ w', xEnd 0 [] (w', bd, fc, 0, 0, rr) φ ∧ xMnv w' ∧ xFr [82, 83, 85, 86, 87] w w' ∧ ((FA w ≠ 0 → FA w' ≠ 0) ∧ PS w' ∧ ((fld w' 82 10 = 1 ∧ mu w' = mu w ∧ fld w' 82 14 = fld w 82 14 ∧ ∀ s, s < 7 → rwv w' 85 s = rwv w 85 s) ∨ (mu w' < mu w ∧ fld w' 82 14 = fld w 82 14 + 1 ∧ ∀ s, s < 7 → rwv w' 85 s ≤ rwv w 85 s + 1)) ∧ (FA w' ≠ 0 ∨ (DATA w → DATA w')) ∧ K83 w w')) := by
      intro w69 hI70 hF71 he72
      obtain ⟨hj73, hj74, hj75, hj76, hj77⟩ := he72
      refine xg_t (xg_blk (b := [(394, 1, 0, 0, 0, 0), (395, 3, 1, 12, 10, 180), (398, 3, 7, 416, 1, 0), (401, 1, 0, 0, 0, 0), (402, 3, 1, 12, 7, 151), (405, 1, 3, 2, 0, 0), (406, 3, 6, 416, 1, 0), (409, 1, 0, 0, 0, 0), (410, 3, 13, 110, 96, 190), (413, 3, 8, 420, 0, 0)]) rfl) ?_
      refine xg_t (xg_aload (va := (2, 82)) rfl rfl) ?_
      obtain ⟨f82_78, f82_80, f82_82, f82_84, f82_86, f82_88, f82_90, f82_92, f82_94, f82_96, f82_98, f82_99, f82_100, f82_102, f82_104, f82_106, h82_108, hb79, hb81, hb83, hb85, hb87, hb89, hb91, hb93, hb95, hb97, hb101, hb103, hb105, hb107, hb109⟩ := (hI70 82 (by decide) (by decide) : cp82 (wget w69 82))
      refine xg_t (xg_getf (va := (0, f82_94)) h82_108 rfl) ?_
      by_cases hc110 : f82_94 = 0
      · refine xg_t (xg_ifF (u := f82_94) rfl xnm0 (xj_neF hc110)) ?_
        refine xg_t (xg_aload (va := (2, 82)) rfl rfl) ?_
        refine xg_t (xg_getf (va := (0, f82_88)) h82_108 rfl) ?_
        refine xg_t (xg_const) ?_
        by_cases hc111 : f82_88 = 2
        · refine xg_t (xg_icF (u := f82_88) (v := 2) rfl xnm0 xnm0 (xj_neF hc111)) ?_
          refine xg_t (xg_aload (va := (2, 82)) rfl rfl) ?_
          refine xg_cVv mX12_advance (vs := []) (rest := []) (cn1 := 0) (sl1 := 0) rfl (mAdvance (hI70)) rfl h82_108 rfl rfl rfl rfl rfl rfl (fun w112 hq113 => ?_)
          obtain ⟨hI114, hF115, hx116⟩ := hq113
          clear hb79 hb81 hb83 hb85 hb87 hb89 hb91 hb93 hb95 hb97 hb101 hb103 hb105 hb107
          obtain ⟨hv117, hv118, hv119, hv120⟩ := hx116
          have hf122 := FA_fr hF115 (by decide)
          have hs123 := hj73.2.2.2.1
          unfold PS at hs123
          have pk121 : PK w69 w112 := ⟨fun _ => by omega, hv117, hv120, (show fld w112 82 10 = 0 ∨ FA w112 ≠ 0 by omega), K83.fr hF115 (by decide)⟩
          clear hs123
          clear hv118
          have pk124 : PK w w112 := PK.tr hj73 pk121
          have os125 : ∀ j, (j < 60 + 2 * u45 ∨ 62 + 2 * u45 ≤ j) → j < 140 → rwv w112 86 j = rwv w 86 j := fun j hj hl => (rwv_fr hF115 (by decide)).trans (hj74 j hj hl)
          have rg126 : FA w112 ≠ 0 ∨ u45 < 6 := hj77.imp_left pk121.1
          have mf127 : ∀ s, s < 7 → rwv w112 85 s = rwv w 85 s := fun s hs => (rwv_fr hF115 (by decide)).trans (hj76 s hs)
          have ms128 : mu w112 < mu w := Nat.lt_of_le_of_lt pk121.2.1 hj75
          clear hj77
          refine xg_t (xg_goto) ?_
          refine xg_t (xg_blk (b := [(420, 1, 0, 0, 0, 0), (421, 3, 1, 12, 11, 17), (424, 1, 2, 1, 0, 0), (425, 1, 39, 0, 0, 0), (426, 1, 10, 0, 0, 0), (427, 1, 3, 1, 0, 0), (428, 1, 11, 0, 0, 0), (429, 1, 17, 0, 0, 0), (430, 1, 0, 0, 0, 0), (431, 1, 19, 0, 0, 0), (432, 3, 1, 12, 14, 212), (435, 1, 3, 1, 0, 0), (436, 1, 11, 0, 0, 0), (437, 3, 14, 12, 14, 212), (440, 1, 12, 0, 0, 0)]) rfl) ?_
          obtain ⟨f82_129, f82_131, f82_133, f82_135, f82_137, f82_139, f82_141, f82_143, f82_145, f82_147, f82_149, f82_150, f82_151, f82_153, f82_155, f82_157, h82_159, hb130, hb132, hb134, hb136, hb138, hb140, hb142, hb144, hb146, hb148, hb152, hb154, hb156, hb158, hb160⟩ := (hI114 82 (by decide) (by decide) : cp82 (wget w112 82))
          have hf161 : fld w112 82 4 = f82_133 := fld_of h82_159
          have hf162 : fld w112 82 5 = f82_135 := fld_of h82_159
          have hf163 : fld w112 82 7 = f82_139 := fld_of h82_159
          have hf164 : fld w112 82 10 = f82_145 := fld_of h82_159
          have hf165 : fld w112 82 14 = f82_147 := fld_of h82_159
          have hu166 : mu w112 = 2 * (fld w112 82 4 - fld w112 82 5) + min 1 (fld w112 82 7) := rfl
          have hf167 := pk124.2.2.1
          have hl168 : f82_147 ≤ 1000 := by omega
          refine xg_t (xg_aload (va := (2, 82)) rfl rfl) ?_
          refine xg_t (xg_getf (va := (2, 85)) h82_159 rfl) ?_
          refine xg_t (xg_iload (va := (0, 2)) rfl rfl) ?_
          refine xg_t (xg_dup2 rfl) ?_
          obtain ⟨g85_169, h85_170, hb171⟩ := (hI114 85 (by decide) (by decide) : cpI 7 52 4294967295 (wget w112 85))
          have h85_170 : xRow w112 85 7 52 g85_169 := h85_170
          refine xg_ialdB (n := 2) (B := 4294967295) h85_170 (hb171) xnm0 (by omega) (fun u172 hu173 he174 => ?_)
          have hl175 : u172 = u45 := by have q1 := rwv_of h85_170 (show 2 < 7 by decide); have q2 := mf127 2 (by decide); omega
          refine xg_t (xg_const) ?_
          refine xg_t (xg_iadd (u := u172) (v := 1) (z := u172 + 1) xnm0 xnm0 (by omega)) ?_
          refine xg_iastK (n := 2) (u := u172 + 1) h85_170 xnm0 xnm0 rfl (by omega) (fun w176 hr177 hb178 => ?_)
          refine xg_t (xg_aload (va := (2, 82)) rfl rfl) ?_
          refine xg_t (xg_dup rfl) ?_
          refine xg_t (xg_getf (va := (0, f82_147)) (hb178.get (by decide) h82_159) rfl) ?_
          refine xg_t (xg_const) ?_
          refine xg_t (xg_iadd (u := f82_147) (v := 1) (z := f82_147 + 1) xnm0 xnm0 (by omega)) ?_
          refine xg_putI (fl1 := [(2, 83), (2, 84), (0, f82_129), (0, f82_131), (0, f82_133), (0, f82_135), (0, f82_137), (0, f82_139), (0, f82_141), (0, f82_143), (0, f82_145), (2, 85), (2, 86), (2, 87), (0, f82_147 + 1), (2, 88), (2, 89), (2, 90), (2, 91), (2, 92), (2, 93), (2, 94), (4, f82_149), (4, f82_150), (0, f82_151), (2, 95), (2, 96), (2, 97), (2, 98), (2, 99), (2, 100), (2, 101), (2, 102), (0, f82_153), (2, 103), (2, 104), (2, 105), (2, 106), (2, 107), (2, 108), (2, 109), (0, f82_155), (0, f82_157), (2, 110), (2, 111), (2, 112), (2, 113)]) (hb178.get (by decide) h82_159) rfl rfl rfl (fun w179 hk180 hb181 => ?_)
          have hF182 : xFr [82, 85] w112 w179 := ((xFr.of (S := [82, 85]) hb178 (by decide)).tr (xFr.of (S := [82, 85]) hb181 (by decide)))
          have hA183 := FA_fr hF182 (by decide)
          have hf184 : fld w179 82 4 = f82_133 := fld_of hk180
          have hf185 : fld w179 82 5 = f82_135 := fld_of hk180
          have hf186 : fld w179 82 7 = f82_139 := fld_of hk180
          have hf187 : fld w179 82 10 = f82_145 := fld_of hk180
          have hf188 : fld w179 82 14 = f82_147 + 1 := fld_of hk180
          have hu189 : mu w179 = 2 * (fld w179 82 4 - fld w179 82 5) + min 1 (fld w179 82 7) := rfl
          have pq190 := pk124
          unfold PK PS at pq190
          have hM191 : ∀ s, s < 7 → s ≠ 2 → rwv w179 85 s = rwv w 85 s := fun s hs hn => (rwv_of (hr177.but hb181 (by decide)) hs).trans ((if_neg hn).trans ((rwv_of h85_170 hs).symm.trans (mf127 s hs)))
          have hM192 : rwv w179 85 2 = u45 + 1 := (rwv_of (hr177.but hb181 (by decide)) (by decide)).trans ((if_pos rfl).trans (by omega))
          have hM193 : ∀ s, s < 7 → rwv w179 85 s ≤ rwv w 85 s + 1 := fun s hs => by
            by_cases z : s = 2
            · subst z; omega
            · rw [hM191 s hs z]; omega
          have hO194 : ∀ j, (j < 60 + 2 * u45 ∨ 62 + 2 * u45 ≤ j) → j < 140 → rwv w179 86 j = rwv w 86 j := fun j hj hl => (rwv_fr hF182 (by decide)).trans (os125 j hj hl)
          have hl196 : FA w112 ≠ 0 ∨ u45 < 6 := rg126
          have hN195 : FA w179 ≠ 0 ∨ 6 ≤ u45 ∨ True := Or.inr (Or.inr trivial)
          have hX197 : FA w179 ≠ 0 ∨ u45 < 6 := by omega
          have hD198 : FA w179 ≠ 0 ∨ (DATA w → DATA w179) := by
            by_cases z : FA w179 ≠ 0
            · exact Or.inl z
            · exact Or.inr (fun hd => hd.s2 hM191 hK48 hM192 (hX197.resolve_left z) hO194 ((hN195.resolve_left z).resolve_left (by have := hX197.resolve_left z; omega)))
          exact xg_e ⟨w179, ⟨rfl, rfl⟩, xMnv.up (S := [85, 82]) hI114 ((xFr.of (S := [85, 82]) hb178 (by decide)).tr (xFr.of (S := [85, 82]) hb181 (by decide))) (List.forall_mem_cons.mpr ⟨(show cpI 7 52 4294967295 (wget w179 85) from ⟨_, (hr177.but hb181 (by decide)), xrb (by omega) (hb171)⟩), List.forall_mem_cons.mpr ⟨(show cp82 (wget w179 82) from ⟨f82_129, f82_131, f82_133, f82_135, f82_137, f82_139, f82_141, f82_143, f82_145, f82_147 + 1, f82_149, f82_150, f82_151, f82_153, f82_155, f82_157, hk180, hb130, hb132, hb134, hb136, hb138, hb140, hb142, hb144, hb146, by omega, hb152, hb154, hb156, hb158, by omega⟩), fun _ h => absurd h List.not_mem_nil⟩⟩), ((hF71.tr (hF115.up (by decide))).tr ((xFr.of (S := [82, 83, 85, 86, 87]) hb178 (by decide)).tr (xFr.of (S := [82, 83, 85, 86, 87]) hb181 (by decide)))), ⟨fun h => by have := pq190.1 h; omega, (show fld w179 82 10 = 0 ∨ FA w179 ≠ 0 by omega), Or.inr ⟨by have := ms128; omega, by omega, hM193⟩, hD198, pk124.2.2.2.2.tr (K83.fr hF182 (by decide))⟩⟩
        · refine xg_t (xg_icT (u := f82_88) (v := 2) rfl xnm0 xnm0 (xj_neT hc111)) ?_
          refine xg_t (xg_blk (b := [(416, 1, 0, 0, 0, 0), (417, 3, 13, 140, 96, 183)]) rfl) ?_
          refine xg_t (xg_aload (va := (2, 82)) rfl rfl) ?_
          refine xg_cVv mX12_ends (vs := []) (rest := []) (cn1 := 0) (sl1 := 0) rfl (mEnds (hI70) hj73.2.2.2.1) rfl h82_108 rfl rfl rfl rfl rfl rfl (fun w199 hq200 => ?_)
          obtain ⟨hI201, hF202, hx203⟩ := hq200
          clear hb79 hb81 hb83 hb85 hb87 hb89 hb91 hb93 hb95 hb97 hb101 hb103 hb105 hb107
          obtain ⟨hv204, hv205, hv206, hv207, hv208⟩ := hx203
          have pk209 : PK w69 w199 := ⟨fun _ => hv204, by omega, by omega, Or.inr hv204, hv208⟩
          have pk210 : PK w w199 := PK.tr hj73 pk209
          have os211 : ∀ j, (j < 60 + 2 * u45 ∨ 62 + 2 * u45 ≤ j) → j < 140 → rwv w199 86 j = rwv w 86 j := fun j hj hl => (rwv_fr hF202 (by decide)).trans (hj74 j hj hl)
          have rg212 : FA w199 ≠ 0 ∨ u45 < 6 := hj77.imp_left pk209.1
          have mf213 : ∀ s, s < 7 → rwv w199 85 s = rwv w 85 s := fun s hs => (rwv_fr hF202 (by decide)).trans (hj76 s hs)
          have ms214 : mu w199 < mu w := Nat.lt_of_le_of_lt pk209.2.1 hj75
          clear hj77
          refine xg_t (xg_blk (b := [(420, 1, 0, 0, 0, 0), (421, 3, 1, 12, 11, 17), (424, 1, 2, 1, 0, 0), (425, 1, 39, 0, 0, 0), (426, 1, 10, 0, 0, 0), (427, 1, 3, 1, 0, 0), (428, 1, 11, 0, 0, 0), (429, 1, 17, 0, 0, 0), (430, 1, 0, 0, 0, 0), (431, 1, 19, 0, 0, 0), (432, 3, 1, 12, 14, 212), (435, 1, 3, 1, 0, 0), (436, 1, 11, 0, 0, 0), (437, 3, 14, 12, 14, 212), (440, 1, 12, 0, 0, 0)]) rfl) ?_
          obtain ⟨f82_215, f82_217, f82_219, f82_221, f82_223, f82_225, f82_227, f82_229, f82_231, f82_233, f82_235, f82_236, f82_237, f82_239, f82_241, f82_243, h82_245, hb216, hb218, hb220, hb222, hb224, hb226, hb228, hb230, hb232, hb234, hb238, hb240, hb242, hb244, hb246⟩ := (hI201 82 (by decide) (by decide) : cp82 (wget w199 82))
          have hf247 : fld w199 82 4 = f82_219 := fld_of h82_245
          have hf248 : fld w199 82 5 = f82_221 := fld_of h82_245
          have hf249 : fld w199 82 7 = f82_225 := fld_of h82_245
          have hf250 : fld w199 82 10 = f82_231 := fld_of h82_245
          have hf251 : fld w199 82 14 = f82_233 := fld_of h82_245
          have hu252 : mu w199 = 2 * (fld w199 82 4 - fld w199 82 5) + min 1 (fld w199 82 7) := rfl
          have hf253 := pk210.2.2.1
          have hl254 : f82_233 ≤ 1000 := by omega
          refine xg_t (xg_aload (va := (2, 82)) rfl rfl) ?_
          refine xg_t (xg_getf (va := (2, 85)) h82_245 rfl) ?_
          refine xg_t (xg_iload (va := (0, 2)) rfl rfl) ?_
          refine xg_t (xg_dup2 rfl) ?_
          obtain ⟨g85_255, h85_256, hb257⟩ := (hI201 85 (by decide) (by decide) : cpI 7 52 4294967295 (wget w199 85))
          have h85_256 : xRow w199 85 7 52 g85_255 := h85_256
          refine xg_ialdB (n := 2) (B := 4294967295) h85_256 (hb257) xnm0 (by omega) (fun u258 hu259 he260 => ?_)
          have hl261 : u258 = u45 := by have q1 := rwv_of h85_256 (show 2 < 7 by decide); have q2 := mf213 2 (by decide); omega
          refine xg_t (xg_const) ?_
          refine xg_t (xg_iadd (u := u258) (v := 1) (z := u258 + 1) xnm0 xnm0 (by omega)) ?_
          refine xg_iastK (n := 2) (u := u258 + 1) h85_256 xnm0 xnm0 rfl (by omega) (fun w262 hr263 hb264 => ?_)
          refine xg_t (xg_aload (va := (2, 82)) rfl rfl) ?_
          refine xg_t (xg_dup rfl) ?_
          refine xg_t (xg_getf (va := (0, f82_233)) (hb264.get (by decide) h82_245) rfl) ?_
          refine xg_t (xg_const) ?_
          refine xg_t (xg_iadd (u := f82_233) (v := 1) (z := f82_233 + 1) xnm0 xnm0 (by omega)) ?_
          refine xg_putI (fl1 := [(2, 83), (2, 84), (0, f82_215), (0, f82_217), (0, f82_219), (0, f82_221), (0, f82_223), (0, f82_225), (0, f82_227), (0, f82_229), (0, f82_231), (2, 85), (2, 86), (2, 87), (0, f82_233 + 1), (2, 88), (2, 89), (2, 90), (2, 91), (2, 92), (2, 93), (2, 94), (4, f82_235), (4, f82_236), (0, f82_237), (2, 95), (2, 96), (2, 97), (2, 98), (2, 99), (2, 100), (2, 101), (2, 102), (0, f82_239), (2, 103), (2, 104), (2, 105), (2, 106), (2, 107), (2, 108), (2, 109), (0, f82_241), (0, f82_243), (2, 110), (2, 111), (2, 112), (2, 113)]) (hb264.get (by decide) h82_245) rfl rfl rfl (fun w265 hk266 hb267 => ?_)
          have hF268 : xFr [82, 85] w199 w265 := ((xFr.of (S := [82, 85]) hb264 (by decide)).tr (xFr.of (S := [82, 85]) hb267 (by decide)))
          have hA269 := FA_fr hF268 (by decide)
          have hf270 : fld w265 82 4 = f82_219 := fld_of hk266
          have hf271 : fld w265 82 5 = f82_221 := fld_of hk266
          have hf272 : fld w265 82 7 = f82_225 := fld_of hk266
          have hf273 : fld w265 82 10 = f82_231 := fld_of hk266
          have hf274 : fld w265 82 14 = f82_233 + 1 := fld_of hk266
          have hu275 : mu w265 = 2 * (fld w265 82 4 - fld w265 82 5) + min 1 (fld w265 82 7) := rfl
          have pq276 := pk210
          unfold PK PS at pq276
          have hM277 : ∀ s, s < 7 → s ≠ 2 → rwv w265 85 s = rwv w 85 s := fun s hs hn => (rwv_of (hr263.but hb267 (by decide)) hs).trans ((if_neg hn).trans ((rwv_of h85_256 hs).symm.trans (mf213 s hs)))
          have hM278 : rwv w265 85 2 = u45 + 1 := (rwv_of (hr263.but hb267 (by decide)) (by decide)).trans ((if_pos rfl).trans (by omega))
          have hM279 : ∀ s, s < 7 → rwv w265 85 s ≤ rwv w 85 s + 1 := fun s hs => by
            by_cases z : s = 2
            · subst z; omega
            · rw [hM277 s hs z]; omega
          have hO280 : ∀ j, (j < 60 + 2 * u45 ∨ 62 + 2 * u45 ≤ j) → j < 140 → rwv w265 86 j = rwv w 86 j := fun j hj hl => (rwv_fr hF268 (by decide)).trans (os211 j hj hl)
          have hl282 : FA w199 ≠ 0 ∨ u45 < 6 := rg212
          have hN281 : FA w265 ≠ 0 ∨ 6 ≤ u45 ∨ True := Or.inr (Or.inr trivial)
          have hX283 : FA w265 ≠ 0 ∨ u45 < 6 := by omega
          have hD284 : FA w265 ≠ 0 ∨ (DATA w → DATA w265) := by
            by_cases z : FA w265 ≠ 0
            · exact Or.inl z
            · exact Or.inr (fun hd => hd.s2 hM277 hK48 hM278 (hX283.resolve_left z) hO280 ((hN281.resolve_left z).resolve_left (by have := hX283.resolve_left z; omega)))
          exact xg_e ⟨w265, ⟨rfl, rfl⟩, xMnv.up (S := [85, 82]) hI201 ((xFr.of (S := [85, 82]) hb264 (by decide)).tr (xFr.of (S := [85, 82]) hb267 (by decide))) (List.forall_mem_cons.mpr ⟨(show cpI 7 52 4294967295 (wget w265 85) from ⟨_, (hr263.but hb267 (by decide)), xrb (by omega) (hb257)⟩), List.forall_mem_cons.mpr ⟨(show cp82 (wget w265 82) from ⟨f82_215, f82_217, f82_219, f82_221, f82_223, f82_225, f82_227, f82_229, f82_231, f82_233 + 1, f82_235, f82_236, f82_237, f82_239, f82_241, f82_243, hk266, hb216, hb218, hb220, hb222, hb224, hb226, hb228, hb230, hb232, by omega, hb238, hb240, hb242, hb244, by omega⟩), fun _ h => absurd h List.not_mem_nil⟩⟩), ((hF71.tr (hF202.up (by decide))).tr ((xFr.of (S := [82, 83, 85, 86, 87]) hb264 (by decide)).tr (xFr.of (S := [82, 83, 85, 86, 87]) hb267 (by decide)))), ⟨fun h => by have := pq276.1 h; omega, (show fld w265 82 10 = 0 ∨ FA w265 ≠ 0 by omega), Or.inr ⟨by have := ms214; omega, by omega, hM279⟩, hD284, pk210.2.2.2.2.tr (K83.fr hF268 (by decide))⟩⟩
      · refine xg_t (xg_ifT (u := f82_94) rfl xnm0 (xj_neT hc110)) ?_
        refine xg_t (xg_blk (b := [(416, 1, 0, 0, 0, 0), (417, 3, 13, 140, 96, 183)]) rfl) ?_
        refine xg_t (xg_aload (va := (2, 82)) rfl rfl) ?_
        refine xg_cVv mX12_ends (vs := []) (rest := []) (cn1 := 0) (sl1 := 0) rfl (mEnds (hI70) hj73.2.2.2.1) rfl h82_108 rfl rfl rfl rfl rfl rfl (fun w285 hq286 => ?_)
        obtain ⟨hI287, hF288, hx289⟩ := hq286
        clear hb79 hb81 hb83 hb85 hb87 hb89 hb91 hb93 hb95 hb97 hb101 hb103 hb105 hb107
        obtain ⟨hv290, hv291, hv292, hv293, hv294⟩ := hx289
        have pk295 : PK w69 w285 := ⟨fun _ => hv290, by omega, by omega, Or.inr hv290, hv294⟩
        have pk296 : PK w w285 := PK.tr hj73 pk295
        have os297 : ∀ j, (j < 60 + 2 * u45 ∨ 62 + 2 * u45 ≤ j) → j < 140 → rwv w285 86 j = rwv w 86 j := fun j hj hl => (rwv_fr hF288 (by decide)).trans (hj74 j hj hl)
        have rg298 : FA w285 ≠ 0 ∨ u45 < 6 := hj77.imp_left pk295.1
        have mf299 : ∀ s, s < 7 → rwv w285 85 s = rwv w 85 s := fun s hs => (rwv_fr hF288 (by decide)).trans (hj76 s hs)
        have ms300 : mu w285 < mu w := Nat.lt_of_le_of_lt pk295.2.1 hj75
        clear hj77
        refine xg_t (xg_blk (b := [(420, 1, 0, 0, 0, 0), (421, 3, 1, 12, 11, 17), (424, 1, 2, 1, 0, 0), (425, 1, 39, 0, 0, 0), (426, 1, 10, 0, 0, 0), (427, 1, 3, 1, 0, 0), (428, 1, 11, 0, 0, 0), (429, 1, 17, 0, 0, 0), (430, 1, 0, 0, 0, 0), (431, 1, 19, 0, 0, 0), (432, 3, 1, 12, 14, 212), (435, 1, 3, 1, 0, 0), (436, 1, 11, 0, 0, 0), (437, 3, 14, 12, 14, 212), (440, 1, 12, 0, 0, 0)]) rfl) ?_
        obtain ⟨f82_301, f82_303, f82_305, f82_307, f82_309, f82_311, f82_313, f82_315, f82_317, f82_319, f82_321, f82_322, f82_323, f82_325, f82_327, f82_329, h82_331, hb302, hb304, hb306, hb308, hb310, hb312, hb314, hb316, hb318, hb320, hb324, hb326, hb328, hb330, hb332⟩ := (hI287 82 (by decide) (by decide) : cp82 (wget w285 82))
        have hf333 : fld w285 82 4 = f82_305 := fld_of h82_331
        have hf334 : fld w285 82 5 = f82_307 := fld_of h82_331
        have hf335 : fld w285 82 7 = f82_311 := fld_of h82_331
        have hf336 : fld w285 82 10 = f82_317 := fld_of h82_331
        have hf337 : fld w285 82 14 = f82_319 := fld_of h82_331
        have hu338 : mu w285 = 2 * (fld w285 82 4 - fld w285 82 5) + min 1 (fld w285 82 7) := rfl
        have hf339 := pk296.2.2.1
        have hl340 : f82_319 ≤ 1000 := by omega
        refine xg_t (xg_aload (va := (2, 82)) rfl rfl) ?_
        refine xg_t (xg_getf (va := (2, 85)) h82_331 rfl) ?_
        refine xg_t (xg_iload (va := (0, 2)) rfl rfl) ?_
        refine xg_t (xg_dup2 rfl) ?_
        obtain ⟨g85_341, h85_342, hb343⟩ := (hI287 85 (by decide) (by decide) : cpI 7 52 4294967295 (wget w285 85))
        have h85_342 : xRow w285 85 7 52 g85_341 := h85_342
        refine xg_ialdB (n := 2) (B := 4294967295) h85_342 (hb343) xnm0 (by omega) (fun u344 hu345 he346 => ?_)
        have hl347 : u344 = u45 := by have q1 := rwv_of h85_342 (show 2 < 7 by decide); have q2 := mf299 2 (by decide); omega
        refine xg_t (xg_const) ?_
        refine xg_t (xg_iadd (u := u344) (v := 1) (z := u344 + 1) xnm0 xnm0 (by omega)) ?_
        refine xg_iastK (n := 2) (u := u344 + 1) h85_342 xnm0 xnm0 rfl (by omega) (fun w348 hr349 hb350 => ?_)
        refine xg_t (xg_aload (va := (2, 82)) rfl rfl) ?_
        refine xg_t (xg_dup rfl) ?_
        refine xg_t (xg_getf (va := (0, f82_319)) (hb350.get (by decide) h82_331) rfl) ?_
        refine xg_t (xg_const) ?_
        refine xg_t (xg_iadd (u := f82_319) (v := 1) (z := f82_319 + 1) xnm0 xnm0 (by omega)) ?_
        refine xg_putI (fl1 := [(2, 83), (2, 84), (0, f82_301), (0, f82_303), (0, f82_305), (0, f82_307), (0, f82_309), (0, f82_311), (0, f82_313), (0, f82_315), (0, f82_317), (2, 85), (2, 86), (2, 87), (0, f82_319 + 1), (2, 88), (2, 89), (2, 90), (2, 91), (2, 92), (2, 93), (2, 94), (4, f82_321), (4, f82_322), (0, f82_323), (2, 95), (2, 96), (2, 97), (2, 98), (2, 99), (2, 100), (2, 101), (2, 102), (0, f82_325), (2, 103), (2, 104), (2, 105), (2, 106), (2, 107), (2, 108), (2, 109), (0, f82_327), (0, f82_329), (2, 110), (2, 111), (2, 112), (2, 113)]) (hb350.get (by decide) h82_331) rfl rfl rfl (fun w351 hk352 hb353 => ?_)
        have hF354 : xFr [82, 85] w285 w351 := ((xFr.of (S := [82, 85]) hb350 (by decide)).tr (xFr.of (S := [82, 85]) hb353 (by decide)))
        have hA355 := FA_fr hF354 (by decide)
        have hf356 : fld w351 82 4 = f82_305 := fld_of hk352
        have hf357 : fld w351 82 5 = f82_307 := fld_of hk352
        have hf358 : fld w351 82 7 = f82_311 := fld_of hk352
        have hf359 : fld w351 82 10 = f82_317 := fld_of hk352
        have hf360 : fld w351 82 14 = f82_319 + 1 := fld_of hk352
        have hu361 : mu w351 = 2 * (fld w351 82 4 - fld w351 82 5) + min 1 (fld w351 82 7) := rfl
        have pq362 := pk296
        unfold PK PS at pq362
        have hM363 : ∀ s, s < 7 → s ≠ 2 → rwv w351 85 s = rwv w 85 s := fun s hs hn => (rwv_of (hr349.but hb353 (by decide)) hs).trans ((if_neg hn).trans ((rwv_of h85_342 hs).symm.trans (mf299 s hs)))
        have hM364 : rwv w351 85 2 = u45 + 1 := (rwv_of (hr349.but hb353 (by decide)) (by decide)).trans ((if_pos rfl).trans (by omega))
        have hM365 : ∀ s, s < 7 → rwv w351 85 s ≤ rwv w 85 s + 1 := fun s hs => by
          by_cases z : s = 2
          · subst z; omega
          · rw [hM363 s hs z]; omega
        have hO366 : ∀ j, (j < 60 + 2 * u45 ∨ 62 + 2 * u45 ≤ j) → j < 140 → rwv w351 86 j = rwv w 86 j := fun j hj hl => (rwv_fr hF354 (by decide)).trans (os297 j hj hl)
        have hl368 : FA w285 ≠ 0 ∨ u45 < 6 := rg298
        have hN367 : FA w351 ≠ 0 ∨ 6 ≤ u45 ∨ True := Or.inr (Or.inr trivial)
        have hX369 : FA w351 ≠ 0 ∨ u45 < 6 := by omega
        have hD370 : FA w351 ≠ 0 ∨ (DATA w → DATA w351) := by
          by_cases z : FA w351 ≠ 0
          · exact Or.inl z
          · exact Or.inr (fun hd => hd.s2 hM363 hK48 hM364 (hX369.resolve_left z) hO366 ((hN367.resolve_left z).resolve_left (by have := hX369.resolve_left z; omega)))
        exact xg_e ⟨w351, ⟨rfl, rfl⟩, xMnv.up (S := [85, 82]) hI287 ((xFr.of (S := [85, 82]) hb350 (by decide)).tr (xFr.of (S := [85, 82]) hb353 (by decide))) (List.forall_mem_cons.mpr ⟨(show cpI 7 52 4294967295 (wget w351 85) from ⟨_, (hr349.but hb353 (by decide)), xrb (by omega) (hb343)⟩), List.forall_mem_cons.mpr ⟨(show cp82 (wget w351 82) from ⟨f82_301, f82_303, f82_305, f82_307, f82_309, f82_311, f82_313, f82_315, f82_317, f82_319 + 1, f82_321, f82_322, f82_323, f82_325, f82_327, f82_329, hk352, hb302, hb304, hb306, hb308, hb310, hb312, hb314, hb316, hb318, by omega, hb324, hb326, hb328, hb330, by omega⟩), fun _ h => absurd h List.not_mem_nil⟩⟩), ((hF71.tr (hF288.up (by decide))).tr ((xFr.of (S := [82, 83, 85, 86, 87]) hb350 (by decide)).tr (xFr.of (S := [82, 83, 85, 86, 87]) hb353 (by decide)))), ⟨fun h => by have := pq362.1 h; omega, (show fld w351 82 10 = 0 ∨ FA w351 ≠ 0 by omega), Or.inr ⟨by have := ms300; omega, by omega, hM365⟩, hD370, pk296.2.2.2.2.tr (K83.fr hF354 (by decide))⟩⟩
    refine xg_t (xg_iload (va := (0, 2)) rfl rfl) ?_
    refine xg_t (xg_swt (ks := [(0, 108), (1, 116), (2, 180), (3, 221), (4, 273), (5, 326)]) (u := 2) (z := 180) rfl rfl rfl xnm0 (xsw_n (by omega) (xsw_n (by omega) (xsw_y rfl)))) ?_
    refine xg_t (xg_blk (b := [(180, 1, 3, 0, 0, 0), (181, 2, 15, 4, 0, 0)]) rfl) ?_
    refine xg_t (xg_const) ?_
    refine xg_t (xg_istore (l1 := [(3, (0, u45)), (2, (0, at_)), (1, (0, 2)), (0, (2, 82))]) rfl rfl rfl) ?_
    refine xg_t (xg_blk (b := [(183, 2, 2, 4, 0, 0), (185, 1, 3, 2, 0, 0), (186, 3, 6, 218, 3, 0), (189, 1, 0, 0, 0, 0), (190, 1, 2, 1, 0, 0), (191, 1, 2, 3, 0, 0), (192, 2, 4, 60, 0, 0), (194, 1, 3, 2, 0, 0), (195, 1, 2, 3, 0, 0), (196, 1, 16, 0, 0, 0), (197, 1, 11, 0, 0, 0), (198, 2, 2, 4, 0, 0), (200, 1, 11, 0, 0, 0), (201, 1, 0, 0, 0, 0), (202, 1, 3, 1, 0, 0), (203, 3, 5, 9999, 0, 0), (206, 3, 13, 199, 96, 196), (209, 3, 13, 211, 96, 200), (212, 3, 9, 4, 1, 0), (215, 3, 8, 183, 0, 0)]) rfl) ?_
    refine xg_t (xg_iload (va := (0, 0)) rfl rfl) ?_
    refine xg_t (xg_const) ?_
    refine xg_t (xg_icF (u := 0) (v := 2) rfl xnm0 xnm0 (by decide)) ?_
    refine xg_t (xg_aload (va := (2, 82)) rfl rfl) ?_
    refine xg_t (xg_iload (va := (0, 2)) rfl rfl) ?_
    refine xg_t (xg_iload (va := (0, u45)) rfl rfl) ?_
    refine xg_t (xg_bip) ?_
    refine xg_t (xg_const) ?_
    refine xg_t (xg_iload (va := (0, u45)) rfl rfl) ?_
    refine xg_t (xg_imul (u := 2) (v := u45) (z := 2 * u45) xnm0 xnm0 (by omega)) ?_
    refine xg_t (xg_iadd (u := 60) (v := 2 * u45) (z := 60 + (2 * u45)) xnm0 xnm0 (by omega)) ?_
    refine xg_t (xg_iload (va := (0, 0)) rfl rfl) ?_
    refine xg_t (xg_iadd (u := 60 + (2 * u45)) (v := 0) (z := (60 + (2 * u45)) + 0) xnm0 xnm0 (by omega)) ?_
    refine xg_t (xg_aload (va := (2, 82)) rfl rfl) ?_
    refine xg_t (xg_const) ?_
    refine xg_t (xg_sip) ?_
    obtain ⟨f82_371, f82_373, f82_375, f82_377, f82_379, f82_381, f82_383, f82_385, f82_387, f82_389, f82_391, f82_392, f82_393, f82_395, f82_397, f82_399, h82_401, hb372, hb374, hb376, hb378, hb380, hb382, hb384, hb386, hb388, hb390, hb394, hb396, hb398, hb400, hb402⟩ := (hI54 82 (by decide) (by decide) : cp82 (wget w52 82))
    refine xg_cVi mX12_numbered (vs := [(0, 1), (0, 9999)]) (rest := [(0, (60 + (2 * u45)) + 0), (0, u45), (0, 2), (2, 82)]) (cn1 := 0) (sl1 := 0) rfl (mNumbered (hI54) (by omega) (by omega) pk64.2.2.2.1) rfl h82_401 rfl rfl rfl rfl rfl rfl (fun n407 w403 hq404 => ?_)
    obtain ⟨hn408, hI405, hF406⟩ := hq404
    clear hb372 hb374 hb376 hb378 hb380 hb382 hb384 hb386 hb388 hb390 hb394 hb396 hb398 hb400
    obtain ⟨hn409, hn410, hn411⟩ := hn408
    have pk412 : PK w w403 := PK.tr pk64 hn410
    have os413 : ∀ j, (j < 60 + 2 * u45 ∨ 62 + 2 * u45 ≤ j) → j < 140 → rwv w403 86 j = rwv w 86 j := fun j hj hl => (rwv_fr hF406 (by decide)).trans (os65 j hj hl)
    have mf414 : ∀ s, s < 7 → rwv w403 85 s = rwv w 85 s := fun s hs => (rwv_fr hF406 (by decide)).trans (mf66 s hs)
    have ms415 : mu w403 < mu w := Nat.lt_of_le_of_lt hn410.2.1 ms67
    obtain ⟨f82_416, f82_418, f82_420, f82_422, f82_424, f82_426, f82_428, f82_430, f82_432, f82_434, f82_436, f82_437, f82_438, f82_440, f82_442, f82_444, h82_446, hb417, hb419, hb421, hb423, hb425, hb427, hb429, hb431, hb433, hb435, hb439, hb441, hb443, hb445, hb447⟩ := (hI405 82 (by decide) (by decide) : cp82 (wget w403 82))
    refine xg_cVv mX12_puts (vs := [(0, 2), (0, u45), (0, (60 + (2 * u45)) + 0), (0, n407)]) (rest := []) (cn1 := 0) (sl1 := 0) rfl (mPuts2 (hI405) (by omega) (by omega) (by omega) (fun _ => by omega)) rfl h82_446 rfl rfl rfl rfl rfl rfl (fun w448 hq449 => ?_)
    obtain ⟨hI450, hF451, hx452⟩ := hq449
    obtain ⟨hp453, hp454⟩ := hx452
    have pk455 : PK w w448 := PK.tr pk412 (PK.fr hF451 (by decide) (by decide) pk412.2.2.2.1)
    have os456 : ∀ j, (j < 60 + 2 * u45 ∨ 62 + 2 * u45 ≤ j) → j < 140 → rwv w448 86 j = rwv w 86 j := fun j hj hl => (hp454 j (by omega) hl).trans (os413 j hj hl)
    have rg457 : FA w448 ≠ 0 ∨ (1 ≤ n407 ∧ n407 ≤ 9999) := hn411.imp_left (PK.fr hF451 (by decide) (by decide) pk412.2.2.2.1).1
    have mf458 : ∀ s, s < 7 → rwv w448 85 s = rwv w 85 s := fun s hs => (rwv_fr hF451 (by decide)).trans (mf414 s hs)
    have ms459 : mu w448 < mu w := Nat.lt_of_le_of_lt (PK.fr hF451 (by decide) (by decide) pk412.2.2.2.1).2.1 ms415
    clear hn411
    refine xg_t (xg_iinc (u := 0) (z := 1) (l1 := [(3, (0, u45)), (2, (0, at_)), (1, (0, 2)), (0, (2, 82))]) rfl rfl (by decide) rfl) ?_
    refine xg_t (xg_goto) ?_
    refine xg_t (xg_blk (b := [(183, 2, 2, 4, 0, 0), (185, 1, 3, 2, 0, 0), (186, 3, 6, 218, 3, 0), (189, 1, 0, 0, 0, 0), (190, 1, 2, 1, 0, 0), (191, 1, 2, 3, 0, 0), (192, 2, 4, 60, 0, 0), (194, 1, 3, 2, 0, 0), (195, 1, 2, 3, 0, 0), (196, 1, 16, 0, 0, 0), (197, 1, 11, 0, 0, 0), (198, 2, 2, 4, 0, 0), (200, 1, 11, 0, 0, 0), (201, 1, 0, 0, 0, 0), (202, 1, 3, 1, 0, 0), (203, 3, 5, 9999, 0, 0), (206, 3, 13, 199, 96, 196), (209, 3, 13, 211, 96, 200), (212, 3, 9, 4, 1, 0), (215, 3, 8, 183, 0, 0)]) rfl) ?_
    refine xg_t (xg_iload (va := (0, 1)) rfl rfl) ?_
    refine xg_t (xg_const) ?_
    refine xg_t (xg_icF (u := 1) (v := 2) rfl xnm0 xnm0 (by decide)) ?_
    refine xg_t (xg_aload (va := (2, 82)) rfl rfl) ?_
    refine xg_t (xg_iload (va := (0, 2)) rfl rfl) ?_
    refine xg_t (xg_iload (va := (0, u45)) rfl rfl) ?_
    refine xg_t (xg_bip) ?_
    refine xg_t (xg_const) ?_
    refine xg_t (xg_iload (va := (0, u45)) rfl rfl) ?_
    refine xg_t (xg_imul (u := 2) (v := u45) (z := 2 * u45) xnm0 xnm0 (by omega)) ?_
    refine xg_t (xg_iadd (u := 60) (v := 2 * u45) (z := 60 + (2 * u45)) xnm0 xnm0 (by omega)) ?_
    refine xg_t (xg_iload (va := (0, 1)) rfl rfl) ?_
    refine xg_t (xg_iadd (u := 60 + (2 * u45)) (v := 1) (z := (60 + (2 * u45)) + 1) xnm0 xnm0 (by omega)) ?_
    refine xg_t (xg_aload (va := (2, 82)) rfl rfl) ?_
    refine xg_t (xg_const) ?_
    refine xg_t (xg_sip) ?_
    refine xg_cVi mX12_numbered (vs := [(0, 1), (0, 9999)]) (rest := [(0, (60 + (2 * u45)) + 1), (0, u45), (0, 2), (2, 82)]) (cn1 := 0) (sl1 := 0) rfl (mNumbered (hI450) (by omega) (by omega) pk455.2.2.2.1) rfl (hF451.get (by decide) h82_446) rfl rfl rfl rfl rfl rfl (fun n464 w460 hq461 => ?_)
    obtain ⟨hn465, hI462, hF463⟩ := hq461
    clear hb417 hb419 hb421 hb423 hb425 hb427 hb429 hb431 hb433 hb435 hb439 hb441 hb443 hb445
    obtain ⟨hn466, hn467, hn468⟩ := hn465
    have pk469 : PK w w460 := PK.tr pk455 hn467
    have os470 : ∀ j, (j < 60 + 2 * u45 ∨ 62 + 2 * u45 ≤ j) → j < 140 → rwv w460 86 j = rwv w 86 j := fun j hj hl => (rwv_fr hF463 (by decide)).trans (os456 j hj hl)
    have ix471 : u45 < 6 → rwv w460 86 ((60 + (2 * u45)) + 0) = n407 := fun h => (rwv_fr hF463 (by decide)).trans (hp453 h)
    have rg472 : FA w460 ≠ 0 ∨ (1 ≤ n407 ∧ n407 ≤ 9999) := rg457.imp_left hn467.1
    have mf473 : ∀ s, s < 7 → rwv w460 85 s = rwv w 85 s := fun s hs => (rwv_fr hF463 (by decide)).trans (mf458 s hs)
    have ms474 : mu w460 < mu w := Nat.lt_of_le_of_lt hn467.2.1 ms459
    clear hp453 rg457
    obtain ⟨f82_475, f82_477, f82_479, f82_481, f82_483, f82_485, f82_487, f82_489, f82_491, f82_493, f82_495, f82_496, f82_497, f82_499, f82_501, f82_503, h82_505, hb476, hb478, hb480, hb482, hb484, hb486, hb488, hb490, hb492, hb494, hb498, hb500, hb502, hb504, hb506⟩ := (hI462 82 (by decide) (by decide) : cp82 (wget w460 82))
    refine xg_cVv mX12_puts (vs := [(0, 2), (0, u45), (0, (60 + (2 * u45)) + 1), (0, n464)]) (rest := []) (cn1 := 0) (sl1 := 0) rfl (mPuts2 (hI462) (by omega) (by omega) (by omega) (fun _ => by omega)) rfl h82_505 rfl rfl rfl rfl rfl rfl (fun w507 hq508 => ?_)
    obtain ⟨hI509, hF510, hx511⟩ := hq508
    obtain ⟨hp512, hp513⟩ := hx511
    have pk514 : PK w w507 := PK.tr pk469 (PK.fr hF510 (by decide) (by decide) pk469.2.2.2.1)
    have os515 : ∀ j, (j < 60 + 2 * u45 ∨ 62 + 2 * u45 ≤ j) → j < 140 → rwv w507 86 j = rwv w 86 j := fun j hj hl => (hp513 j (by omega) hl).trans (os470 j hj hl)
    have ix516 : u45 < 6 → rwv w507 86 ((60 + (2 * u45)) + 0) = n407 := fun h => (hp513 _ (by omega) (by omega)).trans (ix471 h)
    have rg517 : FA w507 ≠ 0 ∨ (1 ≤ n407 ∧ n407 ≤ 9999) := rg472.imp_left (PK.fr hF510 (by decide) (by decide) pk469.2.2.2.1).1
    have rg518 : FA w507 ≠ 0 ∨ (1 ≤ n464 ∧ n464 ≤ 9999) := hn468.imp_left (PK.fr hF510 (by decide) (by decide) pk469.2.2.2.1).1
    have mf519 : ∀ s, s < 7 → rwv w507 85 s = rwv w 85 s := fun s hs => (rwv_fr hF510 (by decide)).trans (mf473 s hs)
    have ms520 : mu w507 < mu w := Nat.lt_of_le_of_lt (PK.fr hF510 (by decide) (by decide) pk469.2.2.2.1).2.1 ms474
    clear ix471 rg472 hn468
    refine xg_t (xg_iinc (u := 1) (z := 2) (l1 := [(3, (0, u45)), (2, (0, at_)), (1, (0, 2)), (0, (2, 82))]) rfl rfl (by decide) rfl) ?_
    refine xg_t (xg_goto) ?_
    refine xg_t (xg_blk (b := [(183, 2, 2, 4, 0, 0), (185, 1, 3, 2, 0, 0), (186, 3, 6, 218, 3, 0), (189, 1, 0, 0, 0, 0), (190, 1, 2, 1, 0, 0), (191, 1, 2, 3, 0, 0), (192, 2, 4, 60, 0, 0), (194, 1, 3, 2, 0, 0), (195, 1, 2, 3, 0, 0), (196, 1, 16, 0, 0, 0), (197, 1, 11, 0, 0, 0), (198, 2, 2, 4, 0, 0), (200, 1, 11, 0, 0, 0), (201, 1, 0, 0, 0, 0), (202, 1, 3, 1, 0, 0), (203, 3, 5, 9999, 0, 0), (206, 3, 13, 199, 96, 196), (209, 3, 13, 211, 96, 200), (212, 3, 9, 4, 1, 0), (215, 3, 8, 183, 0, 0)]) rfl) ?_
    refine xg_t (xg_iload (va := (0, 2)) rfl rfl) ?_
    refine xg_t (xg_const) ?_
    refine xg_t (xg_icT (u := 2) (v := 2) rfl xnm0 xnm0 (by decide)) ?_
    refine xg_t (xg_blk (b := [(218, 3, 8, 394, 0, 0)]) rfl) ?_
    refine xg_t (xg_goto) ?_
    refine xg_t (xg_drop (l1 := [(0, (2, 82)), (1, (0, 2)), (3, (0, u45))]) (List.forall_mem_cons.mpr ⟨List.mem_cons_of_mem _ (List.mem_cons_of_mem _ (List.mem_cons_of_mem _ (List.mem_cons_of_mem _ (List.mem_cons_self)))), List.forall_mem_cons.mpr ⟨List.mem_cons_of_mem _ (List.mem_cons_of_mem _ (List.mem_cons_of_mem _ (List.mem_cons_self))), List.forall_mem_cons.mpr ⟨List.mem_cons_of_mem _ (List.mem_cons_self), fun _ h => absurd h List.not_mem_nil⟩⟩⟩)) ?_
    have hX521 : FA w507 ≠ 0 ∨ u45 < 6 := Or.inr (by omega)
    exact jn68 w507 (hI509) ((((((hF55.up (by decide)).tr (hF406.up (by decide))).tr (hF451.up (by decide))).tr (hF463.up (by decide))).tr (hF510.up (by decide)))) (⟨pk514, os515, ms520, mf519, hX521⟩)
  · refine xg_t (xg_icF (u := u45) (v := 6) rfl xnm0 xnm0 (xj_ltF (by omega) (by omega))) ?_
    refine xg_t (xg_aload (va := (2, 82)) rfl rfl) ?_
    refine xg_t (xg_const) ?_
    refine xg_t (xg_iload (va := (0, at_)) rfl rfl) ?_
    refine xg_cVv mX12_also (vs := [(0, 3), (0, at_)]) (rest := []) (cn1 := 0) (sl1 := 0) rfl (mAlso (hI) (by omega) (by omega) (by omega) (PK.rf hps).2.2.2.1) rfl h82_31 rfl rfl rfl rfl rfl rfl (fun w522 hq523 => ?_)
    obtain ⟨hI524, hF525, hx526⟩ := hq523
    obtain ⟨hv528, hv529⟩ := hx526
    have pk527 : PK w w522 := ⟨fun _ => hv528, Nat.le_of_eq (mu_fr hF525 (by decide)), fld_fr hF525 (by decide), Or.inr hv528, hv529⟩
    have pk530 : PK w w522 := PK.tr (PK.rf hps) pk527
    have os531 : ∀ j, (j < 60 + 2 * u45 ∨ 62 + 2 * u45 ≤ j) → j < 140 → rwv w522 86 j = rwv w 86 j := fun j hj hl => (rwv_fr hF525 (by decide)).trans ((fun j _ _ => rfl) j hj hl)
    have mf532 : ∀ s, s < 7 → rwv w522 85 s = rwv w 85 s := fun s hs => (rwv_fr hF525 (by decide)).trans ((fun _ _ => rfl) s hs)
    have hf533 := fld_fr (c := 82) (j := 7) hF525 (by decide)
    refine xg_t (xg_blk (b := [(64, 1, 0, 0, 0, 0), (65, 3, 13, 110, 96, 190), (68, 1, 2, 1, 0, 0), (69, 39, 33, 362, 0, 9)]) rfl) ?_
    refine xg_t (xg_aload (va := (2, 82)) rfl rfl) ?_
    refine xg_cVv mX12_advance (vs := []) (rest := []) (cn1 := 0) (sl1 := 0) rfl (mAdvance (hI524)) rfl (hF525.get (by decide) h82_31) rfl rfl rfl rfl rfl rfl (fun w534 hq535 => ?_)
    obtain ⟨hI536, hF537, hx538⟩ := hq535
    clear hb2 hb4 hb6 hb8 hb10 hb12 hb14 hb16 hb18 hb20 hb24 hb26 hb28 hb30
    obtain ⟨hv539, hv540, hv541, hv542⟩ := hx538
    have hf544 := FA_fr hF537 (by decide)
    have hs545 := pk530.2.2.2.1
    unfold PS at hs545
    have pk543 : PK w522 w534 := ⟨fun _ => by omega, hv539, hv542, (show fld w534 82 10 = 0 ∨ FA w534 ≠ 0 by omega), K83.fr hF537 (by decide)⟩
    clear hs545
    have pk546 : PK w w534 := PK.tr pk530 pk543
    have os547 : ∀ j, (j < 60 + 2 * u45 ∨ 62 + 2 * u45 ≤ j) → j < 140 → rwv w534 86 j = rwv w 86 j := fun j hj hl => (rwv_fr hF537 (by decide)).trans (os531 j hj hl)
    have rg548 : FA w534 ≠ 0 ∨ 0 = 1 := (Or.inl hv528 : FA w522 ≠ 0 ∨ 0 = 1).imp_left pk543.1
    have mf549 : ∀ s, s < 7 → rwv w534 85 s = rwv w 85 s := fun s hs => (rwv_fr hF537 (by decide)).trans (mf532 s hs)
    have ms550 : mu w534 < mu w := Nat.lt_of_lt_of_le (hv540 (by omega)) pk530.2.1
    clear hv540
    have jn551 : ∀ (w552 : List (List xE)), xMnv w552 → xFr [82, 83, 85, 86, 87] w w552 → (PK w w552 ∧ (∀ j, (j < 60 + 2 * u45 ∨ 62 + 2 * u45 ≤ j) → j < 140 → rwv w552 86 j = rwv w 86 j) ∧ mu w552 < mu w ∧ (∀ s, s < 7 → rwv w552 85 s = rwv w 85 s) ∧ (FA w552 ≠ 0 ∨ u45 < 6)) → xTo (d + 7) mX12_aLine (394, [], [(0, (2, 82)), (1, (0, 2)), (3, (0, u45))], [], (w552, bd, fc, 0, 0, rr)) (fun φ => ∃ w', xEnd 0 [] (w', bd, fc, 0, 0, rr) φ ∧ xMnv w' ∧ xFr [82, 83, 85, 86, 87] w w' ∧ ((FA w ≠ 0 → FA w' ≠ 0) ∧ PS w' ∧ ((fld w' 82 10 = 1 ∧ mu w' = mu w ∧ fld w' 82 14 = fld w 82 14 ∧ ∀ s, s < 7 → rwv w' 85 s = rwv w 85 s) ∨ (mu w' < mu w ∧ fld w' 82 14 = fld w 82 14 + 1 ∧ ∀ s, s < 7 → rwv w' 85 s ≤ rwv w 85 s + 1)) ∧ (FA w' ≠ 0 ∨ (DATA w → DATA w')) ∧ K83 w w')) := by
      intro w552 hI553 hF554 he555
      obtain ⟨hj556, hj557, hj558, hj559, hj560⟩ := he555
      refine xg_t (xg_blk (b := [(394, 1, 0, 0, 0, 0), (395, 3, 1, 12, 10, 180), (398, 3, 7, 416, 1, 0), (401, 1, 0, 0, 0, 0), (402, 3, 1, 12, 7, 151), (405, 1, 3, 2, 0, 0), (406, 3, 6, 416, 1, 0), (409, 1, 0, 0, 0, 0), (410, 3, 13, 110, 96, 190), (413, 3, 8, 420, 0, 0)]) rfl) ?_
      refine xg_t (xg_aload (va := (2, 82)) rfl rfl) ?_
      obtain ⟨f82_561, f82_563, f82_565, f82_567, f82_569, f82_571, f82_573, f82_575, f82_577, f82_579, f82_581, f82_582, f82_583, f82_585, f82_587, f82_589, h82_591, hb562, hb564, hb566, hb568, hb570, hb572, hb574, hb576, hb578, hb580, hb584, hb586, hb588, hb590, hb592⟩ := (hI553 82 (by decide) (by decide) : cp82 (wget w552 82))
      refine xg_t (xg_getf (va := (0, f82_577)) h82_591 rfl) ?_
      by_cases hc593 : f82_577 = 0
      · refine xg_t (xg_ifF (u := f82_577) rfl xnm0 (xj_neF hc593)) ?_
        refine xg_t (xg_aload (va := (2, 82)) rfl rfl) ?_
        refine xg_t (xg_getf (va := (0, f82_571)) h82_591 rfl) ?_
        refine xg_t (xg_const) ?_
        by_cases hc594 : f82_571 = 2
        · refine xg_t (xg_icF (u := f82_571) (v := 2) rfl xnm0 xnm0 (xj_neF hc594)) ?_
          refine xg_t (xg_aload (va := (2, 82)) rfl rfl) ?_
          refine xg_cVv mX12_advance (vs := []) (rest := []) (cn1 := 0) (sl1 := 0) rfl (mAdvance (hI553)) rfl h82_591 rfl rfl rfl rfl rfl rfl (fun w595 hq596 => ?_)
          obtain ⟨hI597, hF598, hx599⟩ := hq596
          clear hb562 hb564 hb566 hb568 hb570 hb572 hb574 hb576 hb578 hb580 hb584 hb586 hb588 hb590
          obtain ⟨hv600, hv601, hv602, hv603⟩ := hx599
          have hf605 := FA_fr hF598 (by decide)
          have hs606 := hj556.2.2.2.1
          unfold PS at hs606
          have pk604 : PK w552 w595 := ⟨fun _ => by omega, hv600, hv603, (show fld w595 82 10 = 0 ∨ FA w595 ≠ 0 by omega), K83.fr hF598 (by decide)⟩
          clear hs606
          clear hv601
          have pk607 : PK w w595 := PK.tr hj556 pk604
          have os608 : ∀ j, (j < 60 + 2 * u45 ∨ 62 + 2 * u45 ≤ j) → j < 140 → rwv w595 86 j = rwv w 86 j := fun j hj hl => (rwv_fr hF598 (by decide)).trans (hj557 j hj hl)
          have rg609 : FA w595 ≠ 0 ∨ u45 < 6 := hj560.imp_left pk604.1
          have mf610 : ∀ s, s < 7 → rwv w595 85 s = rwv w 85 s := fun s hs => (rwv_fr hF598 (by decide)).trans (hj559 s hs)
          have ms611 : mu w595 < mu w := Nat.lt_of_le_of_lt pk604.2.1 hj558
          clear hj560
          refine xg_t (xg_goto) ?_
          refine xg_t (xg_blk (b := [(420, 1, 0, 0, 0, 0), (421, 3, 1, 12, 11, 17), (424, 1, 2, 1, 0, 0), (425, 1, 39, 0, 0, 0), (426, 1, 10, 0, 0, 0), (427, 1, 3, 1, 0, 0), (428, 1, 11, 0, 0, 0), (429, 1, 17, 0, 0, 0), (430, 1, 0, 0, 0, 0), (431, 1, 19, 0, 0, 0), (432, 3, 1, 12, 14, 212), (435, 1, 3, 1, 0, 0), (436, 1, 11, 0, 0, 0), (437, 3, 14, 12, 14, 212), (440, 1, 12, 0, 0, 0)]) rfl) ?_
          obtain ⟨f82_612, f82_614, f82_616, f82_618, f82_620, f82_622, f82_624, f82_626, f82_628, f82_630, f82_632, f82_633, f82_634, f82_636, f82_638, f82_640, h82_642, hb613, hb615, hb617, hb619, hb621, hb623, hb625, hb627, hb629, hb631, hb635, hb637, hb639, hb641, hb643⟩ := (hI597 82 (by decide) (by decide) : cp82 (wget w595 82))
          have hf644 : fld w595 82 4 = f82_616 := fld_of h82_642
          have hf645 : fld w595 82 5 = f82_618 := fld_of h82_642
          have hf646 : fld w595 82 7 = f82_622 := fld_of h82_642
          have hf647 : fld w595 82 10 = f82_628 := fld_of h82_642
          have hf648 : fld w595 82 14 = f82_630 := fld_of h82_642
          have hu649 : mu w595 = 2 * (fld w595 82 4 - fld w595 82 5) + min 1 (fld w595 82 7) := rfl
          have hf650 := pk607.2.2.1
          have hl651 : f82_630 ≤ 1000 := by omega
          refine xg_t (xg_aload (va := (2, 82)) rfl rfl) ?_
          refine xg_t (xg_getf (va := (2, 85)) h82_642 rfl) ?_
          refine xg_t (xg_iload (va := (0, 2)) rfl rfl) ?_
          refine xg_t (xg_dup2 rfl) ?_
          obtain ⟨g85_652, h85_653, hb654⟩ := (hI597 85 (by decide) (by decide) : cpI 7 52 4294967295 (wget w595 85))
          have h85_653 : xRow w595 85 7 52 g85_652 := h85_653
          refine xg_ialdB (n := 2) (B := 4294967295) h85_653 (hb654) xnm0 (by omega) (fun u655 hu656 he657 => ?_)
          have hl658 : u655 = u45 := by have q1 := rwv_of h85_653 (show 2 < 7 by decide); have q2 := mf610 2 (by decide); omega
          refine xg_t (xg_const) ?_
          refine xg_t (xg_iadd (u := u655) (v := 1) (z := u655 + 1) xnm0 xnm0 (by omega)) ?_
          refine xg_iastK (n := 2) (u := u655 + 1) h85_653 xnm0 xnm0 rfl (by omega) (fun w659 hr660 hb661 => ?_)
          refine xg_t (xg_aload (va := (2, 82)) rfl rfl) ?_
          refine xg_t (xg_dup rfl) ?_
          refine xg_t (xg_getf (va := (0, f82_630)) (hb661.get (by decide) h82_642) rfl) ?_
          refine xg_t (xg_const) ?_
          refine xg_t (xg_iadd (u := f82_630) (v := 1) (z := f82_630 + 1) xnm0 xnm0 (by omega)) ?_
          refine xg_putI (fl1 := [(2, 83), (2, 84), (0, f82_612), (0, f82_614), (0, f82_616), (0, f82_618), (0, f82_620), (0, f82_622), (0, f82_624), (0, f82_626), (0, f82_628), (2, 85), (2, 86), (2, 87), (0, f82_630 + 1), (2, 88), (2, 89), (2, 90), (2, 91), (2, 92), (2, 93), (2, 94), (4, f82_632), (4, f82_633), (0, f82_634), (2, 95), (2, 96), (2, 97), (2, 98), (2, 99), (2, 100), (2, 101), (2, 102), (0, f82_636), (2, 103), (2, 104), (2, 105), (2, 106), (2, 107), (2, 108), (2, 109), (0, f82_638), (0, f82_640), (2, 110), (2, 111), (2, 112), (2, 113)]) (hb661.get (by decide) h82_642) rfl rfl rfl (fun w662 hk663 hb664 => ?_)
          have hF665 : xFr [82, 85] w595 w662 := ((xFr.of (S := [82, 85]) hb661 (by decide)).tr (xFr.of (S := [82, 85]) hb664 (by decide)))
          have hA666 := FA_fr hF665 (by decide)
          have hf667 : fld w662 82 4 = f82_616 := fld_of hk663
          have hf668 : fld w662 82 5 = f82_618 := fld_of hk663
          have hf669 : fld w662 82 7 = f82_622 := fld_of hk663
          have hf670 : fld w662 82 10 = f82_628 := fld_of hk663
          have hf671 : fld w662 82 14 = f82_630 + 1 := fld_of hk663
          have hu672 : mu w662 = 2 * (fld w662 82 4 - fld w662 82 5) + min 1 (fld w662 82 7) := rfl
          have pq673 := pk607
          unfold PK PS at pq673
          have hM674 : ∀ s, s < 7 → s ≠ 2 → rwv w662 85 s = rwv w 85 s := fun s hs hn => (rwv_of (hr660.but hb664 (by decide)) hs).trans ((if_neg hn).trans ((rwv_of h85_653 hs).symm.trans (mf610 s hs)))
          have hM675 : rwv w662 85 2 = u45 + 1 := (rwv_of (hr660.but hb664 (by decide)) (by decide)).trans ((if_pos rfl).trans (by omega))
          have hM676 : ∀ s, s < 7 → rwv w662 85 s ≤ rwv w 85 s + 1 := fun s hs => by
            by_cases z : s = 2
            · subst z; omega
            · rw [hM674 s hs z]; omega
          have hO677 : ∀ j, (j < 60 + 2 * u45 ∨ 62 + 2 * u45 ≤ j) → j < 140 → rwv w662 86 j = rwv w 86 j := fun j hj hl => (rwv_fr hF665 (by decide)).trans (os608 j hj hl)
          have hl679 : FA w595 ≠ 0 ∨ u45 < 6 := rg609
          have hN678 : FA w662 ≠ 0 ∨ 6 ≤ u45 ∨ True := Or.inr (Or.inr trivial)
          have hX680 : FA w662 ≠ 0 ∨ u45 < 6 := by omega
          have hD681 : FA w662 ≠ 0 ∨ (DATA w → DATA w662) := by
            by_cases z : FA w662 ≠ 0
            · exact Or.inl z
            · exact Or.inr (fun hd => hd.s2 hM674 hK48 hM675 (hX680.resolve_left z) hO677 ((hN678.resolve_left z).resolve_left (by have := hX680.resolve_left z; omega)))
          exact xg_e ⟨w662, ⟨rfl, rfl⟩, xMnv.up (S := [85, 82]) hI597 ((xFr.of (S := [85, 82]) hb661 (by decide)).tr (xFr.of (S := [85, 82]) hb664 (by decide))) (List.forall_mem_cons.mpr ⟨(show cpI 7 52 4294967295 (wget w662 85) from ⟨_, (hr660.but hb664 (by decide)), xrb (by omega) (hb654)⟩), List.forall_mem_cons.mpr ⟨(show cp82 (wget w662 82) from ⟨f82_612, f82_614, f82_616, f82_618, f82_620, f82_622, f82_624, f82_626, f82_628, f82_630 + 1, f82_632, f82_633, f82_634, f82_636, f82_638, f82_640, hk663, hb613, hb615, hb617, hb619, hb621, hb623, hb625, hb627, hb629, by omega, hb635, hb637, hb639, hb641, by omega⟩), fun _ h => absurd h List.not_mem_nil⟩⟩), ((hF554.tr (hF598.up (by decide))).tr ((xFr.of (S := [82, 83, 85, 86, 87]) hb661 (by decide)).tr (xFr.of (S := [82, 83, 85, 86, 87]) hb664 (by decide)))), ⟨fun h => by have := pq673.1 h; omega, (show fld w662 82 10 = 0 ∨ FA w662 ≠ 0 by omega), Or.inr ⟨by have := ms611; omega, by omega, hM676⟩, hD681, pk607.2.2.2.2.tr (K83.fr hF665 (by decide))⟩⟩
        · refine xg_t (xg_icT (u := f82_571) (v := 2) rfl xnm0 xnm0 (xj_neT hc594)) ?_
          refine xg_t (xg_blk (b := [(416, 1, 0, 0, 0, 0), (417, 3, 13, 140, 96, 183)]) rfl) ?_
          refine xg_t (xg_aload (va := (2, 82)) rfl rfl) ?_
          refine xg_cVv mX12_ends (vs := []) (rest := []) (cn1 := 0) (sl1 := 0) rfl (mEnds (hI553) hj556.2.2.2.1) rfl h82_591 rfl rfl rfl rfl rfl rfl (fun w682 hq683 => ?_)
          obtain ⟨hI684, hF685, hx686⟩ := hq683
          clear hb562 hb564 hb566 hb568 hb570 hb572 hb574 hb576 hb578 hb580 hb584 hb586 hb588 hb590
          obtain ⟨hv687, hv688, hv689, hv690, hv691⟩ := hx686
          have pk692 : PK w552 w682 := ⟨fun _ => hv687, by omega, by omega, Or.inr hv687, hv691⟩
          have pk693 : PK w w682 := PK.tr hj556 pk692
          have os694 : ∀ j, (j < 60 + 2 * u45 ∨ 62 + 2 * u45 ≤ j) → j < 140 → rwv w682 86 j = rwv w 86 j := fun j hj hl => (rwv_fr hF685 (by decide)).trans (hj557 j hj hl)
          have rg695 : FA w682 ≠ 0 ∨ u45 < 6 := hj560.imp_left pk692.1
          have mf696 : ∀ s, s < 7 → rwv w682 85 s = rwv w 85 s := fun s hs => (rwv_fr hF685 (by decide)).trans (hj559 s hs)
          have ms697 : mu w682 < mu w := Nat.lt_of_le_of_lt pk692.2.1 hj558
          clear hj560
          refine xg_t (xg_blk (b := [(420, 1, 0, 0, 0, 0), (421, 3, 1, 12, 11, 17), (424, 1, 2, 1, 0, 0), (425, 1, 39, 0, 0, 0), (426, 1, 10, 0, 0, 0), (427, 1, 3, 1, 0, 0), (428, 1, 11, 0, 0, 0), (429, 1, 17, 0, 0, 0), (430, 1, 0, 0, 0, 0), (431, 1, 19, 0, 0, 0), (432, 3, 1, 12, 14, 212), (435, 1, 3, 1, 0, 0), (436, 1, 11, 0, 0, 0), (437, 3, 14, 12, 14, 212), (440, 1, 12, 0, 0, 0)]) rfl) ?_
          obtain ⟨f82_698, f82_700, f82_702, f82_704, f82_706, f82_708, f82_710, f82_712, f82_714, f82_716, f82_718, f82_719, f82_720, f82_722, f82_724, f82_726, h82_728, hb699, hb701, hb703, hb705, hb707, hb709, hb711, hb713, hb715, hb717, hb721, hb723, hb725, hb727, hb729⟩ := (hI684 82 (by decide) (by decide) : cp82 (wget w682 82))
          have hf730 : fld w682 82 4 = f82_702 := fld_of h82_728
          have hf731 : fld w682 82 5 = f82_704 := fld_of h82_728
          have hf732 : fld w682 82 7 = f82_708 := fld_of h82_728
          have hf733 : fld w682 82 10 = f82_714 := fld_of h82_728
          have hf734 : fld w682 82 14 = f82_716 := fld_of h82_728
          have hu735 : mu w682 = 2 * (fld w682 82 4 - fld w682 82 5) + min 1 (fld w682 82 7) := rfl
          have hf736 := pk693.2.2.1
          have hl737 : f82_716 ≤ 1000 := by omega
          refine xg_t (xg_aload (va := (2, 82)) rfl rfl) ?_
          refine xg_t (xg_getf (va := (2, 85)) h82_728 rfl) ?_
          refine xg_t (xg_iload (va := (0, 2)) rfl rfl) ?_
          refine xg_t (xg_dup2 rfl) ?_
          obtain ⟨g85_738, h85_739, hb740⟩ := (hI684 85 (by decide) (by decide) : cpI 7 52 4294967295 (wget w682 85))
          have h85_739 : xRow w682 85 7 52 g85_738 := h85_739
          refine xg_ialdB (n := 2) (B := 4294967295) h85_739 (hb740) xnm0 (by omega) (fun u741 hu742 he743 => ?_)
          have hl744 : u741 = u45 := by have q1 := rwv_of h85_739 (show 2 < 7 by decide); have q2 := mf696 2 (by decide); omega
          refine xg_t (xg_const) ?_
          refine xg_t (xg_iadd (u := u741) (v := 1) (z := u741 + 1) xnm0 xnm0 (by omega)) ?_
          refine xg_iastK (n := 2) (u := u741 + 1) h85_739 xnm0 xnm0 rfl (by omega) (fun w745 hr746 hb747 => ?_)
          refine xg_t (xg_aload (va := (2, 82)) rfl rfl) ?_
          refine xg_t (xg_dup rfl) ?_
          refine xg_t (xg_getf (va := (0, f82_716)) (hb747.get (by decide) h82_728) rfl) ?_
          refine xg_t (xg_const) ?_
          refine xg_t (xg_iadd (u := f82_716) (v := 1) (z := f82_716 + 1) xnm0 xnm0 (by omega)) ?_
          refine xg_putI (fl1 := [(2, 83), (2, 84), (0, f82_698), (0, f82_700), (0, f82_702), (0, f82_704), (0, f82_706), (0, f82_708), (0, f82_710), (0, f82_712), (0, f82_714), (2, 85), (2, 86), (2, 87), (0, f82_716 + 1), (2, 88), (2, 89), (2, 90), (2, 91), (2, 92), (2, 93), (2, 94), (4, f82_718), (4, f82_719), (0, f82_720), (2, 95), (2, 96), (2, 97), (2, 98), (2, 99), (2, 100), (2, 101), (2, 102), (0, f82_722), (2, 103), (2, 104), (2, 105), (2, 106), (2, 107), (2, 108), (2, 109), (0, f82_724), (0, f82_726), (2, 110), (2, 111), (2, 112), (2, 113)]) (hb747.get (by decide) h82_728) rfl rfl rfl (fun w748 hk749 hb750 => ?_)
          have hF751 : xFr [82, 85] w682 w748 := ((xFr.of (S := [82, 85]) hb747 (by decide)).tr (xFr.of (S := [82, 85]) hb750 (by decide)))
          have hA752 := FA_fr hF751 (by decide)
          have hf753 : fld w748 82 4 = f82_702 := fld_of hk749
          have hf754 : fld w748 82 5 = f82_704 := fld_of hk749
          have hf755 : fld w748 82 7 = f82_708 := fld_of hk749
          have hf756 : fld w748 82 10 = f82_714 := fld_of hk749
          have hf757 : fld w748 82 14 = f82_716 + 1 := fld_of hk749
          have hu758 : mu w748 = 2 * (fld w748 82 4 - fld w748 82 5) + min 1 (fld w748 82 7) := rfl
          have pq759 := pk693
          unfold PK PS at pq759
          have hM760 : ∀ s, s < 7 → s ≠ 2 → rwv w748 85 s = rwv w 85 s := fun s hs hn => (rwv_of (hr746.but hb750 (by decide)) hs).trans ((if_neg hn).trans ((rwv_of h85_739 hs).symm.trans (mf696 s hs)))
          have hM761 : rwv w748 85 2 = u45 + 1 := (rwv_of (hr746.but hb750 (by decide)) (by decide)).trans ((if_pos rfl).trans (by omega))
          have hM762 : ∀ s, s < 7 → rwv w748 85 s ≤ rwv w 85 s + 1 := fun s hs => by
            by_cases z : s = 2
            · subst z; omega
            · rw [hM760 s hs z]; omega
          have hO763 : ∀ j, (j < 60 + 2 * u45 ∨ 62 + 2 * u45 ≤ j) → j < 140 → rwv w748 86 j = rwv w 86 j := fun j hj hl => (rwv_fr hF751 (by decide)).trans (os694 j hj hl)
          have hl765 : FA w682 ≠ 0 ∨ u45 < 6 := rg695
          have hN764 : FA w748 ≠ 0 ∨ 6 ≤ u45 ∨ True := Or.inr (Or.inr trivial)
          have hX766 : FA w748 ≠ 0 ∨ u45 < 6 := by omega
          have hD767 : FA w748 ≠ 0 ∨ (DATA w → DATA w748) := by
            by_cases z : FA w748 ≠ 0
            · exact Or.inl z
            · exact Or.inr (fun hd => hd.s2 hM760 hK48 hM761 (hX766.resolve_left z) hO763 ((hN764.resolve_left z).resolve_left (by have := hX766.resolve_left z; omega)))
          exact xg_e ⟨w748, ⟨rfl, rfl⟩, xMnv.up (S := [85, 82]) hI684 ((xFr.of (S := [85, 82]) hb747 (by decide)).tr (xFr.of (S := [85, 82]) hb750 (by decide))) (List.forall_mem_cons.mpr ⟨(show cpI 7 52 4294967295 (wget w748 85) from ⟨_, (hr746.but hb750 (by decide)), xrb (by omega) (hb740)⟩), List.forall_mem_cons.mpr ⟨(show cp82 (wget w748 82) from ⟨f82_698, f82_700, f82_702, f82_704, f82_706, f82_708, f82_710, f82_712, f82_714, f82_716 + 1, f82_718, f82_719, f82_720, f82_722, f82_724, f82_726, hk749, hb699, hb701, hb703, hb705, hb707, hb709, hb711, hb713, hb715, by omega, hb721, hb723, hb725, hb727, by omega⟩), fun _ h => absurd h List.not_mem_nil⟩⟩), ((hF554.tr (hF685.up (by decide))).tr ((xFr.of (S := [82, 83, 85, 86, 87]) hb747 (by decide)).tr (xFr.of (S := [82, 83, 85, 86, 87]) hb750 (by decide)))), ⟨fun h => by have := pq759.1 h; omega, (show fld w748 82 10 = 0 ∨ FA w748 ≠ 0 by omega), Or.inr ⟨by have := ms697; omega, by omega, hM762⟩, hD767, pk693.2.2.2.2.tr (K83.fr hF751 (by decide))⟩⟩
      · refine xg_t (xg_ifT (u := f82_577) rfl xnm0 (xj_neT hc593)) ?_
        refine xg_t (xg_blk (b := [(416, 1, 0, 0, 0, 0), (417, 3, 13, 140, 96, 183)]) rfl) ?_
        refine xg_t (xg_aload (va := (2, 82)) rfl rfl) ?_
        refine xg_cVv mX12_ends (vs := []) (rest := []) (cn1 := 0) (sl1 := 0) rfl (mEnds (hI553) hj556.2.2.2.1) rfl h82_591 rfl rfl rfl rfl rfl rfl (fun w768 hq769 => ?_)
        obtain ⟨hI770, hF771, hx772⟩ := hq769
        clear hb562 hb564 hb566 hb568 hb570 hb572 hb574 hb576 hb578 hb580 hb584 hb586 hb588 hb590
        obtain ⟨hv773, hv774, hv775, hv776, hv777⟩ := hx772
        have pk778 : PK w552 w768 := ⟨fun _ => hv773, by omega, by omega, Or.inr hv773, hv777⟩
        have pk779 : PK w w768 := PK.tr hj556 pk778
        have os780 : ∀ j, (j < 60 + 2 * u45 ∨ 62 + 2 * u45 ≤ j) → j < 140 → rwv w768 86 j = rwv w 86 j := fun j hj hl => (rwv_fr hF771 (by decide)).trans (hj557 j hj hl)
        have rg781 : FA w768 ≠ 0 ∨ u45 < 6 := hj560.imp_left pk778.1
        have mf782 : ∀ s, s < 7 → rwv w768 85 s = rwv w 85 s := fun s hs => (rwv_fr hF771 (by decide)).trans (hj559 s hs)
        have ms783 : mu w768 < mu w := Nat.lt_of_le_of_lt pk778.2.1 hj558
        clear hj560
        refine xg_t (xg_blk (b := [(420, 1, 0, 0, 0, 0), (421, 3, 1, 12, 11, 17), (424, 1, 2, 1, 0, 0), (425, 1, 39, 0, 0, 0), (426, 1, 10, 0, 0, 0), (427, 1, 3, 1, 0, 0), (428, 1, 11, 0, 0, 0), (429, 1, 17, 0, 0, 0), (430, 1, 0, 0, 0, 0), (431, 1, 19, 0, 0, 0), (432, 3, 1, 12, 14, 212), (435, 1, 3, 1, 0, 0), (436, 1, 11, 0, 0, 0), (437, 3, 14, 12, 14, 212), (440, 1, 12, 0, 0, 0)]) rfl) ?_
        obtain ⟨f82_784, f82_786, f82_788, f82_790, f82_792, f82_794, f82_796, f82_798, f82_800, f82_802, f82_804, f82_805, f82_806, f82_808, f82_810, f82_812, h82_814, hb785, hb787, hb789, hb791, hb793, hb795, hb797, hb799, hb801, hb803, hb807, hb809, hb811, hb813, hb815⟩ := (hI770 82 (by decide) (by decide) : cp82 (wget w768 82))
        have hf816 : fld w768 82 4 = f82_788 := fld_of h82_814
        have hf817 : fld w768 82 5 = f82_790 := fld_of h82_814
        have hf818 : fld w768 82 7 = f82_794 := fld_of h82_814
        have hf819 : fld w768 82 10 = f82_800 := fld_of h82_814
        have hf820 : fld w768 82 14 = f82_802 := fld_of h82_814
        have hu821 : mu w768 = 2 * (fld w768 82 4 - fld w768 82 5) + min 1 (fld w768 82 7) := rfl
        have hf822 := pk779.2.2.1
        have hl823 : f82_802 ≤ 1000 := by omega
        refine xg_t (xg_aload (va := (2, 82)) rfl rfl) ?_
        refine xg_t (xg_getf (va := (2, 85)) h82_814 rfl) ?_
        refine xg_t (xg_iload (va := (0, 2)) rfl rfl) ?_
        refine xg_t (xg_dup2 rfl) ?_
        obtain ⟨g85_824, h85_825, hb826⟩ := (hI770 85 (by decide) (by decide) : cpI 7 52 4294967295 (wget w768 85))
        have h85_825 : xRow w768 85 7 52 g85_824 := h85_825
        refine xg_ialdB (n := 2) (B := 4294967295) h85_825 (hb826) xnm0 (by omega) (fun u827 hu828 he829 => ?_)
        have hl830 : u827 = u45 := by have q1 := rwv_of h85_825 (show 2 < 7 by decide); have q2 := mf782 2 (by decide); omega
        refine xg_t (xg_const) ?_
        refine xg_t (xg_iadd (u := u827) (v := 1) (z := u827 + 1) xnm0 xnm0 (by omega)) ?_
        refine xg_iastK (n := 2) (u := u827 + 1) h85_825 xnm0 xnm0 rfl (by omega) (fun w831 hr832 hb833 => ?_)
        refine xg_t (xg_aload (va := (2, 82)) rfl rfl) ?_
        refine xg_t (xg_dup rfl) ?_
        refine xg_t (xg_getf (va := (0, f82_802)) (hb833.get (by decide) h82_814) rfl) ?_
        refine xg_t (xg_const) ?_
        refine xg_t (xg_iadd (u := f82_802) (v := 1) (z := f82_802 + 1) xnm0 xnm0 (by omega)) ?_
        refine xg_putI (fl1 := [(2, 83), (2, 84), (0, f82_784), (0, f82_786), (0, f82_788), (0, f82_790), (0, f82_792), (0, f82_794), (0, f82_796), (0, f82_798), (0, f82_800), (2, 85), (2, 86), (2, 87), (0, f82_802 + 1), (2, 88), (2, 89), (2, 90), (2, 91), (2, 92), (2, 93), (2, 94), (4, f82_804), (4, f82_805), (0, f82_806), (2, 95), (2, 96), (2, 97), (2, 98), (2, 99), (2, 100), (2, 101), (2, 102), (0, f82_808), (2, 103), (2, 104), (2, 105), (2, 106), (2, 107), (2, 108), (2, 109), (0, f82_810), (0, f82_812), (2, 110), (2, 111), (2, 112), (2, 113)]) (hb833.get (by decide) h82_814) rfl rfl rfl (fun w834 hk835 hb836 => ?_)
        have hF837 : xFr [82, 85] w768 w834 := ((xFr.of (S := [82, 85]) hb833 (by decide)).tr (xFr.of (S := [82, 85]) hb836 (by decide)))
        have hA838 := FA_fr hF837 (by decide)
        have hf839 : fld w834 82 4 = f82_788 := fld_of hk835
        have hf840 : fld w834 82 5 = f82_790 := fld_of hk835
        have hf841 : fld w834 82 7 = f82_794 := fld_of hk835
        have hf842 : fld w834 82 10 = f82_800 := fld_of hk835
        have hf843 : fld w834 82 14 = f82_802 + 1 := fld_of hk835
        have hu844 : mu w834 = 2 * (fld w834 82 4 - fld w834 82 5) + min 1 (fld w834 82 7) := rfl
        have pq845 := pk779
        unfold PK PS at pq845
        have hM846 : ∀ s, s < 7 → s ≠ 2 → rwv w834 85 s = rwv w 85 s := fun s hs hn => (rwv_of (hr832.but hb836 (by decide)) hs).trans ((if_neg hn).trans ((rwv_of h85_825 hs).symm.trans (mf782 s hs)))
        have hM847 : rwv w834 85 2 = u45 + 1 := (rwv_of (hr832.but hb836 (by decide)) (by decide)).trans ((if_pos rfl).trans (by omega))
        have hM848 : ∀ s, s < 7 → rwv w834 85 s ≤ rwv w 85 s + 1 := fun s hs => by
          by_cases z : s = 2
          · subst z; omega
          · rw [hM846 s hs z]; omega
        have hO849 : ∀ j, (j < 60 + 2 * u45 ∨ 62 + 2 * u45 ≤ j) → j < 140 → rwv w834 86 j = rwv w 86 j := fun j hj hl => (rwv_fr hF837 (by decide)).trans (os780 j hj hl)
        have hl851 : FA w768 ≠ 0 ∨ u45 < 6 := rg781
        have hN850 : FA w834 ≠ 0 ∨ 6 ≤ u45 ∨ True := Or.inr (Or.inr trivial)
        have hX852 : FA w834 ≠ 0 ∨ u45 < 6 := by omega
        have hD853 : FA w834 ≠ 0 ∨ (DATA w → DATA w834) := by
          by_cases z : FA w834 ≠ 0
          · exact Or.inl z
          · exact Or.inr (fun hd => hd.s2 hM846 hK48 hM847 (hX852.resolve_left z) hO849 ((hN850.resolve_left z).resolve_left (by have := hX852.resolve_left z; omega)))
        exact xg_e ⟨w834, ⟨rfl, rfl⟩, xMnv.up (S := [85, 82]) hI770 ((xFr.of (S := [85, 82]) hb833 (by decide)).tr (xFr.of (S := [85, 82]) hb836 (by decide))) (List.forall_mem_cons.mpr ⟨(show cpI 7 52 4294967295 (wget w834 85) from ⟨_, (hr832.but hb836 (by decide)), xrb (by omega) (hb826)⟩), List.forall_mem_cons.mpr ⟨(show cp82 (wget w834 82) from ⟨f82_784, f82_786, f82_788, f82_790, f82_792, f82_794, f82_796, f82_798, f82_800, f82_802 + 1, f82_804, f82_805, f82_806, f82_808, f82_810, f82_812, hk835, hb785, hb787, hb789, hb791, hb793, hb795, hb797, hb799, hb801, by omega, hb807, hb809, hb811, hb813, by omega⟩), fun _ h => absurd h List.not_mem_nil⟩⟩), ((hF554.tr (hF771.up (by decide))).tr ((xFr.of (S := [82, 83, 85, 86, 87]) hb833 (by decide)).tr (xFr.of (S := [82, 83, 85, 86, 87]) hb836 (by decide)))), ⟨fun h => by have := pq845.1 h; omega, (show fld w834 82 10 = 0 ∨ FA w834 ≠ 0 by omega), Or.inr ⟨by have := ms783; omega, by omega, hM848⟩, hD853, pk779.2.2.2.2.tr (K83.fr hF837 (by decide))⟩⟩
    refine xg_t (xg_iload (va := (0, 2)) rfl rfl) ?_
    refine xg_t (xg_swt (ks := [(0, 108), (1, 116), (2, 180), (3, 221), (4, 273), (5, 326)]) (u := 2) (z := 180) rfl rfl rfl xnm0 (xsw_n (by omega) (xsw_n (by omega) (xsw_y rfl)))) ?_
    refine xg_t (xg_blk (b := [(180, 1, 3, 0, 0, 0), (181, 2, 15, 4, 0, 0)]) rfl) ?_
    refine xg_t (xg_const) ?_
    refine xg_t (xg_istore (l1 := [(3, (0, u45)), (2, (0, at_)), (1, (0, 2)), (0, (2, 82))]) rfl rfl rfl) ?_
    refine xg_t (xg_blk (b := [(183, 2, 2, 4, 0, 0), (185, 1, 3, 2, 0, 0), (186, 3, 6, 218, 3, 0), (189, 1, 0, 0, 0, 0), (190, 1, 2, 1, 0, 0), (191, 1, 2, 3, 0, 0), (192, 2, 4, 60, 0, 0), (194, 1, 3, 2, 0, 0), (195, 1, 2, 3, 0, 0), (196, 1, 16, 0, 0, 0), (197, 1, 11, 0, 0, 0), (198, 2, 2, 4, 0, 0), (200, 1, 11, 0, 0, 0), (201, 1, 0, 0, 0, 0), (202, 1, 3, 1, 0, 0), (203, 3, 5, 9999, 0, 0), (206, 3, 13, 199, 96, 196), (209, 3, 13, 211, 96, 200), (212, 3, 9, 4, 1, 0), (215, 3, 8, 183, 0, 0)]) rfl) ?_
    refine xg_t (xg_iload (va := (0, 0)) rfl rfl) ?_
    refine xg_t (xg_const) ?_
    refine xg_t (xg_icF (u := 0) (v := 2) rfl xnm0 xnm0 (by decide)) ?_
    refine xg_t (xg_aload (va := (2, 82)) rfl rfl) ?_
    refine xg_t (xg_iload (va := (0, 2)) rfl rfl) ?_
    refine xg_t (xg_iload (va := (0, u45)) rfl rfl) ?_
    refine xg_t (xg_bip) ?_
    refine xg_t (xg_const) ?_
    refine xg_t (xg_iload (va := (0, u45)) rfl rfl) ?_
    refine xg_t (xg_imul (u := 2) (v := u45) (z := 2 * u45) xnm0 xnm0 (by omega)) ?_
    refine xg_t (xg_iadd (u := 60) (v := 2 * u45) (z := 60 + (2 * u45)) xnm0 xnm0 (by omega)) ?_
    refine xg_t (xg_iload (va := (0, 0)) rfl rfl) ?_
    refine xg_t (xg_iadd (u := 60 + (2 * u45)) (v := 0) (z := (60 + (2 * u45)) + 0) xnm0 xnm0 (by omega)) ?_
    refine xg_t (xg_aload (va := (2, 82)) rfl rfl) ?_
    refine xg_t (xg_const) ?_
    refine xg_t (xg_sip) ?_
    obtain ⟨f82_854, f82_856, f82_858, f82_860, f82_862, f82_864, f82_866, f82_868, f82_870, f82_872, f82_874, f82_875, f82_876, f82_878, f82_880, f82_882, h82_884, hb855, hb857, hb859, hb861, hb863, hb865, hb867, hb869, hb871, hb873, hb877, hb879, hb881, hb883, hb885⟩ := (hI536 82 (by decide) (by decide) : cp82 (wget w534 82))
    refine xg_cVi mX12_numbered (vs := [(0, 1), (0, 9999)]) (rest := [(0, (60 + (2 * u45)) + 0), (0, u45), (0, 2), (2, 82)]) (cn1 := 0) (sl1 := 0) rfl (mNumbered (hI536) (by omega) (by omega) pk546.2.2.2.1) rfl h82_884 rfl rfl rfl rfl rfl rfl (fun n890 w886 hq887 => ?_)
    obtain ⟨hn891, hI888, hF889⟩ := hq887
    clear hb855 hb857 hb859 hb861 hb863 hb865 hb867 hb869 hb871 hb873 hb877 hb879 hb881 hb883
    obtain ⟨hn892, hn893, hn894⟩ := hn891
    have pk895 : PK w w886 := PK.tr pk546 hn893
    have os896 : ∀ j, (j < 60 + 2 * u45 ∨ 62 + 2 * u45 ≤ j) → j < 140 → rwv w886 86 j = rwv w 86 j := fun j hj hl => (rwv_fr hF889 (by decide)).trans (os547 j hj hl)
    have rg897 : FA w886 ≠ 0 ∨ 0 = 1 := rg548.imp_left hn893.1
    have mf898 : ∀ s, s < 7 → rwv w886 85 s = rwv w 85 s := fun s hs => (rwv_fr hF889 (by decide)).trans (mf549 s hs)
    have ms899 : mu w886 < mu w := Nat.lt_of_le_of_lt hn893.2.1 ms550
    clear rg548
    obtain ⟨f82_900, f82_902, f82_904, f82_906, f82_908, f82_910, f82_912, f82_914, f82_916, f82_918, f82_920, f82_921, f82_922, f82_924, f82_926, f82_928, h82_930, hb901, hb903, hb905, hb907, hb909, hb911, hb913, hb915, hb917, hb919, hb923, hb925, hb927, hb929, hb931⟩ := (hI888 82 (by decide) (by decide) : cp82 (wget w886 82))
    refine xg_cVv mX12_puts (vs := [(0, 2), (0, u45), (0, (60 + (2 * u45)) + 0), (0, n890)]) (rest := []) (cn1 := 0) (sl1 := 0) rfl (mPuts2 (hI888) (by omega) (by omega) (by omega) (fun _ => by omega)) rfl h82_930 rfl rfl rfl rfl rfl rfl (fun w932 hq933 => ?_)
    obtain ⟨hI934, hF935, hx936⟩ := hq933
    obtain ⟨hp937, hp938⟩ := hx936
    have pk939 : PK w w932 := PK.tr pk895 (PK.fr hF935 (by decide) (by decide) pk895.2.2.2.1)
    have os940 : ∀ j, (j < 60 + 2 * u45 ∨ 62 + 2 * u45 ≤ j) → j < 140 → rwv w932 86 j = rwv w 86 j := fun j hj hl => (hp938 j (by omega) hl).trans (os896 j hj hl)
    have rg941 : FA w932 ≠ 0 ∨ 0 = 1 := rg897.imp_left (PK.fr hF935 (by decide) (by decide) pk895.2.2.2.1).1
    have rg942 : FA w932 ≠ 0 ∨ (1 ≤ n890 ∧ n890 ≤ 9999) := hn894.imp_left (PK.fr hF935 (by decide) (by decide) pk895.2.2.2.1).1
    have mf943 : ∀ s, s < 7 → rwv w932 85 s = rwv w 85 s := fun s hs => (rwv_fr hF935 (by decide)).trans (mf898 s hs)
    have ms944 : mu w932 < mu w := Nat.lt_of_le_of_lt (PK.fr hF935 (by decide) (by decide) pk895.2.2.2.1).2.1 ms899
    clear rg897 hn894
    refine xg_t (xg_iinc (u := 0) (z := 1) (l1 := [(3, (0, u45)), (2, (0, at_)), (1, (0, 2)), (0, (2, 82))]) rfl rfl (by decide) rfl) ?_
    refine xg_t (xg_goto) ?_
    refine xg_t (xg_blk (b := [(183, 2, 2, 4, 0, 0), (185, 1, 3, 2, 0, 0), (186, 3, 6, 218, 3, 0), (189, 1, 0, 0, 0, 0), (190, 1, 2, 1, 0, 0), (191, 1, 2, 3, 0, 0), (192, 2, 4, 60, 0, 0), (194, 1, 3, 2, 0, 0), (195, 1, 2, 3, 0, 0), (196, 1, 16, 0, 0, 0), (197, 1, 11, 0, 0, 0), (198, 2, 2, 4, 0, 0), (200, 1, 11, 0, 0, 0), (201, 1, 0, 0, 0, 0), (202, 1, 3, 1, 0, 0), (203, 3, 5, 9999, 0, 0), (206, 3, 13, 199, 96, 196), (209, 3, 13, 211, 96, 200), (212, 3, 9, 4, 1, 0), (215, 3, 8, 183, 0, 0)]) rfl) ?_
    refine xg_t (xg_iload (va := (0, 1)) rfl rfl) ?_
    refine xg_t (xg_const) ?_
    refine xg_t (xg_icF (u := 1) (v := 2) rfl xnm0 xnm0 (by decide)) ?_
    refine xg_t (xg_aload (va := (2, 82)) rfl rfl) ?_
    refine xg_t (xg_iload (va := (0, 2)) rfl rfl) ?_
    refine xg_t (xg_iload (va := (0, u45)) rfl rfl) ?_
    refine xg_t (xg_bip) ?_
    refine xg_t (xg_const) ?_
    refine xg_t (xg_iload (va := (0, u45)) rfl rfl) ?_
    refine xg_t (xg_imul (u := 2) (v := u45) (z := 2 * u45) xnm0 xnm0 (by omega)) ?_
    refine xg_t (xg_iadd (u := 60) (v := 2 * u45) (z := 60 + (2 * u45)) xnm0 xnm0 (by omega)) ?_
    refine xg_t (xg_iload (va := (0, 1)) rfl rfl) ?_
    refine xg_t (xg_iadd (u := 60 + (2 * u45)) (v := 1) (z := (60 + (2 * u45)) + 1) xnm0 xnm0 (by omega)) ?_
    refine xg_t (xg_aload (va := (2, 82)) rfl rfl) ?_
    refine xg_t (xg_const) ?_
    refine xg_t (xg_sip) ?_
    refine xg_cVi mX12_numbered (vs := [(0, 1), (0, 9999)]) (rest := [(0, (60 + (2 * u45)) + 1), (0, u45), (0, 2), (2, 82)]) (cn1 := 0) (sl1 := 0) rfl (mNumbered (hI934) (by omega) (by omega) pk939.2.2.2.1) rfl (hF935.get (by decide) h82_930) rfl rfl rfl rfl rfl rfl (fun n949 w945 hq946 => ?_)
    obtain ⟨hn950, hI947, hF948⟩ := hq946
    clear hb901 hb903 hb905 hb907 hb909 hb911 hb913 hb915 hb917 hb919 hb923 hb925 hb927 hb929
    obtain ⟨hn951, hn952, hn953⟩ := hn950
    have pk954 : PK w w945 := PK.tr pk939 hn952
    have os955 : ∀ j, (j < 60 + 2 * u45 ∨ 62 + 2 * u45 ≤ j) → j < 140 → rwv w945 86 j = rwv w 86 j := fun j hj hl => (rwv_fr hF948 (by decide)).trans (os940 j hj hl)
    have ix956 : u45 < 6 → rwv w945 86 ((60 + (2 * u45)) + 0) = n890 := fun h => (rwv_fr hF948 (by decide)).trans (hp937 h)
    have rg957 : FA w945 ≠ 0 ∨ 0 = 1 := rg941.imp_left hn952.1
    have rg958 : FA w945 ≠ 0 ∨ (1 ≤ n890 ∧ n890 ≤ 9999) := rg942.imp_left hn952.1
    have mf959 : ∀ s, s < 7 → rwv w945 85 s = rwv w 85 s := fun s hs => (rwv_fr hF948 (by decide)).trans (mf943 s hs)
    have ms960 : mu w945 < mu w := Nat.lt_of_le_of_lt hn952.2.1 ms944
    clear hp937 rg941 rg942
    obtain ⟨f82_961, f82_963, f82_965, f82_967, f82_969, f82_971, f82_973, f82_975, f82_977, f82_979, f82_981, f82_982, f82_983, f82_985, f82_987, f82_989, h82_991, hb962, hb964, hb966, hb968, hb970, hb972, hb974, hb976, hb978, hb980, hb984, hb986, hb988, hb990, hb992⟩ := (hI947 82 (by decide) (by decide) : cp82 (wget w945 82))
    refine xg_cVv mX12_puts (vs := [(0, 2), (0, u45), (0, (60 + (2 * u45)) + 1), (0, n949)]) (rest := []) (cn1 := 0) (sl1 := 0) rfl (mPuts2 (hI947) (by omega) (by omega) (by omega) (fun _ => by omega)) rfl h82_991 rfl rfl rfl rfl rfl rfl (fun w993 hq994 => ?_)
    obtain ⟨hI995, hF996, hx997⟩ := hq994
    obtain ⟨hp998, hp999⟩ := hx997
    have pk1000 : PK w w993 := PK.tr pk954 (PK.fr hF996 (by decide) (by decide) pk954.2.2.2.1)
    have os1001 : ∀ j, (j < 60 + 2 * u45 ∨ 62 + 2 * u45 ≤ j) → j < 140 → rwv w993 86 j = rwv w 86 j := fun j hj hl => (hp999 j (by omega) hl).trans (os955 j hj hl)
    have ix1002 : u45 < 6 → rwv w993 86 ((60 + (2 * u45)) + 0) = n890 := fun h => (hp999 _ (by omega) (by omega)).trans (ix956 h)
    have rg1003 : FA w993 ≠ 0 ∨ 0 = 1 := rg957.imp_left (PK.fr hF996 (by decide) (by decide) pk954.2.2.2.1).1
    have rg1004 : FA w993 ≠ 0 ∨ (1 ≤ n890 ∧ n890 ≤ 9999) := rg958.imp_left (PK.fr hF996 (by decide) (by decide) pk954.2.2.2.1).1
    have rg1005 : FA w993 ≠ 0 ∨ (1 ≤ n949 ∧ n949 ≤ 9999) := hn953.imp_left (PK.fr hF996 (by decide) (by decide) pk954.2.2.2.1).1
    have mf1006 : ∀ s, s < 7 → rwv w993 85 s = rwv w 85 s := fun s hs => (rwv_fr hF996 (by decide)).trans (mf959 s hs)
    have ms1007 : mu w993 < mu w := Nat.lt_of_le_of_lt (PK.fr hF996 (by decide) (by decide) pk954.2.2.2.1).2.1 ms960
    clear ix956 rg957 rg958 hn953
    refine xg_t (xg_iinc (u := 1) (z := 2) (l1 := [(3, (0, u45)), (2, (0, at_)), (1, (0, 2)), (0, (2, 82))]) rfl rfl (by decide) rfl) ?_
    refine xg_t (xg_goto) ?_
    refine xg_t (xg_blk (b := [(183, 2, 2, 4, 0, 0), (185, 1, 3, 2, 0, 0), (186, 3, 6, 218, 3, 0), (189, 1, 0, 0, 0, 0), (190, 1, 2, 1, 0, 0), (191, 1, 2, 3, 0, 0), (192, 2, 4, 60, 0, 0), (194, 1, 3, 2, 0, 0), (195, 1, 2, 3, 0, 0), (196, 1, 16, 0, 0, 0), (197, 1, 11, 0, 0, 0), (198, 2, 2, 4, 0, 0), (200, 1, 11, 0, 0, 0), (201, 1, 0, 0, 0, 0), (202, 1, 3, 1, 0, 0), (203, 3, 5, 9999, 0, 0), (206, 3, 13, 199, 96, 196), (209, 3, 13, 211, 96, 200), (212, 3, 9, 4, 1, 0), (215, 3, 8, 183, 0, 0)]) rfl) ?_
    refine xg_t (xg_iload (va := (0, 2)) rfl rfl) ?_
    refine xg_t (xg_const) ?_
    refine xg_t (xg_icT (u := 2) (v := 2) rfl xnm0 xnm0 (by decide)) ?_
    refine xg_t (xg_blk (b := [(218, 3, 8, 394, 0, 0)]) rfl) ?_
    refine xg_t (xg_goto) ?_
    refine xg_t (xg_drop (l1 := [(0, (2, 82)), (1, (0, 2)), (3, (0, u45))]) (List.forall_mem_cons.mpr ⟨List.mem_cons_of_mem _ (List.mem_cons_of_mem _ (List.mem_cons_of_mem _ (List.mem_cons_of_mem _ (List.mem_cons_self)))), List.forall_mem_cons.mpr ⟨List.mem_cons_of_mem _ (List.mem_cons_of_mem _ (List.mem_cons_of_mem _ (List.mem_cons_self))), List.forall_mem_cons.mpr ⟨List.mem_cons_of_mem _ (List.mem_cons_self), fun _ h => absurd h List.not_mem_nil⟩⟩⟩)) ?_
    have hX1008 : FA w993 ≠ 0 ∨ u45 < 6 := Or.inl (by have q := rg1003; omega)
    exact jn551 w993 (hI995) (((((((hF525.up (by decide)).tr (hF537.up (by decide))).tr (hF889.up (by decide))).tr (hF935.up (by decide))).tr (hF948.up (by decide))).tr (hF996.up (by decide)))) (⟨pk1000, os1001, ms1007, mf1006, hX1008⟩)
set_option maxHeartbeats 60000000 in
theorem mALineS3 {at_ : Nat} (hI : xMnv w) (hps : PS w) (hmb : ∀ s, s < 7 → rwv w 85 s ≤ 1000) (hln : fld w 82 14 ≤ 1000) (h7 : fld w 82 7 = 3) (hat : at_ ≤ 4294967295) : xTo (d + 7) mX12_aLine (43, [], [(2, (0, at_)), (1, (0, 3)), (0, (2, 82))], [], (w, bd, fc, 0, 0, rr)) (fun φ => ∃ w', xEnd 0 [] (w', bd, fc, 0, 0, rr) φ ∧ xMnv w' ∧ xFr [82, 83, 85, 86, 87] w w' ∧ ((FA w ≠ 0 → FA w' ≠ 0) ∧ PS w' ∧ ((fld w' 82 10 = 1 ∧ mu w' = mu w ∧ fld w' 82 14 = fld w 82 14 ∧ ∀ s, s < 7 → rwv w' 85 s = rwv w 85 s) ∨ (mu w' < mu w ∧ fld w' 82 14 = fld w 82 14 + 1 ∧ ∀ s, s < 7 → rwv w' 85 s ≤ rwv w 85 s + 1)) ∧ (FA w' ≠ 0 ∨ (DATA w → DATA w')) ∧ K83 w w')) := by
  obtain ⟨f82_1, f82_3, f82_5, f82_7, f82_9, f82_11, f82_13, f82_15, f82_17, f82_19, f82_21, f82_22, f82_23, f82_25, f82_27, f82_29, h82_31, hb2, hb4, hb6, hb8, hb10, hb12, hb14, hb16, hb18, hb20, hb24, hb26, hb28, hb30, hb32⟩ := (hI 82 (by decide) (by decide) : cp82 (wget w 82))
  have hf33 : fld w 82 7 = f82_11 := fld_of h82_31
  have hf34 : fld w 82 10 = f82_17 := fld_of h82_31
  have hf35 : fld w 82 14 = f82_19 := fld_of h82_31
  have hps_ : fld w 82 10 = 0 ∨ FA w ≠ 0 := hps
  obtain ⟨g85_36, h85_37, hb38⟩ := (hI 85 (by decide) (by decide) : cpI 7 52 4294967295 (wget w 85))
  have h85_37 : xRow w 85 7 52 g85_36 := h85_37
  obtain ⟨g86_39, h86_40, hb41⟩ := (hI 86 (by decide) (by decide) : cpI 140 53 4294967295 (wget w 86))
  have h86_40 : xRow w 86 140 53 g86_39 := h86_40
  obtain ⟨g87_42, h87_43, hb44⟩ := (hI 87 (by decide) (by decide) : cpI 20 54 4294967295 (wget w 87))
  have h87_43 : xRow w 87 20 54 g87_42 := h87_43
  refine xg_t (xg_blk (b := [(43, 1, 0, 0, 0, 0), (44, 3, 1, 12, 11, 17), (47, 1, 2, 1, 0, 0), (48, 1, 10, 0, 0, 0), (49, 1, 15, 3, 0, 0), (50, 1, 2, 3, 0, 0), (51, 1, 2, 1, 0, 0), (52, 3, 13, 194, 98, 193), (55, 3, 6, 64, 2, 0), (58, 1, 0, 0, 0, 0), (59, 1, 3, 3, 0, 0), (60, 1, 2, 2, 0, 0), (61, 3, 13, 115, 96, 186)]) rfl) ?_
  refine xg_t (xg_aload (va := (2, 82)) rfl rfl) ?_
  refine xg_t (xg_getf (va := (2, 85)) h82_31 rfl) ?_
  refine xg_t (xg_iload (va := (0, 3)) rfl rfl) ?_
  refine xg_ialdB (n := 3) (B := 4294967295) h85_37 (hb38) xnm0 (by omega) (fun u45 hu46 he47 => ?_)
  have hK48 : rwv w 85 3 = u45 := (rwv_of h85_37 (by decide)).trans he47
  have hm49 := hmb 3 (by decide)
  have hl50 : u45 ≤ 1000 := by omega
  refine xg_t (xg_istore (l1 := [(2, (0, at_)), (1, (0, 3)), (0, (2, 82))]) rfl rfl rfl) ?_
  refine xg_t (xg_iload (va := (0, u45)) rfl rfl) ?_
  refine xg_t (xg_iload (va := (0, 3)) rfl rfl) ?_
  refine xg_t (xg_cSr mX12_mostOf (vs := [(0, 3)]) (rest := [(0, u45)]) (rs := [(0, 4), (0, u45)]) (cn1 := 0) (sl1 := 0) rfl (mMostR3) rfl rfl rfl rfl rfl rfl rfl rfl) ?_
  by_cases hc51 : u45 < 4
  · refine xg_t (xg_icT (u := u45) (v := 4) rfl xnm0 xnm0 (xj_ltT hc51 (by omega))) ?_
    refine xg_t (xg_blk (b := [(64, 1, 0, 0, 0, 0), (65, 3, 13, 110, 96, 190), (68, 1, 2, 1, 0, 0), (69, 39, 33, 362, 0, 9)]) rfl) ?_
    refine xg_t (xg_aload (va := (2, 82)) rfl rfl) ?_
    refine xg_cVv mX12_advance (vs := []) (rest := []) (cn1 := 0) (sl1 := 0) rfl (mAdvance (hI)) rfl h82_31 rfl rfl rfl rfl rfl rfl (fun w52 hq53 => ?_)
    obtain ⟨hI54, hF55, hx56⟩ := hq53
    clear hb2 hb4 hb6 hb8 hb10 hb12 hb14 hb16 hb18 hb20 hb24 hb26 hb28 hb30
    obtain ⟨hv57, hv58, hv59, hv60⟩ := hx56
    have hf62 := FA_fr hF55 (by decide)
    have hs63 := (PK.rf hps).2.2.2.1
    unfold PS at hs63
    have pk61 : PK w w52 := ⟨fun _ => by omega, hv57, hv60, (show fld w52 82 10 = 0 ∨ FA w52 ≠ 0 by omega), K83.fr hF55 (by decide)⟩
    clear hs63
    have pk64 : PK w w52 := PK.tr (PK.rf hps) pk61
    have os65 : ∀ j, (j < 80 + 3 * u45 ∨ 83 + 3 * u45 ≤ j) → j < 140 → rwv w52 86 j = rwv w 86 j := fun j hj hl => (rwv_fr hF55 (by decide)).trans ((fun j _ _ => rfl) j hj hl)
    have mf66 : ∀ s, s < 7 → rwv w52 85 s = rwv w 85 s := fun s hs => (rwv_fr hF55 (by decide)).trans ((fun _ _ => rfl) s hs)
    have ms67 : mu w52 < mu w := Nat.lt_of_lt_of_le (hv58 (by omega)) (PK.rf hps).2.1
    clear hv58
    have jn68 : ∀ (w69 : List (List xE)), xMnv w69 → xFr [82, 83, 85, 86, 87] w w69 → (PK w w69 ∧ (∀ j, (j < 80 + 3 * u45 ∨ 83 + 3 * u45 ≤ j) → j < 140 → rwv w69 86 j = rwv w 86 j) ∧ mu w69 < mu w ∧ (∀ s, s < 7 → rwv w69 85 s = rwv w 85 s) ∧ (FA w69 ≠ 0 ∨ u45 < 4)) → xTo (d + 7) mX12_aLine (394, [], [(0, (2, 82)), (1, (0, 3)), (3, (0, u45))], [], (w69, bd, fc, 0, 0, rr)) (fun φ => ∃ w', xEnd 0 [] (w', bd, fc, 0, 0, rr) φ ∧ xMnv w' ∧ xFr [82, 83, 85, 86, 87] w w' ∧ ((FA w ≠ 0 → FA w' ≠ 0) ∧ PS w' ∧ ((fld w' 82 10 = 1 ∧ mu w' = mu w ∧ fld w' 82 14 = fld w 82 14 ∧ ∀ s, s < 7 → rwv w' 85 s = rwv w 85 s) ∨ (mu w' < mu w ∧ fld w' 82 14 = fld w 82 14 + 1 ∧ ∀ s, s < 7 → rwv w' 85 s ≤ rwv w 85 s + 1)) ∧ (FA w' ≠ 0 ∨ (DATA w → DATA w')) ∧ K83 w w')) := by
      intro w69 hI70 hF71 he72
      obtain ⟨hj73, hj74, hj75, hj76, hj77⟩ := he72
      refine xg_t (xg_blk (b := [(394, 1, 0, 0, 0, 0), (395, 3, 1, 12, 10, 180), (398, 3, 7, 416, 1, 0), (401, 1, 0, 0, 0, 0), (402, 3, 1, 12, 7, 151), (405, 1, 3, 2, 0, 0), (406, 3, 6, 416, 1, 0), (409, 1, 0, 0, 0, 0), (410, 3, 13, 110, 96, 190), (413, 3, 8, 420, 0, 0)]) rfl) ?_
      refine xg_t (xg_aload (va := (2, 82)) rfl rfl) ?_
      obtain ⟨f82_78, f82_80, f82_82, f82_84, f82_86, f82_88, f82_90, f82_92, f82_94, f82_96, f82_98, f82_99, f82_100, f82_102, f82_104, f82_106, h82_108, hb79, hb81, hb83, hb85, hb87, hb89, hb91, hb93, hb95, hb97, hb101, hb103, hb105, hb107, hb109⟩ := (hI70 82 (by decide) (by decide) : cp82 (wget w69 82))
      refine xg_t (xg_getf (va := (0, f82_94)) h82_108 rfl) ?_
      by_cases hc110 : f82_94 = 0
      · refine xg_t (xg_ifF (u := f82_94) rfl xnm0 (xj_neF hc110)) ?_
        refine xg_t (xg_aload (va := (2, 82)) rfl rfl) ?_
        refine xg_t (xg_getf (va := (0, f82_88)) h82_108 rfl) ?_
        refine xg_t (xg_const) ?_
        by_cases hc111 : f82_88 = 2
        · refine xg_t (xg_icF (u := f82_88) (v := 2) rfl xnm0 xnm0 (xj_neF hc111)) ?_
          refine xg_t (xg_aload (va := (2, 82)) rfl rfl) ?_
          refine xg_cVv mX12_advance (vs := []) (rest := []) (cn1 := 0) (sl1 := 0) rfl (mAdvance (hI70)) rfl h82_108 rfl rfl rfl rfl rfl rfl (fun w112 hq113 => ?_)
          obtain ⟨hI114, hF115, hx116⟩ := hq113
          clear hb79 hb81 hb83 hb85 hb87 hb89 hb91 hb93 hb95 hb97 hb101 hb103 hb105 hb107
          obtain ⟨hv117, hv118, hv119, hv120⟩ := hx116
          have hf122 := FA_fr hF115 (by decide)
          have hs123 := hj73.2.2.2.1
          unfold PS at hs123
          have pk121 : PK w69 w112 := ⟨fun _ => by omega, hv117, hv120, (show fld w112 82 10 = 0 ∨ FA w112 ≠ 0 by omega), K83.fr hF115 (by decide)⟩
          clear hs123
          clear hv118
          have pk124 : PK w w112 := PK.tr hj73 pk121
          have os125 : ∀ j, (j < 80 + 3 * u45 ∨ 83 + 3 * u45 ≤ j) → j < 140 → rwv w112 86 j = rwv w 86 j := fun j hj hl => (rwv_fr hF115 (by decide)).trans (hj74 j hj hl)
          have rg126 : FA w112 ≠ 0 ∨ u45 < 4 := hj77.imp_left pk121.1
          have mf127 : ∀ s, s < 7 → rwv w112 85 s = rwv w 85 s := fun s hs => (rwv_fr hF115 (by decide)).trans (hj76 s hs)
          have ms128 : mu w112 < mu w := Nat.lt_of_le_of_lt pk121.2.1 hj75
          clear hj77
          refine xg_t (xg_goto) ?_
          refine xg_t (xg_blk (b := [(420, 1, 0, 0, 0, 0), (421, 3, 1, 12, 11, 17), (424, 1, 2, 1, 0, 0), (425, 1, 39, 0, 0, 0), (426, 1, 10, 0, 0, 0), (427, 1, 3, 1, 0, 0), (428, 1, 11, 0, 0, 0), (429, 1, 17, 0, 0, 0), (430, 1, 0, 0, 0, 0), (431, 1, 19, 0, 0, 0), (432, 3, 1, 12, 14, 212), (435, 1, 3, 1, 0, 0), (436, 1, 11, 0, 0, 0), (437, 3, 14, 12, 14, 212), (440, 1, 12, 0, 0, 0)]) rfl) ?_
          obtain ⟨f82_129, f82_131, f82_133, f82_135, f82_137, f82_139, f82_141, f82_143, f82_145, f82_147, f82_149, f82_150, f82_151, f82_153, f82_155, f82_157, h82_159, hb130, hb132, hb134, hb136, hb138, hb140, hb142, hb144, hb146, hb148, hb152, hb154, hb156, hb158, hb160⟩ := (hI114 82 (by decide) (by decide) : cp82 (wget w112 82))
          have hf161 : fld w112 82 4 = f82_133 := fld_of h82_159
          have hf162 : fld w112 82 5 = f82_135 := fld_of h82_159
          have hf163 : fld w112 82 7 = f82_139 := fld_of h82_159
          have hf164 : fld w112 82 10 = f82_145 := fld_of h82_159
          have hf165 : fld w112 82 14 = f82_147 := fld_of h82_159
          have hu166 : mu w112 = 2 * (fld w112 82 4 - fld w112 82 5) + min 1 (fld w112 82 7) := rfl
          have hf167 := pk124.2.2.1
          have hl168 : f82_147 ≤ 1000 := by omega
          refine xg_t (xg_aload (va := (2, 82)) rfl rfl) ?_
          refine xg_t (xg_getf (va := (2, 85)) h82_159 rfl) ?_
          refine xg_t (xg_iload (va := (0, 3)) rfl rfl) ?_
          refine xg_t (xg_dup2 rfl) ?_
          obtain ⟨g85_169, h85_170, hb171⟩ := (hI114 85 (by decide) (by decide) : cpI 7 52 4294967295 (wget w112 85))
          have h85_170 : xRow w112 85 7 52 g85_169 := h85_170
          refine xg_ialdB (n := 3) (B := 4294967295) h85_170 (hb171) xnm0 (by omega) (fun u172 hu173 he174 => ?_)
          have hl175 : u172 = u45 := by have q1 := rwv_of h85_170 (show 3 < 7 by decide); have q2 := mf127 3 (by decide); omega
          refine xg_t (xg_const) ?_
          refine xg_t (xg_iadd (u := u172) (v := 1) (z := u172 + 1) xnm0 xnm0 (by omega)) ?_
          refine xg_iastK (n := 3) (u := u172 + 1) h85_170 xnm0 xnm0 rfl (by omega) (fun w176 hr177 hb178 => ?_)
          refine xg_t (xg_aload (va := (2, 82)) rfl rfl) ?_
          refine xg_t (xg_dup rfl) ?_
          refine xg_t (xg_getf (va := (0, f82_147)) (hb178.get (by decide) h82_159) rfl) ?_
          refine xg_t (xg_const) ?_
          refine xg_t (xg_iadd (u := f82_147) (v := 1) (z := f82_147 + 1) xnm0 xnm0 (by omega)) ?_
          refine xg_putI (fl1 := [(2, 83), (2, 84), (0, f82_129), (0, f82_131), (0, f82_133), (0, f82_135), (0, f82_137), (0, f82_139), (0, f82_141), (0, f82_143), (0, f82_145), (2, 85), (2, 86), (2, 87), (0, f82_147 + 1), (2, 88), (2, 89), (2, 90), (2, 91), (2, 92), (2, 93), (2, 94), (4, f82_149), (4, f82_150), (0, f82_151), (2, 95), (2, 96), (2, 97), (2, 98), (2, 99), (2, 100), (2, 101), (2, 102), (0, f82_153), (2, 103), (2, 104), (2, 105), (2, 106), (2, 107), (2, 108), (2, 109), (0, f82_155), (0, f82_157), (2, 110), (2, 111), (2, 112), (2, 113)]) (hb178.get (by decide) h82_159) rfl rfl rfl (fun w179 hk180 hb181 => ?_)
          have hF182 : xFr [82, 85] w112 w179 := ((xFr.of (S := [82, 85]) hb178 (by decide)).tr (xFr.of (S := [82, 85]) hb181 (by decide)))
          have hA183 := FA_fr hF182 (by decide)
          have hf184 : fld w179 82 4 = f82_133 := fld_of hk180
          have hf185 : fld w179 82 5 = f82_135 := fld_of hk180
          have hf186 : fld w179 82 7 = f82_139 := fld_of hk180
          have hf187 : fld w179 82 10 = f82_145 := fld_of hk180
          have hf188 : fld w179 82 14 = f82_147 + 1 := fld_of hk180
          have hu189 : mu w179 = 2 * (fld w179 82 4 - fld w179 82 5) + min 1 (fld w179 82 7) := rfl
          have pq190 := pk124
          unfold PK PS at pq190
          have hM191 : ∀ s, s < 7 → s ≠ 3 → rwv w179 85 s = rwv w 85 s := fun s hs hn => (rwv_of (hr177.but hb181 (by decide)) hs).trans ((if_neg hn).trans ((rwv_of h85_170 hs).symm.trans (mf127 s hs)))
          have hM192 : rwv w179 85 3 = u45 + 1 := (rwv_of (hr177.but hb181 (by decide)) (by decide)).trans ((if_pos rfl).trans (by omega))
          have hM193 : ∀ s, s < 7 → rwv w179 85 s ≤ rwv w 85 s + 1 := fun s hs => by
            by_cases z : s = 3
            · subst z; omega
            · rw [hM191 s hs z]; omega
          have hO194 : ∀ j, (j < 80 + 3 * u45 ∨ 83 + 3 * u45 ≤ j) → j < 140 → rwv w179 86 j = rwv w 86 j := fun j hj hl => (rwv_fr hF182 (by decide)).trans (os125 j hj hl)
          have hl196 : FA w112 ≠ 0 ∨ u45 < 4 := rg126
          have hN195 : FA w179 ≠ 0 ∨ 4 ≤ u45 ∨ True := Or.inr (Or.inr trivial)
          have hX197 : FA w179 ≠ 0 ∨ u45 < 4 := by omega
          have hD198 : FA w179 ≠ 0 ∨ (DATA w → DATA w179) := by
            by_cases z : FA w179 ≠ 0
            · exact Or.inl z
            · exact Or.inr (fun hd => hd.s3 hM191 hK48 hM192 (hX197.resolve_left z) hO194 ((hN195.resolve_left z).resolve_left (by have := hX197.resolve_left z; omega)))
          exact xg_e ⟨w179, ⟨rfl, rfl⟩, xMnv.up (S := [85, 82]) hI114 ((xFr.of (S := [85, 82]) hb178 (by decide)).tr (xFr.of (S := [85, 82]) hb181 (by decide))) (List.forall_mem_cons.mpr ⟨(show cpI 7 52 4294967295 (wget w179 85) from ⟨_, (hr177.but hb181 (by decide)), xrb (by omega) (hb171)⟩), List.forall_mem_cons.mpr ⟨(show cp82 (wget w179 82) from ⟨f82_129, f82_131, f82_133, f82_135, f82_137, f82_139, f82_141, f82_143, f82_145, f82_147 + 1, f82_149, f82_150, f82_151, f82_153, f82_155, f82_157, hk180, hb130, hb132, hb134, hb136, hb138, hb140, hb142, hb144, hb146, by omega, hb152, hb154, hb156, hb158, by omega⟩), fun _ h => absurd h List.not_mem_nil⟩⟩), ((hF71.tr (hF115.up (by decide))).tr ((xFr.of (S := [82, 83, 85, 86, 87]) hb178 (by decide)).tr (xFr.of (S := [82, 83, 85, 86, 87]) hb181 (by decide)))), ⟨fun h => by have := pq190.1 h; omega, (show fld w179 82 10 = 0 ∨ FA w179 ≠ 0 by omega), Or.inr ⟨by have := ms128; omega, by omega, hM193⟩, hD198, pk124.2.2.2.2.tr (K83.fr hF182 (by decide))⟩⟩
        · refine xg_t (xg_icT (u := f82_88) (v := 2) rfl xnm0 xnm0 (xj_neT hc111)) ?_
          refine xg_t (xg_blk (b := [(416, 1, 0, 0, 0, 0), (417, 3, 13, 140, 96, 183)]) rfl) ?_
          refine xg_t (xg_aload (va := (2, 82)) rfl rfl) ?_
          refine xg_cVv mX12_ends (vs := []) (rest := []) (cn1 := 0) (sl1 := 0) rfl (mEnds (hI70) hj73.2.2.2.1) rfl h82_108 rfl rfl rfl rfl rfl rfl (fun w199 hq200 => ?_)
          obtain ⟨hI201, hF202, hx203⟩ := hq200
          clear hb79 hb81 hb83 hb85 hb87 hb89 hb91 hb93 hb95 hb97 hb101 hb103 hb105 hb107
          obtain ⟨hv204, hv205, hv206, hv207, hv208⟩ := hx203
          have pk209 : PK w69 w199 := ⟨fun _ => hv204, by omega, by omega, Or.inr hv204, hv208⟩
          have pk210 : PK w w199 := PK.tr hj73 pk209
          have os211 : ∀ j, (j < 80 + 3 * u45 ∨ 83 + 3 * u45 ≤ j) → j < 140 → rwv w199 86 j = rwv w 86 j := fun j hj hl => (rwv_fr hF202 (by decide)).trans (hj74 j hj hl)
          have rg212 : FA w199 ≠ 0 ∨ u45 < 4 := hj77.imp_left pk209.1
          have mf213 : ∀ s, s < 7 → rwv w199 85 s = rwv w 85 s := fun s hs => (rwv_fr hF202 (by decide)).trans (hj76 s hs)
          have ms214 : mu w199 < mu w := Nat.lt_of_le_of_lt pk209.2.1 hj75
          clear hj77
          refine xg_t (xg_blk (b := [(420, 1, 0, 0, 0, 0), (421, 3, 1, 12, 11, 17), (424, 1, 2, 1, 0, 0), (425, 1, 39, 0, 0, 0), (426, 1, 10, 0, 0, 0), (427, 1, 3, 1, 0, 0), (428, 1, 11, 0, 0, 0), (429, 1, 17, 0, 0, 0), (430, 1, 0, 0, 0, 0), (431, 1, 19, 0, 0, 0), (432, 3, 1, 12, 14, 212), (435, 1, 3, 1, 0, 0), (436, 1, 11, 0, 0, 0), (437, 3, 14, 12, 14, 212), (440, 1, 12, 0, 0, 0)]) rfl) ?_
          obtain ⟨f82_215, f82_217, f82_219, f82_221, f82_223, f82_225, f82_227, f82_229, f82_231, f82_233, f82_235, f82_236, f82_237, f82_239, f82_241, f82_243, h82_245, hb216, hb218, hb220, hb222, hb224, hb226, hb228, hb230, hb232, hb234, hb238, hb240, hb242, hb244, hb246⟩ := (hI201 82 (by decide) (by decide) : cp82 (wget w199 82))
          have hf247 : fld w199 82 4 = f82_219 := fld_of h82_245
          have hf248 : fld w199 82 5 = f82_221 := fld_of h82_245
          have hf249 : fld w199 82 7 = f82_225 := fld_of h82_245
          have hf250 : fld w199 82 10 = f82_231 := fld_of h82_245
          have hf251 : fld w199 82 14 = f82_233 := fld_of h82_245
          have hu252 : mu w199 = 2 * (fld w199 82 4 - fld w199 82 5) + min 1 (fld w199 82 7) := rfl
          have hf253 := pk210.2.2.1
          have hl254 : f82_233 ≤ 1000 := by omega
          refine xg_t (xg_aload (va := (2, 82)) rfl rfl) ?_
          refine xg_t (xg_getf (va := (2, 85)) h82_245 rfl) ?_
          refine xg_t (xg_iload (va := (0, 3)) rfl rfl) ?_
          refine xg_t (xg_dup2 rfl) ?_
          obtain ⟨g85_255, h85_256, hb257⟩ := (hI201 85 (by decide) (by decide) : cpI 7 52 4294967295 (wget w199 85))
          have h85_256 : xRow w199 85 7 52 g85_255 := h85_256
          refine xg_ialdB (n := 3) (B := 4294967295) h85_256 (hb257) xnm0 (by omega) (fun u258 hu259 he260 => ?_)
          have hl261 : u258 = u45 := by have q1 := rwv_of h85_256 (show 3 < 7 by decide); have q2 := mf213 3 (by decide); omega
          refine xg_t (xg_const) ?_
          refine xg_t (xg_iadd (u := u258) (v := 1) (z := u258 + 1) xnm0 xnm0 (by omega)) ?_
          refine xg_iastK (n := 3) (u := u258 + 1) h85_256 xnm0 xnm0 rfl (by omega) (fun w262 hr263 hb264 => ?_)
          refine xg_t (xg_aload (va := (2, 82)) rfl rfl) ?_
          refine xg_t (xg_dup rfl) ?_
          refine xg_t (xg_getf (va := (0, f82_233)) (hb264.get (by decide) h82_245) rfl) ?_
          refine xg_t (xg_const) ?_
          refine xg_t (xg_iadd (u := f82_233) (v := 1) (z := f82_233 + 1) xnm0 xnm0 (by omega)) ?_
          refine xg_putI (fl1 := [(2, 83), (2, 84), (0, f82_215), (0, f82_217), (0, f82_219), (0, f82_221), (0, f82_223), (0, f82_225), (0, f82_227), (0, f82_229), (0, f82_231), (2, 85), (2, 86), (2, 87), (0, f82_233 + 1), (2, 88), (2, 89), (2, 90), (2, 91), (2, 92), (2, 93), (2, 94), (4, f82_235), (4, f82_236), (0, f82_237), (2, 95), (2, 96), (2, 97), (2, 98), (2, 99), (2, 100), (2, 101), (2, 102), (0, f82_239), (2, 103), (2, 104), (2, 105), (2, 106), (2, 107), (2, 108), (2, 109), (0, f82_241), (0, f82_243), (2, 110), (2, 111), (2, 112), (2, 113)]) (hb264.get (by decide) h82_245) rfl rfl rfl (fun w265 hk266 hb267 => ?_)
          have hF268 : xFr [82, 85] w199 w265 := ((xFr.of (S := [82, 85]) hb264 (by decide)).tr (xFr.of (S := [82, 85]) hb267 (by decide)))
          have hA269 := FA_fr hF268 (by decide)
          have hf270 : fld w265 82 4 = f82_219 := fld_of hk266
          have hf271 : fld w265 82 5 = f82_221 := fld_of hk266
          have hf272 : fld w265 82 7 = f82_225 := fld_of hk266
          have hf273 : fld w265 82 10 = f82_231 := fld_of hk266
          have hf274 : fld w265 82 14 = f82_233 + 1 := fld_of hk266
          have hu275 : mu w265 = 2 * (fld w265 82 4 - fld w265 82 5) + min 1 (fld w265 82 7) := rfl
          have pq276 := pk210
          unfold PK PS at pq276
          have hM277 : ∀ s, s < 7 → s ≠ 3 → rwv w265 85 s = rwv w 85 s := fun s hs hn => (rwv_of (hr263.but hb267 (by decide)) hs).trans ((if_neg hn).trans ((rwv_of h85_256 hs).symm.trans (mf213 s hs)))
          have hM278 : rwv w265 85 3 = u45 + 1 := (rwv_of (hr263.but hb267 (by decide)) (by decide)).trans ((if_pos rfl).trans (by omega))
          have hM279 : ∀ s, s < 7 → rwv w265 85 s ≤ rwv w 85 s + 1 := fun s hs => by
            by_cases z : s = 3
            · subst z; omega
            · rw [hM277 s hs z]; omega
          have hO280 : ∀ j, (j < 80 + 3 * u45 ∨ 83 + 3 * u45 ≤ j) → j < 140 → rwv w265 86 j = rwv w 86 j := fun j hj hl => (rwv_fr hF268 (by decide)).trans (os211 j hj hl)
          have hl282 : FA w199 ≠ 0 ∨ u45 < 4 := rg212
          have hN281 : FA w265 ≠ 0 ∨ 4 ≤ u45 ∨ True := Or.inr (Or.inr trivial)
          have hX283 : FA w265 ≠ 0 ∨ u45 < 4 := by omega
          have hD284 : FA w265 ≠ 0 ∨ (DATA w → DATA w265) := by
            by_cases z : FA w265 ≠ 0
            · exact Or.inl z
            · exact Or.inr (fun hd => hd.s3 hM277 hK48 hM278 (hX283.resolve_left z) hO280 ((hN281.resolve_left z).resolve_left (by have := hX283.resolve_left z; omega)))
          exact xg_e ⟨w265, ⟨rfl, rfl⟩, xMnv.up (S := [85, 82]) hI201 ((xFr.of (S := [85, 82]) hb264 (by decide)).tr (xFr.of (S := [85, 82]) hb267 (by decide))) (List.forall_mem_cons.mpr ⟨(show cpI 7 52 4294967295 (wget w265 85) from ⟨_, (hr263.but hb267 (by decide)), xrb (by omega) (hb257)⟩), List.forall_mem_cons.mpr ⟨(show cp82 (wget w265 82) from ⟨f82_215, f82_217, f82_219, f82_221, f82_223, f82_225, f82_227, f82_229, f82_231, f82_233 + 1, f82_235, f82_236, f82_237, f82_239, f82_241, f82_243, hk266, hb216, hb218, hb220, hb222, hb224, hb226, hb228, hb230, hb232, by omega, hb238, hb240, hb242, hb244, by omega⟩), fun _ h => absurd h List.not_mem_nil⟩⟩), ((hF71.tr (hF202.up (by decide))).tr ((xFr.of (S := [82, 83, 85, 86, 87]) hb264 (by decide)).tr (xFr.of (S := [82, 83, 85, 86, 87]) hb267 (by decide)))), ⟨fun h => by have := pq276.1 h; omega, (show fld w265 82 10 = 0 ∨ FA w265 ≠ 0 by omega), Or.inr ⟨by have := ms214; omega, by omega, hM279⟩, hD284, pk210.2.2.2.2.tr (K83.fr hF268 (by decide))⟩⟩
      · refine xg_t (xg_ifT (u := f82_94) rfl xnm0 (xj_neT hc110)) ?_
        refine xg_t (xg_blk (b := [(416, 1, 0, 0, 0, 0), (417, 3, 13, 140, 96, 183)]) rfl) ?_
        refine xg_t (xg_aload (va := (2, 82)) rfl rfl) ?_
        refine xg_cVv mX12_ends (vs := []) (rest := []) (cn1 := 0) (sl1 := 0) rfl (mEnds (hI70) hj73.2.2.2.1) rfl h82_108 rfl rfl rfl rfl rfl rfl (fun w285 hq286 => ?_)
        obtain ⟨hI287, hF288, hx289⟩ := hq286
        clear hb79 hb81 hb83 hb85 hb87 hb89 hb91 hb93 hb95 hb97 hb101 hb103 hb105 hb107
        obtain ⟨hv290, hv291, hv292, hv293, hv294⟩ := hx289
        have pk295 : PK w69 w285 := ⟨fun _ => hv290, by omega, by omega, Or.inr hv290, hv294⟩
        have pk296 : PK w w285 := PK.tr hj73 pk295
        have os297 : ∀ j, (j < 80 + 3 * u45 ∨ 83 + 3 * u45 ≤ j) → j < 140 → rwv w285 86 j = rwv w 86 j := fun j hj hl => (rwv_fr hF288 (by decide)).trans (hj74 j hj hl)
        have rg298 : FA w285 ≠ 0 ∨ u45 < 4 := hj77.imp_left pk295.1
        have mf299 : ∀ s, s < 7 → rwv w285 85 s = rwv w 85 s := fun s hs => (rwv_fr hF288 (by decide)).trans (hj76 s hs)
        have ms300 : mu w285 < mu w := Nat.lt_of_le_of_lt pk295.2.1 hj75
        clear hj77
        refine xg_t (xg_blk (b := [(420, 1, 0, 0, 0, 0), (421, 3, 1, 12, 11, 17), (424, 1, 2, 1, 0, 0), (425, 1, 39, 0, 0, 0), (426, 1, 10, 0, 0, 0), (427, 1, 3, 1, 0, 0), (428, 1, 11, 0, 0, 0), (429, 1, 17, 0, 0, 0), (430, 1, 0, 0, 0, 0), (431, 1, 19, 0, 0, 0), (432, 3, 1, 12, 14, 212), (435, 1, 3, 1, 0, 0), (436, 1, 11, 0, 0, 0), (437, 3, 14, 12, 14, 212), (440, 1, 12, 0, 0, 0)]) rfl) ?_
        obtain ⟨f82_301, f82_303, f82_305, f82_307, f82_309, f82_311, f82_313, f82_315, f82_317, f82_319, f82_321, f82_322, f82_323, f82_325, f82_327, f82_329, h82_331, hb302, hb304, hb306, hb308, hb310, hb312, hb314, hb316, hb318, hb320, hb324, hb326, hb328, hb330, hb332⟩ := (hI287 82 (by decide) (by decide) : cp82 (wget w285 82))
        have hf333 : fld w285 82 4 = f82_305 := fld_of h82_331
        have hf334 : fld w285 82 5 = f82_307 := fld_of h82_331
        have hf335 : fld w285 82 7 = f82_311 := fld_of h82_331
        have hf336 : fld w285 82 10 = f82_317 := fld_of h82_331
        have hf337 : fld w285 82 14 = f82_319 := fld_of h82_331
        have hu338 : mu w285 = 2 * (fld w285 82 4 - fld w285 82 5) + min 1 (fld w285 82 7) := rfl
        have hf339 := pk296.2.2.1
        have hl340 : f82_319 ≤ 1000 := by omega
        refine xg_t (xg_aload (va := (2, 82)) rfl rfl) ?_
        refine xg_t (xg_getf (va := (2, 85)) h82_331 rfl) ?_
        refine xg_t (xg_iload (va := (0, 3)) rfl rfl) ?_
        refine xg_t (xg_dup2 rfl) ?_
        obtain ⟨g85_341, h85_342, hb343⟩ := (hI287 85 (by decide) (by decide) : cpI 7 52 4294967295 (wget w285 85))
        have h85_342 : xRow w285 85 7 52 g85_341 := h85_342
        refine xg_ialdB (n := 3) (B := 4294967295) h85_342 (hb343) xnm0 (by omega) (fun u344 hu345 he346 => ?_)
        have hl347 : u344 = u45 := by have q1 := rwv_of h85_342 (show 3 < 7 by decide); have q2 := mf299 3 (by decide); omega
        refine xg_t (xg_const) ?_
        refine xg_t (xg_iadd (u := u344) (v := 1) (z := u344 + 1) xnm0 xnm0 (by omega)) ?_
        refine xg_iastK (n := 3) (u := u344 + 1) h85_342 xnm0 xnm0 rfl (by omega) (fun w348 hr349 hb350 => ?_)
        refine xg_t (xg_aload (va := (2, 82)) rfl rfl) ?_
        refine xg_t (xg_dup rfl) ?_
        refine xg_t (xg_getf (va := (0, f82_319)) (hb350.get (by decide) h82_331) rfl) ?_
        refine xg_t (xg_const) ?_
        refine xg_t (xg_iadd (u := f82_319) (v := 1) (z := f82_319 + 1) xnm0 xnm0 (by omega)) ?_
        refine xg_putI (fl1 := [(2, 83), (2, 84), (0, f82_301), (0, f82_303), (0, f82_305), (0, f82_307), (0, f82_309), (0, f82_311), (0, f82_313), (0, f82_315), (0, f82_317), (2, 85), (2, 86), (2, 87), (0, f82_319 + 1), (2, 88), (2, 89), (2, 90), (2, 91), (2, 92), (2, 93), (2, 94), (4, f82_321), (4, f82_322), (0, f82_323), (2, 95), (2, 96), (2, 97), (2, 98), (2, 99), (2, 100), (2, 101), (2, 102), (0, f82_325), (2, 103), (2, 104), (2, 105), (2, 106), (2, 107), (2, 108), (2, 109), (0, f82_327), (0, f82_329), (2, 110), (2, 111), (2, 112), (2, 113)]) (hb350.get (by decide) h82_331) rfl rfl rfl (fun w351 hk352 hb353 => ?_)
        have hF354 : xFr [82, 85] w285 w351 := ((xFr.of (S := [82, 85]) hb350 (by decide)).tr (xFr.of (S := [82, 85]) hb353 (by decide)))
        have hA355 := FA_fr hF354 (by decide)
        have hf356 : fld w351 82 4 = f82_305 := fld_of hk352
        have hf357 : fld w351 82 5 = f82_307 := fld_of hk352
        have hf358 : fld w351 82 7 = f82_311 := fld_of hk352
        have hf359 : fld w351 82 10 = f82_317 := fld_of hk352
        have hf360 : fld w351 82 14 = f82_319 + 1 := fld_of hk352
        have hu361 : mu w351 = 2 * (fld w351 82 4 - fld w351 82 5) + min 1 (fld w351 82 7) := rfl
        have pq362 := pk296
        unfold PK PS at pq362
        have hM363 : ∀ s, s < 7 → s ≠ 3 → rwv w351 85 s = rwv w 85 s := fun s hs hn => (rwv_of (hr349.but hb353 (by decide)) hs).trans ((if_neg hn).trans ((rwv_of h85_342 hs).symm.trans (mf299 s hs)))
        have hM364 : rwv w351 85 3 = u45 + 1 := (rwv_of (hr349.but hb353 (by decide)) (by decide)).trans ((if_pos rfl).trans (by omega))
        have hM365 : ∀ s, s < 7 → rwv w351 85 s ≤ rwv w 85 s + 1 := fun s hs => by
          by_cases z : s = 3
          · subst z; omega
          · rw [hM363 s hs z]; omega
        have hO366 : ∀ j, (j < 80 + 3 * u45 ∨ 83 + 3 * u45 ≤ j) → j < 140 → rwv w351 86 j = rwv w 86 j := fun j hj hl => (rwv_fr hF354 (by decide)).trans (os297 j hj hl)
        have hl368 : FA w285 ≠ 0 ∨ u45 < 4 := rg298
        have hN367 : FA w351 ≠ 0 ∨ 4 ≤ u45 ∨ True := Or.inr (Or.inr trivial)
        have hX369 : FA w351 ≠ 0 ∨ u45 < 4 := by omega
        have hD370 : FA w351 ≠ 0 ∨ (DATA w → DATA w351) := by
          by_cases z : FA w351 ≠ 0
          · exact Or.inl z
          · exact Or.inr (fun hd => hd.s3 hM363 hK48 hM364 (hX369.resolve_left z) hO366 ((hN367.resolve_left z).resolve_left (by have := hX369.resolve_left z; omega)))
        exact xg_e ⟨w351, ⟨rfl, rfl⟩, xMnv.up (S := [85, 82]) hI287 ((xFr.of (S := [85, 82]) hb350 (by decide)).tr (xFr.of (S := [85, 82]) hb353 (by decide))) (List.forall_mem_cons.mpr ⟨(show cpI 7 52 4294967295 (wget w351 85) from ⟨_, (hr349.but hb353 (by decide)), xrb (by omega) (hb343)⟩), List.forall_mem_cons.mpr ⟨(show cp82 (wget w351 82) from ⟨f82_301, f82_303, f82_305, f82_307, f82_309, f82_311, f82_313, f82_315, f82_317, f82_319 + 1, f82_321, f82_322, f82_323, f82_325, f82_327, f82_329, hk352, hb302, hb304, hb306, hb308, hb310, hb312, hb314, hb316, hb318, by omega, hb324, hb326, hb328, hb330, by omega⟩), fun _ h => absurd h List.not_mem_nil⟩⟩), ((hF71.tr (hF288.up (by decide))).tr ((xFr.of (S := [82, 83, 85, 86, 87]) hb350 (by decide)).tr (xFr.of (S := [82, 83, 85, 86, 87]) hb353 (by decide)))), ⟨fun h => by have := pq362.1 h; omega, (show fld w351 82 10 = 0 ∨ FA w351 ≠ 0 by omega), Or.inr ⟨by have := ms300; omega, by omega, hM365⟩, hD370, pk296.2.2.2.2.tr (K83.fr hF354 (by decide))⟩⟩
    refine xg_t (xg_iload (va := (0, 3)) rfl rfl) ?_
    refine xg_t (xg_swt (ks := [(0, 108), (1, 116), (2, 180), (3, 221), (4, 273), (5, 326)]) (u := 3) (z := 221) rfl rfl rfl xnm0 (xsw_n (by omega) (xsw_n (by omega) (xsw_n (by omega) (xsw_y rfl))))) ?_
    refine xg_t (xg_blk (b := [(221, 1, 3, 0, 0, 0), (222, 2, 15, 4, 0, 0)]) rfl) ?_
    refine xg_t (xg_const) ?_
    refine xg_t (xg_istore (l1 := [(3, (0, u45)), (2, (0, at_)), (1, (0, 3)), (0, (2, 82))]) rfl rfl rfl) ?_
    refine xg_t (xg_blk (b := [(224, 2, 2, 4, 0, 0), (226, 1, 3, 3, 0, 0), (227, 3, 6, 270, 3, 0), (230, 1, 0, 0, 0, 0), (231, 1, 2, 1, 0, 0), (232, 1, 2, 3, 0, 0), (233, 2, 4, 80, 0, 0), (235, 1, 3, 3, 0, 0), (236, 1, 2, 3, 0, 0), (237, 1, 16, 0, 0, 0), (238, 1, 11, 0, 0, 0), (239, 2, 2, 4, 0, 0), (241, 1, 11, 0, 0, 0), (242, 1, 0, 0, 0, 0), (243, 1, 3, 1, 0, 0), (244, 2, 2, 4, 0, 0), (246, 1, 3, 2, 0, 0), (247, 3, 6, 255, 3, 0), (250, 2, 4, 10, 0, 0), (252, 3, 8, 258, 0, 0)]) rfl) ?_
    refine xg_t (xg_iload (va := (0, 0)) rfl rfl) ?_
    refine xg_t (xg_const) ?_
    refine xg_t (xg_icF (u := 0) (v := 3) rfl xnm0 xnm0 (by decide)) ?_
    refine xg_t (xg_aload (va := (2, 82)) rfl rfl) ?_
    refine xg_t (xg_iload (va := (0, 3)) rfl rfl) ?_
    refine xg_t (xg_iload (va := (0, u45)) rfl rfl) ?_
    refine xg_t (xg_bip) ?_
    refine xg_t (xg_const) ?_
    refine xg_t (xg_iload (va := (0, u45)) rfl rfl) ?_
    refine xg_t (xg_imul (u := 3) (v := u45) (z := 3 * u45) xnm0 xnm0 (by omega)) ?_
    refine xg_t (xg_iadd (u := 80) (v := 3 * u45) (z := 80 + (3 * u45)) xnm0 xnm0 (by omega)) ?_
    refine xg_t (xg_iload (va := (0, 0)) rfl rfl) ?_
    refine xg_t (xg_iadd (u := 80 + (3 * u45)) (v := 0) (z := (80 + (3 * u45)) + 0) xnm0 xnm0 (by omega)) ?_
    refine xg_t (xg_aload (va := (2, 82)) rfl rfl) ?_
    refine xg_t (xg_const) ?_
    refine xg_t (xg_iload (va := (0, 0)) rfl rfl) ?_
    refine xg_t (xg_const) ?_
    refine xg_t (xg_icF (u := 0) (v := 2) rfl xnm0 xnm0 (by decide)) ?_
    refine xg_t (xg_bip) ?_
    refine xg_t (xg_goto) ?_
    refine xg_t (xg_blk (b := [(258, 3, 13, 199, 96, 196), (261, 3, 13, 211, 96, 200), (264, 3, 9, 4, 1, 0), (267, 3, 8, 224, 0, 0)]) rfl) ?_
    obtain ⟨f82_371, f82_373, f82_375, f82_377, f82_379, f82_381, f82_383, f82_385, f82_387, f82_389, f82_391, f82_392, f82_393, f82_395, f82_397, f82_399, h82_401, hb372, hb374, hb376, hb378, hb380, hb382, hb384, hb386, hb388, hb390, hb394, hb396, hb398, hb400, hb402⟩ := (hI54 82 (by decide) (by decide) : cp82 (wget w52 82))
    refine xg_cVi mX12_numbered (vs := [(0, 1), (0, 10)]) (rest := [(0, (80 + (3 * u45)) + 0), (0, u45), (0, 3), (2, 82)]) (cn1 := 0) (sl1 := 0) rfl (mNumbered (hI54) (by omega) (by omega) pk64.2.2.2.1) rfl h82_401 rfl rfl rfl rfl rfl rfl (fun n407 w403 hq404 => ?_)
    obtain ⟨hn408, hI405, hF406⟩ := hq404
    clear hb372 hb374 hb376 hb378 hb380 hb382 hb384 hb386 hb388 hb390 hb394 hb396 hb398 hb400
    obtain ⟨hn409, hn410, hn411⟩ := hn408
    have pk412 : PK w w403 := PK.tr pk64 hn410
    have os413 : ∀ j, (j < 80 + 3 * u45 ∨ 83 + 3 * u45 ≤ j) → j < 140 → rwv w403 86 j = rwv w 86 j := fun j hj hl => (rwv_fr hF406 (by decide)).trans (os65 j hj hl)
    have mf414 : ∀ s, s < 7 → rwv w403 85 s = rwv w 85 s := fun s hs => (rwv_fr hF406 (by decide)).trans (mf66 s hs)
    have ms415 : mu w403 < mu w := Nat.lt_of_le_of_lt hn410.2.1 ms67
    obtain ⟨f82_416, f82_418, f82_420, f82_422, f82_424, f82_426, f82_428, f82_430, f82_432, f82_434, f82_436, f82_437, f82_438, f82_440, f82_442, f82_444, h82_446, hb417, hb419, hb421, hb423, hb425, hb427, hb429, hb431, hb433, hb435, hb439, hb441, hb443, hb445, hb447⟩ := (hI405 82 (by decide) (by decide) : cp82 (wget w403 82))
    refine xg_cVv mX12_puts (vs := [(0, 3), (0, u45), (0, (80 + (3 * u45)) + 0), (0, n407)]) (rest := []) (cn1 := 0) (sl1 := 0) rfl (mPuts3 (hI405) (by omega) (by omega) (by omega) (fun _ => by omega)) rfl h82_446 rfl rfl rfl rfl rfl rfl (fun w448 hq449 => ?_)
    obtain ⟨hI450, hF451, hx452⟩ := hq449
    obtain ⟨hp453, hp454⟩ := hx452
    have pk455 : PK w w448 := PK.tr pk412 (PK.fr hF451 (by decide) (by decide) pk412.2.2.2.1)
    have os456 : ∀ j, (j < 80 + 3 * u45 ∨ 83 + 3 * u45 ≤ j) → j < 140 → rwv w448 86 j = rwv w 86 j := fun j hj hl => (hp454 j (by omega) hl).trans (os413 j hj hl)
    have rg457 : FA w448 ≠ 0 ∨ (1 ≤ n407 ∧ n407 ≤ 10) := hn411.imp_left (PK.fr hF451 (by decide) (by decide) pk412.2.2.2.1).1
    have mf458 : ∀ s, s < 7 → rwv w448 85 s = rwv w 85 s := fun s hs => (rwv_fr hF451 (by decide)).trans (mf414 s hs)
    have ms459 : mu w448 < mu w := Nat.lt_of_le_of_lt (PK.fr hF451 (by decide) (by decide) pk412.2.2.2.1).2.1 ms415
    clear hn411
    refine xg_t (xg_iinc (u := 0) (z := 1) (l1 := [(3, (0, u45)), (2, (0, at_)), (1, (0, 3)), (0, (2, 82))]) rfl rfl (by decide) rfl) ?_
    refine xg_t (xg_goto) ?_
    refine xg_t (xg_blk (b := [(224, 2, 2, 4, 0, 0), (226, 1, 3, 3, 0, 0), (227, 3, 6, 270, 3, 0), (230, 1, 0, 0, 0, 0), (231, 1, 2, 1, 0, 0), (232, 1, 2, 3, 0, 0), (233, 2, 4, 80, 0, 0), (235, 1, 3, 3, 0, 0), (236, 1, 2, 3, 0, 0), (237, 1, 16, 0, 0, 0), (238, 1, 11, 0, 0, 0), (239, 2, 2, 4, 0, 0), (241, 1, 11, 0, 0, 0), (242, 1, 0, 0, 0, 0), (243, 1, 3, 1, 0, 0), (244, 2, 2, 4, 0, 0), (246, 1, 3, 2, 0, 0), (247, 3, 6, 255, 3, 0), (250, 2, 4, 10, 0, 0), (252, 3, 8, 258, 0, 0)]) rfl) ?_
    refine xg_t (xg_iload (va := (0, 1)) rfl rfl) ?_
    refine xg_t (xg_const) ?_
    refine xg_t (xg_icF (u := 1) (v := 3) rfl xnm0 xnm0 (by decide)) ?_
    refine xg_t (xg_aload (va := (2, 82)) rfl rfl) ?_
    refine xg_t (xg_iload (va := (0, 3)) rfl rfl) ?_
    refine xg_t (xg_iload (va := (0, u45)) rfl rfl) ?_
    refine xg_t (xg_bip) ?_
    refine xg_t (xg_const) ?_
    refine xg_t (xg_iload (va := (0, u45)) rfl rfl) ?_
    refine xg_t (xg_imul (u := 3) (v := u45) (z := 3 * u45) xnm0 xnm0 (by omega)) ?_
    refine xg_t (xg_iadd (u := 80) (v := 3 * u45) (z := 80 + (3 * u45)) xnm0 xnm0 (by omega)) ?_
    refine xg_t (xg_iload (va := (0, 1)) rfl rfl) ?_
    refine xg_t (xg_iadd (u := 80 + (3 * u45)) (v := 1) (z := (80 + (3 * u45)) + 1) xnm0 xnm0 (by omega)) ?_
    refine xg_t (xg_aload (va := (2, 82)) rfl rfl) ?_
    refine xg_t (xg_const) ?_
    refine xg_t (xg_iload (va := (0, 1)) rfl rfl) ?_
    refine xg_t (xg_const) ?_
    refine xg_t (xg_icF (u := 1) (v := 2) rfl xnm0 xnm0 (by decide)) ?_
    refine xg_t (xg_bip) ?_
    refine xg_t (xg_goto) ?_
    refine xg_t (xg_blk (b := [(258, 3, 13, 199, 96, 196), (261, 3, 13, 211, 96, 200), (264, 3, 9, 4, 1, 0), (267, 3, 8, 224, 0, 0)]) rfl) ?_
    refine xg_cVi mX12_numbered (vs := [(0, 1), (0, 10)]) (rest := [(0, (80 + (3 * u45)) + 1), (0, u45), (0, 3), (2, 82)]) (cn1 := 0) (sl1 := 0) rfl (mNumbered (hI450) (by omega) (by omega) pk455.2.2.2.1) rfl (hF451.get (by decide) h82_446) rfl rfl rfl rfl rfl rfl (fun n464 w460 hq461 => ?_)
    obtain ⟨hn465, hI462, hF463⟩ := hq461
    clear hb417 hb419 hb421 hb423 hb425 hb427 hb429 hb431 hb433 hb435 hb439 hb441 hb443 hb445
    obtain ⟨hn466, hn467, hn468⟩ := hn465
    have pk469 : PK w w460 := PK.tr pk455 hn467
    have os470 : ∀ j, (j < 80 + 3 * u45 ∨ 83 + 3 * u45 ≤ j) → j < 140 → rwv w460 86 j = rwv w 86 j := fun j hj hl => (rwv_fr hF463 (by decide)).trans (os456 j hj hl)
    have ix471 : u45 < 4 → rwv w460 86 ((80 + (3 * u45)) + 0) = n407 := fun h => (rwv_fr hF463 (by decide)).trans (hp453 h)
    have rg472 : FA w460 ≠ 0 ∨ (1 ≤ n407 ∧ n407 ≤ 10) := rg457.imp_left hn467.1
    have mf473 : ∀ s, s < 7 → rwv w460 85 s = rwv w 85 s := fun s hs => (rwv_fr hF463 (by decide)).trans (mf458 s hs)
    have ms474 : mu w460 < mu w := Nat.lt_of_le_of_lt hn467.2.1 ms459
    clear hp453 rg457
    obtain ⟨f82_475, f82_477, f82_479, f82_481, f82_483, f82_485, f82_487, f82_489, f82_491, f82_493, f82_495, f82_496, f82_497, f82_499, f82_501, f82_503, h82_505, hb476, hb478, hb480, hb482, hb484, hb486, hb488, hb490, hb492, hb494, hb498, hb500, hb502, hb504, hb506⟩ := (hI462 82 (by decide) (by decide) : cp82 (wget w460 82))
    refine xg_cVv mX12_puts (vs := [(0, 3), (0, u45), (0, (80 + (3 * u45)) + 1), (0, n464)]) (rest := []) (cn1 := 0) (sl1 := 0) rfl (mPuts3 (hI462) (by omega) (by omega) (by omega) (fun _ => by omega)) rfl h82_505 rfl rfl rfl rfl rfl rfl (fun w507 hq508 => ?_)
    obtain ⟨hI509, hF510, hx511⟩ := hq508
    obtain ⟨hp512, hp513⟩ := hx511
    have pk514 : PK w w507 := PK.tr pk469 (PK.fr hF510 (by decide) (by decide) pk469.2.2.2.1)
    have os515 : ∀ j, (j < 80 + 3 * u45 ∨ 83 + 3 * u45 ≤ j) → j < 140 → rwv w507 86 j = rwv w 86 j := fun j hj hl => (hp513 j (by omega) hl).trans (os470 j hj hl)
    have ix516 : u45 < 4 → rwv w507 86 ((80 + (3 * u45)) + 0) = n407 := fun h => (hp513 _ (by omega) (by omega)).trans (ix471 h)
    have rg517 : FA w507 ≠ 0 ∨ (1 ≤ n407 ∧ n407 ≤ 10) := rg472.imp_left (PK.fr hF510 (by decide) (by decide) pk469.2.2.2.1).1
    have rg518 : FA w507 ≠ 0 ∨ (1 ≤ n464 ∧ n464 ≤ 10) := hn468.imp_left (PK.fr hF510 (by decide) (by decide) pk469.2.2.2.1).1
    have mf519 : ∀ s, s < 7 → rwv w507 85 s = rwv w 85 s := fun s hs => (rwv_fr hF510 (by decide)).trans (mf473 s hs)
    have ms520 : mu w507 < mu w := Nat.lt_of_le_of_lt (PK.fr hF510 (by decide) (by decide) pk469.2.2.2.1).2.1 ms474
    clear ix471 rg472 hn468
    refine xg_t (xg_iinc (u := 1) (z := 2) (l1 := [(3, (0, u45)), (2, (0, at_)), (1, (0, 3)), (0, (2, 82))]) rfl rfl (by decide) rfl) ?_
    refine xg_t (xg_goto) ?_
    refine xg_t (xg_blk (b := [(224, 2, 2, 4, 0, 0), (226, 1, 3, 3, 0, 0), (227, 3, 6, 270, 3, 0), (230, 1, 0, 0, 0, 0), (231, 1, 2, 1, 0, 0), (232, 1, 2, 3, 0, 0), (233, 2, 4, 80, 0, 0), (235, 1, 3, 3, 0, 0), (236, 1, 2, 3, 0, 0), (237, 1, 16, 0, 0, 0), (238, 1, 11, 0, 0, 0), (239, 2, 2, 4, 0, 0), (241, 1, 11, 0, 0, 0), (242, 1, 0, 0, 0, 0), (243, 1, 3, 1, 0, 0), (244, 2, 2, 4, 0, 0), (246, 1, 3, 2, 0, 0), (247, 3, 6, 255, 3, 0), (250, 2, 4, 10, 0, 0), (252, 3, 8, 258, 0, 0)]) rfl) ?_
    refine xg_t (xg_iload (va := (0, 2)) rfl rfl) ?_
    refine xg_t (xg_const) ?_
    refine xg_t (xg_icF (u := 2) (v := 3) rfl xnm0 xnm0 (by decide)) ?_
    refine xg_t (xg_aload (va := (2, 82)) rfl rfl) ?_
    refine xg_t (xg_iload (va := (0, 3)) rfl rfl) ?_
    refine xg_t (xg_iload (va := (0, u45)) rfl rfl) ?_
    refine xg_t (xg_bip) ?_
    refine xg_t (xg_const) ?_
    refine xg_t (xg_iload (va := (0, u45)) rfl rfl) ?_
    refine xg_t (xg_imul (u := 3) (v := u45) (z := 3 * u45) xnm0 xnm0 (by omega)) ?_
    refine xg_t (xg_iadd (u := 80) (v := 3 * u45) (z := 80 + (3 * u45)) xnm0 xnm0 (by omega)) ?_
    refine xg_t (xg_iload (va := (0, 2)) rfl rfl) ?_
    refine xg_t (xg_iadd (u := 80 + (3 * u45)) (v := 2) (z := (80 + (3 * u45)) + 2) xnm0 xnm0 (by omega)) ?_
    refine xg_t (xg_aload (va := (2, 82)) rfl rfl) ?_
    refine xg_t (xg_const) ?_
    refine xg_t (xg_iload (va := (0, 2)) rfl rfl) ?_
    refine xg_t (xg_const) ?_
    refine xg_t (xg_icT (u := 2) (v := 2) rfl xnm0 xnm0 (by decide)) ?_
    refine xg_t (xg_blk (b := [(255, 3, 5, 999, 0, 0)]) rfl) ?_
    refine xg_t (xg_sip) ?_
    refine xg_t (xg_blk (b := [(258, 3, 13, 199, 96, 196), (261, 3, 13, 211, 96, 200), (264, 3, 9, 4, 1, 0), (267, 3, 8, 224, 0, 0)]) rfl) ?_
    refine xg_cVi mX12_numbered (vs := [(0, 1), (0, 999)]) (rest := [(0, (80 + (3 * u45)) + 2), (0, u45), (0, 3), (2, 82)]) (cn1 := 0) (sl1 := 0) rfl (mNumbered (hI509) (by omega) (by omega) pk514.2.2.2.1) rfl (hF510.get (by decide) h82_505) rfl rfl rfl rfl rfl rfl (fun n525 w521 hq522 => ?_)
    obtain ⟨hn526, hI523, hF524⟩ := hq522
    clear hb476 hb478 hb480 hb482 hb484 hb486 hb488 hb490 hb492 hb494 hb498 hb500 hb502 hb504
    obtain ⟨hn527, hn528, hn529⟩ := hn526
    have pk530 : PK w w521 := PK.tr pk514 hn528
    have os531 : ∀ j, (j < 80 + 3 * u45 ∨ 83 + 3 * u45 ≤ j) → j < 140 → rwv w521 86 j = rwv w 86 j := fun j hj hl => (rwv_fr hF524 (by decide)).trans (os515 j hj hl)
    have ix532 : u45 < 4 → rwv w521 86 ((80 + (3 * u45)) + 0) = n407 := fun h => (rwv_fr hF524 (by decide)).trans (ix516 h)
    have ix533 : u45 < 4 → rwv w521 86 ((80 + (3 * u45)) + 1) = n464 := fun h => (rwv_fr hF524 (by decide)).trans (hp512 h)
    have rg534 : FA w521 ≠ 0 ∨ (1 ≤ n407 ∧ n407 ≤ 10) := rg517.imp_left hn528.1
    have rg535 : FA w521 ≠ 0 ∨ (1 ≤ n464 ∧ n464 ≤ 10) := rg518.imp_left hn528.1
    have mf536 : ∀ s, s < 7 → rwv w521 85 s = rwv w 85 s := fun s hs => (rwv_fr hF524 (by decide)).trans (mf519 s hs)
    have ms537 : mu w521 < mu w := Nat.lt_of_le_of_lt hn528.2.1 ms520
    clear ix516 hp512 rg517 rg518
    obtain ⟨f82_538, f82_540, f82_542, f82_544, f82_546, f82_548, f82_550, f82_552, f82_554, f82_556, f82_558, f82_559, f82_560, f82_562, f82_564, f82_566, h82_568, hb539, hb541, hb543, hb545, hb547, hb549, hb551, hb553, hb555, hb557, hb561, hb563, hb565, hb567, hb569⟩ := (hI523 82 (by decide) (by decide) : cp82 (wget w521 82))
    refine xg_cVv mX12_puts (vs := [(0, 3), (0, u45), (0, (80 + (3 * u45)) + 2), (0, n525)]) (rest := []) (cn1 := 0) (sl1 := 0) rfl (mPuts3 (hI523) (by omega) (by omega) (by omega) (fun _ => by omega)) rfl h82_568 rfl rfl rfl rfl rfl rfl (fun w570 hq571 => ?_)
    obtain ⟨hI572, hF573, hx574⟩ := hq571
    obtain ⟨hp575, hp576⟩ := hx574
    have pk577 : PK w w570 := PK.tr pk530 (PK.fr hF573 (by decide) (by decide) pk530.2.2.2.1)
    have os578 : ∀ j, (j < 80 + 3 * u45 ∨ 83 + 3 * u45 ≤ j) → j < 140 → rwv w570 86 j = rwv w 86 j := fun j hj hl => (hp576 j (by omega) hl).trans (os531 j hj hl)
    have ix579 : u45 < 4 → rwv w570 86 ((80 + (3 * u45)) + 0) = n407 := fun h => (hp576 _ (by omega) (by omega)).trans (ix532 h)
    have ix580 : u45 < 4 → rwv w570 86 ((80 + (3 * u45)) + 1) = n464 := fun h => (hp576 _ (by omega) (by omega)).trans (ix533 h)
    have rg581 : FA w570 ≠ 0 ∨ (1 ≤ n407 ∧ n407 ≤ 10) := rg534.imp_left (PK.fr hF573 (by decide) (by decide) pk530.2.2.2.1).1
    have rg582 : FA w570 ≠ 0 ∨ (1 ≤ n464 ∧ n464 ≤ 10) := rg535.imp_left (PK.fr hF573 (by decide) (by decide) pk530.2.2.2.1).1
    have rg583 : FA w570 ≠ 0 ∨ (1 ≤ n525 ∧ n525 ≤ 999) := hn529.imp_left (PK.fr hF573 (by decide) (by decide) pk530.2.2.2.1).1
    have mf584 : ∀ s, s < 7 → rwv w570 85 s = rwv w 85 s := fun s hs => (rwv_fr hF573 (by decide)).trans (mf536 s hs)
    have ms585 : mu w570 < mu w := Nat.lt_of_le_of_lt (PK.fr hF573 (by decide) (by decide) pk530.2.2.2.1).2.1 ms537
    clear ix532 ix533 rg534 rg535 hn529
    refine xg_t (xg_iinc (u := 2) (z := 3) (l1 := [(3, (0, u45)), (2, (0, at_)), (1, (0, 3)), (0, (2, 82))]) rfl rfl (by decide) rfl) ?_
    refine xg_t (xg_goto) ?_
    refine xg_t (xg_blk (b := [(224, 2, 2, 4, 0, 0), (226, 1, 3, 3, 0, 0), (227, 3, 6, 270, 3, 0), (230, 1, 0, 0, 0, 0), (231, 1, 2, 1, 0, 0), (232, 1, 2, 3, 0, 0), (233, 2, 4, 80, 0, 0), (235, 1, 3, 3, 0, 0), (236, 1, 2, 3, 0, 0), (237, 1, 16, 0, 0, 0), (238, 1, 11, 0, 0, 0), (239, 2, 2, 4, 0, 0), (241, 1, 11, 0, 0, 0), (242, 1, 0, 0, 0, 0), (243, 1, 3, 1, 0, 0), (244, 2, 2, 4, 0, 0), (246, 1, 3, 2, 0, 0), (247, 3, 6, 255, 3, 0), (250, 2, 4, 10, 0, 0), (252, 3, 8, 258, 0, 0)]) rfl) ?_
    refine xg_t (xg_iload (va := (0, 3)) rfl rfl) ?_
    refine xg_t (xg_const) ?_
    refine xg_t (xg_icT (u := 3) (v := 3) rfl xnm0 xnm0 (by decide)) ?_
    refine xg_t (xg_blk (b := [(270, 3, 8, 394, 0, 0)]) rfl) ?_
    refine xg_t (xg_goto) ?_
    refine xg_t (xg_drop (l1 := [(0, (2, 82)), (1, (0, 3)), (3, (0, u45))]) (List.forall_mem_cons.mpr ⟨List.mem_cons_of_mem _ (List.mem_cons_of_mem _ (List.mem_cons_of_mem _ (List.mem_cons_of_mem _ (List.mem_cons_self)))), List.forall_mem_cons.mpr ⟨List.mem_cons_of_mem _ (List.mem_cons_of_mem _ (List.mem_cons_of_mem _ (List.mem_cons_self))), List.forall_mem_cons.mpr ⟨List.mem_cons_of_mem _ (List.mem_cons_self), fun _ h => absurd h List.not_mem_nil⟩⟩⟩)) ?_
    have hX586 : FA w570 ≠ 0 ∨ u45 < 4 := Or.inr (by omega)
    exact jn68 w570 (hI572) ((((((((hF55.up (by decide)).tr (hF406.up (by decide))).tr (hF451.up (by decide))).tr (hF463.up (by decide))).tr (hF510.up (by decide))).tr (hF524.up (by decide))).tr (hF573.up (by decide)))) (⟨pk577, os578, ms585, mf584, hX586⟩)
  · refine xg_t (xg_icF (u := u45) (v := 4) rfl xnm0 xnm0 (xj_ltF (by omega) (by omega))) ?_
    refine xg_t (xg_aload (va := (2, 82)) rfl rfl) ?_
    refine xg_t (xg_const) ?_
    refine xg_t (xg_iload (va := (0, at_)) rfl rfl) ?_
    refine xg_cVv mX12_also (vs := [(0, 3), (0, at_)]) (rest := []) (cn1 := 0) (sl1 := 0) rfl (mAlso (hI) (by omega) (by omega) (by omega) (PK.rf hps).2.2.2.1) rfl h82_31 rfl rfl rfl rfl rfl rfl (fun w587 hq588 => ?_)
    obtain ⟨hI589, hF590, hx591⟩ := hq588
    obtain ⟨hv593, hv594⟩ := hx591
    have pk592 : PK w w587 := ⟨fun _ => hv593, Nat.le_of_eq (mu_fr hF590 (by decide)), fld_fr hF590 (by decide), Or.inr hv593, hv594⟩
    have pk595 : PK w w587 := PK.tr (PK.rf hps) pk592
    have os596 : ∀ j, (j < 80 + 3 * u45 ∨ 83 + 3 * u45 ≤ j) → j < 140 → rwv w587 86 j = rwv w 86 j := fun j hj hl => (rwv_fr hF590 (by decide)).trans ((fun j _ _ => rfl) j hj hl)
    have mf597 : ∀ s, s < 7 → rwv w587 85 s = rwv w 85 s := fun s hs => (rwv_fr hF590 (by decide)).trans ((fun _ _ => rfl) s hs)
    have hf598 := fld_fr (c := 82) (j := 7) hF590 (by decide)
    refine xg_t (xg_blk (b := [(64, 1, 0, 0, 0, 0), (65, 3, 13, 110, 96, 190), (68, 1, 2, 1, 0, 0), (69, 39, 33, 362, 0, 9)]) rfl) ?_
    refine xg_t (xg_aload (va := (2, 82)) rfl rfl) ?_
    refine xg_cVv mX12_advance (vs := []) (rest := []) (cn1 := 0) (sl1 := 0) rfl (mAdvance (hI589)) rfl (hF590.get (by decide) h82_31) rfl rfl rfl rfl rfl rfl (fun w599 hq600 => ?_)
    obtain ⟨hI601, hF602, hx603⟩ := hq600
    clear hb2 hb4 hb6 hb8 hb10 hb12 hb14 hb16 hb18 hb20 hb24 hb26 hb28 hb30
    obtain ⟨hv604, hv605, hv606, hv607⟩ := hx603
    have hf609 := FA_fr hF602 (by decide)
    have hs610 := pk595.2.2.2.1
    unfold PS at hs610
    have pk608 : PK w587 w599 := ⟨fun _ => by omega, hv604, hv607, (show fld w599 82 10 = 0 ∨ FA w599 ≠ 0 by omega), K83.fr hF602 (by decide)⟩
    clear hs610
    have pk611 : PK w w599 := PK.tr pk595 pk608
    have os612 : ∀ j, (j < 80 + 3 * u45 ∨ 83 + 3 * u45 ≤ j) → j < 140 → rwv w599 86 j = rwv w 86 j := fun j hj hl => (rwv_fr hF602 (by decide)).trans (os596 j hj hl)
    have rg613 : FA w599 ≠ 0 ∨ 0 = 1 := (Or.inl hv593 : FA w587 ≠ 0 ∨ 0 = 1).imp_left pk608.1
    have mf614 : ∀ s, s < 7 → rwv w599 85 s = rwv w 85 s := fun s hs => (rwv_fr hF602 (by decide)).trans (mf597 s hs)
    have ms615 : mu w599 < mu w := Nat.lt_of_lt_of_le (hv605 (by omega)) pk595.2.1
    clear hv605
    have jn616 : ∀ (w617 : List (List xE)), xMnv w617 → xFr [82, 83, 85, 86, 87] w w617 → (PK w w617 ∧ (∀ j, (j < 80 + 3 * u45 ∨ 83 + 3 * u45 ≤ j) → j < 140 → rwv w617 86 j = rwv w 86 j) ∧ mu w617 < mu w ∧ (∀ s, s < 7 → rwv w617 85 s = rwv w 85 s) ∧ (FA w617 ≠ 0 ∨ u45 < 4)) → xTo (d + 7) mX12_aLine (394, [], [(0, (2, 82)), (1, (0, 3)), (3, (0, u45))], [], (w617, bd, fc, 0, 0, rr)) (fun φ => ∃ w', xEnd 0 [] (w', bd, fc, 0, 0, rr) φ ∧ xMnv w' ∧ xFr [82, 83, 85, 86, 87] w w' ∧ ((FA w ≠ 0 → FA w' ≠ 0) ∧ PS w' ∧ ((fld w' 82 10 = 1 ∧ mu w' = mu w ∧ fld w' 82 14 = fld w 82 14 ∧ ∀ s, s < 7 → rwv w' 85 s = rwv w 85 s) ∨ (mu w' < mu w ∧ fld w' 82 14 = fld w 82 14 + 1 ∧ ∀ s, s < 7 → rwv w' 85 s ≤ rwv w 85 s + 1)) ∧ (FA w' ≠ 0 ∨ (DATA w → DATA w')) ∧ K83 w w')) := by
      intro w617 hI618 hF619 he620
      obtain ⟨hj621, hj622, hj623, hj624, hj625⟩ := he620
      refine xg_t (xg_blk (b := [(394, 1, 0, 0, 0, 0), (395, 3, 1, 12, 10, 180), (398, 3, 7, 416, 1, 0), (401, 1, 0, 0, 0, 0), (402, 3, 1, 12, 7, 151), (405, 1, 3, 2, 0, 0), (406, 3, 6, 416, 1, 0), (409, 1, 0, 0, 0, 0), (410, 3, 13, 110, 96, 190), (413, 3, 8, 420, 0, 0)]) rfl) ?_
      refine xg_t (xg_aload (va := (2, 82)) rfl rfl) ?_
      obtain ⟨f82_626, f82_628, f82_630, f82_632, f82_634, f82_636, f82_638, f82_640, f82_642, f82_644, f82_646, f82_647, f82_648, f82_650, f82_652, f82_654, h82_656, hb627, hb629, hb631, hb633, hb635, hb637, hb639, hb641, hb643, hb645, hb649, hb651, hb653, hb655, hb657⟩ := (hI618 82 (by decide) (by decide) : cp82 (wget w617 82))
      refine xg_t (xg_getf (va := (0, f82_642)) h82_656 rfl) ?_
      by_cases hc658 : f82_642 = 0
      · refine xg_t (xg_ifF (u := f82_642) rfl xnm0 (xj_neF hc658)) ?_
        refine xg_t (xg_aload (va := (2, 82)) rfl rfl) ?_
        refine xg_t (xg_getf (va := (0, f82_636)) h82_656 rfl) ?_
        refine xg_t (xg_const) ?_
        by_cases hc659 : f82_636 = 2
        · refine xg_t (xg_icF (u := f82_636) (v := 2) rfl xnm0 xnm0 (xj_neF hc659)) ?_
          refine xg_t (xg_aload (va := (2, 82)) rfl rfl) ?_
          refine xg_cVv mX12_advance (vs := []) (rest := []) (cn1 := 0) (sl1 := 0) rfl (mAdvance (hI618)) rfl h82_656 rfl rfl rfl rfl rfl rfl (fun w660 hq661 => ?_)
          obtain ⟨hI662, hF663, hx664⟩ := hq661
          clear hb627 hb629 hb631 hb633 hb635 hb637 hb639 hb641 hb643 hb645 hb649 hb651 hb653 hb655
          obtain ⟨hv665, hv666, hv667, hv668⟩ := hx664
          have hf670 := FA_fr hF663 (by decide)
          have hs671 := hj621.2.2.2.1
          unfold PS at hs671
          have pk669 : PK w617 w660 := ⟨fun _ => by omega, hv665, hv668, (show fld w660 82 10 = 0 ∨ FA w660 ≠ 0 by omega), K83.fr hF663 (by decide)⟩
          clear hs671
          clear hv666
          have pk672 : PK w w660 := PK.tr hj621 pk669
          have os673 : ∀ j, (j < 80 + 3 * u45 ∨ 83 + 3 * u45 ≤ j) → j < 140 → rwv w660 86 j = rwv w 86 j := fun j hj hl => (rwv_fr hF663 (by decide)).trans (hj622 j hj hl)
          have rg674 : FA w660 ≠ 0 ∨ u45 < 4 := hj625.imp_left pk669.1
          have mf675 : ∀ s, s < 7 → rwv w660 85 s = rwv w 85 s := fun s hs => (rwv_fr hF663 (by decide)).trans (hj624 s hs)
          have ms676 : mu w660 < mu w := Nat.lt_of_le_of_lt pk669.2.1 hj623
          clear hj625
          refine xg_t (xg_goto) ?_
          refine xg_t (xg_blk (b := [(420, 1, 0, 0, 0, 0), (421, 3, 1, 12, 11, 17), (424, 1, 2, 1, 0, 0), (425, 1, 39, 0, 0, 0), (426, 1, 10, 0, 0, 0), (427, 1, 3, 1, 0, 0), (428, 1, 11, 0, 0, 0), (429, 1, 17, 0, 0, 0), (430, 1, 0, 0, 0, 0), (431, 1, 19, 0, 0, 0), (432, 3, 1, 12, 14, 212), (435, 1, 3, 1, 0, 0), (436, 1, 11, 0, 0, 0), (437, 3, 14, 12, 14, 212), (440, 1, 12, 0, 0, 0)]) rfl) ?_
          obtain ⟨f82_677, f82_679, f82_681, f82_683, f82_685, f82_687, f82_689, f82_691, f82_693, f82_695, f82_697, f82_698, f82_699, f82_701, f82_703, f82_705, h82_707, hb678, hb680, hb682, hb684, hb686, hb688, hb690, hb692, hb694, hb696, hb700, hb702, hb704, hb706, hb708⟩ := (hI662 82 (by decide) (by decide) : cp82 (wget w660 82))
          have hf709 : fld w660 82 4 = f82_681 := fld_of h82_707
          have hf710 : fld w660 82 5 = f82_683 := fld_of h82_707
          have hf711 : fld w660 82 7 = f82_687 := fld_of h82_707
          have hf712 : fld w660 82 10 = f82_693 := fld_of h82_707
          have hf713 : fld w660 82 14 = f82_695 := fld_of h82_707
          have hu714 : mu w660 = 2 * (fld w660 82 4 - fld w660 82 5) + min 1 (fld w660 82 7) := rfl
          have hf715 := pk672.2.2.1
          have hl716 : f82_695 ≤ 1000 := by omega
          refine xg_t (xg_aload (va := (2, 82)) rfl rfl) ?_
          refine xg_t (xg_getf (va := (2, 85)) h82_707 rfl) ?_
          refine xg_t (xg_iload (va := (0, 3)) rfl rfl) ?_
          refine xg_t (xg_dup2 rfl) ?_
          obtain ⟨g85_717, h85_718, hb719⟩ := (hI662 85 (by decide) (by decide) : cpI 7 52 4294967295 (wget w660 85))
          have h85_718 : xRow w660 85 7 52 g85_717 := h85_718
          refine xg_ialdB (n := 3) (B := 4294967295) h85_718 (hb719) xnm0 (by omega) (fun u720 hu721 he722 => ?_)
          have hl723 : u720 = u45 := by have q1 := rwv_of h85_718 (show 3 < 7 by decide); have q2 := mf675 3 (by decide); omega
          refine xg_t (xg_const) ?_
          refine xg_t (xg_iadd (u := u720) (v := 1) (z := u720 + 1) xnm0 xnm0 (by omega)) ?_
          refine xg_iastK (n := 3) (u := u720 + 1) h85_718 xnm0 xnm0 rfl (by omega) (fun w724 hr725 hb726 => ?_)
          refine xg_t (xg_aload (va := (2, 82)) rfl rfl) ?_
          refine xg_t (xg_dup rfl) ?_
          refine xg_t (xg_getf (va := (0, f82_695)) (hb726.get (by decide) h82_707) rfl) ?_
          refine xg_t (xg_const) ?_
          refine xg_t (xg_iadd (u := f82_695) (v := 1) (z := f82_695 + 1) xnm0 xnm0 (by omega)) ?_
          refine xg_putI (fl1 := [(2, 83), (2, 84), (0, f82_677), (0, f82_679), (0, f82_681), (0, f82_683), (0, f82_685), (0, f82_687), (0, f82_689), (0, f82_691), (0, f82_693), (2, 85), (2, 86), (2, 87), (0, f82_695 + 1), (2, 88), (2, 89), (2, 90), (2, 91), (2, 92), (2, 93), (2, 94), (4, f82_697), (4, f82_698), (0, f82_699), (2, 95), (2, 96), (2, 97), (2, 98), (2, 99), (2, 100), (2, 101), (2, 102), (0, f82_701), (2, 103), (2, 104), (2, 105), (2, 106), (2, 107), (2, 108), (2, 109), (0, f82_703), (0, f82_705), (2, 110), (2, 111), (2, 112), (2, 113)]) (hb726.get (by decide) h82_707) rfl rfl rfl (fun w727 hk728 hb729 => ?_)
          have hF730 : xFr [82, 85] w660 w727 := ((xFr.of (S := [82, 85]) hb726 (by decide)).tr (xFr.of (S := [82, 85]) hb729 (by decide)))
          have hA731 := FA_fr hF730 (by decide)
          have hf732 : fld w727 82 4 = f82_681 := fld_of hk728
          have hf733 : fld w727 82 5 = f82_683 := fld_of hk728
          have hf734 : fld w727 82 7 = f82_687 := fld_of hk728
          have hf735 : fld w727 82 10 = f82_693 := fld_of hk728
          have hf736 : fld w727 82 14 = f82_695 + 1 := fld_of hk728
          have hu737 : mu w727 = 2 * (fld w727 82 4 - fld w727 82 5) + min 1 (fld w727 82 7) := rfl
          have pq738 := pk672
          unfold PK PS at pq738
          have hM739 : ∀ s, s < 7 → s ≠ 3 → rwv w727 85 s = rwv w 85 s := fun s hs hn => (rwv_of (hr725.but hb729 (by decide)) hs).trans ((if_neg hn).trans ((rwv_of h85_718 hs).symm.trans (mf675 s hs)))
          have hM740 : rwv w727 85 3 = u45 + 1 := (rwv_of (hr725.but hb729 (by decide)) (by decide)).trans ((if_pos rfl).trans (by omega))
          have hM741 : ∀ s, s < 7 → rwv w727 85 s ≤ rwv w 85 s + 1 := fun s hs => by
            by_cases z : s = 3
            · subst z; omega
            · rw [hM739 s hs z]; omega
          have hO742 : ∀ j, (j < 80 + 3 * u45 ∨ 83 + 3 * u45 ≤ j) → j < 140 → rwv w727 86 j = rwv w 86 j := fun j hj hl => (rwv_fr hF730 (by decide)).trans (os673 j hj hl)
          have hl744 : FA w660 ≠ 0 ∨ u45 < 4 := rg674
          have hN743 : FA w727 ≠ 0 ∨ 4 ≤ u45 ∨ True := Or.inr (Or.inr trivial)
          have hX745 : FA w727 ≠ 0 ∨ u45 < 4 := by omega
          have hD746 : FA w727 ≠ 0 ∨ (DATA w → DATA w727) := by
            by_cases z : FA w727 ≠ 0
            · exact Or.inl z
            · exact Or.inr (fun hd => hd.s3 hM739 hK48 hM740 (hX745.resolve_left z) hO742 ((hN743.resolve_left z).resolve_left (by have := hX745.resolve_left z; omega)))
          exact xg_e ⟨w727, ⟨rfl, rfl⟩, xMnv.up (S := [85, 82]) hI662 ((xFr.of (S := [85, 82]) hb726 (by decide)).tr (xFr.of (S := [85, 82]) hb729 (by decide))) (List.forall_mem_cons.mpr ⟨(show cpI 7 52 4294967295 (wget w727 85) from ⟨_, (hr725.but hb729 (by decide)), xrb (by omega) (hb719)⟩), List.forall_mem_cons.mpr ⟨(show cp82 (wget w727 82) from ⟨f82_677, f82_679, f82_681, f82_683, f82_685, f82_687, f82_689, f82_691, f82_693, f82_695 + 1, f82_697, f82_698, f82_699, f82_701, f82_703, f82_705, hk728, hb678, hb680, hb682, hb684, hb686, hb688, hb690, hb692, hb694, by omega, hb700, hb702, hb704, hb706, by omega⟩), fun _ h => absurd h List.not_mem_nil⟩⟩), ((hF619.tr (hF663.up (by decide))).tr ((xFr.of (S := [82, 83, 85, 86, 87]) hb726 (by decide)).tr (xFr.of (S := [82, 83, 85, 86, 87]) hb729 (by decide)))), ⟨fun h => by have := pq738.1 h; omega, (show fld w727 82 10 = 0 ∨ FA w727 ≠ 0 by omega), Or.inr ⟨by have := ms676; omega, by omega, hM741⟩, hD746, pk672.2.2.2.2.tr (K83.fr hF730 (by decide))⟩⟩
        · refine xg_t (xg_icT (u := f82_636) (v := 2) rfl xnm0 xnm0 (xj_neT hc659)) ?_
          refine xg_t (xg_blk (b := [(416, 1, 0, 0, 0, 0), (417, 3, 13, 140, 96, 183)]) rfl) ?_
          refine xg_t (xg_aload (va := (2, 82)) rfl rfl) ?_
          refine xg_cVv mX12_ends (vs := []) (rest := []) (cn1 := 0) (sl1 := 0) rfl (mEnds (hI618) hj621.2.2.2.1) rfl h82_656 rfl rfl rfl rfl rfl rfl (fun w747 hq748 => ?_)
          obtain ⟨hI749, hF750, hx751⟩ := hq748
          clear hb627 hb629 hb631 hb633 hb635 hb637 hb639 hb641 hb643 hb645 hb649 hb651 hb653 hb655
          obtain ⟨hv752, hv753, hv754, hv755, hv756⟩ := hx751
          have pk757 : PK w617 w747 := ⟨fun _ => hv752, by omega, by omega, Or.inr hv752, hv756⟩
          have pk758 : PK w w747 := PK.tr hj621 pk757
          have os759 : ∀ j, (j < 80 + 3 * u45 ∨ 83 + 3 * u45 ≤ j) → j < 140 → rwv w747 86 j = rwv w 86 j := fun j hj hl => (rwv_fr hF750 (by decide)).trans (hj622 j hj hl)
          have rg760 : FA w747 ≠ 0 ∨ u45 < 4 := hj625.imp_left pk757.1
          have mf761 : ∀ s, s < 7 → rwv w747 85 s = rwv w 85 s := fun s hs => (rwv_fr hF750 (by decide)).trans (hj624 s hs)
          have ms762 : mu w747 < mu w := Nat.lt_of_le_of_lt pk757.2.1 hj623
          clear hj625
          refine xg_t (xg_blk (b := [(420, 1, 0, 0, 0, 0), (421, 3, 1, 12, 11, 17), (424, 1, 2, 1, 0, 0), (425, 1, 39, 0, 0, 0), (426, 1, 10, 0, 0, 0), (427, 1, 3, 1, 0, 0), (428, 1, 11, 0, 0, 0), (429, 1, 17, 0, 0, 0), (430, 1, 0, 0, 0, 0), (431, 1, 19, 0, 0, 0), (432, 3, 1, 12, 14, 212), (435, 1, 3, 1, 0, 0), (436, 1, 11, 0, 0, 0), (437, 3, 14, 12, 14, 212), (440, 1, 12, 0, 0, 0)]) rfl) ?_
          obtain ⟨f82_763, f82_765, f82_767, f82_769, f82_771, f82_773, f82_775, f82_777, f82_779, f82_781, f82_783, f82_784, f82_785, f82_787, f82_789, f82_791, h82_793, hb764, hb766, hb768, hb770, hb772, hb774, hb776, hb778, hb780, hb782, hb786, hb788, hb790, hb792, hb794⟩ := (hI749 82 (by decide) (by decide) : cp82 (wget w747 82))
          have hf795 : fld w747 82 4 = f82_767 := fld_of h82_793
          have hf796 : fld w747 82 5 = f82_769 := fld_of h82_793
          have hf797 : fld w747 82 7 = f82_773 := fld_of h82_793
          have hf798 : fld w747 82 10 = f82_779 := fld_of h82_793
          have hf799 : fld w747 82 14 = f82_781 := fld_of h82_793
          have hu800 : mu w747 = 2 * (fld w747 82 4 - fld w747 82 5) + min 1 (fld w747 82 7) := rfl
          have hf801 := pk758.2.2.1
          have hl802 : f82_781 ≤ 1000 := by omega
          refine xg_t (xg_aload (va := (2, 82)) rfl rfl) ?_
          refine xg_t (xg_getf (va := (2, 85)) h82_793 rfl) ?_
          refine xg_t (xg_iload (va := (0, 3)) rfl rfl) ?_
          refine xg_t (xg_dup2 rfl) ?_
          obtain ⟨g85_803, h85_804, hb805⟩ := (hI749 85 (by decide) (by decide) : cpI 7 52 4294967295 (wget w747 85))
          have h85_804 : xRow w747 85 7 52 g85_803 := h85_804
          refine xg_ialdB (n := 3) (B := 4294967295) h85_804 (hb805) xnm0 (by omega) (fun u806 hu807 he808 => ?_)
          have hl809 : u806 = u45 := by have q1 := rwv_of h85_804 (show 3 < 7 by decide); have q2 := mf761 3 (by decide); omega
          refine xg_t (xg_const) ?_
          refine xg_t (xg_iadd (u := u806) (v := 1) (z := u806 + 1) xnm0 xnm0 (by omega)) ?_
          refine xg_iastK (n := 3) (u := u806 + 1) h85_804 xnm0 xnm0 rfl (by omega) (fun w810 hr811 hb812 => ?_)
          refine xg_t (xg_aload (va := (2, 82)) rfl rfl) ?_
          refine xg_t (xg_dup rfl) ?_
          refine xg_t (xg_getf (va := (0, f82_781)) (hb812.get (by decide) h82_793) rfl) ?_
          refine xg_t (xg_const) ?_
          refine xg_t (xg_iadd (u := f82_781) (v := 1) (z := f82_781 + 1) xnm0 xnm0 (by omega)) ?_
          refine xg_putI (fl1 := [(2, 83), (2, 84), (0, f82_763), (0, f82_765), (0, f82_767), (0, f82_769), (0, f82_771), (0, f82_773), (0, f82_775), (0, f82_777), (0, f82_779), (2, 85), (2, 86), (2, 87), (0, f82_781 + 1), (2, 88), (2, 89), (2, 90), (2, 91), (2, 92), (2, 93), (2, 94), (4, f82_783), (4, f82_784), (0, f82_785), (2, 95), (2, 96), (2, 97), (2, 98), (2, 99), (2, 100), (2, 101), (2, 102), (0, f82_787), (2, 103), (2, 104), (2, 105), (2, 106), (2, 107), (2, 108), (2, 109), (0, f82_789), (0, f82_791), (2, 110), (2, 111), (2, 112), (2, 113)]) (hb812.get (by decide) h82_793) rfl rfl rfl (fun w813 hk814 hb815 => ?_)
          have hF816 : xFr [82, 85] w747 w813 := ((xFr.of (S := [82, 85]) hb812 (by decide)).tr (xFr.of (S := [82, 85]) hb815 (by decide)))
          have hA817 := FA_fr hF816 (by decide)
          have hf818 : fld w813 82 4 = f82_767 := fld_of hk814
          have hf819 : fld w813 82 5 = f82_769 := fld_of hk814
          have hf820 : fld w813 82 7 = f82_773 := fld_of hk814
          have hf821 : fld w813 82 10 = f82_779 := fld_of hk814
          have hf822 : fld w813 82 14 = f82_781 + 1 := fld_of hk814
          have hu823 : mu w813 = 2 * (fld w813 82 4 - fld w813 82 5) + min 1 (fld w813 82 7) := rfl
          have pq824 := pk758
          unfold PK PS at pq824
          have hM825 : ∀ s, s < 7 → s ≠ 3 → rwv w813 85 s = rwv w 85 s := fun s hs hn => (rwv_of (hr811.but hb815 (by decide)) hs).trans ((if_neg hn).trans ((rwv_of h85_804 hs).symm.trans (mf761 s hs)))
          have hM826 : rwv w813 85 3 = u45 + 1 := (rwv_of (hr811.but hb815 (by decide)) (by decide)).trans ((if_pos rfl).trans (by omega))
          have hM827 : ∀ s, s < 7 → rwv w813 85 s ≤ rwv w 85 s + 1 := fun s hs => by
            by_cases z : s = 3
            · subst z; omega
            · rw [hM825 s hs z]; omega
          have hO828 : ∀ j, (j < 80 + 3 * u45 ∨ 83 + 3 * u45 ≤ j) → j < 140 → rwv w813 86 j = rwv w 86 j := fun j hj hl => (rwv_fr hF816 (by decide)).trans (os759 j hj hl)
          have hl830 : FA w747 ≠ 0 ∨ u45 < 4 := rg760
          have hN829 : FA w813 ≠ 0 ∨ 4 ≤ u45 ∨ True := Or.inr (Or.inr trivial)
          have hX831 : FA w813 ≠ 0 ∨ u45 < 4 := by omega
          have hD832 : FA w813 ≠ 0 ∨ (DATA w → DATA w813) := by
            by_cases z : FA w813 ≠ 0
            · exact Or.inl z
            · exact Or.inr (fun hd => hd.s3 hM825 hK48 hM826 (hX831.resolve_left z) hO828 ((hN829.resolve_left z).resolve_left (by have := hX831.resolve_left z; omega)))
          exact xg_e ⟨w813, ⟨rfl, rfl⟩, xMnv.up (S := [85, 82]) hI749 ((xFr.of (S := [85, 82]) hb812 (by decide)).tr (xFr.of (S := [85, 82]) hb815 (by decide))) (List.forall_mem_cons.mpr ⟨(show cpI 7 52 4294967295 (wget w813 85) from ⟨_, (hr811.but hb815 (by decide)), xrb (by omega) (hb805)⟩), List.forall_mem_cons.mpr ⟨(show cp82 (wget w813 82) from ⟨f82_763, f82_765, f82_767, f82_769, f82_771, f82_773, f82_775, f82_777, f82_779, f82_781 + 1, f82_783, f82_784, f82_785, f82_787, f82_789, f82_791, hk814, hb764, hb766, hb768, hb770, hb772, hb774, hb776, hb778, hb780, by omega, hb786, hb788, hb790, hb792, by omega⟩), fun _ h => absurd h List.not_mem_nil⟩⟩), ((hF619.tr (hF750.up (by decide))).tr ((xFr.of (S := [82, 83, 85, 86, 87]) hb812 (by decide)).tr (xFr.of (S := [82, 83, 85, 86, 87]) hb815 (by decide)))), ⟨fun h => by have := pq824.1 h; omega, (show fld w813 82 10 = 0 ∨ FA w813 ≠ 0 by omega), Or.inr ⟨by have := ms762; omega, by omega, hM827⟩, hD832, pk758.2.2.2.2.tr (K83.fr hF816 (by decide))⟩⟩
      · refine xg_t (xg_ifT (u := f82_642) rfl xnm0 (xj_neT hc658)) ?_
        refine xg_t (xg_blk (b := [(416, 1, 0, 0, 0, 0), (417, 3, 13, 140, 96, 183)]) rfl) ?_
        refine xg_t (xg_aload (va := (2, 82)) rfl rfl) ?_
        refine xg_cVv mX12_ends (vs := []) (rest := []) (cn1 := 0) (sl1 := 0) rfl (mEnds (hI618) hj621.2.2.2.1) rfl h82_656 rfl rfl rfl rfl rfl rfl (fun w833 hq834 => ?_)
        obtain ⟨hI835, hF836, hx837⟩ := hq834
        clear hb627 hb629 hb631 hb633 hb635 hb637 hb639 hb641 hb643 hb645 hb649 hb651 hb653 hb655
        obtain ⟨hv838, hv839, hv840, hv841, hv842⟩ := hx837
        have pk843 : PK w617 w833 := ⟨fun _ => hv838, by omega, by omega, Or.inr hv838, hv842⟩
        have pk844 : PK w w833 := PK.tr hj621 pk843
        have os845 : ∀ j, (j < 80 + 3 * u45 ∨ 83 + 3 * u45 ≤ j) → j < 140 → rwv w833 86 j = rwv w 86 j := fun j hj hl => (rwv_fr hF836 (by decide)).trans (hj622 j hj hl)
        have rg846 : FA w833 ≠ 0 ∨ u45 < 4 := hj625.imp_left pk843.1
        have mf847 : ∀ s, s < 7 → rwv w833 85 s = rwv w 85 s := fun s hs => (rwv_fr hF836 (by decide)).trans (hj624 s hs)
        have ms848 : mu w833 < mu w := Nat.lt_of_le_of_lt pk843.2.1 hj623
        clear hj625
        refine xg_t (xg_blk (b := [(420, 1, 0, 0, 0, 0), (421, 3, 1, 12, 11, 17), (424, 1, 2, 1, 0, 0), (425, 1, 39, 0, 0, 0), (426, 1, 10, 0, 0, 0), (427, 1, 3, 1, 0, 0), (428, 1, 11, 0, 0, 0), (429, 1, 17, 0, 0, 0), (430, 1, 0, 0, 0, 0), (431, 1, 19, 0, 0, 0), (432, 3, 1, 12, 14, 212), (435, 1, 3, 1, 0, 0), (436, 1, 11, 0, 0, 0), (437, 3, 14, 12, 14, 212), (440, 1, 12, 0, 0, 0)]) rfl) ?_
        obtain ⟨f82_849, f82_851, f82_853, f82_855, f82_857, f82_859, f82_861, f82_863, f82_865, f82_867, f82_869, f82_870, f82_871, f82_873, f82_875, f82_877, h82_879, hb850, hb852, hb854, hb856, hb858, hb860, hb862, hb864, hb866, hb868, hb872, hb874, hb876, hb878, hb880⟩ := (hI835 82 (by decide) (by decide) : cp82 (wget w833 82))
        have hf881 : fld w833 82 4 = f82_853 := fld_of h82_879
        have hf882 : fld w833 82 5 = f82_855 := fld_of h82_879
        have hf883 : fld w833 82 7 = f82_859 := fld_of h82_879
        have hf884 : fld w833 82 10 = f82_865 := fld_of h82_879
        have hf885 : fld w833 82 14 = f82_867 := fld_of h82_879
        have hu886 : mu w833 = 2 * (fld w833 82 4 - fld w833 82 5) + min 1 (fld w833 82 7) := rfl
        have hf887 := pk844.2.2.1
        have hl888 : f82_867 ≤ 1000 := by omega
        refine xg_t (xg_aload (va := (2, 82)) rfl rfl) ?_
        refine xg_t (xg_getf (va := (2, 85)) h82_879 rfl) ?_
        refine xg_t (xg_iload (va := (0, 3)) rfl rfl) ?_
        refine xg_t (xg_dup2 rfl) ?_
        obtain ⟨g85_889, h85_890, hb891⟩ := (hI835 85 (by decide) (by decide) : cpI 7 52 4294967295 (wget w833 85))
        have h85_890 : xRow w833 85 7 52 g85_889 := h85_890
        refine xg_ialdB (n := 3) (B := 4294967295) h85_890 (hb891) xnm0 (by omega) (fun u892 hu893 he894 => ?_)
        have hl895 : u892 = u45 := by have q1 := rwv_of h85_890 (show 3 < 7 by decide); have q2 := mf847 3 (by decide); omega
        refine xg_t (xg_const) ?_
        refine xg_t (xg_iadd (u := u892) (v := 1) (z := u892 + 1) xnm0 xnm0 (by omega)) ?_
        refine xg_iastK (n := 3) (u := u892 + 1) h85_890 xnm0 xnm0 rfl (by omega) (fun w896 hr897 hb898 => ?_)
        refine xg_t (xg_aload (va := (2, 82)) rfl rfl) ?_
        refine xg_t (xg_dup rfl) ?_
        refine xg_t (xg_getf (va := (0, f82_867)) (hb898.get (by decide) h82_879) rfl) ?_
        refine xg_t (xg_const) ?_
        refine xg_t (xg_iadd (u := f82_867) (v := 1) (z := f82_867 + 1) xnm0 xnm0 (by omega)) ?_
        refine xg_putI (fl1 := [(2, 83), (2, 84), (0, f82_849), (0, f82_851), (0, f82_853), (0, f82_855), (0, f82_857), (0, f82_859), (0, f82_861), (0, f82_863), (0, f82_865), (2, 85), (2, 86), (2, 87), (0, f82_867 + 1), (2, 88), (2, 89), (2, 90), (2, 91), (2, 92), (2, 93), (2, 94), (4, f82_869), (4, f82_870), (0, f82_871), (2, 95), (2, 96), (2, 97), (2, 98), (2, 99), (2, 100), (2, 101), (2, 102), (0, f82_873), (2, 103), (2, 104), (2, 105), (2, 106), (2, 107), (2, 108), (2, 109), (0, f82_875), (0, f82_877), (2, 110), (2, 111), (2, 112), (2, 113)]) (hb898.get (by decide) h82_879) rfl rfl rfl (fun w899 hk900 hb901 => ?_)
        have hF902 : xFr [82, 85] w833 w899 := ((xFr.of (S := [82, 85]) hb898 (by decide)).tr (xFr.of (S := [82, 85]) hb901 (by decide)))
        have hA903 := FA_fr hF902 (by decide)
        have hf904 : fld w899 82 4 = f82_853 := fld_of hk900
        have hf905 : fld w899 82 5 = f82_855 := fld_of hk900
        have hf906 : fld w899 82 7 = f82_859 := fld_of hk900
        have hf907 : fld w899 82 10 = f82_865 := fld_of hk900
        have hf908 : fld w899 82 14 = f82_867 + 1 := fld_of hk900
        have hu909 : mu w899 = 2 * (fld w899 82 4 - fld w899 82 5) + min 1 (fld w899 82 7) := rfl
        have pq910 := pk844
        unfold PK PS at pq910
        have hM911 : ∀ s, s < 7 → s ≠ 3 → rwv w899 85 s = rwv w 85 s := fun s hs hn => (rwv_of (hr897.but hb901 (by decide)) hs).trans ((if_neg hn).trans ((rwv_of h85_890 hs).symm.trans (mf847 s hs)))
        have hM912 : rwv w899 85 3 = u45 + 1 := (rwv_of (hr897.but hb901 (by decide)) (by decide)).trans ((if_pos rfl).trans (by omega))
        have hM913 : ∀ s, s < 7 → rwv w899 85 s ≤ rwv w 85 s + 1 := fun s hs => by
          by_cases z : s = 3
          · subst z; omega
          · rw [hM911 s hs z]; omega
        have hO914 : ∀ j, (j < 80 + 3 * u45 ∨ 83 + 3 * u45 ≤ j) → j < 140 → rwv w899 86 j = rwv w 86 j := fun j hj hl => (rwv_fr hF902 (by decide)).trans (os845 j hj hl)
        have hl916 : FA w833 ≠ 0 ∨ u45 < 4 := rg846
        have hN915 : FA w899 ≠ 0 ∨ 4 ≤ u45 ∨ True := Or.inr (Or.inr trivial)
        have hX917 : FA w899 ≠ 0 ∨ u45 < 4 := by omega
        have hD918 : FA w899 ≠ 0 ∨ (DATA w → DATA w899) := by
          by_cases z : FA w899 ≠ 0
          · exact Or.inl z
          · exact Or.inr (fun hd => hd.s3 hM911 hK48 hM912 (hX917.resolve_left z) hO914 ((hN915.resolve_left z).resolve_left (by have := hX917.resolve_left z; omega)))
        exact xg_e ⟨w899, ⟨rfl, rfl⟩, xMnv.up (S := [85, 82]) hI835 ((xFr.of (S := [85, 82]) hb898 (by decide)).tr (xFr.of (S := [85, 82]) hb901 (by decide))) (List.forall_mem_cons.mpr ⟨(show cpI 7 52 4294967295 (wget w899 85) from ⟨_, (hr897.but hb901 (by decide)), xrb (by omega) (hb891)⟩), List.forall_mem_cons.mpr ⟨(show cp82 (wget w899 82) from ⟨f82_849, f82_851, f82_853, f82_855, f82_857, f82_859, f82_861, f82_863, f82_865, f82_867 + 1, f82_869, f82_870, f82_871, f82_873, f82_875, f82_877, hk900, hb850, hb852, hb854, hb856, hb858, hb860, hb862, hb864, hb866, by omega, hb872, hb874, hb876, hb878, by omega⟩), fun _ h => absurd h List.not_mem_nil⟩⟩), ((hF619.tr (hF836.up (by decide))).tr ((xFr.of (S := [82, 83, 85, 86, 87]) hb898 (by decide)).tr (xFr.of (S := [82, 83, 85, 86, 87]) hb901 (by decide)))), ⟨fun h => by have := pq910.1 h; omega, (show fld w899 82 10 = 0 ∨ FA w899 ≠ 0 by omega), Or.inr ⟨by have := ms848; omega, by omega, hM913⟩, hD918, pk844.2.2.2.2.tr (K83.fr hF902 (by decide))⟩⟩
    refine xg_t (xg_iload (va := (0, 3)) rfl rfl) ?_
    refine xg_t (xg_swt (ks := [(0, 108), (1, 116), (2, 180), (3, 221), (4, 273), (5, 326)]) (u := 3) (z := 221) rfl rfl rfl xnm0 (xsw_n (by omega) (xsw_n (by omega) (xsw_n (by omega) (xsw_y rfl))))) ?_
    refine xg_t (xg_blk (b := [(221, 1, 3, 0, 0, 0), (222, 2, 15, 4, 0, 0)]) rfl) ?_
    refine xg_t (xg_const) ?_
    refine xg_t (xg_istore (l1 := [(3, (0, u45)), (2, (0, at_)), (1, (0, 3)), (0, (2, 82))]) rfl rfl rfl) ?_
    refine xg_t (xg_blk (b := [(224, 2, 2, 4, 0, 0), (226, 1, 3, 3, 0, 0), (227, 3, 6, 270, 3, 0), (230, 1, 0, 0, 0, 0), (231, 1, 2, 1, 0, 0), (232, 1, 2, 3, 0, 0), (233, 2, 4, 80, 0, 0), (235, 1, 3, 3, 0, 0), (236, 1, 2, 3, 0, 0), (237, 1, 16, 0, 0, 0), (238, 1, 11, 0, 0, 0), (239, 2, 2, 4, 0, 0), (241, 1, 11, 0, 0, 0), (242, 1, 0, 0, 0, 0), (243, 1, 3, 1, 0, 0), (244, 2, 2, 4, 0, 0), (246, 1, 3, 2, 0, 0), (247, 3, 6, 255, 3, 0), (250, 2, 4, 10, 0, 0), (252, 3, 8, 258, 0, 0)]) rfl) ?_
    refine xg_t (xg_iload (va := (0, 0)) rfl rfl) ?_
    refine xg_t (xg_const) ?_
    refine xg_t (xg_icF (u := 0) (v := 3) rfl xnm0 xnm0 (by decide)) ?_
    refine xg_t (xg_aload (va := (2, 82)) rfl rfl) ?_
    refine xg_t (xg_iload (va := (0, 3)) rfl rfl) ?_
    refine xg_t (xg_iload (va := (0, u45)) rfl rfl) ?_
    refine xg_t (xg_bip) ?_
    refine xg_t (xg_const) ?_
    refine xg_t (xg_iload (va := (0, u45)) rfl rfl) ?_
    refine xg_t (xg_imul (u := 3) (v := u45) (z := 3 * u45) xnm0 xnm0 (by omega)) ?_
    refine xg_t (xg_iadd (u := 80) (v := 3 * u45) (z := 80 + (3 * u45)) xnm0 xnm0 (by omega)) ?_
    refine xg_t (xg_iload (va := (0, 0)) rfl rfl) ?_
    refine xg_t (xg_iadd (u := 80 + (3 * u45)) (v := 0) (z := (80 + (3 * u45)) + 0) xnm0 xnm0 (by omega)) ?_
    refine xg_t (xg_aload (va := (2, 82)) rfl rfl) ?_
    refine xg_t (xg_const) ?_
    refine xg_t (xg_iload (va := (0, 0)) rfl rfl) ?_
    refine xg_t (xg_const) ?_
    refine xg_t (xg_icF (u := 0) (v := 2) rfl xnm0 xnm0 (by decide)) ?_
    refine xg_t (xg_bip) ?_
    refine xg_t (xg_goto) ?_
    refine xg_t (xg_blk (b := [(258, 3, 13, 199, 96, 196), (261, 3, 13, 211, 96, 200), (264, 3, 9, 4, 1, 0), (267, 3, 8, 224, 0, 0)]) rfl) ?_
    obtain ⟨f82_919, f82_921, f82_923, f82_925, f82_927, f82_929, f82_931, f82_933, f82_935, f82_937, f82_939, f82_940, f82_941, f82_943, f82_945, f82_947, h82_949, hb920, hb922, hb924, hb926, hb928, hb930, hb932, hb934, hb936, hb938, hb942, hb944, hb946, hb948, hb950⟩ := (hI601 82 (by decide) (by decide) : cp82 (wget w599 82))
    refine xg_cVi mX12_numbered (vs := [(0, 1), (0, 10)]) (rest := [(0, (80 + (3 * u45)) + 0), (0, u45), (0, 3), (2, 82)]) (cn1 := 0) (sl1 := 0) rfl (mNumbered (hI601) (by omega) (by omega) pk611.2.2.2.1) rfl h82_949 rfl rfl rfl rfl rfl rfl (fun n955 w951 hq952 => ?_)
    obtain ⟨hn956, hI953, hF954⟩ := hq952
    clear hb920 hb922 hb924 hb926 hb928 hb930 hb932 hb934 hb936 hb938 hb942 hb944 hb946 hb948
    obtain ⟨hn957, hn958, hn959⟩ := hn956
    have pk960 : PK w w951 := PK.tr pk611 hn958
    have os961 : ∀ j, (j < 80 + 3 * u45 ∨ 83 + 3 * u45 ≤ j) → j < 140 → rwv w951 86 j = rwv w 86 j := fun j hj hl => (rwv_fr hF954 (by decide)).trans (os612 j hj hl)
    have rg962 : FA w951 ≠ 0 ∨ 0 = 1 := rg613.imp_left hn958.1
    have mf963 : ∀ s, s < 7 → rwv w951 85 s = rwv w 85 s := fun s hs => (rwv_fr hF954 (by decide)).trans (mf614 s hs)
    have ms964 : mu w951 < mu w := Nat.lt_of_le_of_lt hn958.2.1 ms615
    clear rg613
    obtain ⟨f82_965, f82_967, f82_969, f82_971, f82_973, f82_975, f82_977, f82_979, f82_981, f82_983, f82_985, f82_986, f82_987, f82_989, f82_991, f82_993, h82_995, hb966, hb968, hb970, hb972, hb974, hb976, hb978, hb980, hb982, hb984, hb988, hb990, hb992, hb994, hb996⟩ := (hI953 82 (by decide) (by decide) : cp82 (wget w951 82))
    refine xg_cVv mX12_puts (vs := [(0, 3), (0, u45), (0, (80 + (3 * u45)) + 0), (0, n955)]) (rest := []) (cn1 := 0) (sl1 := 0) rfl (mPuts3 (hI953) (by omega) (by omega) (by omega) (fun _ => by omega)) rfl h82_995 rfl rfl rfl rfl rfl rfl (fun w997 hq998 => ?_)
    obtain ⟨hI999, hF1000, hx1001⟩ := hq998
    obtain ⟨hp1002, hp1003⟩ := hx1001
    have pk1004 : PK w w997 := PK.tr pk960 (PK.fr hF1000 (by decide) (by decide) pk960.2.2.2.1)
    have os1005 : ∀ j, (j < 80 + 3 * u45 ∨ 83 + 3 * u45 ≤ j) → j < 140 → rwv w997 86 j = rwv w 86 j := fun j hj hl => (hp1003 j (by omega) hl).trans (os961 j hj hl)
    have rg1006 : FA w997 ≠ 0 ∨ 0 = 1 := rg962.imp_left (PK.fr hF1000 (by decide) (by decide) pk960.2.2.2.1).1
    have rg1007 : FA w997 ≠ 0 ∨ (1 ≤ n955 ∧ n955 ≤ 10) := hn959.imp_left (PK.fr hF1000 (by decide) (by decide) pk960.2.2.2.1).1
    have mf1008 : ∀ s, s < 7 → rwv w997 85 s = rwv w 85 s := fun s hs => (rwv_fr hF1000 (by decide)).trans (mf963 s hs)
    have ms1009 : mu w997 < mu w := Nat.lt_of_le_of_lt (PK.fr hF1000 (by decide) (by decide) pk960.2.2.2.1).2.1 ms964
    clear rg962 hn959
    refine xg_t (xg_iinc (u := 0) (z := 1) (l1 := [(3, (0, u45)), (2, (0, at_)), (1, (0, 3)), (0, (2, 82))]) rfl rfl (by decide) rfl) ?_
    refine xg_t (xg_goto) ?_
    refine xg_t (xg_blk (b := [(224, 2, 2, 4, 0, 0), (226, 1, 3, 3, 0, 0), (227, 3, 6, 270, 3, 0), (230, 1, 0, 0, 0, 0), (231, 1, 2, 1, 0, 0), (232, 1, 2, 3, 0, 0), (233, 2, 4, 80, 0, 0), (235, 1, 3, 3, 0, 0), (236, 1, 2, 3, 0, 0), (237, 1, 16, 0, 0, 0), (238, 1, 11, 0, 0, 0), (239, 2, 2, 4, 0, 0), (241, 1, 11, 0, 0, 0), (242, 1, 0, 0, 0, 0), (243, 1, 3, 1, 0, 0), (244, 2, 2, 4, 0, 0), (246, 1, 3, 2, 0, 0), (247, 3, 6, 255, 3, 0), (250, 2, 4, 10, 0, 0), (252, 3, 8, 258, 0, 0)]) rfl) ?_
    refine xg_t (xg_iload (va := (0, 1)) rfl rfl) ?_
    refine xg_t (xg_const) ?_
    refine xg_t (xg_icF (u := 1) (v := 3) rfl xnm0 xnm0 (by decide)) ?_
    refine xg_t (xg_aload (va := (2, 82)) rfl rfl) ?_
    refine xg_t (xg_iload (va := (0, 3)) rfl rfl) ?_
    refine xg_t (xg_iload (va := (0, u45)) rfl rfl) ?_
    refine xg_t (xg_bip) ?_
    refine xg_t (xg_const) ?_
    refine xg_t (xg_iload (va := (0, u45)) rfl rfl) ?_
    refine xg_t (xg_imul (u := 3) (v := u45) (z := 3 * u45) xnm0 xnm0 (by omega)) ?_
    refine xg_t (xg_iadd (u := 80) (v := 3 * u45) (z := 80 + (3 * u45)) xnm0 xnm0 (by omega)) ?_
    refine xg_t (xg_iload (va := (0, 1)) rfl rfl) ?_
    refine xg_t (xg_iadd (u := 80 + (3 * u45)) (v := 1) (z := (80 + (3 * u45)) + 1) xnm0 xnm0 (by omega)) ?_
    refine xg_t (xg_aload (va := (2, 82)) rfl rfl) ?_
    refine xg_t (xg_const) ?_
    refine xg_t (xg_iload (va := (0, 1)) rfl rfl) ?_
    refine xg_t (xg_const) ?_
    refine xg_t (xg_icF (u := 1) (v := 2) rfl xnm0 xnm0 (by decide)) ?_
    refine xg_t (xg_bip) ?_
    refine xg_t (xg_goto) ?_
    refine xg_t (xg_blk (b := [(258, 3, 13, 199, 96, 196), (261, 3, 13, 211, 96, 200), (264, 3, 9, 4, 1, 0), (267, 3, 8, 224, 0, 0)]) rfl) ?_
    refine xg_cVi mX12_numbered (vs := [(0, 1), (0, 10)]) (rest := [(0, (80 + (3 * u45)) + 1), (0, u45), (0, 3), (2, 82)]) (cn1 := 0) (sl1 := 0) rfl (mNumbered (hI999) (by omega) (by omega) pk1004.2.2.2.1) rfl (hF1000.get (by decide) h82_995) rfl rfl rfl rfl rfl rfl (fun n1014 w1010 hq1011 => ?_)
    obtain ⟨hn1015, hI1012, hF1013⟩ := hq1011
    clear hb966 hb968 hb970 hb972 hb974 hb976 hb978 hb980 hb982 hb984 hb988 hb990 hb992 hb994
    obtain ⟨hn1016, hn1017, hn1018⟩ := hn1015
    have pk1019 : PK w w1010 := PK.tr pk1004 hn1017
    have os1020 : ∀ j, (j < 80 + 3 * u45 ∨ 83 + 3 * u45 ≤ j) → j < 140 → rwv w1010 86 j = rwv w 86 j := fun j hj hl => (rwv_fr hF1013 (by decide)).trans (os1005 j hj hl)
    have ix1021 : u45 < 4 → rwv w1010 86 ((80 + (3 * u45)) + 0) = n955 := fun h => (rwv_fr hF1013 (by decide)).trans (hp1002 h)
    have rg1022 : FA w1010 ≠ 0 ∨ 0 = 1 := rg1006.imp_left hn1017.1
    have rg1023 : FA w1010 ≠ 0 ∨ (1 ≤ n955 ∧ n955 ≤ 10) := rg1007.imp_left hn1017.1
    have mf1024 : ∀ s, s < 7 → rwv w1010 85 s = rwv w 85 s := fun s hs => (rwv_fr hF1013 (by decide)).trans (mf1008 s hs)
    have ms1025 : mu w1010 < mu w := Nat.lt_of_le_of_lt hn1017.2.1 ms1009
    clear hp1002 rg1006 rg1007
    obtain ⟨f82_1026, f82_1028, f82_1030, f82_1032, f82_1034, f82_1036, f82_1038, f82_1040, f82_1042, f82_1044, f82_1046, f82_1047, f82_1048, f82_1050, f82_1052, f82_1054, h82_1056, hb1027, hb1029, hb1031, hb1033, hb1035, hb1037, hb1039, hb1041, hb1043, hb1045, hb1049, hb1051, hb1053, hb1055, hb1057⟩ := (hI1012 82 (by decide) (by decide) : cp82 (wget w1010 82))
    refine xg_cVv mX12_puts (vs := [(0, 3), (0, u45), (0, (80 + (3 * u45)) + 1), (0, n1014)]) (rest := []) (cn1 := 0) (sl1 := 0) rfl (mPuts3 (hI1012) (by omega) (by omega) (by omega) (fun _ => by omega)) rfl h82_1056 rfl rfl rfl rfl rfl rfl (fun w1058 hq1059 => ?_)
    obtain ⟨hI1060, hF1061, hx1062⟩ := hq1059
    obtain ⟨hp1063, hp1064⟩ := hx1062
    have pk1065 : PK w w1058 := PK.tr pk1019 (PK.fr hF1061 (by decide) (by decide) pk1019.2.2.2.1)
    have os1066 : ∀ j, (j < 80 + 3 * u45 ∨ 83 + 3 * u45 ≤ j) → j < 140 → rwv w1058 86 j = rwv w 86 j := fun j hj hl => (hp1064 j (by omega) hl).trans (os1020 j hj hl)
    have ix1067 : u45 < 4 → rwv w1058 86 ((80 + (3 * u45)) + 0) = n955 := fun h => (hp1064 _ (by omega) (by omega)).trans (ix1021 h)
    have rg1068 : FA w1058 ≠ 0 ∨ 0 = 1 := rg1022.imp_left (PK.fr hF1061 (by decide) (by decide) pk1019.2.2.2.1).1
    have rg1069 : FA w1058 ≠ 0 ∨ (1 ≤ n955 ∧ n955 ≤ 10) := rg1023.imp_left (PK.fr hF1061 (by decide) (by decide) pk1019.2.2.2.1).1
    have rg1070 : FA w1058 ≠ 0 ∨ (1 ≤ n1014 ∧ n1014 ≤ 10) := hn1018.imp_left (PK.fr hF1061 (by decide) (by decide) pk1019.2.2.2.1).1
    have mf1071 : ∀ s, s < 7 → rwv w1058 85 s = rwv w 85 s := fun s hs => (rwv_fr hF1061 (by decide)).trans (mf1024 s hs)
    have ms1072 : mu w1058 < mu w := Nat.lt_of_le_of_lt (PK.fr hF1061 (by decide) (by decide) pk1019.2.2.2.1).2.1 ms1025
    clear ix1021 rg1022 rg1023 hn1018
    refine xg_t (xg_iinc (u := 1) (z := 2) (l1 := [(3, (0, u45)), (2, (0, at_)), (1, (0, 3)), (0, (2, 82))]) rfl rfl (by decide) rfl) ?_
    refine xg_t (xg_goto) ?_
    refine xg_t (xg_blk (b := [(224, 2, 2, 4, 0, 0), (226, 1, 3, 3, 0, 0), (227, 3, 6, 270, 3, 0), (230, 1, 0, 0, 0, 0), (231, 1, 2, 1, 0, 0), (232, 1, 2, 3, 0, 0), (233, 2, 4, 80, 0, 0), (235, 1, 3, 3, 0, 0), (236, 1, 2, 3, 0, 0), (237, 1, 16, 0, 0, 0), (238, 1, 11, 0, 0, 0), (239, 2, 2, 4, 0, 0), (241, 1, 11, 0, 0, 0), (242, 1, 0, 0, 0, 0), (243, 1, 3, 1, 0, 0), (244, 2, 2, 4, 0, 0), (246, 1, 3, 2, 0, 0), (247, 3, 6, 255, 3, 0), (250, 2, 4, 10, 0, 0), (252, 3, 8, 258, 0, 0)]) rfl) ?_
    refine xg_t (xg_iload (va := (0, 2)) rfl rfl) ?_
    refine xg_t (xg_const) ?_
    refine xg_t (xg_icF (u := 2) (v := 3) rfl xnm0 xnm0 (by decide)) ?_
    refine xg_t (xg_aload (va := (2, 82)) rfl rfl) ?_
    refine xg_t (xg_iload (va := (0, 3)) rfl rfl) ?_
    refine xg_t (xg_iload (va := (0, u45)) rfl rfl) ?_
    refine xg_t (xg_bip) ?_
    refine xg_t (xg_const) ?_
    refine xg_t (xg_iload (va := (0, u45)) rfl rfl) ?_
    refine xg_t (xg_imul (u := 3) (v := u45) (z := 3 * u45) xnm0 xnm0 (by omega)) ?_
    refine xg_t (xg_iadd (u := 80) (v := 3 * u45) (z := 80 + (3 * u45)) xnm0 xnm0 (by omega)) ?_
    refine xg_t (xg_iload (va := (0, 2)) rfl rfl) ?_
    refine xg_t (xg_iadd (u := 80 + (3 * u45)) (v := 2) (z := (80 + (3 * u45)) + 2) xnm0 xnm0 (by omega)) ?_
    refine xg_t (xg_aload (va := (2, 82)) rfl rfl) ?_
    refine xg_t (xg_const) ?_
    refine xg_t (xg_iload (va := (0, 2)) rfl rfl) ?_
    refine xg_t (xg_const) ?_
    refine xg_t (xg_icT (u := 2) (v := 2) rfl xnm0 xnm0 (by decide)) ?_
    refine xg_t (xg_blk (b := [(255, 3, 5, 999, 0, 0)]) rfl) ?_
    refine xg_t (xg_sip) ?_
    refine xg_t (xg_blk (b := [(258, 3, 13, 199, 96, 196), (261, 3, 13, 211, 96, 200), (264, 3, 9, 4, 1, 0), (267, 3, 8, 224, 0, 0)]) rfl) ?_
    refine xg_cVi mX12_numbered (vs := [(0, 1), (0, 999)]) (rest := [(0, (80 + (3 * u45)) + 2), (0, u45), (0, 3), (2, 82)]) (cn1 := 0) (sl1 := 0) rfl (mNumbered (hI1060) (by omega) (by omega) pk1065.2.2.2.1) rfl (hF1061.get (by decide) h82_1056) rfl rfl rfl rfl rfl rfl (fun n1077 w1073 hq1074 => ?_)
    obtain ⟨hn1078, hI1075, hF1076⟩ := hq1074
    clear hb1027 hb1029 hb1031 hb1033 hb1035 hb1037 hb1039 hb1041 hb1043 hb1045 hb1049 hb1051 hb1053 hb1055
    obtain ⟨hn1079, hn1080, hn1081⟩ := hn1078
    have pk1082 : PK w w1073 := PK.tr pk1065 hn1080
    have os1083 : ∀ j, (j < 80 + 3 * u45 ∨ 83 + 3 * u45 ≤ j) → j < 140 → rwv w1073 86 j = rwv w 86 j := fun j hj hl => (rwv_fr hF1076 (by decide)).trans (os1066 j hj hl)
    have ix1084 : u45 < 4 → rwv w1073 86 ((80 + (3 * u45)) + 0) = n955 := fun h => (rwv_fr hF1076 (by decide)).trans (ix1067 h)
    have ix1085 : u45 < 4 → rwv w1073 86 ((80 + (3 * u45)) + 1) = n1014 := fun h => (rwv_fr hF1076 (by decide)).trans (hp1063 h)
    have rg1086 : FA w1073 ≠ 0 ∨ 0 = 1 := rg1068.imp_left hn1080.1
    have rg1087 : FA w1073 ≠ 0 ∨ (1 ≤ n955 ∧ n955 ≤ 10) := rg1069.imp_left hn1080.1
    have rg1088 : FA w1073 ≠ 0 ∨ (1 ≤ n1014 ∧ n1014 ≤ 10) := rg1070.imp_left hn1080.1
    have mf1089 : ∀ s, s < 7 → rwv w1073 85 s = rwv w 85 s := fun s hs => (rwv_fr hF1076 (by decide)).trans (mf1071 s hs)
    have ms1090 : mu w1073 < mu w := Nat.lt_of_le_of_lt hn1080.2.1 ms1072
    clear ix1067 hp1063 rg1068 rg1069 rg1070
    obtain ⟨f82_1091, f82_1093, f82_1095, f82_1097, f82_1099, f82_1101, f82_1103, f82_1105, f82_1107, f82_1109, f82_1111, f82_1112, f82_1113, f82_1115, f82_1117, f82_1119, h82_1121, hb1092, hb1094, hb1096, hb1098, hb1100, hb1102, hb1104, hb1106, hb1108, hb1110, hb1114, hb1116, hb1118, hb1120, hb1122⟩ := (hI1075 82 (by decide) (by decide) : cp82 (wget w1073 82))
    refine xg_cVv mX12_puts (vs := [(0, 3), (0, u45), (0, (80 + (3 * u45)) + 2), (0, n1077)]) (rest := []) (cn1 := 0) (sl1 := 0) rfl (mPuts3 (hI1075) (by omega) (by omega) (by omega) (fun _ => by omega)) rfl h82_1121 rfl rfl rfl rfl rfl rfl (fun w1123 hq1124 => ?_)
    obtain ⟨hI1125, hF1126, hx1127⟩ := hq1124
    obtain ⟨hp1128, hp1129⟩ := hx1127
    have pk1130 : PK w w1123 := PK.tr pk1082 (PK.fr hF1126 (by decide) (by decide) pk1082.2.2.2.1)
    have os1131 : ∀ j, (j < 80 + 3 * u45 ∨ 83 + 3 * u45 ≤ j) → j < 140 → rwv w1123 86 j = rwv w 86 j := fun j hj hl => (hp1129 j (by omega) hl).trans (os1083 j hj hl)
    have ix1132 : u45 < 4 → rwv w1123 86 ((80 + (3 * u45)) + 0) = n955 := fun h => (hp1129 _ (by omega) (by omega)).trans (ix1084 h)
    have ix1133 : u45 < 4 → rwv w1123 86 ((80 + (3 * u45)) + 1) = n1014 := fun h => (hp1129 _ (by omega) (by omega)).trans (ix1085 h)
    have rg1134 : FA w1123 ≠ 0 ∨ 0 = 1 := rg1086.imp_left (PK.fr hF1126 (by decide) (by decide) pk1082.2.2.2.1).1
    have rg1135 : FA w1123 ≠ 0 ∨ (1 ≤ n955 ∧ n955 ≤ 10) := rg1087.imp_left (PK.fr hF1126 (by decide) (by decide) pk1082.2.2.2.1).1
    have rg1136 : FA w1123 ≠ 0 ∨ (1 ≤ n1014 ∧ n1014 ≤ 10) := rg1088.imp_left (PK.fr hF1126 (by decide) (by decide) pk1082.2.2.2.1).1
    have rg1137 : FA w1123 ≠ 0 ∨ (1 ≤ n1077 ∧ n1077 ≤ 999) := hn1081.imp_left (PK.fr hF1126 (by decide) (by decide) pk1082.2.2.2.1).1
    have mf1138 : ∀ s, s < 7 → rwv w1123 85 s = rwv w 85 s := fun s hs => (rwv_fr hF1126 (by decide)).trans (mf1089 s hs)
    have ms1139 : mu w1123 < mu w := Nat.lt_of_le_of_lt (PK.fr hF1126 (by decide) (by decide) pk1082.2.2.2.1).2.1 ms1090
    clear ix1084 ix1085 rg1086 rg1087 rg1088 hn1081
    refine xg_t (xg_iinc (u := 2) (z := 3) (l1 := [(3, (0, u45)), (2, (0, at_)), (1, (0, 3)), (0, (2, 82))]) rfl rfl (by decide) rfl) ?_
    refine xg_t (xg_goto) ?_
    refine xg_t (xg_blk (b := [(224, 2, 2, 4, 0, 0), (226, 1, 3, 3, 0, 0), (227, 3, 6, 270, 3, 0), (230, 1, 0, 0, 0, 0), (231, 1, 2, 1, 0, 0), (232, 1, 2, 3, 0, 0), (233, 2, 4, 80, 0, 0), (235, 1, 3, 3, 0, 0), (236, 1, 2, 3, 0, 0), (237, 1, 16, 0, 0, 0), (238, 1, 11, 0, 0, 0), (239, 2, 2, 4, 0, 0), (241, 1, 11, 0, 0, 0), (242, 1, 0, 0, 0, 0), (243, 1, 3, 1, 0, 0), (244, 2, 2, 4, 0, 0), (246, 1, 3, 2, 0, 0), (247, 3, 6, 255, 3, 0), (250, 2, 4, 10, 0, 0), (252, 3, 8, 258, 0, 0)]) rfl) ?_
    refine xg_t (xg_iload (va := (0, 3)) rfl rfl) ?_
    refine xg_t (xg_const) ?_
    refine xg_t (xg_icT (u := 3) (v := 3) rfl xnm0 xnm0 (by decide)) ?_
    refine xg_t (xg_blk (b := [(270, 3, 8, 394, 0, 0)]) rfl) ?_
    refine xg_t (xg_goto) ?_
    refine xg_t (xg_drop (l1 := [(0, (2, 82)), (1, (0, 3)), (3, (0, u45))]) (List.forall_mem_cons.mpr ⟨List.mem_cons_of_mem _ (List.mem_cons_of_mem _ (List.mem_cons_of_mem _ (List.mem_cons_of_mem _ (List.mem_cons_self)))), List.forall_mem_cons.mpr ⟨List.mem_cons_of_mem _ (List.mem_cons_of_mem _ (List.mem_cons_of_mem _ (List.mem_cons_self))), List.forall_mem_cons.mpr ⟨List.mem_cons_of_mem _ (List.mem_cons_self), fun _ h => absurd h List.not_mem_nil⟩⟩⟩)) ?_
    have hX1140 : FA w1123 ≠ 0 ∨ u45 < 4 := Or.inl (by have q := rg1134; omega)
    exact jn616 w1123 (hI1125) (((((((((hF590.up (by decide)).tr (hF602.up (by decide))).tr (hF954.up (by decide))).tr (hF1000.up (by decide))).tr (hF1013.up (by decide))).tr (hF1061.up (by decide))).tr (hF1076.up (by decide))).tr (hF1126.up (by decide)))) (⟨pk1130, os1131, ms1139, mf1138, hX1140⟩)
end XMB
