/-! the model: lines of films, more -/
section XMB
variable {d : Nat} {w : List (List xE)} {bd : List (Nat × Nat)} {fc : List (Nat × Nat × Bool)} {rr : Nat × Nat}
set_option maxHeartbeats 60000000 in
theorem mALineS2 {at_ : Nat} (hI : xMnv w) (hps : PS w) (hmb : ∀ s, s < 7 → rwv w 85 s ≤ 1000) (hln : fld w 82 14 ≤ 1000) (h7 : fld w 82 7 = 3) (hat : at_ ≤ 4294967295) : xTo (d + 7) mX12_aLine (43, [], [(2, (0, at_)), (1, (0, 2)), (0, (2, 82))], [], (w, bd, fc, 0, 0, rr)) (fun φ => ∃ w', xEnd 0 [] (w', bd, fc, 0, 0, rr) φ ∧ xMnv w' ∧ xFr [82, 83, 85, 86, 87] w w' ∧ ((FA w ≠ 0 → FA w' ≠ 0) ∧ PS w' ∧ ((fld w' 82 10 = 1 ∧ mu w' = mu w ∧ fld w' 82 14 = fld w 82 14 ∧ ∀ s, s < 7 → rwv w' 85 s = rwv w 85 s) ∨ (mu w' < mu w ∧ fld w' 82 14 = fld w 82 14 + 1 ∧ ∀ s, s < 7 → rwv w' 85 s ≤ rwv w 85 s + 1)) ∧ (FA w' ≠ 0 ∨ (DATA w → DATA w')))) := by
  obtain ⟨f82_1, f82_3, f82_5, f82_7, f82_9, f82_11, f82_13, f82_15, f82_17, f82_19, f82_21, f82_22, f82_23, f82_25, f82_27, f82_29, h82_31, hb2, hb4, hb6, hb8, hb10, hb12, hb14, hb16, hb18, hb20, hb24, hb26, hb28, hb30, hb32⟩ := (hI 82 (by decide) (by decide) : cp82 (wget w 82))
  have hf33 : fld w 82 7 = f82_11 := fld_of h82_31
  have hf34 : fld w 82 10 = f82_17 := fld_of h82_31
  have hf35 : fld w 82 14 = f82_19 := fld_of h82_31
  have hps_ : fld w 82 10 = 0 ∨ FA w ≠ 0 := hps
  obtain ⟨g85_36, h85_37, hb38⟩ := (hI 85 (by decide) (by decide) : cpI 7 52 4294967295 (wget w 85))
  have h85_37 : xRow w 85 7 52 g85_36 := h85_37
  obtain ⟨g86_39, h86_40, hb41⟩ := (hI 86 (by decide) (by decide) : cpI 140 53 4294967295 (wget w 86))
  have h86_40 : xRow w 86 140 53 g86_39 := h86_40
  obtain ⟨g87_42, h87_43, hb44⟩ := (hI 87 (by decide) (by decide) : cpI 20 54 4294967295 (wget w 87))
  have h87_43 : xRow w 87 20 54 g87_42 := h87_43
  refine xg_t (xg_blk (b := [(43, 1, 0, 0, 0, 0), (44, 3, 1, 12, 11, 17), (47, 1, 2, 1, 0, 0), (48, 1, 10, 0, 0, 0), (49, 1, 15, 3, 0, 0), (50, 1, 2, 3, 0, 0), (51, 1, 2, 1, 0, 0), (52, 3, 13, 194, 98, 193), (55, 3, 6, 64, 2, 0), (58, 1, 0, 0, 0, 0), (59, 1, 3, 3, 0, 0), (60, 1, 2, 2, 0, 0), (61, 3, 13, 115, 96, 186)]) rfl) ?_
  refine xg_t (xg_aload (va := (2, 82)) rfl rfl) ?_
  refine xg_t (xg_getf (va := (2, 85)) h82_31 rfl) ?_
  refine xg_t (xg_iload (va := (0, 2)) rfl rfl) ?_
  refine xg_ialdB (n := 2) (B := 4294967295) h85_37 (hb38) xnm0 (by omega) (fun u45 hu46 he47 => ?_)
  have hK48 : rwv w 85 2 = u45 := (rwv_of h85_37 (by decide)).trans he47
  have hm49 := hmb 2 (by decide)
  have hl50 : u45 ≤ 1000 := by omega
  refine xg_t (xg_istore (l1 := [(2, (0, at_)), (1, (0, 2)), (0, (2, 82))]) rfl rfl rfl) ?_
  refine xg_t (xg_iload (va := (0, u45)) rfl rfl) ?_
  refine xg_t (xg_iload (va := (0, 2)) rfl rfl) ?_
  refine xg_t (xg_cSr mX12_mostOf (vs := [(0, 2)]) (rest := [(0, u45)]) (rs := [(0, 6), (0, u45)]) (cn1 := 0) (sl1 := 0) rfl (mMostR2) rfl rfl rfl rfl rfl rfl rfl rfl) ?_
  by_cases hc51 : u45 < 6
  · refine xg_t (xg_icT (u := u45) (v := 6) rfl xnm0 xnm0 (xj_ltT hc51 (by omega))) ?_
    refine xg_t (xg_blk (b := [(64, 1, 0, 0, 0, 0), (65, 3, 13, 110, 96, 190), (68, 1, 2, 1, 0, 0), (69, 39, 33, 362, 0, 9)]) rfl) ?_
    refine xg_t (xg_aload (va := (2, 82)) rfl rfl) ?_
    refine xg_cVv mX12_advance (vs := []) (rest := []) (cn1 := 0) (sl1 := 0) rfl (mAdvance (hI)) rfl h82_31 rfl rfl rfl rfl rfl rfl (fun w52 hq53 => ?_)
    obtain ⟨hI54, hF55, hx56⟩ := hq53
    clear hb2 hb4 hb6 hb8 hb10 hb12 hb14 hb16 hb18 hb20 hb24 hb26 hb28 hb30
    obtain ⟨hv57, hv58, hv59, hv60⟩ := hx56
    have hf62 := FA_fr hF55 (by decide)
    have hs63 := (PK.rf hps).2.2.2
    unfold PS at hs63
    have pk61 : PK w w52 := ⟨fun _ => by omega, hv57, hv60, (show fld w52 82 10 = 0 ∨ FA w52 ≠ 0 by omega)⟩
    clear hs63
    have pk64 : PK w w52 := PK.tr (PK.rf hps) pk61
    have os65 : ∀ j, (j < 60 + 2 * u45 ∨ 62 + 2 * u45 ≤ j) → j < 140 → rwv w52 86 j = rwv w 86 j := fun j hj hl => (rwv_fr hF55 (by decide)).trans ((fun j _ _ => rfl) j hj hl)
    have mf66 : ∀ s, s < 7 → rwv w52 85 s = rwv w 85 s := fun s hs => (rwv_fr hF55 (by decide)).trans ((fun _ _ => rfl) s hs)
    have ms67 : mu w52 < mu w := Nat.lt_of_lt_of_le (hv58 (by omega)) (PK.rf hps).2.1
    clear hv58
    have jn68 : ∀ (w69 : List (List xE)), xMnv w69 → xFr [82, 83, 85, 86, 87] w w69 → (PK w w69 ∧ (∀ j, (j < 60 + 2 * u45 ∨ 62 + 2 * u45 ≤ j) → j < 140 → rwv w69 86 j = rwv w 86 j) ∧ mu w69 < mu w ∧ (∀ s, s < 7 → rwv w69 85 s = rwv w 85 s) ∧ (FA w69 ≠ 0 ∨ u45 < 6)) → xTo (d + 7) mX12_aLine (394, [], [(0, (2, 82)), (1, (0, 2)), (3, (0, u45))], [], (w69, bd, fc, 0, 0, rr)) (fun φ => ∃ w', xEnd 0 [] (w', bd, fc, 0, 0, rr) φ ∧ xMnv w' ∧ xFr [82, 83, 85, 86, 87] w w' ∧ ((FA w ≠ 0 → FA w' ≠ 0) ∧ PS w' ∧ ((fld w' 82 10 = 1 ∧ mu w' = mu w ∧ fld w' 82 14 = fld w 82 14 ∧ ∀ s, s < 7 → rwv w' 85 s = rwv w 85 s) ∨ (mu w' < mu w ∧ fld w' 82 14 = fld w 82 14 + 1 ∧ ∀ s, s < 7 → rwv w' 85 s ≤ rwv w 85 s + 1)) ∧ (FA w' ≠ 0 ∨ (DATA w → DATA w')))) := by
      intro w69 hI70 hF71 he72
      obtain ⟨hj73, hj74, hj75, hj76, hj77⟩ := he72
      refine xg_t (xg_blk (b := [(394, 1, 0, 0, 0, 0), (395, 3, 1, 12, 10, 180), (398, 3, 7, 416, 1, 0), (401, 1, 0, 0, 0, 0), (402, 3, 1, 12, 7, 151), (405, 1, 3, 2, 0, 0), (406, 3, 6, 416, 1, 0), (409, 1, 0, 0, 0, 0), (410, 3, 13, 110, 96, 190), (413, 3, 8, 420, 0, 0)]) rfl) ?_
      refine xg_t (xg_aload (va := (2, 82)) rfl rfl) ?_
      obtain ⟨f82_78, f82_80, f82_82, f82_84, f82_86, f82_88, f82_90, f82_92, f82_94, f82_96, f82_98, f82_99, f82_100, f82_102, f82_104, f82_106, h82_108, hb79, hb81, hb83, hb85, hb87, hb89, hb91, hb93, hb95, hb97, hb101, hb103, hb105, hb107, hb109⟩ := (hI70 82 (by decide) (by decide) : cp82 (wget w69 82))
      refine xg_t (xg_getf (va := (0, f82_94)) h82_108 rfl) ?_
      by_cases hc110 : f82_94 = 0
      · refine xg_t (xg_ifF (u := f82_94) rfl xnm0 (xj_neF hc110)) ?_
        refine xg_t (xg_aload (va := (2, 82)) rfl rfl) ?_
        refine xg_t (xg_getf (va := (0, f82_88)) h82_108 rfl) ?_
        refine xg_t (xg_const) ?_
        by_cases hc111 : f82_88 = 2
        · refine xg_t (xg_icF (u := f82_88) (v := 2) rfl xnm0 xnm0 (xj_neF hc111)) ?_
          refine xg_t (xg_aload (va := (2, 82)) rfl rfl) ?_
          refine xg_cVv mX12_advance (vs := []) (rest := []) (cn1 := 0) (sl1 := 0) rfl (mAdvance (hI70)) rfl h82_108 rfl rfl rfl rfl rfl rfl (fun w112 hq113 => ?_)
          obtain ⟨hI114, hF115, hx116⟩ := hq113
          clear hb79 hb81 hb83 hb85 hb87 hb89 hb91 hb93 hb95 hb97 hb101 hb103 hb105 hb107
          obtain ⟨hv117, hv118, hv119, hv120⟩ := hx116
          have hf122 := FA_fr hF115 (by decide)
          have hs123 := hj73.2.2.2
          unfold PS at hs123
          have pk121 : PK w69 w112 := ⟨fun _ => by omega, hv117, hv120, (show fld w112 82 10 = 0 ∨ FA w112 ≠ 0 by omega)⟩
          clear hs123
          clear hv118
          have pk124 : PK w w112 := PK.tr hj73 pk121
          have os125 : ∀ j, (j < 60 + 2 * u45 ∨ 62 + 2 * u45 ≤ j) → j < 140 → rwv w112 86 j = rwv w 86 j := fun j hj hl => (rwv_fr hF115 (by decide)).trans (hj74 j hj hl)
          have rg126 : FA w112 ≠ 0 ∨ u45 < 6 := hj77.imp_left pk121.1
          have mf127 : ∀ s, s < 7 → rwv w112 85 s = rwv w 85 s := fun s hs => (rwv_fr hF115 (by decide)).trans (hj76 s hs)
          have ms128 : mu w112 < mu w := Nat.lt_of_le_of_lt pk121.2.1 hj75
          clear hj77
          refine xg_t (xg_goto) ?_
          refine xg_t (xg_blk (b := [(420, 1, 0, 0, 0, 0), (421, 3, 1, 12, 11, 17), (424, 1, 2, 1, 0, 0), (425, 1, 39, 0, 0, 0), (426, 1, 10, 0, 0, 0), (427, 1, 3, 1, 0, 0), (428, 1, 11, 0, 0, 0), (429, 1, 17, 0, 0, 0), (430, 1, 0, 0, 0, 0), (431, 1, 19, 0, 0, 0), (432, 3, 1, 12, 14, 212), (435, 1, 3, 1, 0, 0), (436, 1, 11, 0, 0, 0), (437, 3, 14, 12, 14, 212), (440, 1, 12, 0, 0, 0)]) rfl) ?_
          obtain ⟨f82_129, f82_131, f82_133, f82_135, f82_137, f82_139, f82_141, f82_143, f82_145, f82_147, f82_149, f82_150, f82_151, f82_153, f82_155, f82_157, h82_159, hb130, hb132, hb134, hb136, hb138, hb140, hb142, hb144, hb146, hb148, hb152, hb154, hb156, hb158, hb160⟩ := (hI114 82 (by decide) (by decide) : cp82 (wget w112 82))
          have hf161 : fld w112 82 4 = f82_133 := fld_of h82_159
          have hf162 : fld w112 82 5 = f82_135 := fld_of h82_159
          have hf163 : fld w112 82 7 = f82_139 := fld_of h82_159
          have hf164 : fld w112 82 10 = f82_145 := fld_of h82_159
          have hf165 : fld w112 82 14 = f82_147 := fld_of h82_159
          have hu166 : mu w112 = 2 * (fld w112 82 4 - fld w112 82 5) + min 1 (fld w112 82 7) := rfl
          have hf167 := pk124.2.2.1
          have hl168 : f82_147 ≤ 1000 := by omega
          refine xg_t (xg_aload (va := (2, 82)) rfl rfl) ?_
          refine xg_t (xg_getf (va := (2, 85)) h82_159 rfl) ?_
          refine xg_t (xg_iload (va := (0, 2)) rfl rfl) ?_
          refine xg_t (xg_dup2 rfl) ?_
          obtain ⟨g85_169, h85_170, hb171⟩ := (hI114 85 (by decide) (by decide) : cpI 7 52 4294967295 (wget w112 85))
          have h85_170 : xRow w112 85 7 52 g85_169 := h85_170
          refine xg_ialdB (n := 2) (B := 4294967295) h85_170 (hb171) xnm0 (by omega) (fun u172 hu173 he174 => ?_)
          have hl175 : u172 = u45 := by have q1 := rwv_of h85_170 (show 2 < 7 by decide); have q2 := mf127 2 (by decide); omega
          refine xg_t (xg_const) ?_
          refine xg_t (xg_iadd (u := u172) (v := 1) (z := u172 + 1) xnm0 xnm0 (by omega)) ?_
          refine xg_iastK (n := 2) (u := u172 + 1) h85_170 xnm0 xnm0 rfl (by omega) (fun w176 hr177 hb178 => ?_)
          refine xg_t (xg_aload (va := (2, 82)) rfl rfl) ?_
          refine xg_t (xg_dup rfl) ?_
          refine xg_t (xg_getf (va := (0, f82_147)) (hb178.get (by decide) h82_159) rfl) ?_
          refine xg_t (xg_const) ?_
          refine xg_t (xg_iadd (u := f82_147) (v := 1) (z := f82_147 + 1) xnm0 xnm0 (by omega)) ?_
          refine xg_putI (fl1 := [(2, 83), (2, 84), (0, f82_129), (0, f82_131), (0, f82_133), (0, f82_135), (0, f82_137), (0, f82_139), (0, f82_141), (0, f82_143), (0, f82_145), (2, 85), (2, 86), (2, 87), (0, f82_147 + 1), (2, 88), (2, 89), (2, 90), (2, 91), (2, 92), (2, 93), (2, 94), (4, f82_149), (4, f82_150), (0, f82_151), (2, 95), (2, 96), (2, 97), (2, 98), (2, 99), (2, 100), (2, 101), (2, 102), (0, f82_153), (2, 103), (2, 104), (2, 105), (2, 106), (2, 107), (2, 108), (2, 109), (0, f82_155), (0, f82_157), (2, 110), (2, 111), (2, 112), (2, 113)]) (hb178.get (by decide) h82_159) rfl rfl rfl (fun w179 hk180 hb181 => ?_)
          have hF182 : xFr [82, 85] w112 w179 := ((xFr.of (S := [82, 85]) hb178 (by decide)).tr (xFr.of (S := [82, 85]) hb181 (by decide)))
          have hA183 := FA_fr hF182 (by decide)
          have hf184 : fld w179 82 4 = f82_133 := fld_of hk180
          have hf185 : fld w179 82 5 = f82_135 := fld_of hk180
          have hf186 : fld w179 82 7 = f82_139 := fld_of hk180
          have hf187 : fld w179 82 10 = f82_145 := fld_of hk180
          have hf188 : fld w179 82 14 = f82_147 + 1 := fld_of hk180
          have hu189 : mu w179 = 2 * (fld w179 82 4 - fld w179 82 5) + min 1 (fld w179 82 7) := rfl
          have pq190 := pk124
          unfold PK PS at pq190
          have hM191 : ∀ s, s < 7 → s ≠ 2 → rwv w179 85 s = rwv w 85 s := fun s hs hn => (rwv_of (hr177.but hb181 (by decide)) hs).trans ((if_neg hn).trans ((rwv_of h85_170 hs).symm.trans (mf127 s hs)))
          have hM192 : rwv w179 85 2 = u45 + 1 := (rwv_of (hr177.but hb181 (by decide)) (by decide)).trans ((if_pos rfl).trans (by omega))
          have hM193 : ∀ s, s < 7 → rwv w179 85 s ≤ rwv w 85 s + 1 := fun s hs => by
            by_cases z : s = 2
            · subst z; omega
            · rw [hM191 s hs z]; omega
          have hO194 : ∀ j, (j < 60 + 2 * u45 ∨ 62 + 2 * u45 ≤ j) → j < 140 → rwv w179 86 j = rwv w 86 j := fun j hj hl => (rwv_fr hF182 (by decide)).trans (os125 j hj hl)
          have hl196 : FA w112 ≠ 0 ∨ u45 < 6 := rg126
          have hN195 : FA w179 ≠ 0 ∨ 6 ≤ u45 ∨ True := Or.inr (Or.inr trivial)
          have hX197 : FA w179 ≠ 0 ∨ u45 < 6 := by omega
          have hD198 : FA w179 ≠ 0 ∨ (DATA w → DATA w179) := by
            by_cases z : FA w179 ≠ 0
            · exact Or.inl z
            · exact Or.inr (fun hd => hd.s2 hM191 hK48 hM192 (hX197.resolve_left z) hO194 ((hN195.resolve_left z).resolve_left (by have := hX197.resolve_left z; omega)))
          exact xg_e ⟨w179, ⟨rfl, rfl⟩, xMnv.up (S := [85, 82]) hI114 ((xFr.of (S := [85, 82]) hb178 (by decide)).tr (xFr.of (S := [85, 82]) hb181 (by decide))) (List.forall_mem_cons.mpr ⟨(show cpI 7 52 4294967295 (wget w179 85) from ⟨_, (hr177.but hb181 (by decide)), xrb (by omega) (hb171)⟩), List.forall_mem_cons.mpr ⟨(show cp82 (wget w179 82) from ⟨f82_129, f82_131, f82_133, f82_135, f82_137, f82_139, f82_141, f82_143, f82_145, f82_147 + 1, f82_149, f82_150, f82_151, f82_153, f82_155, f82_157, hk180, hb130, hb132, hb134, hb136, hb138, hb140, hb142, hb144, hb146, by omega, hb152, hb154, hb156, hb158, by omega⟩), fun _ h => absurd h List.not_mem_nil⟩⟩), ((hF71.tr (hF115.up (by decide))).tr ((xFr.of (S := [82, 83, 85, 86, 87]) hb178 (by decide)).tr (xFr.of (S := [82, 83, 85, 86, 87]) hb181 (by decide)))), ⟨fun h => by have := pq190.1 h; omega, (show fld w179 82 10 = 0 ∨ FA w179 ≠ 0 by omega), Or.inr ⟨by have := ms128; omega, by omega, hM193⟩, hD198⟩⟩
        · refine xg_t (xg_icT (u := f82_88) (v := 2) rfl xnm0 xnm0 (xj_neT hc111)) ?_
          refine xg_t (xg_blk (b := [(416, 1, 0, 0, 0, 0), (417, 3, 13, 140, 96, 183)]) rfl) ?_
          refine xg_t (xg_aload (va := (2, 82)) rfl rfl) ?_
          refine xg_cVv mX12_ends (vs := []) (rest := []) (cn1 := 0) (sl1 := 0) rfl (mEnds (hI70) hj73.2.2.2) rfl h82_108 rfl rfl rfl rfl rfl rfl (fun w199 hq200 => ?_)
          obtain ⟨hI201, hF202, hx203⟩ := hq200
          clear hb79 hb81 hb83 hb85 hb87 hb89 hb91 hb93 hb95 hb97 hb101 hb103 hb105 hb107
          obtain ⟨hv204, hv205, hv206, hv207⟩ := hx203
          have pk208 : PK w69 w199 := ⟨fun _ => hv204, by omega, by omega, Or.inr hv204⟩
          have pk209 : PK w w199 := PK.tr hj73 pk208
          have os210 : ∀ j, (j < 60 + 2 * u45 ∨ 62 + 2 * u45 ≤ j) → j < 140 → rwv w199 86 j = rwv w 86 j := fun j hj hl => (rwv_fr hF202 (by decide)).trans (hj74 j hj hl)
          have rg211 : FA w199 ≠ 0 ∨ u45 < 6 := hj77.imp_left pk208.1
          have mf212 : ∀ s, s < 7 → rwv w199 85 s = rwv w 85 s := fun s hs => (rwv_fr hF202 (by decide)).trans (hj76 s hs)
          have ms213 : mu w199 < mu w := Nat.lt_of_le_of_lt pk208.2.1 hj75
          clear hj77
          refine xg_t (xg_blk (b := [(420, 1, 0, 0, 0, 0), (421, 3, 1, 12, 11, 17), (424, 1, 2, 1, 0, 0), (425, 1, 39, 0, 0, 0), (426, 1, 10, 0, 0, 0), (427, 1, 3, 1, 0, 0), (428, 1, 11, 0, 0, 0), (429, 1, 17, 0, 0, 0), (430, 1, 0, 0, 0, 0), (431, 1, 19, 0, 0, 0), (432, 3, 1, 12, 14, 212), (435, 1, 3, 1, 0, 0), (436, 1, 11, 0, 0, 0), (437, 3, 14, 12, 14, 212), (440, 1, 12, 0, 0, 0)]) rfl) ?_
          obtain ⟨f82_214, f82_216, f82_218, f82_220, f82_222, f82_224, f82_226, f82_228, f82_230, f82_232, f82_234, f82_235, f82_236, f82_238, f82_240, f82_242, h82_244, hb215, hb217, hb219, hb221, hb223, hb225, hb227, hb229, hb231, hb233, hb237, hb239, hb241, hb243, hb245⟩ := (hI201 82 (by decide) (by decide) : cp82 (wget w199 82))
          have hf246 : fld w199 82 4 = f82_218 := fld_of h82_244
          have hf247 : fld w199 82 5 = f82_220 := fld_of h82_244
          have hf248 : fld w199 82 7 = f82_224 := fld_of h82_244
          have hf249 : fld w199 82 10 = f82_230 := fld_of h82_244
          have hf250 : fld w199 82 14 = f82_232 := fld_of h82_244
          have hu251 : mu w199 = 2 * (fld w199 82 4 - fld w199 82 5) + min 1 (fld w199 82 7) := rfl
          have hf252 := pk209.2.2.1
          have hl253 : f82_232 ≤ 1000 := by omega
          refine xg_t (xg_aload (va := (2, 82)) rfl rfl) ?_
          refine xg_t (xg_getf (va := (2, 85)) h82_244 rfl) ?_
          refine xg_t (xg_iload (va := (0, 2)) rfl rfl) ?_
          refine xg_t (xg_dup2 rfl) ?_
          obtain ⟨g85_254, h85_255, hb256⟩ := (hI201 85 (by decide) (by decide) : cpI 7 52 4294967295 (wget w199 85))
          have h85_255 : xRow w199 85 7 52 g85_254 := h85_255
          refine xg_ialdB (n := 2) (B := 4294967295) h85_255 (hb256) xnm0 (by omega) (fun u257 hu258 he259 => ?_)
          have hl260 : u257 = u45 := by have q1 := rwv_of h85_255 (show 2 < 7 by decide); have q2 := mf212 2 (by decide); omega
          refine xg_t (xg_const) ?_
          refine xg_t (xg_iadd (u := u257) (v := 1) (z := u257 + 1) xnm0 xnm0 (by omega)) ?_
          refine xg_iastK (n := 2) (u := u257 + 1) h85_255 xnm0 xnm0 rfl (by omega) (fun w261 hr262 hb263 => ?_)
          refine xg_t (xg_aload (va := (2, 82)) rfl rfl) ?_
          refine xg_t (xg_dup rfl) ?_
          refine xg_t (xg_getf (va := (0, f82_232)) (hb263.get (by decide) h82_244) rfl) ?_
          refine xg_t (xg_const) ?_
          refine xg_t (xg_iadd (u := f82_232) (v := 1) (z := f82_232 + 1) xnm0 xnm0 (by omega)) ?_
          refine xg_putI (fl1 := [(2, 83), (2, 84), (0, f82_214), (0, f82_216), (0, f82_218), (0, f82_220), (0, f82_222), (0, f82_224), (0, f82_226), (0, f82_228), (0, f82_230), (2, 85), (2, 86), (2, 87), (0, f82_232 + 1), (2, 88), (2, 89), (2, 90), (2, 91), (2, 92), (2, 93), (2, 94), (4, f82_234), (4, f82_235), (0, f82_236), (2, 95), (2, 96), (2, 97), (2, 98), (2, 99), (2, 100), (2, 101), (2, 102), (0, f82_238), (2, 103), (2, 104), (2, 105), (2, 106), (2, 107), (2, 108), (2, 109), (0, f82_240), (0, f82_242), (2, 110), (2, 111), (2, 112), (2, 113)]) (hb263.get (by decide) h82_244) rfl rfl rfl (fun w264 hk265 hb266 => ?_)
          have hF267 : xFr [82, 85] w199 w264 := ((xFr.of (S := [82, 85]) hb263 (by decide)).tr (xFr.of (S := [82, 85]) hb266 (by decide)))
          have hA268 := FA_fr hF267 (by decide)
          have hf269 : fld w264 82 4 = f82_218 := fld_of hk265
          have hf270 : fld w264 82 5 = f82_220 := fld_of hk265
          have hf271 : fld w264 82 7 = f82_224 := fld_of hk265
          have hf272 : fld w264 82 10 = f82_230 := fld_of hk265
          have hf273 : fld w264 82 14 = f82_232 + 1 := fld_of hk265
          have hu274 : mu w264 = 2 * (fld w264 82 4 - fld w264 82 5) + min 1 (fld w264 82 7) := rfl
          have pq275 := pk209
          unfold PK PS at pq275
          have hM276 : ∀ s, s < 7 → s ≠ 2 → rwv w264 85 s = rwv w 85 s := fun s hs hn => (rwv_of (hr262.but hb266 (by decide)) hs).trans ((if_neg hn).trans ((rwv_of h85_255 hs).symm.trans (mf212 s hs)))
          have hM277 : rwv w264 85 2 = u45 + 1 := (rwv_of (hr262.but hb266 (by decide)) (by decide)).trans ((if_pos rfl).trans (by omega))
          have hM278 : ∀ s, s < 7 → rwv w264 85 s ≤ rwv w 85 s + 1 := fun s hs => by
            by_cases z : s = 2
            · subst z; omega
            · rw [hM276 s hs z]; omega
          have hO279 : ∀ j, (j < 60 + 2 * u45 ∨ 62 + 2 * u45 ≤ j) → j < 140 → rwv w264 86 j = rwv w 86 j := fun j hj hl => (rwv_fr hF267 (by decide)).trans (os210 j hj hl)
          have hl281 : FA w199 ≠ 0 ∨ u45 < 6 := rg211
          have hN280 : FA w264 ≠ 0 ∨ 6 ≤ u45 ∨ True := Or.inr (Or.inr trivial)
          have hX282 : FA w264 ≠ 0 ∨ u45 < 6 := by omega
          have hD283 : FA w264 ≠ 0 ∨ (DATA w → DATA w264) := by
            by_cases z : FA w264 ≠ 0
            · exact Or.inl z
            · exact Or.inr (fun hd => hd.s2 hM276 hK48 hM277 (hX282.resolve_left z) hO279 ((hN280.resolve_left z).resolve_left (by have := hX282.resolve_left z; omega)))
          exact xg_e ⟨w264, ⟨rfl, rfl⟩, xMnv.up (S := [85, 82]) hI201 ((xFr.of (S := [85, 82]) hb263 (by decide)).tr (xFr.of (S := [85, 82]) hb266 (by decide))) (List.forall_mem_cons.mpr ⟨(show cpI 7 52 4294967295 (wget w264 85) from ⟨_, (hr262.but hb266 (by decide)), xrb (by omega) (hb256)⟩), List.forall_mem_cons.mpr ⟨(show cp82 (wget w264 82) from ⟨f82_214, f82_216, f82_218, f82_220, f82_222, f82_224, f82_226, f82_228, f82_230, f82_232 + 1, f82_234, f82_235, f82_236, f82_238, f82_240, f82_242, hk265, hb215, hb217, hb219, hb221, hb223, hb225, hb227, hb229, hb231, by omega, hb237, hb239, hb241, hb243, by omega⟩), fun _ h => absurd h List.not_mem_nil⟩⟩), ((hF71.tr (hF202.up (by decide))).tr ((xFr.of (S := [82, 83, 85, 86, 87]) hb263 (by decide)).tr (xFr.of (S := [82, 83, 85, 86, 87]) hb266 (by decide)))), ⟨fun h => by have := pq275.1 h; omega, (show fld w264 82 10 = 0 ∨ FA w264 ≠ 0 by omega), Or.inr ⟨by have := ms213; omega, by omega, hM278⟩, hD283⟩⟩
      · refine xg_t (xg_ifT (u := f82_94) rfl xnm0 (xj_neT hc110)) ?_
        refine xg_t (xg_blk (b := [(416, 1, 0, 0, 0, 0), (417, 3, 13, 140, 96, 183)]) rfl) ?_
        refine xg_t (xg_aload (va := (2, 82)) rfl rfl) ?_
        refine xg_cVv mX12_ends (vs := []) (rest := []) (cn1 := 0) (sl1 := 0) rfl (mEnds (hI70) hj73.2.2.2) rfl h82_108 rfl rfl rfl rfl rfl rfl (fun w284 hq285 => ?_)
        obtain ⟨hI286, hF287, hx288⟩ := hq285
        clear hb79 hb81 hb83 hb85 hb87 hb89 hb91 hb93 hb95 hb97 hb101 hb103 hb105 hb107
        obtain ⟨hv289, hv290, hv291, hv292⟩ := hx288
        have pk293 : PK w69 w284 := ⟨fun _ => hv289, by omega, by omega, Or.inr hv289⟩
        have pk294 : PK w w284 := PK.tr hj73 pk293
        have os295 : ∀ j, (j < 60 + 2 * u45 ∨ 62 + 2 * u45 ≤ j) → j < 140 → rwv w284 86 j = rwv w 86 j := fun j hj hl => (rwv_fr hF287 (by decide)).trans (hj74 j hj hl)
        have rg296 : FA w284 ≠ 0 ∨ u45 < 6 := hj77.imp_left pk293.1
        have mf297 : ∀ s, s < 7 → rwv w284 85 s = rwv w 85 s := fun s hs => (rwv_fr hF287 (by decide)).trans (hj76 s hs)
        have ms298 : mu w284 < mu w := Nat.lt_of_le_of_lt pk293.2.1 hj75
        clear hj77
        refine xg_t (xg_blk (b := [(420, 1, 0, 0, 0, 0), (421, 3, 1, 12, 11, 17), (424, 1, 2, 1, 0, 0), (425, 1, 39, 0, 0, 0), (426, 1, 10, 0, 0, 0), (427, 1, 3, 1, 0, 0), (428, 1, 11, 0, 0, 0), (429, 1, 17, 0, 0, 0), (430, 1, 0, 0, 0, 0), (431, 1, 19, 0, 0, 0), (432, 3, 1, 12, 14, 212), (435, 1, 3, 1, 0, 0), (436, 1, 11, 0, 0, 0), (437, 3, 14, 12, 14, 212), (440, 1, 12, 0, 0, 0)]) rfl) ?_
        obtain ⟨f82_299, f82_301, f82_303, f82_305, f82_307, f82_309, f82_311, f82_313, f82_315, f82_317, f82_319, f82_320, f82_321, f82_323, f82_325, f82_327, h82_329, hb300, hb302, hb304, hb306, hb308, hb310, hb312, hb314, hb316, hb318, hb322, hb324, hb326, hb328, hb330⟩ := (hI286 82 (by decide) (by decide) : cp82 (wget w284 82))
        have hf331 : fld w284 82 4 = f82_303 := fld_of h82_329
        have hf332 : fld w284 82 5 = f82_305 := fld_of h82_329
        have hf333 : fld w284 82 7 = f82_309 := fld_of h82_329
        have hf334 : fld w284 82 10 = f82_315 := fld_of h82_329
        have hf335 : fld w284 82 14 = f82_317 := fld_of h82_329
        have hu336 : mu w284 = 2 * (fld w284 82 4 - fld w284 82 5) + min 1 (fld w284 82 7) := rfl
        have hf337 := pk294.2.2.1
        have hl338 : f82_317 ≤ 1000 := by omega
        refine xg_t (xg_aload (va := (2, 82)) rfl rfl) ?_
        refine xg_t (xg_getf (va := (2, 85)) h82_329 rfl) ?_
        refine xg_t (xg_iload (va := (0, 2)) rfl rfl) ?_
        refine xg_t (xg_dup2 rfl) ?_
        obtain ⟨g85_339, h85_340, hb341⟩ := (hI286 85 (by decide) (by decide) : cpI 7 52 4294967295 (wget w284 85))
        have h85_340 : xRow w284 85 7 52 g85_339 := h85_340
        refine xg_ialdB (n := 2) (B := 4294967295) h85_340 (hb341) xnm0 (by omega) (fun u342 hu343 he344 => ?_)
        have hl345 : u342 = u45 := by have q1 := rwv_of h85_340 (show 2 < 7 by decide); have q2 := mf297 2 (by decide); omega
        refine xg_t (xg_const) ?_
        refine xg_t (xg_iadd (u := u342) (v := 1) (z := u342 + 1) xnm0 xnm0 (by omega)) ?_
        refine xg_iastK (n := 2) (u := u342 + 1) h85_340 xnm0 xnm0 rfl (by omega) (fun w346 hr347 hb348 => ?_)
        refine xg_t (xg_aload (va := (2, 82)) rfl rfl) ?_
        refine xg_t (xg_dup rfl) ?_
        refine xg_t (xg_getf (va := (0, f82_317)) (hb348.get (by decide) h82_329) rfl) ?_
        refine xg_t (xg_const) ?_
        refine xg_t (xg_iadd (u := f82_317) (v := 1) (z := f82_317 + 1) xnm0 xnm0 (by omega)) ?_
        refine xg_putI (fl1 := [(2, 83), (2, 84), (0, f82_299), (0, f82_301), (0, f82_303), (0, f82_305), (0, f82_307), (0, f82_309), (0, f82_311), (0, f82_313), (0, f82_315), (2, 85), (2, 86), (2, 87), (0, f82_317 + 1), (2, 88), (2, 89), (2, 90), (2, 91), (2, 92), (2, 93), (2, 94), (4, f82_319), (4, f82_320), (0, f82_321), (2, 95), (2, 96), (2, 97), (2, 98), (2, 99), (2, 100), (2, 101), (2, 102), (0, f82_323), (2, 103), (2, 104), (2, 105), (2, 106), (2, 107), (2, 108), (2, 109), (0, f82_325), (0, f82_327), (2, 110), (2, 111), (2, 112), (2, 113)]) (hb348.get (by decide) h82_329) rfl rfl rfl (fun w349 hk350 hb351 => ?_)
        have hF352 : xFr [82, 85] w284 w349 := ((xFr.of (S := [82, 85]) hb348 (by decide)).tr (xFr.of (S := [82, 85]) hb351 (by decide)))
        have hA353 := FA_fr hF352 (by decide)
        have hf354 : fld w349 82 4 = f82_303 := fld_of hk350
        have hf355 : fld w349 82 5 = f82_305 := fld_of hk350
        have hf356 : fld w349 82 7 = f82_309 := fld_of hk350
        have hf357 : fld w349 82 10 = f82_315 := fld_of hk350
        have hf358 : fld w349 82 14 = f82_317 + 1 := fld_of hk350
        have hu359 : mu w349 = 2 * (fld w349 82 4 - fld w349 82 5) + min 1 (fld w349 82 7) := rfl
        have pq360 := pk294
        unfold PK PS at pq360
        have hM361 : ∀ s, s < 7 → s ≠ 2 → rwv w349 85 s = rwv w 85 s := fun s hs hn => (rwv_of (hr347.but hb351 (by decide)) hs).trans ((if_neg hn).trans ((rwv_of h85_340 hs).symm.trans (mf297 s hs)))
        have hM362 : rwv w349 85 2 = u45 + 1 := (rwv_of (hr347.but hb351 (by decide)) (by decide)).trans ((if_pos rfl).trans (by omega))
        have hM363 : ∀ s, s < 7 → rwv w349 85 s ≤ rwv w 85 s + 1 := fun s hs => by
          by_cases z : s = 2
          · subst z; omega
          · rw [hM361 s hs z]; omega
        have hO364 : ∀ j, (j < 60 + 2 * u45 ∨ 62 + 2 * u45 ≤ j) → j < 140 → rwv w349 86 j = rwv w 86 j := fun j hj hl => (rwv_fr hF352 (by decide)).trans (os295 j hj hl)
        have hl366 : FA w284 ≠ 0 ∨ u45 < 6 := rg296
        have hN365 : FA w349 ≠ 0 ∨ 6 ≤ u45 ∨ True := Or.inr (Or.inr trivial)
        have hX367 : FA w349 ≠ 0 ∨ u45 < 6 := by omega
        have hD368 : FA w349 ≠ 0 ∨ (DATA w → DATA w349) := by
          by_cases z : FA w349 ≠ 0
          · exact Or.inl z
          · exact Or.inr (fun hd => hd.s2 hM361 hK48 hM362 (hX367.resolve_left z) hO364 ((hN365.resolve_left z).resolve_left (by have := hX367.resolve_left z; omega)))
        exact xg_e ⟨w349, ⟨rfl, rfl⟩, xMnv.up (S := [85, 82]) hI286 ((xFr.of (S := [85, 82]) hb348 (by decide)).tr (xFr.of (S := [85, 82]) hb351 (by decide))) (List.forall_mem_cons.mpr ⟨(show cpI 7 52 4294967295 (wget w349 85) from ⟨_, (hr347.but hb351 (by decide)), xrb (by omega) (hb341)⟩), List.forall_mem_cons.mpr ⟨(show cp82 (wget w349 82) from ⟨f82_299, f82_301, f82_303, f82_305, f82_307, f82_309, f82_311, f82_313, f82_315, f82_317 + 1, f82_319, f82_320, f82_321, f82_323, f82_325, f82_327, hk350, hb300, hb302, hb304, hb306, hb308, hb310, hb312, hb314, hb316, by omega, hb322, hb324, hb326, hb328, by omega⟩), fun _ h => absurd h List.not_mem_nil⟩⟩), ((hF71.tr (hF287.up (by decide))).tr ((xFr.of (S := [82, 83, 85, 86, 87]) hb348 (by decide)).tr (xFr.of (S := [82, 83, 85, 86, 87]) hb351 (by decide)))), ⟨fun h => by have := pq360.1 h; omega, (show fld w349 82 10 = 0 ∨ FA w349 ≠ 0 by omega), Or.inr ⟨by have := ms298; omega, by omega, hM363⟩, hD368⟩⟩
    refine xg_t (xg_iload (va := (0, 2)) rfl rfl) ?_
    refine xg_t (xg_swt (ks := [(0, 108), (1, 116), (2, 180), (3, 221), (4, 273), (5, 326)]) (u := 2) (z := 180) rfl rfl rfl xnm0 (xsw_n (by omega) (xsw_n (by omega) (xsw_y rfl)))) ?_
    refine xg_t (xg_blk (b := [(180, 1, 3, 0, 0, 0), (181, 2, 15, 4, 0, 0)]) rfl) ?_
    refine xg_t (xg_const) ?_
    refine xg_t (xg_istore (l1 := [(3, (0, u45)), (2, (0, at_)), (1, (0, 2)), (0, (2, 82))]) rfl rfl rfl) ?_
    refine xg_t (xg_blk (b := [(183, 2, 2, 4, 0, 0), (185, 1, 3, 2, 0, 0), (186, 3, 6, 218, 3, 0), (189, 1, 0, 0, 0, 0), (190, 1, 2, 1, 0, 0), (191, 1, 2, 3, 0, 0), (192, 2, 4, 60, 0, 0), (194, 1, 3, 2, 0, 0), (195, 1, 2, 3, 0, 0), (196, 1, 16, 0, 0, 0), (197, 1, 11, 0, 0, 0), (198, 2, 2, 4, 0, 0), (200, 1, 11, 0, 0, 0), (201, 1, 0, 0, 0, 0), (202, 1, 3, 1, 0, 0), (203, 3, 5, 9999, 0, 0), (206, 3, 13, 199, 96, 196), (209, 3, 13, 211, 96, 200), (212, 3, 9, 4, 1, 0), (215, 3, 8, 183, 0, 0)]) rfl) ?_
    refine xg_t (xg_iload (va := (0, 0)) rfl rfl) ?_
    refine xg_t (xg_const) ?_
    refine xg_t (xg_icF (u := 0) (v := 2) rfl xnm0 xnm0 (by decide)) ?_
    refine xg_t (xg_aload (va := (2, 82)) rfl rfl) ?_
    refine xg_t (xg_iload (va := (0, 2)) rfl rfl) ?_
    refine xg_t (xg_iload (va := (0, u45)) rfl rfl) ?_
    refine xg_t (xg_bip) ?_
    refine xg_t (xg_const) ?_
    refine xg_t (xg_iload (va := (0, u45)) rfl rfl) ?_
    refine xg_t (xg_imul (u := 2) (v := u45) (z := 2 * u45) xnm0 xnm0 (by omega)) ?_
    refine xg_t (xg_iadd (u := 60) (v := 2 * u45) (z := 60 + (2 * u45)) xnm0 xnm0 (by omega)) ?_
    refine xg_t (xg_iload (va := (0, 0)) rfl rfl) ?_
    refine xg_t (xg_iadd (u := 60 + (2 * u45)) (v := 0) (z := (60 + (2 * u45)) + 0) xnm0 xnm0 (by omega)) ?_
    refine xg_t (xg_aload (va := (2, 82)) rfl rfl) ?_
    refine xg_t (xg_const) ?_
    refine xg_t (xg_sip) ?_
    obtain ⟨f82_369, f82_371, f82_373, f82_375, f82_377, f82_379, f82_381, f82_383, f82_385, f82_387, f82_389, f82_390, f82_391, f82_393, f82_395, f82_397, h82_399, hb370, hb372, hb374, hb376, hb378, hb380, hb382, hb384, hb386, hb388, hb392, hb394, hb396, hb398, hb400⟩ := (hI54 82 (by decide) (by decide) : cp82 (wget w52 82))
    refine xg_cVi mX12_numbered (vs := [(0, 1), (0, 9999)]) (rest := [(0, (60 + (2 * u45)) + 0), (0, u45), (0, 2), (2, 82)]) (cn1 := 0) (sl1 := 0) rfl (mNumbered (hI54) (by omega) (by omega) pk64.2.2.2) rfl h82_399 rfl rfl rfl rfl rfl rfl (fun n405 w401 hq402 => ?_)
    obtain ⟨hn406, hI403, hF404⟩ := hq402
    clear hb370 hb372 hb374 hb376 hb378 hb380 hb382 hb384 hb386 hb388 hb392 hb394 hb396 hb398
    obtain ⟨hn407, hn408, hn409⟩ := hn406
    have pk410 : PK w w401 := PK.tr pk64 hn408
    have os411 : ∀ j, (j < 60 + 2 * u45 ∨ 62 + 2 * u45 ≤ j) → j < 140 → rwv w401 86 j = rwv w 86 j := fun j hj hl => (rwv_fr hF404 (by decide)).trans (os65 j hj hl)
    have mf412 : ∀ s, s < 7 → rwv w401 85 s = rwv w 85 s := fun s hs => (rwv_fr hF404 (by decide)).trans (mf66 s hs)
    have ms413 : mu w401 < mu w := Nat.lt_of_le_of_lt hn408.2.1 ms67
    obtain ⟨f82_414, f82_416, f82_418, f82_420, f82_422, f82_424, f82_426, f82_428, f82_430, f82_432, f82_434, f82_435, f82_436, f82_438, f82_440, f82_442, h82_444, hb415, hb417, hb419, hb421, hb423, hb425, hb427, hb429, hb431, hb433, hb437, hb439, hb441, hb443, hb445⟩ := (hI403 82 (by decide) (by decide) : cp82 (wget w401 82))
    refine xg_cVv mX12_puts (vs := [(0, 2), (0, u45), (0, (60 + (2 * u45)) + 0), (0, n405)]) (rest := []) (cn1 := 0) (sl1 := 0) rfl (mPuts2 (hI403) (by omega) (by omega) (by omega) (fun _ => by omega)) rfl h82_444 rfl rfl rfl rfl rfl rfl (fun w446 hq447 => ?_)
    obtain ⟨hI448, hF449, hx450⟩ := hq447
    obtain ⟨hp451, hp452⟩ := hx450
    have pk453 : PK w w446 := PK.tr pk410 (PK.fr hF449 (by decide) (by decide) pk410.2.2.2)
    have os454 : ∀ j, (j < 60 + 2 * u45 ∨ 62 + 2 * u45 ≤ j) → j < 140 → rwv w446 86 j = rwv w 86 j := fun j hj hl => (hp452 j (by omega) hl).trans (os411 j hj hl)
    have rg455 : FA w446 ≠ 0 ∨ (1 ≤ n405 ∧ n405 ≤ 9999) := hn409.imp_left (PK.fr hF449 (by decide) (by decide) pk410.2.2.2).1
    have mf456 : ∀ s, s < 7 → rwv w446 85 s = rwv w 85 s := fun s hs => (rwv_fr hF449 (by decide)).trans (mf412 s hs)
    have ms457 : mu w446 < mu w := Nat.lt_of_le_of_lt (PK.fr hF449 (by decide) (by decide) pk410.2.2.2).2.1 ms413
    clear hn409
    refine xg_t (xg_iinc (u := 0) (z := 1) (l1 := [(3, (0, u45)), (2, (0, at_)), (1, (0, 2)), (0, (2, 82))]) rfl rfl (by decide) rfl) ?_
    refine xg_t (xg_goto) ?_
    refine xg_t (xg_blk (b := [(183, 2, 2, 4, 0, 0), (185, 1, 3, 2, 0, 0), (186, 3, 6, 218, 3, 0), (189, 1, 0, 0, 0, 0), (190, 1, 2, 1, 0, 0), (191, 1, 2, 3, 0, 0), (192, 2, 4, 60, 0, 0), (194, 1, 3, 2, 0, 0), (195, 1, 2, 3, 0, 0), (196, 1, 16, 0, 0, 0), (197, 1, 11, 0, 0, 0), (198, 2, 2, 4, 0, 0), (200, 1, 11, 0, 0, 0), (201, 1, 0, 0, 0, 0), (202, 1, 3, 1, 0, 0), (203, 3, 5, 9999, 0, 0), (206, 3, 13, 199, 96, 196), (209, 3, 13, 211, 96, 200), (212, 3, 9, 4, 1, 0), (215, 3, 8, 183, 0, 0)]) rfl) ?_
    refine xg_t (xg_iload (va := (0, 1)) rfl rfl) ?_
    refine xg_t (xg_const) ?_
    refine xg_t (xg_icF (u := 1) (v := 2) rfl xnm0 xnm0 (by decide)) ?_
    refine xg_t (xg_aload (va := (2, 82)) rfl rfl) ?_
    refine xg_t (xg_iload (va := (0, 2)) rfl rfl) ?_
    refine xg_t (xg_iload (va := (0, u45)) rfl rfl) ?_
    refine xg_t (xg_bip) ?_
    refine xg_t (xg_const) ?_
    refine xg_t (xg_iload (va := (0, u45)) rfl rfl) ?_
    refine xg_t (xg_imul (u := 2) (v := u45) (z := 2 * u45) xnm0 xnm0 (by omega)) ?_
    refine xg_t (xg_iadd (u := 60) (v := 2 * u45) (z := 60 + (2 * u45)) xnm0 xnm0 (by omega)) ?_
    refine xg_t (xg_iload (va := (0, 1)) rfl rfl) ?_
    refine xg_t (xg_iadd (u := 60 + (2 * u45)) (v := 1) (z := (60 + (2 * u45)) + 1) xnm0 xnm0 (by omega)) ?_
    refine xg_t (xg_aload (va := (2, 82)) rfl rfl) ?_
    refine xg_t (xg_const) ?_
    refine xg_t (xg_sip) ?_
    refine xg_cVi mX12_numbered (vs := [(0, 1), (0, 9999)]) (rest := [(0, (60 + (2 * u45)) + 1), (0, u45), (0, 2), (2, 82)]) (cn1 := 0) (sl1 := 0) rfl (mNumbered (hI448) (by omega) (by omega) pk453.2.2.2) rfl (hF449.get (by decide) h82_444) rfl rfl rfl rfl rfl rfl (fun n462 w458 hq459 => ?_)
    obtain ⟨hn463, hI460, hF461⟩ := hq459
    clear hb415 hb417 hb419 hb421 hb423 hb425 hb427 hb429 hb431 hb433 hb437 hb439 hb441 hb443
    obtain ⟨hn464, hn465, hn466⟩ := hn463
    have pk467 : PK w w458 := PK.tr pk453 hn465
    have os468 : ∀ j, (j < 60 + 2 * u45 ∨ 62 + 2 * u45 ≤ j) → j < 140 → rwv w458 86 j = rwv w 86 j := fun j hj hl => (rwv_fr hF461 (by decide)).trans (os454 j hj hl)
    have ix469 : u45 < 6 → rwv w458 86 ((60 + (2 * u45)) + 0) = n405 := fun h => (rwv_fr hF461 (by decide)).trans (hp451 h)
    have rg470 : FA w458 ≠ 0 ∨ (1 ≤ n405 ∧ n405 ≤ 9999) := rg455.imp_left hn465.1
    have mf471 : ∀ s, s < 7 → rwv w458 85 s = rwv w 85 s := fun s hs => (rwv_fr hF461 (by decide)).trans (mf456 s hs)
    have ms472 : mu w458 < mu w := Nat.lt_of_le_of_lt hn465.2.1 ms457
    clear hp451 rg455
    obtain ⟨f82_473, f82_475, f82_477, f82_479, f82_481, f82_483, f82_485, f82_487, f82_489, f82_491, f82_493, f82_494, f82_495, f82_497, f82_499, f82_501, h82_503, hb474, hb476, hb478, hb480, hb482, hb484, hb486, hb488, hb490, hb492, hb496, hb498, hb500, hb502, hb504⟩ := (hI460 82 (by decide) (by decide) : cp82 (wget w458 82))
    refine xg_cVv mX12_puts (vs := [(0, 2), (0, u45), (0, (60 + (2 * u45)) + 1), (0, n462)]) (rest := []) (cn1 := 0) (sl1 := 0) rfl (mPuts2 (hI460) (by omega) (by omega) (by omega) (fun _ => by omega)) rfl h82_503 rfl rfl rfl rfl rfl rfl (fun w505 hq506 => ?_)
    obtain ⟨hI507, hF508, hx509⟩ := hq506
    obtain ⟨hp510, hp511⟩ := hx509
    have pk512 : PK w w505 := PK.tr pk467 (PK.fr hF508 (by decide) (by decide) pk467.2.2.2)
    have os513 : ∀ j, (j < 60 + 2 * u45 ∨ 62 + 2 * u45 ≤ j) → j < 140 → rwv w505 86 j = rwv w 86 j := fun j hj hl => (hp511 j (by omega) hl).trans (os468 j hj hl)
    have ix514 : u45 < 6 → rwv w505 86 ((60 + (2 * u45)) + 0) = n405 := fun h => (hp511 _ (by omega) (by omega)).trans (ix469 h)
    have rg515 : FA w505 ≠ 0 ∨ (1 ≤ n405 ∧ n405 ≤ 9999) := rg470.imp_left (PK.fr hF508 (by decide) (by decide) pk467.2.2.2).1
    have rg516 : FA w505 ≠ 0 ∨ (1 ≤ n462 ∧ n462 ≤ 9999) := hn466.imp_left (PK.fr hF508 (by decide) (by decide) pk467.2.2.2).1
    have mf517 : ∀ s, s < 7 → rwv w505 85 s = rwv w 85 s := fun s hs => (rwv_fr hF508 (by decide)).trans (mf471 s hs)
    have ms518 : mu w505 < mu w := Nat.lt_of_le_of_lt (PK.fr hF508 (by decide) (by decide) pk467.2.2.2).2.1 ms472
    clear ix469 rg470 hn466
    refine xg_t (xg_iinc (u := 1) (z := 2) (l1 := [(3, (0, u45)), (2, (0, at_)), (1, (0, 2)), (0, (2, 82))]) rfl rfl (by decide) rfl) ?_
    refine xg_t (xg_goto) ?_
    refine xg_t (xg_blk (b := [(183, 2, 2, 4, 0, 0), (185, 1, 3, 2, 0, 0), (186, 3, 6, 218, 3, 0), (189, 1, 0, 0, 0, 0), (190, 1, 2, 1, 0, 0), (191, 1, 2, 3, 0, 0), (192, 2, 4, 60, 0, 0), (194, 1, 3, 2, 0, 0), (195, 1, 2, 3, 0, 0), (196, 1, 16, 0, 0, 0), (197, 1, 11, 0, 0, 0), (198, 2, 2, 4, 0, 0), (200, 1, 11, 0, 0, 0), (201, 1, 0, 0, 0, 0), (202, 1, 3, 1, 0, 0), (203, 3, 5, 9999, 0, 0), (206, 3, 13, 199, 96, 196), (209, 3, 13, 211, 96, 200), (212, 3, 9, 4, 1, 0), (215, 3, 8, 183, 0, 0)]) rfl) ?_
    refine xg_t (xg_iload (va := (0, 2)) rfl rfl) ?_
    refine xg_t (xg_const) ?_
    refine xg_t (xg_icT (u := 2) (v := 2) rfl xnm0 xnm0 (by decide)) ?_
    refine xg_t (xg_blk (b := [(218, 3, 8, 394, 0, 0)]) rfl) ?_
    refine xg_t (xg_goto) ?_
    refine xg_t (xg_drop (l1 := [(0, (2, 82)), (1, (0, 2)), (3, (0, u45))]) (List.forall_mem_cons.mpr ⟨List.mem_cons_of_mem _ (List.mem_cons_of_mem _ (List.mem_cons_of_mem _ (List.mem_cons_of_mem _ (List.mem_cons_self)))), List.forall_mem_cons.mpr ⟨List.mem_cons_of_mem _ (List.mem_cons_of_mem _ (List.mem_cons_of_mem _ (List.mem_cons_self))), List.forall_mem_cons.mpr ⟨List.mem_cons_of_mem _ (List.mem_cons_self), fun _ h => absurd h List.not_mem_nil⟩⟩⟩)) ?_
    have hX519 : FA w505 ≠ 0 ∨ u45 < 6 := Or.inr (by omega)
    exact jn68 w505 (hI507) ((((((hF55.up (by decide)).tr (hF404.up (by decide))).tr (hF449.up (by decide))).tr (hF461.up (by decide))).tr (hF508.up (by decide)))) (⟨pk512, os513, ms518, mf517, hX519⟩)
  · refine xg_t (xg_icF (u := u45) (v := 6) rfl xnm0 xnm0 (xj_ltF (by omega) (by omega))) ?_
    refine xg_t (xg_aload (va := (2, 82)) rfl rfl) ?_
    refine xg_t (xg_const) ?_
    refine xg_t (xg_iload (va := (0, at_)) rfl rfl) ?_
    refine xg_cVv mX12_also (vs := [(0, 3), (0, at_)]) (rest := []) (cn1 := 0) (sl1 := 0) rfl (mAlso (hI) (by omega) (by omega) (by omega) (PK.rf hps).2.2.2) rfl h82_31 rfl rfl rfl rfl rfl rfl (fun w520 hq521 => ?_)
    obtain ⟨hI522, hF523, hx524⟩ := hq521
    have pk525 : PK w w520 := ⟨fun _ => hx524, Nat.le_of_eq (mu_fr hF523 (by decide)), fld_fr hF523 (by decide), Or.inr hx524⟩
    have pk526 : PK w w520 := PK.tr (PK.rf hps) pk525
    have os527 : ∀ j, (j < 60 + 2 * u45 ∨ 62 + 2 * u45 ≤ j) → j < 140 → rwv w520 86 j = rwv w 86 j := fun j hj hl => (rwv_fr hF523 (by decide)).trans ((fun j _ _ => rfl) j hj hl)
    have mf528 : ∀ s, s < 7 → rwv w520 85 s = rwv w 85 s := fun s hs => (rwv_fr hF523 (by decide)).trans ((fun _ _ => rfl) s hs)
    have hf529 := fld_fr (c := 82) (j := 7) hF523 (by decide)
    refine xg_t (xg_blk (b := [(64, 1, 0, 0, 0, 0), (65, 3, 13, 110, 96, 190), (68, 1, 2, 1, 0, 0), (69, 39, 33, 362, 0, 9)]) rfl) ?_
    refine xg_t (xg_aload (va := (2, 82)) rfl rfl) ?_
    refine xg_cVv mX12_advance (vs := []) (rest := []) (cn1 := 0) (sl1 := 0) rfl (mAdvance (hI522)) rfl (hF523.get (by decide) h82_31) rfl rfl rfl rfl rfl rfl (fun w530 hq531 => ?_)
    obtain ⟨hI532, hF533, hx534⟩ := hq531
    clear hb2 hb4 hb6 hb8 hb10 hb12 hb14 hb16 hb18 hb20 hb24 hb26 hb28 hb30
    obtain ⟨hv535, hv536, hv537, hv538⟩ := hx534
    have hf540 := FA_fr hF533 (by decide)
    have hs541 := pk526.2.2.2
    unfold PS at hs541
    have pk539 : PK w520 w530 := ⟨fun _ => by omega, hv535, hv538, (show fld w530 82 10 = 0 ∨ FA w530 ≠ 0 by omega)⟩
    clear hs541
    have pk542 : PK w w530 := PK.tr pk526 pk539
    have os543 : ∀ j, (j < 60 + 2 * u45 ∨ 62 + 2 * u45 ≤ j) → j < 140 → rwv w530 86 j = rwv w 86 j := fun j hj hl => (rwv_fr hF533 (by decide)).trans (os527 j hj hl)
    have rg544 : FA w530 ≠ 0 ∨ 0 = 1 := (Or.inl hx524 : FA w520 ≠ 0 ∨ 0 = 1).imp_left pk539.1
    have mf545 : ∀ s, s < 7 → rwv w530 85 s = rwv w 85 s := fun s hs => (rwv_fr hF533 (by decide)).trans (mf528 s hs)
    have ms546 : mu w530 < mu w := Nat.lt_of_lt_of_le (hv536 (by omega)) pk526.2.1
    clear hv536
    have jn547 : ∀ (w548 : List (List xE)), xMnv w548 → xFr [82, 83, 85, 86, 87] w w548 → (PK w w548 ∧ (∀ j, (j < 60 + 2 * u45 ∨ 62 + 2 * u45 ≤ j) → j < 140 → rwv w548 86 j = rwv w 86 j) ∧ mu w548 < mu w ∧ (∀ s, s < 7 → rwv w548 85 s = rwv w 85 s) ∧ (FA w548 ≠ 0 ∨ u45 < 6)) → xTo (d + 7) mX12_aLine (394, [], [(0, (2, 82)), (1, (0, 2)), (3, (0, u45))], [], (w548, bd, fc, 0, 0, rr)) (fun φ => ∃ w', xEnd 0 [] (w', bd, fc, 0, 0, rr) φ ∧ xMnv w' ∧ xFr [82, 83, 85, 86, 87] w w' ∧ ((FA w ≠ 0 → FA w' ≠ 0) ∧ PS w' ∧ ((fld w' 82 10 = 1 ∧ mu w' = mu w ∧ fld w' 82 14 = fld w 82 14 ∧ ∀ s, s < 7 → rwv w' 85 s = rwv w 85 s) ∨ (mu w' < mu w ∧ fld w' 82 14 = fld w 82 14 + 1 ∧ ∀ s, s < 7 → rwv w' 85 s ≤ rwv w 85 s + 1)) ∧ (FA w' ≠ 0 ∨ (DATA w → DATA w')))) := by
      intro w548 hI549 hF550 he551
      obtain ⟨hj552, hj553, hj554, hj555, hj556⟩ := he551
      refine xg_t (xg_blk (b := [(394, 1, 0, 0, 0, 0), (395, 3, 1, 12, 10, 180), (398, 3, 7, 416, 1, 0), (401, 1, 0, 0, 0, 0), (402, 3, 1, 12, 7, 151), (405, 1, 3, 2, 0, 0), (406, 3, 6, 416, 1, 0), (409, 1, 0, 0, 0, 0), (410, 3, 13, 110, 96, 190), (413, 3, 8, 420, 0, 0)]) rfl) ?_
      refine xg_t (xg_aload (va := (2, 82)) rfl rfl) ?_
      obtain ⟨f82_557, f82_559, f82_561, f82_563, f82_565, f82_567, f82_569, f82_571, f82_573, f82_575, f82_577, f82_578, f82_579, f82_581, f82_583, f82_585, h82_587, hb558, hb560, hb562, hb564, hb566, hb568, hb570, hb572, hb574, hb576, hb580, hb582, hb584, hb586, hb588⟩ := (hI549 82 (by decide) (by decide) : cp82 (wget w548 82))
      refine xg_t (xg_getf (va := (0, f82_573)) h82_587 rfl) ?_
      by_cases hc589 : f82_573 = 0
      · refine xg_t (xg_ifF (u := f82_573) rfl xnm0 (xj_neF hc589)) ?_
        refine xg_t (xg_aload (va := (2, 82)) rfl rfl) ?_
        refine xg_t (xg_getf (va := (0, f82_567)) h82_587 rfl) ?_
        refine xg_t (xg_const) ?_
        by_cases hc590 : f82_567 = 2
        · refine xg_t (xg_icF (u := f82_567) (v := 2) rfl xnm0 xnm0 (xj_neF hc590)) ?_
          refine xg_t (xg_aload (va := (2, 82)) rfl rfl) ?_
          refine xg_cVv mX12_advance (vs := []) (rest := []) (cn1 := 0) (sl1 := 0) rfl (mAdvance (hI549)) rfl h82_587 rfl rfl rfl rfl rfl rfl (fun w591 hq592 => ?_)
          obtain ⟨hI593, hF594, hx595⟩ := hq592
          clear hb558 hb560 hb562 hb564 hb566 hb568 hb570 hb572 hb574 hb576 hb580 hb582 hb584 hb586
          obtain ⟨hv596, hv597, hv598, hv599⟩ := hx595
          have hf601 := FA_fr hF594 (by decide)
          have hs602 := hj552.2.2.2
          unfold PS at hs602
          have pk600 : PK w548 w591 := ⟨fun _ => by omega, hv596, hv599, (show fld w591 82 10 = 0 ∨ FA w591 ≠ 0 by omega)⟩
          clear hs602
          clear hv597
          have pk603 : PK w w591 := PK.tr hj552 pk600
          have os604 : ∀ j, (j < 60 + 2 * u45 ∨ 62 + 2 * u45 ≤ j) → j < 140 → rwv w591 86 j = rwv w 86 j := fun j hj hl => (rwv_fr hF594 (by decide)).trans (hj553 j hj hl)
          have rg605 : FA w591 ≠ 0 ∨ u45 < 6 := hj556.imp_left pk600.1
          have mf606 : ∀ s, s < 7 → rwv w591 85 s = rwv w 85 s := fun s hs => (rwv_fr hF594 (by decide)).trans (hj555 s hs)
          have ms607 : mu w591 < mu w := Nat.lt_of_le_of_lt pk600.2.1 hj554
          clear hj556
          refine xg_t (xg_goto) ?_
          refine xg_t (xg_blk (b := [(420, 1, 0, 0, 0, 0), (421, 3, 1, 12, 11, 17), (424, 1, 2, 1, 0, 0), (425, 1, 39, 0, 0, 0), (426, 1, 10, 0, 0, 0), (427, 1, 3, 1, 0, 0), (428, 1, 11, 0, 0, 0), (429, 1, 17, 0, 0, 0), (430, 1, 0, 0, 0, 0), (431, 1, 19, 0, 0, 0), (432, 3, 1, 12, 14, 212), (435, 1, 3, 1, 0, 0), (436, 1, 11, 0, 0, 0), (437, 3, 14, 12, 14, 212), (440, 1, 12, 0, 0, 0)]) rfl) ?_
          obtain ⟨f82_608, f82_610, f82_612, f82_614, f82_616, f82_618, f82_620, f82_622, f82_624, f82_626, f82_628, f82_629, f82_630, f82_632, f82_634, f82_636, h82_638, hb609, hb611, hb613, hb615, hb617, hb619, hb621, hb623, hb625, hb627, hb631, hb633, hb635, hb637, hb639⟩ := (hI593 82 (by decide) (by decide) : cp82 (wget w591 82))
          have hf640 : fld w591 82 4 = f82_612 := fld_of h82_638
          have hf641 : fld w591 82 5 = f82_614 := fld_of h82_638
          have hf642 : fld w591 82 7 = f82_618 := fld_of h82_638
          have hf643 : fld w591 82 10 = f82_624 := fld_of h82_638
          have hf644 : fld w591 82 14 = f82_626 := fld_of h82_638
          have hu645 : mu w591 = 2 * (fld w591 82 4 - fld w591 82 5) + min 1 (fld w591 82 7) := rfl
          have hf646 := pk603.2.2.1
          have hl647 : f82_626 ≤ 1000 := by omega
          refine xg_t (xg_aload (va := (2, 82)) rfl rfl) ?_
          refine xg_t (xg_getf (va := (2, 85)) h82_638 rfl) ?_
          refine xg_t (xg_iload (va := (0, 2)) rfl rfl) ?_
          refine xg_t (xg_dup2 rfl) ?_
          obtain ⟨g85_648, h85_649, hb650⟩ := (hI593 85 (by decide) (by decide) : cpI 7 52 4294967295 (wget w591 85))
          have h85_649 : xRow w591 85 7 52 g85_648 := h85_649
          refine xg_ialdB (n := 2) (B := 4294967295) h85_649 (hb650) xnm0 (by omega) (fun u651 hu652 he653 => ?_)
          have hl654 : u651 = u45 := by have q1 := rwv_of h85_649 (show 2 < 7 by decide); have q2 := mf606 2 (by decide); omega
          refine xg_t (xg_const) ?_
          refine xg_t (xg_iadd (u := u651) (v := 1) (z := u651 + 1) xnm0 xnm0 (by omega)) ?_
          refine xg_iastK (n := 2) (u := u651 + 1) h85_649 xnm0 xnm0 rfl (by omega) (fun w655 hr656 hb657 => ?_)
          refine xg_t (xg_aload (va := (2, 82)) rfl rfl) ?_
          refine xg_t (xg_dup rfl) ?_
          refine xg_t (xg_getf (va := (0, f82_626)) (hb657.get (by decide) h82_638) rfl) ?_
          refine xg_t (xg_const) ?_
          refine xg_t (xg_iadd (u := f82_626) (v := 1) (z := f82_626 + 1) xnm0 xnm0 (by omega)) ?_
          refine xg_putI (fl1 := [(2, 83), (2, 84), (0, f82_608), (0, f82_610), (0, f82_612), (0, f82_614), (0, f82_616), (0, f82_618), (0, f82_620), (0, f82_622), (0, f82_624), (2, 85), (2, 86), (2, 87), (0, f82_626 + 1), (2, 88), (2, 89), (2, 90), (2, 91), (2, 92), (2, 93), (2, 94), (4, f82_628), (4, f82_629), (0, f82_630), (2, 95), (2, 96), (2, 97), (2, 98), (2, 99), (2, 100), (2, 101), (2, 102), (0, f82_632), (2, 103), (2, 104), (2, 105), (2, 106), (2, 107), (2, 108), (2, 109), (0, f82_634), (0, f82_636), (2, 110), (2, 111), (2, 112), (2, 113)]) (hb657.get (by decide) h82_638) rfl rfl rfl (fun w658 hk659 hb660 => ?_)
          have hF661 : xFr [82, 85] w591 w658 := ((xFr.of (S := [82, 85]) hb657 (by decide)).tr (xFr.of (S := [82, 85]) hb660 (by decide)))
          have hA662 := FA_fr hF661 (by decide)
          have hf663 : fld w658 82 4 = f82_612 := fld_of hk659
          have hf664 : fld w658 82 5 = f82_614 := fld_of hk659
          have hf665 : fld w658 82 7 = f82_618 := fld_of hk659
          have hf666 : fld w658 82 10 = f82_624 := fld_of hk659
          have hf667 : fld w658 82 14 = f82_626 + 1 := fld_of hk659
          have hu668 : mu w658 = 2 * (fld w658 82 4 - fld w658 82 5) + min 1 (fld w658 82 7) := rfl
          have pq669 := pk603
          unfold PK PS at pq669
          have hM670 : ∀ s, s < 7 → s ≠ 2 → rwv w658 85 s = rwv w 85 s := fun s hs hn => (rwv_of (hr656.but hb660 (by decide)) hs).trans ((if_neg hn).trans ((rwv_of h85_649 hs).symm.trans (mf606 s hs)))
          have hM671 : rwv w658 85 2 = u45 + 1 := (rwv_of (hr656.but hb660 (by decide)) (by decide)).trans ((if_pos rfl).trans (by omega))
          have hM672 : ∀ s, s < 7 → rwv w658 85 s ≤ rwv w 85 s + 1 := fun s hs => by
            by_cases z : s = 2
            · subst z; omega
            · rw [hM670 s hs z]; omega
          have hO673 : ∀ j, (j < 60 + 2 * u45 ∨ 62 + 2 * u45 ≤ j) → j < 140 → rwv w658 86 j = rwv w 86 j := fun j hj hl => (rwv_fr hF661 (by decide)).trans (os604 j hj hl)
          have hl675 : FA w591 ≠ 0 ∨ u45 < 6 := rg605
          have hN674 : FA w658 ≠ 0 ∨ 6 ≤ u45 ∨ True := Or.inr (Or.inr trivial)
          have hX676 : FA w658 ≠ 0 ∨ u45 < 6 := by omega
          have hD677 : FA w658 ≠ 0 ∨ (DATA w → DATA w658) := by
            by_cases z : FA w658 ≠ 0
            · exact Or.inl z
            · exact Or.inr (fun hd => hd.s2 hM670 hK48 hM671 (hX676.resolve_left z) hO673 ((hN674.resolve_left z).resolve_left (by have := hX676.resolve_left z; omega)))
          exact xg_e ⟨w658, ⟨rfl, rfl⟩, xMnv.up (S := [85, 82]) hI593 ((xFr.of (S := [85, 82]) hb657 (by decide)).tr (xFr.of (S := [85, 82]) hb660 (by decide))) (List.forall_mem_cons.mpr ⟨(show cpI 7 52 4294967295 (wget w658 85) from ⟨_, (hr656.but hb660 (by decide)), xrb (by omega) (hb650)⟩), List.forall_mem_cons.mpr ⟨(show cp82 (wget w658 82) from ⟨f82_608, f82_610, f82_612, f82_614, f82_616, f82_618, f82_620, f82_622, f82_624, f82_626 + 1, f82_628, f82_629, f82_630, f82_632, f82_634, f82_636, hk659, hb609, hb611, hb613, hb615, hb617, hb619, hb621, hb623, hb625, by omega, hb631, hb633, hb635, hb637, by omega⟩), fun _ h => absurd h List.not_mem_nil⟩⟩), ((hF550.tr (hF594.up (by decide))).tr ((xFr.of (S := [82, 83, 85, 86, 87]) hb657 (by decide)).tr (xFr.of (S := [82, 83, 85, 86, 87]) hb660 (by decide)))), ⟨fun h => by have := pq669.1 h; omega, (show fld w658 82 10 = 0 ∨ FA w658 ≠ 0 by omega), Or.inr ⟨by have := ms607; omega, by omega, hM672⟩, hD677⟩⟩
        · refine xg_t (xg_icT (u := f82_567) (v := 2) rfl xnm0 xnm0 (xj_neT hc590)) ?_
          refine xg_t (xg_blk (b := [(416, 1, 0, 0, 0, 0), (417, 3, 13, 140, 96, 183)]) rfl) ?_
          refine xg_t (xg_aload (va := (2, 82)) rfl rfl) ?_
          refine xg_cVv mX12_ends (vs := []) (rest := []) (cn1 := 0) (sl1 := 0) rfl (mEnds (hI549) hj552.2.2.2) rfl h82_587 rfl rfl rfl rfl rfl rfl (fun w678 hq679 => ?_)
          obtain ⟨hI680, hF681, hx682⟩ := hq679
          clear hb558 hb560 hb562 hb564 hb566 hb568 hb570 hb572 hb574 hb576 hb580 hb582 hb584 hb586
          obtain ⟨hv683, hv684, hv685, hv686⟩ := hx682
          have pk687 : PK w548 w678 := ⟨fun _ => hv683, by omega, by omega, Or.inr hv683⟩
          have pk688 : PK w w678 := PK.tr hj552 pk687
          have os689 : ∀ j, (j < 60 + 2 * u45 ∨ 62 + 2 * u45 ≤ j) → j < 140 → rwv w678 86 j = rwv w 86 j := fun j hj hl => (rwv_fr hF681 (by decide)).trans (hj553 j hj hl)
          have rg690 : FA w678 ≠ 0 ∨ u45 < 6 := hj556.imp_left pk687.1
          have mf691 : ∀ s, s < 7 → rwv w678 85 s = rwv w 85 s := fun s hs => (rwv_fr hF681 (by decide)).trans (hj555 s hs)
          have ms692 : mu w678 < mu w := Nat.lt_of_le_of_lt pk687.2.1 hj554
          clear hj556
          refine xg_t (xg_blk (b := [(420, 1, 0, 0, 0, 0), (421, 3, 1, 12, 11, 17), (424, 1, 2, 1, 0, 0), (425, 1, 39, 0, 0, 0), (426, 1, 10, 0, 0, 0), (427, 1, 3, 1, 0, 0), (428, 1, 11, 0, 0, 0), (429, 1, 17, 0, 0, 0), (430, 1, 0, 0, 0, 0), (431, 1, 19, 0, 0, 0), (432, 3, 1, 12, 14, 212), (435, 1, 3, 1, 0, 0), (436, 1, 11, 0, 0, 0), (437, 3, 14, 12, 14, 212), (440, 1, 12, 0, 0, 0)]) rfl) ?_
          obtain ⟨f82_693, f82_695, f82_697, f82_699, f82_701, f82_703, f82_705, f82_707, f82_709, f82_711, f82_713, f82_714, f82_715, f82_717, f82_719, f82_721, h82_723, hb694, hb696, hb698, hb700, hb702, hb704, hb706, hb708, hb710, hb712, hb716, hb718, hb720, hb722, hb724⟩ := (hI680 82 (by decide) (by decide) : cp82 (wget w678 82))
          have hf725 : fld w678 82 4 = f82_697 := fld_of h82_723
          have hf726 : fld w678 82 5 = f82_699 := fld_of h82_723
          have hf727 : fld w678 82 7 = f82_703 := fld_of h82_723
          have hf728 : fld w678 82 10 = f82_709 := fld_of h82_723
          have hf729 : fld w678 82 14 = f82_711 := fld_of h82_723
          have hu730 : mu w678 = 2 * (fld w678 82 4 - fld w678 82 5) + min 1 (fld w678 82 7) := rfl
          have hf731 := pk688.2.2.1
          have hl732 : f82_711 ≤ 1000 := by omega
          refine xg_t (xg_aload (va := (2, 82)) rfl rfl) ?_
          refine xg_t (xg_getf (va := (2, 85)) h82_723 rfl) ?_
          refine xg_t (xg_iload (va := (0, 2)) rfl rfl) ?_
          refine xg_t (xg_dup2 rfl) ?_
          obtain ⟨g85_733, h85_734, hb735⟩ := (hI680 85 (by decide) (by decide) : cpI 7 52 4294967295 (wget w678 85))
          have h85_734 : xRow w678 85 7 52 g85_733 := h85_734
          refine xg_ialdB (n := 2) (B := 4294967295) h85_734 (hb735) xnm0 (by omega) (fun u736 hu737 he738 => ?_)
          have hl739 : u736 = u45 := by have q1 := rwv_of h85_734 (show 2 < 7 by decide); have q2 := mf691 2 (by decide); omega
          refine xg_t (xg_const) ?_
          refine xg_t (xg_iadd (u := u736) (v := 1) (z := u736 + 1) xnm0 xnm0 (by omega)) ?_
          refine xg_iastK (n := 2) (u := u736 + 1) h85_734 xnm0 xnm0 rfl (by omega) (fun w740 hr741 hb742 => ?_)
          refine xg_t (xg_aload (va := (2, 82)) rfl rfl) ?_
          refine xg_t (xg_dup rfl) ?_
          refine xg_t (xg_getf (va := (0, f82_711)) (hb742.get (by decide) h82_723) rfl) ?_
          refine xg_t (xg_const) ?_
          refine xg_t (xg_iadd (u := f82_711) (v := 1) (z := f82_711 + 1) xnm0 xnm0 (by omega)) ?_
          refine xg_putI (fl1 := [(2, 83), (2, 84), (0, f82_693), (0, f82_695), (0, f82_697), (0, f82_699), (0, f82_701), (0, f82_703), (0, f82_705), (0, f82_707), (0, f82_709), (2, 85), (2, 86), (2, 87), (0, f82_711 + 1), (2, 88), (2, 89), (2, 90), (2, 91), (2, 92), (2, 93), (2, 94), (4, f82_713), (4, f82_714), (0, f82_715), (2, 95), (2, 96), (2, 97), (2, 98), (2, 99), (2, 100), (2, 101), (2, 102), (0, f82_717), (2, 103), (2, 104), (2, 105), (2, 106), (2, 107), (2, 108), (2, 109), (0, f82_719), (0, f82_721), (2, 110), (2, 111), (2, 112), (2, 113)]) (hb742.get (by decide) h82_723) rfl rfl rfl (fun w743 hk744 hb745 => ?_)
          have hF746 : xFr [82, 85] w678 w743 := ((xFr.of (S := [82, 85]) hb742 (by decide)).tr (xFr.of (S := [82, 85]) hb745 (by decide)))
          have hA747 := FA_fr hF746 (by decide)
          have hf748 : fld w743 82 4 = f82_697 := fld_of hk744
          have hf749 : fld w743 82 5 = f82_699 := fld_of hk744
          have hf750 : fld w743 82 7 = f82_703 := fld_of hk744
          have hf751 : fld w743 82 10 = f82_709 := fld_of hk744
          have hf752 : fld w743 82 14 = f82_711 + 1 := fld_of hk744
          have hu753 : mu w743 = 2 * (fld w743 82 4 - fld w743 82 5) + min 1 (fld w743 82 7) := rfl
          have pq754 := pk688
          unfold PK PS at pq754
          have hM755 : ∀ s, s < 7 → s ≠ 2 → rwv w743 85 s = rwv w 85 s := fun s hs hn => (rwv_of (hr741.but hb745 (by decide)) hs).trans ((if_neg hn).trans ((rwv_of h85_734 hs).symm.trans (mf691 s hs)))
          have hM756 : rwv w743 85 2 = u45 + 1 := (rwv_of (hr741.but hb745 (by decide)) (by decide)).trans ((if_pos rfl).trans (by omega))
          have hM757 : ∀ s, s < 7 → rwv w743 85 s ≤ rwv w 85 s + 1 := fun s hs => by
            by_cases z : s = 2
            · subst z; omega
            · rw [hM755 s hs z]; omega
          have hO758 : ∀ j, (j < 60 + 2 * u45 ∨ 62 + 2 * u45 ≤ j) → j < 140 → rwv w743 86 j = rwv w 86 j := fun j hj hl => (rwv_fr hF746 (by decide)).trans (os689 j hj hl)
          have hl760 : FA w678 ≠ 0 ∨ u45 < 6 := rg690
          have hN759 : FA w743 ≠ 0 ∨ 6 ≤ u45 ∨ True := Or.inr (Or.inr trivial)
          have hX761 : FA w743 ≠ 0 ∨ u45 < 6 := by omega
          have hD762 : FA w743 ≠ 0 ∨ (DATA w → DATA w743) := by
            by_cases z : FA w743 ≠ 0
            · exact Or.inl z
            · exact Or.inr (fun hd => hd.s2 hM755 hK48 hM756 (hX761.resolve_left z) hO758 ((hN759.resolve_left z).resolve_left (by have := hX761.resolve_left z; omega)))
          exact xg_e ⟨w743, ⟨rfl, rfl⟩, xMnv.up (S := [85, 82]) hI680 ((xFr.of (S := [85, 82]) hb742 (by decide)).tr (xFr.of (S := [85, 82]) hb745 (by decide))) (List.forall_mem_cons.mpr ⟨(show cpI 7 52 4294967295 (wget w743 85) from ⟨_, (hr741.but hb745 (by decide)), xrb (by omega) (hb735)⟩), List.forall_mem_cons.mpr ⟨(show cp82 (wget w743 82) from ⟨f82_693, f82_695, f82_697, f82_699, f82_701, f82_703, f82_705, f82_707, f82_709, f82_711 + 1, f82_713, f82_714, f82_715, f82_717, f82_719, f82_721, hk744, hb694, hb696, hb698, hb700, hb702, hb704, hb706, hb708, hb710, by omega, hb716, hb718, hb720, hb722, by omega⟩), fun _ h => absurd h List.not_mem_nil⟩⟩), ((hF550.tr (hF681.up (by decide))).tr ((xFr.of (S := [82, 83, 85, 86, 87]) hb742 (by decide)).tr (xFr.of (S := [82, 83, 85, 86, 87]) hb745 (by decide)))), ⟨fun h => by have := pq754.1 h; omega, (show fld w743 82 10 = 0 ∨ FA w743 ≠ 0 by omega), Or.inr ⟨by have := ms692; omega, by omega, hM757⟩, hD762⟩⟩
      · refine xg_t (xg_ifT (u := f82_573) rfl xnm0 (xj_neT hc589)) ?_
        refine xg_t (xg_blk (b := [(416, 1, 0, 0, 0, 0), (417, 3, 13, 140, 96, 183)]) rfl) ?_
        refine xg_t (xg_aload (va := (2, 82)) rfl rfl) ?_
        refine xg_cVv mX12_ends (vs := []) (rest := []) (cn1 := 0) (sl1 := 0) rfl (mEnds (hI549) hj552.2.2.2) rfl h82_587 rfl rfl rfl rfl rfl rfl (fun w763 hq764 => ?_)
        obtain ⟨hI765, hF766, hx767⟩ := hq764
        clear hb558 hb560 hb562 hb564 hb566 hb568 hb570 hb572 hb574 hb576 hb580 hb582 hb584 hb586
        obtain ⟨hv768, hv769, hv770, hv771⟩ := hx767
        have pk772 : PK w548 w763 := ⟨fun _ => hv768, by omega, by omega, Or.inr hv768⟩
        have pk773 : PK w w763 := PK.tr hj552 pk772
        have os774 : ∀ j, (j < 60 + 2 * u45 ∨ 62 + 2 * u45 ≤ j) → j < 140 → rwv w763 86 j = rwv w 86 j := fun j hj hl => (rwv_fr hF766 (by decide)).trans (hj553 j hj hl)
        have rg775 : FA w763 ≠ 0 ∨ u45 < 6 := hj556.imp_left pk772.1
        have mf776 : ∀ s, s < 7 → rwv w763 85 s = rwv w 85 s := fun s hs => (rwv_fr hF766 (by decide)).trans (hj555 s hs)
        have ms777 : mu w763 < mu w := Nat.lt_of_le_of_lt pk772.2.1 hj554
        clear hj556
        refine xg_t (xg_blk (b := [(420, 1, 0, 0, 0, 0), (421, 3, 1, 12, 11, 17), (424, 1, 2, 1, 0, 0), (425, 1, 39, 0, 0, 0), (426, 1, 10, 0, 0, 0), (427, 1, 3, 1, 0, 0), (428, 1, 11, 0, 0, 0), (429, 1, 17, 0, 0, 0), (430, 1, 0, 0, 0, 0), (431, 1, 19, 0, 0, 0), (432, 3, 1, 12, 14, 212), (435, 1, 3, 1, 0, 0), (436, 1, 11, 0, 0, 0), (437, 3, 14, 12, 14, 212), (440, 1, 12, 0, 0, 0)]) rfl) ?_
        obtain ⟨f82_778, f82_780, f82_782, f82_784, f82_786, f82_788, f82_790, f82_792, f82_794, f82_796, f82_798, f82_799, f82_800, f82_802, f82_804, f82_806, h82_808, hb779, hb781, hb783, hb785, hb787, hb789, hb791, hb793, hb795, hb797, hb801, hb803, hb805, hb807, hb809⟩ := (hI765 82 (by decide) (by decide) : cp82 (wget w763 82))
        have hf810 : fld w763 82 4 = f82_782 := fld_of h82_808
        have hf811 : fld w763 82 5 = f82_784 := fld_of h82_808
        have hf812 : fld w763 82 7 = f82_788 := fld_of h82_808
        have hf813 : fld w763 82 10 = f82_794 := fld_of h82_808
        have hf814 : fld w763 82 14 = f82_796 := fld_of h82_808
        have hu815 : mu w763 = 2 * (fld w763 82 4 - fld w763 82 5) + min 1 (fld w763 82 7) := rfl
        have hf816 := pk773.2.2.1
        have hl817 : f82_796 ≤ 1000 := by omega
        refine xg_t (xg_aload (va := (2, 82)) rfl rfl) ?_
        refine xg_t (xg_getf (va := (2, 85)) h82_808 rfl) ?_
        refine xg_t (xg_iload (va := (0, 2)) rfl rfl) ?_
        refine xg_t (xg_dup2 rfl) ?_
        obtain ⟨g85_818, h85_819, hb820⟩ := (hI765 85 (by decide) (by decide) : cpI 7 52 4294967295 (wget w763 85))
        have h85_819 : xRow w763 85 7 52 g85_818 := h85_819
        refine xg_ialdB (n := 2) (B := 4294967295) h85_819 (hb820) xnm0 (by omega) (fun u821 hu822 he823 => ?_)
        have hl824 : u821 = u45 := by have q1 := rwv_of h85_819 (show 2 < 7 by decide); have q2 := mf776 2 (by decide); omega
        refine xg_t (xg_const) ?_
        refine xg_t (xg_iadd (u := u821) (v := 1) (z := u821 + 1) xnm0 xnm0 (by omega)) ?_
        refine xg_iastK (n := 2) (u := u821 + 1) h85_819 xnm0 xnm0 rfl (by omega) (fun w825 hr826 hb827 => ?_)
        refine xg_t (xg_aload (va := (2, 82)) rfl rfl) ?_
        refine xg_t (xg_dup rfl) ?_
        refine xg_t (xg_getf (va := (0, f82_796)) (hb827.get (by decide) h82_808) rfl) ?_
        refine xg_t (xg_const) ?_
        refine xg_t (xg_iadd (u := f82_796) (v := 1) (z := f82_796 + 1) xnm0 xnm0 (by omega)) ?_
        refine xg_putI (fl1 := [(2, 83), (2, 84), (0, f82_778), (0, f82_780), (0, f82_782), (0, f82_784), (0, f82_786), (0, f82_788), (0, f82_790), (0, f82_792), (0, f82_794), (2, 85), (2, 86), (2, 87), (0, f82_796 + 1), (2, 88), (2, 89), (2, 90), (2, 91), (2, 92), (2, 93), (2, 94), (4, f82_798), (4, f82_799), (0, f82_800), (2, 95), (2, 96), (2, 97), (2, 98), (2, 99), (2, 100), (2, 101), (2, 102), (0, f82_802), (2, 103), (2, 104), (2, 105), (2, 106), (2, 107), (2, 108), (2, 109), (0, f82_804), (0, f82_806), (2, 110), (2, 111), (2, 112), (2, 113)]) (hb827.get (by decide) h82_808) rfl rfl rfl (fun w828 hk829 hb830 => ?_)
        have hF831 : xFr [82, 85] w763 w828 := ((xFr.of (S := [82, 85]) hb827 (by decide)).tr (xFr.of (S := [82, 85]) hb830 (by decide)))
        have hA832 := FA_fr hF831 (by decide)
        have hf833 : fld w828 82 4 = f82_782 := fld_of hk829
        have hf834 : fld w828 82 5 = f82_784 := fld_of hk829
        have hf835 : fld w828 82 7 = f82_788 := fld_of hk829
        have hf836 : fld w828 82 10 = f82_794 := fld_of hk829
        have hf837 : fld w828 82 14 = f82_796 + 1 := fld_of hk829
        have hu838 : mu w828 = 2 * (fld w828 82 4 - fld w828 82 5) + min 1 (fld w828 82 7) := rfl
        have pq839 := pk773
        unfold PK PS at pq839
        have hM840 : ∀ s, s < 7 → s ≠ 2 → rwv w828 85 s = rwv w 85 s := fun s hs hn => (rwv_of (hr826.but hb830 (by decide)) hs).trans ((if_neg hn).trans ((rwv_of h85_819 hs).symm.trans (mf776 s hs)))
        have hM841 : rwv w828 85 2 = u45 + 1 := (rwv_of (hr826.but hb830 (by decide)) (by decide)).trans ((if_pos rfl).trans (by omega))
        have hM842 : ∀ s, s < 7 → rwv w828 85 s ≤ rwv w 85 s + 1 := fun s hs => by
          by_cases z : s = 2
          · subst z; omega
          · rw [hM840 s hs z]; omega
        have hO843 : ∀ j, (j < 60 + 2 * u45 ∨ 62 + 2 * u45 ≤ j) → j < 140 → rwv w828 86 j = rwv w 86 j := fun j hj hl => (rwv_fr hF831 (by decide)).trans (os774 j hj hl)
        have hl845 : FA w763 ≠ 0 ∨ u45 < 6 := rg775
        have hN844 : FA w828 ≠ 0 ∨ 6 ≤ u45 ∨ True := Or.inr (Or.inr trivial)
        have hX846 : FA w828 ≠ 0 ∨ u45 < 6 := by omega
        have hD847 : FA w828 ≠ 0 ∨ (DATA w → DATA w828) := by
          by_cases z : FA w828 ≠ 0
          · exact Or.inl z
          · exact Or.inr (fun hd => hd.s2 hM840 hK48 hM841 (hX846.resolve_left z) hO843 ((hN844.resolve_left z).resolve_left (by have := hX846.resolve_left z; omega)))
        exact xg_e ⟨w828, ⟨rfl, rfl⟩, xMnv.up (S := [85, 82]) hI765 ((xFr.of (S := [85, 82]) hb827 (by decide)).tr (xFr.of (S := [85, 82]) hb830 (by decide))) (List.forall_mem_cons.mpr ⟨(show cpI 7 52 4294967295 (wget w828 85) from ⟨_, (hr826.but hb830 (by decide)), xrb (by omega) (hb820)⟩), List.forall_mem_cons.mpr ⟨(show cp82 (wget w828 82) from ⟨f82_778, f82_780, f82_782, f82_784, f82_786, f82_788, f82_790, f82_792, f82_794, f82_796 + 1, f82_798, f82_799, f82_800, f82_802, f82_804, f82_806, hk829, hb779, hb781, hb783, hb785, hb787, hb789, hb791, hb793, hb795, by omega, hb801, hb803, hb805, hb807, by omega⟩), fun _ h => absurd h List.not_mem_nil⟩⟩), ((hF550.tr (hF766.up (by decide))).tr ((xFr.of (S := [82, 83, 85, 86, 87]) hb827 (by decide)).tr (xFr.of (S := [82, 83, 85, 86, 87]) hb830 (by decide)))), ⟨fun h => by have := pq839.1 h; omega, (show fld w828 82 10 = 0 ∨ FA w828 ≠ 0 by omega), Or.inr ⟨by have := ms777; omega, by omega, hM842⟩, hD847⟩⟩
    refine xg_t (xg_iload (va := (0, 2)) rfl rfl) ?_
    refine xg_t (xg_swt (ks := [(0, 108), (1, 116), (2, 180), (3, 221), (4, 273), (5, 326)]) (u := 2) (z := 180) rfl rfl rfl xnm0 (xsw_n (by omega) (xsw_n (by omega) (xsw_y rfl)))) ?_
    refine xg_t (xg_blk (b := [(180, 1, 3, 0, 0, 0), (181, 2, 15, 4, 0, 0)]) rfl) ?_
    refine xg_t (xg_const) ?_
    refine xg_t (xg_istore (l1 := [(3, (0, u45)), (2, (0, at_)), (1, (0, 2)), (0, (2, 82))]) rfl rfl rfl) ?_
    refine xg_t (xg_blk (b := [(183, 2, 2, 4, 0, 0), (185, 1, 3, 2, 0, 0), (186, 3, 6, 218, 3, 0), (189, 1, 0, 0, 0, 0), (190, 1, 2, 1, 0, 0), (191, 1, 2, 3, 0, 0), (192, 2, 4, 60, 0, 0), (194, 1, 3, 2, 0, 0), (195, 1, 2, 3, 0, 0), (196, 1, 16, 0, 0, 0), (197, 1, 11, 0, 0, 0), (198, 2, 2, 4, 0, 0), (200, 1, 11, 0, 0, 0), (201, 1, 0, 0, 0, 0), (202, 1, 3, 1, 0, 0), (203, 3, 5, 9999, 0, 0), (206, 3, 13, 199, 96, 196), (209, 3, 13, 211, 96, 200), (212, 3, 9, 4, 1, 0), (215, 3, 8, 183, 0, 0)]) rfl) ?_
    refine xg_t (xg_iload (va := (0, 0)) rfl rfl) ?_
    refine xg_t (xg_const) ?_
    refine xg_t (xg_icF (u := 0) (v := 2) rfl xnm0 xnm0 (by decide)) ?_
    refine xg_t (xg_aload (va := (2, 82)) rfl rfl) ?_
    refine xg_t (xg_iload (va := (0, 2)) rfl rfl) ?_
    refine xg_t (xg_iload (va := (0, u45)) rfl rfl) ?_
    refine xg_t (xg_bip) ?_
    refine xg_t (xg_const) ?_
    refine xg_t (xg_iload (va := (0, u45)) rfl rfl) ?_
    refine xg_t (xg_imul (u := 2) (v := u45) (z := 2 * u45) xnm0 xnm0 (by omega)) ?_
    refine xg_t (xg_iadd (u := 60) (v := 2 * u45) (z := 60 + (2 * u45)) xnm0 xnm0 (by omega)) ?_
    refine xg_t (xg_iload (va := (0, 0)) rfl rfl) ?_
    refine xg_t (xg_iadd (u := 60 + (2 * u45)) (v := 0) (z := (60 + (2 * u45)) + 0) xnm0 xnm0 (by omega)) ?_
    refine xg_t (xg_aload (va := (2, 82)) rfl rfl) ?_
    refine xg_t (xg_const) ?_
    refine xg_t (xg_sip) ?_
    obtain ⟨f82_848, f82_850, f82_852, f82_854, f82_856, f82_858, f82_860, f82_862, f82_864, f82_866, f82_868, f82_869, f82_870, f82_872, f82_874, f82_876, h82_878, hb849, hb851, hb853, hb855, hb857, hb859, hb861, hb863, hb865, hb867, hb871, hb873, hb875, hb877, hb879⟩ := (hI532 82 (by decide) (by decide) : cp82 (wget w530 82))
    refine xg_cVi mX12_numbered (vs := [(0, 1), (0, 9999)]) (rest := [(0, (60 + (2 * u45)) + 0), (0, u45), (0, 2), (2, 82)]) (cn1 := 0) (sl1 := 0) rfl (mNumbered (hI532) (by omega) (by omega) pk542.2.2.2) rfl h82_878 rfl rfl rfl rfl rfl rfl (fun n884 w880 hq881 => ?_)
    obtain ⟨hn885, hI882, hF883⟩ := hq881
    clear hb849 hb851 hb853 hb855 hb857 hb859 hb861 hb863 hb865 hb867 hb871 hb873 hb875 hb877
    obtain ⟨hn886, hn887, hn888⟩ := hn885
    have pk889 : PK w w880 := PK.tr pk542 hn887
    have os890 : ∀ j, (j < 60 + 2 * u45 ∨ 62 + 2 * u45 ≤ j) → j < 140 → rwv w880 86 j = rwv w 86 j := fun j hj hl => (rwv_fr hF883 (by decide)).trans (os543 j hj hl)
    have rg891 : FA w880 ≠ 0 ∨ 0 = 1 := rg544.imp_left hn887.1
    have mf892 : ∀ s, s < 7 → rwv w880 85 s = rwv w 85 s := fun s hs => (rwv_fr hF883 (by decide)).trans (mf545 s hs)
    have ms893 : mu w880 < mu w := Nat.lt_of_le_of_lt hn887.2.1 ms546
    clear rg544
    obtain ⟨f82_894, f82_896, f82_898, f82_900, f82_902, f82_904, f82_906, f82_908, f82_910, f82_912, f82_914, f82_915, f82_916, f82_918, f82_920, f82_922, h82_924, hb895, hb897, hb899, hb901, hb903, hb905, hb907, hb909, hb911, hb913, hb917, hb919, hb921, hb923, hb925⟩ := (hI882 82 (by decide) (by decide) : cp82 (wget w880 82))
    refine xg_cVv mX12_puts (vs := [(0, 2), (0, u45), (0, (60 + (2 * u45)) + 0), (0, n884)]) (rest := []) (cn1 := 0) (sl1 := 0) rfl (mPuts2 (hI882) (by omega) (by omega) (by omega) (fun _ => by omega)) rfl h82_924 rfl rfl rfl rfl rfl rfl (fun w926 hq927 => ?_)
    obtain ⟨hI928, hF929, hx930⟩ := hq927
    obtain ⟨hp931, hp932⟩ := hx930
    have pk933 : PK w w926 := PK.tr pk889 (PK.fr hF929 (by decide) (by decide) pk889.2.2.2)
    have os934 : ∀ j, (j < 60 + 2 * u45 ∨ 62 + 2 * u45 ≤ j) → j < 140 → rwv w926 86 j = rwv w 86 j := fun j hj hl => (hp932 j (by omega) hl).trans (os890 j hj hl)
    have rg935 : FA w926 ≠ 0 ∨ 0 = 1 := rg891.imp_left (PK.fr hF929 (by decide) (by decide) pk889.2.2.2).1
    have rg936 : FA w926 ≠ 0 ∨ (1 ≤ n884 ∧ n884 ≤ 9999) := hn888.imp_left (PK.fr hF929 (by decide) (by decide) pk889.2.2.2).1
    have mf937 : ∀ s, s < 7 → rwv w926 85 s = rwv w 85 s := fun s hs => (rwv_fr hF929 (by decide)).trans (mf892 s hs)
    have ms938 : mu w926 < mu w := Nat.lt_of_le_of_lt (PK.fr hF929 (by decide) (by decide) pk889.2.2.2).2.1 ms893
    clear rg891 hn888
    refine xg_t (xg_iinc (u := 0) (z := 1) (l1 := [(3, (0, u45)), (2, (0, at_)), (1, (0, 2)), (0, (2, 82))]) rfl rfl (by decide) rfl) ?_
    refine xg_t (xg_goto) ?_
    refine xg_t (xg_blk (b := [(183, 2, 2, 4, 0, 0), (185, 1, 3, 2, 0, 0), (186, 3, 6, 218, 3, 0), (189, 1, 0, 0, 0, 0), (190, 1, 2, 1, 0, 0), (191, 1, 2, 3, 0, 0), (192, 2, 4, 60, 0, 0), (194, 1, 3, 2, 0, 0), (195, 1, 2, 3, 0, 0), (196, 1, 16, 0, 0, 0), (197, 1, 11, 0, 0, 0), (198, 2, 2, 4, 0, 0), (200, 1, 11, 0, 0, 0), (201, 1, 0, 0, 0, 0), (202, 1, 3, 1, 0, 0), (203, 3, 5, 9999, 0, 0), (206, 3, 13, 199, 96, 196), (209, 3, 13, 211, 96, 200), (212, 3, 9, 4, 1, 0), (215, 3, 8, 183, 0, 0)]) rfl) ?_
    refine xg_t (xg_iload (va := (0, 1)) rfl rfl) ?_
    refine xg_t (xg_const) ?_
    refine xg_t (xg_icF (u := 1) (v := 2) rfl xnm0 xnm0 (by decide)) ?_
    refine xg_t (xg_aload (va := (2, 82)) rfl rfl) ?_
    refine xg_t (xg_iload (va := (0, 2)) rfl rfl) ?_
    refine xg_t (xg_iload (va := (0, u45)) rfl rfl) ?_
    refine xg_t (xg_bip) ?_
    refine xg_t (xg_const) ?_
    refine xg_t (xg_iload (va := (0, u45)) rfl rfl) ?_
    refine xg_t (xg_imul (u := 2) (v := u45) (z := 2 * u45) xnm0 xnm0 (by omega)) ?_
    refine xg_t (xg_iadd (u := 60) (v := 2 * u45) (z := 60 + (2 * u45)) xnm0 xnm0 (by omega)) ?_
    refine xg_t (xg_iload (va := (0, 1)) rfl rfl) ?_
    refine xg_t (xg_iadd (u := 60 + (2 * u45)) (v := 1) (z := (60 + (2 * u45)) + 1) xnm0 xnm0 (by omega)) ?_
    refine xg_t (xg_aload (va := (2, 82)) rfl rfl) ?_
    refine xg_t (xg_const) ?_
    refine xg_t (xg_sip) ?_
    refine xg_cVi mX12_numbered (vs := [(0, 1), (0, 9999)]) (rest := [(0, (60 + (2 * u45)) + 1), (0, u45), (0, 2), (2, 82)]) (cn1 := 0) (sl1 := 0) rfl (mNumbered (hI928) (by omega) (by omega) pk933.2.2.2) rfl (hF929.get (by decide) h82_924) rfl rfl rfl rfl rfl rfl (fun n943 w939 hq940 => ?_)
    obtain ⟨hn944, hI941, hF942⟩ := hq940
    clear hb895 hb897 hb899 hb901 hb903 hb905 hb907 hb909 hb911 hb913 hb917 hb919 hb921 hb923
    obtain ⟨hn945, hn946, hn947⟩ := hn944
    have pk948 : PK w w939 := PK.tr pk933 hn946
    have os949 : ∀ j, (j < 60 + 2 * u45 ∨ 62 + 2 * u45 ≤ j) → j < 140 → rwv w939 86 j = rwv w 86 j := fun j hj hl => (rwv_fr hF942 (by decide)).trans (os934 j hj hl)
    have ix950 : u45 < 6 → rwv w939 86 ((60 + (2 * u45)) + 0) = n884 := fun h => (rwv_fr hF942 (by decide)).trans (hp931 h)
    have rg951 : FA w939 ≠ 0 ∨ 0 = 1 := rg935.imp_left hn946.1
    have rg952 : FA w939 ≠ 0 ∨ (1 ≤ n884 ∧ n884 ≤ 9999) := rg936.imp_left hn946.1
    have mf953 : ∀ s, s < 7 → rwv w939 85 s = rwv w 85 s := fun s hs => (rwv_fr hF942 (by decide)).trans (mf937 s hs)
    have ms954 : mu w939 < mu w := Nat.lt_of_le_of_lt hn946.2.1 ms938
    clear hp931 rg935 rg936
    obtain ⟨f82_955, f82_957, f82_959, f82_961, f82_963, f82_965, f82_967, f82_969, f82_971, f82_973, f82_975, f82_976, f82_977, f82_979, f82_981, f82_983, h82_985, hb956, hb958, hb960, hb962, hb964, hb966, hb968, hb970, hb972, hb974, hb978, hb980, hb982, hb984, hb986⟩ := (hI941 82 (by decide) (by decide) : cp82 (wget w939 82))
    refine xg_cVv mX12_puts (vs := [(0, 2), (0, u45), (0, (60 + (2 * u45)) + 1), (0, n943)]) (rest := []) (cn1 := 0) (sl1 := 0) rfl (mPuts2 (hI941) (by omega) (by omega) (by omega) (fun _ => by omega)) rfl h82_985 rfl rfl rfl rfl rfl rfl (fun w987 hq988 => ?_)
    obtain ⟨hI989, hF990, hx991⟩ := hq988
    obtain ⟨hp992, hp993⟩ := hx991
    have pk994 : PK w w987 := PK.tr pk948 (PK.fr hF990 (by decide) (by decide) pk948.2.2.2)
    have os995 : ∀ j, (j < 60 + 2 * u45 ∨ 62 + 2 * u45 ≤ j) → j < 140 → rwv w987 86 j = rwv w 86 j := fun j hj hl => (hp993 j (by omega) hl).trans (os949 j hj hl)
    have ix996 : u45 < 6 → rwv w987 86 ((60 + (2 * u45)) + 0) = n884 := fun h => (hp993 _ (by omega) (by omega)).trans (ix950 h)
    have rg997 : FA w987 ≠ 0 ∨ 0 = 1 := rg951.imp_left (PK.fr hF990 (by decide) (by decide) pk948.2.2.2).1
    have rg998 : FA w987 ≠ 0 ∨ (1 ≤ n884 ∧ n884 ≤ 9999) := rg952.imp_left (PK.fr hF990 (by decide) (by decide) pk948.2.2.2).1
    have rg999 : FA w987 ≠ 0 ∨ (1 ≤ n943 ∧ n943 ≤ 9999) := hn947.imp_left (PK.fr hF990 (by decide) (by decide) pk948.2.2.2).1
    have mf1000 : ∀ s, s < 7 → rwv w987 85 s = rwv w 85 s := fun s hs => (rwv_fr hF990 (by decide)).trans (mf953 s hs)
    have ms1001 : mu w987 < mu w := Nat.lt_of_le_of_lt (PK.fr hF990 (by decide) (by decide) pk948.2.2.2).2.1 ms954
    clear ix950 rg951 rg952 hn947
    refine xg_t (xg_iinc (u := 1) (z := 2) (l1 := [(3, (0, u45)), (2, (0, at_)), (1, (0, 2)), (0, (2, 82))]) rfl rfl (by decide) rfl) ?_
    refine xg_t (xg_goto) ?_
    refine xg_t (xg_blk (b := [(183, 2, 2, 4, 0, 0), (185, 1, 3, 2, 0, 0), (186, 3, 6, 218, 3, 0), (189, 1, 0, 0, 0, 0), (190, 1, 2, 1, 0, 0), (191, 1, 2, 3, 0, 0), (192, 2, 4, 60, 0, 0), (194, 1, 3, 2, 0, 0), (195, 1, 2, 3, 0, 0), (196, 1, 16, 0, 0, 0), (197, 1, 11, 0, 0, 0), (198, 2, 2, 4, 0, 0), (200, 1, 11, 0, 0, 0), (201, 1, 0, 0, 0, 0), (202, 1, 3, 1, 0, 0), (203, 3, 5, 9999, 0, 0), (206, 3, 13, 199, 96, 196), (209, 3, 13, 211, 96, 200), (212, 3, 9, 4, 1, 0), (215, 3, 8, 183, 0, 0)]) rfl) ?_
    refine xg_t (xg_iload (va := (0, 2)) rfl rfl) ?_
    refine xg_t (xg_const) ?_
    refine xg_t (xg_icT (u := 2) (v := 2) rfl xnm0 xnm0 (by decide)) ?_
    refine xg_t (xg_blk (b := [(218, 3, 8, 394, 0, 0)]) rfl) ?_
    refine xg_t (xg_goto) ?_
    refine xg_t (xg_drop (l1 := [(0, (2, 82)), (1, (0, 2)), (3, (0, u45))]) (List.forall_mem_cons.mpr ⟨List.mem_cons_of_mem _ (List.mem_cons_of_mem _ (List.mem_cons_of_mem _ (List.mem_cons_of_mem _ (List.mem_cons_self)))), List.forall_mem_cons.mpr ⟨List.mem_cons_of_mem _ (List.mem_cons_of_mem _ (List.mem_cons_of_mem _ (List.mem_cons_self))), List.forall_mem_cons.mpr ⟨List.mem_cons_of_mem _ (List.mem_cons_self), fun _ h => absurd h List.not_mem_nil⟩⟩⟩)) ?_
    have hX1002 : FA w987 ≠ 0 ∨ u45 < 6 := Or.inl (by have q := rg997; omega)
    exact jn547 w987 (hI989) (((((((hF523.up (by decide)).tr (hF533.up (by decide))).tr (hF883.up (by decide))).tr (hF929.up (by decide))).tr (hF942.up (by decide))).tr (hF990.up (by decide)))) (⟨pk994, os995, ms1001, mf1000, hX1002⟩)
set_option maxHeartbeats 60000000 in
theorem mALineS3 {at_ : Nat} (hI : xMnv w) (hps : PS w) (hmb : ∀ s, s < 7 → rwv w 85 s ≤ 1000) (hln : fld w 82 14 ≤ 1000) (h7 : fld w 82 7 = 3) (hat : at_ ≤ 4294967295) : xTo (d + 7) mX12_aLine (43, [], [(2, (0, at_)), (1, (0, 3)), (0, (2, 82))], [], (w, bd, fc, 0, 0, rr)) (fun φ => ∃ w', xEnd 0 [] (w', bd, fc, 0, 0, rr) φ ∧ xMnv w' ∧ xFr [82, 83, 85, 86, 87] w w' ∧ ((FA w ≠ 0 → FA w' ≠ 0) ∧ PS w' ∧ ((fld w' 82 10 = 1 ∧ mu w' = mu w ∧ fld w' 82 14 = fld w 82 14 ∧ ∀ s, s < 7 → rwv w' 85 s = rwv w 85 s) ∨ (mu w' < mu w ∧ fld w' 82 14 = fld w 82 14 + 1 ∧ ∀ s, s < 7 → rwv w' 85 s ≤ rwv w 85 s + 1)) ∧ (FA w' ≠ 0 ∨ (DATA w → DATA w')))) := by
  obtain ⟨f82_1, f82_3, f82_5, f82_7, f82_9, f82_11, f82_13, f82_15, f82_17, f82_19, f82_21, f82_22, f82_23, f82_25, f82_27, f82_29, h82_31, hb2, hb4, hb6, hb8, hb10, hb12, hb14, hb16, hb18, hb20, hb24, hb26, hb28, hb30, hb32⟩ := (hI 82 (by decide) (by decide) : cp82 (wget w 82))
  have hf33 : fld w 82 7 = f82_11 := fld_of h82_31
  have hf34 : fld w 82 10 = f82_17 := fld_of h82_31
  have hf35 : fld w 82 14 = f82_19 := fld_of h82_31
  have hps_ : fld w 82 10 = 0 ∨ FA w ≠ 0 := hps
  obtain ⟨g85_36, h85_37, hb38⟩ := (hI 85 (by decide) (by decide) : cpI 7 52 4294967295 (wget w 85))
  have h85_37 : xRow w 85 7 52 g85_36 := h85_37
  obtain ⟨g86_39, h86_40, hb41⟩ := (hI 86 (by decide) (by decide) : cpI 140 53 4294967295 (wget w 86))
  have h86_40 : xRow w 86 140 53 g86_39 := h86_40
  obtain ⟨g87_42, h87_43, hb44⟩ := (hI 87 (by decide) (by decide) : cpI 20 54 4294967295 (wget w 87))
  have h87_43 : xRow w 87 20 54 g87_42 := h87_43
  refine xg_t (xg_blk (b := [(43, 1, 0, 0, 0, 0), (44, 3, 1, 12, 11, 17), (47, 1, 2, 1, 0, 0), (48, 1, 10, 0, 0, 0), (49, 1, 15, 3, 0, 0), (50, 1, 2, 3, 0, 0), (51, 1, 2, 1, 0, 0), (52, 3, 13, 194, 98, 193), (55, 3, 6, 64, 2, 0), (58, 1, 0, 0, 0, 0), (59, 1, 3, 3, 0, 0), (60, 1, 2, 2, 0, 0), (61, 3, 13, 115, 96, 186)]) rfl) ?_
  refine xg_t (xg_aload (va := (2, 82)) rfl rfl) ?_
  refine xg_t (xg_getf (va := (2, 85)) h82_31 rfl) ?_
  refine xg_t (xg_iload (va := (0, 3)) rfl rfl) ?_
  refine xg_ialdB (n := 3) (B := 4294967295) h85_37 (hb38) xnm0 (by omega) (fun u45 hu46 he47 => ?_)
  have hK48 : rwv w 85 3 = u45 := (rwv_of h85_37 (by decide)).trans he47
  have hm49 := hmb 3 (by decide)
  have hl50 : u45 ≤ 1000 := by omega
  refine xg_t (xg_istore (l1 := [(2, (0, at_)), (1, (0, 3)), (0, (2, 82))]) rfl rfl rfl) ?_
  refine xg_t (xg_iload (va := (0, u45)) rfl rfl) ?_
  refine xg_t (xg_iload (va := (0, 3)) rfl rfl) ?_
  refine xg_t (xg_cSr mX12_mostOf (vs := [(0, 3)]) (rest := [(0, u45)]) (rs := [(0, 4), (0, u45)]) (cn1 := 0) (sl1 := 0) rfl (mMostR3) rfl rfl rfl rfl rfl rfl rfl rfl) ?_
  by_cases hc51 : u45 < 4
  · refine xg_t (xg_icT (u := u45) (v := 4) rfl xnm0 xnm0 (xj_ltT hc51 (by omega))) ?_
    refine xg_t (xg_blk (b := [(64, 1, 0, 0, 0, 0), (65, 3, 13, 110, 96, 190), (68, 1, 2, 1, 0, 0), (69, 39, 33, 362, 0, 9)]) rfl) ?_
    refine xg_t (xg_aload (va := (2, 82)) rfl rfl) ?_
    refine xg_cVv mX12_advance (vs := []) (rest := []) (cn1 := 0) (sl1 := 0) rfl (mAdvance (hI)) rfl h82_31 rfl rfl rfl rfl rfl rfl (fun w52 hq53 => ?_)
    obtain ⟨hI54, hF55, hx56⟩ := hq53
    clear hb2 hb4 hb6 hb8 hb10 hb12 hb14 hb16 hb18 hb20 hb24 hb26 hb28 hb30
    obtain ⟨hv57, hv58, hv59, hv60⟩ := hx56
    have hf62 := FA_fr hF55 (by decide)
    have hs63 := (PK.rf hps).2.2.2
    unfold PS at hs63
    have pk61 : PK w w52 := ⟨fun _ => by omega, hv57, hv60, (show fld w52 82 10 = 0 ∨ FA w52 ≠ 0 by omega)⟩
    clear hs63
    have pk64 : PK w w52 := PK.tr (PK.rf hps) pk61
    have os65 : ∀ j, (j < 80 + 3 * u45 ∨ 83 + 3 * u45 ≤ j) → j < 140 → rwv w52 86 j = rwv w 86 j := fun j hj hl => (rwv_fr hF55 (by decide)).trans ((fun j _ _ => rfl) j hj hl)
    have mf66 : ∀ s, s < 7 → rwv w52 85 s = rwv w 85 s := fun s hs => (rwv_fr hF55 (by decide)).trans ((fun _ _ => rfl) s hs)
    have ms67 : mu w52 < mu w := Nat.lt_of_lt_of_le (hv58 (by omega)) (PK.rf hps).2.1
    clear hv58
    have jn68 : ∀ (w69 : List (List xE)), xMnv w69 → xFr [82, 83, 85, 86, 87] w w69 → (PK w w69 ∧ (∀ j, (j < 80 + 3 * u45 ∨ 83 + 3 * u45 ≤ j) → j < 140 → rwv w69 86 j = rwv w 86 j) ∧ mu w69 < mu w ∧ (∀ s, s < 7 → rwv w69 85 s = rwv w 85 s) ∧ (FA w69 ≠ 0 ∨ u45 < 4)) → xTo (d + 7) mX12_aLine (394, [], [(0, (2, 82)), (1, (0, 3)), (3, (0, u45))], [], (w69, bd, fc, 0, 0, rr)) (fun φ => ∃ w', xEnd 0 [] (w', bd, fc, 0, 0, rr) φ ∧ xMnv w' ∧ xFr [82, 83, 85, 86, 87] w w' ∧ ((FA w ≠ 0 → FA w' ≠ 0) ∧ PS w' ∧ ((fld w' 82 10 = 1 ∧ mu w' = mu w ∧ fld w' 82 14 = fld w 82 14 ∧ ∀ s, s < 7 → rwv w' 85 s = rwv w 85 s) ∨ (mu w' < mu w ∧ fld w' 82 14 = fld w 82 14 + 1 ∧ ∀ s, s < 7 → rwv w' 85 s ≤ rwv w 85 s + 1)) ∧ (FA w' ≠ 0 ∨ (DATA w → DATA w')))) := by
      intro w69 hI70 hF71 he72
      obtain ⟨hj73, hj74, hj75, hj76, hj77⟩ := he72
      refine xg_t (xg_blk (b := [(394, 1, 0, 0, 0, 0), (395, 3, 1, 12, 10, 180), (398, 3, 7, 416, 1, 0), (401, 1, 0, 0, 0, 0), (402, 3, 1, 12, 7, 151), (405, 1, 3, 2, 0, 0), (406, 3, 6, 416, 1, 0), (409, 1, 0, 0, 0, 0), (410, 3, 13, 110, 96, 190), (413, 3, 8, 420, 0, 0)]) rfl) ?_
      refine xg_t (xg_aload (va := (2, 82)) rfl rfl) ?_
      obtain ⟨f82_78, f82_80, f82_82, f82_84, f82_86, f82_88, f82_90, f82_92, f82_94, f82_96, f82_98, f82_99, f82_100, f82_102, f82_104, f82_106, h82_108, hb79, hb81, hb83, hb85, hb87, hb89, hb91, hb93, hb95, hb97, hb101, hb103, hb105, hb107, hb109⟩ := (hI70 82 (by decide) (by decide) : cp82 (wget w69 82))
      refine xg_t (xg_getf (va := (0, f82_94)) h82_108 rfl) ?_
      by_cases hc110 : f82_94 = 0
      · refine xg_t (xg_ifF (u := f82_94) rfl xnm0 (xj_neF hc110)) ?_
        refine xg_t (xg_aload (va := (2, 82)) rfl rfl) ?_
        refine xg_t (xg_getf (va := (0, f82_88)) h82_108 rfl) ?_
        refine xg_t (xg_const) ?_
        by_cases hc111 : f82_88 = 2
        · refine xg_t (xg_icF (u := f82_88) (v := 2) rfl xnm0 xnm0 (xj_neF hc111)) ?_
          refine xg_t (xg_aload (va := (2, 82)) rfl rfl) ?_
          refine xg_cVv mX12_advance (vs := []) (rest := []) (cn1 := 0) (sl1 := 0) rfl (mAdvance (hI70)) rfl h82_108 rfl rfl rfl rfl rfl rfl (fun w112 hq113 => ?_)
          obtain ⟨hI114, hF115, hx116⟩ := hq113
          clear hb79 hb81 hb83 hb85 hb87 hb89 hb91 hb93 hb95 hb97 hb101 hb103 hb105 hb107
          obtain ⟨hv117, hv118, hv119, hv120⟩ := hx116
          have hf122 := FA_fr hF115 (by decide)
          have hs123 := hj73.2.2.2
          unfold PS at hs123
          have pk121 : PK w69 w112 := ⟨fun _ => by omega, hv117, hv120, (show fld w112 82 10 = 0 ∨ FA w112 ≠ 0 by omega)⟩
          clear hs123
          clear hv118
          have pk124 : PK w w112 := PK.tr hj73 pk121
          have os125 : ∀ j, (j < 80 + 3 * u45 ∨ 83 + 3 * u45 ≤ j) → j < 140 → rwv w112 86 j = rwv w 86 j := fun j hj hl => (rwv_fr hF115 (by decide)).trans (hj74 j hj hl)
          have rg126 : FA w112 ≠ 0 ∨ u45 < 4 := hj77.imp_left pk121.1
          have mf127 : ∀ s, s < 7 → rwv w112 85 s = rwv w 85 s := fun s hs => (rwv_fr hF115 (by decide)).trans (hj76 s hs)
          have ms128 : mu w112 < mu w := Nat.lt_of_le_of_lt pk121.2.1 hj75
          clear hj77
          refine xg_t (xg_goto) ?_
          refine xg_t (xg_blk (b := [(420, 1, 0, 0, 0, 0), (421, 3, 1, 12, 11, 17), (424, 1, 2, 1, 0, 0), (425, 1, 39, 0, 0, 0), (426, 1, 10, 0, 0, 0), (427, 1, 3, 1, 0, 0), (428, 1, 11, 0, 0, 0), (429, 1, 17, 0, 0, 0), (430, 1, 0, 0, 0, 0), (431, 1, 19, 0, 0, 0), (432, 3, 1, 12, 14, 212), (435, 1, 3, 1, 0, 0), (436, 1, 11, 0, 0, 0), (437, 3, 14, 12, 14, 212), (440, 1, 12, 0, 0, 0)]) rfl) ?_
          obtain ⟨f82_129, f82_131, f82_133, f82_135, f82_137, f82_139, f82_141, f82_143, f82_145, f82_147, f82_149, f82_150, f82_151, f82_153, f82_155, f82_157, h82_159, hb130, hb132, hb134, hb136, hb138, hb140, hb142, hb144, hb146, hb148, hb152, hb154, hb156, hb158, hb160⟩ := (hI114 82 (by decide) (by decide) : cp82 (wget w112 82))
          have hf161 : fld w112 82 4 = f82_133 := fld_of h82_159
          have hf162 : fld w112 82 5 = f82_135 := fld_of h82_159
          have hf163 : fld w112 82 7 = f82_139 := fld_of h82_159
          have hf164 : fld w112 82 10 = f82_145 := fld_of h82_159
          have hf165 : fld w112 82 14 = f82_147 := fld_of h82_159
          have hu166 : mu w112 = 2 * (fld w112 82 4 - fld w112 82 5) + min 1 (fld w112 82 7) := rfl
          have hf167 := pk124.2.2.1
          have hl168 : f82_147 ≤ 1000 := by omega
          refine xg_t (xg_aload (va := (2, 82)) rfl rfl) ?_
          refine xg_t (xg_getf (va := (2, 85)) h82_159 rfl) ?_
          refine xg_t (xg_iload (va := (0, 3)) rfl rfl) ?_
          refine xg_t (xg_dup2 rfl) ?_
          obtain ⟨g85_169, h85_170, hb171⟩ := (hI114 85 (by decide) (by decide) : cpI 7 52 4294967295 (wget w112 85))
          have h85_170 : xRow w112 85 7 52 g85_169 := h85_170
          refine xg_ialdB (n := 3) (B := 4294967295) h85_170 (hb171) xnm0 (by omega) (fun u172 hu173 he174 => ?_)
          have hl175 : u172 = u45 := by have q1 := rwv_of h85_170 (show 3 < 7 by decide); have q2 := mf127 3 (by decide); omega
          refine xg_t (xg_const) ?_
          refine xg_t (xg_iadd (u := u172) (v := 1) (z := u172 + 1) xnm0 xnm0 (by omega)) ?_
          refine xg_iastK (n := 3) (u := u172 + 1) h85_170 xnm0 xnm0 rfl (by omega) (fun w176 hr177 hb178 => ?_)
          refine xg_t (xg_aload (va := (2, 82)) rfl rfl) ?_
          refine xg_t (xg_dup rfl) ?_
          refine xg_t (xg_getf (va := (0, f82_147)) (hb178.get (by decide) h82_159) rfl) ?_
          refine xg_t (xg_const) ?_
          refine xg_t (xg_iadd (u := f82_147) (v := 1) (z := f82_147 + 1) xnm0 xnm0 (by omega)) ?_
          refine xg_putI (fl1 := [(2, 83), (2, 84), (0, f82_129), (0, f82_131), (0, f82_133), (0, f82_135), (0, f82_137), (0, f82_139), (0, f82_141), (0, f82_143), (0, f82_145), (2, 85), (2, 86), (2, 87), (0, f82_147 + 1), (2, 88), (2, 89), (2, 90), (2, 91), (2, 92), (2, 93), (2, 94), (4, f82_149), (4, f82_150), (0, f82_151), (2, 95), (2, 96), (2, 97), (2, 98), (2, 99), (2, 100), (2, 101), (2, 102), (0, f82_153), (2, 103), (2, 104), (2, 105), (2, 106), (2, 107), (2, 108), (2, 109), (0, f82_155), (0, f82_157), (2, 110), (2, 111), (2, 112), (2, 113)]) (hb178.get (by decide) h82_159) rfl rfl rfl (fun w179 hk180 hb181 => ?_)
          have hF182 : xFr [82, 85] w112 w179 := ((xFr.of (S := [82, 85]) hb178 (by decide)).tr (xFr.of (S := [82, 85]) hb181 (by decide)))
          have hA183 := FA_fr hF182 (by decide)
          have hf184 : fld w179 82 4 = f82_133 := fld_of hk180
          have hf185 : fld w179 82 5 = f82_135 := fld_of hk180
          have hf186 : fld w179 82 7 = f82_139 := fld_of hk180
          have hf187 : fld w179 82 10 = f82_145 := fld_of hk180
          have hf188 : fld w179 82 14 = f82_147 + 1 := fld_of hk180
          have hu189 : mu w179 = 2 * (fld w179 82 4 - fld w179 82 5) + min 1 (fld w179 82 7) := rfl
          have pq190 := pk124
          unfold PK PS at pq190
          have hM191 : ∀ s, s < 7 → s ≠ 3 → rwv w179 85 s = rwv w 85 s := fun s hs hn => (rwv_of (hr177.but hb181 (by decide)) hs).trans ((if_neg hn).trans ((rwv_of h85_170 hs).symm.trans (mf127 s hs)))
          have hM192 : rwv w179 85 3 = u45 + 1 := (rwv_of (hr177.but hb181 (by decide)) (by decide)).trans ((if_pos rfl).trans (by omega))
          have hM193 : ∀ s, s < 7 → rwv w179 85 s ≤ rwv w 85 s + 1 := fun s hs => by
            by_cases z : s = 3
            · subst z; omega
            · rw [hM191 s hs z]; omega
          have hO194 : ∀ j, (j < 80 + 3 * u45 ∨ 83 + 3 * u45 ≤ j) → j < 140 → rwv w179 86 j = rwv w 86 j := fun j hj hl => (rwv_fr hF182 (by decide)).trans (os125 j hj hl)
          have hl196 : FA w112 ≠ 0 ∨ u45 < 4 := rg126
          have hN195 : FA w179 ≠ 0 ∨ 4 ≤ u45 ∨ True := Or.inr (Or.inr trivial)
          have hX197 : FA w179 ≠ 0 ∨ u45 < 4 := by omega
          have hD198 : FA w179 ≠ 0 ∨ (DATA w → DATA w179) := by
            by_cases z : FA w179 ≠ 0
            · exact Or.inl z
            · exact Or.inr (fun hd => hd.s3 hM191 hK48 hM192 (hX197.resolve_left z) hO194 ((hN195.resolve_left z).resolve_left (by have := hX197.resolve_left z; omega)))
          exact xg_e ⟨w179, ⟨rfl, rfl⟩, xMnv.up (S := [85, 82]) hI114 ((xFr.of (S := [85, 82]) hb178 (by decide)).tr (xFr.of (S := [85, 82]) hb181 (by decide))) (List.forall_mem_cons.mpr ⟨(show cpI 7 52 4294967295 (wget w179 85) from ⟨_, (hr177.but hb181 (by decide)), xrb (by omega) (hb171)⟩), List.forall_mem_cons.mpr ⟨(show cp82 (wget w179 82) from ⟨f82_129, f82_131, f82_133, f82_135, f82_137, f82_139, f82_141, f82_143, f82_145, f82_147 + 1, f82_149, f82_150, f82_151, f82_153, f82_155, f82_157, hk180, hb130, hb132, hb134, hb136, hb138, hb140, hb142, hb144, hb146, by omega, hb152, hb154, hb156, hb158, by omega⟩), fun _ h => absurd h List.not_mem_nil⟩⟩), ((hF71.tr (hF115.up (by decide))).tr ((xFr.of (S := [82, 83, 85, 86, 87]) hb178 (by decide)).tr (xFr.of (S := [82, 83, 85, 86, 87]) hb181 (by decide)))), ⟨fun h => by have := pq190.1 h; omega, (show fld w179 82 10 = 0 ∨ FA w179 ≠ 0 by omega), Or.inr ⟨by have := ms128; omega, by omega, hM193⟩, hD198⟩⟩
        · refine xg_t (xg_icT (u := f82_88) (v := 2) rfl xnm0 xnm0 (xj_neT hc111)) ?_
          refine xg_t (xg_blk (b := [(416, 1, 0, 0, 0, 0), (417, 3, 13, 140, 96, 183)]) rfl) ?_
          refine xg_t (xg_aload (va := (2, 82)) rfl rfl) ?_
          refine xg_cVv mX12_ends (vs := []) (rest := []) (cn1 := 0) (sl1 := 0) rfl (mEnds (hI70) hj73.2.2.2) rfl h82_108 rfl rfl rfl rfl rfl rfl (fun w199 hq200 => ?_)
          obtain ⟨hI201, hF202, hx203⟩ := hq200
          clear hb79 hb81 hb83 hb85 hb87 hb89 hb91 hb93 hb95 hb97 hb101 hb103 hb105 hb107
          obtain ⟨hv204, hv205, hv206, hv207⟩ := hx203
          have pk208 : PK w69 w199 := ⟨fun _ => hv204, by omega, by omega, Or.inr hv204⟩
          have pk209 : PK w w199 := PK.tr hj73 pk208
          have os210 : ∀ j, (j < 80 + 3 * u45 ∨ 83 + 3 * u45 ≤ j) → j < 140 → rwv w199 86 j = rwv w 86 j := fun j hj hl => (rwv_fr hF202 (by decide)).trans (hj74 j hj hl)
          have rg211 : FA w199 ≠ 0 ∨ u45 < 4 := hj77.imp_left pk208.1
          have mf212 : ∀ s, s < 7 → rwv w199 85 s = rwv w 85 s := fun s hs => (rwv_fr hF202 (by decide)).trans (hj76 s hs)
          have ms213 : mu w199 < mu w := Nat.lt_of_le_of_lt pk208.2.1 hj75
          clear hj77
          refine xg_t (xg_blk (b := [(420, 1, 0, 0, 0, 0), (421, 3, 1, 12, 11, 17), (424, 1, 2, 1, 0, 0), (425, 1, 39, 0, 0, 0), (426, 1, 10, 0, 0, 0), (427, 1, 3, 1, 0, 0), (428, 1, 11, 0, 0, 0), (429, 1, 17, 0, 0, 0), (430, 1, 0, 0, 0, 0), (431, 1, 19, 0, 0, 0), (432, 3, 1, 12, 14, 212), (435, 1, 3, 1, 0, 0), (436, 1, 11, 0, 0, 0), (437, 3, 14, 12, 14, 212), (440, 1, 12, 0, 0, 0)]) rfl) ?_
          obtain ⟨f82_214, f82_216, f82_218, f82_220, f82_222, f82_224, f82_226, f82_228, f82_230, f82_232, f82_234, f82_235, f82_236, f82_238, f82_240, f82_242, h82_244, hb215, hb217, hb219, hb221, hb223, hb225, hb227, hb229, hb231, hb233, hb237, hb239, hb241, hb243, hb245⟩ := (hI201 82 (by decide) (by decide) : cp82 (wget w199 82))
          have hf246 : fld w199 82 4 = f82_218 := fld_of h82_244
          have hf247 : fld w199 82 5 = f82_220 := fld_of h82_244
          have hf248 : fld w199 82 7 = f82_224 := fld_of h82_244
          have hf249 : fld w199 82 10 = f82_230 := fld_of h82_244
          have hf250 : fld w199 82 14 = f82_232 := fld_of h82_244
          have hu251 : mu w199 = 2 * (fld w199 82 4 - fld w199 82 5) + min 1 (fld w199 82 7) := rfl
          have hf252 := pk209.2.2.1
          have hl253 : f82_232 ≤ 1000 := by omega
          refine xg_t (xg_aload (va := (2, 82)) rfl rfl) ?_
          refine xg_t (xg_getf (va := (2, 85)) h82_244 rfl) ?_
          refine xg_t (xg_iload (va := (0, 3)) rfl rfl) ?_
          refine xg_t (xg_dup2 rfl) ?_
          obtain ⟨g85_254, h85_255, hb256⟩ := (hI201 85 (by decide) (by decide) : cpI 7 52 4294967295 (wget w199 85))
          have h85_255 : xRow w199 85 7 52 g85_254 := h85_255
          refine xg_ialdB (n := 3) (B := 4294967295) h85_255 (hb256) xnm0 (by omega) (fun u257 hu258 he259 => ?_)
          have hl260 : u257 = u45 := by have q1 := rwv_of h85_255 (show 3 < 7 by decide); have q2 := mf212 3 (by decide); omega
          refine xg_t (xg_const) ?_
          refine xg_t (xg_iadd (u := u257) (v := 1) (z := u257 + 1) xnm0 xnm0 (by omega)) ?_
          refine xg_iastK (n := 3) (u := u257 + 1) h85_255 xnm0 xnm0 rfl (by omega) (fun w261 hr262 hb263 => ?_)
          refine xg_t (xg_aload (va := (2, 82)) rfl rfl) ?_
          refine xg_t (xg_dup rfl) ?_
          refine xg_t (xg_getf (va := (0, f82_232)) (hb263.get (by decide) h82_244) rfl) ?_
          refine xg_t (xg_const) ?_
          refine xg_t (xg_iadd (u := f82_232) (v := 1) (z := f82_232 + 1) xnm0 xnm0 (by omega)) ?_
          refine xg_putI (fl1 := [(2, 83), (2, 84), (0, f82_214), (0, f82_216), (0, f82_218), (0, f82_220), (0, f82_222), (0, f82_224), (0, f82_226), (0, f82_228), (0, f82_230), (2, 85), (2, 86), (2, 87), (0, f82_232 + 1), (2, 88), (2, 89), (2, 90), (2, 91), (2, 92), (2, 93), (2, 94), (4, f82_234), (4, f82_235), (0, f82_236), (2, 95), (2, 96), (2, 97), (2, 98), (2, 99), (2, 100), (2, 101), (2, 102), (0, f82_238), (2, 103), (2, 104), (2, 105), (2, 106), (2, 107), (2, 108), (2, 109), (0, f82_240), (0, f82_242), (2, 110), (2, 111), (2, 112), (2, 113)]) (hb263.get (by decide) h82_244) rfl rfl rfl (fun w264 hk265 hb266 => ?_)
          have hF267 : xFr [82, 85] w199 w264 := ((xFr.of (S := [82, 85]) hb263 (by decide)).tr (xFr.of (S := [82, 85]) hb266 (by decide)))
          have hA268 := FA_fr hF267 (by decide)
          have hf269 : fld w264 82 4 = f82_218 := fld_of hk265
          have hf270 : fld w264 82 5 = f82_220 := fld_of hk265
          have hf271 : fld w264 82 7 = f82_224 := fld_of hk265
          have hf272 : fld w264 82 10 = f82_230 := fld_of hk265
          have hf273 : fld w264 82 14 = f82_232 + 1 := fld_of hk265
          have hu274 : mu w264 = 2 * (fld w264 82 4 - fld w264 82 5) + min 1 (fld w264 82 7) := rfl
          have pq275 := pk209
          unfold PK PS at pq275
          have hM276 : ∀ s, s < 7 → s ≠ 3 → rwv w264 85 s = rwv w 85 s := fun s hs hn => (rwv_of (hr262.but hb266 (by decide)) hs).trans ((if_neg hn).trans ((rwv_of h85_255 hs).symm.trans (mf212 s hs)))
          have hM277 : rwv w264 85 3 = u45 + 1 := (rwv_of (hr262.but hb266 (by decide)) (by decide)).trans ((if_pos rfl).trans (by omega))
          have hM278 : ∀ s, s < 7 → rwv w264 85 s ≤ rwv w 85 s + 1 := fun s hs => by
            by_cases z : s = 3
            · subst z; omega
            · rw [hM276 s hs z]; omega
          have hO279 : ∀ j, (j < 80 + 3 * u45 ∨ 83 + 3 * u45 ≤ j) → j < 140 → rwv w264 86 j = rwv w 86 j := fun j hj hl => (rwv_fr hF267 (by decide)).trans (os210 j hj hl)
          have hl281 : FA w199 ≠ 0 ∨ u45 < 4 := rg211
          have hN280 : FA w264 ≠ 0 ∨ 4 ≤ u45 ∨ True := Or.inr (Or.inr trivial)
          have hX282 : FA w264 ≠ 0 ∨ u45 < 4 := by omega
          have hD283 : FA w264 ≠ 0 ∨ (DATA w → DATA w264) := by
            by_cases z : FA w264 ≠ 0
            · exact Or.inl z
            · exact Or.inr (fun hd => hd.s3 hM276 hK48 hM277 (hX282.resolve_left z) hO279 ((hN280.resolve_left z).resolve_left (by have := hX282.resolve_left z; omega)))
          exact xg_e ⟨w264, ⟨rfl, rfl⟩, xMnv.up (S := [85, 82]) hI201 ((xFr.of (S := [85, 82]) hb263 (by decide)).tr (xFr.of (S := [85, 82]) hb266 (by decide))) (List.forall_mem_cons.mpr ⟨(show cpI 7 52 4294967295 (wget w264 85) from ⟨_, (hr262.but hb266 (by decide)), xrb (by omega) (hb256)⟩), List.forall_mem_cons.mpr ⟨(show cp82 (wget w264 82) from ⟨f82_214, f82_216, f82_218, f82_220, f82_222, f82_224, f82_226, f82_228, f82_230, f82_232 + 1, f82_234, f82_235, f82_236, f82_238, f82_240, f82_242, hk265, hb215, hb217, hb219, hb221, hb223, hb225, hb227, hb229, hb231, by omega, hb237, hb239, hb241, hb243, by omega⟩), fun _ h => absurd h List.not_mem_nil⟩⟩), ((hF71.tr (hF202.up (by decide))).tr ((xFr.of (S := [82, 83, 85, 86, 87]) hb263 (by decide)).tr (xFr.of (S := [82, 83, 85, 86, 87]) hb266 (by decide)))), ⟨fun h => by have := pq275.1 h; omega, (show fld w264 82 10 = 0 ∨ FA w264 ≠ 0 by omega), Or.inr ⟨by have := ms213; omega, by omega, hM278⟩, hD283⟩⟩
      · refine xg_t (xg_ifT (u := f82_94) rfl xnm0 (xj_neT hc110)) ?_
        refine xg_t (xg_blk (b := [(416, 1, 0, 0, 0, 0), (417, 3, 13, 140, 96, 183)]) rfl) ?_
        refine xg_t (xg_aload (va := (2, 82)) rfl rfl) ?_
        refine xg_cVv mX12_ends (vs := []) (rest := []) (cn1 := 0) (sl1 := 0) rfl (mEnds (hI70) hj73.2.2.2) rfl h82_108 rfl rfl rfl rfl rfl rfl (fun w284 hq285 => ?_)
        obtain ⟨hI286, hF287, hx288⟩ := hq285
        clear hb79 hb81 hb83 hb85 hb87 hb89 hb91 hb93 hb95 hb97 hb101 hb103 hb105 hb107
        obtain ⟨hv289, hv290, hv291, hv292⟩ := hx288
        have pk293 : PK w69 w284 := ⟨fun _ => hv289, by omega, by omega, Or.inr hv289⟩
        have pk294 : PK w w284 := PK.tr hj73 pk293
        have os295 : ∀ j, (j < 80 + 3 * u45 ∨ 83 + 3 * u45 ≤ j) → j < 140 → rwv w284 86 j = rwv w 86 j := fun j hj hl => (rwv_fr hF287 (by decide)).trans (hj74 j hj hl)
        have rg296 : FA w284 ≠ 0 ∨ u45 < 4 := hj77.imp_left pk293.1
        have mf297 : ∀ s, s < 7 → rwv w284 85 s = rwv w 85 s := fun s hs => (rwv_fr hF287 (by decide)).trans (hj76 s hs)
        have ms298 : mu w284 < mu w := Nat.lt_of_le_of_lt pk293.2.1 hj75
        clear hj77
        refine xg_t (xg_blk (b := [(420, 1, 0, 0, 0, 0), (421, 3, 1, 12, 11, 17), (424, 1, 2, 1, 0, 0), (425, 1, 39, 0, 0, 0), (426, 1, 10, 0, 0, 0), (427, 1, 3, 1, 0, 0), (428, 1, 11, 0, 0, 0), (429, 1, 17, 0, 0, 0), (430, 1, 0, 0, 0, 0), (431, 1, 19, 0, 0, 0), (432, 3, 1, 12, 14, 212), (435, 1, 3, 1, 0, 0), (436, 1, 11, 0, 0, 0), (437, 3, 14, 12, 14, 212), (440, 1, 12, 0, 0, 0)]) rfl) ?_
        obtain ⟨f82_299, f82_301, f82_303, f82_305, f82_307, f82_309, f82_311, f82_313, f82_315, f82_317, f82_319, f82_320, f82_321, f82_323, f82_325, f82_327, h82_329, hb300, hb302, hb304, hb306, hb308, hb310, hb312, hb314, hb316, hb318, hb322, hb324, hb326, hb328, hb330⟩ := (hI286 82 (by decide) (by decide) : cp82 (wget w284 82))
        have hf331 : fld w284 82 4 = f82_303 := fld_of h82_329
        have hf332 : fld w284 82 5 = f82_305 := fld_of h82_329
        have hf333 : fld w284 82 7 = f82_309 := fld_of h82_329
        have hf334 : fld w284 82 10 = f82_315 := fld_of h82_329
        have hf335 : fld w284 82 14 = f82_317 := fld_of h82_329
        have hu336 : mu w284 = 2 * (fld w284 82 4 - fld w284 82 5) + min 1 (fld w284 82 7) := rfl
        have hf337 := pk294.2.2.1
        have hl338 : f82_317 ≤ 1000 := by omega
        refine xg_t (xg_aload (va := (2, 82)) rfl rfl) ?_
        refine xg_t (xg_getf (va := (2, 85)) h82_329 rfl) ?_
        refine xg_t (xg_iload (va := (0, 3)) rfl rfl) ?_
        refine xg_t (xg_dup2 rfl) ?_
        obtain ⟨g85_339, h85_340, hb341⟩ := (hI286 85 (by decide) (by decide) : cpI 7 52 4294967295 (wget w284 85))
        have h85_340 : xRow w284 85 7 52 g85_339 := h85_340
        refine xg_ialdB (n := 3) (B := 4294967295) h85_340 (hb341) xnm0 (by omega) (fun u342 hu343 he344 => ?_)
        have hl345 : u342 = u45 := by have q1 := rwv_of h85_340 (show 3 < 7 by decide); have q2 := mf297 3 (by decide); omega
        refine xg_t (xg_const) ?_
        refine xg_t (xg_iadd (u := u342) (v := 1) (z := u342 + 1) xnm0 xnm0 (by omega)) ?_
        refine xg_iastK (n := 3) (u := u342 + 1) h85_340 xnm0 xnm0 rfl (by omega) (fun w346 hr347 hb348 => ?_)
        refine xg_t (xg_aload (va := (2, 82)) rfl rfl) ?_
        refine xg_t (xg_dup rfl) ?_
        refine xg_t (xg_getf (va := (0, f82_317)) (hb348.get (by decide) h82_329) rfl) ?_
        refine xg_t (xg_const) ?_
        refine xg_t (xg_iadd (u := f82_317) (v := 1) (z := f82_317 + 1) xnm0 xnm0 (by omega)) ?_
        refine xg_putI (fl1 := [(2, 83), (2, 84), (0, f82_299), (0, f82_301), (0, f82_303), (0, f82_305), (0, f82_307), (0, f82_309), (0, f82_311), (0, f82_313), (0, f82_315), (2, 85), (2, 86), (2, 87), (0, f82_317 + 1), (2, 88), (2, 89), (2, 90), (2, 91), (2, 92), (2, 93), (2, 94), (4, f82_319), (4, f82_320), (0, f82_321), (2, 95), (2, 96), (2, 97), (2, 98), (2, 99), (2, 100), (2, 101), (2, 102), (0, f82_323), (2, 103), (2, 104), (2, 105), (2, 106), (2, 107), (2, 108), (2, 109), (0, f82_325), (0, f82_327), (2, 110), (2, 111), (2, 112), (2, 113)]) (hb348.get (by decide) h82_329) rfl rfl rfl (fun w349 hk350 hb351 => ?_)
        have hF352 : xFr [82, 85] w284 w349 := ((xFr.of (S := [82, 85]) hb348 (by decide)).tr (xFr.of (S := [82, 85]) hb351 (by decide)))
        have hA353 := FA_fr hF352 (by decide)
        have hf354 : fld w349 82 4 = f82_303 := fld_of hk350
        have hf355 : fld w349 82 5 = f82_305 := fld_of hk350
        have hf356 : fld w349 82 7 = f82_309 := fld_of hk350
        have hf357 : fld w349 82 10 = f82_315 := fld_of hk350
        have hf358 : fld w349 82 14 = f82_317 + 1 := fld_of hk350
        have hu359 : mu w349 = 2 * (fld w349 82 4 - fld w349 82 5) + min 1 (fld w349 82 7) := rfl
        have pq360 := pk294
        unfold PK PS at pq360
        have hM361 : ∀ s, s < 7 → s ≠ 3 → rwv w349 85 s = rwv w 85 s := fun s hs hn => (rwv_of (hr347.but hb351 (by decide)) hs).trans ((if_neg hn).trans ((rwv_of h85_340 hs).symm.trans (mf297 s hs)))
        have hM362 : rwv w349 85 3 = u45 + 1 := (rwv_of (hr347.but hb351 (by decide)) (by decide)).trans ((if_pos rfl).trans (by omega))
        have hM363 : ∀ s, s < 7 → rwv w349 85 s ≤ rwv w 85 s + 1 := fun s hs => by
          by_cases z : s = 3
          · subst z; omega
          · rw [hM361 s hs z]; omega
        have hO364 : ∀ j, (j < 80 + 3 * u45 ∨ 83 + 3 * u45 ≤ j) → j < 140 → rwv w349 86 j = rwv w 86 j := fun j hj hl => (rwv_fr hF352 (by decide)).trans (os295 j hj hl)
        have hl366 : FA w284 ≠ 0 ∨ u45 < 4 := rg296
        have hN365 : FA w349 ≠ 0 ∨ 4 ≤ u45 ∨ True := Or.inr (Or.inr trivial)
        have hX367 : FA w349 ≠ 0 ∨ u45 < 4 := by omega
        have hD368 : FA w349 ≠ 0 ∨ (DATA w → DATA w349) := by
          by_cases z : FA w349 ≠ 0
          · exact Or.inl z
          · exact Or.inr (fun hd => hd.s3 hM361 hK48 hM362 (hX367.resolve_left z) hO364 ((hN365.resolve_left z).resolve_left (by have := hX367.resolve_left z; omega)))
        exact xg_e ⟨w349, ⟨rfl, rfl⟩, xMnv.up (S := [85, 82]) hI286 ((xFr.of (S := [85, 82]) hb348 (by decide)).tr (xFr.of (S := [85, 82]) hb351 (by decide))) (List.forall_mem_cons.mpr ⟨(show cpI 7 52 4294967295 (wget w349 85) from ⟨_, (hr347.but hb351 (by decide)), xrb (by omega) (hb341)⟩), List.forall_mem_cons.mpr ⟨(show cp82 (wget w349 82) from ⟨f82_299, f82_301, f82_303, f82_305, f82_307, f82_309, f82_311, f82_313, f82_315, f82_317 + 1, f82_319, f82_320, f82_321, f82_323, f82_325, f82_327, hk350, hb300, hb302, hb304, hb306, hb308, hb310, hb312, hb314, hb316, by omega, hb322, hb324, hb326, hb328, by omega⟩), fun _ h => absurd h List.not_mem_nil⟩⟩), ((hF71.tr (hF287.up (by decide))).tr ((xFr.of (S := [82, 83, 85, 86, 87]) hb348 (by decide)).tr (xFr.of (S := [82, 83, 85, 86, 87]) hb351 (by decide)))), ⟨fun h => by have := pq360.1 h; omega, (show fld w349 82 10 = 0 ∨ FA w349 ≠ 0 by omega), Or.inr ⟨by have := ms298; omega, by omega, hM363⟩, hD368⟩⟩
    refine xg_t (xg_iload (va := (0, 3)) rfl rfl) ?_
    refine xg_t (xg_swt (ks := [(0, 108), (1, 116), (2, 180), (3, 221), (4, 273), (5, 326)]) (u := 3) (z := 221) rfl rfl rfl xnm0 (xsw_n (by omega) (xsw_n (by omega) (xsw_n (by omega) (xsw_y rfl))))) ?_
    refine xg_t (xg_blk (b := [(221, 1, 3, 0, 0, 0), (222, 2, 15, 4, 0, 0)]) rfl) ?_
    refine xg_t (xg_const) ?_
    refine xg_t (xg_istore (l1 := [(3, (0, u45)), (2, (0, at_)), (1, (0, 3)), (0, (2, 82))]) rfl rfl rfl) ?_
    refine xg_t (xg_blk (b := [(224, 2, 2, 4, 0, 0), (226, 1, 3, 3, 0, 0), (227, 3, 6, 270, 3, 0), (230, 1, 0, 0, 0, 0), (231, 1, 2, 1, 0, 0), (232, 1, 2, 3, 0, 0), (233, 2, 4, 80, 0, 0), (235, 1, 3, 3, 0, 0), (236, 1, 2, 3, 0, 0), (237, 1, 16, 0, 0, 0), (238, 1, 11, 0, 0, 0), (239, 2, 2, 4, 0, 0), (241, 1, 11, 0, 0, 0), (242, 1, 0, 0, 0, 0), (243, 1, 3, 1, 0, 0), (244, 2, 2, 4, 0, 0), (246, 1, 3, 2, 0, 0), (247, 3, 6, 255, 3, 0), (250, 2, 4, 10, 0, 0), (252, 3, 8, 258, 0, 0)]) rfl) ?_
    refine xg_t (xg_iload (va := (0, 0)) rfl rfl) ?_
    refine xg_t (xg_const) ?_
    refine xg_t (xg_icF (u := 0) (v := 3) rfl xnm0 xnm0 (by decide)) ?_
    refine xg_t (xg_aload (va := (2, 82)) rfl rfl) ?_
    refine xg_t (xg_iload (va := (0, 3)) rfl rfl) ?_
    refine xg_t (xg_iload (va := (0, u45)) rfl rfl) ?_
    refine xg_t (xg_bip) ?_
    refine xg_t (xg_const) ?_
    refine xg_t (xg_iload (va := (0, u45)) rfl rfl) ?_
    refine xg_t (xg_imul (u := 3) (v := u45) (z := 3 * u45) xnm0 xnm0 (by omega)) ?_
    refine xg_t (xg_iadd (u := 80) (v := 3 * u45) (z := 80 + (3 * u45)) xnm0 xnm0 (by omega)) ?_
    refine xg_t (xg_iload (va := (0, 0)) rfl rfl) ?_
    refine xg_t (xg_iadd (u := 80 + (3 * u45)) (v := 0) (z := (80 + (3 * u45)) + 0) xnm0 xnm0 (by omega)) ?_
    refine xg_t (xg_aload (va := (2, 82)) rfl rfl) ?_
    refine xg_t (xg_const) ?_
    refine xg_t (xg_iload (va := (0, 0)) rfl rfl) ?_
    refine xg_t (xg_const) ?_
    refine xg_t (xg_icF (u := 0) (v := 2) rfl xnm0 xnm0 (by decide)) ?_
    refine xg_t (xg_bip) ?_
    refine xg_t (xg_goto) ?_
    refine xg_t (xg_blk (b := [(258, 3, 13, 199, 96, 196), (261, 3, 13, 211, 96, 200), (264, 3, 9, 4, 1, 0), (267, 3, 8, 224, 0, 0)]) rfl) ?_
    obtain ⟨f82_369, f82_371, f82_373, f82_375, f82_377, f82_379, f82_381, f82_383, f82_385, f82_387, f82_389, f82_390, f82_391, f82_393, f82_395, f82_397, h82_399, hb370, hb372, hb374, hb376, hb378, hb380, hb382, hb384, hb386, hb388, hb392, hb394, hb396, hb398, hb400⟩ := (hI54 82 (by decide) (by decide) : cp82 (wget w52 82))
    refine xg_cVi mX12_numbered (vs := [(0, 1), (0, 10)]) (rest := [(0, (80 + (3 * u45)) + 0), (0, u45), (0, 3), (2, 82)]) (cn1 := 0) (sl1 := 0) rfl (mNumbered (hI54) (by omega) (by omega) pk64.2.2.2) rfl h82_399 rfl rfl rfl rfl rfl rfl (fun n405 w401 hq402 => ?_)
    obtain ⟨hn406, hI403, hF404⟩ := hq402
    clear hb370 hb372 hb374 hb376 hb378 hb380 hb382 hb384 hb386 hb388 hb392 hb394 hb396 hb398
    obtain ⟨hn407, hn408, hn409⟩ := hn406
    have pk410 : PK w w401 := PK.tr pk64 hn408
    have os411 : ∀ j, (j < 80 + 3 * u45 ∨ 83 + 3 * u45 ≤ j) → j < 140 → rwv w401 86 j = rwv w 86 j := fun j hj hl => (rwv_fr hF404 (by decide)).trans (os65 j hj hl)
    have mf412 : ∀ s, s < 7 → rwv w401 85 s = rwv w 85 s := fun s hs => (rwv_fr hF404 (by decide)).trans (mf66 s hs)
    have ms413 : mu w401 < mu w := Nat.lt_of_le_of_lt hn408.2.1 ms67
    obtain ⟨f82_414, f82_416, f82_418, f82_420, f82_422, f82_424, f82_426, f82_428, f82_430, f82_432, f82_434, f82_435, f82_436, f82_438, f82_440, f82_442, h82_444, hb415, hb417, hb419, hb421, hb423, hb425, hb427, hb429, hb431, hb433, hb437, hb439, hb441, hb443, hb445⟩ := (hI403 82 (by decide) (by decide) : cp82 (wget w401 82))
    refine xg_cVv mX12_puts (vs := [(0, 3), (0, u45), (0, (80 + (3 * u45)) + 0), (0, n405)]) (rest := []) (cn1 := 0) (sl1 := 0) rfl (mPuts3 (hI403) (by omega) (by omega) (by omega) (fun _ => by omega)) rfl h82_444 rfl rfl rfl rfl rfl rfl (fun w446 hq447 => ?_)
    obtain ⟨hI448, hF449, hx450⟩ := hq447
    obtain ⟨hp451, hp452⟩ := hx450
    have pk453 : PK w w446 := PK.tr pk410 (PK.fr hF449 (by decide) (by decide) pk410.2.2.2)
    have os454 : ∀ j, (j < 80 + 3 * u45 ∨ 83 + 3 * u45 ≤ j) → j < 140 → rwv w446 86 j = rwv w 86 j := fun j hj hl => (hp452 j (by omega) hl).trans (os411 j hj hl)
    have rg455 : FA w446 ≠ 0 ∨ (1 ≤ n405 ∧ n405 ≤ 10) := hn409.imp_left (PK.fr hF449 (by decide) (by decide) pk410.2.2.2).1
    have mf456 : ∀ s, s < 7 → rwv w446 85 s = rwv w 85 s := fun s hs => (rwv_fr hF449 (by decide)).trans (mf412 s hs)
    have ms457 : mu w446 < mu w := Nat.lt_of_le_of_lt (PK.fr hF449 (by decide) (by decide) pk410.2.2.2).2.1 ms413
    clear hn409
    refine xg_t (xg_iinc (u := 0) (z := 1) (l1 := [(3, (0, u45)), (2, (0, at_)), (1, (0, 3)), (0, (2, 82))]) rfl rfl (by decide) rfl) ?_
    refine xg_t (xg_goto) ?_
    refine xg_t (xg_blk (b := [(224, 2, 2, 4, 0, 0), (226, 1, 3, 3, 0, 0), (227, 3, 6, 270, 3, 0), (230, 1, 0, 0, 0, 0), (231, 1, 2, 1, 0, 0), (232, 1, 2, 3, 0, 0), (233, 2, 4, 80, 0, 0), (235, 1, 3, 3, 0, 0), (236, 1, 2, 3, 0, 0), (237, 1, 16, 0, 0, 0), (238, 1, 11, 0, 0, 0), (239, 2, 2, 4, 0, 0), (241, 1, 11, 0, 0, 0), (242, 1, 0, 0, 0, 0), (243, 1, 3, 1, 0, 0), (244, 2, 2, 4, 0, 0), (246, 1, 3, 2, 0, 0), (247, 3, 6, 255, 3, 0), (250, 2, 4, 10, 0, 0), (252, 3, 8, 258, 0, 0)]) rfl) ?_
    refine xg_t (xg_iload (va := (0, 1)) rfl rfl) ?_
    refine xg_t (xg_const) ?_
    refine xg_t (xg_icF (u := 1) (v := 3) rfl xnm0 xnm0 (by decide)) ?_
    refine xg_t (xg_aload (va := (2, 82)) rfl rfl) ?_
    refine xg_t (xg_iload (va := (0, 3)) rfl rfl) ?_
    refine xg_t (xg_iload (va := (0, u45)) rfl rfl) ?_
    refine xg_t (xg_bip) ?_
    refine xg_t (xg_const) ?_
    refine xg_t (xg_iload (va := (0, u45)) rfl rfl) ?_
    refine xg_t (xg_imul (u := 3) (v := u45) (z := 3 * u45) xnm0 xnm0 (by omega)) ?_
    refine xg_t (xg_iadd (u := 80) (v := 3 * u45) (z := 80 + (3 * u45)) xnm0 xnm0 (by omega)) ?_
    refine xg_t (xg_iload (va := (0, 1)) rfl rfl) ?_
    refine xg_t (xg_iadd (u := 80 + (3 * u45)) (v := 1) (z := (80 + (3 * u45)) + 1) xnm0 xnm0 (by omega)) ?_
    refine xg_t (xg_aload (va := (2, 82)) rfl rfl) ?_
    refine xg_t (xg_const) ?_
    refine xg_t (xg_iload (va := (0, 1)) rfl rfl) ?_
    refine xg_t (xg_const) ?_
    refine xg_t (xg_icF (u := 1) (v := 2) rfl xnm0 xnm0 (by decide)) ?_
    refine xg_t (xg_bip) ?_
    refine xg_t (xg_goto) ?_
    refine xg_t (xg_blk (b := [(258, 3, 13, 199, 96, 196), (261, 3, 13, 211, 96, 200), (264, 3, 9, 4, 1, 0), (267, 3, 8, 224, 0, 0)]) rfl) ?_
    refine xg_cVi mX12_numbered (vs := [(0, 1), (0, 10)]) (rest := [(0, (80 + (3 * u45)) + 1), (0, u45), (0, 3), (2, 82)]) (cn1 := 0) (sl1 := 0) rfl (mNumbered (hI448) (by omega) (by omega) pk453.2.2.2) rfl (hF449.get (by decide) h82_444) rfl rfl rfl rfl rfl rfl (fun n462 w458 hq459 => ?_)
    obtain ⟨hn463, hI460, hF461⟩ := hq459
    clear hb415 hb417 hb419 hb421 hb423 hb425 hb427 hb429 hb431 hb433 hb437 hb439 hb441 hb443
    obtain ⟨hn464, hn465, hn466⟩ := hn463
    have pk467 : PK w w458 := PK.tr pk453 hn465
    have os468 : ∀ j, (j < 80 + 3 * u45 ∨ 83 + 3 * u45 ≤ j) → j < 140 → rwv w458 86 j = rwv w 86 j := fun j hj hl => (rwv_fr hF461 (by decide)).trans (os454 j hj hl)
    have ix469 : u45 < 4 → rwv w458 86 ((80 + (3 * u45)) + 0) = n405 := fun h => (rwv_fr hF461 (by decide)).trans (hp451 h)
    have rg470 : FA w458 ≠ 0 ∨ (1 ≤ n405 ∧ n405 ≤ 10) := rg455.imp_left hn465.1
    have mf471 : ∀ s, s < 7 → rwv w458 85 s = rwv w 85 s := fun s hs => (rwv_fr hF461 (by decide)).trans (mf456 s hs)
    have ms472 : mu w458 < mu w := Nat.lt_of_le_of_lt hn465.2.1 ms457
    clear hp451 rg455
    obtain ⟨f82_473, f82_475, f82_477, f82_479, f82_481, f82_483, f82_485, f82_487, f82_489, f82_491, f82_493, f82_494, f82_495, f82_497, f82_499, f82_501, h82_503, hb474, hb476, hb478, hb480, hb482, hb484, hb486, hb488, hb490, hb492, hb496, hb498, hb500, hb502, hb504⟩ := (hI460 82 (by decide) (by decide) : cp82 (wget w458 82))
    refine xg_cVv mX12_puts (vs := [(0, 3), (0, u45), (0, (80 + (3 * u45)) + 1), (0, n462)]) (rest := []) (cn1 := 0) (sl1 := 0) rfl (mPuts3 (hI460) (by omega) (by omega) (by omega) (fun _ => by omega)) rfl h82_503 rfl rfl rfl rfl rfl rfl (fun w505 hq506 => ?_)
    obtain ⟨hI507, hF508, hx509⟩ := hq506
    obtain ⟨hp510, hp511⟩ := hx509
    have pk512 : PK w w505 := PK.tr pk467 (PK.fr hF508 (by decide) (by decide) pk467.2.2.2)
    have os513 : ∀ j, (j < 80 + 3 * u45 ∨ 83 + 3 * u45 ≤ j) → j < 140 → rwv w505 86 j = rwv w 86 j := fun j hj hl => (hp511 j (by omega) hl).trans (os468 j hj hl)
    have ix514 : u45 < 4 → rwv w505 86 ((80 + (3 * u45)) + 0) = n405 := fun h => (hp511 _ (by omega) (by omega)).trans (ix469 h)
    have rg515 : FA w505 ≠ 0 ∨ (1 ≤ n405 ∧ n405 ≤ 10) := rg470.imp_left (PK.fr hF508 (by decide) (by decide) pk467.2.2.2).1
    have rg516 : FA w505 ≠ 0 ∨ (1 ≤ n462 ∧ n462 ≤ 10) := hn466.imp_left (PK.fr hF508 (by decide) (by decide) pk467.2.2.2).1
    have mf517 : ∀ s, s < 7 → rwv w505 85 s = rwv w 85 s := fun s hs => (rwv_fr hF508 (by decide)).trans (mf471 s hs)
    have ms518 : mu w505 < mu w := Nat.lt_of_le_of_lt (PK.fr hF508 (by decide) (by decide) pk467.2.2.2).2.1 ms472
    clear ix469 rg470 hn466
    refine xg_t (xg_iinc (u := 1) (z := 2) (l1 := [(3, (0, u45)), (2, (0, at_)), (1, (0, 3)), (0, (2, 82))]) rfl rfl (by decide) rfl) ?_
    refine xg_t (xg_goto) ?_
    refine xg_t (xg_blk (b := [(224, 2, 2, 4, 0, 0), (226, 1, 3, 3, 0, 0), (227, 3, 6, 270, 3, 0), (230, 1, 0, 0, 0, 0), (231, 1, 2, 1, 0, 0), (232, 1, 2, 3, 0, 0), (233, 2, 4, 80, 0, 0), (235, 1, 3, 3, 0, 0), (236, 1, 2, 3, 0, 0), (237, 1, 16, 0, 0, 0), (238, 1, 11, 0, 0, 0), (239, 2, 2, 4, 0, 0), (241, 1, 11, 0, 0, 0), (242, 1, 0, 0, 0, 0), (243, 1, 3, 1, 0, 0), (244, 2, 2, 4, 0, 0), (246, 1, 3, 2, 0, 0), (247, 3, 6, 255, 3, 0), (250, 2, 4, 10, 0, 0), (252, 3, 8, 258, 0, 0)]) rfl) ?_
    refine xg_t (xg_iload (va := (0, 2)) rfl rfl) ?_
    refine xg_t (xg_const) ?_
    refine xg_t (xg_icF (u := 2) (v := 3) rfl xnm0 xnm0 (by decide)) ?_
    refine xg_t (xg_aload (va := (2, 82)) rfl rfl) ?_
    refine xg_t (xg_iload (va := (0, 3)) rfl rfl) ?_
    refine xg_t (xg_iload (va := (0, u45)) rfl rfl) ?_
    refine xg_t (xg_bip) ?_
    refine xg_t (xg_const) ?_
    refine xg_t (xg_iload (va := (0, u45)) rfl rfl) ?_
    refine xg_t (xg_imul (u := 3) (v := u45) (z := 3 * u45) xnm0 xnm0 (by omega)) ?_
    refine xg_t (xg_iadd (u := 80) (v := 3 * u45) (z := 80 + (3 * u45)) xnm0 xnm0 (by omega)) ?_
    refine xg_t (xg_iload (va := (0, 2)) rfl rfl) ?_
    refine xg_t (xg_iadd (u := 80 + (3 * u45)) (v := 2) (z := (80 + (3 * u45)) + 2) xnm0 xnm0 (by omega)) ?_
    refine xg_t (xg_aload (va := (2, 82)) rfl rfl) ?_
    refine xg_t (xg_const) ?_
    refine xg_t (xg_iload (va := (0, 2)) rfl rfl) ?_
    refine xg_t (xg_const) ?_
    refine xg_t (xg_icT (u := 2) (v := 2) rfl xnm0 xnm0 (by decide)) ?_
    refine xg_t (xg_blk (b := [(255, 3, 5, 999, 0, 0)]) rfl) ?_
    refine xg_t (xg_sip) ?_
    refine xg_t (xg_blk (b := [(258, 3, 13, 199, 96, 196), (261, 3, 13, 211, 96, 200), (264, 3, 9, 4, 1, 0), (267, 3, 8, 224, 0, 0)]) rfl) ?_
    refine xg_cVi mX12_numbered (vs := [(0, 1), (0, 999)]) (rest := [(0, (80 + (3 * u45)) + 2), (0, u45), (0, 3), (2, 82)]) (cn1 := 0) (sl1 := 0) rfl (mNumbered (hI507) (by omega) (by omega) pk512.2.2.2) rfl (hF508.get (by decide) h82_503) rfl rfl rfl rfl rfl rfl (fun n523 w519 hq520 => ?_)
    obtain ⟨hn524, hI521, hF522⟩ := hq520
    clear hb474 hb476 hb478 hb480 hb482 hb484 hb486 hb488 hb490 hb492 hb496 hb498 hb500 hb502
    obtain ⟨hn525, hn526, hn527⟩ := hn524
    have pk528 : PK w w519 := PK.tr pk512 hn526
    have os529 : ∀ j, (j < 80 + 3 * u45 ∨ 83 + 3 * u45 ≤ j) → j < 140 → rwv w519 86 j = rwv w 86 j := fun j hj hl => (rwv_fr hF522 (by decide)).trans (os513 j hj hl)
    have ix530 : u45 < 4 → rwv w519 86 ((80 + (3 * u45)) + 0) = n405 := fun h => (rwv_fr hF522 (by decide)).trans (ix514 h)
    have ix531 : u45 < 4 → rwv w519 86 ((80 + (3 * u45)) + 1) = n462 := fun h => (rwv_fr hF522 (by decide)).trans (hp510 h)
    have rg532 : FA w519 ≠ 0 ∨ (1 ≤ n405 ∧ n405 ≤ 10) := rg515.imp_left hn526.1
    have rg533 : FA w519 ≠ 0 ∨ (1 ≤ n462 ∧ n462 ≤ 10) := rg516.imp_left hn526.1
    have mf534 : ∀ s, s < 7 → rwv w519 85 s = rwv w 85 s := fun s hs => (rwv_fr hF522 (by decide)).trans (mf517 s hs)
    have ms535 : mu w519 < mu w := Nat.lt_of_le_of_lt hn526.2.1 ms518
    clear ix514 hp510 rg515 rg516
    obtain ⟨f82_536, f82_538, f82_540, f82_542, f82_544, f82_546, f82_548, f82_550, f82_552, f82_554, f82_556, f82_557, f82_558, f82_560, f82_562, f82_564, h82_566, hb537, hb539, hb541, hb543, hb545, hb547, hb549, hb551, hb553, hb555, hb559, hb561, hb563, hb565, hb567⟩ := (hI521 82 (by decide) (by decide) : cp82 (wget w519 82))
    refine xg_cVv mX12_puts (vs := [(0, 3), (0, u45), (0, (80 + (3 * u45)) + 2), (0, n523)]) (rest := []) (cn1 := 0) (sl1 := 0) rfl (mPuts3 (hI521) (by omega) (by omega) (by omega) (fun _ => by omega)) rfl h82_566 rfl rfl rfl rfl rfl rfl (fun w568 hq569 => ?_)
    obtain ⟨hI570, hF571, hx572⟩ := hq569
    obtain ⟨hp573, hp574⟩ := hx572
    have pk575 : PK w w568 := PK.tr pk528 (PK.fr hF571 (by decide) (by decide) pk528.2.2.2)
    have os576 : ∀ j, (j < 80 + 3 * u45 ∨ 83 + 3 * u45 ≤ j) → j < 140 → rwv w568 86 j = rwv w 86 j := fun j hj hl => (hp574 j (by omega) hl).trans (os529 j hj hl)
    have ix577 : u45 < 4 → rwv w568 86 ((80 + (3 * u45)) + 0) = n405 := fun h => (hp574 _ (by omega) (by omega)).trans (ix530 h)
    have ix578 : u45 < 4 → rwv w568 86 ((80 + (3 * u45)) + 1) = n462 := fun h => (hp574 _ (by omega) (by omega)).trans (ix531 h)
    have rg579 : FA w568 ≠ 0 ∨ (1 ≤ n405 ∧ n405 ≤ 10) := rg532.imp_left (PK.fr hF571 (by decide) (by decide) pk528.2.2.2).1
    have rg580 : FA w568 ≠ 0 ∨ (1 ≤ n462 ∧ n462 ≤ 10) := rg533.imp_left (PK.fr hF571 (by decide) (by decide) pk528.2.2.2).1
    have rg581 : FA w568 ≠ 0 ∨ (1 ≤ n523 ∧ n523 ≤ 999) := hn527.imp_left (PK.fr hF571 (by decide) (by decide) pk528.2.2.2).1
    have mf582 : ∀ s, s < 7 → rwv w568 85 s = rwv w 85 s := fun s hs => (rwv_fr hF571 (by decide)).trans (mf534 s hs)
    have ms583 : mu w568 < mu w := Nat.lt_of_le_of_lt (PK.fr hF571 (by decide) (by decide) pk528.2.2.2).2.1 ms535
    clear ix530 ix531 rg532 rg533 hn527
    refine xg_t (xg_iinc (u := 2) (z := 3) (l1 := [(3, (0, u45)), (2, (0, at_)), (1, (0, 3)), (0, (2, 82))]) rfl rfl (by decide) rfl) ?_
    refine xg_t (xg_goto) ?_
    refine xg_t (xg_blk (b := [(224, 2, 2, 4, 0, 0), (226, 1, 3, 3, 0, 0), (227, 3, 6, 270, 3, 0), (230, 1, 0, 0, 0, 0), (231, 1, 2, 1, 0, 0), (232, 1, 2, 3, 0, 0), (233, 2, 4, 80, 0, 0), (235, 1, 3, 3, 0, 0), (236, 1, 2, 3, 0, 0), (237, 1, 16, 0, 0, 0), (238, 1, 11, 0, 0, 0), (239, 2, 2, 4, 0, 0), (241, 1, 11, 0, 0, 0), (242, 1, 0, 0, 0, 0), (243, 1, 3, 1, 0, 0), (244, 2, 2, 4, 0, 0), (246, 1, 3, 2, 0, 0), (247, 3, 6, 255, 3, 0), (250, 2, 4, 10, 0, 0), (252, 3, 8, 258, 0, 0)]) rfl) ?_
    refine xg_t (xg_iload (va := (0, 3)) rfl rfl) ?_
    refine xg_t (xg_const) ?_
    refine xg_t (xg_icT (u := 3) (v := 3) rfl xnm0 xnm0 (by decide)) ?_
    refine xg_t (xg_blk (b := [(270, 3, 8, 394, 0, 0)]) rfl) ?_
    refine xg_t (xg_goto) ?_
    refine xg_t (xg_drop (l1 := [(0, (2, 82)), (1, (0, 3)), (3, (0, u45))]) (List.forall_mem_cons.mpr ⟨List.mem_cons_of_mem _ (List.mem_cons_of_mem _ (List.mem_cons_of_mem _ (List.mem_cons_of_mem _ (List.mem_cons_self)))), List.forall_mem_cons.mpr ⟨List.mem_cons_of_mem _ (List.mem_cons_of_mem _ (List.mem_cons_of_mem _ (List.mem_cons_self))), List.forall_mem_cons.mpr ⟨List.mem_cons_of_mem _ (List.mem_cons_self), fun _ h => absurd h List.not_mem_nil⟩⟩⟩)) ?_
    have hX584 : FA w568 ≠ 0 ∨ u45 < 4 := Or.inr (by omega)
    exact jn68 w568 (hI570) ((((((((hF55.up (by decide)).tr (hF404.up (by decide))).tr (hF449.up (by decide))).tr (hF461.up (by decide))).tr (hF508.up (by decide))).tr (hF522.up (by decide))).tr (hF571.up (by decide)))) (⟨pk575, os576, ms583, mf582, hX584⟩)
  · refine xg_t (xg_icF (u := u45) (v := 4) rfl xnm0 xnm0 (xj_ltF (by omega) (by omega))) ?_
    refine xg_t (xg_aload (va := (2, 82)) rfl rfl) ?_
    refine xg_t (xg_const) ?_
    refine xg_t (xg_iload (va := (0, at_)) rfl rfl) ?_
    refine xg_cVv mX12_also (vs := [(0, 3), (0, at_)]) (rest := []) (cn1 := 0) (sl1 := 0) rfl (mAlso (hI) (by omega) (by omega) (by omega) (PK.rf hps).2.2.2) rfl h82_31 rfl rfl rfl rfl rfl rfl (fun w585 hq586 => ?_)
    obtain ⟨hI587, hF588, hx589⟩ := hq586
    have pk590 : PK w w585 := ⟨fun _ => hx589, Nat.le_of_eq (mu_fr hF588 (by decide)), fld_fr hF588 (by decide), Or.inr hx589⟩
    have pk591 : PK w w585 := PK.tr (PK.rf hps) pk590
    have os592 : ∀ j, (j < 80 + 3 * u45 ∨ 83 + 3 * u45 ≤ j) → j < 140 → rwv w585 86 j = rwv w 86 j := fun j hj hl => (rwv_fr hF588 (by decide)).trans ((fun j _ _ => rfl) j hj hl)
    have mf593 : ∀ s, s < 7 → rwv w585 85 s = rwv w 85 s := fun s hs => (rwv_fr hF588 (by decide)).trans ((fun _ _ => rfl) s hs)
    have hf594 := fld_fr (c := 82) (j := 7) hF588 (by decide)
    refine xg_t (xg_blk (b := [(64, 1, 0, 0, 0, 0), (65, 3, 13, 110, 96, 190), (68, 1, 2, 1, 0, 0), (69, 39, 33, 362, 0, 9)]) rfl) ?_
    refine xg_t (xg_aload (va := (2, 82)) rfl rfl) ?_
    refine xg_cVv mX12_advance (vs := []) (rest := []) (cn1 := 0) (sl1 := 0) rfl (mAdvance (hI587)) rfl (hF588.get (by decide) h82_31) rfl rfl rfl rfl rfl rfl (fun w595 hq596 => ?_)
    obtain ⟨hI597, hF598, hx599⟩ := hq596
    clear hb2 hb4 hb6 hb8 hb10 hb12 hb14 hb16 hb18 hb20 hb24 hb26 hb28 hb30
    obtain ⟨hv600, hv601, hv602, hv603⟩ := hx599
    have hf605 := FA_fr hF598 (by decide)
    have hs606 := pk591.2.2.2
    unfold PS at hs606
    have pk604 : PK w585 w595 := ⟨fun _ => by omega, hv600, hv603, (show fld w595 82 10 = 0 ∨ FA w595 ≠ 0 by omega)⟩
    clear hs606
    have pk607 : PK w w595 := PK.tr pk591 pk604
    have os608 : ∀ j, (j < 80 + 3 * u45 ∨ 83 + 3 * u45 ≤ j) → j < 140 → rwv w595 86 j = rwv w 86 j := fun j hj hl => (rwv_fr hF598 (by decide)).trans (os592 j hj hl)
    have rg609 : FA w595 ≠ 0 ∨ 0 = 1 := (Or.inl hx589 : FA w585 ≠ 0 ∨ 0 = 1).imp_left pk604.1
    have mf610 : ∀ s, s < 7 → rwv w595 85 s = rwv w 85 s := fun s hs => (rwv_fr hF598 (by decide)).trans (mf593 s hs)
    have ms611 : mu w595 < mu w := Nat.lt_of_lt_of_le (hv601 (by omega)) pk591.2.1
    clear hv601
    have jn612 : ∀ (w613 : List (List xE)), xMnv w613 → xFr [82, 83, 85, 86, 87] w w613 → (PK w w613 ∧ (∀ j, (j < 80 + 3 * u45 ∨ 83 + 3 * u45 ≤ j) → j < 140 → rwv w613 86 j = rwv w 86 j) ∧ mu w613 < mu w ∧ (∀ s, s < 7 → rwv w613 85 s = rwv w 85 s) ∧ (FA w613 ≠ 0 ∨ u45 < 4)) → xTo (d + 7) mX12_aLine (394, [], [(0, (2, 82)), (1, (0, 3)), (3, (0, u45))], [], (w613, bd, fc, 0, 0, rr)) (fun φ => ∃ w', xEnd 0 [] (w', bd, fc, 0, 0, rr) φ ∧ xMnv w' ∧ xFr [82, 83, 85, 86, 87] w w' ∧ ((FA w ≠ 0 → FA w' ≠ 0) ∧ PS w' ∧ ((fld w' 82 10 = 1 ∧ mu w' = mu w ∧ fld w' 82 14 = fld w 82 14 ∧ ∀ s, s < 7 → rwv w' 85 s = rwv w 85 s) ∨ (mu w' < mu w ∧ fld w' 82 14 = fld w 82 14 + 1 ∧ ∀ s, s < 7 → rwv w' 85 s ≤ rwv w 85 s + 1)) ∧ (FA w' ≠ 0 ∨ (DATA w → DATA w')))) := by
      intro w613 hI614 hF615 he616
      obtain ⟨hj617, hj618, hj619, hj620, hj621⟩ := he616
      refine xg_t (xg_blk (b := [(394, 1, 0, 0, 0, 0), (395, 3, 1, 12, 10, 180), (398, 3, 7, 416, 1, 0), (401, 1, 0, 0, 0, 0), (402, 3, 1, 12, 7, 151), (405, 1, 3, 2, 0, 0), (406, 3, 6, 416, 1, 0), (409, 1, 0, 0, 0, 0), (410, 3, 13, 110, 96, 190), (413, 3, 8, 420, 0, 0)]) rfl) ?_
      refine xg_t (xg_aload (va := (2, 82)) rfl rfl) ?_
      obtain ⟨f82_622, f82_624, f82_626, f82_628, f82_630, f82_632, f82_634, f82_636, f82_638, f82_640, f82_642, f82_643, f82_644, f82_646, f82_648, f82_650, h82_652, hb623, hb625, hb627, hb629, hb631, hb633, hb635, hb637, hb639, hb641, hb645, hb647, hb649, hb651, hb653⟩ := (hI614 82 (by decide) (by decide) : cp82 (wget w613 82))
      refine xg_t (xg_getf (va := (0, f82_638)) h82_652 rfl) ?_
      by_cases hc654 : f82_638 = 0
      · refine xg_t (xg_ifF (u := f82_638) rfl xnm0 (xj_neF hc654)) ?_
        refine xg_t (xg_aload (va := (2, 82)) rfl rfl) ?_
        refine xg_t (xg_getf (va := (0, f82_632)) h82_652 rfl) ?_
        refine xg_t (xg_const) ?_
        by_cases hc655 : f82_632 = 2
        · refine xg_t (xg_icF (u := f82_632) (v := 2) rfl xnm0 xnm0 (xj_neF hc655)) ?_
          refine xg_t (xg_aload (va := (2, 82)) rfl rfl) ?_
          refine xg_cVv mX12_advance (vs := []) (rest := []) (cn1 := 0) (sl1 := 0) rfl (mAdvance (hI614)) rfl h82_652 rfl rfl rfl rfl rfl rfl (fun w656 hq657 => ?_)
          obtain ⟨hI658, hF659, hx660⟩ := hq657
          clear hb623 hb625 hb627 hb629 hb631 hb633 hb635 hb637 hb639 hb641 hb645 hb647 hb649 hb651
          obtain ⟨hv661, hv662, hv663, hv664⟩ := hx660
          have hf666 := FA_fr hF659 (by decide)
          have hs667 := hj617.2.2.2
          unfold PS at hs667
          have pk665 : PK w613 w656 := ⟨fun _ => by omega, hv661, hv664, (show fld w656 82 10 = 0 ∨ FA w656 ≠ 0 by omega)⟩
          clear hs667
          clear hv662
          have pk668 : PK w w656 := PK.tr hj617 pk665
          have os669 : ∀ j, (j < 80 + 3 * u45 ∨ 83 + 3 * u45 ≤ j) → j < 140 → rwv w656 86 j = rwv w 86 j := fun j hj hl => (rwv_fr hF659 (by decide)).trans (hj618 j hj hl)
          have rg670 : FA w656 ≠ 0 ∨ u45 < 4 := hj621.imp_left pk665.1
          have mf671 : ∀ s, s < 7 → rwv w656 85 s = rwv w 85 s := fun s hs => (rwv_fr hF659 (by decide)).trans (hj620 s hs)
          have ms672 : mu w656 < mu w := Nat.lt_of_le_of_lt pk665.2.1 hj619
          clear hj621
          refine xg_t (xg_goto) ?_
          refine xg_t (xg_blk (b := [(420, 1, 0, 0, 0, 0), (421, 3, 1, 12, 11, 17), (424, 1, 2, 1, 0, 0), (425, 1, 39, 0, 0, 0), (426, 1, 10, 0, 0, 0), (427, 1, 3, 1, 0, 0), (428, 1, 11, 0, 0, 0), (429, 1, 17, 0, 0, 0), (430, 1, 0, 0, 0, 0), (431, 1, 19, 0, 0, 0), (432, 3, 1, 12, 14, 212), (435, 1, 3, 1, 0, 0), (436, 1, 11, 0, 0, 0), (437, 3, 14, 12, 14, 212), (440, 1, 12, 0, 0, 0)]) rfl) ?_
          obtain ⟨f82_673, f82_675, f82_677, f82_679, f82_681, f82_683, f82_685, f82_687, f82_689, f82_691, f82_693, f82_694, f82_695, f82_697, f82_699, f82_701, h82_703, hb674, hb676, hb678, hb680, hb682, hb684, hb686, hb688, hb690, hb692, hb696, hb698, hb700, hb702, hb704⟩ := (hI658 82 (by decide) (by decide) : cp82 (wget w656 82))
          have hf705 : fld w656 82 4 = f82_677 := fld_of h82_703
          have hf706 : fld w656 82 5 = f82_679 := fld_of h82_703
          have hf707 : fld w656 82 7 = f82_683 := fld_of h82_703
          have hf708 : fld w656 82 10 = f82_689 := fld_of h82_703
          have hf709 : fld w656 82 14 = f82_691 := fld_of h82_703
          have hu710 : mu w656 = 2 * (fld w656 82 4 - fld w656 82 5) + min 1 (fld w656 82 7) := rfl
          have hf711 := pk668.2.2.1
          have hl712 : f82_691 ≤ 1000 := by omega
          refine xg_t (xg_aload (va := (2, 82)) rfl rfl) ?_
          refine xg_t (xg_getf (va := (2, 85)) h82_703 rfl) ?_
          refine xg_t (xg_iload (va := (0, 3)) rfl rfl) ?_
          refine xg_t (xg_dup2 rfl) ?_
          obtain ⟨g85_713, h85_714, hb715⟩ := (hI658 85 (by decide) (by decide) : cpI 7 52 4294967295 (wget w656 85))
          have h85_714 : xRow w656 85 7 52 g85_713 := h85_714
          refine xg_ialdB (n := 3) (B := 4294967295) h85_714 (hb715) xnm0 (by omega) (fun u716 hu717 he718 => ?_)
          have hl719 : u716 = u45 := by have q1 := rwv_of h85_714 (show 3 < 7 by decide); have q2 := mf671 3 (by decide); omega
          refine xg_t (xg_const) ?_
          refine xg_t (xg_iadd (u := u716) (v := 1) (z := u716 + 1) xnm0 xnm0 (by omega)) ?_
          refine xg_iastK (n := 3) (u := u716 + 1) h85_714 xnm0 xnm0 rfl (by omega) (fun w720 hr721 hb722 => ?_)
          refine xg_t (xg_aload (va := (2, 82)) rfl rfl) ?_
          refine xg_t (xg_dup rfl) ?_
          refine xg_t (xg_getf (va := (0, f82_691)) (hb722.get (by decide) h82_703) rfl) ?_
          refine xg_t (xg_const) ?_
          refine xg_t (xg_iadd (u := f82_691) (v := 1) (z := f82_691 + 1) xnm0 xnm0 (by omega)) ?_
          refine xg_putI (fl1 := [(2, 83), (2, 84), (0, f82_673), (0, f82_675), (0, f82_677), (0, f82_679), (0, f82_681), (0, f82_683), (0, f82_685), (0, f82_687), (0, f82_689), (2, 85), (2, 86), (2, 87), (0, f82_691 + 1), (2, 88), (2, 89), (2, 90), (2, 91), (2, 92), (2, 93), (2, 94), (4, f82_693), (4, f82_694), (0, f82_695), (2, 95), (2, 96), (2, 97), (2, 98), (2, 99), (2, 100), (2, 101), (2, 102), (0, f82_697), (2, 103), (2, 104), (2, 105), (2, 106), (2, 107), (2, 108), (2, 109), (0, f82_699), (0, f82_701), (2, 110), (2, 111), (2, 112), (2, 113)]) (hb722.get (by decide) h82_703) rfl rfl rfl (fun w723 hk724 hb725 => ?_)
          have hF726 : xFr [82, 85] w656 w723 := ((xFr.of (S := [82, 85]) hb722 (by decide)).tr (xFr.of (S := [82, 85]) hb725 (by decide)))
          have hA727 := FA_fr hF726 (by decide)
          have hf728 : fld w723 82 4 = f82_677 := fld_of hk724
          have hf729 : fld w723 82 5 = f82_679 := fld_of hk724
          have hf730 : fld w723 82 7 = f82_683 := fld_of hk724
          have hf731 : fld w723 82 10 = f82_689 := fld_of hk724
          have hf732 : fld w723 82 14 = f82_691 + 1 := fld_of hk724
          have hu733 : mu w723 = 2 * (fld w723 82 4 - fld w723 82 5) + min 1 (fld w723 82 7) := rfl
          have pq734 := pk668
          unfold PK PS at pq734
          have hM735 : ∀ s, s < 7 → s ≠ 3 → rwv w723 85 s = rwv w 85 s := fun s hs hn => (rwv_of (hr721.but hb725 (by decide)) hs).trans ((if_neg hn).trans ((rwv_of h85_714 hs).symm.trans (mf671 s hs)))
          have hM736 : rwv w723 85 3 = u45 + 1 := (rwv_of (hr721.but hb725 (by decide)) (by decide)).trans ((if_pos rfl).trans (by omega))
          have hM737 : ∀ s, s < 7 → rwv w723 85 s ≤ rwv w 85 s + 1 := fun s hs => by
            by_cases z : s = 3
            · subst z; omega
            · rw [hM735 s hs z]; omega
          have hO738 : ∀ j, (j < 80 + 3 * u45 ∨ 83 + 3 * u45 ≤ j) → j < 140 → rwv w723 86 j = rwv w 86 j := fun j hj hl => (rwv_fr hF726 (by decide)).trans (os669 j hj hl)
          have hl740 : FA w656 ≠ 0 ∨ u45 < 4 := rg670
          have hN739 : FA w723 ≠ 0 ∨ 4 ≤ u45 ∨ True := Or.inr (Or.inr trivial)
          have hX741 : FA w723 ≠ 0 ∨ u45 < 4 := by omega
          have hD742 : FA w723 ≠ 0 ∨ (DATA w → DATA w723) := by
            by_cases z : FA w723 ≠ 0
            · exact Or.inl z
            · exact Or.inr (fun hd => hd.s3 hM735 hK48 hM736 (hX741.resolve_left z) hO738 ((hN739.resolve_left z).resolve_left (by have := hX741.resolve_left z; omega)))
          exact xg_e ⟨w723, ⟨rfl, rfl⟩, xMnv.up (S := [85, 82]) hI658 ((xFr.of (S := [85, 82]) hb722 (by decide)).tr (xFr.of (S := [85, 82]) hb725 (by decide))) (List.forall_mem_cons.mpr ⟨(show cpI 7 52 4294967295 (wget w723 85) from ⟨_, (hr721.but hb725 (by decide)), xrb (by omega) (hb715)⟩), List.forall_mem_cons.mpr ⟨(show cp82 (wget w723 82) from ⟨f82_673, f82_675, f82_677, f82_679, f82_681, f82_683, f82_685, f82_687, f82_689, f82_691 + 1, f82_693, f82_694, f82_695, f82_697, f82_699, f82_701, hk724, hb674, hb676, hb678, hb680, hb682, hb684, hb686, hb688, hb690, by omega, hb696, hb698, hb700, hb702, by omega⟩), fun _ h => absurd h List.not_mem_nil⟩⟩), ((hF615.tr (hF659.up (by decide))).tr ((xFr.of (S := [82, 83, 85, 86, 87]) hb722 (by decide)).tr (xFr.of (S := [82, 83, 85, 86, 87]) hb725 (by decide)))), ⟨fun h => by have := pq734.1 h; omega, (show fld w723 82 10 = 0 ∨ FA w723 ≠ 0 by omega), Or.inr ⟨by have := ms672; omega, by omega, hM737⟩, hD742⟩⟩
        · refine xg_t (xg_icT (u := f82_632) (v := 2) rfl xnm0 xnm0 (xj_neT hc655)) ?_
          refine xg_t (xg_blk (b := [(416, 1, 0, 0, 0, 0), (417, 3, 13, 140, 96, 183)]) rfl) ?_
          refine xg_t (xg_aload (va := (2, 82)) rfl rfl) ?_
          refine xg_cVv mX12_ends (vs := []) (rest := []) (cn1 := 0) (sl1 := 0) rfl (mEnds (hI614) hj617.2.2.2) rfl h82_652 rfl rfl rfl rfl rfl rfl (fun w743 hq744 => ?_)
          obtain ⟨hI745, hF746, hx747⟩ := hq744
          clear hb623 hb625 hb627 hb629 hb631 hb633 hb635 hb637 hb639 hb641 hb645 hb647 hb649 hb651
          obtain ⟨hv748, hv749, hv750, hv751⟩ := hx747
          have pk752 : PK w613 w743 := ⟨fun _ => hv748, by omega, by omega, Or.inr hv748⟩
          have pk753 : PK w w743 := PK.tr hj617 pk752
          have os754 : ∀ j, (j < 80 + 3 * u45 ∨ 83 + 3 * u45 ≤ j) → j < 140 → rwv w743 86 j = rwv w 86 j := fun j hj hl => (rwv_fr hF746 (by decide)).trans (hj618 j hj hl)
          have rg755 : FA w743 ≠ 0 ∨ u45 < 4 := hj621.imp_left pk752.1
          have mf756 : ∀ s, s < 7 → rwv w743 85 s = rwv w 85 s := fun s hs => (rwv_fr hF746 (by decide)).trans (hj620 s hs)
          have ms757 : mu w743 < mu w := Nat.lt_of_le_of_lt pk752.2.1 hj619
          clear hj621
          refine xg_t (xg_blk (b := [(420, 1, 0, 0, 0, 0), (421, 3, 1, 12, 11, 17), (424, 1, 2, 1, 0, 0), (425, 1, 39, 0, 0, 0), (426, 1, 10, 0, 0, 0), (427, 1, 3, 1, 0, 0), (428, 1, 11, 0, 0, 0), (429, 1, 17, 0, 0, 0), (430, 1, 0, 0, 0, 0), (431, 1, 19, 0, 0, 0), (432, 3, 1, 12, 14, 212), (435, 1, 3, 1, 0, 0), (436, 1, 11, 0, 0, 0), (437, 3, 14, 12, 14, 212), (440, 1, 12, 0, 0, 0)]) rfl) ?_
          obtain ⟨f82_758, f82_760, f82_762, f82_764, f82_766, f82_768, f82_770, f82_772, f82_774, f82_776, f82_778, f82_779, f82_780, f82_782, f82_784, f82_786, h82_788, hb759, hb761, hb763, hb765, hb767, hb769, hb771, hb773, hb775, hb777, hb781, hb783, hb785, hb787, hb789⟩ := (hI745 82 (by decide) (by decide) : cp82 (wget w743 82))
          have hf790 : fld w743 82 4 = f82_762 := fld_of h82_788
          have hf791 : fld w743 82 5 = f82_764 := fld_of h82_788
          have hf792 : fld w743 82 7 = f82_768 := fld_of h82_788
          have hf793 : fld w743 82 10 = f82_774 := fld_of h82_788
          have hf794 : fld w743 82 14 = f82_776 := fld_of h82_788
          have hu795 : mu w743 = 2 * (fld w743 82 4 - fld w743 82 5) + min 1 (fld w743 82 7) := rfl
          have hf796 := pk753.2.2.1
          have hl797 : f82_776 ≤ 1000 := by omega
          refine xg_t (xg_aload (va := (2, 82)) rfl rfl) ?_
          refine xg_t (xg_getf (va := (2, 85)) h82_788 rfl) ?_
          refine xg_t (xg_iload (va := (0, 3)) rfl rfl) ?_
          refine xg_t (xg_dup2 rfl) ?_
          obtain ⟨g85_798, h85_799, hb800⟩ := (hI745 85 (by decide) (by decide) : cpI 7 52 4294967295 (wget w743 85))
          have h85_799 : xRow w743 85 7 52 g85_798 := h85_799
          refine xg_ialdB (n := 3) (B := 4294967295) h85_799 (hb800) xnm0 (by omega) (fun u801 hu802 he803 => ?_)
          have hl804 : u801 = u45 := by have q1 := rwv_of h85_799 (show 3 < 7 by decide); have q2 := mf756 3 (by decide); omega
          refine xg_t (xg_const) ?_
          refine xg_t (xg_iadd (u := u801) (v := 1) (z := u801 + 1) xnm0 xnm0 (by omega)) ?_
          refine xg_iastK (n := 3) (u := u801 + 1) h85_799 xnm0 xnm0 rfl (by omega) (fun w805 hr806 hb807 => ?_)
          refine xg_t (xg_aload (va := (2, 82)) rfl rfl) ?_
          refine xg_t (xg_dup rfl) ?_
          refine xg_t (xg_getf (va := (0, f82_776)) (hb807.get (by decide) h82_788) rfl) ?_
          refine xg_t (xg_const) ?_
          refine xg_t (xg_iadd (u := f82_776) (v := 1) (z := f82_776 + 1) xnm0 xnm0 (by omega)) ?_
          refine xg_putI (fl1 := [(2, 83), (2, 84), (0, f82_758), (0, f82_760), (0, f82_762), (0, f82_764), (0, f82_766), (0, f82_768), (0, f82_770), (0, f82_772), (0, f82_774), (2, 85), (2, 86), (2, 87), (0, f82_776 + 1), (2, 88), (2, 89), (2, 90), (2, 91), (2, 92), (2, 93), (2, 94), (4, f82_778), (4, f82_779), (0, f82_780), (2, 95), (2, 96), (2, 97), (2, 98), (2, 99), (2, 100), (2, 101), (2, 102), (0, f82_782), (2, 103), (2, 104), (2, 105), (2, 106), (2, 107), (2, 108), (2, 109), (0, f82_784), (0, f82_786), (2, 110), (2, 111), (2, 112), (2, 113)]) (hb807.get (by decide) h82_788) rfl rfl rfl (fun w808 hk809 hb810 => ?_)
          have hF811 : xFr [82, 85] w743 w808 := ((xFr.of (S := [82, 85]) hb807 (by decide)).tr (xFr.of (S := [82, 85]) hb810 (by decide)))
          have hA812 := FA_fr hF811 (by decide)
          have hf813 : fld w808 82 4 = f82_762 := fld_of hk809
          have hf814 : fld w808 82 5 = f82_764 := fld_of hk809
          have hf815 : fld w808 82 7 = f82_768 := fld_of hk809
          have hf816 : fld w808 82 10 = f82_774 := fld_of hk809
          have hf817 : fld w808 82 14 = f82_776 + 1 := fld_of hk809
          have hu818 : mu w808 = 2 * (fld w808 82 4 - fld w808 82 5) + min 1 (fld w808 82 7) := rfl
          have pq819 := pk753
          unfold PK PS at pq819
          have hM820 : ∀ s, s < 7 → s ≠ 3 → rwv w808 85 s = rwv w 85 s := fun s hs hn => (rwv_of (hr806.but hb810 (by decide)) hs).trans ((if_neg hn).trans ((rwv_of h85_799 hs).symm.trans (mf756 s hs)))
          have hM821 : rwv w808 85 3 = u45 + 1 := (rwv_of (hr806.but hb810 (by decide)) (by decide)).trans ((if_pos rfl).trans (by omega))
          have hM822 : ∀ s, s < 7 → rwv w808 85 s ≤ rwv w 85 s + 1 := fun s hs => by
            by_cases z : s = 3
            · subst z; omega
            · rw [hM820 s hs z]; omega
          have hO823 : ∀ j, (j < 80 + 3 * u45 ∨ 83 + 3 * u45 ≤ j) → j < 140 → rwv w808 86 j = rwv w 86 j := fun j hj hl => (rwv_fr hF811 (by decide)).trans (os754 j hj hl)
          have hl825 : FA w743 ≠ 0 ∨ u45 < 4 := rg755
          have hN824 : FA w808 ≠ 0 ∨ 4 ≤ u45 ∨ True := Or.inr (Or.inr trivial)
          have hX826 : FA w808 ≠ 0 ∨ u45 < 4 := by omega
          have hD827 : FA w808 ≠ 0 ∨ (DATA w → DATA w808) := by
            by_cases z : FA w808 ≠ 0
            · exact Or.inl z
            · exact Or.inr (fun hd => hd.s3 hM820 hK48 hM821 (hX826.resolve_left z) hO823 ((hN824.resolve_left z).resolve_left (by have := hX826.resolve_left z; omega)))
          exact xg_e ⟨w808, ⟨rfl, rfl⟩, xMnv.up (S := [85, 82]) hI745 ((xFr.of (S := [85, 82]) hb807 (by decide)).tr (xFr.of (S := [85, 82]) hb810 (by decide))) (List.forall_mem_cons.mpr ⟨(show cpI 7 52 4294967295 (wget w808 85) from ⟨_, (hr806.but hb810 (by decide)), xrb (by omega) (hb800)⟩), List.forall_mem_cons.mpr ⟨(show cp82 (wget w808 82) from ⟨f82_758, f82_760, f82_762, f82_764, f82_766, f82_768, f82_770, f82_772, f82_774, f82_776 + 1, f82_778, f82_779, f82_780, f82_782, f82_784, f82_786, hk809, hb759, hb761, hb763, hb765, hb767, hb769, hb771, hb773, hb775, by omega, hb781, hb783, hb785, hb787, by omega⟩), fun _ h => absurd h List.not_mem_nil⟩⟩), ((hF615.tr (hF746.up (by decide))).tr ((xFr.of (S := [82, 83, 85, 86, 87]) hb807 (by decide)).tr (xFr.of (S := [82, 83, 85, 86, 87]) hb810 (by decide)))), ⟨fun h => by have := pq819.1 h; omega, (show fld w808 82 10 = 0 ∨ FA w808 ≠ 0 by omega), Or.inr ⟨by have := ms757; omega, by omega, hM822⟩, hD827⟩⟩
      · refine xg_t (xg_ifT (u := f82_638) rfl xnm0 (xj_neT hc654)) ?_
        refine xg_t (xg_blk (b := [(416, 1, 0, 0, 0, 0), (417, 3, 13, 140, 96, 183)]) rfl) ?_
        refine xg_t (xg_aload (va := (2, 82)) rfl rfl) ?_
        refine xg_cVv mX12_ends (vs := []) (rest := []) (cn1 := 0) (sl1 := 0) rfl (mEnds (hI614) hj617.2.2.2) rfl h82_652 rfl rfl rfl rfl rfl rfl (fun w828 hq829 => ?_)
        obtain ⟨hI830, hF831, hx832⟩ := hq829
        clear hb623 hb625 hb627 hb629 hb631 hb633 hb635 hb637 hb639 hb641 hb645 hb647 hb649 hb651
        obtain ⟨hv833, hv834, hv835, hv836⟩ := hx832
        have pk837 : PK w613 w828 := ⟨fun _ => hv833, by omega, by omega, Or.inr hv833⟩
        have pk838 : PK w w828 := PK.tr hj617 pk837
        have os839 : ∀ j, (j < 80 + 3 * u45 ∨ 83 + 3 * u45 ≤ j) → j < 140 → rwv w828 86 j = rwv w 86 j := fun j hj hl => (rwv_fr hF831 (by decide)).trans (hj618 j hj hl)
        have rg840 : FA w828 ≠ 0 ∨ u45 < 4 := hj621.imp_left pk837.1
        have mf841 : ∀ s, s < 7 → rwv w828 85 s = rwv w 85 s := fun s hs => (rwv_fr hF831 (by decide)).trans (hj620 s hs)
        have ms842 : mu w828 < mu w := Nat.lt_of_le_of_lt pk837.2.1 hj619
        clear hj621
        refine xg_t (xg_blk (b := [(420, 1, 0, 0, 0, 0), (421, 3, 1, 12, 11, 17), (424, 1, 2, 1, 0, 0), (425, 1, 39, 0, 0, 0), (426, 1, 10, 0, 0, 0), (427, 1, 3, 1, 0, 0), (428, 1, 11, 0, 0, 0), (429, 1, 17, 0, 0, 0), (430, 1, 0, 0, 0, 0), (431, 1, 19, 0, 0, 0), (432, 3, 1, 12, 14, 212), (435, 1, 3, 1, 0, 0), (436, 1, 11, 0, 0, 0), (437, 3, 14, 12, 14, 212), (440, 1, 12, 0, 0, 0)]) rfl) ?_
        obtain ⟨f82_843, f82_845, f82_847, f82_849, f82_851, f82_853, f82_855, f82_857, f82_859, f82_861, f82_863, f82_864, f82_865, f82_867, f82_869, f82_871, h82_873, hb844, hb846, hb848, hb850, hb852, hb854, hb856, hb858, hb860, hb862, hb866, hb868, hb870, hb872, hb874⟩ := (hI830 82 (by decide) (by decide) : cp82 (wget w828 82))
        have hf875 : fld w828 82 4 = f82_847 := fld_of h82_873
        have hf876 : fld w828 82 5 = f82_849 := fld_of h82_873
        have hf877 : fld w828 82 7 = f82_853 := fld_of h82_873
        have hf878 : fld w828 82 10 = f82_859 := fld_of h82_873
        have hf879 : fld w828 82 14 = f82_861 := fld_of h82_873
        have hu880 : mu w828 = 2 * (fld w828 82 4 - fld w828 82 5) + min 1 (fld w828 82 7) := rfl
        have hf881 := pk838.2.2.1
        have hl882 : f82_861 ≤ 1000 := by omega
        refine xg_t (xg_aload (va := (2, 82)) rfl rfl) ?_
        refine xg_t (xg_getf (va := (2, 85)) h82_873 rfl) ?_
        refine xg_t (xg_iload (va := (0, 3)) rfl rfl) ?_
        refine xg_t (xg_dup2 rfl) ?_
        obtain ⟨g85_883, h85_884, hb885⟩ := (hI830 85 (by decide) (by decide) : cpI 7 52 4294967295 (wget w828 85))
        have h85_884 : xRow w828 85 7 52 g85_883 := h85_884
        refine xg_ialdB (n := 3) (B := 4294967295) h85_884 (hb885) xnm0 (by omega) (fun u886 hu887 he888 => ?_)
        have hl889 : u886 = u45 := by have q1 := rwv_of h85_884 (show 3 < 7 by decide); have q2 := mf841 3 (by decide); omega
        refine xg_t (xg_const) ?_
        refine xg_t (xg_iadd (u := u886) (v := 1) (z := u886 + 1) xnm0 xnm0 (by omega)) ?_
        refine xg_iastK (n := 3) (u := u886 + 1) h85_884 xnm0 xnm0 rfl (by omega) (fun w890 hr891 hb892 => ?_)
        refine xg_t (xg_aload (va := (2, 82)) rfl rfl) ?_
        refine xg_t (xg_dup rfl) ?_
        refine xg_t (xg_getf (va := (0, f82_861)) (hb892.get (by decide) h82_873) rfl) ?_
        refine xg_t (xg_const) ?_
        refine xg_t (xg_iadd (u := f82_861) (v := 1) (z := f82_861 + 1) xnm0 xnm0 (by omega)) ?_
        refine xg_putI (fl1 := [(2, 83), (2, 84), (0, f82_843), (0, f82_845), (0, f82_847), (0, f82_849), (0, f82_851), (0, f82_853), (0, f82_855), (0, f82_857), (0, f82_859), (2, 85), (2, 86), (2, 87), (0, f82_861 + 1), (2, 88), (2, 89), (2, 90), (2, 91), (2, 92), (2, 93), (2, 94), (4, f82_863), (4, f82_864), (0, f82_865), (2, 95), (2, 96), (2, 97), (2, 98), (2, 99), (2, 100), (2, 101), (2, 102), (0, f82_867), (2, 103), (2, 104), (2, 105), (2, 106), (2, 107), (2, 108), (2, 109), (0, f82_869), (0, f82_871), (2, 110), (2, 111), (2, 112), (2, 113)]) (hb892.get (by decide) h82_873) rfl rfl rfl (fun w893 hk894 hb895 => ?_)
        have hF896 : xFr [82, 85] w828 w893 := ((xFr.of (S := [82, 85]) hb892 (by decide)).tr (xFr.of (S := [82, 85]) hb895 (by decide)))
        have hA897 := FA_fr hF896 (by decide)
        have hf898 : fld w893 82 4 = f82_847 := fld_of hk894
        have hf899 : fld w893 82 5 = f82_849 := fld_of hk894
        have hf900 : fld w893 82 7 = f82_853 := fld_of hk894
        have hf901 : fld w893 82 10 = f82_859 := fld_of hk894
        have hf902 : fld w893 82 14 = f82_861 + 1 := fld_of hk894
        have hu903 : mu w893 = 2 * (fld w893 82 4 - fld w893 82 5) + min 1 (fld w893 82 7) := rfl
        have pq904 := pk838
        unfold PK PS at pq904
        have hM905 : ∀ s, s < 7 → s ≠ 3 → rwv w893 85 s = rwv w 85 s := fun s hs hn => (rwv_of (hr891.but hb895 (by decide)) hs).trans ((if_neg hn).trans ((rwv_of h85_884 hs).symm.trans (mf841 s hs)))
        have hM906 : rwv w893 85 3 = u45 + 1 := (rwv_of (hr891.but hb895 (by decide)) (by decide)).trans ((if_pos rfl).trans (by omega))
        have hM907 : ∀ s, s < 7 → rwv w893 85 s ≤ rwv w 85 s + 1 := fun s hs => by
          by_cases z : s = 3
          · subst z; omega
          · rw [hM905 s hs z]; omega
        have hO908 : ∀ j, (j < 80 + 3 * u45 ∨ 83 + 3 * u45 ≤ j) → j < 140 → rwv w893 86 j = rwv w 86 j := fun j hj hl => (rwv_fr hF896 (by decide)).trans (os839 j hj hl)
        have hl910 : FA w828 ≠ 0 ∨ u45 < 4 := rg840
        have hN909 : FA w893 ≠ 0 ∨ 4 ≤ u45 ∨ True := Or.inr (Or.inr trivial)
        have hX911 : FA w893 ≠ 0 ∨ u45 < 4 := by omega
        have hD912 : FA w893 ≠ 0 ∨ (DATA w → DATA w893) := by
          by_cases z : FA w893 ≠ 0
          · exact Or.inl z
          · exact Or.inr (fun hd => hd.s3 hM905 hK48 hM906 (hX911.resolve_left z) hO908 ((hN909.resolve_left z).resolve_left (by have := hX911.resolve_left z; omega)))
        exact xg_e ⟨w893, ⟨rfl, rfl⟩, xMnv.up (S := [85, 82]) hI830 ((xFr.of (S := [85, 82]) hb892 (by decide)).tr (xFr.of (S := [85, 82]) hb895 (by decide))) (List.forall_mem_cons.mpr ⟨(show cpI 7 52 4294967295 (wget w893 85) from ⟨_, (hr891.but hb895 (by decide)), xrb (by omega) (hb885)⟩), List.forall_mem_cons.mpr ⟨(show cp82 (wget w893 82) from ⟨f82_843, f82_845, f82_847, f82_849, f82_851, f82_853, f82_855, f82_857, f82_859, f82_861 + 1, f82_863, f82_864, f82_865, f82_867, f82_869, f82_871, hk894, hb844, hb846, hb848, hb850, hb852, hb854, hb856, hb858, hb860, by omega, hb866, hb868, hb870, hb872, by omega⟩), fun _ h => absurd h List.not_mem_nil⟩⟩), ((hF615.tr (hF831.up (by decide))).tr ((xFr.of (S := [82, 83, 85, 86, 87]) hb892 (by decide)).tr (xFr.of (S := [82, 83, 85, 86, 87]) hb895 (by decide)))), ⟨fun h => by have := pq904.1 h; omega, (show fld w893 82 10 = 0 ∨ FA w893 ≠ 0 by omega), Or.inr ⟨by have := ms842; omega, by omega, hM907⟩, hD912⟩⟩
    refine xg_t (xg_iload (va := (0, 3)) rfl rfl) ?_
    refine xg_t (xg_swt (ks := [(0, 108), (1, 116), (2, 180), (3, 221), (4, 273), (5, 326)]) (u := 3) (z := 221) rfl rfl rfl xnm0 (xsw_n (by omega) (xsw_n (by omega) (xsw_n (by omega) (xsw_y rfl))))) ?_
    refine xg_t (xg_blk (b := [(221, 1, 3, 0, 0, 0), (222, 2, 15, 4, 0, 0)]) rfl) ?_
    refine xg_t (xg_const) ?_
    refine xg_t (xg_istore (l1 := [(3, (0, u45)), (2, (0, at_)), (1, (0, 3)), (0, (2, 82))]) rfl rfl rfl) ?_
    refine xg_t (xg_blk (b := [(224, 2, 2, 4, 0, 0), (226, 1, 3, 3, 0, 0), (227, 3, 6, 270, 3, 0), (230, 1, 0, 0, 0, 0), (231, 1, 2, 1, 0, 0), (232, 1, 2, 3, 0, 0), (233, 2, 4, 80, 0, 0), (235, 1, 3, 3, 0, 0), (236, 1, 2, 3, 0, 0), (237, 1, 16, 0, 0, 0), (238, 1, 11, 0, 0, 0), (239, 2, 2, 4, 0, 0), (241, 1, 11, 0, 0, 0), (242, 1, 0, 0, 0, 0), (243, 1, 3, 1, 0, 0), (244, 2, 2, 4, 0, 0), (246, 1, 3, 2, 0, 0), (247, 3, 6, 255, 3, 0), (250, 2, 4, 10, 0, 0), (252, 3, 8, 258, 0, 0)]) rfl) ?_
    refine xg_t (xg_iload (va := (0, 0)) rfl rfl) ?_
    refine xg_t (xg_const) ?_
    refine xg_t (xg_icF (u := 0) (v := 3) rfl xnm0 xnm0 (by decide)) ?_
    refine xg_t (xg_aload (va := (2, 82)) rfl rfl) ?_
    refine xg_t (xg_iload (va := (0, 3)) rfl rfl) ?_
    refine xg_t (xg_iload (va := (0, u45)) rfl rfl) ?_
    refine xg_t (xg_bip) ?_
    refine xg_t (xg_const) ?_
    refine xg_t (xg_iload (va := (0, u45)) rfl rfl) ?_
    refine xg_t (xg_imul (u := 3) (v := u45) (z := 3 * u45) xnm0 xnm0 (by omega)) ?_
    refine xg_t (xg_iadd (u := 80) (v := 3 * u45) (z := 80 + (3 * u45)) xnm0 xnm0 (by omega)) ?_
    refine xg_t (xg_iload (va := (0, 0)) rfl rfl) ?_
    refine xg_t (xg_iadd (u := 80 + (3 * u45)) (v := 0) (z := (80 + (3 * u45)) + 0) xnm0 xnm0 (by omega)) ?_
    refine xg_t (xg_aload (va := (2, 82)) rfl rfl) ?_
    refine xg_t (xg_const) ?_
    refine xg_t (xg_iload (va := (0, 0)) rfl rfl) ?_
    refine xg_t (xg_const) ?_
    refine xg_t (xg_icF (u := 0) (v := 2) rfl xnm0 xnm0 (by decide)) ?_
    refine xg_t (xg_bip) ?_
    refine xg_t (xg_goto) ?_
    refine xg_t (xg_blk (b := [(258, 3, 13, 199, 96, 196), (261, 3, 13, 211, 96, 200), (264, 3, 9, 4, 1, 0), (267, 3, 8, 224, 0, 0)]) rfl) ?_
    obtain ⟨f82_913, f82_915, f82_917, f82_919, f82_921, f82_923, f82_925, f82_927, f82_929, f82_931, f82_933, f82_934, f82_935, f82_937, f82_939, f82_941, h82_943, hb914, hb916, hb918, hb920, hb922, hb924, hb926, hb928, hb930, hb932, hb936, hb938, hb940, hb942, hb944⟩ := (hI597 82 (by decide) (by decide) : cp82 (wget w595 82))
    refine xg_cVi mX12_numbered (vs := [(0, 1), (0, 10)]) (rest := [(0, (80 + (3 * u45)) + 0), (0, u45), (0, 3), (2, 82)]) (cn1 := 0) (sl1 := 0) rfl (mNumbered (hI597) (by omega) (by omega) pk607.2.2.2) rfl h82_943 rfl rfl rfl rfl rfl rfl (fun n949 w945 hq946 => ?_)
    obtain ⟨hn950, hI947, hF948⟩ := hq946
    clear hb914 hb916 hb918 hb920 hb922 hb924 hb926 hb928 hb930 hb932 hb936 hb938 hb940 hb942
    obtain ⟨hn951, hn952, hn953⟩ := hn950
    have pk954 : PK w w945 := PK.tr pk607 hn952
    have os955 : ∀ j, (j < 80 + 3 * u45 ∨ 83 + 3 * u45 ≤ j) → j < 140 → rwv w945 86 j = rwv w 86 j := fun j hj hl => (rwv_fr hF948 (by decide)).trans (os608 j hj hl)
    have rg956 : FA w945 ≠ 0 ∨ 0 = 1 := rg609.imp_left hn952.1
    have mf957 : ∀ s, s < 7 → rwv w945 85 s = rwv w 85 s := fun s hs => (rwv_fr hF948 (by decide)).trans (mf610 s hs)
    have ms958 : mu w945 < mu w := Nat.lt_of_le_of_lt hn952.2.1 ms611
    clear rg609
    obtain ⟨f82_959, f82_961, f82_963, f82_965, f82_967, f82_969, f82_971, f82_973, f82_975, f82_977, f82_979, f82_980, f82_981, f82_983, f82_985, f82_987, h82_989, hb960, hb962, hb964, hb966, hb968, hb970, hb972, hb974, hb976, hb978, hb982, hb984, hb986, hb988, hb990⟩ := (hI947 82 (by decide) (by decide) : cp82 (wget w945 82))
    refine xg_cVv mX12_puts (vs := [(0, 3), (0, u45), (0, (80 + (3 * u45)) + 0), (0, n949)]) (rest := []) (cn1 := 0) (sl1 := 0) rfl (mPuts3 (hI947) (by omega) (by omega) (by omega) (fun _ => by omega)) rfl h82_989 rfl rfl rfl rfl rfl rfl (fun w991 hq992 => ?_)
    obtain ⟨hI993, hF994, hx995⟩ := hq992
    obtain ⟨hp996, hp997⟩ := hx995
    have pk998 : PK w w991 := PK.tr pk954 (PK.fr hF994 (by decide) (by decide) pk954.2.2.2)
    have os999 : ∀ j, (j < 80 + 3 * u45 ∨ 83 + 3 * u45 ≤ j) → j < 140 → rwv w991 86 j = rwv w 86 j := fun j hj hl => (hp997 j (by omega) hl).trans (os955 j hj hl)
    have rg1000 : FA w991 ≠ 0 ∨ 0 = 1 := rg956.imp_left (PK.fr hF994 (by decide) (by decide) pk954.2.2.2).1
    have rg1001 : FA w991 ≠ 0 ∨ (1 ≤ n949 ∧ n949 ≤ 10) := hn953.imp_left (PK.fr hF994 (by decide) (by decide) pk954.2.2.2).1
    have mf1002 : ∀ s, s < 7 → rwv w991 85 s = rwv w 85 s := fun s hs => (rwv_fr hF994 (by decide)).trans (mf957 s hs)
    have ms1003 : mu w991 < mu w := Nat.lt_of_le_of_lt (PK.fr hF994 (by decide) (by decide) pk954.2.2.2).2.1 ms958
    clear rg956 hn953
    refine xg_t (xg_iinc (u := 0) (z := 1) (l1 := [(3, (0, u45)), (2, (0, at_)), (1, (0, 3)), (0, (2, 82))]) rfl rfl (by decide) rfl) ?_
    refine xg_t (xg_goto) ?_
    refine xg_t (xg_blk (b := [(224, 2, 2, 4, 0, 0), (226, 1, 3, 3, 0, 0), (227, 3, 6, 270, 3, 0), (230, 1, 0, 0, 0, 0), (231, 1, 2, 1, 0, 0), (232, 1, 2, 3, 0, 0), (233, 2, 4, 80, 0, 0), (235, 1, 3, 3, 0, 0), (236, 1, 2, 3, 0, 0), (237, 1, 16, 0, 0, 0), (238, 1, 11, 0, 0, 0), (239, 2, 2, 4, 0, 0), (241, 1, 11, 0, 0, 0), (242, 1, 0, 0, 0, 0), (243, 1, 3, 1, 0, 0), (244, 2, 2, 4, 0, 0), (246, 1, 3, 2, 0, 0), (247, 3, 6, 255, 3, 0), (250, 2, 4, 10, 0, 0), (252, 3, 8, 258, 0, 0)]) rfl) ?_
    refine xg_t (xg_iload (va := (0, 1)) rfl rfl) ?_
    refine xg_t (xg_const) ?_
    refine xg_t (xg_icF (u := 1) (v := 3) rfl xnm0 xnm0 (by decide)) ?_
    refine xg_t (xg_aload (va := (2, 82)) rfl rfl) ?_
    refine xg_t (xg_iload (va := (0, 3)) rfl rfl) ?_
    refine xg_t (xg_iload (va := (0, u45)) rfl rfl) ?_
    refine xg_t (xg_bip) ?_
    refine xg_t (xg_const) ?_
    refine xg_t (xg_iload (va := (0, u45)) rfl rfl) ?_
    refine xg_t (xg_imul (u := 3) (v := u45) (z := 3 * u45) xnm0 xnm0 (by omega)) ?_
    refine xg_t (xg_iadd (u := 80) (v := 3 * u45) (z := 80 + (3 * u45)) xnm0 xnm0 (by omega)) ?_
    refine xg_t (xg_iload (va := (0, 1)) rfl rfl) ?_
    refine xg_t (xg_iadd (u := 80 + (3 * u45)) (v := 1) (z := (80 + (3 * u45)) + 1) xnm0 xnm0 (by omega)) ?_
    refine xg_t (xg_aload (va := (2, 82)) rfl rfl) ?_
    refine xg_t (xg_const) ?_
    refine xg_t (xg_iload (va := (0, 1)) rfl rfl) ?_
    refine xg_t (xg_const) ?_
    refine xg_t (xg_icF (u := 1) (v := 2) rfl xnm0 xnm0 (by decide)) ?_
    refine xg_t (xg_bip) ?_
    refine xg_t (xg_goto) ?_
    refine xg_t (xg_blk (b := [(258, 3, 13, 199, 96, 196), (261, 3, 13, 211, 96, 200), (264, 3, 9, 4, 1, 0), (267, 3, 8, 224, 0, 0)]) rfl) ?_
    refine xg_cVi mX12_numbered (vs := [(0, 1), (0, 10)]) (rest := [(0, (80 + (3 * u45)) + 1), (0, u45), (0, 3), (2, 82)]) (cn1 := 0) (sl1 := 0) rfl (mNumbered (hI993) (by omega) (by omega) pk998.2.2.2) rfl (hF994.get (by decide) h82_989) rfl rfl rfl rfl rfl rfl (fun n1008 w1004 hq1005 => ?_)
    obtain ⟨hn1009, hI1006, hF1007⟩ := hq1005
    clear hb960 hb962 hb964 hb966 hb968 hb970 hb972 hb974 hb976 hb978 hb982 hb984 hb986 hb988
    obtain ⟨hn1010, hn1011, hn1012⟩ := hn1009
    have pk1013 : PK w w1004 := PK.tr pk998 hn1011
    have os1014 : ∀ j, (j < 80 + 3 * u45 ∨ 83 + 3 * u45 ≤ j) → j < 140 → rwv w1004 86 j = rwv w 86 j := fun j hj hl => (rwv_fr hF1007 (by decide)).trans (os999 j hj hl)
    have ix1015 : u45 < 4 → rwv w1004 86 ((80 + (3 * u45)) + 0) = n949 := fun h => (rwv_fr hF1007 (by decide)).trans (hp996 h)
    have rg1016 : FA w1004 ≠ 0 ∨ 0 = 1 := rg1000.imp_left hn1011.1
    have rg1017 : FA w1004 ≠ 0 ∨ (1 ≤ n949 ∧ n949 ≤ 10) := rg1001.imp_left hn1011.1
    have mf1018 : ∀ s, s < 7 → rwv w1004 85 s = rwv w 85 s := fun s hs => (rwv_fr hF1007 (by decide)).trans (mf1002 s hs)
    have ms1019 : mu w1004 < mu w := Nat.lt_of_le_of_lt hn1011.2.1 ms1003
    clear hp996 rg1000 rg1001
    obtain ⟨f82_1020, f82_1022, f82_1024, f82_1026, f82_1028, f82_1030, f82_1032, f82_1034, f82_1036, f82_1038, f82_1040, f82_1041, f82_1042, f82_1044, f82_1046, f82_1048, h82_1050, hb1021, hb1023, hb1025, hb1027, hb1029, hb1031, hb1033, hb1035, hb1037, hb1039, hb1043, hb1045, hb1047, hb1049, hb1051⟩ := (hI1006 82 (by decide) (by decide) : cp82 (wget w1004 82))
    refine xg_cVv mX12_puts (vs := [(0, 3), (0, u45), (0, (80 + (3 * u45)) + 1), (0, n1008)]) (rest := []) (cn1 := 0) (sl1 := 0) rfl (mPuts3 (hI1006) (by omega) (by omega) (by omega) (fun _ => by omega)) rfl h82_1050 rfl rfl rfl rfl rfl rfl (fun w1052 hq1053 => ?_)
    obtain ⟨hI1054, hF1055, hx1056⟩ := hq1053
    obtain ⟨hp1057, hp1058⟩ := hx1056
    have pk1059 : PK w w1052 := PK.tr pk1013 (PK.fr hF1055 (by decide) (by decide) pk1013.2.2.2)
    have os1060 : ∀ j, (j < 80 + 3 * u45 ∨ 83 + 3 * u45 ≤ j) → j < 140 → rwv w1052 86 j = rwv w 86 j := fun j hj hl => (hp1058 j (by omega) hl).trans (os1014 j hj hl)
    have ix1061 : u45 < 4 → rwv w1052 86 ((80 + (3 * u45)) + 0) = n949 := fun h => (hp1058 _ (by omega) (by omega)).trans (ix1015 h)
    have rg1062 : FA w1052 ≠ 0 ∨ 0 = 1 := rg1016.imp_left (PK.fr hF1055 (by decide) (by decide) pk1013.2.2.2).1
    have rg1063 : FA w1052 ≠ 0 ∨ (1 ≤ n949 ∧ n949 ≤ 10) := rg1017.imp_left (PK.fr hF1055 (by decide) (by decide) pk1013.2.2.2).1
    have rg1064 : FA w1052 ≠ 0 ∨ (1 ≤ n1008 ∧ n1008 ≤ 10) := hn1012.imp_left (PK.fr hF1055 (by decide) (by decide) pk1013.2.2.2).1
    have mf1065 : ∀ s, s < 7 → rwv w1052 85 s = rwv w 85 s := fun s hs => (rwv_fr hF1055 (by decide)).trans (mf1018 s hs)
    have ms1066 : mu w1052 < mu w := Nat.lt_of_le_of_lt (PK.fr hF1055 (by decide) (by decide) pk1013.2.2.2).2.1 ms1019
    clear ix1015 rg1016 rg1017 hn1012
    refine xg_t (xg_iinc (u := 1) (z := 2) (l1 := [(3, (0, u45)), (2, (0, at_)), (1, (0, 3)), (0, (2, 82))]) rfl rfl (by decide) rfl) ?_
    refine xg_t (xg_goto) ?_
    refine xg_t (xg_blk (b := [(224, 2, 2, 4, 0, 0), (226, 1, 3, 3, 0, 0), (227, 3, 6, 270, 3, 0), (230, 1, 0, 0, 0, 0), (231, 1, 2, 1, 0, 0), (232, 1, 2, 3, 0, 0), (233, 2, 4, 80, 0, 0), (235, 1, 3, 3, 0, 0), (236, 1, 2, 3, 0, 0), (237, 1, 16, 0, 0, 0), (238, 1, 11, 0, 0, 0), (239, 2, 2, 4, 0, 0), (241, 1, 11, 0, 0, 0), (242, 1, 0, 0, 0, 0), (243, 1, 3, 1, 0, 0), (244, 2, 2, 4, 0, 0), (246, 1, 3, 2, 0, 0), (247, 3, 6, 255, 3, 0), (250, 2, 4, 10, 0, 0), (252, 3, 8, 258, 0, 0)]) rfl) ?_
    refine xg_t (xg_iload (va := (0, 2)) rfl rfl) ?_
    refine xg_t (xg_const) ?_
    refine xg_t (xg_icF (u := 2) (v := 3) rfl xnm0 xnm0 (by decide)) ?_
    refine xg_t (xg_aload (va := (2, 82)) rfl rfl) ?_
    refine xg_t (xg_iload (va := (0, 3)) rfl rfl) ?_
    refine xg_t (xg_iload (va := (0, u45)) rfl rfl) ?_
    refine xg_t (xg_bip) ?_
    refine xg_t (xg_const) ?_
    refine xg_t (xg_iload (va := (0, u45)) rfl rfl) ?_
    refine xg_t (xg_imul (u := 3) (v := u45) (z := 3 * u45) xnm0 xnm0 (by omega)) ?_
    refine xg_t (xg_iadd (u := 80) (v := 3 * u45) (z := 80 + (3 * u45)) xnm0 xnm0 (by omega)) ?_
    refine xg_t (xg_iload (va := (0, 2)) rfl rfl) ?_
    refine xg_t (xg_iadd (u := 80 + (3 * u45)) (v := 2) (z := (80 + (3 * u45)) + 2) xnm0 xnm0 (by omega)) ?_
    refine xg_t (xg_aload (va := (2, 82)) rfl rfl) ?_
    refine xg_t (xg_const) ?_
    refine xg_t (xg_iload (va := (0, 2)) rfl rfl) ?_
    refine xg_t (xg_const) ?_
    refine xg_t (xg_icT (u := 2) (v := 2) rfl xnm0 xnm0 (by decide)) ?_
    refine xg_t (xg_blk (b := [(255, 3, 5, 999, 0, 0)]) rfl) ?_
    refine xg_t (xg_sip) ?_
    refine xg_t (xg_blk (b := [(258, 3, 13, 199, 96, 196), (261, 3, 13, 211, 96, 200), (264, 3, 9, 4, 1, 0), (267, 3, 8, 224, 0, 0)]) rfl) ?_
    refine xg_cVi mX12_numbered (vs := [(0, 1), (0, 999)]) (rest := [(0, (80 + (3 * u45)) + 2), (0, u45), (0, 3), (2, 82)]) (cn1 := 0) (sl1 := 0) rfl (mNumbered (hI1054) (by omega) (by omega) pk1059.2.2.2) rfl (hF1055.get (by decide) h82_1050) rfl rfl rfl rfl rfl rfl (fun n1071 w1067 hq1068 => ?_)
    obtain ⟨hn1072, hI1069, hF1070⟩ := hq1068
    clear hb1021 hb1023 hb1025 hb1027 hb1029 hb1031 hb1033 hb1035 hb1037 hb1039 hb1043 hb1045 hb1047 hb1049
    obtain ⟨hn1073, hn1074, hn1075⟩ := hn1072
    have pk1076 : PK w w1067 := PK.tr pk1059 hn1074
    have os1077 : ∀ j, (j < 80 + 3 * u45 ∨ 83 + 3 * u45 ≤ j) → j < 140 → rwv w1067 86 j = rwv w 86 j := fun j hj hl => (rwv_fr hF1070 (by decide)).trans (os1060 j hj hl)
    have ix1078 : u45 < 4 → rwv w1067 86 ((80 + (3 * u45)) + 0) = n949 := fun h => (rwv_fr hF1070 (by decide)).trans (ix1061 h)
    have ix1079 : u45 < 4 → rwv w1067 86 ((80 + (3 * u45)) + 1) = n1008 := fun h => (rwv_fr hF1070 (by decide)).trans (hp1057 h)
    have rg1080 : FA w1067 ≠ 0 ∨ 0 = 1 := rg1062.imp_left hn1074.1
    have rg1081 : FA w1067 ≠ 0 ∨ (1 ≤ n949 ∧ n949 ≤ 10) := rg1063.imp_left hn1074.1
    have rg1082 : FA w1067 ≠ 0 ∨ (1 ≤ n1008 ∧ n1008 ≤ 10) := rg1064.imp_left hn1074.1
    have mf1083 : ∀ s, s < 7 → rwv w1067 85 s = rwv w 85 s := fun s hs => (rwv_fr hF1070 (by decide)).trans (mf1065 s hs)
    have ms1084 : mu w1067 < mu w := Nat.lt_of_le_of_lt hn1074.2.1 ms1066
    clear ix1061 hp1057 rg1062 rg1063 rg1064
    obtain ⟨f82_1085, f82_1087, f82_1089, f82_1091, f82_1093, f82_1095, f82_1097, f82_1099, f82_1101, f82_1103, f82_1105, f82_1106, f82_1107, f82_1109, f82_1111, f82_1113, h82_1115, hb1086, hb1088, hb1090, hb1092, hb1094, hb1096, hb1098, hb1100, hb1102, hb1104, hb1108, hb1110, hb1112, hb1114, hb1116⟩ := (hI1069 82 (by decide) (by decide) : cp82 (wget w1067 82))
    refine xg_cVv mX12_puts (vs := [(0, 3), (0, u45), (0, (80 + (3 * u45)) + 2), (0, n1071)]) (rest := []) (cn1 := 0) (sl1 := 0) rfl (mPuts3 (hI1069) (by omega) (by omega) (by omega) (fun _ => by omega)) rfl h82_1115 rfl rfl rfl rfl rfl rfl (fun w1117 hq1118 => ?_)
    obtain ⟨hI1119, hF1120, hx1121⟩ := hq1118
    obtain ⟨hp1122, hp1123⟩ := hx1121
    have pk1124 : PK w w1117 := PK.tr pk1076 (PK.fr hF1120 (by decide) (by decide) pk1076.2.2.2)
    have os1125 : ∀ j, (j < 80 + 3 * u45 ∨ 83 + 3 * u45 ≤ j) → j < 140 → rwv w1117 86 j = rwv w 86 j := fun j hj hl => (hp1123 j (by omega) hl).trans (os1077 j hj hl)
    have ix1126 : u45 < 4 → rwv w1117 86 ((80 + (3 * u45)) + 0) = n949 := fun h => (hp1123 _ (by omega) (by omega)).trans (ix1078 h)
    have ix1127 : u45 < 4 → rwv w1117 86 ((80 + (3 * u45)) + 1) = n1008 := fun h => (hp1123 _ (by omega) (by omega)).trans (ix1079 h)
    have rg1128 : FA w1117 ≠ 0 ∨ 0 = 1 := rg1080.imp_left (PK.fr hF1120 (by decide) (by decide) pk1076.2.2.2).1
    have rg1129 : FA w1117 ≠ 0 ∨ (1 ≤ n949 ∧ n949 ≤ 10) := rg1081.imp_left (PK.fr hF1120 (by decide) (by decide) pk1076.2.2.2).1
    have rg1130 : FA w1117 ≠ 0 ∨ (1 ≤ n1008 ∧ n1008 ≤ 10) := rg1082.imp_left (PK.fr hF1120 (by decide) (by decide) pk1076.2.2.2).1
    have rg1131 : FA w1117 ≠ 0 ∨ (1 ≤ n1071 ∧ n1071 ≤ 999) := hn1075.imp_left (PK.fr hF1120 (by decide) (by decide) pk1076.2.2.2).1
    have mf1132 : ∀ s, s < 7 → rwv w1117 85 s = rwv w 85 s := fun s hs => (rwv_fr hF1120 (by decide)).trans (mf1083 s hs)
    have ms1133 : mu w1117 < mu w := Nat.lt_of_le_of_lt (PK.fr hF1120 (by decide) (by decide) pk1076.2.2.2).2.1 ms1084
    clear ix1078 ix1079 rg1080 rg1081 rg1082 hn1075
    refine xg_t (xg_iinc (u := 2) (z := 3) (l1 := [(3, (0, u45)), (2, (0, at_)), (1, (0, 3)), (0, (2, 82))]) rfl rfl (by decide) rfl) ?_
    refine xg_t (xg_goto) ?_
    refine xg_t (xg_blk (b := [(224, 2, 2, 4, 0, 0), (226, 1, 3, 3, 0, 0), (227, 3, 6, 270, 3, 0), (230, 1, 0, 0, 0, 0), (231, 1, 2, 1, 0, 0), (232, 1, 2, 3, 0, 0), (233, 2, 4, 80, 0, 0), (235, 1, 3, 3, 0, 0), (236, 1, 2, 3, 0, 0), (237, 1, 16, 0, 0, 0), (238, 1, 11, 0, 0, 0), (239, 2, 2, 4, 0, 0), (241, 1, 11, 0, 0, 0), (242, 1, 0, 0, 0, 0), (243, 1, 3, 1, 0, 0), (244, 2, 2, 4, 0, 0), (246, 1, 3, 2, 0, 0), (247, 3, 6, 255, 3, 0), (250, 2, 4, 10, 0, 0), (252, 3, 8, 258, 0, 0)]) rfl) ?_
    refine xg_t (xg_iload (va := (0, 3)) rfl rfl) ?_
    refine xg_t (xg_const) ?_
    refine xg_t (xg_icT (u := 3) (v := 3) rfl xnm0 xnm0 (by decide)) ?_
    refine xg_t (xg_blk (b := [(270, 3, 8, 394, 0, 0)]) rfl) ?_
    refine xg_t (xg_goto) ?_
    refine xg_t (xg_drop (l1 := [(0, (2, 82)), (1, (0, 3)), (3, (0, u45))]) (List.forall_mem_cons.mpr ⟨List.mem_cons_of_mem _ (List.mem_cons_of_mem _ (List.mem_cons_of_mem _ (List.mem_cons_of_mem _ (List.mem_cons_self)))), List.forall_mem_cons.mpr ⟨List.mem_cons_of_mem _ (List.mem_cons_of_mem _ (List.mem_cons_of_mem _ (List.mem_cons_self))), List.forall_mem_cons.mpr ⟨List.mem_cons_of_mem _ (List.mem_cons_self), fun _ h => absurd h List.not_mem_nil⟩⟩⟩)) ?_
    have hX1134 : FA w1117 ≠ 0 ∨ u45 < 4 := Or.inl (by have q := rg1128; omega)
    exact jn612 w1117 (hI1119) (((((((((hF588.up (by decide)).tr (hF598.up (by decide))).tr (hF948.up (by decide))).tr (hF994.up (by decide))).tr (hF1007.up (by decide))).tr (hF1055.up (by decide))).tr (hF1070.up (by decide))).tr (hF1120.up (by decide)))) (⟨pk1124, os1125, ms1133, mf1132, hX1134⟩)
end XMB
