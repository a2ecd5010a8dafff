/-! the model: lines of films, more -/
section XMB
variable {d : Nat} {w : List (List xE)} {bd : List (Nat × Nat)} {fc : List (Nat × Nat × Bool)} {rr : Nat × Nat}
set_option maxHeartbeats 60000000 in
theorem mALineS4 {at_ : Nat} (hI : xMnv w) (hps : PS w) (hmb : ∀ s, s < 7 → rwv w 85 s ≤ 1000) (hln : fld w 82 14 ≤ 1000) (h7 : fld w 82 7 = 3) (hat : at_ ≤ 4294967295) : xTo (d + 7) mX12_aLine (43, [], [(2, (0, at_)), (1, (0, 4)), (0, (2, 82))], [], (w, bd, fc, 0, 0, rr)) (fun φ => ∃ w', xEnd 0 [] (w', bd, fc, 0, 0, rr) φ ∧ xMnv w' ∧ xFr [82, 83, 85, 86, 87] w w' ∧ ((FA w ≠ 0 → FA w' ≠ 0) ∧ PS w' ∧ ((fld w' 82 10 = 1 ∧ mu w' = mu w ∧ fld w' 82 14 = fld w 82 14 ∧ ∀ s, s < 7 → rwv w' 85 s = rwv w 85 s) ∨ (mu w' < mu w ∧ fld w' 82 14 = fld w 82 14 + 1 ∧ ∀ s, s < 7 → rwv w' 85 s ≤ rwv w 85 s + 1)) ∧ (FA w' ≠ 0 ∨ (DATA w → DATA w')) ∧ K83 w w')) := by
  obtain ⟨f82_1, f82_3, f82_5, f82_7, f82_9, f82_11, f82_13, f82_15, f82_17, f82_19, f82_21, f82_22, f82_23, f82_25, f82_27, f82_29, h82_31, hb2, hb4, hb6, hb8, hb10, hb12, hb14, hb16, hb18, hb20, hb24, hb26, hb28, hb30, hb32⟩ := (hI 82 (by decide) (by decide) : cp82 (wget w 82))
  have hf33 : fld w 82 7 = f82_11 := fld_of h82_31
  have hf34 : fld w 82 10 = f82_17 := fld_of h82_31
  have hf35 : fld w 82 14 = f82_19 := fld_of h82_31
  have hps_ : fld w 82 10 = 0 ∨ FA w ≠ 0 := hps
  obtain ⟨g85_36, h85_37, hb38⟩ := (hI 85 (by decide) (by decide) : cpI 7 52 4294967295 (wget w 85))
  have h85_37 : xRow w 85 7 52 g85_36 := h85_37
  obtain ⟨g86_39, h86_40, hb41⟩ := (hI 86 (by decide) (by decide) : cpI 140 53 4294967295 (wget w 86))
  have h86_40 : xRow w 86 140 53 g86_39 := h86_40
  obtain ⟨g87_42, h87_43, hb44⟩ := (hI 87 (by decide) (by decide) : cpI 20 54 4294967295 (wget w 87))
  have h87_43 : xRow w 87 20 54 g87_42 := h87_43
  refine xg_t (xg_blk (b := [(43, 1, 0, 0, 0, 0), (44, 3, 1, 12, 11, 17), (47, 1, 2, 1, 0, 0), (48, 1, 10, 0, 0, 0), (49, 1, 15, 3, 0, 0), (50, 1, 2, 3, 0, 0), (51, 1, 2, 1, 0, 0), (52, 3, 13, 194, 98, 193), (55, 3, 6, 64, 2, 0), (58, 1, 0, 0, 0, 0), (59, 1, 3, 3, 0, 0), (60, 1, 2, 2, 0, 0), (61, 3, 13, 115, 96, 186)]) rfl) ?_
  refine xg_t (xg_aload (va := (2, 82)) rfl rfl) ?_
  refine xg_t (xg_getf (va := (2, 85)) h82_31 rfl) ?_
  refine xg_t (xg_iload (va := (0, 4)) rfl rfl) ?_
  refine xg_ialdB (n := 4) (B := 4294967295) h85_37 (hb38) xnm0 (by omega) (fun u45 hu46 he47 => ?_)
  have hK48 : rwv w 85 4 = u45 := (rwv_of h85_37 (by decide)).trans he47
  have hm49 := hmb 4 (by decide)
  have hl50 : u45 ≤ 1000 := by omega
  refine xg_t (xg_istore (l1 := [(2, (0, at_)), (1, (0, 4)), (0, (2, 82))]) rfl rfl rfl) ?_
  refine xg_t (xg_iload (va := (0, u45)) rfl rfl) ?_
  refine xg_t (xg_iload (va := (0, 4)) rfl rfl) ?_
  refine xg_t (xg_cSr mX12_mostOf (vs := [(0, 4)]) (rest := [(0, u45)]) (rs := [(0, 20), (0, u45)]) (cn1 := 0) (sl1 := 0) rfl (mMostR4) rfl rfl rfl rfl rfl rfl rfl rfl) ?_
  by_cases hc51 : u45 < 20
  · refine xg_t (xg_icT (u := u45) (v := 20) rfl xnm0 xnm0 (xj_ltT hc51 (by omega))) ?_
    refine xg_t (xg_blk (b := [(64, 1, 0, 0, 0, 0), (65, 3, 13, 110, 96, 190), (68, 1, 2, 1, 0, 0), (69, 39, 33, 362, 0, 9)]) rfl) ?_
    refine xg_t (xg_aload (va := (2, 82)) rfl rfl) ?_
    refine xg_cVv mX12_advance (vs := []) (rest := []) (cn1 := 0) (sl1 := 0) rfl (mAdvance (hI)) rfl h82_31 rfl rfl rfl rfl rfl rfl (fun w52 hq53 => ?_)
    obtain ⟨hI54, hF55, hx56⟩ := hq53
    clear hb2 hb4 hb6 hb8 hb10 hb12 hb14 hb16 hb18 hb20 hb24 hb26 hb28 hb30
    obtain ⟨hv57, hv58, hv59, hv60⟩ := hx56
    have hf62 := FA_fr hF55 (by decide)
    have hs63 := (PK.rf hps).2.2.2.1
    unfold PS at hs63
    have pk61 : PK w w52 := ⟨fun _ => by omega, hv57, hv60, (show fld w52 82 10 = 0 ∨ FA w52 ≠ 0 by omega), K83.fr hF55 (by decide)⟩
    clear hs63
    have pk64 : PK w w52 := PK.tr (PK.rf hps) pk61
    have os65 : ∀ j, (j < 100 + 2 * u45 ∨ 102 + 2 * u45 ≤ j) → j < 140 → rwv w52 86 j = rwv w 86 j := fun j hj hl => (rwv_fr hF55 (by decide)).trans ((fun j _ _ => rfl) j hj hl)
    have mf66 : ∀ s, s < 7 → rwv w52 85 s = rwv w 85 s := fun s hs => (rwv_fr hF55 (by decide)).trans ((fun _ _ => rfl) s hs)
    have ms67 : mu w52 < mu w := Nat.lt_of_lt_of_le (hv58 (by omega)) (PK.rf hps).2.1
    clear hv58
    have jn68 : ∀ (w69 : List (List xE)), xMnv w69 → xFr [82, 83, 85, 86, 87] w w69 → (PK w w69 ∧ (∀ j, (j < 100 + 2 * u45 ∨ 102 + 2 * u45 ≤ j) → j < 140 → rwv w69 86 j = rwv w 86 j) ∧ mu w69 < mu w ∧ (∀ s, s < 7 → rwv w69 85 s = rwv w 85 s) ∧ (FA w69 ≠ 0 ∨ u45 < 20)) → xTo (d + 7) mX12_aLine (394, [], [(0, (2, 82)), (1, (0, 4)), (3, (0, u45))], [], (w69, bd, fc, 0, 0, rr)) (fun φ => ∃ w', xEnd 0 [] (w', bd, fc, 0, 0, rr) φ ∧ xMnv w' ∧ xFr [82, 83, 85, 86, 87] w w' ∧ ((FA w ≠ 0 → FA w' ≠ 0) ∧ PS w' ∧ ((fld w' 82 10 = 1 ∧ mu w' = mu w ∧ fld w' 82 14 = fld w 82 14 ∧ ∀ s, s < 7 → rwv w' 85 s = rwv w 85 s) ∨ (mu w' < mu w ∧ fld w' 82 14 = fld w 82 14 + 1 ∧ ∀ s, s < 7 → rwv w' 85 s ≤ rwv w 85 s + 1)) ∧ (FA w' ≠ 0 ∨ (DATA w → DATA w')) ∧ K83 w w')) := by
      intro w69 hI70 hF71 he72
      obtain ⟨hj73, hj74, hj75, hj76, hj77⟩ := he72
      refine xg_t (xg_blk (b := [(394, 1, 0, 0, 0, 0), (395, 3, 1, 12, 10, 180), (398, 3, 7, 416, 1, 0), (401, 1, 0, 0, 0, 0), (402, 3, 1, 12, 7, 151), (405, 1, 3, 2, 0, 0), (406, 3, 6, 416, 1, 0), (409, 1, 0, 0, 0, 0), (410, 3, 13, 110, 96, 190), (413, 3, 8, 420, 0, 0)]) rfl) ?_
      refine xg_t (xg_aload (va := (2, 82)) rfl rfl) ?_
      obtain ⟨f82_78, f82_80, f82_82, f82_84, f82_86, f82_88, f82_90, f82_92, f82_94, f82_96, f82_98, f82_99, f82_100, f82_102, f82_104, f82_106, h82_108, hb79, hb81, hb83, hb85, hb87, hb89, hb91, hb93, hb95, hb97, hb101, hb103, hb105, hb107, hb109⟩ := (hI70 82 (by decide) (by decide) : cp82 (wget w69 82))
      refine xg_t (xg_getf (va := (0, f82_94)) h82_108 rfl) ?_
      by_cases hc110 : f82_94 = 0
      · refine xg_t (xg_ifF (u := f82_94) rfl xnm0 (xj_neF hc110)) ?_
        refine xg_t (xg_aload (va := (2, 82)) rfl rfl) ?_
        refine xg_t (xg_getf (va := (0, f82_88)) h82_108 rfl) ?_
        refine xg_t (xg_const) ?_
        by_cases hc111 : f82_88 = 2
        · refine xg_t (xg_icF (u := f82_88) (v := 2) rfl xnm0 xnm0 (xj_neF hc111)) ?_
          refine xg_t (xg_aload (va := (2, 82)) rfl rfl) ?_
          refine xg_cVv mX12_advance (vs := []) (rest := []) (cn1 := 0) (sl1 := 0) rfl (mAdvance (hI70)) rfl h82_108 rfl rfl rfl rfl rfl rfl (fun w112 hq113 => ?_)
          obtain ⟨hI114, hF115, hx116⟩ := hq113
          clear hb79 hb81 hb83 hb85 hb87 hb89 hb91 hb93 hb95 hb97 hb101 hb103 hb105 hb107
          obtain ⟨hv117, hv118, hv119, hv120⟩ := hx116
          have hf122 := FA_fr hF115 (by decide)
          have hs123 := hj73.2.2.2.1
          unfold PS at hs123
          have pk121 : PK w69 w112 := ⟨fun _ => by omega, hv117, hv120, (show fld w112 82 10 = 0 ∨ FA w112 ≠ 0 by omega), K83.fr hF115 (by decide)⟩
          clear hs123
          clear hv118
          have pk124 : PK w w112 := PK.tr hj73 pk121
          have os125 : ∀ j, (j < 100 + 2 * u45 ∨ 102 + 2 * u45 ≤ j) → j < 140 → rwv w112 86 j = rwv w 86 j := fun j hj hl => (rwv_fr hF115 (by decide)).trans (hj74 j hj hl)
          have rg126 : FA w112 ≠ 0 ∨ u45 < 20 := hj77.imp_left pk121.1
          have mf127 : ∀ s, s < 7 → rwv w112 85 s = rwv w 85 s := fun s hs => (rwv_fr hF115 (by decide)).trans (hj76 s hs)
          have ms128 : mu w112 < mu w := Nat.lt_of_le_of_lt pk121.2.1 hj75
          clear hj77
          refine xg_t (xg_goto) ?_
          refine xg_t (xg_blk (b := [(420, 1, 0, 0, 0, 0), (421, 3, 1, 12, 11, 17), (424, 1, 2, 1, 0, 0), (425, 1, 39, 0, 0, 0), (426, 1, 10, 0, 0, 0), (427, 1, 3, 1, 0, 0), (428, 1, 11, 0, 0, 0), (429, 1, 17, 0, 0, 0), (430, 1, 0, 0, 0, 0), (431, 1, 19, 0, 0, 0), (432, 3, 1, 12, 14, 212), (435, 1, 3, 1, 0, 0), (436, 1, 11, 0, 0, 0), (437, 3, 14, 12, 14, 212), (440, 1, 12, 0, 0, 0)]) rfl) ?_
          obtain ⟨f82_129, f82_131, f82_133, f82_135, f82_137, f82_139, f82_141, f82_143, f82_145, f82_147, f82_149, f82_150, f82_151, f82_153, f82_155, f82_157, h82_159, hb130, hb132, hb134, hb136, hb138, hb140, hb142, hb144, hb146, hb148, hb152, hb154, hb156, hb158, hb160⟩ := (hI114 82 (by decide) (by decide) : cp82 (wget w112 82))
          have hf161 : fld w112 82 4 = f82_133 := fld_of h82_159
          have hf162 : fld w112 82 5 = f82_135 := fld_of h82_159
          have hf163 : fld w112 82 7 = f82_139 := fld_of h82_159
          have hf164 : fld w112 82 10 = f82_145 := fld_of h82_159
          have hf165 : fld w112 82 14 = f82_147 := fld_of h82_159
          have hu166 : mu w112 = 2 * (fld w112 82 4 - fld w112 82 5) + min 1 (fld w112 82 7) := rfl
          have hf167 := pk124.2.2.1
          have hl168 : f82_147 ≤ 1000 := by omega
          refine xg_t (xg_aload (va := (2, 82)) rfl rfl) ?_
          refine xg_t (xg_getf (va := (2, 85)) h82_159 rfl) ?_
          refine xg_t (xg_iload (va := (0, 4)) rfl rfl) ?_
          refine xg_t (xg_dup2 rfl) ?_
          obtain ⟨g85_169, h85_170, hb171⟩ := (hI114 85 (by decide) (by decide) : cpI 7 52 4294967295 (wget w112 85))
          have h85_170 : xRow w112 85 7 52 g85_169 := h85_170
          refine xg_ialdB (n := 4) (B := 4294967295) h85_170 (hb171) xnm0 (by omega) (fun u172 hu173 he174 => ?_)
          have hl175 : u172 = u45 := by have q1 := rwv_of h85_170 (show 4 < 7 by decide); have q2 := mf127 4 (by decide); omega
          refine xg_t (xg_const) ?_
          refine xg_t (xg_iadd (u := u172) (v := 1) (z := u172 + 1) xnm0 xnm0 (by omega)) ?_
          refine xg_iastK (n := 4) (u := u172 + 1) h85_170 xnm0 xnm0 rfl (by omega) (fun w176 hr177 hb178 => ?_)
          refine xg_t (xg_aload (va := (2, 82)) rfl rfl) ?_
          refine xg_t (xg_dup rfl) ?_
          refine xg_t (xg_getf (va := (0, f82_147)) (hb178.get (by decide) h82_159) rfl) ?_
          refine xg_t (xg_const) ?_
          refine xg_t (xg_iadd (u := f82_147) (v := 1) (z := f82_147 + 1) xnm0 xnm0 (by omega)) ?_
          refine xg_putI (fl1 := [(2, 83), (2, 84), (0, f82_129), (0, f82_131), (0, f82_133), (0, f82_135), (0, f82_137), (0, f82_139), (0, f82_141), (0, f82_143), (0, f82_145), (2, 85), (2, 86), (2, 87), (0, f82_147 + 1), (2, 88), (2, 89), (2, 90), (2, 91), (2, 92), (2, 93), (2, 94), (4, f82_149), (4, f82_150), (0, f82_151), (2, 95), (2, 96), (2, 97), (2, 98), (2, 99), (2, 100), (2, 101), (2, 102), (0, f82_153), (2, 103), (2, 104), (2, 105), (2, 106), (2, 107), (2, 108), (2, 109), (0, f82_155), (0, f82_157), (2, 110), (2, 111), (2, 112), (2, 113)]) (hb178.get (by decide) h82_159) rfl rfl rfl (fun w179 hk180 hb181 => ?_)
          have hF182 : xFr [82, 85] w112 w179 := ((xFr.of (S := [82, 85]) hb178 (by decide)).tr (xFr.of (S := [82, 85]) hb181 (by decide)))
          have hA183 := FA_fr hF182 (by decide)
          have hf184 : fld w179 82 4 = f82_133 := fld_of hk180
          have hf185 : fld w179 82 5 = f82_135 := fld_of hk180
          have hf186 : fld w179 82 7 = f82_139 := fld_of hk180
          have hf187 : fld w179 82 10 = f82_145 := fld_of hk180
          have hf188 : fld w179 82 14 = f82_147 + 1 := fld_of hk180
          have hu189 : mu w179 = 2 * (fld w179 82 4 - fld w179 82 5) + min 1 (fld w179 82 7) := rfl
          have pq190 := pk124
          unfold PK PS at pq190
          have hM191 : ∀ s, s < 7 → s ≠ 4 → rwv w179 85 s = rwv w 85 s := fun s hs hn => (rwv_of (hr177.but hb181 (by decide)) hs).trans ((if_neg hn).trans ((rwv_of h85_170 hs).symm.trans (mf127 s hs)))
          have hM192 : rwv w179 85 4 = u45 + 1 := (rwv_of (hr177.but hb181 (by decide)) (by decide)).trans ((if_pos rfl).trans (by omega))
          have hM193 : ∀ s, s < 7 → rwv w179 85 s ≤ rwv w 85 s + 1 := fun s hs => by
            by_cases z : s = 4
            · subst z; omega
            · rw [hM191 s hs z]; omega
          have hO194 : ∀ j, (j < 100 + 2 * u45 ∨ 102 + 2 * u45 ≤ j) → j < 140 → rwv w179 86 j = rwv w 86 j := fun j hj hl => (rwv_fr hF182 (by decide)).trans (os125 j hj hl)
          have hl196 : FA w112 ≠ 0 ∨ u45 < 20 := rg126
          have hN195 : FA w179 ≠ 0 ∨ 20 ≤ u45 ∨ True := Or.inr (Or.inr trivial)
          have hX197 : FA w179 ≠ 0 ∨ u45 < 20 := by omega
          have hD198 : FA w179 ≠ 0 ∨ (DATA w → DATA w179) := by
            by_cases z : FA w179 ≠ 0
            · exact Or.inl z
            · exact Or.inr (fun hd => hd.s4 hM191 hK48 hM192 (hX197.resolve_left z) hO194 ((hN195.resolve_left z).resolve_left (by have := hX197.resolve_left z; omega)))
          exact xg_e ⟨w179, ⟨rfl, rfl⟩, xMnv.up (S := [85, 82]) hI114 ((xFr.of (S := [85, 82]) hb178 (by decide)).tr (xFr.of (S := [85, 82]) hb181 (by decide))) (List.forall_mem_cons.mpr ⟨(show cpI 7 52 4294967295 (wget w179 85) from ⟨_, (hr177.but hb181 (by decide)), xrb (by omega) (hb171)⟩), List.forall_mem_cons.mpr ⟨(show cp82 (wget w179 82) from ⟨f82_129, f82_131, f82_133, f82_135, f82_137, f82_139, f82_141, f82_143, f82_145, f82_147 + 1, f82_149, f82_150, f82_151, f82_153, f82_155, f82_157, hk180, hb130, hb132, hb134, hb136, hb138, hb140, hb142, hb144, hb146, by omega, hb152, hb154, hb156, hb158, by omega⟩), fun _ h => absurd h List.not_mem_nil⟩⟩), ((hF71.tr (hF115.up (by decide))).tr ((xFr.of (S := [82, 83, 85, 86, 87]) hb178 (by decide)).tr (xFr.of (S := [82, 83, 85, 86, 87]) hb181 (by decide)))), ⟨fun h => by have := pq190.1 h; omega, (show fld w179 82 10 = 0 ∨ FA w179 ≠ 0 by omega), Or.inr ⟨by have := ms128; omega, by omega, hM193⟩, hD198, pk124.2.2.2.2.tr (K83.fr hF182 (by decide))⟩⟩
        · refine xg_t (xg_icT (u := f82_88) (v := 2) rfl xnm0 xnm0 (xj_neT hc111)) ?_
          refine xg_t (xg_blk (b := [(416, 1, 0, 0, 0, 0), (417, 3, 13, 140, 96, 183)]) rfl) ?_
          refine xg_t (xg_aload (va := (2, 82)) rfl rfl) ?_
          refine xg_cVv mX12_ends (vs := []) (rest := []) (cn1 := 0) (sl1 := 0) rfl (mEnds (hI70) hj73.2.2.2.1) rfl h82_108 rfl rfl rfl rfl rfl rfl (fun w199 hq200 => ?_)
          obtain ⟨hI201, hF202, hx203⟩ := hq200
          clear hb79 hb81 hb83 hb85 hb87 hb89 hb91 hb93 hb95 hb97 hb101 hb103 hb105 hb107
          obtain ⟨hv204, hv205, hv206, hv207, hv208⟩ := hx203
          have pk209 : PK w69 w199 := ⟨fun _ => hv204, by omega, by omega, Or.inr hv204, hv208⟩
          have pk210 : PK w w199 := PK.tr hj73 pk209
          have os211 : ∀ j, (j < 100 + 2 * u45 ∨ 102 + 2 * u45 ≤ j) → j < 140 → rwv w199 86 j = rwv w 86 j := fun j hj hl => (rwv_fr hF202 (by decide)).trans (hj74 j hj hl)
          have rg212 : FA w199 ≠ 0 ∨ u45 < 20 := hj77.imp_left pk209.1
          have mf213 : ∀ s, s < 7 → rwv w199 85 s = rwv w 85 s := fun s hs => (rwv_fr hF202 (by decide)).trans (hj76 s hs)
          have ms214 : mu w199 < mu w := Nat.lt_of_le_of_lt pk209.2.1 hj75
          clear hj77
          refine xg_t (xg_blk (b := [(420, 1, 0, 0, 0, 0), (421, 3, 1, 12, 11, 17), (424, 1, 2, 1, 0, 0), (425, 1, 39, 0, 0, 0), (426, 1, 10, 0, 0, 0), (427, 1, 3, 1, 0, 0), (428, 1, 11, 0, 0, 0), (429, 1, 17, 0, 0, 0), (430, 1, 0, 0, 0, 0), (431, 1, 19, 0, 0, 0), (432, 3, 1, 12, 14, 212), (435, 1, 3, 1, 0, 0), (436, 1, 11, 0, 0, 0), (437, 3, 14, 12, 14, 212), (440, 1, 12, 0, 0, 0)]) rfl) ?_
          obtain ⟨f82_215, f82_217, f82_219, f82_221, f82_223, f82_225, f82_227, f82_229, f82_231, f82_233, f82_235, f82_236, f82_237, f82_239, f82_241, f82_243, h82_245, hb216, hb218, hb220, hb222, hb224, hb226, hb228, hb230, hb232, hb234, hb238, hb240, hb242, hb244, hb246⟩ := (hI201 82 (by decide) (by decide) : cp82 (wget w199 82))
          have hf247 : fld w199 82 4 = f82_219 := fld_of h82_245
          have hf248 : fld w199 82 5 = f82_221 := fld_of h82_245
          have hf249 : fld w199 82 7 = f82_225 := fld_of h82_245
          have hf250 : fld w199 82 10 = f82_231 := fld_of h82_245
          have hf251 : fld w199 82 14 = f82_233 := fld_of h82_245
          have hu252 : mu w199 = 2 * (fld w199 82 4 - fld w199 82 5) + min 1 (fld w199 82 7) := rfl
          have hf253 := pk210.2.2.1
          have hl254 : f82_233 ≤ 1000 := by omega
          refine xg_t (xg_aload (va := (2, 82)) rfl rfl) ?_
          refine xg_t (xg_getf (va := (2, 85)) h82_245 rfl) ?_
          refine xg_t (xg_iload (va := (0, 4)) rfl rfl) ?_
          refine xg_t (xg_dup2 rfl) ?_
          obtain ⟨g85_255, h85_256, hb257⟩ := (hI201 85 (by decide) (by decide) : cpI 7 52 4294967295 (wget w199 85))
          have h85_256 : xRow w199 85 7 52 g85_255 := h85_256
          refine xg_ialdB (n := 4) (B := 4294967295) h85_256 (hb257) xnm0 (by omega) (fun u258 hu259 he260 => ?_)
          have hl261 : u258 = u45 := by have q1 := rwv_of h85_256 (show 4 < 7 by decide); have q2 := mf213 4 (by decide); omega
          refine xg_t (xg_const) ?_
          refine xg_t (xg_iadd (u := u258) (v := 1) (z := u258 + 1) xnm0 xnm0 (by omega)) ?_
          refine xg_iastK (n := 4) (u := u258 + 1) h85_256 xnm0 xnm0 rfl (by omega) (fun w262 hr263 hb264 => ?_)
          refine xg_t (xg_aload (va := (2, 82)) rfl rfl) ?_
          refine xg_t (xg_dup rfl) ?_
          refine xg_t (xg_getf (va := (0, f82_233)) (hb264.get (by decide) h82_245) rfl) ?_
          refine xg_t (xg_const) ?_
          refine xg_t (xg_iadd (u := f82_233) (v := 1) (z := f82_233 + 1) xnm0 xnm0 (by omega)) ?_
          refine xg_putI (fl1 := [(2, 83), (2, 84), (0, f82_215), (0, f82_217), (0, f82_219), (0, f82_221), (0, f82_223), (0, f82_225), (0, f82_227), (0, f82_229), (0, f82_231), (2, 85), (2, 86), (2, 87), (0, f82_233 + 1), (2, 88), (2, 89), (2, 90), (2, 91), (2, 92), (2, 93), (2, 94), (4, f82_235), (4, f82_236), (0, f82_237), (2, 95), (2, 96), (2, 97), (2, 98), (2, 99), (2, 100), (2, 101), (2, 102), (0, f82_239), (2, 103), (2, 104), (2, 105), (2, 106), (2, 107), (2, 108), (2, 109), (0, f82_241), (0, f82_243), (2, 110), (2, 111), (2, 112), (2, 113)]) (hb264.get (by decide) h82_245) rfl rfl rfl (fun w265 hk266 hb267 => ?_)
          have hF268 : xFr [82, 85] w199 w265 := ((xFr.of (S := [82, 85]) hb264 (by decide)).tr (xFr.of (S := [82, 85]) hb267 (by decide)))
          have hA269 := FA_fr hF268 (by decide)
          have hf270 : fld w265 82 4 = f82_219 := fld_of hk266
          have hf271 : fld w265 82 5 = f82_221 := fld_of hk266
          have hf272 : fld w265 82 7 = f82_225 := fld_of hk266
          have hf273 : fld w265 82 10 = f82_231 := fld_of hk266
          have hf274 : fld w265 82 14 = f82_233 + 1 := fld_of hk266
          have hu275 : mu w265 = 2 * (fld w265 82 4 - fld w265 82 5) + min 1 (fld w265 82 7) := rfl
          have pq276 := pk210
          unfold PK PS at pq276
          have hM277 : ∀ s, s < 7 → s ≠ 4 → rwv w265 85 s = rwv w 85 s := fun s hs hn => (rwv_of (hr263.but hb267 (by decide)) hs).trans ((if_neg hn).trans ((rwv_of h85_256 hs).symm.trans (mf213 s hs)))
          have hM278 : rwv w265 85 4 = u45 + 1 := (rwv_of (hr263.but hb267 (by decide)) (by decide)).trans ((if_pos rfl).trans (by omega))
          have hM279 : ∀ s, s < 7 → rwv w265 85 s ≤ rwv w 85 s + 1 := fun s hs => by
            by_cases z : s = 4
            · subst z; omega
            · rw [hM277 s hs z]; omega
          have hO280 : ∀ j, (j < 100 + 2 * u45 ∨ 102 + 2 * u45 ≤ j) → j < 140 → rwv w265 86 j = rwv w 86 j := fun j hj hl => (rwv_fr hF268 (by decide)).trans (os211 j hj hl)
          have hl282 : FA w199 ≠ 0 ∨ u45 < 20 := rg212
          have hN281 : FA w265 ≠ 0 ∨ 20 ≤ u45 ∨ True := Or.inr (Or.inr trivial)
          have hX283 : FA w265 ≠ 0 ∨ u45 < 20 := by omega
          have hD284 : FA w265 ≠ 0 ∨ (DATA w → DATA w265) := by
            by_cases z : FA w265 ≠ 0
            · exact Or.inl z
            · exact Or.inr (fun hd => hd.s4 hM277 hK48 hM278 (hX283.resolve_left z) hO280 ((hN281.resolve_left z).resolve_left (by have := hX283.resolve_left z; omega)))
          exact xg_e ⟨w265, ⟨rfl, rfl⟩, xMnv.up (S := [85, 82]) hI201 ((xFr.of (S := [85, 82]) hb264 (by decide)).tr (xFr.of (S := [85, 82]) hb267 (by decide))) (List.forall_mem_cons.mpr ⟨(show cpI 7 52 4294967295 (wget w265 85) from ⟨_, (hr263.but hb267 (by decide)), xrb (by omega) (hb257)⟩), List.forall_mem_cons.mpr ⟨(show cp82 (wget w265 82) from ⟨f82_215, f82_217, f82_219, f82_221, f82_223, f82_225, f82_227, f82_229, f82_231, f82_233 + 1, f82_235, f82_236, f82_237, f82_239, f82_241, f82_243, hk266, hb216, hb218, hb220, hb222, hb224, hb226, hb228, hb230, hb232, by omega, hb238, hb240, hb242, hb244, by omega⟩), fun _ h => absurd h List.not_mem_nil⟩⟩), ((hF71.tr (hF202.up (by decide))).tr ((xFr.of (S := [82, 83, 85, 86, 87]) hb264 (by decide)).tr (xFr.of (S := [82, 83, 85, 86, 87]) hb267 (by decide)))), ⟨fun h => by have := pq276.1 h; omega, (show fld w265 82 10 = 0 ∨ FA w265 ≠ 0 by omega), Or.inr ⟨by have := ms214; omega, by omega, hM279⟩, hD284, pk210.2.2.2.2.tr (K83.fr hF268 (by decide))⟩⟩
      · refine xg_t (xg_ifT (u := f82_94) rfl xnm0 (xj_neT hc110)) ?_
        refine xg_t (xg_blk (b := [(416, 1, 0, 0, 0, 0), (417, 3, 13, 140, 96, 183)]) rfl) ?_
        refine xg_t (xg_aload (va := (2, 82)) rfl rfl) ?_
        refine xg_cVv mX12_ends (vs := []) (rest := []) (cn1 := 0) (sl1 := 0) rfl (mEnds (hI70) hj73.2.2.2.1) rfl h82_108 rfl rfl rfl rfl rfl rfl (fun w285 hq286 => ?_)
        obtain ⟨hI287, hF288, hx289⟩ := hq286
        clear hb79 hb81 hb83 hb85 hb87 hb89 hb91 hb93 hb95 hb97 hb101 hb103 hb105 hb107
        obtain ⟨hv290, hv291, hv292, hv293, hv294⟩ := hx289
        have pk295 : PK w69 w285 := ⟨fun _ => hv290, by omega, by omega, Or.inr hv290, hv294⟩
        have pk296 : PK w w285 := PK.tr hj73 pk295
        have os297 : ∀ j, (j < 100 + 2 * u45 ∨ 102 + 2 * u45 ≤ j) → j < 140 → rwv w285 86 j = rwv w 86 j := fun j hj hl => (rwv_fr hF288 (by decide)).trans (hj74 j hj hl)
        have rg298 : FA w285 ≠ 0 ∨ u45 < 20 := hj77.imp_left pk295.1
        have mf299 : ∀ s, s < 7 → rwv w285 85 s = rwv w 85 s := fun s hs => (rwv_fr hF288 (by decide)).trans (hj76 s hs)
        have ms300 : mu w285 < mu w := Nat.lt_of_le_of_lt pk295.2.1 hj75
        clear hj77
        refine xg_t (xg_blk (b := [(420, 1, 0, 0, 0, 0), (421, 3, 1, 12, 11, 17), (424, 1, 2, 1, 0, 0), (425, 1, 39, 0, 0, 0), (426, 1, 10, 0, 0, 0), (427, 1, 3, 1, 0, 0), (428, 1, 11, 0, 0, 0), (429, 1, 17, 0, 0, 0), (430, 1, 0, 0, 0, 0), (431, 1, 19, 0, 0, 0), (432, 3, 1, 12, 14, 212), (435, 1, 3, 1, 0, 0), (436, 1, 11, 0, 0, 0), (437, 3, 14, 12, 14, 212), (440, 1, 12, 0, 0, 0)]) rfl) ?_
        obtain ⟨f82_301, f82_303, f82_305, f82_307, f82_309, f82_311, f82_313, f82_315, f82_317, f82_319, f82_321, f82_322, f82_323, f82_325, f82_327, f82_329, h82_331, hb302, hb304, hb306, hb308, hb310, hb312, hb314, hb316, hb318, hb320, hb324, hb326, hb328, hb330, hb332⟩ := (hI287 82 (by decide) (by decide) : cp82 (wget w285 82))
        have hf333 : fld w285 82 4 = f82_305 := fld_of h82_331
        have hf334 : fld w285 82 5 = f82_307 := fld_of h82_331
        have hf335 : fld w285 82 7 = f82_311 := fld_of h82_331
        have hf336 : fld w285 82 10 = f82_317 := fld_of h82_331
        have hf337 : fld w285 82 14 = f82_319 := fld_of h82_331
        have hu338 : mu w285 = 2 * (fld w285 82 4 - fld w285 82 5) + min 1 (fld w285 82 7) := rfl
        have hf339 := pk296.2.2.1
        have hl340 : f82_319 ≤ 1000 := by omega
        refine xg_t (xg_aload (va := (2, 82)) rfl rfl) ?_
        refine xg_t (xg_getf (va := (2, 85)) h82_331 rfl) ?_
        refine xg_t (xg_iload (va := (0, 4)) rfl rfl) ?_
        refine xg_t (xg_dup2 rfl) ?_
        obtain ⟨g85_341, h85_342, hb343⟩ := (hI287 85 (by decide) (by decide) : cpI 7 52 4294967295 (wget w285 85))
        have h85_342 : xRow w285 85 7 52 g85_341 := h85_342
        refine xg_ialdB (n := 4) (B := 4294967295) h85_342 (hb343) xnm0 (by omega) (fun u344 hu345 he346 => ?_)
        have hl347 : u344 = u45 := by have q1 := rwv_of h85_342 (show 4 < 7 by decide); have q2 := mf299 4 (by decide); omega
        refine xg_t (xg_const) ?_
        refine xg_t (xg_iadd (u := u344) (v := 1) (z := u344 + 1) xnm0 xnm0 (by omega)) ?_
        refine xg_iastK (n := 4) (u := u344 + 1) h85_342 xnm0 xnm0 rfl (by omega) (fun w348 hr349 hb350 => ?_)
        refine xg_t (xg_aload (va := (2, 82)) rfl rfl) ?_
        refine xg_t (xg_dup rfl) ?_
        refine xg_t (xg_getf (va := (0, f82_319)) (hb350.get (by decide) h82_331) rfl) ?_
        refine xg_t (xg_const) ?_
        refine xg_t (xg_iadd (u := f82_319) (v := 1) (z := f82_319 + 1) xnm0 xnm0 (by omega)) ?_
        refine xg_putI (fl1 := [(2, 83), (2, 84), (0, f82_301), (0, f82_303), (0, f82_305), (0, f82_307), (0, f82_309), (0, f82_311), (0, f82_313), (0, f82_315), (0, f82_317), (2, 85), (2, 86), (2, 87), (0, f82_319 + 1), (2, 88), (2, 89), (2, 90), (2, 91), (2, 92), (2, 93), (2, 94), (4, f82_321), (4, f82_322), (0, f82_323), (2, 95), (2, 96), (2, 97), (2, 98), (2, 99), (2, 100), (2, 101), (2, 102), (0, f82_325), (2, 103), (2, 104), (2, 105), (2, 106), (2, 107), (2, 108), (2, 109), (0, f82_327), (0, f82_329), (2, 110), (2, 111), (2, 112), (2, 113)]) (hb350.get (by decide) h82_331) rfl rfl rfl (fun w351 hk352 hb353 => ?_)
        have hF354 : xFr [82, 85] w285 w351 := ((xFr.of (S := [82, 85]) hb350 (by decide)).tr (xFr.of (S := [82, 85]) hb353 (by decide)))
        have hA355 := FA_fr hF354 (by decide)
        have hf356 : fld w351 82 4 = f82_305 := fld_of hk352
        have hf357 : fld w351 82 5 = f82_307 := fld_of hk352
        have hf358 : fld w351 82 7 = f82_311 := fld_of hk352
        have hf359 : fld w351 82 10 = f82_317 := fld_of hk352
        have hf360 : fld w351 82 14 = f82_319 + 1 := fld_of hk352
        have hu361 : mu w351 = 2 * (fld w351 82 4 - fld w351 82 5) + min 1 (fld w351 82 7) := rfl
        have pq362 := pk296
        unfold PK PS at pq362
        have hM363 : ∀ s, s < 7 → s ≠ 4 → rwv w351 85 s = rwv w 85 s := fun s hs hn => (rwv_of (hr349.but hb353 (by decide)) hs).trans ((if_neg hn).trans ((rwv_of h85_342 hs).symm.trans (mf299 s hs)))
        have hM364 : rwv w351 85 4 = u45 + 1 := (rwv_of (hr349.but hb353 (by decide)) (by decide)).trans ((if_pos rfl).trans (by omega))
        have hM365 : ∀ s, s < 7 → rwv w351 85 s ≤ rwv w 85 s + 1 := fun s hs => by
          by_cases z : s = 4
          · subst z; omega
          · rw [hM363 s hs z]; omega
        have hO366 : ∀ j, (j < 100 + 2 * u45 ∨ 102 + 2 * u45 ≤ j) → j < 140 → rwv w351 86 j = rwv w 86 j := fun j hj hl => (rwv_fr hF354 (by decide)).trans (os297 j hj hl)
        have hl368 : FA w285 ≠ 0 ∨ u45 < 20 := rg298
        have hN367 : FA w351 ≠ 0 ∨ 20 ≤ u45 ∨ True := Or.inr (Or.inr trivial)
        have hX369 : FA w351 ≠ 0 ∨ u45 < 20 := by omega
        have hD370 : FA w351 ≠ 0 ∨ (DATA w → DATA w351) := by
          by_cases z : FA w351 ≠ 0
          · exact Or.inl z
          · exact Or.inr (fun hd => hd.s4 hM363 hK48 hM364 (hX369.resolve_left z) hO366 ((hN367.resolve_left z).resolve_left (by have := hX369.resolve_left z; omega)))
        exact xg_e ⟨w351, ⟨rfl, rfl⟩, xMnv.up (S := [85, 82]) hI287 ((xFr.of (S := [85, 82]) hb350 (by decide)).tr (xFr.of (S := [85, 82]) hb353 (by decide))) (List.forall_mem_cons.mpr ⟨(show cpI 7 52 4294967295 (wget w351 85) from ⟨_, (hr349.but hb353 (by decide)), xrb (by omega) (hb343)⟩), List.forall_mem_cons.mpr ⟨(show cp82 (wget w351 82) from ⟨f82_301, f82_303, f82_305, f82_307, f82_309, f82_311, f82_313, f82_315, f82_317, f82_319 + 1, f82_321, f82_322, f82_323, f82_325, f82_327, f82_329, hk352, hb302, hb304, hb306, hb308, hb310, hb312, hb314, hb316, hb318, by omega, hb324, hb326, hb328, hb330, by omega⟩), fun _ h => absurd h List.not_mem_nil⟩⟩), ((hF71.tr (hF288.up (by decide))).tr ((xFr.of (S := [82, 83, 85, 86, 87]) hb350 (by decide)).tr (xFr.of (S := [82, 83, 85, 86, 87]) hb353 (by decide)))), ⟨fun h => by have := pq362.1 h; omega, (show fld w351 82 10 = 0 ∨ FA w351 ≠ 0 by omega), Or.inr ⟨by have := ms300; omega, by omega, hM365⟩, hD370, pk296.2.2.2.2.tr (K83.fr hF354 (by decide))⟩⟩
    refine xg_t (xg_iload (va := (0, 4)) rfl rfl) ?_
    refine xg_t (xg_swt (ks := [(0, 108), (1, 116), (2, 180), (3, 221), (4, 273), (5, 326)]) (u := 4) (z := 273) rfl rfl rfl xnm0 (xsw_n (by omega) (xsw_n (by omega) (xsw_n (by omega) (xsw_n (by omega) (xsw_y rfl)))))) ?_
    refine xg_t (xg_blk (b := [(273, 1, 2, 3, 0, 0), (274, 2, 4, 20, 0, 0), (276, 3, 6, 286, 3, 0), (279, 1, 0, 0, 0, 0), (280, 3, 1, 12, 13, 23), (283, 1, 2, 3, 0, 0), (284, 1, 2, 2, 0, 0), (285, 1, 17, 0, 0, 0)]) rfl) ?_
    refine xg_t (xg_iload (va := (0, u45)) rfl rfl) ?_
    refine xg_t (xg_bip) ?_
    refine xg_t (xg_icF (u := u45) (v := 20) rfl xnm0 xnm0 (xj_geF (by omega) (by omega))) ?_
    refine xg_t (xg_aload (va := (2, 82)) rfl rfl) ?_
    obtain ⟨f82_371, f82_373, f82_375, f82_377, f82_379, f82_381, f82_383, f82_385, f82_387, f82_389, f82_391, f82_392, f82_393, f82_395, f82_397, f82_399, h82_401, hb372, hb374, hb376, hb378, hb380, hb382, hb384, hb386, hb388, hb390, hb394, hb396, hb398, hb400, hb402⟩ := (hI54 82 (by decide) (by decide) : cp82 (wget w52 82))
    refine xg_t (xg_getf (va := (2, 87)) h82_401 rfl) ?_
    refine xg_t (xg_iload (va := (0, u45)) rfl rfl) ?_
    refine xg_t (xg_iload (va := (0, at_)) rfl rfl) ?_
    refine xg_iastK (n := u45) (u := at_) (h87_43.fr hF55 (by decide)) xnm0 xnm0 rfl (by omega) (fun w403 hr404 hb405 => ?_)
    have hF406 : xFr [87] w52 w403 := xFr.of hb405 (by decide)
    have pk407 : PK w w403 := PK.tr pk64 (PK.fr hF406 (by decide) (by decide) pk64.2.2.2.1)
    have os408 : ∀ j, (j < 100 + 2 * u45 ∨ 102 + 2 * u45 ≤ j) → j < 140 → rwv w403 86 j = rwv w 86 j := fun j hj hl => (rwv_fr hF406 (by decide)).trans (os65 j hj hl)
    have mf409 : ∀ s, s < 7 → rwv w403 85 s = rwv w 85 s := fun s hs => (rwv_fr hF406 (by decide)).trans (mf66 s hs)
    have ms410 : mu w403 < mu w := Nat.lt_of_le_of_lt (PK.fr hF406 (by decide) (by decide) pk64.2.2.2.1).2.1 ms67
    refine xg_t (xg_blk (b := [(286, 1, 3, 0, 0, 0), (287, 2, 15, 4, 0, 0)]) rfl) ?_
    refine xg_t (xg_const) ?_
    refine xg_t (xg_istore (l1 := [(3, (0, u45)), (2, (0, at_)), (1, (0, 4)), (0, (2, 82))]) rfl rfl rfl) ?_
    refine xg_t (xg_blk (b := [(289, 2, 2, 4, 0, 0), (291, 1, 3, 2, 0, 0), (292, 3, 6, 323, 3, 0), (295, 1, 0, 0, 0, 0), (296, 1, 2, 1, 0, 0), (297, 1, 2, 3, 0, 0), (298, 2, 4, 100, 0, 0), (300, 1, 3, 2, 0, 0), (301, 1, 2, 3, 0, 0), (302, 1, 16, 0, 0, 0), (303, 1, 11, 0, 0, 0), (304, 2, 2, 4, 0, 0), (306, 1, 11, 0, 0, 0), (307, 1, 0, 0, 0, 0), (308, 1, 3, 0, 0, 0), (309, 2, 4, 9, 0, 0), (311, 3, 13, 199, 96, 196), (314, 3, 13, 211, 96, 200), (317, 3, 9, 4, 1, 0), (320, 3, 8, 289, 0, 0)]) rfl) ?_
    refine xg_t (xg_iload (va := (0, 0)) rfl rfl) ?_
    refine xg_t (xg_const) ?_
    refine xg_t (xg_icF (u := 0) (v := 2) rfl xnm0 xnm0 (by decide)) ?_
    refine xg_t (xg_aload (va := (2, 82)) rfl rfl) ?_
    refine xg_t (xg_iload (va := (0, 4)) rfl rfl) ?_
    refine xg_t (xg_iload (va := (0, u45)) rfl rfl) ?_
    refine xg_t (xg_bip) ?_
    refine xg_t (xg_const) ?_
    refine xg_t (xg_iload (va := (0, u45)) rfl rfl) ?_
    refine xg_t (xg_imul (u := 2) (v := u45) (z := 2 * u45) xnm0 xnm0 (by omega)) ?_
    refine xg_t (xg_iadd (u := 100) (v := 2 * u45) (z := 100 + (2 * u45)) xnm0 xnm0 (by omega)) ?_
    refine xg_t (xg_iload (va := (0, 0)) rfl rfl) ?_
    refine xg_t (xg_iadd (u := 100 + (2 * u45)) (v := 0) (z := (100 + (2 * u45)) + 0) xnm0 xnm0 (by omega)) ?_
    refine xg_t (xg_aload (va := (2, 82)) rfl rfl) ?_
    refine xg_t (xg_const) ?_
    refine xg_t (xg_bip) ?_
    refine xg_cVi mX12_numbered (vs := [(0, 0), (0, 9)]) (rest := [(0, (100 + (2 * u45)) + 0), (0, u45), (0, 4), (2, 82)]) (cn1 := 0) (sl1 := 0) rfl (mNumbered (xMnv.up (S := [87]) hI54 (xFr.of (S := [87]) hb405 (by decide)) (List.forall_mem_cons.mpr ⟨(show cpI 20 54 4294967295 (wget w403 87) from ⟨_, hr404, xrb (by omega) (hb44)⟩), fun _ h => absurd h List.not_mem_nil⟩)) (by omega) (by omega) pk407.2.2.2.1) rfl (hb405.get (by decide) h82_401) rfl rfl rfl rfl rfl rfl (fun n415 w411 hq412 => ?_)
    obtain ⟨hn416, hI413, hF414⟩ := hq412
    clear hb372 hb374 hb376 hb378 hb380 hb382 hb384 hb386 hb388 hb390 hb394 hb396 hb398 hb400
    obtain ⟨hn417, hn418, hn419⟩ := hn416
    have pk420 : PK w w411 := PK.tr pk407 hn418
    have os421 : ∀ j, (j < 100 + 2 * u45 ∨ 102 + 2 * u45 ≤ j) → j < 140 → rwv w411 86 j = rwv w 86 j := fun j hj hl => (rwv_fr hF414 (by decide)).trans (os408 j hj hl)
    have mf422 : ∀ s, s < 7 → rwv w411 85 s = rwv w 85 s := fun s hs => (rwv_fr hF414 (by decide)).trans (mf409 s hs)
    have ms423 : mu w411 < mu w := Nat.lt_of_le_of_lt hn418.2.1 ms410
    obtain ⟨f82_424, f82_426, f82_428, f82_430, f82_432, f82_434, f82_436, f82_438, f82_440, f82_442, f82_444, f82_445, f82_446, f82_448, f82_450, f82_452, h82_454, hb425, hb427, hb429, hb431, hb433, hb435, hb437, hb439, hb441, hb443, hb447, hb449, hb451, hb453, hb455⟩ := (hI413 82 (by decide) (by decide) : cp82 (wget w411 82))
    refine xg_cVv mX12_puts (vs := [(0, 4), (0, u45), (0, (100 + (2 * u45)) + 0), (0, n415)]) (rest := []) (cn1 := 0) (sl1 := 0) rfl (mPuts4 (hI413) (by omega) (by omega) (by omega) (fun _ => by omega)) rfl h82_454 rfl rfl rfl rfl rfl rfl (fun w456 hq457 => ?_)
    obtain ⟨hI458, hF459, hx460⟩ := hq457
    obtain ⟨hp461, hp462⟩ := hx460
    have pk463 : PK w w456 := PK.tr pk420 (PK.fr hF459 (by decide) (by decide) pk420.2.2.2.1)
    have os464 : ∀ j, (j < 100 + 2 * u45 ∨ 102 + 2 * u45 ≤ j) → j < 140 → rwv w456 86 j = rwv w 86 j := fun j hj hl => (hp462 j (by omega) hl).trans (os421 j hj hl)
    have rg465 : FA w456 ≠ 0 ∨ (0 ≤ n415 ∧ n415 ≤ 9) := hn419.imp_left (PK.fr hF459 (by decide) (by decide) pk420.2.2.2.1).1
    have mf466 : ∀ s, s < 7 → rwv w456 85 s = rwv w 85 s := fun s hs => (rwv_fr hF459 (by decide)).trans (mf422 s hs)
    have ms467 : mu w456 < mu w := Nat.lt_of_le_of_lt (PK.fr hF459 (by decide) (by decide) pk420.2.2.2.1).2.1 ms423
    clear hn419
    refine xg_t (xg_iinc (u := 0) (z := 1) (l1 := [(3, (0, u45)), (2, (0, at_)), (1, (0, 4)), (0, (2, 82))]) rfl rfl (by decide) rfl) ?_
    refine xg_t (xg_goto) ?_
    refine xg_t (xg_blk (b := [(289, 2, 2, 4, 0, 0), (291, 1, 3, 2, 0, 0), (292, 3, 6, 323, 3, 0), (295, 1, 0, 0, 0, 0), (296, 1, 2, 1, 0, 0), (297, 1, 2, 3, 0, 0), (298, 2, 4, 100, 0, 0), (300, 1, 3, 2, 0, 0), (301, 1, 2, 3, 0, 0), (302, 1, 16, 0, 0, 0), (303, 1, 11, 0, 0, 0), (304, 2, 2, 4, 0, 0), (306, 1, 11, 0, 0, 0), (307, 1, 0, 0, 0, 0), (308, 1, 3, 0, 0, 0), (309, 2, 4, 9, 0, 0), (311, 3, 13, 199, 96, 196), (314, 3, 13, 211, 96, 200), (317, 3, 9, 4, 1, 0), (320, 3, 8, 289, 0, 0)]) rfl) ?_
    refine xg_t (xg_iload (va := (0, 1)) rfl rfl) ?_
    refine xg_t (xg_const) ?_
    refine xg_t (xg_icF (u := 1) (v := 2) rfl xnm0 xnm0 (by decide)) ?_
    refine xg_t (xg_aload (va := (2, 82)) rfl rfl) ?_
    refine xg_t (xg_iload (va := (0, 4)) rfl rfl) ?_
    refine xg_t (xg_iload (va := (0, u45)) rfl rfl) ?_
    refine xg_t (xg_bip) ?_
    refine xg_t (xg_const) ?_
    refine xg_t (xg_iload (va := (0, u45)) rfl rfl) ?_
    refine xg_t (xg_imul (u := 2) (v := u45) (z := 2 * u45) xnm0 xnm0 (by omega)) ?_
    refine xg_t (xg_iadd (u := 100) (v := 2 * u45) (z := 100 + (2 * u45)) xnm0 xnm0 (by omega)) ?_
    refine xg_t (xg_iload (va := (0, 1)) rfl rfl) ?_
    refine xg_t (xg_iadd (u := 100 + (2 * u45)) (v := 1) (z := (100 + (2 * u45)) + 1) xnm0 xnm0 (by omega)) ?_
    refine xg_t (xg_aload (va := (2, 82)) rfl rfl) ?_
    refine xg_t (xg_const) ?_
    refine xg_t (xg_bip) ?_
    refine xg_cVi mX12_numbered (vs := [(0, 0), (0, 9)]) (rest := [(0, (100 + (2 * u45)) + 1), (0, u45), (0, 4), (2, 82)]) (cn1 := 0) (sl1 := 0) rfl (mNumbered (hI458) (by omega) (by omega) pk463.2.2.2.1) rfl (hF459.get (by decide) h82_454) rfl rfl rfl rfl rfl rfl (fun n472 w468 hq469 => ?_)
    obtain ⟨hn473, hI470, hF471⟩ := hq469
    clear hb425 hb427 hb429 hb431 hb433 hb435 hb437 hb439 hb441 hb443 hb447 hb449 hb451 hb453
    obtain ⟨hn474, hn475, hn476⟩ := hn473
    have pk477 : PK w w468 := PK.tr pk463 hn475
    have os478 : ∀ j, (j < 100 + 2 * u45 ∨ 102 + 2 * u45 ≤ j) → j < 140 → rwv w468 86 j = rwv w 86 j := fun j hj hl => (rwv_fr hF471 (by decide)).trans (os464 j hj hl)
    have ix479 : u45 < 20 → rwv w468 86 ((100 + (2 * u45)) + 0) = n415 := fun h => (rwv_fr hF471 (by decide)).trans (hp461 h)
    have rg480 : FA w468 ≠ 0 ∨ (0 ≤ n415 ∧ n415 ≤ 9) := rg465.imp_left hn475.1
    have mf481 : ∀ s, s < 7 → rwv w468 85 s = rwv w 85 s := fun s hs => (rwv_fr hF471 (by decide)).trans (mf466 s hs)
    have ms482 : mu w468 < mu w := Nat.lt_of_le_of_lt hn475.2.1 ms467
    clear hp461 rg465
    obtain ⟨f82_483, f82_485, f82_487, f82_489, f82_491, f82_493, f82_495, f82_497, f82_499, f82_501, f82_503, f82_504, f82_505, f82_507, f82_509, f82_511, h82_513, hb484, hb486, hb488, hb490, hb492, hb494, hb496, hb498, hb500, hb502, hb506, hb508, hb510, hb512, hb514⟩ := (hI470 82 (by decide) (by decide) : cp82 (wget w468 82))
    refine xg_cVv mX12_puts (vs := [(0, 4), (0, u45), (0, (100 + (2 * u45)) + 1), (0, n472)]) (rest := []) (cn1 := 0) (sl1 := 0) rfl (mPuts4 (hI470) (by omega) (by omega) (by omega) (fun _ => by omega)) rfl h82_513 rfl rfl rfl rfl rfl rfl (fun w515 hq516 => ?_)
    obtain ⟨hI517, hF518, hx519⟩ := hq516
    obtain ⟨hp520, hp521⟩ := hx519
    have pk522 : PK w w515 := PK.tr pk477 (PK.fr hF518 (by decide) (by decide) pk477.2.2.2.1)
    have os523 : ∀ j, (j < 100 + 2 * u45 ∨ 102 + 2 * u45 ≤ j) → j < 140 → rwv w515 86 j = rwv w 86 j := fun j hj hl => (hp521 j (by omega) hl).trans (os478 j hj hl)
    have ix524 : u45 < 20 → rwv w515 86 ((100 + (2 * u45)) + 0) = n415 := fun h => (hp521 _ (by omega) (by omega)).trans (ix479 h)
    have rg525 : FA w515 ≠ 0 ∨ (0 ≤ n415 ∧ n415 ≤ 9) := rg480.imp_left (PK.fr hF518 (by decide) (by decide) pk477.2.2.2.1).1
    have rg526 : FA w515 ≠ 0 ∨ (0 ≤ n472 ∧ n472 ≤ 9) := hn476.imp_left (PK.fr hF518 (by decide) (by decide) pk477.2.2.2.1).1
    have mf527 : ∀ s, s < 7 → rwv w515 85 s = rwv w 85 s := fun s hs => (rwv_fr hF518 (by decide)).trans (mf481 s hs)
    have ms528 : mu w515 < mu w := Nat.lt_of_le_of_lt (PK.fr hF518 (by decide) (by decide) pk477.2.2.2.1).2.1 ms482
    clear ix479 rg480 hn476
    refine xg_t (xg_iinc (u := 1) (z := 2) (l1 := [(3, (0, u45)), (2, (0, at_)), (1, (0, 4)), (0, (2, 82))]) rfl rfl (by decide) rfl) ?_
    refine xg_t (xg_goto) ?_
    refine xg_t (xg_blk (b := [(289, 2, 2, 4, 0, 0), (291, 1, 3, 2, 0, 0), (292, 3, 6, 323, 3, 0), (295, 1, 0, 0, 0, 0), (296, 1, 2, 1, 0, 0), (297, 1, 2, 3, 0, 0), (298, 2, 4, 100, 0, 0), (300, 1, 3, 2, 0, 0), (301, 1, 2, 3, 0, 0), (302, 1, 16, 0, 0, 0), (303, 1, 11, 0, 0, 0), (304, 2, 2, 4, 0, 0), (306, 1, 11, 0, 0, 0), (307, 1, 0, 0, 0, 0), (308, 1, 3, 0, 0, 0), (309, 2, 4, 9, 0, 0), (311, 3, 13, 199, 96, 196), (314, 3, 13, 211, 96, 200), (317, 3, 9, 4, 1, 0), (320, 3, 8, 289, 0, 0)]) rfl) ?_
    refine xg_t (xg_iload (va := (0, 2)) rfl rfl) ?_
    refine xg_t (xg_const) ?_
    refine xg_t (xg_icT (u := 2) (v := 2) rfl xnm0 xnm0 (by decide)) ?_
    refine xg_t (xg_blk (b := [(323, 3, 8, 394, 0, 0)]) rfl) ?_
    refine xg_t (xg_goto) ?_
    refine xg_t (xg_drop (l1 := [(0, (2, 82)), (1, (0, 4)), (3, (0, u45))]) (List.forall_mem_cons.mpr ⟨List.mem_cons_of_mem _ (List.mem_cons_of_mem _ (List.mem_cons_of_mem _ (List.mem_cons_of_mem _ (List.mem_cons_self)))), List.forall_mem_cons.mpr ⟨List.mem_cons_of_mem _ (List.mem_cons_of_mem _ (List.mem_cons_of_mem _ (List.mem_cons_self))), List.forall_mem_cons.mpr ⟨List.mem_cons_of_mem _ (List.mem_cons_self), fun _ h => absurd h List.not_mem_nil⟩⟩⟩)) ?_
    have hX529 : FA w515 ≠ 0 ∨ u45 < 20 := Or.inr (by omega)
    exact jn68 w515 (hI517) (((((((hF55.up (by decide)).tr (xFr.of (S := [82, 83, 85, 86, 87]) hb405 (by decide))).tr (hF414.up (by decide))).tr (hF459.up (by decide))).tr (hF471.up (by decide))).tr (hF518.up (by decide)))) (⟨pk522, os523, ms528, mf527, hX529⟩)
  · refine xg_t (xg_icF (u := u45) (v := 20) rfl xnm0 xnm0 (xj_ltF (by omega) (by omega))) ?_
    refine xg_t (xg_aload (va := (2, 82)) rfl rfl) ?_
    refine xg_t (xg_const) ?_
    refine xg_t (xg_iload (va := (0, at_)) rfl rfl) ?_
    refine xg_cVv mX12_also (vs := [(0, 3), (0, at_)]) (rest := []) (cn1 := 0) (sl1 := 0) rfl (mAlso (hI) (by omega) (by omega) (by omega) (PK.rf hps).2.2.2.1) rfl h82_31 rfl rfl rfl rfl rfl rfl (fun w530 hq531 => ?_)
    obtain ⟨hI532, hF533, hx534⟩ := hq531
    obtain ⟨hv536, hv537⟩ := hx534
    have pk535 : PK w w530 := ⟨fun _ => hv536, Nat.le_of_eq (mu_fr hF533 (by decide)), fld_fr hF533 (by decide), Or.inr hv536, hv537⟩
    have pk538 : PK w w530 := PK.tr (PK.rf hps) pk535
    have os539 : ∀ j, (j < 100 + 2 * u45 ∨ 102 + 2 * u45 ≤ j) → j < 140 → rwv w530 86 j = rwv w 86 j := fun j hj hl => (rwv_fr hF533 (by decide)).trans ((fun j _ _ => rfl) j hj hl)
    have mf540 : ∀ s, s < 7 → rwv w530 85 s = rwv w 85 s := fun s hs => (rwv_fr hF533 (by decide)).trans ((fun _ _ => rfl) s hs)
    have hf541 := fld_fr (c := 82) (j := 7) hF533 (by decide)
    refine xg_t (xg_blk (b := [(64, 1, 0, 0, 0, 0), (65, 3, 13, 110, 96, 190), (68, 1, 2, 1, 0, 0), (69, 39, 33, 362, 0, 9)]) rfl) ?_
    refine xg_t (xg_aload (va := (2, 82)) rfl rfl) ?_
    refine xg_cVv mX12_advance (vs := []) (rest := []) (cn1 := 0) (sl1 := 0) rfl (mAdvance (hI532)) rfl (hF533.get (by decide) h82_31) rfl rfl rfl rfl rfl rfl (fun w542 hq543 => ?_)
    obtain ⟨hI544, hF545, hx546⟩ := hq543
    clear hb2 hb4 hb6 hb8 hb10 hb12 hb14 hb16 hb18 hb20 hb24 hb26 hb28 hb30
    obtain ⟨hv547, hv548, hv549, hv550⟩ := hx546
    have hf552 := FA_fr hF545 (by decide)
    have hs553 := pk538.2.2.2.1
    unfold PS at hs553
    have pk551 : PK w530 w542 := ⟨fun _ => by omega, hv547, hv550, (show fld w542 82 10 = 0 ∨ FA w542 ≠ 0 by omega), K83.fr hF545 (by decide)⟩
    clear hs553
    have pk554 : PK w w542 := PK.tr pk538 pk551
    have os555 : ∀ j, (j < 100 + 2 * u45 ∨ 102 + 2 * u45 ≤ j) → j < 140 → rwv w542 86 j = rwv w 86 j := fun j hj hl => (rwv_fr hF545 (by decide)).trans (os539 j hj hl)
    have rg556 : FA w542 ≠ 0 ∨ 0 = 1 := (Or.inl hv536 : FA w530 ≠ 0 ∨ 0 = 1).imp_left pk551.1
    have mf557 : ∀ s, s < 7 → rwv w542 85 s = rwv w 85 s := fun s hs => (rwv_fr hF545 (by decide)).trans (mf540 s hs)
    have ms558 : mu w542 < mu w := Nat.lt_of_lt_of_le (hv548 (by omega)) pk538.2.1
    clear hv548
    have jn559 : ∀ (w560 : List (List xE)), xMnv w560 → xFr [82, 83, 85, 86, 87] w w560 → (PK w w560 ∧ (∀ j, (j < 100 + 2 * u45 ∨ 102 + 2 * u45 ≤ j) → j < 140 → rwv w560 86 j = rwv w 86 j) ∧ mu w560 < mu w ∧ (∀ s, s < 7 → rwv w560 85 s = rwv w 85 s) ∧ (FA w560 ≠ 0 ∨ u45 < 20)) → xTo (d + 7) mX12_aLine (394, [], [(0, (2, 82)), (1, (0, 4)), (3, (0, u45))], [], (w560, bd, fc, 0, 0, rr)) (fun φ => ∃ w', xEnd 0 [] (w', bd, fc, 0, 0, rr) φ ∧ xMnv w' ∧ xFr [82, 83, 85, 86, 87] w w' ∧ ((FA w ≠ 0 → FA w' ≠ 0) ∧ PS w' ∧ ((fld w' 82 10 = 1 ∧ mu w' = mu w ∧ fld w' 82 14 = fld w 82 14 ∧ ∀ s, s < 7 → rwv w' 85 s = rwv w 85 s) ∨ (mu w' < mu w ∧ fld w' 82 14 = fld w 82 14 + 1 ∧ ∀ s, s < 7 → rwv w' 85 s ≤ rwv w 85 s + 1)) ∧ (FA w' ≠ 0 ∨ (DATA w → DATA w')) ∧ K83 w w')) := by
      intro w560 hI561 hF562 he563
      obtain ⟨hj564, hj565, hj566, hj567, hj568⟩ := he563
      refine xg_t (xg_blk (b := [(394, 1, 0, 0, 0, 0), (395, 3, 1, 12, 10, 180), (398, 3, 7, 416, 1, 0), (401, 1, 0, 0, 0, 0), (402, 3, 1, 12, 7, 151), (405, 1, 3, 2, 0, 0), (406, 3, 6, 416, 1, 0), (409, 1, 0, 0, 0, 0), (410, 3, 13, 110, 96, 190), (413, 3, 8, 420, 0, 0)]) rfl) ?_
      refine xg_t (xg_aload (va := (2, 82)) rfl rfl) ?_
      obtain ⟨f82_569, f82_571, f82_573, f82_575, f82_577, f82_579, f82_581, f82_583, f82_585, f82_587, f82_589, f82_590, f82_591, f82_593, f82_595, f82_597, h82_599, hb570, hb572, hb574, hb576, hb578, hb580, hb582, hb584, hb586, hb588, hb592, hb594, hb596, hb598, hb600⟩ := (hI561 82 (by decide) (by decide) : cp82 (wget w560 82))
      refine xg_t (xg_getf (va := (0, f82_585)) h82_599 rfl) ?_
      by_cases hc601 : f82_585 = 0
      · refine xg_t (xg_ifF (u := f82_585) rfl xnm0 (xj_neF hc601)) ?_
        refine xg_t (xg_aload (va := (2, 82)) rfl rfl) ?_
        refine xg_t (xg_getf (va := (0, f82_579)) h82_599 rfl) ?_
        refine xg_t (xg_const) ?_
        by_cases hc602 : f82_579 = 2
        · refine xg_t (xg_icF (u := f82_579) (v := 2) rfl xnm0 xnm0 (xj_neF hc602)) ?_
          refine xg_t (xg_aload (va := (2, 82)) rfl rfl) ?_
          refine xg_cVv mX12_advance (vs := []) (rest := []) (cn1 := 0) (sl1 := 0) rfl (mAdvance (hI561)) rfl h82_599 rfl rfl rfl rfl rfl rfl (fun w603 hq604 => ?_)
          obtain ⟨hI605, hF606, hx607⟩ := hq604
          clear hb570 hb572 hb574 hb576 hb578 hb580 hb582 hb584 hb586 hb588 hb592 hb594 hb596 hb598
          obtain ⟨hv608, hv609, hv610, hv611⟩ := hx607
          have hf613 := FA_fr hF606 (by decide)
          have hs614 := hj564.2.2.2.1
          unfold PS at hs614
          have pk612 : PK w560 w603 := ⟨fun _ => by omega, hv608, hv611, (show fld w603 82 10 = 0 ∨ FA w603 ≠ 0 by omega), K83.fr hF606 (by decide)⟩
          clear hs614
          clear hv609
          have pk615 : PK w w603 := PK.tr hj564 pk612
          have os616 : ∀ j, (j < 100 + 2 * u45 ∨ 102 + 2 * u45 ≤ j) → j < 140 → rwv w603 86 j = rwv w 86 j := fun j hj hl => (rwv_fr hF606 (by decide)).trans (hj565 j hj hl)
          have rg617 : FA w603 ≠ 0 ∨ u45 < 20 := hj568.imp_left pk612.1
          have mf618 : ∀ s, s < 7 → rwv w603 85 s = rwv w 85 s := fun s hs => (rwv_fr hF606 (by decide)).trans (hj567 s hs)
          have ms619 : mu w603 < mu w := Nat.lt_of_le_of_lt pk612.2.1 hj566
          clear hj568
          refine xg_t (xg_goto) ?_
          refine xg_t (xg_blk (b := [(420, 1, 0, 0, 0, 0), (421, 3, 1, 12, 11, 17), (424, 1, 2, 1, 0, 0), (425, 1, 39, 0, 0, 0), (426, 1, 10, 0, 0, 0), (427, 1, 3, 1, 0, 0), (428, 1, 11, 0, 0, 0), (429, 1, 17, 0, 0, 0), (430, 1, 0, 0, 0, 0), (431, 1, 19, 0, 0, 0), (432, 3, 1, 12, 14, 212), (435, 1, 3, 1, 0, 0), (436, 1, 11, 0, 0, 0), (437, 3, 14, 12, 14, 212), (440, 1, 12, 0, 0, 0)]) rfl) ?_
          obtain ⟨f82_620, f82_622, f82_624, f82_626, f82_628, f82_630, f82_632, f82_634, f82_636, f82_638, f82_640, f82_641, f82_642, f82_644, f82_646, f82_648, h82_650, hb621, hb623, hb625, hb627, hb629, hb631, hb633, hb635, hb637, hb639, hb643, hb645, hb647, hb649, hb651⟩ := (hI605 82 (by decide) (by decide) : cp82 (wget w603 82))
          have hf652 : fld w603 82 4 = f82_624 := fld_of h82_650
          have hf653 : fld w603 82 5 = f82_626 := fld_of h82_650
          have hf654 : fld w603 82 7 = f82_630 := fld_of h82_650
          have hf655 : fld w603 82 10 = f82_636 := fld_of h82_650
          have hf656 : fld w603 82 14 = f82_638 := fld_of h82_650
          have hu657 : mu w603 = 2 * (fld w603 82 4 - fld w603 82 5) + min 1 (fld w603 82 7) := rfl
          have hf658 := pk615.2.2.1
          have hl659 : f82_638 ≤ 1000 := by omega
          refine xg_t (xg_aload (va := (2, 82)) rfl rfl) ?_
          refine xg_t (xg_getf (va := (2, 85)) h82_650 rfl) ?_
          refine xg_t (xg_iload (va := (0, 4)) rfl rfl) ?_
          refine xg_t (xg_dup2 rfl) ?_
          obtain ⟨g85_660, h85_661, hb662⟩ := (hI605 85 (by decide) (by decide) : cpI 7 52 4294967295 (wget w603 85))
          have h85_661 : xRow w603 85 7 52 g85_660 := h85_661
          refine xg_ialdB (n := 4) (B := 4294967295) h85_661 (hb662) xnm0 (by omega) (fun u663 hu664 he665 => ?_)
          have hl666 : u663 = u45 := by have q1 := rwv_of h85_661 (show 4 < 7 by decide); have q2 := mf618 4 (by decide); omega
          refine xg_t (xg_const) ?_
          refine xg_t (xg_iadd (u := u663) (v := 1) (z := u663 + 1) xnm0 xnm0 (by omega)) ?_
          refine xg_iastK (n := 4) (u := u663 + 1) h85_661 xnm0 xnm0 rfl (by omega) (fun w667 hr668 hb669 => ?_)
          refine xg_t (xg_aload (va := (2, 82)) rfl rfl) ?_
          refine xg_t (xg_dup rfl) ?_
          refine xg_t (xg_getf (va := (0, f82_638)) (hb669.get (by decide) h82_650) rfl) ?_
          refine xg_t (xg_const) ?_
          refine xg_t (xg_iadd (u := f82_638) (v := 1) (z := f82_638 + 1) xnm0 xnm0 (by omega)) ?_
          refine xg_putI (fl1 := [(2, 83), (2, 84), (0, f82_620), (0, f82_622), (0, f82_624), (0, f82_626), (0, f82_628), (0, f82_630), (0, f82_632), (0, f82_634), (0, f82_636), (2, 85), (2, 86), (2, 87), (0, f82_638 + 1), (2, 88), (2, 89), (2, 90), (2, 91), (2, 92), (2, 93), (2, 94), (4, f82_640), (4, f82_641), (0, f82_642), (2, 95), (2, 96), (2, 97), (2, 98), (2, 99), (2, 100), (2, 101), (2, 102), (0, f82_644), (2, 103), (2, 104), (2, 105), (2, 106), (2, 107), (2, 108), (2, 109), (0, f82_646), (0, f82_648), (2, 110), (2, 111), (2, 112), (2, 113)]) (hb669.get (by decide) h82_650) rfl rfl rfl (fun w670 hk671 hb672 => ?_)
          have hF673 : xFr [82, 85] w603 w670 := ((xFr.of (S := [82, 85]) hb669 (by decide)).tr (xFr.of (S := [82, 85]) hb672 (by decide)))
          have hA674 := FA_fr hF673 (by decide)
          have hf675 : fld w670 82 4 = f82_624 := fld_of hk671
          have hf676 : fld w670 82 5 = f82_626 := fld_of hk671
          have hf677 : fld w670 82 7 = f82_630 := fld_of hk671
          have hf678 : fld w670 82 10 = f82_636 := fld_of hk671
          have hf679 : fld w670 82 14 = f82_638 + 1 := fld_of hk671
          have hu680 : mu w670 = 2 * (fld w670 82 4 - fld w670 82 5) + min 1 (fld w670 82 7) := rfl
          have pq681 := pk615
          unfold PK PS at pq681
          have hM682 : ∀ s, s < 7 → s ≠ 4 → rwv w670 85 s = rwv w 85 s := fun s hs hn => (rwv_of (hr668.but hb672 (by decide)) hs).trans ((if_neg hn).trans ((rwv_of h85_661 hs).symm.trans (mf618 s hs)))
          have hM683 : rwv w670 85 4 = u45 + 1 := (rwv_of (hr668.but hb672 (by decide)) (by decide)).trans ((if_pos rfl).trans (by omega))
          have hM684 : ∀ s, s < 7 → rwv w670 85 s ≤ rwv w 85 s + 1 := fun s hs => by
            by_cases z : s = 4
            · subst z; omega
            · rw [hM682 s hs z]; omega
          have hO685 : ∀ j, (j < 100 + 2 * u45 ∨ 102 + 2 * u45 ≤ j) → j < 140 → rwv w670 86 j = rwv w 86 j := fun j hj hl => (rwv_fr hF673 (by decide)).trans (os616 j hj hl)
          have hl687 : FA w603 ≠ 0 ∨ u45 < 20 := rg617
          have hN686 : FA w670 ≠ 0 ∨ 20 ≤ u45 ∨ True := Or.inr (Or.inr trivial)
          have hX688 : FA w670 ≠ 0 ∨ u45 < 20 := by omega
          have hD689 : FA w670 ≠ 0 ∨ (DATA w → DATA w670) := by
            by_cases z : FA w670 ≠ 0
            · exact Or.inl z
            · exact Or.inr (fun hd => hd.s4 hM682 hK48 hM683 (hX688.resolve_left z) hO685 ((hN686.resolve_left z).resolve_left (by have := hX688.resolve_left z; omega)))
          exact xg_e ⟨w670, ⟨rfl, rfl⟩, xMnv.up (S := [85, 82]) hI605 ((xFr.of (S := [85, 82]) hb669 (by decide)).tr (xFr.of (S := [85, 82]) hb672 (by decide))) (List.forall_mem_cons.mpr ⟨(show cpI 7 52 4294967295 (wget w670 85) from ⟨_, (hr668.but hb672 (by decide)), xrb (by omega) (hb662)⟩), List.forall_mem_cons.mpr ⟨(show cp82 (wget w670 82) from ⟨f82_620, f82_622, f82_624, f82_626, f82_628, f82_630, f82_632, f82_634, f82_636, f82_638 + 1, f82_640, f82_641, f82_642, f82_644, f82_646, f82_648, hk671, hb621, hb623, hb625, hb627, hb629, hb631, hb633, hb635, hb637, by omega, hb643, hb645, hb647, hb649, by omega⟩), fun _ h => absurd h List.not_mem_nil⟩⟩), ((hF562.tr (hF606.up (by decide))).tr ((xFr.of (S := [82, 83, 85, 86, 87]) hb669 (by decide)).tr (xFr.of (S := [82, 83, 85, 86, 87]) hb672 (by decide)))), ⟨fun h => by have := pq681.1 h; omega, (show fld w670 82 10 = 0 ∨ FA w670 ≠ 0 by omega), Or.inr ⟨by have := ms619; omega, by omega, hM684⟩, hD689, pk615.2.2.2.2.tr (K83.fr hF673 (by decide))⟩⟩
        · refine xg_t (xg_icT (u := f82_579) (v := 2) rfl xnm0 xnm0 (xj_neT hc602)) ?_
          refine xg_t (xg_blk (b := [(416, 1, 0, 0, 0, 0), (417, 3, 13, 140, 96, 183)]) rfl) ?_
          refine xg_t (xg_aload (va := (2, 82)) rfl rfl) ?_
          refine xg_cVv mX12_ends (vs := []) (rest := []) (cn1 := 0) (sl1 := 0) rfl (mEnds (hI561) hj564.2.2.2.1) rfl h82_599 rfl rfl rfl rfl rfl rfl (fun w690 hq691 => ?_)
          obtain ⟨hI692, hF693, hx694⟩ := hq691
          clear hb570 hb572 hb574 hb576 hb578 hb580 hb582 hb584 hb586 hb588 hb592 hb594 hb596 hb598
          obtain ⟨hv695, hv696, hv697, hv698, hv699⟩ := hx694
          have pk700 : PK w560 w690 := ⟨fun _ => hv695, by omega, by omega, Or.inr hv695, hv699⟩
          have pk701 : PK w w690 := PK.tr hj564 pk700
          have os702 : ∀ j, (j < 100 + 2 * u45 ∨ 102 + 2 * u45 ≤ j) → j < 140 → rwv w690 86 j = rwv w 86 j := fun j hj hl => (rwv_fr hF693 (by decide)).trans (hj565 j hj hl)
          have rg703 : FA w690 ≠ 0 ∨ u45 < 20 := hj568.imp_left pk700.1
          have mf704 : ∀ s, s < 7 → rwv w690 85 s = rwv w 85 s := fun s hs => (rwv_fr hF693 (by decide)).trans (hj567 s hs)
          have ms705 : mu w690 < mu w := Nat.lt_of_le_of_lt pk700.2.1 hj566
          clear hj568
          refine xg_t (xg_blk (b := [(420, 1, 0, 0, 0, 0), (421, 3, 1, 12, 11, 17), (424, 1, 2, 1, 0, 0), (425, 1, 39, 0, 0, 0), (426, 1, 10, 0, 0, 0), (427, 1, 3, 1, 0, 0), (428, 1, 11, 0, 0, 0), (429, 1, 17, 0, 0, 0), (430, 1, 0, 0, 0, 0), (431, 1, 19, 0, 0, 0), (432, 3, 1, 12, 14, 212), (435, 1, 3, 1, 0, 0), (436, 1, 11, 0, 0, 0), (437, 3, 14, 12, 14, 212), (440, 1, 12, 0, 0, 0)]) rfl) ?_
          obtain ⟨f82_706, f82_708, f82_710, f82_712, f82_714, f82_716, f82_718, f82_720, f82_722, f82_724, f82_726, f82_727, f82_728, f82_730, f82_732, f82_734, h82_736, hb707, hb709, hb711, hb713, hb715, hb717, hb719, hb721, hb723, hb725, hb729, hb731, hb733, hb735, hb737⟩ := (hI692 82 (by decide) (by decide) : cp82 (wget w690 82))
          have hf738 : fld w690 82 4 = f82_710 := fld_of h82_736
          have hf739 : fld w690 82 5 = f82_712 := fld_of h82_736
          have hf740 : fld w690 82 7 = f82_716 := fld_of h82_736
          have hf741 : fld w690 82 10 = f82_722 := fld_of h82_736
          have hf742 : fld w690 82 14 = f82_724 := fld_of h82_736
          have hu743 : mu w690 = 2 * (fld w690 82 4 - fld w690 82 5) + min 1 (fld w690 82 7) := rfl
          have hf744 := pk701.2.2.1
          have hl745 : f82_724 ≤ 1000 := by omega
          refine xg_t (xg_aload (va := (2, 82)) rfl rfl) ?_
          refine xg_t (xg_getf (va := (2, 85)) h82_736 rfl) ?_
          refine xg_t (xg_iload (va := (0, 4)) rfl rfl) ?_
          refine xg_t (xg_dup2 rfl) ?_
          obtain ⟨g85_746, h85_747, hb748⟩ := (hI692 85 (by decide) (by decide) : cpI 7 52 4294967295 (wget w690 85))
          have h85_747 : xRow w690 85 7 52 g85_746 := h85_747
          refine xg_ialdB (n := 4) (B := 4294967295) h85_747 (hb748) xnm0 (by omega) (fun u749 hu750 he751 => ?_)
          have hl752 : u749 = u45 := by have q1 := rwv_of h85_747 (show 4 < 7 by decide); have q2 := mf704 4 (by decide); omega
          refine xg_t (xg_const) ?_
          refine xg_t (xg_iadd (u := u749) (v := 1) (z := u749 + 1) xnm0 xnm0 (by omega)) ?_
          refine xg_iastK (n := 4) (u := u749 + 1) h85_747 xnm0 xnm0 rfl (by omega) (fun w753 hr754 hb755 => ?_)
          refine xg_t (xg_aload (va := (2, 82)) rfl rfl) ?_
          refine xg_t (xg_dup rfl) ?_
          refine xg_t (xg_getf (va := (0, f82_724)) (hb755.get (by decide) h82_736) rfl) ?_
          refine xg_t (xg_const) ?_
          refine xg_t (xg_iadd (u := f82_724) (v := 1) (z := f82_724 + 1) xnm0 xnm0 (by omega)) ?_
          refine xg_putI (fl1 := [(2, 83), (2, 84), (0, f82_706), (0, f82_708), (0, f82_710), (0, f82_712), (0, f82_714), (0, f82_716), (0, f82_718), (0, f82_720), (0, f82_722), (2, 85), (2, 86), (2, 87), (0, f82_724 + 1), (2, 88), (2, 89), (2, 90), (2, 91), (2, 92), (2, 93), (2, 94), (4, f82_726), (4, f82_727), (0, f82_728), (2, 95), (2, 96), (2, 97), (2, 98), (2, 99), (2, 100), (2, 101), (2, 102), (0, f82_730), (2, 103), (2, 104), (2, 105), (2, 106), (2, 107), (2, 108), (2, 109), (0, f82_732), (0, f82_734), (2, 110), (2, 111), (2, 112), (2, 113)]) (hb755.get (by decide) h82_736) rfl rfl rfl (fun w756 hk757 hb758 => ?_)
          have hF759 : xFr [82, 85] w690 w756 := ((xFr.of (S := [82, 85]) hb755 (by decide)).tr (xFr.of (S := [82, 85]) hb758 (by decide)))
          have hA760 := FA_fr hF759 (by decide)
          have hf761 : fld w756 82 4 = f82_710 := fld_of hk757
          have hf762 : fld w756 82 5 = f82_712 := fld_of hk757
          have hf763 : fld w756 82 7 = f82_716 := fld_of hk757
          have hf764 : fld w756 82 10 = f82_722 := fld_of hk757
          have hf765 : fld w756 82 14 = f82_724 + 1 := fld_of hk757
          have hu766 : mu w756 = 2 * (fld w756 82 4 - fld w756 82 5) + min 1 (fld w756 82 7) := rfl
          have pq767 := pk701
          unfold PK PS at pq767
          have hM768 : ∀ s, s < 7 → s ≠ 4 → rwv w756 85 s = rwv w 85 s := fun s hs hn => (rwv_of (hr754.but hb758 (by decide)) hs).trans ((if_neg hn).trans ((rwv_of h85_747 hs).symm.trans (mf704 s hs)))
          have hM769 : rwv w756 85 4 = u45 + 1 := (rwv_of (hr754.but hb758 (by decide)) (by decide)).trans ((if_pos rfl).trans (by omega))
          have hM770 : ∀ s, s < 7 → rwv w756 85 s ≤ rwv w 85 s + 1 := fun s hs => by
            by_cases z : s = 4
            · subst z; omega
            · rw [hM768 s hs z]; omega
          have hO771 : ∀ j, (j < 100 + 2 * u45 ∨ 102 + 2 * u45 ≤ j) → j < 140 → rwv w756 86 j = rwv w 86 j := fun j hj hl => (rwv_fr hF759 (by decide)).trans (os702 j hj hl)
          have hl773 : FA w690 ≠ 0 ∨ u45 < 20 := rg703
          have hN772 : FA w756 ≠ 0 ∨ 20 ≤ u45 ∨ True := Or.inr (Or.inr trivial)
          have hX774 : FA w756 ≠ 0 ∨ u45 < 20 := by omega
          have hD775 : FA w756 ≠ 0 ∨ (DATA w → DATA w756) := by
            by_cases z : FA w756 ≠ 0
            · exact Or.inl z
            · exact Or.inr (fun hd => hd.s4 hM768 hK48 hM769 (hX774.resolve_left z) hO771 ((hN772.resolve_left z).resolve_left (by have := hX774.resolve_left z; omega)))
          exact xg_e ⟨w756, ⟨rfl, rfl⟩, xMnv.up (S := [85, 82]) hI692 ((xFr.of (S := [85, 82]) hb755 (by decide)).tr (xFr.of (S := [85, 82]) hb758 (by decide))) (List.forall_mem_cons.mpr ⟨(show cpI 7 52 4294967295 (wget w756 85) from ⟨_, (hr754.but hb758 (by decide)), xrb (by omega) (hb748)⟩), List.forall_mem_cons.mpr ⟨(show cp82 (wget w756 82) from ⟨f82_706, f82_708, f82_710, f82_712, f82_714, f82_716, f82_718, f82_720, f82_722, f82_724 + 1, f82_726, f82_727, f82_728, f82_730, f82_732, f82_734, hk757, hb707, hb709, hb711, hb713, hb715, hb717, hb719, hb721, hb723, by omega, hb729, hb731, hb733, hb735, by omega⟩), fun _ h => absurd h List.not_mem_nil⟩⟩), ((hF562.tr (hF693.up (by decide))).tr ((xFr.of (S := [82, 83, 85, 86, 87]) hb755 (by decide)).tr (xFr.of (S := [82, 83, 85, 86, 87]) hb758 (by decide)))), ⟨fun h => by have := pq767.1 h; omega, (show fld w756 82 10 = 0 ∨ FA w756 ≠ 0 by omega), Or.inr ⟨by have := ms705; omega, by omega, hM770⟩, hD775, pk701.2.2.2.2.tr (K83.fr hF759 (by decide))⟩⟩
      · refine xg_t (xg_ifT (u := f82_585) rfl xnm0 (xj_neT hc601)) ?_
        refine xg_t (xg_blk (b := [(416, 1, 0, 0, 0, 0), (417, 3, 13, 140, 96, 183)]) rfl) ?_
        refine xg_t (xg_aload (va := (2, 82)) rfl rfl) ?_
        refine xg_cVv mX12_ends (vs := []) (rest := []) (cn1 := 0) (sl1 := 0) rfl (mEnds (hI561) hj564.2.2.2.1) rfl h82_599 rfl rfl rfl rfl rfl rfl (fun w776 hq777 => ?_)
        obtain ⟨hI778, hF779, hx780⟩ := hq777
        clear hb570 hb572 hb574 hb576 hb578 hb580 hb582 hb584 hb586 hb588 hb592 hb594 hb596 hb598
        obtain ⟨hv781, hv782, hv783, hv784, hv785⟩ := hx780
        have pk786 : PK w560 w776 := ⟨fun _ => hv781, by omega, by omega, Or.inr hv781, hv785⟩
        have pk787 : PK w w776 := PK.tr hj564 pk786
        have os788 : ∀ j, (j < 100 + 2 * u45 ∨ 102 + 2 * u45 ≤ j) → j < 140 → rwv w776 86 j = rwv w 86 j := fun j hj hl => (rwv_fr hF779 (by decide)).trans (hj565 j hj hl)
        have rg789 : FA w776 ≠ 0 ∨ u45 < 20 := hj568.imp_left pk786.1
        have mf790 : ∀ s, s < 7 → rwv w776 85 s = rwv w 85 s := fun s hs => (rwv_fr hF779 (by decide)).trans (hj567 s hs)
        have ms791 : mu w776 < mu w := Nat.lt_of_le_of_lt pk786.2.1 hj566
        clear hj568
        refine xg_t (xg_blk (b := [(420, 1, 0, 0, 0, 0), (421, 3, 1, 12, 11, 17), (424, 1, 2, 1, 0, 0), (425, 1, 39, 0, 0, 0), (426, 1, 10, 0, 0, 0), (427, 1, 3, 1, 0, 0), (428, 1, 11, 0, 0, 0), (429, 1, 17, 0, 0, 0), (430, 1, 0, 0, 0, 0), (431, 1, 19, 0, 0, 0), (432, 3, 1, 12, 14, 212), (435, 1, 3, 1, 0, 0), (436, 1, 11, 0, 0, 0), (437, 3, 14, 12, 14, 212), (440, 1, 12, 0, 0, 0)]) rfl) ?_
        obtain ⟨f82_792, f82_794, f82_796, f82_798, f82_800, f82_802, f82_804, f82_806, f82_808, f82_810, f82_812, f82_813, f82_814, f82_816, f82_818, f82_820, h82_822, hb793, hb795, hb797, hb799, hb801, hb803, hb805, hb807, hb809, hb811, hb815, hb817, hb819, hb821, hb823⟩ := (hI778 82 (by decide) (by decide) : cp82 (wget w776 82))
        have hf824 : fld w776 82 4 = f82_796 := fld_of h82_822
        have hf825 : fld w776 82 5 = f82_798 := fld_of h82_822
        have hf826 : fld w776 82 7 = f82_802 := fld_of h82_822
        have hf827 : fld w776 82 10 = f82_808 := fld_of h82_822
        have hf828 : fld w776 82 14 = f82_810 := fld_of h82_822
        have hu829 : mu w776 = 2 * (fld w776 82 4 - fld w776 82 5) + min 1 (fld w776 82 7) := rfl
        have hf830 := pk787.2.2.1
        have hl831 : f82_810 ≤ 1000 := by omega
        refine xg_t (xg_aload (va := (2, 82)) rfl rfl) ?_
        refine xg_t (xg_getf (va := (2, 85)) h82_822 rfl) ?_
        refine xg_t (xg_iload (va := (0, 4)) rfl rfl) ?_
        refine xg_t (xg_dup2 rfl) ?_
        obtain ⟨g85_832, h85_833, hb834⟩ := (hI778 85 (by decide) (by decide) : cpI 7 52 4294967295 (wget w776 85))
        have h85_833 : xRow w776 85 7 52 g85_832 := h85_833
        refine xg_ialdB (n := 4) (B := 4294967295) h85_833 (hb834) xnm0 (by omega) (fun u835 hu836 he837 => ?_)
        have hl838 : u835 = u45 := by have q1 := rwv_of h85_833 (show 4 < 7 by decide); have q2 := mf790 4 (by decide); omega
        refine xg_t (xg_const) ?_
        refine xg_t (xg_iadd (u := u835) (v := 1) (z := u835 + 1) xnm0 xnm0 (by omega)) ?_
        refine xg_iastK (n := 4) (u := u835 + 1) h85_833 xnm0 xnm0 rfl (by omega) (fun w839 hr840 hb841 => ?_)
        refine xg_t (xg_aload (va := (2, 82)) rfl rfl) ?_
        refine xg_t (xg_dup rfl) ?_
        refine xg_t (xg_getf (va := (0, f82_810)) (hb841.get (by decide) h82_822) rfl) ?_
        refine xg_t (xg_const) ?_
        refine xg_t (xg_iadd (u := f82_810) (v := 1) (z := f82_810 + 1) xnm0 xnm0 (by omega)) ?_
        refine xg_putI (fl1 := [(2, 83), (2, 84), (0, f82_792), (0, f82_794), (0, f82_796), (0, f82_798), (0, f82_800), (0, f82_802), (0, f82_804), (0, f82_806), (0, f82_808), (2, 85), (2, 86), (2, 87), (0, f82_810 + 1), (2, 88), (2, 89), (2, 90), (2, 91), (2, 92), (2, 93), (2, 94), (4, f82_812), (4, f82_813), (0, f82_814), (2, 95), (2, 96), (2, 97), (2, 98), (2, 99), (2, 100), (2, 101), (2, 102), (0, f82_816), (2, 103), (2, 104), (2, 105), (2, 106), (2, 107), (2, 108), (2, 109), (0, f82_818), (0, f82_820), (2, 110), (2, 111), (2, 112), (2, 113)]) (hb841.get (by decide) h82_822) rfl rfl rfl (fun w842 hk843 hb844 => ?_)
        have hF845 : xFr [82, 85] w776 w842 := ((xFr.of (S := [82, 85]) hb841 (by decide)).tr (xFr.of (S := [82, 85]) hb844 (by decide)))
        have hA846 := FA_fr hF845 (by decide)
        have hf847 : fld w842 82 4 = f82_796 := fld_of hk843
        have hf848 : fld w842 82 5 = f82_798 := fld_of hk843
        have hf849 : fld w842 82 7 = f82_802 := fld_of hk843
        have hf850 : fld w842 82 10 = f82_808 := fld_of hk843
        have hf851 : fld w842 82 14 = f82_810 + 1 := fld_of hk843
        have hu852 : mu w842 = 2 * (fld w842 82 4 - fld w842 82 5) + min 1 (fld w842 82 7) := rfl
        have pq853 := pk787
        unfold PK PS at pq853
        have hM854 : ∀ s, s < 7 → s ≠ 4 → rwv w842 85 s = rwv w 85 s := fun s hs hn => (rwv_of (hr840.but hb844 (by decide)) hs).trans ((if_neg hn).trans ((rwv_of h85_833 hs).symm.trans (mf790 s hs)))
        have hM855 : rwv w842 85 4 = u45 + 1 := (rwv_of (hr840.but hb844 (by decide)) (by decide)).trans ((if_pos rfl).trans (by omega))
        have hM856 : ∀ s, s < 7 → rwv w842 85 s ≤ rwv w 85 s + 1 := fun s hs => by
          by_cases z : s = 4
          · subst z; omega
          · rw [hM854 s hs z]; omega
        have hO857 : ∀ j, (j < 100 + 2 * u45 ∨ 102 + 2 * u45 ≤ j) → j < 140 → rwv w842 86 j = rwv w 86 j := fun j hj hl => (rwv_fr hF845 (by decide)).trans (os788 j hj hl)
        have hl859 : FA w776 ≠ 0 ∨ u45 < 20 := rg789
        have hN858 : FA w842 ≠ 0 ∨ 20 ≤ u45 ∨ True := Or.inr (Or.inr trivial)
        have hX860 : FA w842 ≠ 0 ∨ u45 < 20 := by omega
        have hD861 : FA w842 ≠ 0 ∨ (DATA w → DATA w842) := by
          by_cases z : FA w842 ≠ 0
          · exact Or.inl z
          · exact Or.inr (fun hd => hd.s4 hM854 hK48 hM855 (hX860.resolve_left z) hO857 ((hN858.resolve_left z).resolve_left (by have := hX860.resolve_left z; omega)))
        exact xg_e ⟨w842, ⟨rfl, rfl⟩, xMnv.up (S := [85, 82]) hI778 ((xFr.of (S := [85, 82]) hb841 (by decide)).tr (xFr.of (S := [85, 82]) hb844 (by decide))) (List.forall_mem_cons.mpr ⟨(show cpI 7 52 4294967295 (wget w842 85) from ⟨_, (hr840.but hb844 (by decide)), xrb (by omega) (hb834)⟩), List.forall_mem_cons.mpr ⟨(show cp82 (wget w842 82) from ⟨f82_792, f82_794, f82_796, f82_798, f82_800, f82_802, f82_804, f82_806, f82_808, f82_810 + 1, f82_812, f82_813, f82_814, f82_816, f82_818, f82_820, hk843, hb793, hb795, hb797, hb799, hb801, hb803, hb805, hb807, hb809, by omega, hb815, hb817, hb819, hb821, by omega⟩), fun _ h => absurd h List.not_mem_nil⟩⟩), ((hF562.tr (hF779.up (by decide))).tr ((xFr.of (S := [82, 83, 85, 86, 87]) hb841 (by decide)).tr (xFr.of (S := [82, 83, 85, 86, 87]) hb844 (by decide)))), ⟨fun h => by have := pq853.1 h; omega, (show fld w842 82 10 = 0 ∨ FA w842 ≠ 0 by omega), Or.inr ⟨by have := ms791; omega, by omega, hM856⟩, hD861, pk787.2.2.2.2.tr (K83.fr hF845 (by decide))⟩⟩
    refine xg_t (xg_iload (va := (0, 4)) rfl rfl) ?_
    refine xg_t (xg_swt (ks := [(0, 108), (1, 116), (2, 180), (3, 221), (4, 273), (5, 326)]) (u := 4) (z := 273) rfl rfl rfl xnm0 (xsw_n (by omega) (xsw_n (by omega) (xsw_n (by omega) (xsw_n (by omega) (xsw_y rfl)))))) ?_
    refine xg_t (xg_blk (b := [(273, 1, 2, 3, 0, 0), (274, 2, 4, 20, 0, 0), (276, 3, 6, 286, 3, 0), (279, 1, 0, 0, 0, 0), (280, 3, 1, 12, 13, 23), (283, 1, 2, 3, 0, 0), (284, 1, 2, 2, 0, 0), (285, 1, 17, 0, 0, 0)]) rfl) ?_
    refine xg_t (xg_iload (va := (0, u45)) rfl rfl) ?_
    refine xg_t (xg_bip) ?_
    refine xg_t (xg_icT (u := u45) (v := 20) rfl xnm0 xnm0 (xj_geT (by omega) (by omega))) ?_
    refine xg_t (xg_blk (b := [(286, 1, 3, 0, 0, 0), (287, 2, 15, 4, 0, 0)]) rfl) ?_
    refine xg_t (xg_const) ?_
    refine xg_t (xg_istore (l1 := [(3, (0, u45)), (2, (0, at_)), (1, (0, 4)), (0, (2, 82))]) rfl rfl rfl) ?_
    refine xg_t (xg_blk (b := [(289, 2, 2, 4, 0, 0), (291, 1, 3, 2, 0, 0), (292, 3, 6, 323, 3, 0), (295, 1, 0, 0, 0, 0), (296, 1, 2, 1, 0, 0), (297, 1, 2, 3, 0, 0), (298, 2, 4, 100, 0, 0), (300, 1, 3, 2, 0, 0), (301, 1, 2, 3, 0, 0), (302, 1, 16, 0, 0, 0), (303, 1, 11, 0, 0, 0), (304, 2, 2, 4, 0, 0), (306, 1, 11, 0, 0, 0), (307, 1, 0, 0, 0, 0), (308, 1, 3, 0, 0, 0), (309, 2, 4, 9, 0, 0), (311, 3, 13, 199, 96, 196), (314, 3, 13, 211, 96, 200), (317, 3, 9, 4, 1, 0), (320, 3, 8, 289, 0, 0)]) rfl) ?_
    refine xg_t (xg_iload (va := (0, 0)) rfl rfl) ?_
    refine xg_t (xg_const) ?_
    refine xg_t (xg_icF (u := 0) (v := 2) rfl xnm0 xnm0 (by decide)) ?_
    refine xg_t (xg_aload (va := (2, 82)) rfl rfl) ?_
    refine xg_t (xg_iload (va := (0, 4)) rfl rfl) ?_
    refine xg_t (xg_iload (va := (0, u45)) rfl rfl) ?_
    refine xg_t (xg_bip) ?_
    refine xg_t (xg_const) ?_
    refine xg_t (xg_iload (va := (0, u45)) rfl rfl) ?_
    refine xg_t (xg_imul (u := 2) (v := u45) (z := 2 * u45) xnm0 xnm0 (by omega)) ?_
    refine xg_t (xg_iadd (u := 100) (v := 2 * u45) (z := 100 + (2 * u45)) xnm0 xnm0 (by omega)) ?_
    refine xg_t (xg_iload (va := (0, 0)) rfl rfl) ?_
    refine xg_t (xg_iadd (u := 100 + (2 * u45)) (v := 0) (z := (100 + (2 * u45)) + 0) xnm0 xnm0 (by omega)) ?_
    refine xg_t (xg_aload (va := (2, 82)) rfl rfl) ?_
    refine xg_t (xg_const) ?_
    refine xg_t (xg_bip) ?_
    obtain ⟨f82_862, f82_864, f82_866, f82_868, f82_870, f82_872, f82_874, f82_876, f82_878, f82_880, f82_882, f82_883, f82_884, f82_886, f82_888, f82_890, h82_892, hb863, hb865, hb867, hb869, hb871, hb873, hb875, hb877, hb879, hb881, hb885, hb887, hb889, hb891, hb893⟩ := (hI544 82 (by decide) (by decide) : cp82 (wget w542 82))
    refine xg_cVi mX12_numbered (vs := [(0, 0), (0, 9)]) (rest := [(0, (100 + (2 * u45)) + 0), (0, u45), (0, 4), (2, 82)]) (cn1 := 0) (sl1 := 0) rfl (mNumbered (hI544) (by omega) (by omega) pk554.2.2.2.1) rfl h82_892 rfl rfl rfl rfl rfl rfl (fun n898 w894 hq895 => ?_)
    obtain ⟨hn899, hI896, hF897⟩ := hq895
    clear hb863 hb865 hb867 hb869 hb871 hb873 hb875 hb877 hb879 hb881 hb885 hb887 hb889 hb891
    obtain ⟨hn900, hn901, hn902⟩ := hn899
    have pk903 : PK w w894 := PK.tr pk554 hn901
    have os904 : ∀ j, (j < 100 + 2 * u45 ∨ 102 + 2 * u45 ≤ j) → j < 140 → rwv w894 86 j = rwv w 86 j := fun j hj hl => (rwv_fr hF897 (by decide)).trans (os555 j hj hl)
    have rg905 : FA w894 ≠ 0 ∨ 0 = 1 := rg556.imp_left hn901.1
    have mf906 : ∀ s, s < 7 → rwv w894 85 s = rwv w 85 s := fun s hs => (rwv_fr hF897 (by decide)).trans (mf557 s hs)
    have ms907 : mu w894 < mu w := Nat.lt_of_le_of_lt hn901.2.1 ms558
    clear rg556
    obtain ⟨f82_908, f82_910, f82_912, f82_914, f82_916, f82_918, f82_920, f82_922, f82_924, f82_926, f82_928, f82_929, f82_930, f82_932, f82_934, f82_936, h82_938, hb909, hb911, hb913, hb915, hb917, hb919, hb921, hb923, hb925, hb927, hb931, hb933, hb935, hb937, hb939⟩ := (hI896 82 (by decide) (by decide) : cp82 (wget w894 82))
    refine xg_cVv mX12_puts (vs := [(0, 4), (0, u45), (0, (100 + (2 * u45)) + 0), (0, n898)]) (rest := []) (cn1 := 0) (sl1 := 0) rfl (mPuts4 (hI896) (by omega) (by omega) (by omega) (fun _ => by omega)) rfl h82_938 rfl rfl rfl rfl rfl rfl (fun w940 hq941 => ?_)
    obtain ⟨hI942, hF943, hx944⟩ := hq941
    obtain ⟨hp945, hp946⟩ := hx944
    have pk947 : PK w w940 := PK.tr pk903 (PK.fr hF943 (by decide) (by decide) pk903.2.2.2.1)
    have os948 : ∀ j, (j < 100 + 2 * u45 ∨ 102 + 2 * u45 ≤ j) → j < 140 → rwv w940 86 j = rwv w 86 j := fun j hj hl => (hp946 j (by omega) hl).trans (os904 j hj hl)
    have rg949 : FA w940 ≠ 0 ∨ 0 = 1 := rg905.imp_left (PK.fr hF943 (by decide) (by decide) pk903.2.2.2.1).1
    have rg950 : FA w940 ≠ 0 ∨ (0 ≤ n898 ∧ n898 ≤ 9) := hn902.imp_left (PK.fr hF943 (by decide) (by decide) pk903.2.2.2.1).1
    have mf951 : ∀ s, s < 7 → rwv w940 85 s = rwv w 85 s := fun s hs => (rwv_fr hF943 (by decide)).trans (mf906 s hs)
    have ms952 : mu w940 < mu w := Nat.lt_of_le_of_lt (PK.fr hF943 (by decide) (by decide) pk903.2.2.2.1).2.1 ms907
    clear rg905 hn902
    refine xg_t (xg_iinc (u := 0) (z := 1) (l1 := [(3, (0, u45)), (2, (0, at_)), (1, (0, 4)), (0, (2, 82))]) rfl rfl (by decide) rfl) ?_
    refine xg_t (xg_goto) ?_
    refine xg_t (xg_blk (b := [(289, 2, 2, 4, 0, 0), (291, 1, 3, 2, 0, 0), (292, 3, 6, 323, 3, 0), (295, 1, 0, 0, 0, 0), (296, 1, 2, 1, 0, 0), (297, 1, 2, 3, 0, 0), (298, 2, 4, 100, 0, 0), (300, 1, 3, 2, 0, 0), (301, 1, 2, 3, 0, 0), (302, 1, 16, 0, 0, 0), (303, 1, 11, 0, 0, 0), (304, 2, 2, 4, 0, 0), (306, 1, 11, 0, 0, 0), (307, 1, 0, 0, 0, 0), (308, 1, 3, 0, 0, 0), (309, 2, 4, 9, 0, 0), (311, 3, 13, 199, 96, 196), (314, 3, 13, 211, 96, 200), (317, 3, 9, 4, 1, 0), (320, 3, 8, 289, 0, 0)]) rfl) ?_
    refine xg_t (xg_iload (va := (0, 1)) rfl rfl) ?_
    refine xg_t (xg_const) ?_
    refine xg_t (xg_icF (u := 1) (v := 2) rfl xnm0 xnm0 (by decide)) ?_
    refine xg_t (xg_aload (va := (2, 82)) rfl rfl) ?_
    refine xg_t (xg_iload (va := (0, 4)) rfl rfl) ?_
    refine xg_t (xg_iload (va := (0, u45)) rfl rfl) ?_
    refine xg_t (xg_bip) ?_
    refine xg_t (xg_const) ?_
    refine xg_t (xg_iload (va := (0, u45)) rfl rfl) ?_
    refine xg_t (xg_imul (u := 2) (v := u45) (z := 2 * u45) xnm0 xnm0 (by omega)) ?_
    refine xg_t (xg_iadd (u := 100) (v := 2 * u45) (z := 100 + (2 * u45)) xnm0 xnm0 (by omega)) ?_
    refine xg_t (xg_iload (va := (0, 1)) rfl rfl) ?_
    refine xg_t (xg_iadd (u := 100 + (2 * u45)) (v := 1) (z := (100 + (2 * u45)) + 1) xnm0 xnm0 (by omega)) ?_
    refine xg_t (xg_aload (va := (2, 82)) rfl rfl) ?_
    refine xg_t (xg_const) ?_
    refine xg_t (xg_bip) ?_
    refine xg_cVi mX12_numbered (vs := [(0, 0), (0, 9)]) (rest := [(0, (100 + (2 * u45)) + 1), (0, u45), (0, 4), (2, 82)]) (cn1 := 0) (sl1 := 0) rfl (mNumbered (hI942) (by omega) (by omega) pk947.2.2.2.1) rfl (hF943.get (by decide) h82_938) rfl rfl rfl rfl rfl rfl (fun n957 w953 hq954 => ?_)
    obtain ⟨hn958, hI955, hF956⟩ := hq954
    clear hb909 hb911 hb913 hb915 hb917 hb919 hb921 hb923 hb925 hb927 hb931 hb933 hb935 hb937
    obtain ⟨hn959, hn960, hn961⟩ := hn958
    have pk962 : PK w w953 := PK.tr pk947 hn960
    have os963 : ∀ j, (j < 100 + 2 * u45 ∨ 102 + 2 * u45 ≤ j) → j < 140 → rwv w953 86 j = rwv w 86 j := fun j hj hl => (rwv_fr hF956 (by decide)).trans (os948 j hj hl)
    have ix964 : u45 < 20 → rwv w953 86 ((100 + (2 * u45)) + 0) = n898 := fun h => (rwv_fr hF956 (by decide)).trans (hp945 h)
    have rg965 : FA w953 ≠ 0 ∨ 0 = 1 := rg949.imp_left hn960.1
    have rg966 : FA w953 ≠ 0 ∨ (0 ≤ n898 ∧ n898 ≤ 9) := rg950.imp_left hn960.1
    have mf967 : ∀ s, s < 7 → rwv w953 85 s = rwv w 85 s := fun s hs => (rwv_fr hF956 (by decide)).trans (mf951 s hs)
    have ms968 : mu w953 < mu w := Nat.lt_of_le_of_lt hn960.2.1 ms952
    clear hp945 rg949 rg950
    obtain ⟨f82_969, f82_971, f82_973, f82_975, f82_977, f82_979, f82_981, f82_983, f82_985, f82_987, f82_989, f82_990, f82_991, f82_993, f82_995, f82_997, h82_999, hb970, hb972, hb974, hb976, hb978, hb980, hb982, hb984, hb986, hb988, hb992, hb994, hb996, hb998, hb1000⟩ := (hI955 82 (by decide) (by decide) : cp82 (wget w953 82))
    refine xg_cVv mX12_puts (vs := [(0, 4), (0, u45), (0, (100 + (2 * u45)) + 1), (0, n957)]) (rest := []) (cn1 := 0) (sl1 := 0) rfl (mPuts4 (hI955) (by omega) (by omega) (by omega) (fun _ => by omega)) rfl h82_999 rfl rfl rfl rfl rfl rfl (fun w1001 hq1002 => ?_)
    obtain ⟨hI1003, hF1004, hx1005⟩ := hq1002
    obtain ⟨hp1006, hp1007⟩ := hx1005
    have pk1008 : PK w w1001 := PK.tr pk962 (PK.fr hF1004 (by decide) (by decide) pk962.2.2.2.1)
    have os1009 : ∀ j, (j < 100 + 2 * u45 ∨ 102 + 2 * u45 ≤ j) → j < 140 → rwv w1001 86 j = rwv w 86 j := fun j hj hl => (hp1007 j (by omega) hl).trans (os963 j hj hl)
    have ix1010 : u45 < 20 → rwv w1001 86 ((100 + (2 * u45)) + 0) = n898 := fun h => (hp1007 _ (by omega) (by omega)).trans (ix964 h)
    have rg1011 : FA w1001 ≠ 0 ∨ 0 = 1 := rg965.imp_left (PK.fr hF1004 (by decide) (by decide) pk962.2.2.2.1).1
    have rg1012 : FA w1001 ≠ 0 ∨ (0 ≤ n898 ∧ n898 ≤ 9) := rg966.imp_left (PK.fr hF1004 (by decide) (by decide) pk962.2.2.2.1).1
    have rg1013 : FA w1001 ≠ 0 ∨ (0 ≤ n957 ∧ n957 ≤ 9) := hn961.imp_left (PK.fr hF1004 (by decide) (by decide) pk962.2.2.2.1).1
    have mf1014 : ∀ s, s < 7 → rwv w1001 85 s = rwv w 85 s := fun s hs => (rwv_fr hF1004 (by decide)).trans (mf967 s hs)
    have ms1015 : mu w1001 < mu w := Nat.lt_of_le_of_lt (PK.fr hF1004 (by decide) (by decide) pk962.2.2.2.1).2.1 ms968
    clear ix964 rg965 rg966 hn961
    refine xg_t (xg_iinc (u := 1) (z := 2) (l1 := [(3, (0, u45)), (2, (0, at_)), (1, (0, 4)), (0, (2, 82))]) rfl rfl (by decide) rfl) ?_
    refine xg_t (xg_goto) ?_
    refine xg_t (xg_blk (b := [(289, 2, 2, 4, 0, 0), (291, 1, 3, 2, 0, 0), (292, 3, 6, 323, 3, 0), (295, 1, 0, 0, 0, 0), (296, 1, 2, 1, 0, 0), (297, 1, 2, 3, 0, 0), (298, 2, 4, 100, 0, 0), (300, 1, 3, 2, 0, 0), (301, 1, 2, 3, 0, 0), (302, 1, 16, 0, 0, 0), (303, 1, 11, 0, 0, 0), (304, 2, 2, 4, 0, 0), (306, 1, 11, 0, 0, 0), (307, 1, 0, 0, 0, 0), (308, 1, 3, 0, 0, 0), (309, 2, 4, 9, 0, 0), (311, 3, 13, 199, 96, 196), (314, 3, 13, 211, 96, 200), (317, 3, 9, 4, 1, 0), (320, 3, 8, 289, 0, 0)]) rfl) ?_
    refine xg_t (xg_iload (va := (0, 2)) rfl rfl) ?_
    refine xg_t (xg_const) ?_
    refine xg_t (xg_icT (u := 2) (v := 2) rfl xnm0 xnm0 (by decide)) ?_
    refine xg_t (xg_blk (b := [(323, 3, 8, 394, 0, 0)]) rfl) ?_
    refine xg_t (xg_goto) ?_
    refine xg_t (xg_drop (l1 := [(0, (2, 82)), (1, (0, 4)), (3, (0, u45))]) (List.forall_mem_cons.mpr ⟨List.mem_cons_of_mem _ (List.mem_cons_of_mem _ (List.mem_cons_of_mem _ (List.mem_cons_of_mem _ (List.mem_cons_self)))), List.forall_mem_cons.mpr ⟨List.mem_cons_of_mem _ (List.mem_cons_of_mem _ (List.mem_cons_of_mem _ (List.mem_cons_self))), List.forall_mem_cons.mpr ⟨List.mem_cons_of_mem _ (List.mem_cons_self), fun _ h => absurd h List.not_mem_nil⟩⟩⟩)) ?_
    have hX1016 : FA w1001 ≠ 0 ∨ u45 < 20 := Or.inl (by have q := rg1011; omega)
    exact jn559 w1001 (hI1003) (((((((hF533.up (by decide)).tr (hF545.up (by decide))).tr (hF897.up (by decide))).tr (hF943.up (by decide))).tr (hF956.up (by decide))).tr (hF1004.up (by decide)))) (⟨pk1008, os1009, ms1015, mf1014, hX1016⟩)
end XMB
