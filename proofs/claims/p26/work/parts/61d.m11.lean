/-! the model: lines of films, more -/
section XMB
variable {d : Nat} {w : List (List xE)} {bd : List (Nat × Nat)} {fc : List (Nat × Nat × Bool)} {rr : Nat × Nat}
set_option maxHeartbeats 60000000 in
theorem mALineS4 {at_ : Nat} (hI : xMnv w) (hps : PS w) (hmb : ∀ s, s < 7 → rwv w 85 s ≤ 1000) (hln : fld w 82 14 ≤ 1000) (h7 : fld w 82 7 = 3) (hat : at_ ≤ 4294967295) : xTo (d + 7) mX12_aLine (43, [], [(2, (0, at_)), (1, (0, 4)), (0, (2, 82))], [], (w, bd, fc, 0, 0, rr)) (fun φ => ∃ w', xEnd 0 [] (w', bd, fc, 0, 0, rr) φ ∧ xMnv w' ∧ xFr [82, 83, 85, 86, 87] w w' ∧ ((FA w ≠ 0 → FA w' ≠ 0) ∧ PS w' ∧ ((fld w' 82 10 = 1 ∧ mu w' = mu w ∧ fld w' 82 14 = fld w 82 14 ∧ ∀ s, s < 7 → rwv w' 85 s = rwv w 85 s) ∨ (mu w' < mu w ∧ fld w' 82 14 = fld w 82 14 + 1 ∧ ∀ s, s < 7 → rwv w' 85 s ≤ rwv w 85 s + 1)) ∧ (FA w' ≠ 0 ∨ (DATA w → DATA w')))) := by
  obtain ⟨f82_1, f82_3, f82_5, f82_7, f82_9, f82_11, f82_13, f82_15, f82_17, f82_19, f82_21, f82_22, f82_23, f82_25, f82_27, f82_29, h82_31, hb2, hb4, hb6, hb8, hb10, hb12, hb14, hb16, hb18, hb20, hb24, hb26, hb28, hb30, hb32⟩ := (hI 82 (by decide) (by decide) : cp82 (wget w 82))
  have hf33 : fld w 82 7 = f82_11 := fld_of h82_31
  have hf34 : fld w 82 10 = f82_17 := fld_of h82_31
  have hf35 : fld w 82 14 = f82_19 := fld_of h82_31
  have hps_ : fld w 82 10 = 0 ∨ FA w ≠ 0 := hps
  obtain ⟨g85_36, h85_37, hb38⟩ := (hI 85 (by decide) (by decide) : cpI 7 52 4294967295 (wget w 85))
  have h85_37 : xRow w 85 7 52 g85_36 := h85_37
  obtain ⟨g86_39, h86_40, hb41⟩ := (hI 86 (by decide) (by decide) : cpI 140 53 4294967295 (wget w 86))
  have h86_40 : xRow w 86 140 53 g86_39 := h86_40
  obtain ⟨g87_42, h87_43, hb44⟩ := (hI 87 (by decide) (by decide) : cpI 20 54 4294967295 (wget w 87))
  have h87_43 : xRow w 87 20 54 g87_42 := h87_43
  refine xg_t (xg_blk (b := [(43, 1, 0, 0, 0, 0), (44, 3, 1, 12, 11, 17), (47, 1, 2, 1, 0, 0), (48, 1, 10, 0, 0, 0), (49, 1, 15, 3, 0, 0), (50, 1, 2, 3, 0, 0), (51, 1, 2, 1, 0, 0), (52, 3, 13, 194, 98, 193), (55, 3, 6, 64, 2, 0), (58, 1, 0, 0, 0, 0), (59, 1, 3, 3, 0, 0), (60, 1, 2, 2, 0, 0), (61, 3, 13, 115, 96, 186)]) rfl) ?_
  refine xg_t (xg_aload (va := (2, 82)) rfl rfl) ?_
  refine xg_t (xg_getf (va := (2, 85)) h82_31 rfl) ?_
  refine xg_t (xg_iload (va := (0, 4)) rfl rfl) ?_
  refine xg_ialdB (n := 4) (B := 4294967295) h85_37 (hb38) xnm0 (by omega) (fun u45 hu46 he47 => ?_)
  have hK48 : rwv w 85 4 = u45 := (rwv_of h85_37 (by decide)).trans he47
  have hm49 := hmb 4 (by decide)
  have hl50 : u45 ≤ 1000 := by omega
  refine xg_t (xg_istore (l1 := [(2, (0, at_)), (1, (0, 4)), (0, (2, 82))]) rfl rfl rfl) ?_
  refine xg_t (xg_iload (va := (0, u45)) rfl rfl) ?_
  refine xg_t (xg_iload (va := (0, 4)) rfl rfl) ?_
  refine xg_t (xg_cSr mX12_mostOf (vs := [(0, 4)]) (rest := [(0, u45)]) (rs := [(0, 20), (0, u45)]) (cn1 := 0) (sl1 := 0) rfl (mMostR4) rfl rfl rfl rfl rfl rfl rfl rfl) ?_
  by_cases hc51 : u45 < 20
  · refine xg_t (xg_icT (u := u45) (v := 20) rfl xnm0 xnm0 (xj_ltT hc51 (by omega))) ?_
    refine xg_t (xg_blk (b := [(64, 1, 0, 0, 0, 0), (65, 3, 13, 110, 96, 190), (68, 1, 2, 1, 0, 0), (69, 39, 33, 362, 0, 9)]) rfl) ?_
    refine xg_t (xg_aload (va := (2, 82)) rfl rfl) ?_
    refine xg_cVv mX12_advance (vs := []) (rest := []) (cn1 := 0) (sl1 := 0) rfl (mAdvance (hI)) rfl h82_31 rfl rfl rfl rfl rfl rfl (fun w52 hq53 => ?_)
    obtain ⟨hI54, hF55, hx56⟩ := hq53
    clear hb2 hb4 hb6 hb8 hb10 hb12 hb14 hb16 hb18 hb20 hb24 hb26 hb28 hb30
    obtain ⟨hv57, hv58, hv59, hv60⟩ := hx56
    have hf62 := FA_fr hF55 (by decide)
    have hs63 := (PK.rf hps).2.2.2
    unfold PS at hs63
    have pk61 : PK w w52 := ⟨fun _ => by omega, hv57, hv60, (show fld w52 82 10 = 0 ∨ FA w52 ≠ 0 by omega)⟩
    clear hs63
    have pk64 : PK w w52 := PK.tr (PK.rf hps) pk61
    have os65 : ∀ j, (j < 100 + 2 * u45 ∨ 102 + 2 * u45 ≤ j) → j < 140 → rwv w52 86 j = rwv w 86 j := fun j hj hl => (rwv_fr hF55 (by decide)).trans ((fun j _ _ => rfl) j hj hl)
    have mf66 : ∀ s, s < 7 → rwv w52 85 s = rwv w 85 s := fun s hs => (rwv_fr hF55 (by decide)).trans ((fun _ _ => rfl) s hs)
    have ms67 : mu w52 < mu w := Nat.lt_of_lt_of_le (hv58 (by omega)) (PK.rf hps).2.1
    clear hv58
    have jn68 : ∀ (w69 : List (List xE)), xMnv w69 → xFr [82, 83, 85, 86, 87] w w69 → (PK w w69 ∧ (∀ j, (j < 100 + 2 * u45 ∨ 102 + 2 * u45 ≤ j) → j < 140 → rwv w69 86 j = rwv w 86 j) ∧ mu w69 < mu w ∧ (∀ s, s < 7 → rwv w69 85 s = rwv w 85 s) ∧ (FA w69 ≠ 0 ∨ u45 < 20)) → xTo (d + 7) mX12_aLine (394, [], [(0, (2, 82)), (1, (0, 4)), (3, (0, u45))], [], (w69, bd, fc, 0, 0, rr)) (fun φ => ∃ w', xEnd 0 [] (w', bd, fc, 0, 0, rr) φ ∧ xMnv w' ∧ xFr [82, 83, 85, 86, 87] w w' ∧ ((FA w ≠ 0 → FA w' ≠ 0) ∧ PS w' ∧ ((fld w' 82 10 = 1 ∧ mu w' = mu w ∧ fld w' 82 14 = fld w 82 14 ∧ ∀ s, s < 7 → rwv w' 85 s = rwv w 85 s) ∨ (mu w' < mu w ∧ fld w' 82 14 = fld w 82 14 + 1 ∧ ∀ s, s < 7 → rwv w' 85 s ≤ rwv w 85 s + 1)) ∧ (FA w' ≠ 0 ∨ (DATA w → DATA w')))) := by
      intro w69 hI70 hF71 he72
      obtain ⟨hj73, hj74, hj75, hj76, hj77⟩ := he72
      refine xg_t (xg_blk (b := [(394, 1, 0, 0, 0, 0), (395, 3, 1, 12, 10, 180), (398, 3, 7, 416, 1, 0), (401, 1, 0, 0, 0, 0), (402, 3, 1, 12, 7, 151), (405, 1, 3, 2, 0, 0), (406, 3, 6, 416, 1, 0), (409, 1, 0, 0, 0, 0), (410, 3, 13, 110, 96, 190), (413, 3, 8, 420, 0, 0)]) rfl) ?_
      refine xg_t (xg_aload (va := (2, 82)) rfl rfl) ?_
      obtain ⟨f82_78, f82_80, f82_82, f82_84, f82_86, f82_88, f82_90, f82_92, f82_94, f82_96, f82_98, f82_99, f82_100, f82_102, f82_104, f82_106, h82_108, hb79, hb81, hb83, hb85, hb87, hb89, hb91, hb93, hb95, hb97, hb101, hb103, hb105, hb107, hb109⟩ := (hI70 82 (by decide) (by decide) : cp82 (wget w69 82))
      refine xg_t (xg_getf (va := (0, f82_94)) h82_108 rfl) ?_
      by_cases hc110 : f82_94 = 0
      · refine xg_t (xg_ifF (u := f82_94) rfl xnm0 (xj_neF hc110)) ?_
        refine xg_t (xg_aload (va := (2, 82)) rfl rfl) ?_
        refine xg_t (xg_getf (va := (0, f82_88)) h82_108 rfl) ?_
        refine xg_t (xg_const) ?_
        by_cases hc111 : f82_88 = 2
        · refine xg_t (xg_icF (u := f82_88) (v := 2) rfl xnm0 xnm0 (xj_neF hc111)) ?_
          refine xg_t (xg_aload (va := (2, 82)) rfl rfl) ?_
          refine xg_cVv mX12_advance (vs := []) (rest := []) (cn1 := 0) (sl1 := 0) rfl (mAdvance (hI70)) rfl h82_108 rfl rfl rfl rfl rfl rfl (fun w112 hq113 => ?_)
          obtain ⟨hI114, hF115, hx116⟩ := hq113
          clear hb79 hb81 hb83 hb85 hb87 hb89 hb91 hb93 hb95 hb97 hb101 hb103 hb105 hb107
          obtain ⟨hv117, hv118, hv119, hv120⟩ := hx116
          have hf122 := FA_fr hF115 (by decide)
          have hs123 := hj73.2.2.2
          unfold PS at hs123
          have pk121 : PK w69 w112 := ⟨fun _ => by omega, hv117, hv120, (show fld w112 82 10 = 0 ∨ FA w112 ≠ 0 by omega)⟩
          clear hs123
          clear hv118
          have pk124 : PK w w112 := PK.tr hj73 pk121
          have os125 : ∀ j, (j < 100 + 2 * u45 ∨ 102 + 2 * u45 ≤ j) → j < 140 → rwv w112 86 j = rwv w 86 j := fun j hj hl => (rwv_fr hF115 (by decide)).trans (hj74 j hj hl)
          have rg126 : FA w112 ≠ 0 ∨ u45 < 20 := hj77.imp_left pk121.1
          have mf127 : ∀ s, s < 7 → rwv w112 85 s = rwv w 85 s := fun s hs => (rwv_fr hF115 (by decide)).trans (hj76 s hs)
          have ms128 : mu w112 < mu w := Nat.lt_of_le_of_lt pk121.2.1 hj75
          clear hj77
          refine xg_t (xg_goto) ?_
          refine xg_t (xg_blk (b := [(420, 1, 0, 0, 0, 0), (421, 3, 1, 12, 11, 17), (424, 1, 2, 1, 0, 0), (425, 1, 39, 0, 0, 0), (426, 1, 10, 0, 0, 0), (427, 1, 3, 1, 0, 0), (428, 1, 11, 0, 0, 0), (429, 1, 17, 0, 0, 0), (430, 1, 0, 0, 0, 0), (431, 1, 19, 0, 0, 0), (432, 3, 1, 12, 14, 212), (435, 1, 3, 1, 0, 0), (436, 1, 11, 0, 0, 0), (437, 3, 14, 12, 14, 212), (440, 1, 12, 0, 0, 0)]) rfl) ?_
          obtain ⟨f82_129, f82_131, f82_133, f82_135, f82_137, f82_139, f82_141, f82_143, f82_145, f82_147, f82_149, f82_150, f82_151, f82_153, f82_155, f82_157, h82_159, hb130, hb132, hb134, hb136, hb138, hb140, hb142, hb144, hb146, hb148, hb152, hb154, hb156, hb158, hb160⟩ := (hI114 82 (by decide) (by decide) : cp82 (wget w112 82))
          have hf161 : fld w112 82 4 = f82_133 := fld_of h82_159
          have hf162 : fld w112 82 5 = f82_135 := fld_of h82_159
          have hf163 : fld w112 82 7 = f82_139 := fld_of h82_159
          have hf164 : fld w112 82 10 = f82_145 := fld_of h82_159
          have hf165 : fld w112 82 14 = f82_147 := fld_of h82_159
          have hu166 : mu w112 = 2 * (fld w112 82 4 - fld w112 82 5) + min 1 (fld w112 82 7) := rfl
          have hf167 := pk124.2.2.1
          have hl168 : f82_147 ≤ 1000 := by omega
          refine xg_t (xg_aload (va := (2, 82)) rfl rfl) ?_
          refine xg_t (xg_getf (va := (2, 85)) h82_159 rfl) ?_
          refine xg_t (xg_iload (va := (0, 4)) rfl rfl) ?_
          refine xg_t (xg_dup2 rfl) ?_
          obtain ⟨g85_169, h85_170, hb171⟩ := (hI114 85 (by decide) (by decide) : cpI 7 52 4294967295 (wget w112 85))
          have h85_170 : xRow w112 85 7 52 g85_169 := h85_170
          refine xg_ialdB (n := 4) (B := 4294967295) h85_170 (hb171) xnm0 (by omega) (fun u172 hu173 he174 => ?_)
          have hl175 : u172 = u45 := by have q1 := rwv_of h85_170 (show 4 < 7 by decide); have q2 := mf127 4 (by decide); omega
          refine xg_t (xg_const) ?_
          refine xg_t (xg_iadd (u := u172) (v := 1) (z := u172 + 1) xnm0 xnm0 (by omega)) ?_
          refine xg_iastK (n := 4) (u := u172 + 1) h85_170 xnm0 xnm0 rfl (by omega) (fun w176 hr177 hb178 => ?_)
          refine xg_t (xg_aload (va := (2, 82)) rfl rfl) ?_
          refine xg_t (xg_dup rfl) ?_
          refine xg_t (xg_getf (va := (0, f82_147)) (hb178.get (by decide) h82_159) rfl) ?_
          refine xg_t (xg_const) ?_
          refine xg_t (xg_iadd (u := f82_147) (v := 1) (z := f82_147 + 1) xnm0 xnm0 (by omega)) ?_
          refine xg_putI (fl1 := [(2, 83), (2, 84), (0, f82_129), (0, f82_131), (0, f82_133), (0, f82_135), (0, f82_137), (0, f82_139), (0, f82_141), (0, f82_143), (0, f82_145), (2, 85), (2, 86), (2, 87), (0, f82_147 + 1), (2, 88), (2, 89), (2, 90), (2, 91), (2, 92), (2, 93), (2, 94), (4, f82_149), (4, f82_150), (0, f82_151), (2, 95), (2, 96), (2, 97), (2, 98), (2, 99), (2, 100), (2, 101), (2, 102), (0, f82_153), (2, 103), (2, 104), (2, 105), (2, 106), (2, 107), (2, 108), (2, 109), (0, f82_155), (0, f82_157), (2, 110), (2, 111), (2, 112), (2, 113)]) (hb178.get (by decide) h82_159) rfl rfl rfl (fun w179 hk180 hb181 => ?_)
          have hF182 : xFr [82, 85] w112 w179 := ((xFr.of (S := [82, 85]) hb178 (by decide)).tr (xFr.of (S := [82, 85]) hb181 (by decide)))
          have hA183 := FA_fr hF182 (by decide)
          have hf184 : fld w179 82 4 = f82_133 := fld_of hk180
          have hf185 : fld w179 82 5 = f82_135 := fld_of hk180
          have hf186 : fld w179 82 7 = f82_139 := fld_of hk180
          have hf187 : fld w179 82 10 = f82_145 := fld_of hk180
          have hf188 : fld w179 82 14 = f82_147 + 1 := fld_of hk180
          have hu189 : mu w179 = 2 * (fld w179 82 4 - fld w179 82 5) + min 1 (fld w179 82 7) := rfl
          have pq190 := pk124
          unfold PK PS at pq190
          have hM191 : ∀ s, s < 7 → s ≠ 4 → rwv w179 85 s = rwv w 85 s := fun s hs hn => (rwv_of (hr177.but hb181 (by decide)) hs).trans ((if_neg hn).trans ((rwv_of h85_170 hs).symm.trans (mf127 s hs)))
          have hM192 : rwv w179 85 4 = u45 + 1 := (rwv_of (hr177.but hb181 (by decide)) (by decide)).trans ((if_pos rfl).trans (by omega))
          have hM193 : ∀ s, s < 7 → rwv w179 85 s ≤ rwv w 85 s + 1 := fun s hs => by
            by_cases z : s = 4
            · subst z; omega
            · rw [hM191 s hs z]; omega
          have hO194 : ∀ j, (j < 100 + 2 * u45 ∨ 102 + 2 * u45 ≤ j) → j < 140 → rwv w179 86 j = rwv w 86 j := fun j hj hl => (rwv_fr hF182 (by decide)).trans (os125 j hj hl)
          have hl196 : FA w112 ≠ 0 ∨ u45 < 20 := rg126
          have hN195 : FA w179 ≠ 0 ∨ 20 ≤ u45 ∨ True := Or.inr (Or.inr trivial)
          have hX197 : FA w179 ≠ 0 ∨ u45 < 20 := by omega
          have hD198 : FA w179 ≠ 0 ∨ (DATA w → DATA w179) := by
            by_cases z : FA w179 ≠ 0
            · exact Or.inl z
            · exact Or.inr (fun hd => hd.s4 hM191 hK48 hM192 (hX197.resolve_left z) hO194 ((hN195.resolve_left z).resolve_left (by have := hX197.resolve_left z; omega)))
          exact xg_e ⟨w179, ⟨rfl, rfl⟩, xMnv.up (S := [85, 82]) hI114 ((xFr.of (S := [85, 82]) hb178 (by decide)).tr (xFr.of (S := [85, 82]) hb181 (by decide))) (List.forall_mem_cons.mpr ⟨(show cpI 7 52 4294967295 (wget w179 85) from ⟨_, (hr177.but hb181 (by decide)), xrb (by omega) (hb171)⟩), List.forall_mem_cons.mpr ⟨(show cp82 (wget w179 82) from ⟨f82_129, f82_131, f82_133, f82_135, f82_137, f82_139, f82_141, f82_143, f82_145, f82_147 + 1, f82_149, f82_150, f82_151, f82_153, f82_155, f82_157, hk180, hb130, hb132, hb134, hb136, hb138, hb140, hb142, hb144, hb146, by omega, hb152, hb154, hb156, hb158, by omega⟩), fun _ h => absurd h List.not_mem_nil⟩⟩), ((hF71.tr (hF115.up (by decide))).tr ((xFr.of (S := [82, 83, 85, 86, 87]) hb178 (by decide)).tr (xFr.of (S := [82, 83, 85, 86, 87]) hb181 (by decide)))), ⟨fun h => by have := pq190.1 h; omega, (show fld w179 82 10 = 0 ∨ FA w179 ≠ 0 by omega), Or.inr ⟨by have := ms128; omega, by omega, hM193⟩, hD198⟩⟩
        · refine xg_t (xg_icT (u := f82_88) (v := 2) rfl xnm0 xnm0 (xj_neT hc111)) ?_
          refine xg_t (xg_blk (b := [(416, 1, 0, 0, 0, 0), (417, 3, 13, 140, 96, 183)]) rfl) ?_
          refine xg_t (xg_aload (va := (2, 82)) rfl rfl) ?_
          refine xg_cVv mX12_ends (vs := []) (rest := []) (cn1 := 0) (sl1 := 0) rfl (mEnds (hI70) hj73.2.2.2) rfl h82_108 rfl rfl rfl rfl rfl rfl (fun w199 hq200 => ?_)
          obtain ⟨hI201, hF202, hx203⟩ := hq200
          clear hb79 hb81 hb83 hb85 hb87 hb89 hb91 hb93 hb95 hb97 hb101 hb103 hb105 hb107
          obtain ⟨hv204, hv205, hv206, hv207⟩ := hx203
          have pk208 : PK w69 w199 := ⟨fun _ => hv204, by omega, by omega, Or.inr hv204⟩
          have pk209 : PK w w199 := PK.tr hj73 pk208
          have os210 : ∀ j, (j < 100 + 2 * u45 ∨ 102 + 2 * u45 ≤ j) → j < 140 → rwv w199 86 j = rwv w 86 j := fun j hj hl => (rwv_fr hF202 (by decide)).trans (hj74 j hj hl)
          have rg211 : FA w199 ≠ 0 ∨ u45 < 20 := hj77.imp_left pk208.1
          have mf212 : ∀ s, s < 7 → rwv w199 85 s = rwv w 85 s := fun s hs => (rwv_fr hF202 (by decide)).trans (hj76 s hs)
          have ms213 : mu w199 < mu w := Nat.lt_of_le_of_lt pk208.2.1 hj75
          clear hj77
          refine xg_t (xg_blk (b := [(420, 1, 0, 0, 0, 0), (421, 3, 1, 12, 11, 17), (424, 1, 2, 1, 0, 0), (425, 1, 39, 0, 0, 0), (426, 1, 10, 0, 0, 0), (427, 1, 3, 1, 0, 0), (428, 1, 11, 0, 0, 0), (429, 1, 17, 0, 0, 0), (430, 1, 0, 0, 0, 0), (431, 1, 19, 0, 0, 0), (432, 3, 1, 12, 14, 212), (435, 1, 3, 1, 0, 0), (436, 1, 11, 0, 0, 0), (437, 3, 14, 12, 14, 212), (440, 1, 12, 0, 0, 0)]) rfl) ?_
          obtain ⟨f82_214, f82_216, f82_218, f82_220, f82_222, f82_224, f82_226, f82_228, f82_230, f82_232, f82_234, f82_235, f82_236, f82_238, f82_240, f82_242, h82_244, hb215, hb217, hb219, hb221, hb223, hb225, hb227, hb229, hb231, hb233, hb237, hb239, hb241, hb243, hb245⟩ := (hI201 82 (by decide) (by decide) : cp82 (wget w199 82))
          have hf246 : fld w199 82 4 = f82_218 := fld_of h82_244
          have hf247 : fld w199 82 5 = f82_220 := fld_of h82_244
          have hf248 : fld w199 82 7 = f82_224 := fld_of h82_244
          have hf249 : fld w199 82 10 = f82_230 := fld_of h82_244
          have hf250 : fld w199 82 14 = f82_232 := fld_of h82_244
          have hu251 : mu w199 = 2 * (fld w199 82 4 - fld w199 82 5) + min 1 (fld w199 82 7) := rfl
          have hf252 := pk209.2.2.1
          have hl253 : f82_232 ≤ 1000 := by omega
          refine xg_t (xg_aload (va := (2, 82)) rfl rfl) ?_
          refine xg_t (xg_getf (va := (2, 85)) h82_244 rfl) ?_
          refine xg_t (xg_iload (va := (0, 4)) rfl rfl) ?_
          refine xg_t (xg_dup2 rfl) ?_
          obtain ⟨g85_254, h85_255, hb256⟩ := (hI201 85 (by decide) (by decide) : cpI 7 52 4294967295 (wget w199 85))
          have h85_255 : xRow w199 85 7 52 g85_254 := h85_255
          refine xg_ialdB (n := 4) (B := 4294967295) h85_255 (hb256) xnm0 (by omega) (fun u257 hu258 he259 => ?_)
          have hl260 : u257 = u45 := by have q1 := rwv_of h85_255 (show 4 < 7 by decide); have q2 := mf212 4 (by decide); omega
          refine xg_t (xg_const) ?_
          refine xg_t (xg_iadd (u := u257) (v := 1) (z := u257 + 1) xnm0 xnm0 (by omega)) ?_
          refine xg_iastK (n := 4) (u := u257 + 1) h85_255 xnm0 xnm0 rfl (by omega) (fun w261 hr262 hb263 => ?_)
          refine xg_t (xg_aload (va := (2, 82)) rfl rfl) ?_
          refine xg_t (xg_dup rfl) ?_
          refine xg_t (xg_getf (va := (0, f82_232)) (hb263.get (by decide) h82_244) rfl) ?_
          refine xg_t (xg_const) ?_
          refine xg_t (xg_iadd (u := f82_232) (v := 1) (z := f82_232 + 1) xnm0 xnm0 (by omega)) ?_
          refine xg_putI (fl1 := [(2, 83), (2, 84), (0, f82_214), (0, f82_216), (0, f82_218), (0, f82_220), (0, f82_222), (0, f82_224), (0, f82_226), (0, f82_228), (0, f82_230), (2, 85), (2, 86), (2, 87), (0, f82_232 + 1), (2, 88), (2, 89), (2, 90), (2, 91), (2, 92), (2, 93), (2, 94), (4, f82_234), (4, f82_235), (0, f82_236), (2, 95), (2, 96), (2, 97), (2, 98), (2, 99), (2, 100), (2, 101), (2, 102), (0, f82_238), (2, 103), (2, 104), (2, 105), (2, 106), (2, 107), (2, 108), (2, 109), (0, f82_240), (0, f82_242), (2, 110), (2, 111), (2, 112), (2, 113)]) (hb263.get (by decide) h82_244) rfl rfl rfl (fun w264 hk265 hb266 => ?_)
          have hF267 : xFr [82, 85] w199 w264 := ((xFr.of (S := [82, 85]) hb263 (by decide)).tr (xFr.of (S := [82, 85]) hb266 (by decide)))
          have hA268 := FA_fr hF267 (by decide)
          have hf269 : fld w264 82 4 = f82_218 := fld_of hk265
          have hf270 : fld w264 82 5 = f82_220 := fld_of hk265
          have hf271 : fld w264 82 7 = f82_224 := fld_of hk265
          have hf272 : fld w264 82 10 = f82_230 := fld_of hk265
          have hf273 : fld w264 82 14 = f82_232 + 1 := fld_of hk265
          have hu274 : mu w264 = 2 * (fld w264 82 4 - fld w264 82 5) + min 1 (fld w264 82 7) := rfl
          have pq275 := pk209
          unfold PK PS at pq275
          have hM276 : ∀ s, s < 7 → s ≠ 4 → rwv w264 85 s = rwv w 85 s := fun s hs hn => (rwv_of (hr262.but hb266 (by decide)) hs).trans ((if_neg hn).trans ((rwv_of h85_255 hs).symm.trans (mf212 s hs)))
          have hM277 : rwv w264 85 4 = u45 + 1 := (rwv_of (hr262.but hb266 (by decide)) (by decide)).trans ((if_pos rfl).trans (by omega))
          have hM278 : ∀ s, s < 7 → rwv w264 85 s ≤ rwv w 85 s + 1 := fun s hs => by
            by_cases z : s = 4
            · subst z; omega
            · rw [hM276 s hs z]; omega
          have hO279 : ∀ j, (j < 100 + 2 * u45 ∨ 102 + 2 * u45 ≤ j) → j < 140 → rwv w264 86 j = rwv w 86 j := fun j hj hl => (rwv_fr hF267 (by decide)).trans (os210 j hj hl)
          have hl281 : FA w199 ≠ 0 ∨ u45 < 20 := rg211
          have hN280 : FA w264 ≠ 0 ∨ 20 ≤ u45 ∨ True := Or.inr (Or.inr trivial)
          have hX282 : FA w264 ≠ 0 ∨ u45 < 20 := by omega
          have hD283 : FA w264 ≠ 0 ∨ (DATA w → DATA w264) := by
            by_cases z : FA w264 ≠ 0
            · exact Or.inl z
            · exact Or.inr (fun hd => hd.s4 hM276 hK48 hM277 (hX282.resolve_left z) hO279 ((hN280.resolve_left z).resolve_left (by have := hX282.resolve_left z; omega)))
          exact xg_e ⟨w264, ⟨rfl, rfl⟩, xMnv.up (S := [85, 82]) hI201 ((xFr.of (S := [85, 82]) hb263 (by decide)).tr (xFr.of (S := [85, 82]) hb266 (by decide))) (List.forall_mem_cons.mpr ⟨(show cpI 7 52 4294967295 (wget w264 85) from ⟨_, (hr262.but hb266 (by decide)), xrb (by omega) (hb256)⟩), List.forall_mem_cons.mpr ⟨(show cp82 (wget w264 82) from ⟨f82_214, f82_216, f82_218, f82_220, f82_222, f82_224, f82_226, f82_228, f82_230, f82_232 + 1, f82_234, f82_235, f82_236, f82_238, f82_240, f82_242, hk265, hb215, hb217, hb219, hb221, hb223, hb225, hb227, hb229, hb231, by omega, hb237, hb239, hb241, hb243, by omega⟩), fun _ h => absurd h List.not_mem_nil⟩⟩), ((hF71.tr (hF202.up (by decide))).tr ((xFr.of (S := [82, 83, 85, 86, 87]) hb263 (by decide)).tr (xFr.of (S := [82, 83, 85, 86, 87]) hb266 (by decide)))), ⟨fun h => by have := pq275.1 h; omega, (show fld w264 82 10 = 0 ∨ FA w264 ≠ 0 by omega), Or.inr ⟨by have := ms213; omega, by omega, hM278⟩, hD283⟩⟩
      · refine xg_t (xg_ifT (u := f82_94) rfl xnm0 (xj_neT hc110)) ?_
        refine xg_t (xg_blk (b := [(416, 1, 0, 0, 0, 0), (417, 3, 13, 140, 96, 183)]) rfl) ?_
        refine xg_t (xg_aload (va := (2, 82)) rfl rfl) ?_
        refine xg_cVv mX12_ends (vs := []) (rest := []) (cn1 := 0) (sl1 := 0) rfl (mEnds (hI70) hj73.2.2.2) rfl h82_108 rfl rfl rfl rfl rfl rfl (fun w284 hq285 => ?_)
        obtain ⟨hI286, hF287, hx288⟩ := hq285
        clear hb79 hb81 hb83 hb85 hb87 hb89 hb91 hb93 hb95 hb97 hb101 hb103 hb105 hb107
        obtain ⟨hv289, hv290, hv291, hv292⟩ := hx288
        have pk293 : PK w69 w284 := ⟨fun _ => hv289, by omega, by omega, Or.inr hv289⟩
        have pk294 : PK w w284 := PK.tr hj73 pk293
        have os295 : ∀ j, (j < 100 + 2 * u45 ∨ 102 + 2 * u45 ≤ j) → j < 140 → rwv w284 86 j = rwv w 86 j := fun j hj hl => (rwv_fr hF287 (by decide)).trans (hj74 j hj hl)
        have rg296 : FA w284 ≠ 0 ∨ u45 < 20 := hj77.imp_left pk293.1
        have mf297 : ∀ s, s < 7 → rwv w284 85 s = rwv w 85 s := fun s hs => (rwv_fr hF287 (by decide)).trans (hj76 s hs)
        have ms298 : mu w284 < mu w := Nat.lt_of_le_of_lt pk293.2.1 hj75
        clear hj77
        refine xg_t (xg_blk (b := [(420, 1, 0, 0, 0, 0), (421, 3, 1, 12, 11, 17), (424, 1, 2, 1, 0, 0), (425, 1, 39, 0, 0, 0), (426, 1, 10, 0, 0, 0), (427, 1, 3, 1, 0, 0), (428, 1, 11, 0, 0, 0), (429, 1, 17, 0, 0, 0), (430, 1, 0, 0, 0, 0), (431, 1, 19, 0, 0, 0), (432, 3, 1, 12, 14, 212), (435, 1, 3, 1, 0, 0), (436, 1, 11, 0, 0, 0), (437, 3, 14, 12, 14, 212), (440, 1, 12, 0, 0, 0)]) rfl) ?_
        obtain ⟨f82_299, f82_301, f82_303, f82_305, f82_307, f82_309, f82_311, f82_313, f82_315, f82_317, f82_319, f82_320, f82_321, f82_323, f82_325, f82_327, h82_329, hb300, hb302, hb304, hb306, hb308, hb310, hb312, hb314, hb316, hb318, hb322, hb324, hb326, hb328, hb330⟩ := (hI286 82 (by decide) (by decide) : cp82 (wget w284 82))
        have hf331 : fld w284 82 4 = f82_303 := fld_of h82_329
        have hf332 : fld w284 82 5 = f82_305 := fld_of h82_329
        have hf333 : fld w284 82 7 = f82_309 := fld_of h82_329
        have hf334 : fld w284 82 10 = f82_315 := fld_of h82_329
        have hf335 : fld w284 82 14 = f82_317 := fld_of h82_329
        have hu336 : mu w284 = 2 * (fld w284 82 4 - fld w284 82 5) + min 1 (fld w284 82 7) := rfl
        have hf337 := pk294.2.2.1
        have hl338 : f82_317 ≤ 1000 := by omega
        refine xg_t (xg_aload (va := (2, 82)) rfl rfl) ?_
        refine xg_t (xg_getf (va := (2, 85)) h82_329 rfl) ?_
        refine xg_t (xg_iload (va := (0, 4)) rfl rfl) ?_
        refine xg_t (xg_dup2 rfl) ?_
        obtain ⟨g85_339, h85_340, hb341⟩ := (hI286 85 (by decide) (by decide) : cpI 7 52 4294967295 (wget w284 85))
        have h85_340 : xRow w284 85 7 52 g85_339 := h85_340
        refine xg_ialdB (n := 4) (B := 4294967295) h85_340 (hb341) xnm0 (by omega) (fun u342 hu343 he344 => ?_)
        have hl345 : u342 = u45 := by have q1 := rwv_of h85_340 (show 4 < 7 by decide); have q2 := mf297 4 (by decide); omega
        refine xg_t (xg_const) ?_
        refine xg_t (xg_iadd (u := u342) (v := 1) (z := u342 + 1) xnm0 xnm0 (by omega)) ?_
        refine xg_iastK (n := 4) (u := u342 + 1) h85_340 xnm0 xnm0 rfl (by omega) (fun w346 hr347 hb348 => ?_)
        refine xg_t (xg_aload (va := (2, 82)) rfl rfl) ?_
        refine xg_t (xg_dup rfl) ?_
        refine xg_t (xg_getf (va := (0, f82_317)) (hb348.get (by decide) h82_329) rfl) ?_
        refine xg_t (xg_const) ?_
        refine xg_t (xg_iadd (u := f82_317) (v := 1) (z := f82_317 + 1) xnm0 xnm0 (by omega)) ?_
        refine xg_putI (fl1 := [(2, 83), (2, 84), (0, f82_299), (0, f82_301), (0, f82_303), (0, f82_305), (0, f82_307), (0, f82_309), (0, f82_311), (0, f82_313), (0, f82_315), (2, 85), (2, 86), (2, 87), (0, f82_317 + 1), (2, 88), (2, 89), (2, 90), (2, 91), (2, 92), (2, 93), (2, 94), (4, f82_319), (4, f82_320), (0, f82_321), (2, 95), (2, 96), (2, 97), (2, 98), (2, 99), (2, 100), (2, 101), (2, 102), (0, f82_323), (2, 103), (2, 104), (2, 105), (2, 106), (2, 107), (2, 108), (2, 109), (0, f82_325), (0, f82_327), (2, 110), (2, 111), (2, 112), (2, 113)]) (hb348.get (by decide) h82_329) rfl rfl rfl (fun w349 hk350 hb351 => ?_)
        have hF352 : xFr [82, 85] w284 w349 := ((xFr.of (S := [82, 85]) hb348 (by decide)).tr (xFr.of (S := [82, 85]) hb351 (by decide)))
        have hA353 := FA_fr hF352 (by decide)
        have hf354 : fld w349 82 4 = f82_303 := fld_of hk350
        have hf355 : fld w349 82 5 = f82_305 := fld_of hk350
        have hf356 : fld w349 82 7 = f82_309 := fld_of hk350
        have hf357 : fld w349 82 10 = f82_315 := fld_of hk350
        have hf358 : fld w349 82 14 = f82_317 + 1 := fld_of hk350
        have hu359 : mu w349 = 2 * (fld w349 82 4 - fld w349 82 5) + min 1 (fld w349 82 7) := rfl
        have pq360 := pk294
        unfold PK PS at pq360
        have hM361 : ∀ s, s < 7 → s ≠ 4 → rwv w349 85 s = rwv w 85 s := fun s hs hn => (rwv_of (hr347.but hb351 (by decide)) hs).trans ((if_neg hn).trans ((rwv_of h85_340 hs).symm.trans (mf297 s hs)))
        have hM362 : rwv w349 85 4 = u45 + 1 := (rwv_of (hr347.but hb351 (by decide)) (by decide)).trans ((if_pos rfl).trans (by omega))
        have hM363 : ∀ s, s < 7 → rwv w349 85 s ≤ rwv w 85 s + 1 := fun s hs => by
          by_cases z : s = 4
          · subst z; omega
          · rw [hM361 s hs z]; omega
        have hO364 : ∀ j, (j < 100 + 2 * u45 ∨ 102 + 2 * u45 ≤ j) → j < 140 → rwv w349 86 j = rwv w 86 j := fun j hj hl => (rwv_fr hF352 (by decide)).trans (os295 j hj hl)
        have hl366 : FA w284 ≠ 0 ∨ u45 < 20 := rg296
        have hN365 : FA w349 ≠ 0 ∨ 20 ≤ u45 ∨ True := Or.inr (Or.inr trivial)
        have hX367 : FA w349 ≠ 0 ∨ u45 < 20 := by omega
        have hD368 : FA w349 ≠ 0 ∨ (DATA w → DATA w349) := by
          by_cases z : FA w349 ≠ 0
          · exact Or.inl z
          · exact Or.inr (fun hd => hd.s4 hM361 hK48 hM362 (hX367.resolve_left z) hO364 ((hN365.resolve_left z).resolve_left (by have := hX367.resolve_left z; omega)))
        exact xg_e ⟨w349, ⟨rfl, rfl⟩, xMnv.up (S := [85, 82]) hI286 ((xFr.of (S := [85, 82]) hb348 (by decide)).tr (xFr.of (S := [85, 82]) hb351 (by decide))) (List.forall_mem_cons.mpr ⟨(show cpI 7 52 4294967295 (wget w349 85) from ⟨_, (hr347.but hb351 (by decide)), xrb (by omega) (hb341)⟩), List.forall_mem_cons.mpr ⟨(show cp82 (wget w349 82) from ⟨f82_299, f82_301, f82_303, f82_305, f82_307, f82_309, f82_311, f82_313, f82_315, f82_317 + 1, f82_319, f82_320, f82_321, f82_323, f82_325, f82_327, hk350, hb300, hb302, hb304, hb306, hb308, hb310, hb312, hb314, hb316, by omega, hb322, hb324, hb326, hb328, by omega⟩), fun _ h => absurd h List.not_mem_nil⟩⟩), ((hF71.tr (hF287.up (by decide))).tr ((xFr.of (S := [82, 83, 85, 86, 87]) hb348 (by decide)).tr (xFr.of (S := [82, 83, 85, 86, 87]) hb351 (by decide)))), ⟨fun h => by have := pq360.1 h; omega, (show fld w349 82 10 = 0 ∨ FA w349 ≠ 0 by omega), Or.inr ⟨by have := ms298; omega, by omega, hM363⟩, hD368⟩⟩
    refine xg_t (xg_iload (va := (0, 4)) rfl rfl) ?_
    refine xg_t (xg_swt (ks := [(0, 108), (1, 116), (2, 180), (3, 221), (4, 273), (5, 326)]) (u := 4) (z := 273) rfl rfl rfl xnm0 (xsw_n (by omega) (xsw_n (by omega) (xsw_n (by omega) (xsw_n (by omega) (xsw_y rfl)))))) ?_
    refine xg_t (xg_blk (b := [(273, 1, 2, 3, 0, 0), (274, 2, 4, 20, 0, 0), (276, 3, 6, 286, 3, 0), (279, 1, 0, 0, 0, 0), (280, 3, 1, 12, 13, 23), (283, 1, 2, 3, 0, 0), (284, 1, 2, 2, 0, 0), (285, 1, 17, 0, 0, 0)]) rfl) ?_
    refine xg_t (xg_iload (va := (0, u45)) rfl rfl) ?_
    refine xg_t (xg_bip) ?_
    refine xg_t (xg_icF (u := u45) (v := 20) rfl xnm0 xnm0 (xj_geF (by omega) (by omega))) ?_
    refine xg_t (xg_aload (va := (2, 82)) rfl rfl) ?_
    obtain ⟨f82_369, f82_371, f82_373, f82_375, f82_377, f82_379, f82_381, f82_383, f82_385, f82_387, f82_389, f82_390, f82_391, f82_393, f82_395, f82_397, h82_399, hb370, hb372, hb374, hb376, hb378, hb380, hb382, hb384, hb386, hb388, hb392, hb394, hb396, hb398, hb400⟩ := (hI54 82 (by decide) (by decide) : cp82 (wget w52 82))
    refine xg_t (xg_getf (va := (2, 87)) h82_399 rfl) ?_
    refine xg_t (xg_iload (va := (0, u45)) rfl rfl) ?_
    refine xg_t (xg_iload (va := (0, at_)) rfl rfl) ?_
    refine xg_iastK (n := u45) (u := at_) (h87_43.fr hF55 (by decide)) xnm0 xnm0 rfl (by omega) (fun w401 hr402 hb403 => ?_)
    have hF404 : xFr [87] w52 w401 := xFr.of hb403 (by decide)
    have pk405 : PK w w401 := PK.tr pk64 (PK.fr hF404 (by decide) (by decide) pk64.2.2.2)
    have os406 : ∀ j, (j < 100 + 2 * u45 ∨ 102 + 2 * u45 ≤ j) → j < 140 → rwv w401 86 j = rwv w 86 j := fun j hj hl => (rwv_fr hF404 (by decide)).trans (os65 j hj hl)
    have mf407 : ∀ s, s < 7 → rwv w401 85 s = rwv w 85 s := fun s hs => (rwv_fr hF404 (by decide)).trans (mf66 s hs)
    have ms408 : mu w401 < mu w := Nat.lt_of_le_of_lt (PK.fr hF404 (by decide) (by decide) pk64.2.2.2).2.1 ms67
    refine xg_t (xg_blk (b := [(286, 1, 3, 0, 0, 0), (287, 2, 15, 4, 0, 0)]) rfl) ?_
    refine xg_t (xg_const) ?_
    refine xg_t (xg_istore (l1 := [(3, (0, u45)), (2, (0, at_)), (1, (0, 4)), (0, (2, 82))]) rfl rfl rfl) ?_
    refine xg_t (xg_blk (b := [(289, 2, 2, 4, 0, 0), (291, 1, 3, 2, 0, 0), (292, 3, 6, 323, 3, 0), (295, 1, 0, 0, 0, 0), (296, 1, 2, 1, 0, 0), (297, 1, 2, 3, 0, 0), (298, 2, 4, 100, 0, 0), (300, 1, 3, 2, 0, 0), (301, 1, 2, 3, 0, 0), (302, 1, 16, 0, 0, 0), (303, 1, 11, 0, 0, 0), (304, 2, 2, 4, 0, 0), (306, 1, 11, 0, 0, 0), (307, 1, 0, 0, 0, 0), (308, 1, 3, 0, 0, 0), (309, 2, 4, 9, 0, 0), (311, 3, 13, 199, 96, 196), (314, 3, 13, 211, 96, 200), (317, 3, 9, 4, 1, 0), (320, 3, 8, 289, 0, 0)]) rfl) ?_
    refine xg_t (xg_iload (va := (0, 0)) rfl rfl) ?_
    refine xg_t (xg_const) ?_
    refine xg_t (xg_icF (u := 0) (v := 2) rfl xnm0 xnm0 (by decide)) ?_
    refine xg_t (xg_aload (va := (2, 82)) rfl rfl) ?_
    refine xg_t (xg_iload (va := (0, 4)) rfl rfl) ?_
    refine xg_t (xg_iload (va := (0, u45)) rfl rfl) ?_
    refine xg_t (xg_bip) ?_
    refine xg_t (xg_const) ?_
    refine xg_t (xg_iload (va := (0, u45)) rfl rfl) ?_
    refine xg_t (xg_imul (u := 2) (v := u45) (z := 2 * u45) xnm0 xnm0 (by omega)) ?_
    refine xg_t (xg_iadd (u := 100) (v := 2 * u45) (z := 100 + (2 * u45)) xnm0 xnm0 (by omega)) ?_
    refine xg_t (xg_iload (va := (0, 0)) rfl rfl) ?_
    refine xg_t (xg_iadd (u := 100 + (2 * u45)) (v := 0) (z := (100 + (2 * u45)) + 0) xnm0 xnm0 (by omega)) ?_
    refine xg_t (xg_aload (va := (2, 82)) rfl rfl) ?_
    refine xg_t (xg_const) ?_
    refine xg_t (xg_bip) ?_
    refine xg_cVi mX12_numbered (vs := [(0, 0), (0, 9)]) (rest := [(0, (100 + (2 * u45)) + 0), (0, u45), (0, 4), (2, 82)]) (cn1 := 0) (sl1 := 0) rfl (mNumbered (xMnv.up (S := [87]) hI54 (xFr.of (S := [87]) hb403 (by decide)) (List.forall_mem_cons.mpr ⟨(show cpI 20 54 4294967295 (wget w401 87) from ⟨_, hr402, xrb (by omega) (hb44)⟩), fun _ h => absurd h List.not_mem_nil⟩)) (by omega) (by omega) pk405.2.2.2) rfl (hb403.get (by decide) h82_399) rfl rfl rfl rfl rfl rfl (fun n413 w409 hq410 => ?_)
    obtain ⟨hn414, hI411, hF412⟩ := hq410
    clear hb370 hb372 hb374 hb376 hb378 hb380 hb382 hb384 hb386 hb388 hb392 hb394 hb396 hb398
    obtain ⟨hn415, hn416, hn417⟩ := hn414
    have pk418 : PK w w409 := PK.tr pk405 hn416
    have os419 : ∀ j, (j < 100 + 2 * u45 ∨ 102 + 2 * u45 ≤ j) → j < 140 → rwv w409 86 j = rwv w 86 j := fun j hj hl => (rwv_fr hF412 (by decide)).trans (os406 j hj hl)
    have mf420 : ∀ s, s < 7 → rwv w409 85 s = rwv w 85 s := fun s hs => (rwv_fr hF412 (by decide)).trans (mf407 s hs)
    have ms421 : mu w409 < mu w := Nat.lt_of_le_of_lt hn416.2.1 ms408
    obtain ⟨f82_422, f82_424, f82_426, f82_428, f82_430, f82_432, f82_434, f82_436, f82_438, f82_440, f82_442, f82_443, f82_444, f82_446, f82_448, f82_450, h82_452, hb423, hb425, hb427, hb429, hb431, hb433, hb435, hb437, hb439, hb441, hb445, hb447, hb449, hb451, hb453⟩ := (hI411 82 (by decide) (by decide) : cp82 (wget w409 82))
    refine xg_cVv mX12_puts (vs := [(0, 4), (0, u45), (0, (100 + (2 * u45)) + 0), (0, n413)]) (rest := []) (cn1 := 0) (sl1 := 0) rfl (mPuts4 (hI411) (by omega) (by omega) (by omega) (fun _ => by omega)) rfl h82_452 rfl rfl rfl rfl rfl rfl (fun w454 hq455 => ?_)
    obtain ⟨hI456, hF457, hx458⟩ := hq455
    obtain ⟨hp459, hp460⟩ := hx458
    have pk461 : PK w w454 := PK.tr pk418 (PK.fr hF457 (by decide) (by decide) pk418.2.2.2)
    have os462 : ∀ j, (j < 100 + 2 * u45 ∨ 102 + 2 * u45 ≤ j) → j < 140 → rwv w454 86 j = rwv w 86 j := fun j hj hl => (hp460 j (by omega) hl).trans (os419 j hj hl)
    have rg463 : FA w454 ≠ 0 ∨ (0 ≤ n413 ∧ n413 ≤ 9) := hn417.imp_left (PK.fr hF457 (by decide) (by decide) pk418.2.2.2).1
    have mf464 : ∀ s, s < 7 → rwv w454 85 s = rwv w 85 s := fun s hs => (rwv_fr hF457 (by decide)).trans (mf420 s hs)
    have ms465 : mu w454 < mu w := Nat.lt_of_le_of_lt (PK.fr hF457 (by decide) (by decide) pk418.2.2.2).2.1 ms421
    clear hn417
    refine xg_t (xg_iinc (u := 0) (z := 1) (l1 := [(3, (0, u45)), (2, (0, at_)), (1, (0, 4)), (0, (2, 82))]) rfl rfl (by decide) rfl) ?_
    refine xg_t (xg_goto) ?_
    refine xg_t (xg_blk (b := [(289, 2, 2, 4, 0, 0), (291, 1, 3, 2, 0, 0), (292, 3, 6, 323, 3, 0), (295, 1, 0, 0, 0, 0), (296, 1, 2, 1, 0, 0), (297, 1, 2, 3, 0, 0), (298, 2, 4, 100, 0, 0), (300, 1, 3, 2, 0, 0), (301, 1, 2, 3, 0, 0), (302, 1, 16, 0, 0, 0), (303, 1, 11, 0, 0, 0), (304, 2, 2, 4, 0, 0), (306, 1, 11, 0, 0, 0), (307, 1, 0, 0, 0, 0), (308, 1, 3, 0, 0, 0), (309, 2, 4, 9, 0, 0), (311, 3, 13, 199, 96, 196), (314, 3, 13, 211, 96, 200), (317, 3, 9, 4, 1, 0), (320, 3, 8, 289, 0, 0)]) rfl) ?_
    refine xg_t (xg_iload (va := (0, 1)) rfl rfl) ?_
    refine xg_t (xg_const) ?_
    refine xg_t (xg_icF (u := 1) (v := 2) rfl xnm0 xnm0 (by decide)) ?_
    refine xg_t (xg_aload (va := (2, 82)) rfl rfl) ?_
    refine xg_t (xg_iload (va := (0, 4)) rfl rfl) ?_
    refine xg_t (xg_iload (va := (0, u45)) rfl rfl) ?_
    refine xg_t (xg_bip) ?_
    refine xg_t (xg_const) ?_
    refine xg_t (xg_iload (va := (0, u45)) rfl rfl) ?_
    refine xg_t (xg_imul (u := 2) (v := u45) (z := 2 * u45) xnm0 xnm0 (by omega)) ?_
    refine xg_t (xg_iadd (u := 100) (v := 2 * u45) (z := 100 + (2 * u45)) xnm0 xnm0 (by omega)) ?_
    refine xg_t (xg_iload (va := (0, 1)) rfl rfl) ?_
    refine xg_t (xg_iadd (u := 100 + (2 * u45)) (v := 1) (z := (100 + (2 * u45)) + 1) xnm0 xnm0 (by omega)) ?_
    refine xg_t (xg_aload (va := (2, 82)) rfl rfl) ?_
    refine xg_t (xg_const) ?_
    refine xg_t (xg_bip) ?_
    refine xg_cVi mX12_numbered (vs := [(0, 0), (0, 9)]) (rest := [(0, (100 + (2 * u45)) + 1), (0, u45), (0, 4), (2, 82)]) (cn1 := 0) (sl1 := 0) rfl (mNumbered (hI456) (by omega) (by omega) pk461.2.2.2) rfl (hF457.get (by decide) h82_452) rfl rfl rfl rfl rfl rfl (fun n470 w466 hq467 => ?_)
    obtain ⟨hn471, hI468, hF469⟩ := hq467
    clear hb423 hb425 hb427 hb429 hb431 hb433 hb435 hb437 hb439 hb441 hb445 hb447 hb449 hb451
    obtain ⟨hn472, hn473, hn474⟩ := hn471
    have pk475 : PK w w466 := PK.tr pk461 hn473
    have os476 : ∀ j, (j < 100 + 2 * u45 ∨ 102 + 2 * u45 ≤ j) → j < 140 → rwv w466 86 j = rwv w 86 j := fun j hj hl => (rwv_fr hF469 (by decide)).trans (os462 j hj hl)
    have ix477 : u45 < 20 → rwv w466 86 ((100 + (2 * u45)) + 0) = n413 := fun h => (rwv_fr hF469 (by decide)).trans (hp459 h)
    have rg478 : FA w466 ≠ 0 ∨ (0 ≤ n413 ∧ n413 ≤ 9) := rg463.imp_left hn473.1
    have mf479 : ∀ s, s < 7 → rwv w466 85 s = rwv w 85 s := fun s hs => (rwv_fr hF469 (by decide)).trans (mf464 s hs)
    have ms480 : mu w466 < mu w := Nat.lt_of_le_of_lt hn473.2.1 ms465
    clear hp459 rg463
    obtain ⟨f82_481, f82_483, f82_485, f82_487, f82_489, f82_491, f82_493, f82_495, f82_497, f82_499, f82_501, f82_502, f82_503, f82_505, f82_507, f82_509, h82_511, hb482, hb484, hb486, hb488, hb490, hb492, hb494, hb496, hb498, hb500, hb504, hb506, hb508, hb510, hb512⟩ := (hI468 82 (by decide) (by decide) : cp82 (wget w466 82))
    refine xg_cVv mX12_puts (vs := [(0, 4), (0, u45), (0, (100 + (2 * u45)) + 1), (0, n470)]) (rest := []) (cn1 := 0) (sl1 := 0) rfl (mPuts4 (hI468) (by omega) (by omega) (by omega) (fun _ => by omega)) rfl h82_511 rfl rfl rfl rfl rfl rfl (fun w513 hq514 => ?_)
    obtain ⟨hI515, hF516, hx517⟩ := hq514
    obtain ⟨hp518, hp519⟩ := hx517
    have pk520 : PK w w513 := PK.tr pk475 (PK.fr hF516 (by decide) (by decide) pk475.2.2.2)
    have os521 : ∀ j, (j < 100 + 2 * u45 ∨ 102 + 2 * u45 ≤ j) → j < 140 → rwv w513 86 j = rwv w 86 j := fun j hj hl => (hp519 j (by omega) hl).trans (os476 j hj hl)
    have ix522 : u45 < 20 → rwv w513 86 ((100 + (2 * u45)) + 0) = n413 := fun h => (hp519 _ (by omega) (by omega)).trans (ix477 h)
    have rg523 : FA w513 ≠ 0 ∨ (0 ≤ n413 ∧ n413 ≤ 9) := rg478.imp_left (PK.fr hF516 (by decide) (by decide) pk475.2.2.2).1
    have rg524 : FA w513 ≠ 0 ∨ (0 ≤ n470 ∧ n470 ≤ 9) := hn474.imp_left (PK.fr hF516 (by decide) (by decide) pk475.2.2.2).1
    have mf525 : ∀ s, s < 7 → rwv w513 85 s = rwv w 85 s := fun s hs => (rwv_fr hF516 (by decide)).trans (mf479 s hs)
    have ms526 : mu w513 < mu w := Nat.lt_of_le_of_lt (PK.fr hF516 (by decide) (by decide) pk475.2.2.2).2.1 ms480
    clear ix477 rg478 hn474
    refine xg_t (xg_iinc (u := 1) (z := 2) (l1 := [(3, (0, u45)), (2, (0, at_)), (1, (0, 4)), (0, (2, 82))]) rfl rfl (by decide) rfl) ?_
    refine xg_t (xg_goto) ?_
    refine xg_t (xg_blk (b := [(289, 2, 2, 4, 0, 0), (291, 1, 3, 2, 0, 0), (292, 3, 6, 323, 3, 0), (295, 1, 0, 0, 0, 0), (296, 1, 2, 1, 0, 0), (297, 1, 2, 3, 0, 0), (298, 2, 4, 100, 0, 0), (300, 1, 3, 2, 0, 0), (301, 1, 2, 3, 0, 0), (302, 1, 16, 0, 0, 0), (303, 1, 11, 0, 0, 0), (304, 2, 2, 4, 0, 0), (306, 1, 11, 0, 0, 0), (307, 1, 0, 0, 0, 0), (308, 1, 3, 0, 0, 0), (309, 2, 4, 9, 0, 0), (311, 3, 13, 199, 96, 196), (314, 3, 13, 211, 96, 200), (317, 3, 9, 4, 1, 0), (320, 3, 8, 289, 0, 0)]) rfl) ?_
    refine xg_t (xg_iload (va := (0, 2)) rfl rfl) ?_
    refine xg_t (xg_const) ?_
    refine xg_t (xg_icT (u := 2) (v := 2) rfl xnm0 xnm0 (by decide)) ?_
    refine xg_t (xg_blk (b := [(323, 3, 8, 394, 0, 0)]) rfl) ?_
    refine xg_t (xg_goto) ?_
    refine xg_t (xg_drop (l1 := [(0, (2, 82)), (1, (0, 4)), (3, (0, u45))]) (List.forall_mem_cons.mpr ⟨List.mem_cons_of_mem _ (List.mem_cons_of_mem _ (List.mem_cons_of_mem _ (List.mem_cons_of_mem _ (List.mem_cons_self)))), List.forall_mem_cons.mpr ⟨List.mem_cons_of_mem _ (List.mem_cons_of_mem _ (List.mem_cons_of_mem _ (List.mem_cons_self))), List.forall_mem_cons.mpr ⟨List.mem_cons_of_mem _ (List.mem_cons_self), fun _ h => absurd h List.not_mem_nil⟩⟩⟩)) ?_
    have hX527 : FA w513 ≠ 0 ∨ u45 < 20 := Or.inr (by omega)
    exact jn68 w513 (hI515) (((((((hF55.up (by decide)).tr (xFr.of (S := [82, 83, 85, 86, 87]) hb403 (by decide))).tr (hF412.up (by decide))).tr (hF457.up (by decide))).tr (hF469.up (by decide))).tr (hF516.up (by decide)))) (⟨pk520, os521, ms526, mf525, hX527⟩)
  · refine xg_t (xg_icF (u := u45) (v := 20) rfl xnm0 xnm0 (xj_ltF (by omega) (by omega))) ?_
    refine xg_t (xg_aload (va := (2, 82)) rfl rfl) ?_
    refine xg_t (xg_const) ?_
    refine xg_t (xg_iload (va := (0, at_)) rfl rfl) ?_
    refine xg_cVv mX12_also (vs := [(0, 3), (0, at_)]) (rest := []) (cn1 := 0) (sl1 := 0) rfl (mAlso (hI) (by omega) (by omega) (by omega) (PK.rf hps).2.2.2) rfl h82_31 rfl rfl rfl rfl rfl rfl (fun w528 hq529 => ?_)
    obtain ⟨hI530, hF531, hx532⟩ := hq529
    have pk533 : PK w w528 := ⟨fun _ => hx532, Nat.le_of_eq (mu_fr hF531 (by decide)), fld_fr hF531 (by decide), Or.inr hx532⟩
    have pk534 : PK w w528 := PK.tr (PK.rf hps) pk533
    have os535 : ∀ j, (j < 100 + 2 * u45 ∨ 102 + 2 * u45 ≤ j) → j < 140 → rwv w528 86 j = rwv w 86 j := fun j hj hl => (rwv_fr hF531 (by decide)).trans ((fun j _ _ => rfl) j hj hl)
    have mf536 : ∀ s, s < 7 → rwv w528 85 s = rwv w 85 s := fun s hs => (rwv_fr hF531 (by decide)).trans ((fun _ _ => rfl) s hs)
    have hf537 := fld_fr (c := 82) (j := 7) hF531 (by decide)
    refine xg_t (xg_blk (b := [(64, 1, 0, 0, 0, 0), (65, 3, 13, 110, 96, 190), (68, 1, 2, 1, 0, 0), (69, 39, 33, 362, 0, 9)]) rfl) ?_
    refine xg_t (xg_aload (va := (2, 82)) rfl rfl) ?_
    refine xg_cVv mX12_advance (vs := []) (rest := []) (cn1 := 0) (sl1 := 0) rfl (mAdvance (hI530)) rfl (hF531.get (by decide) h82_31) rfl rfl rfl rfl rfl rfl (fun w538 hq539 => ?_)
    obtain ⟨hI540, hF541, hx542⟩ := hq539
    clear hb2 hb4 hb6 hb8 hb10 hb12 hb14 hb16 hb18 hb20 hb24 hb26 hb28 hb30
    obtain ⟨hv543, hv544, hv545, hv546⟩ := hx542
    have hf548 := FA_fr hF541 (by decide)
    have hs549 := pk534.2.2.2
    unfold PS at hs549
    have pk547 : PK w528 w538 := ⟨fun _ => by omega, hv543, hv546, (show fld w538 82 10 = 0 ∨ FA w538 ≠ 0 by omega)⟩
    clear hs549
    have pk550 : PK w w538 := PK.tr pk534 pk547
    have os551 : ∀ j, (j < 100 + 2 * u45 ∨ 102 + 2 * u45 ≤ j) → j < 140 → rwv w538 86 j = rwv w 86 j := fun j hj hl => (rwv_fr hF541 (by decide)).trans (os535 j hj hl)
    have rg552 : FA w538 ≠ 0 ∨ 0 = 1 := (Or.inl hx532 : FA w528 ≠ 0 ∨ 0 = 1).imp_left pk547.1
    have mf553 : ∀ s, s < 7 → rwv w538 85 s = rwv w 85 s := fun s hs => (rwv_fr hF541 (by decide)).trans (mf536 s hs)
    have ms554 : mu w538 < mu w := Nat.lt_of_lt_of_le (hv544 (by omega)) pk534.2.1
    clear hv544
    have jn555 : ∀ (w556 : List (List xE)), xMnv w556 → xFr [82, 83, 85, 86, 87] w w556 → (PK w w556 ∧ (∀ j, (j < 100 + 2 * u45 ∨ 102 + 2 * u45 ≤ j) → j < 140 → rwv w556 86 j = rwv w 86 j) ∧ mu w556 < mu w ∧ (∀ s, s < 7 → rwv w556 85 s = rwv w 85 s) ∧ (FA w556 ≠ 0 ∨ u45 < 20)) → xTo (d + 7) mX12_aLine (394, [], [(0, (2, 82)), (1, (0, 4)), (3, (0, u45))], [], (w556, bd, fc, 0, 0, rr)) (fun φ => ∃ w', xEnd 0 [] (w', bd, fc, 0, 0, rr) φ ∧ xMnv w' ∧ xFr [82, 83, 85, 86, 87] w w' ∧ ((FA w ≠ 0 → FA w' ≠ 0) ∧ PS w' ∧ ((fld w' 82 10 = 1 ∧ mu w' = mu w ∧ fld w' 82 14 = fld w 82 14 ∧ ∀ s, s < 7 → rwv w' 85 s = rwv w 85 s) ∨ (mu w' < mu w ∧ fld w' 82 14 = fld w 82 14 + 1 ∧ ∀ s, s < 7 → rwv w' 85 s ≤ rwv w 85 s + 1)) ∧ (FA w' ≠ 0 ∨ (DATA w → DATA w')))) := by
      intro w556 hI557 hF558 he559
      obtain ⟨hj560, hj561, hj562, hj563, hj564⟩ := he559
      refine xg_t (xg_blk (b := [(394, 1, 0, 0, 0, 0), (395, 3, 1, 12, 10, 180), (398, 3, 7, 416, 1, 0), (401, 1, 0, 0, 0, 0), (402, 3, 1, 12, 7, 151), (405, 1, 3, 2, 0, 0), (406, 3, 6, 416, 1, 0), (409, 1, 0, 0, 0, 0), (410, 3, 13, 110, 96, 190), (413, 3, 8, 420, 0, 0)]) rfl) ?_
      refine xg_t (xg_aload (va := (2, 82)) rfl rfl) ?_
      obtain ⟨f82_565, f82_567, f82_569, f82_571, f82_573, f82_575, f82_577, f82_579, f82_581, f82_583, f82_585, f82_586, f82_587, f82_589, f82_591, f82_593, h82_595, hb566, hb568, hb570, hb572, hb574, hb576, hb578, hb580, hb582, hb584, hb588, hb590, hb592, hb594, hb596⟩ := (hI557 82 (by decide) (by decide) : cp82 (wget w556 82))
      refine xg_t (xg_getf (va := (0, f82_581)) h82_595 rfl) ?_
      by_cases hc597 : f82_581 = 0
      · refine xg_t (xg_ifF (u := f82_581) rfl xnm0 (xj_neF hc597)) ?_
        refine xg_t (xg_aload (va := (2, 82)) rfl rfl) ?_
        refine xg_t (xg_getf (va := (0, f82_575)) h82_595 rfl) ?_
        refine xg_t (xg_const) ?_
        by_cases hc598 : f82_575 = 2
        · refine xg_t (xg_icF (u := f82_575) (v := 2) rfl xnm0 xnm0 (xj_neF hc598)) ?_
          refine xg_t (xg_aload (va := (2, 82)) rfl rfl) ?_
          refine xg_cVv mX12_advance (vs := []) (rest := []) (cn1 := 0) (sl1 := 0) rfl (mAdvance (hI557)) rfl h82_595 rfl rfl rfl rfl rfl rfl (fun w599 hq600 => ?_)
          obtain ⟨hI601, hF602, hx603⟩ := hq600
          clear hb566 hb568 hb570 hb572 hb574 hb576 hb578 hb580 hb582 hb584 hb588 hb590 hb592 hb594
          obtain ⟨hv604, hv605, hv606, hv607⟩ := hx603
          have hf609 := FA_fr hF602 (by decide)
          have hs610 := hj560.2.2.2
          unfold PS at hs610
          have pk608 : PK w556 w599 := ⟨fun _ => by omega, hv604, hv607, (show fld w599 82 10 = 0 ∨ FA w599 ≠ 0 by omega)⟩
          clear hs610
          clear hv605
          have pk611 : PK w w599 := PK.tr hj560 pk608
          have os612 : ∀ j, (j < 100 + 2 * u45 ∨ 102 + 2 * u45 ≤ j) → j < 140 → rwv w599 86 j = rwv w 86 j := fun j hj hl => (rwv_fr hF602 (by decide)).trans (hj561 j hj hl)
          have rg613 : FA w599 ≠ 0 ∨ u45 < 20 := hj564.imp_left pk608.1
          have mf614 : ∀ s, s < 7 → rwv w599 85 s = rwv w 85 s := fun s hs => (rwv_fr hF602 (by decide)).trans (hj563 s hs)
          have ms615 : mu w599 < mu w := Nat.lt_of_le_of_lt pk608.2.1 hj562
          clear hj564
          refine xg_t (xg_goto) ?_
          refine xg_t (xg_blk (b := [(420, 1, 0, 0, 0, 0), (421, 3, 1, 12, 11, 17), (424, 1, 2, 1, 0, 0), (425, 1, 39, 0, 0, 0), (426, 1, 10, 0, 0, 0), (427, 1, 3, 1, 0, 0), (428, 1, 11, 0, 0, 0), (429, 1, 17, 0, 0, 0), (430, 1, 0, 0, 0, 0), (431, 1, 19, 0, 0, 0), (432, 3, 1, 12, 14, 212), (435, 1, 3, 1, 0, 0), (436, 1, 11, 0, 0, 0), (437, 3, 14, 12, 14, 212), (440, 1, 12, 0, 0, 0)]) rfl) ?_
          obtain ⟨f82_616, f82_618, f82_620, f82_622, f82_624, f82_626, f82_628, f82_630, f82_632, f82_634, f82_636, f82_637, f82_638, f82_640, f82_642, f82_644, h82_646, hb617, hb619, hb621, hb623, hb625, hb627, hb629, hb631, hb633, hb635, hb639, hb641, hb643, hb645, hb647⟩ := (hI601 82 (by decide) (by decide) : cp82 (wget w599 82))
          have hf648 : fld w599 82 4 = f82_620 := fld_of h82_646
          have hf649 : fld w599 82 5 = f82_622 := fld_of h82_646
          have hf650 : fld w599 82 7 = f82_626 := fld_of h82_646
          have hf651 : fld w599 82 10 = f82_632 := fld_of h82_646
          have hf652 : fld w599 82 14 = f82_634 := fld_of h82_646
          have hu653 : mu w599 = 2 * (fld w599 82 4 - fld w599 82 5) + min 1 (fld w599 82 7) := rfl
          have hf654 := pk611.2.2.1
          have hl655 : f82_634 ≤ 1000 := by omega
          refine xg_t (xg_aload (va := (2, 82)) rfl rfl) ?_
          refine xg_t (xg_getf (va := (2, 85)) h82_646 rfl) ?_
          refine xg_t (xg_iload (va := (0, 4)) rfl rfl) ?_
          refine xg_t (xg_dup2 rfl) ?_
          obtain ⟨g85_656, h85_657, hb658⟩ := (hI601 85 (by decide) (by decide) : cpI 7 52 4294967295 (wget w599 85))
          have h85_657 : xRow w599 85 7 52 g85_656 := h85_657
          refine xg_ialdB (n := 4) (B := 4294967295) h85_657 (hb658) xnm0 (by omega) (fun u659 hu660 he661 => ?_)
          have hl662 : u659 = u45 := by have q1 := rwv_of h85_657 (show 4 < 7 by decide); have q2 := mf614 4 (by decide); omega
          refine xg_t (xg_const) ?_
          refine xg_t (xg_iadd (u := u659) (v := 1) (z := u659 + 1) xnm0 xnm0 (by omega)) ?_
          refine xg_iastK (n := 4) (u := u659 + 1) h85_657 xnm0 xnm0 rfl (by omega) (fun w663 hr664 hb665 => ?_)
          refine xg_t (xg_aload (va := (2, 82)) rfl rfl) ?_
          refine xg_t (xg_dup rfl) ?_
          refine xg_t (xg_getf (va := (0, f82_634)) (hb665.get (by decide) h82_646) rfl) ?_
          refine xg_t (xg_const) ?_
          refine xg_t (xg_iadd (u := f82_634) (v := 1) (z := f82_634 + 1) xnm0 xnm0 (by omega)) ?_
          refine xg_putI (fl1 := [(2, 83), (2, 84), (0, f82_616), (0, f82_618), (0, f82_620), (0, f82_622), (0, f82_624), (0, f82_626), (0, f82_628), (0, f82_630), (0, f82_632), (2, 85), (2, 86), (2, 87), (0, f82_634 + 1), (2, 88), (2, 89), (2, 90), (2, 91), (2, 92), (2, 93), (2, 94), (4, f82_636), (4, f82_637), (0, f82_638), (2, 95), (2, 96), (2, 97), (2, 98), (2, 99), (2, 100), (2, 101), (2, 102), (0, f82_640), (2, 103), (2, 104), (2, 105), (2, 106), (2, 107), (2, 108), (2, 109), (0, f82_642), (0, f82_644), (2, 110), (2, 111), (2, 112), (2, 113)]) (hb665.get (by decide) h82_646) rfl rfl rfl (fun w666 hk667 hb668 => ?_)
          have hF669 : xFr [82, 85] w599 w666 := ((xFr.of (S := [82, 85]) hb665 (by decide)).tr (xFr.of (S := [82, 85]) hb668 (by decide)))
          have hA670 := FA_fr hF669 (by decide)
          have hf671 : fld w666 82 4 = f82_620 := fld_of hk667
          have hf672 : fld w666 82 5 = f82_622 := fld_of hk667
          have hf673 : fld w666 82 7 = f82_626 := fld_of hk667
          have hf674 : fld w666 82 10 = f82_632 := fld_of hk667
          have hf675 : fld w666 82 14 = f82_634 + 1 := fld_of hk667
          have hu676 : mu w666 = 2 * (fld w666 82 4 - fld w666 82 5) + min 1 (fld w666 82 7) := rfl
          have pq677 := pk611
          unfold PK PS at pq677
          have hM678 : ∀ s, s < 7 → s ≠ 4 → rwv w666 85 s = rwv w 85 s := fun s hs hn => (rwv_of (hr664.but hb668 (by decide)) hs).trans ((if_neg hn).trans ((rwv_of h85_657 hs).symm.trans (mf614 s hs)))
          have hM679 : rwv w666 85 4 = u45 + 1 := (rwv_of (hr664.but hb668 (by decide)) (by decide)).trans ((if_pos rfl).trans (by omega))
          have hM680 : ∀ s, s < 7 → rwv w666 85 s ≤ rwv w 85 s + 1 := fun s hs => by
            by_cases z : s = 4
            · subst z; omega
            · rw [hM678 s hs z]; omega
          have hO681 : ∀ j, (j < 100 + 2 * u45 ∨ 102 + 2 * u45 ≤ j) → j < 140 → rwv w666 86 j = rwv w 86 j := fun j hj hl => (rwv_fr hF669 (by decide)).trans (os612 j hj hl)
          have hl683 : FA w599 ≠ 0 ∨ u45 < 20 := rg613
          have hN682 : FA w666 ≠ 0 ∨ 20 ≤ u45 ∨ True := Or.inr (Or.inr trivial)
          have hX684 : FA w666 ≠ 0 ∨ u45 < 20 := by omega
          have hD685 : FA w666 ≠ 0 ∨ (DATA w → DATA w666) := by
            by_cases z : FA w666 ≠ 0
            · exact Or.inl z
            · exact Or.inr (fun hd => hd.s4 hM678 hK48 hM679 (hX684.resolve_left z) hO681 ((hN682.resolve_left z).resolve_left (by have := hX684.resolve_left z; omega)))
          exact xg_e ⟨w666, ⟨rfl, rfl⟩, xMnv.up (S := [85, 82]) hI601 ((xFr.of (S := [85, 82]) hb665 (by decide)).tr (xFr.of (S := [85, 82]) hb668 (by decide))) (List.forall_mem_cons.mpr ⟨(show cpI 7 52 4294967295 (wget w666 85) from ⟨_, (hr664.but hb668 (by decide)), xrb (by omega) (hb658)⟩), List.forall_mem_cons.mpr ⟨(show cp82 (wget w666 82) from ⟨f82_616, f82_618, f82_620, f82_622, f82_624, f82_626, f82_628, f82_630, f82_632, f82_634 + 1, f82_636, f82_637, f82_638, f82_640, f82_642, f82_644, hk667, hb617, hb619, hb621, hb623, hb625, hb627, hb629, hb631, hb633, by omega, hb639, hb641, hb643, hb645, by omega⟩), fun _ h => absurd h List.not_mem_nil⟩⟩), ((hF558.tr (hF602.up (by decide))).tr ((xFr.of (S := [82, 83, 85, 86, 87]) hb665 (by decide)).tr (xFr.of (S := [82, 83, 85, 86, 87]) hb668 (by decide)))), ⟨fun h => by have := pq677.1 h; omega, (show fld w666 82 10 = 0 ∨ FA w666 ≠ 0 by omega), Or.inr ⟨by have := ms615; omega, by omega, hM680⟩, hD685⟩⟩
        · refine xg_t (xg_icT (u := f82_575) (v := 2) rfl xnm0 xnm0 (xj_neT hc598)) ?_
          refine xg_t (xg_blk (b := [(416, 1, 0, 0, 0, 0), (417, 3, 13, 140, 96, 183)]) rfl) ?_
          refine xg_t (xg_aload (va := (2, 82)) rfl rfl) ?_
          refine xg_cVv mX12_ends (vs := []) (rest := []) (cn1 := 0) (sl1 := 0) rfl (mEnds (hI557) hj560.2.2.2) rfl h82_595 rfl rfl rfl rfl rfl rfl (fun w686 hq687 => ?_)
          obtain ⟨hI688, hF689, hx690⟩ := hq687
          clear hb566 hb568 hb570 hb572 hb574 hb576 hb578 hb580 hb582 hb584 hb588 hb590 hb592 hb594
          obtain ⟨hv691, hv692, hv693, hv694⟩ := hx690
          have pk695 : PK w556 w686 := ⟨fun _ => hv691, by omega, by omega, Or.inr hv691⟩
          have pk696 : PK w w686 := PK.tr hj560 pk695
          have os697 : ∀ j, (j < 100 + 2 * u45 ∨ 102 + 2 * u45 ≤ j) → j < 140 → rwv w686 86 j = rwv w 86 j := fun j hj hl => (rwv_fr hF689 (by decide)).trans (hj561 j hj hl)
          have rg698 : FA w686 ≠ 0 ∨ u45 < 20 := hj564.imp_left pk695.1
          have mf699 : ∀ s, s < 7 → rwv w686 85 s = rwv w 85 s := fun s hs => (rwv_fr hF689 (by decide)).trans (hj563 s hs)
          have ms700 : mu w686 < mu w := Nat.lt_of_le_of_lt pk695.2.1 hj562
          clear hj564
          refine xg_t (xg_blk (b := [(420, 1, 0, 0, 0, 0), (421, 3, 1, 12, 11, 17), (424, 1, 2, 1, 0, 0), (425, 1, 39, 0, 0, 0), (426, 1, 10, 0, 0, 0), (427, 1, 3, 1, 0, 0), (428, 1, 11, 0, 0, 0), (429, 1, 17, 0, 0, 0), (430, 1, 0, 0, 0, 0), (431, 1, 19, 0, 0, 0), (432, 3, 1, 12, 14, 212), (435, 1, 3, 1, 0, 0), (436, 1, 11, 0, 0, 0), (437, 3, 14, 12, 14, 212), (440, 1, 12, 0, 0, 0)]) rfl) ?_
          obtain ⟨f82_701, f82_703, f82_705, f82_707, f82_709, f82_711, f82_713, f82_715, f82_717, f82_719, f82_721, f82_722, f82_723, f82_725, f82_727, f82_729, h82_731, hb702, hb704, hb706, hb708, hb710, hb712, hb714, hb716, hb718, hb720, hb724, hb726, hb728, hb730, hb732⟩ := (hI688 82 (by decide) (by decide) : cp82 (wget w686 82))
          have hf733 : fld w686 82 4 = f82_705 := fld_of h82_731
          have hf734 : fld w686 82 5 = f82_707 := fld_of h82_731
          have hf735 : fld w686 82 7 = f82_711 := fld_of h82_731
          have hf736 : fld w686 82 10 = f82_717 := fld_of h82_731
          have hf737 : fld w686 82 14 = f82_719 := fld_of h82_731
          have hu738 : mu w686 = 2 * (fld w686 82 4 - fld w686 82 5) + min 1 (fld w686 82 7) := rfl
          have hf739 := pk696.2.2.1
          have hl740 : f82_719 ≤ 1000 := by omega
          refine xg_t (xg_aload (va := (2, 82)) rfl rfl) ?_
          refine xg_t (xg_getf (va := (2, 85)) h82_731 rfl) ?_
          refine xg_t (xg_iload (va := (0, 4)) rfl rfl) ?_
          refine xg_t (xg_dup2 rfl) ?_
          obtain ⟨g85_741, h85_742, hb743⟩ := (hI688 85 (by decide) (by decide) : cpI 7 52 4294967295 (wget w686 85))
          have h85_742 : xRow w686 85 7 52 g85_741 := h85_742
          refine xg_ialdB (n := 4) (B := 4294967295) h85_742 (hb743) xnm0 (by omega) (fun u744 hu745 he746 => ?_)
          have hl747 : u744 = u45 := by have q1 := rwv_of h85_742 (show 4 < 7 by decide); have q2 := mf699 4 (by decide); omega
          refine xg_t (xg_const) ?_
          refine xg_t (xg_iadd (u := u744) (v := 1) (z := u744 + 1) xnm0 xnm0 (by omega)) ?_
          refine xg_iastK (n := 4) (u := u744 + 1) h85_742 xnm0 xnm0 rfl (by omega) (fun w748 hr749 hb750 => ?_)
          refine xg_t (xg_aload (va := (2, 82)) rfl rfl) ?_
          refine xg_t (xg_dup rfl) ?_
          refine xg_t (xg_getf (va := (0, f82_719)) (hb750.get (by decide) h82_731) rfl) ?_
          refine xg_t (xg_const) ?_
          refine xg_t (xg_iadd (u := f82_719) (v := 1) (z := f82_719 + 1) xnm0 xnm0 (by omega)) ?_
          refine xg_putI (fl1 := [(2, 83), (2, 84), (0, f82_701), (0, f82_703), (0, f82_705), (0, f82_707), (0, f82_709), (0, f82_711), (0, f82_713), (0, f82_715), (0, f82_717), (2, 85), (2, 86), (2, 87), (0, f82_719 + 1), (2, 88), (2, 89), (2, 90), (2, 91), (2, 92), (2, 93), (2, 94), (4, f82_721), (4, f82_722), (0, f82_723), (2, 95), (2, 96), (2, 97), (2, 98), (2, 99), (2, 100), (2, 101), (2, 102), (0, f82_725), (2, 103), (2, 104), (2, 105), (2, 106), (2, 107), (2, 108), (2, 109), (0, f82_727), (0, f82_729), (2, 110), (2, 111), (2, 112), (2, 113)]) (hb750.get (by decide) h82_731) rfl rfl rfl (fun w751 hk752 hb753 => ?_)
          have hF754 : xFr [82, 85] w686 w751 := ((xFr.of (S := [82, 85]) hb750 (by decide)).tr (xFr.of (S := [82, 85]) hb753 (by decide)))
          have hA755 := FA_fr hF754 (by decide)
          have hf756 : fld w751 82 4 = f82_705 := fld_of hk752
          have hf757 : fld w751 82 5 = f82_707 := fld_of hk752
          have hf758 : fld w751 82 7 = f82_711 := fld_of hk752
          have hf759 : fld w751 82 10 = f82_717 := fld_of hk752
          have hf760 : fld w751 82 14 = f82_719 + 1 := fld_of hk752
          have hu761 : mu w751 = 2 * (fld w751 82 4 - fld w751 82 5) + min 1 (fld w751 82 7) := rfl
          have pq762 := pk696
          unfold PK PS at pq762
          have hM763 : ∀ s, s < 7 → s ≠ 4 → rwv w751 85 s = rwv w 85 s := fun s hs hn => (rwv_of (hr749.but hb753 (by decide)) hs).trans ((if_neg hn).trans ((rwv_of h85_742 hs).symm.trans (mf699 s hs)))
          have hM764 : rwv w751 85 4 = u45 + 1 := (rwv_of (hr749.but hb753 (by decide)) (by decide)).trans ((if_pos rfl).trans (by omega))
          have hM765 : ∀ s, s < 7 → rwv w751 85 s ≤ rwv w 85 s + 1 := fun s hs => by
            by_cases z : s = 4
            · subst z; omega
            · rw [hM763 s hs z]; omega
          have hO766 : ∀ j, (j < 100 + 2 * u45 ∨ 102 + 2 * u45 ≤ j) → j < 140 → rwv w751 86 j = rwv w 86 j := fun j hj hl => (rwv_fr hF754 (by decide)).trans (os697 j hj hl)
          have hl768 : FA w686 ≠ 0 ∨ u45 < 20 := rg698
          have hN767 : FA w751 ≠ 0 ∨ 20 ≤ u45 ∨ True := Or.inr (Or.inr trivial)
          have hX769 : FA w751 ≠ 0 ∨ u45 < 20 := by omega
          have hD770 : FA w751 ≠ 0 ∨ (DATA w → DATA w751) := by
            by_cases z : FA w751 ≠ 0
            · exact Or.inl z
            · exact Or.inr (fun hd => hd.s4 hM763 hK48 hM764 (hX769.resolve_left z) hO766 ((hN767.resolve_left z).resolve_left (by have := hX769.resolve_left z; omega)))
          exact xg_e ⟨w751, ⟨rfl, rfl⟩, xMnv.up (S := [85, 82]) hI688 ((xFr.of (S := [85, 82]) hb750 (by decide)).tr (xFr.of (S := [85, 82]) hb753 (by decide))) (List.forall_mem_cons.mpr ⟨(show cpI 7 52 4294967295 (wget w751 85) from ⟨_, (hr749.but hb753 (by decide)), xrb (by omega) (hb743)⟩), List.forall_mem_cons.mpr ⟨(show cp82 (wget w751 82) from ⟨f82_701, f82_703, f82_705, f82_707, f82_709, f82_711, f82_713, f82_715, f82_717, f82_719 + 1, f82_721, f82_722, f82_723, f82_725, f82_727, f82_729, hk752, hb702, hb704, hb706, hb708, hb710, hb712, hb714, hb716, hb718, by omega, hb724, hb726, hb728, hb730, by omega⟩), fun _ h => absurd h List.not_mem_nil⟩⟩), ((hF558.tr (hF689.up (by decide))).tr ((xFr.of (S := [82, 83, 85, 86, 87]) hb750 (by decide)).tr (xFr.of (S := [82, 83, 85, 86, 87]) hb753 (by decide)))), ⟨fun h => by have := pq762.1 h; omega, (show fld w751 82 10 = 0 ∨ FA w751 ≠ 0 by omega), Or.inr ⟨by have := ms700; omega, by omega, hM765⟩, hD770⟩⟩
      · refine xg_t (xg_ifT (u := f82_581) rfl xnm0 (xj_neT hc597)) ?_
        refine xg_t (xg_blk (b := [(416, 1, 0, 0, 0, 0), (417, 3, 13, 140, 96, 183)]) rfl) ?_
        refine xg_t (xg_aload (va := (2, 82)) rfl rfl) ?_
        refine xg_cVv mX12_ends (vs := []) (rest := []) (cn1 := 0) (sl1 := 0) rfl (mEnds (hI557) hj560.2.2.2) rfl h82_595 rfl rfl rfl rfl rfl rfl (fun w771 hq772 => ?_)
        obtain ⟨hI773, hF774, hx775⟩ := hq772
        clear hb566 hb568 hb570 hb572 hb574 hb576 hb578 hb580 hb582 hb584 hb588 hb590 hb592 hb594
        obtain ⟨hv776, hv777, hv778, hv779⟩ := hx775
        have pk780 : PK w556 w771 := ⟨fun _ => hv776, by omega, by omega, Or.inr hv776⟩
        have pk781 : PK w w771 := PK.tr hj560 pk780
        have os782 : ∀ j, (j < 100 + 2 * u45 ∨ 102 + 2 * u45 ≤ j) → j < 140 → rwv w771 86 j = rwv w 86 j := fun j hj hl => (rwv_fr hF774 (by decide)).trans (hj561 j hj hl)
        have rg783 : FA w771 ≠ 0 ∨ u45 < 20 := hj564.imp_left pk780.1
        have mf784 : ∀ s, s < 7 → rwv w771 85 s = rwv w 85 s := fun s hs => (rwv_fr hF774 (by decide)).trans (hj563 s hs)
        have ms785 : mu w771 < mu w := Nat.lt_of_le_of_lt pk780.2.1 hj562
        clear hj564
        refine xg_t (xg_blk (b := [(420, 1, 0, 0, 0, 0), (421, 3, 1, 12, 11, 17), (424, 1, 2, 1, 0, 0), (425, 1, 39, 0, 0, 0), (426, 1, 10, 0, 0, 0), (427, 1, 3, 1, 0, 0), (428, 1, 11, 0, 0, 0), (429, 1, 17, 0, 0, 0), (430, 1, 0, 0, 0, 0), (431, 1, 19, 0, 0, 0), (432, 3, 1, 12, 14, 212), (435, 1, 3, 1, 0, 0), (436, 1, 11, 0, 0, 0), (437, 3, 14, 12, 14, 212), (440, 1, 12, 0, 0, 0)]) rfl) ?_
        obtain ⟨f82_786, f82_788, f82_790, f82_792, f82_794, f82_796, f82_798, f82_800, f82_802, f82_804, f82_806, f82_807, f82_808, f82_810, f82_812, f82_814, h82_816, hb787, hb789, hb791, hb793, hb795, hb797, hb799, hb801, hb803, hb805, hb809, hb811, hb813, hb815, hb817⟩ := (hI773 82 (by decide) (by decide) : cp82 (wget w771 82))
        have hf818 : fld w771 82 4 = f82_790 := fld_of h82_816
        have hf819 : fld w771 82 5 = f82_792 := fld_of h82_816
        have hf820 : fld w771 82 7 = f82_796 := fld_of h82_816
        have hf821 : fld w771 82 10 = f82_802 := fld_of h82_816
        have hf822 : fld w771 82 14 = f82_804 := fld_of h82_816
        have hu823 : mu w771 = 2 * (fld w771 82 4 - fld w771 82 5) + min 1 (fld w771 82 7) := rfl
        have hf824 := pk781.2.2.1
        have hl825 : f82_804 ≤ 1000 := by omega
        refine xg_t (xg_aload (va := (2, 82)) rfl rfl) ?_
        refine xg_t (xg_getf (va := (2, 85)) h82_816 rfl) ?_
        refine xg_t (xg_iload (va := (0, 4)) rfl rfl) ?_
        refine xg_t (xg_dup2 rfl) ?_
        obtain ⟨g85_826, h85_827, hb828⟩ := (hI773 85 (by decide) (by decide) : cpI 7 52 4294967295 (wget w771 85))
        have h85_827 : xRow w771 85 7 52 g85_826 := h85_827
        refine xg_ialdB (n := 4) (B := 4294967295) h85_827 (hb828) xnm0 (by omega) (fun u829 hu830 he831 => ?_)
        have hl832 : u829 = u45 := by have q1 := rwv_of h85_827 (show 4 < 7 by decide); have q2 := mf784 4 (by decide); omega
        refine xg_t (xg_const) ?_
        refine xg_t (xg_iadd (u := u829) (v := 1) (z := u829 + 1) xnm0 xnm0 (by omega)) ?_
        refine xg_iastK (n := 4) (u := u829 + 1) h85_827 xnm0 xnm0 rfl (by omega) (fun w833 hr834 hb835 => ?_)
        refine xg_t (xg_aload (va := (2, 82)) rfl rfl) ?_
        refine xg_t (xg_dup rfl) ?_
        refine xg_t (xg_getf (va := (0, f82_804)) (hb835.get (by decide) h82_816) rfl) ?_
        refine xg_t (xg_const) ?_
        refine xg_t (xg_iadd (u := f82_804) (v := 1) (z := f82_804 + 1) xnm0 xnm0 (by omega)) ?_
        refine xg_putI (fl1 := [(2, 83), (2, 84), (0, f82_786), (0, f82_788), (0, f82_790), (0, f82_792), (0, f82_794), (0, f82_796), (0, f82_798), (0, f82_800), (0, f82_802), (2, 85), (2, 86), (2, 87), (0, f82_804 + 1), (2, 88), (2, 89), (2, 90), (2, 91), (2, 92), (2, 93), (2, 94), (4, f82_806), (4, f82_807), (0, f82_808), (2, 95), (2, 96), (2, 97), (2, 98), (2, 99), (2, 100), (2, 101), (2, 102), (0, f82_810), (2, 103), (2, 104), (2, 105), (2, 106), (2, 107), (2, 108), (2, 109), (0, f82_812), (0, f82_814), (2, 110), (2, 111), (2, 112), (2, 113)]) (hb835.get (by decide) h82_816) rfl rfl rfl (fun w836 hk837 hb838 => ?_)
        have hF839 : xFr [82, 85] w771 w836 := ((xFr.of (S := [82, 85]) hb835 (by decide)).tr (xFr.of (S := [82, 85]) hb838 (by decide)))
        have hA840 := FA_fr hF839 (by decide)
        have hf841 : fld w836 82 4 = f82_790 := fld_of hk837
        have hf842 : fld w836 82 5 = f82_792 := fld_of hk837
        have hf843 : fld w836 82 7 = f82_796 := fld_of hk837
        have hf844 : fld w836 82 10 = f82_802 := fld_of hk837
        have hf845 : fld w836 82 14 = f82_804 + 1 := fld_of hk837
        have hu846 : mu w836 = 2 * (fld w836 82 4 - fld w836 82 5) + min 1 (fld w836 82 7) := rfl
        have pq847 := pk781
        unfold PK PS at pq847
        have hM848 : ∀ s, s < 7 → s ≠ 4 → rwv w836 85 s = rwv w 85 s := fun s hs hn => (rwv_of (hr834.but hb838 (by decide)) hs).trans ((if_neg hn).trans ((rwv_of h85_827 hs).symm.trans (mf784 s hs)))
        have hM849 : rwv w836 85 4 = u45 + 1 := (rwv_of (hr834.but hb838 (by decide)) (by decide)).trans ((if_pos rfl).trans (by omega))
        have hM850 : ∀ s, s < 7 → rwv w836 85 s ≤ rwv w 85 s + 1 := fun s hs => by
          by_cases z : s = 4
          · subst z; omega
          · rw [hM848 s hs z]; omega
        have hO851 : ∀ j, (j < 100 + 2 * u45 ∨ 102 + 2 * u45 ≤ j) → j < 140 → rwv w836 86 j = rwv w 86 j := fun j hj hl => (rwv_fr hF839 (by decide)).trans (os782 j hj hl)
        have hl853 : FA w771 ≠ 0 ∨ u45 < 20 := rg783
        have hN852 : FA w836 ≠ 0 ∨ 20 ≤ u45 ∨ True := Or.inr (Or.inr trivial)
        have hX854 : FA w836 ≠ 0 ∨ u45 < 20 := by omega
        have hD855 : FA w836 ≠ 0 ∨ (DATA w → DATA w836) := by
          by_cases z : FA w836 ≠ 0
          · exact Or.inl z
          · exact Or.inr (fun hd => hd.s4 hM848 hK48 hM849 (hX854.resolve_left z) hO851 ((hN852.resolve_left z).resolve_left (by have := hX854.resolve_left z; omega)))
        exact xg_e ⟨w836, ⟨rfl, rfl⟩, xMnv.up (S := [85, 82]) hI773 ((xFr.of (S := [85, 82]) hb835 (by decide)).tr (xFr.of (S := [85, 82]) hb838 (by decide))) (List.forall_mem_cons.mpr ⟨(show cpI 7 52 4294967295 (wget w836 85) from ⟨_, (hr834.but hb838 (by decide)), xrb (by omega) (hb828)⟩), List.forall_mem_cons.mpr ⟨(show cp82 (wget w836 82) from ⟨f82_786, f82_788, f82_790, f82_792, f82_794, f82_796, f82_798, f82_800, f82_802, f82_804 + 1, f82_806, f82_807, f82_808, f82_810, f82_812, f82_814, hk837, hb787, hb789, hb791, hb793, hb795, hb797, hb799, hb801, hb803, by omega, hb809, hb811, hb813, hb815, by omega⟩), fun _ h => absurd h List.not_mem_nil⟩⟩), ((hF558.tr (hF774.up (by decide))).tr ((xFr.of (S := [82, 83, 85, 86, 87]) hb835 (by decide)).tr (xFr.of (S := [82, 83, 85, 86, 87]) hb838 (by decide)))), ⟨fun h => by have := pq847.1 h; omega, (show fld w836 82 10 = 0 ∨ FA w836 ≠ 0 by omega), Or.inr ⟨by have := ms785; omega, by omega, hM850⟩, hD855⟩⟩
    refine xg_t (xg_iload (va := (0, 4)) rfl rfl) ?_
    refine xg_t (xg_swt (ks := [(0, 108), (1, 116), (2, 180), (3, 221), (4, 273), (5, 326)]) (u := 4) (z := 273) rfl rfl rfl xnm0 (xsw_n (by omega) (xsw_n (by omega) (xsw_n (by omega) (xsw_n (by omega) (xsw_y rfl)))))) ?_
    refine xg_t (xg_blk (b := [(273, 1, 2, 3, 0, 0), (274, 2, 4, 20, 0, 0), (276, 3, 6, 286, 3, 0), (279, 1, 0, 0, 0, 0), (280, 3, 1, 12, 13, 23), (283, 1, 2, 3, 0, 0), (284, 1, 2, 2, 0, 0), (285, 1, 17, 0, 0, 0)]) rfl) ?_
    refine xg_t (xg_iload (va := (0, u45)) rfl rfl) ?_
    refine xg_t (xg_bip) ?_
    refine xg_t (xg_icT (u := u45) (v := 20) rfl xnm0 xnm0 (xj_geT (by omega) (by omega))) ?_
    refine xg_t (xg_blk (b := [(286, 1, 3, 0, 0, 0), (287, 2, 15, 4, 0, 0)]) rfl) ?_
    refine xg_t (xg_const) ?_
    refine xg_t (xg_istore (l1 := [(3, (0, u45)), (2, (0, at_)), (1, (0, 4)), (0, (2, 82))]) rfl rfl rfl) ?_
    refine xg_t (xg_blk (b := [(289, 2, 2, 4, 0, 0), (291, 1, 3, 2, 0, 0), (292, 3, 6, 323, 3, 0), (295, 1, 0, 0, 0, 0), (296, 1, 2, 1, 0, 0), (297, 1, 2, 3, 0, 0), (298, 2, 4, 100, 0, 0), (300, 1, 3, 2, 0, 0), (301, 1, 2, 3, 0, 0), (302, 1, 16, 0, 0, 0), (303, 1, 11, 0, 0, 0), (304, 2, 2, 4, 0, 0), (306, 1, 11, 0, 0, 0), (307, 1, 0, 0, 0, 0), (308, 1, 3, 0, 0, 0), (309, 2, 4, 9, 0, 0), (311, 3, 13, 199, 96, 196), (314, 3, 13, 211, 96, 200), (317, 3, 9, 4, 1, 0), (320, 3, 8, 289, 0, 0)]) rfl) ?_
    refine xg_t (xg_iload (va := (0, 0)) rfl rfl) ?_
    refine xg_t (xg_const) ?_
    refine xg_t (xg_icF (u := 0) (v := 2) rfl xnm0 xnm0 (by decide)) ?_
    refine xg_t (xg_aload (va := (2, 82)) rfl rfl) ?_
    refine xg_t (xg_iload (va := (0, 4)) rfl rfl) ?_
    refine xg_t (xg_iload (va := (0, u45)) rfl rfl) ?_
    refine xg_t (xg_bip) ?_
    refine xg_t (xg_const) ?_
    refine xg_t (xg_iload (va := (0, u45)) rfl rfl) ?_
    refine xg_t (xg_imul (u := 2) (v := u45) (z := 2 * u45) xnm0 xnm0 (by omega)) ?_
    refine xg_t (xg_iadd (u := 100) (v := 2 * u45) (z := 100 + (2 * u45)) xnm0 xnm0 (by omega)) ?_
    refine xg_t (xg_iload (va := (0, 0)) rfl rfl) ?_
    refine xg_t (xg_iadd (u := 100 + (2 * u45)) (v := 0) (z := (100 + (2 * u45)) + 0) xnm0 xnm0 (by omega)) ?_
    refine xg_t (xg_aload (va := (2, 82)) rfl rfl) ?_
    refine xg_t (xg_const) ?_
    refine xg_t (xg_bip) ?_
    obtain ⟨f82_856, f82_858, f82_860, f82_862, f82_864, f82_866, f82_868, f82_870, f82_872, f82_874, f82_876, f82_877, f82_878, f82_880, f82_882, f82_884, h82_886, hb857, hb859, hb861, hb863, hb865, hb867, hb869, hb871, hb873, hb875, hb879, hb881, hb883, hb885, hb887⟩ := (hI540 82 (by decide) (by decide) : cp82 (wget w538 82))
    refine xg_cVi mX12_numbered (vs := [(0, 0), (0, 9)]) (rest := [(0, (100 + (2 * u45)) + 0), (0, u45), (0, 4), (2, 82)]) (cn1 := 0) (sl1 := 0) rfl (mNumbered (hI540) (by omega) (by omega) pk550.2.2.2) rfl h82_886 rfl rfl rfl rfl rfl rfl (fun n892 w888 hq889 => ?_)
    obtain ⟨hn893, hI890, hF891⟩ := hq889
    clear hb857 hb859 hb861 hb863 hb865 hb867 hb869 hb871 hb873 hb875 hb879 hb881 hb883 hb885
    obtain ⟨hn894, hn895, hn896⟩ := hn893
    have pk897 : PK w w888 := PK.tr pk550 hn895
    have os898 : ∀ j, (j < 100 + 2 * u45 ∨ 102 + 2 * u45 ≤ j) → j < 140 → rwv w888 86 j = rwv w 86 j := fun j hj hl => (rwv_fr hF891 (by decide)).trans (os551 j hj hl)
    have rg899 : FA w888 ≠ 0 ∨ 0 = 1 := rg552.imp_left hn895.1
    have mf900 : ∀ s, s < 7 → rwv w888 85 s = rwv w 85 s := fun s hs => (rwv_fr hF891 (by decide)).trans (mf553 s hs)
    have ms901 : mu w888 < mu w := Nat.lt_of_le_of_lt hn895.2.1 ms554
    clear rg552
    obtain ⟨f82_902, f82_904, f82_906, f82_908, f82_910, f82_912, f82_914, f82_916, f82_918, f82_920, f82_922, f82_923, f82_924, f82_926, f82_928, f82_930, h82_932, hb903, hb905, hb907, hb909, hb911, hb913, hb915, hb917, hb919, hb921, hb925, hb927, hb929, hb931, hb933⟩ := (hI890 82 (by decide) (by decide) : cp82 (wget w888 82))
    refine xg_cVv mX12_puts (vs := [(0, 4), (0, u45), (0, (100 + (2 * u45)) + 0), (0, n892)]) (rest := []) (cn1 := 0) (sl1 := 0) rfl (mPuts4 (hI890) (by omega) (by omega) (by omega) (fun _ => by omega)) rfl h82_932 rfl rfl rfl rfl rfl rfl (fun w934 hq935 => ?_)
    obtain ⟨hI936, hF937, hx938⟩ := hq935
    obtain ⟨hp939, hp940⟩ := hx938
    have pk941 : PK w w934 := PK.tr pk897 (PK.fr hF937 (by decide) (by decide) pk897.2.2.2)
    have os942 : ∀ j, (j < 100 + 2 * u45 ∨ 102 + 2 * u45 ≤ j) → j < 140 → rwv w934 86 j = rwv w 86 j := fun j hj hl => (hp940 j (by omega) hl).trans (os898 j hj hl)
    have rg943 : FA w934 ≠ 0 ∨ 0 = 1 := rg899.imp_left (PK.fr hF937 (by decide) (by decide) pk897.2.2.2).1
    have rg944 : FA w934 ≠ 0 ∨ (0 ≤ n892 ∧ n892 ≤ 9) := hn896.imp_left (PK.fr hF937 (by decide) (by decide) pk897.2.2.2).1
    have mf945 : ∀ s, s < 7 → rwv w934 85 s = rwv w 85 s := fun s hs => (rwv_fr hF937 (by decide)).trans (mf900 s hs)
    have ms946 : mu w934 < mu w := Nat.lt_of_le_of_lt (PK.fr hF937 (by decide) (by decide) pk897.2.2.2).2.1 ms901
    clear rg899 hn896
    refine xg_t (xg_iinc (u := 0) (z := 1) (l1 := [(3, (0, u45)), (2, (0, at_)), (1, (0, 4)), (0, (2, 82))]) rfl rfl (by decide) rfl) ?_
    refine xg_t (xg_goto) ?_
    refine xg_t (xg_blk (b := [(289, 2, 2, 4, 0, 0), (291, 1, 3, 2, 0, 0), (292, 3, 6, 323, 3, 0), (295, 1, 0, 0, 0, 0), (296, 1, 2, 1, 0, 0), (297, 1, 2, 3, 0, 0), (298, 2, 4, 100, 0, 0), (300, 1, 3, 2, 0, 0), (301, 1, 2, 3, 0, 0), (302, 1, 16, 0, 0, 0), (303, 1, 11, 0, 0, 0), (304, 2, 2, 4, 0, 0), (306, 1, 11, 0, 0, 0), (307, 1, 0, 0, 0, 0), (308, 1, 3, 0, 0, 0), (309, 2, 4, 9, 0, 0), (311, 3, 13, 199, 96, 196), (314, 3, 13, 211, 96, 200), (317, 3, 9, 4, 1, 0), (320, 3, 8, 289, 0, 0)]) rfl) ?_
    refine xg_t (xg_iload (va := (0, 1)) rfl rfl) ?_
    refine xg_t (xg_const) ?_
    refine xg_t (xg_icF (u := 1) (v := 2) rfl xnm0 xnm0 (by decide)) ?_
    refine xg_t (xg_aload (va := (2, 82)) rfl rfl) ?_
    refine xg_t (xg_iload (va := (0, 4)) rfl rfl) ?_
    refine xg_t (xg_iload (va := (0, u45)) rfl rfl) ?_
    refine xg_t (xg_bip) ?_
    refine xg_t (xg_const) ?_
    refine xg_t (xg_iload (va := (0, u45)) rfl rfl) ?_
    refine xg_t (xg_imul (u := 2) (v := u45) (z := 2 * u45) xnm0 xnm0 (by omega)) ?_
    refine xg_t (xg_iadd (u := 100) (v := 2 * u45) (z := 100 + (2 * u45)) xnm0 xnm0 (by omega)) ?_
    refine xg_t (xg_iload (va := (0, 1)) rfl rfl) ?_
    refine xg_t (xg_iadd (u := 100 + (2 * u45)) (v := 1) (z := (100 + (2 * u45)) + 1) xnm0 xnm0 (by omega)) ?_
    refine xg_t (xg_aload (va := (2, 82)) rfl rfl) ?_
    refine xg_t (xg_const) ?_
    refine xg_t (xg_bip) ?_
    refine xg_cVi mX12_numbered (vs := [(0, 0), (0, 9)]) (rest := [(0, (100 + (2 * u45)) + 1), (0, u45), (0, 4), (2, 82)]) (cn1 := 0) (sl1 := 0) rfl (mNumbered (hI936) (by omega) (by omega) pk941.2.2.2) rfl (hF937.get (by decide) h82_932) rfl rfl rfl rfl rfl rfl (fun n951 w947 hq948 => ?_)
    obtain ⟨hn952, hI949, hF950⟩ := hq948
    clear hb903 hb905 hb907 hb909 hb911 hb913 hb915 hb917 hb919 hb921 hb925 hb927 hb929 hb931
    obtain ⟨hn953, hn954, hn955⟩ := hn952
    have pk956 : PK w w947 := PK.tr pk941 hn954
    have os957 : ∀ j, (j < 100 + 2 * u45 ∨ 102 + 2 * u45 ≤ j) → j < 140 → rwv w947 86 j = rwv w 86 j := fun j hj hl => (rwv_fr hF950 (by decide)).trans (os942 j hj hl)
    have ix958 : u45 < 20 → rwv w947 86 ((100 + (2 * u45)) + 0) = n892 := fun h => (rwv_fr hF950 (by decide)).trans (hp939 h)
    have rg959 : FA w947 ≠ 0 ∨ 0 = 1 := rg943.imp_left hn954.1
    have rg960 : FA w947 ≠ 0 ∨ (0 ≤ n892 ∧ n892 ≤ 9) := rg944.imp_left hn954.1
    have mf961 : ∀ s, s < 7 → rwv w947 85 s = rwv w 85 s := fun s hs => (rwv_fr hF950 (by decide)).trans (mf945 s hs)
    have ms962 : mu w947 < mu w := Nat.lt_of_le_of_lt hn954.2.1 ms946
    clear hp939 rg943 rg944
    obtain ⟨f82_963, f82_965, f82_967, f82_969, f82_971, f82_973, f82_975, f82_977, f82_979, f82_981, f82_983, f82_984, f82_985, f82_987, f82_989, f82_991, h82_993, hb964, hb966, hb968, hb970, hb972, hb974, hb976, hb978, hb980, hb982, hb986, hb988, hb990, hb992, hb994⟩ := (hI949 82 (by decide) (by decide) : cp82 (wget w947 82))
    refine xg_cVv mX12_puts (vs := [(0, 4), (0, u45), (0, (100 + (2 * u45)) + 1), (0, n951)]) (rest := []) (cn1 := 0) (sl1 := 0) rfl (mPuts4 (hI949) (by omega) (by omega) (by omega) (fun _ => by omega)) rfl h82_993 rfl rfl rfl rfl rfl rfl (fun w995 hq996 => ?_)
    obtain ⟨hI997, hF998, hx999⟩ := hq996
    obtain ⟨hp1000, hp1001⟩ := hx999
    have pk1002 : PK w w995 := PK.tr pk956 (PK.fr hF998 (by decide) (by decide) pk956.2.2.2)
    have os1003 : ∀ j, (j < 100 + 2 * u45 ∨ 102 + 2 * u45 ≤ j) → j < 140 → rwv w995 86 j = rwv w 86 j := fun j hj hl => (hp1001 j (by omega) hl).trans (os957 j hj hl)
    have ix1004 : u45 < 20 → rwv w995 86 ((100 + (2 * u45)) + 0) = n892 := fun h => (hp1001 _ (by omega) (by omega)).trans (ix958 h)
    have rg1005 : FA w995 ≠ 0 ∨ 0 = 1 := rg959.imp_left (PK.fr hF998 (by decide) (by decide) pk956.2.2.2).1
    have rg1006 : FA w995 ≠ 0 ∨ (0 ≤ n892 ∧ n892 ≤ 9) := rg960.imp_left (PK.fr hF998 (by decide) (by decide) pk956.2.2.2).1
    have rg1007 : FA w995 ≠ 0 ∨ (0 ≤ n951 ∧ n951 ≤ 9) := hn955.imp_left (PK.fr hF998 (by decide) (by decide) pk956.2.2.2).1
    have mf1008 : ∀ s, s < 7 → rwv w995 85 s = rwv w 85 s := fun s hs => (rwv_fr hF998 (by decide)).trans (mf961 s hs)
    have ms1009 : mu w995 < mu w := Nat.lt_of_le_of_lt (PK.fr hF998 (by decide) (by decide) pk956.2.2.2).2.1 ms962
    clear ix958 rg959 rg960 hn955
    refine xg_t (xg_iinc (u := 1) (z := 2) (l1 := [(3, (0, u45)), (2, (0, at_)), (1, (0, 4)), (0, (2, 82))]) rfl rfl (by decide) rfl) ?_
    refine xg_t (xg_goto) ?_
    refine xg_t (xg_blk (b := [(289, 2, 2, 4, 0, 0), (291, 1, 3, 2, 0, 0), (292, 3, 6, 323, 3, 0), (295, 1, 0, 0, 0, 0), (296, 1, 2, 1, 0, 0), (297, 1, 2, 3, 0, 0), (298, 2, 4, 100, 0, 0), (300, 1, 3, 2, 0, 0), (301, 1, 2, 3, 0, 0), (302, 1, 16, 0, 0, 0), (303, 1, 11, 0, 0, 0), (304, 2, 2, 4, 0, 0), (306, 1, 11, 0, 0, 0), (307, 1, 0, 0, 0, 0), (308, 1, 3, 0, 0, 0), (309, 2, 4, 9, 0, 0), (311, 3, 13, 199, 96, 196), (314, 3, 13, 211, 96, 200), (317, 3, 9, 4, 1, 0), (320, 3, 8, 289, 0, 0)]) rfl) ?_
    refine xg_t (xg_iload (va := (0, 2)) rfl rfl) ?_
    refine xg_t (xg_const) ?_
    refine xg_t (xg_icT (u := 2) (v := 2) rfl xnm0 xnm0 (by decide)) ?_
    refine xg_t (xg_blk (b := [(323, 3, 8, 394, 0, 0)]) rfl) ?_
    refine xg_t (xg_goto) ?_
    refine xg_t (xg_drop (l1 := [(0, (2, 82)), (1, (0, 4)), (3, (0, u45))]) (List.forall_mem_cons.mpr ⟨List.mem_cons_of_mem _ (List.mem_cons_of_mem _ (List.mem_cons_of_mem _ (List.mem_cons_of_mem _ (List.mem_cons_self)))), List.forall_mem_cons.mpr ⟨List.mem_cons_of_mem _ (List.mem_cons_of_mem _ (List.mem_cons_of_mem _ (List.mem_cons_self))), List.forall_mem_cons.mpr ⟨List.mem_cons_of_mem _ (List.mem_cons_self), fun _ h => absurd h List.not_mem_nil⟩⟩⟩)) ?_
    have hX1010 : FA w995 ≠ 0 ∨ u45 < 20 := Or.inl (by have q := rg1005; omega)
    exact jn555 w995 (hI997) (((((((hF531.up (by decide)).tr (hF541.up (by decide))).tr (hF891.up (by decide))).tr (hF937.up (by decide))).tr (hF950.up (by decide))).tr (hF998.up (by decide)))) (⟨pk1002, os1003, ms1009, mf1008, hX1010⟩)
end XMB
