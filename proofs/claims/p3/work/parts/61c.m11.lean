section
/-! the model: lines of films, more -/
section XMB
variable {d : Nat} {w : List (List xE)} {bd : List (Nat × Nat)} {fc : List (Nat × Nat × Bool)} {rr : Nat × Nat}
set_option maxHeartbeats 60000000 in
theorem mALineS2 {at_ : Nat} (hI : xMnv w) (hps : PS w) (hmb : ∀ s, s < 7 → rwv w 85 s ≤ 1000) (hln : fld w 82 14 ≤ 1000) (h7 : fld w 82 7 = 3) (hat : at_ ≤ 4294967295) : xTo (d + 7) mX12_aLine (43, [], [(2, (0, at_)), (1, (0, 2)), (0, (2, 82))], [], (w, bd, fc, 0, 0, rr)) (fun φ => ∃ w', xEnd 0 [] (w', bd, fc, 0, 0, rr) φ ∧ xMnv w' ∧ xFr [82, 83, 85, 86, 87] w w' ∧ ((FA w ≠ 0 → FA w' ≠ 0) ∧ PS w' ∧ ((fld w' 82 10 = 1 ∧ mu w' = mu w ∧ fld w' 82 14 = fld w 82 14 ∧ ∀ s, s < 7 → rwv w' 85 s = rwv w 85 s) ∨ (mu w' < mu w ∧ fld w' 82 14 = fld w 82 14 + 1 ∧ ∀ s, s < 7 → rwv w' 85 s ≤ rwv w 85 s + 1)) ∧ (FA w' ≠ 0 ∨ (DATA w → DATA w')) ∧ K83 w w')) := by
  refine xoCh82 (xqc82 hI : cp82 (wget w 82)) (fun f82_1 f82_3 f82_5 f82_7 f82_9 f82_11 f82_13 f82_15 f82_17 f82_19 f82_21 f82_22 f82_23 f82_25 f82_27 f82_29 h82_31 hb2 hb4 hb6 hb8 hb10 hb12 hb14 hb16 hb18 hb20 hb24 hb26 hb28 hb30 hb32 => ?_)
  have hf33 : fld w 82 7 = f82_11 := fld_of h82_31
  have hf34 : fld w 82 10 = f82_17 := fld_of h82_31
  have hf35 : fld w 82 14 = f82_19 := fld_of h82_31
  have hps_ : fld w 82 10 = 0 ∨ FA w ≠ 0 := hps
  refine xoI (xqc85 hI : cpI 7 52 4294967295 (wget w 85)) (fun g85_36 h85_37 hb38 => ?_)
  refine xoI (xqc86 hI : cpI 140 53 4294967295 (wget w 86)) (fun g86_39 h86_40 hb41 => ?_)
  refine xoI (xqc87 hI : cpI 20 54 4294967295 (wget w 87)) (fun g87_42 h87_43 hb44 => ?_)
  refine xg_t (xg_blq rfl) ?_
  refine xg_t (xg_aload (va := (2, 82)) rfl rfl) ?_
  refine xg_t (xg_getf (va := (2, 85)) h82_31 rfl) ?_
  refine xg_t (xg_iload (va := (0, 2)) rfl rfl) ?_
  refine xg_ialdB (n := 2) (B := 4294967295) h85_37 (hb38) xnm0 (by first | decide | omega) (fun u45 hu46 he47 => ?_)
  have hK48 : rwv w 85 2 = u45 := (rwv_of h85_37 (by decide)).trans he47
  have hm49 := hmb 2 (by decide)
  have hl50 : u45 ≤ 1000 := by omega
  refine xg_t (xg_istore (l1 := [(2, (0, at_)), (1, (0, 2)), (0, (2, 82))]) rfl rfl rfl) ?_
  refine xg_t (xg_iload (va := (0, u45)) rfl rfl) ?_
  refine xg_t (xg_iload (va := (0, 2)) rfl rfl) ?_
  refine xg_t (xg_cSr mX12_mostOf (vs := [(0, 2)]) (rest := [(0, u45)]) (rs := [(0, 6), (0, u45)]) (cn1 := 0) (sl1 := 0) rfl (mMostR2) rfl rfl rfl rfl rfl rfl rfl rfl) ?_
  by_cases hc51 : u45 < 6
  · refine xg_t (xg_icT (u := u45) (v := 6) rfl xnm0 xnm0 (xj_ltT hc51 (by omega))) ?_
    refine xg_t (xg_blq rfl) ?_
    refine xg_t (xg_aload (va := (2, 82)) rfl rfl) ?_
    refine xg_cVv mX12_advance (vs := []) (rest := []) (cn1 := 0) (sl1 := 0) rfl (mAdvance (hI)) rfl h82_31 rfl rfl rfl rfl rfl rfl (fun w52 hq53 => ?_)
    obtain ⟨hI54, hF55, hx56⟩ := hq53
    clear hb2 hb4 hb6 hb8 hb10 hb12 hb14 hb16 hb18 hb20 hb24 hb26 hb28 hb30
    obtain ⟨hv57, hv58, hv59, hv60⟩ := hx56
    have hf62 := FA_fr hF55 (by decide)
    have hs63 := (PK.rf hps).2.2.2.1
    unfold PS at hs63
    have pk61 : PK w w52 := ⟨fun _ => by omega, hv57, hv60, (show fld w52 82 10 = 0 ∨ FA w52 ≠ 0 by omega), K83.fr hF55 (by decide)⟩
    clear hs63
    have pk64 : PK w w52 := PK.tr (PK.rf hps) pk61
    have os65 : ∀ j, (j < 60 + 2 * u45 ∨ 62 + 2 * u45 ≤ j) → j < 140 → rwv w52 86 j = rwv w 86 j := fun j hj hl => (rwv_fr hF55 (by decide)).trans ((fun j _ _ => rfl) j hj hl)
    have mf66 : ∀ s, s < 7 → rwv w52 85 s = rwv w 85 s := fun s hs => (rwv_fr hF55 (by decide)).trans ((fun _ _ => rfl) s hs)
    have ms67 : mu w52 < mu w := Nat.lt_of_lt_of_le (hv58 (by omega)) (PK.rf hps).2.1
    clear hv58
    have jn68 : ∀ (w69 : List (List xE)), xMnv w69 → xFr [82, 83, 85, 86, 87] w w69 → (PK w w69 ∧ (∀ j, (j < 60 + 2 * u45 ∨ 62 + 2 * u45 ≤ j) → j < 140 → rwv w69 86 j = rwv w 86 j) ∧ mu w69 < mu w ∧ (∀ s, s < 7 → rwv w69 85 s = rwv w 85 s) ∧ (FA w69 ≠ 0 ∨ u45 < 6)) → xTo (d + 7) mX12_aLine (394, [], [(0, (2, 82)), (1, (0, 2)), (3, (0, u45))], [], (w69, bd, fc, 0, 0, rr)) (fun φ => ∃ w', xEnd 0 [] (w', bd, fc, 0, 0, rr) φ ∧ xMnv w' ∧ xFr [82, 83, 85, 86, 87] w w' ∧ ((FA w ≠ 0 → FA w' ≠ 0) ∧ PS w' ∧ ((fld w' 82 10 = 1 ∧ mu w' = mu w ∧ fld w' 82 14 = fld w 82 14 ∧ ∀ s, s < 7 → rwv w' 85 s = rwv w 85 s) ∨ (mu w' < mu w ∧ fld w' 82 14 = fld w 82 14 + 1 ∧ ∀ s, s < 7 → rwv w' 85 s ≤ rwv w 85 s + 1)) ∧ (FA w' ≠ 0 ∨ (DATA w → DATA w')) ∧ K83 w w')) := by
      intro w69 hI70 hF71 he72
      obtain ⟨hj73, hj74, hj75, hj76, hj77⟩ := he72
      refine xg_t (xg_blq rfl) ?_
      refine xg_t (xg_aload (va := (2, 82)) rfl rfl) ?_
      refine xoCh82 (xqc82 hI70 : cp82 (wget w69 82)) (fun f82_78 f82_80 f82_82 f82_84 f82_86 f82_88 f82_90 f82_92 f82_94 f82_96 f82_98 f82_99 f82_100 f82_102 f82_104 f82_106 h82_108 hb79 hb81 hb83 hb85 hb87 hb89 hb91 hb93 hb95 hb97 hb101 hb103 hb105 hb107 hb109 => ?_)
      refine xg_t (xg_getf (va := (0, f82_94)) h82_108 rfl) ?_
      by_cases hc110 : f82_94 = 0
      · refine xg_t (xg_ifF (u := f82_94) rfl xnm0 (xj_neF hc110)) ?_
        refine xg_t (xg_aload (va := (2, 82)) rfl rfl) ?_
        refine xg_t (xg_getf (va := (0, f82_88)) h82_108 rfl) ?_
        refine xg_t (xg_const) ?_
        by_cases hc111 : f82_88 = 2
        · refine xg_t (xg_icF (u := f82_88) (v := 2) rfl xnm0 xnm0 (xj_neF hc111)) ?_
          refine xg_t (xg_aload (va := (2, 82)) rfl rfl) ?_
          refine xg_cVv mX12_advance (vs := []) (rest := []) (cn1 := 0) (sl1 := 0) rfl (mAdvance (hI70)) rfl h82_108 rfl rfl rfl rfl rfl rfl (fun w112 hq113 => ?_)
          obtain ⟨hI114, hF115, hx116⟩ := hq113
          clear hb79 hb81 hb83 hb85 hb87 hb89 hb91 hb93 hb95 hb97 hb101 hb103 hb105 hb107
          obtain ⟨hv117, hv118, hv119, hv120⟩ := hx116
          have hf122 := FA_fr hF115 (by decide)
          have hs123 := hj73.2.2.2.1
          unfold PS at hs123
          have pk121 : PK w69 w112 := ⟨fun _ => by omega, hv117, hv120, (show fld w112 82 10 = 0 ∨ FA w112 ≠ 0 by omega), K83.fr hF115 (by decide)⟩
          clear hs123
          clear hv118
          have pk124 : PK w w112 := PK.tr hj73 pk121
          have os125 : ∀ j, (j < 60 + 2 * u45 ∨ 62 + 2 * u45 ≤ j) → j < 140 → rwv w112 86 j = rwv w 86 j := fun j hj hl => (rwv_fr hF115 (by decide)).trans (hj74 j hj hl)
          have rg126 : FA w112 ≠ 0 ∨ u45 < 6 := hj77.imp_left pk121.1
          have mf127 : ∀ s, s < 7 → rwv w112 85 s = rwv w 85 s := fun s hs => (rwv_fr hF115 (by decide)).trans (hj76 s hs)
          have ms128 : mu w112 < mu w := Nat.lt_of_le_of_lt pk121.2.1 hj75
          clear hj77
          refine xg_t (xg_goto) ?_
          refine xg_t (xg_blq rfl) ?_
          refine xoCh82 (xqc82 hI114 : cp82 (wget w112 82)) (fun f82_129 f82_131 f82_133 f82_135 f82_137 f82_139 f82_141 f82_143 f82_145 f82_147 f82_149 f82_150 f82_151 f82_153 f82_155 f82_157 h82_159 hb130 hb132 hb134 hb136 hb138 hb140 hb142 hb144 hb146 hb148 hb152 hb154 hb156 hb158 hb160 => ?_)
          have hf161 : fld w112 82 4 = f82_133 := fld_of h82_159
          have hf162 : fld w112 82 5 = f82_135 := fld_of h82_159
          have hf163 : fld w112 82 7 = f82_139 := fld_of h82_159
          have hf164 : fld w112 82 10 = f82_145 := fld_of h82_159
          have hf165 : fld w112 82 14 = f82_147 := fld_of h82_159
          have hu166 : mu w112 = 2 * (fld w112 82 4 - fld w112 82 5) + min 1 (fld w112 82 7) := rfl
          have hf167 := pk124.2.2.1
          have hl168 : f82_147 ≤ 1000 := by omega
          refine xg_t (xg_aload (va := (2, 82)) rfl rfl) ?_
          refine xg_t (xg_getf (va := (2, 85)) h82_159 rfl) ?_
          refine xg_t (xg_iload (va := (0, 2)) rfl rfl) ?_
          refine xg_t (xg_dup2 rfl) ?_
          refine xoI (xqc85 hI114 : cpI 7 52 4294967295 (wget w112 85)) (fun g85_169 h85_170 hb171 => ?_)
          refine xg_ialdB (n := 2) (B := 4294967295) h85_170 (hb171) xnm0 (by first | decide | omega) (fun u172 hu173 he174 => ?_)
          have hl175 : u172 = u45 := by have q1 := rwv_of h85_170 (show 2 < 7 by decide); have q2 := mf127 2 (by decide); omega
          refine xg_t (xg_const) ?_
          refine xg_t (xg_iadd (u := u172) (v := 1) (z := u172 + 1) xnm0 xnm0 (by omega)) ?_
          refine xg_iastK (n := 2) (u := u172 + 1) h85_170 xnm0 xnm0 rfl (by first | decide | omega) (fun w176 hr177 hb178 => ?_)
          refine xg_t (xg_aload (va := (2, 82)) rfl rfl) ?_
          refine xg_t (xg_dup rfl) ?_
          refine xg_t (xg_getf (va := (0, f82_147)) (hb178.get (by decide) h82_159) rfl) ?_
          have hn179 := id hb148
          unfold xHid at hn179
          refine xg_t (xg_const) ?_
          refine xg_t (xg_iadd (u := f82_147) (v := 1) (z := f82_147 + 1) xnm0 xnm0 (by omega)) ?_
          refine xg_putI (fl1 := [(2, 83), (2, 84), (0, f82_129), (0, f82_131), (0, f82_133), (0, f82_135), (0, f82_137), (0, f82_139), (0, f82_141), (0, f82_143), (0, f82_145), (2, 85), (2, 86), (2, 87), (0, f82_147 + 1), (2, 88), (2, 89), (2, 90), (2, 91), (2, 92), (2, 93), (2, 94), (4, f82_149), (4, f82_150), (0, f82_151), (2, 95), (2, 96), (2, 97), (2, 98), (2, 99), (2, 100), (2, 101), (2, 102), (0, f82_153), (2, 103), (2, 104), (2, 105), (2, 106), (2, 107), (2, 108), (2, 109), (0, f82_155), (0, f82_157), (2, 110), (2, 111), (2, 112), (2, 113)]) (hb178.get (by decide) h82_159) rfl rfl rfl (fun w180 hk181 hb182 => ?_)
          have hF183 : xFr [82, 85] w112 w180 := ((xFr.of (S := [82, 85]) hb178 (by decide)).tr (xFr.of (S := [82, 85]) hb182 (by decide)))
          have hA184 := FA_fr hF183 (by decide)
          have hf185 : fld w180 82 4 = f82_133 := fld_of hk181
          have hf186 : fld w180 82 5 = f82_135 := fld_of hk181
          have hf187 : fld w180 82 7 = f82_139 := fld_of hk181
          have hf188 : fld w180 82 10 = f82_145 := fld_of hk181
          have hf189 : fld w180 82 14 = f82_147 + 1 := fld_of hk181
          have hu190 : mu w180 = 2 * (fld w180 82 4 - fld w180 82 5) + min 1 (fld w180 82 7) := rfl
          have pq191 := pk124
          unfold PK PS at pq191
          have hM192 : ∀ s, s < 7 → s ≠ 2 → rwv w180 85 s = rwv w 85 s := fun s hs hn => (rwv_of (hr177.but hb182 (by decide)) hs).trans ((if_neg hn).trans ((rwv_of h85_170 hs).symm.trans (mf127 s hs)))
          have hM193 : rwv w180 85 2 = u45 + 1 := (rwv_of (hr177.but hb182 (by decide)) (by decide)).trans ((if_pos rfl).trans (by omega))
          have hM194 : ∀ s, s < 7 → rwv w180 85 s ≤ rwv w 85 s + 1 := fun s hs => by
            by_cases z : s = 2
            · subst z; omega
            · rw [hM192 s hs z]; omega
          have hO195 : ∀ j, (j < 60 + 2 * u45 ∨ 62 + 2 * u45 ≤ j) → j < 140 → rwv w180 86 j = rwv w 86 j := fun j hj hl => (rwv_fr hF183 (by decide)).trans (os125 j hj hl)
          have hl197 : FA w112 ≠ 0 ∨ u45 < 6 := rg126
          have hN196 : FA w180 ≠ 0 ∨ 6 ≤ u45 ∨ True := Or.inr (Or.inr trivial)
          have hX198 : FA w180 ≠ 0 ∨ u45 < 6 := by omega
          have hD199 : FA w180 ≠ 0 ∨ (DATA w → DATA w180) := by
            by_cases z : FA w180 ≠ 0
            · exact Or.inl z
            · exact Or.inr (fun hd => hd.s2 hM192 hK48 hM193 (hX198.resolve_left z) hO195 ((hN196.resolve_left z).resolve_left (by have := hX198.resolve_left z; omega)))
          exact xg_e ⟨w180, ⟨rfl, rfl⟩, xMnv.up (S := [85, 82]) hI114 ((xFr.of (S := [85, 82]) hb178 (by decide)).tr (xFr.of (S := [85, 82]) hb182 (by decide))) (List.forall_mem_cons.mpr ⟨xqu85 (show cpI 7 52 4294967295 (wget w180 85) from ⟨_, (hr177.but hb182 (by decide)), xrb (by omega) (hb171)⟩), List.forall_mem_cons.mpr ⟨xqu82 (show cp82 (wget w180 82) from xmC82 f82_129 f82_131 f82_133 f82_135 f82_137 f82_139 f82_141 f82_143 f82_145 (f82_147 + 1) f82_149 f82_150 f82_151 f82_153 f82_155 f82_157 hk181 hb130 hb132 hb134 hb136 hb138 hb140 hb142 hb144 hb146 (by omega) hb152 hb154 hb156 hb158 (by omega)), fun _ h => absurd h List.not_mem_nil⟩⟩), ((hF71.tr (hF115.up (by decide))).tr ((xFr.of (S := [82, 83, 85, 86, 87]) hb178 (by decide)).tr (xFr.of (S := [82, 83, 85, 86, 87]) hb182 (by decide)))), ⟨fun h => by have := pq191.1 h; omega, (show fld w180 82 10 = 0 ∨ FA w180 ≠ 0 by omega), Or.inr ⟨by have := ms128; omega, by omega, hM194⟩, hD199, pk124.2.2.2.2.tr (K83.fr hF183 (by decide))⟩⟩
        · refine xg_t (xg_icT (u := f82_88) (v := 2) rfl xnm0 xnm0 (xj_neT hc111)) ?_
          refine xg_t (xg_blq rfl) ?_
          refine xg_t (xg_aload (va := (2, 82)) rfl rfl) ?_
          refine xg_cVv mX12_ends (vs := []) (rest := []) (cn1 := 0) (sl1 := 0) rfl (mEnds (hI70) hj73.2.2.2.1) rfl h82_108 rfl rfl rfl rfl rfl rfl (fun w200 hq201 => ?_)
          obtain ⟨hI202, hF203, hx204⟩ := hq201
          clear hb79 hb81 hb83 hb85 hb87 hb89 hb91 hb93 hb95 hb97 hb101 hb103 hb105 hb107
          obtain ⟨hv205, hv206, hv207, hv208, hv209⟩ := hx204
          have pk210 : PK w69 w200 := ⟨fun _ => hv205, by omega, by omega, Or.inr hv205, hv209⟩
          have pk211 : PK w w200 := PK.tr hj73 pk210
          have os212 : ∀ j, (j < 60 + 2 * u45 ∨ 62 + 2 * u45 ≤ j) → j < 140 → rwv w200 86 j = rwv w 86 j := fun j hj hl => (rwv_fr hF203 (by decide)).trans (hj74 j hj hl)
          have rg213 : FA w200 ≠ 0 ∨ u45 < 6 := hj77.imp_left pk210.1
          have mf214 : ∀ s, s < 7 → rwv w200 85 s = rwv w 85 s := fun s hs => (rwv_fr hF203 (by decide)).trans (hj76 s hs)
          have ms215 : mu w200 < mu w := Nat.lt_of_le_of_lt pk210.2.1 hj75
          clear hj77
          refine xg_t (xg_blq rfl) ?_
          refine xoCh82 (xqc82 hI202 : cp82 (wget w200 82)) (fun f82_216 f82_218 f82_220 f82_222 f82_224 f82_226 f82_228 f82_230 f82_232 f82_234 f82_236 f82_237 f82_238 f82_240 f82_242 f82_244 h82_246 hb217 hb219 hb221 hb223 hb225 hb227 hb229 hb231 hb233 hb235 hb239 hb241 hb243 hb245 hb247 => ?_)
          have hf248 : fld w200 82 4 = f82_220 := fld_of h82_246
          have hf249 : fld w200 82 5 = f82_222 := fld_of h82_246
          have hf250 : fld w200 82 7 = f82_226 := fld_of h82_246
          have hf251 : fld w200 82 10 = f82_232 := fld_of h82_246
          have hf252 : fld w200 82 14 = f82_234 := fld_of h82_246
          have hu253 : mu w200 = 2 * (fld w200 82 4 - fld w200 82 5) + min 1 (fld w200 82 7) := rfl
          have hf254 := pk211.2.2.1
          have hl255 : f82_234 ≤ 1000 := by omega
          refine xg_t (xg_aload (va := (2, 82)) rfl rfl) ?_
          refine xg_t (xg_getf (va := (2, 85)) h82_246 rfl) ?_
          refine xg_t (xg_iload (va := (0, 2)) rfl rfl) ?_
          refine xg_t (xg_dup2 rfl) ?_
          refine xoI (xqc85 hI202 : cpI 7 52 4294967295 (wget w200 85)) (fun g85_256 h85_257 hb258 => ?_)
          refine xg_ialdB (n := 2) (B := 4294967295) h85_257 (hb258) xnm0 (by first | decide | omega) (fun u259 hu260 he261 => ?_)
          have hl262 : u259 = u45 := by have q1 := rwv_of h85_257 (show 2 < 7 by decide); have q2 := mf214 2 (by decide); omega
          refine xg_t (xg_const) ?_
          refine xg_t (xg_iadd (u := u259) (v := 1) (z := u259 + 1) xnm0 xnm0 (by omega)) ?_
          refine xg_iastK (n := 2) (u := u259 + 1) h85_257 xnm0 xnm0 rfl (by first | decide | omega) (fun w263 hr264 hb265 => ?_)
          refine xg_t (xg_aload (va := (2, 82)) rfl rfl) ?_
          refine xg_t (xg_dup rfl) ?_
          refine xg_t (xg_getf (va := (0, f82_234)) (hb265.get (by decide) h82_246) rfl) ?_
          have hn266 := id hb235
          unfold xHid at hn266
          refine xg_t (xg_const) ?_
          refine xg_t (xg_iadd (u := f82_234) (v := 1) (z := f82_234 + 1) xnm0 xnm0 (by omega)) ?_
          refine xg_putI (fl1 := [(2, 83), (2, 84), (0, f82_216), (0, f82_218), (0, f82_220), (0, f82_222), (0, f82_224), (0, f82_226), (0, f82_228), (0, f82_230), (0, f82_232), (2, 85), (2, 86), (2, 87), (0, f82_234 + 1), (2, 88), (2, 89), (2, 90), (2, 91), (2, 92), (2, 93), (2, 94), (4, f82_236), (4, f82_237), (0, f82_238), (2, 95), (2, 96), (2, 97), (2, 98), (2, 99), (2, 100), (2, 101), (2, 102), (0, f82_240), (2, 103), (2, 104), (2, 105), (2, 106), (2, 107), (2, 108), (2, 109), (0, f82_242), (0, f82_244), (2, 110), (2, 111), (2, 112), (2, 113)]) (hb265.get (by decide) h82_246) rfl rfl rfl (fun w267 hk268 hb269 => ?_)
          have hF270 : xFr [82, 85] w200 w267 := ((xFr.of (S := [82, 85]) hb265 (by decide)).tr (xFr.of (S := [82, 85]) hb269 (by decide)))
          have hA271 := FA_fr hF270 (by decide)
          have hf272 : fld w267 82 4 = f82_220 := fld_of hk268
          have hf273 : fld w267 82 5 = f82_222 := fld_of hk268
          have hf274 : fld w267 82 7 = f82_226 := fld_of hk268
          have hf275 : fld w267 82 10 = f82_232 := fld_of hk268
          have hf276 : fld w267 82 14 = f82_234 + 1 := fld_of hk268
          have hu277 : mu w267 = 2 * (fld w267 82 4 - fld w267 82 5) + min 1 (fld w267 82 7) := rfl
          have pq278 := pk211
          unfold PK PS at pq278
          have hM279 : ∀ s, s < 7 → s ≠ 2 → rwv w267 85 s = rwv w 85 s := fun s hs hn => (rwv_of (hr264.but hb269 (by decide)) hs).trans ((if_neg hn).trans ((rwv_of h85_257 hs).symm.trans (mf214 s hs)))
          have hM280 : rwv w267 85 2 = u45 + 1 := (rwv_of (hr264.but hb269 (by decide)) (by decide)).trans ((if_pos rfl).trans (by omega))
          have hM281 : ∀ s, s < 7 → rwv w267 85 s ≤ rwv w 85 s + 1 := fun s hs => by
            by_cases z : s = 2
            · subst z; omega
            · rw [hM279 s hs z]; omega
          have hO282 : ∀ j, (j < 60 + 2 * u45 ∨ 62 + 2 * u45 ≤ j) → j < 140 → rwv w267 86 j = rwv w 86 j := fun j hj hl => (rwv_fr hF270 (by decide)).trans (os212 j hj hl)
          have hl284 : FA w200 ≠ 0 ∨ u45 < 6 := rg213
          have hN283 : FA w267 ≠ 0 ∨ 6 ≤ u45 ∨ True := Or.inr (Or.inr trivial)
          have hX285 : FA w267 ≠ 0 ∨ u45 < 6 := by omega
          have hD286 : FA w267 ≠ 0 ∨ (DATA w → DATA w267) := by
            by_cases z : FA w267 ≠ 0
            · exact Or.inl z
            · exact Or.inr (fun hd => hd.s2 hM279 hK48 hM280 (hX285.resolve_left z) hO282 ((hN283.resolve_left z).resolve_left (by have := hX285.resolve_left z; omega)))
          exact xg_e ⟨w267, ⟨rfl, rfl⟩, xMnv.up (S := [85, 82]) hI202 ((xFr.of (S := [85, 82]) hb265 (by decide)).tr (xFr.of (S := [85, 82]) hb269 (by decide))) (List.forall_mem_cons.mpr ⟨xqu85 (show cpI 7 52 4294967295 (wget w267 85) from ⟨_, (hr264.but hb269 (by decide)), xrb (by omega) (hb258)⟩), List.forall_mem_cons.mpr ⟨xqu82 (show cp82 (wget w267 82) from xmC82 f82_216 f82_218 f82_220 f82_222 f82_224 f82_226 f82_228 f82_230 f82_232 (f82_234 + 1) f82_236 f82_237 f82_238 f82_240 f82_242 f82_244 hk268 hb217 hb219 hb221 hb223 hb225 hb227 hb229 hb231 hb233 (by omega) hb239 hb241 hb243 hb245 (by omega)), fun _ h => absurd h List.not_mem_nil⟩⟩), ((hF71.tr (hF203.up (by decide))).tr ((xFr.of (S := [82, 83, 85, 86, 87]) hb265 (by decide)).tr (xFr.of (S := [82, 83, 85, 86, 87]) hb269 (by decide)))), ⟨fun h => by have := pq278.1 h; omega, (show fld w267 82 10 = 0 ∨ FA w267 ≠ 0 by omega), Or.inr ⟨by have := ms215; omega, by omega, hM281⟩, hD286, pk211.2.2.2.2.tr (K83.fr hF270 (by decide))⟩⟩
      · refine xg_t (xg_ifT (u := f82_94) rfl xnm0 (xj_neT hc110)) ?_
        refine xg_t (xg_blq rfl) ?_
        refine xg_t (xg_aload (va := (2, 82)) rfl rfl) ?_
        refine xg_cVv mX12_ends (vs := []) (rest := []) (cn1 := 0) (sl1 := 0) rfl (mEnds (hI70) hj73.2.2.2.1) rfl h82_108 rfl rfl rfl rfl rfl rfl (fun w287 hq288 => ?_)
        obtain ⟨hI289, hF290, hx291⟩ := hq288
        clear hb79 hb81 hb83 hb85 hb87 hb89 hb91 hb93 hb95 hb97 hb101 hb103 hb105 hb107
        obtain ⟨hv292, hv293, hv294, hv295, hv296⟩ := hx291
        have pk297 : PK w69 w287 := ⟨fun _ => hv292, by omega, by omega, Or.inr hv292, hv296⟩
        have pk298 : PK w w287 := PK.tr hj73 pk297
        have os299 : ∀ j, (j < 60 + 2 * u45 ∨ 62 + 2 * u45 ≤ j) → j < 140 → rwv w287 86 j = rwv w 86 j := fun j hj hl => (rwv_fr hF290 (by decide)).trans (hj74 j hj hl)
        have rg300 : FA w287 ≠ 0 ∨ u45 < 6 := hj77.imp_left pk297.1
        have mf301 : ∀ s, s < 7 → rwv w287 85 s = rwv w 85 s := fun s hs => (rwv_fr hF290 (by decide)).trans (hj76 s hs)
        have ms302 : mu w287 < mu w := Nat.lt_of_le_of_lt pk297.2.1 hj75
        clear hj77
        refine xg_t (xg_blq rfl) ?_
        refine xoCh82 (xqc82 hI289 : cp82 (wget w287 82)) (fun f82_303 f82_305 f82_307 f82_309 f82_311 f82_313 f82_315 f82_317 f82_319 f82_321 f82_323 f82_324 f82_325 f82_327 f82_329 f82_331 h82_333 hb304 hb306 hb308 hb310 hb312 hb314 hb316 hb318 hb320 hb322 hb326 hb328 hb330 hb332 hb334 => ?_)
        have hf335 : fld w287 82 4 = f82_307 := fld_of h82_333
        have hf336 : fld w287 82 5 = f82_309 := fld_of h82_333
        have hf337 : fld w287 82 7 = f82_313 := fld_of h82_333
        have hf338 : fld w287 82 10 = f82_319 := fld_of h82_333
        have hf339 : fld w287 82 14 = f82_321 := fld_of h82_333
        have hu340 : mu w287 = 2 * (fld w287 82 4 - fld w287 82 5) + min 1 (fld w287 82 7) := rfl
        have hf341 := pk298.2.2.1
        have hl342 : f82_321 ≤ 1000 := by omega
        refine xg_t (xg_aload (va := (2, 82)) rfl rfl) ?_
        refine xg_t (xg_getf (va := (2, 85)) h82_333 rfl) ?_
        refine xg_t (xg_iload (va := (0, 2)) rfl rfl) ?_
        refine xg_t (xg_dup2 rfl) ?_
        refine xoI (xqc85 hI289 : cpI 7 52 4294967295 (wget w287 85)) (fun g85_343 h85_344 hb345 => ?_)
        refine xg_ialdB (n := 2) (B := 4294967295) h85_344 (hb345) xnm0 (by first | decide | omega) (fun u346 hu347 he348 => ?_)
        have hl349 : u346 = u45 := by have q1 := rwv_of h85_344 (show 2 < 7 by decide); have q2 := mf301 2 (by decide); omega
        refine xg_t (xg_const) ?_
        refine xg_t (xg_iadd (u := u346) (v := 1) (z := u346 + 1) xnm0 xnm0 (by omega)) ?_
        refine xg_iastK (n := 2) (u := u346 + 1) h85_344 xnm0 xnm0 rfl (by first | decide | omega) (fun w350 hr351 hb352 => ?_)
        refine xg_t (xg_aload (va := (2, 82)) rfl rfl) ?_
        refine xg_t (xg_dup rfl) ?_
        refine xg_t (xg_getf (va := (0, f82_321)) (hb352.get (by decide) h82_333) rfl) ?_
        have hn353 := id hb322
        unfold xHid at hn353
        refine xg_t (xg_const) ?_
        refine xg_t (xg_iadd (u := f82_321) (v := 1) (z := f82_321 + 1) xnm0 xnm0 (by omega)) ?_
        refine xg_putI (fl1 := [(2, 83), (2, 84), (0, f82_303), (0, f82_305), (0, f82_307), (0, f82_309), (0, f82_311), (0, f82_313), (0, f82_315), (0, f82_317), (0, f82_319), (2, 85), (2, 86), (2, 87), (0, f82_321 + 1), (2, 88), (2, 89), (2, 90), (2, 91), (2, 92), (2, 93), (2, 94), (4, f82_323), (4, f82_324), (0, f82_325), (2, 95), (2, 96), (2, 97), (2, 98), (2, 99), (2, 100), (2, 101), (2, 102), (0, f82_327), (2, 103), (2, 104), (2, 105), (2, 106), (2, 107), (2, 108), (2, 109), (0, f82_329), (0, f82_331), (2, 110), (2, 111), (2, 112), (2, 113)]) (hb352.get (by decide) h82_333) rfl rfl rfl (fun w354 hk355 hb356 => ?_)
        have hF357 : xFr [82, 85] w287 w354 := ((xFr.of (S := [82, 85]) hb352 (by decide)).tr (xFr.of (S := [82, 85]) hb356 (by decide)))
        have hA358 := FA_fr hF357 (by decide)
        have hf359 : fld w354 82 4 = f82_307 := fld_of hk355
        have hf360 : fld w354 82 5 = f82_309 := fld_of hk355
        have hf361 : fld w354 82 7 = f82_313 := fld_of hk355
        have hf362 : fld w354 82 10 = f82_319 := fld_of hk355
        have hf363 : fld w354 82 14 = f82_321 + 1 := fld_of hk355
        have hu364 : mu w354 = 2 * (fld w354 82 4 - fld w354 82 5) + min 1 (fld w354 82 7) := rfl
        have pq365 := pk298
        unfold PK PS at pq365
        have hM366 : ∀ s, s < 7 → s ≠ 2 → rwv w354 85 s = rwv w 85 s := fun s hs hn => (rwv_of (hr351.but hb356 (by decide)) hs).trans ((if_neg hn).trans ((rwv_of h85_344 hs).symm.trans (mf301 s hs)))
        have hM367 : rwv w354 85 2 = u45 + 1 := (rwv_of (hr351.but hb356 (by decide)) (by decide)).trans ((if_pos rfl).trans (by omega))
        have hM368 : ∀ s, s < 7 → rwv w354 85 s ≤ rwv w 85 s + 1 := fun s hs => by
          by_cases z : s = 2
          · subst z; omega
          · rw [hM366 s hs z]; omega
        have hO369 : ∀ j, (j < 60 + 2 * u45 ∨ 62 + 2 * u45 ≤ j) → j < 140 → rwv w354 86 j = rwv w 86 j := fun j hj hl => (rwv_fr hF357 (by decide)).trans (os299 j hj hl)
        have hl371 : FA w287 ≠ 0 ∨ u45 < 6 := rg300
        have hN370 : FA w354 ≠ 0 ∨ 6 ≤ u45 ∨ True := Or.inr (Or.inr trivial)
        have hX372 : FA w354 ≠ 0 ∨ u45 < 6 := by omega
        have hD373 : FA w354 ≠ 0 ∨ (DATA w → DATA w354) := by
          by_cases z : FA w354 ≠ 0
          · exact Or.inl z
          · exact Or.inr (fun hd => hd.s2 hM366 hK48 hM367 (hX372.resolve_left z) hO369 ((hN370.resolve_left z).resolve_left (by have := hX372.resolve_left z; omega)))
        exact xg_e ⟨w354, ⟨rfl, rfl⟩, xMnv.up (S := [85, 82]) hI289 ((xFr.of (S := [85, 82]) hb352 (by decide)).tr (xFr.of (S := [85, 82]) hb356 (by decide))) (List.forall_mem_cons.mpr ⟨xqu85 (show cpI 7 52 4294967295 (wget w354 85) from ⟨_, (hr351.but hb356 (by decide)), xrb (by omega) (hb345)⟩), List.forall_mem_cons.mpr ⟨xqu82 (show cp82 (wget w354 82) from xmC82 f82_303 f82_305 f82_307 f82_309 f82_311 f82_313 f82_315 f82_317 f82_319 (f82_321 + 1) f82_323 f82_324 f82_325 f82_327 f82_329 f82_331 hk355 hb304 hb306 hb308 hb310 hb312 hb314 hb316 hb318 hb320 (by omega) hb326 hb328 hb330 hb332 (by omega)), fun _ h => absurd h List.not_mem_nil⟩⟩), ((hF71.tr (hF290.up (by decide))).tr ((xFr.of (S := [82, 83, 85, 86, 87]) hb352 (by decide)).tr (xFr.of (S := [82, 83, 85, 86, 87]) hb356 (by decide)))), ⟨fun h => by have := pq365.1 h; omega, (show fld w354 82 10 = 0 ∨ FA w354 ≠ 0 by omega), Or.inr ⟨by have := ms302; omega, by omega, hM368⟩, hD373, pk298.2.2.2.2.tr (K83.fr hF357 (by decide))⟩⟩
    refine xg_t (xg_iload (va := (0, 2)) rfl rfl) ?_
    refine xg_t (xg_swt (ks := [(0, 108), (1, 116), (2, 180), (3, 221), (4, 273), (5, 326)]) (u := 2) (z := 180) rfl rfl rfl xnm0 (xsw_n (by omega) (xsw_n (by omega) (xsw_y rfl)))) ?_
    refine xg_t (xg_blq rfl) ?_
    refine xg_t (xg_const) ?_
    refine xg_t (xg_istore (l1 := [(3, (0, u45)), (2, (0, at_)), (1, (0, 2)), (0, (2, 82))]) rfl rfl rfl) ?_
    refine xg_t (xg_blq rfl) ?_
    refine xg_t (xg_iload (va := (0, 0)) rfl rfl) ?_
    refine xg_t (xg_const) ?_
    refine xg_t (xg_icF (u := 0) (v := 2) rfl xnm0 xnm0 (by decide)) ?_
    refine xg_t (xg_aload (va := (2, 82)) rfl rfl) ?_
    refine xg_t (xg_iload (va := (0, 2)) rfl rfl) ?_
    refine xg_t (xg_iload (va := (0, u45)) rfl rfl) ?_
    refine xg_t (xg_bip) ?_
    refine xg_t (xg_const) ?_
    refine xg_t (xg_iload (va := (0, u45)) rfl rfl) ?_
    refine xg_t (xg_imul (u := 2) (v := u45) (z := 2 * u45) xnm0 xnm0 (by omega)) ?_
    refine xg_t (xg_iadd (u := 60) (v := 2 * u45) (z := 60 + (2 * u45)) xnm0 xnm0 (by omega)) ?_
    refine xg_t (xg_iload (va := (0, 0)) rfl rfl) ?_
    refine xg_t (xg_iadd (u := 60 + (2 * u45)) (v := 0) (z := (60 + (2 * u45)) + 0) xnm0 xnm0 (by omega)) ?_
    refine xg_t (xg_aload (va := (2, 82)) rfl rfl) ?_
    refine xg_t (xg_const) ?_
    refine xg_t (xg_sip) ?_
    refine xoCh82 (xqc82 hI54 : cp82 (wget w52 82)) (fun f82_374 f82_376 f82_378 f82_380 f82_382 f82_384 f82_386 f82_388 f82_390 f82_392 f82_394 f82_395 f82_396 f82_398 f82_400 f82_402 h82_404 hb375 hb377 hb379 hb381 hb383 hb385 hb387 hb389 hb391 hb393 hb397 hb399 hb401 hb403 hb405 => ?_)
    refine xg_cVi mX12_numbered (vs := [(0, 1), (0, 9999)]) (rest := [(0, (60 + (2 * u45)) + 0), (0, u45), (0, 2), (2, 82)]) (cn1 := 0) (sl1 := 0) rfl (mNumbered (hI54) (by omega) (by omega) pk64.2.2.2.1) rfl h82_404 rfl rfl rfl rfl rfl rfl (fun n410 w406 hq407 => ?_)
    obtain ⟨hn411, hI408, hF409⟩ := hq407
    clear hb375 hb377 hb379 hb381 hb383 hb385 hb387 hb389 hb391 hb393 hb397 hb399 hb401 hb403
    obtain ⟨hn412, hn413, hn414⟩ := hn411
    have pk415 : PK w w406 := PK.tr pk64 hn413
    have os416 : ∀ j, (j < 60 + 2 * u45 ∨ 62 + 2 * u45 ≤ j) → j < 140 → rwv w406 86 j = rwv w 86 j := fun j hj hl => (rwv_fr hF409 (by decide)).trans (os65 j hj hl)
    have mf417 : ∀ s, s < 7 → rwv w406 85 s = rwv w 85 s := fun s hs => (rwv_fr hF409 (by decide)).trans (mf66 s hs)
    have ms418 : mu w406 < mu w := Nat.lt_of_le_of_lt hn413.2.1 ms67
    refine xoCh82 (xqc82 hI408 : cp82 (wget w406 82)) (fun f82_419 f82_421 f82_423 f82_425 f82_427 f82_429 f82_431 f82_433 f82_435 f82_437 f82_439 f82_440 f82_441 f82_443 f82_445 f82_447 h82_449 hb420 hb422 hb424 hb426 hb428 hb430 hb432 hb434 hb436 hb438 hb442 hb444 hb446 hb448 hb450 => ?_)
    refine xg_cVv mX12_puts (vs := [(0, 2), (0, u45), (0, (60 + (2 * u45)) + 0), (0, n410)]) (rest := []) (cn1 := 0) (sl1 := 0) rfl (mPuts2 (hI408) (by omega) (by omega) (by omega) (fun _ => by omega)) rfl h82_449 rfl rfl rfl rfl rfl rfl (fun w451 hq452 => ?_)
    obtain ⟨hI453, hF454, hx455⟩ := hq452
    obtain ⟨hp456, hp457⟩ := hx455
    have pk458 : PK w w451 := PK.tr pk415 (PK.fr hF454 (by decide) (by decide) pk415.2.2.2.1)
    have os459 : ∀ j, (j < 60 + 2 * u45 ∨ 62 + 2 * u45 ≤ j) → j < 140 → rwv w451 86 j = rwv w 86 j := fun j hj hl => (hp457 j (by omega) hl).trans (os416 j hj hl)
    have rg460 : FA w451 ≠ 0 ∨ (1 ≤ n410 ∧ n410 ≤ 9999) := hn414.imp_left (PK.fr hF454 (by decide) (by decide) pk415.2.2.2.1).1
    have mf461 : ∀ s, s < 7 → rwv w451 85 s = rwv w 85 s := fun s hs => (rwv_fr hF454 (by decide)).trans (mf417 s hs)
    have ms462 : mu w451 < mu w := Nat.lt_of_le_of_lt (PK.fr hF454 (by decide) (by decide) pk415.2.2.2.1).2.1 ms418
    clear hn414
    refine xg_t (xg_iinc (u := 0) (z := 1) (l1 := [(3, (0, u45)), (2, (0, at_)), (1, (0, 2)), (0, (2, 82))]) rfl rfl (by decide) rfl) ?_
    refine xg_t (xg_goto) ?_
    refine xg_t (xg_blq rfl) ?_
    refine xg_t (xg_iload (va := (0, 1)) rfl rfl) ?_
    refine xg_t (xg_const) ?_
    refine xg_t (xg_icF (u := 1) (v := 2) rfl xnm0 xnm0 (by decide)) ?_
    refine xg_t (xg_aload (va := (2, 82)) rfl rfl) ?_
    refine xg_t (xg_iload (va := (0, 2)) rfl rfl) ?_
    refine xg_t (xg_iload (va := (0, u45)) rfl rfl) ?_
    refine xg_t (xg_bip) ?_
    refine xg_t (xg_const) ?_
    refine xg_t (xg_iload (va := (0, u45)) rfl rfl) ?_
    refine xg_t (xg_imul (u := 2) (v := u45) (z := 2 * u45) xnm0 xnm0 (by omega)) ?_
    refine xg_t (xg_iadd (u := 60) (v := 2 * u45) (z := 60 + (2 * u45)) xnm0 xnm0 (by omega)) ?_
    refine xg_t (xg_iload (va := (0, 1)) rfl rfl) ?_
    refine xg_t (xg_iadd (u := 60 + (2 * u45)) (v := 1) (z := (60 + (2 * u45)) + 1) xnm0 xnm0 (by omega)) ?_
    refine xg_t (xg_aload (va := (2, 82)) rfl rfl) ?_
    refine xg_t (xg_const) ?_
    refine xg_t (xg_sip) ?_
    refine xg_cVi mX12_numbered (vs := [(0, 1), (0, 9999)]) (rest := [(0, (60 + (2 * u45)) + 1), (0, u45), (0, 2), (2, 82)]) (cn1 := 0) (sl1 := 0) rfl (mNumbered (hI453) (by omega) (by omega) pk458.2.2.2.1) rfl (hF454.get (by decide) h82_449) rfl rfl rfl rfl rfl rfl (fun n467 w463 hq464 => ?_)
    obtain ⟨hn468, hI465, hF466⟩ := hq464
    clear hb420 hb422 hb424 hb426 hb428 hb430 hb432 hb434 hb436 hb438 hb442 hb444 hb446 hb448
    obtain ⟨hn469, hn470, hn471⟩ := hn468
    have pk472 : PK w w463 := PK.tr pk458 hn470
    have os473 : ∀ j, (j < 60 + 2 * u45 ∨ 62 + 2 * u45 ≤ j) → j < 140 → rwv w463 86 j = rwv w 86 j := fun j hj hl => (rwv_fr hF466 (by decide)).trans (os459 j hj hl)
    have ix474 : u45 < 6 → rwv w463 86 ((60 + (2 * u45)) + 0) = n410 := fun h => (rwv_fr hF466 (by decide)).trans (hp456 h)
    have rg475 : FA w463 ≠ 0 ∨ (1 ≤ n410 ∧ n410 ≤ 9999) := rg460.imp_left hn470.1
    have mf476 : ∀ s, s < 7 → rwv w463 85 s = rwv w 85 s := fun s hs => (rwv_fr hF466 (by decide)).trans (mf461 s hs)
    have ms477 : mu w463 < mu w := Nat.lt_of_le_of_lt hn470.2.1 ms462
    clear hp456 rg460
    refine xoCh82 (xqc82 hI465 : cp82 (wget w463 82)) (fun f82_478 f82_480 f82_482 f82_484 f82_486 f82_488 f82_490 f82_492 f82_494 f82_496 f82_498 f82_499 f82_500 f82_502 f82_504 f82_506 h82_508 hb479 hb481 hb483 hb485 hb487 hb489 hb491 hb493 hb495 hb497 hb501 hb503 hb505 hb507 hb509 => ?_)
    refine xg_cVv mX12_puts (vs := [(0, 2), (0, u45), (0, (60 + (2 * u45)) + 1), (0, n467)]) (rest := []) (cn1 := 0) (sl1 := 0) rfl (mPuts2 (hI465) (by omega) (by omega) (by omega) (fun _ => by omega)) rfl h82_508 rfl rfl rfl rfl rfl rfl (fun w510 hq511 => ?_)
    obtain ⟨hI512, hF513, hx514⟩ := hq511
    obtain ⟨hp515, hp516⟩ := hx514
    have pk517 : PK w w510 := PK.tr pk472 (PK.fr hF513 (by decide) (by decide) pk472.2.2.2.1)
    have os518 : ∀ j, (j < 60 + 2 * u45 ∨ 62 + 2 * u45 ≤ j) → j < 140 → rwv w510 86 j = rwv w 86 j := fun j hj hl => (hp516 j (by omega) hl).trans (os473 j hj hl)
    have ix519 : u45 < 6 → rwv w510 86 ((60 + (2 * u45)) + 0) = n410 := fun h => (hp516 _ (by omega) (by omega)).trans (ix474 h)
    have rg520 : FA w510 ≠ 0 ∨ (1 ≤ n410 ∧ n410 ≤ 9999) := rg475.imp_left (PK.fr hF513 (by decide) (by decide) pk472.2.2.2.1).1
    have rg521 : FA w510 ≠ 0 ∨ (1 ≤ n467 ∧ n467 ≤ 9999) := hn471.imp_left (PK.fr hF513 (by decide) (by decide) pk472.2.2.2.1).1
    have mf522 : ∀ s, s < 7 → rwv w510 85 s = rwv w 85 s := fun s hs => (rwv_fr hF513 (by decide)).trans (mf476 s hs)
    have ms523 : mu w510 < mu w := Nat.lt_of_le_of_lt (PK.fr hF513 (by decide) (by decide) pk472.2.2.2.1).2.1 ms477
    clear ix474 rg475 hn471
    refine xg_t (xg_iinc (u := 1) (z := 2) (l1 := [(3, (0, u45)), (2, (0, at_)), (1, (0, 2)), (0, (2, 82))]) rfl rfl (by decide) rfl) ?_
    refine xg_t (xg_goto) ?_
    refine xg_t (xg_blq rfl) ?_
    refine xg_t (xg_iload (va := (0, 2)) rfl rfl) ?_
    refine xg_t (xg_const) ?_
    refine xg_t (xg_icT (u := 2) (v := 2) rfl xnm0 xnm0 (by decide)) ?_
    refine xg_t (xg_blq rfl) ?_
    refine xg_t (xg_goto) ?_
    refine xg_t (xg_drop (l1 := [(0, (2, 82)), (1, (0, 2)), (3, (0, u45))]) (List.forall_mem_cons.mpr ⟨List.mem_cons_of_mem _ (List.mem_cons_of_mem _ (List.mem_cons_of_mem _ (List.mem_cons_of_mem _ (List.mem_cons_self)))), List.forall_mem_cons.mpr ⟨List.mem_cons_of_mem _ (List.mem_cons_of_mem _ (List.mem_cons_of_mem _ (List.mem_cons_self))), List.forall_mem_cons.mpr ⟨List.mem_cons_of_mem _ (List.mem_cons_self), fun _ h => absurd h List.not_mem_nil⟩⟩⟩)) ?_
    have hX524 : FA w510 ≠ 0 ∨ u45 < 6 := Or.inr (by omega)
    exact jn68 w510 (hI512) ((((((hF55.up (by decide)).tr (hF409.up (by decide))).tr (hF454.up (by decide))).tr (hF466.up (by decide))).tr (hF513.up (by decide)))) (⟨pk517, os518, ms523, mf522, hX524⟩)
  · refine xg_t (xg_icF (u := u45) (v := 6) rfl xnm0 xnm0 (xj_ltF (by omega) (by omega))) ?_
    refine xg_t (xg_aload (va := (2, 82)) rfl rfl) ?_
    refine xg_t (xg_const) ?_
    refine xg_t (xg_iload (va := (0, at_)) rfl rfl) ?_
    refine xg_cVv mX12_also (vs := [(0, 3), (0, at_)]) (rest := []) (cn1 := 0) (sl1 := 0) rfl (mAlso (hI) (by omega) (by omega) (by omega) (PK.rf hps).2.2.2.1) rfl h82_31 rfl rfl rfl rfl rfl rfl (fun w525 hq526 => ?_)
    obtain ⟨hI527, hF528, hx529⟩ := hq526
    obtain ⟨hv531, hv532⟩ := hx529
    have pk530 : PK w w525 := ⟨fun _ => hv531, Nat.le_of_eq (mu_fr hF528 (by decide)), fld_fr hF528 (by decide), Or.inr hv531, hv532⟩
    have pk533 : PK w w525 := PK.tr (PK.rf hps) pk530
    have os534 : ∀ j, (j < 60 + 2 * u45 ∨ 62 + 2 * u45 ≤ j) → j < 140 → rwv w525 86 j = rwv w 86 j := fun j hj hl => (rwv_fr hF528 (by decide)).trans ((fun j _ _ => rfl) j hj hl)
    have mf535 : ∀ s, s < 7 → rwv w525 85 s = rwv w 85 s := fun s hs => (rwv_fr hF528 (by decide)).trans ((fun _ _ => rfl) s hs)
    have hf536 := fld_fr (c := 82) (j := 7) hF528 (by decide)
    refine xg_t (xg_blq rfl) ?_
    refine xg_t (xg_aload (va := (2, 82)) rfl rfl) ?_
    refine xg_cVv mX12_advance (vs := []) (rest := []) (cn1 := 0) (sl1 := 0) rfl (mAdvance (hI527)) rfl (hF528.get (by decide) h82_31) rfl rfl rfl rfl rfl rfl (fun w537 hq538 => ?_)
    obtain ⟨hI539, hF540, hx541⟩ := hq538
    clear hb2 hb4 hb6 hb8 hb10 hb12 hb14 hb16 hb18 hb20 hb24 hb26 hb28 hb30
    obtain ⟨hv542, hv543, hv544, hv545⟩ := hx541
    have hf547 := FA_fr hF540 (by decide)
    have hs548 := pk533.2.2.2.1
    unfold PS at hs548
    have pk546 : PK w525 w537 := ⟨fun _ => by omega, hv542, hv545, (show fld w537 82 10 = 0 ∨ FA w537 ≠ 0 by omega), K83.fr hF540 (by decide)⟩
    clear hs548
    have pk549 : PK w w537 := PK.tr pk533 pk546
    have os550 : ∀ j, (j < 60 + 2 * u45 ∨ 62 + 2 * u45 ≤ j) → j < 140 → rwv w537 86 j = rwv w 86 j := fun j hj hl => (rwv_fr hF540 (by decide)).trans (os534 j hj hl)
    have rg551 : FA w537 ≠ 0 ∨ 0 = 1 := (Or.inl hv531 : FA w525 ≠ 0 ∨ 0 = 1).imp_left pk546.1
    have mf552 : ∀ s, s < 7 → rwv w537 85 s = rwv w 85 s := fun s hs => (rwv_fr hF540 (by decide)).trans (mf535 s hs)
    have ms553 : mu w537 < mu w := Nat.lt_of_lt_of_le (hv543 (by omega)) pk533.2.1
    clear hv543
    have jn554 : ∀ (w555 : List (List xE)), xMnv w555 → xFr [82, 83, 85, 86, 87] w w555 → (PK w w555 ∧ (∀ j, (j < 60 + 2 * u45 ∨ 62 + 2 * u45 ≤ j) → j < 140 → rwv w555 86 j = rwv w 86 j) ∧ mu w555 < mu w ∧ (∀ s, s < 7 → rwv w555 85 s = rwv w 85 s) ∧ (FA w555 ≠ 0 ∨ u45 < 6)) → xTo (d + 7) mX12_aLine (394, [], [(0, (2, 82)), (1, (0, 2)), (3, (0, u45))], [], (w555, bd, fc, 0, 0, rr)) (fun φ => ∃ w', xEnd 0 [] (w', bd, fc, 0, 0, rr) φ ∧ xMnv w' ∧ xFr [82, 83, 85, 86, 87] w w' ∧ ((FA w ≠ 0 → FA w' ≠ 0) ∧ PS w' ∧ ((fld w' 82 10 = 1 ∧ mu w' = mu w ∧ fld w' 82 14 = fld w 82 14 ∧ ∀ s, s < 7 → rwv w' 85 s = rwv w 85 s) ∨ (mu w' < mu w ∧ fld w' 82 14 = fld w 82 14 + 1 ∧ ∀ s, s < 7 → rwv w' 85 s ≤ rwv w 85 s + 1)) ∧ (FA w' ≠ 0 ∨ (DATA w → DATA w')) ∧ K83 w w')) := by
      intro w555 hI556 hF557 he558
      obtain ⟨hj559, hj560, hj561, hj562, hj563⟩ := he558
      refine xg_t (xg_blq rfl) ?_
      refine xg_t (xg_aload (va := (2, 82)) rfl rfl) ?_
      refine xoCh82 (xqc82 hI556 : cp82 (wget w555 82)) (fun f82_564 f82_566 f82_568 f82_570 f82_572 f82_574 f82_576 f82_578 f82_580 f82_582 f82_584 f82_585 f82_586 f82_588 f82_590 f82_592 h82_594 hb565 hb567 hb569 hb571 hb573 hb575 hb577 hb579 hb581 hb583 hb587 hb589 hb591 hb593 hb595 => ?_)
      refine xg_t (xg_getf (va := (0, f82_580)) h82_594 rfl) ?_
      by_cases hc596 : f82_580 = 0
      · refine xg_t (xg_ifF (u := f82_580) rfl xnm0 (xj_neF hc596)) ?_
        refine xg_t (xg_aload (va := (2, 82)) rfl rfl) ?_
        refine xg_t (xg_getf (va := (0, f82_574)) h82_594 rfl) ?_
        refine xg_t (xg_const) ?_
        by_cases hc597 : f82_574 = 2
        · refine xg_t (xg_icF (u := f82_574) (v := 2) rfl xnm0 xnm0 (xj_neF hc597)) ?_
          refine xg_t (xg_aload (va := (2, 82)) rfl rfl) ?_
          refine xg_cVv mX12_advance (vs := []) (rest := []) (cn1 := 0) (sl1 := 0) rfl (mAdvance (hI556)) rfl h82_594 rfl rfl rfl rfl rfl rfl (fun w598 hq599 => ?_)
          obtain ⟨hI600, hF601, hx602⟩ := hq599
          clear hb565 hb567 hb569 hb571 hb573 hb575 hb577 hb579 hb581 hb583 hb587 hb589 hb591 hb593
          obtain ⟨hv603, hv604, hv605, hv606⟩ := hx602
          have hf608 := FA_fr hF601 (by decide)
          have hs609 := hj559.2.2.2.1
          unfold PS at hs609
          have pk607 : PK w555 w598 := ⟨fun _ => by omega, hv603, hv606, (show fld w598 82 10 = 0 ∨ FA w598 ≠ 0 by omega), K83.fr hF601 (by decide)⟩
          clear hs609
          clear hv604
          have pk610 : PK w w598 := PK.tr hj559 pk607
          have os611 : ∀ j, (j < 60 + 2 * u45 ∨ 62 + 2 * u45 ≤ j) → j < 140 → rwv w598 86 j = rwv w 86 j := fun j hj hl => (rwv_fr hF601 (by decide)).trans (hj560 j hj hl)
          have rg612 : FA w598 ≠ 0 ∨ u45 < 6 := hj563.imp_left pk607.1
          have mf613 : ∀ s, s < 7 → rwv w598 85 s = rwv w 85 s := fun s hs => (rwv_fr hF601 (by decide)).trans (hj562 s hs)
          have ms614 : mu w598 < mu w := Nat.lt_of_le_of_lt pk607.2.1 hj561
          clear hj563
          refine xg_t (xg_goto) ?_
          refine xg_t (xg_blq rfl) ?_
          refine xoCh82 (xqc82 hI600 : cp82 (wget w598 82)) (fun f82_615 f82_617 f82_619 f82_621 f82_623 f82_625 f82_627 f82_629 f82_631 f82_633 f82_635 f82_636 f82_637 f82_639 f82_641 f82_643 h82_645 hb616 hb618 hb620 hb622 hb624 hb626 hb628 hb630 hb632 hb634 hb638 hb640 hb642 hb644 hb646 => ?_)
          have hf647 : fld w598 82 4 = f82_619 := fld_of h82_645
          have hf648 : fld w598 82 5 = f82_621 := fld_of h82_645
          have hf649 : fld w598 82 7 = f82_625 := fld_of h82_645
          have hf650 : fld w598 82 10 = f82_631 := fld_of h82_645
          have hf651 : fld w598 82 14 = f82_633 := fld_of h82_645
          have hu652 : mu w598 = 2 * (fld w598 82 4 - fld w598 82 5) + min 1 (fld w598 82 7) := rfl
          have hf653 := pk610.2.2.1
          have hl654 : f82_633 ≤ 1000 := by omega
          refine xg_t (xg_aload (va := (2, 82)) rfl rfl) ?_
          refine xg_t (xg_getf (va := (2, 85)) h82_645 rfl) ?_
          refine xg_t (xg_iload (va := (0, 2)) rfl rfl) ?_
          refine xg_t (xg_dup2 rfl) ?_
          refine xoI (xqc85 hI600 : cpI 7 52 4294967295 (wget w598 85)) (fun g85_655 h85_656 hb657 => ?_)
          refine xg_ialdB (n := 2) (B := 4294967295) h85_656 (hb657) xnm0 (by first | decide | omega) (fun u658 hu659 he660 => ?_)
          have hl661 : u658 = u45 := by have q1 := rwv_of h85_656 (show 2 < 7 by decide); have q2 := mf613 2 (by decide); omega
          refine xg_t (xg_const) ?_
          refine xg_t (xg_iadd (u := u658) (v := 1) (z := u658 + 1) xnm0 xnm0 (by omega)) ?_
          refine xg_iastK (n := 2) (u := u658 + 1) h85_656 xnm0 xnm0 rfl (by first | decide | omega) (fun w662 hr663 hb664 => ?_)
          refine xg_t (xg_aload (va := (2, 82)) rfl rfl) ?_
          refine xg_t (xg_dup rfl) ?_
          refine xg_t (xg_getf (va := (0, f82_633)) (hb664.get (by decide) h82_645) rfl) ?_
          have hn665 := id hb634
          unfold xHid at hn665
          refine xg_t (xg_const) ?_
          refine xg_t (xg_iadd (u := f82_633) (v := 1) (z := f82_633 + 1) xnm0 xnm0 (by omega)) ?_
          refine xg_putI (fl1 := [(2, 83), (2, 84), (0, f82_615), (0, f82_617), (0, f82_619), (0, f82_621), (0, f82_623), (0, f82_625), (0, f82_627), (0, f82_629), (0, f82_631), (2, 85), (2, 86), (2, 87), (0, f82_633 + 1), (2, 88), (2, 89), (2, 90), (2, 91), (2, 92), (2, 93), (2, 94), (4, f82_635), (4, f82_636), (0, f82_637), (2, 95), (2, 96), (2, 97), (2, 98), (2, 99), (2, 100), (2, 101), (2, 102), (0, f82_639), (2, 103), (2, 104), (2, 105), (2, 106), (2, 107), (2, 108), (2, 109), (0, f82_641), (0, f82_643), (2, 110), (2, 111), (2, 112), (2, 113)]) (hb664.get (by decide) h82_645) rfl rfl rfl (fun w666 hk667 hb668 => ?_)
          have hF669 : xFr [82, 85] w598 w666 := ((xFr.of (S := [82, 85]) hb664 (by decide)).tr (xFr.of (S := [82, 85]) hb668 (by decide)))
          have hA670 := FA_fr hF669 (by decide)
          have hf671 : fld w666 82 4 = f82_619 := fld_of hk667
          have hf672 : fld w666 82 5 = f82_621 := fld_of hk667
          have hf673 : fld w666 82 7 = f82_625 := fld_of hk667
          have hf674 : fld w666 82 10 = f82_631 := fld_of hk667
          have hf675 : fld w666 82 14 = f82_633 + 1 := fld_of hk667
          have hu676 : mu w666 = 2 * (fld w666 82 4 - fld w666 82 5) + min 1 (fld w666 82 7) := rfl
          have pq677 := pk610
          unfold PK PS at pq677
          have hM678 : ∀ s, s < 7 → s ≠ 2 → rwv w666 85 s = rwv w 85 s := fun s hs hn => (rwv_of (hr663.but hb668 (by decide)) hs).trans ((if_neg hn).trans ((rwv_of h85_656 hs).symm.trans (mf613 s hs)))
          have hM679 : rwv w666 85 2 = u45 + 1 := (rwv_of (hr663.but hb668 (by decide)) (by decide)).trans ((if_pos rfl).trans (by omega))
          have hM680 : ∀ s, s < 7 → rwv w666 85 s ≤ rwv w 85 s + 1 := fun s hs => by
            by_cases z : s = 2
            · subst z; omega
            · rw [hM678 s hs z]; omega
          have hO681 : ∀ j, (j < 60 + 2 * u45 ∨ 62 + 2 * u45 ≤ j) → j < 140 → rwv w666 86 j = rwv w 86 j := fun j hj hl => (rwv_fr hF669 (by decide)).trans (os611 j hj hl)
          have hl683 : FA w598 ≠ 0 ∨ u45 < 6 := rg612
          have hN682 : FA w666 ≠ 0 ∨ 6 ≤ u45 ∨ True := Or.inr (Or.inr trivial)
          have hX684 : FA w666 ≠ 0 ∨ u45 < 6 := by omega
          have hD685 : FA w666 ≠ 0 ∨ (DATA w → DATA w666) := by
            by_cases z : FA w666 ≠ 0
            · exact Or.inl z
            · exact Or.inr (fun hd => hd.s2 hM678 hK48 hM679 (hX684.resolve_left z) hO681 ((hN682.resolve_left z).resolve_left (by have := hX684.resolve_left z; omega)))
          exact xg_e ⟨w666, ⟨rfl, rfl⟩, xMnv.up (S := [85, 82]) hI600 ((xFr.of (S := [85, 82]) hb664 (by decide)).tr (xFr.of (S := [85, 82]) hb668 (by decide))) (List.forall_mem_cons.mpr ⟨xqu85 (show cpI 7 52 4294967295 (wget w666 85) from ⟨_, (hr663.but hb668 (by decide)), xrb (by omega) (hb657)⟩), List.forall_mem_cons.mpr ⟨xqu82 (show cp82 (wget w666 82) from xmC82 f82_615 f82_617 f82_619 f82_621 f82_623 f82_625 f82_627 f82_629 f82_631 (f82_633 + 1) f82_635 f82_636 f82_637 f82_639 f82_641 f82_643 hk667 hb616 hb618 hb620 hb622 hb624 hb626 hb628 hb630 hb632 (by omega) hb638 hb640 hb642 hb644 (by omega)), fun _ h => absurd h List.not_mem_nil⟩⟩), ((hF557.tr (hF601.up (by decide))).tr ((xFr.of (S := [82, 83, 85, 86, 87]) hb664 (by decide)).tr (xFr.of (S := [82, 83, 85, 86, 87]) hb668 (by decide)))), ⟨fun h => by have := pq677.1 h; omega, (show fld w666 82 10 = 0 ∨ FA w666 ≠ 0 by omega), Or.inr ⟨by have := ms614; omega, by omega, hM680⟩, hD685, pk610.2.2.2.2.tr (K83.fr hF669 (by decide))⟩⟩
        · refine xg_t (xg_icT (u := f82_574) (v := 2) rfl xnm0 xnm0 (xj_neT hc597)) ?_
          refine xg_t (xg_blq rfl) ?_
          refine xg_t (xg_aload (va := (2, 82)) rfl rfl) ?_
          refine xg_cVv mX12_ends (vs := []) (rest := []) (cn1 := 0) (sl1 := 0) rfl (mEnds (hI556) hj559.2.2.2.1) rfl h82_594 rfl rfl rfl rfl rfl rfl (fun w686 hq687 => ?_)
          obtain ⟨hI688, hF689, hx690⟩ := hq687
          clear hb565 hb567 hb569 hb571 hb573 hb575 hb577 hb579 hb581 hb583 hb587 hb589 hb591 hb593
          obtain ⟨hv691, hv692, hv693, hv694, hv695⟩ := hx690
          have pk696 : PK w555 w686 := ⟨fun _ => hv691, by omega, by omega, Or.inr hv691, hv695⟩
          have pk697 : PK w w686 := PK.tr hj559 pk696
          have os698 : ∀ j, (j < 60 + 2 * u45 ∨ 62 + 2 * u45 ≤ j) → j < 140 → rwv w686 86 j = rwv w 86 j := fun j hj hl => (rwv_fr hF689 (by decide)).trans (hj560 j hj hl)
          have rg699 : FA w686 ≠ 0 ∨ u45 < 6 := hj563.imp_left pk696.1
          have mf700 : ∀ s, s < 7 → rwv w686 85 s = rwv w 85 s := fun s hs => (rwv_fr hF689 (by decide)).trans (hj562 s hs)
          have ms701 : mu w686 < mu w := Nat.lt_of_le_of_lt pk696.2.1 hj561
          clear hj563
          refine xg_t (xg_blq rfl) ?_
          refine xoCh82 (xqc82 hI688 : cp82 (wget w686 82)) (fun f82_702 f82_704 f82_706 f82_708 f82_710 f82_712 f82_714 f82_716 f82_718 f82_720 f82_722 f82_723 f82_724 f82_726 f82_728 f82_730 h82_732 hb703 hb705 hb707 hb709 hb711 hb713 hb715 hb717 hb719 hb721 hb725 hb727 hb729 hb731 hb733 => ?_)
          have hf734 : fld w686 82 4 = f82_706 := fld_of h82_732
          have hf735 : fld w686 82 5 = f82_708 := fld_of h82_732
          have hf736 : fld w686 82 7 = f82_712 := fld_of h82_732
          have hf737 : fld w686 82 10 = f82_718 := fld_of h82_732
          have hf738 : fld w686 82 14 = f82_720 := fld_of h82_732
          have hu739 : mu w686 = 2 * (fld w686 82 4 - fld w686 82 5) + min 1 (fld w686 82 7) := rfl
          have hf740 := pk697.2.2.1
          have hl741 : f82_720 ≤ 1000 := by omega
          refine xg_t (xg_aload (va := (2, 82)) rfl rfl) ?_
          refine xg_t (xg_getf (va := (2, 85)) h82_732 rfl) ?_
          refine xg_t (xg_iload (va := (0, 2)) rfl rfl) ?_
          refine xg_t (xg_dup2 rfl) ?_
          refine xoI (xqc85 hI688 : cpI 7 52 4294967295 (wget w686 85)) (fun g85_742 h85_743 hb744 => ?_)
          refine xg_ialdB (n := 2) (B := 4294967295) h85_743 (hb744) xnm0 (by first | decide | omega) (fun u745 hu746 he747 => ?_)
          have hl748 : u745 = u45 := by have q1 := rwv_of h85_743 (show 2 < 7 by decide); have q2 := mf700 2 (by decide); omega
          refine xg_t (xg_const) ?_
          refine xg_t (xg_iadd (u := u745) (v := 1) (z := u745 + 1) xnm0 xnm0 (by omega)) ?_
          refine xg_iastK (n := 2) (u := u745 + 1) h85_743 xnm0 xnm0 rfl (by first | decide | omega) (fun w749 hr750 hb751 => ?_)
          refine xg_t (xg_aload (va := (2, 82)) rfl rfl) ?_
          refine xg_t (xg_dup rfl) ?_
          refine xg_t (xg_getf (va := (0, f82_720)) (hb751.get (by decide) h82_732) rfl) ?_
          have hn752 := id hb721
          unfold xHid at hn752
          refine xg_t (xg_const) ?_
          refine xg_t (xg_iadd (u := f82_720) (v := 1) (z := f82_720 + 1) xnm0 xnm0 (by omega)) ?_
          refine xg_putI (fl1 := [(2, 83), (2, 84), (0, f82_702), (0, f82_704), (0, f82_706), (0, f82_708), (0, f82_710), (0, f82_712), (0, f82_714), (0, f82_716), (0, f82_718), (2, 85), (2, 86), (2, 87), (0, f82_720 + 1), (2, 88), (2, 89), (2, 90), (2, 91), (2, 92), (2, 93), (2, 94), (4, f82_722), (4, f82_723), (0, f82_724), (2, 95), (2, 96), (2, 97), (2, 98), (2, 99), (2, 100), (2, 101), (2, 102), (0, f82_726), (2, 103), (2, 104), (2, 105), (2, 106), (2, 107), (2, 108), (2, 109), (0, f82_728), (0, f82_730), (2, 110), (2, 111), (2, 112), (2, 113)]) (hb751.get (by decide) h82_732) rfl rfl rfl (fun w753 hk754 hb755 => ?_)
          have hF756 : xFr [82, 85] w686 w753 := ((xFr.of (S := [82, 85]) hb751 (by decide)).tr (xFr.of (S := [82, 85]) hb755 (by decide)))
          have hA757 := FA_fr hF756 (by decide)
          have hf758 : fld w753 82 4 = f82_706 := fld_of hk754
          have hf759 : fld w753 82 5 = f82_708 := fld_of hk754
          have hf760 : fld w753 82 7 = f82_712 := fld_of hk754
          have hf761 : fld w753 82 10 = f82_718 := fld_of hk754
          have hf762 : fld w753 82 14 = f82_720 + 1 := fld_of hk754
          have hu763 : mu w753 = 2 * (fld w753 82 4 - fld w753 82 5) + min 1 (fld w753 82 7) := rfl
          have pq764 := pk697
          unfold PK PS at pq764
          have hM765 : ∀ s, s < 7 → s ≠ 2 → rwv w753 85 s = rwv w 85 s := fun s hs hn => (rwv_of (hr750.but hb755 (by decide)) hs).trans ((if_neg hn).trans ((rwv_of h85_743 hs).symm.trans (mf700 s hs)))
          have hM766 : rwv w753 85 2 = u45 + 1 := (rwv_of (hr750.but hb755 (by decide)) (by decide)).trans ((if_pos rfl).trans (by omega))
          have hM767 : ∀ s, s < 7 → rwv w753 85 s ≤ rwv w 85 s + 1 := fun s hs => by
            by_cases z : s = 2
            · subst z; omega
            · rw [hM765 s hs z]; omega
          have hO768 : ∀ j, (j < 60 + 2 * u45 ∨ 62 + 2 * u45 ≤ j) → j < 140 → rwv w753 86 j = rwv w 86 j := fun j hj hl => (rwv_fr hF756 (by decide)).trans (os698 j hj hl)
          have hl770 : FA w686 ≠ 0 ∨ u45 < 6 := rg699
          have hN769 : FA w753 ≠ 0 ∨ 6 ≤ u45 ∨ True := Or.inr (Or.inr trivial)
          have hX771 : FA w753 ≠ 0 ∨ u45 < 6 := by omega
          have hD772 : FA w753 ≠ 0 ∨ (DATA w → DATA w753) := by
            by_cases z : FA w753 ≠ 0
            · exact Or.inl z
            · exact Or.inr (fun hd => hd.s2 hM765 hK48 hM766 (hX771.resolve_left z) hO768 ((hN769.resolve_left z).resolve_left (by have := hX771.resolve_left z; omega)))
          exact xg_e ⟨w753, ⟨rfl, rfl⟩, xMnv.up (S := [85, 82]) hI688 ((xFr.of (S := [85, 82]) hb751 (by decide)).tr (xFr.of (S := [85, 82]) hb755 (by decide))) (List.forall_mem_cons.mpr ⟨xqu85 (show cpI 7 52 4294967295 (wget w753 85) from ⟨_, (hr750.but hb755 (by decide)), xrb (by omega) (hb744)⟩), List.forall_mem_cons.mpr ⟨xqu82 (show cp82 (wget w753 82) from xmC82 f82_702 f82_704 f82_706 f82_708 f82_710 f82_712 f82_714 f82_716 f82_718 (f82_720 + 1) f82_722 f82_723 f82_724 f82_726 f82_728 f82_730 hk754 hb703 hb705 hb707 hb709 hb711 hb713 hb715 hb717 hb719 (by omega) hb725 hb727 hb729 hb731 (by omega)), fun _ h => absurd h List.not_mem_nil⟩⟩), ((hF557.tr (hF689.up (by decide))).tr ((xFr.of (S := [82, 83, 85, 86, 87]) hb751 (by decide)).tr (xFr.of (S := [82, 83, 85, 86, 87]) hb755 (by decide)))), ⟨fun h => by have := pq764.1 h; omega, (show fld w753 82 10 = 0 ∨ FA w753 ≠ 0 by omega), Or.inr ⟨by have := ms701; omega, by omega, hM767⟩, hD772, pk697.2.2.2.2.tr (K83.fr hF756 (by decide))⟩⟩
      · refine xg_t (xg_ifT (u := f82_580) rfl xnm0 (xj_neT hc596)) ?_
        refine xg_t (xg_blq rfl) ?_
        refine xg_t (xg_aload (va := (2, 82)) rfl rfl) ?_
        refine xg_cVv mX12_ends (vs := []) (rest := []) (cn1 := 0) (sl1 := 0) rfl (mEnds (hI556) hj559.2.2.2.1) rfl h82_594 rfl rfl rfl rfl rfl rfl (fun w773 hq774 => ?_)
        obtain ⟨hI775, hF776, hx777⟩ := hq774
        clear hb565 hb567 hb569 hb571 hb573 hb575 hb577 hb579 hb581 hb583 hb587 hb589 hb591 hb593
        obtain ⟨hv778, hv779, hv780, hv781, hv782⟩ := hx777
        have pk783 : PK w555 w773 := ⟨fun _ => hv778, by omega, by omega, Or.inr hv778, hv782⟩
        have pk784 : PK w w773 := PK.tr hj559 pk783
        have os785 : ∀ j, (j < 60 + 2 * u45 ∨ 62 + 2 * u45 ≤ j) → j < 140 → rwv w773 86 j = rwv w 86 j := fun j hj hl => (rwv_fr hF776 (by decide)).trans (hj560 j hj hl)
        have rg786 : FA w773 ≠ 0 ∨ u45 < 6 := hj563.imp_left pk783.1
        have mf787 : ∀ s, s < 7 → rwv w773 85 s = rwv w 85 s := fun s hs => (rwv_fr hF776 (by decide)).trans (hj562 s hs)
        have ms788 : mu w773 < mu w := Nat.lt_of_le_of_lt pk783.2.1 hj561
        clear hj563
        refine xg_t (xg_blq rfl) ?_
        refine xoCh82 (xqc82 hI775 : cp82 (wget w773 82)) (fun f82_789 f82_791 f82_793 f82_795 f82_797 f82_799 f82_801 f82_803 f82_805 f82_807 f82_809 f82_810 f82_811 f82_813 f82_815 f82_817 h82_819 hb790 hb792 hb794 hb796 hb798 hb800 hb802 hb804 hb806 hb808 hb812 hb814 hb816 hb818 hb820 => ?_)
        have hf821 : fld w773 82 4 = f82_793 := fld_of h82_819
        have hf822 : fld w773 82 5 = f82_795 := fld_of h82_819
        have hf823 : fld w773 82 7 = f82_799 := fld_of h82_819
        have hf824 : fld w773 82 10 = f82_805 := fld_of h82_819
        have hf825 : fld w773 82 14 = f82_807 := fld_of h82_819
        have hu826 : mu w773 = 2 * (fld w773 82 4 - fld w773 82 5) + min 1 (fld w773 82 7) := rfl
        have hf827 := pk784.2.2.1
        have hl828 : f82_807 ≤ 1000 := by omega
        refine xg_t (xg_aload (va := (2, 82)) rfl rfl) ?_
        refine xg_t (xg_getf (va := (2, 85)) h82_819 rfl) ?_
        refine xg_t (xg_iload (va := (0, 2)) rfl rfl) ?_
        refine xg_t (xg_dup2 rfl) ?_
        refine xoI (xqc85 hI775 : cpI 7 52 4294967295 (wget w773 85)) (fun g85_829 h85_830 hb831 => ?_)
        refine xg_ialdB (n := 2) (B := 4294967295) h85_830 (hb831) xnm0 (by first | decide | omega) (fun u832 hu833 he834 => ?_)
        have hl835 : u832 = u45 := by have q1 := rwv_of h85_830 (show 2 < 7 by decide); have q2 := mf787 2 (by decide); omega
        refine xg_t (xg_const) ?_
        refine xg_t (xg_iadd (u := u832) (v := 1) (z := u832 + 1) xnm0 xnm0 (by omega)) ?_
        refine xg_iastK (n := 2) (u := u832 + 1) h85_830 xnm0 xnm0 rfl (by first | decide | omega) (fun w836 hr837 hb838 => ?_)
        refine xg_t (xg_aload (va := (2, 82)) rfl rfl) ?_
        refine xg_t (xg_dup rfl) ?_
        refine xg_t (xg_getf (va := (0, f82_807)) (hb838.get (by decide) h82_819) rfl) ?_
        have hn839 := id hb808
        unfold xHid at hn839
        refine xg_t (xg_const) ?_
        refine xg_t (xg_iadd (u := f82_807) (v := 1) (z := f82_807 + 1) xnm0 xnm0 (by omega)) ?_
        refine xg_putI (fl1 := [(2, 83), (2, 84), (0, f82_789), (0, f82_791), (0, f82_793), (0, f82_795), (0, f82_797), (0, f82_799), (0, f82_801), (0, f82_803), (0, f82_805), (2, 85), (2, 86), (2, 87), (0, f82_807 + 1), (2, 88), (2, 89), (2, 90), (2, 91), (2, 92), (2, 93), (2, 94), (4, f82_809), (4, f82_810), (0, f82_811), (2, 95), (2, 96), (2, 97), (2, 98), (2, 99), (2, 100), (2, 101), (2, 102), (0, f82_813), (2, 103), (2, 104), (2, 105), (2, 106), (2, 107), (2, 108), (2, 109), (0, f82_815), (0, f82_817), (2, 110), (2, 111), (2, 112), (2, 113)]) (hb838.get (by decide) h82_819) rfl rfl rfl (fun w840 hk841 hb842 => ?_)
        have hF843 : xFr [82, 85] w773 w840 := ((xFr.of (S := [82, 85]) hb838 (by decide)).tr (xFr.of (S := [82, 85]) hb842 (by decide)))
        have hA844 := FA_fr hF843 (by decide)
        have hf845 : fld w840 82 4 = f82_793 := fld_of hk841
        have hf846 : fld w840 82 5 = f82_795 := fld_of hk841
        have hf847 : fld w840 82 7 = f82_799 := fld_of hk841
        have hf848 : fld w840 82 10 = f82_805 := fld_of hk841
        have hf849 : fld w840 82 14 = f82_807 + 1 := fld_of hk841
        have hu850 : mu w840 = 2 * (fld w840 82 4 - fld w840 82 5) + min 1 (fld w840 82 7) := rfl
        have pq851 := pk784
        unfold PK PS at pq851
        have hM852 : ∀ s, s < 7 → s ≠ 2 → rwv w840 85 s = rwv w 85 s := fun s hs hn => (rwv_of (hr837.but hb842 (by decide)) hs).trans ((if_neg hn).trans ((rwv_of h85_830 hs).symm.trans (mf787 s hs)))
        have hM853 : rwv w840 85 2 = u45 + 1 := (rwv_of (hr837.but hb842 (by decide)) (by decide)).trans ((if_pos rfl).trans (by omega))
        have hM854 : ∀ s, s < 7 → rwv w840 85 s ≤ rwv w 85 s + 1 := fun s hs => by
          by_cases z : s = 2
          · subst z; omega
          · rw [hM852 s hs z]; omega
        have hO855 : ∀ j, (j < 60 + 2 * u45 ∨ 62 + 2 * u45 ≤ j) → j < 140 → rwv w840 86 j = rwv w 86 j := fun j hj hl => (rwv_fr hF843 (by decide)).trans (os785 j hj hl)
        have hl857 : FA w773 ≠ 0 ∨ u45 < 6 := rg786
        have hN856 : FA w840 ≠ 0 ∨ 6 ≤ u45 ∨ True := Or.inr (Or.inr trivial)
        have hX858 : FA w840 ≠ 0 ∨ u45 < 6 := by omega
        have hD859 : FA w840 ≠ 0 ∨ (DATA w → DATA w840) := by
          by_cases z : FA w840 ≠ 0
          · exact Or.inl z
          · exact Or.inr (fun hd => hd.s2 hM852 hK48 hM853 (hX858.resolve_left z) hO855 ((hN856.resolve_left z).resolve_left (by have := hX858.resolve_left z; omega)))
        exact xg_e ⟨w840, ⟨rfl, rfl⟩, xMnv.up (S := [85, 82]) hI775 ((xFr.of (S := [85, 82]) hb838 (by decide)).tr (xFr.of (S := [85, 82]) hb842 (by decide))) (List.forall_mem_cons.mpr ⟨xqu85 (show cpI 7 52 4294967295 (wget w840 85) from ⟨_, (hr837.but hb842 (by decide)), xrb (by omega) (hb831)⟩), List.forall_mem_cons.mpr ⟨xqu82 (show cp82 (wget w840 82) from xmC82 f82_789 f82_791 f82_793 f82_795 f82_797 f82_799 f82_801 f82_803 f82_805 (f82_807 + 1) f82_809 f82_810 f82_811 f82_813 f82_815 f82_817 hk841 hb790 hb792 hb794 hb796 hb798 hb800 hb802 hb804 hb806 (by omega) hb812 hb814 hb816 hb818 (by omega)), fun _ h => absurd h List.not_mem_nil⟩⟩), ((hF557.tr (hF776.up (by decide))).tr ((xFr.of (S := [82, 83, 85, 86, 87]) hb838 (by decide)).tr (xFr.of (S := [82, 83, 85, 86, 87]) hb842 (by decide)))), ⟨fun h => by have := pq851.1 h; omega, (show fld w840 82 10 = 0 ∨ FA w840 ≠ 0 by omega), Or.inr ⟨by have := ms788; omega, by omega, hM854⟩, hD859, pk784.2.2.2.2.tr (K83.fr hF843 (by decide))⟩⟩
    refine xg_t (xg_iload (va := (0, 2)) rfl rfl) ?_
    refine xg_t (xg_swt (ks := [(0, 108), (1, 116), (2, 180), (3, 221), (4, 273), (5, 326)]) (u := 2) (z := 180) rfl rfl rfl xnm0 (xsw_n (by omega) (xsw_n (by omega) (xsw_y rfl)))) ?_
    refine xg_t (xg_blq rfl) ?_
    refine xg_t (xg_const) ?_
    refine xg_t (xg_istore (l1 := [(3, (0, u45)), (2, (0, at_)), (1, (0, 2)), (0, (2, 82))]) rfl rfl rfl) ?_
    refine xg_t (xg_blq rfl) ?_
    refine xg_t (xg_iload (va := (0, 0)) rfl rfl) ?_
    refine xg_t (xg_const) ?_
    refine xg_t (xg_icF (u := 0) (v := 2) rfl xnm0 xnm0 (by decide)) ?_
    refine xg_t (xg_aload (va := (2, 82)) rfl rfl) ?_
    refine xg_t (xg_iload (va := (0, 2)) rfl rfl) ?_
    refine xg_t (xg_iload (va := (0, u45)) rfl rfl) ?_
    refine xg_t (xg_bip) ?_
    refine xg_t (xg_const) ?_
    refine xg_t (xg_iload (va := (0, u45)) rfl rfl) ?_
    refine xg_t (xg_imul (u := 2) (v := u45) (z := 2 * u45) xnm0 xnm0 (by omega)) ?_
    refine xg_t (xg_iadd (u := 60) (v := 2 * u45) (z := 60 + (2 * u45)) xnm0 xnm0 (by omega)) ?_
    refine xg_t (xg_iload (va := (0, 0)) rfl rfl) ?_
    refine xg_t (xg_iadd (u := 60 + (2 * u45)) (v := 0) (z := (60 + (2 * u45)) + 0) xnm0 xnm0 (by omega)) ?_
    refine xg_t (xg_aload (va := (2, 82)) rfl rfl) ?_
    refine xg_t (xg_const) ?_
    refine xg_t (xg_sip) ?_
    refine xoCh82 (xqc82 hI539 : cp82 (wget w537 82)) (fun f82_860 f82_862 f82_864 f82_866 f82_868 f82_870 f82_872 f82_874 f82_876 f82_878 f82_880 f82_881 f82_882 f82_884 f82_886 f82_888 h82_890 hb861 hb863 hb865 hb867 hb869 hb871 hb873 hb875 hb877 hb879 hb883 hb885 hb887 hb889 hb891 => ?_)
    refine xg_cVi mX12_numbered (vs := [(0, 1), (0, 9999)]) (rest := [(0, (60 + (2 * u45)) + 0), (0, u45), (0, 2), (2, 82)]) (cn1 := 0) (sl1 := 0) rfl (mNumbered (hI539) (by omega) (by omega) pk549.2.2.2.1) rfl h82_890 rfl rfl rfl rfl rfl rfl (fun n896 w892 hq893 => ?_)
    obtain ⟨hn897, hI894, hF895⟩ := hq893
    clear hb861 hb863 hb865 hb867 hb869 hb871 hb873 hb875 hb877 hb879 hb883 hb885 hb887 hb889
    obtain ⟨hn898, hn899, hn900⟩ := hn897
    have pk901 : PK w w892 := PK.tr pk549 hn899
    have os902 : ∀ j, (j < 60 + 2 * u45 ∨ 62 + 2 * u45 ≤ j) → j < 140 → rwv w892 86 j = rwv w 86 j := fun j hj hl => (rwv_fr hF895 (by decide)).trans (os550 j hj hl)
    have rg903 : FA w892 ≠ 0 ∨ 0 = 1 := rg551.imp_left hn899.1
    have mf904 : ∀ s, s < 7 → rwv w892 85 s = rwv w 85 s := fun s hs => (rwv_fr hF895 (by decide)).trans (mf552 s hs)
    have ms905 : mu w892 < mu w := Nat.lt_of_le_of_lt hn899.2.1 ms553
    clear rg551
    refine xoCh82 (xqc82 hI894 : cp82 (wget w892 82)) (fun f82_906 f82_908 f82_910 f82_912 f82_914 f82_916 f82_918 f82_920 f82_922 f82_924 f82_926 f82_927 f82_928 f82_930 f82_932 f82_934 h82_936 hb907 hb909 hb911 hb913 hb915 hb917 hb919 hb921 hb923 hb925 hb929 hb931 hb933 hb935 hb937 => ?_)
    refine xg_cVv mX12_puts (vs := [(0, 2), (0, u45), (0, (60 + (2 * u45)) + 0), (0, n896)]) (rest := []) (cn1 := 0) (sl1 := 0) rfl (mPuts2 (hI894) (by omega) (by omega) (by omega) (fun _ => by omega)) rfl h82_936 rfl rfl rfl rfl rfl rfl (fun w938 hq939 => ?_)
    obtain ⟨hI940, hF941, hx942⟩ := hq939
    obtain ⟨hp943, hp944⟩ := hx942
    have pk945 : PK w w938 := PK.tr pk901 (PK.fr hF941 (by decide) (by decide) pk901.2.2.2.1)
    have os946 : ∀ j, (j < 60 + 2 * u45 ∨ 62 + 2 * u45 ≤ j) → j < 140 → rwv w938 86 j = rwv w 86 j := fun j hj hl => (hp944 j (by omega) hl).trans (os902 j hj hl)
    have rg947 : FA w938 ≠ 0 ∨ 0 = 1 := rg903.imp_left (PK.fr hF941 (by decide) (by decide) pk901.2.2.2.1).1
    have rg948 : FA w938 ≠ 0 ∨ (1 ≤ n896 ∧ n896 ≤ 9999) := hn900.imp_left (PK.fr hF941 (by decide) (by decide) pk901.2.2.2.1).1
    have mf949 : ∀ s, s < 7 → rwv w938 85 s = rwv w 85 s := fun s hs => (rwv_fr hF941 (by decide)).trans (mf904 s hs)
    have ms950 : mu w938 < mu w := Nat.lt_of_le_of_lt (PK.fr hF941 (by decide) (by decide) pk901.2.2.2.1).2.1 ms905
    clear rg903 hn900
    refine xg_t (xg_iinc (u := 0) (z := 1) (l1 := [(3, (0, u45)), (2, (0, at_)), (1, (0, 2)), (0, (2, 82))]) rfl rfl (by decide) rfl) ?_
    refine xg_t (xg_goto) ?_
    refine xg_t (xg_blq rfl) ?_
    refine xg_t (xg_iload (va := (0, 1)) rfl rfl) ?_
    refine xg_t (xg_const) ?_
    refine xg_t (xg_icF (u := 1) (v := 2) rfl xnm0 xnm0 (by decide)) ?_
    refine xg_t (xg_aload (va := (2, 82)) rfl rfl) ?_
    refine xg_t (xg_iload (va := (0, 2)) rfl rfl) ?_
    refine xg_t (xg_iload (va := (0, u45)) rfl rfl) ?_
    refine xg_t (xg_bip) ?_
    refine xg_t (xg_const) ?_
    refine xg_t (xg_iload (va := (0, u45)) rfl rfl) ?_
    refine xg_t (xg_imul (u := 2) (v := u45) (z := 2 * u45) xnm0 xnm0 (by omega)) ?_
    refine xg_t (xg_iadd (u := 60) (v := 2 * u45) (z := 60 + (2 * u45)) xnm0 xnm0 (by omega)) ?_
    refine xg_t (xg_iload (va := (0, 1)) rfl rfl) ?_
    refine xg_t (xg_iadd (u := 60 + (2 * u45)) (v := 1) (z := (60 + (2 * u45)) + 1) xnm0 xnm0 (by omega)) ?_
    refine xg_t (xg_aload (va := (2, 82)) rfl rfl) ?_
    refine xg_t (xg_const) ?_
    refine xg_t (xg_sip) ?_
    refine xg_cVi mX12_numbered (vs := [(0, 1), (0, 9999)]) (rest := [(0, (60 + (2 * u45)) + 1), (0, u45), (0, 2), (2, 82)]) (cn1 := 0) (sl1 := 0) rfl (mNumbered (hI940) (by omega) (by omega) pk945.2.2.2.1) rfl (hF941.get (by decide) h82_936) rfl rfl rfl rfl rfl rfl (fun n955 w951 hq952 => ?_)
    obtain ⟨hn956, hI953, hF954⟩ := hq952
    clear hb907 hb909 hb911 hb913 hb915 hb917 hb919 hb921 hb923 hb925 hb929 hb931 hb933 hb935
    obtain ⟨hn957, hn958, hn959⟩ := hn956
    have pk960 : PK w w951 := PK.tr pk945 hn958
    have os961 : ∀ j, (j < 60 + 2 * u45 ∨ 62 + 2 * u45 ≤ j) → j < 140 → rwv w951 86 j = rwv w 86 j := fun j hj hl => (rwv_fr hF954 (by decide)).trans (os946 j hj hl)
    have ix962 : u45 < 6 → rwv w951 86 ((60 + (2 * u45)) + 0) = n896 := fun h => (rwv_fr hF954 (by decide)).trans (hp943 h)
    have rg963 : FA w951 ≠ 0 ∨ 0 = 1 := rg947.imp_left hn958.1
    have rg964 : FA w951 ≠ 0 ∨ (1 ≤ n896 ∧ n896 ≤ 9999) := rg948.imp_left hn958.1
    have mf965 : ∀ s, s < 7 → rwv w951 85 s = rwv w 85 s := fun s hs => (rwv_fr hF954 (by decide)).trans (mf949 s hs)
    have ms966 : mu w951 < mu w := Nat.lt_of_le_of_lt hn958.2.1 ms950
    clear hp943 rg947 rg948
    refine xoCh82 (xqc82 hI953 : cp82 (wget w951 82)) (fun f82_967 f82_969 f82_971 f82_973 f82_975 f82_977 f82_979 f82_981 f82_983 f82_985 f82_987 f82_988 f82_989 f82_991 f82_993 f82_995 h82_997 hb968 hb970 hb972 hb974 hb976 hb978 hb980 hb982 hb984 hb986 hb990 hb992 hb994 hb996 hb998 => ?_)
    refine xg_cVv mX12_puts (vs := [(0, 2), (0, u45), (0, (60 + (2 * u45)) + 1), (0, n955)]) (rest := []) (cn1 := 0) (sl1 := 0) rfl (mPuts2 (hI953) (by omega) (by omega) (by omega) (fun _ => by omega)) rfl h82_997 rfl rfl rfl rfl rfl rfl (fun w999 hq1000 => ?_)
    obtain ⟨hI1001, hF1002, hx1003⟩ := hq1000
    obtain ⟨hp1004, hp1005⟩ := hx1003
    have pk1006 : PK w w999 := PK.tr pk960 (PK.fr hF1002 (by decide) (by decide) pk960.2.2.2.1)
    have os1007 : ∀ j, (j < 60 + 2 * u45 ∨ 62 + 2 * u45 ≤ j) → j < 140 → rwv w999 86 j = rwv w 86 j := fun j hj hl => (hp1005 j (by omega) hl).trans (os961 j hj hl)
    have ix1008 : u45 < 6 → rwv w999 86 ((60 + (2 * u45)) + 0) = n896 := fun h => (hp1005 _ (by omega) (by omega)).trans (ix962 h)
    have rg1009 : FA w999 ≠ 0 ∨ 0 = 1 := rg963.imp_left (PK.fr hF1002 (by decide) (by decide) pk960.2.2.2.1).1
    have rg1010 : FA w999 ≠ 0 ∨ (1 ≤ n896 ∧ n896 ≤ 9999) := rg964.imp_left (PK.fr hF1002 (by decide) (by decide) pk960.2.2.2.1).1
    have rg1011 : FA w999 ≠ 0 ∨ (1 ≤ n955 ∧ n955 ≤ 9999) := hn959.imp_left (PK.fr hF1002 (by decide) (by decide) pk960.2.2.2.1).1
    have mf1012 : ∀ s, s < 7 → rwv w999 85 s = rwv w 85 s := fun s hs => (rwv_fr hF1002 (by decide)).trans (mf965 s hs)
    have ms1013 : mu w999 < mu w := Nat.lt_of_le_of_lt (PK.fr hF1002 (by decide) (by decide) pk960.2.2.2.1).2.1 ms966
    clear ix962 rg963 rg964 hn959
    refine xg_t (xg_iinc (u := 1) (z := 2) (l1 := [(3, (0, u45)), (2, (0, at_)), (1, (0, 2)), (0, (2, 82))]) rfl rfl (by decide) rfl) ?_
    refine xg_t (xg_goto) ?_
    refine xg_t (xg_blq rfl) ?_
    refine xg_t (xg_iload (va := (0, 2)) rfl rfl) ?_
    refine xg_t (xg_const) ?_
    refine xg_t (xg_icT (u := 2) (v := 2) rfl xnm0 xnm0 (by decide)) ?_
    refine xg_t (xg_blq rfl) ?_
    refine xg_t (xg_goto) ?_
    refine xg_t (xg_drop (l1 := [(0, (2, 82)), (1, (0, 2)), (3, (0, u45))]) (List.forall_mem_cons.mpr ⟨List.mem_cons_of_mem _ (List.mem_cons_of_mem _ (List.mem_cons_of_mem _ (List.mem_cons_of_mem _ (List.mem_cons_self)))), List.forall_mem_cons.mpr ⟨List.mem_cons_of_mem _ (List.mem_cons_of_mem _ (List.mem_cons_of_mem _ (List.mem_cons_self))), List.forall_mem_cons.mpr ⟨List.mem_cons_of_mem _ (List.mem_cons_self), fun _ h => absurd h List.not_mem_nil⟩⟩⟩)) ?_
    have hX1014 : FA w999 ≠ 0 ∨ u45 < 6 := Or.inl (by have q := rg1009; omega)
    exact jn554 w999 (hI1001) (((((((hF528.up (by decide)).tr (hF540.up (by decide))).tr (hF895.up (by decide))).tr (hF941.up (by decide))).tr (hF954.up (by decide))).tr (hF1002.up (by decide)))) (⟨pk1006, os1007, ms1013, mf1012, hX1014⟩)
set_option maxHeartbeats 60000000 in
theorem mALineS3 {at_ : Nat} (hI : xMnv w) (hps : PS w) (hmb : ∀ s, s < 7 → rwv w 85 s ≤ 1000) (hln : fld w 82 14 ≤ 1000) (h7 : fld w 82 7 = 3) (hat : at_ ≤ 4294967295) : xTo (d + 7) mX12_aLine (43, [], [(2, (0, at_)), (1, (0, 3)), (0, (2, 82))], [], (w, bd, fc, 0, 0, rr)) (fun φ => ∃ w', xEnd 0 [] (w', bd, fc, 0, 0, rr) φ ∧ xMnv w' ∧ xFr [82, 83, 85, 86, 87] w w' ∧ ((FA w ≠ 0 → FA w' ≠ 0) ∧ PS w' ∧ ((fld w' 82 10 = 1 ∧ mu w' = mu w ∧ fld w' 82 14 = fld w 82 14 ∧ ∀ s, s < 7 → rwv w' 85 s = rwv w 85 s) ∨ (mu w' < mu w ∧ fld w' 82 14 = fld w 82 14 + 1 ∧ ∀ s, s < 7 → rwv w' 85 s ≤ rwv w 85 s + 1)) ∧ (FA w' ≠ 0 ∨ (DATA w → DATA w')) ∧ K83 w w')) := by
  refine xoCh82 (xqc82 hI : cp82 (wget w 82)) (fun f82_1 f82_3 f82_5 f82_7 f82_9 f82_11 f82_13 f82_15 f82_17 f82_19 f82_21 f82_22 f82_23 f82_25 f82_27 f82_29 h82_31 hb2 hb4 hb6 hb8 hb10 hb12 hb14 hb16 hb18 hb20 hb24 hb26 hb28 hb30 hb32 => ?_)
  have hf33 : fld w 82 7 = f82_11 := fld_of h82_31
  have hf34 : fld w 82 10 = f82_17 := fld_of h82_31
  have hf35 : fld w 82 14 = f82_19 := fld_of h82_31
  have hps_ : fld w 82 10 = 0 ∨ FA w ≠ 0 := hps
  refine xoI (xqc85 hI : cpI 7 52 4294967295 (wget w 85)) (fun g85_36 h85_37 hb38 => ?_)
  refine xoI (xqc86 hI : cpI 140 53 4294967295 (wget w 86)) (fun g86_39 h86_40 hb41 => ?_)
  refine xoI (xqc87 hI : cpI 20 54 4294967295 (wget w 87)) (fun g87_42 h87_43 hb44 => ?_)
  refine xg_t (xg_blq rfl) ?_
  refine xg_t (xg_aload (va := (2, 82)) rfl rfl) ?_
  refine xg_t (xg_getf (va := (2, 85)) h82_31 rfl) ?_
  refine xg_t (xg_iload (va := (0, 3)) rfl rfl) ?_
  refine xg_ialdB (n := 3) (B := 4294967295) h85_37 (hb38) xnm0 (by first | decide | omega) (fun u45 hu46 he47 => ?_)
  have hK48 : rwv w 85 3 = u45 := (rwv_of h85_37 (by decide)).trans he47
  have hm49 := hmb 3 (by decide)
  have hl50 : u45 ≤ 1000 := by omega
  refine xg_t (xg_istore (l1 := [(2, (0, at_)), (1, (0, 3)), (0, (2, 82))]) rfl rfl rfl) ?_
  refine xg_t (xg_iload (va := (0, u45)) rfl rfl) ?_
  refine xg_t (xg_iload (va := (0, 3)) rfl rfl) ?_
  refine xg_t (xg_cSr mX12_mostOf (vs := [(0, 3)]) (rest := [(0, u45)]) (rs := [(0, 4), (0, u45)]) (cn1 := 0) (sl1 := 0) rfl (mMostR3) rfl rfl rfl rfl rfl rfl rfl rfl) ?_
  by_cases hc51 : u45 < 4
  · refine xg_t (xg_icT (u := u45) (v := 4) rfl xnm0 xnm0 (xj_ltT hc51 (by omega))) ?_
    refine xg_t (xg_blq rfl) ?_
    refine xg_t (xg_aload (va := (2, 82)) rfl rfl) ?_
    refine xg_cVv mX12_advance (vs := []) (rest := []) (cn1 := 0) (sl1 := 0) rfl (mAdvance (hI)) rfl h82_31 rfl rfl rfl rfl rfl rfl (fun w52 hq53 => ?_)
    obtain ⟨hI54, hF55, hx56⟩ := hq53
    clear hb2 hb4 hb6 hb8 hb10 hb12 hb14 hb16 hb18 hb20 hb24 hb26 hb28 hb30
    obtain ⟨hv57, hv58, hv59, hv60⟩ := hx56
    have hf62 := FA_fr hF55 (by decide)
    have hs63 := (PK.rf hps).2.2.2.1
    unfold PS at hs63
    have pk61 : PK w w52 := ⟨fun _ => by omega, hv57, hv60, (show fld w52 82 10 = 0 ∨ FA w52 ≠ 0 by omega), K83.fr hF55 (by decide)⟩
    clear hs63
    have pk64 : PK w w52 := PK.tr (PK.rf hps) pk61
    have os65 : ∀ j, (j < 80 + 3 * u45 ∨ 83 + 3 * u45 ≤ j) → j < 140 → rwv w52 86 j = rwv w 86 j := fun j hj hl => (rwv_fr hF55 (by decide)).trans ((fun j _ _ => rfl) j hj hl)
    have mf66 : ∀ s, s < 7 → rwv w52 85 s = rwv w 85 s := fun s hs => (rwv_fr hF55 (by decide)).trans ((fun _ _ => rfl) s hs)
    have ms67 : mu w52 < mu w := Nat.lt_of_lt_of_le (hv58 (by omega)) (PK.rf hps).2.1
    clear hv58
    have jn68 : ∀ (w69 : List (List xE)), xMnv w69 → xFr [82, 83, 85, 86, 87] w w69 → (PK w w69 ∧ (∀ j, (j < 80 + 3 * u45 ∨ 83 + 3 * u45 ≤ j) → j < 140 → rwv w69 86 j = rwv w 86 j) ∧ mu w69 < mu w ∧ (∀ s, s < 7 → rwv w69 85 s = rwv w 85 s) ∧ (FA w69 ≠ 0 ∨ u45 < 4)) → xTo (d + 7) mX12_aLine (394, [], [(0, (2, 82)), (1, (0, 3)), (3, (0, u45))], [], (w69, bd, fc, 0, 0, rr)) (fun φ => ∃ w', xEnd 0 [] (w', bd, fc, 0, 0, rr) φ ∧ xMnv w' ∧ xFr [82, 83, 85, 86, 87] w w' ∧ ((FA w ≠ 0 → FA w' ≠ 0) ∧ PS w' ∧ ((fld w' 82 10 = 1 ∧ mu w' = mu w ∧ fld w' 82 14 = fld w 82 14 ∧ ∀ s, s < 7 → rwv w' 85 s = rwv w 85 s) ∨ (mu w' < mu w ∧ fld w' 82 14 = fld w 82 14 + 1 ∧ ∀ s, s < 7 → rwv w' 85 s ≤ rwv w 85 s + 1)) ∧ (FA w' ≠ 0 ∨ (DATA w → DATA w')) ∧ K83 w w')) := by
      intro w69 hI70 hF71 he72
      obtain ⟨hj73, hj74, hj75, hj76, hj77⟩ := he72
      refine xg_t (xg_blq rfl) ?_
      refine xg_t (xg_aload (va := (2, 82)) rfl rfl) ?_
      refine xoCh82 (xqc82 hI70 : cp82 (wget w69 82)) (fun f82_78 f82_80 f82_82 f82_84 f82_86 f82_88 f82_90 f82_92 f82_94 f82_96 f82_98 f82_99 f82_100 f82_102 f82_104 f82_106 h82_108 hb79 hb81 hb83 hb85 hb87 hb89 hb91 hb93 hb95 hb97 hb101 hb103 hb105 hb107 hb109 => ?_)
      refine xg_t (xg_getf (va := (0, f82_94)) h82_108 rfl) ?_
      by_cases hc110 : f82_94 = 0
      · refine xg_t (xg_ifF (u := f82_94) rfl xnm0 (xj_neF hc110)) ?_
        refine xg_t (xg_aload (va := (2, 82)) rfl rfl) ?_
        refine xg_t (xg_getf (va := (0, f82_88)) h82_108 rfl) ?_
        refine xg_t (xg_const) ?_
        by_cases hc111 : f82_88 = 2
        · refine xg_t (xg_icF (u := f82_88) (v := 2) rfl xnm0 xnm0 (xj_neF hc111)) ?_
          refine xg_t (xg_aload (va := (2, 82)) rfl rfl) ?_
          refine xg_cVv mX12_advance (vs := []) (rest := []) (cn1 := 0) (sl1 := 0) rfl (mAdvance (hI70)) rfl h82_108 rfl rfl rfl rfl rfl rfl (fun w112 hq113 => ?_)
          obtain ⟨hI114, hF115, hx116⟩ := hq113
          clear hb79 hb81 hb83 hb85 hb87 hb89 hb91 hb93 hb95 hb97 hb101 hb103 hb105 hb107
          obtain ⟨hv117, hv118, hv119, hv120⟩ := hx116
          have hf122 := FA_fr hF115 (by decide)
          have hs123 := hj73.2.2.2.1
          unfold PS at hs123
          have pk121 : PK w69 w112 := ⟨fun _ => by omega, hv117, hv120, (show fld w112 82 10 = 0 ∨ FA w112 ≠ 0 by omega), K83.fr hF115 (by decide)⟩
          clear hs123
          clear hv118
          have pk124 : PK w w112 := PK.tr hj73 pk121
          have os125 : ∀ j, (j < 80 + 3 * u45 ∨ 83 + 3 * u45 ≤ j) → j < 140 → rwv w112 86 j = rwv w 86 j := fun j hj hl => (rwv_fr hF115 (by decide)).trans (hj74 j hj hl)
          have rg126 : FA w112 ≠ 0 ∨ u45 < 4 := hj77.imp_left pk121.1
          have mf127 : ∀ s, s < 7 → rwv w112 85 s = rwv w 85 s := fun s hs => (rwv_fr hF115 (by decide)).trans (hj76 s hs)
          have ms128 : mu w112 < mu w := Nat.lt_of_le_of_lt pk121.2.1 hj75
          clear hj77
          refine xg_t (xg_goto) ?_
          refine xg_t (xg_blq rfl) ?_
          refine xoCh82 (xqc82 hI114 : cp82 (wget w112 82)) (fun f82_129 f82_131 f82_133 f82_135 f82_137 f82_139 f82_141 f82_143 f82_145 f82_147 f82_149 f82_150 f82_151 f82_153 f82_155 f82_157 h82_159 hb130 hb132 hb134 hb136 hb138 hb140 hb142 hb144 hb146 hb148 hb152 hb154 hb156 hb158 hb160 => ?_)
          have hf161 : fld w112 82 4 = f82_133 := fld_of h82_159
          have hf162 : fld w112 82 5 = f82_135 := fld_of h82_159
          have hf163 : fld w112 82 7 = f82_139 := fld_of h82_159
          have hf164 : fld w112 82 10 = f82_145 := fld_of h82_159
          have hf165 : fld w112 82 14 = f82_147 := fld_of h82_159
          have hu166 : mu w112 = 2 * (fld w112 82 4 - fld w112 82 5) + min 1 (fld w112 82 7) := rfl
          have hf167 := pk124.2.2.1
          have hl168 : f82_147 ≤ 1000 := by omega
          refine xg_t (xg_aload (va := (2, 82)) rfl rfl) ?_
          refine xg_t (xg_getf (va := (2, 85)) h82_159 rfl) ?_
          refine xg_t (xg_iload (va := (0, 3)) rfl rfl) ?_
          refine xg_t (xg_dup2 rfl) ?_
          refine xoI (xqc85 hI114 : cpI 7 52 4294967295 (wget w112 85)) (fun g85_169 h85_170 hb171 => ?_)
          refine xg_ialdB (n := 3) (B := 4294967295) h85_170 (hb171) xnm0 (by first | decide | omega) (fun u172 hu173 he174 => ?_)
          have hl175 : u172 = u45 := by have q1 := rwv_of h85_170 (show 3 < 7 by decide); have q2 := mf127 3 (by decide); omega
          refine xg_t (xg_const) ?_
          refine xg_t (xg_iadd (u := u172) (v := 1) (z := u172 + 1) xnm0 xnm0 (by omega)) ?_
          refine xg_iastK (n := 3) (u := u172 + 1) h85_170 xnm0 xnm0 rfl (by first | decide | omega) (fun w176 hr177 hb178 => ?_)
          refine xg_t (xg_aload (va := (2, 82)) rfl rfl) ?_
          refine xg_t (xg_dup rfl) ?_
          refine xg_t (xg_getf (va := (0, f82_147)) (hb178.get (by decide) h82_159) rfl) ?_
          have hn179 := id hb148
          unfold xHid at hn179
          refine xg_t (xg_const) ?_
          refine xg_t (xg_iadd (u := f82_147) (v := 1) (z := f82_147 + 1) xnm0 xnm0 (by omega)) ?_
          refine xg_putI (fl1 := [(2, 83), (2, 84), (0, f82_129), (0, f82_131), (0, f82_133), (0, f82_135), (0, f82_137), (0, f82_139), (0, f82_141), (0, f82_143), (0, f82_145), (2, 85), (2, 86), (2, 87), (0, f82_147 + 1), (2, 88), (2, 89), (2, 90), (2, 91), (2, 92), (2, 93), (2, 94), (4, f82_149), (4, f82_150), (0, f82_151), (2, 95), (2, 96), (2, 97), (2, 98), (2, 99), (2, 100), (2, 101), (2, 102), (0, f82_153), (2, 103), (2, 104), (2, 105), (2, 106), (2, 107), (2, 108), (2, 109), (0, f82_155), (0, f82_157), (2, 110), (2, 111), (2, 112), (2, 113)]) (hb178.get (by decide) h82_159) rfl rfl rfl (fun w180 hk181 hb182 => ?_)
          have hF183 : xFr [82, 85] w112 w180 := ((xFr.of (S := [82, 85]) hb178 (by decide)).tr (xFr.of (S := [82, 85]) hb182 (by decide)))
          have hA184 := FA_fr hF183 (by decide)
          have hf185 : fld w180 82 4 = f82_133 := fld_of hk181
          have hf186 : fld w180 82 5 = f82_135 := fld_of hk181
          have hf187 : fld w180 82 7 = f82_139 := fld_of hk181
          have hf188 : fld w180 82 10 = f82_145 := fld_of hk181
          have hf189 : fld w180 82 14 = f82_147 + 1 := fld_of hk181
          have hu190 : mu w180 = 2 * (fld w180 82 4 - fld w180 82 5) + min 1 (fld w180 82 7) := rfl
          have pq191 := pk124
          unfold PK PS at pq191
          have hM192 : ∀ s, s < 7 → s ≠ 3 → rwv w180 85 s = rwv w 85 s := fun s hs hn => (rwv_of (hr177.but hb182 (by decide)) hs).trans ((if_neg hn).trans ((rwv_of h85_170 hs).symm.trans (mf127 s hs)))
          have hM193 : rwv w180 85 3 = u45 + 1 := (rwv_of (hr177.but hb182 (by decide)) (by decide)).trans ((if_pos rfl).trans (by omega))
          have hM194 : ∀ s, s < 7 → rwv w180 85 s ≤ rwv w 85 s + 1 := fun s hs => by
            by_cases z : s = 3
            · subst z; omega
            · rw [hM192 s hs z]; omega
          have hO195 : ∀ j, (j < 80 + 3 * u45 ∨ 83 + 3 * u45 ≤ j) → j < 140 → rwv w180 86 j = rwv w 86 j := fun j hj hl => (rwv_fr hF183 (by decide)).trans (os125 j hj hl)
          have hl197 : FA w112 ≠ 0 ∨ u45 < 4 := rg126
          have hN196 : FA w180 ≠ 0 ∨ 4 ≤ u45 ∨ True := Or.inr (Or.inr trivial)
          have hX198 : FA w180 ≠ 0 ∨ u45 < 4 := by omega
          have hD199 : FA w180 ≠ 0 ∨ (DATA w → DATA w180) := by
            by_cases z : FA w180 ≠ 0
            · exact Or.inl z
            · exact Or.inr (fun hd => hd.s3 hM192 hK48 hM193 (hX198.resolve_left z) hO195 ((hN196.resolve_left z).resolve_left (by have := hX198.resolve_left z; omega)))
          exact xg_e ⟨w180, ⟨rfl, rfl⟩, xMnv.up (S := [85, 82]) hI114 ((xFr.of (S := [85, 82]) hb178 (by decide)).tr (xFr.of (S := [85, 82]) hb182 (by decide))) (List.forall_mem_cons.mpr ⟨xqu85 (show cpI 7 52 4294967295 (wget w180 85) from ⟨_, (hr177.but hb182 (by decide)), xrb (by omega) (hb171)⟩), List.forall_mem_cons.mpr ⟨xqu82 (show cp82 (wget w180 82) from xmC82 f82_129 f82_131 f82_133 f82_135 f82_137 f82_139 f82_141 f82_143 f82_145 (f82_147 + 1) f82_149 f82_150 f82_151 f82_153 f82_155 f82_157 hk181 hb130 hb132 hb134 hb136 hb138 hb140 hb142 hb144 hb146 (by omega) hb152 hb154 hb156 hb158 (by omega)), fun _ h => absurd h List.not_mem_nil⟩⟩), ((hF71.tr (hF115.up (by decide))).tr ((xFr.of (S := [82, 83, 85, 86, 87]) hb178 (by decide)).tr (xFr.of (S := [82, 83, 85, 86, 87]) hb182 (by decide)))), ⟨fun h => by have := pq191.1 h; omega, (show fld w180 82 10 = 0 ∨ FA w180 ≠ 0 by omega), Or.inr ⟨by have := ms128; omega, by omega, hM194⟩, hD199, pk124.2.2.2.2.tr (K83.fr hF183 (by decide))⟩⟩
        · refine xg_t (xg_icT (u := f82_88) (v := 2) rfl xnm0 xnm0 (xj_neT hc111)) ?_
          refine xg_t (xg_blq rfl) ?_
          refine xg_t (xg_aload (va := (2, 82)) rfl rfl) ?_
          refine xg_cVv mX12_ends (vs := []) (rest := []) (cn1 := 0) (sl1 := 0) rfl (mEnds (hI70) hj73.2.2.2.1) rfl h82_108 rfl rfl rfl rfl rfl rfl (fun w200 hq201 => ?_)
          obtain ⟨hI202, hF203, hx204⟩ := hq201
          clear hb79 hb81 hb83 hb85 hb87 hb89 hb91 hb93 hb95 hb97 hb101 hb103 hb105 hb107
          obtain ⟨hv205, hv206, hv207, hv208, hv209⟩ := hx204
          have pk210 : PK w69 w200 := ⟨fun _ => hv205, by omega, by omega, Or.inr hv205, hv209⟩
          have pk211 : PK w w200 := PK.tr hj73 pk210
          have os212 : ∀ j, (j < 80 + 3 * u45 ∨ 83 + 3 * u45 ≤ j) → j < 140 → rwv w200 86 j = rwv w 86 j := fun j hj hl => (rwv_fr hF203 (by decide)).trans (hj74 j hj hl)
          have rg213 : FA w200 ≠ 0 ∨ u45 < 4 := hj77.imp_left pk210.1
          have mf214 : ∀ s, s < 7 → rwv w200 85 s = rwv w 85 s := fun s hs => (rwv_fr hF203 (by decide)).trans (hj76 s hs)
          have ms215 : mu w200 < mu w := Nat.lt_of_le_of_lt pk210.2.1 hj75
          clear hj77
          refine xg_t (xg_blq rfl) ?_
          refine xoCh82 (xqc82 hI202 : cp82 (wget w200 82)) (fun f82_216 f82_218 f82_220 f82_222 f82_224 f82_226 f82_228 f82_230 f82_232 f82_234 f82_236 f82_237 f82_238 f82_240 f82_242 f82_244 h82_246 hb217 hb219 hb221 hb223 hb225 hb227 hb229 hb231 hb233 hb235 hb239 hb241 hb243 hb245 hb247 => ?_)
          have hf248 : fld w200 82 4 = f82_220 := fld_of h82_246
          have hf249 : fld w200 82 5 = f82_222 := fld_of h82_246
          have hf250 : fld w200 82 7 = f82_226 := fld_of h82_246
          have hf251 : fld w200 82 10 = f82_232 := fld_of h82_246
          have hf252 : fld w200 82 14 = f82_234 := fld_of h82_246
          have hu253 : mu w200 = 2 * (fld w200 82 4 - fld w200 82 5) + min 1 (fld w200 82 7) := rfl
          have hf254 := pk211.2.2.1
          have hl255 : f82_234 ≤ 1000 := by omega
          refine xg_t (xg_aload (va := (2, 82)) rfl rfl) ?_
          refine xg_t (xg_getf (va := (2, 85)) h82_246 rfl) ?_
          refine xg_t (xg_iload (va := (0, 3)) rfl rfl) ?_
          refine xg_t (xg_dup2 rfl) ?_
          refine xoI (xqc85 hI202 : cpI 7 52 4294967295 (wget w200 85)) (fun g85_256 h85_257 hb258 => ?_)
          refine xg_ialdB (n := 3) (B := 4294967295) h85_257 (hb258) xnm0 (by first | decide | omega) (fun u259 hu260 he261 => ?_)
          have hl262 : u259 = u45 := by have q1 := rwv_of h85_257 (show 3 < 7 by decide); have q2 := mf214 3 (by decide); omega
          refine xg_t (xg_const) ?_
          refine xg_t (xg_iadd (u := u259) (v := 1) (z := u259 + 1) xnm0 xnm0 (by omega)) ?_
          refine xg_iastK (n := 3) (u := u259 + 1) h85_257 xnm0 xnm0 rfl (by first | decide | omega) (fun w263 hr264 hb265 => ?_)
          refine xg_t (xg_aload (va := (2, 82)) rfl rfl) ?_
          refine xg_t (xg_dup rfl) ?_
          refine xg_t (xg_getf (va := (0, f82_234)) (hb265.get (by decide) h82_246) rfl) ?_
          have hn266 := id hb235
          unfold xHid at hn266
          refine xg_t (xg_const) ?_
          refine xg_t (xg_iadd (u := f82_234) (v := 1) (z := f82_234 + 1) xnm0 xnm0 (by omega)) ?_
          refine xg_putI (fl1 := [(2, 83), (2, 84), (0, f82_216), (0, f82_218), (0, f82_220), (0, f82_222), (0, f82_224), (0, f82_226), (0, f82_228), (0, f82_230), (0, f82_232), (2, 85), (2, 86), (2, 87), (0, f82_234 + 1), (2, 88), (2, 89), (2, 90), (2, 91), (2, 92), (2, 93), (2, 94), (4, f82_236), (4, f82_237), (0, f82_238), (2, 95), (2, 96), (2, 97), (2, 98), (2, 99), (2, 100), (2, 101), (2, 102), (0, f82_240), (2, 103), (2, 104), (2, 105), (2, 106), (2, 107), (2, 108), (2, 109), (0, f82_242), (0, f82_244), (2, 110), (2, 111), (2, 112), (2, 113)]) (hb265.get (by decide) h82_246) rfl rfl rfl (fun w267 hk268 hb269 => ?_)
          have hF270 : xFr [82, 85] w200 w267 := ((xFr.of (S := [82, 85]) hb265 (by decide)).tr (xFr.of (S := [82, 85]) hb269 (by decide)))
          have hA271 := FA_fr hF270 (by decide)
          have hf272 : fld w267 82 4 = f82_220 := fld_of hk268
          have hf273 : fld w267 82 5 = f82_222 := fld_of hk268
          have hf274 : fld w267 82 7 = f82_226 := fld_of hk268
          have hf275 : fld w267 82 10 = f82_232 := fld_of hk268
          have hf276 : fld w267 82 14 = f82_234 + 1 := fld_of hk268
          have hu277 : mu w267 = 2 * (fld w267 82 4 - fld w267 82 5) + min 1 (fld w267 82 7) := rfl
          have pq278 := pk211
          unfold PK PS at pq278
          have hM279 : ∀ s, s < 7 → s ≠ 3 → rwv w267 85 s = rwv w 85 s := fun s hs hn => (rwv_of (hr264.but hb269 (by decide)) hs).trans ((if_neg hn).trans ((rwv_of h85_257 hs).symm.trans (mf214 s hs)))
          have hM280 : rwv w267 85 3 = u45 + 1 := (rwv_of (hr264.but hb269 (by decide)) (by decide)).trans ((if_pos rfl).trans (by omega))
          have hM281 : ∀ s, s < 7 → rwv w267 85 s ≤ rwv w 85 s + 1 := fun s hs => by
            by_cases z : s = 3
            · subst z; omega
            · rw [hM279 s hs z]; omega
          have hO282 : ∀ j, (j < 80 + 3 * u45 ∨ 83 + 3 * u45 ≤ j) → j < 140 → rwv w267 86 j = rwv w 86 j := fun j hj hl => (rwv_fr hF270 (by decide)).trans (os212 j hj hl)
          have hl284 : FA w200 ≠ 0 ∨ u45 < 4 := rg213
          have hN283 : FA w267 ≠ 0 ∨ 4 ≤ u45 ∨ True := Or.inr (Or.inr trivial)
          have hX285 : FA w267 ≠ 0 ∨ u45 < 4 := by omega
          have hD286 : FA w267 ≠ 0 ∨ (DATA w → DATA w267) := by
            by_cases z : FA w267 ≠ 0
            · exact Or.inl z
            · exact Or.inr (fun hd => hd.s3 hM279 hK48 hM280 (hX285.resolve_left z) hO282 ((hN283.resolve_left z).resolve_left (by have := hX285.resolve_left z; omega)))
          exact xg_e ⟨w267, ⟨rfl, rfl⟩, xMnv.up (S := [85, 82]) hI202 ((xFr.of (S := [85, 82]) hb265 (by decide)).tr (xFr.of (S := [85, 82]) hb269 (by decide))) (List.forall_mem_cons.mpr ⟨xqu85 (show cpI 7 52 4294967295 (wget w267 85) from ⟨_, (hr264.but hb269 (by decide)), xrb (by omega) (hb258)⟩), List.forall_mem_cons.mpr ⟨xqu82 (show cp82 (wget w267 82) from xmC82 f82_216 f82_218 f82_220 f82_222 f82_224 f82_226 f82_228 f82_230 f82_232 (f82_234 + 1) f82_236 f82_237 f82_238 f82_240 f82_242 f82_244 hk268 hb217 hb219 hb221 hb223 hb225 hb227 hb229 hb231 hb233 (by omega) hb239 hb241 hb243 hb245 (by omega)), fun _ h => absurd h List.not_mem_nil⟩⟩), ((hF71.tr (hF203.up (by decide))).tr ((xFr.of (S := [82, 83, 85, 86, 87]) hb265 (by decide)).tr (xFr.of (S := [82, 83, 85, 86, 87]) hb269 (by decide)))), ⟨fun h => by have := pq278.1 h; omega, (show fld w267 82 10 = 0 ∨ FA w267 ≠ 0 by omega), Or.inr ⟨by have := ms215; omega, by omega, hM281⟩, hD286, pk211.2.2.2.2.tr (K83.fr hF270 (by decide))⟩⟩
      · refine xg_t (xg_ifT (u := f82_94) rfl xnm0 (xj_neT hc110)) ?_
        refine xg_t (xg_blq rfl) ?_
        refine xg_t (xg_aload (va := (2, 82)) rfl rfl) ?_
        refine xg_cVv mX12_ends (vs := []) (rest := []) (cn1 := 0) (sl1 := 0) rfl (mEnds (hI70) hj73.2.2.2.1) rfl h82_108 rfl rfl rfl rfl rfl rfl (fun w287 hq288 => ?_)
        obtain ⟨hI289, hF290, hx291⟩ := hq288
        clear hb79 hb81 hb83 hb85 hb87 hb89 hb91 hb93 hb95 hb97 hb101 hb103 hb105 hb107
        obtain ⟨hv292, hv293, hv294, hv295, hv296⟩ := hx291
        have pk297 : PK w69 w287 := ⟨fun _ => hv292, by omega, by omega, Or.inr hv292, hv296⟩
        have pk298 : PK w w287 := PK.tr hj73 pk297
        have os299 : ∀ j, (j < 80 + 3 * u45 ∨ 83 + 3 * u45 ≤ j) → j < 140 → rwv w287 86 j = rwv w 86 j := fun j hj hl => (rwv_fr hF290 (by decide)).trans (hj74 j hj hl)
        have rg300 : FA w287 ≠ 0 ∨ u45 < 4 := hj77.imp_left pk297.1
        have mf301 : ∀ s, s < 7 → rwv w287 85 s = rwv w 85 s := fun s hs => (rwv_fr hF290 (by decide)).trans (hj76 s hs)
        have ms302 : mu w287 < mu w := Nat.lt_of_le_of_lt pk297.2.1 hj75
        clear hj77
        refine xg_t (xg_blq rfl) ?_
        refine xoCh82 (xqc82 hI289 : cp82 (wget w287 82)) (fun f82_303 f82_305 f82_307 f82_309 f82_311 f82_313 f82_315 f82_317 f82_319 f82_321 f82_323 f82_324 f82_325 f82_327 f82_329 f82_331 h82_333 hb304 hb306 hb308 hb310 hb312 hb314 hb316 hb318 hb320 hb322 hb326 hb328 hb330 hb332 hb334 => ?_)
        have hf335 : fld w287 82 4 = f82_307 := fld_of h82_333
        have hf336 : fld w287 82 5 = f82_309 := fld_of h82_333
        have hf337 : fld w287 82 7 = f82_313 := fld_of h82_333
        have hf338 : fld w287 82 10 = f82_319 := fld_of h82_333
        have hf339 : fld w287 82 14 = f82_321 := fld_of h82_333
        have hu340 : mu w287 = 2 * (fld w287 82 4 - fld w287 82 5) + min 1 (fld w287 82 7) := rfl
        have hf341 := pk298.2.2.1
        have hl342 : f82_321 ≤ 1000 := by omega
        refine xg_t (xg_aload (va := (2, 82)) rfl rfl) ?_
        refine xg_t (xg_getf (va := (2, 85)) h82_333 rfl) ?_
        refine xg_t (xg_iload (va := (0, 3)) rfl rfl) ?_
        refine xg_t (xg_dup2 rfl) ?_
        refine xoI (xqc85 hI289 : cpI 7 52 4294967295 (wget w287 85)) (fun g85_343 h85_344 hb345 => ?_)
        refine xg_ialdB (n := 3) (B := 4294967295) h85_344 (hb345) xnm0 (by first | decide | omega) (fun u346 hu347 he348 => ?_)
        have hl349 : u346 = u45 := by have q1 := rwv_of h85_344 (show 3 < 7 by decide); have q2 := mf301 3 (by decide); omega
        refine xg_t (xg_const) ?_
        refine xg_t (xg_iadd (u := u346) (v := 1) (z := u346 + 1) xnm0 xnm0 (by omega)) ?_
        refine xg_iastK (n := 3) (u := u346 + 1) h85_344 xnm0 xnm0 rfl (by first | decide | omega) (fun w350 hr351 hb352 => ?_)
        refine xg_t (xg_aload (va := (2, 82)) rfl rfl) ?_
        refine xg_t (xg_dup rfl) ?_
        refine xg_t (xg_getf (va := (0, f82_321)) (hb352.get (by decide) h82_333) rfl) ?_
        have hn353 := id hb322
        unfold xHid at hn353
        refine xg_t (xg_const) ?_
        refine xg_t (xg_iadd (u := f82_321) (v := 1) (z := f82_321 + 1) xnm0 xnm0 (by omega)) ?_
        refine xg_putI (fl1 := [(2, 83), (2, 84), (0, f82_303), (0, f82_305), (0, f82_307), (0, f82_309), (0, f82_311), (0, f82_313), (0, f82_315), (0, f82_317), (0, f82_319), (2, 85), (2, 86), (2, 87), (0, f82_321 + 1), (2, 88), (2, 89), (2, 90), (2, 91), (2, 92), (2, 93), (2, 94), (4, f82_323), (4, f82_324), (0, f82_325), (2, 95), (2, 96), (2, 97), (2, 98), (2, 99), (2, 100), (2, 101), (2, 102), (0, f82_327), (2, 103), (2, 104), (2, 105), (2, 106), (2, 107), (2, 108), (2, 109), (0, f82_329), (0, f82_331), (2, 110), (2, 111), (2, 112), (2, 113)]) (hb352.get (by decide) h82_333) rfl rfl rfl (fun w354 hk355 hb356 => ?_)
        have hF357 : xFr [82, 85] w287 w354 := ((xFr.of (S := [82, 85]) hb352 (by decide)).tr (xFr.of (S := [82, 85]) hb356 (by decide)))
        have hA358 := FA_fr hF357 (by decide)
        have hf359 : fld w354 82 4 = f82_307 := fld_of hk355
        have hf360 : fld w354 82 5 = f82_309 := fld_of hk355
        have hf361 : fld w354 82 7 = f82_313 := fld_of hk355
        have hf362 : fld w354 82 10 = f82_319 := fld_of hk355
        have hf363 : fld w354 82 14 = f82_321 + 1 := fld_of hk355
        have hu364 : mu w354 = 2 * (fld w354 82 4 - fld w354 82 5) + min 1 (fld w354 82 7) := rfl
        have pq365 := pk298
        unfold PK PS at pq365
        have hM366 : ∀ s, s < 7 → s ≠ 3 → rwv w354 85 s = rwv w 85 s := fun s hs hn => (rwv_of (hr351.but hb356 (by decide)) hs).trans ((if_neg hn).trans ((rwv_of h85_344 hs).symm.trans (mf301 s hs)))
        have hM367 : rwv w354 85 3 = u45 + 1 := (rwv_of (hr351.but hb356 (by decide)) (by decide)).trans ((if_pos rfl).trans (by omega))
        have hM368 : ∀ s, s < 7 → rwv w354 85 s ≤ rwv w 85 s + 1 := fun s hs => by
          by_cases z : s = 3
          · subst z; omega
          · rw [hM366 s hs z]; omega
        have hO369 : ∀ j, (j < 80 + 3 * u45 ∨ 83 + 3 * u45 ≤ j) → j < 140 → rwv w354 86 j = rwv w 86 j := fun j hj hl => (rwv_fr hF357 (by decide)).trans (os299 j hj hl)
        have hl371 : FA w287 ≠ 0 ∨ u45 < 4 := rg300
        have hN370 : FA w354 ≠ 0 ∨ 4 ≤ u45 ∨ True := Or.inr (Or.inr trivial)
        have hX372 : FA w354 ≠ 0 ∨ u45 < 4 := by omega
        have hD373 : FA w354 ≠ 0 ∨ (DATA w → DATA w354) := by
          by_cases z : FA w354 ≠ 0
          · exact Or.inl z
          · exact Or.inr (fun hd => hd.s3 hM366 hK48 hM367 (hX372.resolve_left z) hO369 ((hN370.resolve_left z).resolve_left (by have := hX372.resolve_left z; omega)))
        exact xg_e ⟨w354, ⟨rfl, rfl⟩, xMnv.up (S := [85, 82]) hI289 ((xFr.of (S := [85, 82]) hb352 (by decide)).tr (xFr.of (S := [85, 82]) hb356 (by decide))) (List.forall_mem_cons.mpr ⟨xqu85 (show cpI 7 52 4294967295 (wget w354 85) from ⟨_, (hr351.but hb356 (by decide)), xrb (by omega) (hb345)⟩), List.forall_mem_cons.mpr ⟨xqu82 (show cp82 (wget w354 82) from xmC82 f82_303 f82_305 f82_307 f82_309 f82_311 f82_313 f82_315 f82_317 f82_319 (f82_321 + 1) f82_323 f82_324 f82_325 f82_327 f82_329 f82_331 hk355 hb304 hb306 hb308 hb310 hb312 hb314 hb316 hb318 hb320 (by omega) hb326 hb328 hb330 hb332 (by omega)), fun _ h => absurd h List.not_mem_nil⟩⟩), ((hF71.tr (hF290.up (by decide))).tr ((xFr.of (S := [82, 83, 85, 86, 87]) hb352 (by decide)).tr (xFr.of (S := [82, 83, 85, 86, 87]) hb356 (by decide)))), ⟨fun h => by have := pq365.1 h; omega, (show fld w354 82 10 = 0 ∨ FA w354 ≠ 0 by omega), Or.inr ⟨by have := ms302; omega, by omega, hM368⟩, hD373, pk298.2.2.2.2.tr (K83.fr hF357 (by decide))⟩⟩
    refine xg_t (xg_iload (va := (0, 3)) rfl rfl) ?_
    refine xg_t (xg_swt (ks := [(0, 108), (1, 116), (2, 180), (3, 221), (4, 273), (5, 326)]) (u := 3) (z := 221) rfl rfl rfl xnm0 (xsw_n (by omega) (xsw_n (by omega) (xsw_n (by omega) (xsw_y rfl))))) ?_
    refine xg_t (xg_blq rfl) ?_
    refine xg_t (xg_const) ?_
    refine xg_t (xg_istore (l1 := [(3, (0, u45)), (2, (0, at_)), (1, (0, 3)), (0, (2, 82))]) rfl rfl rfl) ?_
    refine xg_t (xg_blq rfl) ?_
    refine xg_t (xg_iload (va := (0, 0)) rfl rfl) ?_
    refine xg_t (xg_const) ?_
    refine xg_t (xg_icF (u := 0) (v := 3) rfl xnm0 xnm0 (by decide)) ?_
    refine xg_t (xg_aload (va := (2, 82)) rfl rfl) ?_
    refine xg_t (xg_iload (va := (0, 3)) rfl rfl) ?_
    refine xg_t (xg_iload (va := (0, u45)) rfl rfl) ?_
    refine xg_t (xg_bip) ?_
    refine xg_t (xg_const) ?_
    refine xg_t (xg_iload (va := (0, u45)) rfl rfl) ?_
    refine xg_t (xg_imul (u := 3) (v := u45) (z := 3 * u45) xnm0 xnm0 (by omega)) ?_
    refine xg_t (xg_iadd (u := 80) (v := 3 * u45) (z := 80 + (3 * u45)) xnm0 xnm0 (by omega)) ?_
    refine xg_t (xg_iload (va := (0, 0)) rfl rfl) ?_
    refine xg_t (xg_iadd (u := 80 + (3 * u45)) (v := 0) (z := (80 + (3 * u45)) + 0) xnm0 xnm0 (by omega)) ?_
    refine xg_t (xg_aload (va := (2, 82)) rfl rfl) ?_
    refine xg_t (xg_const) ?_
    refine xg_t (xg_iload (va := (0, 0)) rfl rfl) ?_
    refine xg_t (xg_const) ?_
    refine xg_t (xg_icF (u := 0) (v := 2) rfl xnm0 xnm0 (by decide)) ?_
    refine xg_t (xg_bip) ?_
    refine xg_t (xg_goto) ?_
    refine xg_t (xg_blq rfl) ?_
    refine xoCh82 (xqc82 hI54 : cp82 (wget w52 82)) (fun f82_374 f82_376 f82_378 f82_380 f82_382 f82_384 f82_386 f82_388 f82_390 f82_392 f82_394 f82_395 f82_396 f82_398 f82_400 f82_402 h82_404 hb375 hb377 hb379 hb381 hb383 hb385 hb387 hb389 hb391 hb393 hb397 hb399 hb401 hb403 hb405 => ?_)
    refine xg_cVi mX12_numbered (vs := [(0, 1), (0, 10)]) (rest := [(0, (80 + (3 * u45)) + 0), (0, u45), (0, 3), (2, 82)]) (cn1 := 0) (sl1 := 0) rfl (mNumbered (hI54) (by omega) (by omega) pk64.2.2.2.1) rfl h82_404 rfl rfl rfl rfl rfl rfl (fun n410 w406 hq407 => ?_)
    obtain ⟨hn411, hI408, hF409⟩ := hq407
    clear hb375 hb377 hb379 hb381 hb383 hb385 hb387 hb389 hb391 hb393 hb397 hb399 hb401 hb403
    obtain ⟨hn412, hn413, hn414⟩ := hn411
    have pk415 : PK w w406 := PK.tr pk64 hn413
    have os416 : ∀ j, (j < 80 + 3 * u45 ∨ 83 + 3 * u45 ≤ j) → j < 140 → rwv w406 86 j = rwv w 86 j := fun j hj hl => (rwv_fr hF409 (by decide)).trans (os65 j hj hl)
    have mf417 : ∀ s, s < 7 → rwv w406 85 s = rwv w 85 s := fun s hs => (rwv_fr hF409 (by decide)).trans (mf66 s hs)
    have ms418 : mu w406 < mu w := Nat.lt_of_le_of_lt hn413.2.1 ms67
    refine xoCh82 (xqc82 hI408 : cp82 (wget w406 82)) (fun f82_419 f82_421 f82_423 f82_425 f82_427 f82_429 f82_431 f82_433 f82_435 f82_437 f82_439 f82_440 f82_441 f82_443 f82_445 f82_447 h82_449 hb420 hb422 hb424 hb426 hb428 hb430 hb432 hb434 hb436 hb438 hb442 hb444 hb446 hb448 hb450 => ?_)
    refine xg_cVv mX12_puts (vs := [(0, 3), (0, u45), (0, (80 + (3 * u45)) + 0), (0, n410)]) (rest := []) (cn1 := 0) (sl1 := 0) rfl (mPuts3 (hI408) (by omega) (by omega) (by omega) (fun _ => by omega)) rfl h82_449 rfl rfl rfl rfl rfl rfl (fun w451 hq452 => ?_)
    obtain ⟨hI453, hF454, hx455⟩ := hq452
    obtain ⟨hp456, hp457⟩ := hx455
    have pk458 : PK w w451 := PK.tr pk415 (PK.fr hF454 (by decide) (by decide) pk415.2.2.2.1)
    have os459 : ∀ j, (j < 80 + 3 * u45 ∨ 83 + 3 * u45 ≤ j) → j < 140 → rwv w451 86 j = rwv w 86 j := fun j hj hl => (hp457 j (by omega) hl).trans (os416 j hj hl)
    have rg460 : FA w451 ≠ 0 ∨ (1 ≤ n410 ∧ n410 ≤ 10) := hn414.imp_left (PK.fr hF454 (by decide) (by decide) pk415.2.2.2.1).1
    have mf461 : ∀ s, s < 7 → rwv w451 85 s = rwv w 85 s := fun s hs => (rwv_fr hF454 (by decide)).trans (mf417 s hs)
    have ms462 : mu w451 < mu w := Nat.lt_of_le_of_lt (PK.fr hF454 (by decide) (by decide) pk415.2.2.2.1).2.1 ms418
    clear hn414
    refine xg_t (xg_iinc (u := 0) (z := 1) (l1 := [(3, (0, u45)), (2, (0, at_)), (1, (0, 3)), (0, (2, 82))]) rfl rfl (by decide) rfl) ?_
    refine xg_t (xg_goto) ?_
    refine xg_t (xg_blq rfl) ?_
    refine xg_t (xg_iload (va := (0, 1)) rfl rfl) ?_
    refine xg_t (xg_const) ?_
    refine xg_t (xg_icF (u := 1) (v := 3) rfl xnm0 xnm0 (by decide)) ?_
    refine xg_t (xg_aload (va := (2, 82)) rfl rfl) ?_
    refine xg_t (xg_iload (va := (0, 3)) rfl rfl) ?_
    refine xg_t (xg_iload (va := (0, u45)) rfl rfl) ?_
    refine xg_t (xg_bip) ?_
    refine xg_t (xg_const) ?_
    refine xg_t (xg_iload (va := (0, u45)) rfl rfl) ?_
    refine xg_t (xg_imul (u := 3) (v := u45) (z := 3 * u45) xnm0 xnm0 (by omega)) ?_
    refine xg_t (xg_iadd (u := 80) (v := 3 * u45) (z := 80 + (3 * u45)) xnm0 xnm0 (by omega)) ?_
    refine xg_t (xg_iload (va := (0, 1)) rfl rfl) ?_
    refine xg_t (xg_iadd (u := 80 + (3 * u45)) (v := 1) (z := (80 + (3 * u45)) + 1) xnm0 xnm0 (by omega)) ?_
    refine xg_t (xg_aload (va := (2, 82)) rfl rfl) ?_
    refine xg_t (xg_const) ?_
    refine xg_t (xg_iload (va := (0, 1)) rfl rfl) ?_
    refine xg_t (xg_const) ?_
    refine xg_t (xg_icF (u := 1) (v := 2) rfl xnm0 xnm0 (by decide)) ?_
    refine xg_t (xg_bip) ?_
    refine xg_t (xg_goto) ?_
    refine xg_t (xg_blq rfl) ?_
    refine xg_cVi mX12_numbered (vs := [(0, 1), (0, 10)]) (rest := [(0, (80 + (3 * u45)) + 1), (0, u45), (0, 3), (2, 82)]) (cn1 := 0) (sl1 := 0) rfl (mNumbered (hI453) (by omega) (by omega) pk458.2.2.2.1) rfl (hF454.get (by decide) h82_449) rfl rfl rfl rfl rfl rfl (fun n467 w463 hq464 => ?_)
    obtain ⟨hn468, hI465, hF466⟩ := hq464
    clear hb420 hb422 hb424 hb426 hb428 hb430 hb432 hb434 hb436 hb438 hb442 hb444 hb446 hb448
    obtain ⟨hn469, hn470, hn471⟩ := hn468
    have pk472 : PK w w463 := PK.tr pk458 hn470
    have os473 : ∀ j, (j < 80 + 3 * u45 ∨ 83 + 3 * u45 ≤ j) → j < 140 → rwv w463 86 j = rwv w 86 j := fun j hj hl => (rwv_fr hF466 (by decide)).trans (os459 j hj hl)
    have ix474 : u45 < 4 → rwv w463 86 ((80 + (3 * u45)) + 0) = n410 := fun h => (rwv_fr hF466 (by decide)).trans (hp456 h)
    have rg475 : FA w463 ≠ 0 ∨ (1 ≤ n410 ∧ n410 ≤ 10) := rg460.imp_left hn470.1
    have mf476 : ∀ s, s < 7 → rwv w463 85 s = rwv w 85 s := fun s hs => (rwv_fr hF466 (by decide)).trans (mf461 s hs)
    have ms477 : mu w463 < mu w := Nat.lt_of_le_of_lt hn470.2.1 ms462
    clear hp456 rg460
    refine xoCh82 (xqc82 hI465 : cp82 (wget w463 82)) (fun f82_478 f82_480 f82_482 f82_484 f82_486 f82_488 f82_490 f82_492 f82_494 f82_496 f82_498 f82_499 f82_500 f82_502 f82_504 f82_506 h82_508 hb479 hb481 hb483 hb485 hb487 hb489 hb491 hb493 hb495 hb497 hb501 hb503 hb505 hb507 hb509 => ?_)
    refine xg_cVv mX12_puts (vs := [(0, 3), (0, u45), (0, (80 + (3 * u45)) + 1), (0, n467)]) (rest := []) (cn1 := 0) (sl1 := 0) rfl (mPuts3 (hI465) (by omega) (by omega) (by omega) (fun _ => by omega)) rfl h82_508 rfl rfl rfl rfl rfl rfl (fun w510 hq511 => ?_)
    obtain ⟨hI512, hF513, hx514⟩ := hq511
    obtain ⟨hp515, hp516⟩ := hx514
    have pk517 : PK w w510 := PK.tr pk472 (PK.fr hF513 (by decide) (by decide) pk472.2.2.2.1)
    have os518 : ∀ j, (j < 80 + 3 * u45 ∨ 83 + 3 * u45 ≤ j) → j < 140 → rwv w510 86 j = rwv w 86 j := fun j hj hl => (hp516 j (by omega) hl).trans (os473 j hj hl)
    have ix519 : u45 < 4 → rwv w510 86 ((80 + (3 * u45)) + 0) = n410 := fun h => (hp516 _ (by omega) (by omega)).trans (ix474 h)
    have rg520 : FA w510 ≠ 0 ∨ (1 ≤ n410 ∧ n410 ≤ 10) := rg475.imp_left (PK.fr hF513 (by decide) (by decide) pk472.2.2.2.1).1
    have rg521 : FA w510 ≠ 0 ∨ (1 ≤ n467 ∧ n467 ≤ 10) := hn471.imp_left (PK.fr hF513 (by decide) (by decide) pk472.2.2.2.1).1
    have mf522 : ∀ s, s < 7 → rwv w510 85 s = rwv w 85 s := fun s hs => (rwv_fr hF513 (by decide)).trans (mf476 s hs)
    have ms523 : mu w510 < mu w := Nat.lt_of_le_of_lt (PK.fr hF513 (by decide) (by decide) pk472.2.2.2.1).2.1 ms477
    clear ix474 rg475 hn471
    refine xg_t (xg_iinc (u := 1) (z := 2) (l1 := [(3, (0, u45)), (2, (0, at_)), (1, (0, 3)), (0, (2, 82))]) rfl rfl (by decide) rfl) ?_
    refine xg_t (xg_goto) ?_
    refine xg_t (xg_blq rfl) ?_
    refine xg_t (xg_iload (va := (0, 2)) rfl rfl) ?_
    refine xg_t (xg_const) ?_
    refine xg_t (xg_icF (u := 2) (v := 3) rfl xnm0 xnm0 (by decide)) ?_
    refine xg_t (xg_aload (va := (2, 82)) rfl rfl) ?_
    refine xg_t (xg_iload (va := (0, 3)) rfl rfl) ?_
    refine xg_t (xg_iload (va := (0, u45)) rfl rfl) ?_
    refine xg_t (xg_bip) ?_
    refine xg_t (xg_const) ?_
    refine xg_t (xg_iload (va := (0, u45)) rfl rfl) ?_
    refine xg_t (xg_imul (u := 3) (v := u45) (z := 3 * u45) xnm0 xnm0 (by omega)) ?_
    refine xg_t (xg_iadd (u := 80) (v := 3 * u45) (z := 80 + (3 * u45)) xnm0 xnm0 (by omega)) ?_
    refine xg_t (xg_iload (va := (0, 2)) rfl rfl) ?_
    refine xg_t (xg_iadd (u := 80 + (3 * u45)) (v := 2) (z := (80 + (3 * u45)) + 2) xnm0 xnm0 (by omega)) ?_
    refine xg_t (xg_aload (va := (2, 82)) rfl rfl) ?_
    refine xg_t (xg_const) ?_
    refine xg_t (xg_iload (va := (0, 2)) rfl rfl) ?_
    refine xg_t (xg_const) ?_
    refine xg_t (xg_icT (u := 2) (v := 2) rfl xnm0 xnm0 (by decide)) ?_
    refine xg_t (xg_blq rfl) ?_
    refine xg_t (xg_sip) ?_
    refine xg_t (xg_blq rfl) ?_
    refine xg_cVi mX12_numbered (vs := [(0, 1), (0, 999)]) (rest := [(0, (80 + (3 * u45)) + 2), (0, u45), (0, 3), (2, 82)]) (cn1 := 0) (sl1 := 0) rfl (mNumbered (hI512) (by omega) (by omega) pk517.2.2.2.1) rfl (hF513.get (by decide) h82_508) rfl rfl rfl rfl rfl rfl (fun n528 w524 hq525 => ?_)
    obtain ⟨hn529, hI526, hF527⟩ := hq525
    clear hb479 hb481 hb483 hb485 hb487 hb489 hb491 hb493 hb495 hb497 hb501 hb503 hb505 hb507
    obtain ⟨hn530, hn531, hn532⟩ := hn529
    have pk533 : PK w w524 := PK.tr pk517 hn531
    have os534 : ∀ j, (j < 80 + 3 * u45 ∨ 83 + 3 * u45 ≤ j) → j < 140 → rwv w524 86 j = rwv w 86 j := fun j hj hl => (rwv_fr hF527 (by decide)).trans (os518 j hj hl)
    have ix535 : u45 < 4 → rwv w524 86 ((80 + (3 * u45)) + 0) = n410 := fun h => (rwv_fr hF527 (by decide)).trans (ix519 h)
    have ix536 : u45 < 4 → rwv w524 86 ((80 + (3 * u45)) + 1) = n467 := fun h => (rwv_fr hF527 (by decide)).trans (hp515 h)
    have rg537 : FA w524 ≠ 0 ∨ (1 ≤ n410 ∧ n410 ≤ 10) := rg520.imp_left hn531.1
    have rg538 : FA w524 ≠ 0 ∨ (1 ≤ n467 ∧ n467 ≤ 10) := rg521.imp_left hn531.1
    have mf539 : ∀ s, s < 7 → rwv w524 85 s = rwv w 85 s := fun s hs => (rwv_fr hF527 (by decide)).trans (mf522 s hs)
    have ms540 : mu w524 < mu w := Nat.lt_of_le_of_lt hn531.2.1 ms523
    clear ix519 hp515 rg520 rg521
    refine xoCh82 (xqc82 hI526 : cp82 (wget w524 82)) (fun f82_541 f82_543 f82_545 f82_547 f82_549 f82_551 f82_553 f82_555 f82_557 f82_559 f82_561 f82_562 f82_563 f82_565 f82_567 f82_569 h82_571 hb542 hb544 hb546 hb548 hb550 hb552 hb554 hb556 hb558 hb560 hb564 hb566 hb568 hb570 hb572 => ?_)
    refine xg_cVv mX12_puts (vs := [(0, 3), (0, u45), (0, (80 + (3 * u45)) + 2), (0, n528)]) (rest := []) (cn1 := 0) (sl1 := 0) rfl (mPuts3 (hI526) (by omega) (by omega) (by omega) (fun _ => by omega)) rfl h82_571 rfl rfl rfl rfl rfl rfl (fun w573 hq574 => ?_)
    obtain ⟨hI575, hF576, hx577⟩ := hq574
    obtain ⟨hp578, hp579⟩ := hx577
    have pk580 : PK w w573 := PK.tr pk533 (PK.fr hF576 (by decide) (by decide) pk533.2.2.2.1)
    have os581 : ∀ j, (j < 80 + 3 * u45 ∨ 83 + 3 * u45 ≤ j) → j < 140 → rwv w573 86 j = rwv w 86 j := fun j hj hl => (hp579 j (by omega) hl).trans (os534 j hj hl)
    have ix582 : u45 < 4 → rwv w573 86 ((80 + (3 * u45)) + 0) = n410 := fun h => (hp579 _ (by omega) (by omega)).trans (ix535 h)
    have ix583 : u45 < 4 → rwv w573 86 ((80 + (3 * u45)) + 1) = n467 := fun h => (hp579 _ (by omega) (by omega)).trans (ix536 h)
    have rg584 : FA w573 ≠ 0 ∨ (1 ≤ n410 ∧ n410 ≤ 10) := rg537.imp_left (PK.fr hF576 (by decide) (by decide) pk533.2.2.2.1).1
    have rg585 : FA w573 ≠ 0 ∨ (1 ≤ n467 ∧ n467 ≤ 10) := rg538.imp_left (PK.fr hF576 (by decide) (by decide) pk533.2.2.2.1).1
    have rg586 : FA w573 ≠ 0 ∨ (1 ≤ n528 ∧ n528 ≤ 999) := hn532.imp_left (PK.fr hF576 (by decide) (by decide) pk533.2.2.2.1).1
    have mf587 : ∀ s, s < 7 → rwv w573 85 s = rwv w 85 s := fun s hs => (rwv_fr hF576 (by decide)).trans (mf539 s hs)
    have ms588 : mu w573 < mu w := Nat.lt_of_le_of_lt (PK.fr hF576 (by decide) (by decide) pk533.2.2.2.1).2.1 ms540
    clear ix535 ix536 rg537 rg538 hn532
    refine xg_t (xg_iinc (u := 2) (z := 3) (l1 := [(3, (0, u45)), (2, (0, at_)), (1, (0, 3)), (0, (2, 82))]) rfl rfl (by decide) rfl) ?_
    refine xg_t (xg_goto) ?_
    refine xg_t (xg_blq rfl) ?_
    refine xg_t (xg_iload (va := (0, 3)) rfl rfl) ?_
    refine xg_t (xg_const) ?_
    refine xg_t (xg_icT (u := 3) (v := 3) rfl xnm0 xnm0 (by decide)) ?_
    refine xg_t (xg_blq rfl) ?_
    refine xg_t (xg_goto) ?_
    refine xg_t (xg_drop (l1 := [(0, (2, 82)), (1, (0, 3)), (3, (0, u45))]) (List.forall_mem_cons.mpr ⟨List.mem_cons_of_mem _ (List.mem_cons_of_mem _ (List.mem_cons_of_mem _ (List.mem_cons_of_mem _ (List.mem_cons_self)))), List.forall_mem_cons.mpr ⟨List.mem_cons_of_mem _ (List.mem_cons_of_mem _ (List.mem_cons_of_mem _ (List.mem_cons_self))), List.forall_mem_cons.mpr ⟨List.mem_cons_of_mem _ (List.mem_cons_self), fun _ h => absurd h List.not_mem_nil⟩⟩⟩)) ?_
    have hX589 : FA w573 ≠ 0 ∨ u45 < 4 := Or.inr (by omega)
    exact jn68 w573 (hI575) ((((((((hF55.up (by decide)).tr (hF409.up (by decide))).tr (hF454.up (by decide))).tr (hF466.up (by decide))).tr (hF513.up (by decide))).tr (hF527.up (by decide))).tr (hF576.up (by decide)))) (⟨pk580, os581, ms588, mf587, hX589⟩)
  · refine xg_t (xg_icF (u := u45) (v := 4) rfl xnm0 xnm0 (xj_ltF (by omega) (by omega))) ?_
    refine xg_t (xg_aload (va := (2, 82)) rfl rfl) ?_
    refine xg_t (xg_const) ?_
    refine xg_t (xg_iload (va := (0, at_)) rfl rfl) ?_
    refine xg_cVv mX12_also (vs := [(0, 3), (0, at_)]) (rest := []) (cn1 := 0) (sl1 := 0) rfl (mAlso (hI) (by omega) (by omega) (by omega) (PK.rf hps).2.2.2.1) rfl h82_31 rfl rfl rfl rfl rfl rfl (fun w590 hq591 => ?_)
    obtain ⟨hI592, hF593, hx594⟩ := hq591
    obtain ⟨hv596, hv597⟩ := hx594
    have pk595 : PK w w590 := ⟨fun _ => hv596, Nat.le_of_eq (mu_fr hF593 (by decide)), fld_fr hF593 (by decide), Or.inr hv596, hv597⟩
    have pk598 : PK w w590 := PK.tr (PK.rf hps) pk595
    have os599 : ∀ j, (j < 80 + 3 * u45 ∨ 83 + 3 * u45 ≤ j) → j < 140 → rwv w590 86 j = rwv w 86 j := fun j hj hl => (rwv_fr hF593 (by decide)).trans ((fun j _ _ => rfl) j hj hl)
    have mf600 : ∀ s, s < 7 → rwv w590 85 s = rwv w 85 s := fun s hs => (rwv_fr hF593 (by decide)).trans ((fun _ _ => rfl) s hs)
    have hf601 := fld_fr (c := 82) (j := 7) hF593 (by decide)
    refine xg_t (xg_blq rfl) ?_
    refine xg_t (xg_aload (va := (2, 82)) rfl rfl) ?_
    refine xg_cVv mX12_advance (vs := []) (rest := []) (cn1 := 0) (sl1 := 0) rfl (mAdvance (hI592)) rfl (hF593.get (by decide) h82_31) rfl rfl rfl rfl rfl rfl (fun w602 hq603 => ?_)
    obtain ⟨hI604, hF605, hx606⟩ := hq603
    clear hb2 hb4 hb6 hb8 hb10 hb12 hb14 hb16 hb18 hb20 hb24 hb26 hb28 hb30
    obtain ⟨hv607, hv608, hv609, hv610⟩ := hx606
    have hf612 := FA_fr hF605 (by decide)
    have hs613 := pk598.2.2.2.1
    unfold PS at hs613
    have pk611 : PK w590 w602 := ⟨fun _ => by omega, hv607, hv610, (show fld w602 82 10 = 0 ∨ FA w602 ≠ 0 by omega), K83.fr hF605 (by decide)⟩
    clear hs613
    have pk614 : PK w w602 := PK.tr pk598 pk611
    have os615 : ∀ j, (j < 80 + 3 * u45 ∨ 83 + 3 * u45 ≤ j) → j < 140 → rwv w602 86 j = rwv w 86 j := fun j hj hl => (rwv_fr hF605 (by decide)).trans (os599 j hj hl)
    have rg616 : FA w602 ≠ 0 ∨ 0 = 1 := (Or.inl hv596 : FA w590 ≠ 0 ∨ 0 = 1).imp_left pk611.1
    have mf617 : ∀ s, s < 7 → rwv w602 85 s = rwv w 85 s := fun s hs => (rwv_fr hF605 (by decide)).trans (mf600 s hs)
    have ms618 : mu w602 < mu w := Nat.lt_of_lt_of_le (hv608 (by omega)) pk598.2.1
    clear hv608
    have jn619 : ∀ (w620 : List (List xE)), xMnv w620 → xFr [82, 83, 85, 86, 87] w w620 → (PK w w620 ∧ (∀ j, (j < 80 + 3 * u45 ∨ 83 + 3 * u45 ≤ j) → j < 140 → rwv w620 86 j = rwv w 86 j) ∧ mu w620 < mu w ∧ (∀ s, s < 7 → rwv w620 85 s = rwv w 85 s) ∧ (FA w620 ≠ 0 ∨ u45 < 4)) → xTo (d + 7) mX12_aLine (394, [], [(0, (2, 82)), (1, (0, 3)), (3, (0, u45))], [], (w620, bd, fc, 0, 0, rr)) (fun φ => ∃ w', xEnd 0 [] (w', bd, fc, 0, 0, rr) φ ∧ xMnv w' ∧ xFr [82, 83, 85, 86, 87] w w' ∧ ((FA w ≠ 0 → FA w' ≠ 0) ∧ PS w' ∧ ((fld w' 82 10 = 1 ∧ mu w' = mu w ∧ fld w' 82 14 = fld w 82 14 ∧ ∀ s, s < 7 → rwv w' 85 s = rwv w 85 s) ∨ (mu w' < mu w ∧ fld w' 82 14 = fld w 82 14 + 1 ∧ ∀ s, s < 7 → rwv w' 85 s ≤ rwv w 85 s + 1)) ∧ (FA w' ≠ 0 ∨ (DATA w → DATA w')) ∧ K83 w w')) := by
      intro w620 hI621 hF622 he623
      obtain ⟨hj624, hj625, hj626, hj627, hj628⟩ := he623
      refine xg_t (xg_blq rfl) ?_
      refine xg_t (xg_aload (va := (2, 82)) rfl rfl) ?_
      refine xoCh82 (xqc82 hI621 : cp82 (wget w620 82)) (fun f82_629 f82_631 f82_633 f82_635 f82_637 f82_639 f82_641 f82_643 f82_645 f82_647 f82_649 f82_650 f82_651 f82_653 f82_655 f82_657 h82_659 hb630 hb632 hb634 hb636 hb638 hb640 hb642 hb644 hb646 hb648 hb652 hb654 hb656 hb658 hb660 => ?_)
      refine xg_t (xg_getf (va := (0, f82_645)) h82_659 rfl) ?_
      by_cases hc661 : f82_645 = 0
      · refine xg_t (xg_ifF (u := f82_645) rfl xnm0 (xj_neF hc661)) ?_
        refine xg_t (xg_aload (va := (2, 82)) rfl rfl) ?_
        refine xg_t (xg_getf (va := (0, f82_639)) h82_659 rfl) ?_
        refine xg_t (xg_const) ?_
        by_cases hc662 : f82_639 = 2
        · refine xg_t (xg_icF (u := f82_639) (v := 2) rfl xnm0 xnm0 (xj_neF hc662)) ?_
          refine xg_t (xg_aload (va := (2, 82)) rfl rfl) ?_
          refine xg_cVv mX12_advance (vs := []) (rest := []) (cn1 := 0) (sl1 := 0) rfl (mAdvance (hI621)) rfl h82_659 rfl rfl rfl rfl rfl rfl (fun w663 hq664 => ?_)
          obtain ⟨hI665, hF666, hx667⟩ := hq664
          clear hb630 hb632 hb634 hb636 hb638 hb640 hb642 hb644 hb646 hb648 hb652 hb654 hb656 hb658
          obtain ⟨hv668, hv669, hv670, hv671⟩ := hx667
          have hf673 := FA_fr hF666 (by decide)
          have hs674 := hj624.2.2.2.1
          unfold PS at hs674
          have pk672 : PK w620 w663 := ⟨fun _ => by omega, hv668, hv671, (show fld w663 82 10 = 0 ∨ FA w663 ≠ 0 by omega), K83.fr hF666 (by decide)⟩
          clear hs674
          clear hv669
          have pk675 : PK w w663 := PK.tr hj624 pk672
          have os676 : ∀ j, (j < 80 + 3 * u45 ∨ 83 + 3 * u45 ≤ j) → j < 140 → rwv w663 86 j = rwv w 86 j := fun j hj hl => (rwv_fr hF666 (by decide)).trans (hj625 j hj hl)
          have rg677 : FA w663 ≠ 0 ∨ u45 < 4 := hj628.imp_left pk672.1
          have mf678 : ∀ s, s < 7 → rwv w663 85 s = rwv w 85 s := fun s hs => (rwv_fr hF666 (by decide)).trans (hj627 s hs)
          have ms679 : mu w663 < mu w := Nat.lt_of_le_of_lt pk672.2.1 hj626
          clear hj628
          refine xg_t (xg_goto) ?_
          refine xg_t (xg_blq rfl) ?_
          refine xoCh82 (xqc82 hI665 : cp82 (wget w663 82)) (fun f82_680 f82_682 f82_684 f82_686 f82_688 f82_690 f82_692 f82_694 f82_696 f82_698 f82_700 f82_701 f82_702 f82_704 f82_706 f82_708 h82_710 hb681 hb683 hb685 hb687 hb689 hb691 hb693 hb695 hb697 hb699 hb703 hb705 hb707 hb709 hb711 => ?_)
          have hf712 : fld w663 82 4 = f82_684 := fld_of h82_710
          have hf713 : fld w663 82 5 = f82_686 := fld_of h82_710
          have hf714 : fld w663 82 7 = f82_690 := fld_of h82_710
          have hf715 : fld w663 82 10 = f82_696 := fld_of h82_710
          have hf716 : fld w663 82 14 = f82_698 := fld_of h82_710
          have hu717 : mu w663 = 2 * (fld w663 82 4 - fld w663 82 5) + min 1 (fld w663 82 7) := rfl
          have hf718 := pk675.2.2.1
          have hl719 : f82_698 ≤ 1000 := by omega
          refine xg_t (xg_aload (va := (2, 82)) rfl rfl) ?_
          refine xg_t (xg_getf (va := (2, 85)) h82_710 rfl) ?_
          refine xg_t (xg_iload (va := (0, 3)) rfl rfl) ?_
          refine xg_t (xg_dup2 rfl) ?_
          refine xoI (xqc85 hI665 : cpI 7 52 4294967295 (wget w663 85)) (fun g85_720 h85_721 hb722 => ?_)
          refine xg_ialdB (n := 3) (B := 4294967295) h85_721 (hb722) xnm0 (by first | decide | omega) (fun u723 hu724 he725 => ?_)
          have hl726 : u723 = u45 := by have q1 := rwv_of h85_721 (show 3 < 7 by decide); have q2 := mf678 3 (by decide); omega
          refine xg_t (xg_const) ?_
          refine xg_t (xg_iadd (u := u723) (v := 1) (z := u723 + 1) xnm0 xnm0 (by omega)) ?_
          refine xg_iastK (n := 3) (u := u723 + 1) h85_721 xnm0 xnm0 rfl (by first | decide | omega) (fun w727 hr728 hb729 => ?_)
          refine xg_t (xg_aload (va := (2, 82)) rfl rfl) ?_
          refine xg_t (xg_dup rfl) ?_
          refine xg_t (xg_getf (va := (0, f82_698)) (hb729.get (by decide) h82_710) rfl) ?_
          have hn730 := id hb699
          unfold xHid at hn730
          refine xg_t (xg_const) ?_
          refine xg_t (xg_iadd (u := f82_698) (v := 1) (z := f82_698 + 1) xnm0 xnm0 (by omega)) ?_
          refine xg_putI (fl1 := [(2, 83), (2, 84), (0, f82_680), (0, f82_682), (0, f82_684), (0, f82_686), (0, f82_688), (0, f82_690), (0, f82_692), (0, f82_694), (0, f82_696), (2, 85), (2, 86), (2, 87), (0, f82_698 + 1), (2, 88), (2, 89), (2, 90), (2, 91), (2, 92), (2, 93), (2, 94), (4, f82_700), (4, f82_701), (0, f82_702), (2, 95), (2, 96), (2, 97), (2, 98), (2, 99), (2, 100), (2, 101), (2, 102), (0, f82_704), (2, 103), (2, 104), (2, 105), (2, 106), (2, 107), (2, 108), (2, 109), (0, f82_706), (0, f82_708), (2, 110), (2, 111), (2, 112), (2, 113)]) (hb729.get (by decide) h82_710) rfl rfl rfl (fun w731 hk732 hb733 => ?_)
          have hF734 : xFr [82, 85] w663 w731 := ((xFr.of (S := [82, 85]) hb729 (by decide)).tr (xFr.of (S := [82, 85]) hb733 (by decide)))
          have hA735 := FA_fr hF734 (by decide)
          have hf736 : fld w731 82 4 = f82_684 := fld_of hk732
          have hf737 : fld w731 82 5 = f82_686 := fld_of hk732
          have hf738 : fld w731 82 7 = f82_690 := fld_of hk732
          have hf739 : fld w731 82 10 = f82_696 := fld_of hk732
          have hf740 : fld w731 82 14 = f82_698 + 1 := fld_of hk732
          have hu741 : mu w731 = 2 * (fld w731 82 4 - fld w731 82 5) + min 1 (fld w731 82 7) := rfl
          have pq742 := pk675
          unfold PK PS at pq742
          have hM743 : ∀ s, s < 7 → s ≠ 3 → rwv w731 85 s = rwv w 85 s := fun s hs hn => (rwv_of (hr728.but hb733 (by decide)) hs).trans ((if_neg hn).trans ((rwv_of h85_721 hs).symm.trans (mf678 s hs)))
          have hM744 : rwv w731 85 3 = u45 + 1 := (rwv_of (hr728.but hb733 (by decide)) (by decide)).trans ((if_pos rfl).trans (by omega))
          have hM745 : ∀ s, s < 7 → rwv w731 85 s ≤ rwv w 85 s + 1 := fun s hs => by
            by_cases z : s = 3
            · subst z; omega
            · rw [hM743 s hs z]; omega
          have hO746 : ∀ j, (j < 80 + 3 * u45 ∨ 83 + 3 * u45 ≤ j) → j < 140 → rwv w731 86 j = rwv w 86 j := fun j hj hl => (rwv_fr hF734 (by decide)).trans (os676 j hj hl)
          have hl748 : FA w663 ≠ 0 ∨ u45 < 4 := rg677
          have hN747 : FA w731 ≠ 0 ∨ 4 ≤ u45 ∨ True := Or.inr (Or.inr trivial)
          have hX749 : FA w731 ≠ 0 ∨ u45 < 4 := by omega
          have hD750 : FA w731 ≠ 0 ∨ (DATA w → DATA w731) := by
            by_cases z : FA w731 ≠ 0
            · exact Or.inl z
            · exact Or.inr (fun hd => hd.s3 hM743 hK48 hM744 (hX749.resolve_left z) hO746 ((hN747.resolve_left z).resolve_left (by have := hX749.resolve_left z; omega)))
          exact xg_e ⟨w731, ⟨rfl, rfl⟩, xMnv.up (S := [85, 82]) hI665 ((xFr.of (S := [85, 82]) hb729 (by decide)).tr (xFr.of (S := [85, 82]) hb733 (by decide))) (List.forall_mem_cons.mpr ⟨xqu85 (show cpI 7 52 4294967295 (wget w731 85) from ⟨_, (hr728.but hb733 (by decide)), xrb (by omega) (hb722)⟩), List.forall_mem_cons.mpr ⟨xqu82 (show cp82 (wget w731 82) from xmC82 f82_680 f82_682 f82_684 f82_686 f82_688 f82_690 f82_692 f82_694 f82_696 (f82_698 + 1) f82_700 f82_701 f82_702 f82_704 f82_706 f82_708 hk732 hb681 hb683 hb685 hb687 hb689 hb691 hb693 hb695 hb697 (by omega) hb703 hb705 hb707 hb709 (by omega)), fun _ h => absurd h List.not_mem_nil⟩⟩), ((hF622.tr (hF666.up (by decide))).tr ((xFr.of (S := [82, 83, 85, 86, 87]) hb729 (by decide)).tr (xFr.of (S := [82, 83, 85, 86, 87]) hb733 (by decide)))), ⟨fun h => by have := pq742.1 h; omega, (show fld w731 82 10 = 0 ∨ FA w731 ≠ 0 by omega), Or.inr ⟨by have := ms679; omega, by omega, hM745⟩, hD750, pk675.2.2.2.2.tr (K83.fr hF734 (by decide))⟩⟩
        · refine xg_t (xg_icT (u := f82_639) (v := 2) rfl xnm0 xnm0 (xj_neT hc662)) ?_
          refine xg_t (xg_blq rfl) ?_
          refine xg_t (xg_aload (va := (2, 82)) rfl rfl) ?_
          refine xg_cVv mX12_ends (vs := []) (rest := []) (cn1 := 0) (sl1 := 0) rfl (mEnds (hI621) hj624.2.2.2.1) rfl h82_659 rfl rfl rfl rfl rfl rfl (fun w751 hq752 => ?_)
          obtain ⟨hI753, hF754, hx755⟩ := hq752
          clear hb630 hb632 hb634 hb636 hb638 hb640 hb642 hb644 hb646 hb648 hb652 hb654 hb656 hb658
          obtain ⟨hv756, hv757, hv758, hv759, hv760⟩ := hx755
          have pk761 : PK w620 w751 := ⟨fun _ => hv756, by omega, by omega, Or.inr hv756, hv760⟩
          have pk762 : PK w w751 := PK.tr hj624 pk761
          have os763 : ∀ j, (j < 80 + 3 * u45 ∨ 83 + 3 * u45 ≤ j) → j < 140 → rwv w751 86 j = rwv w 86 j := fun j hj hl => (rwv_fr hF754 (by decide)).trans (hj625 j hj hl)
          have rg764 : FA w751 ≠ 0 ∨ u45 < 4 := hj628.imp_left pk761.1
          have mf765 : ∀ s, s < 7 → rwv w751 85 s = rwv w 85 s := fun s hs => (rwv_fr hF754 (by decide)).trans (hj627 s hs)
          have ms766 : mu w751 < mu w := Nat.lt_of_le_of_lt pk761.2.1 hj626
          clear hj628
          refine xg_t (xg_blq rfl) ?_
          refine xoCh82 (xqc82 hI753 : cp82 (wget w751 82)) (fun f82_767 f82_769 f82_771 f82_773 f82_775 f82_777 f82_779 f82_781 f82_783 f82_785 f82_787 f82_788 f82_789 f82_791 f82_793 f82_795 h82_797 hb768 hb770 hb772 hb774 hb776 hb778 hb780 hb782 hb784 hb786 hb790 hb792 hb794 hb796 hb798 => ?_)
          have hf799 : fld w751 82 4 = f82_771 := fld_of h82_797
          have hf800 : fld w751 82 5 = f82_773 := fld_of h82_797
          have hf801 : fld w751 82 7 = f82_777 := fld_of h82_797
          have hf802 : fld w751 82 10 = f82_783 := fld_of h82_797
          have hf803 : fld w751 82 14 = f82_785 := fld_of h82_797
          have hu804 : mu w751 = 2 * (fld w751 82 4 - fld w751 82 5) + min 1 (fld w751 82 7) := rfl
          have hf805 := pk762.2.2.1
          have hl806 : f82_785 ≤ 1000 := by omega
          refine xg_t (xg_aload (va := (2, 82)) rfl rfl) ?_
          refine xg_t (xg_getf (va := (2, 85)) h82_797 rfl) ?_
          refine xg_t (xg_iload (va := (0, 3)) rfl rfl) ?_
          refine xg_t (xg_dup2 rfl) ?_
          refine xoI (xqc85 hI753 : cpI 7 52 4294967295 (wget w751 85)) (fun g85_807 h85_808 hb809 => ?_)
          refine xg_ialdB (n := 3) (B := 4294967295) h85_808 (hb809) xnm0 (by first | decide | omega) (fun u810 hu811 he812 => ?_)
          have hl813 : u810 = u45 := by have q1 := rwv_of h85_808 (show 3 < 7 by decide); have q2 := mf765 3 (by decide); omega
          refine xg_t (xg_const) ?_
          refine xg_t (xg_iadd (u := u810) (v := 1) (z := u810 + 1) xnm0 xnm0 (by omega)) ?_
          refine xg_iastK (n := 3) (u := u810 + 1) h85_808 xnm0 xnm0 rfl (by first | decide | omega) (fun w814 hr815 hb816 => ?_)
          refine xg_t (xg_aload (va := (2, 82)) rfl rfl) ?_
          refine xg_t (xg_dup rfl) ?_
          refine xg_t (xg_getf (va := (0, f82_785)) (hb816.get (by decide) h82_797) rfl) ?_
          have hn817 := id hb786
          unfold xHid at hn817
          refine xg_t (xg_const) ?_
          refine xg_t (xg_iadd (u := f82_785) (v := 1) (z := f82_785 + 1) xnm0 xnm0 (by omega)) ?_
          refine xg_putI (fl1 := [(2, 83), (2, 84), (0, f82_767), (0, f82_769), (0, f82_771), (0, f82_773), (0, f82_775), (0, f82_777), (0, f82_779), (0, f82_781), (0, f82_783), (2, 85), (2, 86), (2, 87), (0, f82_785 + 1), (2, 88), (2, 89), (2, 90), (2, 91), (2, 92), (2, 93), (2, 94), (4, f82_787), (4, f82_788), (0, f82_789), (2, 95), (2, 96), (2, 97), (2, 98), (2, 99), (2, 100), (2, 101), (2, 102), (0, f82_791), (2, 103), (2, 104), (2, 105), (2, 106), (2, 107), (2, 108), (2, 109), (0, f82_793), (0, f82_795), (2, 110), (2, 111), (2, 112), (2, 113)]) (hb816.get (by decide) h82_797) rfl rfl rfl (fun w818 hk819 hb820 => ?_)
          have hF821 : xFr [82, 85] w751 w818 := ((xFr.of (S := [82, 85]) hb816 (by decide)).tr (xFr.of (S := [82, 85]) hb820 (by decide)))
          have hA822 := FA_fr hF821 (by decide)
          have hf823 : fld w818 82 4 = f82_771 := fld_of hk819
          have hf824 : fld w818 82 5 = f82_773 := fld_of hk819
          have hf825 : fld w818 82 7 = f82_777 := fld_of hk819
          have hf826 : fld w818 82 10 = f82_783 := fld_of hk819
          have hf827 : fld w818 82 14 = f82_785 + 1 := fld_of hk819
          have hu828 : mu w818 = 2 * (fld w818 82 4 - fld w818 82 5) + min 1 (fld w818 82 7) := rfl
          have pq829 := pk762
          unfold PK PS at pq829
          have hM830 : ∀ s, s < 7 → s ≠ 3 → rwv w818 85 s = rwv w 85 s := fun s hs hn => (rwv_of (hr815.but hb820 (by decide)) hs).trans ((if_neg hn).trans ((rwv_of h85_808 hs).symm.trans (mf765 s hs)))
          have hM831 : rwv w818 85 3 = u45 + 1 := (rwv_of (hr815.but hb820 (by decide)) (by decide)).trans ((if_pos rfl).trans (by omega))
          have hM832 : ∀ s, s < 7 → rwv w818 85 s ≤ rwv w 85 s + 1 := fun s hs => by
            by_cases z : s = 3
            · subst z; omega
            · rw [hM830 s hs z]; omega
          have hO833 : ∀ j, (j < 80 + 3 * u45 ∨ 83 + 3 * u45 ≤ j) → j < 140 → rwv w818 86 j = rwv w 86 j := fun j hj hl => (rwv_fr hF821 (by decide)).trans (os763 j hj hl)
          have hl835 : FA w751 ≠ 0 ∨ u45 < 4 := rg764
          have hN834 : FA w818 ≠ 0 ∨ 4 ≤ u45 ∨ True := Or.inr (Or.inr trivial)
          have hX836 : FA w818 ≠ 0 ∨ u45 < 4 := by omega
          have hD837 : FA w818 ≠ 0 ∨ (DATA w → DATA w818) := by
            by_cases z : FA w818 ≠ 0
            · exact Or.inl z
            · exact Or.inr (fun hd => hd.s3 hM830 hK48 hM831 (hX836.resolve_left z) hO833 ((hN834.resolve_left z).resolve_left (by have := hX836.resolve_left z; omega)))
          exact xg_e ⟨w818, ⟨rfl, rfl⟩, xMnv.up (S := [85, 82]) hI753 ((xFr.of (S := [85, 82]) hb816 (by decide)).tr (xFr.of (S := [85, 82]) hb820 (by decide))) (List.forall_mem_cons.mpr ⟨xqu85 (show cpI 7 52 4294967295 (wget w818 85) from ⟨_, (hr815.but hb820 (by decide)), xrb (by omega) (hb809)⟩), List.forall_mem_cons.mpr ⟨xqu82 (show cp82 (wget w818 82) from xmC82 f82_767 f82_769 f82_771 f82_773 f82_775 f82_777 f82_779 f82_781 f82_783 (f82_785 + 1) f82_787 f82_788 f82_789 f82_791 f82_793 f82_795 hk819 hb768 hb770 hb772 hb774 hb776 hb778 hb780 hb782 hb784 (by omega) hb790 hb792 hb794 hb796 (by omega)), fun _ h => absurd h List.not_mem_nil⟩⟩), ((hF622.tr (hF754.up (by decide))).tr ((xFr.of (S := [82, 83, 85, 86, 87]) hb816 (by decide)).tr (xFr.of (S := [82, 83, 85, 86, 87]) hb820 (by decide)))), ⟨fun h => by have := pq829.1 h; omega, (show fld w818 82 10 = 0 ∨ FA w818 ≠ 0 by omega), Or.inr ⟨by have := ms766; omega, by omega, hM832⟩, hD837, pk762.2.2.2.2.tr (K83.fr hF821 (by decide))⟩⟩
      · refine xg_t (xg_ifT (u := f82_645) rfl xnm0 (xj_neT hc661)) ?_
        refine xg_t (xg_blq rfl) ?_
        refine xg_t (xg_aload (va := (2, 82)) rfl rfl) ?_
        refine xg_cVv mX12_ends (vs := []) (rest := []) (cn1 := 0) (sl1 := 0) rfl (mEnds (hI621) hj624.2.2.2.1) rfl h82_659 rfl rfl rfl rfl rfl rfl (fun w838 hq839 => ?_)
        obtain ⟨hI840, hF841, hx842⟩ := hq839
        clear hb630 hb632 hb634 hb636 hb638 hb640 hb642 hb644 hb646 hb648 hb652 hb654 hb656 hb658
        obtain ⟨hv843, hv844, hv845, hv846, hv847⟩ := hx842
        have pk848 : PK w620 w838 := ⟨fun _ => hv843, by omega, by omega, Or.inr hv843, hv847⟩
        have pk849 : PK w w838 := PK.tr hj624 pk848
        have os850 : ∀ j, (j < 80 + 3 * u45 ∨ 83 + 3 * u45 ≤ j) → j < 140 → rwv w838 86 j = rwv w 86 j := fun j hj hl => (rwv_fr hF841 (by decide)).trans (hj625 j hj hl)
        have rg851 : FA w838 ≠ 0 ∨ u45 < 4 := hj628.imp_left pk848.1
        have mf852 : ∀ s, s < 7 → rwv w838 85 s = rwv w 85 s := fun s hs => (rwv_fr hF841 (by decide)).trans (hj627 s hs)
        have ms853 : mu w838 < mu w := Nat.lt_of_le_of_lt pk848.2.1 hj626
        clear hj628
        refine xg_t (xg_blq rfl) ?_
        refine xoCh82 (xqc82 hI840 : cp82 (wget w838 82)) (fun f82_854 f82_856 f82_858 f82_860 f82_862 f82_864 f82_866 f82_868 f82_870 f82_872 f82_874 f82_875 f82_876 f82_878 f82_880 f82_882 h82_884 hb855 hb857 hb859 hb861 hb863 hb865 hb867 hb869 hb871 hb873 hb877 hb879 hb881 hb883 hb885 => ?_)
        have hf886 : fld w838 82 4 = f82_858 := fld_of h82_884
        have hf887 : fld w838 82 5 = f82_860 := fld_of h82_884
        have hf888 : fld w838 82 7 = f82_864 := fld_of h82_884
        have hf889 : fld w838 82 10 = f82_870 := fld_of h82_884
        have hf890 : fld w838 82 14 = f82_872 := fld_of h82_884
        have hu891 : mu w838 = 2 * (fld w838 82 4 - fld w838 82 5) + min 1 (fld w838 82 7) := rfl
        have hf892 := pk849.2.2.1
        have hl893 : f82_872 ≤ 1000 := by omega
        refine xg_t (xg_aload (va := (2, 82)) rfl rfl) ?_
        refine xg_t (xg_getf (va := (2, 85)) h82_884 rfl) ?_
        refine xg_t (xg_iload (va := (0, 3)) rfl rfl) ?_
        refine xg_t (xg_dup2 rfl) ?_
        refine xoI (xqc85 hI840 : cpI 7 52 4294967295 (wget w838 85)) (fun g85_894 h85_895 hb896 => ?_)
        refine xg_ialdB (n := 3) (B := 4294967295) h85_895 (hb896) xnm0 (by first | decide | omega) (fun u897 hu898 he899 => ?_)
        have hl900 : u897 = u45 := by have q1 := rwv_of h85_895 (show 3 < 7 by decide); have q2 := mf852 3 (by decide); omega
        refine xg_t (xg_const) ?_
        refine xg_t (xg_iadd (u := u897) (v := 1) (z := u897 + 1) xnm0 xnm0 (by omega)) ?_
        refine xg_iastK (n := 3) (u := u897 + 1) h85_895 xnm0 xnm0 rfl (by first | decide | omega) (fun w901 hr902 hb903 => ?_)
        refine xg_t (xg_aload (va := (2, 82)) rfl rfl) ?_
        refine xg_t (xg_dup rfl) ?_
        refine xg_t (xg_getf (va := (0, f82_872)) (hb903.get (by decide) h82_884) rfl) ?_
        have hn904 := id hb873
        unfold xHid at hn904
        refine xg_t (xg_const) ?_
        refine xg_t (xg_iadd (u := f82_872) (v := 1) (z := f82_872 + 1) xnm0 xnm0 (by omega)) ?_
        refine xg_putI (fl1 := [(2, 83), (2, 84), (0, f82_854), (0, f82_856), (0, f82_858), (0, f82_860), (0, f82_862), (0, f82_864), (0, f82_866), (0, f82_868), (0, f82_870), (2, 85), (2, 86), (2, 87), (0, f82_872 + 1), (2, 88), (2, 89), (2, 90), (2, 91), (2, 92), (2, 93), (2, 94), (4, f82_874), (4, f82_875), (0, f82_876), (2, 95), (2, 96), (2, 97), (2, 98), (2, 99), (2, 100), (2, 101), (2, 102), (0, f82_878), (2, 103), (2, 104), (2, 105), (2, 106), (2, 107), (2, 108), (2, 109), (0, f82_880), (0, f82_882), (2, 110), (2, 111), (2, 112), (2, 113)]) (hb903.get (by decide) h82_884) rfl rfl rfl (fun w905 hk906 hb907 => ?_)
        have hF908 : xFr [82, 85] w838 w905 := ((xFr.of (S := [82, 85]) hb903 (by decide)).tr (xFr.of (S := [82, 85]) hb907 (by decide)))
        have hA909 := FA_fr hF908 (by decide)
        have hf910 : fld w905 82 4 = f82_858 := fld_of hk906
        have hf911 : fld w905 82 5 = f82_860 := fld_of hk906
        have hf912 : fld w905 82 7 = f82_864 := fld_of hk906
        have hf913 : fld w905 82 10 = f82_870 := fld_of hk906
        have hf914 : fld w905 82 14 = f82_872 + 1 := fld_of hk906
        have hu915 : mu w905 = 2 * (fld w905 82 4 - fld w905 82 5) + min 1 (fld w905 82 7) := rfl
        have pq916 := pk849
        unfold PK PS at pq916
        have hM917 : ∀ s, s < 7 → s ≠ 3 → rwv w905 85 s = rwv w 85 s := fun s hs hn => (rwv_of (hr902.but hb907 (by decide)) hs).trans ((if_neg hn).trans ((rwv_of h85_895 hs).symm.trans (mf852 s hs)))
        have hM918 : rwv w905 85 3 = u45 + 1 := (rwv_of (hr902.but hb907 (by decide)) (by decide)).trans ((if_pos rfl).trans (by omega))
        have hM919 : ∀ s, s < 7 → rwv w905 85 s ≤ rwv w 85 s + 1 := fun s hs => by
          by_cases z : s = 3
          · subst z; omega
          · rw [hM917 s hs z]; omega
        have hO920 : ∀ j, (j < 80 + 3 * u45 ∨ 83 + 3 * u45 ≤ j) → j < 140 → rwv w905 86 j = rwv w 86 j := fun j hj hl => (rwv_fr hF908 (by decide)).trans (os850 j hj hl)
        have hl922 : FA w838 ≠ 0 ∨ u45 < 4 := rg851
        have hN921 : FA w905 ≠ 0 ∨ 4 ≤ u45 ∨ True := Or.inr (Or.inr trivial)
        have hX923 : FA w905 ≠ 0 ∨ u45 < 4 := by omega
        have hD924 : FA w905 ≠ 0 ∨ (DATA w → DATA w905) := by
          by_cases z : FA w905 ≠ 0
          · exact Or.inl z
          · exact Or.inr (fun hd => hd.s3 hM917 hK48 hM918 (hX923.resolve_left z) hO920 ((hN921.resolve_left z).resolve_left (by have := hX923.resolve_left z; omega)))
        exact xg_e ⟨w905, ⟨rfl, rfl⟩, xMnv.up (S := [85, 82]) hI840 ((xFr.of (S := [85, 82]) hb903 (by decide)).tr (xFr.of (S := [85, 82]) hb907 (by decide))) (List.forall_mem_cons.mpr ⟨xqu85 (show cpI 7 52 4294967295 (wget w905 85) from ⟨_, (hr902.but hb907 (by decide)), xrb (by omega) (hb896)⟩), List.forall_mem_cons.mpr ⟨xqu82 (show cp82 (wget w905 82) from xmC82 f82_854 f82_856 f82_858 f82_860 f82_862 f82_864 f82_866 f82_868 f82_870 (f82_872 + 1) f82_874 f82_875 f82_876 f82_878 f82_880 f82_882 hk906 hb855 hb857 hb859 hb861 hb863 hb865 hb867 hb869 hb871 (by omega) hb877 hb879 hb881 hb883 (by omega)), fun _ h => absurd h List.not_mem_nil⟩⟩), ((hF622.tr (hF841.up (by decide))).tr ((xFr.of (S := [82, 83, 85, 86, 87]) hb903 (by decide)).tr (xFr.of (S := [82, 83, 85, 86, 87]) hb907 (by decide)))), ⟨fun h => by have := pq916.1 h; omega, (show fld w905 82 10 = 0 ∨ FA w905 ≠ 0 by omega), Or.inr ⟨by have := ms853; omega, by omega, hM919⟩, hD924, pk849.2.2.2.2.tr (K83.fr hF908 (by decide))⟩⟩
    refine xg_t (xg_iload (va := (0, 3)) rfl rfl) ?_
    refine xg_t (xg_swt (ks := [(0, 108), (1, 116), (2, 180), (3, 221), (4, 273), (5, 326)]) (u := 3) (z := 221) rfl rfl rfl xnm0 (xsw_n (by omega) (xsw_n (by omega) (xsw_n (by omega) (xsw_y rfl))))) ?_
    refine xg_t (xg_blq rfl) ?_
    refine xg_t (xg_const) ?_
    refine xg_t (xg_istore (l1 := [(3, (0, u45)), (2, (0, at_)), (1, (0, 3)), (0, (2, 82))]) rfl rfl rfl) ?_
    refine xg_t (xg_blq rfl) ?_
    refine xg_t (xg_iload (va := (0, 0)) rfl rfl) ?_
    refine xg_t (xg_const) ?_
    refine xg_t (xg_icF (u := 0) (v := 3) rfl xnm0 xnm0 (by decide)) ?_
    refine xg_t (xg_aload (va := (2, 82)) rfl rfl) ?_
    refine xg_t (xg_iload (va := (0, 3)) rfl rfl) ?_
    refine xg_t (xg_iload (va := (0, u45)) rfl rfl) ?_
    refine xg_t (xg_bip) ?_
    refine xg_t (xg_const) ?_
    refine xg_t (xg_iload (va := (0, u45)) rfl rfl) ?_
    refine xg_t (xg_imul (u := 3) (v := u45) (z := 3 * u45) xnm0 xnm0 (by omega)) ?_
    refine xg_t (xg_iadd (u := 80) (v := 3 * u45) (z := 80 + (3 * u45)) xnm0 xnm0 (by omega)) ?_
    refine xg_t (xg_iload (va := (0, 0)) rfl rfl) ?_
    refine xg_t (xg_iadd (u := 80 + (3 * u45)) (v := 0) (z := (80 + (3 * u45)) + 0) xnm0 xnm0 (by omega)) ?_
    refine xg_t (xg_aload (va := (2, 82)) rfl rfl) ?_
    refine xg_t (xg_const) ?_
    refine xg_t (xg_iload (va := (0, 0)) rfl rfl) ?_
    refine xg_t (xg_const) ?_
    refine xg_t (xg_icF (u := 0) (v := 2) rfl xnm0 xnm0 (by decide)) ?_
    refine xg_t (xg_bip) ?_
    refine xg_t (xg_goto) ?_
    refine xg_t (xg_blq rfl) ?_
    refine xoCh82 (xqc82 hI604 : cp82 (wget w602 82)) (fun f82_925 f82_927 f82_929 f82_931 f82_933 f82_935 f82_937 f82_939 f82_941 f82_943 f82_945 f82_946 f82_947 f82_949 f82_951 f82_953 h82_955 hb926 hb928 hb930 hb932 hb934 hb936 hb938 hb940 hb942 hb944 hb948 hb950 hb952 hb954 hb956 => ?_)
    refine xg_cVi mX12_numbered (vs := [(0, 1), (0, 10)]) (rest := [(0, (80 + (3 * u45)) + 0), (0, u45), (0, 3), (2, 82)]) (cn1 := 0) (sl1 := 0) rfl (mNumbered (hI604) (by omega) (by omega) pk614.2.2.2.1) rfl h82_955 rfl rfl rfl rfl rfl rfl (fun n961 w957 hq958 => ?_)
    obtain ⟨hn962, hI959, hF960⟩ := hq958
    clear hb926 hb928 hb930 hb932 hb934 hb936 hb938 hb940 hb942 hb944 hb948 hb950 hb952 hb954
    obtain ⟨hn963, hn964, hn965⟩ := hn962
    have pk966 : PK w w957 := PK.tr pk614 hn964
    have os967 : ∀ j, (j < 80 + 3 * u45 ∨ 83 + 3 * u45 ≤ j) → j < 140 → rwv w957 86 j = rwv w 86 j := fun j hj hl => (rwv_fr hF960 (by decide)).trans (os615 j hj hl)
    have rg968 : FA w957 ≠ 0 ∨ 0 = 1 := rg616.imp_left hn964.1
    have mf969 : ∀ s, s < 7 → rwv w957 85 s = rwv w 85 s := fun s hs => (rwv_fr hF960 (by decide)).trans (mf617 s hs)
    have ms970 : mu w957 < mu w := Nat.lt_of_le_of_lt hn964.2.1 ms618
    clear rg616
    refine xoCh82 (xqc82 hI959 : cp82 (wget w957 82)) (fun f82_971 f82_973 f82_975 f82_977 f82_979 f82_981 f82_983 f82_985 f82_987 f82_989 f82_991 f82_992 f82_993 f82_995 f82_997 f82_999 h82_1001 hb972 hb974 hb976 hb978 hb980 hb982 hb984 hb986 hb988 hb990 hb994 hb996 hb998 hb1000 hb1002 => ?_)
    refine xg_cVv mX12_puts (vs := [(0, 3), (0, u45), (0, (80 + (3 * u45)) + 0), (0, n961)]) (rest := []) (cn1 := 0) (sl1 := 0) rfl (mPuts3 (hI959) (by omega) (by omega) (by omega) (fun _ => by omega)) rfl h82_1001 rfl rfl rfl rfl rfl rfl (fun w1003 hq1004 => ?_)
    obtain ⟨hI1005, hF1006, hx1007⟩ := hq1004
    obtain ⟨hp1008, hp1009⟩ := hx1007
    have pk1010 : PK w w1003 := PK.tr pk966 (PK.fr hF1006 (by decide) (by decide) pk966.2.2.2.1)
    have os1011 : ∀ j, (j < 80 + 3 * u45 ∨ 83 + 3 * u45 ≤ j) → j < 140 → rwv w1003 86 j = rwv w 86 j := fun j hj hl => (hp1009 j (by omega) hl).trans (os967 j hj hl)
    have rg1012 : FA w1003 ≠ 0 ∨ 0 = 1 := rg968.imp_left (PK.fr hF1006 (by decide) (by decide) pk966.2.2.2.1).1
    have rg1013 : FA w1003 ≠ 0 ∨ (1 ≤ n961 ∧ n961 ≤ 10) := hn965.imp_left (PK.fr hF1006 (by decide) (by decide) pk966.2.2.2.1).1
    have mf1014 : ∀ s, s < 7 → rwv w1003 85 s = rwv w 85 s := fun s hs => (rwv_fr hF1006 (by decide)).trans (mf969 s hs)
    have ms1015 : mu w1003 < mu w := Nat.lt_of_le_of_lt (PK.fr hF1006 (by decide) (by decide) pk966.2.2.2.1).2.1 ms970
    clear rg968 hn965
    refine xg_t (xg_iinc (u := 0) (z := 1) (l1 := [(3, (0, u45)), (2, (0, at_)), (1, (0, 3)), (0, (2, 82))]) rfl rfl (by decide) rfl) ?_
    refine xg_t (xg_goto) ?_
    refine xg_t (xg_blq rfl) ?_
    refine xg_t (xg_iload (va := (0, 1)) rfl rfl) ?_
    refine xg_t (xg_const) ?_
    refine xg_t (xg_icF (u := 1) (v := 3) rfl xnm0 xnm0 (by decide)) ?_
    refine xg_t (xg_aload (va := (2, 82)) rfl rfl) ?_
    refine xg_t (xg_iload (va := (0, 3)) rfl rfl) ?_
    refine xg_t (xg_iload (va := (0, u45)) rfl rfl) ?_
    refine xg_t (xg_bip) ?_
    refine xg_t (xg_const) ?_
    refine xg_t (xg_iload (va := (0, u45)) rfl rfl) ?_
    refine xg_t (xg_imul (u := 3) (v := u45) (z := 3 * u45) xnm0 xnm0 (by omega)) ?_
    refine xg_t (xg_iadd (u := 80) (v := 3 * u45) (z := 80 + (3 * u45)) xnm0 xnm0 (by omega)) ?_
    refine xg_t (xg_iload (va := (0, 1)) rfl rfl) ?_
    refine xg_t (xg_iadd (u := 80 + (3 * u45)) (v := 1) (z := (80 + (3 * u45)) + 1) xnm0 xnm0 (by omega)) ?_
    refine xg_t (xg_aload (va := (2, 82)) rfl rfl) ?_
    refine xg_t (xg_const) ?_
    refine xg_t (xg_iload (va := (0, 1)) rfl rfl) ?_
    refine xg_t (xg_const) ?_
    refine xg_t (xg_icF (u := 1) (v := 2) rfl xnm0 xnm0 (by decide)) ?_
    refine xg_t (xg_bip) ?_
    refine xg_t (xg_goto) ?_
    refine xg_t (xg_blq rfl) ?_
    refine xg_cVi mX12_numbered (vs := [(0, 1), (0, 10)]) (rest := [(0, (80 + (3 * u45)) + 1), (0, u45), (0, 3), (2, 82)]) (cn1 := 0) (sl1 := 0) rfl (mNumbered (hI1005) (by omega) (by omega) pk1010.2.2.2.1) rfl (hF1006.get (by decide) h82_1001) rfl rfl rfl rfl rfl rfl (fun n1020 w1016 hq1017 => ?_)
    obtain ⟨hn1021, hI1018, hF1019⟩ := hq1017
    clear hb972 hb974 hb976 hb978 hb980 hb982 hb984 hb986 hb988 hb990 hb994 hb996 hb998 hb1000
    obtain ⟨hn1022, hn1023, hn1024⟩ := hn1021
    have pk1025 : PK w w1016 := PK.tr pk1010 hn1023
    have os1026 : ∀ j, (j < 80 + 3 * u45 ∨ 83 + 3 * u45 ≤ j) → j < 140 → rwv w1016 86 j = rwv w 86 j := fun j hj hl => (rwv_fr hF1019 (by decide)).trans (os1011 j hj hl)
    have ix1027 : u45 < 4 → rwv w1016 86 ((80 + (3 * u45)) + 0) = n961 := fun h => (rwv_fr hF1019 (by decide)).trans (hp1008 h)
    have rg1028 : FA w1016 ≠ 0 ∨ 0 = 1 := rg1012.imp_left hn1023.1
    have rg1029 : FA w1016 ≠ 0 ∨ (1 ≤ n961 ∧ n961 ≤ 10) := rg1013.imp_left hn1023.1
    have mf1030 : ∀ s, s < 7 → rwv w1016 85 s = rwv w 85 s := fun s hs => (rwv_fr hF1019 (by decide)).trans (mf1014 s hs)
    have ms1031 : mu w1016 < mu w := Nat.lt_of_le_of_lt hn1023.2.1 ms1015
    clear hp1008 rg1012 rg1013
    refine xoCh82 (xqc82 hI1018 : cp82 (wget w1016 82)) (fun f82_1032 f82_1034 f82_1036 f82_1038 f82_1040 f82_1042 f82_1044 f82_1046 f82_1048 f82_1050 f82_1052 f82_1053 f82_1054 f82_1056 f82_1058 f82_1060 h82_1062 hb1033 hb1035 hb1037 hb1039 hb1041 hb1043 hb1045 hb1047 hb1049 hb1051 hb1055 hb1057 hb1059 hb1061 hb1063 => ?_)
    refine xg_cVv mX12_puts (vs := [(0, 3), (0, u45), (0, (80 + (3 * u45)) + 1), (0, n1020)]) (rest := []) (cn1 := 0) (sl1 := 0) rfl (mPuts3 (hI1018) (by omega) (by omega) (by omega) (fun _ => by omega)) rfl h82_1062 rfl rfl rfl rfl rfl rfl (fun w1064 hq1065 => ?_)
    obtain ⟨hI1066, hF1067, hx1068⟩ := hq1065
    obtain ⟨hp1069, hp1070⟩ := hx1068
    have pk1071 : PK w w1064 := PK.tr pk1025 (PK.fr hF1067 (by decide) (by decide) pk1025.2.2.2.1)
    have os1072 : ∀ j, (j < 80 + 3 * u45 ∨ 83 + 3 * u45 ≤ j) → j < 140 → rwv w1064 86 j = rwv w 86 j := fun j hj hl => (hp1070 j (by omega) hl).trans (os1026 j hj hl)
    have ix1073 : u45 < 4 → rwv w1064 86 ((80 + (3 * u45)) + 0) = n961 := fun h => (hp1070 _ (by omega) (by omega)).trans (ix1027 h)
    have rg1074 : FA w1064 ≠ 0 ∨ 0 = 1 := rg1028.imp_left (PK.fr hF1067 (by decide) (by decide) pk1025.2.2.2.1).1
    have rg1075 : FA w1064 ≠ 0 ∨ (1 ≤ n961 ∧ n961 ≤ 10) := rg1029.imp_left (PK.fr hF1067 (by decide) (by decide) pk1025.2.2.2.1).1
    have rg1076 : FA w1064 ≠ 0 ∨ (1 ≤ n1020 ∧ n1020 ≤ 10) := hn1024.imp_left (PK.fr hF1067 (by decide) (by decide) pk1025.2.2.2.1).1
    have mf1077 : ∀ s, s < 7 → rwv w1064 85 s = rwv w 85 s := fun s hs => (rwv_fr hF1067 (by decide)).trans (mf1030 s hs)
    have ms1078 : mu w1064 < mu w := Nat.lt_of_le_of_lt (PK.fr hF1067 (by decide) (by decide) pk1025.2.2.2.1).2.1 ms1031
    clear ix1027 rg1028 rg1029 hn1024
    refine xg_t (xg_iinc (u := 1) (z := 2) (l1 := [(3, (0, u45)), (2, (0, at_)), (1, (0, 3)), (0, (2, 82))]) rfl rfl (by decide) rfl) ?_
    refine xg_t (xg_goto) ?_
    refine xg_t (xg_blq rfl) ?_
    refine xg_t (xg_iload (va := (0, 2)) rfl rfl) ?_
    refine xg_t (xg_const) ?_
    refine xg_t (xg_icF (u := 2) (v := 3) rfl xnm0 xnm0 (by decide)) ?_
    refine xg_t (xg_aload (va := (2, 82)) rfl rfl) ?_
    refine xg_t (xg_iload (va := (0, 3)) rfl rfl) ?_
    refine xg_t (xg_iload (va := (0, u45)) rfl rfl) ?_
    refine xg_t (xg_bip) ?_
    refine xg_t (xg_const) ?_
    refine xg_t (xg_iload (va := (0, u45)) rfl rfl) ?_
    refine xg_t (xg_imul (u := 3) (v := u45) (z := 3 * u45) xnm0 xnm0 (by omega)) ?_
    refine xg_t (xg_iadd (u := 80) (v := 3 * u45) (z := 80 + (3 * u45)) xnm0 xnm0 (by omega)) ?_
    refine xg_t (xg_iload (va := (0, 2)) rfl rfl) ?_
    refine xg_t (xg_iadd (u := 80 + (3 * u45)) (v := 2) (z := (80 + (3 * u45)) + 2) xnm0 xnm0 (by omega)) ?_
    refine xg_t (xg_aload (va := (2, 82)) rfl rfl) ?_
    refine xg_t (xg_const) ?_
    refine xg_t (xg_iload (va := (0, 2)) rfl rfl) ?_
    refine xg_t (xg_const) ?_
    refine xg_t (xg_icT (u := 2) (v := 2) rfl xnm0 xnm0 (by decide)) ?_
    refine xg_t (xg_blq rfl) ?_
    refine xg_t (xg_sip) ?_
    refine xg_t (xg_blq rfl) ?_
    refine xg_cVi mX12_numbered (vs := [(0, 1), (0, 999)]) (rest := [(0, (80 + (3 * u45)) + 2), (0, u45), (0, 3), (2, 82)]) (cn1 := 0) (sl1 := 0) rfl (mNumbered (hI1066) (by omega) (by omega) pk1071.2.2.2.1) rfl (hF1067.get (by decide) h82_1062) rfl rfl rfl rfl rfl rfl (fun n1083 w1079 hq1080 => ?_)
    obtain ⟨hn1084, hI1081, hF1082⟩ := hq1080
    clear hb1033 hb1035 hb1037 hb1039 hb1041 hb1043 hb1045 hb1047 hb1049 hb1051 hb1055 hb1057 hb1059 hb1061
    obtain ⟨hn1085, hn1086, hn1087⟩ := hn1084
    have pk1088 : PK w w1079 := PK.tr pk1071 hn1086
    have os1089 : ∀ j, (j < 80 + 3 * u45 ∨ 83 + 3 * u45 ≤ j) → j < 140 → rwv w1079 86 j = rwv w 86 j := fun j hj hl => (rwv_fr hF1082 (by decide)).trans (os1072 j hj hl)
    have ix1090 : u45 < 4 → rwv w1079 86 ((80 + (3 * u45)) + 0) = n961 := fun h => (rwv_fr hF1082 (by decide)).trans (ix1073 h)
    have ix1091 : u45 < 4 → rwv w1079 86 ((80 + (3 * u45)) + 1) = n1020 := fun h => (rwv_fr hF1082 (by decide)).trans (hp1069 h)
    have rg1092 : FA w1079 ≠ 0 ∨ 0 = 1 := rg1074.imp_left hn1086.1
    have rg1093 : FA w1079 ≠ 0 ∨ (1 ≤ n961 ∧ n961 ≤ 10) := rg1075.imp_left hn1086.1
    have rg1094 : FA w1079 ≠ 0 ∨ (1 ≤ n1020 ∧ n1020 ≤ 10) := rg1076.imp_left hn1086.1
    have mf1095 : ∀ s, s < 7 → rwv w1079 85 s = rwv w 85 s := fun s hs => (rwv_fr hF1082 (by decide)).trans (mf1077 s hs)
    have ms1096 : mu w1079 < mu w := Nat.lt_of_le_of_lt hn1086.2.1 ms1078
    clear ix1073 hp1069 rg1074 rg1075 rg1076
    refine xoCh82 (xqc82 hI1081 : cp82 (wget w1079 82)) (fun f82_1097 f82_1099 f82_1101 f82_1103 f82_1105 f82_1107 f82_1109 f82_1111 f82_1113 f82_1115 f82_1117 f82_1118 f82_1119 f82_1121 f82_1123 f82_1125 h82_1127 hb1098 hb1100 hb1102 hb1104 hb1106 hb1108 hb1110 hb1112 hb1114 hb1116 hb1120 hb1122 hb1124 hb1126 hb1128 => ?_)
    refine xg_cVv mX12_puts (vs := [(0, 3), (0, u45), (0, (80 + (3 * u45)) + 2), (0, n1083)]) (rest := []) (cn1 := 0) (sl1 := 0) rfl (mPuts3 (hI1081) (by omega) (by omega) (by omega) (fun _ => by omega)) rfl h82_1127 rfl rfl rfl rfl rfl rfl (fun w1129 hq1130 => ?_)
    obtain ⟨hI1131, hF1132, hx1133⟩ := hq1130
    obtain ⟨hp1134, hp1135⟩ := hx1133
    have pk1136 : PK w w1129 := PK.tr pk1088 (PK.fr hF1132 (by decide) (by decide) pk1088.2.2.2.1)
    have os1137 : ∀ j, (j < 80 + 3 * u45 ∨ 83 + 3 * u45 ≤ j) → j < 140 → rwv w1129 86 j = rwv w 86 j := fun j hj hl => (hp1135 j (by omega) hl).trans (os1089 j hj hl)
    have ix1138 : u45 < 4 → rwv w1129 86 ((80 + (3 * u45)) + 0) = n961 := fun h => (hp1135 _ (by omega) (by omega)).trans (ix1090 h)
    have ix1139 : u45 < 4 → rwv w1129 86 ((80 + (3 * u45)) + 1) = n1020 := fun h => (hp1135 _ (by omega) (by omega)).trans (ix1091 h)
    have rg1140 : FA w1129 ≠ 0 ∨ 0 = 1 := rg1092.imp_left (PK.fr hF1132 (by decide) (by decide) pk1088.2.2.2.1).1
    have rg1141 : FA w1129 ≠ 0 ∨ (1 ≤ n961 ∧ n961 ≤ 10) := rg1093.imp_left (PK.fr hF1132 (by decide) (by decide) pk1088.2.2.2.1).1
    have rg1142 : FA w1129 ≠ 0 ∨ (1 ≤ n1020 ∧ n1020 ≤ 10) := rg1094.imp_left (PK.fr hF1132 (by decide) (by decide) pk1088.2.2.2.1).1
    have rg1143 : FA w1129 ≠ 0 ∨ (1 ≤ n1083 ∧ n1083 ≤ 999) := hn1087.imp_left (PK.fr hF1132 (by decide) (by decide) pk1088.2.2.2.1).1
    have mf1144 : ∀ s, s < 7 → rwv w1129 85 s = rwv w 85 s := fun s hs => (rwv_fr hF1132 (by decide)).trans (mf1095 s hs)
    have ms1145 : mu w1129 < mu w := Nat.lt_of_le_of_lt (PK.fr hF1132 (by decide) (by decide) pk1088.2.2.2.1).2.1 ms1096
    clear ix1090 ix1091 rg1092 rg1093 rg1094 hn1087
    refine xg_t (xg_iinc (u := 2) (z := 3) (l1 := [(3, (0, u45)), (2, (0, at_)), (1, (0, 3)), (0, (2, 82))]) rfl rfl (by decide) rfl) ?_
    refine xg_t (xg_goto) ?_
    refine xg_t (xg_blq rfl) ?_
    refine xg_t (xg_iload (va := (0, 3)) rfl rfl) ?_
    refine xg_t (xg_const) ?_
    refine xg_t (xg_icT (u := 3) (v := 3) rfl xnm0 xnm0 (by decide)) ?_
    refine xg_t (xg_blq rfl) ?_
    refine xg_t (xg_goto) ?_
    refine xg_t (xg_drop (l1 := [(0, (2, 82)), (1, (0, 3)), (3, (0, u45))]) (List.forall_mem_cons.mpr ⟨List.mem_cons_of_mem _ (List.mem_cons_of_mem _ (List.mem_cons_of_mem _ (List.mem_cons_of_mem _ (List.mem_cons_self)))), List.forall_mem_cons.mpr ⟨List.mem_cons_of_mem _ (List.mem_cons_of_mem _ (List.mem_cons_of_mem _ (List.mem_cons_self))), List.forall_mem_cons.mpr ⟨List.mem_cons_of_mem _ (List.mem_cons_self), fun _ h => absurd h List.not_mem_nil⟩⟩⟩)) ?_
    have hX1146 : FA w1129 ≠ 0 ∨ u45 < 4 := Or.inl (by have q := rg1140; omega)
    exact jn619 w1129 (hI1131) (((((((((hF593.up (by decide)).tr (hF605.up (by decide))).tr (hF960.up (by decide))).tr (hF1006.up (by decide))).tr (hF1019.up (by decide))).tr (hF1067.up (by decide))).tr (hF1082.up (by decide))).tr (hF1132.up (by decide)))) (⟨pk1136, os1137, ms1145, mf1144, hX1146⟩)
end XMB
end
section
/-! the model: lines of films, more -/
section XMB
variable {d : Nat} {w : List (List xE)} {bd : List (Nat × Nat)} {fc : List (Nat × Nat × Bool)} {rr : Nat × Nat}
set_option maxHeartbeats 60000000 in
theorem mALineS4 {at_ : Nat} (hI : xMnv w) (hps : PS w) (hmb : ∀ s, s < 7 → rwv w 85 s ≤ 1000) (hln : fld w 82 14 ≤ 1000) (h7 : fld w 82 7 = 3) (hat : at_ ≤ 4294967295) : xTo (d + 7) mX12_aLine (43, [], [(2, (0, at_)), (1, (0, 4)), (0, (2, 82))], [], (w, bd, fc, 0, 0, rr)) (fun φ => ∃ w', xEnd 0 [] (w', bd, fc, 0, 0, rr) φ ∧ xMnv w' ∧ xFr [82, 83, 85, 86, 87] w w' ∧ ((FA w ≠ 0 → FA w' ≠ 0) ∧ PS w' ∧ ((fld w' 82 10 = 1 ∧ mu w' = mu w ∧ fld w' 82 14 = fld w 82 14 ∧ ∀ s, s < 7 → rwv w' 85 s = rwv w 85 s) ∨ (mu w' < mu w ∧ fld w' 82 14 = fld w 82 14 + 1 ∧ ∀ s, s < 7 → rwv w' 85 s ≤ rwv w 85 s + 1)) ∧ (FA w' ≠ 0 ∨ (DATA w → DATA w')) ∧ K83 w w')) := by
  refine xoCh82 (xqc82 hI : cp82 (wget w 82)) (fun f82_1 f82_3 f82_5 f82_7 f82_9 f82_11 f82_13 f82_15 f82_17 f82_19 f82_21 f82_22 f82_23 f82_25 f82_27 f82_29 h82_31 hb2 hb4 hb6 hb8 hb10 hb12 hb14 hb16 hb18 hb20 hb24 hb26 hb28 hb30 hb32 => ?_)
  have hf33 : fld w 82 7 = f82_11 := fld_of h82_31
  have hf34 : fld w 82 10 = f82_17 := fld_of h82_31
  have hf35 : fld w 82 14 = f82_19 := fld_of h82_31
  have hps_ : fld w 82 10 = 0 ∨ FA w ≠ 0 := hps
  refine xoI (xqc85 hI : cpI 7 52 4294967295 (wget w 85)) (fun g85_36 h85_37 hb38 => ?_)
  refine xoI (xqc86 hI : cpI 140 53 4294967295 (wget w 86)) (fun g86_39 h86_40 hb41 => ?_)
  refine xoI (xqc87 hI : cpI 20 54 4294967295 (wget w 87)) (fun g87_42 h87_43 hb44 => ?_)
  refine xg_t (xg_blq rfl) ?_
  refine xg_t (xg_aload (va := (2, 82)) rfl rfl) ?_
  refine xg_t (xg_getf (va := (2, 85)) h82_31 rfl) ?_
  refine xg_t (xg_iload (va := (0, 4)) rfl rfl) ?_
  refine xg_ialdB (n := 4) (B := 4294967295) h85_37 (hb38) xnm0 (by first | decide | omega) (fun u45 hu46 he47 => ?_)
  have hK48 : rwv w 85 4 = u45 := (rwv_of h85_37 (by decide)).trans he47
  have hm49 := hmb 4 (by decide)
  have hl50 : u45 ≤ 1000 := by omega
  refine xg_t (xg_istore (l1 := [(2, (0, at_)), (1, (0, 4)), (0, (2, 82))]) rfl rfl rfl) ?_
  refine xg_t (xg_iload (va := (0, u45)) rfl rfl) ?_
  refine xg_t (xg_iload (va := (0, 4)) rfl rfl) ?_
  refine xg_t (xg_cSr mX12_mostOf (vs := [(0, 4)]) (rest := [(0, u45)]) (rs := [(0, 20), (0, u45)]) (cn1 := 0) (sl1 := 0) rfl (mMostR4) rfl rfl rfl rfl rfl rfl rfl rfl) ?_
  by_cases hc51 : u45 < 20
  · refine xg_t (xg_icT (u := u45) (v := 20) rfl xnm0 xnm0 (xj_ltT hc51 (by omega))) ?_
    refine xg_t (xg_blq rfl) ?_
    refine xg_t (xg_aload (va := (2, 82)) rfl rfl) ?_
    refine xg_cVv mX12_advance (vs := []) (rest := []) (cn1 := 0) (sl1 := 0) rfl (mAdvance (hI)) rfl h82_31 rfl rfl rfl rfl rfl rfl (fun w52 hq53 => ?_)
    obtain ⟨hI54, hF55, hx56⟩ := hq53
    clear hb2 hb4 hb6 hb8 hb10 hb12 hb14 hb16 hb18 hb20 hb24 hb26 hb28 hb30
    obtain ⟨hv57, hv58, hv59, hv60⟩ := hx56
    have hf62 := FA_fr hF55 (by decide)
    have hs63 := (PK.rf hps).2.2.2.1
    unfold PS at hs63
    have pk61 : PK w w52 := ⟨fun _ => by omega, hv57, hv60, (show fld w52 82 10 = 0 ∨ FA w52 ≠ 0 by omega), K83.fr hF55 (by decide)⟩
    clear hs63
    have pk64 : PK w w52 := PK.tr (PK.rf hps) pk61
    have os65 : ∀ j, (j < 100 + 2 * u45 ∨ 102 + 2 * u45 ≤ j) → j < 140 → rwv w52 86 j = rwv w 86 j := fun j hj hl => (rwv_fr hF55 (by decide)).trans ((fun j _ _ => rfl) j hj hl)
    have mf66 : ∀ s, s < 7 → rwv w52 85 s = rwv w 85 s := fun s hs => (rwv_fr hF55 (by decide)).trans ((fun _ _ => rfl) s hs)
    have ms67 : mu w52 < mu w := Nat.lt_of_lt_of_le (hv58 (by omega)) (PK.rf hps).2.1
    clear hv58
    have jn68 : ∀ (w69 : List (List xE)), xMnv w69 → xFr [82, 83, 85, 86, 87] w w69 → (PK w w69 ∧ (∀ j, (j < 100 + 2 * u45 ∨ 102 + 2 * u45 ≤ j) → j < 140 → rwv w69 86 j = rwv w 86 j) ∧ mu w69 < mu w ∧ (∀ s, s < 7 → rwv w69 85 s = rwv w 85 s) ∧ (FA w69 ≠ 0 ∨ u45 < 20)) → xTo (d + 7) mX12_aLine (394, [], [(0, (2, 82)), (1, (0, 4)), (3, (0, u45))], [], (w69, bd, fc, 0, 0, rr)) (fun φ => ∃ w', xEnd 0 [] (w', bd, fc, 0, 0, rr) φ ∧ xMnv w' ∧ xFr [82, 83, 85, 86, 87] w w' ∧ ((FA w ≠ 0 → FA w' ≠ 0) ∧ PS w' ∧ ((fld w' 82 10 = 1 ∧ mu w' = mu w ∧ fld w' 82 14 = fld w 82 14 ∧ ∀ s, s < 7 → rwv w' 85 s = rwv w 85 s) ∨ (mu w' < mu w ∧ fld w' 82 14 = fld w 82 14 + 1 ∧ ∀ s, s < 7 → rwv w' 85 s ≤ rwv w 85 s + 1)) ∧ (FA w' ≠ 0 ∨ (DATA w → DATA w')) ∧ K83 w w')) := by
      intro w69 hI70 hF71 he72
      obtain ⟨hj73, hj74, hj75, hj76, hj77⟩ := he72
      refine xg_t (xg_blq rfl) ?_
      refine xg_t (xg_aload (va := (2, 82)) rfl rfl) ?_
      refine xoCh82 (xqc82 hI70 : cp82 (wget w69 82)) (fun f82_78 f82_80 f82_82 f82_84 f82_86 f82_88 f82_90 f82_92 f82_94 f82_96 f82_98 f82_99 f82_100 f82_102 f82_104 f82_106 h82_108 hb79 hb81 hb83 hb85 hb87 hb89 hb91 hb93 hb95 hb97 hb101 hb103 hb105 hb107 hb109 => ?_)
      refine xg_t (xg_getf (va := (0, f82_94)) h82_108 rfl) ?_
      by_cases hc110 : f82_94 = 0
      · refine xg_t (xg_ifF (u := f82_94) rfl xnm0 (xj_neF hc110)) ?_
        refine xg_t (xg_aload (va := (2, 82)) rfl rfl) ?_
        refine xg_t (xg_getf (va := (0, f82_88)) h82_108 rfl) ?_
        refine xg_t (xg_const) ?_
        by_cases hc111 : f82_88 = 2
        · refine xg_t (xg_icF (u := f82_88) (v := 2) rfl xnm0 xnm0 (xj_neF hc111)) ?_
          refine xg_t (xg_aload (va := (2, 82)) rfl rfl) ?_
          refine xg_cVv mX12_advance (vs := []) (rest := []) (cn1 := 0) (sl1 := 0) rfl (mAdvance (hI70)) rfl h82_108 rfl rfl rfl rfl rfl rfl (fun w112 hq113 => ?_)
          obtain ⟨hI114, hF115, hx116⟩ := hq113
          clear hb79 hb81 hb83 hb85 hb87 hb89 hb91 hb93 hb95 hb97 hb101 hb103 hb105 hb107
          obtain ⟨hv117, hv118, hv119, hv120⟩ := hx116
          have hf122 := FA_fr hF115 (by decide)
          have hs123 := hj73.2.2.2.1
          unfold PS at hs123
          have pk121 : PK w69 w112 := ⟨fun _ => by omega, hv117, hv120, (show fld w112 82 10 = 0 ∨ FA w112 ≠ 0 by omega), K83.fr hF115 (by decide)⟩
          clear hs123
          clear hv118
          have pk124 : PK w w112 := PK.tr hj73 pk121
          have os125 : ∀ j, (j < 100 + 2 * u45 ∨ 102 + 2 * u45 ≤ j) → j < 140 → rwv w112 86 j = rwv w 86 j := fun j hj hl => (rwv_fr hF115 (by decide)).trans (hj74 j hj hl)
          have rg126 : FA w112 ≠ 0 ∨ u45 < 20 := hj77.imp_left pk121.1
          have mf127 : ∀ s, s < 7 → rwv w112 85 s = rwv w 85 s := fun s hs => (rwv_fr hF115 (by decide)).trans (hj76 s hs)
          have ms128 : mu w112 < mu w := Nat.lt_of_le_of_lt pk121.2.1 hj75
          clear hj77
          refine xg_t (xg_goto) ?_
          refine xg_t (xg_blq rfl) ?_
          refine xoCh82 (xqc82 hI114 : cp82 (wget w112 82)) (fun f82_129 f82_131 f82_133 f82_135 f82_137 f82_139 f82_141 f82_143 f82_145 f82_147 f82_149 f82_150 f82_151 f82_153 f82_155 f82_157 h82_159 hb130 hb132 hb134 hb136 hb138 hb140 hb142 hb144 hb146 hb148 hb152 hb154 hb156 hb158 hb160 => ?_)
          have hf161 : fld w112 82 4 = f82_133 := fld_of h82_159
          have hf162 : fld w112 82 5 = f82_135 := fld_of h82_159
          have hf163 : fld w112 82 7 = f82_139 := fld_of h82_159
          have hf164 : fld w112 82 10 = f82_145 := fld_of h82_159
          have hf165 : fld w112 82 14 = f82_147 := fld_of h82_159
          have hu166 : mu w112 = 2 * (fld w112 82 4 - fld w112 82 5) + min 1 (fld w112 82 7) := rfl
          have hf167 := pk124.2.2.1
          have hl168 : f82_147 ≤ 1000 := by omega
          refine xg_t (xg_aload (va := (2, 82)) rfl rfl) ?_
          refine xg_t (xg_getf (va := (2, 85)) h82_159 rfl) ?_
          refine xg_t (xg_iload (va := (0, 4)) rfl rfl) ?_
          refine xg_t (xg_dup2 rfl) ?_
          refine xoI (xqc85 hI114 : cpI 7 52 4294967295 (wget w112 85)) (fun g85_169 h85_170 hb171 => ?_)
          refine xg_ialdB (n := 4) (B := 4294967295) h85_170 (hb171) xnm0 (by first | decide | omega) (fun u172 hu173 he174 => ?_)
          have hl175 : u172 = u45 := by have q1 := rwv_of h85_170 (show 4 < 7 by decide); have q2 := mf127 4 (by decide); omega
          refine xg_t (xg_const) ?_
          refine xg_t (xg_iadd (u := u172) (v := 1) (z := u172 + 1) xnm0 xnm0 (by omega)) ?_
          refine xg_iastK (n := 4) (u := u172 + 1) h85_170 xnm0 xnm0 rfl (by first | decide | omega) (fun w176 hr177 hb178 => ?_)
          refine xg_t (xg_aload (va := (2, 82)) rfl rfl) ?_
          refine xg_t (xg_dup rfl) ?_
          refine xg_t (xg_getf (va := (0, f82_147)) (hb178.get (by decide) h82_159) rfl) ?_
          have hn179 := id hb148
          unfold xHid at hn179
          refine xg_t (xg_const) ?_
          refine xg_t (xg_iadd (u := f82_147) (v := 1) (z := f82_147 + 1) xnm0 xnm0 (by omega)) ?_
          refine xg_putI (fl1 := [(2, 83), (2, 84), (0, f82_129), (0, f82_131), (0, f82_133), (0, f82_135), (0, f82_137), (0, f82_139), (0, f82_141), (0, f82_143), (0, f82_145), (2, 85), (2, 86), (2, 87), (0, f82_147 + 1), (2, 88), (2, 89), (2, 90), (2, 91), (2, 92), (2, 93), (2, 94), (4, f82_149), (4, f82_150), (0, f82_151), (2, 95), (2, 96), (2, 97), (2, 98), (2, 99), (2, 100), (2, 101), (2, 102), (0, f82_153), (2, 103), (2, 104), (2, 105), (2, 106), (2, 107), (2, 108), (2, 109), (0, f82_155), (0, f82_157), (2, 110), (2, 111), (2, 112), (2, 113)]) (hb178.get (by decide) h82_159) rfl rfl rfl (fun w180 hk181 hb182 => ?_)
          have hF183 : xFr [82, 85] w112 w180 := ((xFr.of (S := [82, 85]) hb178 (by decide)).tr (xFr.of (S := [82, 85]) hb182 (by decide)))
          have hA184 := FA_fr hF183 (by decide)
          have hf185 : fld w180 82 4 = f82_133 := fld_of hk181
          have hf186 : fld w180 82 5 = f82_135 := fld_of hk181
          have hf187 : fld w180 82 7 = f82_139 := fld_of hk181
          have hf188 : fld w180 82 10 = f82_145 := fld_of hk181
          have hf189 : fld w180 82 14 = f82_147 + 1 := fld_of hk181
          have hu190 : mu w180 = 2 * (fld w180 82 4 - fld w180 82 5) + min 1 (fld w180 82 7) := rfl
          have pq191 := pk124
          unfold PK PS at pq191
          have hM192 : ∀ s, s < 7 → s ≠ 4 → rwv w180 85 s = rwv w 85 s := fun s hs hn => (rwv_of (hr177.but hb182 (by decide)) hs).trans ((if_neg hn).trans ((rwv_of h85_170 hs).symm.trans (mf127 s hs)))
          have hM193 : rwv w180 85 4 = u45 + 1 := (rwv_of (hr177.but hb182 (by decide)) (by decide)).trans ((if_pos rfl).trans (by omega))
          have hM194 : ∀ s, s < 7 → rwv w180 85 s ≤ rwv w 85 s + 1 := fun s hs => by
            by_cases z : s = 4
            · subst z; omega
            · rw [hM192 s hs z]; omega
          have hO195 : ∀ j, (j < 100 + 2 * u45 ∨ 102 + 2 * u45 ≤ j) → j < 140 → rwv w180 86 j = rwv w 86 j := fun j hj hl => (rwv_fr hF183 (by decide)).trans (os125 j hj hl)
          have hl197 : FA w112 ≠ 0 ∨ u45 < 20 := rg126
          have hN196 : FA w180 ≠ 0 ∨ 20 ≤ u45 ∨ True := Or.inr (Or.inr trivial)
          have hX198 : FA w180 ≠ 0 ∨ u45 < 20 := by omega
          have hD199 : FA w180 ≠ 0 ∨ (DATA w → DATA w180) := by
            by_cases z : FA w180 ≠ 0
            · exact Or.inl z
            · exact Or.inr (fun hd => hd.s4 hM192 hK48 hM193 (hX198.resolve_left z) hO195 ((hN196.resolve_left z).resolve_left (by have := hX198.resolve_left z; omega)))
          exact xg_e ⟨w180, ⟨rfl, rfl⟩, xMnv.up (S := [85, 82]) hI114 ((xFr.of (S := [85, 82]) hb178 (by decide)).tr (xFr.of (S := [85, 82]) hb182 (by decide))) (List.forall_mem_cons.mpr ⟨xqu85 (show cpI 7 52 4294967295 (wget w180 85) from ⟨_, (hr177.but hb182 (by decide)), xrb (by omega) (hb171)⟩), List.forall_mem_cons.mpr ⟨xqu82 (show cp82 (wget w180 82) from xmC82 f82_129 f82_131 f82_133 f82_135 f82_137 f82_139 f82_141 f82_143 f82_145 (f82_147 + 1) f82_149 f82_150 f82_151 f82_153 f82_155 f82_157 hk181 hb130 hb132 hb134 hb136 hb138 hb140 hb142 hb144 hb146 (by omega) hb152 hb154 hb156 hb158 (by omega)), fun _ h => absurd h List.not_mem_nil⟩⟩), ((hF71.tr (hF115.up (by decide))).tr ((xFr.of (S := [82, 83, 85, 86, 87]) hb178 (by decide)).tr (xFr.of (S := [82, 83, 85, 86, 87]) hb182 (by decide)))), ⟨fun h => by have := pq191.1 h; omega, (show fld w180 82 10 = 0 ∨ FA w180 ≠ 0 by omega), Or.inr ⟨by have := ms128; omega, by omega, hM194⟩, hD199, pk124.2.2.2.2.tr (K83.fr hF183 (by decide))⟩⟩
        · refine xg_t (xg_icT (u := f82_88) (v := 2) rfl xnm0 xnm0 (xj_neT hc111)) ?_
          refine xg_t (xg_blq rfl) ?_
          refine xg_t (xg_aload (va := (2, 82)) rfl rfl) ?_
          refine xg_cVv mX12_ends (vs := []) (rest := []) (cn1 := 0) (sl1 := 0) rfl (mEnds (hI70) hj73.2.2.2.1) rfl h82_108 rfl rfl rfl rfl rfl rfl (fun w200 hq201 => ?_)
          obtain ⟨hI202, hF203, hx204⟩ := hq201
          clear hb79 hb81 hb83 hb85 hb87 hb89 hb91 hb93 hb95 hb97 hb101 hb103 hb105 hb107
          obtain ⟨hv205, hv206, hv207, hv208, hv209⟩ := hx204
          have pk210 : PK w69 w200 := ⟨fun _ => hv205, by omega, by omega, Or.inr hv205, hv209⟩
          have pk211 : PK w w200 := PK.tr hj73 pk210
          have os212 : ∀ j, (j < 100 + 2 * u45 ∨ 102 + 2 * u45 ≤ j) → j < 140 → rwv w200 86 j = rwv w 86 j := fun j hj hl => (rwv_fr hF203 (by decide)).trans (hj74 j hj hl)
          have rg213 : FA w200 ≠ 0 ∨ u45 < 20 := hj77.imp_left pk210.1
          have mf214 : ∀ s, s < 7 → rwv w200 85 s = rwv w 85 s := fun s hs => (rwv_fr hF203 (by decide)).trans (hj76 s hs)
          have ms215 : mu w200 < mu w := Nat.lt_of_le_of_lt pk210.2.1 hj75
          clear hj77
          refine xg_t (xg_blq rfl) ?_
          refine xoCh82 (xqc82 hI202 : cp82 (wget w200 82)) (fun f82_216 f82_218 f82_220 f82_222 f82_224 f82_226 f82_228 f82_230 f82_232 f82_234 f82_236 f82_237 f82_238 f82_240 f82_242 f82_244 h82_246 hb217 hb219 hb221 hb223 hb225 hb227 hb229 hb231 hb233 hb235 hb239 hb241 hb243 hb245 hb247 => ?_)
          have hf248 : fld w200 82 4 = f82_220 := fld_of h82_246
          have hf249 : fld w200 82 5 = f82_222 := fld_of h82_246
          have hf250 : fld w200 82 7 = f82_226 := fld_of h82_246
          have hf251 : fld w200 82 10 = f82_232 := fld_of h82_246
          have hf252 : fld w200 82 14 = f82_234 := fld_of h82_246
          have hu253 : mu w200 = 2 * (fld w200 82 4 - fld w200 82 5) + min 1 (fld w200 82 7) := rfl
          have hf254 := pk211.2.2.1
          have hl255 : f82_234 ≤ 1000 := by omega
          refine xg_t (xg_aload (va := (2, 82)) rfl rfl) ?_
          refine xg_t (xg_getf (va := (2, 85)) h82_246 rfl) ?_
          refine xg_t (xg_iload (va := (0, 4)) rfl rfl) ?_
          refine xg_t (xg_dup2 rfl) ?_
          refine xoI (xqc85 hI202 : cpI 7 52 4294967295 (wget w200 85)) (fun g85_256 h85_257 hb258 => ?_)
          refine xg_ialdB (n := 4) (B := 4294967295) h85_257 (hb258) xnm0 (by first | decide | omega) (fun u259 hu260 he261 => ?_)
          have hl262 : u259 = u45 := by have q1 := rwv_of h85_257 (show 4 < 7 by decide); have q2 := mf214 4 (by decide); omega
          refine xg_t (xg_const) ?_
          refine xg_t (xg_iadd (u := u259) (v := 1) (z := u259 + 1) xnm0 xnm0 (by omega)) ?_
          refine xg_iastK (n := 4) (u := u259 + 1) h85_257 xnm0 xnm0 rfl (by first | decide | omega) (fun w263 hr264 hb265 => ?_)
          refine xg_t (xg_aload (va := (2, 82)) rfl rfl) ?_
          refine xg_t (xg_dup rfl) ?_
          refine xg_t (xg_getf (va := (0, f82_234)) (hb265.get (by decide) h82_246) rfl) ?_
          have hn266 := id hb235
          unfold xHid at hn266
          refine xg_t (xg_const) ?_
          refine xg_t (xg_iadd (u := f82_234) (v := 1) (z := f82_234 + 1) xnm0 xnm0 (by omega)) ?_
          refine xg_putI (fl1 := [(2, 83), (2, 84), (0, f82_216), (0, f82_218), (0, f82_220), (0, f82_222), (0, f82_224), (0, f82_226), (0, f82_228), (0, f82_230), (0, f82_232), (2, 85), (2, 86), (2, 87), (0, f82_234 + 1), (2, 88), (2, 89), (2, 90), (2, 91), (2, 92), (2, 93), (2, 94), (4, f82_236), (4, f82_237), (0, f82_238), (2, 95), (2, 96), (2, 97), (2, 98), (2, 99), (2, 100), (2, 101), (2, 102), (0, f82_240), (2, 103), (2, 104), (2, 105), (2, 106), (2, 107), (2, 108), (2, 109), (0, f82_242), (0, f82_244), (2, 110), (2, 111), (2, 112), (2, 113)]) (hb265.get (by decide) h82_246) rfl rfl rfl (fun w267 hk268 hb269 => ?_)
          have hF270 : xFr [82, 85] w200 w267 := ((xFr.of (S := [82, 85]) hb265 (by decide)).tr (xFr.of (S := [82, 85]) hb269 (by decide)))
          have hA271 := FA_fr hF270 (by decide)
          have hf272 : fld w267 82 4 = f82_220 := fld_of hk268
          have hf273 : fld w267 82 5 = f82_222 := fld_of hk268
          have hf274 : fld w267 82 7 = f82_226 := fld_of hk268
          have hf275 : fld w267 82 10 = f82_232 := fld_of hk268
          have hf276 : fld w267 82 14 = f82_234 + 1 := fld_of hk268
          have hu277 : mu w267 = 2 * (fld w267 82 4 - fld w267 82 5) + min 1 (fld w267 82 7) := rfl
          have pq278 := pk211
          unfold PK PS at pq278
          have hM279 : ∀ s, s < 7 → s ≠ 4 → rwv w267 85 s = rwv w 85 s := fun s hs hn => (rwv_of (hr264.but hb269 (by decide)) hs).trans ((if_neg hn).trans ((rwv_of h85_257 hs).symm.trans (mf214 s hs)))
          have hM280 : rwv w267 85 4 = u45 + 1 := (rwv_of (hr264.but hb269 (by decide)) (by decide)).trans ((if_pos rfl).trans (by omega))
          have hM281 : ∀ s, s < 7 → rwv w267 85 s ≤ rwv w 85 s + 1 := fun s hs => by
            by_cases z : s = 4
            · subst z; omega
            · rw [hM279 s hs z]; omega
          have hO282 : ∀ j, (j < 100 + 2 * u45 ∨ 102 + 2 * u45 ≤ j) → j < 140 → rwv w267 86 j = rwv w 86 j := fun j hj hl => (rwv_fr hF270 (by decide)).trans (os212 j hj hl)
          have hl284 : FA w200 ≠ 0 ∨ u45 < 20 := rg213
          have hN283 : FA w267 ≠ 0 ∨ 20 ≤ u45 ∨ True := Or.inr (Or.inr trivial)
          have hX285 : FA w267 ≠ 0 ∨ u45 < 20 := by omega
          have hD286 : FA w267 ≠ 0 ∨ (DATA w → DATA w267) := by
            by_cases z : FA w267 ≠ 0
            · exact Or.inl z
            · exact Or.inr (fun hd => hd.s4 hM279 hK48 hM280 (hX285.resolve_left z) hO282 ((hN283.resolve_left z).resolve_left (by have := hX285.resolve_left z; omega)))
          exact xg_e ⟨w267, ⟨rfl, rfl⟩, xMnv.up (S := [85, 82]) hI202 ((xFr.of (S := [85, 82]) hb265 (by decide)).tr (xFr.of (S := [85, 82]) hb269 (by decide))) (List.forall_mem_cons.mpr ⟨xqu85 (show cpI 7 52 4294967295 (wget w267 85) from ⟨_, (hr264.but hb269 (by decide)), xrb (by omega) (hb258)⟩), List.forall_mem_cons.mpr ⟨xqu82 (show cp82 (wget w267 82) from xmC82 f82_216 f82_218 f82_220 f82_222 f82_224 f82_226 f82_228 f82_230 f82_232 (f82_234 + 1) f82_236 f82_237 f82_238 f82_240 f82_242 f82_244 hk268 hb217 hb219 hb221 hb223 hb225 hb227 hb229 hb231 hb233 (by omega) hb239 hb241 hb243 hb245 (by omega)), fun _ h => absurd h List.not_mem_nil⟩⟩), ((hF71.tr (hF203.up (by decide))).tr ((xFr.of (S := [82, 83, 85, 86, 87]) hb265 (by decide)).tr (xFr.of (S := [82, 83, 85, 86, 87]) hb269 (by decide)))), ⟨fun h => by have := pq278.1 h; omega, (show fld w267 82 10 = 0 ∨ FA w267 ≠ 0 by omega), Or.inr ⟨by have := ms215; omega, by omega, hM281⟩, hD286, pk211.2.2.2.2.tr (K83.fr hF270 (by decide))⟩⟩
      · refine xg_t (xg_ifT (u := f82_94) rfl xnm0 (xj_neT hc110)) ?_
        refine xg_t (xg_blq rfl) ?_
        refine xg_t (xg_aload (va := (2, 82)) rfl rfl) ?_
        refine xg_cVv mX12_ends (vs := []) (rest := []) (cn1 := 0) (sl1 := 0) rfl (mEnds (hI70) hj73.2.2.2.1) rfl h82_108 rfl rfl rfl rfl rfl rfl (fun w287 hq288 => ?_)
        obtain ⟨hI289, hF290, hx291⟩ := hq288
        clear hb79 hb81 hb83 hb85 hb87 hb89 hb91 hb93 hb95 hb97 hb101 hb103 hb105 hb107
        obtain ⟨hv292, hv293, hv294, hv295, hv296⟩ := hx291
        have pk297 : PK w69 w287 := ⟨fun _ => hv292, by omega, by omega, Or.inr hv292, hv296⟩
        have pk298 : PK w w287 := PK.tr hj73 pk297
        have os299 : ∀ j, (j < 100 + 2 * u45 ∨ 102 + 2 * u45 ≤ j) → j < 140 → rwv w287 86 j = rwv w 86 j := fun j hj hl => (rwv_fr hF290 (by decide)).trans (hj74 j hj hl)
        have rg300 : FA w287 ≠ 0 ∨ u45 < 20 := hj77.imp_left pk297.1
        have mf301 : ∀ s, s < 7 → rwv w287 85 s = rwv w 85 s := fun s hs => (rwv_fr hF290 (by decide)).trans (hj76 s hs)
        have ms302 : mu w287 < mu w := Nat.lt_of_le_of_lt pk297.2.1 hj75
        clear hj77
        refine xg_t (xg_blq rfl) ?_
        refine xoCh82 (xqc82 hI289 : cp82 (wget w287 82)) (fun f82_303 f82_305 f82_307 f82_309 f82_311 f82_313 f82_315 f82_317 f82_319 f82_321 f82_323 f82_324 f82_325 f82_327 f82_329 f82_331 h82_333 hb304 hb306 hb308 hb310 hb312 hb314 hb316 hb318 hb320 hb322 hb326 hb328 hb330 hb332 hb334 => ?_)
        have hf335 : fld w287 82 4 = f82_307 := fld_of h82_333
        have hf336 : fld w287 82 5 = f82_309 := fld_of h82_333
        have hf337 : fld w287 82 7 = f82_313 := fld_of h82_333
        have hf338 : fld w287 82 10 = f82_319 := fld_of h82_333
        have hf339 : fld w287 82 14 = f82_321 := fld_of h82_333
        have hu340 : mu w287 = 2 * (fld w287 82 4 - fld w287 82 5) + min 1 (fld w287 82 7) := rfl
        have hf341 := pk298.2.2.1
        have hl342 : f82_321 ≤ 1000 := by omega
        refine xg_t (xg_aload (va := (2, 82)) rfl rfl) ?_
        refine xg_t (xg_getf (va := (2, 85)) h82_333 rfl) ?_
        refine xg_t (xg_iload (va := (0, 4)) rfl rfl) ?_
        refine xg_t (xg_dup2 rfl) ?_
        refine xoI (xqc85 hI289 : cpI 7 52 4294967295 (wget w287 85)) (fun g85_343 h85_344 hb345 => ?_)
        refine xg_ialdB (n := 4) (B := 4294967295) h85_344 (hb345) xnm0 (by first | decide | omega) (fun u346 hu347 he348 => ?_)
        have hl349 : u346 = u45 := by have q1 := rwv_of h85_344 (show 4 < 7 by decide); have q2 := mf301 4 (by decide); omega
        refine xg_t (xg_const) ?_
        refine xg_t (xg_iadd (u := u346) (v := 1) (z := u346 + 1) xnm0 xnm0 (by omega)) ?_
        refine xg_iastK (n := 4) (u := u346 + 1) h85_344 xnm0 xnm0 rfl (by first | decide | omega) (fun w350 hr351 hb352 => ?_)
        refine xg_t (xg_aload (va := (2, 82)) rfl rfl) ?_
        refine xg_t (xg_dup rfl) ?_
        refine xg_t (xg_getf (va := (0, f82_321)) (hb352.get (by decide) h82_333) rfl) ?_
        have hn353 := id hb322
        unfold xHid at hn353
        refine xg_t (xg_const) ?_
        refine xg_t (xg_iadd (u := f82_321) (v := 1) (z := f82_321 + 1) xnm0 xnm0 (by omega)) ?_
        refine xg_putI (fl1 := [(2, 83), (2, 84), (0, f82_303), (0, f82_305), (0, f82_307), (0, f82_309), (0, f82_311), (0, f82_313), (0, f82_315), (0, f82_317), (0, f82_319), (2, 85), (2, 86), (2, 87), (0, f82_321 + 1), (2, 88), (2, 89), (2, 90), (2, 91), (2, 92), (2, 93), (2, 94), (4, f82_323), (4, f82_324), (0, f82_325), (2, 95), (2, 96), (2, 97), (2, 98), (2, 99), (2, 100), (2, 101), (2, 102), (0, f82_327), (2, 103), (2, 104), (2, 105), (2, 106), (2, 107), (2, 108), (2, 109), (0, f82_329), (0, f82_331), (2, 110), (2, 111), (2, 112), (2, 113)]) (hb352.get (by decide) h82_333) rfl rfl rfl (fun w354 hk355 hb356 => ?_)
        have hF357 : xFr [82, 85] w287 w354 := ((xFr.of (S := [82, 85]) hb352 (by decide)).tr (xFr.of (S := [82, 85]) hb356 (by decide)))
        have hA358 := FA_fr hF357 (by decide)
        have hf359 : fld w354 82 4 = f82_307 := fld_of hk355
        have hf360 : fld w354 82 5 = f82_309 := fld_of hk355
        have hf361 : fld w354 82 7 = f82_313 := fld_of hk355
        have hf362 : fld w354 82 10 = f82_319 := fld_of hk355
        have hf363 : fld w354 82 14 = f82_321 + 1 := fld_of hk355
        have hu364 : mu w354 = 2 * (fld w354 82 4 - fld w354 82 5) + min 1 (fld w354 82 7) := rfl
        have pq365 := pk298
        unfold PK PS at pq365
        have hM366 : ∀ s, s < 7 → s ≠ 4 → rwv w354 85 s = rwv w 85 s := fun s hs hn => (rwv_of (hr351.but hb356 (by decide)) hs).trans ((if_neg hn).trans ((rwv_of h85_344 hs).symm.trans (mf301 s hs)))
        have hM367 : rwv w354 85 4 = u45 + 1 := (rwv_of (hr351.but hb356 (by decide)) (by decide)).trans ((if_pos rfl).trans (by omega))
        have hM368 : ∀ s, s < 7 → rwv w354 85 s ≤ rwv w 85 s + 1 := fun s hs => by
          by_cases z : s = 4
          · subst z; omega
          · rw [hM366 s hs z]; omega
        have hO369 : ∀ j, (j < 100 + 2 * u45 ∨ 102 + 2 * u45 ≤ j) → j < 140 → rwv w354 86 j = rwv w 86 j := fun j hj hl => (rwv_fr hF357 (by decide)).trans (os299 j hj hl)
        have hl371 : FA w287 ≠ 0 ∨ u45 < 20 := rg300
        have hN370 : FA w354 ≠ 0 ∨ 20 ≤ u45 ∨ True := Or.inr (Or.inr trivial)
        have hX372 : FA w354 ≠ 0 ∨ u45 < 20 := by omega
        have hD373 : FA w354 ≠ 0 ∨ (DATA w → DATA w354) := by
          by_cases z : FA w354 ≠ 0
          · exact Or.inl z
          · exact Or.inr (fun hd => hd.s4 hM366 hK48 hM367 (hX372.resolve_left z) hO369 ((hN370.resolve_left z).resolve_left (by have := hX372.resolve_left z; omega)))
        exact xg_e ⟨w354, ⟨rfl, rfl⟩, xMnv.up (S := [85, 82]) hI289 ((xFr.of (S := [85, 82]) hb352 (by decide)).tr (xFr.of (S := [85, 82]) hb356 (by decide))) (List.forall_mem_cons.mpr ⟨xqu85 (show cpI 7 52 4294967295 (wget w354 85) from ⟨_, (hr351.but hb356 (by decide)), xrb (by omega) (hb345)⟩), List.forall_mem_cons.mpr ⟨xqu82 (show cp82 (wget w354 82) from xmC82 f82_303 f82_305 f82_307 f82_309 f82_311 f82_313 f82_315 f82_317 f82_319 (f82_321 + 1) f82_323 f82_324 f82_325 f82_327 f82_329 f82_331 hk355 hb304 hb306 hb308 hb310 hb312 hb314 hb316 hb318 hb320 (by omega) hb326 hb328 hb330 hb332 (by omega)), fun _ h => absurd h List.not_mem_nil⟩⟩), ((hF71.tr (hF290.up (by decide))).tr ((xFr.of (S := [82, 83, 85, 86, 87]) hb352 (by decide)).tr (xFr.of (S := [82, 83, 85, 86, 87]) hb356 (by decide)))), ⟨fun h => by have := pq365.1 h; omega, (show fld w354 82 10 = 0 ∨ FA w354 ≠ 0 by omega), Or.inr ⟨by have := ms302; omega, by omega, hM368⟩, hD373, pk298.2.2.2.2.tr (K83.fr hF357 (by decide))⟩⟩
    refine xg_t (xg_iload (va := (0, 4)) rfl rfl) ?_
    refine xg_t (xg_swt (ks := [(0, 108), (1, 116), (2, 180), (3, 221), (4, 273), (5, 326)]) (u := 4) (z := 273) rfl rfl rfl xnm0 (xsw_n (by omega) (xsw_n (by omega) (xsw_n (by omega) (xsw_n (by omega) (xsw_y rfl)))))) ?_
    refine xg_t (xg_blq rfl) ?_
    refine xg_t (xg_iload (va := (0, u45)) rfl rfl) ?_
    refine xg_t (xg_bip) ?_
    refine xg_t (xg_icF (u := u45) (v := 20) rfl xnm0 xnm0 (xj_geF (by omega) (by omega))) ?_
    refine xg_t (xg_aload (va := (2, 82)) rfl rfl) ?_
    refine xoCh82 (xqc82 hI54 : cp82 (wget w52 82)) (fun f82_374 f82_376 f82_378 f82_380 f82_382 f82_384 f82_386 f82_388 f82_390 f82_392 f82_394 f82_395 f82_396 f82_398 f82_400 f82_402 h82_404 hb375 hb377 hb379 hb381 hb383 hb385 hb387 hb389 hb391 hb393 hb397 hb399 hb401 hb403 hb405 => ?_)
    refine xg_t (xg_getf (va := (2, 87)) h82_404 rfl) ?_
    refine xg_t (xg_iload (va := (0, u45)) rfl rfl) ?_
    refine xg_t (xg_iload (va := (0, at_)) rfl rfl) ?_
    refine xg_iastK (n := u45) (u := at_) (h87_43.fr hF55 (by decide)) xnm0 xnm0 rfl (by omega) (fun w406 hr407 hb408 => ?_)
    have hF409 : xFr [87] w52 w406 := xFr.of hb408 (by decide)
    have pk410 : PK w w406 := PK.tr pk64 (PK.fr hF409 (by decide) (by decide) pk64.2.2.2.1)
    have os411 : ∀ j, (j < 100 + 2 * u45 ∨ 102 + 2 * u45 ≤ j) → j < 140 → rwv w406 86 j = rwv w 86 j := fun j hj hl => (rwv_fr hF409 (by decide)).trans (os65 j hj hl)
    have mf412 : ∀ s, s < 7 → rwv w406 85 s = rwv w 85 s := fun s hs => (rwv_fr hF409 (by decide)).trans (mf66 s hs)
    have ms413 : mu w406 < mu w := Nat.lt_of_le_of_lt (PK.fr hF409 (by decide) (by decide) pk64.2.2.2.1).2.1 ms67
    refine xg_t (xg_blq rfl) ?_
    refine xg_t (xg_const) ?_
    refine xg_t (xg_istore (l1 := [(3, (0, u45)), (2, (0, at_)), (1, (0, 4)), (0, (2, 82))]) rfl rfl rfl) ?_
    refine xg_t (xg_blq rfl) ?_
    refine xg_t (xg_iload (va := (0, 0)) rfl rfl) ?_
    refine xg_t (xg_const) ?_
    refine xg_t (xg_icF (u := 0) (v := 2) rfl xnm0 xnm0 (by decide)) ?_
    refine xg_t (xg_aload (va := (2, 82)) rfl rfl) ?_
    refine xg_t (xg_iload (va := (0, 4)) rfl rfl) ?_
    refine xg_t (xg_iload (va := (0, u45)) rfl rfl) ?_
    refine xg_t (xg_bip) ?_
    refine xg_t (xg_const) ?_
    refine xg_t (xg_iload (va := (0, u45)) rfl rfl) ?_
    refine xg_t (xg_imul (u := 2) (v := u45) (z := 2 * u45) xnm0 xnm0 (by omega)) ?_
    refine xg_t (xg_iadd (u := 100) (v := 2 * u45) (z := 100 + (2 * u45)) xnm0 xnm0 (by omega)) ?_
    refine xg_t (xg_iload (va := (0, 0)) rfl rfl) ?_
    refine xg_t (xg_iadd (u := 100 + (2 * u45)) (v := 0) (z := (100 + (2 * u45)) + 0) xnm0 xnm0 (by omega)) ?_
    refine xg_t (xg_aload (va := (2, 82)) rfl rfl) ?_
    refine xg_t (xg_const) ?_
    refine xg_t (xg_bip) ?_
    refine xg_cVi mX12_numbered (vs := [(0, 0), (0, 9)]) (rest := [(0, (100 + (2 * u45)) + 0), (0, u45), (0, 4), (2, 82)]) (cn1 := 0) (sl1 := 0) rfl (mNumbered (xMnv.up (S := [87]) hI54 (xFr.of (S := [87]) hb408 (by decide)) (List.forall_mem_cons.mpr ⟨xqu87 (show cpI 20 54 4294967295 (wget w406 87) from ⟨_, hr407, xrb (by omega) (hb44)⟩), fun _ h => absurd h List.not_mem_nil⟩)) (by omega) (by omega) pk410.2.2.2.1) rfl (hb408.get (by decide) h82_404) rfl rfl rfl rfl rfl rfl (fun n418 w414 hq415 => ?_)
    obtain ⟨hn419, hI416, hF417⟩ := hq415
    clear hb375 hb377 hb379 hb381 hb383 hb385 hb387 hb389 hb391 hb393 hb397 hb399 hb401 hb403
    obtain ⟨hn420, hn421, hn422⟩ := hn419
    have pk423 : PK w w414 := PK.tr pk410 hn421
    have os424 : ∀ j, (j < 100 + 2 * u45 ∨ 102 + 2 * u45 ≤ j) → j < 140 → rwv w414 86 j = rwv w 86 j := fun j hj hl => (rwv_fr hF417 (by decide)).trans (os411 j hj hl)
    have mf425 : ∀ s, s < 7 → rwv w414 85 s = rwv w 85 s := fun s hs => (rwv_fr hF417 (by decide)).trans (mf412 s hs)
    have ms426 : mu w414 < mu w := Nat.lt_of_le_of_lt hn421.2.1 ms413
    refine xoCh82 (xqc82 hI416 : cp82 (wget w414 82)) (fun f82_427 f82_429 f82_431 f82_433 f82_435 f82_437 f82_439 f82_441 f82_443 f82_445 f82_447 f82_448 f82_449 f82_451 f82_453 f82_455 h82_457 hb428 hb430 hb432 hb434 hb436 hb438 hb440 hb442 hb444 hb446 hb450 hb452 hb454 hb456 hb458 => ?_)
    refine xg_cVv mX12_puts (vs := [(0, 4), (0, u45), (0, (100 + (2 * u45)) + 0), (0, n418)]) (rest := []) (cn1 := 0) (sl1 := 0) rfl (mPuts4 (hI416) (by omega) (by omega) (by omega) (fun _ => by omega)) rfl h82_457 rfl rfl rfl rfl rfl rfl (fun w459 hq460 => ?_)
    obtain ⟨hI461, hF462, hx463⟩ := hq460
    obtain ⟨hp464, hp465⟩ := hx463
    have pk466 : PK w w459 := PK.tr pk423 (PK.fr hF462 (by decide) (by decide) pk423.2.2.2.1)
    have os467 : ∀ j, (j < 100 + 2 * u45 ∨ 102 + 2 * u45 ≤ j) → j < 140 → rwv w459 86 j = rwv w 86 j := fun j hj hl => (hp465 j (by omega) hl).trans (os424 j hj hl)
    have rg468 : FA w459 ≠ 0 ∨ (0 ≤ n418 ∧ n418 ≤ 9) := hn422.imp_left (PK.fr hF462 (by decide) (by decide) pk423.2.2.2.1).1
    have mf469 : ∀ s, s < 7 → rwv w459 85 s = rwv w 85 s := fun s hs => (rwv_fr hF462 (by decide)).trans (mf425 s hs)
    have ms470 : mu w459 < mu w := Nat.lt_of_le_of_lt (PK.fr hF462 (by decide) (by decide) pk423.2.2.2.1).2.1 ms426
    clear hn422
    refine xg_t (xg_iinc (u := 0) (z := 1) (l1 := [(3, (0, u45)), (2, (0, at_)), (1, (0, 4)), (0, (2, 82))]) rfl rfl (by decide) rfl) ?_
    refine xg_t (xg_goto) ?_
    refine xg_t (xg_blq rfl) ?_
    refine xg_t (xg_iload (va := (0, 1)) rfl rfl) ?_
    refine xg_t (xg_const) ?_
    refine xg_t (xg_icF (u := 1) (v := 2) rfl xnm0 xnm0 (by decide)) ?_
    refine xg_t (xg_aload (va := (2, 82)) rfl rfl) ?_
    refine xg_t (xg_iload (va := (0, 4)) rfl rfl) ?_
    refine xg_t (xg_iload (va := (0, u45)) rfl rfl) ?_
    refine xg_t (xg_bip) ?_
    refine xg_t (xg_const) ?_
    refine xg_t (xg_iload (va := (0, u45)) rfl rfl) ?_
    refine xg_t (xg_imul (u := 2) (v := u45) (z := 2 * u45) xnm0 xnm0 (by omega)) ?_
    refine xg_t (xg_iadd (u := 100) (v := 2 * u45) (z := 100 + (2 * u45)) xnm0 xnm0 (by omega)) ?_
    refine xg_t (xg_iload (va := (0, 1)) rfl rfl) ?_
    refine xg_t (xg_iadd (u := 100 + (2 * u45)) (v := 1) (z := (100 + (2 * u45)) + 1) xnm0 xnm0 (by omega)) ?_
    refine xg_t (xg_aload (va := (2, 82)) rfl rfl) ?_
    refine xg_t (xg_const) ?_
    refine xg_t (xg_bip) ?_
    refine xg_cVi mX12_numbered (vs := [(0, 0), (0, 9)]) (rest := [(0, (100 + (2 * u45)) + 1), (0, u45), (0, 4), (2, 82)]) (cn1 := 0) (sl1 := 0) rfl (mNumbered (hI461) (by omega) (by omega) pk466.2.2.2.1) rfl (hF462.get (by decide) h82_457) rfl rfl rfl rfl rfl rfl (fun n475 w471 hq472 => ?_)
    obtain ⟨hn476, hI473, hF474⟩ := hq472
    clear hb428 hb430 hb432 hb434 hb436 hb438 hb440 hb442 hb444 hb446 hb450 hb452 hb454 hb456
    obtain ⟨hn477, hn478, hn479⟩ := hn476
    have pk480 : PK w w471 := PK.tr pk466 hn478
    have os481 : ∀ j, (j < 100 + 2 * u45 ∨ 102 + 2 * u45 ≤ j) → j < 140 → rwv w471 86 j = rwv w 86 j := fun j hj hl => (rwv_fr hF474 (by decide)).trans (os467 j hj hl)
    have ix482 : u45 < 20 → rwv w471 86 ((100 + (2 * u45)) + 0) = n418 := fun h => (rwv_fr hF474 (by decide)).trans (hp464 h)
    have rg483 : FA w471 ≠ 0 ∨ (0 ≤ n418 ∧ n418 ≤ 9) := rg468.imp_left hn478.1
    have mf484 : ∀ s, s < 7 → rwv w471 85 s = rwv w 85 s := fun s hs => (rwv_fr hF474 (by decide)).trans (mf469 s hs)
    have ms485 : mu w471 < mu w := Nat.lt_of_le_of_lt hn478.2.1 ms470
    clear hp464 rg468
    refine xoCh82 (xqc82 hI473 : cp82 (wget w471 82)) (fun f82_486 f82_488 f82_490 f82_492 f82_494 f82_496 f82_498 f82_500 f82_502 f82_504 f82_506 f82_507 f82_508 f82_510 f82_512 f82_514 h82_516 hb487 hb489 hb491 hb493 hb495 hb497 hb499 hb501 hb503 hb505 hb509 hb511 hb513 hb515 hb517 => ?_)
    refine xg_cVv mX12_puts (vs := [(0, 4), (0, u45), (0, (100 + (2 * u45)) + 1), (0, n475)]) (rest := []) (cn1 := 0) (sl1 := 0) rfl (mPuts4 (hI473) (by omega) (by omega) (by omega) (fun _ => by omega)) rfl h82_516 rfl rfl rfl rfl rfl rfl (fun w518 hq519 => ?_)
    obtain ⟨hI520, hF521, hx522⟩ := hq519
    obtain ⟨hp523, hp524⟩ := hx522
    have pk525 : PK w w518 := PK.tr pk480 (PK.fr hF521 (by decide) (by decide) pk480.2.2.2.1)
    have os526 : ∀ j, (j < 100 + 2 * u45 ∨ 102 + 2 * u45 ≤ j) → j < 140 → rwv w518 86 j = rwv w 86 j := fun j hj hl => (hp524 j (by omega) hl).trans (os481 j hj hl)
    have ix527 : u45 < 20 → rwv w518 86 ((100 + (2 * u45)) + 0) = n418 := fun h => (hp524 _ (by omega) (by omega)).trans (ix482 h)
    have rg528 : FA w518 ≠ 0 ∨ (0 ≤ n418 ∧ n418 ≤ 9) := rg483.imp_left (PK.fr hF521 (by decide) (by decide) pk480.2.2.2.1).1
    have rg529 : FA w518 ≠ 0 ∨ (0 ≤ n475 ∧ n475 ≤ 9) := hn479.imp_left (PK.fr hF521 (by decide) (by decide) pk480.2.2.2.1).1
    have mf530 : ∀ s, s < 7 → rwv w518 85 s = rwv w 85 s := fun s hs => (rwv_fr hF521 (by decide)).trans (mf484 s hs)
    have ms531 : mu w518 < mu w := Nat.lt_of_le_of_lt (PK.fr hF521 (by decide) (by decide) pk480.2.2.2.1).2.1 ms485
    clear ix482 rg483 hn479
    refine xg_t (xg_iinc (u := 1) (z := 2) (l1 := [(3, (0, u45)), (2, (0, at_)), (1, (0, 4)), (0, (2, 82))]) rfl rfl (by decide) rfl) ?_
    refine xg_t (xg_goto) ?_
    refine xg_t (xg_blq rfl) ?_
    refine xg_t (xg_iload (va := (0, 2)) rfl rfl) ?_
    refine xg_t (xg_const) ?_
    refine xg_t (xg_icT (u := 2) (v := 2) rfl xnm0 xnm0 (by decide)) ?_
    refine xg_t (xg_blq rfl) ?_
    refine xg_t (xg_goto) ?_
    refine xg_t (xg_drop (l1 := [(0, (2, 82)), (1, (0, 4)), (3, (0, u45))]) (List.forall_mem_cons.mpr ⟨List.mem_cons_of_mem _ (List.mem_cons_of_mem _ (List.mem_cons_of_mem _ (List.mem_cons_of_mem _ (List.mem_cons_self)))), List.forall_mem_cons.mpr ⟨List.mem_cons_of_mem _ (List.mem_cons_of_mem _ (List.mem_cons_of_mem _ (List.mem_cons_self))), List.forall_mem_cons.mpr ⟨List.mem_cons_of_mem _ (List.mem_cons_self), fun _ h => absurd h List.not_mem_nil⟩⟩⟩)) ?_
    have hX532 : FA w518 ≠ 0 ∨ u45 < 20 := Or.inr (by omega)
    exact jn68 w518 (hI520) (((((((hF55.up (by decide)).tr (xFr.of (S := [82, 83, 85, 86, 87]) hb408 (by decide))).tr (hF417.up (by decide))).tr (hF462.up (by decide))).tr (hF474.up (by decide))).tr (hF521.up (by decide)))) (⟨pk525, os526, ms531, mf530, hX532⟩)
  · refine xg_t (xg_icF (u := u45) (v := 20) rfl xnm0 xnm0 (xj_ltF (by omega) (by omega))) ?_
    refine xg_t (xg_aload (va := (2, 82)) rfl rfl) ?_
    refine xg_t (xg_const) ?_
    refine xg_t (xg_iload (va := (0, at_)) rfl rfl) ?_
    refine xg_cVv mX12_also (vs := [(0, 3), (0, at_)]) (rest := []) (cn1 := 0) (sl1 := 0) rfl (mAlso (hI) (by omega) (by omega) (by omega) (PK.rf hps).2.2.2.1) rfl h82_31 rfl rfl rfl rfl rfl rfl (fun w533 hq534 => ?_)
    obtain ⟨hI535, hF536, hx537⟩ := hq534
    obtain ⟨hv539, hv540⟩ := hx537
    have pk538 : PK w w533 := ⟨fun _ => hv539, Nat.le_of_eq (mu_fr hF536 (by decide)), fld_fr hF536 (by decide), Or.inr hv539, hv540⟩
    have pk541 : PK w w533 := PK.tr (PK.rf hps) pk538
    have os542 : ∀ j, (j < 100 + 2 * u45 ∨ 102 + 2 * u45 ≤ j) → j < 140 → rwv w533 86 j = rwv w 86 j := fun j hj hl => (rwv_fr hF536 (by decide)).trans ((fun j _ _ => rfl) j hj hl)
    have mf543 : ∀ s, s < 7 → rwv w533 85 s = rwv w 85 s := fun s hs => (rwv_fr hF536 (by decide)).trans ((fun _ _ => rfl) s hs)
    have hf544 := fld_fr (c := 82) (j := 7) hF536 (by decide)
    refine xg_t (xg_blq rfl) ?_
    refine xg_t (xg_aload (va := (2, 82)) rfl rfl) ?_
    refine xg_cVv mX12_advance (vs := []) (rest := []) (cn1 := 0) (sl1 := 0) rfl (mAdvance (hI535)) rfl (hF536.get (by decide) h82_31) rfl rfl rfl rfl rfl rfl (fun w545 hq546 => ?_)
    obtain ⟨hI547, hF548, hx549⟩ := hq546
    clear hb2 hb4 hb6 hb8 hb10 hb12 hb14 hb16 hb18 hb20 hb24 hb26 hb28 hb30
    obtain ⟨hv550, hv551, hv552, hv553⟩ := hx549
    have hf555 := FA_fr hF548 (by decide)
    have hs556 := pk541.2.2.2.1
    unfold PS at hs556
    have pk554 : PK w533 w545 := ⟨fun _ => by omega, hv550, hv553, (show fld w545 82 10 = 0 ∨ FA w545 ≠ 0 by omega), K83.fr hF548 (by decide)⟩
    clear hs556
    have pk557 : PK w w545 := PK.tr pk541 pk554
    have os558 : ∀ j, (j < 100 + 2 * u45 ∨ 102 + 2 * u45 ≤ j) → j < 140 → rwv w545 86 j = rwv w 86 j := fun j hj hl => (rwv_fr hF548 (by decide)).trans (os542 j hj hl)
    have rg559 : FA w545 ≠ 0 ∨ 0 = 1 := (Or.inl hv539 : FA w533 ≠ 0 ∨ 0 = 1).imp_left pk554.1
    have mf560 : ∀ s, s < 7 → rwv w545 85 s = rwv w 85 s := fun s hs => (rwv_fr hF548 (by decide)).trans (mf543 s hs)
    have ms561 : mu w545 < mu w := Nat.lt_of_lt_of_le (hv551 (by omega)) pk541.2.1
    clear hv551
    have jn562 : ∀ (w563 : List (List xE)), xMnv w563 → xFr [82, 83, 85, 86, 87] w w563 → (PK w w563 ∧ (∀ j, (j < 100 + 2 * u45 ∨ 102 + 2 * u45 ≤ j) → j < 140 → rwv w563 86 j = rwv w 86 j) ∧ mu w563 < mu w ∧ (∀ s, s < 7 → rwv w563 85 s = rwv w 85 s) ∧ (FA w563 ≠ 0 ∨ u45 < 20)) → xTo (d + 7) mX12_aLine (394, [], [(0, (2, 82)), (1, (0, 4)), (3, (0, u45))], [], (w563, bd, fc, 0, 0, rr)) (fun φ => ∃ w', xEnd 0 [] (w', bd, fc, 0, 0, rr) φ ∧ xMnv w' ∧ xFr [82, 83, 85, 86, 87] w w' ∧ ((FA w ≠ 0 → FA w' ≠ 0) ∧ PS w' ∧ ((fld w' 82 10 = 1 ∧ mu w' = mu w ∧ fld w' 82 14 = fld w 82 14 ∧ ∀ s, s < 7 → rwv w' 85 s = rwv w 85 s) ∨ (mu w' < mu w ∧ fld w' 82 14 = fld w 82 14 + 1 ∧ ∀ s, s < 7 → rwv w' 85 s ≤ rwv w 85 s + 1)) ∧ (FA w' ≠ 0 ∨ (DATA w → DATA w')) ∧ K83 w w')) := by
      intro w563 hI564 hF565 he566
      obtain ⟨hj567, hj568, hj569, hj570, hj571⟩ := he566
      refine xg_t (xg_blq rfl) ?_
      refine xg_t (xg_aload (va := (2, 82)) rfl rfl) ?_
      refine xoCh82 (xqc82 hI564 : cp82 (wget w563 82)) (fun f82_572 f82_574 f82_576 f82_578 f82_580 f82_582 f82_584 f82_586 f82_588 f82_590 f82_592 f82_593 f82_594 f82_596 f82_598 f82_600 h82_602 hb573 hb575 hb577 hb579 hb581 hb583 hb585 hb587 hb589 hb591 hb595 hb597 hb599 hb601 hb603 => ?_)
      refine xg_t (xg_getf (va := (0, f82_588)) h82_602 rfl) ?_
      by_cases hc604 : f82_588 = 0
      · refine xg_t (xg_ifF (u := f82_588) rfl xnm0 (xj_neF hc604)) ?_
        refine xg_t (xg_aload (va := (2, 82)) rfl rfl) ?_
        refine xg_t (xg_getf (va := (0, f82_582)) h82_602 rfl) ?_
        refine xg_t (xg_const) ?_
        by_cases hc605 : f82_582 = 2
        · refine xg_t (xg_icF (u := f82_582) (v := 2) rfl xnm0 xnm0 (xj_neF hc605)) ?_
          refine xg_t (xg_aload (va := (2, 82)) rfl rfl) ?_
          refine xg_cVv mX12_advance (vs := []) (rest := []) (cn1 := 0) (sl1 := 0) rfl (mAdvance (hI564)) rfl h82_602 rfl rfl rfl rfl rfl rfl (fun w606 hq607 => ?_)
          obtain ⟨hI608, hF609, hx610⟩ := hq607
          clear hb573 hb575 hb577 hb579 hb581 hb583 hb585 hb587 hb589 hb591 hb595 hb597 hb599 hb601
          obtain ⟨hv611, hv612, hv613, hv614⟩ := hx610
          have hf616 := FA_fr hF609 (by decide)
          have hs617 := hj567.2.2.2.1
          unfold PS at hs617
          have pk615 : PK w563 w606 := ⟨fun _ => by omega, hv611, hv614, (show fld w606 82 10 = 0 ∨ FA w606 ≠ 0 by omega), K83.fr hF609 (by decide)⟩
          clear hs617
          clear hv612
          have pk618 : PK w w606 := PK.tr hj567 pk615
          have os619 : ∀ j, (j < 100 + 2 * u45 ∨ 102 + 2 * u45 ≤ j) → j < 140 → rwv w606 86 j = rwv w 86 j := fun j hj hl => (rwv_fr hF609 (by decide)).trans (hj568 j hj hl)
          have rg620 : FA w606 ≠ 0 ∨ u45 < 20 := hj571.imp_left pk615.1
          have mf621 : ∀ s, s < 7 → rwv w606 85 s = rwv w 85 s := fun s hs => (rwv_fr hF609 (by decide)).trans (hj570 s hs)
          have ms622 : mu w606 < mu w := Nat.lt_of_le_of_lt pk615.2.1 hj569
          clear hj571
          refine xg_t (xg_goto) ?_
          refine xg_t (xg_blq rfl) ?_
          refine xoCh82 (xqc82 hI608 : cp82 (wget w606 82)) (fun f82_623 f82_625 f82_627 f82_629 f82_631 f82_633 f82_635 f82_637 f82_639 f82_641 f82_643 f82_644 f82_645 f82_647 f82_649 f82_651 h82_653 hb624 hb626 hb628 hb630 hb632 hb634 hb636 hb638 hb640 hb642 hb646 hb648 hb650 hb652 hb654 => ?_)
          have hf655 : fld w606 82 4 = f82_627 := fld_of h82_653
          have hf656 : fld w606 82 5 = f82_629 := fld_of h82_653
          have hf657 : fld w606 82 7 = f82_633 := fld_of h82_653
          have hf658 : fld w606 82 10 = f82_639 := fld_of h82_653
          have hf659 : fld w606 82 14 = f82_641 := fld_of h82_653
          have hu660 : mu w606 = 2 * (fld w606 82 4 - fld w606 82 5) + min 1 (fld w606 82 7) := rfl
          have hf661 := pk618.2.2.1
          have hl662 : f82_641 ≤ 1000 := by omega
          refine xg_t (xg_aload (va := (2, 82)) rfl rfl) ?_
          refine xg_t (xg_getf (va := (2, 85)) h82_653 rfl) ?_
          refine xg_t (xg_iload (va := (0, 4)) rfl rfl) ?_
          refine xg_t (xg_dup2 rfl) ?_
          refine xoI (xqc85 hI608 : cpI 7 52 4294967295 (wget w606 85)) (fun g85_663 h85_664 hb665 => ?_)
          refine xg_ialdB (n := 4) (B := 4294967295) h85_664 (hb665) xnm0 (by first | decide | omega) (fun u666 hu667 he668 => ?_)
          have hl669 : u666 = u45 := by have q1 := rwv_of h85_664 (show 4 < 7 by decide); have q2 := mf621 4 (by decide); omega
          refine xg_t (xg_const) ?_
          refine xg_t (xg_iadd (u := u666) (v := 1) (z := u666 + 1) xnm0 xnm0 (by omega)) ?_
          refine xg_iastK (n := 4) (u := u666 + 1) h85_664 xnm0 xnm0 rfl (by first | decide | omega) (fun w670 hr671 hb672 => ?_)
          refine xg_t (xg_aload (va := (2, 82)) rfl rfl) ?_
          refine xg_t (xg_dup rfl) ?_
          refine xg_t (xg_getf (va := (0, f82_641)) (hb672.get (by decide) h82_653) rfl) ?_
          have hn673 := id hb642
          unfold xHid at hn673
          refine xg_t (xg_const) ?_
          refine xg_t (xg_iadd (u := f82_641) (v := 1) (z := f82_641 + 1) xnm0 xnm0 (by omega)) ?_
          refine xg_putI (fl1 := [(2, 83), (2, 84), (0, f82_623), (0, f82_625), (0, f82_627), (0, f82_629), (0, f82_631), (0, f82_633), (0, f82_635), (0, f82_637), (0, f82_639), (2, 85), (2, 86), (2, 87), (0, f82_641 + 1), (2, 88), (2, 89), (2, 90), (2, 91), (2, 92), (2, 93), (2, 94), (4, f82_643), (4, f82_644), (0, f82_645), (2, 95), (2, 96), (2, 97), (2, 98), (2, 99), (2, 100), (2, 101), (2, 102), (0, f82_647), (2, 103), (2, 104), (2, 105), (2, 106), (2, 107), (2, 108), (2, 109), (0, f82_649), (0, f82_651), (2, 110), (2, 111), (2, 112), (2, 113)]) (hb672.get (by decide) h82_653) rfl rfl rfl (fun w674 hk675 hb676 => ?_)
          have hF677 : xFr [82, 85] w606 w674 := ((xFr.of (S := [82, 85]) hb672 (by decide)).tr (xFr.of (S := [82, 85]) hb676 (by decide)))
          have hA678 := FA_fr hF677 (by decide)
          have hf679 : fld w674 82 4 = f82_627 := fld_of hk675
          have hf680 : fld w674 82 5 = f82_629 := fld_of hk675
          have hf681 : fld w674 82 7 = f82_633 := fld_of hk675
          have hf682 : fld w674 82 10 = f82_639 := fld_of hk675
          have hf683 : fld w674 82 14 = f82_641 + 1 := fld_of hk675
          have hu684 : mu w674 = 2 * (fld w674 82 4 - fld w674 82 5) + min 1 (fld w674 82 7) := rfl
          have pq685 := pk618
          unfold PK PS at pq685
          have hM686 : ∀ s, s < 7 → s ≠ 4 → rwv w674 85 s = rwv w 85 s := fun s hs hn => (rwv_of (hr671.but hb676 (by decide)) hs).trans ((if_neg hn).trans ((rwv_of h85_664 hs).symm.trans (mf621 s hs)))
          have hM687 : rwv w674 85 4 = u45 + 1 := (rwv_of (hr671.but hb676 (by decide)) (by decide)).trans ((if_pos rfl).trans (by omega))
          have hM688 : ∀ s, s < 7 → rwv w674 85 s ≤ rwv w 85 s + 1 := fun s hs => by
            by_cases z : s = 4
            · subst z; omega
            · rw [hM686 s hs z]; omega
          have hO689 : ∀ j, (j < 100 + 2 * u45 ∨ 102 + 2 * u45 ≤ j) → j < 140 → rwv w674 86 j = rwv w 86 j := fun j hj hl => (rwv_fr hF677 (by decide)).trans (os619 j hj hl)
          have hl691 : FA w606 ≠ 0 ∨ u45 < 20 := rg620
          have hN690 : FA w674 ≠ 0 ∨ 20 ≤ u45 ∨ True := Or.inr (Or.inr trivial)
          have hX692 : FA w674 ≠ 0 ∨ u45 < 20 := by omega
          have hD693 : FA w674 ≠ 0 ∨ (DATA w → DATA w674) := by
            by_cases z : FA w674 ≠ 0
            · exact Or.inl z
            · exact Or.inr (fun hd => hd.s4 hM686 hK48 hM687 (hX692.resolve_left z) hO689 ((hN690.resolve_left z).resolve_left (by have := hX692.resolve_left z; omega)))
          exact xg_e ⟨w674, ⟨rfl, rfl⟩, xMnv.up (S := [85, 82]) hI608 ((xFr.of (S := [85, 82]) hb672 (by decide)).tr (xFr.of (S := [85, 82]) hb676 (by decide))) (List.forall_mem_cons.mpr ⟨xqu85 (show cpI 7 52 4294967295 (wget w674 85) from ⟨_, (hr671.but hb676 (by decide)), xrb (by omega) (hb665)⟩), List.forall_mem_cons.mpr ⟨xqu82 (show cp82 (wget w674 82) from xmC82 f82_623 f82_625 f82_627 f82_629 f82_631 f82_633 f82_635 f82_637 f82_639 (f82_641 + 1) f82_643 f82_644 f82_645 f82_647 f82_649 f82_651 hk675 hb624 hb626 hb628 hb630 hb632 hb634 hb636 hb638 hb640 (by omega) hb646 hb648 hb650 hb652 (by omega)), fun _ h => absurd h List.not_mem_nil⟩⟩), ((hF565.tr (hF609.up (by decide))).tr ((xFr.of (S := [82, 83, 85, 86, 87]) hb672 (by decide)).tr (xFr.of (S := [82, 83, 85, 86, 87]) hb676 (by decide)))), ⟨fun h => by have := pq685.1 h; omega, (show fld w674 82 10 = 0 ∨ FA w674 ≠ 0 by omega), Or.inr ⟨by have := ms622; omega, by omega, hM688⟩, hD693, pk618.2.2.2.2.tr (K83.fr hF677 (by decide))⟩⟩
        · refine xg_t (xg_icT (u := f82_582) (v := 2) rfl xnm0 xnm0 (xj_neT hc605)) ?_
          refine xg_t (xg_blq rfl) ?_
          refine xg_t (xg_aload (va := (2, 82)) rfl rfl) ?_
          refine xg_cVv mX12_ends (vs := []) (rest := []) (cn1 := 0) (sl1 := 0) rfl (mEnds (hI564) hj567.2.2.2.1) rfl h82_602 rfl rfl rfl rfl rfl rfl (fun w694 hq695 => ?_)
          obtain ⟨hI696, hF697, hx698⟩ := hq695
          clear hb573 hb575 hb577 hb579 hb581 hb583 hb585 hb587 hb589 hb591 hb595 hb597 hb599 hb601
          obtain ⟨hv699, hv700, hv701, hv702, hv703⟩ := hx698
          have pk704 : PK w563 w694 := ⟨fun _ => hv699, by omega, by omega, Or.inr hv699, hv703⟩
          have pk705 : PK w w694 := PK.tr hj567 pk704
          have os706 : ∀ j, (j < 100 + 2 * u45 ∨ 102 + 2 * u45 ≤ j) → j < 140 → rwv w694 86 j = rwv w 86 j := fun j hj hl => (rwv_fr hF697 (by decide)).trans (hj568 j hj hl)
          have rg707 : FA w694 ≠ 0 ∨ u45 < 20 := hj571.imp_left pk704.1
          have mf708 : ∀ s, s < 7 → rwv w694 85 s = rwv w 85 s := fun s hs => (rwv_fr hF697 (by decide)).trans (hj570 s hs)
          have ms709 : mu w694 < mu w := Nat.lt_of_le_of_lt pk704.2.1 hj569
          clear hj571
          refine xg_t (xg_blq rfl) ?_
          refine xoCh82 (xqc82 hI696 : cp82 (wget w694 82)) (fun f82_710 f82_712 f82_714 f82_716 f82_718 f82_720 f82_722 f82_724 f82_726 f82_728 f82_730 f82_731 f82_732 f82_734 f82_736 f82_738 h82_740 hb711 hb713 hb715 hb717 hb719 hb721 hb723 hb725 hb727 hb729 hb733 hb735 hb737 hb739 hb741 => ?_)
          have hf742 : fld w694 82 4 = f82_714 := fld_of h82_740
          have hf743 : fld w694 82 5 = f82_716 := fld_of h82_740
          have hf744 : fld w694 82 7 = f82_720 := fld_of h82_740
          have hf745 : fld w694 82 10 = f82_726 := fld_of h82_740
          have hf746 : fld w694 82 14 = f82_728 := fld_of h82_740
          have hu747 : mu w694 = 2 * (fld w694 82 4 - fld w694 82 5) + min 1 (fld w694 82 7) := rfl
          have hf748 := pk705.2.2.1
          have hl749 : f82_728 ≤ 1000 := by omega
          refine xg_t (xg_aload (va := (2, 82)) rfl rfl) ?_
          refine xg_t (xg_getf (va := (2, 85)) h82_740 rfl) ?_
          refine xg_t (xg_iload (va := (0, 4)) rfl rfl) ?_
          refine xg_t (xg_dup2 rfl) ?_
          refine xoI (xqc85 hI696 : cpI 7 52 4294967295 (wget w694 85)) (fun g85_750 h85_751 hb752 => ?_)
          refine xg_ialdB (n := 4) (B := 4294967295) h85_751 (hb752) xnm0 (by first | decide | omega) (fun u753 hu754 he755 => ?_)
          have hl756 : u753 = u45 := by have q1 := rwv_of h85_751 (show 4 < 7 by decide); have q2 := mf708 4 (by decide); omega
          refine xg_t (xg_const) ?_
          refine xg_t (xg_iadd (u := u753) (v := 1) (z := u753 + 1) xnm0 xnm0 (by omega)) ?_
          refine xg_iastK (n := 4) (u := u753 + 1) h85_751 xnm0 xnm0 rfl (by first | decide | omega) (fun w757 hr758 hb759 => ?_)
          refine xg_t (xg_aload (va := (2, 82)) rfl rfl) ?_
          refine xg_t (xg_dup rfl) ?_
          refine xg_t (xg_getf (va := (0, f82_728)) (hb759.get (by decide) h82_740) rfl) ?_
          have hn760 := id hb729
          unfold xHid at hn760
          refine xg_t (xg_const) ?_
          refine xg_t (xg_iadd (u := f82_728) (v := 1) (z := f82_728 + 1) xnm0 xnm0 (by omega)) ?_
          refine xg_putI (fl1 := [(2, 83), (2, 84), (0, f82_710), (0, f82_712), (0, f82_714), (0, f82_716), (0, f82_718), (0, f82_720), (0, f82_722), (0, f82_724), (0, f82_726), (2, 85), (2, 86), (2, 87), (0, f82_728 + 1), (2, 88), (2, 89), (2, 90), (2, 91), (2, 92), (2, 93), (2, 94), (4, f82_730), (4, f82_731), (0, f82_732), (2, 95), (2, 96), (2, 97), (2, 98), (2, 99), (2, 100), (2, 101), (2, 102), (0, f82_734), (2, 103), (2, 104), (2, 105), (2, 106), (2, 107), (2, 108), (2, 109), (0, f82_736), (0, f82_738), (2, 110), (2, 111), (2, 112), (2, 113)]) (hb759.get (by decide) h82_740) rfl rfl rfl (fun w761 hk762 hb763 => ?_)
          have hF764 : xFr [82, 85] w694 w761 := ((xFr.of (S := [82, 85]) hb759 (by decide)).tr (xFr.of (S := [82, 85]) hb763 (by decide)))
          have hA765 := FA_fr hF764 (by decide)
          have hf766 : fld w761 82 4 = f82_714 := fld_of hk762
          have hf767 : fld w761 82 5 = f82_716 := fld_of hk762
          have hf768 : fld w761 82 7 = f82_720 := fld_of hk762
          have hf769 : fld w761 82 10 = f82_726 := fld_of hk762
          have hf770 : fld w761 82 14 = f82_728 + 1 := fld_of hk762
          have hu771 : mu w761 = 2 * (fld w761 82 4 - fld w761 82 5) + min 1 (fld w761 82 7) := rfl
          have pq772 := pk705
          unfold PK PS at pq772
          have hM773 : ∀ s, s < 7 → s ≠ 4 → rwv w761 85 s = rwv w 85 s := fun s hs hn => (rwv_of (hr758.but hb763 (by decide)) hs).trans ((if_neg hn).trans ((rwv_of h85_751 hs).symm.trans (mf708 s hs)))
          have hM774 : rwv w761 85 4 = u45 + 1 := (rwv_of (hr758.but hb763 (by decide)) (by decide)).trans ((if_pos rfl).trans (by omega))
          have hM775 : ∀ s, s < 7 → rwv w761 85 s ≤ rwv w 85 s + 1 := fun s hs => by
            by_cases z : s = 4
            · subst z; omega
            · rw [hM773 s hs z]; omega
          have hO776 : ∀ j, (j < 100 + 2 * u45 ∨ 102 + 2 * u45 ≤ j) → j < 140 → rwv w761 86 j = rwv w 86 j := fun j hj hl => (rwv_fr hF764 (by decide)).trans (os706 j hj hl)
          have hl778 : FA w694 ≠ 0 ∨ u45 < 20 := rg707
          have hN777 : FA w761 ≠ 0 ∨ 20 ≤ u45 ∨ True := Or.inr (Or.inr trivial)
          have hX779 : FA w761 ≠ 0 ∨ u45 < 20 := by omega
          have hD780 : FA w761 ≠ 0 ∨ (DATA w → DATA w761) := by
            by_cases z : FA w761 ≠ 0
            · exact Or.inl z
            · exact Or.inr (fun hd => hd.s4 hM773 hK48 hM774 (hX779.resolve_left z) hO776 ((hN777.resolve_left z).resolve_left (by have := hX779.resolve_left z; omega)))
          exact xg_e ⟨w761, ⟨rfl, rfl⟩, xMnv.up (S := [85, 82]) hI696 ((xFr.of (S := [85, 82]) hb759 (by decide)).tr (xFr.of (S := [85, 82]) hb763 (by decide))) (List.forall_mem_cons.mpr ⟨xqu85 (show cpI 7 52 4294967295 (wget w761 85) from ⟨_, (hr758.but hb763 (by decide)), xrb (by omega) (hb752)⟩), List.forall_mem_cons.mpr ⟨xqu82 (show cp82 (wget w761 82) from xmC82 f82_710 f82_712 f82_714 f82_716 f82_718 f82_720 f82_722 f82_724 f82_726 (f82_728 + 1) f82_730 f82_731 f82_732 f82_734 f82_736 f82_738 hk762 hb711 hb713 hb715 hb717 hb719 hb721 hb723 hb725 hb727 (by omega) hb733 hb735 hb737 hb739 (by omega)), fun _ h => absurd h List.not_mem_nil⟩⟩), ((hF565.tr (hF697.up (by decide))).tr ((xFr.of (S := [82, 83, 85, 86, 87]) hb759 (by decide)).tr (xFr.of (S := [82, 83, 85, 86, 87]) hb763 (by decide)))), ⟨fun h => by have := pq772.1 h; omega, (show fld w761 82 10 = 0 ∨ FA w761 ≠ 0 by omega), Or.inr ⟨by have := ms709; omega, by omega, hM775⟩, hD780, pk705.2.2.2.2.tr (K83.fr hF764 (by decide))⟩⟩
      · refine xg_t (xg_ifT (u := f82_588) rfl xnm0 (xj_neT hc604)) ?_
        refine xg_t (xg_blq rfl) ?_
        refine xg_t (xg_aload (va := (2, 82)) rfl rfl) ?_
        refine xg_cVv mX12_ends (vs := []) (rest := []) (cn1 := 0) (sl1 := 0) rfl (mEnds (hI564) hj567.2.2.2.1) rfl h82_602 rfl rfl rfl rfl rfl rfl (fun w781 hq782 => ?_)
        obtain ⟨hI783, hF784, hx785⟩ := hq782
        clear hb573 hb575 hb577 hb579 hb581 hb583 hb585 hb587 hb589 hb591 hb595 hb597 hb599 hb601
        obtain ⟨hv786, hv787, hv788, hv789, hv790⟩ := hx785
        have pk791 : PK w563 w781 := ⟨fun _ => hv786, by omega, by omega, Or.inr hv786, hv790⟩
        have pk792 : PK w w781 := PK.tr hj567 pk791
        have os793 : ∀ j, (j < 100 + 2 * u45 ∨ 102 + 2 * u45 ≤ j) → j < 140 → rwv w781 86 j = rwv w 86 j := fun j hj hl => (rwv_fr hF784 (by decide)).trans (hj568 j hj hl)
        have rg794 : FA w781 ≠ 0 ∨ u45 < 20 := hj571.imp_left pk791.1
        have mf795 : ∀ s, s < 7 → rwv w781 85 s = rwv w 85 s := fun s hs => (rwv_fr hF784 (by decide)).trans (hj570 s hs)
        have ms796 : mu w781 < mu w := Nat.lt_of_le_of_lt pk791.2.1 hj569
        clear hj571
        refine xg_t (xg_blq rfl) ?_
        refine xoCh82 (xqc82 hI783 : cp82 (wget w781 82)) (fun f82_797 f82_799 f82_801 f82_803 f82_805 f82_807 f82_809 f82_811 f82_813 f82_815 f82_817 f82_818 f82_819 f82_821 f82_823 f82_825 h82_827 hb798 hb800 hb802 hb804 hb806 hb808 hb810 hb812 hb814 hb816 hb820 hb822 hb824 hb826 hb828 => ?_)
        have hf829 : fld w781 82 4 = f82_801 := fld_of h82_827
        have hf830 : fld w781 82 5 = f82_803 := fld_of h82_827
        have hf831 : fld w781 82 7 = f82_807 := fld_of h82_827
        have hf832 : fld w781 82 10 = f82_813 := fld_of h82_827
        have hf833 : fld w781 82 14 = f82_815 := fld_of h82_827
        have hu834 : mu w781 = 2 * (fld w781 82 4 - fld w781 82 5) + min 1 (fld w781 82 7) := rfl
        have hf835 := pk792.2.2.1
        have hl836 : f82_815 ≤ 1000 := by omega
        refine xg_t (xg_aload (va := (2, 82)) rfl rfl) ?_
        refine xg_t (xg_getf (va := (2, 85)) h82_827 rfl) ?_
        refine xg_t (xg_iload (va := (0, 4)) rfl rfl) ?_
        refine xg_t (xg_dup2 rfl) ?_
        refine xoI (xqc85 hI783 : cpI 7 52 4294967295 (wget w781 85)) (fun g85_837 h85_838 hb839 => ?_)
        refine xg_ialdB (n := 4) (B := 4294967295) h85_838 (hb839) xnm0 (by first | decide | omega) (fun u840 hu841 he842 => ?_)
        have hl843 : u840 = u45 := by have q1 := rwv_of h85_838 (show 4 < 7 by decide); have q2 := mf795 4 (by decide); omega
        refine xg_t (xg_const) ?_
        refine xg_t (xg_iadd (u := u840) (v := 1) (z := u840 + 1) xnm0 xnm0 (by omega)) ?_
        refine xg_iastK (n := 4) (u := u840 + 1) h85_838 xnm0 xnm0 rfl (by first | decide | omega) (fun w844 hr845 hb846 => ?_)
        refine xg_t (xg_aload (va := (2, 82)) rfl rfl) ?_
        refine xg_t (xg_dup rfl) ?_
        refine xg_t (xg_getf (va := (0, f82_815)) (hb846.get (by decide) h82_827) rfl) ?_
        have hn847 := id hb816
        unfold xHid at hn847
        refine xg_t (xg_const) ?_
        refine xg_t (xg_iadd (u := f82_815) (v := 1) (z := f82_815 + 1) xnm0 xnm0 (by omega)) ?_
        refine xg_putI (fl1 := [(2, 83), (2, 84), (0, f82_797), (0, f82_799), (0, f82_801), (0, f82_803), (0, f82_805), (0, f82_807), (0, f82_809), (0, f82_811), (0, f82_813), (2, 85), (2, 86), (2, 87), (0, f82_815 + 1), (2, 88), (2, 89), (2, 90), (2, 91), (2, 92), (2, 93), (2, 94), (4, f82_817), (4, f82_818), (0, f82_819), (2, 95), (2, 96), (2, 97), (2, 98), (2, 99), (2, 100), (2, 101), (2, 102), (0, f82_821), (2, 103), (2, 104), (2, 105), (2, 106), (2, 107), (2, 108), (2, 109), (0, f82_823), (0, f82_825), (2, 110), (2, 111), (2, 112), (2, 113)]) (hb846.get (by decide) h82_827) rfl rfl rfl (fun w848 hk849 hb850 => ?_)
        have hF851 : xFr [82, 85] w781 w848 := ((xFr.of (S := [82, 85]) hb846 (by decide)).tr (xFr.of (S := [82, 85]) hb850 (by decide)))
        have hA852 := FA_fr hF851 (by decide)
        have hf853 : fld w848 82 4 = f82_801 := fld_of hk849
        have hf854 : fld w848 82 5 = f82_803 := fld_of hk849
        have hf855 : fld w848 82 7 = f82_807 := fld_of hk849
        have hf856 : fld w848 82 10 = f82_813 := fld_of hk849
        have hf857 : fld w848 82 14 = f82_815 + 1 := fld_of hk849
        have hu858 : mu w848 = 2 * (fld w848 82 4 - fld w848 82 5) + min 1 (fld w848 82 7) := rfl
        have pq859 := pk792
        unfold PK PS at pq859
        have hM860 : ∀ s, s < 7 → s ≠ 4 → rwv w848 85 s = rwv w 85 s := fun s hs hn => (rwv_of (hr845.but hb850 (by decide)) hs).trans ((if_neg hn).trans ((rwv_of h85_838 hs).symm.trans (mf795 s hs)))
        have hM861 : rwv w848 85 4 = u45 + 1 := (rwv_of (hr845.but hb850 (by decide)) (by decide)).trans ((if_pos rfl).trans (by omega))
        have hM862 : ∀ s, s < 7 → rwv w848 85 s ≤ rwv w 85 s + 1 := fun s hs => by
          by_cases z : s = 4
          · subst z; omega
          · rw [hM860 s hs z]; omega
        have hO863 : ∀ j, (j < 100 + 2 * u45 ∨ 102 + 2 * u45 ≤ j) → j < 140 → rwv w848 86 j = rwv w 86 j := fun j hj hl => (rwv_fr hF851 (by decide)).trans (os793 j hj hl)
        have hl865 : FA w781 ≠ 0 ∨ u45 < 20 := rg794
        have hN864 : FA w848 ≠ 0 ∨ 20 ≤ u45 ∨ True := Or.inr (Or.inr trivial)
        have hX866 : FA w848 ≠ 0 ∨ u45 < 20 := by omega
        have hD867 : FA w848 ≠ 0 ∨ (DATA w → DATA w848) := by
          by_cases z : FA w848 ≠ 0
          · exact Or.inl z
          · exact Or.inr (fun hd => hd.s4 hM860 hK48 hM861 (hX866.resolve_left z) hO863 ((hN864.resolve_left z).resolve_left (by have := hX866.resolve_left z; omega)))
        exact xg_e ⟨w848, ⟨rfl, rfl⟩, xMnv.up (S := [85, 82]) hI783 ((xFr.of (S := [85, 82]) hb846 (by decide)).tr (xFr.of (S := [85, 82]) hb850 (by decide))) (List.forall_mem_cons.mpr ⟨xqu85 (show cpI 7 52 4294967295 (wget w848 85) from ⟨_, (hr845.but hb850 (by decide)), xrb (by omega) (hb839)⟩), List.forall_mem_cons.mpr ⟨xqu82 (show cp82 (wget w848 82) from xmC82 f82_797 f82_799 f82_801 f82_803 f82_805 f82_807 f82_809 f82_811 f82_813 (f82_815 + 1) f82_817 f82_818 f82_819 f82_821 f82_823 f82_825 hk849 hb798 hb800 hb802 hb804 hb806 hb808 hb810 hb812 hb814 (by omega) hb820 hb822 hb824 hb826 (by omega)), fun _ h => absurd h List.not_mem_nil⟩⟩), ((hF565.tr (hF784.up (by decide))).tr ((xFr.of (S := [82, 83, 85, 86, 87]) hb846 (by decide)).tr (xFr.of (S := [82, 83, 85, 86, 87]) hb850 (by decide)))), ⟨fun h => by have := pq859.1 h; omega, (show fld w848 82 10 = 0 ∨ FA w848 ≠ 0 by omega), Or.inr ⟨by have := ms796; omega, by omega, hM862⟩, hD867, pk792.2.2.2.2.tr (K83.fr hF851 (by decide))⟩⟩
    refine xg_t (xg_iload (va := (0, 4)) rfl rfl) ?_
    refine xg_t (xg_swt (ks := [(0, 108), (1, 116), (2, 180), (3, 221), (4, 273), (5, 326)]) (u := 4) (z := 273) rfl rfl rfl xnm0 (xsw_n (by omega) (xsw_n (by omega) (xsw_n (by omega) (xsw_n (by omega) (xsw_y rfl)))))) ?_
    refine xg_t (xg_blq rfl) ?_
    refine xg_t (xg_iload (va := (0, u45)) rfl rfl) ?_
    refine xg_t (xg_bip) ?_
    refine xg_t (xg_icT (u := u45) (v := 20) rfl xnm0 xnm0 (xj_geT (by omega) (by omega))) ?_
    refine xg_t (xg_blq rfl) ?_
    refine xg_t (xg_const) ?_
    refine xg_t (xg_istore (l1 := [(3, (0, u45)), (2, (0, at_)), (1, (0, 4)), (0, (2, 82))]) rfl rfl rfl) ?_
    refine xg_t (xg_blq rfl) ?_
    refine xg_t (xg_iload (va := (0, 0)) rfl rfl) ?_
    refine xg_t (xg_const) ?_
    refine xg_t (xg_icF (u := 0) (v := 2) rfl xnm0 xnm0 (by decide)) ?_
    refine xg_t (xg_aload (va := (2, 82)) rfl rfl) ?_
    refine xg_t (xg_iload (va := (0, 4)) rfl rfl) ?_
    refine xg_t (xg_iload (va := (0, u45)) rfl rfl) ?_
    refine xg_t (xg_bip) ?_
    refine xg_t (xg_const) ?_
    refine xg_t (xg_iload (va := (0, u45)) rfl rfl) ?_
    refine xg_t (xg_imul (u := 2) (v := u45) (z := 2 * u45) xnm0 xnm0 (by omega)) ?_
    refine xg_t (xg_iadd (u := 100) (v := 2 * u45) (z := 100 + (2 * u45)) xnm0 xnm0 (by omega)) ?_
    refine xg_t (xg_iload (va := (0, 0)) rfl rfl) ?_
    refine xg_t (xg_iadd (u := 100 + (2 * u45)) (v := 0) (z := (100 + (2 * u45)) + 0) xnm0 xnm0 (by omega)) ?_
    refine xg_t (xg_aload (va := (2, 82)) rfl rfl) ?_
    refine xg_t (xg_const) ?_
    refine xg_t (xg_bip) ?_
    refine xoCh82 (xqc82 hI547 : cp82 (wget w545 82)) (fun f82_868 f82_870 f82_872 f82_874 f82_876 f82_878 f82_880 f82_882 f82_884 f82_886 f82_888 f82_889 f82_890 f82_892 f82_894 f82_896 h82_898 hb869 hb871 hb873 hb875 hb877 hb879 hb881 hb883 hb885 hb887 hb891 hb893 hb895 hb897 hb899 => ?_)
    refine xg_cVi mX12_numbered (vs := [(0, 0), (0, 9)]) (rest := [(0, (100 + (2 * u45)) + 0), (0, u45), (0, 4), (2, 82)]) (cn1 := 0) (sl1 := 0) rfl (mNumbered (hI547) (by omega) (by omega) pk557.2.2.2.1) rfl h82_898 rfl rfl rfl rfl rfl rfl (fun n904 w900 hq901 => ?_)
    obtain ⟨hn905, hI902, hF903⟩ := hq901
    clear hb869 hb871 hb873 hb875 hb877 hb879 hb881 hb883 hb885 hb887 hb891 hb893 hb895 hb897
    obtain ⟨hn906, hn907, hn908⟩ := hn905
    have pk909 : PK w w900 := PK.tr pk557 hn907
    have os910 : ∀ j, (j < 100 + 2 * u45 ∨ 102 + 2 * u45 ≤ j) → j < 140 → rwv w900 86 j = rwv w 86 j := fun j hj hl => (rwv_fr hF903 (by decide)).trans (os558 j hj hl)
    have rg911 : FA w900 ≠ 0 ∨ 0 = 1 := rg559.imp_left hn907.1
    have mf912 : ∀ s, s < 7 → rwv w900 85 s = rwv w 85 s := fun s hs => (rwv_fr hF903 (by decide)).trans (mf560 s hs)
    have ms913 : mu w900 < mu w := Nat.lt_of_le_of_lt hn907.2.1 ms561
    clear rg559
    refine xoCh82 (xqc82 hI902 : cp82 (wget w900 82)) (fun f82_914 f82_916 f82_918 f82_920 f82_922 f82_924 f82_926 f82_928 f82_930 f82_932 f82_934 f82_935 f82_936 f82_938 f82_940 f82_942 h82_944 hb915 hb917 hb919 hb921 hb923 hb925 hb927 hb929 hb931 hb933 hb937 hb939 hb941 hb943 hb945 => ?_)
    refine xg_cVv mX12_puts (vs := [(0, 4), (0, u45), (0, (100 + (2 * u45)) + 0), (0, n904)]) (rest := []) (cn1 := 0) (sl1 := 0) rfl (mPuts4 (hI902) (by omega) (by omega) (by omega) (fun _ => by omega)) rfl h82_944 rfl rfl rfl rfl rfl rfl (fun w946 hq947 => ?_)
    obtain ⟨hI948, hF949, hx950⟩ := hq947
    obtain ⟨hp951, hp952⟩ := hx950
    have pk953 : PK w w946 := PK.tr pk909 (PK.fr hF949 (by decide) (by decide) pk909.2.2.2.1)
    have os954 : ∀ j, (j < 100 + 2 * u45 ∨ 102 + 2 * u45 ≤ j) → j < 140 → rwv w946 86 j = rwv w 86 j := fun j hj hl => (hp952 j (by omega) hl).trans (os910 j hj hl)
    have rg955 : FA w946 ≠ 0 ∨ 0 = 1 := rg911.imp_left (PK.fr hF949 (by decide) (by decide) pk909.2.2.2.1).1
    have rg956 : FA w946 ≠ 0 ∨ (0 ≤ n904 ∧ n904 ≤ 9) := hn908.imp_left (PK.fr hF949 (by decide) (by decide) pk909.2.2.2.1).1
    have mf957 : ∀ s, s < 7 → rwv w946 85 s = rwv w 85 s := fun s hs => (rwv_fr hF949 (by decide)).trans (mf912 s hs)
    have ms958 : mu w946 < mu w := Nat.lt_of_le_of_lt (PK.fr hF949 (by decide) (by decide) pk909.2.2.2.1).2.1 ms913
    clear rg911 hn908
    refine xg_t (xg_iinc (u := 0) (z := 1) (l1 := [(3, (0, u45)), (2, (0, at_)), (1, (0, 4)), (0, (2, 82))]) rfl rfl (by decide) rfl) ?_
    refine xg_t (xg_goto) ?_
    refine xg_t (xg_blq rfl) ?_
    refine xg_t (xg_iload (va := (0, 1)) rfl rfl) ?_
    refine xg_t (xg_const) ?_
    refine xg_t (xg_icF (u := 1) (v := 2) rfl xnm0 xnm0 (by decide)) ?_
    refine xg_t (xg_aload (va := (2, 82)) rfl rfl) ?_
    refine xg_t (xg_iload (va := (0, 4)) rfl rfl) ?_
    refine xg_t (xg_iload (va := (0, u45)) rfl rfl) ?_
    refine xg_t (xg_bip) ?_
    refine xg_t (xg_const) ?_
    refine xg_t (xg_iload (va := (0, u45)) rfl rfl) ?_
    refine xg_t (xg_imul (u := 2) (v := u45) (z := 2 * u45) xnm0 xnm0 (by omega)) ?_
    refine xg_t (xg_iadd (u := 100) (v := 2 * u45) (z := 100 + (2 * u45)) xnm0 xnm0 (by omega)) ?_
    refine xg_t (xg_iload (va := (0, 1)) rfl rfl) ?_
    refine xg_t (xg_iadd (u := 100 + (2 * u45)) (v := 1) (z := (100 + (2 * u45)) + 1) xnm0 xnm0 (by omega)) ?_
    refine xg_t (xg_aload (va := (2, 82)) rfl rfl) ?_
    refine xg_t (xg_const) ?_
    refine xg_t (xg_bip) ?_
    refine xg_cVi mX12_numbered (vs := [(0, 0), (0, 9)]) (rest := [(0, (100 + (2 * u45)) + 1), (0, u45), (0, 4), (2, 82)]) (cn1 := 0) (sl1 := 0) rfl (mNumbered (hI948) (by omega) (by omega) pk953.2.2.2.1) rfl (hF949.get (by decide) h82_944) rfl rfl rfl rfl rfl rfl (fun n963 w959 hq960 => ?_)
    obtain ⟨hn964, hI961, hF962⟩ := hq960
    clear hb915 hb917 hb919 hb921 hb923 hb925 hb927 hb929 hb931 hb933 hb937 hb939 hb941 hb943
    obtain ⟨hn965, hn966, hn967⟩ := hn964
    have pk968 : PK w w959 := PK.tr pk953 hn966
    have os969 : ∀ j, (j < 100 + 2 * u45 ∨ 102 + 2 * u45 ≤ j) → j < 140 → rwv w959 86 j = rwv w 86 j := fun j hj hl => (rwv_fr hF962 (by decide)).trans (os954 j hj hl)
    have ix970 : u45 < 20 → rwv w959 86 ((100 + (2 * u45)) + 0) = n904 := fun h => (rwv_fr hF962 (by decide)).trans (hp951 h)
    have rg971 : FA w959 ≠ 0 ∨ 0 = 1 := rg955.imp_left hn966.1
    have rg972 : FA w959 ≠ 0 ∨ (0 ≤ n904 ∧ n904 ≤ 9) := rg956.imp_left hn966.1
    have mf973 : ∀ s, s < 7 → rwv w959 85 s = rwv w 85 s := fun s hs => (rwv_fr hF962 (by decide)).trans (mf957 s hs)
    have ms974 : mu w959 < mu w := Nat.lt_of_le_of_lt hn966.2.1 ms958
    clear hp951 rg955 rg956
    refine xoCh82 (xqc82 hI961 : cp82 (wget w959 82)) (fun f82_975 f82_977 f82_979 f82_981 f82_983 f82_985 f82_987 f82_989 f82_991 f82_993 f82_995 f82_996 f82_997 f82_999 f82_1001 f82_1003 h82_1005 hb976 hb978 hb980 hb982 hb984 hb986 hb988 hb990 hb992 hb994 hb998 hb1000 hb1002 hb1004 hb1006 => ?_)
    refine xg_cVv mX12_puts (vs := [(0, 4), (0, u45), (0, (100 + (2 * u45)) + 1), (0, n963)]) (rest := []) (cn1 := 0) (sl1 := 0) rfl (mPuts4 (hI961) (by omega) (by omega) (by omega) (fun _ => by omega)) rfl h82_1005 rfl rfl rfl rfl rfl rfl (fun w1007 hq1008 => ?_)
    obtain ⟨hI1009, hF1010, hx1011⟩ := hq1008
    obtain ⟨hp1012, hp1013⟩ := hx1011
    have pk1014 : PK w w1007 := PK.tr pk968 (PK.fr hF1010 (by decide) (by decide) pk968.2.2.2.1)
    have os1015 : ∀ j, (j < 100 + 2 * u45 ∨ 102 + 2 * u45 ≤ j) → j < 140 → rwv w1007 86 j = rwv w 86 j := fun j hj hl => (hp1013 j (by omega) hl).trans (os969 j hj hl)
    have ix1016 : u45 < 20 → rwv w1007 86 ((100 + (2 * u45)) + 0) = n904 := fun h => (hp1013 _ (by omega) (by omega)).trans (ix970 h)
    have rg1017 : FA w1007 ≠ 0 ∨ 0 = 1 := rg971.imp_left (PK.fr hF1010 (by decide) (by decide) pk968.2.2.2.1).1
    have rg1018 : FA w1007 ≠ 0 ∨ (0 ≤ n904 ∧ n904 ≤ 9) := rg972.imp_left (PK.fr hF1010 (by decide) (by decide) pk968.2.2.2.1).1
    have rg1019 : FA w1007 ≠ 0 ∨ (0 ≤ n963 ∧ n963 ≤ 9) := hn967.imp_left (PK.fr hF1010 (by decide) (by decide) pk968.2.2.2.1).1
    have mf1020 : ∀ s, s < 7 → rwv w1007 85 s = rwv w 85 s := fun s hs => (rwv_fr hF1010 (by decide)).trans (mf973 s hs)
    have ms1021 : mu w1007 < mu w := Nat.lt_of_le_of_lt (PK.fr hF1010 (by decide) (by decide) pk968.2.2.2.1).2.1 ms974
    clear ix970 rg971 rg972 hn967
    refine xg_t (xg_iinc (u := 1) (z := 2) (l1 := [(3, (0, u45)), (2, (0, at_)), (1, (0, 4)), (0, (2, 82))]) rfl rfl (by decide) rfl) ?_
    refine xg_t (xg_goto) ?_
    refine xg_t (xg_blq rfl) ?_
    refine xg_t (xg_iload (va := (0, 2)) rfl rfl) ?_
    refine xg_t (xg_const) ?_
    refine xg_t (xg_icT (u := 2) (v := 2) rfl xnm0 xnm0 (by decide)) ?_
    refine xg_t (xg_blq rfl) ?_
    refine xg_t (xg_goto) ?_
    refine xg_t (xg_drop (l1 := [(0, (2, 82)), (1, (0, 4)), (3, (0, u45))]) (List.forall_mem_cons.mpr ⟨List.mem_cons_of_mem _ (List.mem_cons_of_mem _ (List.mem_cons_of_mem _ (List.mem_cons_of_mem _ (List.mem_cons_self)))), List.forall_mem_cons.mpr ⟨List.mem_cons_of_mem _ (List.mem_cons_of_mem _ (List.mem_cons_of_mem _ (List.mem_cons_self))), List.forall_mem_cons.mpr ⟨List.mem_cons_of_mem _ (List.mem_cons_self), fun _ h => absurd h List.not_mem_nil⟩⟩⟩)) ?_
    have hX1022 : FA w1007 ≠ 0 ∨ u45 < 20 := Or.inl (by have q := rg1017; omega)
    exact jn562 w1007 (hI1009) (((((((hF536.up (by decide)).tr (hF548.up (by decide))).tr (hF903.up (by decide))).tr (hF949.up (by decide))).tr (hF962.up (by decide))).tr (hF1010.up (by decide)))) (⟨pk1014, os1015, ms1021, mf1020, hX1022⟩)
end XMB
end
