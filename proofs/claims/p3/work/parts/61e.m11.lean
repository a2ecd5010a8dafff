section
/-! the model: lines of films, more -/
section XMB
variable {d : Nat} {w : List (List xE)} {bd : List (Nat × Nat)} {fc : List (Nat × Nat × Bool)} {rr : Nat × Nat}
set_option maxHeartbeats 60000000 in
theorem mALineS5 {at_ : Nat} (hI : xMnv w) (hps : PS w) (hmb : ∀ s, s < 7 → rwv w 85 s ≤ 1000) (hln : fld w 82 14 ≤ 1000) (h7 : fld w 82 7 = 3) (hat : at_ ≤ 4294967295) : xTo (d + 7) mX12_aLine (43, [], [(2, (0, at_)), (1, (0, 5)), (0, (2, 82))], [], (w, bd, fc, 0, 0, rr)) (fun φ => ∃ w', xEnd 0 [] (w', bd, fc, 0, 0, rr) φ ∧ xMnv w' ∧ xFr [82, 83, 85, 86, 87] w w' ∧ ((FA w ≠ 0 → FA w' ≠ 0) ∧ PS w' ∧ ((fld w' 82 10 = 1 ∧ mu w' = mu w ∧ fld w' 82 14 = fld w 82 14 ∧ ∀ s, s < 7 → rwv w' 85 s = rwv w 85 s) ∨ (mu w' < mu w ∧ fld w' 82 14 = fld w 82 14 + 1 ∧ ∀ s, s < 7 → rwv w' 85 s ≤ rwv w 85 s + 1)) ∧ (FA w' ≠ 0 ∨ (DATA w → DATA w')) ∧ K83 w w')) := by
  refine xoCh82 (xqc82 hI : cp82 (wget w 82)) (fun f82_1 f82_3 f82_5 f82_7 f82_9 f82_11 f82_13 f82_15 f82_17 f82_19 f82_21 f82_22 f82_23 f82_25 f82_27 f82_29 h82_31 hb2 hb4 hb6 hb8 hb10 hb12 hb14 hb16 hb18 hb20 hb24 hb26 hb28 hb30 hb32 => ?_)
  have hf33 : fld w 82 7 = f82_11 := fld_of h82_31
  have hf34 : fld w 82 10 = f82_17 := fld_of h82_31
  have hf35 : fld w 82 14 = f82_19 := fld_of h82_31
  have hps_ : fld w 82 10 = 0 ∨ FA w ≠ 0 := hps
  refine xoI (xqc85 hI : cpI 7 52 4294967295 (wget w 85)) (fun g85_36 h85_37 hb38 => ?_)
  refine xoI (xqc86 hI : cpI 140 53 4294967295 (wget w 86)) (fun g86_39 h86_40 hb41 => ?_)
  refine xoI (xqc87 hI : cpI 20 54 4294967295 (wget w 87)) (fun g87_42 h87_43 hb44 => ?_)
  refine xg_t (xg_blq rfl) ?_
  refine xg_t (xg_aload (va := (2, 82)) rfl rfl) ?_
  refine xg_t (xg_getf (va := (2, 85)) h82_31 rfl) ?_
  refine xg_t (xg_iload (va := (0, 5)) rfl rfl) ?_
  refine xg_ialdB (n := 5) (B := 4294967295) h85_37 (hb38) xnm0 (by first | decide | omega) (fun u45 hu46 he47 => ?_)
  have hK48 : rwv w 85 5 = u45 := (rwv_of h85_37 (by decide)).trans he47
  have hm49 := hmb 5 (by decide)
  have hl50 : u45 ≤ 1000 := by omega
  refine xg_t (xg_istore (l1 := [(2, (0, at_)), (1, (0, 5)), (0, (2, 82))]) rfl rfl rfl) ?_
  refine xg_t (xg_iload (va := (0, u45)) rfl rfl) ?_
  refine xg_t (xg_iload (va := (0, 5)) rfl rfl) ?_
  refine xg_t (xg_cSr mX12_mostOf (vs := [(0, 5)]) (rest := [(0, u45)]) (rs := [(0, 1), (0, u45)]) (cn1 := 0) (sl1 := 0) rfl (mMostR5) rfl rfl rfl rfl rfl rfl rfl rfl) ?_
  by_cases hc51 : u45 < 1
  · refine xg_t (xg_icT (u := u45) (v := 1) rfl xnm0 xnm0 (xj_ltT hc51 (by omega))) ?_
    refine xg_t (xg_blq rfl) ?_
    refine xg_t (xg_aload (va := (2, 82)) rfl rfl) ?_
    refine xg_cVv mX12_advance (vs := []) (rest := []) (cn1 := 0) (sl1 := 0) rfl (mAdvance (hI)) rfl h82_31 rfl rfl rfl rfl rfl rfl (fun w52 hq53 => ?_)
    obtain ⟨hI54, hF55, hx56⟩ := hq53
    clear hb2 hb4 hb6 hb8 hb10 hb12 hb14 hb16 hb18 hb20 hb24 hb26 hb28 hb30
    obtain ⟨hv57, hv58, hv59, hv60⟩ := hx56
    have hf62 := FA_fr hF55 (by decide)
    have hs63 := (PK.rf hps).2.2.2.1
    unfold PS at hs63
    have pk61 : PK w w52 := ⟨fun _ => by omega, hv57, hv60, (show fld w52 82 10 = 0 ∨ FA w52 ≠ 0 by omega), K83.fr hF55 (by decide)⟩
    clear hs63
    have pk64 : PK w w52 := PK.tr (PK.rf hps) pk61
    have os65 : ∀ j, (j < 7 ∨ 9 ≤ j) → j < 140 → rwv w52 86 j = rwv w 86 j := fun j hj hl => (rwv_fr hF55 (by decide)).trans ((fun j _ _ => rfl) j hj hl)
    have mf66 : ∀ s, s < 7 → rwv w52 85 s = rwv w 85 s := fun s hs => (rwv_fr hF55 (by decide)).trans ((fun _ _ => rfl) s hs)
    have ms67 : mu w52 < mu w := Nat.lt_of_lt_of_le (hv58 (by omega)) (PK.rf hps).2.1
    clear hv58
    have jn68 : ∀ (w69 : List (List xE)), xMnv w69 → xFr [82, 83, 85, 86, 87] w w69 → (PK w w69 ∧ (∀ j, (j < 7 ∨ 9 ≤ j) → j < 140 → rwv w69 86 j = rwv w 86 j) ∧ mu w69 < mu w ∧ (∀ s, s < 7 → rwv w69 85 s = rwv w 85 s) ∧ (FA w69 ≠ 0 ∨ u45 < 1) ∧ (FA w69 ≠ 0 ∨ 1 ≤ u45 ∨ (1 ≤ rwv w69 86 7 ∧ rwv w69 86 7 ≤ 10 ∧ 1 ≤ rwv w69 86 8 ∧ rwv w69 86 8 ≤ 10))) → xTo (d + 7) mX12_aLine (394, [], [(0, (2, 82)), (1, (0, 5)), (3, (0, u45))], [], (w69, bd, fc, 0, 0, rr)) (fun φ => ∃ w', xEnd 0 [] (w', bd, fc, 0, 0, rr) φ ∧ xMnv w' ∧ xFr [82, 83, 85, 86, 87] w w' ∧ ((FA w ≠ 0 → FA w' ≠ 0) ∧ PS w' ∧ ((fld w' 82 10 = 1 ∧ mu w' = mu w ∧ fld w' 82 14 = fld w 82 14 ∧ ∀ s, s < 7 → rwv w' 85 s = rwv w 85 s) ∨ (mu w' < mu w ∧ fld w' 82 14 = fld w 82 14 + 1 ∧ ∀ s, s < 7 → rwv w' 85 s ≤ rwv w 85 s + 1)) ∧ (FA w' ≠ 0 ∨ (DATA w → DATA w')) ∧ K83 w w')) := by
      intro w69 hI70 hF71 he72
      obtain ⟨hj73, hj74, hj75, hj76, hj77, hj78⟩ := he72
      refine xg_t (xg_blq rfl) ?_
      refine xg_t (xg_aload (va := (2, 82)) rfl rfl) ?_
      refine xoCh82 (xqc82 hI70 : cp82 (wget w69 82)) (fun f82_79 f82_81 f82_83 f82_85 f82_87 f82_89 f82_91 f82_93 f82_95 f82_97 f82_99 f82_100 f82_101 f82_103 f82_105 f82_107 h82_109 hb80 hb82 hb84 hb86 hb88 hb90 hb92 hb94 hb96 hb98 hb102 hb104 hb106 hb108 hb110 => ?_)
      refine xg_t (xg_getf (va := (0, f82_95)) h82_109 rfl) ?_
      by_cases hc111 : f82_95 = 0
      · refine xg_t (xg_ifF (u := f82_95) rfl xnm0 (xj_neF hc111)) ?_
        refine xg_t (xg_aload (va := (2, 82)) rfl rfl) ?_
        refine xg_t (xg_getf (va := (0, f82_89)) h82_109 rfl) ?_
        refine xg_t (xg_const) ?_
        by_cases hc112 : f82_89 = 2
        · refine xg_t (xg_icF (u := f82_89) (v := 2) rfl xnm0 xnm0 (xj_neF hc112)) ?_
          refine xg_t (xg_aload (va := (2, 82)) rfl rfl) ?_
          refine xg_cVv mX12_advance (vs := []) (rest := []) (cn1 := 0) (sl1 := 0) rfl (mAdvance (hI70)) rfl h82_109 rfl rfl rfl rfl rfl rfl (fun w113 hq114 => ?_)
          obtain ⟨hI115, hF116, hx117⟩ := hq114
          clear hb80 hb82 hb84 hb86 hb88 hb90 hb92 hb94 hb96 hb98 hb102 hb104 hb106 hb108
          obtain ⟨hv118, hv119, hv120, hv121⟩ := hx117
          have hf123 := FA_fr hF116 (by decide)
          have hs124 := hj73.2.2.2.1
          unfold PS at hs124
          have pk122 : PK w69 w113 := ⟨fun _ => by omega, hv118, hv121, (show fld w113 82 10 = 0 ∨ FA w113 ≠ 0 by omega), K83.fr hF116 (by decide)⟩
          clear hs124
          clear hv119
          have pk125 : PK w w113 := PK.tr hj73 pk122
          have os126 : ∀ j, (j < 7 ∨ 9 ≤ j) → j < 140 → rwv w113 86 j = rwv w 86 j := fun j hj hl => (rwv_fr hF116 (by decide)).trans (hj74 j hj hl)
          have rg127 : FA w113 ≠ 0 ∨ u45 < 1 := hj77.imp_left pk122.1
          have mf128 : ∀ s, s < 7 → rwv w113 85 s = rwv w 85 s := fun s hs => (rwv_fr hF116 (by decide)).trans (hj76 s hs)
          have hl129 : rwv w113 86 (7) = rwv w69 86 (7) := rwv_fr hF116 (by decide)
          have hl130 : rwv w113 86 (8) = rwv w69 86 (8) := rwv_fr hF116 (by decide)
          have nw131 : FA w113 ≠ 0 ∨ 1 ≤ u45 ∨ (1 ≤ rwv w113 86 7 ∧ rwv w113 86 7 ≤ 10 ∧ 1 ≤ rwv w113 86 8 ∧ rwv w113 86 8 ≤ 10) := by have q := hj78; have q1 := pk122.1; omega
          clear hj78
          have ms132 : mu w113 < mu w := Nat.lt_of_le_of_lt pk122.2.1 hj75
          clear hj77
          refine xg_t (xg_goto) ?_
          refine xg_t (xg_blq rfl) ?_
          refine xoCh82 (xqc82 hI115 : cp82 (wget w113 82)) (fun f82_133 f82_135 f82_137 f82_139 f82_141 f82_143 f82_145 f82_147 f82_149 f82_151 f82_153 f82_154 f82_155 f82_157 f82_159 f82_161 h82_163 hb134 hb136 hb138 hb140 hb142 hb144 hb146 hb148 hb150 hb152 hb156 hb158 hb160 hb162 hb164 => ?_)
          have hf165 : fld w113 82 4 = f82_137 := fld_of h82_163
          have hf166 : fld w113 82 5 = f82_139 := fld_of h82_163
          have hf167 : fld w113 82 7 = f82_143 := fld_of h82_163
          have hf168 : fld w113 82 10 = f82_149 := fld_of h82_163
          have hf169 : fld w113 82 14 = f82_151 := fld_of h82_163
          have hu170 : mu w113 = 2 * (fld w113 82 4 - fld w113 82 5) + min 1 (fld w113 82 7) := rfl
          have hf171 := pk125.2.2.1
          have hl172 : f82_151 ≤ 1000 := by omega
          refine xg_t (xg_aload (va := (2, 82)) rfl rfl) ?_
          refine xg_t (xg_getf (va := (2, 85)) h82_163 rfl) ?_
          refine xg_t (xg_iload (va := (0, 5)) rfl rfl) ?_
          refine xg_t (xg_dup2 rfl) ?_
          refine xoI (xqc85 hI115 : cpI 7 52 4294967295 (wget w113 85)) (fun g85_173 h85_174 hb175 => ?_)
          refine xg_ialdB (n := 5) (B := 4294967295) h85_174 (hb175) xnm0 (by first | decide | omega) (fun u176 hu177 he178 => ?_)
          have hl179 : u176 = u45 := by have q1 := rwv_of h85_174 (show 5 < 7 by decide); have q2 := mf128 5 (by decide); omega
          refine xg_t (xg_const) ?_
          refine xg_t (xg_iadd (u := u176) (v := 1) (z := u176 + 1) xnm0 xnm0 (by omega)) ?_
          refine xg_iastK (n := 5) (u := u176 + 1) h85_174 xnm0 xnm0 rfl (by first | decide | omega) (fun w180 hr181 hb182 => ?_)
          refine xg_t (xg_aload (va := (2, 82)) rfl rfl) ?_
          refine xg_t (xg_dup rfl) ?_
          refine xg_t (xg_getf (va := (0, f82_151)) (hb182.get (by decide) h82_163) rfl) ?_
          have hn183 := id hb152
          unfold xHid at hn183
          refine xg_t (xg_const) ?_
          refine xg_t (xg_iadd (u := f82_151) (v := 1) (z := f82_151 + 1) xnm0 xnm0 (by omega)) ?_
          refine xg_putI (fl1 := [(2, 83), (2, 84), (0, f82_133), (0, f82_135), (0, f82_137), (0, f82_139), (0, f82_141), (0, f82_143), (0, f82_145), (0, f82_147), (0, f82_149), (2, 85), (2, 86), (2, 87), (0, f82_151 + 1), (2, 88), (2, 89), (2, 90), (2, 91), (2, 92), (2, 93), (2, 94), (4, f82_153), (4, f82_154), (0, f82_155), (2, 95), (2, 96), (2, 97), (2, 98), (2, 99), (2, 100), (2, 101), (2, 102), (0, f82_157), (2, 103), (2, 104), (2, 105), (2, 106), (2, 107), (2, 108), (2, 109), (0, f82_159), (0, f82_161), (2, 110), (2, 111), (2, 112), (2, 113)]) (hb182.get (by decide) h82_163) rfl rfl rfl (fun w184 hk185 hb186 => ?_)
          have hF187 : xFr [82, 85] w113 w184 := ((xFr.of (S := [82, 85]) hb182 (by decide)).tr (xFr.of (S := [82, 85]) hb186 (by decide)))
          have hA188 := FA_fr hF187 (by decide)
          have hf189 : fld w184 82 4 = f82_137 := fld_of hk185
          have hf190 : fld w184 82 5 = f82_139 := fld_of hk185
          have hf191 : fld w184 82 7 = f82_143 := fld_of hk185
          have hf192 : fld w184 82 10 = f82_149 := fld_of hk185
          have hf193 : fld w184 82 14 = f82_151 + 1 := fld_of hk185
          have hu194 : mu w184 = 2 * (fld w184 82 4 - fld w184 82 5) + min 1 (fld w184 82 7) := rfl
          have pq195 := pk125
          unfold PK PS at pq195
          have hM196 : ∀ s, s < 7 → s ≠ 5 → rwv w184 85 s = rwv w 85 s := fun s hs hn => (rwv_of (hr181.but hb186 (by decide)) hs).trans ((if_neg hn).trans ((rwv_of h85_174 hs).symm.trans (mf128 s hs)))
          have hM197 : rwv w184 85 5 = u45 + 1 := (rwv_of (hr181.but hb186 (by decide)) (by decide)).trans ((if_pos rfl).trans (by omega))
          have hM198 : ∀ s, s < 7 → rwv w184 85 s ≤ rwv w 85 s + 1 := fun s hs => by
            by_cases z : s = 5
            · subst z; omega
            · rw [hM196 s hs z]; omega
          have hO199 : ∀ j, (j < 7 ∨ 9 ≤ j) → j < 140 → rwv w184 86 j = rwv w 86 j := fun j hj hl => (rwv_fr hF187 (by decide)).trans (os126 j hj hl)
          have hl201 : FA w113 ≠ 0 ∨ u45 < 1 := rg127
          have hl202 : rwv w184 86 (7) = rwv w113 86 (7) := rwv_fr hF187 (by decide)
          have hl203 : rwv w184 86 (8) = rwv w113 86 (8) := rwv_fr hF187 (by decide)
          have hN200 : FA w184 ≠ 0 ∨ 1 ≤ u45 ∨ (1 ≤ rwv w184 86 7 ∧ rwv w184 86 7 ≤ 10 ∧ 1 ≤ rwv w184 86 8 ∧ rwv w184 86 8 ≤ 10) := by have q := nw131; omega
          have hX204 : FA w184 ≠ 0 ∨ u45 < 1 := by omega
          have hD205 : FA w184 ≠ 0 ∨ (DATA w → DATA w184) := by
            by_cases z : FA w184 ≠ 0
            · exact Or.inl z
            · exact Or.inr (fun hd => hd.s5 hM196 hK48 hM197 (hX204.resolve_left z) hO199 ((hN200.resolve_left z).resolve_left (by have := hX204.resolve_left z; omega)))
          exact xg_e ⟨w184, ⟨rfl, rfl⟩, xMnv.up (S := [85, 82]) hI115 ((xFr.of (S := [85, 82]) hb182 (by decide)).tr (xFr.of (S := [85, 82]) hb186 (by decide))) (List.forall_mem_cons.mpr ⟨xqu85 (show cpI 7 52 4294967295 (wget w184 85) from ⟨_, (hr181.but hb186 (by decide)), xrb (by omega) (hb175)⟩), List.forall_mem_cons.mpr ⟨xqu82 (show cp82 (wget w184 82) from xmC82 f82_133 f82_135 f82_137 f82_139 f82_141 f82_143 f82_145 f82_147 f82_149 (f82_151 + 1) f82_153 f82_154 f82_155 f82_157 f82_159 f82_161 hk185 hb134 hb136 hb138 hb140 hb142 hb144 hb146 hb148 hb150 (by omega) hb156 hb158 hb160 hb162 (by omega)), fun _ h => absurd h List.not_mem_nil⟩⟩), ((hF71.tr (hF116.up (by decide))).tr ((xFr.of (S := [82, 83, 85, 86, 87]) hb182 (by decide)).tr (xFr.of (S := [82, 83, 85, 86, 87]) hb186 (by decide)))), ⟨fun h => by have := pq195.1 h; omega, (show fld w184 82 10 = 0 ∨ FA w184 ≠ 0 by omega), Or.inr ⟨by have := ms132; omega, by omega, hM198⟩, hD205, pk125.2.2.2.2.tr (K83.fr hF187 (by decide))⟩⟩
        · refine xg_t (xg_icT (u := f82_89) (v := 2) rfl xnm0 xnm0 (xj_neT hc112)) ?_
          refine xg_t (xg_blq rfl) ?_
          refine xg_t (xg_aload (va := (2, 82)) rfl rfl) ?_
          refine xg_cVv mX12_ends (vs := []) (rest := []) (cn1 := 0) (sl1 := 0) rfl (mEnds (hI70) hj73.2.2.2.1) rfl h82_109 rfl rfl rfl rfl rfl rfl (fun w206 hq207 => ?_)
          obtain ⟨hI208, hF209, hx210⟩ := hq207
          clear hb80 hb82 hb84 hb86 hb88 hb90 hb92 hb94 hb96 hb98 hb102 hb104 hb106 hb108
          obtain ⟨hv211, hv212, hv213, hv214, hv215⟩ := hx210
          have pk216 : PK w69 w206 := ⟨fun _ => hv211, by omega, by omega, Or.inr hv211, hv215⟩
          have pk217 : PK w w206 := PK.tr hj73 pk216
          have os218 : ∀ j, (j < 7 ∨ 9 ≤ j) → j < 140 → rwv w206 86 j = rwv w 86 j := fun j hj hl => (rwv_fr hF209 (by decide)).trans (hj74 j hj hl)
          have rg219 : FA w206 ≠ 0 ∨ u45 < 1 := hj77.imp_left pk216.1
          have mf220 : ∀ s, s < 7 → rwv w206 85 s = rwv w 85 s := fun s hs => (rwv_fr hF209 (by decide)).trans (hj76 s hs)
          have hl221 : rwv w206 86 (7) = rwv w69 86 (7) := rwv_fr hF209 (by decide)
          have hl222 : rwv w206 86 (8) = rwv w69 86 (8) := rwv_fr hF209 (by decide)
          have nw223 : FA w206 ≠ 0 ∨ 1 ≤ u45 ∨ (1 ≤ rwv w206 86 7 ∧ rwv w206 86 7 ≤ 10 ∧ 1 ≤ rwv w206 86 8 ∧ rwv w206 86 8 ≤ 10) := by have q := hj78; have q1 := pk216.1; omega
          clear hj78
          have ms224 : mu w206 < mu w := Nat.lt_of_le_of_lt pk216.2.1 hj75
          clear hj77
          refine xg_t (xg_blq rfl) ?_
          refine xoCh82 (xqc82 hI208 : cp82 (wget w206 82)) (fun f82_225 f82_227 f82_229 f82_231 f82_233 f82_235 f82_237 f82_239 f82_241 f82_243 f82_245 f82_246 f82_247 f82_249 f82_251 f82_253 h82_255 hb226 hb228 hb230 hb232 hb234 hb236 hb238 hb240 hb242 hb244 hb248 hb250 hb252 hb254 hb256 => ?_)
          have hf257 : fld w206 82 4 = f82_229 := fld_of h82_255
          have hf258 : fld w206 82 5 = f82_231 := fld_of h82_255
          have hf259 : fld w206 82 7 = f82_235 := fld_of h82_255
          have hf260 : fld w206 82 10 = f82_241 := fld_of h82_255
          have hf261 : fld w206 82 14 = f82_243 := fld_of h82_255
          have hu262 : mu w206 = 2 * (fld w206 82 4 - fld w206 82 5) + min 1 (fld w206 82 7) := rfl
          have hf263 := pk217.2.2.1
          have hl264 : f82_243 ≤ 1000 := by omega
          refine xg_t (xg_aload (va := (2, 82)) rfl rfl) ?_
          refine xg_t (xg_getf (va := (2, 85)) h82_255 rfl) ?_
          refine xg_t (xg_iload (va := (0, 5)) rfl rfl) ?_
          refine xg_t (xg_dup2 rfl) ?_
          refine xoI (xqc85 hI208 : cpI 7 52 4294967295 (wget w206 85)) (fun g85_265 h85_266 hb267 => ?_)
          refine xg_ialdB (n := 5) (B := 4294967295) h85_266 (hb267) xnm0 (by first | decide | omega) (fun u268 hu269 he270 => ?_)
          have hl271 : u268 = u45 := by have q1 := rwv_of h85_266 (show 5 < 7 by decide); have q2 := mf220 5 (by decide); omega
          refine xg_t (xg_const) ?_
          refine xg_t (xg_iadd (u := u268) (v := 1) (z := u268 + 1) xnm0 xnm0 (by omega)) ?_
          refine xg_iastK (n := 5) (u := u268 + 1) h85_266 xnm0 xnm0 rfl (by first | decide | omega) (fun w272 hr273 hb274 => ?_)
          refine xg_t (xg_aload (va := (2, 82)) rfl rfl) ?_
          refine xg_t (xg_dup rfl) ?_
          refine xg_t (xg_getf (va := (0, f82_243)) (hb274.get (by decide) h82_255) rfl) ?_
          have hn275 := id hb244
          unfold xHid at hn275
          refine xg_t (xg_const) ?_
          refine xg_t (xg_iadd (u := f82_243) (v := 1) (z := f82_243 + 1) xnm0 xnm0 (by omega)) ?_
          refine xg_putI (fl1 := [(2, 83), (2, 84), (0, f82_225), (0, f82_227), (0, f82_229), (0, f82_231), (0, f82_233), (0, f82_235), (0, f82_237), (0, f82_239), (0, f82_241), (2, 85), (2, 86), (2, 87), (0, f82_243 + 1), (2, 88), (2, 89), (2, 90), (2, 91), (2, 92), (2, 93), (2, 94), (4, f82_245), (4, f82_246), (0, f82_247), (2, 95), (2, 96), (2, 97), (2, 98), (2, 99), (2, 100), (2, 101), (2, 102), (0, f82_249), (2, 103), (2, 104), (2, 105), (2, 106), (2, 107), (2, 108), (2, 109), (0, f82_251), (0, f82_253), (2, 110), (2, 111), (2, 112), (2, 113)]) (hb274.get (by decide) h82_255) rfl rfl rfl (fun w276 hk277 hb278 => ?_)
          have hF279 : xFr [82, 85] w206 w276 := ((xFr.of (S := [82, 85]) hb274 (by decide)).tr (xFr.of (S := [82, 85]) hb278 (by decide)))
          have hA280 := FA_fr hF279 (by decide)
          have hf281 : fld w276 82 4 = f82_229 := fld_of hk277
          have hf282 : fld w276 82 5 = f82_231 := fld_of hk277
          have hf283 : fld w276 82 7 = f82_235 := fld_of hk277
          have hf284 : fld w276 82 10 = f82_241 := fld_of hk277
          have hf285 : fld w276 82 14 = f82_243 + 1 := fld_of hk277
          have hu286 : mu w276 = 2 * (fld w276 82 4 - fld w276 82 5) + min 1 (fld w276 82 7) := rfl
          have pq287 := pk217
          unfold PK PS at pq287
          have hM288 : ∀ s, s < 7 → s ≠ 5 → rwv w276 85 s = rwv w 85 s := fun s hs hn => (rwv_of (hr273.but hb278 (by decide)) hs).trans ((if_neg hn).trans ((rwv_of h85_266 hs).symm.trans (mf220 s hs)))
          have hM289 : rwv w276 85 5 = u45 + 1 := (rwv_of (hr273.but hb278 (by decide)) (by decide)).trans ((if_pos rfl).trans (by omega))
          have hM290 : ∀ s, s < 7 → rwv w276 85 s ≤ rwv w 85 s + 1 := fun s hs => by
            by_cases z : s = 5
            · subst z; omega
            · rw [hM288 s hs z]; omega
          have hO291 : ∀ j, (j < 7 ∨ 9 ≤ j) → j < 140 → rwv w276 86 j = rwv w 86 j := fun j hj hl => (rwv_fr hF279 (by decide)).trans (os218 j hj hl)
          have hl293 : FA w206 ≠ 0 ∨ u45 < 1 := rg219
          have hl294 : rwv w276 86 (7) = rwv w206 86 (7) := rwv_fr hF279 (by decide)
          have hl295 : rwv w276 86 (8) = rwv w206 86 (8) := rwv_fr hF279 (by decide)
          have hN292 : FA w276 ≠ 0 ∨ 1 ≤ u45 ∨ (1 ≤ rwv w276 86 7 ∧ rwv w276 86 7 ≤ 10 ∧ 1 ≤ rwv w276 86 8 ∧ rwv w276 86 8 ≤ 10) := by have q := nw223; omega
          have hX296 : FA w276 ≠ 0 ∨ u45 < 1 := by omega
          have hD297 : FA w276 ≠ 0 ∨ (DATA w → DATA w276) := by
            by_cases z : FA w276 ≠ 0
            · exact Or.inl z
            · exact Or.inr (fun hd => hd.s5 hM288 hK48 hM289 (hX296.resolve_left z) hO291 ((hN292.resolve_left z).resolve_left (by have := hX296.resolve_left z; omega)))
          exact xg_e ⟨w276, ⟨rfl, rfl⟩, xMnv.up (S := [85, 82]) hI208 ((xFr.of (S := [85, 82]) hb274 (by decide)).tr (xFr.of (S := [85, 82]) hb278 (by decide))) (List.forall_mem_cons.mpr ⟨xqu85 (show cpI 7 52 4294967295 (wget w276 85) from ⟨_, (hr273.but hb278 (by decide)), xrb (by omega) (hb267)⟩), List.forall_mem_cons.mpr ⟨xqu82 (show cp82 (wget w276 82) from xmC82 f82_225 f82_227 f82_229 f82_231 f82_233 f82_235 f82_237 f82_239 f82_241 (f82_243 + 1) f82_245 f82_246 f82_247 f82_249 f82_251 f82_253 hk277 hb226 hb228 hb230 hb232 hb234 hb236 hb238 hb240 hb242 (by omega) hb248 hb250 hb252 hb254 (by omega)), fun _ h => absurd h List.not_mem_nil⟩⟩), ((hF71.tr (hF209.up (by decide))).tr ((xFr.of (S := [82, 83, 85, 86, 87]) hb274 (by decide)).tr (xFr.of (S := [82, 83, 85, 86, 87]) hb278 (by decide)))), ⟨fun h => by have := pq287.1 h; omega, (show fld w276 82 10 = 0 ∨ FA w276 ≠ 0 by omega), Or.inr ⟨by have := ms224; omega, by omega, hM290⟩, hD297, pk217.2.2.2.2.tr (K83.fr hF279 (by decide))⟩⟩
      · refine xg_t (xg_ifT (u := f82_95) rfl xnm0 (xj_neT hc111)) ?_
        refine xg_t (xg_blq rfl) ?_
        refine xg_t (xg_aload (va := (2, 82)) rfl rfl) ?_
        refine xg_cVv mX12_ends (vs := []) (rest := []) (cn1 := 0) (sl1 := 0) rfl (mEnds (hI70) hj73.2.2.2.1) rfl h82_109 rfl rfl rfl rfl rfl rfl (fun w298 hq299 => ?_)
        obtain ⟨hI300, hF301, hx302⟩ := hq299
        clear hb80 hb82 hb84 hb86 hb88 hb90 hb92 hb94 hb96 hb98 hb102 hb104 hb106 hb108
        obtain ⟨hv303, hv304, hv305, hv306, hv307⟩ := hx302
        have pk308 : PK w69 w298 := ⟨fun _ => hv303, by omega, by omega, Or.inr hv303, hv307⟩
        have pk309 : PK w w298 := PK.tr hj73 pk308
        have os310 : ∀ j, (j < 7 ∨ 9 ≤ j) → j < 140 → rwv w298 86 j = rwv w 86 j := fun j hj hl => (rwv_fr hF301 (by decide)).trans (hj74 j hj hl)
        have rg311 : FA w298 ≠ 0 ∨ u45 < 1 := hj77.imp_left pk308.1
        have mf312 : ∀ s, s < 7 → rwv w298 85 s = rwv w 85 s := fun s hs => (rwv_fr hF301 (by decide)).trans (hj76 s hs)
        have hl313 : rwv w298 86 (7) = rwv w69 86 (7) := rwv_fr hF301 (by decide)
        have hl314 : rwv w298 86 (8) = rwv w69 86 (8) := rwv_fr hF301 (by decide)
        have nw315 : FA w298 ≠ 0 ∨ 1 ≤ u45 ∨ (1 ≤ rwv w298 86 7 ∧ rwv w298 86 7 ≤ 10 ∧ 1 ≤ rwv w298 86 8 ∧ rwv w298 86 8 ≤ 10) := by have q := hj78; have q1 := pk308.1; omega
        clear hj78
        have ms316 : mu w298 < mu w := Nat.lt_of_le_of_lt pk308.2.1 hj75
        clear hj77
        refine xg_t (xg_blq rfl) ?_
        refine xoCh82 (xqc82 hI300 : cp82 (wget w298 82)) (fun f82_317 f82_319 f82_321 f82_323 f82_325 f82_327 f82_329 f82_331 f82_333 f82_335 f82_337 f82_338 f82_339 f82_341 f82_343 f82_345 h82_347 hb318 hb320 hb322 hb324 hb326 hb328 hb330 hb332 hb334 hb336 hb340 hb342 hb344 hb346 hb348 => ?_)
        have hf349 : fld w298 82 4 = f82_321 := fld_of h82_347
        have hf350 : fld w298 82 5 = f82_323 := fld_of h82_347
        have hf351 : fld w298 82 7 = f82_327 := fld_of h82_347
        have hf352 : fld w298 82 10 = f82_333 := fld_of h82_347
        have hf353 : fld w298 82 14 = f82_335 := fld_of h82_347
        have hu354 : mu w298 = 2 * (fld w298 82 4 - fld w298 82 5) + min 1 (fld w298 82 7) := rfl
        have hf355 := pk309.2.2.1
        have hl356 : f82_335 ≤ 1000 := by omega
        refine xg_t (xg_aload (va := (2, 82)) rfl rfl) ?_
        refine xg_t (xg_getf (va := (2, 85)) h82_347 rfl) ?_
        refine xg_t (xg_iload (va := (0, 5)) rfl rfl) ?_
        refine xg_t (xg_dup2 rfl) ?_
        refine xoI (xqc85 hI300 : cpI 7 52 4294967295 (wget w298 85)) (fun g85_357 h85_358 hb359 => ?_)
        refine xg_ialdB (n := 5) (B := 4294967295) h85_358 (hb359) xnm0 (by first | decide | omega) (fun u360 hu361 he362 => ?_)
        have hl363 : u360 = u45 := by have q1 := rwv_of h85_358 (show 5 < 7 by decide); have q2 := mf312 5 (by decide); omega
        refine xg_t (xg_const) ?_
        refine xg_t (xg_iadd (u := u360) (v := 1) (z := u360 + 1) xnm0 xnm0 (by omega)) ?_
        refine xg_iastK (n := 5) (u := u360 + 1) h85_358 xnm0 xnm0 rfl (by first | decide | omega) (fun w364 hr365 hb366 => ?_)
        refine xg_t (xg_aload (va := (2, 82)) rfl rfl) ?_
        refine xg_t (xg_dup rfl) ?_
        refine xg_t (xg_getf (va := (0, f82_335)) (hb366.get (by decide) h82_347) rfl) ?_
        have hn367 := id hb336
        unfold xHid at hn367
        refine xg_t (xg_const) ?_
        refine xg_t (xg_iadd (u := f82_335) (v := 1) (z := f82_335 + 1) xnm0 xnm0 (by omega)) ?_
        refine xg_putI (fl1 := [(2, 83), (2, 84), (0, f82_317), (0, f82_319), (0, f82_321), (0, f82_323), (0, f82_325), (0, f82_327), (0, f82_329), (0, f82_331), (0, f82_333), (2, 85), (2, 86), (2, 87), (0, f82_335 + 1), (2, 88), (2, 89), (2, 90), (2, 91), (2, 92), (2, 93), (2, 94), (4, f82_337), (4, f82_338), (0, f82_339), (2, 95), (2, 96), (2, 97), (2, 98), (2, 99), (2, 100), (2, 101), (2, 102), (0, f82_341), (2, 103), (2, 104), (2, 105), (2, 106), (2, 107), (2, 108), (2, 109), (0, f82_343), (0, f82_345), (2, 110), (2, 111), (2, 112), (2, 113)]) (hb366.get (by decide) h82_347) rfl rfl rfl (fun w368 hk369 hb370 => ?_)
        have hF371 : xFr [82, 85] w298 w368 := ((xFr.of (S := [82, 85]) hb366 (by decide)).tr (xFr.of (S := [82, 85]) hb370 (by decide)))
        have hA372 := FA_fr hF371 (by decide)
        have hf373 : fld w368 82 4 = f82_321 := fld_of hk369
        have hf374 : fld w368 82 5 = f82_323 := fld_of hk369
        have hf375 : fld w368 82 7 = f82_327 := fld_of hk369
        have hf376 : fld w368 82 10 = f82_333 := fld_of hk369
        have hf377 : fld w368 82 14 = f82_335 + 1 := fld_of hk369
        have hu378 : mu w368 = 2 * (fld w368 82 4 - fld w368 82 5) + min 1 (fld w368 82 7) := rfl
        have pq379 := pk309
        unfold PK PS at pq379
        have hM380 : ∀ s, s < 7 → s ≠ 5 → rwv w368 85 s = rwv w 85 s := fun s hs hn => (rwv_of (hr365.but hb370 (by decide)) hs).trans ((if_neg hn).trans ((rwv_of h85_358 hs).symm.trans (mf312 s hs)))
        have hM381 : rwv w368 85 5 = u45 + 1 := (rwv_of (hr365.but hb370 (by decide)) (by decide)).trans ((if_pos rfl).trans (by omega))
        have hM382 : ∀ s, s < 7 → rwv w368 85 s ≤ rwv w 85 s + 1 := fun s hs => by
          by_cases z : s = 5
          · subst z; omega
          · rw [hM380 s hs z]; omega
        have hO383 : ∀ j, (j < 7 ∨ 9 ≤ j) → j < 140 → rwv w368 86 j = rwv w 86 j := fun j hj hl => (rwv_fr hF371 (by decide)).trans (os310 j hj hl)
        have hl385 : FA w298 ≠ 0 ∨ u45 < 1 := rg311
        have hl386 : rwv w368 86 (7) = rwv w298 86 (7) := rwv_fr hF371 (by decide)
        have hl387 : rwv w368 86 (8) = rwv w298 86 (8) := rwv_fr hF371 (by decide)
        have hN384 : FA w368 ≠ 0 ∨ 1 ≤ u45 ∨ (1 ≤ rwv w368 86 7 ∧ rwv w368 86 7 ≤ 10 ∧ 1 ≤ rwv w368 86 8 ∧ rwv w368 86 8 ≤ 10) := by have q := nw315; omega
        have hX388 : FA w368 ≠ 0 ∨ u45 < 1 := by omega
        have hD389 : FA w368 ≠ 0 ∨ (DATA w → DATA w368) := by
          by_cases z : FA w368 ≠ 0
          · exact Or.inl z
          · exact Or.inr (fun hd => hd.s5 hM380 hK48 hM381 (hX388.resolve_left z) hO383 ((hN384.resolve_left z).resolve_left (by have := hX388.resolve_left z; omega)))
        exact xg_e ⟨w368, ⟨rfl, rfl⟩, xMnv.up (S := [85, 82]) hI300 ((xFr.of (S := [85, 82]) hb366 (by decide)).tr (xFr.of (S := [85, 82]) hb370 (by decide))) (List.forall_mem_cons.mpr ⟨xqu85 (show cpI 7 52 4294967295 (wget w368 85) from ⟨_, (hr365.but hb370 (by decide)), xrb (by omega) (hb359)⟩), List.forall_mem_cons.mpr ⟨xqu82 (show cp82 (wget w368 82) from xmC82 f82_317 f82_319 f82_321 f82_323 f82_325 f82_327 f82_329 f82_331 f82_333 (f82_335 + 1) f82_337 f82_338 f82_339 f82_341 f82_343 f82_345 hk369 hb318 hb320 hb322 hb324 hb326 hb328 hb330 hb332 hb334 (by omega) hb340 hb342 hb344 hb346 (by omega)), fun _ h => absurd h List.not_mem_nil⟩⟩), ((hF71.tr (hF301.up (by decide))).tr ((xFr.of (S := [82, 83, 85, 86, 87]) hb366 (by decide)).tr (xFr.of (S := [82, 83, 85, 86, 87]) hb370 (by decide)))), ⟨fun h => by have := pq379.1 h; omega, (show fld w368 82 10 = 0 ∨ FA w368 ≠ 0 by omega), Or.inr ⟨by have := ms316; omega, by omega, hM382⟩, hD389, pk309.2.2.2.2.tr (K83.fr hF371 (by decide))⟩⟩
    refine xg_t (xg_iload (va := (0, 5)) rfl rfl) ?_
    refine xg_t (xg_swt (ks := [(0, 108), (1, 116), (2, 180), (3, 221), (4, 273), (5, 326)]) (u := 5) (z := 326) rfl rfl rfl xnm0 (xsw_n (by omega) (xsw_n (by omega) (xsw_n (by omega) (xsw_n (by omega) (xsw_n (by omega) (xsw_y rfl))))))) ?_
    refine xg_t (xg_blq rfl) ?_
    refine xg_t (xg_const) ?_
    refine xg_t (xg_istore (l1 := [(3, (0, u45)), (2, (0, at_)), (1, (0, 5)), (0, (2, 82))]) rfl rfl rfl) ?_
    refine xg_t (xg_blq rfl) ?_
    refine xg_t (xg_iload (va := (0, 0)) rfl rfl) ?_
    refine xg_t (xg_const) ?_
    refine xg_t (xg_icF (u := 0) (v := 2) rfl xnm0 xnm0 (by decide)) ?_
    refine xg_t (xg_aload (va := (2, 82)) rfl rfl) ?_
    refine xg_t (xg_iload (va := (0, 5)) rfl rfl) ?_
    refine xg_t (xg_iload (va := (0, u45)) rfl rfl) ?_
    refine xg_t (xg_bip) ?_
    refine xg_t (xg_iload (va := (0, 0)) rfl rfl) ?_
    refine xg_t (xg_iadd (u := 7) (v := 0) (z := 7) xnm0 xnm0 (by decide)) ?_
    refine xg_t (xg_aload (va := (2, 82)) rfl rfl) ?_
    refine xg_t (xg_const) ?_
    refine xg_t (xg_bip) ?_
    refine xoCh82 (xqc82 hI54 : cp82 (wget w52 82)) (fun f82_390 f82_392 f82_394 f82_396 f82_398 f82_400 f82_402 f82_404 f82_406 f82_408 f82_410 f82_411 f82_412 f82_414 f82_416 f82_418 h82_420 hb391 hb393 hb395 hb397 hb399 hb401 hb403 hb405 hb407 hb409 hb413 hb415 hb417 hb419 hb421 => ?_)
    refine xg_cVi mX12_numbered (vs := [(0, 1), (0, 10)]) (rest := [(0, 7), (0, u45), (0, 5), (2, 82)]) (cn1 := 0) (sl1 := 0) rfl (mNumbered (hI54) (by omega) (by omega) pk64.2.2.2.1) rfl h82_420 rfl rfl rfl rfl rfl rfl (fun n426 w422 hq423 => ?_)
    obtain ⟨hn427, hI424, hF425⟩ := hq423
    clear hb391 hb393 hb395 hb397 hb399 hb401 hb403 hb405 hb407 hb409 hb413 hb415 hb417 hb419
    obtain ⟨hn428, hn429, hn430⟩ := hn427
    have pk431 : PK w w422 := PK.tr pk64 hn429
    have os432 : ∀ j, (j < 7 ∨ 9 ≤ j) → j < 140 → rwv w422 86 j = rwv w 86 j := fun j hj hl => (rwv_fr hF425 (by decide)).trans (os65 j hj hl)
    have mf433 : ∀ s, s < 7 → rwv w422 85 s = rwv w 85 s := fun s hs => (rwv_fr hF425 (by decide)).trans (mf66 s hs)
    have ms434 : mu w422 < mu w := Nat.lt_of_le_of_lt hn429.2.1 ms67
    refine xoCh82 (xqc82 hI424 : cp82 (wget w422 82)) (fun f82_435 f82_437 f82_439 f82_441 f82_443 f82_445 f82_447 f82_449 f82_451 f82_453 f82_455 f82_456 f82_457 f82_459 f82_461 f82_463 h82_465 hb436 hb438 hb440 hb442 hb444 hb446 hb448 hb450 hb452 hb454 hb458 hb460 hb462 hb464 hb466 => ?_)
    refine xg_cVv mX12_puts (vs := [(0, 5), (0, u45), (0, 7), (0, n426)]) (rest := []) (cn1 := 0) (sl1 := 0) rfl (mPuts5 (hI424) (by omega) (by omega) (by omega) (fun _ => by omega)) rfl h82_465 rfl rfl rfl rfl rfl rfl (fun w467 hq468 => ?_)
    obtain ⟨hI469, hF470, hx471⟩ := hq468
    obtain ⟨hp472, hp473⟩ := hx471
    have pk474 : PK w w467 := PK.tr pk431 (PK.fr hF470 (by decide) (by decide) pk431.2.2.2.1)
    have os475 : ∀ j, (j < 7 ∨ 9 ≤ j) → j < 140 → rwv w467 86 j = rwv w 86 j := fun j hj hl => (hp473 j (by omega) hl).trans (os432 j hj hl)
    have rg476 : FA w467 ≠ 0 ∨ (1 ≤ n426 ∧ n426 ≤ 10) := hn430.imp_left (PK.fr hF470 (by decide) (by decide) pk431.2.2.2.1).1
    have mf477 : ∀ s, s < 7 → rwv w467 85 s = rwv w 85 s := fun s hs => (rwv_fr hF470 (by decide)).trans (mf433 s hs)
    have ms478 : mu w467 < mu w := Nat.lt_of_le_of_lt (PK.fr hF470 (by decide) (by decide) pk431.2.2.2.1).2.1 ms434
    clear hn430
    refine xg_t (xg_iinc (u := 0) (z := 1) (l1 := [(3, (0, u45)), (2, (0, at_)), (1, (0, 5)), (0, (2, 82))]) rfl rfl (by decide) rfl) ?_
    refine xg_t (xg_goto) ?_
    refine xg_t (xg_blq rfl) ?_
    refine xg_t (xg_iload (va := (0, 1)) rfl rfl) ?_
    refine xg_t (xg_const) ?_
    refine xg_t (xg_icF (u := 1) (v := 2) rfl xnm0 xnm0 (by decide)) ?_
    refine xg_t (xg_aload (va := (2, 82)) rfl rfl) ?_
    refine xg_t (xg_iload (va := (0, 5)) rfl rfl) ?_
    refine xg_t (xg_iload (va := (0, u45)) rfl rfl) ?_
    refine xg_t (xg_bip) ?_
    refine xg_t (xg_iload (va := (0, 1)) rfl rfl) ?_
    refine xg_t (xg_iadd (u := 7) (v := 1) (z := 8) xnm0 xnm0 (by decide)) ?_
    refine xg_t (xg_aload (va := (2, 82)) rfl rfl) ?_
    refine xg_t (xg_const) ?_
    refine xg_t (xg_bip) ?_
    refine xg_cVi mX12_numbered (vs := [(0, 1), (0, 10)]) (rest := [(0, 8), (0, u45), (0, 5), (2, 82)]) (cn1 := 0) (sl1 := 0) rfl (mNumbered (hI469) (by omega) (by omega) pk474.2.2.2.1) rfl (hF470.get (by decide) h82_465) rfl rfl rfl rfl rfl rfl (fun n483 w479 hq480 => ?_)
    obtain ⟨hn484, hI481, hF482⟩ := hq480
    clear hb436 hb438 hb440 hb442 hb444 hb446 hb448 hb450 hb452 hb454 hb458 hb460 hb462 hb464
    obtain ⟨hn485, hn486, hn487⟩ := hn484
    have pk488 : PK w w479 := PK.tr pk474 hn486
    have os489 : ∀ j, (j < 7 ∨ 9 ≤ j) → j < 140 → rwv w479 86 j = rwv w 86 j := fun j hj hl => (rwv_fr hF482 (by decide)).trans (os475 j hj hl)
    have ix490 : u45 < 1 → rwv w479 86 (7) = n426 := fun h => (rwv_fr hF482 (by decide)).trans (hp472 h)
    have rg491 : FA w479 ≠ 0 ∨ (1 ≤ n426 ∧ n426 ≤ 10) := rg476.imp_left hn486.1
    have mf492 : ∀ s, s < 7 → rwv w479 85 s = rwv w 85 s := fun s hs => (rwv_fr hF482 (by decide)).trans (mf477 s hs)
    have ms493 : mu w479 < mu w := Nat.lt_of_le_of_lt hn486.2.1 ms478
    clear hp472 rg476
    refine xoCh82 (xqc82 hI481 : cp82 (wget w479 82)) (fun f82_494 f82_496 f82_498 f82_500 f82_502 f82_504 f82_506 f82_508 f82_510 f82_512 f82_514 f82_515 f82_516 f82_518 f82_520 f82_522 h82_524 hb495 hb497 hb499 hb501 hb503 hb505 hb507 hb509 hb511 hb513 hb517 hb519 hb521 hb523 hb525 => ?_)
    refine xg_cVv mX12_puts (vs := [(0, 5), (0, u45), (0, 8), (0, n483)]) (rest := []) (cn1 := 0) (sl1 := 0) rfl (mPuts5 (hI481) (by omega) (by omega) (by omega) (fun _ => by omega)) rfl h82_524 rfl rfl rfl rfl rfl rfl (fun w526 hq527 => ?_)
    obtain ⟨hI528, hF529, hx530⟩ := hq527
    obtain ⟨hp531, hp532⟩ := hx530
    have pk533 : PK w w526 := PK.tr pk488 (PK.fr hF529 (by decide) (by decide) pk488.2.2.2.1)
    have os534 : ∀ j, (j < 7 ∨ 9 ≤ j) → j < 140 → rwv w526 86 j = rwv w 86 j := fun j hj hl => (hp532 j (by omega) hl).trans (os489 j hj hl)
    have ix535 : u45 < 1 → rwv w526 86 (7) = n426 := fun h => (hp532 _ (by omega) (by omega)).trans (ix490 h)
    have rg536 : FA w526 ≠ 0 ∨ (1 ≤ n426 ∧ n426 ≤ 10) := rg491.imp_left (PK.fr hF529 (by decide) (by decide) pk488.2.2.2.1).1
    have rg537 : FA w526 ≠ 0 ∨ (1 ≤ n483 ∧ n483 ≤ 10) := hn487.imp_left (PK.fr hF529 (by decide) (by decide) pk488.2.2.2.1).1
    have mf538 : ∀ s, s < 7 → rwv w526 85 s = rwv w 85 s := fun s hs => (rwv_fr hF529 (by decide)).trans (mf492 s hs)
    have ms539 : mu w526 < mu w := Nat.lt_of_le_of_lt (PK.fr hF529 (by decide) (by decide) pk488.2.2.2.1).2.1 ms493
    clear ix490 rg491 hn487
    refine xg_t (xg_iinc (u := 1) (z := 2) (l1 := [(3, (0, u45)), (2, (0, at_)), (1, (0, 5)), (0, (2, 82))]) rfl rfl (by decide) rfl) ?_
    refine xg_t (xg_goto) ?_
    refine xg_t (xg_blq rfl) ?_
    refine xg_t (xg_iload (va := (0, 2)) rfl rfl) ?_
    refine xg_t (xg_const) ?_
    refine xg_t (xg_icT (u := 2) (v := 2) rfl xnm0 xnm0 (by decide)) ?_
    refine xg_t (xg_blq rfl) ?_
    refine xg_t (xg_goto) ?_
    refine xg_t (xg_drop (l1 := [(0, (2, 82)), (1, (0, 5)), (3, (0, u45))]) (List.forall_mem_cons.mpr ⟨List.mem_cons_of_mem _ (List.mem_cons_of_mem _ (List.mem_cons_of_mem _ (List.mem_cons_of_mem _ (List.mem_cons_self)))), List.forall_mem_cons.mpr ⟨List.mem_cons_of_mem _ (List.mem_cons_of_mem _ (List.mem_cons_of_mem _ (List.mem_cons_self))), List.forall_mem_cons.mpr ⟨List.mem_cons_of_mem _ (List.mem_cons_self), fun _ h => absurd h List.not_mem_nil⟩⟩⟩)) ?_
    have hX540 : FA w526 ≠ 0 ∨ u45 < 1 := Or.inr (by omega)
    have hN541 : FA w526 ≠ 0 ∨ 1 ≤ u45 ∨ (1 ≤ rwv w526 86 7 ∧ rwv w526 86 7 ≤ 10 ∧ 1 ≤ rwv w526 86 8 ∧ rwv w526 86 8 ≤ 10) := by
      have hl542 : u45 < 1 → rwv w526 86 (7) = n426 := ix535
      have hl543 : u45 < 1 → rwv w526 86 (8) = n483 := hp531
      have hl544 := rg536
      have hl545 := rg537
      omega
    exact jn68 w526 (hI528) ((((((hF55.up (by decide)).tr (hF425.up (by decide))).tr (hF470.up (by decide))).tr (hF482.up (by decide))).tr (hF529.up (by decide)))) (⟨pk533, os534, ms539, mf538, hX540, hN541⟩)
  · refine xg_t (xg_icF (u := u45) (v := 1) rfl xnm0 xnm0 (xj_ltF (by omega) (by omega))) ?_
    refine xg_t (xg_aload (va := (2, 82)) rfl rfl) ?_
    refine xg_t (xg_const) ?_
    refine xg_t (xg_iload (va := (0, at_)) rfl rfl) ?_
    refine xg_cVv mX12_also (vs := [(0, 3), (0, at_)]) (rest := []) (cn1 := 0) (sl1 := 0) rfl (mAlso (hI) (by omega) (by omega) (by omega) (PK.rf hps).2.2.2.1) rfl h82_31 rfl rfl rfl rfl rfl rfl (fun w546 hq547 => ?_)
    obtain ⟨hI548, hF549, hx550⟩ := hq547
    obtain ⟨hv552, hv553⟩ := hx550
    have pk551 : PK w w546 := ⟨fun _ => hv552, Nat.le_of_eq (mu_fr hF549 (by decide)), fld_fr hF549 (by decide), Or.inr hv552, hv553⟩
    have pk554 : PK w w546 := PK.tr (PK.rf hps) pk551
    have os555 : ∀ j, (j < 7 ∨ 9 ≤ j) → j < 140 → rwv w546 86 j = rwv w 86 j := fun j hj hl => (rwv_fr hF549 (by decide)).trans ((fun j _ _ => rfl) j hj hl)
    have mf556 : ∀ s, s < 7 → rwv w546 85 s = rwv w 85 s := fun s hs => (rwv_fr hF549 (by decide)).trans ((fun _ _ => rfl) s hs)
    have hf557 := fld_fr (c := 82) (j := 7) hF549 (by decide)
    refine xg_t (xg_blq rfl) ?_
    refine xg_t (xg_aload (va := (2, 82)) rfl rfl) ?_
    refine xg_cVv mX12_advance (vs := []) (rest := []) (cn1 := 0) (sl1 := 0) rfl (mAdvance (hI548)) rfl (hF549.get (by decide) h82_31) rfl rfl rfl rfl rfl rfl (fun w558 hq559 => ?_)
    obtain ⟨hI560, hF561, hx562⟩ := hq559
    clear hb2 hb4 hb6 hb8 hb10 hb12 hb14 hb16 hb18 hb20 hb24 hb26 hb28 hb30
    obtain ⟨hv563, hv564, hv565, hv566⟩ := hx562
    have hf568 := FA_fr hF561 (by decide)
    have hs569 := pk554.2.2.2.1
    unfold PS at hs569
    have pk567 : PK w546 w558 := ⟨fun _ => by omega, hv563, hv566, (show fld w558 82 10 = 0 ∨ FA w558 ≠ 0 by omega), K83.fr hF561 (by decide)⟩
    clear hs569
    have pk570 : PK w w558 := PK.tr pk554 pk567
    have os571 : ∀ j, (j < 7 ∨ 9 ≤ j) → j < 140 → rwv w558 86 j = rwv w 86 j := fun j hj hl => (rwv_fr hF561 (by decide)).trans (os555 j hj hl)
    have rg572 : FA w558 ≠ 0 ∨ 0 = 1 := (Or.inl hv552 : FA w546 ≠ 0 ∨ 0 = 1).imp_left pk567.1
    have mf573 : ∀ s, s < 7 → rwv w558 85 s = rwv w 85 s := fun s hs => (rwv_fr hF561 (by decide)).trans (mf556 s hs)
    have ms574 : mu w558 < mu w := Nat.lt_of_lt_of_le (hv564 (by omega)) pk554.2.1
    clear hv564
    have jn575 : ∀ (w576 : List (List xE)), xMnv w576 → xFr [82, 83, 85, 86, 87] w w576 → (PK w w576 ∧ (∀ j, (j < 7 ∨ 9 ≤ j) → j < 140 → rwv w576 86 j = rwv w 86 j) ∧ mu w576 < mu w ∧ (∀ s, s < 7 → rwv w576 85 s = rwv w 85 s) ∧ (FA w576 ≠ 0 ∨ u45 < 1) ∧ (FA w576 ≠ 0 ∨ 1 ≤ u45 ∨ (1 ≤ rwv w576 86 7 ∧ rwv w576 86 7 ≤ 10 ∧ 1 ≤ rwv w576 86 8 ∧ rwv w576 86 8 ≤ 10))) → xTo (d + 7) mX12_aLine (394, [], [(0, (2, 82)), (1, (0, 5)), (3, (0, u45))], [], (w576, bd, fc, 0, 0, rr)) (fun φ => ∃ w', xEnd 0 [] (w', bd, fc, 0, 0, rr) φ ∧ xMnv w' ∧ xFr [82, 83, 85, 86, 87] w w' ∧ ((FA w ≠ 0 → FA w' ≠ 0) ∧ PS w' ∧ ((fld w' 82 10 = 1 ∧ mu w' = mu w ∧ fld w' 82 14 = fld w 82 14 ∧ ∀ s, s < 7 → rwv w' 85 s = rwv w 85 s) ∨ (mu w' < mu w ∧ fld w' 82 14 = fld w 82 14 + 1 ∧ ∀ s, s < 7 → rwv w' 85 s ≤ rwv w 85 s + 1)) ∧ (FA w' ≠ 0 ∨ (DATA w → DATA w')) ∧ K83 w w')) := by
      intro w576 hI577 hF578 he579
      obtain ⟨hj580, hj581, hj582, hj583, hj584, hj585⟩ := he579
      refine xg_t (xg_blq rfl) ?_
      refine xg_t (xg_aload (va := (2, 82)) rfl rfl) ?_
      refine xoCh82 (xqc82 hI577 : cp82 (wget w576 82)) (fun f82_586 f82_588 f82_590 f82_592 f82_594 f82_596 f82_598 f82_600 f82_602 f82_604 f82_606 f82_607 f82_608 f82_610 f82_612 f82_614 h82_616 hb587 hb589 hb591 hb593 hb595 hb597 hb599 hb601 hb603 hb605 hb609 hb611 hb613 hb615 hb617 => ?_)
      refine xg_t (xg_getf (va := (0, f82_602)) h82_616 rfl) ?_
      by_cases hc618 : f82_602 = 0
      · refine xg_t (xg_ifF (u := f82_602) rfl xnm0 (xj_neF hc618)) ?_
        refine xg_t (xg_aload (va := (2, 82)) rfl rfl) ?_
        refine xg_t (xg_getf (va := (0, f82_596)) h82_616 rfl) ?_
        refine xg_t (xg_const) ?_
        by_cases hc619 : f82_596 = 2
        · refine xg_t (xg_icF (u := f82_596) (v := 2) rfl xnm0 xnm0 (xj_neF hc619)) ?_
          refine xg_t (xg_aload (va := (2, 82)) rfl rfl) ?_
          refine xg_cVv mX12_advance (vs := []) (rest := []) (cn1 := 0) (sl1 := 0) rfl (mAdvance (hI577)) rfl h82_616 rfl rfl rfl rfl rfl rfl (fun w620 hq621 => ?_)
          obtain ⟨hI622, hF623, hx624⟩ := hq621
          clear hb587 hb589 hb591 hb593 hb595 hb597 hb599 hb601 hb603 hb605 hb609 hb611 hb613 hb615
          obtain ⟨hv625, hv626, hv627, hv628⟩ := hx624
          have hf630 := FA_fr hF623 (by decide)
          have hs631 := hj580.2.2.2.1
          unfold PS at hs631
          have pk629 : PK w576 w620 := ⟨fun _ => by omega, hv625, hv628, (show fld w620 82 10 = 0 ∨ FA w620 ≠ 0 by omega), K83.fr hF623 (by decide)⟩
          clear hs631
          clear hv626
          have pk632 : PK w w620 := PK.tr hj580 pk629
          have os633 : ∀ j, (j < 7 ∨ 9 ≤ j) → j < 140 → rwv w620 86 j = rwv w 86 j := fun j hj hl => (rwv_fr hF623 (by decide)).trans (hj581 j hj hl)
          have rg634 : FA w620 ≠ 0 ∨ u45 < 1 := hj584.imp_left pk629.1
          have mf635 : ∀ s, s < 7 → rwv w620 85 s = rwv w 85 s := fun s hs => (rwv_fr hF623 (by decide)).trans (hj583 s hs)
          have hl636 : rwv w620 86 (7) = rwv w576 86 (7) := rwv_fr hF623 (by decide)
          have hl637 : rwv w620 86 (8) = rwv w576 86 (8) := rwv_fr hF623 (by decide)
          have nw638 : FA w620 ≠ 0 ∨ 1 ≤ u45 ∨ (1 ≤ rwv w620 86 7 ∧ rwv w620 86 7 ≤ 10 ∧ 1 ≤ rwv w620 86 8 ∧ rwv w620 86 8 ≤ 10) := by have q := hj585; have q1 := pk629.1; omega
          clear hj585
          have ms639 : mu w620 < mu w := Nat.lt_of_le_of_lt pk629.2.1 hj582
          clear hj584
          refine xg_t (xg_goto) ?_
          refine xg_t (xg_blq rfl) ?_
          refine xoCh82 (xqc82 hI622 : cp82 (wget w620 82)) (fun f82_640 f82_642 f82_644 f82_646 f82_648 f82_650 f82_652 f82_654 f82_656 f82_658 f82_660 f82_661 f82_662 f82_664 f82_666 f82_668 h82_670 hb641 hb643 hb645 hb647 hb649 hb651 hb653 hb655 hb657 hb659 hb663 hb665 hb667 hb669 hb671 => ?_)
          have hf672 : fld w620 82 4 = f82_644 := fld_of h82_670
          have hf673 : fld w620 82 5 = f82_646 := fld_of h82_670
          have hf674 : fld w620 82 7 = f82_650 := fld_of h82_670
          have hf675 : fld w620 82 10 = f82_656 := fld_of h82_670
          have hf676 : fld w620 82 14 = f82_658 := fld_of h82_670
          have hu677 : mu w620 = 2 * (fld w620 82 4 - fld w620 82 5) + min 1 (fld w620 82 7) := rfl
          have hf678 := pk632.2.2.1
          have hl679 : f82_658 ≤ 1000 := by omega
          refine xg_t (xg_aload (va := (2, 82)) rfl rfl) ?_
          refine xg_t (xg_getf (va := (2, 85)) h82_670 rfl) ?_
          refine xg_t (xg_iload (va := (0, 5)) rfl rfl) ?_
          refine xg_t (xg_dup2 rfl) ?_
          refine xoI (xqc85 hI622 : cpI 7 52 4294967295 (wget w620 85)) (fun g85_680 h85_681 hb682 => ?_)
          refine xg_ialdB (n := 5) (B := 4294967295) h85_681 (hb682) xnm0 (by first | decide | omega) (fun u683 hu684 he685 => ?_)
          have hl686 : u683 = u45 := by have q1 := rwv_of h85_681 (show 5 < 7 by decide); have q2 := mf635 5 (by decide); omega
          refine xg_t (xg_const) ?_
          refine xg_t (xg_iadd (u := u683) (v := 1) (z := u683 + 1) xnm0 xnm0 (by omega)) ?_
          refine xg_iastK (n := 5) (u := u683 + 1) h85_681 xnm0 xnm0 rfl (by first | decide | omega) (fun w687 hr688 hb689 => ?_)
          refine xg_t (xg_aload (va := (2, 82)) rfl rfl) ?_
          refine xg_t (xg_dup rfl) ?_
          refine xg_t (xg_getf (va := (0, f82_658)) (hb689.get (by decide) h82_670) rfl) ?_
          have hn690 := id hb659
          unfold xHid at hn690
          refine xg_t (xg_const) ?_
          refine xg_t (xg_iadd (u := f82_658) (v := 1) (z := f82_658 + 1) xnm0 xnm0 (by omega)) ?_
          refine xg_putI (fl1 := [(2, 83), (2, 84), (0, f82_640), (0, f82_642), (0, f82_644), (0, f82_646), (0, f82_648), (0, f82_650), (0, f82_652), (0, f82_654), (0, f82_656), (2, 85), (2, 86), (2, 87), (0, f82_658 + 1), (2, 88), (2, 89), (2, 90), (2, 91), (2, 92), (2, 93), (2, 94), (4, f82_660), (4, f82_661), (0, f82_662), (2, 95), (2, 96), (2, 97), (2, 98), (2, 99), (2, 100), (2, 101), (2, 102), (0, f82_664), (2, 103), (2, 104), (2, 105), (2, 106), (2, 107), (2, 108), (2, 109), (0, f82_666), (0, f82_668), (2, 110), (2, 111), (2, 112), (2, 113)]) (hb689.get (by decide) h82_670) rfl rfl rfl (fun w691 hk692 hb693 => ?_)
          have hF694 : xFr [82, 85] w620 w691 := ((xFr.of (S := [82, 85]) hb689 (by decide)).tr (xFr.of (S := [82, 85]) hb693 (by decide)))
          have hA695 := FA_fr hF694 (by decide)
          have hf696 : fld w691 82 4 = f82_644 := fld_of hk692
          have hf697 : fld w691 82 5 = f82_646 := fld_of hk692
          have hf698 : fld w691 82 7 = f82_650 := fld_of hk692
          have hf699 : fld w691 82 10 = f82_656 := fld_of hk692
          have hf700 : fld w691 82 14 = f82_658 + 1 := fld_of hk692
          have hu701 : mu w691 = 2 * (fld w691 82 4 - fld w691 82 5) + min 1 (fld w691 82 7) := rfl
          have pq702 := pk632
          unfold PK PS at pq702
          have hM703 : ∀ s, s < 7 → s ≠ 5 → rwv w691 85 s = rwv w 85 s := fun s hs hn => (rwv_of (hr688.but hb693 (by decide)) hs).trans ((if_neg hn).trans ((rwv_of h85_681 hs).symm.trans (mf635 s hs)))
          have hM704 : rwv w691 85 5 = u45 + 1 := (rwv_of (hr688.but hb693 (by decide)) (by decide)).trans ((if_pos rfl).trans (by omega))
          have hM705 : ∀ s, s < 7 → rwv w691 85 s ≤ rwv w 85 s + 1 := fun s hs => by
            by_cases z : s = 5
            · subst z; omega
            · rw [hM703 s hs z]; omega
          have hO706 : ∀ j, (j < 7 ∨ 9 ≤ j) → j < 140 → rwv w691 86 j = rwv w 86 j := fun j hj hl => (rwv_fr hF694 (by decide)).trans (os633 j hj hl)
          have hl708 : FA w620 ≠ 0 ∨ u45 < 1 := rg634
          have hl709 : rwv w691 86 (7) = rwv w620 86 (7) := rwv_fr hF694 (by decide)
          have hl710 : rwv w691 86 (8) = rwv w620 86 (8) := rwv_fr hF694 (by decide)
          have hN707 : FA w691 ≠ 0 ∨ 1 ≤ u45 ∨ (1 ≤ rwv w691 86 7 ∧ rwv w691 86 7 ≤ 10 ∧ 1 ≤ rwv w691 86 8 ∧ rwv w691 86 8 ≤ 10) := by have q := nw638; omega
          have hX711 : FA w691 ≠ 0 ∨ u45 < 1 := by omega
          have hD712 : FA w691 ≠ 0 ∨ (DATA w → DATA w691) := by
            by_cases z : FA w691 ≠ 0
            · exact Or.inl z
            · exact Or.inr (fun hd => hd.s5 hM703 hK48 hM704 (hX711.resolve_left z) hO706 ((hN707.resolve_left z).resolve_left (by have := hX711.resolve_left z; omega)))
          exact xg_e ⟨w691, ⟨rfl, rfl⟩, xMnv.up (S := [85, 82]) hI622 ((xFr.of (S := [85, 82]) hb689 (by decide)).tr (xFr.of (S := [85, 82]) hb693 (by decide))) (List.forall_mem_cons.mpr ⟨xqu85 (show cpI 7 52 4294967295 (wget w691 85) from ⟨_, (hr688.but hb693 (by decide)), xrb (by omega) (hb682)⟩), List.forall_mem_cons.mpr ⟨xqu82 (show cp82 (wget w691 82) from xmC82 f82_640 f82_642 f82_644 f82_646 f82_648 f82_650 f82_652 f82_654 f82_656 (f82_658 + 1) f82_660 f82_661 f82_662 f82_664 f82_666 f82_668 hk692 hb641 hb643 hb645 hb647 hb649 hb651 hb653 hb655 hb657 (by omega) hb663 hb665 hb667 hb669 (by omega)), fun _ h => absurd h List.not_mem_nil⟩⟩), ((hF578.tr (hF623.up (by decide))).tr ((xFr.of (S := [82, 83, 85, 86, 87]) hb689 (by decide)).tr (xFr.of (S := [82, 83, 85, 86, 87]) hb693 (by decide)))), ⟨fun h => by have := pq702.1 h; omega, (show fld w691 82 10 = 0 ∨ FA w691 ≠ 0 by omega), Or.inr ⟨by have := ms639; omega, by omega, hM705⟩, hD712, pk632.2.2.2.2.tr (K83.fr hF694 (by decide))⟩⟩
        · refine xg_t (xg_icT (u := f82_596) (v := 2) rfl xnm0 xnm0 (xj_neT hc619)) ?_
          refine xg_t (xg_blq rfl) ?_
          refine xg_t (xg_aload (va := (2, 82)) rfl rfl) ?_
          refine xg_cVv mX12_ends (vs := []) (rest := []) (cn1 := 0) (sl1 := 0) rfl (mEnds (hI577) hj580.2.2.2.1) rfl h82_616 rfl rfl rfl rfl rfl rfl (fun w713 hq714 => ?_)
          obtain ⟨hI715, hF716, hx717⟩ := hq714
          clear hb587 hb589 hb591 hb593 hb595 hb597 hb599 hb601 hb603 hb605 hb609 hb611 hb613 hb615
          obtain ⟨hv718, hv719, hv720, hv721, hv722⟩ := hx717
          have pk723 : PK w576 w713 := ⟨fun _ => hv718, by omega, by omega, Or.inr hv718, hv722⟩
          have pk724 : PK w w713 := PK.tr hj580 pk723
          have os725 : ∀ j, (j < 7 ∨ 9 ≤ j) → j < 140 → rwv w713 86 j = rwv w 86 j := fun j hj hl => (rwv_fr hF716 (by decide)).trans (hj581 j hj hl)
          have rg726 : FA w713 ≠ 0 ∨ u45 < 1 := hj584.imp_left pk723.1
          have mf727 : ∀ s, s < 7 → rwv w713 85 s = rwv w 85 s := fun s hs => (rwv_fr hF716 (by decide)).trans (hj583 s hs)
          have hl728 : rwv w713 86 (7) = rwv w576 86 (7) := rwv_fr hF716 (by decide)
          have hl729 : rwv w713 86 (8) = rwv w576 86 (8) := rwv_fr hF716 (by decide)
          have nw730 : FA w713 ≠ 0 ∨ 1 ≤ u45 ∨ (1 ≤ rwv w713 86 7 ∧ rwv w713 86 7 ≤ 10 ∧ 1 ≤ rwv w713 86 8 ∧ rwv w713 86 8 ≤ 10) := by have q := hj585; have q1 := pk723.1; omega
          clear hj585
          have ms731 : mu w713 < mu w := Nat.lt_of_le_of_lt pk723.2.1 hj582
          clear hj584
          refine xg_t (xg_blq rfl) ?_
          refine xoCh82 (xqc82 hI715 : cp82 (wget w713 82)) (fun f82_732 f82_734 f82_736 f82_738 f82_740 f82_742 f82_744 f82_746 f82_748 f82_750 f82_752 f82_753 f82_754 f82_756 f82_758 f82_760 h82_762 hb733 hb735 hb737 hb739 hb741 hb743 hb745 hb747 hb749 hb751 hb755 hb757 hb759 hb761 hb763 => ?_)
          have hf764 : fld w713 82 4 = f82_736 := fld_of h82_762
          have hf765 : fld w713 82 5 = f82_738 := fld_of h82_762
          have hf766 : fld w713 82 7 = f82_742 := fld_of h82_762
          have hf767 : fld w713 82 10 = f82_748 := fld_of h82_762
          have hf768 : fld w713 82 14 = f82_750 := fld_of h82_762
          have hu769 : mu w713 = 2 * (fld w713 82 4 - fld w713 82 5) + min 1 (fld w713 82 7) := rfl
          have hf770 := pk724.2.2.1
          have hl771 : f82_750 ≤ 1000 := by omega
          refine xg_t (xg_aload (va := (2, 82)) rfl rfl) ?_
          refine xg_t (xg_getf (va := (2, 85)) h82_762 rfl) ?_
          refine xg_t (xg_iload (va := (0, 5)) rfl rfl) ?_
          refine xg_t (xg_dup2 rfl) ?_
          refine xoI (xqc85 hI715 : cpI 7 52 4294967295 (wget w713 85)) (fun g85_772 h85_773 hb774 => ?_)
          refine xg_ialdB (n := 5) (B := 4294967295) h85_773 (hb774) xnm0 (by first | decide | omega) (fun u775 hu776 he777 => ?_)
          have hl778 : u775 = u45 := by have q1 := rwv_of h85_773 (show 5 < 7 by decide); have q2 := mf727 5 (by decide); omega
          refine xg_t (xg_const) ?_
          refine xg_t (xg_iadd (u := u775) (v := 1) (z := u775 + 1) xnm0 xnm0 (by omega)) ?_
          refine xg_iastK (n := 5) (u := u775 + 1) h85_773 xnm0 xnm0 rfl (by first | decide | omega) (fun w779 hr780 hb781 => ?_)
          refine xg_t (xg_aload (va := (2, 82)) rfl rfl) ?_
          refine xg_t (xg_dup rfl) ?_
          refine xg_t (xg_getf (va := (0, f82_750)) (hb781.get (by decide) h82_762) rfl) ?_
          have hn782 := id hb751
          unfold xHid at hn782
          refine xg_t (xg_const) ?_
          refine xg_t (xg_iadd (u := f82_750) (v := 1) (z := f82_750 + 1) xnm0 xnm0 (by omega)) ?_
          refine xg_putI (fl1 := [(2, 83), (2, 84), (0, f82_732), (0, f82_734), (0, f82_736), (0, f82_738), (0, f82_740), (0, f82_742), (0, f82_744), (0, f82_746), (0, f82_748), (2, 85), (2, 86), (2, 87), (0, f82_750 + 1), (2, 88), (2, 89), (2, 90), (2, 91), (2, 92), (2, 93), (2, 94), (4, f82_752), (4, f82_753), (0, f82_754), (2, 95), (2, 96), (2, 97), (2, 98), (2, 99), (2, 100), (2, 101), (2, 102), (0, f82_756), (2, 103), (2, 104), (2, 105), (2, 106), (2, 107), (2, 108), (2, 109), (0, f82_758), (0, f82_760), (2, 110), (2, 111), (2, 112), (2, 113)]) (hb781.get (by decide) h82_762) rfl rfl rfl (fun w783 hk784 hb785 => ?_)
          have hF786 : xFr [82, 85] w713 w783 := ((xFr.of (S := [82, 85]) hb781 (by decide)).tr (xFr.of (S := [82, 85]) hb785 (by decide)))
          have hA787 := FA_fr hF786 (by decide)
          have hf788 : fld w783 82 4 = f82_736 := fld_of hk784
          have hf789 : fld w783 82 5 = f82_738 := fld_of hk784
          have hf790 : fld w783 82 7 = f82_742 := fld_of hk784
          have hf791 : fld w783 82 10 = f82_748 := fld_of hk784
          have hf792 : fld w783 82 14 = f82_750 + 1 := fld_of hk784
          have hu793 : mu w783 = 2 * (fld w783 82 4 - fld w783 82 5) + min 1 (fld w783 82 7) := rfl
          have pq794 := pk724
          unfold PK PS at pq794
          have hM795 : ∀ s, s < 7 → s ≠ 5 → rwv w783 85 s = rwv w 85 s := fun s hs hn => (rwv_of (hr780.but hb785 (by decide)) hs).trans ((if_neg hn).trans ((rwv_of h85_773 hs).symm.trans (mf727 s hs)))
          have hM796 : rwv w783 85 5 = u45 + 1 := (rwv_of (hr780.but hb785 (by decide)) (by decide)).trans ((if_pos rfl).trans (by omega))
          have hM797 : ∀ s, s < 7 → rwv w783 85 s ≤ rwv w 85 s + 1 := fun s hs => by
            by_cases z : s = 5
            · subst z; omega
            · rw [hM795 s hs z]; omega
          have hO798 : ∀ j, (j < 7 ∨ 9 ≤ j) → j < 140 → rwv w783 86 j = rwv w 86 j := fun j hj hl => (rwv_fr hF786 (by decide)).trans (os725 j hj hl)
          have hl800 : FA w713 ≠ 0 ∨ u45 < 1 := rg726
          have hl801 : rwv w783 86 (7) = rwv w713 86 (7) := rwv_fr hF786 (by decide)
          have hl802 : rwv w783 86 (8) = rwv w713 86 (8) := rwv_fr hF786 (by decide)
          have hN799 : FA w783 ≠ 0 ∨ 1 ≤ u45 ∨ (1 ≤ rwv w783 86 7 ∧ rwv w783 86 7 ≤ 10 ∧ 1 ≤ rwv w783 86 8 ∧ rwv w783 86 8 ≤ 10) := by have q := nw730; omega
          have hX803 : FA w783 ≠ 0 ∨ u45 < 1 := by omega
          have hD804 : FA w783 ≠ 0 ∨ (DATA w → DATA w783) := by
            by_cases z : FA w783 ≠ 0
            · exact Or.inl z
            · exact Or.inr (fun hd => hd.s5 hM795 hK48 hM796 (hX803.resolve_left z) hO798 ((hN799.resolve_left z).resolve_left (by have := hX803.resolve_left z; omega)))
          exact xg_e ⟨w783, ⟨rfl, rfl⟩, xMnv.up (S := [85, 82]) hI715 ((xFr.of (S := [85, 82]) hb781 (by decide)).tr (xFr.of (S := [85, 82]) hb785 (by decide))) (List.forall_mem_cons.mpr ⟨xqu85 (show cpI 7 52 4294967295 (wget w783 85) from ⟨_, (hr780.but hb785 (by decide)), xrb (by omega) (hb774)⟩), List.forall_mem_cons.mpr ⟨xqu82 (show cp82 (wget w783 82) from xmC82 f82_732 f82_734 f82_736 f82_738 f82_740 f82_742 f82_744 f82_746 f82_748 (f82_750 + 1) f82_752 f82_753 f82_754 f82_756 f82_758 f82_760 hk784 hb733 hb735 hb737 hb739 hb741 hb743 hb745 hb747 hb749 (by omega) hb755 hb757 hb759 hb761 (by omega)), fun _ h => absurd h List.not_mem_nil⟩⟩), ((hF578.tr (hF716.up (by decide))).tr ((xFr.of (S := [82, 83, 85, 86, 87]) hb781 (by decide)).tr (xFr.of (S := [82, 83, 85, 86, 87]) hb785 (by decide)))), ⟨fun h => by have := pq794.1 h; omega, (show fld w783 82 10 = 0 ∨ FA w783 ≠ 0 by omega), Or.inr ⟨by have := ms731; omega, by omega, hM797⟩, hD804, pk724.2.2.2.2.tr (K83.fr hF786 (by decide))⟩⟩
      · refine xg_t (xg_ifT (u := f82_602) rfl xnm0 (xj_neT hc618)) ?_
        refine xg_t (xg_blq rfl) ?_
        refine xg_t (xg_aload (va := (2, 82)) rfl rfl) ?_
        refine xg_cVv mX12_ends (vs := []) (rest := []) (cn1 := 0) (sl1 := 0) rfl (mEnds (hI577) hj580.2.2.2.1) rfl h82_616 rfl rfl rfl rfl rfl rfl (fun w805 hq806 => ?_)
        obtain ⟨hI807, hF808, hx809⟩ := hq806
        clear hb587 hb589 hb591 hb593 hb595 hb597 hb599 hb601 hb603 hb605 hb609 hb611 hb613 hb615
        obtain ⟨hv810, hv811, hv812, hv813, hv814⟩ := hx809
        have pk815 : PK w576 w805 := ⟨fun _ => hv810, by omega, by omega, Or.inr hv810, hv814⟩
        have pk816 : PK w w805 := PK.tr hj580 pk815
        have os817 : ∀ j, (j < 7 ∨ 9 ≤ j) → j < 140 → rwv w805 86 j = rwv w 86 j := fun j hj hl => (rwv_fr hF808 (by decide)).trans (hj581 j hj hl)
        have rg818 : FA w805 ≠ 0 ∨ u45 < 1 := hj584.imp_left pk815.1
        have mf819 : ∀ s, s < 7 → rwv w805 85 s = rwv w 85 s := fun s hs => (rwv_fr hF808 (by decide)).trans (hj583 s hs)
        have hl820 : rwv w805 86 (7) = rwv w576 86 (7) := rwv_fr hF808 (by decide)
        have hl821 : rwv w805 86 (8) = rwv w576 86 (8) := rwv_fr hF808 (by decide)
        have nw822 : FA w805 ≠ 0 ∨ 1 ≤ u45 ∨ (1 ≤ rwv w805 86 7 ∧ rwv w805 86 7 ≤ 10 ∧ 1 ≤ rwv w805 86 8 ∧ rwv w805 86 8 ≤ 10) := by have q := hj585; have q1 := pk815.1; omega
        clear hj585
        have ms823 : mu w805 < mu w := Nat.lt_of_le_of_lt pk815.2.1 hj582
        clear hj584
        refine xg_t (xg_blq rfl) ?_
        refine xoCh82 (xqc82 hI807 : cp82 (wget w805 82)) (fun f82_824 f82_826 f82_828 f82_830 f82_832 f82_834 f82_836 f82_838 f82_840 f82_842 f82_844 f82_845 f82_846 f82_848 f82_850 f82_852 h82_854 hb825 hb827 hb829 hb831 hb833 hb835 hb837 hb839 hb841 hb843 hb847 hb849 hb851 hb853 hb855 => ?_)
        have hf856 : fld w805 82 4 = f82_828 := fld_of h82_854
        have hf857 : fld w805 82 5 = f82_830 := fld_of h82_854
        have hf858 : fld w805 82 7 = f82_834 := fld_of h82_854
        have hf859 : fld w805 82 10 = f82_840 := fld_of h82_854
        have hf860 : fld w805 82 14 = f82_842 := fld_of h82_854
        have hu861 : mu w805 = 2 * (fld w805 82 4 - fld w805 82 5) + min 1 (fld w805 82 7) := rfl
        have hf862 := pk816.2.2.1
        have hl863 : f82_842 ≤ 1000 := by omega
        refine xg_t (xg_aload (va := (2, 82)) rfl rfl) ?_
        refine xg_t (xg_getf (va := (2, 85)) h82_854 rfl) ?_
        refine xg_t (xg_iload (va := (0, 5)) rfl rfl) ?_
        refine xg_t (xg_dup2 rfl) ?_
        refine xoI (xqc85 hI807 : cpI 7 52 4294967295 (wget w805 85)) (fun g85_864 h85_865 hb866 => ?_)
        refine xg_ialdB (n := 5) (B := 4294967295) h85_865 (hb866) xnm0 (by first | decide | omega) (fun u867 hu868 he869 => ?_)
        have hl870 : u867 = u45 := by have q1 := rwv_of h85_865 (show 5 < 7 by decide); have q2 := mf819 5 (by decide); omega
        refine xg_t (xg_const) ?_
        refine xg_t (xg_iadd (u := u867) (v := 1) (z := u867 + 1) xnm0 xnm0 (by omega)) ?_
        refine xg_iastK (n := 5) (u := u867 + 1) h85_865 xnm0 xnm0 rfl (by first | decide | omega) (fun w871 hr872 hb873 => ?_)
        refine xg_t (xg_aload (va := (2, 82)) rfl rfl) ?_
        refine xg_t (xg_dup rfl) ?_
        refine xg_t (xg_getf (va := (0, f82_842)) (hb873.get (by decide) h82_854) rfl) ?_
        have hn874 := id hb843
        unfold xHid at hn874
        refine xg_t (xg_const) ?_
        refine xg_t (xg_iadd (u := f82_842) (v := 1) (z := f82_842 + 1) xnm0 xnm0 (by omega)) ?_
        refine xg_putI (fl1 := [(2, 83), (2, 84), (0, f82_824), (0, f82_826), (0, f82_828), (0, f82_830), (0, f82_832), (0, f82_834), (0, f82_836), (0, f82_838), (0, f82_840), (2, 85), (2, 86), (2, 87), (0, f82_842 + 1), (2, 88), (2, 89), (2, 90), (2, 91), (2, 92), (2, 93), (2, 94), (4, f82_844), (4, f82_845), (0, f82_846), (2, 95), (2, 96), (2, 97), (2, 98), (2, 99), (2, 100), (2, 101), (2, 102), (0, f82_848), (2, 103), (2, 104), (2, 105), (2, 106), (2, 107), (2, 108), (2, 109), (0, f82_850), (0, f82_852), (2, 110), (2, 111), (2, 112), (2, 113)]) (hb873.get (by decide) h82_854) rfl rfl rfl (fun w875 hk876 hb877 => ?_)
        have hF878 : xFr [82, 85] w805 w875 := ((xFr.of (S := [82, 85]) hb873 (by decide)).tr (xFr.of (S := [82, 85]) hb877 (by decide)))
        have hA879 := FA_fr hF878 (by decide)
        have hf880 : fld w875 82 4 = f82_828 := fld_of hk876
        have hf881 : fld w875 82 5 = f82_830 := fld_of hk876
        have hf882 : fld w875 82 7 = f82_834 := fld_of hk876
        have hf883 : fld w875 82 10 = f82_840 := fld_of hk876
        have hf884 : fld w875 82 14 = f82_842 + 1 := fld_of hk876
        have hu885 : mu w875 = 2 * (fld w875 82 4 - fld w875 82 5) + min 1 (fld w875 82 7) := rfl
        have pq886 := pk816
        unfold PK PS at pq886
        have hM887 : ∀ s, s < 7 → s ≠ 5 → rwv w875 85 s = rwv w 85 s := fun s hs hn => (rwv_of (hr872.but hb877 (by decide)) hs).trans ((if_neg hn).trans ((rwv_of h85_865 hs).symm.trans (mf819 s hs)))
        have hM888 : rwv w875 85 5 = u45 + 1 := (rwv_of (hr872.but hb877 (by decide)) (by decide)).trans ((if_pos rfl).trans (by omega))
        have hM889 : ∀ s, s < 7 → rwv w875 85 s ≤ rwv w 85 s + 1 := fun s hs => by
          by_cases z : s = 5
          · subst z; omega
          · rw [hM887 s hs z]; omega
        have hO890 : ∀ j, (j < 7 ∨ 9 ≤ j) → j < 140 → rwv w875 86 j = rwv w 86 j := fun j hj hl => (rwv_fr hF878 (by decide)).trans (os817 j hj hl)
        have hl892 : FA w805 ≠ 0 ∨ u45 < 1 := rg818
        have hl893 : rwv w875 86 (7) = rwv w805 86 (7) := rwv_fr hF878 (by decide)
        have hl894 : rwv w875 86 (8) = rwv w805 86 (8) := rwv_fr hF878 (by decide)
        have hN891 : FA w875 ≠ 0 ∨ 1 ≤ u45 ∨ (1 ≤ rwv w875 86 7 ∧ rwv w875 86 7 ≤ 10 ∧ 1 ≤ rwv w875 86 8 ∧ rwv w875 86 8 ≤ 10) := by have q := nw822; omega
        have hX895 : FA w875 ≠ 0 ∨ u45 < 1 := by omega
        have hD896 : FA w875 ≠ 0 ∨ (DATA w → DATA w875) := by
          by_cases z : FA w875 ≠ 0
          · exact Or.inl z
          · exact Or.inr (fun hd => hd.s5 hM887 hK48 hM888 (hX895.resolve_left z) hO890 ((hN891.resolve_left z).resolve_left (by have := hX895.resolve_left z; omega)))
        exact xg_e ⟨w875, ⟨rfl, rfl⟩, xMnv.up (S := [85, 82]) hI807 ((xFr.of (S := [85, 82]) hb873 (by decide)).tr (xFr.of (S := [85, 82]) hb877 (by decide))) (List.forall_mem_cons.mpr ⟨xqu85 (show cpI 7 52 4294967295 (wget w875 85) from ⟨_, (hr872.but hb877 (by decide)), xrb (by omega) (hb866)⟩), List.forall_mem_cons.mpr ⟨xqu82 (show cp82 (wget w875 82) from xmC82 f82_824 f82_826 f82_828 f82_830 f82_832 f82_834 f82_836 f82_838 f82_840 (f82_842 + 1) f82_844 f82_845 f82_846 f82_848 f82_850 f82_852 hk876 hb825 hb827 hb829 hb831 hb833 hb835 hb837 hb839 hb841 (by omega) hb847 hb849 hb851 hb853 (by omega)), fun _ h => absurd h List.not_mem_nil⟩⟩), ((hF578.tr (hF808.up (by decide))).tr ((xFr.of (S := [82, 83, 85, 86, 87]) hb873 (by decide)).tr (xFr.of (S := [82, 83, 85, 86, 87]) hb877 (by decide)))), ⟨fun h => by have := pq886.1 h; omega, (show fld w875 82 10 = 0 ∨ FA w875 ≠ 0 by omega), Or.inr ⟨by have := ms823; omega, by omega, hM889⟩, hD896, pk816.2.2.2.2.tr (K83.fr hF878 (by decide))⟩⟩
    refine xg_t (xg_iload (va := (0, 5)) rfl rfl) ?_
    refine xg_t (xg_swt (ks := [(0, 108), (1, 116), (2, 180), (3, 221), (4, 273), (5, 326)]) (u := 5) (z := 326) rfl rfl rfl xnm0 (xsw_n (by omega) (xsw_n (by omega) (xsw_n (by omega) (xsw_n (by omega) (xsw_n (by omega) (xsw_y rfl))))))) ?_
    refine xg_t (xg_blq rfl) ?_
    refine xg_t (xg_const) ?_
    refine xg_t (xg_istore (l1 := [(3, (0, u45)), (2, (0, at_)), (1, (0, 5)), (0, (2, 82))]) rfl rfl rfl) ?_
    refine xg_t (xg_blq rfl) ?_
    refine xg_t (xg_iload (va := (0, 0)) rfl rfl) ?_
    refine xg_t (xg_const) ?_
    refine xg_t (xg_icF (u := 0) (v := 2) rfl xnm0 xnm0 (by decide)) ?_
    refine xg_t (xg_aload (va := (2, 82)) rfl rfl) ?_
    refine xg_t (xg_iload (va := (0, 5)) rfl rfl) ?_
    refine xg_t (xg_iload (va := (0, u45)) rfl rfl) ?_
    refine xg_t (xg_bip) ?_
    refine xg_t (xg_iload (va := (0, 0)) rfl rfl) ?_
    refine xg_t (xg_iadd (u := 7) (v := 0) (z := 7) xnm0 xnm0 (by decide)) ?_
    refine xg_t (xg_aload (va := (2, 82)) rfl rfl) ?_
    refine xg_t (xg_const) ?_
    refine xg_t (xg_bip) ?_
    refine xoCh82 (xqc82 hI560 : cp82 (wget w558 82)) (fun f82_897 f82_899 f82_901 f82_903 f82_905 f82_907 f82_909 f82_911 f82_913 f82_915 f82_917 f82_918 f82_919 f82_921 f82_923 f82_925 h82_927 hb898 hb900 hb902 hb904 hb906 hb908 hb910 hb912 hb914 hb916 hb920 hb922 hb924 hb926 hb928 => ?_)
    refine xg_cVi mX12_numbered (vs := [(0, 1), (0, 10)]) (rest := [(0, 7), (0, u45), (0, 5), (2, 82)]) (cn1 := 0) (sl1 := 0) rfl (mNumbered (hI560) (by omega) (by omega) pk570.2.2.2.1) rfl h82_927 rfl rfl rfl rfl rfl rfl (fun n933 w929 hq930 => ?_)
    obtain ⟨hn934, hI931, hF932⟩ := hq930
    clear hb898 hb900 hb902 hb904 hb906 hb908 hb910 hb912 hb914 hb916 hb920 hb922 hb924 hb926
    obtain ⟨hn935, hn936, hn937⟩ := hn934
    have pk938 : PK w w929 := PK.tr pk570 hn936
    have os939 : ∀ j, (j < 7 ∨ 9 ≤ j) → j < 140 → rwv w929 86 j = rwv w 86 j := fun j hj hl => (rwv_fr hF932 (by decide)).trans (os571 j hj hl)
    have rg940 : FA w929 ≠ 0 ∨ 0 = 1 := rg572.imp_left hn936.1
    have mf941 : ∀ s, s < 7 → rwv w929 85 s = rwv w 85 s := fun s hs => (rwv_fr hF932 (by decide)).trans (mf573 s hs)
    have ms942 : mu w929 < mu w := Nat.lt_of_le_of_lt hn936.2.1 ms574
    clear rg572
    refine xoCh82 (xqc82 hI931 : cp82 (wget w929 82)) (fun f82_943 f82_945 f82_947 f82_949 f82_951 f82_953 f82_955 f82_957 f82_959 f82_961 f82_963 f82_964 f82_965 f82_967 f82_969 f82_971 h82_973 hb944 hb946 hb948 hb950 hb952 hb954 hb956 hb958 hb960 hb962 hb966 hb968 hb970 hb972 hb974 => ?_)
    refine xg_cVv mX12_puts (vs := [(0, 5), (0, u45), (0, 7), (0, n933)]) (rest := []) (cn1 := 0) (sl1 := 0) rfl (mPuts5 (hI931) (by omega) (by omega) (by omega) (fun _ => by omega)) rfl h82_973 rfl rfl rfl rfl rfl rfl (fun w975 hq976 => ?_)
    obtain ⟨hI977, hF978, hx979⟩ := hq976
    obtain ⟨hp980, hp981⟩ := hx979
    have pk982 : PK w w975 := PK.tr pk938 (PK.fr hF978 (by decide) (by decide) pk938.2.2.2.1)
    have os983 : ∀ j, (j < 7 ∨ 9 ≤ j) → j < 140 → rwv w975 86 j = rwv w 86 j := fun j hj hl => (hp981 j (by omega) hl).trans (os939 j hj hl)
    have rg984 : FA w975 ≠ 0 ∨ 0 = 1 := rg940.imp_left (PK.fr hF978 (by decide) (by decide) pk938.2.2.2.1).1
    have rg985 : FA w975 ≠ 0 ∨ (1 ≤ n933 ∧ n933 ≤ 10) := hn937.imp_left (PK.fr hF978 (by decide) (by decide) pk938.2.2.2.1).1
    have mf986 : ∀ s, s < 7 → rwv w975 85 s = rwv w 85 s := fun s hs => (rwv_fr hF978 (by decide)).trans (mf941 s hs)
    have ms987 : mu w975 < mu w := Nat.lt_of_le_of_lt (PK.fr hF978 (by decide) (by decide) pk938.2.2.2.1).2.1 ms942
    clear rg940 hn937
    refine xg_t (xg_iinc (u := 0) (z := 1) (l1 := [(3, (0, u45)), (2, (0, at_)), (1, (0, 5)), (0, (2, 82))]) rfl rfl (by decide) rfl) ?_
    refine xg_t (xg_goto) ?_
    refine xg_t (xg_blq rfl) ?_
    refine xg_t (xg_iload (va := (0, 1)) rfl rfl) ?_
    refine xg_t (xg_const) ?_
    refine xg_t (xg_icF (u := 1) (v := 2) rfl xnm0 xnm0 (by decide)) ?_
    refine xg_t (xg_aload (va := (2, 82)) rfl rfl) ?_
    refine xg_t (xg_iload (va := (0, 5)) rfl rfl) ?_
    refine xg_t (xg_iload (va := (0, u45)) rfl rfl) ?_
    refine xg_t (xg_bip) ?_
    refine xg_t (xg_iload (va := (0, 1)) rfl rfl) ?_
    refine xg_t (xg_iadd (u := 7) (v := 1) (z := 8) xnm0 xnm0 (by decide)) ?_
    refine xg_t (xg_aload (va := (2, 82)) rfl rfl) ?_
    refine xg_t (xg_const) ?_
    refine xg_t (xg_bip) ?_
    refine xg_cVi mX12_numbered (vs := [(0, 1), (0, 10)]) (rest := [(0, 8), (0, u45), (0, 5), (2, 82)]) (cn1 := 0) (sl1 := 0) rfl (mNumbered (hI977) (by omega) (by omega) pk982.2.2.2.1) rfl (hF978.get (by decide) h82_973) rfl rfl rfl rfl rfl rfl (fun n992 w988 hq989 => ?_)
    obtain ⟨hn993, hI990, hF991⟩ := hq989
    clear hb944 hb946 hb948 hb950 hb952 hb954 hb956 hb958 hb960 hb962 hb966 hb968 hb970 hb972
    obtain ⟨hn994, hn995, hn996⟩ := hn993
    have pk997 : PK w w988 := PK.tr pk982 hn995
    have os998 : ∀ j, (j < 7 ∨ 9 ≤ j) → j < 140 → rwv w988 86 j = rwv w 86 j := fun j hj hl => (rwv_fr hF991 (by decide)).trans (os983 j hj hl)
    have ix999 : u45 < 1 → rwv w988 86 (7) = n933 := fun h => (rwv_fr hF991 (by decide)).trans (hp980 h)
    have rg1000 : FA w988 ≠ 0 ∨ 0 = 1 := rg984.imp_left hn995.1
    have rg1001 : FA w988 ≠ 0 ∨ (1 ≤ n933 ∧ n933 ≤ 10) := rg985.imp_left hn995.1
    have mf1002 : ∀ s, s < 7 → rwv w988 85 s = rwv w 85 s := fun s hs => (rwv_fr hF991 (by decide)).trans (mf986 s hs)
    have ms1003 : mu w988 < mu w := Nat.lt_of_le_of_lt hn995.2.1 ms987
    clear hp980 rg984 rg985
    refine xoCh82 (xqc82 hI990 : cp82 (wget w988 82)) (fun f82_1004 f82_1006 f82_1008 f82_1010 f82_1012 f82_1014 f82_1016 f82_1018 f82_1020 f82_1022 f82_1024 f82_1025 f82_1026 f82_1028 f82_1030 f82_1032 h82_1034 hb1005 hb1007 hb1009 hb1011 hb1013 hb1015 hb1017 hb1019 hb1021 hb1023 hb1027 hb1029 hb1031 hb1033 hb1035 => ?_)
    refine xg_cVv mX12_puts (vs := [(0, 5), (0, u45), (0, 8), (0, n992)]) (rest := []) (cn1 := 0) (sl1 := 0) rfl (mPuts5 (hI990) (by omega) (by omega) (by omega) (fun _ => by omega)) rfl h82_1034 rfl rfl rfl rfl rfl rfl (fun w1036 hq1037 => ?_)
    obtain ⟨hI1038, hF1039, hx1040⟩ := hq1037
    obtain ⟨hp1041, hp1042⟩ := hx1040
    have pk1043 : PK w w1036 := PK.tr pk997 (PK.fr hF1039 (by decide) (by decide) pk997.2.2.2.1)
    have os1044 : ∀ j, (j < 7 ∨ 9 ≤ j) → j < 140 → rwv w1036 86 j = rwv w 86 j := fun j hj hl => (hp1042 j (by omega) hl).trans (os998 j hj hl)
    have ix1045 : u45 < 1 → rwv w1036 86 (7) = n933 := fun h => (hp1042 _ (by omega) (by omega)).trans (ix999 h)
    have rg1046 : FA w1036 ≠ 0 ∨ 0 = 1 := rg1000.imp_left (PK.fr hF1039 (by decide) (by decide) pk997.2.2.2.1).1
    have rg1047 : FA w1036 ≠ 0 ∨ (1 ≤ n933 ∧ n933 ≤ 10) := rg1001.imp_left (PK.fr hF1039 (by decide) (by decide) pk997.2.2.2.1).1
    have rg1048 : FA w1036 ≠ 0 ∨ (1 ≤ n992 ∧ n992 ≤ 10) := hn996.imp_left (PK.fr hF1039 (by decide) (by decide) pk997.2.2.2.1).1
    have mf1049 : ∀ s, s < 7 → rwv w1036 85 s = rwv w 85 s := fun s hs => (rwv_fr hF1039 (by decide)).trans (mf1002 s hs)
    have ms1050 : mu w1036 < mu w := Nat.lt_of_le_of_lt (PK.fr hF1039 (by decide) (by decide) pk997.2.2.2.1).2.1 ms1003
    clear ix999 rg1000 rg1001 hn996
    refine xg_t (xg_iinc (u := 1) (z := 2) (l1 := [(3, (0, u45)), (2, (0, at_)), (1, (0, 5)), (0, (2, 82))]) rfl rfl (by decide) rfl) ?_
    refine xg_t (xg_goto) ?_
    refine xg_t (xg_blq rfl) ?_
    refine xg_t (xg_iload (va := (0, 2)) rfl rfl) ?_
    refine xg_t (xg_const) ?_
    refine xg_t (xg_icT (u := 2) (v := 2) rfl xnm0 xnm0 (by decide)) ?_
    refine xg_t (xg_blq rfl) ?_
    refine xg_t (xg_goto) ?_
    refine xg_t (xg_drop (l1 := [(0, (2, 82)), (1, (0, 5)), (3, (0, u45))]) (List.forall_mem_cons.mpr ⟨List.mem_cons_of_mem _ (List.mem_cons_of_mem _ (List.mem_cons_of_mem _ (List.mem_cons_of_mem _ (List.mem_cons_self)))), List.forall_mem_cons.mpr ⟨List.mem_cons_of_mem _ (List.mem_cons_of_mem _ (List.mem_cons_of_mem _ (List.mem_cons_self))), List.forall_mem_cons.mpr ⟨List.mem_cons_of_mem _ (List.mem_cons_self), fun _ h => absurd h List.not_mem_nil⟩⟩⟩)) ?_
    have hX1051 : FA w1036 ≠ 0 ∨ u45 < 1 := Or.inl (by have q := rg1046; omega)
    have hN1052 : FA w1036 ≠ 0 ∨ 1 ≤ u45 ∨ (1 ≤ rwv w1036 86 7 ∧ rwv w1036 86 7 ≤ 10 ∧ 1 ≤ rwv w1036 86 8 ∧ rwv w1036 86 8 ≤ 10) := by
      have hl1053 : u45 < 1 → rwv w1036 86 (7) = n933 := ix1045
      have hl1054 : u45 < 1 → rwv w1036 86 (8) = n992 := hp1041
      have hl1055 := rg1047
      have hl1056 := rg1048
      omega
    exact jn575 w1036 (hI1038) (((((((hF549.up (by decide)).tr (hF561.up (by decide))).tr (hF932.up (by decide))).tr (hF978.up (by decide))).tr (hF991.up (by decide))).tr (hF1039.up (by decide)))) (⟨pk1043, os1044, ms1050, mf1049, hX1051, hN1052⟩)
set_option maxHeartbeats 60000000 in
theorem mALineS6 {at_ : Nat} (hI : xMnv w) (hps : PS w) (hmb : ∀ s, s < 7 → rwv w 85 s ≤ 1000) (hln : fld w 82 14 ≤ 1000) (h7 : fld w 82 7 = 3) (hat : at_ ≤ 4294967295) : xTo (d + 7) mX12_aLine (43, [], [(2, (0, at_)), (1, (0, 6)), (0, (2, 82))], [], (w, bd, fc, 0, 0, rr)) (fun φ => ∃ w', xEnd 0 [] (w', bd, fc, 0, 0, rr) φ ∧ xMnv w' ∧ xFr [82, 83, 85, 86, 87] w w' ∧ ((FA w ≠ 0 → FA w' ≠ 0) ∧ PS w' ∧ ((fld w' 82 10 = 1 ∧ mu w' = mu w ∧ fld w' 82 14 = fld w 82 14 ∧ ∀ s, s < 7 → rwv w' 85 s = rwv w 85 s) ∨ (mu w' < mu w ∧ fld w' 82 14 = fld w 82 14 + 1 ∧ ∀ s, s < 7 → rwv w' 85 s ≤ rwv w 85 s + 1)) ∧ (FA w' ≠ 0 ∨ (DATA w → DATA w')) ∧ K83 w w')) := by
  refine xoCh82 (xqc82 hI : cp82 (wget w 82)) (fun f82_1 f82_3 f82_5 f82_7 f82_9 f82_11 f82_13 f82_15 f82_17 f82_19 f82_21 f82_22 f82_23 f82_25 f82_27 f82_29 h82_31 hb2 hb4 hb6 hb8 hb10 hb12 hb14 hb16 hb18 hb20 hb24 hb26 hb28 hb30 hb32 => ?_)
  have hf33 : fld w 82 7 = f82_11 := fld_of h82_31
  have hf34 : fld w 82 10 = f82_17 := fld_of h82_31
  have hf35 : fld w 82 14 = f82_19 := fld_of h82_31
  have hps_ : fld w 82 10 = 0 ∨ FA w ≠ 0 := hps
  refine xoI (xqc85 hI : cpI 7 52 4294967295 (wget w 85)) (fun g85_36 h85_37 hb38 => ?_)
  refine xoI (xqc86 hI : cpI 140 53 4294967295 (wget w 86)) (fun g86_39 h86_40 hb41 => ?_)
  refine xoI (xqc87 hI : cpI 20 54 4294967295 (wget w 87)) (fun g87_42 h87_43 hb44 => ?_)
  refine xg_t (xg_blq rfl) ?_
  refine xg_t (xg_aload (va := (2, 82)) rfl rfl) ?_
  refine xg_t (xg_getf (va := (2, 85)) h82_31 rfl) ?_
  refine xg_t (xg_iload (va := (0, 6)) rfl rfl) ?_
  refine xg_ialdB (n := 6) (B := 4294967295) h85_37 (hb38) xnm0 (by first | decide | omega) (fun u45 hu46 he47 => ?_)
  have hK48 : rwv w 85 6 = u45 := (rwv_of h85_37 (by decide)).trans he47
  have hm49 := hmb 6 (by decide)
  have hl50 : u45 ≤ 1000 := by omega
  refine xg_t (xg_istore (l1 := [(2, (0, at_)), (1, (0, 6)), (0, (2, 82))]) rfl rfl rfl) ?_
  refine xg_t (xg_iload (va := (0, u45)) rfl rfl) ?_
  refine xg_t (xg_iload (va := (0, 6)) rfl rfl) ?_
  refine xg_t (xg_cSr mX12_mostOf (vs := [(0, 6)]) (rest := [(0, u45)]) (rs := [(0, 1), (0, u45)]) (cn1 := 0) (sl1 := 0) rfl (mMostR6) rfl rfl rfl rfl rfl rfl rfl rfl) ?_
  by_cases hc51 : u45 < 1
  · refine xg_t (xg_icT (u := u45) (v := 1) rfl xnm0 xnm0 (xj_ltT hc51 (by omega))) ?_
    refine xg_t (xg_blq rfl) ?_
    refine xg_t (xg_aload (va := (2, 82)) rfl rfl) ?_
    refine xg_cVv mX12_advance (vs := []) (rest := []) (cn1 := 0) (sl1 := 0) rfl (mAdvance (hI)) rfl h82_31 rfl rfl rfl rfl rfl rfl (fun w52 hq53 => ?_)
    obtain ⟨hI54, hF55, hx56⟩ := hq53
    clear hb2 hb4 hb6 hb8 hb10 hb12 hb14 hb16 hb18 hb20 hb24 hb26 hb28 hb30
    obtain ⟨hv57, hv58, hv59, hv60⟩ := hx56
    have hf62 := FA_fr hF55 (by decide)
    have hs63 := (PK.rf hps).2.2.2.1
    unfold PS at hs63
    have pk61 : PK w w52 := ⟨fun _ => by omega, hv57, hv60, (show fld w52 82 10 = 0 ∨ FA w52 ≠ 0 by omega), K83.fr hF55 (by decide)⟩
    clear hs63
    have pk64 : PK w w52 := PK.tr (PK.rf hps) pk61
    have os65 : ∀ j, (j < 5 ∨ 7 ≤ j) → j < 140 → rwv w52 86 j = rwv w 86 j := fun j hj hl => (rwv_fr hF55 (by decide)).trans ((fun j _ _ => rfl) j hj hl)
    have mf66 : ∀ s, s < 7 → rwv w52 85 s = rwv w 85 s := fun s hs => (rwv_fr hF55 (by decide)).trans ((fun _ _ => rfl) s hs)
    have ms67 : mu w52 < mu w := Nat.lt_of_lt_of_le (hv58 (by omega)) (PK.rf hps).2.1
    clear hv58
    have jn68 : ∀ (w69 : List (List xE)), xMnv w69 → xFr [82, 83, 85, 86, 87] w w69 → (PK w w69 ∧ (∀ j, (j < 5 ∨ 7 ≤ j) → j < 140 → rwv w69 86 j = rwv w 86 j) ∧ mu w69 < mu w ∧ (∀ s, s < 7 → rwv w69 85 s = rwv w 85 s) ∧ (FA w69 ≠ 0 ∨ u45 < 1) ∧ (FA w69 ≠ 0 ∨ 1 ≤ u45 ∨ (1 ≤ rwv w69 86 5 ∧ rwv w69 86 5 ≤ 6 ∧ 1 ≤ rwv w69 86 6 ∧ rwv w69 86 6 ≤ 6))) → xTo (d + 7) mX12_aLine (394, [], [(0, (2, 82)), (1, (0, 6)), (3, (0, u45))], [], (w69, bd, fc, 0, 0, rr)) (fun φ => ∃ w', xEnd 0 [] (w', bd, fc, 0, 0, rr) φ ∧ xMnv w' ∧ xFr [82, 83, 85, 86, 87] w w' ∧ ((FA w ≠ 0 → FA w' ≠ 0) ∧ PS w' ∧ ((fld w' 82 10 = 1 ∧ mu w' = mu w ∧ fld w' 82 14 = fld w 82 14 ∧ ∀ s, s < 7 → rwv w' 85 s = rwv w 85 s) ∨ (mu w' < mu w ∧ fld w' 82 14 = fld w 82 14 + 1 ∧ ∀ s, s < 7 → rwv w' 85 s ≤ rwv w 85 s + 1)) ∧ (FA w' ≠ 0 ∨ (DATA w → DATA w')) ∧ K83 w w')) := by
      intro w69 hI70 hF71 he72
      obtain ⟨hj73, hj74, hj75, hj76, hj77, hj78⟩ := he72
      refine xg_t (xg_blq rfl) ?_
      refine xg_t (xg_aload (va := (2, 82)) rfl rfl) ?_
      refine xoCh82 (xqc82 hI70 : cp82 (wget w69 82)) (fun f82_79 f82_81 f82_83 f82_85 f82_87 f82_89 f82_91 f82_93 f82_95 f82_97 f82_99 f82_100 f82_101 f82_103 f82_105 f82_107 h82_109 hb80 hb82 hb84 hb86 hb88 hb90 hb92 hb94 hb96 hb98 hb102 hb104 hb106 hb108 hb110 => ?_)
      refine xg_t (xg_getf (va := (0, f82_95)) h82_109 rfl) ?_
      by_cases hc111 : f82_95 = 0
      · refine xg_t (xg_ifF (u := f82_95) rfl xnm0 (xj_neF hc111)) ?_
        refine xg_t (xg_aload (va := (2, 82)) rfl rfl) ?_
        refine xg_t (xg_getf (va := (0, f82_89)) h82_109 rfl) ?_
        refine xg_t (xg_const) ?_
        by_cases hc112 : f82_89 = 2
        · refine xg_t (xg_icF (u := f82_89) (v := 2) rfl xnm0 xnm0 (xj_neF hc112)) ?_
          refine xg_t (xg_aload (va := (2, 82)) rfl rfl) ?_
          refine xg_cVv mX12_advance (vs := []) (rest := []) (cn1 := 0) (sl1 := 0) rfl (mAdvance (hI70)) rfl h82_109 rfl rfl rfl rfl rfl rfl (fun w113 hq114 => ?_)
          obtain ⟨hI115, hF116, hx117⟩ := hq114
          clear hb80 hb82 hb84 hb86 hb88 hb90 hb92 hb94 hb96 hb98 hb102 hb104 hb106 hb108
          obtain ⟨hv118, hv119, hv120, hv121⟩ := hx117
          have hf123 := FA_fr hF116 (by decide)
          have hs124 := hj73.2.2.2.1
          unfold PS at hs124
          have pk122 : PK w69 w113 := ⟨fun _ => by omega, hv118, hv121, (show fld w113 82 10 = 0 ∨ FA w113 ≠ 0 by omega), K83.fr hF116 (by decide)⟩
          clear hs124
          clear hv119
          have pk125 : PK w w113 := PK.tr hj73 pk122
          have os126 : ∀ j, (j < 5 ∨ 7 ≤ j) → j < 140 → rwv w113 86 j = rwv w 86 j := fun j hj hl => (rwv_fr hF116 (by decide)).trans (hj74 j hj hl)
          have rg127 : FA w113 ≠ 0 ∨ u45 < 1 := hj77.imp_left pk122.1
          have mf128 : ∀ s, s < 7 → rwv w113 85 s = rwv w 85 s := fun s hs => (rwv_fr hF116 (by decide)).trans (hj76 s hs)
          have hl129 : rwv w113 86 (5) = rwv w69 86 (5) := rwv_fr hF116 (by decide)
          have hl130 : rwv w113 86 (6) = rwv w69 86 (6) := rwv_fr hF116 (by decide)
          have nw131 : FA w113 ≠ 0 ∨ 1 ≤ u45 ∨ (1 ≤ rwv w113 86 5 ∧ rwv w113 86 5 ≤ 6 ∧ 1 ≤ rwv w113 86 6 ∧ rwv w113 86 6 ≤ 6) := by have q := hj78; have q1 := pk122.1; omega
          clear hj78
          have ms132 : mu w113 < mu w := Nat.lt_of_le_of_lt pk122.2.1 hj75
          clear hj77
          refine xg_t (xg_goto) ?_
          refine xg_t (xg_blq rfl) ?_
          refine xoCh82 (xqc82 hI115 : cp82 (wget w113 82)) (fun f82_133 f82_135 f82_137 f82_139 f82_141 f82_143 f82_145 f82_147 f82_149 f82_151 f82_153 f82_154 f82_155 f82_157 f82_159 f82_161 h82_163 hb134 hb136 hb138 hb140 hb142 hb144 hb146 hb148 hb150 hb152 hb156 hb158 hb160 hb162 hb164 => ?_)
          have hf165 : fld w113 82 4 = f82_137 := fld_of h82_163
          have hf166 : fld w113 82 5 = f82_139 := fld_of h82_163
          have hf167 : fld w113 82 7 = f82_143 := fld_of h82_163
          have hf168 : fld w113 82 10 = f82_149 := fld_of h82_163
          have hf169 : fld w113 82 14 = f82_151 := fld_of h82_163
          have hu170 : mu w113 = 2 * (fld w113 82 4 - fld w113 82 5) + min 1 (fld w113 82 7) := rfl
          have hf171 := pk125.2.2.1
          have hl172 : f82_151 ≤ 1000 := by omega
          refine xg_t (xg_aload (va := (2, 82)) rfl rfl) ?_
          refine xg_t (xg_getf (va := (2, 85)) h82_163 rfl) ?_
          refine xg_t (xg_iload (va := (0, 6)) rfl rfl) ?_
          refine xg_t (xg_dup2 rfl) ?_
          refine xoI (xqc85 hI115 : cpI 7 52 4294967295 (wget w113 85)) (fun g85_173 h85_174 hb175 => ?_)
          refine xg_ialdB (n := 6) (B := 4294967295) h85_174 (hb175) xnm0 (by first | decide | omega) (fun u176 hu177 he178 => ?_)
          have hl179 : u176 = u45 := by have q1 := rwv_of h85_174 (show 6 < 7 by decide); have q2 := mf128 6 (by decide); omega
          refine xg_t (xg_const) ?_
          refine xg_t (xg_iadd (u := u176) (v := 1) (z := u176 + 1) xnm0 xnm0 (by omega)) ?_
          refine xg_iastK (n := 6) (u := u176 + 1) h85_174 xnm0 xnm0 rfl (by first | decide | omega) (fun w180 hr181 hb182 => ?_)
          refine xg_t (xg_aload (va := (2, 82)) rfl rfl) ?_
          refine xg_t (xg_dup rfl) ?_
          refine xg_t (xg_getf (va := (0, f82_151)) (hb182.get (by decide) h82_163) rfl) ?_
          have hn183 := id hb152
          unfold xHid at hn183
          refine xg_t (xg_const) ?_
          refine xg_t (xg_iadd (u := f82_151) (v := 1) (z := f82_151 + 1) xnm0 xnm0 (by omega)) ?_
          refine xg_putI (fl1 := [(2, 83), (2, 84), (0, f82_133), (0, f82_135), (0, f82_137), (0, f82_139), (0, f82_141), (0, f82_143), (0, f82_145), (0, f82_147), (0, f82_149), (2, 85), (2, 86), (2, 87), (0, f82_151 + 1), (2, 88), (2, 89), (2, 90), (2, 91), (2, 92), (2, 93), (2, 94), (4, f82_153), (4, f82_154), (0, f82_155), (2, 95), (2, 96), (2, 97), (2, 98), (2, 99), (2, 100), (2, 101), (2, 102), (0, f82_157), (2, 103), (2, 104), (2, 105), (2, 106), (2, 107), (2, 108), (2, 109), (0, f82_159), (0, f82_161), (2, 110), (2, 111), (2, 112), (2, 113)]) (hb182.get (by decide) h82_163) rfl rfl rfl (fun w184 hk185 hb186 => ?_)
          have hF187 : xFr [82, 85] w113 w184 := ((xFr.of (S := [82, 85]) hb182 (by decide)).tr (xFr.of (S := [82, 85]) hb186 (by decide)))
          have hA188 := FA_fr hF187 (by decide)
          have hf189 : fld w184 82 4 = f82_137 := fld_of hk185
          have hf190 : fld w184 82 5 = f82_139 := fld_of hk185
          have hf191 : fld w184 82 7 = f82_143 := fld_of hk185
          have hf192 : fld w184 82 10 = f82_149 := fld_of hk185
          have hf193 : fld w184 82 14 = f82_151 + 1 := fld_of hk185
          have hu194 : mu w184 = 2 * (fld w184 82 4 - fld w184 82 5) + min 1 (fld w184 82 7) := rfl
          have pq195 := pk125
          unfold PK PS at pq195
          have hM196 : ∀ s, s < 7 → s ≠ 6 → rwv w184 85 s = rwv w 85 s := fun s hs hn => (rwv_of (hr181.but hb186 (by decide)) hs).trans ((if_neg hn).trans ((rwv_of h85_174 hs).symm.trans (mf128 s hs)))
          have hM197 : rwv w184 85 6 = u45 + 1 := (rwv_of (hr181.but hb186 (by decide)) (by decide)).trans ((if_pos rfl).trans (by omega))
          have hM198 : ∀ s, s < 7 → rwv w184 85 s ≤ rwv w 85 s + 1 := fun s hs => by
            by_cases z : s = 6
            · subst z; omega
            · rw [hM196 s hs z]; omega
          have hO199 : ∀ j, (j < 5 ∨ 7 ≤ j) → j < 140 → rwv w184 86 j = rwv w 86 j := fun j hj hl => (rwv_fr hF187 (by decide)).trans (os126 j hj hl)
          have hl201 : FA w113 ≠ 0 ∨ u45 < 1 := rg127
          have hl202 : rwv w184 86 (5) = rwv w113 86 (5) := rwv_fr hF187 (by decide)
          have hl203 : rwv w184 86 (6) = rwv w113 86 (6) := rwv_fr hF187 (by decide)
          have hN200 : FA w184 ≠ 0 ∨ 1 ≤ u45 ∨ (1 ≤ rwv w184 86 5 ∧ rwv w184 86 5 ≤ 6 ∧ 1 ≤ rwv w184 86 6 ∧ rwv w184 86 6 ≤ 6) := by have q := nw131; omega
          have hX204 : FA w184 ≠ 0 ∨ u45 < 1 := by omega
          have hD205 : FA w184 ≠ 0 ∨ (DATA w → DATA w184) := by
            by_cases z : FA w184 ≠ 0
            · exact Or.inl z
            · exact Or.inr (fun hd => hd.s6 hM196 hK48 hM197 (hX204.resolve_left z) hO199 ((hN200.resolve_left z).resolve_left (by have := hX204.resolve_left z; omega)))
          exact xg_e ⟨w184, ⟨rfl, rfl⟩, xMnv.up (S := [85, 82]) hI115 ((xFr.of (S := [85, 82]) hb182 (by decide)).tr (xFr.of (S := [85, 82]) hb186 (by decide))) (List.forall_mem_cons.mpr ⟨xqu85 (show cpI 7 52 4294967295 (wget w184 85) from ⟨_, (hr181.but hb186 (by decide)), xrb (by omega) (hb175)⟩), List.forall_mem_cons.mpr ⟨xqu82 (show cp82 (wget w184 82) from xmC82 f82_133 f82_135 f82_137 f82_139 f82_141 f82_143 f82_145 f82_147 f82_149 (f82_151 + 1) f82_153 f82_154 f82_155 f82_157 f82_159 f82_161 hk185 hb134 hb136 hb138 hb140 hb142 hb144 hb146 hb148 hb150 (by omega) hb156 hb158 hb160 hb162 (by omega)), fun _ h => absurd h List.not_mem_nil⟩⟩), ((hF71.tr (hF116.up (by decide))).tr ((xFr.of (S := [82, 83, 85, 86, 87]) hb182 (by decide)).tr (xFr.of (S := [82, 83, 85, 86, 87]) hb186 (by decide)))), ⟨fun h => by have := pq195.1 h; omega, (show fld w184 82 10 = 0 ∨ FA w184 ≠ 0 by omega), Or.inr ⟨by have := ms132; omega, by omega, hM198⟩, hD205, pk125.2.2.2.2.tr (K83.fr hF187 (by decide))⟩⟩
        · refine xg_t (xg_icT (u := f82_89) (v := 2) rfl xnm0 xnm0 (xj_neT hc112)) ?_
          refine xg_t (xg_blq rfl) ?_
          refine xg_t (xg_aload (va := (2, 82)) rfl rfl) ?_
          refine xg_cVv mX12_ends (vs := []) (rest := []) (cn1 := 0) (sl1 := 0) rfl (mEnds (hI70) hj73.2.2.2.1) rfl h82_109 rfl rfl rfl rfl rfl rfl (fun w206 hq207 => ?_)
          obtain ⟨hI208, hF209, hx210⟩ := hq207
          clear hb80 hb82 hb84 hb86 hb88 hb90 hb92 hb94 hb96 hb98 hb102 hb104 hb106 hb108
          obtain ⟨hv211, hv212, hv213, hv214, hv215⟩ := hx210
          have pk216 : PK w69 w206 := ⟨fun _ => hv211, by omega, by omega, Or.inr hv211, hv215⟩
          have pk217 : PK w w206 := PK.tr hj73 pk216
          have os218 : ∀ j, (j < 5 ∨ 7 ≤ j) → j < 140 → rwv w206 86 j = rwv w 86 j := fun j hj hl => (rwv_fr hF209 (by decide)).trans (hj74 j hj hl)
          have rg219 : FA w206 ≠ 0 ∨ u45 < 1 := hj77.imp_left pk216.1
          have mf220 : ∀ s, s < 7 → rwv w206 85 s = rwv w 85 s := fun s hs => (rwv_fr hF209 (by decide)).trans (hj76 s hs)
          have hl221 : rwv w206 86 (5) = rwv w69 86 (5) := rwv_fr hF209 (by decide)
          have hl222 : rwv w206 86 (6) = rwv w69 86 (6) := rwv_fr hF209 (by decide)
          have nw223 : FA w206 ≠ 0 ∨ 1 ≤ u45 ∨ (1 ≤ rwv w206 86 5 ∧ rwv w206 86 5 ≤ 6 ∧ 1 ≤ rwv w206 86 6 ∧ rwv w206 86 6 ≤ 6) := by have q := hj78; have q1 := pk216.1; omega
          clear hj78
          have ms224 : mu w206 < mu w := Nat.lt_of_le_of_lt pk216.2.1 hj75
          clear hj77
          refine xg_t (xg_blq rfl) ?_
          refine xoCh82 (xqc82 hI208 : cp82 (wget w206 82)) (fun f82_225 f82_227 f82_229 f82_231 f82_233 f82_235 f82_237 f82_239 f82_241 f82_243 f82_245 f82_246 f82_247 f82_249 f82_251 f82_253 h82_255 hb226 hb228 hb230 hb232 hb234 hb236 hb238 hb240 hb242 hb244 hb248 hb250 hb252 hb254 hb256 => ?_)
          have hf257 : fld w206 82 4 = f82_229 := fld_of h82_255
          have hf258 : fld w206 82 5 = f82_231 := fld_of h82_255
          have hf259 : fld w206 82 7 = f82_235 := fld_of h82_255
          have hf260 : fld w206 82 10 = f82_241 := fld_of h82_255
          have hf261 : fld w206 82 14 = f82_243 := fld_of h82_255
          have hu262 : mu w206 = 2 * (fld w206 82 4 - fld w206 82 5) + min 1 (fld w206 82 7) := rfl
          have hf263 := pk217.2.2.1
          have hl264 : f82_243 ≤ 1000 := by omega
          refine xg_t (xg_aload (va := (2, 82)) rfl rfl) ?_
          refine xg_t (xg_getf (va := (2, 85)) h82_255 rfl) ?_
          refine xg_t (xg_iload (va := (0, 6)) rfl rfl) ?_
          refine xg_t (xg_dup2 rfl) ?_
          refine xoI (xqc85 hI208 : cpI 7 52 4294967295 (wget w206 85)) (fun g85_265 h85_266 hb267 => ?_)
          refine xg_ialdB (n := 6) (B := 4294967295) h85_266 (hb267) xnm0 (by first | decide | omega) (fun u268 hu269 he270 => ?_)
          have hl271 : u268 = u45 := by have q1 := rwv_of h85_266 (show 6 < 7 by decide); have q2 := mf220 6 (by decide); omega
          refine xg_t (xg_const) ?_
          refine xg_t (xg_iadd (u := u268) (v := 1) (z := u268 + 1) xnm0 xnm0 (by omega)) ?_
          refine xg_iastK (n := 6) (u := u268 + 1) h85_266 xnm0 xnm0 rfl (by first | decide | omega) (fun w272 hr273 hb274 => ?_)
          refine xg_t (xg_aload (va := (2, 82)) rfl rfl) ?_
          refine xg_t (xg_dup rfl) ?_
          refine xg_t (xg_getf (va := (0, f82_243)) (hb274.get (by decide) h82_255) rfl) ?_
          have hn275 := id hb244
          unfold xHid at hn275
          refine xg_t (xg_const) ?_
          refine xg_t (xg_iadd (u := f82_243) (v := 1) (z := f82_243 + 1) xnm0 xnm0 (by omega)) ?_
          refine xg_putI (fl1 := [(2, 83), (2, 84), (0, f82_225), (0, f82_227), (0, f82_229), (0, f82_231), (0, f82_233), (0, f82_235), (0, f82_237), (0, f82_239), (0, f82_241), (2, 85), (2, 86), (2, 87), (0, f82_243 + 1), (2, 88), (2, 89), (2, 90), (2, 91), (2, 92), (2, 93), (2, 94), (4, f82_245), (4, f82_246), (0, f82_247), (2, 95), (2, 96), (2, 97), (2, 98), (2, 99), (2, 100), (2, 101), (2, 102), (0, f82_249), (2, 103), (2, 104), (2, 105), (2, 106), (2, 107), (2, 108), (2, 109), (0, f82_251), (0, f82_253), (2, 110), (2, 111), (2, 112), (2, 113)]) (hb274.get (by decide) h82_255) rfl rfl rfl (fun w276 hk277 hb278 => ?_)
          have hF279 : xFr [82, 85] w206 w276 := ((xFr.of (S := [82, 85]) hb274 (by decide)).tr (xFr.of (S := [82, 85]) hb278 (by decide)))
          have hA280 := FA_fr hF279 (by decide)
          have hf281 : fld w276 82 4 = f82_229 := fld_of hk277
          have hf282 : fld w276 82 5 = f82_231 := fld_of hk277
          have hf283 : fld w276 82 7 = f82_235 := fld_of hk277
          have hf284 : fld w276 82 10 = f82_241 := fld_of hk277
          have hf285 : fld w276 82 14 = f82_243 + 1 := fld_of hk277
          have hu286 : mu w276 = 2 * (fld w276 82 4 - fld w276 82 5) + min 1 (fld w276 82 7) := rfl
          have pq287 := pk217
          unfold PK PS at pq287
          have hM288 : ∀ s, s < 7 → s ≠ 6 → rwv w276 85 s = rwv w 85 s := fun s hs hn => (rwv_of (hr273.but hb278 (by decide)) hs).trans ((if_neg hn).trans ((rwv_of h85_266 hs).symm.trans (mf220 s hs)))
          have hM289 : rwv w276 85 6 = u45 + 1 := (rwv_of (hr273.but hb278 (by decide)) (by decide)).trans ((if_pos rfl).trans (by omega))
          have hM290 : ∀ s, s < 7 → rwv w276 85 s ≤ rwv w 85 s + 1 := fun s hs => by
            by_cases z : s = 6
            · subst z; omega
            · rw [hM288 s hs z]; omega
          have hO291 : ∀ j, (j < 5 ∨ 7 ≤ j) → j < 140 → rwv w276 86 j = rwv w 86 j := fun j hj hl => (rwv_fr hF279 (by decide)).trans (os218 j hj hl)
          have hl293 : FA w206 ≠ 0 ∨ u45 < 1 := rg219
          have hl294 : rwv w276 86 (5) = rwv w206 86 (5) := rwv_fr hF279 (by decide)
          have hl295 : rwv w276 86 (6) = rwv w206 86 (6) := rwv_fr hF279 (by decide)
          have hN292 : FA w276 ≠ 0 ∨ 1 ≤ u45 ∨ (1 ≤ rwv w276 86 5 ∧ rwv w276 86 5 ≤ 6 ∧ 1 ≤ rwv w276 86 6 ∧ rwv w276 86 6 ≤ 6) := by have q := nw223; omega
          have hX296 : FA w276 ≠ 0 ∨ u45 < 1 := by omega
          have hD297 : FA w276 ≠ 0 ∨ (DATA w → DATA w276) := by
            by_cases z : FA w276 ≠ 0
            · exact Or.inl z
            · exact Or.inr (fun hd => hd.s6 hM288 hK48 hM289 (hX296.resolve_left z) hO291 ((hN292.resolve_left z).resolve_left (by have := hX296.resolve_left z; omega)))
          exact xg_e ⟨w276, ⟨rfl, rfl⟩, xMnv.up (S := [85, 82]) hI208 ((xFr.of (S := [85, 82]) hb274 (by decide)).tr (xFr.of (S := [85, 82]) hb278 (by decide))) (List.forall_mem_cons.mpr ⟨xqu85 (show cpI 7 52 4294967295 (wget w276 85) from ⟨_, (hr273.but hb278 (by decide)), xrb (by omega) (hb267)⟩), List.forall_mem_cons.mpr ⟨xqu82 (show cp82 (wget w276 82) from xmC82 f82_225 f82_227 f82_229 f82_231 f82_233 f82_235 f82_237 f82_239 f82_241 (f82_243 + 1) f82_245 f82_246 f82_247 f82_249 f82_251 f82_253 hk277 hb226 hb228 hb230 hb232 hb234 hb236 hb238 hb240 hb242 (by omega) hb248 hb250 hb252 hb254 (by omega)), fun _ h => absurd h List.not_mem_nil⟩⟩), ((hF71.tr (hF209.up (by decide))).tr ((xFr.of (S := [82, 83, 85, 86, 87]) hb274 (by decide)).tr (xFr.of (S := [82, 83, 85, 86, 87]) hb278 (by decide)))), ⟨fun h => by have := pq287.1 h; omega, (show fld w276 82 10 = 0 ∨ FA w276 ≠ 0 by omega), Or.inr ⟨by have := ms224; omega, by omega, hM290⟩, hD297, pk217.2.2.2.2.tr (K83.fr hF279 (by decide))⟩⟩
      · refine xg_t (xg_ifT (u := f82_95) rfl xnm0 (xj_neT hc111)) ?_
        refine xg_t (xg_blq rfl) ?_
        refine xg_t (xg_aload (va := (2, 82)) rfl rfl) ?_
        refine xg_cVv mX12_ends (vs := []) (rest := []) (cn1 := 0) (sl1 := 0) rfl (mEnds (hI70) hj73.2.2.2.1) rfl h82_109 rfl rfl rfl rfl rfl rfl (fun w298 hq299 => ?_)
        obtain ⟨hI300, hF301, hx302⟩ := hq299
        clear hb80 hb82 hb84 hb86 hb88 hb90 hb92 hb94 hb96 hb98 hb102 hb104 hb106 hb108
        obtain ⟨hv303, hv304, hv305, hv306, hv307⟩ := hx302
        have pk308 : PK w69 w298 := ⟨fun _ => hv303, by omega, by omega, Or.inr hv303, hv307⟩
        have pk309 : PK w w298 := PK.tr hj73 pk308
        have os310 : ∀ j, (j < 5 ∨ 7 ≤ j) → j < 140 → rwv w298 86 j = rwv w 86 j := fun j hj hl => (rwv_fr hF301 (by decide)).trans (hj74 j hj hl)
        have rg311 : FA w298 ≠ 0 ∨ u45 < 1 := hj77.imp_left pk308.1
        have mf312 : ∀ s, s < 7 → rwv w298 85 s = rwv w 85 s := fun s hs => (rwv_fr hF301 (by decide)).trans (hj76 s hs)
        have hl313 : rwv w298 86 (5) = rwv w69 86 (5) := rwv_fr hF301 (by decide)
        have hl314 : rwv w298 86 (6) = rwv w69 86 (6) := rwv_fr hF301 (by decide)
        have nw315 : FA w298 ≠ 0 ∨ 1 ≤ u45 ∨ (1 ≤ rwv w298 86 5 ∧ rwv w298 86 5 ≤ 6 ∧ 1 ≤ rwv w298 86 6 ∧ rwv w298 86 6 ≤ 6) := by have q := hj78; have q1 := pk308.1; omega
        clear hj78
        have ms316 : mu w298 < mu w := Nat.lt_of_le_of_lt pk308.2.1 hj75
        clear hj77
        refine xg_t (xg_blq rfl) ?_
        refine xoCh82 (xqc82 hI300 : cp82 (wget w298 82)) (fun f82_317 f82_319 f82_321 f82_323 f82_325 f82_327 f82_329 f82_331 f82_333 f82_335 f82_337 f82_338 f82_339 f82_341 f82_343 f82_345 h82_347 hb318 hb320 hb322 hb324 hb326 hb328 hb330 hb332 hb334 hb336 hb340 hb342 hb344 hb346 hb348 => ?_)
        have hf349 : fld w298 82 4 = f82_321 := fld_of h82_347
        have hf350 : fld w298 82 5 = f82_323 := fld_of h82_347
        have hf351 : fld w298 82 7 = f82_327 := fld_of h82_347
        have hf352 : fld w298 82 10 = f82_333 := fld_of h82_347
        have hf353 : fld w298 82 14 = f82_335 := fld_of h82_347
        have hu354 : mu w298 = 2 * (fld w298 82 4 - fld w298 82 5) + min 1 (fld w298 82 7) := rfl
        have hf355 := pk309.2.2.1
        have hl356 : f82_335 ≤ 1000 := by omega
        refine xg_t (xg_aload (va := (2, 82)) rfl rfl) ?_
        refine xg_t (xg_getf (va := (2, 85)) h82_347 rfl) ?_
        refine xg_t (xg_iload (va := (0, 6)) rfl rfl) ?_
        refine xg_t (xg_dup2 rfl) ?_
        refine xoI (xqc85 hI300 : cpI 7 52 4294967295 (wget w298 85)) (fun g85_357 h85_358 hb359 => ?_)
        refine xg_ialdB (n := 6) (B := 4294967295) h85_358 (hb359) xnm0 (by first | decide | omega) (fun u360 hu361 he362 => ?_)
        have hl363 : u360 = u45 := by have q1 := rwv_of h85_358 (show 6 < 7 by decide); have q2 := mf312 6 (by decide); omega
        refine xg_t (xg_const) ?_
        refine xg_t (xg_iadd (u := u360) (v := 1) (z := u360 + 1) xnm0 xnm0 (by omega)) ?_
        refine xg_iastK (n := 6) (u := u360 + 1) h85_358 xnm0 xnm0 rfl (by first | decide | omega) (fun w364 hr365 hb366 => ?_)
        refine xg_t (xg_aload (va := (2, 82)) rfl rfl) ?_
        refine xg_t (xg_dup rfl) ?_
        refine xg_t (xg_getf (va := (0, f82_335)) (hb366.get (by decide) h82_347) rfl) ?_
        have hn367 := id hb336
        unfold xHid at hn367
        refine xg_t (xg_const) ?_
        refine xg_t (xg_iadd (u := f82_335) (v := 1) (z := f82_335 + 1) xnm0 xnm0 (by omega)) ?_
        refine xg_putI (fl1 := [(2, 83), (2, 84), (0, f82_317), (0, f82_319), (0, f82_321), (0, f82_323), (0, f82_325), (0, f82_327), (0, f82_329), (0, f82_331), (0, f82_333), (2, 85), (2, 86), (2, 87), (0, f82_335 + 1), (2, 88), (2, 89), (2, 90), (2, 91), (2, 92), (2, 93), (2, 94), (4, f82_337), (4, f82_338), (0, f82_339), (2, 95), (2, 96), (2, 97), (2, 98), (2, 99), (2, 100), (2, 101), (2, 102), (0, f82_341), (2, 103), (2, 104), (2, 105), (2, 106), (2, 107), (2, 108), (2, 109), (0, f82_343), (0, f82_345), (2, 110), (2, 111), (2, 112), (2, 113)]) (hb366.get (by decide) h82_347) rfl rfl rfl (fun w368 hk369 hb370 => ?_)
        have hF371 : xFr [82, 85] w298 w368 := ((xFr.of (S := [82, 85]) hb366 (by decide)).tr (xFr.of (S := [82, 85]) hb370 (by decide)))
        have hA372 := FA_fr hF371 (by decide)
        have hf373 : fld w368 82 4 = f82_321 := fld_of hk369
        have hf374 : fld w368 82 5 = f82_323 := fld_of hk369
        have hf375 : fld w368 82 7 = f82_327 := fld_of hk369
        have hf376 : fld w368 82 10 = f82_333 := fld_of hk369
        have hf377 : fld w368 82 14 = f82_335 + 1 := fld_of hk369
        have hu378 : mu w368 = 2 * (fld w368 82 4 - fld w368 82 5) + min 1 (fld w368 82 7) := rfl
        have pq379 := pk309
        unfold PK PS at pq379
        have hM380 : ∀ s, s < 7 → s ≠ 6 → rwv w368 85 s = rwv w 85 s := fun s hs hn => (rwv_of (hr365.but hb370 (by decide)) hs).trans ((if_neg hn).trans ((rwv_of h85_358 hs).symm.trans (mf312 s hs)))
        have hM381 : rwv w368 85 6 = u45 + 1 := (rwv_of (hr365.but hb370 (by decide)) (by decide)).trans ((if_pos rfl).trans (by omega))
        have hM382 : ∀ s, s < 7 → rwv w368 85 s ≤ rwv w 85 s + 1 := fun s hs => by
          by_cases z : s = 6
          · subst z; omega
          · rw [hM380 s hs z]; omega
        have hO383 : ∀ j, (j < 5 ∨ 7 ≤ j) → j < 140 → rwv w368 86 j = rwv w 86 j := fun j hj hl => (rwv_fr hF371 (by decide)).trans (os310 j hj hl)
        have hl385 : FA w298 ≠ 0 ∨ u45 < 1 := rg311
        have hl386 : rwv w368 86 (5) = rwv w298 86 (5) := rwv_fr hF371 (by decide)
        have hl387 : rwv w368 86 (6) = rwv w298 86 (6) := rwv_fr hF371 (by decide)
        have hN384 : FA w368 ≠ 0 ∨ 1 ≤ u45 ∨ (1 ≤ rwv w368 86 5 ∧ rwv w368 86 5 ≤ 6 ∧ 1 ≤ rwv w368 86 6 ∧ rwv w368 86 6 ≤ 6) := by have q := nw315; omega
        have hX388 : FA w368 ≠ 0 ∨ u45 < 1 := by omega
        have hD389 : FA w368 ≠ 0 ∨ (DATA w → DATA w368) := by
          by_cases z : FA w368 ≠ 0
          · exact Or.inl z
          · exact Or.inr (fun hd => hd.s6 hM380 hK48 hM381 (hX388.resolve_left z) hO383 ((hN384.resolve_left z).resolve_left (by have := hX388.resolve_left z; omega)))
        exact xg_e ⟨w368, ⟨rfl, rfl⟩, xMnv.up (S := [85, 82]) hI300 ((xFr.of (S := [85, 82]) hb366 (by decide)).tr (xFr.of (S := [85, 82]) hb370 (by decide))) (List.forall_mem_cons.mpr ⟨xqu85 (show cpI 7 52 4294967295 (wget w368 85) from ⟨_, (hr365.but hb370 (by decide)), xrb (by omega) (hb359)⟩), List.forall_mem_cons.mpr ⟨xqu82 (show cp82 (wget w368 82) from xmC82 f82_317 f82_319 f82_321 f82_323 f82_325 f82_327 f82_329 f82_331 f82_333 (f82_335 + 1) f82_337 f82_338 f82_339 f82_341 f82_343 f82_345 hk369 hb318 hb320 hb322 hb324 hb326 hb328 hb330 hb332 hb334 (by omega) hb340 hb342 hb344 hb346 (by omega)), fun _ h => absurd h List.not_mem_nil⟩⟩), ((hF71.tr (hF301.up (by decide))).tr ((xFr.of (S := [82, 83, 85, 86, 87]) hb366 (by decide)).tr (xFr.of (S := [82, 83, 85, 86, 87]) hb370 (by decide)))), ⟨fun h => by have := pq379.1 h; omega, (show fld w368 82 10 = 0 ∨ FA w368 ≠ 0 by omega), Or.inr ⟨by have := ms316; omega, by omega, hM382⟩, hD389, pk309.2.2.2.2.tr (K83.fr hF371 (by decide))⟩⟩
    refine xg_t (xg_iload (va := (0, 6)) rfl rfl) ?_
    refine xg_t (xg_swt (ks := [(0, 108), (1, 116), (2, 180), (3, 221), (4, 273), (5, 326)]) (u := 6) (z := 362) rfl rfl rfl xnm0 (xsw_n (by omega) (xsw_n (by omega) (xsw_n (by omega) (xsw_n (by omega) (xsw_n (by omega) (xsw_n (by omega) (xsw_d)))))))) ?_
    refine xg_t (xg_blq rfl) ?_
    refine xg_t (xg_const) ?_
    refine xg_t (xg_istore (l1 := [(3, (0, u45)), (2, (0, at_)), (1, (0, 6)), (0, (2, 82))]) rfl rfl rfl) ?_
    refine xg_t (xg_blq rfl) ?_
    refine xg_t (xg_iload (va := (0, 0)) rfl rfl) ?_
    refine xg_t (xg_const) ?_
    refine xg_t (xg_icF (u := 0) (v := 2) rfl xnm0 xnm0 (by decide)) ?_
    refine xg_t (xg_aload (va := (2, 82)) rfl rfl) ?_
    refine xg_t (xg_iload (va := (0, 6)) rfl rfl) ?_
    refine xg_t (xg_iload (va := (0, u45)) rfl rfl) ?_
    refine xg_t (xg_const) ?_
    refine xg_t (xg_iload (va := (0, 0)) rfl rfl) ?_
    refine xg_t (xg_iadd (u := 5) (v := 0) (z := 5) xnm0 xnm0 (by decide)) ?_
    refine xg_t (xg_aload (va := (2, 82)) rfl rfl) ?_
    refine xg_t (xg_const) ?_
    refine xg_t (xg_bip) ?_
    refine xoCh82 (xqc82 hI54 : cp82 (wget w52 82)) (fun f82_390 f82_392 f82_394 f82_396 f82_398 f82_400 f82_402 f82_404 f82_406 f82_408 f82_410 f82_411 f82_412 f82_414 f82_416 f82_418 h82_420 hb391 hb393 hb395 hb397 hb399 hb401 hb403 hb405 hb407 hb409 hb413 hb415 hb417 hb419 hb421 => ?_)
    refine xg_cVi mX12_numbered (vs := [(0, 1), (0, 6)]) (rest := [(0, 5), (0, u45), (0, 6), (2, 82)]) (cn1 := 0) (sl1 := 0) rfl (mNumbered (hI54) (by omega) (by omega) pk64.2.2.2.1) rfl h82_420 rfl rfl rfl rfl rfl rfl (fun n426 w422 hq423 => ?_)
    obtain ⟨hn427, hI424, hF425⟩ := hq423
    clear hb391 hb393 hb395 hb397 hb399 hb401 hb403 hb405 hb407 hb409 hb413 hb415 hb417 hb419
    obtain ⟨hn428, hn429, hn430⟩ := hn427
    have pk431 : PK w w422 := PK.tr pk64 hn429
    have os432 : ∀ j, (j < 5 ∨ 7 ≤ j) → j < 140 → rwv w422 86 j = rwv w 86 j := fun j hj hl => (rwv_fr hF425 (by decide)).trans (os65 j hj hl)
    have mf433 : ∀ s, s < 7 → rwv w422 85 s = rwv w 85 s := fun s hs => (rwv_fr hF425 (by decide)).trans (mf66 s hs)
    have ms434 : mu w422 < mu w := Nat.lt_of_le_of_lt hn429.2.1 ms67
    refine xoCh82 (xqc82 hI424 : cp82 (wget w422 82)) (fun f82_435 f82_437 f82_439 f82_441 f82_443 f82_445 f82_447 f82_449 f82_451 f82_453 f82_455 f82_456 f82_457 f82_459 f82_461 f82_463 h82_465 hb436 hb438 hb440 hb442 hb444 hb446 hb448 hb450 hb452 hb454 hb458 hb460 hb462 hb464 hb466 => ?_)
    refine xg_cVv mX12_puts (vs := [(0, 6), (0, u45), (0, 5), (0, n426)]) (rest := []) (cn1 := 0) (sl1 := 0) rfl (mPuts6 (hI424) (by omega) (by omega) (by omega) (fun _ => by omega)) rfl h82_465 rfl rfl rfl rfl rfl rfl (fun w467 hq468 => ?_)
    obtain ⟨hI469, hF470, hx471⟩ := hq468
    obtain ⟨hp472, hp473⟩ := hx471
    have pk474 : PK w w467 := PK.tr pk431 (PK.fr hF470 (by decide) (by decide) pk431.2.2.2.1)
    have os475 : ∀ j, (j < 5 ∨ 7 ≤ j) → j < 140 → rwv w467 86 j = rwv w 86 j := fun j hj hl => (hp473 j (by omega) hl).trans (os432 j hj hl)
    have rg476 : FA w467 ≠ 0 ∨ (1 ≤ n426 ∧ n426 ≤ 6) := hn430.imp_left (PK.fr hF470 (by decide) (by decide) pk431.2.2.2.1).1
    have mf477 : ∀ s, s < 7 → rwv w467 85 s = rwv w 85 s := fun s hs => (rwv_fr hF470 (by decide)).trans (mf433 s hs)
    have ms478 : mu w467 < mu w := Nat.lt_of_le_of_lt (PK.fr hF470 (by decide) (by decide) pk431.2.2.2.1).2.1 ms434
    clear hn430
    refine xg_t (xg_iinc (u := 0) (z := 1) (l1 := [(3, (0, u45)), (2, (0, at_)), (1, (0, 6)), (0, (2, 82))]) rfl rfl (by decide) rfl) ?_
    refine xg_t (xg_goto) ?_
    refine xg_t (xg_blq rfl) ?_
    refine xg_t (xg_iload (va := (0, 1)) rfl rfl) ?_
    refine xg_t (xg_const) ?_
    refine xg_t (xg_icF (u := 1) (v := 2) rfl xnm0 xnm0 (by decide)) ?_
    refine xg_t (xg_aload (va := (2, 82)) rfl rfl) ?_
    refine xg_t (xg_iload (va := (0, 6)) rfl rfl) ?_
    refine xg_t (xg_iload (va := (0, u45)) rfl rfl) ?_
    refine xg_t (xg_const) ?_
    refine xg_t (xg_iload (va := (0, 1)) rfl rfl) ?_
    refine xg_t (xg_iadd (u := 5) (v := 1) (z := 6) xnm0 xnm0 (by decide)) ?_
    refine xg_t (xg_aload (va := (2, 82)) rfl rfl) ?_
    refine xg_t (xg_const) ?_
    refine xg_t (xg_bip) ?_
    refine xg_cVi mX12_numbered (vs := [(0, 1), (0, 6)]) (rest := [(0, 6), (0, u45), (0, 6), (2, 82)]) (cn1 := 0) (sl1 := 0) rfl (mNumbered (hI469) (by omega) (by omega) pk474.2.2.2.1) rfl (hF470.get (by decide) h82_465) rfl rfl rfl rfl rfl rfl (fun n483 w479 hq480 => ?_)
    obtain ⟨hn484, hI481, hF482⟩ := hq480
    clear hb436 hb438 hb440 hb442 hb444 hb446 hb448 hb450 hb452 hb454 hb458 hb460 hb462 hb464
    obtain ⟨hn485, hn486, hn487⟩ := hn484
    have pk488 : PK w w479 := PK.tr pk474 hn486
    have os489 : ∀ j, (j < 5 ∨ 7 ≤ j) → j < 140 → rwv w479 86 j = rwv w 86 j := fun j hj hl => (rwv_fr hF482 (by decide)).trans (os475 j hj hl)
    have ix490 : u45 < 1 → rwv w479 86 (5) = n426 := fun h => (rwv_fr hF482 (by decide)).trans (hp472 h)
    have rg491 : FA w479 ≠ 0 ∨ (1 ≤ n426 ∧ n426 ≤ 6) := rg476.imp_left hn486.1
    have mf492 : ∀ s, s < 7 → rwv w479 85 s = rwv w 85 s := fun s hs => (rwv_fr hF482 (by decide)).trans (mf477 s hs)
    have ms493 : mu w479 < mu w := Nat.lt_of_le_of_lt hn486.2.1 ms478
    clear hp472 rg476
    refine xoCh82 (xqc82 hI481 : cp82 (wget w479 82)) (fun f82_494 f82_496 f82_498 f82_500 f82_502 f82_504 f82_506 f82_508 f82_510 f82_512 f82_514 f82_515 f82_516 f82_518 f82_520 f82_522 h82_524 hb495 hb497 hb499 hb501 hb503 hb505 hb507 hb509 hb511 hb513 hb517 hb519 hb521 hb523 hb525 => ?_)
    refine xg_cVv mX12_puts (vs := [(0, 6), (0, u45), (0, 6), (0, n483)]) (rest := []) (cn1 := 0) (sl1 := 0) rfl (mPuts6 (hI481) (by omega) (by omega) (by omega) (fun _ => by omega)) rfl h82_524 rfl rfl rfl rfl rfl rfl (fun w526 hq527 => ?_)
    obtain ⟨hI528, hF529, hx530⟩ := hq527
    obtain ⟨hp531, hp532⟩ := hx530
    have pk533 : PK w w526 := PK.tr pk488 (PK.fr hF529 (by decide) (by decide) pk488.2.2.2.1)
    have os534 : ∀ j, (j < 5 ∨ 7 ≤ j) → j < 140 → rwv w526 86 j = rwv w 86 j := fun j hj hl => (hp532 j (by omega) hl).trans (os489 j hj hl)
    have ix535 : u45 < 1 → rwv w526 86 (5) = n426 := fun h => (hp532 _ (by omega) (by omega)).trans (ix490 h)
    have rg536 : FA w526 ≠ 0 ∨ (1 ≤ n426 ∧ n426 ≤ 6) := rg491.imp_left (PK.fr hF529 (by decide) (by decide) pk488.2.2.2.1).1
    have rg537 : FA w526 ≠ 0 ∨ (1 ≤ n483 ∧ n483 ≤ 6) := hn487.imp_left (PK.fr hF529 (by decide) (by decide) pk488.2.2.2.1).1
    have mf538 : ∀ s, s < 7 → rwv w526 85 s = rwv w 85 s := fun s hs => (rwv_fr hF529 (by decide)).trans (mf492 s hs)
    have ms539 : mu w526 < mu w := Nat.lt_of_le_of_lt (PK.fr hF529 (by decide) (by decide) pk488.2.2.2.1).2.1 ms493
    clear ix490 rg491 hn487
    refine xg_t (xg_iinc (u := 1) (z := 2) (l1 := [(3, (0, u45)), (2, (0, at_)), (1, (0, 6)), (0, (2, 82))]) rfl rfl (by decide) rfl) ?_
    refine xg_t (xg_goto) ?_
    refine xg_t (xg_blq rfl) ?_
    refine xg_t (xg_iload (va := (0, 2)) rfl rfl) ?_
    refine xg_t (xg_const) ?_
    refine xg_t (xg_icT (u := 2) (v := 2) rfl xnm0 xnm0 (by decide)) ?_
    refine xg_t (xg_drop (l1 := [(0, (2, 82)), (1, (0, 6)), (3, (0, u45))]) (List.forall_mem_cons.mpr ⟨List.mem_cons_of_mem _ (List.mem_cons_of_mem _ (List.mem_cons_of_mem _ (List.mem_cons_of_mem _ (List.mem_cons_self)))), List.forall_mem_cons.mpr ⟨List.mem_cons_of_mem _ (List.mem_cons_of_mem _ (List.mem_cons_of_mem _ (List.mem_cons_self))), List.forall_mem_cons.mpr ⟨List.mem_cons_of_mem _ (List.mem_cons_self), fun _ h => absurd h List.not_mem_nil⟩⟩⟩)) ?_
    have hX540 : FA w526 ≠ 0 ∨ u45 < 1 := Or.inr (by omega)
    have hN541 : FA w526 ≠ 0 ∨ 1 ≤ u45 ∨ (1 ≤ rwv w526 86 5 ∧ rwv w526 86 5 ≤ 6 ∧ 1 ≤ rwv w526 86 6 ∧ rwv w526 86 6 ≤ 6) := by
      have hl542 : u45 < 1 → rwv w526 86 (5) = n426 := ix535
      have hl543 : u45 < 1 → rwv w526 86 (6) = n483 := hp531
      have hl544 := rg536
      have hl545 := rg537
      omega
    exact jn68 w526 (hI528) ((((((hF55.up (by decide)).tr (hF425.up (by decide))).tr (hF470.up (by decide))).tr (hF482.up (by decide))).tr (hF529.up (by decide)))) (⟨pk533, os534, ms539, mf538, hX540, hN541⟩)
  · refine xg_t (xg_icF (u := u45) (v := 1) rfl xnm0 xnm0 (xj_ltF (by omega) (by omega))) ?_
    refine xg_t (xg_aload (va := (2, 82)) rfl rfl) ?_
    refine xg_t (xg_const) ?_
    refine xg_t (xg_iload (va := (0, at_)) rfl rfl) ?_
    refine xg_cVv mX12_also (vs := [(0, 3), (0, at_)]) (rest := []) (cn1 := 0) (sl1 := 0) rfl (mAlso (hI) (by omega) (by omega) (by omega) (PK.rf hps).2.2.2.1) rfl h82_31 rfl rfl rfl rfl rfl rfl (fun w546 hq547 => ?_)
    obtain ⟨hI548, hF549, hx550⟩ := hq547
    obtain ⟨hv552, hv553⟩ := hx550
    have pk551 : PK w w546 := ⟨fun _ => hv552, Nat.le_of_eq (mu_fr hF549 (by decide)), fld_fr hF549 (by decide), Or.inr hv552, hv553⟩
    have pk554 : PK w w546 := PK.tr (PK.rf hps) pk551
    have os555 : ∀ j, (j < 5 ∨ 7 ≤ j) → j < 140 → rwv w546 86 j = rwv w 86 j := fun j hj hl => (rwv_fr hF549 (by decide)).trans ((fun j _ _ => rfl) j hj hl)
    have mf556 : ∀ s, s < 7 → rwv w546 85 s = rwv w 85 s := fun s hs => (rwv_fr hF549 (by decide)).trans ((fun _ _ => rfl) s hs)
    have hf557 := fld_fr (c := 82) (j := 7) hF549 (by decide)
    refine xg_t (xg_blq rfl) ?_
    refine xg_t (xg_aload (va := (2, 82)) rfl rfl) ?_
    refine xg_cVv mX12_advance (vs := []) (rest := []) (cn1 := 0) (sl1 := 0) rfl (mAdvance (hI548)) rfl (hF549.get (by decide) h82_31) rfl rfl rfl rfl rfl rfl (fun w558 hq559 => ?_)
    obtain ⟨hI560, hF561, hx562⟩ := hq559
    clear hb2 hb4 hb6 hb8 hb10 hb12 hb14 hb16 hb18 hb20 hb24 hb26 hb28 hb30
    obtain ⟨hv563, hv564, hv565, hv566⟩ := hx562
    have hf568 := FA_fr hF561 (by decide)
    have hs569 := pk554.2.2.2.1
    unfold PS at hs569
    have pk567 : PK w546 w558 := ⟨fun _ => by omega, hv563, hv566, (show fld w558 82 10 = 0 ∨ FA w558 ≠ 0 by omega), K83.fr hF561 (by decide)⟩
    clear hs569
    have pk570 : PK w w558 := PK.tr pk554 pk567
    have os571 : ∀ j, (j < 5 ∨ 7 ≤ j) → j < 140 → rwv w558 86 j = rwv w 86 j := fun j hj hl => (rwv_fr hF561 (by decide)).trans (os555 j hj hl)
    have rg572 : FA w558 ≠ 0 ∨ 0 = 1 := (Or.inl hv552 : FA w546 ≠ 0 ∨ 0 = 1).imp_left pk567.1
    have mf573 : ∀ s, s < 7 → rwv w558 85 s = rwv w 85 s := fun s hs => (rwv_fr hF561 (by decide)).trans (mf556 s hs)
    have ms574 : mu w558 < mu w := Nat.lt_of_lt_of_le (hv564 (by omega)) pk554.2.1
    clear hv564
    have jn575 : ∀ (w576 : List (List xE)), xMnv w576 → xFr [82, 83, 85, 86, 87] w w576 → (PK w w576 ∧ (∀ j, (j < 5 ∨ 7 ≤ j) → j < 140 → rwv w576 86 j = rwv w 86 j) ∧ mu w576 < mu w ∧ (∀ s, s < 7 → rwv w576 85 s = rwv w 85 s) ∧ (FA w576 ≠ 0 ∨ u45 < 1) ∧ (FA w576 ≠ 0 ∨ 1 ≤ u45 ∨ (1 ≤ rwv w576 86 5 ∧ rwv w576 86 5 ≤ 6 ∧ 1 ≤ rwv w576 86 6 ∧ rwv w576 86 6 ≤ 6))) → xTo (d + 7) mX12_aLine (394, [], [(0, (2, 82)), (1, (0, 6)), (3, (0, u45))], [], (w576, bd, fc, 0, 0, rr)) (fun φ => ∃ w', xEnd 0 [] (w', bd, fc, 0, 0, rr) φ ∧ xMnv w' ∧ xFr [82, 83, 85, 86, 87] w w' ∧ ((FA w ≠ 0 → FA w' ≠ 0) ∧ PS w' ∧ ((fld w' 82 10 = 1 ∧ mu w' = mu w ∧ fld w' 82 14 = fld w 82 14 ∧ ∀ s, s < 7 → rwv w' 85 s = rwv w 85 s) ∨ (mu w' < mu w ∧ fld w' 82 14 = fld w 82 14 + 1 ∧ ∀ s, s < 7 → rwv w' 85 s ≤ rwv w 85 s + 1)) ∧ (FA w' ≠ 0 ∨ (DATA w → DATA w')) ∧ K83 w w')) := by
      intro w576 hI577 hF578 he579
      obtain ⟨hj580, hj581, hj582, hj583, hj584, hj585⟩ := he579
      refine xg_t (xg_blq rfl) ?_
      refine xg_t (xg_aload (va := (2, 82)) rfl rfl) ?_
      refine xoCh82 (xqc82 hI577 : cp82 (wget w576 82)) (fun f82_586 f82_588 f82_590 f82_592 f82_594 f82_596 f82_598 f82_600 f82_602 f82_604 f82_606 f82_607 f82_608 f82_610 f82_612 f82_614 h82_616 hb587 hb589 hb591 hb593 hb595 hb597 hb599 hb601 hb603 hb605 hb609 hb611 hb613 hb615 hb617 => ?_)
      refine xg_t (xg_getf (va := (0, f82_602)) h82_616 rfl) ?_
      by_cases hc618 : f82_602 = 0
      · refine xg_t (xg_ifF (u := f82_602) rfl xnm0 (xj_neF hc618)) ?_
        refine xg_t (xg_aload (va := (2, 82)) rfl rfl) ?_
        refine xg_t (xg_getf (va := (0, f82_596)) h82_616 rfl) ?_
        refine xg_t (xg_const) ?_
        by_cases hc619 : f82_596 = 2
        · refine xg_t (xg_icF (u := f82_596) (v := 2) rfl xnm0 xnm0 (xj_neF hc619)) ?_
          refine xg_t (xg_aload (va := (2, 82)) rfl rfl) ?_
          refine xg_cVv mX12_advance (vs := []) (rest := []) (cn1 := 0) (sl1 := 0) rfl (mAdvance (hI577)) rfl h82_616 rfl rfl rfl rfl rfl rfl (fun w620 hq621 => ?_)
          obtain ⟨hI622, hF623, hx624⟩ := hq621
          clear hb587 hb589 hb591 hb593 hb595 hb597 hb599 hb601 hb603 hb605 hb609 hb611 hb613 hb615
          obtain ⟨hv625, hv626, hv627, hv628⟩ := hx624
          have hf630 := FA_fr hF623 (by decide)
          have hs631 := hj580.2.2.2.1
          unfold PS at hs631
          have pk629 : PK w576 w620 := ⟨fun _ => by omega, hv625, hv628, (show fld w620 82 10 = 0 ∨ FA w620 ≠ 0 by omega), K83.fr hF623 (by decide)⟩
          clear hs631
          clear hv626
          have pk632 : PK w w620 := PK.tr hj580 pk629
          have os633 : ∀ j, (j < 5 ∨ 7 ≤ j) → j < 140 → rwv w620 86 j = rwv w 86 j := fun j hj hl => (rwv_fr hF623 (by decide)).trans (hj581 j hj hl)
          have rg634 : FA w620 ≠ 0 ∨ u45 < 1 := hj584.imp_left pk629.1
          have mf635 : ∀ s, s < 7 → rwv w620 85 s = rwv w 85 s := fun s hs => (rwv_fr hF623 (by decide)).trans (hj583 s hs)
          have hl636 : rwv w620 86 (5) = rwv w576 86 (5) := rwv_fr hF623 (by decide)
          have hl637 : rwv w620 86 (6) = rwv w576 86 (6) := rwv_fr hF623 (by decide)
          have nw638 : FA w620 ≠ 0 ∨ 1 ≤ u45 ∨ (1 ≤ rwv w620 86 5 ∧ rwv w620 86 5 ≤ 6 ∧ 1 ≤ rwv w620 86 6 ∧ rwv w620 86 6 ≤ 6) := by have q := hj585; have q1 := pk629.1; omega
          clear hj585
          have ms639 : mu w620 < mu w := Nat.lt_of_le_of_lt pk629.2.1 hj582
          clear hj584
          refine xg_t (xg_goto) ?_
          refine xg_t (xg_blq rfl) ?_
          refine xoCh82 (xqc82 hI622 : cp82 (wget w620 82)) (fun f82_640 f82_642 f82_644 f82_646 f82_648 f82_650 f82_652 f82_654 f82_656 f82_658 f82_660 f82_661 f82_662 f82_664 f82_666 f82_668 h82_670 hb641 hb643 hb645 hb647 hb649 hb651 hb653 hb655 hb657 hb659 hb663 hb665 hb667 hb669 hb671 => ?_)
          have hf672 : fld w620 82 4 = f82_644 := fld_of h82_670
          have hf673 : fld w620 82 5 = f82_646 := fld_of h82_670
          have hf674 : fld w620 82 7 = f82_650 := fld_of h82_670
          have hf675 : fld w620 82 10 = f82_656 := fld_of h82_670
          have hf676 : fld w620 82 14 = f82_658 := fld_of h82_670
          have hu677 : mu w620 = 2 * (fld w620 82 4 - fld w620 82 5) + min 1 (fld w620 82 7) := rfl
          have hf678 := pk632.2.2.1
          have hl679 : f82_658 ≤ 1000 := by omega
          refine xg_t (xg_aload (va := (2, 82)) rfl rfl) ?_
          refine xg_t (xg_getf (va := (2, 85)) h82_670 rfl) ?_
          refine xg_t (xg_iload (va := (0, 6)) rfl rfl) ?_
          refine xg_t (xg_dup2 rfl) ?_
          refine xoI (xqc85 hI622 : cpI 7 52 4294967295 (wget w620 85)) (fun g85_680 h85_681 hb682 => ?_)
          refine xg_ialdB (n := 6) (B := 4294967295) h85_681 (hb682) xnm0 (by first | decide | omega) (fun u683 hu684 he685 => ?_)
          have hl686 : u683 = u45 := by have q1 := rwv_of h85_681 (show 6 < 7 by decide); have q2 := mf635 6 (by decide); omega
          refine xg_t (xg_const) ?_
          refine xg_t (xg_iadd (u := u683) (v := 1) (z := u683 + 1) xnm0 xnm0 (by omega)) ?_
          refine xg_iastK (n := 6) (u := u683 + 1) h85_681 xnm0 xnm0 rfl (by first | decide | omega) (fun w687 hr688 hb689 => ?_)
          refine xg_t (xg_aload (va := (2, 82)) rfl rfl) ?_
          refine xg_t (xg_dup rfl) ?_
          refine xg_t (xg_getf (va := (0, f82_658)) (hb689.get (by decide) h82_670) rfl) ?_
          have hn690 := id hb659
          unfold xHid at hn690
          refine xg_t (xg_const) ?_
          refine xg_t (xg_iadd (u := f82_658) (v := 1) (z := f82_658 + 1) xnm0 xnm0 (by omega)) ?_
          refine xg_putI (fl1 := [(2, 83), (2, 84), (0, f82_640), (0, f82_642), (0, f82_644), (0, f82_646), (0, f82_648), (0, f82_650), (0, f82_652), (0, f82_654), (0, f82_656), (2, 85), (2, 86), (2, 87), (0, f82_658 + 1), (2, 88), (2, 89), (2, 90), (2, 91), (2, 92), (2, 93), (2, 94), (4, f82_660), (4, f82_661), (0, f82_662), (2, 95), (2, 96), (2, 97), (2, 98), (2, 99), (2, 100), (2, 101), (2, 102), (0, f82_664), (2, 103), (2, 104), (2, 105), (2, 106), (2, 107), (2, 108), (2, 109), (0, f82_666), (0, f82_668), (2, 110), (2, 111), (2, 112), (2, 113)]) (hb689.get (by decide) h82_670) rfl rfl rfl (fun w691 hk692 hb693 => ?_)
          have hF694 : xFr [82, 85] w620 w691 := ((xFr.of (S := [82, 85]) hb689 (by decide)).tr (xFr.of (S := [82, 85]) hb693 (by decide)))
          have hA695 := FA_fr hF694 (by decide)
          have hf696 : fld w691 82 4 = f82_644 := fld_of hk692
          have hf697 : fld w691 82 5 = f82_646 := fld_of hk692
          have hf698 : fld w691 82 7 = f82_650 := fld_of hk692
          have hf699 : fld w691 82 10 = f82_656 := fld_of hk692
          have hf700 : fld w691 82 14 = f82_658 + 1 := fld_of hk692
          have hu701 : mu w691 = 2 * (fld w691 82 4 - fld w691 82 5) + min 1 (fld w691 82 7) := rfl
          have pq702 := pk632
          unfold PK PS at pq702
          have hM703 : ∀ s, s < 7 → s ≠ 6 → rwv w691 85 s = rwv w 85 s := fun s hs hn => (rwv_of (hr688.but hb693 (by decide)) hs).trans ((if_neg hn).trans ((rwv_of h85_681 hs).symm.trans (mf635 s hs)))
          have hM704 : rwv w691 85 6 = u45 + 1 := (rwv_of (hr688.but hb693 (by decide)) (by decide)).trans ((if_pos rfl).trans (by omega))
          have hM705 : ∀ s, s < 7 → rwv w691 85 s ≤ rwv w 85 s + 1 := fun s hs => by
            by_cases z : s = 6
            · subst z; omega
            · rw [hM703 s hs z]; omega
          have hO706 : ∀ j, (j < 5 ∨ 7 ≤ j) → j < 140 → rwv w691 86 j = rwv w 86 j := fun j hj hl => (rwv_fr hF694 (by decide)).trans (os633 j hj hl)
          have hl708 : FA w620 ≠ 0 ∨ u45 < 1 := rg634
          have hl709 : rwv w691 86 (5) = rwv w620 86 (5) := rwv_fr hF694 (by decide)
          have hl710 : rwv w691 86 (6) = rwv w620 86 (6) := rwv_fr hF694 (by decide)
          have hN707 : FA w691 ≠ 0 ∨ 1 ≤ u45 ∨ (1 ≤ rwv w691 86 5 ∧ rwv w691 86 5 ≤ 6 ∧ 1 ≤ rwv w691 86 6 ∧ rwv w691 86 6 ≤ 6) := by have q := nw638; omega
          have hX711 : FA w691 ≠ 0 ∨ u45 < 1 := by omega
          have hD712 : FA w691 ≠ 0 ∨ (DATA w → DATA w691) := by
            by_cases z : FA w691 ≠ 0
            · exact Or.inl z
            · exact Or.inr (fun hd => hd.s6 hM703 hK48 hM704 (hX711.resolve_left z) hO706 ((hN707.resolve_left z).resolve_left (by have := hX711.resolve_left z; omega)))
          exact xg_e ⟨w691, ⟨rfl, rfl⟩, xMnv.up (S := [85, 82]) hI622 ((xFr.of (S := [85, 82]) hb689 (by decide)).tr (xFr.of (S := [85, 82]) hb693 (by decide))) (List.forall_mem_cons.mpr ⟨xqu85 (show cpI 7 52 4294967295 (wget w691 85) from ⟨_, (hr688.but hb693 (by decide)), xrb (by omega) (hb682)⟩), List.forall_mem_cons.mpr ⟨xqu82 (show cp82 (wget w691 82) from xmC82 f82_640 f82_642 f82_644 f82_646 f82_648 f82_650 f82_652 f82_654 f82_656 (f82_658 + 1) f82_660 f82_661 f82_662 f82_664 f82_666 f82_668 hk692 hb641 hb643 hb645 hb647 hb649 hb651 hb653 hb655 hb657 (by omega) hb663 hb665 hb667 hb669 (by omega)), fun _ h => absurd h List.not_mem_nil⟩⟩), ((hF578.tr (hF623.up (by decide))).tr ((xFr.of (S := [82, 83, 85, 86, 87]) hb689 (by decide)).tr (xFr.of (S := [82, 83, 85, 86, 87]) hb693 (by decide)))), ⟨fun h => by have := pq702.1 h; omega, (show fld w691 82 10 = 0 ∨ FA w691 ≠ 0 by omega), Or.inr ⟨by have := ms639; omega, by omega, hM705⟩, hD712, pk632.2.2.2.2.tr (K83.fr hF694 (by decide))⟩⟩
        · refine xg_t (xg_icT (u := f82_596) (v := 2) rfl xnm0 xnm0 (xj_neT hc619)) ?_
          refine xg_t (xg_blq rfl) ?_
          refine xg_t (xg_aload (va := (2, 82)) rfl rfl) ?_
          refine xg_cVv mX12_ends (vs := []) (rest := []) (cn1 := 0) (sl1 := 0) rfl (mEnds (hI577) hj580.2.2.2.1) rfl h82_616 rfl rfl rfl rfl rfl rfl (fun w713 hq714 => ?_)
          obtain ⟨hI715, hF716, hx717⟩ := hq714
          clear hb587 hb589 hb591 hb593 hb595 hb597 hb599 hb601 hb603 hb605 hb609 hb611 hb613 hb615
          obtain ⟨hv718, hv719, hv720, hv721, hv722⟩ := hx717
          have pk723 : PK w576 w713 := ⟨fun _ => hv718, by omega, by omega, Or.inr hv718, hv722⟩
          have pk724 : PK w w713 := PK.tr hj580 pk723
          have os725 : ∀ j, (j < 5 ∨ 7 ≤ j) → j < 140 → rwv w713 86 j = rwv w 86 j := fun j hj hl => (rwv_fr hF716 (by decide)).trans (hj581 j hj hl)
          have rg726 : FA w713 ≠ 0 ∨ u45 < 1 := hj584.imp_left pk723.1
          have mf727 : ∀ s, s < 7 → rwv w713 85 s = rwv w 85 s := fun s hs => (rwv_fr hF716 (by decide)).trans (hj583 s hs)
          have hl728 : rwv w713 86 (5) = rwv w576 86 (5) := rwv_fr hF716 (by decide)
          have hl729 : rwv w713 86 (6) = rwv w576 86 (6) := rwv_fr hF716 (by decide)
          have nw730 : FA w713 ≠ 0 ∨ 1 ≤ u45 ∨ (1 ≤ rwv w713 86 5 ∧ rwv w713 86 5 ≤ 6 ∧ 1 ≤ rwv w713 86 6 ∧ rwv w713 86 6 ≤ 6) := by have q := hj585; have q1 := pk723.1; omega
          clear hj585
          have ms731 : mu w713 < mu w := Nat.lt_of_le_of_lt pk723.2.1 hj582
          clear hj584
          refine xg_t (xg_blq rfl) ?_
          refine xoCh82 (xqc82 hI715 : cp82 (wget w713 82)) (fun f82_732 f82_734 f82_736 f82_738 f82_740 f82_742 f82_744 f82_746 f82_748 f82_750 f82_752 f82_753 f82_754 f82_756 f82_758 f82_760 h82_762 hb733 hb735 hb737 hb739 hb741 hb743 hb745 hb747 hb749 hb751 hb755 hb757 hb759 hb761 hb763 => ?_)
          have hf764 : fld w713 82 4 = f82_736 := fld_of h82_762
          have hf765 : fld w713 82 5 = f82_738 := fld_of h82_762
          have hf766 : fld w713 82 7 = f82_742 := fld_of h82_762
          have hf767 : fld w713 82 10 = f82_748 := fld_of h82_762
          have hf768 : fld w713 82 14 = f82_750 := fld_of h82_762
          have hu769 : mu w713 = 2 * (fld w713 82 4 - fld w713 82 5) + min 1 (fld w713 82 7) := rfl
          have hf770 := pk724.2.2.1
          have hl771 : f82_750 ≤ 1000 := by omega
          refine xg_t (xg_aload (va := (2, 82)) rfl rfl) ?_
          refine xg_t (xg_getf (va := (2, 85)) h82_762 rfl) ?_
          refine xg_t (xg_iload (va := (0, 6)) rfl rfl) ?_
          refine xg_t (xg_dup2 rfl) ?_
          refine xoI (xqc85 hI715 : cpI 7 52 4294967295 (wget w713 85)) (fun g85_772 h85_773 hb774 => ?_)
          refine xg_ialdB (n := 6) (B := 4294967295) h85_773 (hb774) xnm0 (by first | decide | omega) (fun u775 hu776 he777 => ?_)
          have hl778 : u775 = u45 := by have q1 := rwv_of h85_773 (show 6 < 7 by decide); have q2 := mf727 6 (by decide); omega
          refine xg_t (xg_const) ?_
          refine xg_t (xg_iadd (u := u775) (v := 1) (z := u775 + 1) xnm0 xnm0 (by omega)) ?_
          refine xg_iastK (n := 6) (u := u775 + 1) h85_773 xnm0 xnm0 rfl (by first | decide | omega) (fun w779 hr780 hb781 => ?_)
          refine xg_t (xg_aload (va := (2, 82)) rfl rfl) ?_
          refine xg_t (xg_dup rfl) ?_
          refine xg_t (xg_getf (va := (0, f82_750)) (hb781.get (by decide) h82_762) rfl) ?_
          have hn782 := id hb751
          unfold xHid at hn782
          refine xg_t (xg_const) ?_
          refine xg_t (xg_iadd (u := f82_750) (v := 1) (z := f82_750 + 1) xnm0 xnm0 (by omega)) ?_
          refine xg_putI (fl1 := [(2, 83), (2, 84), (0, f82_732), (0, f82_734), (0, f82_736), (0, f82_738), (0, f82_740), (0, f82_742), (0, f82_744), (0, f82_746), (0, f82_748), (2, 85), (2, 86), (2, 87), (0, f82_750 + 1), (2, 88), (2, 89), (2, 90), (2, 91), (2, 92), (2, 93), (2, 94), (4, f82_752), (4, f82_753), (0, f82_754), (2, 95), (2, 96), (2, 97), (2, 98), (2, 99), (2, 100), (2, 101), (2, 102), (0, f82_756), (2, 103), (2, 104), (2, 105), (2, 106), (2, 107), (2, 108), (2, 109), (0, f82_758), (0, f82_760), (2, 110), (2, 111), (2, 112), (2, 113)]) (hb781.get (by decide) h82_762) rfl rfl rfl (fun w783 hk784 hb785 => ?_)
          have hF786 : xFr [82, 85] w713 w783 := ((xFr.of (S := [82, 85]) hb781 (by decide)).tr (xFr.of (S := [82, 85]) hb785 (by decide)))
          have hA787 := FA_fr hF786 (by decide)
          have hf788 : fld w783 82 4 = f82_736 := fld_of hk784
          have hf789 : fld w783 82 5 = f82_738 := fld_of hk784
          have hf790 : fld w783 82 7 = f82_742 := fld_of hk784
          have hf791 : fld w783 82 10 = f82_748 := fld_of hk784
          have hf792 : fld w783 82 14 = f82_750 + 1 := fld_of hk784
          have hu793 : mu w783 = 2 * (fld w783 82 4 - fld w783 82 5) + min 1 (fld w783 82 7) := rfl
          have pq794 := pk724
          unfold PK PS at pq794
          have hM795 : ∀ s, s < 7 → s ≠ 6 → rwv w783 85 s = rwv w 85 s := fun s hs hn => (rwv_of (hr780.but hb785 (by decide)) hs).trans ((if_neg hn).trans ((rwv_of h85_773 hs).symm.trans (mf727 s hs)))
          have hM796 : rwv w783 85 6 = u45 + 1 := (rwv_of (hr780.but hb785 (by decide)) (by decide)).trans ((if_pos rfl).trans (by omega))
          have hM797 : ∀ s, s < 7 → rwv w783 85 s ≤ rwv w 85 s + 1 := fun s hs => by
            by_cases z : s = 6
            · subst z; omega
            · rw [hM795 s hs z]; omega
          have hO798 : ∀ j, (j < 5 ∨ 7 ≤ j) → j < 140 → rwv w783 86 j = rwv w 86 j := fun j hj hl => (rwv_fr hF786 (by decide)).trans (os725 j hj hl)
          have hl800 : FA w713 ≠ 0 ∨ u45 < 1 := rg726
          have hl801 : rwv w783 86 (5) = rwv w713 86 (5) := rwv_fr hF786 (by decide)
          have hl802 : rwv w783 86 (6) = rwv w713 86 (6) := rwv_fr hF786 (by decide)
          have hN799 : FA w783 ≠ 0 ∨ 1 ≤ u45 ∨ (1 ≤ rwv w783 86 5 ∧ rwv w783 86 5 ≤ 6 ∧ 1 ≤ rwv w783 86 6 ∧ rwv w783 86 6 ≤ 6) := by have q := nw730; omega
          have hX803 : FA w783 ≠ 0 ∨ u45 < 1 := by omega
          have hD804 : FA w783 ≠ 0 ∨ (DATA w → DATA w783) := by
            by_cases z : FA w783 ≠ 0
            · exact Or.inl z
            · exact Or.inr (fun hd => hd.s6 hM795 hK48 hM796 (hX803.resolve_left z) hO798 ((hN799.resolve_left z).resolve_left (by have := hX803.resolve_left z; omega)))
          exact xg_e ⟨w783, ⟨rfl, rfl⟩, xMnv.up (S := [85, 82]) hI715 ((xFr.of (S := [85, 82]) hb781 (by decide)).tr (xFr.of (S := [85, 82]) hb785 (by decide))) (List.forall_mem_cons.mpr ⟨xqu85 (show cpI 7 52 4294967295 (wget w783 85) from ⟨_, (hr780.but hb785 (by decide)), xrb (by omega) (hb774)⟩), List.forall_mem_cons.mpr ⟨xqu82 (show cp82 (wget w783 82) from xmC82 f82_732 f82_734 f82_736 f82_738 f82_740 f82_742 f82_744 f82_746 f82_748 (f82_750 + 1) f82_752 f82_753 f82_754 f82_756 f82_758 f82_760 hk784 hb733 hb735 hb737 hb739 hb741 hb743 hb745 hb747 hb749 (by omega) hb755 hb757 hb759 hb761 (by omega)), fun _ h => absurd h List.not_mem_nil⟩⟩), ((hF578.tr (hF716.up (by decide))).tr ((xFr.of (S := [82, 83, 85, 86, 87]) hb781 (by decide)).tr (xFr.of (S := [82, 83, 85, 86, 87]) hb785 (by decide)))), ⟨fun h => by have := pq794.1 h; omega, (show fld w783 82 10 = 0 ∨ FA w783 ≠ 0 by omega), Or.inr ⟨by have := ms731; omega, by omega, hM797⟩, hD804, pk724.2.2.2.2.tr (K83.fr hF786 (by decide))⟩⟩
      · refine xg_t (xg_ifT (u := f82_602) rfl xnm0 (xj_neT hc618)) ?_
        refine xg_t (xg_blq rfl) ?_
        refine xg_t (xg_aload (va := (2, 82)) rfl rfl) ?_
        refine xg_cVv mX12_ends (vs := []) (rest := []) (cn1 := 0) (sl1 := 0) rfl (mEnds (hI577) hj580.2.2.2.1) rfl h82_616 rfl rfl rfl rfl rfl rfl (fun w805 hq806 => ?_)
        obtain ⟨hI807, hF808, hx809⟩ := hq806
        clear hb587 hb589 hb591 hb593 hb595 hb597 hb599 hb601 hb603 hb605 hb609 hb611 hb613 hb615
        obtain ⟨hv810, hv811, hv812, hv813, hv814⟩ := hx809
        have pk815 : PK w576 w805 := ⟨fun _ => hv810, by omega, by omega, Or.inr hv810, hv814⟩
        have pk816 : PK w w805 := PK.tr hj580 pk815
        have os817 : ∀ j, (j < 5 ∨ 7 ≤ j) → j < 140 → rwv w805 86 j = rwv w 86 j := fun j hj hl => (rwv_fr hF808 (by decide)).trans (hj581 j hj hl)
        have rg818 : FA w805 ≠ 0 ∨ u45 < 1 := hj584.imp_left pk815.1
        have mf819 : ∀ s, s < 7 → rwv w805 85 s = rwv w 85 s := fun s hs => (rwv_fr hF808 (by decide)).trans (hj583 s hs)
        have hl820 : rwv w805 86 (5) = rwv w576 86 (5) := rwv_fr hF808 (by decide)
        have hl821 : rwv w805 86 (6) = rwv w576 86 (6) := rwv_fr hF808 (by decide)
        have nw822 : FA w805 ≠ 0 ∨ 1 ≤ u45 ∨ (1 ≤ rwv w805 86 5 ∧ rwv w805 86 5 ≤ 6 ∧ 1 ≤ rwv w805 86 6 ∧ rwv w805 86 6 ≤ 6) := by have q := hj585; have q1 := pk815.1; omega
        clear hj585
        have ms823 : mu w805 < mu w := Nat.lt_of_le_of_lt pk815.2.1 hj582
        clear hj584
        refine xg_t (xg_blq rfl) ?_
        refine xoCh82 (xqc82 hI807 : cp82 (wget w805 82)) (fun f82_824 f82_826 f82_828 f82_830 f82_832 f82_834 f82_836 f82_838 f82_840 f82_842 f82_844 f82_845 f82_846 f82_848 f82_850 f82_852 h82_854 hb825 hb827 hb829 hb831 hb833 hb835 hb837 hb839 hb841 hb843 hb847 hb849 hb851 hb853 hb855 => ?_)
        have hf856 : fld w805 82 4 = f82_828 := fld_of h82_854
        have hf857 : fld w805 82 5 = f82_830 := fld_of h82_854
        have hf858 : fld w805 82 7 = f82_834 := fld_of h82_854
        have hf859 : fld w805 82 10 = f82_840 := fld_of h82_854
        have hf860 : fld w805 82 14 = f82_842 := fld_of h82_854
        have hu861 : mu w805 = 2 * (fld w805 82 4 - fld w805 82 5) + min 1 (fld w805 82 7) := rfl
        have hf862 := pk816.2.2.1
        have hl863 : f82_842 ≤ 1000 := by omega
        refine xg_t (xg_aload (va := (2, 82)) rfl rfl) ?_
        refine xg_t (xg_getf (va := (2, 85)) h82_854 rfl) ?_
        refine xg_t (xg_iload (va := (0, 6)) rfl rfl) ?_
        refine xg_t (xg_dup2 rfl) ?_
        refine xoI (xqc85 hI807 : cpI 7 52 4294967295 (wget w805 85)) (fun g85_864 h85_865 hb866 => ?_)
        refine xg_ialdB (n := 6) (B := 4294967295) h85_865 (hb866) xnm0 (by first | decide | omega) (fun u867 hu868 he869 => ?_)
        have hl870 : u867 = u45 := by have q1 := rwv_of h85_865 (show 6 < 7 by decide); have q2 := mf819 6 (by decide); omega
        refine xg_t (xg_const) ?_
        refine xg_t (xg_iadd (u := u867) (v := 1) (z := u867 + 1) xnm0 xnm0 (by omega)) ?_
        refine xg_iastK (n := 6) (u := u867 + 1) h85_865 xnm0 xnm0 rfl (by first | decide | omega) (fun w871 hr872 hb873 => ?_)
        refine xg_t (xg_aload (va := (2, 82)) rfl rfl) ?_
        refine xg_t (xg_dup rfl) ?_
        refine xg_t (xg_getf (va := (0, f82_842)) (hb873.get (by decide) h82_854) rfl) ?_
        have hn874 := id hb843
        unfold xHid at hn874
        refine xg_t (xg_const) ?_
        refine xg_t (xg_iadd (u := f82_842) (v := 1) (z := f82_842 + 1) xnm0 xnm0 (by omega)) ?_
        refine xg_putI (fl1 := [(2, 83), (2, 84), (0, f82_824), (0, f82_826), (0, f82_828), (0, f82_830), (0, f82_832), (0, f82_834), (0, f82_836), (0, f82_838), (0, f82_840), (2, 85), (2, 86), (2, 87), (0, f82_842 + 1), (2, 88), (2, 89), (2, 90), (2, 91), (2, 92), (2, 93), (2, 94), (4, f82_844), (4, f82_845), (0, f82_846), (2, 95), (2, 96), (2, 97), (2, 98), (2, 99), (2, 100), (2, 101), (2, 102), (0, f82_848), (2, 103), (2, 104), (2, 105), (2, 106), (2, 107), (2, 108), (2, 109), (0, f82_850), (0, f82_852), (2, 110), (2, 111), (2, 112), (2, 113)]) (hb873.get (by decide) h82_854) rfl rfl rfl (fun w875 hk876 hb877 => ?_)
        have hF878 : xFr [82, 85] w805 w875 := ((xFr.of (S := [82, 85]) hb873 (by decide)).tr (xFr.of (S := [82, 85]) hb877 (by decide)))
        have hA879 := FA_fr hF878 (by decide)
        have hf880 : fld w875 82 4 = f82_828 := fld_of hk876
        have hf881 : fld w875 82 5 = f82_830 := fld_of hk876
        have hf882 : fld w875 82 7 = f82_834 := fld_of hk876
        have hf883 : fld w875 82 10 = f82_840 := fld_of hk876
        have hf884 : fld w875 82 14 = f82_842 + 1 := fld_of hk876
        have hu885 : mu w875 = 2 * (fld w875 82 4 - fld w875 82 5) + min 1 (fld w875 82 7) := rfl
        have pq886 := pk816
        unfold PK PS at pq886
        have hM887 : ∀ s, s < 7 → s ≠ 6 → rwv w875 85 s = rwv w 85 s := fun s hs hn => (rwv_of (hr872.but hb877 (by decide)) hs).trans ((if_neg hn).trans ((rwv_of h85_865 hs).symm.trans (mf819 s hs)))
        have hM888 : rwv w875 85 6 = u45 + 1 := (rwv_of (hr872.but hb877 (by decide)) (by decide)).trans ((if_pos rfl).trans (by omega))
        have hM889 : ∀ s, s < 7 → rwv w875 85 s ≤ rwv w 85 s + 1 := fun s hs => by
          by_cases z : s = 6
          · subst z; omega
          · rw [hM887 s hs z]; omega
        have hO890 : ∀ j, (j < 5 ∨ 7 ≤ j) → j < 140 → rwv w875 86 j = rwv w 86 j := fun j hj hl => (rwv_fr hF878 (by decide)).trans (os817 j hj hl)
        have hl892 : FA w805 ≠ 0 ∨ u45 < 1 := rg818
        have hl893 : rwv w875 86 (5) = rwv w805 86 (5) := rwv_fr hF878 (by decide)
        have hl894 : rwv w875 86 (6) = rwv w805 86 (6) := rwv_fr hF878 (by decide)
        have hN891 : FA w875 ≠ 0 ∨ 1 ≤ u45 ∨ (1 ≤ rwv w875 86 5 ∧ rwv w875 86 5 ≤ 6 ∧ 1 ≤ rwv w875 86 6 ∧ rwv w875 86 6 ≤ 6) := by have q := nw822; omega
        have hX895 : FA w875 ≠ 0 ∨ u45 < 1 := by omega
        have hD896 : FA w875 ≠ 0 ∨ (DATA w → DATA w875) := by
          by_cases z : FA w875 ≠ 0
          · exact Or.inl z
          · exact Or.inr (fun hd => hd.s6 hM887 hK48 hM888 (hX895.resolve_left z) hO890 ((hN891.resolve_left z).resolve_left (by have := hX895.resolve_left z; omega)))
        exact xg_e ⟨w875, ⟨rfl, rfl⟩, xMnv.up (S := [85, 82]) hI807 ((xFr.of (S := [85, 82]) hb873 (by decide)).tr (xFr.of (S := [85, 82]) hb877 (by decide))) (List.forall_mem_cons.mpr ⟨xqu85 (show cpI 7 52 4294967295 (wget w875 85) from ⟨_, (hr872.but hb877 (by decide)), xrb (by omega) (hb866)⟩), List.forall_mem_cons.mpr ⟨xqu82 (show cp82 (wget w875 82) from xmC82 f82_824 f82_826 f82_828 f82_830 f82_832 f82_834 f82_836 f82_838 f82_840 (f82_842 + 1) f82_844 f82_845 f82_846 f82_848 f82_850 f82_852 hk876 hb825 hb827 hb829 hb831 hb833 hb835 hb837 hb839 hb841 (by omega) hb847 hb849 hb851 hb853 (by omega)), fun _ h => absurd h List.not_mem_nil⟩⟩), ((hF578.tr (hF808.up (by decide))).tr ((xFr.of (S := [82, 83, 85, 86, 87]) hb873 (by decide)).tr (xFr.of (S := [82, 83, 85, 86, 87]) hb877 (by decide)))), ⟨fun h => by have := pq886.1 h; omega, (show fld w875 82 10 = 0 ∨ FA w875 ≠ 0 by omega), Or.inr ⟨by have := ms823; omega, by omega, hM889⟩, hD896, pk816.2.2.2.2.tr (K83.fr hF878 (by decide))⟩⟩
    refine xg_t (xg_iload (va := (0, 6)) rfl rfl) ?_
    refine xg_t (xg_swt (ks := [(0, 108), (1, 116), (2, 180), (3, 221), (4, 273), (5, 326)]) (u := 6) (z := 362) rfl rfl rfl xnm0 (xsw_n (by omega) (xsw_n (by omega) (xsw_n (by omega) (xsw_n (by omega) (xsw_n (by omega) (xsw_n (by omega) (xsw_d)))))))) ?_
    refine xg_t (xg_blq rfl) ?_
    refine xg_t (xg_const) ?_
    refine xg_t (xg_istore (l1 := [(3, (0, u45)), (2, (0, at_)), (1, (0, 6)), (0, (2, 82))]) rfl rfl rfl) ?_
    refine xg_t (xg_blq rfl) ?_
    refine xg_t (xg_iload (va := (0, 0)) rfl rfl) ?_
    refine xg_t (xg_const) ?_
    refine xg_t (xg_icF (u := 0) (v := 2) rfl xnm0 xnm0 (by decide)) ?_
    refine xg_t (xg_aload (va := (2, 82)) rfl rfl) ?_
    refine xg_t (xg_iload (va := (0, 6)) rfl rfl) ?_
    refine xg_t (xg_iload (va := (0, u45)) rfl rfl) ?_
    refine xg_t (xg_const) ?_
    refine xg_t (xg_iload (va := (0, 0)) rfl rfl) ?_
    refine xg_t (xg_iadd (u := 5) (v := 0) (z := 5) xnm0 xnm0 (by decide)) ?_
    refine xg_t (xg_aload (va := (2, 82)) rfl rfl) ?_
    refine xg_t (xg_const) ?_
    refine xg_t (xg_bip) ?_
    refine xoCh82 (xqc82 hI560 : cp82 (wget w558 82)) (fun f82_897 f82_899 f82_901 f82_903 f82_905 f82_907 f82_909 f82_911 f82_913 f82_915 f82_917 f82_918 f82_919 f82_921 f82_923 f82_925 h82_927 hb898 hb900 hb902 hb904 hb906 hb908 hb910 hb912 hb914 hb916 hb920 hb922 hb924 hb926 hb928 => ?_)
    refine xg_cVi mX12_numbered (vs := [(0, 1), (0, 6)]) (rest := [(0, 5), (0, u45), (0, 6), (2, 82)]) (cn1 := 0) (sl1 := 0) rfl (mNumbered (hI560) (by omega) (by omega) pk570.2.2.2.1) rfl h82_927 rfl rfl rfl rfl rfl rfl (fun n933 w929 hq930 => ?_)
    obtain ⟨hn934, hI931, hF932⟩ := hq930
    clear hb898 hb900 hb902 hb904 hb906 hb908 hb910 hb912 hb914 hb916 hb920 hb922 hb924 hb926
    obtain ⟨hn935, hn936, hn937⟩ := hn934
    have pk938 : PK w w929 := PK.tr pk570 hn936
    have os939 : ∀ j, (j < 5 ∨ 7 ≤ j) → j < 140 → rwv w929 86 j = rwv w 86 j := fun j hj hl => (rwv_fr hF932 (by decide)).trans (os571 j hj hl)
    have rg940 : FA w929 ≠ 0 ∨ 0 = 1 := rg572.imp_left hn936.1
    have mf941 : ∀ s, s < 7 → rwv w929 85 s = rwv w 85 s := fun s hs => (rwv_fr hF932 (by decide)).trans (mf573 s hs)
    have ms942 : mu w929 < mu w := Nat.lt_of_le_of_lt hn936.2.1 ms574
    clear rg572
    refine xoCh82 (xqc82 hI931 : cp82 (wget w929 82)) (fun f82_943 f82_945 f82_947 f82_949 f82_951 f82_953 f82_955 f82_957 f82_959 f82_961 f82_963 f82_964 f82_965 f82_967 f82_969 f82_971 h82_973 hb944 hb946 hb948 hb950 hb952 hb954 hb956 hb958 hb960 hb962 hb966 hb968 hb970 hb972 hb974 => ?_)
    refine xg_cVv mX12_puts (vs := [(0, 6), (0, u45), (0, 5), (0, n933)]) (rest := []) (cn1 := 0) (sl1 := 0) rfl (mPuts6 (hI931) (by omega) (by omega) (by omega) (fun _ => by omega)) rfl h82_973 rfl rfl rfl rfl rfl rfl (fun w975 hq976 => ?_)
    obtain ⟨hI977, hF978, hx979⟩ := hq976
    obtain ⟨hp980, hp981⟩ := hx979
    have pk982 : PK w w975 := PK.tr pk938 (PK.fr hF978 (by decide) (by decide) pk938.2.2.2.1)
    have os983 : ∀ j, (j < 5 ∨ 7 ≤ j) → j < 140 → rwv w975 86 j = rwv w 86 j := fun j hj hl => (hp981 j (by omega) hl).trans (os939 j hj hl)
    have rg984 : FA w975 ≠ 0 ∨ 0 = 1 := rg940.imp_left (PK.fr hF978 (by decide) (by decide) pk938.2.2.2.1).1
    have rg985 : FA w975 ≠ 0 ∨ (1 ≤ n933 ∧ n933 ≤ 6) := hn937.imp_left (PK.fr hF978 (by decide) (by decide) pk938.2.2.2.1).1
    have mf986 : ∀ s, s < 7 → rwv w975 85 s = rwv w 85 s := fun s hs => (rwv_fr hF978 (by decide)).trans (mf941 s hs)
    have ms987 : mu w975 < mu w := Nat.lt_of_le_of_lt (PK.fr hF978 (by decide) (by decide) pk938.2.2.2.1).2.1 ms942
    clear rg940 hn937
    refine xg_t (xg_iinc (u := 0) (z := 1) (l1 := [(3, (0, u45)), (2, (0, at_)), (1, (0, 6)), (0, (2, 82))]) rfl rfl (by decide) rfl) ?_
    refine xg_t (xg_goto) ?_
    refine xg_t (xg_blq rfl) ?_
    refine xg_t (xg_iload (va := (0, 1)) rfl rfl) ?_
    refine xg_t (xg_const) ?_
    refine xg_t (xg_icF (u := 1) (v := 2) rfl xnm0 xnm0 (by decide)) ?_
    refine xg_t (xg_aload (va := (2, 82)) rfl rfl) ?_
    refine xg_t (xg_iload (va := (0, 6)) rfl rfl) ?_
    refine xg_t (xg_iload (va := (0, u45)) rfl rfl) ?_
    refine xg_t (xg_const) ?_
    refine xg_t (xg_iload (va := (0, 1)) rfl rfl) ?_
    refine xg_t (xg_iadd (u := 5) (v := 1) (z := 6) xnm0 xnm0 (by decide)) ?_
    refine xg_t (xg_aload (va := (2, 82)) rfl rfl) ?_
    refine xg_t (xg_const) ?_
    refine xg_t (xg_bip) ?_
    refine xg_cVi mX12_numbered (vs := [(0, 1), (0, 6)]) (rest := [(0, 6), (0, u45), (0, 6), (2, 82)]) (cn1 := 0) (sl1 := 0) rfl (mNumbered (hI977) (by omega) (by omega) pk982.2.2.2.1) rfl (hF978.get (by decide) h82_973) rfl rfl rfl rfl rfl rfl (fun n992 w988 hq989 => ?_)
    obtain ⟨hn993, hI990, hF991⟩ := hq989
    clear hb944 hb946 hb948 hb950 hb952 hb954 hb956 hb958 hb960 hb962 hb966 hb968 hb970 hb972
    obtain ⟨hn994, hn995, hn996⟩ := hn993
    have pk997 : PK w w988 := PK.tr pk982 hn995
    have os998 : ∀ j, (j < 5 ∨ 7 ≤ j) → j < 140 → rwv w988 86 j = rwv w 86 j := fun j hj hl => (rwv_fr hF991 (by decide)).trans (os983 j hj hl)
    have ix999 : u45 < 1 → rwv w988 86 (5) = n933 := fun h => (rwv_fr hF991 (by decide)).trans (hp980 h)
    have rg1000 : FA w988 ≠ 0 ∨ 0 = 1 := rg984.imp_left hn995.1
    have rg1001 : FA w988 ≠ 0 ∨ (1 ≤ n933 ∧ n933 ≤ 6) := rg985.imp_left hn995.1
    have mf1002 : ∀ s, s < 7 → rwv w988 85 s = rwv w 85 s := fun s hs => (rwv_fr hF991 (by decide)).trans (mf986 s hs)
    have ms1003 : mu w988 < mu w := Nat.lt_of_le_of_lt hn995.2.1 ms987
    clear hp980 rg984 rg985
    refine xoCh82 (xqc82 hI990 : cp82 (wget w988 82)) (fun f82_1004 f82_1006 f82_1008 f82_1010 f82_1012 f82_1014 f82_1016 f82_1018 f82_1020 f82_1022 f82_1024 f82_1025 f82_1026 f82_1028 f82_1030 f82_1032 h82_1034 hb1005 hb1007 hb1009 hb1011 hb1013 hb1015 hb1017 hb1019 hb1021 hb1023 hb1027 hb1029 hb1031 hb1033 hb1035 => ?_)
    refine xg_cVv mX12_puts (vs := [(0, 6), (0, u45), (0, 6), (0, n992)]) (rest := []) (cn1 := 0) (sl1 := 0) rfl (mPuts6 (hI990) (by omega) (by omega) (by omega) (fun _ => by omega)) rfl h82_1034 rfl rfl rfl rfl rfl rfl (fun w1036 hq1037 => ?_)
    obtain ⟨hI1038, hF1039, hx1040⟩ := hq1037
    obtain ⟨hp1041, hp1042⟩ := hx1040
    have pk1043 : PK w w1036 := PK.tr pk997 (PK.fr hF1039 (by decide) (by decide) pk997.2.2.2.1)
    have os1044 : ∀ j, (j < 5 ∨ 7 ≤ j) → j < 140 → rwv w1036 86 j = rwv w 86 j := fun j hj hl => (hp1042 j (by omega) hl).trans (os998 j hj hl)
    have ix1045 : u45 < 1 → rwv w1036 86 (5) = n933 := fun h => (hp1042 _ (by omega) (by omega)).trans (ix999 h)
    have rg1046 : FA w1036 ≠ 0 ∨ 0 = 1 := rg1000.imp_left (PK.fr hF1039 (by decide) (by decide) pk997.2.2.2.1).1
    have rg1047 : FA w1036 ≠ 0 ∨ (1 ≤ n933 ∧ n933 ≤ 6) := rg1001.imp_left (PK.fr hF1039 (by decide) (by decide) pk997.2.2.2.1).1
    have rg1048 : FA w1036 ≠ 0 ∨ (1 ≤ n992 ∧ n992 ≤ 6) := hn996.imp_left (PK.fr hF1039 (by decide) (by decide) pk997.2.2.2.1).1
    have mf1049 : ∀ s, s < 7 → rwv w1036 85 s = rwv w 85 s := fun s hs => (rwv_fr hF1039 (by decide)).trans (mf1002 s hs)
    have ms1050 : mu w1036 < mu w := Nat.lt_of_le_of_lt (PK.fr hF1039 (by decide) (by decide) pk997.2.2.2.1).2.1 ms1003
    clear ix999 rg1000 rg1001 hn996
    refine xg_t (xg_iinc (u := 1) (z := 2) (l1 := [(3, (0, u45)), (2, (0, at_)), (1, (0, 6)), (0, (2, 82))]) rfl rfl (by decide) rfl) ?_
    refine xg_t (xg_goto) ?_
    refine xg_t (xg_blq rfl) ?_
    refine xg_t (xg_iload (va := (0, 2)) rfl rfl) ?_
    refine xg_t (xg_const) ?_
    refine xg_t (xg_icT (u := 2) (v := 2) rfl xnm0 xnm0 (by decide)) ?_
    refine xg_t (xg_drop (l1 := [(0, (2, 82)), (1, (0, 6)), (3, (0, u45))]) (List.forall_mem_cons.mpr ⟨List.mem_cons_of_mem _ (List.mem_cons_of_mem _ (List.mem_cons_of_mem _ (List.mem_cons_of_mem _ (List.mem_cons_self)))), List.forall_mem_cons.mpr ⟨List.mem_cons_of_mem _ (List.mem_cons_of_mem _ (List.mem_cons_of_mem _ (List.mem_cons_self))), List.forall_mem_cons.mpr ⟨List.mem_cons_of_mem _ (List.mem_cons_self), fun _ h => absurd h List.not_mem_nil⟩⟩⟩)) ?_
    have hX1051 : FA w1036 ≠ 0 ∨ u45 < 1 := Or.inl (by have q := rg1046; omega)
    have hN1052 : FA w1036 ≠ 0 ∨ 1 ≤ u45 ∨ (1 ≤ rwv w1036 86 5 ∧ rwv w1036 86 5 ≤ 6 ∧ 1 ≤ rwv w1036 86 6 ∧ rwv w1036 86 6 ≤ 6) := by
      have hl1053 : u45 < 1 → rwv w1036 86 (5) = n933 := ix1045
      have hl1054 : u45 < 1 → rwv w1036 86 (6) = n992 := hp1041
      have hl1055 := rg1047
      have hl1056 := rg1048
      omega
    exact jn575 w1036 (hI1038) (((((((hF549.up (by decide)).tr (hF561.up (by decide))).tr (hF932.up (by decide))).tr (hF978.up (by decide))).tr (hF991.up (by decide))).tr (hF1039.up (by decide)))) (⟨pk1043, os1044, ms1050, mf1049, hX1051, hN1052⟩)
set_option maxHeartbeats 60000000 in
theorem mALine (hI : xMnv w) (hps : PS w) (hmb : ∀ s, s < 7 → rwv w 85 s ≤ 1000) (hln : fld w 82 14 ≤ 1000) : xPq (d + 7) mX12_aLine [(2, 82)] w bd fc rr [] (fun w' => xMnv w' ∧ xFr [82, 83, 85, 86, 87] w w' ∧ ((FA w ≠ 0 → FA w' ≠ 0) ∧ PS w' ∧ ((fld w' 82 10 = 1 ∧ mu w' = mu w ∧ fld w' 82 14 = fld w 82 14 ∧ ∀ s, s < 7 → rwv w' 85 s = rwv w 85 s) ∨ (mu w' < mu w ∧ fld w' 82 14 = fld w 82 14 + 1 ∧ ∀ s, s < 7 → rwv w' 85 s ≤ rwv w 85 s + 1)) ∧ (FA w' ≠ 0 ∨ (DATA w → DATA w')) ∧ K83 w w')) := by
  refine xPq.of ?_
  show xTo (d + 7) mX12_aLine (0, [], [(0, (2, 82))], [], (w, bd, fc, 0, 0, rr)) (fun φ => ∃ w', xEnd 0 [] (w', bd, fc, 0, 0, rr) φ ∧ xMnv w' ∧ xFr [82, 83, 85, 86, 87] w w' ∧ ((FA w ≠ 0 → FA w' ≠ 0) ∧ PS w' ∧ ((fld w' 82 10 = 1 ∧ mu w' = mu w ∧ fld w' 82 14 = fld w 82 14 ∧ ∀ s, s < 7 → rwv w' 85 s = rwv w 85 s) ∨ (mu w' < mu w ∧ fld w' 82 14 = fld w 82 14 + 1 ∧ ∀ s, s < 7 → rwv w' 85 s ≤ rwv w 85 s + 1)) ∧ (FA w' ≠ 0 ∨ (DATA w → DATA w')) ∧ K83 w w'))
  refine xoCh82 (xqc82 hI : cp82 (wget w 82)) (fun f82_1 f82_3 f82_5 f82_7 f82_9 f82_11 f82_13 f82_15 f82_17 f82_19 f82_21 f82_22 f82_23 f82_25 f82_27 f82_29 h82_31 hb2 hb4 hb6 hb8 hb10 hb12 hb14 hb16 hb18 hb20 hb24 hb26 hb28 hb30 hb32 => ?_)
  have hf33 : fld w 82 7 = f82_11 := fld_of h82_31
  have hf34 : fld w 82 10 = f82_17 := fld_of h82_31
  have hf35 : fld w 82 14 = f82_19 := fld_of h82_31
  have hps_ : fld w 82 10 = 0 ∨ FA w ≠ 0 := hps
  refine xoI (xqc85 hI : cpI 7 52 4294967295 (wget w 85)) (fun g85_36 h85_37 hb38 => ?_)
  refine xoI (xqc86 hI : cpI 140 53 4294967295 (wget w 86)) (fun g86_39 h86_40 hb41 => ?_)
  refine xoI (xqc87 hI : cpI 20 54 4294967295 (wget w 87)) (fun g87_42 h87_43 hb44 => ?_)
  refine xg_t (xg_blq rfl) ?_
  refine xg_t (xg_aload (va := (2, 82)) rfl rfl) ?_
  refine xg_t (xg_getf (va := (0, f82_15)) h82_31 rfl) ?_
  have hn45 : f82_15 ≤ 4294967295 := hb16
  refine xg_t (xg_istore (l1 := [(0, (2, 82))]) rfl rfl rfl) ?_
  refine xg_t (xg_aload (va := (2, 82)) rfl rfl) ?_
  refine xg_t (xg_getf (va := (0, f82_9)) h82_31 rfl) ?_
  have hn46 : f82_9 ≤ 4294967295 := hb10
  refine xg_t (xg_istore (l1 := [(1, (0, f82_15)), (0, (2, 82))]) rfl rfl rfl) ?_
  refine xg_t (xg_aload (va := (2, 82)) rfl rfl) ?_
  refine xg_t (xg_getf (va := (0, f82_17)) h82_31 rfl) ?_
  by_cases hc47 : f82_17 = 0
  · refine xg_t (xg_ifF (u := f82_17) rfl xnm0 (xj_neF hc47)) ?_
    refine xg_t (xg_aload (va := (2, 82)) rfl rfl) ?_
    refine xg_t (xg_getf (va := (0, f82_11)) h82_31 rfl) ?_
    refine xg_t (xg_const) ?_
    by_cases hc48 : f82_11 = 3
    · refine xg_t (xg_icF (u := f82_11) (v := 3) rfl xnm0 xnm0 (xj_neF hc48)) ?_
      refine xg_t (xg_aload (va := (2, 82)) rfl rfl) ?_
      refine xg_t (xg_getf (va := (0, f82_15)) h82_31 rfl) ?_
      refine xg_t (xg_const) ?_
      refine xg_t (xg_bip) ?_
      refine xg_t (xg_cSr mX12_isIn (vs := [(0, f82_15), (0, 0), (0, 6)]) (rest := []) (rs := [(0, if 0 ≤ f82_15 ∧ f82_15 ≤ 6 then 1 else 0)]) (cn1 := 0) (sl1 := 0) rfl (mIsIn (by omega) (by omega) (by omega)) rfl rfl rfl rfl rfl rfl rfl rfl) ?_
      by_cases hc49 : 0 ≤ f82_15 ∧ f82_15 ≤ 6
      · refine xg_t (xg_ifT (u := (if 0 ≤ f82_15 ∧ f82_15 ≤ 6 then 1 else 0)) rfl xnm0 (xj_neT (xite1 hc49))) ?_
        rcases (show f82_15 = 0 ∨ f82_15 = 1 ∨ f82_15 = 2 ∨ f82_15 = 3 ∨ f82_15 = 4 ∨ f82_15 = 5 ∨ f82_15 = 6 by omega) with rfl | rfl | rfl | rfl | rfl | rfl | rfl
        · exact mALineS0 hI hps hmb hln (by omega) (by omega)
        · exact mALineS1 hI hps hmb hln (by omega) (by omega)
        · exact mALineS2 hI hps hmb hln (by omega) (by omega)
        · exact mALineS3 hI hps hmb hln (by omega) (by omega)
        · exact mALineS4 hI hps hmb hln (by omega) (by omega)
        · exact mALineS5 hI hps hmb hln (by omega) (by omega)
        · exact mALineS6 hI hps hmb hln (by omega) (by omega)
      · refine xg_t (xg_ifF (u := (if 0 ≤ f82_15 ∧ f82_15 ≤ 6 then 1 else 0)) rfl xnm0 (xj_neF (xite0 hc49))) ?_
        refine xg_t (xg_blq rfl) ?_
        refine xg_t (xg_aload (va := (2, 82)) rfl rfl) ?_
        refine xg_cVv mX12_ends (vs := []) (rest := []) (cn1 := 0) (sl1 := 0) rfl (mEnds (hI) hps) rfl h82_31 rfl rfl rfl rfl rfl rfl (fun w50 hq51 => ?_)
        obtain ⟨hI52, hF53, hx54⟩ := hq51
        obtain ⟨hv55, hv56, hv57, hv58, hv59⟩ := hx54
        refine xoCh82 (xqc82 hI52 : cp82 (wget w50 82)) (fun f82_60 f82_62 f82_64 f82_66 f82_68 f82_70 f82_72 f82_74 f82_76 f82_78 f82_80 f82_81 f82_82 f82_84 f82_86 f82_88 h82_90 hb61 hb63 hb65 hb67 hb69 hb71 hb73 hb75 hb77 hb79 hb83 hb85 hb87 hb89 hb91 => ?_)
        exact xg_e ⟨w50, ⟨rfl, rfl⟩, hI52, (hF53.up (by decide)), ⟨fun _ => hv55, Or.inr hv55, Or.inl ⟨hv56, hv57, hv58, fun s hs => rwv_fr hF53 (by decide)⟩, Or.inl hv55, hv59⟩⟩
    · refine xg_t (xg_icT (u := f82_11) (v := 3) rfl xnm0 xnm0 (xj_neT hc48)) ?_
      refine xg_t (xg_blq rfl) ?_
      refine xg_t (xg_aload (va := (2, 82)) rfl rfl) ?_
      refine xg_cVv mX12_ends (vs := []) (rest := []) (cn1 := 0) (sl1 := 0) rfl (mEnds (hI) hps) rfl h82_31 rfl rfl rfl rfl rfl rfl (fun w92 hq93 => ?_)
      obtain ⟨hI94, hF95, hx96⟩ := hq93
      obtain ⟨hv97, hv98, hv99, hv100, hv101⟩ := hx96
      refine xoCh82 (xqc82 hI94 : cp82 (wget w92 82)) (fun f82_102 f82_104 f82_106 f82_108 f82_110 f82_112 f82_114 f82_116 f82_118 f82_120 f82_122 f82_123 f82_124 f82_126 f82_128 f82_130 h82_132 hb103 hb105 hb107 hb109 hb111 hb113 hb115 hb117 hb119 hb121 hb125 hb127 hb129 hb131 hb133 => ?_)
      exact xg_e ⟨w92, ⟨rfl, rfl⟩, hI94, (hF95.up (by decide)), ⟨fun _ => hv97, Or.inr hv97, Or.inl ⟨hv98, hv99, hv100, fun s hs => rwv_fr hF95 (by decide)⟩, Or.inl hv97, hv101⟩⟩
  · refine xg_t (xg_ifT (u := f82_17) rfl xnm0 (xj_neT hc47)) ?_
    refine xg_t (xg_blq rfl) ?_
    refine xg_t (xg_aload (va := (2, 82)) rfl rfl) ?_
    refine xg_cVv mX12_ends (vs := []) (rest := []) (cn1 := 0) (sl1 := 0) rfl (mEnds (hI) hps) rfl h82_31 rfl rfl rfl rfl rfl rfl (fun w134 hq135 => ?_)
    obtain ⟨hI136, hF137, hx138⟩ := hq135
    obtain ⟨hv139, hv140, hv141, hv142, hv143⟩ := hx138
    refine xoCh82 (xqc82 hI136 : cp82 (wget w134 82)) (fun f82_144 f82_146 f82_148 f82_150 f82_152 f82_154 f82_156 f82_158 f82_160 f82_162 f82_164 f82_165 f82_166 f82_168 f82_170 f82_172 h82_174 hb145 hb147 hb149 hb151 hb153 hb155 hb157 hb159 hb161 hb163 hb167 hb169 hb171 hb173 hb175 => ?_)
    exact xg_e ⟨w134, ⟨rfl, rfl⟩, hI136, (hF137.up (by decide)), ⟨fun _ => hv139, Or.inr hv139, Or.inl ⟨hv140, hv141, hv142, fun s hs => rwv_fr hF137 (by decide)⟩, Or.inl hv139, hv143⟩⟩
end XMB
end
section
/-! the model: film; images -/
theorem okB_sh {f : Nat → Nat} {b : Nat} (h : okB f 0) : okB (fun j => f (j - b)) b := by
  unfold okB at h ⊢
  simp only [Nat.zero_add] at h
  have e : ∀ t, b + t - b = t := fun t => Nat.add_sub_cancel_left ..
  have e0 : b - b = 0 := Nat.sub_self b
  simp only [e, e0, Nat.add_assoc]
  simp only [Nat.add_assoc] at h
  exact h
theorem okB_dn {f : Nat → Nat} {b : Nat} (h : okB f b) : okB (fun j => f (b + j)) 0 := by
  unfold okB at h ⊢
  simp only [Nat.zero_add, Nat.add_zero]
  simp only [Nat.add_assoc] at h ⊢
  exact h
noncomputable def rwk (w : List (List xE)) (k j : Nat) : Nat := match wget w k with
  | some (.inr a) => (xat a.1 a.2.2.2 j).2
  | _ => 0
theorem rwk_of {w : List (List xE)} {kd tg k L t j : Nat} {f : Nat → Nat} (h : xRk kd tg w k L t f) (hj : j < L) : rwk w k j = f j := by
  obtain ⟨us, h1, h2⟩ := h
  unfold rwk
  rw [h1]
  show (xat kd us j).2 = f j
  rw [h2 j hj]
theorem rwk_eq {w w' : List (List xE)} {k j : Nat} (h : wget w' k = wget w k) : rwk w' k j = rwk w k j := by
  unfold rwk
  rw [h]
def dt (m r : Nat → Nat) : Prop := m 0 ≤ 6 ∧ m 1 ≤ 4 ∧ m 2 ≤ 6 ∧ m 3 ≤ 4 ∧ m 4 ≤ 20 ∧ (1 ≤ r 5 ∧ r 5 ≤ 6) ∧ (1 ≤ r 6 ∧ r 6 ≤ 6) ∧ (1 ≤ r 7 ∧ r 7 ≤ 10) ∧ (1 ≤ r 8 ∧ r 8 ≤ 10) ∧ (∀ k i, k < m 0 → i < 3 → 1 ≤ r (20 + 4 * k + i) ∧ r (20 + 4 * k + i) ≤ 99) ∧ ∀ k, k < m 1 → 1 ≤ r (51 + 2 * k) ∧ r (51 + 2 * k) ≤ 999
theorem DATA.toDt {w : List (List xE)} {m r : Nat → Nat} (h : DATA w) (h1 : xRow w 85 7 52 m) (h2 : xRow w 86 140 53 r) : dt m r := by
  obtain ⟨m0, m1, m2, m3, m4, r5, r6, r7, r8, d0, d1⟩ := h
  have e0 := rwv_of h1 (show 0 < 7 by decide)
  have e1 := rwv_of h1 (show 1 < 7 by decide)
  have e2 := rwv_of h1 (show 2 < 7 by decide)
  have e3 := rwv_of h1 (show 3 < 7 by decide)
  have e4 := rwv_of h1 (show 4 < 7 by decide)
  have f5 := rwv_of h2 (show 5 < 140 by decide)
  have f6 := rwv_of h2 (show 6 < 140 by decide)
  have f7 := rwv_of h2 (show 7 < 140 by decide)
  have f8 := rwv_of h2 (show 8 < 140 by decide)
  refine ⟨by omega, by omega, by omega, by omega, by omega, by omega, by omega, by omega, by omega, fun k i hk hi => ?_, fun k hk => ?_⟩
  · rw [← rwv_of h2 (show 20 + 4 * k + i < 140 by omega)]
    exact d0 k i (by omega) hi
  · rw [← rwv_of h2 (show 51 + 2 * k < 140 by omega)]
    exact d1 k (by omega)
theorem DATA.fr {S : List Nat} {w w' : List (List xE)} (h : DATA w) (hf : xFr S w w') (h1 : 85 ∉ S) (h2 : 86 ∉ S) : DATA w' := by
  unfold DATA
  simp only [fun j => rwv_fr (k := 85) (j := j) hf h1, fun j => rwv_fr (k := 86) (j := j) hf h2]
  exact h
theorem film_ok {f h m r : Nat → Nat} (hf : okA f) (D : dt m r) (a0 : h 0 = m 0) (a1 : h 1 = m 1) (a2 : h 2 = m 2) (a3 : h 3 = m 3) (a4 : h 4 = m 4) (a5 : h 5 = r 5) (a6 : h 6 = r 6) (a7 : h 7 = r 7) (a8 : h 8 = r 8) (a9 : h 9 = 0) (a10 : h 10 = 0) (hr : ∀ j, 20 ≤ j → j < 140 → h j = r j) (ho : ∀ j, 140 ≤ j ∨ j = 13 ∨ j = 15 → h j = f j) : okA h := by
  obtain ⟨m0, m1, m2, m3, m4, r5, r6, r7, r8, d0, d1⟩ := D
  have e13 := ho 13 (by omega)
  have e15 := ho 15 (by omega)
  have e900 := ho 900 (by omega)
  have e901 := ho 901 (by omega)
  have e902 := ho 902 (by omega)
  have b13 := hf.l13
  have b15 := hf.l15
  have b900 := hf.l900
  have b901 := hf.l901
  have b902 := hf.l902
  refine hf.mk0 (fun j hj => ho j (by omega)) (okB.of0 ⟨by omega, by omega, by omega, by omega, by omega, by omega, by omega, by omega, by omega, by omega, by omega, by omega, by omega, by omega, by omega, by omega, by omega⟩ ?_ ?_ ?_ ?_)
  · intro k i hk hi
    rw [hr _ (by omega) (by omega)]
    exact d0 k i (by omega) hi
  · intro k hk
    rw [hr _ (by omega) (by omega)]
    exact d1 k (by omega)
  · intro p i hk hi
    omega
  · intro l hk
    rw [ho _ (by omega)]
    exact hf.rul (by omega)
theorem okA.copy {f g : Nat → Nat} {B : Nat} (hf : okA f) (hB : B = 1340 ∨ B = 2680 ∨ B = 4020) (h1 : ∀ i, 0 ≤ i → i < 1340 → g (B + i) = f i) (h2 : ∀ j, j < B ∨ B + 1340 ≤ j → g j = f j) : okA g := by
  have key : ∀ b, (b = 0 ∨ b = 1340 ∨ b = 2680 ∨ b = 4020) → okB f b → okB g b := by
    intro b hb hk
    by_cases z : b = B
    · subst z
      have q : okB (fun j => f (j - b)) b := okB_sh hf.1
      exact okB_congr (fun t ht => by rw [h1 t (by omega) ht]; show _ = f (b + t - b); rw [Nat.add_sub_cancel_left]) q
    · exact okB_congr (fun t ht => h2 _ (by omega)) hk
  exact ⟨key 0 (by omega) hf.1, key 1340 (by omega) hf.2.1, key 2680 (by omega) hf.2.2.1, key 4020 (by omega) hf.2.2.2⟩
theorem okA.back {f g : Nat → Nat} {B : Nat} (hf : okA f) (hB : B = 1340 ∨ B = 2680 ∨ B = 4020) (h1 : ∀ i, 0 ≤ i → i < 1340 → g i = f (B + i)) (h2 : ∀ j, j < 0 ∨ 1340 ≤ j → g j = f j) : okA g := by
  have hb : okB f B := by
    rcases hB with rfl | rfl | rfl
    · exact hf.2.1
    · exact hf.2.2.1
    · exact hf.2.2.2
  refine hf.mk0 (fun j hj => h2 j (Or.inr hj)) ?_
  have q : okB (fun j => f (B + j)) 0 := okB_dn hb
  exact okB_congr (fun t ht => by show g (0 + t) = f (B + (0 + t)); rw [Nat.zero_add]; exact h1 t (by omega) ht) q
section XMC
variable {d : Nat} {w : List (List xE)} {bd : List (Nat × Nat)} {fc : List (Nat × Nat × Bool)} {rr : Nat × Nat}
theorem cpFilm {P : xS → Prop} {r : Nat → Nat} {q0 q1 q2 q3 q4 q5 q6 q7 q8 q9 q10 q11 q12 q13 q14 q15 : Nat} : ∀ (n k : Nat) (w : List (List xE)) (f : Nat → Nat), k + n = 140 → xRow w 83 5360 50 f → (∀ j, f j ≤ 4294967295) → xRow w 86 140 53 r → (∀ j, r j ≤ 4294967295) → wget w 82 = some (.inl (12, [(2, 83), (2, 84), (0, q0), (0, q1), (0, q2), (0, q3), (0, q4), (0, q5), (0, q6), (0, q7), (0, q8), (2, 85), (2, 86), (2, 87), (0, q9), (2, 88), (2, 89), (2, 90), (2, 91), (2, 92), (2, 93), (2, 94), (4, q10), (4, q11), (0, q12), (2, 95), (2, 96), (2, 97), (2, 98), (2, 99), (2, 100), (2, 101), (2, 102), (0, q13), (2, 103), (2, 104), (2, 105), (2, 106), (2, 107), (2, 108), (2, 109), (0, q14), (0, q15), (2, 110), (2, 111), (2, 112), (2, 113)])) → (∀ w2 f2, xRow w2 83 5360 50 f2 → (∀ j, f2 j ≤ 4294967295) → xBut 83 w w2 → (∀ i, k ≤ i → i < 140 → f2 (i) = r (i)) → (∀ j, j < k ∨ 140 ≤ j → f2 j = f j) → xTo d mX12_film (256, [], [(0, (2, 82)), (1, (0, 140))], [], (w2, bd, fc, 0, 0, rr)) P) → xTo d mX12_film (231, [], [(0, (2, 82)), (1, (0, k))], [], (w, bd, fc, 0, 0, rr)) P
  | 0, k, w, f, hn, h, hB, hs, hsB, hc, K => by
    refine xg_t (xg_blq rfl) ?_
    refine xg_t (xg_iload (va := (0, k)) rfl rfl) ?_
    refine xg_t (xg_sip) ?_
    refine xg_t (xg_icT (u := k) (v := 140) rfl xnm0 xnm0 (xj_geT (by omega) (by omega))) ?_
    have e : k = 140 := by omega
    subst e
    exact K w f h hB xBut.rf (fun i hi hl => absurd hl (by omega)) (fun j _ => rfl)
  | n + 1, k, w, f, hn, h, hB, hs, hsB, hc, K => by
    refine xg_t (xg_blq rfl) ?_
    refine xg_t (xg_iload (va := (0, k)) rfl rfl) ?_
    refine xg_t (xg_sip) ?_
    refine xg_t (xg_icF (u := k) (v := 140) rfl xnm0 xnm0 (xj_geF (by omega) (by omega))) ?_
    refine xg_t (xg_aload (va := (2, 82)) rfl rfl) ?_
    refine xg_t (xg_getf (va := (2, 83)) hc rfl) ?_
    refine xg_t (xg_iload (va := (0, k)) rfl rfl) ?_
    refine xg_t (xg_aload (va := (2, 82)) rfl rfl) ?_
    refine xg_t (xg_getf (va := (2, 86)) hc rfl) ?_
    refine xg_t (xg_iload (va := (0, k)) rfl rfl) ?_
    refine xg_t (xg_ialdR (n := k) (u := r k) hs xnm0 (by omega) rfl) ?_
    refine xg_iastK (n := k) (u := r k) h xnm0 xnm0 rfl (by omega) (fun w1 hr2 hb3 => ?_)
    refine xg_t (xg_iinc (u := k) (z := k + 1) (l1 := [(0, (2, 82))]) rfl rfl (by omega) rfl) ?_
    refine xg_t (xg_goto) ?_
    refine xg_t (xg_drop (l1 := [(0, (2, 82)), (1, (0, k + 1))]) (List.forall_mem_cons.mpr ⟨List.mem_cons_of_mem _ (List.mem_cons_self), List.forall_mem_cons.mpr ⟨List.mem_cons_self, fun _ h => absurd h List.not_mem_nil⟩⟩)) ?_
    refine cpFilm n (k + 1) w1 (fun j => if j = k then r k else f j) (by omega) hr2 (xrb (by have q := hsB k; omega) hB) (hs.but hb3 (by decide)) hsB (hb3.get (by decide) hc) (fun w2 f2 g1 g2 g3 g4 g5 => K w2 f2 g1 g2 (hb3.tr g3) (fun i hi hl => ?_) (fun j hj => ?_))
    · by_cases z : i = k
      · subst z
        rw [g5 _ (by omega)]
        exact if_pos rfl
      · exact g4 i (by omega) hl
    · rw [g5 j (by omega)]
      exact if_neg (by omega)
theorem cpImg0 {P : xS → Prop} {q0 q1 q2 q3 q4 q5 q6 q7 q8 q9 q10 q11 q12 q13 q14 q15 : Nat} : ∀ (n k : Nat) (w : List (List xE)) (f : Nat → Nat), k + n = 1340 → xRow w 83 5360 50 f → (∀ j, f j ≤ 4294967295) → wget w 82 = some (.inl (12, [(2, 83), (2, 84), (0, q0), (0, q1), (0, q2), (0, q3), (0, q4), (0, q5), (0, q6), (0, q7), (0, q8), (2, 85), (2, 86), (2, 87), (0, q9), (2, 88), (2, 89), (2, 90), (2, 91), (2, 92), (2, 93), (2, 94), (4, q10), (4, q11), (0, q12), (2, 95), (2, 96), (2, 97), (2, 98), (2, 99), (2, 100), (2, 101), (2, 102), (0, q13), (2, 103), (2, 104), (2, 105), (2, 106), (2, 107), (2, 108), (2, 109), (0, q14), (0, q15), (2, 110), (2, 111), (2, 112), (2, 113)])) → (∀ w2 f2, xRow w2 83 5360 50 f2 → (∀ j, f2 j ≤ 4294967295) → xBut 83 w w2 → (∀ i, k ≤ i → i < 1340 → f2 (1340 + i) = f (i)) → (∀ j, j < 1340 + k ∨ 1340 + 1340 ≤ j → f2 j = f j) → xTo d mX12_image (53, [], [(0, (2, 82)), (1, (0, 0)), (2, (0, 1340))], [], (w2, bd, fc, 0, 0, rr)) P) → xTo d mX12_image (20, [], [(0, (2, 82)), (1, (0, 0)), (2, (0, k))], [], (w, bd, fc, 0, 0, rr)) P
  | 0, k, w, f, hn, h, hB, hc, K => by
    refine xg_t (xg_blq rfl) ?_
    refine xg_t (xg_iload (va := (0, k)) rfl rfl) ?_
    refine xg_t (xg_sip) ?_
    refine xg_t (xg_icT (u := k) (v := 1340) rfl xnm0 xnm0 (xj_geT (by omega) (by omega))) ?_
    have e : k = 1340 := by omega
    subst e
    exact K w f h hB xBut.rf (fun i hi hl => absurd hl (by omega)) (fun j _ => rfl)
  | n + 1, k, w, f, hn, h, hB, hc, K => by
    refine xg_t (xg_blq rfl) ?_
    refine xg_t (xg_iload (va := (0, k)) rfl rfl) ?_
    refine xg_t (xg_sip) ?_
    refine xg_t (xg_icF (u := k) (v := 1340) rfl xnm0 xnm0 (xj_geF (by omega) (by omega))) ?_
    refine xg_t (xg_aload (va := (2, 82)) rfl rfl) ?_
    refine xg_t (xg_getf (va := (2, 83)) hc rfl) ?_
    refine xg_t (xg_sip) ?_
    refine xg_t (xg_iload (va := (0, 0)) rfl rfl) ?_
    refine xg_t (xg_const) ?_
    refine xg_t (xg_iadd (u := 0) (v := 1) (z := 1) xnm0 xnm0 (by decide)) ?_
    refine xg_t (xg_imul (u := 1340) (v := 1) (z := 1340) xnm0 xnm0 (by decide)) ?_
    refine xg_t (xg_iload (va := (0, k)) rfl rfl) ?_
    refine xg_t (xg_iadd (u := 1340) (v := k) (z := 1340 + k) xnm0 xnm0 (by omega)) ?_
    refine xg_t (xg_aload (va := (2, 82)) rfl rfl) ?_
    refine xg_t (xg_getf (va := (2, 83)) hc rfl) ?_
    refine xg_t (xg_iload (va := (0, k)) rfl rfl) ?_
    refine xg_t (xg_ialdR (n := k) (u := f k) h xnm0 (by omega) rfl) ?_
    refine xg_iastK (n := 1340 + k) (u := f k) h xnm0 xnm0 rfl (by omega) (fun w1 hr2 hb3 => ?_)
    refine xg_t (xg_iinc (u := k) (z := k + 1) (l1 := [(0, (2, 82)), (1, (0, 0))]) rfl rfl (by omega) rfl) ?_
    refine xg_t (xg_goto) ?_
    refine xg_t (xg_drop (l1 := [(0, (2, 82)), (1, (0, 0)), (2, (0, k + 1))]) (List.forall_mem_cons.mpr ⟨List.mem_cons_of_mem _ (List.mem_cons_self), List.forall_mem_cons.mpr ⟨List.mem_cons_of_mem _ (List.mem_cons_of_mem _ (List.mem_cons_self)), List.forall_mem_cons.mpr ⟨List.mem_cons_self, fun _ h => absurd h List.not_mem_nil⟩⟩⟩)) ?_
    refine cpImg0 n (k + 1) w1 (fun j => if j = 1340 + k then f k else f j) (by omega) hr2 (xrb (by have q := hB k; omega) hB) (hb3.get (by decide) hc) (fun w2 f2 g1 g2 g3 g4 g5 => K w2 f2 g1 g2 (hb3.tr g3) (fun i hi hl => ?_) (fun j hj => ?_))
    · by_cases z : i = k
      · subst z
        rw [g5 _ (by omega)]
        exact if_pos rfl
      · rw [g4 i (by omega) hl]
        exact if_neg (by omega)
    · rw [g5 j (by omega)]
      exact if_neg (by omega)
theorem cpAgn0 {P : xS → Prop} {q0 q1 q2 q3 q4 q5 q6 q7 q8 q9 q10 q11 q12 q13 q14 q15 : Nat} : ∀ (n k : Nat) (w : List (List xE)) (f : Nat → Nat), k + n = 1340 → xRow w 83 5360 50 f → (∀ j, f j ≤ 4294967295) → wget w 82 = some (.inl (12, [(2, 83), (2, 84), (0, q0), (0, q1), (0, q2), (0, q3), (0, q4), (0, q5), (0, q6), (0, q7), (0, q8), (2, 85), (2, 86), (2, 87), (0, q9), (2, 88), (2, 89), (2, 90), (2, 91), (2, 92), (2, 93), (2, 94), (4, q10), (4, q11), (0, q12), (2, 95), (2, 96), (2, 97), (2, 98), (2, 99), (2, 100), (2, 101), (2, 102), (0, q13), (2, 103), (2, 104), (2, 105), (2, 106), (2, 107), (2, 108), (2, 109), (0, q14), (0, q15), (2, 110), (2, 111), (2, 112), (2, 113)])) → (∀ w2 f2, xRow w2 83 5360 50 f2 → (∀ j, f2 j ≤ 4294967295) → xBut 83 w w2 → (∀ i, k ≤ i → i < 1340 → f2 (i) = f (1340 + i)) → (∀ j, j < k ∨ 1340 ≤ j → f2 j = f j) → xTo d mX12_again (55, [], [(0, (2, 82)), (1, (0, 0)), (2, (0, 1340))], [], (w2, bd, fc, 0, 0, rr)) P) → xTo d mX12_again (22, [], [(0, (2, 82)), (1, (0, 0)), (2, (0, k))], [], (w, bd, fc, 0, 0, rr)) P
  | 0, k, w, f, hn, h, hB, hc, K => by
    refine xg_t (xg_blq rfl) ?_
    refine xg_t (xg_iload (va := (0, k)) rfl rfl) ?_
    refine xg_t (xg_sip) ?_
    refine xg_t (xg_icT (u := k) (v := 1340) rfl xnm0 xnm0 (xj_geT (by omega) (by omega))) ?_
    have e : k = 1340 := by omega
    subst e
    exact K w f h hB xBut.rf (fun i hi hl => absurd hl (by omega)) (fun j _ => rfl)
  | n + 1, k, w, f, hn, h, hB, hc, K => by
    refine xg_t (xg_blq rfl) ?_
    refine xg_t (xg_iload (va := (0, k)) rfl rfl) ?_
    refine xg_t (xg_sip) ?_
    refine xg_t (xg_icF (u := k) (v := 1340) rfl xnm0 xnm0 (xj_geF (by omega) (by omega))) ?_
    refine xg_t (xg_aload (va := (2, 82)) rfl rfl) ?_
    refine xg_t (xg_getf (va := (2, 83)) hc rfl) ?_
    refine xg_t (xg_iload (va := (0, k)) rfl rfl) ?_
    refine xg_t (xg_aload (va := (2, 82)) rfl rfl) ?_
    refine xg_t (xg_getf (va := (2, 83)) hc rfl) ?_
    refine xg_t (xg_sip) ?_
    refine xg_t (xg_iload (va := (0, 0)) rfl rfl) ?_
    refine xg_t (xg_const) ?_
    refine xg_t (xg_iadd (u := 0) (v := 1) (z := 1) xnm0 xnm0 (by decide)) ?_
    refine xg_t (xg_imul (u := 1340) (v := 1) (z := 1340) xnm0 xnm0 (by decide)) ?_
    refine xg_t (xg_iload (va := (0, k)) rfl rfl) ?_
    refine xg_t (xg_iadd (u := 1340) (v := k) (z := 1340 + k) xnm0 xnm0 (by omega)) ?_
    refine xg_t (xg_ialdR (n := 1340 + k) (u := f (1340 + k)) h xnm0 (by omega) rfl) ?_
    refine xg_iastK (n := k) (u := f (1340 + k)) h xnm0 xnm0 rfl (by omega) (fun w1 hr2 hb3 => ?_)
    refine xg_t (xg_iinc (u := k) (z := k + 1) (l1 := [(0, (2, 82)), (1, (0, 0))]) rfl rfl (by omega) rfl) ?_
    refine xg_t (xg_goto) ?_
    refine xg_t (xg_drop (l1 := [(0, (2, 82)), (1, (0, 0)), (2, (0, k + 1))]) (List.forall_mem_cons.mpr ⟨List.mem_cons_of_mem _ (List.mem_cons_self), List.forall_mem_cons.mpr ⟨List.mem_cons_of_mem _ (List.mem_cons_of_mem _ (List.mem_cons_self)), List.forall_mem_cons.mpr ⟨List.mem_cons_self, fun _ h => absurd h List.not_mem_nil⟩⟩⟩)) ?_
    refine cpAgn0 n (k + 1) w1 (fun j => if j = k then f (1340 + k) else f j) (by omega) hr2 (xrb (by have q := hB (1340 + k); omega) hB) (hb3.get (by decide) hc) (fun w2 f2 g1 g2 g3 g4 g5 => K w2 f2 g1 g2 (hb3.tr g3) (fun i hi hl => ?_) (fun j hj => ?_))
    · by_cases z : i = k
      · subst z
        rw [g5 _ (by omega)]
        exact if_pos rfl
      · rw [g4 i (by omega) hl]
        exact if_neg (by omega)
    · rw [g5 j (by omega)]
      exact if_neg (by omega)
theorem cpImg1 {P : xS → Prop} {q0 q1 q2 q3 q4 q5 q6 q7 q8 q9 q10 q11 q12 q13 q14 q15 : Nat} : ∀ (n k : Nat) (w : List (List xE)) (f : Nat → Nat), k + n = 1340 → xRow w 83 5360 50 f → (∀ j, f j ≤ 4294967295) → wget w 82 = some (.inl (12, [(2, 83), (2, 84), (0, q0), (0, q1), (0, q2), (0, q3), (0, q4), (0, q5), (0, q6), (0, q7), (0, q8), (2, 85), (2, 86), (2, 87), (0, q9), (2, 88), (2, 89), (2, 90), (2, 91), (2, 92), (2, 93), (2, 94), (4, q10), (4, q11), (0, q12), (2, 95), (2, 96), (2, 97), (2, 98), (2, 99), (2, 100), (2, 101), (2, 102), (0, q13), (2, 103), (2, 104), (2, 105), (2, 106), (2, 107), (2, 108), (2, 109), (0, q14), (0, q15), (2, 110), (2, 111), (2, 112), (2, 113)])) → (∀ w2 f2, xRow w2 83 5360 50 f2 → (∀ j, f2 j ≤ 4294967295) → xBut 83 w w2 → (∀ i, k ≤ i → i < 1340 → f2 (2680 + i) = f (i)) → (∀ j, j < 2680 + k ∨ 2680 + 1340 ≤ j → f2 j = f j) → xTo d mX12_image (53, [], [(0, (2, 82)), (1, (0, 1)), (2, (0, 1340))], [], (w2, bd, fc, 0, 0, rr)) P) → xTo d mX12_image (20, [], [(0, (2, 82)), (1, (0, 1)), (2, (0, k))], [], (w, bd, fc, 0, 0, rr)) P
  | 0, k, w, f, hn, h, hB, hc, K => by
    refine xg_t (xg_blq rfl) ?_
    refine xg_t (xg_iload (va := (0, k)) rfl rfl) ?_
    refine xg_t (xg_sip) ?_
    refine xg_t (xg_icT (u := k) (v := 1340) rfl xnm0 xnm0 (xj_geT (by omega) (by omega))) ?_
    have e : k = 1340 := by omega
    subst e
    exact K w f h hB xBut.rf (fun i hi hl => absurd hl (by omega)) (fun j _ => rfl)
  | n + 1, k, w, f, hn, h, hB, hc, K => by
    refine xg_t (xg_blq rfl) ?_
    refine xg_t (xg_iload (va := (0, k)) rfl rfl) ?_
    refine xg_t (xg_sip) ?_
    refine xg_t (xg_icF (u := k) (v := 1340) rfl xnm0 xnm0 (xj_geF (by omega) (by omega))) ?_
    refine xg_t (xg_aload (va := (2, 82)) rfl rfl) ?_
    refine xg_t (xg_getf (va := (2, 83)) hc rfl) ?_
    refine xg_t (xg_sip) ?_
    refine xg_t (xg_iload (va := (0, 1)) rfl rfl) ?_
    refine xg_t (xg_const) ?_
    refine xg_t (xg_iadd (u := 1) (v := 1) (z := 2) xnm0 xnm0 (by decide)) ?_
    refine xg_t (xg_imul (u := 1340) (v := 2) (z := 2680) xnm0 xnm0 (by decide)) ?_
    refine xg_t (xg_iload (va := (0, k)) rfl rfl) ?_
    refine xg_t (xg_iadd (u := 2680) (v := k) (z := 2680 + k) xnm0 xnm0 (by omega)) ?_
    refine xg_t (xg_aload (va := (2, 82)) rfl rfl) ?_
    refine xg_t (xg_getf (va := (2, 83)) hc rfl) ?_
    refine xg_t (xg_iload (va := (0, k)) rfl rfl) ?_
    refine xg_t (xg_ialdR (n := k) (u := f k) h xnm0 (by omega) rfl) ?_
    refine xg_iastK (n := 2680 + k) (u := f k) h xnm0 xnm0 rfl (by omega) (fun w1 hr2 hb3 => ?_)
    refine xg_t (xg_iinc (u := k) (z := k + 1) (l1 := [(0, (2, 82)), (1, (0, 1))]) rfl rfl (by omega) rfl) ?_
    refine xg_t (xg_goto) ?_
    refine xg_t (xg_drop (l1 := [(0, (2, 82)), (1, (0, 1)), (2, (0, k + 1))]) (List.forall_mem_cons.mpr ⟨List.mem_cons_of_mem _ (List.mem_cons_self), List.forall_mem_cons.mpr ⟨List.mem_cons_of_mem _ (List.mem_cons_of_mem _ (List.mem_cons_self)), List.forall_mem_cons.mpr ⟨List.mem_cons_self, fun _ h => absurd h List.not_mem_nil⟩⟩⟩)) ?_
    refine cpImg1 n (k + 1) w1 (fun j => if j = 2680 + k then f k else f j) (by omega) hr2 (xrb (by have q := hB k; omega) hB) (hb3.get (by decide) hc) (fun w2 f2 g1 g2 g3 g4 g5 => K w2 f2 g1 g2 (hb3.tr g3) (fun i hi hl => ?_) (fun j hj => ?_))
    · by_cases z : i = k
      · subst z
        rw [g5 _ (by omega)]
        exact if_pos rfl
      · rw [g4 i (by omega) hl]
        exact if_neg (by omega)
    · rw [g5 j (by omega)]
      exact if_neg (by omega)
theorem cpAgn1 {P : xS → Prop} {q0 q1 q2 q3 q4 q5 q6 q7 q8 q9 q10 q11 q12 q13 q14 q15 : Nat} : ∀ (n k : Nat) (w : List (List xE)) (f : Nat → Nat), k + n = 1340 → xRow w 83 5360 50 f → (∀ j, f j ≤ 4294967295) → wget w 82 = some (.inl (12, [(2, 83), (2, 84), (0, q0), (0, q1), (0, q2), (0, q3), (0, q4), (0, q5), (0, q6), (0, q7), (0, q8), (2, 85), (2, 86), (2, 87), (0, q9), (2, 88), (2, 89), (2, 90), (2, 91), (2, 92), (2, 93), (2, 94), (4, q10), (4, q11), (0, q12), (2, 95), (2, 96), (2, 97), (2, 98), (2, 99), (2, 100), (2, 101), (2, 102), (0, q13), (2, 103), (2, 104), (2, 105), (2, 106), (2, 107), (2, 108), (2, 109), (0, q14), (0, q15), (2, 110), (2, 111), (2, 112), (2, 113)])) → (∀ w2 f2, xRow w2 83 5360 50 f2 → (∀ j, f2 j ≤ 4294967295) → xBut 83 w w2 → (∀ i, k ≤ i → i < 1340 → f2 (i) = f (2680 + i)) → (∀ j, j < k ∨ 1340 ≤ j → f2 j = f j) → xTo d mX12_again (55, [], [(0, (2, 82)), (1, (0, 1)), (2, (0, 1340))], [], (w2, bd, fc, 0, 0, rr)) P) → xTo d mX12_again (22, [], [(0, (2, 82)), (1, (0, 1)), (2, (0, k))], [], (w, bd, fc, 0, 0, rr)) P
  | 0, k, w, f, hn, h, hB, hc, K => by
    refine xg_t (xg_blq rfl) ?_
    refine xg_t (xg_iload (va := (0, k)) rfl rfl) ?_
    refine xg_t (xg_sip) ?_
    refine xg_t (xg_icT (u := k) (v := 1340) rfl xnm0 xnm0 (xj_geT (by omega) (by omega))) ?_
    have e : k = 1340 := by omega
    subst e
    exact K w f h hB xBut.rf (fun i hi hl => absurd hl (by omega)) (fun j _ => rfl)
  | n + 1, k, w, f, hn, h, hB, hc, K => by
    refine xg_t (xg_blq rfl) ?_
    refine xg_t (xg_iload (va := (0, k)) rfl rfl) ?_
    refine xg_t (xg_sip) ?_
    refine xg_t (xg_icF (u := k) (v := 1340) rfl xnm0 xnm0 (xj_geF (by omega) (by omega))) ?_
    refine xg_t (xg_aload (va := (2, 82)) rfl rfl) ?_
    refine xg_t (xg_getf (va := (2, 83)) hc rfl) ?_
    refine xg_t (xg_iload (va := (0, k)) rfl rfl) ?_
    refine xg_t (xg_aload (va := (2, 82)) rfl rfl) ?_
    refine xg_t (xg_getf (va := (2, 83)) hc rfl) ?_
    refine xg_t (xg_sip) ?_
    refine xg_t (xg_iload (va := (0, 1)) rfl rfl) ?_
    refine xg_t (xg_const) ?_
    refine xg_t (xg_iadd (u := 1) (v := 1) (z := 2) xnm0 xnm0 (by decide)) ?_
    refine xg_t (xg_imul (u := 1340) (v := 2) (z := 2680) xnm0 xnm0 (by decide)) ?_
    refine xg_t (xg_iload (va := (0, k)) rfl rfl) ?_
    refine xg_t (xg_iadd (u := 2680) (v := k) (z := 2680 + k) xnm0 xnm0 (by omega)) ?_
    refine xg_t (xg_ialdR (n := 2680 + k) (u := f (2680 + k)) h xnm0 (by omega) rfl) ?_
    refine xg_iastK (n := k) (u := f (2680 + k)) h xnm0 xnm0 rfl (by omega) (fun w1 hr2 hb3 => ?_)
    refine xg_t (xg_iinc (u := k) (z := k + 1) (l1 := [(0, (2, 82)), (1, (0, 1))]) rfl rfl (by omega) rfl) ?_
    refine xg_t (xg_goto) ?_
    refine xg_t (xg_drop (l1 := [(0, (2, 82)), (1, (0, 1)), (2, (0, k + 1))]) (List.forall_mem_cons.mpr ⟨List.mem_cons_of_mem _ (List.mem_cons_self), List.forall_mem_cons.mpr ⟨List.mem_cons_of_mem _ (List.mem_cons_of_mem _ (List.mem_cons_self)), List.forall_mem_cons.mpr ⟨List.mem_cons_self, fun _ h => absurd h List.not_mem_nil⟩⟩⟩)) ?_
    refine cpAgn1 n (k + 1) w1 (fun j => if j = k then f (2680 + k) else f j) (by omega) hr2 (xrb (by have q := hB (2680 + k); omega) hB) (hb3.get (by decide) hc) (fun w2 f2 g1 g2 g3 g4 g5 => K w2 f2 g1 g2 (hb3.tr g3) (fun i hi hl => ?_) (fun j hj => ?_))
    · by_cases z : i = k
      · subst z
        rw [g5 _ (by omega)]
        exact if_pos rfl
      · rw [g4 i (by omega) hl]
        exact if_neg (by omega)
    · rw [g5 j (by omega)]
      exact if_neg (by omega)
theorem cpImg2 {P : xS → Prop} {q0 q1 q2 q3 q4 q5 q6 q7 q8 q9 q10 q11 q12 q13 q14 q15 : Nat} : ∀ (n k : Nat) (w : List (List xE)) (f : Nat → Nat), k + n = 1340 → xRow w 83 5360 50 f → (∀ j, f j ≤ 4294967295) → wget w 82 = some (.inl (12, [(2, 83), (2, 84), (0, q0), (0, q1), (0, q2), (0, q3), (0, q4), (0, q5), (0, q6), (0, q7), (0, q8), (2, 85), (2, 86), (2, 87), (0, q9), (2, 88), (2, 89), (2, 90), (2, 91), (2, 92), (2, 93), (2, 94), (4, q10), (4, q11), (0, q12), (2, 95), (2, 96), (2, 97), (2, 98), (2, 99), (2, 100), (2, 101), (2, 102), (0, q13), (2, 103), (2, 104), (2, 105), (2, 106), (2, 107), (2, 108), (2, 109), (0, q14), (0, q15), (2, 110), (2, 111), (2, 112), (2, 113)])) → (∀ w2 f2, xRow w2 83 5360 50 f2 → (∀ j, f2 j ≤ 4294967295) → xBut 83 w w2 → (∀ i, k ≤ i → i < 1340 → f2 (4020 + i) = f (i)) → (∀ j, j < 4020 + k ∨ 4020 + 1340 ≤ j → f2 j = f j) → xTo d mX12_image (53, [], [(0, (2, 82)), (1, (0, 2)), (2, (0, 1340))], [], (w2, bd, fc, 0, 0, rr)) P) → xTo d mX12_image (20, [], [(0, (2, 82)), (1, (0, 2)), (2, (0, k))], [], (w, bd, fc, 0, 0, rr)) P
  | 0, k, w, f, hn, h, hB, hc, K => by
    refine xg_t (xg_blq rfl) ?_
    refine xg_t (xg_iload (va := (0, k)) rfl rfl) ?_
    refine xg_t (xg_sip) ?_
    refine xg_t (xg_icT (u := k) (v := 1340) rfl xnm0 xnm0 (xj_geT (by omega) (by omega))) ?_
    have e : k = 1340 := by omega
    subst e
    exact K w f h hB xBut.rf (fun i hi hl => absurd hl (by omega)) (fun j _ => rfl)
  | n + 1, k, w, f, hn, h, hB, hc, K => by
    refine xg_t (xg_blq rfl) ?_
    refine xg_t (xg_iload (va := (0, k)) rfl rfl) ?_
    refine xg_t (xg_sip) ?_
    refine xg_t (xg_icF (u := k) (v := 1340) rfl xnm0 xnm0 (xj_geF (by omega) (by omega))) ?_
    refine xg_t (xg_aload (va := (2, 82)) rfl rfl) ?_
    refine xg_t (xg_getf (va := (2, 83)) hc rfl) ?_
    refine xg_t (xg_sip) ?_
    refine xg_t (xg_iload (va := (0, 2)) rfl rfl) ?_
    refine xg_t (xg_const) ?_
    refine xg_t (xg_iadd (u := 2) (v := 1) (z := 3) xnm0 xnm0 (by decide)) ?_
    refine xg_t (xg_imul (u := 1340) (v := 3) (z := 4020) xnm0 xnm0 (by decide)) ?_
    refine xg_t (xg_iload (va := (0, k)) rfl rfl) ?_
    refine xg_t (xg_iadd (u := 4020) (v := k) (z := 4020 + k) xnm0 xnm0 (by omega)) ?_
    refine xg_t (xg_aload (va := (2, 82)) rfl rfl) ?_
    refine xg_t (xg_getf (va := (2, 83)) hc rfl) ?_
    refine xg_t (xg_iload (va := (0, k)) rfl rfl) ?_
    refine xg_t (xg_ialdR (n := k) (u := f k) h xnm0 (by omega) rfl) ?_
    refine xg_iastK (n := 4020 + k) (u := f k) h xnm0 xnm0 rfl (by omega) (fun w1 hr2 hb3 => ?_)
    refine xg_t (xg_iinc (u := k) (z := k + 1) (l1 := [(0, (2, 82)), (1, (0, 2))]) rfl rfl (by omega) rfl) ?_
    refine xg_t (xg_goto) ?_
    refine xg_t (xg_drop (l1 := [(0, (2, 82)), (1, (0, 2)), (2, (0, k + 1))]) (List.forall_mem_cons.mpr ⟨List.mem_cons_of_mem _ (List.mem_cons_self), List.forall_mem_cons.mpr ⟨List.mem_cons_of_mem _ (List.mem_cons_of_mem _ (List.mem_cons_self)), List.forall_mem_cons.mpr ⟨List.mem_cons_self, fun _ h => absurd h List.not_mem_nil⟩⟩⟩)) ?_
    refine cpImg2 n (k + 1) w1 (fun j => if j = 4020 + k then f k else f j) (by omega) hr2 (xrb (by have q := hB k; omega) hB) (hb3.get (by decide) hc) (fun w2 f2 g1 g2 g3 g4 g5 => K w2 f2 g1 g2 (hb3.tr g3) (fun i hi hl => ?_) (fun j hj => ?_))
    · by_cases z : i = k
      · subst z
        rw [g5 _ (by omega)]
        exact if_pos rfl
      · rw [g4 i (by omega) hl]
        exact if_neg (by omega)
    · rw [g5 j (by omega)]
      exact if_neg (by omega)
theorem cpAgn2 {P : xS → Prop} {q0 q1 q2 q3 q4 q5 q6 q7 q8 q9 q10 q11 q12 q13 q14 q15 : Nat} : ∀ (n k : Nat) (w : List (List xE)) (f : Nat → Nat), k + n = 1340 → xRow w 83 5360 50 f → (∀ j, f j ≤ 4294967295) → wget w 82 = some (.inl (12, [(2, 83), (2, 84), (0, q0), (0, q1), (0, q2), (0, q3), (0, q4), (0, q5), (0, q6), (0, q7), (0, q8), (2, 85), (2, 86), (2, 87), (0, q9), (2, 88), (2, 89), (2, 90), (2, 91), (2, 92), (2, 93), (2, 94), (4, q10), (4, q11), (0, q12), (2, 95), (2, 96), (2, 97), (2, 98), (2, 99), (2, 100), (2, 101), (2, 102), (0, q13), (2, 103), (2, 104), (2, 105), (2, 106), (2, 107), (2, 108), (2, 109), (0, q14), (0, q15), (2, 110), (2, 111), (2, 112), (2, 113)])) → (∀ w2 f2, xRow w2 83 5360 50 f2 → (∀ j, f2 j ≤ 4294967295) → xBut 83 w w2 → (∀ i, k ≤ i → i < 1340 → f2 (i) = f (4020 + i)) → (∀ j, j < k ∨ 1340 ≤ j → f2 j = f j) → xTo d mX12_again (55, [], [(0, (2, 82)), (1, (0, 2)), (2, (0, 1340))], [], (w2, bd, fc, 0, 0, rr)) P) → xTo d mX12_again (22, [], [(0, (2, 82)), (1, (0, 2)), (2, (0, k))], [], (w, bd, fc, 0, 0, rr)) P
  | 0, k, w, f, hn, h, hB, hc, K => by
    refine xg_t (xg_blq rfl) ?_
    refine xg_t (xg_iload (va := (0, k)) rfl rfl) ?_
    refine xg_t (xg_sip) ?_
    refine xg_t (xg_icT (u := k) (v := 1340) rfl xnm0 xnm0 (xj_geT (by omega) (by omega))) ?_
    have e : k = 1340 := by omega
    subst e
    exact K w f h hB xBut.rf (fun i hi hl => absurd hl (by omega)) (fun j _ => rfl)
  | n + 1, k, w, f, hn, h, hB, hc, K => by
    refine xg_t (xg_blq rfl) ?_
    refine xg_t (xg_iload (va := (0, k)) rfl rfl) ?_
    refine xg_t (xg_sip) ?_
    refine xg_t (xg_icF (u := k) (v := 1340) rfl xnm0 xnm0 (xj_geF (by omega) (by omega))) ?_
    refine xg_t (xg_aload (va := (2, 82)) rfl rfl) ?_
    refine xg_t (xg_getf (va := (2, 83)) hc rfl) ?_
    refine xg_t (xg_iload (va := (0, k)) rfl rfl) ?_
    refine xg_t (xg_aload (va := (2, 82)) rfl rfl) ?_
    refine xg_t (xg_getf (va := (2, 83)) hc rfl) ?_
    refine xg_t (xg_sip) ?_
    refine xg_t (xg_iload (va := (0, 2)) rfl rfl) ?_
    refine xg_t (xg_const) ?_
    refine xg_t (xg_iadd (u := 2) (v := 1) (z := 3) xnm0 xnm0 (by decide)) ?_
    refine xg_t (xg_imul (u := 1340) (v := 3) (z := 4020) xnm0 xnm0 (by decide)) ?_
    refine xg_t (xg_iload (va := (0, k)) rfl rfl) ?_
    refine xg_t (xg_iadd (u := 4020) (v := k) (z := 4020 + k) xnm0 xnm0 (by omega)) ?_
    refine xg_t (xg_ialdR (n := 4020 + k) (u := f (4020 + k)) h xnm0 (by omega) rfl) ?_
    refine xg_iastK (n := k) (u := f (4020 + k)) h xnm0 xnm0 rfl (by omega) (fun w1 hr2 hb3 => ?_)
    refine xg_t (xg_iinc (u := k) (z := k + 1) (l1 := [(0, (2, 82)), (1, (0, 2))]) rfl rfl (by omega) rfl) ?_
    refine xg_t (xg_goto) ?_
    refine xg_t (xg_drop (l1 := [(0, (2, 82)), (1, (0, 2)), (2, (0, k + 1))]) (List.forall_mem_cons.mpr ⟨List.mem_cons_of_mem _ (List.mem_cons_self), List.forall_mem_cons.mpr ⟨List.mem_cons_of_mem _ (List.mem_cons_of_mem _ (List.mem_cons_self)), List.forall_mem_cons.mpr ⟨List.mem_cons_self, fun _ h => absurd h List.not_mem_nil⟩⟩⟩)) ?_
    refine cpAgn2 n (k + 1) w1 (fun j => if j = k then f (4020 + k) else f j) (by omega) hr2 (xrb (by have q := hB (4020 + k); omega) hB) (hb3.get (by decide) hc) (fun w2 f2 g1 g2 g3 g4 g5 => K w2 f2 g1 g2 (hb3.tr g3) (fun i hi hl => ?_) (fun j hj => ?_))
    · by_cases z : i = k
      · subst z
        rw [g5 _ (by omega)]
        exact if_pos rfl
      · rw [g4 i (by omega) hl]
        exact if_neg (by omega)
    · rw [g5 j (by omega)]
      exact if_neg (by omega)
theorem cpRul {P : xS → Prop} {r : Nat → Nat} {q0 q1 q2 q3 q4 q5 q6 q7 q8 q9 q10 q11 q12 q13 q14 q15 : Nat} : ∀ (n k : Nat) (w : List (List xE)) (f : Nat → Nat), k + n = 320 → xRow w 83 5360 50 f → (∀ j, f j ≤ 4294967295) → xRow w 112 320 79 r → (∀ j, r j ≤ 4294967295) → wget w 82 = some (.inl (12, [(2, 83), (2, 84), (0, q0), (0, q1), (0, q2), (0, q3), (0, q4), (0, q5), (0, q6), (0, q7), (0, q8), (2, 85), (2, 86), (2, 87), (0, q9), (2, 88), (2, 89), (2, 90), (2, 91), (2, 92), (2, 93), (2, 94), (4, q10), (4, q11), (0, q12), (2, 95), (2, 96), (2, 97), (2, 98), (2, 99), (2, 100), (2, 101), (2, 102), (0, q13), (2, 103), (2, 104), (2, 105), (2, 106), (2, 107), (2, 108), (2, 109), (0, q14), (0, q15), (2, 110), (2, 111), (2, 112), (2, 113)])) → (∀ w2 f2, xRow w2 83 5360 50 f2 → (∀ j, f2 j ≤ 4294967295) → xBut 83 w w2 → (∀ i, k ≤ i → i < 320 → f2 (1020 + i) = r (i)) → (∀ j, j < 1020 + k ∨ 1020 + 320 ≤ j → f2 j = f j) → xTo d mX12_rules (73, [], [(0, (2, 82)), (1, (0, 320))], [], (w2, bd, fc, 0, 0, rr)) P) → xTo d mX12_rules (44, [], [(0, (2, 82)), (1, (0, k))], [], (w, bd, fc, 0, 0, rr)) P
  | 0, k, w, f, hn, h, hB, hs, hsB, hc, K => by
    refine xg_t (xg_blq rfl) ?_
    refine xg_t (xg_iload (va := (0, k)) rfl rfl) ?_
    refine xg_t (xg_sip) ?_
    refine xg_t (xg_icT (u := k) (v := 320) rfl xnm0 xnm0 (xj_geT (by omega) (by omega))) ?_
    have e : k = 320 := by omega
    subst e
    exact K w f h hB xBut.rf (fun i hi hl => absurd hl (by omega)) (fun j _ => rfl)
  | n + 1, k, w, f, hn, h, hB, hs, hsB, hc, K => by
    refine xg_t (xg_blq rfl) ?_
    refine xg_t (xg_iload (va := (0, k)) rfl rfl) ?_
    refine xg_t (xg_sip) ?_
    refine xg_t (xg_icF (u := k) (v := 320) rfl xnm0 xnm0 (xj_geF (by omega) (by omega))) ?_
    refine xg_t (xg_aload (va := (2, 82)) rfl rfl) ?_
    refine xg_t (xg_getf (va := (2, 83)) hc rfl) ?_
    refine xg_t (xg_sip) ?_
    refine xg_t (xg_iload (va := (0, k)) rfl rfl) ?_
    refine xg_t (xg_iadd (u := 1020) (v := k) (z := 1020 + k) xnm0 xnm0 (by omega)) ?_
    refine xg_t (xg_aload (va := (2, 82)) rfl rfl) ?_
    refine xg_t (xg_getf (va := (2, 112)) hc rfl) ?_
    refine xg_t (xg_iload (va := (0, k)) rfl rfl) ?_
    refine xg_t (xg_ialdR (n := k) (u := r k) hs xnm0 (by omega) rfl) ?_
    refine xg_iastK (n := 1020 + k) (u := r k) h xnm0 xnm0 rfl (by omega) (fun w1 hr2 hb3 => ?_)
    refine xg_t (xg_iinc (u := k) (z := k + 1) (l1 := [(0, (2, 82))]) rfl rfl (by omega) rfl) ?_
    refine xg_t (xg_goto) ?_
    refine xg_t (xg_drop (l1 := [(0, (2, 82)), (1, (0, k + 1))]) (List.forall_mem_cons.mpr ⟨List.mem_cons_of_mem _ (List.mem_cons_self), List.forall_mem_cons.mpr ⟨List.mem_cons_self, fun _ h => absurd h List.not_mem_nil⟩⟩)) ?_
    refine cpRul n (k + 1) w1 (fun j => if j = 1020 + k then r k else f j) (by omega) hr2 (xrb (by have q := hsB k; omega) hB) (hs.but hb3 (by decide)) hsB (hb3.get (by decide) hc) (fun w2 f2 g1 g2 g3 g4 g5 => K w2 f2 g1 g2 (hb3.tr g3) (fun i hi hl => ?_) (fun j hj => ?_))
    · by_cases z : i = k
      · subst z
        rw [g5 _ (by omega)]
        exact if_pos rfl
      · exact g4 i (by omega) hl
    · rw [g5 j (by omega)]
      exact if_neg (by omega)
end XMC
end
