/-! the model: a line of each sort -/
theorem TKM.w14 {ir : Nat} {B : Nat → Nat} {nn p : Nat} {w w' : List (List xE)} (h : TKM ir B nn w p) (e2 : fld w' 82 2 = fld w 82 2) (e3 : fld w' 82 3 = fld w 82 3) (e4 : fld w' 82 4 = fld w 82 4) (e5 : fld w' 82 5 = fld w 82 5) (e6 : fld w' 82 6 = fld w 82 6) (e7 : fld w' 82 7 = fld w 82 7) (e8 : fld w' 82 8 = fld w 82 8) (e9 : fld w' 82 9 = fld w 82 9) : TKM ir B nn w' p := by
  unfold TKM
  rw [e2, e3, e4, e5, e6, e7, e8, e9]
  exact h
section XFME
variable {d : Nat} {w : List (List xE)} {bd : List (Nat × Nat)} {fc : List (Nat × Nat × Bool)} {rr : Nat × Nat}
set_option maxHeartbeats 60000000 in
theorem mALnX0 {B : Nat → Nat} {nn k p0 : Nat} {at_ : Nat} (hI : xMnv w) (hB : bsm w B nn) (hp0 : p0 = lnP B nn k) (hT : TKM 0 B nn w p0) (hS : MST B nn w k) (hk5 : k ≤ 500) (hs : slt B nn (lnP B nn k) = 0) (hat : at_ = tq B nn p0) : xTo (d + 7) mX12_aLine (43, [], [(2, (0, at_)), (1, (0, 0)), (0, (2, 82))], [], (w, bd, fc, 0, 0, rr)) (fun φ => ∃ w', xEnd 0 [] (w', bd, fc, 0, 0, rr) φ ∧ xMnv w' ∧ xFr [82, 83, 85, 86, 87] w w' ∧ (((∃ q, lnR B nn p0 = (false, q) ∧ WRG w' (tq B nn q)) ∨ ((lnR B nn p0).1 = true ∧ TKM 0 B nn w' (lnP B nn (k + 1)) ∧ MST B nn w' (k + 1))) ∧ K83 w w' ∧ fld w 82 14 ≤ fld w' 82 14)) := by
  refine xoCh82 (hI 82 (by decide) (by decide) : cp82 (wget w 82)) (fun f82_1 f82_3 f82_5 f82_7 f82_9 f82_11 f82_13 f82_15 f82_17 f82_19 f82_21 f82_22 f82_23 f82_25 f82_27 f82_29 h82_31 hb2 hb4 hb6 hb8 hb10 hb12 hb14 hb16 hb18 hb20 hb24 hb26 hb28 hb30 hb32 => ?_)
  refine xoI (hI 85 (by decide) (by decide) : cpI 7 52 4294967295 (wget w 85)) (fun g85_33 h85_34 hb35 => ?_)
  refine xoI (hI 86 (by decide) (by decide) : cpI 140 53 4294967295 (wget w 86)) (fun g86_36 h86_37 hb38 => ?_)
  refine xoI (hI 87 (by decide) (by decide) : cpI 20 54 4294967295 (wget w 87)) (fun g87_39 h87_40 hb41 => ?_)
  obtain ⟨⟨z10, z14, zF, zp⟩, hm, hR⟩ := id hS
  have hkc := lnC_k (B := B) (n := nn) (s := 0) (k := k)
  have hq0 : at_ ≤ 500 := by
    have z1 := tf_gt (B := B) (n := nn) (p := p0) (by rw [slt_kd (by rw [hp0, hs]; decide)]; decide)
    have z2 := hB.1
    omega
  refine xg_t (xg_blk (b := [(43, 1, 0, 0, 0, 0), (44, 3, 1, 12, 11, 17), (47, 1, 2, 1, 0, 0), (48, 1, 10, 0, 0, 0), (49, 1, 15, 3, 0, 0), (50, 1, 2, 3, 0, 0), (51, 1, 2, 1, 0, 0), (52, 3, 13, 194, 98, 193), (55, 3, 6, 64, 2, 0), (58, 1, 0, 0, 0, 0), (59, 1, 3, 3, 0, 0), (60, 1, 2, 2, 0, 0), (61, 3, 13, 115, 96, 186)]) rfl) ?_
  refine xg_t (xg_aload (va := (2, 82)) rfl rfl) ?_
  refine xg_t (xg_getf (va := (2, 85)) h82_31 rfl) ?_
  refine xg_t (xg_iload (va := (0, 0)) rfl rfl) ?_
  refine xg_ialdB (n := 0) (B := 4294967295) h85_34 (hb35) xnm0 (by omega) (fun u42 hu43 he44 => ?_)
  have hK45 : u42 = lnC B nn 0 k := (((rwv_of h85_34 (by decide)).trans he44).symm).trans (hm 0 (by decide))
  have hl46 : u42 ≤ 500 := by omega
  refine xg_t (xg_istore (l1 := [(2, (0, at_)), (1, (0, 0)), (0, (2, 82))]) rfl rfl rfl) ?_
  have jn47 : ∀ (w48 : List (List xE)), xMnv w48 → xFr [82, 83, 85, 86, 87] w w48 → (FP w48 (mf1 B nn k 0 (flA B nn k)) ∧ fld w48 82 10 = 0 ∧ TKM 0 B nn w48 p0 ∧ fld w48 82 14 = k ∧ K83 w w48 ∧ wget w48 85 = wget w 85 ∧ wget w48 86 = wget w 86 ∧ wget w48 87 = wget w 87) → xTo (d + 7) mX12_aLine (64, [], [(0, (2, 82)), (1, (0, 0)), (2, (0, at_)), (3, (0, u42))], [], (w48, bd, fc, 0, 0, rr)) (fun φ => ∃ w', xEnd 0 [] (w', bd, fc, 0, 0, rr) φ ∧ xMnv w' ∧ xFr [82, 83, 85, 86, 87] w w' ∧ (((∃ q, lnR B nn p0 = (false, q) ∧ WRG w' (tq B nn q)) ∨ ((lnR B nn p0).1 = true ∧ TKM 0 B nn w' (lnP B nn (k + 1)) ∧ MST B nn w' (k + 1))) ∧ K83 w w' ∧ fld w 82 14 ≤ fld w' 82 14)) := by
    intro w48 hI49 hF50 he51
    obtain ⟨hj52, hj53, hj54, hj55, hj56, hj57, hj58, hj59⟩ := he51
    refine xg_t (xg_blk (b := [(64, 1, 0, 0, 0, 0), (65, 3, 13, 110, 96, 190), (68, 1, 2, 1, 0, 0), (69, 39, 33, 362, 0, 9)]) rfl) ?_
    refine xg_t (xg_aload (va := (2, 82)) rfl rfl) ?_
    obtain ⟨⟨ht60, ht61, ht62, ht63, ht64, ht65⟩, -⟩ := id hj54
    have hk66 := hj53
    have hk67 := hj55
    refine xoCh82 (hI49 82 (by decide) (by decide) : cp82 (wget w48 82)) (fun f82_68 f82_70 f82_72 f82_74 f82_76 f82_78 f82_80 f82_82 f82_84 f82_86 f82_88 f82_89 f82_90 f82_92 f82_94 f82_96 h82_98 hb69 hb71 hb73 hb75 hb77 hb79 hb81 hb83 hb85 hb87 hb91 hb93 hb95 hb97 hb99 => ?_)
    refine xg_cVv mX12_advance (vs := []) (rest := []) (cn1 := 0) (sl1 := 0) rfl (mAdvX (hI49) (hB.fr (fun j h4 h9 => hj56 j (by omega) (by omega) (by omega))) ht60 ht61 (by rw [ht62]; exact tf_le ht65)) rfl h82_98 rfl rfl rfl rfl rfl rfl (fun w100 hq101 => ?_)
    obtain ⟨hI102, hF103, hx104⟩ := hq101
    obtain ⟨hz105, hz106, hz107⟩ := hx104
    rw [ht62] at hz105
    clear ht60 ht61 ht62 ht63 ht64 ht65
    obtain ⟨p_108, hp109⟩ : ∃ x, x = tf B nn p0 := ⟨_, rfl⟩
    rw [← hp109] at hz105
    have k10_110 := hz106.trans hk66
    have k14_111 := hz107.trans hk67
    clear hz106 hz107 hk66 hk67
    have ln112 : lnR B nn p0 = lnN B nn 0 3 p_108 := by rw [hp109]; exact lnR_go (by rw [hp0]; exact hs) (by decide)
    refine xg_t (xg_iload (va := (0, 0)) rfl rfl) ?_
    refine xg_t (xg_swt (ks := [(0, 108), (1, 116), (2, 180), (3, 221), (4, 273), (5, 326)]) (u := 0) (z := 108) rfl rfl rfl xnm0 (xsw_y rfl)) ?_
    refine xg_t (xg_blk (b := [(108, 1, 0, 0, 0, 0), (109, 1, 2, 3, 0, 0), (110, 3, 13, 106, 96, 204), (113, 3, 8, 394, 0, 0)]) rfl) ?_
    refine xg_t (xg_aload (va := (2, 82)) rfl rfl) ?_
    refine xg_t (xg_iload (va := (0, u42)) rfl rfl) ?_
    have hk113 := k14_111
    refine xoCh82 (hI102 82 (by decide) (by decide) : cp82 (wget w100 82)) (fun f82_114 f82_116 f82_118 f82_120 f82_122 f82_124 f82_126 f82_128 f82_130 f82_132 f82_134 f82_135 f82_136 f82_138 f82_140 f82_142 h82_144 hb115 hb117 hb119 hb121 hb123 hb125 hb127 hb129 hb131 hb133 hb137 hb139 hb141 hb143 hb145 => ?_)
    refine xg_cVv mX12_aLayer (vs := [(0, u42)]) (rest := []) (cn1 := 0) (sl1 := 0) rfl (mALayX (hI102) (by omega) (hB.fr (fun j h4 h9 => (hj56.tr (K83.fr hF103 (by decide))) j (by omega) (by omega) (by omega))) k10_110 hz105 (hj52.k83 (rwv_eq (hF103.1 83 (by decide))) (rwv_eq (hF103.1 83 (by decide))))) rfl h82_144 rfl rfl rfl rfl rfl rfl (fun w146 hq147 => ?_)
    obtain ⟨hI148, hF149, hx150⟩ := hq147
    obtain ⟨hx151, h14_152, k8_153, os_154⟩ := hx150
    have k14_155 := h14_152.trans hk113
    rcases hx151 with ⟨q_156, lf157, hW158⟩ | ⟨p_159, p_160, p_161, p_162, hp163, hp164, hp165, hp166, hk167, hk168, hk169, hk170, ln171, k10_172, hT_173, hF_174, hc_175⟩
    · have lf176 : lnR B nn p0 = (false, q_156) := ln112.trans lf157
      refine xg_t (xg_goto) ?_
      refine xg_t (xg_blk (b := [(394, 1, 0, 0, 0, 0), (395, 3, 1, 12, 10, 180), (398, 3, 7, 416, 1, 0), (401, 1, 0, 0, 0, 0), (402, 3, 1, 12, 7, 151), (405, 1, 3, 2, 0, 0), (406, 3, 6, 416, 1, 0), (409, 1, 0, 0, 0, 0), (410, 3, 13, 110, 96, 190), (413, 3, 8, 420, 0, 0)]) rfl) ?_
      refine xg_t (xg_aload (va := (2, 82)) rfl rfl) ?_
      refine xoCh82 (hI148 82 (by decide) (by decide) : cp82 (wget w146 82)) (fun f82_177 f82_179 f82_181 f82_183 f82_185 f82_187 f82_189 f82_191 f82_193 f82_195 f82_197 f82_198 f82_199 f82_201 f82_203 f82_205 h82_207 hb178 hb180 hb182 hb184 hb186 hb188 hb190 hb192 hb194 hb196 hb200 hb202 hb204 hb206 hb208 => ?_)
      refine xg_t (xg_getf (va := (0, f82_193)) h82_207 rfl) ?_
      have hf209 : fld w146 82 10 = f82_193 := fld_of h82_207
      have hk210 : fld w146 82 10 ≠ 0 := (by have q := hW158.1; omega)
      refine xg_t (xg_ifT (u := f82_193) rfl xnm0 (xj_neT (by omega))) ?_
      refine xg_t (xg_blk (b := [(416, 1, 0, 0, 0, 0), (417, 3, 13, 140, 96, 183)]) rfl) ?_
      refine xg_t (xg_aload (va := (2, 82)) rfl rfl) ?_
      refine xg_cVv mX12_ends (vs := []) (rest := []) (cn1 := 0) (sl1 := 0) rfl (mEndsW (hI148) (by have q := hW158.1; omega)) rfl h82_207 rfl rfl rfl rfl rfl rfl (fun w211 hq212 => ?_)
      obtain ⟨hI213, hF214⟩ := hq212
      refine xg_t (xg_blk (b := [(420, 1, 0, 0, 0, 0), (421, 3, 1, 12, 11, 17), (424, 1, 2, 1, 0, 0), (425, 1, 39, 0, 0, 0), (426, 1, 10, 0, 0, 0), (427, 1, 3, 1, 0, 0), (428, 1, 11, 0, 0, 0), (429, 1, 17, 0, 0, 0), (430, 1, 0, 0, 0, 0), (431, 1, 19, 0, 0, 0), (432, 3, 1, 12, 14, 212), (435, 1, 3, 1, 0, 0), (436, 1, 11, 0, 0, 0), (437, 3, 14, 12, 14, 212), (440, 1, 12, 0, 0, 0)]) rfl) ?_
      have hf215 : fld w211 82 2 = f82_177 := fld_of (hF214.get (by decide) h82_207)
      have hf216 : fld w211 82 3 = f82_179 := fld_of (hF214.get (by decide) h82_207)
      have hf217 : fld w211 82 4 = f82_181 := fld_of (hF214.get (by decide) h82_207)
      have hf218 : fld w211 82 5 = f82_183 := fld_of (hF214.get (by decide) h82_207)
      have hf219 : fld w211 82 6 = f82_185 := fld_of (hF214.get (by decide) h82_207)
      have hf220 : fld w211 82 7 = f82_187 := fld_of (hF214.get (by decide) h82_207)
      have hf221 : fld w211 82 8 = f82_189 := fld_of (hF214.get (by decide) h82_207)
      have hf222 : fld w211 82 9 = f82_191 := fld_of (hF214.get (by decide) h82_207)
      have hf223 : fld w211 82 10 = f82_193 := fld_of (hF214.get (by decide) h82_207)
      have hf224 : fld w211 82 14 = f82_195 := fld_of (hF214.get (by decide) h82_207)
      have hk225 := ((fld_eq (j := 14) (hF214.1 82 (by decide))).trans k14_155)
      have hl226 : f82_195 ≤ 500 := by omega
      have hk227 : WRG w211 (tq B nn q_156) := ⟨(fld_eq (j := 10) (hF214.1 82 (by decide))).trans hW158.1, (rwv_eq (j := 16) (hF214.1 83 (by decide))).trans hW158.2.1, (rwv_eq (j := 17) (hF214.1 83 (by decide))).trans hW158.2.2⟩
      refine xg_t (xg_aload (va := (2, 82)) rfl rfl) ?_
      refine xg_t (xg_getf (va := (2, 85)) (hF214.get (by decide) h82_207) rfl) ?_
      refine xg_t (xg_iload (va := (0, 0)) rfl rfl) ?_
      refine xg_t (xg_dup2 rfl) ?_
      refine xoI (hI213 85 (by decide) (by decide) : cpI 7 52 4294967295 (wget w211 85)) (fun g85_228 h85_229 hb230 => ?_)
      refine xg_ialdB (n := 0) (B := 4294967295) h85_229 (hb230) xnm0 (by omega) (fun u231 hu232 he233 => ?_)
      have hK234 : u231 = u42 := (((rwv_of h85_229 (by decide)).trans he233).symm.trans (rwv_eq ((hF214.1 85 (by decide)).trans ((hF149.1 85 (by decide)).trans ((hF103.1 85 (by decide)).trans hj57))))).trans ((hm 0 (by decide)).trans hK45.symm)
      have hl235 : u231 ≤ 500 := by omega
      refine xg_t (xg_const) ?_
      refine xg_t (xg_iadd (u := u231) (v := 1) (z := u231 + 1) xnm0 xnm0 (by omega)) ?_
      refine xg_iastK (n := 0) (u := u231 + 1) h85_229 xnm0 xnm0 rfl (by omega) (fun w236 hr237 hb238 => ?_)
      refine xg_t (xg_aload (va := (2, 82)) rfl rfl) ?_
      refine xg_t (xg_dup rfl) ?_
      refine xg_t (xg_getf (va := (0, f82_195)) (hb238.get (by decide) (hF214.get (by decide) h82_207)) rfl) ?_
      have hn239 := id hb196
      unfold xHid at hn239
      refine xg_t (xg_const) ?_
      refine xg_t (xg_iadd (u := f82_195) (v := 1) (z := f82_195 + 1) xnm0 xnm0 (by omega)) ?_
      refine xg_putI (fl1 := [(2, 83), (2, 84), (0, f82_177), (0, f82_179), (0, f82_181), (0, f82_183), (0, f82_185), (0, f82_187), (0, f82_189), (0, f82_191), (0, f82_193), (2, 85), (2, 86), (2, 87), (0, f82_195 + 1), (2, 88), (2, 89), (2, 90), (2, 91), (2, 92), (2, 93), (2, 94), (4, f82_197), (4, f82_198), (0, f82_199), (2, 95), (2, 96), (2, 97), (2, 98), (2, 99), (2, 100), (2, 101), (2, 102), (0, f82_201), (2, 103), (2, 104), (2, 105), (2, 106), (2, 107), (2, 108), (2, 109), (0, f82_203), (0, f82_205), (2, 110), (2, 111), (2, 112), (2, 113)]) (hb238.get (by decide) (hF214.get (by decide) h82_207)) rfl rfl rfl (fun w240 hk241 hb242 => ?_)
      have hf243 : fld w240 82 2 = f82_177 := fld_of hk241
      have hf244 : fld w240 82 3 = f82_179 := fld_of hk241
      have hf245 : fld w240 82 4 = f82_181 := fld_of hk241
      have hf246 : fld w240 82 5 = f82_183 := fld_of hk241
      have hf247 : fld w240 82 6 = f82_185 := fld_of hk241
      have hf248 : fld w240 82 7 = f82_187 := fld_of hk241
      have hf249 : fld w240 82 8 = f82_189 := fld_of hk241
      have hf250 : fld w240 82 9 = f82_191 := fld_of hk241
      have hf251 : fld w240 82 10 = f82_193 := fld_of hk241
      have hf252 : fld w240 82 14 = f82_195 + 1 := fld_of hk241
      exact xg_e ⟨w240, ⟨rfl, rfl⟩, xMnv.up (S := [85, 82]) hI213 ((xFr.of (S := [85, 82]) hb238 (by decide)).tr (xFr.of (S := [85, 82]) hb242 (by decide))) (List.forall_mem_cons.mpr ⟨(show cpI 7 52 4294967295 (wget w240 85) from ⟨_, (hr237.but hb242 (by decide)), xrb (by omega) (hb230)⟩), List.forall_mem_cons.mpr ⟨(show cp82 (wget w240 82) from ⟨f82_177, f82_179, f82_181, f82_183, f82_185, f82_187, f82_189, f82_191, f82_193, f82_195 + 1, f82_197, f82_198, f82_199, f82_201, f82_203, f82_205, hk241, by omega, hb180, by omega, by omega, hb186, by omega, hb190, hb192, by omega, by omega, hb200, hb202, hb204, hb206, by omega⟩), fun _ h => absurd h List.not_mem_nil⟩⟩), ((((hF50.tr (hF103.up (by decide))).tr (hF149.up (by decide))).tr (hF214.up (by decide))).tr ((xFr.of (S := [82, 83, 85, 86, 87]) hb238 (by decide)).tr (xFr.of (S := [82, 83, 85, 86, 87]) hb242 (by decide)))), ⟨Or.inl ⟨q_156, lf176, ⟨by have z := hk227.1; omega, (rwv_eq (j := 16) ((hb242.1 83 (by decide)).trans (hb238.1 83 (by decide)))).trans hk227.2.1, (rwv_eq (j := 17) ((hb242.1 83 (by decide)).trans (hb238.1 83 (by decide)))).trans hk227.2.2⟩⟩, (((((hj56.tr (K83.fr hF103 (by decide))).tr k8_153).tr (K83.fr hF214 (by decide))).tr (K83.but hb238 (by decide))).tr (K83.but hb242 (by decide))), by omega⟩⟩
    · have ln253 : lnR B nn p0 = lnS B nn p_162 := by exact ln112.trans ln171
      have vp254 : vlp B nn (lnP B nn k) 0 = p_108 := by rw [← hp0]; exact hp109.symm
      have vl255 : vln B nn (lnP B nn k) 0 = tnu B nn p_108 := by
        show (if (0 : Nat) = 3 then _ else tnu B nn (vlp B nn (lnP B nn k) 0)) = _
        rw [if_neg (by decide), vp254]
      have vp256 : vlp B nn (lnP B nn k) 1 = p_159 := by show tf B nn (vlp B nn (lnP B nn k) 0) = p_159; rw [vp254]; exact hp163.symm
      have vl257 : vln B nn (lnP B nn k) 1 = tnu B nn p_159 := by
        show (if (1 : Nat) = 3 then _ else tnu B nn (vlp B nn (lnP B nn k) 1)) = _
        rw [if_neg (by decide), vp256]
      have vp258 : vlp B nn (lnP B nn k) 2 = p_160 := by show tf B nn (vlp B nn (lnP B nn k) 1) = p_160; rw [vp256]; exact hp164.symm
      have vl259 : vln B nn (lnP B nn k) 2 = tnu B nn p_160 := by
        show (if (2 : Nat) = 3 then _ else tnu B nn (vlp B nn (lnP B nn k) 2)) = _
        rw [if_neg (by decide), vp258]
      have vp260 : vlp B nn (lnP B nn k) 3 = p_161 := by show tf B nn (vlp B nn (lnP B nn k) 2) = p_161; rw [vp258]; exact hp165.symm
      have vl261 : vln B nn (lnP B nn k) 3 = (if twk B nn p_161 = 20325509 then 1 else 0) := by
        show (if (3 : Nat) = 3 then (if twk B nn (vlp B nn (lnP B nn k) 3) = 20325509 then 1 else 0) else _) = _
        rw [if_pos rfl, vp260]
      have he262 : (chk (chk (chk (mf1 B nn k 0 (flA B nn k)) 1 99 (tnu B nn p_108) (tq B nn p_108)) 1 99 (tnu B nn p_159) (tq B nn p_159)) 1 99 (tnu B nn p_160) (tq B nn p_160)) = mfl B nn k 0 (flA B nn k) := by
        show _ = chk (chk (chk (mf1 B nn k 0 (flA B nn k)) 1 99 (vln B nn (lnP B nn k) 0) (tq B nn (vlp B nn (lnP B nn k) 0))) 1 99 (vln B nn (lnP B nn k) 1) (tq B nn (vlp B nn (lnP B nn k) 1))) 1 99 (vln B nn (lnP B nn k) 2) (tq B nn (vlp B nn (lnP B nn k) 2))
        rw [vl255, vl257, vl259, vp254, vp256, vp258]
      rw [he262] at hF_174
      refine xg_t (xg_goto) ?_
      refine xg_t (xg_blk (b := [(394, 1, 0, 0, 0, 0), (395, 3, 1, 12, 10, 180), (398, 3, 7, 416, 1, 0), (401, 1, 0, 0, 0, 0), (402, 3, 1, 12, 7, 151), (405, 1, 3, 2, 0, 0), (406, 3, 6, 416, 1, 0), (409, 1, 0, 0, 0, 0), (410, 3, 13, 110, 96, 190), (413, 3, 8, 420, 0, 0)]) rfl) ?_
      refine xg_t (xg_aload (va := (2, 82)) rfl rfl) ?_
      refine xoCh82 (hI148 82 (by decide) (by decide) : cp82 (wget w146 82)) (fun f82_263 f82_265 f82_267 f82_269 f82_271 f82_273 f82_275 f82_277 f82_279 f82_281 f82_283 f82_284 f82_285 f82_287 f82_289 f82_291 h82_293 hb264 hb266 hb268 hb270 hb272 hb274 hb276 hb278 hb280 hb282 hb286 hb288 hb290 hb292 hb294 => ?_)
      refine xg_t (xg_getf (va := (0, f82_279)) h82_293 rfl) ?_
      have hf295 : fld w146 82 10 = f82_279 := fld_of h82_293
      have hk296 : fld w146 82 10 = 0 := k10_172
      refine xg_t (xg_ifF (u := f82_279) rfl xnm0 (xj_neF (by omega))) ?_
      obtain ⟨⟨ht297, ht298, ht299, ht300, ht301, ht302⟩, ht303, ht304, ht305⟩ := id hT_173
      have hf306 : fld w146 82 6 = f82_271 := fld_of h82_293
      have hf307 : fld w146 82 7 = f82_273 := fld_of h82_293
      have hf308 : fld w146 82 8 = f82_275 := fld_of h82_293
      have hf309 : fld w146 82 9 = f82_277 := fld_of h82_293
      have hf310 : fld w146 82 3 = f82_265 := fld_of h82_293
      have hmk311 := mkd_of (ir := 0) (B := B) (n := nn) (p := p_162)
      refine xg_t (xg_aload (va := (2, 82)) rfl rfl) ?_
      refine xg_t (xg_getf (va := (0, f82_273)) h82_293 rfl) ?_
      refine xg_t (xg_const) ?_
      by_cases hc312 : f82_273 = 2
      · refine xg_t (xg_icF (u := f82_273) (v := 2) rfl xnm0 xnm0 (xj_neF hc312)) ?_
        have sg3131 : tkd B nn p_162 = 3 := by omega
        have sg3132 : B (tq B nn p_162) = 59 := by omega
        refine xg_t (xg_aload (va := (2, 82)) rfl rfl) ?_
        clear ht297 ht298 ht299 ht300 ht301 ht302 ht303 ht304 ht305 hf306 hf307 hf308 hf309 hf310 hmk311
        obtain ⟨⟨ht314, ht315, ht316, ht317, ht318, ht319⟩, -⟩ := id hT_173
        have hk320 := k10_172
        have hk321 := k14_155
        refine xg_cVv mX12_advance (vs := []) (rest := []) (cn1 := 0) (sl1 := 0) rfl (mAdvX (hI148) (hB.fr (fun j h4 h9 => ((hj56.tr (K83.fr hF103 (by decide))).tr k8_153) j (by omega) (by omega) (by omega))) ht314 ht315 (by rw [ht316]; exact tf_le ht319)) rfl h82_293 rfl rfl rfl rfl rfl rfl (fun w322 hq323 => ?_)
        obtain ⟨hI324, hF325, hx326⟩ := hq323
        obtain ⟨hz327, hz328, hz329⟩ := hx326
        rw [ht316] at hz327
        clear ht314 ht315 ht316 ht317 ht318 ht319
        obtain ⟨p_330, hp331⟩ : ∃ x, x = tf B nn p_162 := ⟨_, rfl⟩
        rw [← hp331] at hz327
        have k10_332 := hz328.trans hk320
        have k14_333 := hz329.trans hk321
        clear hz328 hz329 hk320 hk321
        have ln334 : lnR B nn p0 = (true, p_330) := by rw [hp331]; exact ln253.trans (lnS_y ⟨sg3131, sg3132⟩)
        refine xg_t (xg_goto) ?_
        refine xg_t (xg_blk (b := [(420, 1, 0, 0, 0, 0), (421, 3, 1, 12, 11, 17), (424, 1, 2, 1, 0, 0), (425, 1, 39, 0, 0, 0), (426, 1, 10, 0, 0, 0), (427, 1, 3, 1, 0, 0), (428, 1, 11, 0, 0, 0), (429, 1, 17, 0, 0, 0), (430, 1, 0, 0, 0, 0), (431, 1, 19, 0, 0, 0), (432, 3, 1, 12, 14, 212), (435, 1, 3, 1, 0, 0), (436, 1, 11, 0, 0, 0), (437, 3, 14, 12, 14, 212), (440, 1, 12, 0, 0, 0)]) rfl) ?_
        refine xoCh82 (hI324 82 (by decide) (by decide) : cp82 (wget w322 82)) (fun f82_335 f82_337 f82_339 f82_341 f82_343 f82_345 f82_347 f82_349 f82_351 f82_353 f82_355 f82_356 f82_357 f82_359 f82_361 f82_363 h82_365 hb336 hb338 hb340 hb342 hb344 hb346 hb348 hb350 hb352 hb354 hb358 hb360 hb362 hb364 hb366 => ?_)
        have hf367 : fld w322 82 2 = f82_335 := fld_of h82_365
        have hf368 : fld w322 82 3 = f82_337 := fld_of h82_365
        have hf369 : fld w322 82 4 = f82_339 := fld_of h82_365
        have hf370 : fld w322 82 5 = f82_341 := fld_of h82_365
        have hf371 : fld w322 82 6 = f82_343 := fld_of h82_365
        have hf372 : fld w322 82 7 = f82_345 := fld_of h82_365
        have hf373 : fld w322 82 8 = f82_347 := fld_of h82_365
        have hf374 : fld w322 82 9 = f82_349 := fld_of h82_365
        have hf375 : fld w322 82 10 = f82_351 := fld_of h82_365
        have hf376 : fld w322 82 14 = f82_353 := fld_of h82_365
        have hk377 := k14_333
        have hl378 : f82_353 ≤ 500 := by omega
        have hk379 := hz327
        have hk380 := (hF_174.k83 (rwv_eq (hF325.1 83 (by decide))) (rwv_eq (hF325.1 83 (by decide))))
        have hk381 := k10_332
        refine xg_t (xg_aload (va := (2, 82)) rfl rfl) ?_
        refine xg_t (xg_getf (va := (2, 85)) h82_365 rfl) ?_
        refine xg_t (xg_iload (va := (0, 0)) rfl rfl) ?_
        refine xg_t (xg_dup2 rfl) ?_
        refine xoI (hI324 85 (by decide) (by decide) : cpI 7 52 4294967295 (wget w322 85)) (fun g85_382 h85_383 hb384 => ?_)
        refine xg_ialdB (n := 0) (B := 4294967295) h85_383 (hb384) xnm0 (by omega) (fun u385 hu386 he387 => ?_)
        have hK388 : u385 = u42 := (((rwv_of h85_383 (by decide)).trans he387).symm.trans (rwv_eq ((hF325.1 85 (by decide)).trans ((hF149.1 85 (by decide)).trans ((hF103.1 85 (by decide)).trans hj57))))).trans ((hm 0 (by decide)).trans hK45.symm)
        have hl389 : u385 ≤ 500 := by omega
        refine xg_t (xg_const) ?_
        refine xg_t (xg_iadd (u := u385) (v := 1) (z := u385 + 1) xnm0 xnm0 (by omega)) ?_
        refine xg_iastK (n := 0) (u := u385 + 1) h85_383 xnm0 xnm0 rfl (by omega) (fun w390 hr391 hb392 => ?_)
        refine xg_t (xg_aload (va := (2, 82)) rfl rfl) ?_
        refine xg_t (xg_dup rfl) ?_
        refine xg_t (xg_getf (va := (0, f82_353)) (hb392.get (by decide) h82_365) rfl) ?_
        have hn393 := id hb354
        unfold xHid at hn393
        refine xg_t (xg_const) ?_
        refine xg_t (xg_iadd (u := f82_353) (v := 1) (z := f82_353 + 1) xnm0 xnm0 (by omega)) ?_
        refine xg_putI (fl1 := [(2, 83), (2, 84), (0, f82_335), (0, f82_337), (0, f82_339), (0, f82_341), (0, f82_343), (0, f82_345), (0, f82_347), (0, f82_349), (0, f82_351), (2, 85), (2, 86), (2, 87), (0, f82_353 + 1), (2, 88), (2, 89), (2, 90), (2, 91), (2, 92), (2, 93), (2, 94), (4, f82_355), (4, f82_356), (0, f82_357), (2, 95), (2, 96), (2, 97), (2, 98), (2, 99), (2, 100), (2, 101), (2, 102), (0, f82_359), (2, 103), (2, 104), (2, 105), (2, 106), (2, 107), (2, 108), (2, 109), (0, f82_361), (0, f82_363), (2, 110), (2, 111), (2, 112), (2, 113)]) (hb392.get (by decide) h82_365) rfl rfl rfl (fun w394 hk395 hb396 => ?_)
        have hf397 : fld w394 82 2 = f82_335 := fld_of hk395
        have hf398 : fld w394 82 3 = f82_337 := fld_of hk395
        have hf399 : fld w394 82 4 = f82_339 := fld_of hk395
        have hf400 : fld w394 82 5 = f82_341 := fld_of hk395
        have hf401 : fld w394 82 6 = f82_343 := fld_of hk395
        have hf402 : fld w394 82 7 = f82_345 := fld_of hk395
        have hf403 : fld w394 82 8 = f82_347 := fld_of hk395
        have hf404 : fld w394 82 9 = f82_349 := fld_of hk395
        have hf405 : fld w394 82 10 = f82_351 := fld_of hk395
        have hf406 : fld w394 82 14 = f82_353 + 1 := fld_of hk395
        have he407 : lnP B nn (k + 1) = p_330 := by
          show (lnR B nn (lnP B nn k)).2 = _
          rw [← hp0, ln334]
        have hT408 : TKM 0 B nn w394 p_330 := hk379.w14 (by omega) (by omega) (by omega) (by omega) (by omega) (by omega) (by omega) (by omega)
        have hF409 : FP w394 (mfl B nn k 0 (flA B nn k)) := hk380.k83 (rwv_eq ((hb396.1 83 (by decide)).trans (hb392.1 83 (by decide)))) (rwv_eq ((hb396.1 83 (by decide)).trans (hb392.1 83 (by decide))))
        have hg411 := (tf_gt (B := B) (n := nn) (p := p_108) (by omega)).2
        have hg412 := tq_ge (B := B) (n := nn) (p := p_108)
        have hg413 := (tf_gt (B := B) (n := nn) (p := p_159) (by omega)).2
        have hg414 := tq_ge (B := B) (n := nn) (p := p_159)
        have hg415 := (tf_gt (B := B) (n := nn) (p := p_160) (by omega)).2
        have hg416 := tq_ge (B := B) (n := nn) (p := p_160)
        have hg417 := (tf_gt (B := B) (n := nn) (p := p0) (by rw [slt_kd (by rw [hp0, hs]; decide)]; decide)).2
        have hg418 := (tf_gt (B := B) (n := nn) (p := p_161) (by omega)).2
        have hg419 := tq_ge (B := B) (n := nn) (p := p_161)
        have hg420 := (tf_gt (B := B) (n := nn) (p := p_162) (by omega)).2
        have hg421 := tq_ge (B := B) (n := nn) (p := p_162)
        have hg422 := tq_ge (B := B) (n := nn) (p := p_330)
        have hp1x := hp109
        have hO410 : ORD B nn k 0 (tq B nn (lnP B nn (k + 1))) := by
          unfold ORD
          rw [he407, vp254, vp256, ← hp0]
          have v2 := congrArg (tq B nn) vp258
          have v3 : tq B nn (vlp B nn p0 2) = tq B nn p_160 := by rw [hp0]; exact v2
          exact ⟨by omega, by omega, fun _ => by omega, by omega, fun _ => by omega⟩
        have hM423 : rwv w394 85 0 = lnC B nn 0 k + 1 := (rwv_of (hr391.but hb396 (by decide)) (by decide)).trans ((if_pos rfl).trans (by omega))
        have hM424 : ∀ s, s < 7 → s ≠ 0 → rwv w394 85 s = rwv w 85 s := fun s hs hn => (rwv_of (hr391.but hb396 (by decide)) hs).trans ((if_neg hn).trans ((rwv_of h85_383 hs).symm.trans (rwv_eq ((hF325.1 85 (by decide)).trans ((hF149.1 85 (by decide)).trans ((hF103.1 85 (by decide)).trans hj57))))))
        have hr425 : lnC B nn 0 k < 6 → ∀ t, t < 4 → XM w394 0 (lnC B nn 0 k) t = vln B nn (lnP B nn k) t := fun hlt t ht => by
          rcases (show t = 0 ∨ t = 1 ∨ t = 2 ∨ t = 3 by omega) with rfl | rfl | rfl | rfl
          · show rwv w394 86 (20 + 4 * lnC B nn 0 k + 0) = _
            rw [show 20 + 4 * lnC B nn 0 k + 0 = 20 + 4 * u42 + 0 by omega]
            exact ((rwv_eq (hb396.1 86 (by decide))).trans ((rwv_eq (hb392.1 86 (by decide))).trans (rwv_eq (hF325.1 86 (by decide))))).trans (((hc_175 (by omega)).1).trans vl255.symm)
          · show rwv w394 86 (20 + 4 * lnC B nn 0 k + 1) = _
            rw [show 20 + 4 * lnC B nn 0 k + 1 = 20 + 4 * u42 + 1 by omega]
            exact ((rwv_eq (hb396.1 86 (by decide))).trans ((rwv_eq (hb392.1 86 (by decide))).trans (rwv_eq (hF325.1 86 (by decide))))).trans (((hc_175 (by omega)).2.1).trans vl257.symm)
          · show rwv w394 86 (20 + 4 * lnC B nn 0 k + 2) = _
            rw [show 20 + 4 * lnC B nn 0 k + 2 = 20 + 4 * u42 + 2 by omega]
            exact ((rwv_eq (hb396.1 86 (by decide))).trans ((rwv_eq (hb392.1 86 (by decide))).trans (rwv_eq (hF325.1 86 (by decide))))).trans (((hc_175 (by omega)).2.2.1).trans vl259.symm)
          · show rwv w394 86 (20 + 4 * lnC B nn 0 k + 3) = _
            rw [show 20 + 4 * lnC B nn 0 k + 3 = 20 + 4 * u42 + 3 by omega]
            exact ((rwv_eq (hb396.1 86 (by decide))).trans ((rwv_eq (hb392.1 86 (by decide))).trans (rwv_eq (hF325.1 86 (by decide))))).trans (((hc_175 (by omega)).2.2.2).trans vl261.symm)
        have ho426 : ∀ j, (j < 20 + 4 * lnC B nn 0 k ∨ 20 + 4 * (lnC B nn 0 k + 1) ≤ j) → j < 140 → rwv w394 86 j = rwv w 86 j := fun j hj hl => ((rwv_eq (hb396.1 86 (by decide))).trans ((rwv_eq (hb392.1 86 (by decide))).trans ((rwv_eq (hF325.1 86 (by decide))).trans ((os_154 j (by omega) hl).trans ((rwv_eq (hF103.1 86 (by decide))).trans (rwv_eq hj58))))))
        have ha427 : ∀ j, j < 20 → rwv w394 87 j = rwv w 87 j := fun j _ => rwv_eq ((hb396.1 87 (by decide)).trans ((hb392.1 87 (by decide)).trans ((hF325.1 87 (by decide)).trans ((hF149.1 87 (by decide)).trans ((hF103.1 87 (by decide)).trans hj59)))))
        have hM428 := MSTok0 hS hs (by have z := hk381; omega) (by omega) hF409 hO410 hM423 hM424 hr425 ho426 ha427
        exact xg_e ⟨w394, ⟨rfl, rfl⟩, xMnv.up (S := [85, 82]) hI324 ((xFr.of (S := [85, 82]) hb392 (by decide)).tr (xFr.of (S := [85, 82]) hb396 (by decide))) (List.forall_mem_cons.mpr ⟨(show cpI 7 52 4294967295 (wget w394 85) from ⟨_, (hr391.but hb396 (by decide)), xrb (by omega) (hb384)⟩), List.forall_mem_cons.mpr ⟨(show cp82 (wget w394 82) from ⟨f82_335, f82_337, f82_339, f82_341, f82_343, f82_345, f82_347, f82_349, f82_351, f82_353 + 1, f82_355, f82_356, f82_357, f82_359, f82_361, f82_363, hk395, by omega, hb338, by omega, by omega, hb344, by omega, hb348, hb350, by omega, by omega, hb358, hb360, hb362, hb364, by omega⟩), fun _ h => absurd h List.not_mem_nil⟩⟩), ((((hF50.tr (hF103.up (by decide))).tr (hF149.up (by decide))).tr (hF325.up (by decide))).tr ((xFr.of (S := [82, 83, 85, 86, 87]) hb392 (by decide)).tr (xFr.of (S := [82, 83, 85, 86, 87]) hb396 (by decide)))), ⟨Or.inr ⟨by rw [ln334], by rw [he407]; exact hT408, hM428⟩, (((((hj56.tr (K83.fr hF103 (by decide))).tr k8_153).tr (K83.fr hF325 (by decide))).tr (K83.but hb392 (by decide))).tr (K83.but hb396 (by decide))), by omega⟩⟩
      · refine xg_t (xg_icT (u := f82_273) (v := 2) rfl xnm0 xnm0 (xj_neT hc312)) ?_
        refine xg_t (xg_blk (b := [(416, 1, 0, 0, 0, 0), (417, 3, 13, 140, 96, 183)]) rfl) ?_
        have lf429n : ¬ (tkd B nn p_162 = 3 ∧ B (tq B nn p_162) = 59) := by omega
        have lf429 : lnR B nn p0 = (false, p_162) := ln253.trans (lnS_n lf429n)
        refine xg_t (xg_aload (va := (2, 82)) rfl rfl) ?_
        have hk430 := k14_155
        have hk431 := hT_173.1.2.2.2.1
        clear ht297 ht298 ht299 ht300 ht301 ht302 ht303 ht304 ht305 hf306 hf307 hf308 hf309 hf310 hmk311
        refine xg_cVv mX12_ends (vs := []) (rest := []) (cn1 := 0) (sl1 := 0) rfl (mEndsX (hI148) k10_172) rfl h82_293 rfl rfl rfl rfl rfl rfl (fun w432 hq433 => ?_)
        obtain ⟨hI434, hF435, hx436⟩ := hq433
        obtain ⟨hv437, hv438, hv439, hv440, hv441⟩ := hx436
        have hW442 : WRG w432 (tq B nn p_162) := ⟨hv437, hv438, hv439.trans hk431⟩
        have k14_443 := hv440.trans hk430
        refine xg_t (xg_blk (b := [(420, 1, 0, 0, 0, 0), (421, 3, 1, 12, 11, 17), (424, 1, 2, 1, 0, 0), (425, 1, 39, 0, 0, 0), (426, 1, 10, 0, 0, 0), (427, 1, 3, 1, 0, 0), (428, 1, 11, 0, 0, 0), (429, 1, 17, 0, 0, 0), (430, 1, 0, 0, 0, 0), (431, 1, 19, 0, 0, 0), (432, 3, 1, 12, 14, 212), (435, 1, 3, 1, 0, 0), (436, 1, 11, 0, 0, 0), (437, 3, 14, 12, 14, 212), (440, 1, 12, 0, 0, 0)]) rfl) ?_
        refine xoCh82 (hI434 82 (by decide) (by decide) : cp82 (wget w432 82)) (fun f82_444 f82_446 f82_448 f82_450 f82_452 f82_454 f82_456 f82_458 f82_460 f82_462 f82_464 f82_465 f82_466 f82_468 f82_470 f82_472 h82_474 hb445 hb447 hb449 hb451 hb453 hb455 hb457 hb459 hb461 hb463 hb467 hb469 hb471 hb473 hb475 => ?_)
        have hf476 : fld w432 82 2 = f82_444 := fld_of h82_474
        have hf477 : fld w432 82 3 = f82_446 := fld_of h82_474
        have hf478 : fld w432 82 4 = f82_448 := fld_of h82_474
        have hf479 : fld w432 82 5 = f82_450 := fld_of h82_474
        have hf480 : fld w432 82 6 = f82_452 := fld_of h82_474
        have hf481 : fld w432 82 7 = f82_454 := fld_of h82_474
        have hf482 : fld w432 82 8 = f82_456 := fld_of h82_474
        have hf483 : fld w432 82 9 = f82_458 := fld_of h82_474
        have hf484 : fld w432 82 10 = f82_460 := fld_of h82_474
        have hf485 : fld w432 82 14 = f82_462 := fld_of h82_474
        have hk486 := k14_443
        have hl487 : f82_462 ≤ 500 := by omega
        have hk488 : WRG w432 (tq B nn p_162) := hW442
        refine xg_t (xg_aload (va := (2, 82)) rfl rfl) ?_
        refine xg_t (xg_getf (va := (2, 85)) h82_474 rfl) ?_
        refine xg_t (xg_iload (va := (0, 0)) rfl rfl) ?_
        refine xg_t (xg_dup2 rfl) ?_
        refine xoI (hI434 85 (by decide) (by decide) : cpI 7 52 4294967295 (wget w432 85)) (fun g85_489 h85_490 hb491 => ?_)
        refine xg_ialdB (n := 0) (B := 4294967295) h85_490 (hb491) xnm0 (by omega) (fun u492 hu493 he494 => ?_)
        have hK495 : u492 = u42 := (((rwv_of h85_490 (by decide)).trans he494).symm.trans (rwv_eq ((hF435.1 85 (by decide)).trans ((hF149.1 85 (by decide)).trans ((hF103.1 85 (by decide)).trans hj57))))).trans ((hm 0 (by decide)).trans hK45.symm)
        have hl496 : u492 ≤ 500 := by omega
        refine xg_t (xg_const) ?_
        refine xg_t (xg_iadd (u := u492) (v := 1) (z := u492 + 1) xnm0 xnm0 (by omega)) ?_
        refine xg_iastK (n := 0) (u := u492 + 1) h85_490 xnm0 xnm0 rfl (by omega) (fun w497 hr498 hb499 => ?_)
        refine xg_t (xg_aload (va := (2, 82)) rfl rfl) ?_
        refine xg_t (xg_dup rfl) ?_
        refine xg_t (xg_getf (va := (0, f82_462)) (hb499.get (by decide) h82_474) rfl) ?_
        have hn500 := id hb463
        unfold xHid at hn500
        refine xg_t (xg_const) ?_
        refine xg_t (xg_iadd (u := f82_462) (v := 1) (z := f82_462 + 1) xnm0 xnm0 (by omega)) ?_
        refine xg_putI (fl1 := [(2, 83), (2, 84), (0, f82_444), (0, f82_446), (0, f82_448), (0, f82_450), (0, f82_452), (0, f82_454), (0, f82_456), (0, f82_458), (0, f82_460), (2, 85), (2, 86), (2, 87), (0, f82_462 + 1), (2, 88), (2, 89), (2, 90), (2, 91), (2, 92), (2, 93), (2, 94), (4, f82_464), (4, f82_465), (0, f82_466), (2, 95), (2, 96), (2, 97), (2, 98), (2, 99), (2, 100), (2, 101), (2, 102), (0, f82_468), (2, 103), (2, 104), (2, 105), (2, 106), (2, 107), (2, 108), (2, 109), (0, f82_470), (0, f82_472), (2, 110), (2, 111), (2, 112), (2, 113)]) (hb499.get (by decide) h82_474) rfl rfl rfl (fun w501 hk502 hb503 => ?_)
        have hf504 : fld w501 82 2 = f82_444 := fld_of hk502
        have hf505 : fld w501 82 3 = f82_446 := fld_of hk502
        have hf506 : fld w501 82 4 = f82_448 := fld_of hk502
        have hf507 : fld w501 82 5 = f82_450 := fld_of hk502
        have hf508 : fld w501 82 6 = f82_452 := fld_of hk502
        have hf509 : fld w501 82 7 = f82_454 := fld_of hk502
        have hf510 : fld w501 82 8 = f82_456 := fld_of hk502
        have hf511 : fld w501 82 9 = f82_458 := fld_of hk502
        have hf512 : fld w501 82 10 = f82_460 := fld_of hk502
        have hf513 : fld w501 82 14 = f82_462 + 1 := fld_of hk502
        exact xg_e ⟨w501, ⟨rfl, rfl⟩, xMnv.up (S := [85, 82]) hI434 ((xFr.of (S := [85, 82]) hb499 (by decide)).tr (xFr.of (S := [85, 82]) hb503 (by decide))) (List.forall_mem_cons.mpr ⟨(show cpI 7 52 4294967295 (wget w501 85) from ⟨_, (hr498.but hb503 (by decide)), xrb (by omega) (hb491)⟩), List.forall_mem_cons.mpr ⟨(show cp82 (wget w501 82) from ⟨f82_444, f82_446, f82_448, f82_450, f82_452, f82_454, f82_456, f82_458, f82_460, f82_462 + 1, f82_464, f82_465, f82_466, f82_468, f82_470, f82_472, hk502, by omega, hb447, by omega, by omega, hb453, by omega, hb457, hb459, by omega, by omega, hb467, hb469, hb471, hb473, by omega⟩), fun _ h => absurd h List.not_mem_nil⟩⟩), ((((hF50.tr (hF103.up (by decide))).tr (hF149.up (by decide))).tr (hF435.up (by decide))).tr ((xFr.of (S := [82, 83, 85, 86, 87]) hb499 (by decide)).tr (xFr.of (S := [82, 83, 85, 86, 87]) hb503 (by decide)))), ⟨Or.inl ⟨p_162, lf429, ⟨by have z := hk488.1; omega, (rwv_eq (j := 16) ((hb503.1 83 (by decide)).trans (hb499.1 83 (by decide)))).trans hk488.2.1, (rwv_eq (j := 17) ((hb503.1 83 (by decide)).trans (hb499.1 83 (by decide)))).trans hk488.2.2⟩⟩, (((((hj56.tr (K83.fr hF103 (by decide))).tr k8_153).tr hv441).tr (K83.but hb499 (by decide))).tr (K83.but hb503 (by decide))), by omega⟩⟩
  refine xg_t (xg_iload (va := (0, u42)) rfl rfl) ?_
  refine xg_t (xg_iload (va := (0, 0)) rfl rfl) ?_
  refine xg_t (xg_cSr mX12_mostOf (vs := [(0, 0)]) (rest := [(0, u42)]) (rs := [(0, 6), (0, u42)]) (cn1 := 0) (sl1 := 0) rfl (mMostR0) rfl rfl rfl rfl rfl rfl rfl rfl) ?_
  by_cases hc514 : u42 < 6
  · refine xg_t (xg_icT (u := u42) (v := 6) rfl xnm0 xnm0 (xj_ltT hc514 (by omega))) ?_
    refine xg_t (xg_drop (l1 := [(0, (2, 82)), (1, (0, 0)), (2, (0, at_)), (3, (0, u42))]) (List.forall_mem_cons.mpr ⟨List.mem_cons_of_mem _ (List.mem_cons_of_mem _ (List.mem_cons_of_mem _ (List.mem_cons_self))), List.forall_mem_cons.mpr ⟨List.mem_cons_of_mem _ (List.mem_cons_of_mem _ (List.mem_cons_self)), List.forall_mem_cons.mpr ⟨List.mem_cons_of_mem _ (List.mem_cons_self), List.forall_mem_cons.mpr ⟨List.mem_cons_self, fun _ h => absurd h List.not_mem_nil⟩⟩⟩⟩)) ?_
    have he515 : flA B nn k = mf1 B nn k 0 (flA B nn k) := by unfold mf1; rw [decide_eq_false (show ¬ lim 0 ≤ lnC B nn 0 k from (show ¬ 6 ≤ lnC B nn 0 k by omega))]; rfl
    exact jn47 w (hI) (xFr.rf) (⟨by rw [← he515]; exact zF, z10, hT, z14, K83.rf, rfl, rfl, rfl⟩)
  · refine xg_t (xg_icF (u := u42) (v := 6) rfl xnm0 xnm0 (xj_ltF (by omega) (by omega))) ?_
    refine xg_t (xg_aload (va := (2, 82)) rfl rfl) ?_
    refine xg_t (xg_const) ?_
    refine xg_t (xg_iload (va := (0, at_)) rfl rfl) ?_
    refine xg_cVv mX12_also (vs := [(0, 3), (0, at_)]) (rest := []) (cn1 := 0) (sl1 := 0) rfl (mAlsoX (hI) (by omega) (by omega) (by omega) z10 zF) rfl h82_31 rfl rfl rfl rfl rfl rfl (fun w516 hq517 => ?_)
    obtain ⟨hI518, hF519, hx520⟩ := hq517
    obtain ⟨hv521, hv522⟩ := hx520
    refine xg_t (xg_drop (l1 := [(0, (2, 82)), (1, (0, 0)), (2, (0, at_)), (3, (0, u42))]) (List.forall_mem_cons.mpr ⟨List.mem_cons_of_mem _ (List.mem_cons_of_mem _ (List.mem_cons_of_mem _ (List.mem_cons_self))), List.forall_mem_cons.mpr ⟨List.mem_cons_of_mem _ (List.mem_cons_of_mem _ (List.mem_cons_self)), List.forall_mem_cons.mpr ⟨List.mem_cons_of_mem _ (List.mem_cons_self), List.forall_mem_cons.mpr ⟨List.mem_cons_self, fun _ h => absurd h List.not_mem_nil⟩⟩⟩⟩)) ?_
    have he523 : alo (flA B nn k) 3 at_ = mf1 B nn k 0 (flA B nn k) := by unfold mf1; rw [decide_eq_true (show lim 0 ≤ lnC B nn 0 k from (show 6 ≤ lnC B nn 0 k by omega)), hat, hp0]; rfl
    exact jn47 w516 (hI518) ((hF519.up (by decide))) (⟨by rw [← he523]; exact hv521, ((fld_eq (j := 10) (hF519.1 82 (by decide))).trans z10), (hT.fr (hF519.1 82 (by decide))), ((fld_eq (j := 14) (hF519.1 82 (by decide))).trans z14), hv522, (hF519.1 85 (by decide)), (hF519.1 86 (by decide)), (hF519.1 87 (by decide))⟩)
set_option maxHeartbeats 60000000 in
theorem mALnX1 {B : Nat → Nat} {nn k p0 : Nat} {at_ : Nat} (hI : xMnv w) (hB : bsm w B nn) (hp0 : p0 = lnP B nn k) (hT : TKM 0 B nn w p0) (hS : MST B nn w k) (hk5 : k ≤ 500) (hs : slt B nn (lnP B nn k) = 1) (hat : at_ = tq B nn p0) : xTo (d + 7) mX12_aLine (43, [], [(2, (0, at_)), (1, (0, 1)), (0, (2, 82))], [], (w, bd, fc, 0, 0, rr)) (fun φ => ∃ w', xEnd 0 [] (w', bd, fc, 0, 0, rr) φ ∧ xMnv w' ∧ xFr [82, 83, 85, 86, 87] w w' ∧ (((∃ q, lnR B nn p0 = (false, q) ∧ WRG w' (tq B nn q)) ∨ ((lnR B nn p0).1 = true ∧ TKM 0 B nn w' (lnP B nn (k + 1)) ∧ MST B nn w' (k + 1))) ∧ K83 w w' ∧ fld w 82 14 ≤ fld w' 82 14)) := by
  refine xoCh82 (hI 82 (by decide) (by decide) : cp82 (wget w 82)) (fun f82_1 f82_3 f82_5 f82_7 f82_9 f82_11 f82_13 f82_15 f82_17 f82_19 f82_21 f82_22 f82_23 f82_25 f82_27 f82_29 h82_31 hb2 hb4 hb6 hb8 hb10 hb12 hb14 hb16 hb18 hb20 hb24 hb26 hb28 hb30 hb32 => ?_)
  refine xoI (hI 85 (by decide) (by decide) : cpI 7 52 4294967295 (wget w 85)) (fun g85_33 h85_34 hb35 => ?_)
  refine xoI (hI 86 (by decide) (by decide) : cpI 140 53 4294967295 (wget w 86)) (fun g86_36 h86_37 hb38 => ?_)
  refine xoI (hI 87 (by decide) (by decide) : cpI 20 54 4294967295 (wget w 87)) (fun g87_39 h87_40 hb41 => ?_)
  obtain ⟨⟨z10, z14, zF, zp⟩, hm, hR⟩ := id hS
  have hkc := lnC_k (B := B) (n := nn) (s := 1) (k := k)
  have hq0 : at_ ≤ 500 := by
    have z1 := tf_gt (B := B) (n := nn) (p := p0) (by rw [slt_kd (by rw [hp0, hs]; decide)]; decide)
    have z2 := hB.1
    omega
  refine xg_t (xg_blk (b := [(43, 1, 0, 0, 0, 0), (44, 3, 1, 12, 11, 17), (47, 1, 2, 1, 0, 0), (48, 1, 10, 0, 0, 0), (49, 1, 15, 3, 0, 0), (50, 1, 2, 3, 0, 0), (51, 1, 2, 1, 0, 0), (52, 3, 13, 194, 98, 193), (55, 3, 6, 64, 2, 0), (58, 1, 0, 0, 0, 0), (59, 1, 3, 3, 0, 0), (60, 1, 2, 2, 0, 0), (61, 3, 13, 115, 96, 186)]) rfl) ?_
  refine xg_t (xg_aload (va := (2, 82)) rfl rfl) ?_
  refine xg_t (xg_getf (va := (2, 85)) h82_31 rfl) ?_
  refine xg_t (xg_iload (va := (0, 1)) rfl rfl) ?_
  refine xg_ialdB (n := 1) (B := 4294967295) h85_34 (hb35) xnm0 (by omega) (fun u42 hu43 he44 => ?_)
  have hK45 : u42 = lnC B nn 1 k := (((rwv_of h85_34 (by decide)).trans he44).symm).trans (hm 1 (by decide))
  have hl46 : u42 ≤ 500 := by omega
  refine xg_t (xg_istore (l1 := [(2, (0, at_)), (1, (0, 1)), (0, (2, 82))]) rfl rfl rfl) ?_
  have jn47 : ∀ (w48 : List (List xE)), xMnv w48 → xFr [82, 83, 85, 86, 87] w w48 → (FP w48 (mf1 B nn k 1 (flA B nn k)) ∧ fld w48 82 10 = 0 ∧ TKM 0 B nn w48 p0 ∧ fld w48 82 14 = k ∧ K83 w w48 ∧ wget w48 85 = wget w 85 ∧ wget w48 86 = wget w 86 ∧ wget w48 87 = wget w 87) → xTo (d + 7) mX12_aLine (64, [], [(0, (2, 82)), (1, (0, 1)), (2, (0, at_)), (3, (0, u42))], [], (w48, bd, fc, 0, 0, rr)) (fun φ => ∃ w', xEnd 0 [] (w', bd, fc, 0, 0, rr) φ ∧ xMnv w' ∧ xFr [82, 83, 85, 86, 87] w w' ∧ (((∃ q, lnR B nn p0 = (false, q) ∧ WRG w' (tq B nn q)) ∨ ((lnR B nn p0).1 = true ∧ TKM 0 B nn w' (lnP B nn (k + 1)) ∧ MST B nn w' (k + 1))) ∧ K83 w w' ∧ fld w 82 14 ≤ fld w' 82 14)) := by
    intro w48 hI49 hF50 he51
    obtain ⟨hj52, hj53, hj54, hj55, hj56, hj57, hj58, hj59⟩ := he51
    refine xg_t (xg_blk (b := [(64, 1, 0, 0, 0, 0), (65, 3, 13, 110, 96, 190), (68, 1, 2, 1, 0, 0), (69, 39, 33, 362, 0, 9)]) rfl) ?_
    refine xg_t (xg_aload (va := (2, 82)) rfl rfl) ?_
    obtain ⟨⟨ht60, ht61, ht62, ht63, ht64, ht65⟩, -⟩ := id hj54
    have hk66 := hj53
    have hk67 := hj55
    refine xoCh82 (hI49 82 (by decide) (by decide) : cp82 (wget w48 82)) (fun f82_68 f82_70 f82_72 f82_74 f82_76 f82_78 f82_80 f82_82 f82_84 f82_86 f82_88 f82_89 f82_90 f82_92 f82_94 f82_96 h82_98 hb69 hb71 hb73 hb75 hb77 hb79 hb81 hb83 hb85 hb87 hb91 hb93 hb95 hb97 hb99 => ?_)
    refine xg_cVv mX12_advance (vs := []) (rest := []) (cn1 := 0) (sl1 := 0) rfl (mAdvX (hI49) (hB.fr (fun j h4 h9 => hj56 j (by omega) (by omega) (by omega))) ht60 ht61 (by rw [ht62]; exact tf_le ht65)) rfl h82_98 rfl rfl rfl rfl rfl rfl (fun w100 hq101 => ?_)
    obtain ⟨hI102, hF103, hx104⟩ := hq101
    obtain ⟨hz105, hz106, hz107⟩ := hx104
    rw [ht62] at hz105
    clear ht60 ht61 ht62 ht63 ht64 ht65
    obtain ⟨p_108, hp109⟩ : ∃ x, x = tf B nn p0 := ⟨_, rfl⟩
    rw [← hp109] at hz105
    have k10_110 := hz106.trans hk66
    have k14_111 := hz107.trans hk67
    clear hz106 hz107 hk66 hk67
    have ln112 : lnR B nn p0 = lnN B nn 1 2 p_108 := by rw [hp109]; exact lnR_go (by rw [hp0]; exact hs) (by decide)
    refine xg_t (xg_iload (va := (0, 1)) rfl rfl) ?_
    refine xg_t (xg_swt (ks := [(0, 108), (1, 116), (2, 180), (3, 221), (4, 273), (5, 326)]) (u := 1) (z := 116) rfl rfl rfl xnm0 (xsw_n (by omega) (xsw_y rfl))) ?_
    refine xg_t (xg_blk (b := [(116, 1, 0, 0, 0, 0), (117, 1, 3, 0, 0, 0), (118, 2, 4, 99, 0, 0), (120, 3, 13, 199, 96, 196), (123, 2, 15, 4, 0, 0), (125, 1, 0, 0, 0, 0), (126, 2, 2, 4, 0, 0), (128, 1, 2, 3, 0, 0), (129, 3, 13, 167, 96, 208), (132, 3, 7, 141, 0, 0), (135, 1, 0, 0, 0, 0), (136, 1, 3, 3, 0, 0), (137, 1, 2, 2, 0, 0), (138, 3, 13, 115, 96, 186)]) rfl) ?_
    refine xg_t (xg_aload (va := (2, 82)) rfl rfl) ?_
    refine xg_t (xg_const) ?_
    refine xg_t (xg_bip) ?_
    have hk113 := k14_111
    refine xoCh82 (hI102 82 (by decide) (by decide) : cp82 (wget w100 82)) (fun f82_114 f82_116 f82_118 f82_120 f82_122 f82_124 f82_126 f82_128 f82_130 f82_132 f82_134 f82_135 f82_136 f82_138 f82_140 f82_142 h82_144 hb115 hb117 hb119 hb121 hb123 hb125 hb127 hb129 hb131 hb133 hb137 hb139 hb141 hb143 hb145 => ?_)
    refine xg_cVi mX12_numbered (vs := [(0, 0), (0, 99)]) (rest := []) (cn1 := 0) (sl1 := 0) rfl (mNumX (ir := 0) (hI102) (by omega) (by omega) (hB.fr (fun j h4 h9 => (hj56.tr (K83.fr hF103 (by decide))) j (by omega) (by omega) (by omega))) k10_110 hz105 (hj52.k83 (rwv_eq (hF103.1 83 (by decide))) (rwv_eq (hF103.1 83 (by decide))))) rfl h82_144 rfl rfl rfl rfl rfl rfl (fun n150 w146 hq147 => ?_)
    obtain ⟨hn151, hI148, hF149⟩ := hq147
    obtain ⟨hx154, h14_152, k8_153⟩ := hn151
    have k14_155 := h14_152.trans hk113
    rcases hx154 with ⟨rfl, hk156, hW157⟩ | ⟨hv158, h9_159, hk156, k10_160, hT_161, hF_162⟩
    · have lf163 : lnR B nn p0 = (false, p_108) := ln112.trans (lnN_n (k := 1) hk156)
      refine xg_t (xg_istore (l1 := [(0, (2, 82)), (1, (0, 1)), (2, (0, at_)), (3, (0, u42))]) rfl rfl rfl) ?_
      refine xg_t (xg_aload (va := (2, 82)) rfl rfl) ?_
      refine xg_t (xg_iload (va := (0, 0)) rfl rfl) ?_
      refine xg_t (xg_iload (va := (0, u42)) rfl rfl) ?_
      refine xoCh82 (hI148 82 (by decide) (by decide) : cp82 (wget w146 82)) (fun f82_164 f82_166 f82_168 f82_170 f82_172 f82_174 f82_176 f82_178 f82_180 f82_182 f82_184 f82_185 f82_186 f82_188 f82_190 f82_192 h82_194 hb165 hb167 hb169 hb171 hb173 hb175 hb177 hb179 hb181 hb183 hb187 hb189 hb191 hb193 hb195 => ?_)
      refine xg_cVi mX12_isLifeTold (vs := [(0, 0), (0, u42)]) (rest := []) (cn1 := 0) (sl1 := 0) rfl (mLifeX (hI148) (by omega) (by omega)) rfl h82_194 rfl rfl rfl rfl rfl rfl (fun n200 w196 hq197 => ?_)
      obtain ⟨hn201, hI198, hF199⟩ := hq197
      rcases hn201 with ⟨rfl, -⟩ | ⟨rfl, -⟩
      · refine xg_t (xg_ifF (u := 1) rfl xnm0 (by decide)) ?_
        refine xg_t (xg_aload (va := (2, 82)) rfl rfl) ?_
        refine xg_t (xg_const) ?_
        refine xg_t (xg_iload (va := (0, at_)) rfl rfl) ?_
        refine xg_cVv mX12_also (vs := [(0, 3), (0, at_)]) (rest := []) (cn1 := 0) (sl1 := 0) rfl (mAlsoW (hI198) (by omega) (by omega) (by have q := hW157.1; have q2 := fld_eq (j := 10) (hF199.1 82 (by decide)); omega)) rfl (hF199.get (by decide) h82_194) rfl rfl rfl rfl rfl rfl (fun w203 hq204 => ?_)
        obtain ⟨hI205, hF206⟩ := hq204
        refine xg_t (xg_blk (b := [(141, 1, 0, 0, 0, 0), (142, 1, 2, 1, 0, 0), (143, 1, 2, 3, 0, 0), (144, 2, 4, 50, 0, 0), (146, 1, 3, 2, 0, 0), (147, 1, 2, 3, 0, 0), (148, 1, 16, 0, 0, 0), (149, 1, 11, 0, 0, 0), (150, 2, 2, 4, 0, 0), (152, 3, 13, 211, 96, 200), (155, 1, 0, 0, 0, 0), (156, 1, 2, 1, 0, 0), (157, 1, 2, 3, 0, 0), (158, 2, 4, 50, 0, 0), (160, 1, 3, 2, 0, 0), (161, 1, 2, 3, 0, 0), (162, 1, 16, 0, 0, 0), (163, 1, 11, 0, 0, 0), (164, 1, 3, 1, 0, 0), (165, 1, 11, 0, 0, 0), (166, 1, 0, 0, 0, 0), (167, 1, 3, 1, 0, 0), (168, 3, 5, 999, 0, 0), (171, 3, 13, 199, 96, 196), (174, 3, 13, 211, 96, 200), (177, 3, 8, 394, 0, 0)]) rfl) ?_
        refine xg_t (xg_aload (va := (2, 82)) rfl rfl) ?_
        refine xg_t (xg_iload (va := (0, 1)) rfl rfl) ?_
        refine xg_t (xg_iload (va := (0, u42)) rfl rfl) ?_
        refine xg_t (xg_bip) ?_
        refine xg_t (xg_const) ?_
        refine xg_t (xg_iload (va := (0, u42)) rfl rfl) ?_
        refine xg_t (xg_imul (u := 2) (v := u42) (z := 2 * u42) xnm0 xnm0 (by omega)) ?_
        refine xg_t (xg_iadd (u := 50) (v := 2 * u42) (z := 50 + (2 * u42)) xnm0 xnm0 (by omega)) ?_
        refine xg_t (xg_iload (va := (0, 0)) rfl rfl) ?_
        refine xg_cVv mX12_puts (vs := [(0, 1), (0, u42), (0, 50 + (2 * u42)), (0, 0)]) (rest := []) (cn1 := 0) (sl1 := 0) rfl (mPuts1 (hI205) (by omega) (by omega) (by omega) (fun _ => by omega)) rfl (hF206.get (by decide) (hF199.get (by decide) h82_194)) rfl rfl rfl rfl rfl rfl (fun w207 hq208 => ?_)
        obtain ⟨hI209, hF210, hx211⟩ := hq208
        obtain ⟨hp212, hp213⟩ := hx211
        refine xg_t (xg_aload (va := (2, 82)) rfl rfl) ?_
        refine xg_t (xg_iload (va := (0, 1)) rfl rfl) ?_
        refine xg_t (xg_iload (va := (0, u42)) rfl rfl) ?_
        refine xg_t (xg_bip) ?_
        refine xg_t (xg_const) ?_
        refine xg_t (xg_iload (va := (0, u42)) rfl rfl) ?_
        refine xg_t (xg_imul (u := 2) (v := u42) (z := 2 * u42) xnm0 xnm0 (by omega)) ?_
        refine xg_t (xg_iadd (u := 50) (v := 2 * u42) (z := 50 + (2 * u42)) xnm0 xnm0 (by omega)) ?_
        refine xg_t (xg_const) ?_
        refine xg_t (xg_iadd (u := 50 + (2 * u42)) (v := 1) (z := (50 + (2 * u42)) + 1) xnm0 xnm0 (by omega)) ?_
        refine xg_t (xg_aload (va := (2, 82)) rfl rfl) ?_
        refine xg_t (xg_const) ?_
        refine xg_t (xg_sip) ?_
        refine xg_cVi mX12_numbered (vs := [(0, 1), (0, 999)]) (rest := [(0, (50 + (2 * u42)) + 1), (0, u42), (0, 1), (2, 82)]) (cn1 := 0) (sl1 := 0) rfl (mNumW (hI209) (by omega) (by omega) (by have q := hW157.1; have q2 := fld_eq (j := 10) ((hF210.1 82 (by decide)).trans ((hF206.1 82 (by decide)).trans (hF199.1 82 (by decide)))); omega)) rfl (hF210.get (by decide) (hF206.get (by decide) (hF199.get (by decide) h82_194))) rfl rfl rfl rfl rfl rfl (fun n218 w214 hq215 => ?_)
        obtain ⟨hn219, hI216, hF217⟩ := hq215
        obtain rfl := hn219
        refine xg_cVv mX12_puts (vs := [(0, 1), (0, u42), (0, (50 + (2 * u42)) + 1), (0, 0)]) (rest := []) (cn1 := 0) (sl1 := 0) rfl (mPuts1 (hI216) (by omega) (by omega) (by omega) (fun _ => by omega)) rfl (hF217.get (by decide) (hF210.get (by decide) (hF206.get (by decide) (hF199.get (by decide) h82_194)))) rfl rfl rfl rfl rfl rfl (fun w220 hq221 => ?_)
        obtain ⟨hI222, hF223, hx224⟩ := hq221
        obtain ⟨hp225, hp226⟩ := hx224
        refine xg_t (xg_goto) ?_
        refine xg_t (xg_blk (b := [(394, 1, 0, 0, 0, 0), (395, 3, 1, 12, 10, 180), (398, 3, 7, 416, 1, 0), (401, 1, 0, 0, 0, 0), (402, 3, 1, 12, 7, 151), (405, 1, 3, 2, 0, 0), (406, 3, 6, 416, 1, 0), (409, 1, 0, 0, 0, 0), (410, 3, 13, 110, 96, 190), (413, 3, 8, 420, 0, 0)]) rfl) ?_
        refine xg_t (xg_aload (va := (2, 82)) rfl rfl) ?_
        refine xg_t (xg_getf (va := (0, f82_180)) (hF223.get (by decide) (hF217.get (by decide) (hF210.get (by decide) (hF206.get (by decide) (hF199.get (by decide) h82_194))))) rfl) ?_
        have hf227 : fld w220 82 10 = f82_180 := fld_of (hF223.get (by decide) (hF217.get (by decide) (hF210.get (by decide) (hF206.get (by decide) (hF199.get (by decide) h82_194)))))
        have hk228 : fld w220 82 10 ≠ 0 := (by have q := hW157.1; have q2 := fld_eq (j := 10) ((hF223.1 82 (by decide)).trans ((hF217.1 82 (by decide)).trans ((hF210.1 82 (by decide)).trans ((hF206.1 82 (by decide)).trans (hF199.1 82 (by decide)))))); omega)
        refine xg_t (xg_ifT (u := f82_180) rfl xnm0 (xj_neT (by omega))) ?_
        refine xg_t (xg_blk (b := [(416, 1, 0, 0, 0, 0), (417, 3, 13, 140, 96, 183)]) rfl) ?_
        refine xg_t (xg_aload (va := (2, 82)) rfl rfl) ?_
        refine xg_cVv mX12_ends (vs := []) (rest := []) (cn1 := 0) (sl1 := 0) rfl (mEndsW (hI222) (by have q := hW157.1; have q2 := fld_eq (j := 10) ((hF223.1 82 (by decide)).trans ((hF217.1 82 (by decide)).trans ((hF210.1 82 (by decide)).trans ((hF206.1 82 (by decide)).trans (hF199.1 82 (by decide)))))); omega)) rfl (hF223.get (by decide) (hF217.get (by decide) (hF210.get (by decide) (hF206.get (by decide) (hF199.get (by decide) h82_194))))) rfl rfl rfl rfl rfl rfl (fun w229 hq230 => ?_)
        obtain ⟨hI231, hF232⟩ := hq230
        refine xg_t (xg_blk (b := [(420, 1, 0, 0, 0, 0), (421, 3, 1, 12, 11, 17), (424, 1, 2, 1, 0, 0), (425, 1, 39, 0, 0, 0), (426, 1, 10, 0, 0, 0), (427, 1, 3, 1, 0, 0), (428, 1, 11, 0, 0, 0), (429, 1, 17, 0, 0, 0), (430, 1, 0, 0, 0, 0), (431, 1, 19, 0, 0, 0), (432, 3, 1, 12, 14, 212), (435, 1, 3, 1, 0, 0), (436, 1, 11, 0, 0, 0), (437, 3, 14, 12, 14, 212), (440, 1, 12, 0, 0, 0)]) rfl) ?_
        have hf233 : fld w229 82 2 = f82_164 := fld_of (hF232.get (by decide) (hF223.get (by decide) (hF217.get (by decide) (hF210.get (by decide) (hF206.get (by decide) (hF199.get (by decide) h82_194))))))
        have hf234 : fld w229 82 3 = f82_166 := fld_of (hF232.get (by decide) (hF223.get (by decide) (hF217.get (by decide) (hF210.get (by decide) (hF206.get (by decide) (hF199.get (by decide) h82_194))))))
        have hf235 : fld w229 82 4 = f82_168 := fld_of (hF232.get (by decide) (hF223.get (by decide) (hF217.get (by decide) (hF210.get (by decide) (hF206.get (by decide) (hF199.get (by decide) h82_194))))))
        have hf236 : fld w229 82 5 = f82_170 := fld_of (hF232.get (by decide) (hF223.get (by decide) (hF217.get (by decide) (hF210.get (by decide) (hF206.get (by decide) (hF199.get (by decide) h82_194))))))
        have hf237 : fld w229 82 6 = f82_172 := fld_of (hF232.get (by decide) (hF223.get (by decide) (hF217.get (by decide) (hF210.get (by decide) (hF206.get (by decide) (hF199.get (by decide) h82_194))))))
        have hf238 : fld w229 82 7 = f82_174 := fld_of (hF232.get (by decide) (hF223.get (by decide) (hF217.get (by decide) (hF210.get (by decide) (hF206.get (by decide) (hF199.get (by decide) h82_194))))))
        have hf239 : fld w229 82 8 = f82_176 := fld_of (hF232.get (by decide) (hF223.get (by decide) (hF217.get (by decide) (hF210.get (by decide) (hF206.get (by decide) (hF199.get (by decide) h82_194))))))
        have hf240 : fld w229 82 9 = f82_178 := fld_of (hF232.get (by decide) (hF223.get (by decide) (hF217.get (by decide) (hF210.get (by decide) (hF206.get (by decide) (hF199.get (by decide) h82_194))))))
        have hf241 : fld w229 82 10 = f82_180 := fld_of (hF232.get (by decide) (hF223.get (by decide) (hF217.get (by decide) (hF210.get (by decide) (hF206.get (by decide) (hF199.get (by decide) h82_194))))))
        have hf242 : fld w229 82 14 = f82_182 := fld_of (hF232.get (by decide) (hF223.get (by decide) (hF217.get (by decide) (hF210.get (by decide) (hF206.get (by decide) (hF199.get (by decide) h82_194))))))
        have hk243 := ((fld_eq (j := 14) ((hF232.1 82 (by decide)).trans ((hF223.1 82 (by decide)).trans ((hF217.1 82 (by decide)).trans ((hF210.1 82 (by decide)).trans ((hF206.1 82 (by decide)).trans (hF199.1 82 (by decide)))))))).trans k14_155)
        have hl244 : f82_182 ≤ 500 := by omega
        have hk245 : WRG w229 (tq B nn p_108) := ⟨(fld_eq (j := 10) ((hF232.1 82 (by decide)).trans ((hF223.1 82 (by decide)).trans ((hF217.1 82 (by decide)).trans ((hF210.1 82 (by decide)).trans ((hF206.1 82 (by decide)).trans (hF199.1 82 (by decide)))))))).trans hW157.1, (rwv_eq (j := 16) ((hF232.1 83 (by decide)).trans ((hF223.1 83 (by decide)).trans ((hF217.1 83 (by decide)).trans ((hF210.1 83 (by decide)).trans ((hF206.1 83 (by decide)).trans (hF199.1 83 (by decide)))))))).trans hW157.2.1, (rwv_eq (j := 17) ((hF232.1 83 (by decide)).trans ((hF223.1 83 (by decide)).trans ((hF217.1 83 (by decide)).trans ((hF210.1 83 (by decide)).trans ((hF206.1 83 (by decide)).trans (hF199.1 83 (by decide)))))))).trans hW157.2.2⟩
        refine xg_t (xg_aload (va := (2, 82)) rfl rfl) ?_
        refine xg_t (xg_getf (va := (2, 85)) (hF232.get (by decide) (hF223.get (by decide) (hF217.get (by decide) (hF210.get (by decide) (hF206.get (by decide) (hF199.get (by decide) h82_194)))))) rfl) ?_
        refine xg_t (xg_iload (va := (0, 1)) rfl rfl) ?_
        refine xg_t (xg_dup2 rfl) ?_
        refine xoI (hI231 85 (by decide) (by decide) : cpI 7 52 4294967295 (wget w229 85)) (fun g85_246 h85_247 hb248 => ?_)
        refine xg_ialdB (n := 1) (B := 4294967295) h85_247 (hb248) xnm0 (by omega) (fun u249 hu250 he251 => ?_)
        have hK252 : u249 = u42 := (((rwv_of h85_247 (by decide)).trans he251).symm.trans (rwv_eq ((hF232.1 85 (by decide)).trans ((hF223.1 85 (by decide)).trans ((hF217.1 85 (by decide)).trans ((hF210.1 85 (by decide)).trans ((hF206.1 85 (by decide)).trans ((hF199.1 85 (by decide)).trans ((hF149.1 85 (by decide)).trans ((hF103.1 85 (by decide)).trans hj57)))))))))).trans ((hm 1 (by decide)).trans hK45.symm)
        have hl253 : u249 ≤ 500 := by omega
        refine xg_t (xg_const) ?_
        refine xg_t (xg_iadd (u := u249) (v := 1) (z := u249 + 1) xnm0 xnm0 (by omega)) ?_
        refine xg_iastK (n := 1) (u := u249 + 1) h85_247 xnm0 xnm0 rfl (by omega) (fun w254 hr255 hb256 => ?_)
        refine xg_t (xg_aload (va := (2, 82)) rfl rfl) ?_
        refine xg_t (xg_dup rfl) ?_
        refine xg_t (xg_getf (va := (0, f82_182)) (hb256.get (by decide) (hF232.get (by decide) (hF223.get (by decide) (hF217.get (by decide) (hF210.get (by decide) (hF206.get (by decide) (hF199.get (by decide) h82_194))))))) rfl) ?_
        have hn257 := id hb183
        unfold xHid at hn257
        refine xg_t (xg_const) ?_
        refine xg_t (xg_iadd (u := f82_182) (v := 1) (z := f82_182 + 1) xnm0 xnm0 (by omega)) ?_
        refine xg_putI (fl1 := [(2, 83), (2, 84), (0, f82_164), (0, f82_166), (0, f82_168), (0, f82_170), (0, f82_172), (0, f82_174), (0, f82_176), (0, f82_178), (0, f82_180), (2, 85), (2, 86), (2, 87), (0, f82_182 + 1), (2, 88), (2, 89), (2, 90), (2, 91), (2, 92), (2, 93), (2, 94), (4, f82_184), (4, f82_185), (0, f82_186), (2, 95), (2, 96), (2, 97), (2, 98), (2, 99), (2, 100), (2, 101), (2, 102), (0, f82_188), (2, 103), (2, 104), (2, 105), (2, 106), (2, 107), (2, 108), (2, 109), (0, f82_190), (0, f82_192), (2, 110), (2, 111), (2, 112), (2, 113)]) (hb256.get (by decide) (hF232.get (by decide) (hF223.get (by decide) (hF217.get (by decide) (hF210.get (by decide) (hF206.get (by decide) (hF199.get (by decide) h82_194))))))) rfl rfl rfl (fun w258 hk259 hb260 => ?_)
        have hf261 : fld w258 82 2 = f82_164 := fld_of hk259
        have hf262 : fld w258 82 3 = f82_166 := fld_of hk259
        have hf263 : fld w258 82 4 = f82_168 := fld_of hk259
        have hf264 : fld w258 82 5 = f82_170 := fld_of hk259
        have hf265 : fld w258 82 6 = f82_172 := fld_of hk259
        have hf266 : fld w258 82 7 = f82_174 := fld_of hk259
        have hf267 : fld w258 82 8 = f82_176 := fld_of hk259
        have hf268 : fld w258 82 9 = f82_178 := fld_of hk259
        have hf269 : fld w258 82 10 = f82_180 := fld_of hk259
        have hf270 : fld w258 82 14 = f82_182 + 1 := fld_of hk259
        exact xg_e ⟨w258, ⟨rfl, rfl⟩, xMnv.up (S := [85, 82]) hI231 ((xFr.of (S := [85, 82]) hb256 (by decide)).tr (xFr.of (S := [85, 82]) hb260 (by decide))) (List.forall_mem_cons.mpr ⟨(show cpI 7 52 4294967295 (wget w258 85) from ⟨_, (hr255.but hb260 (by decide)), xrb (by omega) (hb248)⟩), List.forall_mem_cons.mpr ⟨(show cp82 (wget w258 82) from ⟨f82_164, f82_166, f82_168, f82_170, f82_172, f82_174, f82_176, f82_178, f82_180, f82_182 + 1, f82_184, f82_185, f82_186, f82_188, f82_190, f82_192, hk259, by omega, hb167, by omega, by omega, hb173, by omega, hb177, hb179, by omega, by omega, hb187, hb189, hb191, hb193, by omega⟩), fun _ h => absurd h List.not_mem_nil⟩⟩), (((((((((hF50.tr (hF103.up (by decide))).tr (hF149.up (by decide))).tr (hF199.up (by decide))).tr (hF206.up (by decide))).tr (hF210.up (by decide))).tr (hF217.up (by decide))).tr (hF223.up (by decide))).tr (hF232.up (by decide))).tr ((xFr.of (S := [82, 83, 85, 86, 87]) hb256 (by decide)).tr (xFr.of (S := [82, 83, 85, 86, 87]) hb260 (by decide)))), ⟨Or.inl ⟨p_108, lf163, ⟨by have z := hk245.1; omega, (rwv_eq (j := 16) ((hb260.1 83 (by decide)).trans (hb256.1 83 (by decide)))).trans hk245.2.1, (rwv_eq (j := 17) ((hb260.1 83 (by decide)).trans (hb256.1 83 (by decide)))).trans hk245.2.2⟩⟩, ((((((((((hj56.tr (K83.fr hF103 (by decide))).tr k8_153).tr (K83.fr hF199 (by decide))).tr (K83.fr hF206 (by decide))).tr (K83.fr hF210 (by decide))).tr (K83.fr hF217 (by decide))).tr (K83.fr hF223 (by decide))).tr (K83.fr hF232 (by decide))).tr (K83.but hb256 (by decide))).tr (K83.but hb260 (by decide))), by omega⟩⟩
      · refine xg_t (xg_ifT (u := 0) rfl xnm0 (by decide)) ?_
        refine xg_t (xg_blk (b := [(141, 1, 0, 0, 0, 0), (142, 1, 2, 1, 0, 0), (143, 1, 2, 3, 0, 0), (144, 2, 4, 50, 0, 0), (146, 1, 3, 2, 0, 0), (147, 1, 2, 3, 0, 0), (148, 1, 16, 0, 0, 0), (149, 1, 11, 0, 0, 0), (150, 2, 2, 4, 0, 0), (152, 3, 13, 211, 96, 200), (155, 1, 0, 0, 0, 0), (156, 1, 2, 1, 0, 0), (157, 1, 2, 3, 0, 0), (158, 2, 4, 50, 0, 0), (160, 1, 3, 2, 0, 0), (161, 1, 2, 3, 0, 0), (162, 1, 16, 0, 0, 0), (163, 1, 11, 0, 0, 0), (164, 1, 3, 1, 0, 0), (165, 1, 11, 0, 0, 0), (166, 1, 0, 0, 0, 0), (167, 1, 3, 1, 0, 0), (168, 3, 5, 999, 0, 0), (171, 3, 13, 199, 96, 196), (174, 3, 13, 211, 96, 200), (177, 3, 8, 394, 0, 0)]) rfl) ?_
        refine xg_t (xg_aload (va := (2, 82)) rfl rfl) ?_
        refine xg_t (xg_iload (va := (0, 1)) rfl rfl) ?_
        refine xg_t (xg_iload (va := (0, u42)) rfl rfl) ?_
        refine xg_t (xg_bip) ?_
        refine xg_t (xg_const) ?_
        refine xg_t (xg_iload (va := (0, u42)) rfl rfl) ?_
        refine xg_t (xg_imul (u := 2) (v := u42) (z := 2 * u42) xnm0 xnm0 (by omega)) ?_
        refine xg_t (xg_iadd (u := 50) (v := 2 * u42) (z := 50 + (2 * u42)) xnm0 xnm0 (by omega)) ?_
        refine xg_t (xg_iload (va := (0, 0)) rfl rfl) ?_
        refine xg_cVv mX12_puts (vs := [(0, 1), (0, u42), (0, 50 + (2 * u42)), (0, 0)]) (rest := []) (cn1 := 0) (sl1 := 0) rfl (mPuts1 (hI198) (by omega) (by omega) (by omega) (fun _ => by omega)) rfl (hF199.get (by decide) h82_194) rfl rfl rfl rfl rfl rfl (fun w271 hq272 => ?_)
        obtain ⟨hI273, hF274, hx275⟩ := hq272
        obtain ⟨hp276, hp277⟩ := hx275
        refine xg_t (xg_aload (va := (2, 82)) rfl rfl) ?_
        refine xg_t (xg_iload (va := (0, 1)) rfl rfl) ?_
        refine xg_t (xg_iload (va := (0, u42)) rfl rfl) ?_
        refine xg_t (xg_bip) ?_
        refine xg_t (xg_const) ?_
        refine xg_t (xg_iload (va := (0, u42)) rfl rfl) ?_
        refine xg_t (xg_imul (u := 2) (v := u42) (z := 2 * u42) xnm0 xnm0 (by omega)) ?_
        refine xg_t (xg_iadd (u := 50) (v := 2 * u42) (z := 50 + (2 * u42)) xnm0 xnm0 (by omega)) ?_
        refine xg_t (xg_const) ?_
        refine xg_t (xg_iadd (u := 50 + (2 * u42)) (v := 1) (z := (50 + (2 * u42)) + 1) xnm0 xnm0 (by omega)) ?_
        refine xg_t (xg_aload (va := (2, 82)) rfl rfl) ?_
        refine xg_t (xg_const) ?_
        refine xg_t (xg_sip) ?_
        refine xg_cVi mX12_numbered (vs := [(0, 1), (0, 999)]) (rest := [(0, (50 + (2 * u42)) + 1), (0, u42), (0, 1), (2, 82)]) (cn1 := 0) (sl1 := 0) rfl (mNumW (hI273) (by omega) (by omega) (by have q := hW157.1; have q2 := fld_eq (j := 10) ((hF274.1 82 (by decide)).trans (hF199.1 82 (by decide))); omega)) rfl (hF274.get (by decide) (hF199.get (by decide) h82_194)) rfl rfl rfl rfl rfl rfl (fun n282 w278 hq279 => ?_)
        obtain ⟨hn283, hI280, hF281⟩ := hq279
        obtain rfl := hn283
        refine xg_cVv mX12_puts (vs := [(0, 1), (0, u42), (0, (50 + (2 * u42)) + 1), (0, 0)]) (rest := []) (cn1 := 0) (sl1 := 0) rfl (mPuts1 (hI280) (by omega) (by omega) (by omega) (fun _ => by omega)) rfl (hF281.get (by decide) (hF274.get (by decide) (hF199.get (by decide) h82_194))) rfl rfl rfl rfl rfl rfl (fun w284 hq285 => ?_)
        obtain ⟨hI286, hF287, hx288⟩ := hq285
        obtain ⟨hp289, hp290⟩ := hx288
        refine xg_t (xg_goto) ?_
        refine xg_t (xg_blk (b := [(394, 1, 0, 0, 0, 0), (395, 3, 1, 12, 10, 180), (398, 3, 7, 416, 1, 0), (401, 1, 0, 0, 0, 0), (402, 3, 1, 12, 7, 151), (405, 1, 3, 2, 0, 0), (406, 3, 6, 416, 1, 0), (409, 1, 0, 0, 0, 0), (410, 3, 13, 110, 96, 190), (413, 3, 8, 420, 0, 0)]) rfl) ?_
        refine xg_t (xg_aload (va := (2, 82)) rfl rfl) ?_
        refine xg_t (xg_getf (va := (0, f82_180)) (hF287.get (by decide) (hF281.get (by decide) (hF274.get (by decide) (hF199.get (by decide) h82_194)))) rfl) ?_
        have hf291 : fld w284 82 10 = f82_180 := fld_of (hF287.get (by decide) (hF281.get (by decide) (hF274.get (by decide) (hF199.get (by decide) h82_194))))
        have hk292 : fld w284 82 10 ≠ 0 := (by have q := hW157.1; have q2 := fld_eq (j := 10) ((hF287.1 82 (by decide)).trans ((hF281.1 82 (by decide)).trans ((hF274.1 82 (by decide)).trans (hF199.1 82 (by decide))))); omega)
        refine xg_t (xg_ifT (u := f82_180) rfl xnm0 (xj_neT (by omega))) ?_
        refine xg_t (xg_blk (b := [(416, 1, 0, 0, 0, 0), (417, 3, 13, 140, 96, 183)]) rfl) ?_
        refine xg_t (xg_aload (va := (2, 82)) rfl rfl) ?_
        refine xg_cVv mX12_ends (vs := []) (rest := []) (cn1 := 0) (sl1 := 0) rfl (mEndsW (hI286) (by have q := hW157.1; have q2 := fld_eq (j := 10) ((hF287.1 82 (by decide)).trans ((hF281.1 82 (by decide)).trans ((hF274.1 82 (by decide)).trans (hF199.1 82 (by decide))))); omega)) rfl (hF287.get (by decide) (hF281.get (by decide) (hF274.get (by decide) (hF199.get (by decide) h82_194)))) rfl rfl rfl rfl rfl rfl (fun w293 hq294 => ?_)
        obtain ⟨hI295, hF296⟩ := hq294
        refine xg_t (xg_blk (b := [(420, 1, 0, 0, 0, 0), (421, 3, 1, 12, 11, 17), (424, 1, 2, 1, 0, 0), (425, 1, 39, 0, 0, 0), (426, 1, 10, 0, 0, 0), (427, 1, 3, 1, 0, 0), (428, 1, 11, 0, 0, 0), (429, 1, 17, 0, 0, 0), (430, 1, 0, 0, 0, 0), (431, 1, 19, 0, 0, 0), (432, 3, 1, 12, 14, 212), (435, 1, 3, 1, 0, 0), (436, 1, 11, 0, 0, 0), (437, 3, 14, 12, 14, 212), (440, 1, 12, 0, 0, 0)]) rfl) ?_
        have hf297 : fld w293 82 2 = f82_164 := fld_of (hF296.get (by decide) (hF287.get (by decide) (hF281.get (by decide) (hF274.get (by decide) (hF199.get (by decide) h82_194)))))
        have hf298 : fld w293 82 3 = f82_166 := fld_of (hF296.get (by decide) (hF287.get (by decide) (hF281.get (by decide) (hF274.get (by decide) (hF199.get (by decide) h82_194)))))
        have hf299 : fld w293 82 4 = f82_168 := fld_of (hF296.get (by decide) (hF287.get (by decide) (hF281.get (by decide) (hF274.get (by decide) (hF199.get (by decide) h82_194)))))
        have hf300 : fld w293 82 5 = f82_170 := fld_of (hF296.get (by decide) (hF287.get (by decide) (hF281.get (by decide) (hF274.get (by decide) (hF199.get (by decide) h82_194)))))
        have hf301 : fld w293 82 6 = f82_172 := fld_of (hF296.get (by decide) (hF287.get (by decide) (hF281.get (by decide) (hF274.get (by decide) (hF199.get (by decide) h82_194)))))
        have hf302 : fld w293 82 7 = f82_174 := fld_of (hF296.get (by decide) (hF287.get (by decide) (hF281.get (by decide) (hF274.get (by decide) (hF199.get (by decide) h82_194)))))
        have hf303 : fld w293 82 8 = f82_176 := fld_of (hF296.get (by decide) (hF287.get (by decide) (hF281.get (by decide) (hF274.get (by decide) (hF199.get (by decide) h82_194)))))
        have hf304 : fld w293 82 9 = f82_178 := fld_of (hF296.get (by decide) (hF287.get (by decide) (hF281.get (by decide) (hF274.get (by decide) (hF199.get (by decide) h82_194)))))
        have hf305 : fld w293 82 10 = f82_180 := fld_of (hF296.get (by decide) (hF287.get (by decide) (hF281.get (by decide) (hF274.get (by decide) (hF199.get (by decide) h82_194)))))
        have hf306 : fld w293 82 14 = f82_182 := fld_of (hF296.get (by decide) (hF287.get (by decide) (hF281.get (by decide) (hF274.get (by decide) (hF199.get (by decide) h82_194)))))
        have hk307 := ((fld_eq (j := 14) ((hF296.1 82 (by decide)).trans ((hF287.1 82 (by decide)).trans ((hF281.1 82 (by decide)).trans ((hF274.1 82 (by decide)).trans (hF199.1 82 (by decide))))))).trans k14_155)
        have hl308 : f82_182 ≤ 500 := by omega
        have hk309 : WRG w293 (tq B nn p_108) := ⟨(fld_eq (j := 10) ((hF296.1 82 (by decide)).trans ((hF287.1 82 (by decide)).trans ((hF281.1 82 (by decide)).trans ((hF274.1 82 (by decide)).trans (hF199.1 82 (by decide))))))).trans hW157.1, (rwv_eq (j := 16) ((hF296.1 83 (by decide)).trans ((hF287.1 83 (by decide)).trans ((hF281.1 83 (by decide)).trans ((hF274.1 83 (by decide)).trans (hF199.1 83 (by decide))))))).trans hW157.2.1, (rwv_eq (j := 17) ((hF296.1 83 (by decide)).trans ((hF287.1 83 (by decide)).trans ((hF281.1 83 (by decide)).trans ((hF274.1 83 (by decide)).trans (hF199.1 83 (by decide))))))).trans hW157.2.2⟩
        refine xg_t (xg_aload (va := (2, 82)) rfl rfl) ?_
        refine xg_t (xg_getf (va := (2, 85)) (hF296.get (by decide) (hF287.get (by decide) (hF281.get (by decide) (hF274.get (by decide) (hF199.get (by decide) h82_194))))) rfl) ?_
        refine xg_t (xg_iload (va := (0, 1)) rfl rfl) ?_
        refine xg_t (xg_dup2 rfl) ?_
        refine xoI (hI295 85 (by decide) (by decide) : cpI 7 52 4294967295 (wget w293 85)) (fun g85_310 h85_311 hb312 => ?_)
        refine xg_ialdB (n := 1) (B := 4294967295) h85_311 (hb312) xnm0 (by omega) (fun u313 hu314 he315 => ?_)
        have hK316 : u313 = u42 := (((rwv_of h85_311 (by decide)).trans he315).symm.trans (rwv_eq ((hF296.1 85 (by decide)).trans ((hF287.1 85 (by decide)).trans ((hF281.1 85 (by decide)).trans ((hF274.1 85 (by decide)).trans ((hF199.1 85 (by decide)).trans ((hF149.1 85 (by decide)).trans ((hF103.1 85 (by decide)).trans hj57))))))))).trans ((hm 1 (by decide)).trans hK45.symm)
        have hl317 : u313 ≤ 500 := by omega
        refine xg_t (xg_const) ?_
        refine xg_t (xg_iadd (u := u313) (v := 1) (z := u313 + 1) xnm0 xnm0 (by omega)) ?_
        refine xg_iastK (n := 1) (u := u313 + 1) h85_311 xnm0 xnm0 rfl (by omega) (fun w318 hr319 hb320 => ?_)
        refine xg_t (xg_aload (va := (2, 82)) rfl rfl) ?_
        refine xg_t (xg_dup rfl) ?_
        refine xg_t (xg_getf (va := (0, f82_182)) (hb320.get (by decide) (hF296.get (by decide) (hF287.get (by decide) (hF281.get (by decide) (hF274.get (by decide) (hF199.get (by decide) h82_194)))))) rfl) ?_
        have hn321 := id hb183
        unfold xHid at hn321
        refine xg_t (xg_const) ?_
        refine xg_t (xg_iadd (u := f82_182) (v := 1) (z := f82_182 + 1) xnm0 xnm0 (by omega)) ?_
        refine xg_putI (fl1 := [(2, 83), (2, 84), (0, f82_164), (0, f82_166), (0, f82_168), (0, f82_170), (0, f82_172), (0, f82_174), (0, f82_176), (0, f82_178), (0, f82_180), (2, 85), (2, 86), (2, 87), (0, f82_182 + 1), (2, 88), (2, 89), (2, 90), (2, 91), (2, 92), (2, 93), (2, 94), (4, f82_184), (4, f82_185), (0, f82_186), (2, 95), (2, 96), (2, 97), (2, 98), (2, 99), (2, 100), (2, 101), (2, 102), (0, f82_188), (2, 103), (2, 104), (2, 105), (2, 106), (2, 107), (2, 108), (2, 109), (0, f82_190), (0, f82_192), (2, 110), (2, 111), (2, 112), (2, 113)]) (hb320.get (by decide) (hF296.get (by decide) (hF287.get (by decide) (hF281.get (by decide) (hF274.get (by decide) (hF199.get (by decide) h82_194)))))) rfl rfl rfl (fun w322 hk323 hb324 => ?_)
        have hf325 : fld w322 82 2 = f82_164 := fld_of hk323
        have hf326 : fld w322 82 3 = f82_166 := fld_of hk323
        have hf327 : fld w322 82 4 = f82_168 := fld_of hk323
        have hf328 : fld w322 82 5 = f82_170 := fld_of hk323
        have hf329 : fld w322 82 6 = f82_172 := fld_of hk323
        have hf330 : fld w322 82 7 = f82_174 := fld_of hk323
        have hf331 : fld w322 82 8 = f82_176 := fld_of hk323
        have hf332 : fld w322 82 9 = f82_178 := fld_of hk323
        have hf333 : fld w322 82 10 = f82_180 := fld_of hk323
        have hf334 : fld w322 82 14 = f82_182 + 1 := fld_of hk323
        exact xg_e ⟨w322, ⟨rfl, rfl⟩, xMnv.up (S := [85, 82]) hI295 ((xFr.of (S := [85, 82]) hb320 (by decide)).tr (xFr.of (S := [85, 82]) hb324 (by decide))) (List.forall_mem_cons.mpr ⟨(show cpI 7 52 4294967295 (wget w322 85) from ⟨_, (hr319.but hb324 (by decide)), xrb (by omega) (hb312)⟩), List.forall_mem_cons.mpr ⟨(show cp82 (wget w322 82) from ⟨f82_164, f82_166, f82_168, f82_170, f82_172, f82_174, f82_176, f82_178, f82_180, f82_182 + 1, f82_184, f82_185, f82_186, f82_188, f82_190, f82_192, hk323, by omega, hb167, by omega, by omega, hb173, by omega, hb177, hb179, by omega, by omega, hb187, hb189, hb191, hb193, by omega⟩), fun _ h => absurd h List.not_mem_nil⟩⟩), ((((((((hF50.tr (hF103.up (by decide))).tr (hF149.up (by decide))).tr (hF199.up (by decide))).tr (hF274.up (by decide))).tr (hF281.up (by decide))).tr (hF287.up (by decide))).tr (hF296.up (by decide))).tr ((xFr.of (S := [82, 83, 85, 86, 87]) hb320 (by decide)).tr (xFr.of (S := [82, 83, 85, 86, 87]) hb324 (by decide)))), ⟨Or.inl ⟨p_108, lf163, ⟨by have z := hk309.1; omega, (rwv_eq (j := 16) ((hb324.1 83 (by decide)).trans (hb320.1 83 (by decide)))).trans hk309.2.1, (rwv_eq (j := 17) ((hb324.1 83 (by decide)).trans (hb320.1 83 (by decide)))).trans hk309.2.2⟩⟩, (((((((((hj56.tr (K83.fr hF103 (by decide))).tr k8_153).tr (K83.fr hF199 (by decide))).tr (K83.fr hF274 (by decide))).tr (K83.fr hF281 (by decide))).tr (K83.fr hF287 (by decide))).tr (K83.fr hF296 (by decide))).tr (K83.but hb320 (by decide))).tr (K83.but hb324 (by decide))), by omega⟩⟩
    · obtain ⟨p_335, hp336⟩ : ∃ x, x = tf B nn p_108 := ⟨_, rfl⟩
      rw [← hp336] at hT_161
      have ln337 : lnR B nn p0 = lnN B nn 1 1 p_335 := by rw [hp336]; exact ln112.trans (lnN_y (k := 1) hk156)
      have vp338 : vlp B nn (lnP B nn k) 0 = p_108 := by rw [← hp0]; exact hp109.symm
      have vl339 : vln B nn (lnP B nn k) 0 = tnu B nn p_108 := by
        show (if (0 : Nat) = 3 then _ else tnu B nn (vlp B nn (lnP B nn k) 0)) = _
        rw [if_neg (by decide), vp338]
      have he341 : (chk (mf1 B nn k 1 (flA B nn k)) 0 99 (tnu B nn p_108) (tq B nn p_108)) = (mf2 B nn k 1 (flA B nn k)) := by show _ = chk (mf1 B nn k 1 (flA B nn k)) 0 99 (vln B nn (lnP B nn k) 0) (tq B nn (vlp B nn (lnP B nn k) 0)); rw [vl339, vp338]
      have hF_340 := hF_162
      rw [he341] at hF_340
      refine xg_t (xg_istore (l1 := [(0, (2, 82)), (1, (0, 1)), (2, (0, at_)), (3, (0, u42))]) rfl rfl rfl) ?_
      refine xg_t (xg_aload (va := (2, 82)) rfl rfl) ?_
      refine xg_t (xg_iload (va := (0, n150)) rfl rfl) ?_
      refine xg_t (xg_iload (va := (0, u42)) rfl rfl) ?_
      refine xoCh82 (hI148 82 (by decide) (by decide) : cp82 (wget w146 82)) (fun f82_342 f82_344 f82_346 f82_348 f82_350 f82_352 f82_354 f82_356 f82_358 f82_360 f82_362 f82_363 f82_364 f82_366 f82_368 f82_370 h82_372 hb343 hb345 hb347 hb349 hb351 hb353 hb355 hb357 hb359 hb361 hb365 hb367 hb369 hb371 hb373 => ?_)
      refine xg_cVi mX12_isLifeTold (vs := [(0, n150), (0, u42)]) (rest := []) (cn1 := 0) (sl1 := 0) rfl (mLifeX (hI148) (by omega) (by omega)) rfl h82_372 rfl rfl rfl rfl rfl rfl (fun n378 w374 hq375 => ?_)
      obtain ⟨hn379, hI376, hF377⟩ := hq375
      rcases hn379 with ⟨rfl, hk380⟩ | ⟨rfl, hk380⟩
      · have hz381 : ∃ m, m < u42 ∧ m < 4 ∧ rwv w 86 (50 + 2 * m) = vln B nn (lnP B nn k) 0 := by
          obtain ⟨m, m1, m2, m3⟩ := hk380
          exact ⟨m, m1, m2, by rw [vl339, ← hv158, ← m3]; exact (rwv_eq ((hF149.1 86 (by decide)).trans ((hF103.1 86 (by decide)).trans hj58))).symm⟩
        refine xg_t (xg_ifF (u := 1) rfl xnm0 (by decide)) ?_
        refine xg_t (xg_aload (va := (2, 82)) rfl rfl) ?_
        refine xg_t (xg_const) ?_
        refine xg_t (xg_iload (va := (0, at_)) rfl rfl) ?_
        refine xg_cVv mX12_also (vs := [(0, 3), (0, at_)]) (rest := []) (cn1 := 0) (sl1 := 0) rfl (mAlsoX (hI376) (by omega) (by omega) (by omega) ((fld_eq (j := 10) (hF377.1 82 (by decide))).trans k10_160) (hF_340.k83 (rwv_eq (hF377.1 83 (by decide))) (rwv_eq (hF377.1 83 (by decide))))) rfl (hF377.get (by decide) h82_372) rfl rfl rfl rfl rfl rfl (fun w382 hq383 => ?_)
        obtain ⟨hI384, hF385, hx386⟩ := hq383
        obtain ⟨hv387, hv388⟩ := hx386
        refine xg_t (xg_blk (b := [(141, 1, 0, 0, 0, 0), (142, 1, 2, 1, 0, 0), (143, 1, 2, 3, 0, 0), (144, 2, 4, 50, 0, 0), (146, 1, 3, 2, 0, 0), (147, 1, 2, 3, 0, 0), (148, 1, 16, 0, 0, 0), (149, 1, 11, 0, 0, 0), (150, 2, 2, 4, 0, 0), (152, 3, 13, 211, 96, 200), (155, 1, 0, 0, 0, 0), (156, 1, 2, 1, 0, 0), (157, 1, 2, 3, 0, 0), (158, 2, 4, 50, 0, 0), (160, 1, 3, 2, 0, 0), (161, 1, 2, 3, 0, 0), (162, 1, 16, 0, 0, 0), (163, 1, 11, 0, 0, 0), (164, 1, 3, 1, 0, 0), (165, 1, 11, 0, 0, 0), (166, 1, 0, 0, 0, 0), (167, 1, 3, 1, 0, 0), (168, 3, 5, 999, 0, 0), (171, 3, 13, 199, 96, 196), (174, 3, 13, 211, 96, 200), (177, 3, 8, 394, 0, 0)]) rfl) ?_
        have ho390 : tq B nn (lnP B nn k) < tq B nn (vlp B nn (lnP B nn k) 0) := by
          rw [vp338, ← hp0]
          have z1 := (tf_gt (B := B) (n := nn) (p := p0) (by rw [slt_kd (by rw [hp0, hs]; decide)]; decide)).2
          have z2 := tq_ge (B := B) (n := nn) (p := p_108)
          omega
        have he389 : alo (mf2 B nn k 1 (flA B nn k)) 3 at_ = mf3 B nn k 1 (flA B nn k) := by
          unfold mf3
          rw [decide_eq_true rfl, Bool.true_and, hat, hp0]
          by_cases y : (flA B nn k).1 ≠ 0 ∨ lim 1 ≤ lnC B nn 1 k
          · have y2 := mf3_b y zp ho390
            rw [y2]
            cases lfB B nn (vln B nn (lnP B nn k) 0) k <;> rfl
          · have y1 : (flA B nn k).1 = 0 := by omega
            have y3 : ¬ 4 ≤ lnC B nn 1 k := fun x => y (Or.inr x)
            rw [(mlf_iff (hR y1).1 hK45 (by omega)).mp hz381]
            rfl
        have hF_391 := hv387
        rw [he389] at hF_391
        refine xg_t (xg_aload (va := (2, 82)) rfl rfl) ?_
        refine xg_t (xg_iload (va := (0, 1)) rfl rfl) ?_
        refine xg_t (xg_iload (va := (0, u42)) rfl rfl) ?_
        refine xg_t (xg_bip) ?_
        refine xg_t (xg_const) ?_
        refine xg_t (xg_iload (va := (0, u42)) rfl rfl) ?_
        refine xg_t (xg_imul (u := 2) (v := u42) (z := 2 * u42) xnm0 xnm0 (by omega)) ?_
        refine xg_t (xg_iadd (u := 50) (v := 2 * u42) (z := 50 + (2 * u42)) xnm0 xnm0 (by omega)) ?_
        refine xg_t (xg_iload (va := (0, n150)) rfl rfl) ?_
        refine xg_cVv mX12_puts (vs := [(0, 1), (0, u42), (0, 50 + (2 * u42)), (0, n150)]) (rest := []) (cn1 := 0) (sl1 := 0) rfl (mPuts1 (hI384) (by omega) (by omega) (by omega) (fun _ => by omega)) rfl (hF385.get (by decide) (hF377.get (by decide) h82_372)) rfl rfl rfl rfl rfl rfl (fun w392 hq393 => ?_)
        obtain ⟨hI394, hF395, hx396⟩ := hq393
        obtain ⟨hp397, hp398⟩ := hx396
        refine xg_t (xg_aload (va := (2, 82)) rfl rfl) ?_
        refine xg_t (xg_iload (va := (0, 1)) rfl rfl) ?_
        refine xg_t (xg_iload (va := (0, u42)) rfl rfl) ?_
        refine xg_t (xg_bip) ?_
        refine xg_t (xg_const) ?_
        refine xg_t (xg_iload (va := (0, u42)) rfl rfl) ?_
        refine xg_t (xg_imul (u := 2) (v := u42) (z := 2 * u42) xnm0 xnm0 (by omega)) ?_
        refine xg_t (xg_iadd (u := 50) (v := 2 * u42) (z := 50 + (2 * u42)) xnm0 xnm0 (by omega)) ?_
        refine xg_t (xg_const) ?_
        refine xg_t (xg_iadd (u := 50 + (2 * u42)) (v := 1) (z := (50 + (2 * u42)) + 1) xnm0 xnm0 (by omega)) ?_
        refine xg_t (xg_aload (va := (2, 82)) rfl rfl) ?_
        refine xg_t (xg_const) ?_
        refine xg_t (xg_sip) ?_
        have hk399 := ((fld_eq (j := 14) ((hF395.1 82 (by decide)).trans ((hF385.1 82 (by decide)).trans (hF377.1 82 (by decide))))).trans k14_155)
        refine xg_cVi mX12_numbered (vs := [(0, 1), (0, 999)]) (rest := [(0, (50 + (2 * u42)) + 1), (0, u42), (0, 1), (2, 82)]) (cn1 := 0) (sl1 := 0) rfl (mNumX (ir := 0) (hI394) (by omega) (by omega) (hB.fr (fun j h4 h9 => (((((hj56.tr (K83.fr hF103 (by decide))).tr k8_153).tr (K83.fr hF377 (by decide))).tr hv388).tr (K83.fr hF395 (by decide))) j (by omega) (by omega) (by omega))) ((fld_eq (j := 10) ((hF395.1 82 (by decide)).trans ((hF385.1 82 (by decide)).trans (hF377.1 82 (by decide))))).trans k10_160) (hT_161.fr ((hF395.1 82 (by decide)).trans ((hF385.1 82 (by decide)).trans (hF377.1 82 (by decide))))) (hF_391.k83 (rwv_eq (hF395.1 83 (by decide))) (rwv_eq (hF395.1 83 (by decide))))) rfl (hF395.get (by decide) (hF385.get (by decide) (hF377.get (by decide) h82_372))) rfl rfl rfl rfl rfl rfl (fun n404 w400 hq401 => ?_)
        obtain ⟨hn405, hI402, hF403⟩ := hq401
        obtain ⟨hx408, h14_406, k8_407⟩ := hn405
        have k14_409 := h14_406.trans hk399
        rcases hx408 with ⟨rfl, hk410, hW411⟩ | ⟨hv412, h9_413, hk410, k10_414, hT_415, hF_416⟩
        · have lf417 : lnR B nn p0 = (false, p_335) := ln337.trans (lnN_n (k := 0) hk410)
          refine xoCh82 (hI402 82 (by decide) (by decide) : cp82 (wget w400 82)) (fun f82_418 f82_420 f82_422 f82_424 f82_426 f82_428 f82_430 f82_432 f82_434 f82_436 f82_438 f82_439 f82_440 f82_442 f82_444 f82_446 h82_448 hb419 hb421 hb423 hb425 hb427 hb429 hb431 hb433 hb435 hb437 hb441 hb443 hb445 hb447 hb449 => ?_)
          refine xg_cVv mX12_puts (vs := [(0, 1), (0, u42), (0, (50 + (2 * u42)) + 1), (0, 0)]) (rest := []) (cn1 := 0) (sl1 := 0) rfl (mPuts1 (hI402) (by omega) (by omega) (by omega) (fun _ => by omega)) rfl h82_448 rfl rfl rfl rfl rfl rfl (fun w450 hq451 => ?_)
          obtain ⟨hI452, hF453, hx454⟩ := hq451
          obtain ⟨hp455, hp456⟩ := hx454
          refine xg_t (xg_goto) ?_
          refine xg_t (xg_blk (b := [(394, 1, 0, 0, 0, 0), (395, 3, 1, 12, 10, 180), (398, 3, 7, 416, 1, 0), (401, 1, 0, 0, 0, 0), (402, 3, 1, 12, 7, 151), (405, 1, 3, 2, 0, 0), (406, 3, 6, 416, 1, 0), (409, 1, 0, 0, 0, 0), (410, 3, 13, 110, 96, 190), (413, 3, 8, 420, 0, 0)]) rfl) ?_
          refine xg_t (xg_aload (va := (2, 82)) rfl rfl) ?_
          refine xg_t (xg_getf (va := (0, f82_434)) (hF453.get (by decide) h82_448) rfl) ?_
          have hf457 : fld w450 82 10 = f82_434 := fld_of (hF453.get (by decide) h82_448)
          have hk458 : fld w450 82 10 ≠ 0 := (by have q := hW411.1; have q2 := fld_eq (j := 10) (hF453.1 82 (by decide)); omega)
          refine xg_t (xg_ifT (u := f82_434) rfl xnm0 (xj_neT (by omega))) ?_
          refine xg_t (xg_blk (b := [(416, 1, 0, 0, 0, 0), (417, 3, 13, 140, 96, 183)]) rfl) ?_
          refine xg_t (xg_aload (va := (2, 82)) rfl rfl) ?_
          refine xg_cVv mX12_ends (vs := []) (rest := []) (cn1 := 0) (sl1 := 0) rfl (mEndsW (hI452) (by have q := hW411.1; have q2 := fld_eq (j := 10) (hF453.1 82 (by decide)); omega)) rfl (hF453.get (by decide) h82_448) rfl rfl rfl rfl rfl rfl (fun w459 hq460 => ?_)
          obtain ⟨hI461, hF462⟩ := hq460
          refine xg_t (xg_blk (b := [(420, 1, 0, 0, 0, 0), (421, 3, 1, 12, 11, 17), (424, 1, 2, 1, 0, 0), (425, 1, 39, 0, 0, 0), (426, 1, 10, 0, 0, 0), (427, 1, 3, 1, 0, 0), (428, 1, 11, 0, 0, 0), (429, 1, 17, 0, 0, 0), (430, 1, 0, 0, 0, 0), (431, 1, 19, 0, 0, 0), (432, 3, 1, 12, 14, 212), (435, 1, 3, 1, 0, 0), (436, 1, 11, 0, 0, 0), (437, 3, 14, 12, 14, 212), (440, 1, 12, 0, 0, 0)]) rfl) ?_
          have hf463 : fld w459 82 2 = f82_418 := fld_of (hF462.get (by decide) (hF453.get (by decide) h82_448))
          have hf464 : fld w459 82 3 = f82_420 := fld_of (hF462.get (by decide) (hF453.get (by decide) h82_448))
          have hf465 : fld w459 82 4 = f82_422 := fld_of (hF462.get (by decide) (hF453.get (by decide) h82_448))
          have hf466 : fld w459 82 5 = f82_424 := fld_of (hF462.get (by decide) (hF453.get (by decide) h82_448))
          have hf467 : fld w459 82 6 = f82_426 := fld_of (hF462.get (by decide) (hF453.get (by decide) h82_448))
          have hf468 : fld w459 82 7 = f82_428 := fld_of (hF462.get (by decide) (hF453.get (by decide) h82_448))
          have hf469 : fld w459 82 8 = f82_430 := fld_of (hF462.get (by decide) (hF453.get (by decide) h82_448))
          have hf470 : fld w459 82 9 = f82_432 := fld_of (hF462.get (by decide) (hF453.get (by decide) h82_448))
          have hf471 : fld w459 82 10 = f82_434 := fld_of (hF462.get (by decide) (hF453.get (by decide) h82_448))
          have hf472 : fld w459 82 14 = f82_436 := fld_of (hF462.get (by decide) (hF453.get (by decide) h82_448))
          have hk473 := ((fld_eq (j := 14) ((hF462.1 82 (by decide)).trans (hF453.1 82 (by decide)))).trans k14_409)
          have hl474 : f82_436 ≤ 500 := by omega
          have hk475 : WRG w459 (tq B nn p_335) := ⟨(fld_eq (j := 10) ((hF462.1 82 (by decide)).trans (hF453.1 82 (by decide)))).trans hW411.1, (rwv_eq (j := 16) ((hF462.1 83 (by decide)).trans (hF453.1 83 (by decide)))).trans hW411.2.1, (rwv_eq (j := 17) ((hF462.1 83 (by decide)).trans (hF453.1 83 (by decide)))).trans hW411.2.2⟩
          refine xg_t (xg_aload (va := (2, 82)) rfl rfl) ?_
          refine xg_t (xg_getf (va := (2, 85)) (hF462.get (by decide) (hF453.get (by decide) h82_448)) rfl) ?_
          refine xg_t (xg_iload (va := (0, 1)) rfl rfl) ?_
          refine xg_t (xg_dup2 rfl) ?_
          refine xoI (hI461 85 (by decide) (by decide) : cpI 7 52 4294967295 (wget w459 85)) (fun g85_476 h85_477 hb478 => ?_)
          refine xg_ialdB (n := 1) (B := 4294967295) h85_477 (hb478) xnm0 (by omega) (fun u479 hu480 he481 => ?_)
          have hK482 : u479 = u42 := (((rwv_of h85_477 (by decide)).trans he481).symm.trans (rwv_eq ((hF462.1 85 (by decide)).trans ((hF453.1 85 (by decide)).trans ((hF403.1 85 (by decide)).trans ((hF395.1 85 (by decide)).trans ((hF385.1 85 (by decide)).trans ((hF377.1 85 (by decide)).trans ((hF149.1 85 (by decide)).trans ((hF103.1 85 (by decide)).trans hj57)))))))))).trans ((hm 1 (by decide)).trans hK45.symm)
          have hl483 : u479 ≤ 500 := by omega
          refine xg_t (xg_const) ?_
          refine xg_t (xg_iadd (u := u479) (v := 1) (z := u479 + 1) xnm0 xnm0 (by omega)) ?_
          refine xg_iastK (n := 1) (u := u479 + 1) h85_477 xnm0 xnm0 rfl (by omega) (fun w484 hr485 hb486 => ?_)
          refine xg_t (xg_aload (va := (2, 82)) rfl rfl) ?_
          refine xg_t (xg_dup rfl) ?_
          refine xg_t (xg_getf (va := (0, f82_436)) (hb486.get (by decide) (hF462.get (by decide) (hF453.get (by decide) h82_448))) rfl) ?_
          have hn487 := id hb437
          unfold xHid at hn487
          refine xg_t (xg_const) ?_
          refine xg_t (xg_iadd (u := f82_436) (v := 1) (z := f82_436 + 1) xnm0 xnm0 (by omega)) ?_
          refine xg_putI (fl1 := [(2, 83), (2, 84), (0, f82_418), (0, f82_420), (0, f82_422), (0, f82_424), (0, f82_426), (0, f82_428), (0, f82_430), (0, f82_432), (0, f82_434), (2, 85), (2, 86), (2, 87), (0, f82_436 + 1), (2, 88), (2, 89), (2, 90), (2, 91), (2, 92), (2, 93), (2, 94), (4, f82_438), (4, f82_439), (0, f82_440), (2, 95), (2, 96), (2, 97), (2, 98), (2, 99), (2, 100), (2, 101), (2, 102), (0, f82_442), (2, 103), (2, 104), (2, 105), (2, 106), (2, 107), (2, 108), (2, 109), (0, f82_444), (0, f82_446), (2, 110), (2, 111), (2, 112), (2, 113)]) (hb486.get (by decide) (hF462.get (by decide) (hF453.get (by decide) h82_448))) rfl rfl rfl (fun w488 hk489 hb490 => ?_)
          have hf491 : fld w488 82 2 = f82_418 := fld_of hk489
          have hf492 : fld w488 82 3 = f82_420 := fld_of hk489
          have hf493 : fld w488 82 4 = f82_422 := fld_of hk489
          have hf494 : fld w488 82 5 = f82_424 := fld_of hk489
          have hf495 : fld w488 82 6 = f82_426 := fld_of hk489
          have hf496 : fld w488 82 7 = f82_428 := fld_of hk489
          have hf497 : fld w488 82 8 = f82_430 := fld_of hk489
          have hf498 : fld w488 82 9 = f82_432 := fld_of hk489
          have hf499 : fld w488 82 10 = f82_434 := fld_of hk489
          have hf500 : fld w488 82 14 = f82_436 + 1 := fld_of hk489
          exact xg_e ⟨w488, ⟨rfl, rfl⟩, xMnv.up (S := [85, 82]) hI461 ((xFr.of (S := [85, 82]) hb486 (by decide)).tr (xFr.of (S := [85, 82]) hb490 (by decide))) (List.forall_mem_cons.mpr ⟨(show cpI 7 52 4294967295 (wget w488 85) from ⟨_, (hr485.but hb490 (by decide)), xrb (by omega) (hb478)⟩), List.forall_mem_cons.mpr ⟨(show cp82 (wget w488 82) from ⟨f82_418, f82_420, f82_422, f82_424, f82_426, f82_428, f82_430, f82_432, f82_434, f82_436 + 1, f82_438, f82_439, f82_440, f82_442, f82_444, f82_446, hk489, by omega, hb421, by omega, by omega, hb427, by omega, hb431, hb433, by omega, by omega, hb441, hb443, hb445, hb447, by omega⟩), fun _ h => absurd h List.not_mem_nil⟩⟩), (((((((((hF50.tr (hF103.up (by decide))).tr (hF149.up (by decide))).tr (hF377.up (by decide))).tr (hF385.up (by decide))).tr (hF395.up (by decide))).tr (hF403.up (by decide))).tr (hF453.up (by decide))).tr (hF462.up (by decide))).tr ((xFr.of (S := [82, 83, 85, 86, 87]) hb486 (by decide)).tr (xFr.of (S := [82, 83, 85, 86, 87]) hb490 (by decide)))), ⟨Or.inl ⟨p_335, lf417, ⟨by have z := hk475.1; omega, (rwv_eq (j := 16) ((hb490.1 83 (by decide)).trans (hb486.1 83 (by decide)))).trans hk475.2.1, (rwv_eq (j := 17) ((hb490.1 83 (by decide)).trans (hb486.1 83 (by decide)))).trans hk475.2.2⟩⟩, ((((((((((hj56.tr (K83.fr hF103 (by decide))).tr k8_153).tr (K83.fr hF377 (by decide))).tr hv388).tr (K83.fr hF395 (by decide))).tr k8_407).tr (K83.fr hF453 (by decide))).tr (K83.fr hF462 (by decide))).tr (K83.but hb486 (by decide))).tr (K83.but hb490 (by decide))), by omega⟩⟩
        · obtain ⟨p_501, hp502⟩ : ∃ x, x = tf B nn p_335 := ⟨_, rfl⟩
          rw [← hp502] at hT_415
          have ln503 : lnR B nn p0 = lnN B nn 1 0 p_501 := by rw [hp502]; exact ln337.trans (lnN_y (k := 0) hk410)
          have vp504 : vlp B nn (lnP B nn k) 1 = p_335 := by show tf B nn (vlp B nn (lnP B nn k) 0) = p_335; rw [vp338]; exact hp336.symm
          have vl505 : vln B nn (lnP B nn k) 1 = tnu B nn p_335 := by
            show (if (1 : Nat) = 3 then _ else tnu B nn (vlp B nn (lnP B nn k) 1)) = _
            rw [if_neg (by decide), vp504]
          have he507 : (chk (mf3 B nn k 1 (flA B nn k)) 1 999 (tnu B nn p_335) (tq B nn p_335)) = (mf4 B nn k 1 (flA B nn k)) := by show _ = chk (mf3 B nn k 1 (flA B nn k)) 1 999 (vln B nn (lnP B nn k) 1) (tq B nn (vlp B nn (lnP B nn k) 1)); rw [vl505, vp504]
          have hF_506 := hF_416
          rw [he507] at hF_506
          have he509 : (mf4 B nn k 1 (flA B nn k)) = (mfl B nn k 1 (flA B nn k)) := rfl
          have hF_508 := hF_506
          rw [he509] at hF_508
          refine xoCh82 (hI402 82 (by decide) (by decide) : cp82 (wget w400 82)) (fun f82_510 f82_512 f82_514 f82_516 f82_518 f82_520 f82_522 f82_524 f82_526 f82_528 f82_530 f82_531 f82_532 f82_534 f82_536 f82_538 h82_540 hb511 hb513 hb515 hb517 hb519 hb521 hb523 hb525 hb527 hb529 hb533 hb535 hb537 hb539 hb541 => ?_)
          refine xg_cVv mX12_puts (vs := [(0, 1), (0, u42), (0, (50 + (2 * u42)) + 1), (0, n404)]) (rest := []) (cn1 := 0) (sl1 := 0) rfl (mPuts1 (hI402) (by omega) (by omega) (by omega) (fun _ => by omega)) rfl h82_540 rfl rfl rfl rfl rfl rfl (fun w542 hq543 => ?_)
          obtain ⟨hI544, hF545, hx546⟩ := hq543
          obtain ⟨hp547, hp548⟩ := hx546
          refine xg_t (xg_goto) ?_
          refine xg_t (xg_blk (b := [(394, 1, 0, 0, 0, 0), (395, 3, 1, 12, 10, 180), (398, 3, 7, 416, 1, 0), (401, 1, 0, 0, 0, 0), (402, 3, 1, 12, 7, 151), (405, 1, 3, 2, 0, 0), (406, 3, 6, 416, 1, 0), (409, 1, 0, 0, 0, 0), (410, 3, 13, 110, 96, 190), (413, 3, 8, 420, 0, 0)]) rfl) ?_
          have ln549 : lnR B nn p0 = lnS B nn p_501 := by exact ln503.trans (lnN_0 (by decide))
          refine xg_t (xg_aload (va := (2, 82)) rfl rfl) ?_
          refine xg_t (xg_getf (va := (0, f82_526)) (hF545.get (by decide) h82_540) rfl) ?_
          have hf550 : fld w542 82 10 = f82_526 := fld_of (hF545.get (by decide) h82_540)
          have hk551 : fld w542 82 10 = 0 := ((fld_eq (j := 10) (hF545.1 82 (by decide))).trans k10_414)
          refine xg_t (xg_ifF (u := f82_526) rfl xnm0 (xj_neF (by omega))) ?_
          obtain ⟨⟨ht552, ht553, ht554, ht555, ht556, ht557⟩, ht558, ht559, ht560⟩ := id (hT_415.fr (hF545.1 82 (by decide)))
          have hf561 : fld w542 82 6 = f82_518 := fld_of (hF545.get (by decide) h82_540)
          have hf562 : fld w542 82 7 = f82_520 := fld_of (hF545.get (by decide) h82_540)
          have hf563 : fld w542 82 8 = f82_522 := fld_of (hF545.get (by decide) h82_540)
          have hf564 : fld w542 82 9 = f82_524 := fld_of (hF545.get (by decide) h82_540)
          have hf565 : fld w542 82 3 = f82_512 := fld_of (hF545.get (by decide) h82_540)
          have hmk566 := mkd_of (ir := 0) (B := B) (n := nn) (p := p_501)
          refine xg_t (xg_aload (va := (2, 82)) rfl rfl) ?_
          refine xg_t (xg_getf (va := (0, f82_520)) (hF545.get (by decide) h82_540) rfl) ?_
          refine xg_t (xg_const) ?_
          by_cases hc567 : f82_520 = 2
          · refine xg_t (xg_icF (u := f82_520) (v := 2) rfl xnm0 xnm0 (xj_neF hc567)) ?_
            have sg5681 : tkd B nn p_501 = 3 := by omega
            have sg5682 : B (tq B nn p_501) = 59 := by omega
            refine xg_t (xg_aload (va := (2, 82)) rfl rfl) ?_
            clear ht552 ht553 ht554 ht555 ht556 ht557 ht558 ht559 ht560 hf561 hf562 hf563 hf564 hf565 hmk566
            obtain ⟨⟨ht569, ht570, ht571, ht572, ht573, ht574⟩, -⟩ := id (hT_415.fr (hF545.1 82 (by decide)))
            have hk575 := ((fld_eq (j := 10) (hF545.1 82 (by decide))).trans k10_414)
            have hk576 := ((fld_eq (j := 14) (hF545.1 82 (by decide))).trans k14_409)
            refine xg_cVv mX12_advance (vs := []) (rest := []) (cn1 := 0) (sl1 := 0) rfl (mAdvX (hI544) (hB.fr (fun j h4 h9 => (((((((hj56.tr (K83.fr hF103 (by decide))).tr k8_153).tr (K83.fr hF377 (by decide))).tr hv388).tr (K83.fr hF395 (by decide))).tr k8_407).tr (K83.fr hF545 (by decide))) j (by omega) (by omega) (by omega))) ht569 ht570 (by rw [ht571]; exact tf_le ht574)) rfl (hF545.get (by decide) h82_540) rfl rfl rfl rfl rfl rfl (fun w577 hq578 => ?_)
            obtain ⟨hI579, hF580, hx581⟩ := hq578
            obtain ⟨hz582, hz583, hz584⟩ := hx581
            rw [ht571] at hz582
            clear ht569 ht570 ht571 ht572 ht573 ht574
            obtain ⟨p_585, hp586⟩ : ∃ x, x = tf B nn p_501 := ⟨_, rfl⟩
            rw [← hp586] at hz582
            have k10_587 := hz583.trans hk575
            have k14_588 := hz584.trans hk576
            clear hz583 hz584 hk575 hk576
            have ln589 : lnR B nn p0 = (true, p_585) := by rw [hp586]; exact ln549.trans (lnS_y ⟨sg5681, sg5682⟩)
            refine xg_t (xg_goto) ?_
            refine xg_t (xg_blk (b := [(420, 1, 0, 0, 0, 0), (421, 3, 1, 12, 11, 17), (424, 1, 2, 1, 0, 0), (425, 1, 39, 0, 0, 0), (426, 1, 10, 0, 0, 0), (427, 1, 3, 1, 0, 0), (428, 1, 11, 0, 0, 0), (429, 1, 17, 0, 0, 0), (430, 1, 0, 0, 0, 0), (431, 1, 19, 0, 0, 0), (432, 3, 1, 12, 14, 212), (435, 1, 3, 1, 0, 0), (436, 1, 11, 0, 0, 0), (437, 3, 14, 12, 14, 212), (440, 1, 12, 0, 0, 0)]) rfl) ?_
            refine xoCh82 (hI579 82 (by decide) (by decide) : cp82 (wget w577 82)) (fun f82_590 f82_592 f82_594 f82_596 f82_598 f82_600 f82_602 f82_604 f82_606 f82_608 f82_610 f82_611 f82_612 f82_614 f82_616 f82_618 h82_620 hb591 hb593 hb595 hb597 hb599 hb601 hb603 hb605 hb607 hb609 hb613 hb615 hb617 hb619 hb621 => ?_)
            have hf622 : fld w577 82 2 = f82_590 := fld_of h82_620
            have hf623 : fld w577 82 3 = f82_592 := fld_of h82_620
            have hf624 : fld w577 82 4 = f82_594 := fld_of h82_620
            have hf625 : fld w577 82 5 = f82_596 := fld_of h82_620
            have hf626 : fld w577 82 6 = f82_598 := fld_of h82_620
            have hf627 : fld w577 82 7 = f82_600 := fld_of h82_620
            have hf628 : fld w577 82 8 = f82_602 := fld_of h82_620
            have hf629 : fld w577 82 9 = f82_604 := fld_of h82_620
            have hf630 : fld w577 82 10 = f82_606 := fld_of h82_620
            have hf631 : fld w577 82 14 = f82_608 := fld_of h82_620
            have hk632 := k14_588
            have hl633 : f82_608 ≤ 500 := by omega
            have hk634 := hz582
            have hk635 := (hF_508.k83 (rwv_eq ((hF580.1 83 (by decide)).trans (hF545.1 83 (by decide)))) (rwv_eq ((hF580.1 83 (by decide)).trans (hF545.1 83 (by decide)))))
            have hk636 := k10_587
            refine xg_t (xg_aload (va := (2, 82)) rfl rfl) ?_
            refine xg_t (xg_getf (va := (2, 85)) h82_620 rfl) ?_
            refine xg_t (xg_iload (va := (0, 1)) rfl rfl) ?_
            refine xg_t (xg_dup2 rfl) ?_
            refine xoI (hI579 85 (by decide) (by decide) : cpI 7 52 4294967295 (wget w577 85)) (fun g85_637 h85_638 hb639 => ?_)
            refine xg_ialdB (n := 1) (B := 4294967295) h85_638 (hb639) xnm0 (by omega) (fun u640 hu641 he642 => ?_)
            have hK643 : u640 = u42 := (((rwv_of h85_638 (by decide)).trans he642).symm.trans (rwv_eq ((hF580.1 85 (by decide)).trans ((hF545.1 85 (by decide)).trans ((hF403.1 85 (by decide)).trans ((hF395.1 85 (by decide)).trans ((hF385.1 85 (by decide)).trans ((hF377.1 85 (by decide)).trans ((hF149.1 85 (by decide)).trans ((hF103.1 85 (by decide)).trans hj57)))))))))).trans ((hm 1 (by decide)).trans hK45.symm)
            have hl644 : u640 ≤ 500 := by omega
            refine xg_t (xg_const) ?_
            refine xg_t (xg_iadd (u := u640) (v := 1) (z := u640 + 1) xnm0 xnm0 (by omega)) ?_
            refine xg_iastK (n := 1) (u := u640 + 1) h85_638 xnm0 xnm0 rfl (by omega) (fun w645 hr646 hb647 => ?_)
            refine xg_t (xg_aload (va := (2, 82)) rfl rfl) ?_
            refine xg_t (xg_dup rfl) ?_
            refine xg_t (xg_getf (va := (0, f82_608)) (hb647.get (by decide) h82_620) rfl) ?_
            have hn648 := id hb609
            unfold xHid at hn648
            refine xg_t (xg_const) ?_
            refine xg_t (xg_iadd (u := f82_608) (v := 1) (z := f82_608 + 1) xnm0 xnm0 (by omega)) ?_
            refine xg_putI (fl1 := [(2, 83), (2, 84), (0, f82_590), (0, f82_592), (0, f82_594), (0, f82_596), (0, f82_598), (0, f82_600), (0, f82_602), (0, f82_604), (0, f82_606), (2, 85), (2, 86), (2, 87), (0, f82_608 + 1), (2, 88), (2, 89), (2, 90), (2, 91), (2, 92), (2, 93), (2, 94), (4, f82_610), (4, f82_611), (0, f82_612), (2, 95), (2, 96), (2, 97), (2, 98), (2, 99), (2, 100), (2, 101), (2, 102), (0, f82_614), (2, 103), (2, 104), (2, 105), (2, 106), (2, 107), (2, 108), (2, 109), (0, f82_616), (0, f82_618), (2, 110), (2, 111), (2, 112), (2, 113)]) (hb647.get (by decide) h82_620) rfl rfl rfl (fun w649 hk650 hb651 => ?_)
            have hf652 : fld w649 82 2 = f82_590 := fld_of hk650
            have hf653 : fld w649 82 3 = f82_592 := fld_of hk650
            have hf654 : fld w649 82 4 = f82_594 := fld_of hk650
            have hf655 : fld w649 82 5 = f82_596 := fld_of hk650
            have hf656 : fld w649 82 6 = f82_598 := fld_of hk650
            have hf657 : fld w649 82 7 = f82_600 := fld_of hk650
            have hf658 : fld w649 82 8 = f82_602 := fld_of hk650
            have hf659 : fld w649 82 9 = f82_604 := fld_of hk650
            have hf660 : fld w649 82 10 = f82_606 := fld_of hk650
            have hf661 : fld w649 82 14 = f82_608 + 1 := fld_of hk650
            have he662 : lnP B nn (k + 1) = p_585 := by
              show (lnR B nn (lnP B nn k)).2 = _
              rw [← hp0, ln589]
            have hT663 : TKM 0 B nn w649 p_585 := hk634.w14 (by omega) (by omega) (by omega) (by omega) (by omega) (by omega) (by omega) (by omega)
            have hF664 : FP w649 (mfl B nn k 1 (flA B nn k)) := hk635.k83 (rwv_eq ((hb651.1 83 (by decide)).trans (hb647.1 83 (by decide)))) (rwv_eq ((hb651.1 83 (by decide)).trans (hb647.1 83 (by decide))))
            have hg666 := (tf_gt (B := B) (n := nn) (p := p_108) (by omega)).2
            have hg667 := tq_ge (B := B) (n := nn) (p := p_108)
            have hg668 := (tf_gt (B := B) (n := nn) (p := p_335) (by omega)).2
            have hg669 := tq_ge (B := B) (n := nn) (p := p_335)
            have hg670 := (tf_gt (B := B) (n := nn) (p := p0) (by rw [slt_kd (by rw [hp0, hs]; decide)]; decide)).2
            have hg671 := (tf_gt (B := B) (n := nn) (p := p_501) (by omega)).2
            have hg672 := tq_ge (B := B) (n := nn) (p := p_501)
            have hg673 := tq_ge (B := B) (n := nn) (p := p_585)
            have hp1x := hp109
            have hO665 : ORD B nn k 1 (tq B nn (lnP B nn (k + 1))) := by
              unfold ORD
              rw [he662, vp338, vp504, ← hp0]
              exact ⟨by omega, by omega, fun z => absurd z (by decide), by omega, fun z => absurd z (by decide)⟩
            have hM674 : rwv w649 85 1 = lnC B nn 1 k + 1 := (rwv_of (hr646.but hb651 (by decide)) (by decide)).trans ((if_pos rfl).trans (by omega))
            have hM675 : ∀ s, s < 7 → s ≠ 1 → rwv w649 85 s = rwv w 85 s := fun s hs hn => (rwv_of (hr646.but hb651 (by decide)) hs).trans ((if_neg hn).trans ((rwv_of h85_638 hs).symm.trans (rwv_eq ((hF580.1 85 (by decide)).trans ((hF545.1 85 (by decide)).trans ((hF403.1 85 (by decide)).trans ((hF395.1 85 (by decide)).trans ((hF385.1 85 (by decide)).trans ((hF377.1 85 (by decide)).trans ((hF149.1 85 (by decide)).trans ((hF103.1 85 (by decide)).trans hj57)))))))))))
            have hr676 : lnC B nn 1 k < 4 → ∀ t, t < 2 → XM w649 1 (lnC B nn 1 k) t = vln B nn (lnP B nn k) t := fun hlt t ht => by
              rcases (show t = 0 ∨ t = 1 by omega) with rfl | rfl
              · show rwv w649 86 (50 + 2 * lnC B nn 1 k + 0) = _
                rw [show 50 + 2 * lnC B nn 1 k + 0 = 50 + (2 * u42) by omega]
                exact ((rwv_eq (hb651.1 86 (by decide))).trans ((rwv_eq (hb647.1 86 (by decide))).trans ((rwv_eq (hF580.1 86 (by decide))).trans ((hp548 (50 + (2 * u42)) (by omega) (by omega)).trans (rwv_eq (hF403.1 86 (by decide))))))).trans ((hp397 (by omega)).trans (hv158.trans vl339.symm))
              · show rwv w649 86 (50 + 2 * lnC B nn 1 k + 1) = _
                rw [show 50 + 2 * lnC B nn 1 k + 1 = (50 + (2 * u42)) + 1 by omega]
                exact ((rwv_eq (hb651.1 86 (by decide))).trans ((rwv_eq (hb647.1 86 (by decide))).trans (rwv_eq (hF580.1 86 (by decide))))).trans ((hp547 (by omega)).trans (hv412.trans vl505.symm))
            have ho677 : ∀ j, (j < 50 + 2 * lnC B nn 1 k ∨ 50 + 2 * (lnC B nn 1 k + 1) ≤ j) → j < 140 → rwv w649 86 j = rwv w 86 j := fun j hj hl => ((rwv_eq (hb651.1 86 (by decide))).trans ((rwv_eq (hb647.1 86 (by decide))).trans ((rwv_eq (hF580.1 86 (by decide))).trans ((hp548 j (by omega) hl).trans ((rwv_eq (hF403.1 86 (by decide))).trans ((hp398 j (by omega) hl).trans ((rwv_eq (hF385.1 86 (by decide))).trans ((rwv_eq (hF377.1 86 (by decide))).trans ((rwv_eq (hF149.1 86 (by decide))).trans ((rwv_eq (hF103.1 86 (by decide))).trans (rwv_eq hj58)))))))))))
            have ha678 : ∀ j, j < 20 → rwv w649 87 j = rwv w 87 j := fun j _ => rwv_eq ((hb651.1 87 (by decide)).trans ((hb647.1 87 (by decide)).trans ((hF580.1 87 (by decide)).trans ((hF545.1 87 (by decide)).trans ((hF403.1 87 (by decide)).trans ((hF395.1 87 (by decide)).trans ((hF385.1 87 (by decide)).trans ((hF377.1 87 (by decide)).trans ((hF149.1 87 (by decide)).trans ((hF103.1 87 (by decide)).trans hj59))))))))))
            have hM679 := MSTok1 hS hs (by have z := hk636; omega) (by omega) hF664 hO665 hM674 hM675 hr676 ho677 ha678
            exact xg_e ⟨w649, ⟨rfl, rfl⟩, xMnv.up (S := [85, 82]) hI579 ((xFr.of (S := [85, 82]) hb647 (by decide)).tr (xFr.of (S := [85, 82]) hb651 (by decide))) (List.forall_mem_cons.mpr ⟨(show cpI 7 52 4294967295 (wget w649 85) from ⟨_, (hr646.but hb651 (by decide)), xrb (by omega) (hb639)⟩), List.forall_mem_cons.mpr ⟨(show cp82 (wget w649 82) from ⟨f82_590, f82_592, f82_594, f82_596, f82_598, f82_600, f82_602, f82_604, f82_606, f82_608 + 1, f82_610, f82_611, f82_612, f82_614, f82_616, f82_618, hk650, by omega, hb593, by omega, by omega, hb599, by omega, hb603, hb605, by omega, by omega, hb613, hb615, hb617, hb619, by omega⟩), fun _ h => absurd h List.not_mem_nil⟩⟩), (((((((((hF50.tr (hF103.up (by decide))).tr (hF149.up (by decide))).tr (hF377.up (by decide))).tr (hF385.up (by decide))).tr (hF395.up (by decide))).tr (hF403.up (by decide))).tr (hF545.up (by decide))).tr (hF580.up (by decide))).tr ((xFr.of (S := [82, 83, 85, 86, 87]) hb647 (by decide)).tr (xFr.of (S := [82, 83, 85, 86, 87]) hb651 (by decide)))), ⟨Or.inr ⟨by rw [ln589], by rw [he662]; exact hT663, hM679⟩, ((((((((((hj56.tr (K83.fr hF103 (by decide))).tr k8_153).tr (K83.fr hF377 (by decide))).tr hv388).tr (K83.fr hF395 (by decide))).tr k8_407).tr (K83.fr hF545 (by decide))).tr (K83.fr hF580 (by decide))).tr (K83.but hb647 (by decide))).tr (K83.but hb651 (by decide))), by omega⟩⟩
          · refine xg_t (xg_icT (u := f82_520) (v := 2) rfl xnm0 xnm0 (xj_neT hc567)) ?_
            refine xg_t (xg_blk (b := [(416, 1, 0, 0, 0, 0), (417, 3, 13, 140, 96, 183)]) rfl) ?_
            have lf680n : ¬ (tkd B nn p_501 = 3 ∧ B (tq B nn p_501) = 59) := by omega
            have lf680 : lnR B nn p0 = (false, p_501) := ln549.trans (lnS_n lf680n)
            refine xg_t (xg_aload (va := (2, 82)) rfl rfl) ?_
            have hk681 := ((fld_eq (j := 14) (hF545.1 82 (by decide))).trans k14_409)
            have hk682 := (hT_415.fr (hF545.1 82 (by decide))).1.2.2.2.1
            clear ht552 ht553 ht554 ht555 ht556 ht557 ht558 ht559 ht560 hf561 hf562 hf563 hf564 hf565 hmk566
            refine xg_cVv mX12_ends (vs := []) (rest := []) (cn1 := 0) (sl1 := 0) rfl (mEndsX (hI544) ((fld_eq (j := 10) (hF545.1 82 (by decide))).trans k10_414)) rfl (hF545.get (by decide) h82_540) rfl rfl rfl rfl rfl rfl (fun w683 hq684 => ?_)
            obtain ⟨hI685, hF686, hx687⟩ := hq684
            obtain ⟨hv688, hv689, hv690, hv691, hv692⟩ := hx687
            have hW693 : WRG w683 (tq B nn p_501) := ⟨hv688, hv689, hv690.trans hk682⟩
            have k14_694 := hv691.trans hk681
            refine xg_t (xg_blk (b := [(420, 1, 0, 0, 0, 0), (421, 3, 1, 12, 11, 17), (424, 1, 2, 1, 0, 0), (425, 1, 39, 0, 0, 0), (426, 1, 10, 0, 0, 0), (427, 1, 3, 1, 0, 0), (428, 1, 11, 0, 0, 0), (429, 1, 17, 0, 0, 0), (430, 1, 0, 0, 0, 0), (431, 1, 19, 0, 0, 0), (432, 3, 1, 12, 14, 212), (435, 1, 3, 1, 0, 0), (436, 1, 11, 0, 0, 0), (437, 3, 14, 12, 14, 212), (440, 1, 12, 0, 0, 0)]) rfl) ?_
            refine xoCh82 (hI685 82 (by decide) (by decide) : cp82 (wget w683 82)) (fun f82_695 f82_697 f82_699 f82_701 f82_703 f82_705 f82_707 f82_709 f82_711 f82_713 f82_715 f82_716 f82_717 f82_719 f82_721 f82_723 h82_725 hb696 hb698 hb700 hb702 hb704 hb706 hb708 hb710 hb712 hb714 hb718 hb720 hb722 hb724 hb726 => ?_)
            have hf727 : fld w683 82 2 = f82_695 := fld_of h82_725
            have hf728 : fld w683 82 3 = f82_697 := fld_of h82_725
            have hf729 : fld w683 82 4 = f82_699 := fld_of h82_725
            have hf730 : fld w683 82 5 = f82_701 := fld_of h82_725
            have hf731 : fld w683 82 6 = f82_703 := fld_of h82_725
            have hf732 : fld w683 82 7 = f82_705 := fld_of h82_725
            have hf733 : fld w683 82 8 = f82_707 := fld_of h82_725
            have hf734 : fld w683 82 9 = f82_709 := fld_of h82_725
            have hf735 : fld w683 82 10 = f82_711 := fld_of h82_725
            have hf736 : fld w683 82 14 = f82_713 := fld_of h82_725
            have hk737 := k14_694
            have hl738 : f82_713 ≤ 500 := by omega
            have hk739 : WRG w683 (tq B nn p_501) := hW693
            refine xg_t (xg_aload (va := (2, 82)) rfl rfl) ?_
            refine xg_t (xg_getf (va := (2, 85)) h82_725 rfl) ?_
            refine xg_t (xg_iload (va := (0, 1)) rfl rfl) ?_
            refine xg_t (xg_dup2 rfl) ?_
            refine xoI (hI685 85 (by decide) (by decide) : cpI 7 52 4294967295 (wget w683 85)) (fun g85_740 h85_741 hb742 => ?_)
            refine xg_ialdB (n := 1) (B := 4294967295) h85_741 (hb742) xnm0 (by omega) (fun u743 hu744 he745 => ?_)
            have hK746 : u743 = u42 := (((rwv_of h85_741 (by decide)).trans he745).symm.trans (rwv_eq ((hF686.1 85 (by decide)).trans ((hF545.1 85 (by decide)).trans ((hF403.1 85 (by decide)).trans ((hF395.1 85 (by decide)).trans ((hF385.1 85 (by decide)).trans ((hF377.1 85 (by decide)).trans ((hF149.1 85 (by decide)).trans ((hF103.1 85 (by decide)).trans hj57)))))))))).trans ((hm 1 (by decide)).trans hK45.symm)
            have hl747 : u743 ≤ 500 := by omega
            refine xg_t (xg_const) ?_
            refine xg_t (xg_iadd (u := u743) (v := 1) (z := u743 + 1) xnm0 xnm0 (by omega)) ?_
            refine xg_iastK (n := 1) (u := u743 + 1) h85_741 xnm0 xnm0 rfl (by omega) (fun w748 hr749 hb750 => ?_)
            refine xg_t (xg_aload (va := (2, 82)) rfl rfl) ?_
            refine xg_t (xg_dup rfl) ?_
            refine xg_t (xg_getf (va := (0, f82_713)) (hb750.get (by decide) h82_725) rfl) ?_
            have hn751 := id hb714
            unfold xHid at hn751
            refine xg_t (xg_const) ?_
            refine xg_t (xg_iadd (u := f82_713) (v := 1) (z := f82_713 + 1) xnm0 xnm0 (by omega)) ?_
            refine xg_putI (fl1 := [(2, 83), (2, 84), (0, f82_695), (0, f82_697), (0, f82_699), (0, f82_701), (0, f82_703), (0, f82_705), (0, f82_707), (0, f82_709), (0, f82_711), (2, 85), (2, 86), (2, 87), (0, f82_713 + 1), (2, 88), (2, 89), (2, 90), (2, 91), (2, 92), (2, 93), (2, 94), (4, f82_715), (4, f82_716), (0, f82_717), (2, 95), (2, 96), (2, 97), (2, 98), (2, 99), (2, 100), (2, 101), (2, 102), (0, f82_719), (2, 103), (2, 104), (2, 105), (2, 106), (2, 107), (2, 108), (2, 109), (0, f82_721), (0, f82_723), (2, 110), (2, 111), (2, 112), (2, 113)]) (hb750.get (by decide) h82_725) rfl rfl rfl (fun w752 hk753 hb754 => ?_)
            have hf755 : fld w752 82 2 = f82_695 := fld_of hk753
            have hf756 : fld w752 82 3 = f82_697 := fld_of hk753
            have hf757 : fld w752 82 4 = f82_699 := fld_of hk753
            have hf758 : fld w752 82 5 = f82_701 := fld_of hk753
            have hf759 : fld w752 82 6 = f82_703 := fld_of hk753
            have hf760 : fld w752 82 7 = f82_705 := fld_of hk753
            have hf761 : fld w752 82 8 = f82_707 := fld_of hk753
            have hf762 : fld w752 82 9 = f82_709 := fld_of hk753
            have hf763 : fld w752 82 10 = f82_711 := fld_of hk753
            have hf764 : fld w752 82 14 = f82_713 + 1 := fld_of hk753
            exact xg_e ⟨w752, ⟨rfl, rfl⟩, xMnv.up (S := [85, 82]) hI685 ((xFr.of (S := [85, 82]) hb750 (by decide)).tr (xFr.of (S := [85, 82]) hb754 (by decide))) (List.forall_mem_cons.mpr ⟨(show cpI 7 52 4294967295 (wget w752 85) from ⟨_, (hr749.but hb754 (by decide)), xrb (by omega) (hb742)⟩), List.forall_mem_cons.mpr ⟨(show cp82 (wget w752 82) from ⟨f82_695, f82_697, f82_699, f82_701, f82_703, f82_705, f82_707, f82_709, f82_711, f82_713 + 1, f82_715, f82_716, f82_717, f82_719, f82_721, f82_723, hk753, by omega, hb698, by omega, by omega, hb704, by omega, hb708, hb710, by omega, by omega, hb718, hb720, hb722, hb724, by omega⟩), fun _ h => absurd h List.not_mem_nil⟩⟩), (((((((((hF50.tr (hF103.up (by decide))).tr (hF149.up (by decide))).tr (hF377.up (by decide))).tr (hF385.up (by decide))).tr (hF395.up (by decide))).tr (hF403.up (by decide))).tr (hF545.up (by decide))).tr (hF686.up (by decide))).tr ((xFr.of (S := [82, 83, 85, 86, 87]) hb750 (by decide)).tr (xFr.of (S := [82, 83, 85, 86, 87]) hb754 (by decide)))), ⟨Or.inl ⟨p_501, lf680, ⟨by have z := hk739.1; omega, (rwv_eq (j := 16) ((hb754.1 83 (by decide)).trans (hb750.1 83 (by decide)))).trans hk739.2.1, (rwv_eq (j := 17) ((hb754.1 83 (by decide)).trans (hb750.1 83 (by decide)))).trans hk739.2.2⟩⟩, ((((((((((hj56.tr (K83.fr hF103 (by decide))).tr k8_153).tr (K83.fr hF377 (by decide))).tr hv388).tr (K83.fr hF395 (by decide))).tr k8_407).tr (K83.fr hF545 (by decide))).tr hv692).tr (K83.but hb750 (by decide))).tr (K83.but hb754 (by decide))), by omega⟩⟩
      · have hz765 : ¬ (∃ m, m < u42 ∧ m < 4 ∧ rwv w 86 (50 + 2 * m) = vln B nn (lnP B nn k) 0) := fun z => by
          obtain ⟨m, m1, m2, m3⟩ := z
          exact hk380 m m1 m2 (by rw [hv158, ← vl339, ← m3]; exact rwv_eq ((hF149.1 86 (by decide)).trans ((hF103.1 86 (by decide)).trans hj58)))
        refine xg_t (xg_ifT (u := 0) rfl xnm0 (by decide)) ?_
        refine xg_t (xg_blk (b := [(141, 1, 0, 0, 0, 0), (142, 1, 2, 1, 0, 0), (143, 1, 2, 3, 0, 0), (144, 2, 4, 50, 0, 0), (146, 1, 3, 2, 0, 0), (147, 1, 2, 3, 0, 0), (148, 1, 16, 0, 0, 0), (149, 1, 11, 0, 0, 0), (150, 2, 2, 4, 0, 0), (152, 3, 13, 211, 96, 200), (155, 1, 0, 0, 0, 0), (156, 1, 2, 1, 0, 0), (157, 1, 2, 3, 0, 0), (158, 2, 4, 50, 0, 0), (160, 1, 3, 2, 0, 0), (161, 1, 2, 3, 0, 0), (162, 1, 16, 0, 0, 0), (163, 1, 11, 0, 0, 0), (164, 1, 3, 1, 0, 0), (165, 1, 11, 0, 0, 0), (166, 1, 0, 0, 0, 0), (167, 1, 3, 1, 0, 0), (168, 3, 5, 999, 0, 0), (171, 3, 13, 199, 96, 196), (174, 3, 13, 211, 96, 200), (177, 3, 8, 394, 0, 0)]) rfl) ?_
        have ho767 : tq B nn (lnP B nn k) < tq B nn (vlp B nn (lnP B nn k) 0) := by
          rw [vp338, ← hp0]
          have z1 := (tf_gt (B := B) (n := nn) (p := p0) (by rw [slt_kd (by rw [hp0, hs]; decide)]; decide)).2
          have z2 := tq_ge (B := B) (n := nn) (p := p_108)
          omega
        have he766 : mf2 B nn k 1 (flA B nn k) = mf3 B nn k 1 (flA B nn k) := by
          unfold mf3
          rw [decide_eq_true rfl, Bool.true_and]
          by_cases y : (flA B nn k).1 ≠ 0 ∨ lim 1 ≤ lnC B nn 1 k
          · have y2 := mf3_b y zp ho767
            rw [y2]
            cases lfB B nn (vln B nn (lnP B nn k) 0) k <;> rfl
          · have y1 : (flA B nn k).1 = 0 := by omega
            have y3 : ¬ 4 ≤ lnC B nn 1 k := fun x => y (Or.inr x)
            have y4 : lfB B nn (vln B nn (lnP B nn k) 0) k = false := by
              cases x : lfB B nn (vln B nn (lnP B nn k) 0) k with
              | false => rfl
              | true => exact absurd ((mlf_iff (hR y1).1 hK45 (by omega)).mpr x) hz765
            rw [y4]
            rfl
        have hF_768 := (hF_340.k83 (rwv_eq (hF377.1 83 (by decide))) (rwv_eq (hF377.1 83 (by decide))))
        rw [he766] at hF_768
        refine xg_t (xg_aload (va := (2, 82)) rfl rfl) ?_
        refine xg_t (xg_iload (va := (0, 1)) rfl rfl) ?_
        refine xg_t (xg_iload (va := (0, u42)) rfl rfl) ?_
        refine xg_t (xg_bip) ?_
        refine xg_t (xg_const) ?_
        refine xg_t (xg_iload (va := (0, u42)) rfl rfl) ?_
        refine xg_t (xg_imul (u := 2) (v := u42) (z := 2 * u42) xnm0 xnm0 (by omega)) ?_
        refine xg_t (xg_iadd (u := 50) (v := 2 * u42) (z := 50 + (2 * u42)) xnm0 xnm0 (by omega)) ?_
        refine xg_t (xg_iload (va := (0, n150)) rfl rfl) ?_
        refine xg_cVv mX12_puts (vs := [(0, 1), (0, u42), (0, 50 + (2 * u42)), (0, n150)]) (rest := []) (cn1 := 0) (sl1 := 0) rfl (mPuts1 (hI376) (by omega) (by omega) (by omega) (fun _ => by omega)) rfl (hF377.get (by decide) h82_372) rfl rfl rfl rfl rfl rfl (fun w769 hq770 => ?_)
        obtain ⟨hI771, hF772, hx773⟩ := hq770
        obtain ⟨hp774, hp775⟩ := hx773
        refine xg_t (xg_aload (va := (2, 82)) rfl rfl) ?_
        refine xg_t (xg_iload (va := (0, 1)) rfl rfl) ?_
        refine xg_t (xg_iload (va := (0, u42)) rfl rfl) ?_
        refine xg_t (xg_bip) ?_
        refine xg_t (xg_const) ?_
        refine xg_t (xg_iload (va := (0, u42)) rfl rfl) ?_
        refine xg_t (xg_imul (u := 2) (v := u42) (z := 2 * u42) xnm0 xnm0 (by omega)) ?_
        refine xg_t (xg_iadd (u := 50) (v := 2 * u42) (z := 50 + (2 * u42)) xnm0 xnm0 (by omega)) ?_
        refine xg_t (xg_const) ?_
        refine xg_t (xg_iadd (u := 50 + (2 * u42)) (v := 1) (z := (50 + (2 * u42)) + 1) xnm0 xnm0 (by omega)) ?_
        refine xg_t (xg_aload (va := (2, 82)) rfl rfl) ?_
        refine xg_t (xg_const) ?_
        refine xg_t (xg_sip) ?_
        have hk776 := ((fld_eq (j := 14) ((hF772.1 82 (by decide)).trans (hF377.1 82 (by decide)))).trans k14_155)
        refine xg_cVi mX12_numbered (vs := [(0, 1), (0, 999)]) (rest := [(0, (50 + (2 * u42)) + 1), (0, u42), (0, 1), (2, 82)]) (cn1 := 0) (sl1 := 0) rfl (mNumX (ir := 0) (hI771) (by omega) (by omega) (hB.fr (fun j h4 h9 => ((((hj56.tr (K83.fr hF103 (by decide))).tr k8_153).tr (K83.fr hF377 (by decide))).tr (K83.fr hF772 (by decide))) j (by omega) (by omega) (by omega))) ((fld_eq (j := 10) ((hF772.1 82 (by decide)).trans (hF377.1 82 (by decide)))).trans k10_160) (hT_161.fr ((hF772.1 82 (by decide)).trans (hF377.1 82 (by decide)))) (hF_768.k83 (rwv_eq (hF772.1 83 (by decide))) (rwv_eq (hF772.1 83 (by decide))))) rfl (hF772.get (by decide) (hF377.get (by decide) h82_372)) rfl rfl rfl rfl rfl rfl (fun n781 w777 hq778 => ?_)
        obtain ⟨hn782, hI779, hF780⟩ := hq778
        obtain ⟨hx785, h14_783, k8_784⟩ := hn782
        have k14_786 := h14_783.trans hk776
        rcases hx785 with ⟨rfl, hk787, hW788⟩ | ⟨hv789, h9_790, hk787, k10_791, hT_792, hF_793⟩
        · have lf794 : lnR B nn p0 = (false, p_335) := ln337.trans (lnN_n (k := 0) hk787)
          refine xoCh82 (hI779 82 (by decide) (by decide) : cp82 (wget w777 82)) (fun f82_795 f82_797 f82_799 f82_801 f82_803 f82_805 f82_807 f82_809 f82_811 f82_813 f82_815 f82_816 f82_817 f82_819 f82_821 f82_823 h82_825 hb796 hb798 hb800 hb802 hb804 hb806 hb808 hb810 hb812 hb814 hb818 hb820 hb822 hb824 hb826 => ?_)
          refine xg_cVv mX12_puts (vs := [(0, 1), (0, u42), (0, (50 + (2 * u42)) + 1), (0, 0)]) (rest := []) (cn1 := 0) (sl1 := 0) rfl (mPuts1 (hI779) (by omega) (by omega) (by omega) (fun _ => by omega)) rfl h82_825 rfl rfl rfl rfl rfl rfl (fun w827 hq828 => ?_)
          obtain ⟨hI829, hF830, hx831⟩ := hq828
          obtain ⟨hp832, hp833⟩ := hx831
          refine xg_t (xg_goto) ?_
          refine xg_t (xg_blk (b := [(394, 1, 0, 0, 0, 0), (395, 3, 1, 12, 10, 180), (398, 3, 7, 416, 1, 0), (401, 1, 0, 0, 0, 0), (402, 3, 1, 12, 7, 151), (405, 1, 3, 2, 0, 0), (406, 3, 6, 416, 1, 0), (409, 1, 0, 0, 0, 0), (410, 3, 13, 110, 96, 190), (413, 3, 8, 420, 0, 0)]) rfl) ?_
          refine xg_t (xg_aload (va := (2, 82)) rfl rfl) ?_
          refine xg_t (xg_getf (va := (0, f82_811)) (hF830.get (by decide) h82_825) rfl) ?_
          have hf834 : fld w827 82 10 = f82_811 := fld_of (hF830.get (by decide) h82_825)
          have hk835 : fld w827 82 10 ≠ 0 := (by have q := hW788.1; have q2 := fld_eq (j := 10) (hF830.1 82 (by decide)); omega)
          refine xg_t (xg_ifT (u := f82_811) rfl xnm0 (xj_neT (by omega))) ?_
          refine xg_t (xg_blk (b := [(416, 1, 0, 0, 0, 0), (417, 3, 13, 140, 96, 183)]) rfl) ?_
          refine xg_t (xg_aload (va := (2, 82)) rfl rfl) ?_
          refine xg_cVv mX12_ends (vs := []) (rest := []) (cn1 := 0) (sl1 := 0) rfl (mEndsW (hI829) (by have q := hW788.1; have q2 := fld_eq (j := 10) (hF830.1 82 (by decide)); omega)) rfl (hF830.get (by decide) h82_825) rfl rfl rfl rfl rfl rfl (fun w836 hq837 => ?_)
          obtain ⟨hI838, hF839⟩ := hq837
          refine xg_t (xg_blk (b := [(420, 1, 0, 0, 0, 0), (421, 3, 1, 12, 11, 17), (424, 1, 2, 1, 0, 0), (425, 1, 39, 0, 0, 0), (426, 1, 10, 0, 0, 0), (427, 1, 3, 1, 0, 0), (428, 1, 11, 0, 0, 0), (429, 1, 17, 0, 0, 0), (430, 1, 0, 0, 0, 0), (431, 1, 19, 0, 0, 0), (432, 3, 1, 12, 14, 212), (435, 1, 3, 1, 0, 0), (436, 1, 11, 0, 0, 0), (437, 3, 14, 12, 14, 212), (440, 1, 12, 0, 0, 0)]) rfl) ?_
          have hf840 : fld w836 82 2 = f82_795 := fld_of (hF839.get (by decide) (hF830.get (by decide) h82_825))
          have hf841 : fld w836 82 3 = f82_797 := fld_of (hF839.get (by decide) (hF830.get (by decide) h82_825))
          have hf842 : fld w836 82 4 = f82_799 := fld_of (hF839.get (by decide) (hF830.get (by decide) h82_825))
          have hf843 : fld w836 82 5 = f82_801 := fld_of (hF839.get (by decide) (hF830.get (by decide) h82_825))
          have hf844 : fld w836 82 6 = f82_803 := fld_of (hF839.get (by decide) (hF830.get (by decide) h82_825))
          have hf845 : fld w836 82 7 = f82_805 := fld_of (hF839.get (by decide) (hF830.get (by decide) h82_825))
          have hf846 : fld w836 82 8 = f82_807 := fld_of (hF839.get (by decide) (hF830.get (by decide) h82_825))
          have hf847 : fld w836 82 9 = f82_809 := fld_of (hF839.get (by decide) (hF830.get (by decide) h82_825))
          have hf848 : fld w836 82 10 = f82_811 := fld_of (hF839.get (by decide) (hF830.get (by decide) h82_825))
          have hf849 : fld w836 82 14 = f82_813 := fld_of (hF839.get (by decide) (hF830.get (by decide) h82_825))
          have hk850 := ((fld_eq (j := 14) ((hF839.1 82 (by decide)).trans (hF830.1 82 (by decide)))).trans k14_786)
          have hl851 : f82_813 ≤ 500 := by omega
          have hk852 : WRG w836 (tq B nn p_335) := ⟨(fld_eq (j := 10) ((hF839.1 82 (by decide)).trans (hF830.1 82 (by decide)))).trans hW788.1, (rwv_eq (j := 16) ((hF839.1 83 (by decide)).trans (hF830.1 83 (by decide)))).trans hW788.2.1, (rwv_eq (j := 17) ((hF839.1 83 (by decide)).trans (hF830.1 83 (by decide)))).trans hW788.2.2⟩
          refine xg_t (xg_aload (va := (2, 82)) rfl rfl) ?_
          refine xg_t (xg_getf (va := (2, 85)) (hF839.get (by decide) (hF830.get (by decide) h82_825)) rfl) ?_
          refine xg_t (xg_iload (va := (0, 1)) rfl rfl) ?_
          refine xg_t (xg_dup2 rfl) ?_
          refine xoI (hI838 85 (by decide) (by decide) : cpI 7 52 4294967295 (wget w836 85)) (fun g85_853 h85_854 hb855 => ?_)
          refine xg_ialdB (n := 1) (B := 4294967295) h85_854 (hb855) xnm0 (by omega) (fun u856 hu857 he858 => ?_)
          have hK859 : u856 = u42 := (((rwv_of h85_854 (by decide)).trans he858).symm.trans (rwv_eq ((hF839.1 85 (by decide)).trans ((hF830.1 85 (by decide)).trans ((hF780.1 85 (by decide)).trans ((hF772.1 85 (by decide)).trans ((hF377.1 85 (by decide)).trans ((hF149.1 85 (by decide)).trans ((hF103.1 85 (by decide)).trans hj57))))))))).trans ((hm 1 (by decide)).trans hK45.symm)
          have hl860 : u856 ≤ 500 := by omega
          refine xg_t (xg_const) ?_
          refine xg_t (xg_iadd (u := u856) (v := 1) (z := u856 + 1) xnm0 xnm0 (by omega)) ?_
          refine xg_iastK (n := 1) (u := u856 + 1) h85_854 xnm0 xnm0 rfl (by omega) (fun w861 hr862 hb863 => ?_)
          refine xg_t (xg_aload (va := (2, 82)) rfl rfl) ?_
          refine xg_t (xg_dup rfl) ?_
          refine xg_t (xg_getf (va := (0, f82_813)) (hb863.get (by decide) (hF839.get (by decide) (hF830.get (by decide) h82_825))) rfl) ?_
          have hn864 := id hb814
          unfold xHid at hn864
          refine xg_t (xg_const) ?_
          refine xg_t (xg_iadd (u := f82_813) (v := 1) (z := f82_813 + 1) xnm0 xnm0 (by omega)) ?_
          refine xg_putI (fl1 := [(2, 83), (2, 84), (0, f82_795), (0, f82_797), (0, f82_799), (0, f82_801), (0, f82_803), (0, f82_805), (0, f82_807), (0, f82_809), (0, f82_811), (2, 85), (2, 86), (2, 87), (0, f82_813 + 1), (2, 88), (2, 89), (2, 90), (2, 91), (2, 92), (2, 93), (2, 94), (4, f82_815), (4, f82_816), (0, f82_817), (2, 95), (2, 96), (2, 97), (2, 98), (2, 99), (2, 100), (2, 101), (2, 102), (0, f82_819), (2, 103), (2, 104), (2, 105), (2, 106), (2, 107), (2, 108), (2, 109), (0, f82_821), (0, f82_823), (2, 110), (2, 111), (2, 112), (2, 113)]) (hb863.get (by decide) (hF839.get (by decide) (hF830.get (by decide) h82_825))) rfl rfl rfl (fun w865 hk866 hb867 => ?_)
          have hf868 : fld w865 82 2 = f82_795 := fld_of hk866
          have hf869 : fld w865 82 3 = f82_797 := fld_of hk866
          have hf870 : fld w865 82 4 = f82_799 := fld_of hk866
          have hf871 : fld w865 82 5 = f82_801 := fld_of hk866
          have hf872 : fld w865 82 6 = f82_803 := fld_of hk866
          have hf873 : fld w865 82 7 = f82_805 := fld_of hk866
          have hf874 : fld w865 82 8 = f82_807 := fld_of hk866
          have hf875 : fld w865 82 9 = f82_809 := fld_of hk866
          have hf876 : fld w865 82 10 = f82_811 := fld_of hk866
          have hf877 : fld w865 82 14 = f82_813 + 1 := fld_of hk866
          exact xg_e ⟨w865, ⟨rfl, rfl⟩, xMnv.up (S := [85, 82]) hI838 ((xFr.of (S := [85, 82]) hb863 (by decide)).tr (xFr.of (S := [85, 82]) hb867 (by decide))) (List.forall_mem_cons.mpr ⟨(show cpI 7 52 4294967295 (wget w865 85) from ⟨_, (hr862.but hb867 (by decide)), xrb (by omega) (hb855)⟩), List.forall_mem_cons.mpr ⟨(show cp82 (wget w865 82) from ⟨f82_795, f82_797, f82_799, f82_801, f82_803, f82_805, f82_807, f82_809, f82_811, f82_813 + 1, f82_815, f82_816, f82_817, f82_819, f82_821, f82_823, hk866, by omega, hb798, by omega, by omega, hb804, by omega, hb808, hb810, by omega, by omega, hb818, hb820, hb822, hb824, by omega⟩), fun _ h => absurd h List.not_mem_nil⟩⟩), ((((((((hF50.tr (hF103.up (by decide))).tr (hF149.up (by decide))).tr (hF377.up (by decide))).tr (hF772.up (by decide))).tr (hF780.up (by decide))).tr (hF830.up (by decide))).tr (hF839.up (by decide))).tr ((xFr.of (S := [82, 83, 85, 86, 87]) hb863 (by decide)).tr (xFr.of (S := [82, 83, 85, 86, 87]) hb867 (by decide)))), ⟨Or.inl ⟨p_335, lf794, ⟨by have z := hk852.1; omega, (rwv_eq (j := 16) ((hb867.1 83 (by decide)).trans (hb863.1 83 (by decide)))).trans hk852.2.1, (rwv_eq (j := 17) ((hb867.1 83 (by decide)).trans (hb863.1 83 (by decide)))).trans hk852.2.2⟩⟩, (((((((((hj56.tr (K83.fr hF103 (by decide))).tr k8_153).tr (K83.fr hF377 (by decide))).tr (K83.fr hF772 (by decide))).tr k8_784).tr (K83.fr hF830 (by decide))).tr (K83.fr hF839 (by decide))).tr (K83.but hb863 (by decide))).tr (K83.but hb867 (by decide))), by omega⟩⟩
        · obtain ⟨p_878, hp879⟩ : ∃ x, x = tf B nn p_335 := ⟨_, rfl⟩
          rw [← hp879] at hT_792
          have ln880 : lnR B nn p0 = lnN B nn 1 0 p_878 := by rw [hp879]; exact ln337.trans (lnN_y (k := 0) hk787)
          have vp881 : vlp B nn (lnP B nn k) 1 = p_335 := by show tf B nn (vlp B nn (lnP B nn k) 0) = p_335; rw [vp338]; exact hp336.symm
          have vl882 : vln B nn (lnP B nn k) 1 = tnu B nn p_335 := by
            show (if (1 : Nat) = 3 then _ else tnu B nn (vlp B nn (lnP B nn k) 1)) = _
            rw [if_neg (by decide), vp881]
          have he884 : (chk (mf3 B nn k 1 (flA B nn k)) 1 999 (tnu B nn p_335) (tq B nn p_335)) = (mf4 B nn k 1 (flA B nn k)) := by show _ = chk (mf3 B nn k 1 (flA B nn k)) 1 999 (vln B nn (lnP B nn k) 1) (tq B nn (vlp B nn (lnP B nn k) 1)); rw [vl882, vp881]
          have hF_883 := hF_793
          rw [he884] at hF_883
          have he886 : (mf4 B nn k 1 (flA B nn k)) = (mfl B nn k 1 (flA B nn k)) := rfl
          have hF_885 := hF_883
          rw [he886] at hF_885
          refine xoCh82 (hI779 82 (by decide) (by decide) : cp82 (wget w777 82)) (fun f82_887 f82_889 f82_891 f82_893 f82_895 f82_897 f82_899 f82_901 f82_903 f82_905 f82_907 f82_908 f82_909 f82_911 f82_913 f82_915 h82_917 hb888 hb890 hb892 hb894 hb896 hb898 hb900 hb902 hb904 hb906 hb910 hb912 hb914 hb916 hb918 => ?_)
          refine xg_cVv mX12_puts (vs := [(0, 1), (0, u42), (0, (50 + (2 * u42)) + 1), (0, n781)]) (rest := []) (cn1 := 0) (sl1 := 0) rfl (mPuts1 (hI779) (by omega) (by omega) (by omega) (fun _ => by omega)) rfl h82_917 rfl rfl rfl rfl rfl rfl (fun w919 hq920 => ?_)
          obtain ⟨hI921, hF922, hx923⟩ := hq920
          obtain ⟨hp924, hp925⟩ := hx923
          refine xg_t (xg_goto) ?_
          refine xg_t (xg_blk (b := [(394, 1, 0, 0, 0, 0), (395, 3, 1, 12, 10, 180), (398, 3, 7, 416, 1, 0), (401, 1, 0, 0, 0, 0), (402, 3, 1, 12, 7, 151), (405, 1, 3, 2, 0, 0), (406, 3, 6, 416, 1, 0), (409, 1, 0, 0, 0, 0), (410, 3, 13, 110, 96, 190), (413, 3, 8, 420, 0, 0)]) rfl) ?_
          have ln926 : lnR B nn p0 = lnS B nn p_878 := by exact ln880.trans (lnN_0 (by decide))
          refine xg_t (xg_aload (va := (2, 82)) rfl rfl) ?_
          refine xg_t (xg_getf (va := (0, f82_903)) (hF922.get (by decide) h82_917) rfl) ?_
          have hf927 : fld w919 82 10 = f82_903 := fld_of (hF922.get (by decide) h82_917)
          have hk928 : fld w919 82 10 = 0 := ((fld_eq (j := 10) (hF922.1 82 (by decide))).trans k10_791)
          refine xg_t (xg_ifF (u := f82_903) rfl xnm0 (xj_neF (by omega))) ?_
          obtain ⟨⟨ht929, ht930, ht931, ht932, ht933, ht934⟩, ht935, ht936, ht937⟩ := id (hT_792.fr (hF922.1 82 (by decide)))
          have hf938 : fld w919 82 6 = f82_895 := fld_of (hF922.get (by decide) h82_917)
          have hf939 : fld w919 82 7 = f82_897 := fld_of (hF922.get (by decide) h82_917)
          have hf940 : fld w919 82 8 = f82_899 := fld_of (hF922.get (by decide) h82_917)
          have hf941 : fld w919 82 9 = f82_901 := fld_of (hF922.get (by decide) h82_917)
          have hf942 : fld w919 82 3 = f82_889 := fld_of (hF922.get (by decide) h82_917)
          have hmk943 := mkd_of (ir := 0) (B := B) (n := nn) (p := p_878)
          refine xg_t (xg_aload (va := (2, 82)) rfl rfl) ?_
          refine xg_t (xg_getf (va := (0, f82_897)) (hF922.get (by decide) h82_917) rfl) ?_
          refine xg_t (xg_const) ?_
          by_cases hc944 : f82_897 = 2
          · refine xg_t (xg_icF (u := f82_897) (v := 2) rfl xnm0 xnm0 (xj_neF hc944)) ?_
            have sg9451 : tkd B nn p_878 = 3 := by omega
            have sg9452 : B (tq B nn p_878) = 59 := by omega
            refine xg_t (xg_aload (va := (2, 82)) rfl rfl) ?_
            clear ht929 ht930 ht931 ht932 ht933 ht934 ht935 ht936 ht937 hf938 hf939 hf940 hf941 hf942 hmk943
            obtain ⟨⟨ht946, ht947, ht948, ht949, ht950, ht951⟩, -⟩ := id (hT_792.fr (hF922.1 82 (by decide)))
            have hk952 := ((fld_eq (j := 10) (hF922.1 82 (by decide))).trans k10_791)
            have hk953 := ((fld_eq (j := 14) (hF922.1 82 (by decide))).trans k14_786)
            refine xg_cVv mX12_advance (vs := []) (rest := []) (cn1 := 0) (sl1 := 0) rfl (mAdvX (hI921) (hB.fr (fun j h4 h9 => ((((((hj56.tr (K83.fr hF103 (by decide))).tr k8_153).tr (K83.fr hF377 (by decide))).tr (K83.fr hF772 (by decide))).tr k8_784).tr (K83.fr hF922 (by decide))) j (by omega) (by omega) (by omega))) ht946 ht947 (by rw [ht948]; exact tf_le ht951)) rfl (hF922.get (by decide) h82_917) rfl rfl rfl rfl rfl rfl (fun w954 hq955 => ?_)
            obtain ⟨hI956, hF957, hx958⟩ := hq955
            obtain ⟨hz959, hz960, hz961⟩ := hx958
            rw [ht948] at hz959
            clear ht946 ht947 ht948 ht949 ht950 ht951
            obtain ⟨p_962, hp963⟩ : ∃ x, x = tf B nn p_878 := ⟨_, rfl⟩
            rw [← hp963] at hz959
            have k10_964 := hz960.trans hk952
            have k14_965 := hz961.trans hk953
            clear hz960 hz961 hk952 hk953
            have ln966 : lnR B nn p0 = (true, p_962) := by rw [hp963]; exact ln926.trans (lnS_y ⟨sg9451, sg9452⟩)
            refine xg_t (xg_goto) ?_
            refine xg_t (xg_blk (b := [(420, 1, 0, 0, 0, 0), (421, 3, 1, 12, 11, 17), (424, 1, 2, 1, 0, 0), (425, 1, 39, 0, 0, 0), (426, 1, 10, 0, 0, 0), (427, 1, 3, 1, 0, 0), (428, 1, 11, 0, 0, 0), (429, 1, 17, 0, 0, 0), (430, 1, 0, 0, 0, 0), (431, 1, 19, 0, 0, 0), (432, 3, 1, 12, 14, 212), (435, 1, 3, 1, 0, 0), (436, 1, 11, 0, 0, 0), (437, 3, 14, 12, 14, 212), (440, 1, 12, 0, 0, 0)]) rfl) ?_
            refine xoCh82 (hI956 82 (by decide) (by decide) : cp82 (wget w954 82)) (fun f82_967 f82_969 f82_971 f82_973 f82_975 f82_977 f82_979 f82_981 f82_983 f82_985 f82_987 f82_988 f82_989 f82_991 f82_993 f82_995 h82_997 hb968 hb970 hb972 hb974 hb976 hb978 hb980 hb982 hb984 hb986 hb990 hb992 hb994 hb996 hb998 => ?_)
            have hf999 : fld w954 82 2 = f82_967 := fld_of h82_997
            have hf1000 : fld w954 82 3 = f82_969 := fld_of h82_997
            have hf1001 : fld w954 82 4 = f82_971 := fld_of h82_997
            have hf1002 : fld w954 82 5 = f82_973 := fld_of h82_997
            have hf1003 : fld w954 82 6 = f82_975 := fld_of h82_997
            have hf1004 : fld w954 82 7 = f82_977 := fld_of h82_997
            have hf1005 : fld w954 82 8 = f82_979 := fld_of h82_997
            have hf1006 : fld w954 82 9 = f82_981 := fld_of h82_997
            have hf1007 : fld w954 82 10 = f82_983 := fld_of h82_997
            have hf1008 : fld w954 82 14 = f82_985 := fld_of h82_997
            have hk1009 := k14_965
            have hl1010 : f82_985 ≤ 500 := by omega
            have hk1011 := hz959
            have hk1012 := (hF_885.k83 (rwv_eq ((hF957.1 83 (by decide)).trans (hF922.1 83 (by decide)))) (rwv_eq ((hF957.1 83 (by decide)).trans (hF922.1 83 (by decide)))))
            have hk1013 := k10_964
            refine xg_t (xg_aload (va := (2, 82)) rfl rfl) ?_
            refine xg_t (xg_getf (va := (2, 85)) h82_997 rfl) ?_
            refine xg_t (xg_iload (va := (0, 1)) rfl rfl) ?_
            refine xg_t (xg_dup2 rfl) ?_
            refine xoI (hI956 85 (by decide) (by decide) : cpI 7 52 4294967295 (wget w954 85)) (fun g85_1014 h85_1015 hb1016 => ?_)
            refine xg_ialdB (n := 1) (B := 4294967295) h85_1015 (hb1016) xnm0 (by omega) (fun u1017 hu1018 he1019 => ?_)
            have hK1020 : u1017 = u42 := (((rwv_of h85_1015 (by decide)).trans he1019).symm.trans (rwv_eq ((hF957.1 85 (by decide)).trans ((hF922.1 85 (by decide)).trans ((hF780.1 85 (by decide)).trans ((hF772.1 85 (by decide)).trans ((hF377.1 85 (by decide)).trans ((hF149.1 85 (by decide)).trans ((hF103.1 85 (by decide)).trans hj57))))))))).trans ((hm 1 (by decide)).trans hK45.symm)
            have hl1021 : u1017 ≤ 500 := by omega
            refine xg_t (xg_const) ?_
            refine xg_t (xg_iadd (u := u1017) (v := 1) (z := u1017 + 1) xnm0 xnm0 (by omega)) ?_
            refine xg_iastK (n := 1) (u := u1017 + 1) h85_1015 xnm0 xnm0 rfl (by omega) (fun w1022 hr1023 hb1024 => ?_)
            refine xg_t (xg_aload (va := (2, 82)) rfl rfl) ?_
            refine xg_t (xg_dup rfl) ?_
            refine xg_t (xg_getf (va := (0, f82_985)) (hb1024.get (by decide) h82_997) rfl) ?_
            have hn1025 := id hb986
            unfold xHid at hn1025
            refine xg_t (xg_const) ?_
            refine xg_t (xg_iadd (u := f82_985) (v := 1) (z := f82_985 + 1) xnm0 xnm0 (by omega)) ?_
            refine xg_putI (fl1 := [(2, 83), (2, 84), (0, f82_967), (0, f82_969), (0, f82_971), (0, f82_973), (0, f82_975), (0, f82_977), (0, f82_979), (0, f82_981), (0, f82_983), (2, 85), (2, 86), (2, 87), (0, f82_985 + 1), (2, 88), (2, 89), (2, 90), (2, 91), (2, 92), (2, 93), (2, 94), (4, f82_987), (4, f82_988), (0, f82_989), (2, 95), (2, 96), (2, 97), (2, 98), (2, 99), (2, 100), (2, 101), (2, 102), (0, f82_991), (2, 103), (2, 104), (2, 105), (2, 106), (2, 107), (2, 108), (2, 109), (0, f82_993), (0, f82_995), (2, 110), (2, 111), (2, 112), (2, 113)]) (hb1024.get (by decide) h82_997) rfl rfl rfl (fun w1026 hk1027 hb1028 => ?_)
            have hf1029 : fld w1026 82 2 = f82_967 := fld_of hk1027
            have hf1030 : fld w1026 82 3 = f82_969 := fld_of hk1027
            have hf1031 : fld w1026 82 4 = f82_971 := fld_of hk1027
            have hf1032 : fld w1026 82 5 = f82_973 := fld_of hk1027
            have hf1033 : fld w1026 82 6 = f82_975 := fld_of hk1027
            have hf1034 : fld w1026 82 7 = f82_977 := fld_of hk1027
            have hf1035 : fld w1026 82 8 = f82_979 := fld_of hk1027
            have hf1036 : fld w1026 82 9 = f82_981 := fld_of hk1027
            have hf1037 : fld w1026 82 10 = f82_983 := fld_of hk1027
            have hf1038 : fld w1026 82 14 = f82_985 + 1 := fld_of hk1027
            have he1039 : lnP B nn (k + 1) = p_962 := by
              show (lnR B nn (lnP B nn k)).2 = _
              rw [← hp0, ln966]
            have hT1040 : TKM 0 B nn w1026 p_962 := hk1011.w14 (by omega) (by omega) (by omega) (by omega) (by omega) (by omega) (by omega) (by omega)
            have hF1041 : FP w1026 (mfl B nn k 1 (flA B nn k)) := hk1012.k83 (rwv_eq ((hb1028.1 83 (by decide)).trans (hb1024.1 83 (by decide)))) (rwv_eq ((hb1028.1 83 (by decide)).trans (hb1024.1 83 (by decide))))
            have hg1043 := (tf_gt (B := B) (n := nn) (p := p_108) (by omega)).2
            have hg1044 := tq_ge (B := B) (n := nn) (p := p_108)
            have hg1045 := (tf_gt (B := B) (n := nn) (p := p_335) (by omega)).2
            have hg1046 := tq_ge (B := B) (n := nn) (p := p_335)
            have hg1047 := (tf_gt (B := B) (n := nn) (p := p0) (by rw [slt_kd (by rw [hp0, hs]; decide)]; decide)).2
            have hg1048 := (tf_gt (B := B) (n := nn) (p := p_878) (by omega)).2
            have hg1049 := tq_ge (B := B) (n := nn) (p := p_878)
            have hg1050 := tq_ge (B := B) (n := nn) (p := p_962)
            have hp1x := hp109
            have hO1042 : ORD B nn k 1 (tq B nn (lnP B nn (k + 1))) := by
              unfold ORD
              rw [he1039, vp338, vp881, ← hp0]
              exact ⟨by omega, by omega, fun z => absurd z (by decide), by omega, fun z => absurd z (by decide)⟩
            have hM1051 : rwv w1026 85 1 = lnC B nn 1 k + 1 := (rwv_of (hr1023.but hb1028 (by decide)) (by decide)).trans ((if_pos rfl).trans (by omega))
            have hM1052 : ∀ s, s < 7 → s ≠ 1 → rwv w1026 85 s = rwv w 85 s := fun s hs hn => (rwv_of (hr1023.but hb1028 (by decide)) hs).trans ((if_neg hn).trans ((rwv_of h85_1015 hs).symm.trans (rwv_eq ((hF957.1 85 (by decide)).trans ((hF922.1 85 (by decide)).trans ((hF780.1 85 (by decide)).trans ((hF772.1 85 (by decide)).trans ((hF377.1 85 (by decide)).trans ((hF149.1 85 (by decide)).trans ((hF103.1 85 (by decide)).trans hj57))))))))))
            have hr1053 : lnC B nn 1 k < 4 → ∀ t, t < 2 → XM w1026 1 (lnC B nn 1 k) t = vln B nn (lnP B nn k) t := fun hlt t ht => by
              rcases (show t = 0 ∨ t = 1 by omega) with rfl | rfl
              · show rwv w1026 86 (50 + 2 * lnC B nn 1 k + 0) = _
                rw [show 50 + 2 * lnC B nn 1 k + 0 = 50 + (2 * u42) by omega]
                exact ((rwv_eq (hb1028.1 86 (by decide))).trans ((rwv_eq (hb1024.1 86 (by decide))).trans ((rwv_eq (hF957.1 86 (by decide))).trans ((hp925 (50 + (2 * u42)) (by omega) (by omega)).trans (rwv_eq (hF780.1 86 (by decide))))))).trans ((hp774 (by omega)).trans (hv158.trans vl339.symm))
              · show rwv w1026 86 (50 + 2 * lnC B nn 1 k + 1) = _
                rw [show 50 + 2 * lnC B nn 1 k + 1 = (50 + (2 * u42)) + 1 by omega]
                exact ((rwv_eq (hb1028.1 86 (by decide))).trans ((rwv_eq (hb1024.1 86 (by decide))).trans (rwv_eq (hF957.1 86 (by decide))))).trans ((hp924 (by omega)).trans (hv789.trans vl882.symm))
            have ho1054 : ∀ j, (j < 50 + 2 * lnC B nn 1 k ∨ 50 + 2 * (lnC B nn 1 k + 1) ≤ j) → j < 140 → rwv w1026 86 j = rwv w 86 j := fun j hj hl => ((rwv_eq (hb1028.1 86 (by decide))).trans ((rwv_eq (hb1024.1 86 (by decide))).trans ((rwv_eq (hF957.1 86 (by decide))).trans ((hp925 j (by omega) hl).trans ((rwv_eq (hF780.1 86 (by decide))).trans ((hp775 j (by omega) hl).trans ((rwv_eq (hF377.1 86 (by decide))).trans ((rwv_eq (hF149.1 86 (by decide))).trans ((rwv_eq (hF103.1 86 (by decide))).trans (rwv_eq hj58))))))))))
            have ha1055 : ∀ j, j < 20 → rwv w1026 87 j = rwv w 87 j := fun j _ => rwv_eq ((hb1028.1 87 (by decide)).trans ((hb1024.1 87 (by decide)).trans ((hF957.1 87 (by decide)).trans ((hF922.1 87 (by decide)).trans ((hF780.1 87 (by decide)).trans ((hF772.1 87 (by decide)).trans ((hF377.1 87 (by decide)).trans ((hF149.1 87 (by decide)).trans ((hF103.1 87 (by decide)).trans hj59)))))))))
            have hM1056 := MSTok1 hS hs (by have z := hk1013; omega) (by omega) hF1041 hO1042 hM1051 hM1052 hr1053 ho1054 ha1055
            exact xg_e ⟨w1026, ⟨rfl, rfl⟩, xMnv.up (S := [85, 82]) hI956 ((xFr.of (S := [85, 82]) hb1024 (by decide)).tr (xFr.of (S := [85, 82]) hb1028 (by decide))) (List.forall_mem_cons.mpr ⟨(show cpI 7 52 4294967295 (wget w1026 85) from ⟨_, (hr1023.but hb1028 (by decide)), xrb (by omega) (hb1016)⟩), List.forall_mem_cons.mpr ⟨(show cp82 (wget w1026 82) from ⟨f82_967, f82_969, f82_971, f82_973, f82_975, f82_977, f82_979, f82_981, f82_983, f82_985 + 1, f82_987, f82_988, f82_989, f82_991, f82_993, f82_995, hk1027, by omega, hb970, by omega, by omega, hb976, by omega, hb980, hb982, by omega, by omega, hb990, hb992, hb994, hb996, by omega⟩), fun _ h => absurd h List.not_mem_nil⟩⟩), ((((((((hF50.tr (hF103.up (by decide))).tr (hF149.up (by decide))).tr (hF377.up (by decide))).tr (hF772.up (by decide))).tr (hF780.up (by decide))).tr (hF922.up (by decide))).tr (hF957.up (by decide))).tr ((xFr.of (S := [82, 83, 85, 86, 87]) hb1024 (by decide)).tr (xFr.of (S := [82, 83, 85, 86, 87]) hb1028 (by decide)))), ⟨Or.inr ⟨by rw [ln966], by rw [he1039]; exact hT1040, hM1056⟩, (((((((((hj56.tr (K83.fr hF103 (by decide))).tr k8_153).tr (K83.fr hF377 (by decide))).tr (K83.fr hF772 (by decide))).tr k8_784).tr (K83.fr hF922 (by decide))).tr (K83.fr hF957 (by decide))).tr (K83.but hb1024 (by decide))).tr (K83.but hb1028 (by decide))), by omega⟩⟩
          · refine xg_t (xg_icT (u := f82_897) (v := 2) rfl xnm0 xnm0 (xj_neT hc944)) ?_
            refine xg_t (xg_blk (b := [(416, 1, 0, 0, 0, 0), (417, 3, 13, 140, 96, 183)]) rfl) ?_
            have lf1057n : ¬ (tkd B nn p_878 = 3 ∧ B (tq B nn p_878) = 59) := by omega
            have lf1057 : lnR B nn p0 = (false, p_878) := ln926.trans (lnS_n lf1057n)
            refine xg_t (xg_aload (va := (2, 82)) rfl rfl) ?_
            have hk1058 := ((fld_eq (j := 14) (hF922.1 82 (by decide))).trans k14_786)
            have hk1059 := (hT_792.fr (hF922.1 82 (by decide))).1.2.2.2.1
            clear ht929 ht930 ht931 ht932 ht933 ht934 ht935 ht936 ht937 hf938 hf939 hf940 hf941 hf942 hmk943
            refine xg_cVv mX12_ends (vs := []) (rest := []) (cn1 := 0) (sl1 := 0) rfl (mEndsX (hI921) ((fld_eq (j := 10) (hF922.1 82 (by decide))).trans k10_791)) rfl (hF922.get (by decide) h82_917) rfl rfl rfl rfl rfl rfl (fun w1060 hq1061 => ?_)
            obtain ⟨hI1062, hF1063, hx1064⟩ := hq1061
            obtain ⟨hv1065, hv1066, hv1067, hv1068, hv1069⟩ := hx1064
            have hW1070 : WRG w1060 (tq B nn p_878) := ⟨hv1065, hv1066, hv1067.trans hk1059⟩
            have k14_1071 := hv1068.trans hk1058
            refine xg_t (xg_blk (b := [(420, 1, 0, 0, 0, 0), (421, 3, 1, 12, 11, 17), (424, 1, 2, 1, 0, 0), (425, 1, 39, 0, 0, 0), (426, 1, 10, 0, 0, 0), (427, 1, 3, 1, 0, 0), (428, 1, 11, 0, 0, 0), (429, 1, 17, 0, 0, 0), (430, 1, 0, 0, 0, 0), (431, 1, 19, 0, 0, 0), (432, 3, 1, 12, 14, 212), (435, 1, 3, 1, 0, 0), (436, 1, 11, 0, 0, 0), (437, 3, 14, 12, 14, 212), (440, 1, 12, 0, 0, 0)]) rfl) ?_
            refine xoCh82 (hI1062 82 (by decide) (by decide) : cp82 (wget w1060 82)) (fun f82_1072 f82_1074 f82_1076 f82_1078 f82_1080 f82_1082 f82_1084 f82_1086 f82_1088 f82_1090 f82_1092 f82_1093 f82_1094 f82_1096 f82_1098 f82_1100 h82_1102 hb1073 hb1075 hb1077 hb1079 hb1081 hb1083 hb1085 hb1087 hb1089 hb1091 hb1095 hb1097 hb1099 hb1101 hb1103 => ?_)
            have hf1104 : fld w1060 82 2 = f82_1072 := fld_of h82_1102
            have hf1105 : fld w1060 82 3 = f82_1074 := fld_of h82_1102
            have hf1106 : fld w1060 82 4 = f82_1076 := fld_of h82_1102
            have hf1107 : fld w1060 82 5 = f82_1078 := fld_of h82_1102
            have hf1108 : fld w1060 82 6 = f82_1080 := fld_of h82_1102
            have hf1109 : fld w1060 82 7 = f82_1082 := fld_of h82_1102
            have hf1110 : fld w1060 82 8 = f82_1084 := fld_of h82_1102
            have hf1111 : fld w1060 82 9 = f82_1086 := fld_of h82_1102
            have hf1112 : fld w1060 82 10 = f82_1088 := fld_of h82_1102
            have hf1113 : fld w1060 82 14 = f82_1090 := fld_of h82_1102
            have hk1114 := k14_1071
            have hl1115 : f82_1090 ≤ 500 := by omega
            have hk1116 : WRG w1060 (tq B nn p_878) := hW1070
            refine xg_t (xg_aload (va := (2, 82)) rfl rfl) ?_
            refine xg_t (xg_getf (va := (2, 85)) h82_1102 rfl) ?_
            refine xg_t (xg_iload (va := (0, 1)) rfl rfl) ?_
            refine xg_t (xg_dup2 rfl) ?_
            refine xoI (hI1062 85 (by decide) (by decide) : cpI 7 52 4294967295 (wget w1060 85)) (fun g85_1117 h85_1118 hb1119 => ?_)
            refine xg_ialdB (n := 1) (B := 4294967295) h85_1118 (hb1119) xnm0 (by omega) (fun u1120 hu1121 he1122 => ?_)
            have hK1123 : u1120 = u42 := (((rwv_of h85_1118 (by decide)).trans he1122).symm.trans (rwv_eq ((hF1063.1 85 (by decide)).trans ((hF922.1 85 (by decide)).trans ((hF780.1 85 (by decide)).trans ((hF772.1 85 (by decide)).trans ((hF377.1 85 (by decide)).trans ((hF149.1 85 (by decide)).trans ((hF103.1 85 (by decide)).trans hj57))))))))).trans ((hm 1 (by decide)).trans hK45.symm)
            have hl1124 : u1120 ≤ 500 := by omega
            refine xg_t (xg_const) ?_
            refine xg_t (xg_iadd (u := u1120) (v := 1) (z := u1120 + 1) xnm0 xnm0 (by omega)) ?_
            refine xg_iastK (n := 1) (u := u1120 + 1) h85_1118 xnm0 xnm0 rfl (by omega) (fun w1125 hr1126 hb1127 => ?_)
            refine xg_t (xg_aload (va := (2, 82)) rfl rfl) ?_
            refine xg_t (xg_dup rfl) ?_
            refine xg_t (xg_getf (va := (0, f82_1090)) (hb1127.get (by decide) h82_1102) rfl) ?_
            have hn1128 := id hb1091
            unfold xHid at hn1128
            refine xg_t (xg_const) ?_
            refine xg_t (xg_iadd (u := f82_1090) (v := 1) (z := f82_1090 + 1) xnm0 xnm0 (by omega)) ?_
            refine xg_putI (fl1 := [(2, 83), (2, 84), (0, f82_1072), (0, f82_1074), (0, f82_1076), (0, f82_1078), (0, f82_1080), (0, f82_1082), (0, f82_1084), (0, f82_1086), (0, f82_1088), (2, 85), (2, 86), (2, 87), (0, f82_1090 + 1), (2, 88), (2, 89), (2, 90), (2, 91), (2, 92), (2, 93), (2, 94), (4, f82_1092), (4, f82_1093), (0, f82_1094), (2, 95), (2, 96), (2, 97), (2, 98), (2, 99), (2, 100), (2, 101), (2, 102), (0, f82_1096), (2, 103), (2, 104), (2, 105), (2, 106), (2, 107), (2, 108), (2, 109), (0, f82_1098), (0, f82_1100), (2, 110), (2, 111), (2, 112), (2, 113)]) (hb1127.get (by decide) h82_1102) rfl rfl rfl (fun w1129 hk1130 hb1131 => ?_)
            have hf1132 : fld w1129 82 2 = f82_1072 := fld_of hk1130
            have hf1133 : fld w1129 82 3 = f82_1074 := fld_of hk1130
            have hf1134 : fld w1129 82 4 = f82_1076 := fld_of hk1130
            have hf1135 : fld w1129 82 5 = f82_1078 := fld_of hk1130
            have hf1136 : fld w1129 82 6 = f82_1080 := fld_of hk1130
            have hf1137 : fld w1129 82 7 = f82_1082 := fld_of hk1130
            have hf1138 : fld w1129 82 8 = f82_1084 := fld_of hk1130
            have hf1139 : fld w1129 82 9 = f82_1086 := fld_of hk1130
            have hf1140 : fld w1129 82 10 = f82_1088 := fld_of hk1130
            have hf1141 : fld w1129 82 14 = f82_1090 + 1 := fld_of hk1130
            exact xg_e ⟨w1129, ⟨rfl, rfl⟩, xMnv.up (S := [85, 82]) hI1062 ((xFr.of (S := [85, 82]) hb1127 (by decide)).tr (xFr.of (S := [85, 82]) hb1131 (by decide))) (List.forall_mem_cons.mpr ⟨(show cpI 7 52 4294967295 (wget w1129 85) from ⟨_, (hr1126.but hb1131 (by decide)), xrb (by omega) (hb1119)⟩), List.forall_mem_cons.mpr ⟨(show cp82 (wget w1129 82) from ⟨f82_1072, f82_1074, f82_1076, f82_1078, f82_1080, f82_1082, f82_1084, f82_1086, f82_1088, f82_1090 + 1, f82_1092, f82_1093, f82_1094, f82_1096, f82_1098, f82_1100, hk1130, by omega, hb1075, by omega, by omega, hb1081, by omega, hb1085, hb1087, by omega, by omega, hb1095, hb1097, hb1099, hb1101, by omega⟩), fun _ h => absurd h List.not_mem_nil⟩⟩), ((((((((hF50.tr (hF103.up (by decide))).tr (hF149.up (by decide))).tr (hF377.up (by decide))).tr (hF772.up (by decide))).tr (hF780.up (by decide))).tr (hF922.up (by decide))).tr (hF1063.up (by decide))).tr ((xFr.of (S := [82, 83, 85, 86, 87]) hb1127 (by decide)).tr (xFr.of (S := [82, 83, 85, 86, 87]) hb1131 (by decide)))), ⟨Or.inl ⟨p_878, lf1057, ⟨by have z := hk1116.1; omega, (rwv_eq (j := 16) ((hb1131.1 83 (by decide)).trans (hb1127.1 83 (by decide)))).trans hk1116.2.1, (rwv_eq (j := 17) ((hb1131.1 83 (by decide)).trans (hb1127.1 83 (by decide)))).trans hk1116.2.2⟩⟩, (((((((((hj56.tr (K83.fr hF103 (by decide))).tr k8_153).tr (K83.fr hF377 (by decide))).tr (K83.fr hF772 (by decide))).tr k8_784).tr (K83.fr hF922 (by decide))).tr hv1069).tr (K83.but hb1127 (by decide))).tr (K83.but hb1131 (by decide))), by omega⟩⟩
  refine xg_t (xg_iload (va := (0, u42)) rfl rfl) ?_
  refine xg_t (xg_iload (va := (0, 1)) rfl rfl) ?_
  refine xg_t (xg_cSr mX12_mostOf (vs := [(0, 1)]) (rest := [(0, u42)]) (rs := [(0, 4), (0, u42)]) (cn1 := 0) (sl1 := 0) rfl (mMostR1) rfl rfl rfl rfl rfl rfl rfl rfl) ?_
  by_cases hc1142 : u42 < 4
  · refine xg_t (xg_icT (u := u42) (v := 4) rfl xnm0 xnm0 (xj_ltT hc1142 (by omega))) ?_
    refine xg_t (xg_drop (l1 := [(0, (2, 82)), (1, (0, 1)), (2, (0, at_)), (3, (0, u42))]) (List.forall_mem_cons.mpr ⟨List.mem_cons_of_mem _ (List.mem_cons_of_mem _ (List.mem_cons_of_mem _ (List.mem_cons_self))), List.forall_mem_cons.mpr ⟨List.mem_cons_of_mem _ (List.mem_cons_of_mem _ (List.mem_cons_self)), List.forall_mem_cons.mpr ⟨List.mem_cons_of_mem _ (List.mem_cons_self), List.forall_mem_cons.mpr ⟨List.mem_cons_self, fun _ h => absurd h List.not_mem_nil⟩⟩⟩⟩)) ?_
    have he1143 : flA B nn k = mf1 B nn k 1 (flA B nn k) := by unfold mf1; rw [decide_eq_false (show ¬ lim 1 ≤ lnC B nn 1 k from (show ¬ 4 ≤ lnC B nn 1 k by omega))]; rfl
    exact jn47 w (hI) (xFr.rf) (⟨by rw [← he1143]; exact zF, z10, hT, z14, K83.rf, rfl, rfl, rfl⟩)
  · refine xg_t (xg_icF (u := u42) (v := 4) rfl xnm0 xnm0 (xj_ltF (by omega) (by omega))) ?_
    refine xg_t (xg_aload (va := (2, 82)) rfl rfl) ?_
    refine xg_t (xg_const) ?_
    refine xg_t (xg_iload (va := (0, at_)) rfl rfl) ?_
    refine xg_cVv mX12_also (vs := [(0, 3), (0, at_)]) (rest := []) (cn1 := 0) (sl1 := 0) rfl (mAlsoX (hI) (by omega) (by omega) (by omega) z10 zF) rfl h82_31 rfl rfl rfl rfl rfl rfl (fun w1144 hq1145 => ?_)
    obtain ⟨hI1146, hF1147, hx1148⟩ := hq1145
    obtain ⟨hv1149, hv1150⟩ := hx1148
    refine xg_t (xg_drop (l1 := [(0, (2, 82)), (1, (0, 1)), (2, (0, at_)), (3, (0, u42))]) (List.forall_mem_cons.mpr ⟨List.mem_cons_of_mem _ (List.mem_cons_of_mem _ (List.mem_cons_of_mem _ (List.mem_cons_self))), List.forall_mem_cons.mpr ⟨List.mem_cons_of_mem _ (List.mem_cons_of_mem _ (List.mem_cons_self)), List.forall_mem_cons.mpr ⟨List.mem_cons_of_mem _ (List.mem_cons_self), List.forall_mem_cons.mpr ⟨List.mem_cons_self, fun _ h => absurd h List.not_mem_nil⟩⟩⟩⟩)) ?_
    have he1151 : alo (flA B nn k) 3 at_ = mf1 B nn k 1 (flA B nn k) := by unfold mf1; rw [decide_eq_true (show lim 1 ≤ lnC B nn 1 k from (show 4 ≤ lnC B nn 1 k by omega)), hat, hp0]; rfl
    exact jn47 w1144 (hI1146) ((hF1147.up (by decide))) (⟨by rw [← he1151]; exact hv1149, ((fld_eq (j := 10) (hF1147.1 82 (by decide))).trans z10), (hT.fr (hF1147.1 82 (by decide))), ((fld_eq (j := 14) (hF1147.1 82 (by decide))).trans z14), hv1150, (hF1147.1 85 (by decide)), (hF1147.1 86 (by decide)), (hF1147.1 87 (by decide))⟩)
end XFME
