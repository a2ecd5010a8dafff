/-! the model: a line of each sort, more -/
section XFME
variable {d : Nat} {w : List (List xE)} {bd : List (Nat × Nat)} {fc : List (Nat × Nat × Bool)} {rr : Nat × Nat}
set_option maxHeartbeats 60000000 in
theorem mALnX6 {B : Nat → Nat} {nn k p0 : Nat} {at_ : Nat} (hI : xMnv w) (hB : bsm w B nn) (hp0 : p0 = lnP B nn k) (hT : TKM 0 B nn w p0) (hS : MST B nn w k) (hk5 : k ≤ 500) (hs : slt B nn (lnP B nn k) = 6) (hat : at_ = tq B nn p0) : xTo (d + 7) mX12_aLine (43, [], [(2, (0, at_)), (1, (0, 6)), (0, (2, 82))], [], (w, bd, fc, 0, 0, rr)) (fun φ => ∃ w', xEnd 0 [] (w', bd, fc, 0, 0, rr) φ ∧ xMnv w' ∧ xFr [82, 83, 85, 86, 87] w w' ∧ (((∃ q, lnR B nn p0 = (false, q) ∧ WRG w' (tq B nn q)) ∨ ((lnR B nn p0).1 = true ∧ TKM 0 B nn w' (lnP B nn (k + 1)) ∧ MST B nn w' (k + 1))) ∧ K83 w w' ∧ fld w 82 14 ≤ fld w' 82 14)) := by
  obtain ⟨f82_1, f82_3, f82_5, f82_7, f82_9, f82_11, f82_13, f82_15, f82_17, f82_19, f82_21, f82_22, f82_23, f82_25, f82_27, f82_29, h82_31, hb2, hb4, hb6, hb8, hb10, hb12, hb14, hb16, hb18, hb20, hb24, hb26, hb28, hb30, hb32⟩ := (hI 82 (by decide) (by decide) : cp82 (wget w 82))
  replace hb4 := xHid.of hb4
  replace hb10 := xHid.of hb10
  replace hb14 := xHid.of hb14
  replace hb16 := xHid.of hb16
  replace hb20 := xHid.of hb20
  replace hb24 := xHid.of hb24
  replace hb26 := xHid.of hb26
  replace hb28 := xHid.of hb28
  replace hb30 := xHid.of hb30
  obtain ⟨g85_33, h85_34, hb35⟩ := (hI 85 (by decide) (by decide) : cpI 7 52 4294967295 (wget w 85))
  have h85_34 : xRow w 85 7 52 g85_33 := h85_34
  obtain ⟨g86_36, h86_37, hb38⟩ := (hI 86 (by decide) (by decide) : cpI 140 53 4294967295 (wget w 86))
  have h86_37 : xRow w 86 140 53 g86_36 := h86_37
  obtain ⟨g87_39, h87_40, hb41⟩ := (hI 87 (by decide) (by decide) : cpI 20 54 4294967295 (wget w 87))
  have h87_40 : xRow w 87 20 54 g87_39 := h87_40
  obtain ⟨⟨z10, z14, zF, zp⟩, hm, hR⟩ := id hS
  have hkc := lnC_k (B := B) (n := nn) (s := 6) (k := k)
  have hq0 : at_ ≤ 500 := by
    have z1 := tf_gt (B := B) (n := nn) (p := p0) (by rw [slt_kd (by rw [hp0, hs]; decide)]; decide)
    have z2 := hB.1
    omega
  refine xg_t (xg_blk (b := [(43, 1, 0, 0, 0, 0), (44, 3, 1, 12, 11, 17), (47, 1, 2, 1, 0, 0), (48, 1, 10, 0, 0, 0), (49, 1, 15, 3, 0, 0), (50, 1, 2, 3, 0, 0), (51, 1, 2, 1, 0, 0), (52, 3, 13, 194, 98, 193), (55, 3, 6, 64, 2, 0), (58, 1, 0, 0, 0, 0), (59, 1, 3, 3, 0, 0), (60, 1, 2, 2, 0, 0), (61, 3, 13, 115, 96, 186)]) rfl) ?_
  refine xg_t (xg_aload (va := (2, 82)) rfl rfl) ?_
  refine xg_t (xg_getf (va := (2, 85)) h82_31 rfl) ?_
  refine xg_t (xg_iload (va := (0, 6)) rfl rfl) ?_
  refine xg_ialdB (n := 6) (B := 4294967295) h85_34 (hb35) xnm0 (by omega) (fun u42 hu43 he44 => ?_)
  have hK45 : u42 = lnC B nn 6 k := (((rwv_of h85_34 (by decide)).trans he44).symm).trans (hm 6 (by decide))
  have hl46 : u42 ≤ 500 := by omega
  refine xg_t (xg_istore (l1 := [(2, (0, at_)), (1, (0, 6)), (0, (2, 82))]) rfl rfl rfl) ?_
  have jn47 : ∀ (w48 : List (List xE)), xMnv w48 → xFr [82, 83, 85, 86, 87] w w48 → (FP w48 (mf1 B nn k 6 (flA B nn k)) ∧ fld w48 82 10 = 0 ∧ TKM 0 B nn w48 p0 ∧ fld w48 82 14 = k ∧ K83 w w48 ∧ wget w48 85 = wget w 85 ∧ wget w48 86 = wget w 86 ∧ wget w48 87 = wget w 87) → xTo (d + 7) mX12_aLine (64, [], [(0, (2, 82)), (1, (0, 6)), (2, (0, at_)), (3, (0, u42))], [], (w48, bd, fc, 0, 0, rr)) (fun φ => ∃ w', xEnd 0 [] (w', bd, fc, 0, 0, rr) φ ∧ xMnv w' ∧ xFr [82, 83, 85, 86, 87] w w' ∧ (((∃ q, lnR B nn p0 = (false, q) ∧ WRG w' (tq B nn q)) ∨ ((lnR B nn p0).1 = true ∧ TKM 0 B nn w' (lnP B nn (k + 1)) ∧ MST B nn w' (k + 1))) ∧ K83 w w' ∧ fld w 82 14 ≤ fld w' 82 14)) := by
    intro w48 hI49 hF50 he51
    obtain ⟨hj52, hj53, hj54, hj55, hj56, hj57, hj58, hj59⟩ := he51
    refine xg_t (xg_blk (b := [(64, 1, 0, 0, 0, 0), (65, 3, 13, 110, 96, 190), (68, 1, 2, 1, 0, 0), (69, 39, 33, 362, 0, 9)]) rfl) ?_
    refine xg_t (xg_aload (va := (2, 82)) rfl rfl) ?_
    obtain ⟨⟨ht60, ht61, ht62, ht63, ht64, ht65⟩, -⟩ := id hj54
    have hk66 := hj53
    have hk67 := hj55
    obtain ⟨f82_68, f82_70, f82_72, f82_74, f82_76, f82_78, f82_80, f82_82, f82_84, f82_86, f82_88, f82_89, f82_90, f82_92, f82_94, f82_96, h82_98, hb69, hb71, hb73, hb75, hb77, hb79, hb81, hb83, hb85, hb87, hb91, hb93, hb95, hb97, hb99⟩ := (hI49 82 (by decide) (by decide) : cp82 (wget w48 82))
    replace hb71 := xHid.of hb71
    replace hb77 := xHid.of hb77
    replace hb81 := xHid.of hb81
    replace hb83 := xHid.of hb83
    replace hb87 := xHid.of hb87
    replace hb91 := xHid.of hb91
    replace hb93 := xHid.of hb93
    replace hb95 := xHid.of hb95
    replace hb97 := xHid.of hb97
    refine xg_cVv mX12_advance (vs := []) (rest := []) (cn1 := 0) (sl1 := 0) rfl (mAdvX (hI49) (hB.fr (fun j h4 h9 => hj56 j (by omega) (by omega) (by omega))) ht60 ht61 (by rw [ht62]; exact tf_le ht65)) rfl h82_98 rfl rfl rfl rfl rfl rfl (fun w100 hq101 => ?_)
    obtain ⟨hI102, hF103, hx104⟩ := hq101
    obtain ⟨hz105, hz106, hz107⟩ := hx104
    rw [ht62] at hz105
    clear ht60 ht61 ht62 ht63 ht64 ht65
    obtain ⟨p_108, hp109⟩ : ∃ x, x = tf B nn p0 := ⟨_, rfl⟩
    rw [← hp109] at hz105
    have k10_110 := hz106.trans hk66
    have k14_111 := hz107.trans hk67
    clear hz106 hz107 hk66 hk67
    have ln112 : lnR B nn p0 = lnN B nn 6 2 p_108 := by rw [hp109]; exact lnR_go (by rw [hp0]; exact hs) (by decide)
    refine xg_t (xg_iload (va := (0, 6)) rfl rfl) ?_
    refine xg_t (xg_swt (ks := [(0, 108), (1, 116), (2, 180), (3, 221), (4, 273), (5, 326)]) (u := 6) (z := 362) rfl rfl rfl xnm0 (xsw_n (by omega) (xsw_n (by omega) (xsw_n (by omega) (xsw_n (by omega) (xsw_n (by omega) (xsw_n (by omega) (xsw_d)))))))) ?_
    refine xg_t (xg_blk (b := [(362, 1, 3, 0, 0, 0), (363, 2, 15, 4, 0, 0)]) rfl) ?_
    refine xg_t (xg_const) ?_
    refine xg_t (xg_istore (l1 := [(0, (2, 82)), (1, (0, 6)), (2, (0, at_)), (3, (0, u42))]) rfl rfl rfl) ?_
    refine xg_t (xg_blk (b := [(365, 2, 2, 4, 0, 0), (367, 1, 3, 2, 0, 0), (368, 3, 6, 394, 3, 0), (371, 1, 0, 0, 0, 0), (372, 1, 2, 1, 0, 0), (373, 1, 2, 3, 0, 0), (374, 1, 3, 5, 0, 0), (375, 2, 2, 4, 0, 0), (377, 1, 11, 0, 0, 0), (378, 1, 0, 0, 0, 0), (379, 1, 3, 1, 0, 0), (380, 2, 4, 6, 0, 0), (382, 3, 13, 199, 96, 196), (385, 3, 13, 211, 96, 200), (388, 3, 9, 4, 1, 0), (391, 3, 8, 365, 0, 0)]) rfl) ?_
    refine xg_t (xg_iload (va := (0, 0)) rfl rfl) ?_
    refine xg_t (xg_const) ?_
    refine xg_t (xg_icF (u := 0) (v := 2) rfl xnm0 xnm0 (by decide)) ?_
    refine xg_t (xg_aload (va := (2, 82)) rfl rfl) ?_
    refine xg_t (xg_iload (va := (0, 6)) rfl rfl) ?_
    refine xg_t (xg_iload (va := (0, u42)) rfl rfl) ?_
    refine xg_t (xg_const) ?_
    refine xg_t (xg_iload (va := (0, 0)) rfl rfl) ?_
    refine xg_t (xg_iadd (u := 5) (v := 0) (z := 5) xnm0 xnm0 (by decide)) ?_
    refine xg_t (xg_aload (va := (2, 82)) rfl rfl) ?_
    refine xg_t (xg_const) ?_
    refine xg_t (xg_bip) ?_
    have hk113 := k14_111
    obtain ⟨f82_114, f82_116, f82_118, f82_120, f82_122, f82_124, f82_126, f82_128, f82_130, f82_132, f82_134, f82_135, f82_136, f82_138, f82_140, f82_142, h82_144, hb115, hb117, hb119, hb121, hb123, hb125, hb127, hb129, hb131, hb133, hb137, hb139, hb141, hb143, hb145⟩ := (hI102 82 (by decide) (by decide) : cp82 (wget w100 82))
    replace hb117 := xHid.of hb117
    replace hb123 := xHid.of hb123
    replace hb127 := xHid.of hb127
    replace hb129 := xHid.of hb129
    replace hb133 := xHid.of hb133
    replace hb137 := xHid.of hb137
    replace hb139 := xHid.of hb139
    replace hb141 := xHid.of hb141
    replace hb143 := xHid.of hb143
    refine xg_cVi mX12_numbered (vs := [(0, 1), (0, 6)]) (rest := [(0, 5), (0, u42), (0, 6), (2, 82)]) (cn1 := 0) (sl1 := 0) rfl (mNumX (ir := 0) (hI102) (by omega) (by omega) (hB.fr (fun j h4 h9 => (hj56.tr (K83.fr hF103 (by decide))) j (by omega) (by omega) (by omega))) k10_110 hz105 (hj52.k83 (rwv_eq (hF103.1 83 (by decide))) (rwv_eq (hF103.1 83 (by decide))))) rfl h82_144 rfl rfl rfl rfl rfl rfl (fun n150 w146 hq147 => ?_)
    obtain ⟨hn151, hI148, hF149⟩ := hq147
    obtain ⟨hx154, h14_152, k8_153⟩ := hn151
    have k14_155 := h14_152.trans hk113
    rcases hx154 with ⟨rfl, hk156, hW157⟩ | ⟨hv158, h9_159, hk156, k10_160, hT_161, hF_162⟩
    · have lf163 : lnR B nn p0 = (false, p_108) := ln112.trans (lnN_n (k := 1) hk156)
      obtain ⟨f82_164, f82_166, f82_168, f82_170, f82_172, f82_174, f82_176, f82_178, f82_180, f82_182, f82_184, f82_185, f82_186, f82_188, f82_190, f82_192, h82_194, hb165, hb167, hb169, hb171, hb173, hb175, hb177, hb179, hb181, hb183, hb187, hb189, hb191, hb193, hb195⟩ := (hI148 82 (by decide) (by decide) : cp82 (wget w146 82))
      replace hb167 := xHid.of hb167
      replace hb173 := xHid.of hb173
      replace hb177 := xHid.of hb177
      replace hb179 := xHid.of hb179
      replace hb183 := xHid.of hb183
      replace hb187 := xHid.of hb187
      replace hb189 := xHid.of hb189
      replace hb191 := xHid.of hb191
      replace hb193 := xHid.of hb193
      refine xg_cVv mX12_puts (vs := [(0, 6), (0, u42), (0, 5), (0, 0)]) (rest := []) (cn1 := 0) (sl1 := 0) rfl (mPuts6 (hI148) (by omega) (by omega) (by omega) (fun _ => by omega)) rfl h82_194 rfl rfl rfl rfl rfl rfl (fun w196 hq197 => ?_)
      obtain ⟨hI198, hF199, hx200⟩ := hq197
      obtain ⟨hp201, hp202⟩ := hx200
      refine xg_t (xg_iinc (u := 0) (z := 1) (l1 := [(0, (2, 82)), (1, (0, 6)), (2, (0, at_)), (3, (0, u42))]) rfl rfl (by decide) rfl) ?_
      refine xg_t (xg_goto) ?_
      refine xg_t (xg_blk (b := [(365, 2, 2, 4, 0, 0), (367, 1, 3, 2, 0, 0), (368, 3, 6, 394, 3, 0), (371, 1, 0, 0, 0, 0), (372, 1, 2, 1, 0, 0), (373, 1, 2, 3, 0, 0), (374, 1, 3, 5, 0, 0), (375, 2, 2, 4, 0, 0), (377, 1, 11, 0, 0, 0), (378, 1, 0, 0, 0, 0), (379, 1, 3, 1, 0, 0), (380, 2, 4, 6, 0, 0), (382, 3, 13, 199, 96, 196), (385, 3, 13, 211, 96, 200), (388, 3, 9, 4, 1, 0), (391, 3, 8, 365, 0, 0)]) rfl) ?_
      refine xg_t (xg_iload (va := (0, 1)) rfl rfl) ?_
      refine xg_t (xg_const) ?_
      refine xg_t (xg_icF (u := 1) (v := 2) rfl xnm0 xnm0 (by decide)) ?_
      refine xg_t (xg_aload (va := (2, 82)) rfl rfl) ?_
      refine xg_t (xg_iload (va := (0, 6)) rfl rfl) ?_
      refine xg_t (xg_iload (va := (0, u42)) rfl rfl) ?_
      refine xg_t (xg_const) ?_
      refine xg_t (xg_iload (va := (0, 1)) rfl rfl) ?_
      refine xg_t (xg_iadd (u := 5) (v := 1) (z := 6) xnm0 xnm0 (by decide)) ?_
      refine xg_t (xg_aload (va := (2, 82)) rfl rfl) ?_
      refine xg_t (xg_const) ?_
      refine xg_t (xg_bip) ?_
      refine xg_cVi mX12_numbered (vs := [(0, 1), (0, 6)]) (rest := [(0, 6), (0, u42), (0, 6), (2, 82)]) (cn1 := 0) (sl1 := 0) rfl (mNumW (hI198) (by omega) (by omega) (by have q := hW157.1; have q2 := fld_eq (j := 10) (hF199.1 82 (by decide)); omega)) rfl (hF199.get (by decide) h82_194) rfl rfl rfl rfl rfl rfl (fun n207 w203 hq204 => ?_)
      obtain ⟨hn208, hI205, hF206⟩ := hq204
      obtain rfl := hn208
      refine xg_cVv mX12_puts (vs := [(0, 6), (0, u42), (0, 6), (0, 0)]) (rest := []) (cn1 := 0) (sl1 := 0) rfl (mPuts6 (hI205) (by omega) (by omega) (by omega) (fun _ => by omega)) rfl (hF206.get (by decide) (hF199.get (by decide) h82_194)) rfl rfl rfl rfl rfl rfl (fun w209 hq210 => ?_)
      obtain ⟨hI211, hF212, hx213⟩ := hq210
      obtain ⟨hp214, hp215⟩ := hx213
      refine xg_t (xg_iinc (u := 1) (z := 2) (l1 := [(0, (2, 82)), (1, (0, 6)), (2, (0, at_)), (3, (0, u42))]) rfl rfl (by decide) rfl) ?_
      refine xg_t (xg_goto) ?_
      refine xg_t (xg_blk (b := [(365, 2, 2, 4, 0, 0), (367, 1, 3, 2, 0, 0), (368, 3, 6, 394, 3, 0), (371, 1, 0, 0, 0, 0), (372, 1, 2, 1, 0, 0), (373, 1, 2, 3, 0, 0), (374, 1, 3, 5, 0, 0), (375, 2, 2, 4, 0, 0), (377, 1, 11, 0, 0, 0), (378, 1, 0, 0, 0, 0), (379, 1, 3, 1, 0, 0), (380, 2, 4, 6, 0, 0), (382, 3, 13, 199, 96, 196), (385, 3, 13, 211, 96, 200), (388, 3, 9, 4, 1, 0), (391, 3, 8, 365, 0, 0)]) rfl) ?_
      refine xg_t (xg_iload (va := (0, 2)) rfl rfl) ?_
      refine xg_t (xg_const) ?_
      refine xg_t (xg_icT (u := 2) (v := 2) rfl xnm0 xnm0 (by decide)) ?_
      refine xg_t (xg_blk (b := [(394, 1, 0, 0, 0, 0), (395, 3, 1, 12, 10, 180), (398, 3, 7, 416, 1, 0), (401, 1, 0, 0, 0, 0), (402, 3, 1, 12, 7, 151), (405, 1, 3, 2, 0, 0), (406, 3, 6, 416, 1, 0), (409, 1, 0, 0, 0, 0), (410, 3, 13, 110, 96, 190), (413, 3, 8, 420, 0, 0)]) rfl) ?_
      refine xg_t (xg_aload (va := (2, 82)) rfl rfl) ?_
      refine xg_t (xg_getf (va := (0, f82_180)) (hF212.get (by decide) (hF206.get (by decide) (hF199.get (by decide) h82_194))) rfl) ?_
      have hf216 : fld w209 82 10 = f82_180 := fld_of (hF212.get (by decide) (hF206.get (by decide) (hF199.get (by decide) h82_194)))
      have hk217 : fld w209 82 10 ≠ 0 := (by have q := hW157.1; have q2 := fld_eq (j := 10) ((hF212.1 82 (by decide)).trans ((hF206.1 82 (by decide)).trans (hF199.1 82 (by decide)))); omega)
      refine xg_t (xg_ifT (u := f82_180) rfl xnm0 (xj_neT (by omega))) ?_
      refine xg_t (xg_blk (b := [(416, 1, 0, 0, 0, 0), (417, 3, 13, 140, 96, 183)]) rfl) ?_
      refine xg_t (xg_aload (va := (2, 82)) rfl rfl) ?_
      refine xg_cVv mX12_ends (vs := []) (rest := []) (cn1 := 0) (sl1 := 0) rfl (mEndsW (hI211) (by have q := hW157.1; have q2 := fld_eq (j := 10) ((hF212.1 82 (by decide)).trans ((hF206.1 82 (by decide)).trans (hF199.1 82 (by decide)))); omega)) rfl (hF212.get (by decide) (hF206.get (by decide) (hF199.get (by decide) h82_194))) rfl rfl rfl rfl rfl rfl (fun w218 hq219 => ?_)
      obtain ⟨hI220, hF221⟩ := hq219
      refine xg_t (xg_blk (b := [(420, 1, 0, 0, 0, 0), (421, 3, 1, 12, 11, 17), (424, 1, 2, 1, 0, 0), (425, 1, 39, 0, 0, 0), (426, 1, 10, 0, 0, 0), (427, 1, 3, 1, 0, 0), (428, 1, 11, 0, 0, 0), (429, 1, 17, 0, 0, 0), (430, 1, 0, 0, 0, 0), (431, 1, 19, 0, 0, 0), (432, 3, 1, 12, 14, 212), (435, 1, 3, 1, 0, 0), (436, 1, 11, 0, 0, 0), (437, 3, 14, 12, 14, 212), (440, 1, 12, 0, 0, 0)]) rfl) ?_
      have hf222 : fld w218 82 2 = f82_164 := fld_of (hF221.get (by decide) (hF212.get (by decide) (hF206.get (by decide) (hF199.get (by decide) h82_194))))
      have hf223 : fld w218 82 3 = f82_166 := fld_of (hF221.get (by decide) (hF212.get (by decide) (hF206.get (by decide) (hF199.get (by decide) h82_194))))
      have hf224 : fld w218 82 4 = f82_168 := fld_of (hF221.get (by decide) (hF212.get (by decide) (hF206.get (by decide) (hF199.get (by decide) h82_194))))
      have hf225 : fld w218 82 5 = f82_170 := fld_of (hF221.get (by decide) (hF212.get (by decide) (hF206.get (by decide) (hF199.get (by decide) h82_194))))
      have hf226 : fld w218 82 6 = f82_172 := fld_of (hF221.get (by decide) (hF212.get (by decide) (hF206.get (by decide) (hF199.get (by decide) h82_194))))
      have hf227 : fld w218 82 7 = f82_174 := fld_of (hF221.get (by decide) (hF212.get (by decide) (hF206.get (by decide) (hF199.get (by decide) h82_194))))
      have hf228 : fld w218 82 8 = f82_176 := fld_of (hF221.get (by decide) (hF212.get (by decide) (hF206.get (by decide) (hF199.get (by decide) h82_194))))
      have hf229 : fld w218 82 9 = f82_178 := fld_of (hF221.get (by decide) (hF212.get (by decide) (hF206.get (by decide) (hF199.get (by decide) h82_194))))
      have hf230 : fld w218 82 10 = f82_180 := fld_of (hF221.get (by decide) (hF212.get (by decide) (hF206.get (by decide) (hF199.get (by decide) h82_194))))
      have hf231 : fld w218 82 14 = f82_182 := fld_of (hF221.get (by decide) (hF212.get (by decide) (hF206.get (by decide) (hF199.get (by decide) h82_194))))
      have hk232 := ((fld_eq (j := 14) ((hF221.1 82 (by decide)).trans ((hF212.1 82 (by decide)).trans ((hF206.1 82 (by decide)).trans (hF199.1 82 (by decide)))))).trans k14_155)
      have hl233 : f82_182 ≤ 500 := by omega
      have hk234 : WRG w218 (tq B nn p_108) := ⟨(fld_eq (j := 10) ((hF221.1 82 (by decide)).trans ((hF212.1 82 (by decide)).trans ((hF206.1 82 (by decide)).trans (hF199.1 82 (by decide)))))).trans hW157.1, (rwv_eq (j := 16) ((hF221.1 83 (by decide)).trans ((hF212.1 83 (by decide)).trans ((hF206.1 83 (by decide)).trans (hF199.1 83 (by decide)))))).trans hW157.2.1, (rwv_eq (j := 17) ((hF221.1 83 (by decide)).trans ((hF212.1 83 (by decide)).trans ((hF206.1 83 (by decide)).trans (hF199.1 83 (by decide)))))).trans hW157.2.2⟩
      refine xg_t (xg_aload (va := (2, 82)) rfl rfl) ?_
      refine xg_t (xg_getf (va := (2, 85)) (hF221.get (by decide) (hF212.get (by decide) (hF206.get (by decide) (hF199.get (by decide) h82_194)))) rfl) ?_
      refine xg_t (xg_iload (va := (0, 6)) rfl rfl) ?_
      refine xg_t (xg_dup2 rfl) ?_
      obtain ⟨g85_235, h85_236, hb237⟩ := (hI220 85 (by decide) (by decide) : cpI 7 52 4294967295 (wget w218 85))
      have h85_236 : xRow w218 85 7 52 g85_235 := h85_236
      refine xg_ialdB (n := 6) (B := 4294967295) h85_236 (hb237) xnm0 (by omega) (fun u238 hu239 he240 => ?_)
      have hK241 : u238 = u42 := (((rwv_of h85_236 (by decide)).trans he240).symm.trans (rwv_eq ((hF221.1 85 (by decide)).trans ((hF212.1 85 (by decide)).trans ((hF206.1 85 (by decide)).trans ((hF199.1 85 (by decide)).trans ((hF149.1 85 (by decide)).trans ((hF103.1 85 (by decide)).trans hj57)))))))).trans ((hm 6 (by decide)).trans hK45.symm)
      have hl242 : u238 ≤ 500 := by omega
      refine xg_t (xg_const) ?_
      refine xg_t (xg_iadd (u := u238) (v := 1) (z := u238 + 1) xnm0 xnm0 (by omega)) ?_
      refine xg_iastK (n := 6) (u := u238 + 1) h85_236 xnm0 xnm0 rfl (by omega) (fun w243 hr244 hb245 => ?_)
      refine xg_t (xg_aload (va := (2, 82)) rfl rfl) ?_
      refine xg_t (xg_dup rfl) ?_
      refine xg_t (xg_getf (va := (0, f82_182)) (hb245.get (by decide) (hF221.get (by decide) (hF212.get (by decide) (hF206.get (by decide) (hF199.get (by decide) h82_194))))) rfl) ?_
      have hn246 := id hb183
      unfold xHid at hn246
      refine xg_t (xg_const) ?_
      refine xg_t (xg_iadd (u := f82_182) (v := 1) (z := f82_182 + 1) xnm0 xnm0 (by omega)) ?_
      refine xg_putI (fl1 := [(2, 83), (2, 84), (0, f82_164), (0, f82_166), (0, f82_168), (0, f82_170), (0, f82_172), (0, f82_174), (0, f82_176), (0, f82_178), (0, f82_180), (2, 85), (2, 86), (2, 87), (0, f82_182 + 1), (2, 88), (2, 89), (2, 90), (2, 91), (2, 92), (2, 93), (2, 94), (4, f82_184), (4, f82_185), (0, f82_186), (2, 95), (2, 96), (2, 97), (2, 98), (2, 99), (2, 100), (2, 101), (2, 102), (0, f82_188), (2, 103), (2, 104), (2, 105), (2, 106), (2, 107), (2, 108), (2, 109), (0, f82_190), (0, f82_192), (2, 110), (2, 111), (2, 112), (2, 113)]) (hb245.get (by decide) (hF221.get (by decide) (hF212.get (by decide) (hF206.get (by decide) (hF199.get (by decide) h82_194))))) rfl rfl rfl (fun w247 hk248 hb249 => ?_)
      have hf250 : fld w247 82 2 = f82_164 := fld_of hk248
      have hf251 : fld w247 82 3 = f82_166 := fld_of hk248
      have hf252 : fld w247 82 4 = f82_168 := fld_of hk248
      have hf253 : fld w247 82 5 = f82_170 := fld_of hk248
      have hf254 : fld w247 82 6 = f82_172 := fld_of hk248
      have hf255 : fld w247 82 7 = f82_174 := fld_of hk248
      have hf256 : fld w247 82 8 = f82_176 := fld_of hk248
      have hf257 : fld w247 82 9 = f82_178 := fld_of hk248
      have hf258 : fld w247 82 10 = f82_180 := fld_of hk248
      have hf259 : fld w247 82 14 = f82_182 + 1 := fld_of hk248
      exact xg_e ⟨w247, ⟨rfl, rfl⟩, xMnv.up (S := [85, 82]) hI220 ((xFr.of (S := [85, 82]) hb245 (by decide)).tr (xFr.of (S := [85, 82]) hb249 (by decide))) (List.forall_mem_cons.mpr ⟨(show cpI 7 52 4294967295 (wget w247 85) from ⟨_, (hr244.but hb249 (by decide)), xrb (by omega) (hb237)⟩), List.forall_mem_cons.mpr ⟨(show cp82 (wget w247 82) from ⟨f82_164, f82_166, f82_168, f82_170, f82_172, f82_174, f82_176, f82_178, f82_180, f82_182 + 1, f82_184, f82_185, f82_186, f82_188, f82_190, f82_192, hk248, by omega, hb167, by omega, by omega, hb173, by omega, hb177, hb179, by omega, by omega, hb187, hb189, hb191, hb193, by omega⟩), fun _ h => absurd h List.not_mem_nil⟩⟩), (((((((hF50.tr (hF103.up (by decide))).tr (hF149.up (by decide))).tr (hF199.up (by decide))).tr (hF206.up (by decide))).tr (hF212.up (by decide))).tr (hF221.up (by decide))).tr ((xFr.of (S := [82, 83, 85, 86, 87]) hb245 (by decide)).tr (xFr.of (S := [82, 83, 85, 86, 87]) hb249 (by decide)))), ⟨Or.inl ⟨p_108, lf163, ⟨by have z := hk234.1; omega, (rwv_eq (j := 16) ((hb249.1 83 (by decide)).trans (hb245.1 83 (by decide)))).trans hk234.2.1, (rwv_eq (j := 17) ((hb249.1 83 (by decide)).trans (hb245.1 83 (by decide)))).trans hk234.2.2⟩⟩, ((((((((hj56.tr (K83.fr hF103 (by decide))).tr k8_153).tr (K83.fr hF199 (by decide))).tr (K83.fr hF206 (by decide))).tr (K83.fr hF212 (by decide))).tr (K83.fr hF221 (by decide))).tr (K83.but hb245 (by decide))).tr (K83.but hb249 (by decide))), by omega⟩⟩
    · obtain ⟨p_260, hp261⟩ : ∃ x, x = tf B nn p_108 := ⟨_, rfl⟩
      rw [← hp261] at hT_161
      have ln262 : lnR B nn p0 = lnN B nn 6 1 p_260 := by rw [hp261]; exact ln112.trans (lnN_y (k := 1) hk156)
      have vp263 : vlp B nn (lnP B nn k) 0 = p_108 := by rw [← hp0]; exact hp109.symm
      have vl264 : vln B nn (lnP B nn k) 0 = tnu B nn p_108 := by
        show (if (0 : Nat) = 3 then _ else tnu B nn (vlp B nn (lnP B nn k) 0)) = _
        rw [if_neg (by decide), vp263]
      have he266 : (chk (mf1 B nn k 6 (flA B nn k)) 1 6 (tnu B nn p_108) (tq B nn p_108)) = (mf2 B nn k 6 (flA B nn k)) := by show _ = chk (mf1 B nn k 6 (flA B nn k)) 1 6 (vln B nn (lnP B nn k) 0) (tq B nn (vlp B nn (lnP B nn k) 0)); rw [vl264, vp263]
      have hF_265 := hF_162
      rw [he266] at hF_265
      have he268 : (mf2 B nn k 6 (flA B nn k)) = (mf3 B nn k 6 (flA B nn k)) := rfl
      have hF_267 := hF_265
      rw [he268] at hF_267
      obtain ⟨f82_269, f82_271, f82_273, f82_275, f82_277, f82_279, f82_281, f82_283, f82_285, f82_287, f82_289, f82_290, f82_291, f82_293, f82_295, f82_297, h82_299, hb270, hb272, hb274, hb276, hb278, hb280, hb282, hb284, hb286, hb288, hb292, hb294, hb296, hb298, hb300⟩ := (hI148 82 (by decide) (by decide) : cp82 (wget w146 82))
      replace hb272 := xHid.of hb272
      replace hb278 := xHid.of hb278
      replace hb282 := xHid.of hb282
      replace hb284 := xHid.of hb284
      replace hb288 := xHid.of hb288
      replace hb292 := xHid.of hb292
      replace hb294 := xHid.of hb294
      replace hb296 := xHid.of hb296
      replace hb298 := xHid.of hb298
      refine xg_cVv mX12_puts (vs := [(0, 6), (0, u42), (0, 5), (0, n150)]) (rest := []) (cn1 := 0) (sl1 := 0) rfl (mPuts6 (hI148) (by omega) (by omega) (by omega) (fun _ => by omega)) rfl h82_299 rfl rfl rfl rfl rfl rfl (fun w301 hq302 => ?_)
      obtain ⟨hI303, hF304, hx305⟩ := hq302
      obtain ⟨hp306, hp307⟩ := hx305
      refine xg_t (xg_iinc (u := 0) (z := 1) (l1 := [(0, (2, 82)), (1, (0, 6)), (2, (0, at_)), (3, (0, u42))]) rfl rfl (by decide) rfl) ?_
      refine xg_t (xg_goto) ?_
      refine xg_t (xg_blk (b := [(365, 2, 2, 4, 0, 0), (367, 1, 3, 2, 0, 0), (368, 3, 6, 394, 3, 0), (371, 1, 0, 0, 0, 0), (372, 1, 2, 1, 0, 0), (373, 1, 2, 3, 0, 0), (374, 1, 3, 5, 0, 0), (375, 2, 2, 4, 0, 0), (377, 1, 11, 0, 0, 0), (378, 1, 0, 0, 0, 0), (379, 1, 3, 1, 0, 0), (380, 2, 4, 6, 0, 0), (382, 3, 13, 199, 96, 196), (385, 3, 13, 211, 96, 200), (388, 3, 9, 4, 1, 0), (391, 3, 8, 365, 0, 0)]) rfl) ?_
      refine xg_t (xg_iload (va := (0, 1)) rfl rfl) ?_
      refine xg_t (xg_const) ?_
      refine xg_t (xg_icF (u := 1) (v := 2) rfl xnm0 xnm0 (by decide)) ?_
      refine xg_t (xg_aload (va := (2, 82)) rfl rfl) ?_
      refine xg_t (xg_iload (va := (0, 6)) rfl rfl) ?_
      refine xg_t (xg_iload (va := (0, u42)) rfl rfl) ?_
      refine xg_t (xg_const) ?_
      refine xg_t (xg_iload (va := (0, 1)) rfl rfl) ?_
      refine xg_t (xg_iadd (u := 5) (v := 1) (z := 6) xnm0 xnm0 (by decide)) ?_
      refine xg_t (xg_aload (va := (2, 82)) rfl rfl) ?_
      refine xg_t (xg_const) ?_
      refine xg_t (xg_bip) ?_
      have hk308 := ((fld_eq (j := 14) (hF304.1 82 (by decide))).trans k14_155)
      refine xg_cVi mX12_numbered (vs := [(0, 1), (0, 6)]) (rest := [(0, 6), (0, u42), (0, 6), (2, 82)]) (cn1 := 0) (sl1 := 0) rfl (mNumX (ir := 0) (hI303) (by omega) (by omega) (hB.fr (fun j h4 h9 => (((hj56.tr (K83.fr hF103 (by decide))).tr k8_153).tr (K83.fr hF304 (by decide))) j (by omega) (by omega) (by omega))) ((fld_eq (j := 10) (hF304.1 82 (by decide))).trans k10_160) (hT_161.fr (hF304.1 82 (by decide))) (hF_267.k83 (rwv_eq (hF304.1 83 (by decide))) (rwv_eq (hF304.1 83 (by decide))))) rfl (hF304.get (by decide) h82_299) rfl rfl rfl rfl rfl rfl (fun n313 w309 hq310 => ?_)
      obtain ⟨hn314, hI311, hF312⟩ := hq310
      obtain ⟨hx317, h14_315, k8_316⟩ := hn314
      have k14_318 := h14_315.trans hk308
      rcases hx317 with ⟨rfl, hk319, hW320⟩ | ⟨hv321, h9_322, hk319, k10_323, hT_324, hF_325⟩
      · have lf326 : lnR B nn p0 = (false, p_260) := ln262.trans (lnN_n (k := 0) hk319)
        obtain ⟨f82_327, f82_329, f82_331, f82_333, f82_335, f82_337, f82_339, f82_341, f82_343, f82_345, f82_347, f82_348, f82_349, f82_351, f82_353, f82_355, h82_357, hb328, hb330, hb332, hb334, hb336, hb338, hb340, hb342, hb344, hb346, hb350, hb352, hb354, hb356, hb358⟩ := (hI311 82 (by decide) (by decide) : cp82 (wget w309 82))
        replace hb330 := xHid.of hb330
        replace hb336 := xHid.of hb336
        replace hb340 := xHid.of hb340
        replace hb342 := xHid.of hb342
        replace hb346 := xHid.of hb346
        replace hb350 := xHid.of hb350
        replace hb352 := xHid.of hb352
        replace hb354 := xHid.of hb354
        replace hb356 := xHid.of hb356
        refine xg_cVv mX12_puts (vs := [(0, 6), (0, u42), (0, 6), (0, 0)]) (rest := []) (cn1 := 0) (sl1 := 0) rfl (mPuts6 (hI311) (by omega) (by omega) (by omega) (fun _ => by omega)) rfl h82_357 rfl rfl rfl rfl rfl rfl (fun w359 hq360 => ?_)
        obtain ⟨hI361, hF362, hx363⟩ := hq360
        obtain ⟨hp364, hp365⟩ := hx363
        refine xg_t (xg_iinc (u := 1) (z := 2) (l1 := [(0, (2, 82)), (1, (0, 6)), (2, (0, at_)), (3, (0, u42))]) rfl rfl (by decide) rfl) ?_
        refine xg_t (xg_goto) ?_
        refine xg_t (xg_blk (b := [(365, 2, 2, 4, 0, 0), (367, 1, 3, 2, 0, 0), (368, 3, 6, 394, 3, 0), (371, 1, 0, 0, 0, 0), (372, 1, 2, 1, 0, 0), (373, 1, 2, 3, 0, 0), (374, 1, 3, 5, 0, 0), (375, 2, 2, 4, 0, 0), (377, 1, 11, 0, 0, 0), (378, 1, 0, 0, 0, 0), (379, 1, 3, 1, 0, 0), (380, 2, 4, 6, 0, 0), (382, 3, 13, 199, 96, 196), (385, 3, 13, 211, 96, 200), (388, 3, 9, 4, 1, 0), (391, 3, 8, 365, 0, 0)]) rfl) ?_
        refine xg_t (xg_iload (va := (0, 2)) rfl rfl) ?_
        refine xg_t (xg_const) ?_
        refine xg_t (xg_icT (u := 2) (v := 2) rfl xnm0 xnm0 (by decide)) ?_
        refine xg_t (xg_blk (b := [(394, 1, 0, 0, 0, 0), (395, 3, 1, 12, 10, 180), (398, 3, 7, 416, 1, 0), (401, 1, 0, 0, 0, 0), (402, 3, 1, 12, 7, 151), (405, 1, 3, 2, 0, 0), (406, 3, 6, 416, 1, 0), (409, 1, 0, 0, 0, 0), (410, 3, 13, 110, 96, 190), (413, 3, 8, 420, 0, 0)]) rfl) ?_
        refine xg_t (xg_aload (va := (2, 82)) rfl rfl) ?_
        refine xg_t (xg_getf (va := (0, f82_343)) (hF362.get (by decide) h82_357) rfl) ?_
        have hf366 : fld w359 82 10 = f82_343 := fld_of (hF362.get (by decide) h82_357)
        have hk367 : fld w359 82 10 ≠ 0 := (by have q := hW320.1; have q2 := fld_eq (j := 10) (hF362.1 82 (by decide)); omega)
        refine xg_t (xg_ifT (u := f82_343) rfl xnm0 (xj_neT (by omega))) ?_
        refine xg_t (xg_blk (b := [(416, 1, 0, 0, 0, 0), (417, 3, 13, 140, 96, 183)]) rfl) ?_
        refine xg_t (xg_aload (va := (2, 82)) rfl rfl) ?_
        refine xg_cVv mX12_ends (vs := []) (rest := []) (cn1 := 0) (sl1 := 0) rfl (mEndsW (hI361) (by have q := hW320.1; have q2 := fld_eq (j := 10) (hF362.1 82 (by decide)); omega)) rfl (hF362.get (by decide) h82_357) rfl rfl rfl rfl rfl rfl (fun w368 hq369 => ?_)
        obtain ⟨hI370, hF371⟩ := hq369
        refine xg_t (xg_blk (b := [(420, 1, 0, 0, 0, 0), (421, 3, 1, 12, 11, 17), (424, 1, 2, 1, 0, 0), (425, 1, 39, 0, 0, 0), (426, 1, 10, 0, 0, 0), (427, 1, 3, 1, 0, 0), (428, 1, 11, 0, 0, 0), (429, 1, 17, 0, 0, 0), (430, 1, 0, 0, 0, 0), (431, 1, 19, 0, 0, 0), (432, 3, 1, 12, 14, 212), (435, 1, 3, 1, 0, 0), (436, 1, 11, 0, 0, 0), (437, 3, 14, 12, 14, 212), (440, 1, 12, 0, 0, 0)]) rfl) ?_
        have hf372 : fld w368 82 2 = f82_327 := fld_of (hF371.get (by decide) (hF362.get (by decide) h82_357))
        have hf373 : fld w368 82 3 = f82_329 := fld_of (hF371.get (by decide) (hF362.get (by decide) h82_357))
        have hf374 : fld w368 82 4 = f82_331 := fld_of (hF371.get (by decide) (hF362.get (by decide) h82_357))
        have hf375 : fld w368 82 5 = f82_333 := fld_of (hF371.get (by decide) (hF362.get (by decide) h82_357))
        have hf376 : fld w368 82 6 = f82_335 := fld_of (hF371.get (by decide) (hF362.get (by decide) h82_357))
        have hf377 : fld w368 82 7 = f82_337 := fld_of (hF371.get (by decide) (hF362.get (by decide) h82_357))
        have hf378 : fld w368 82 8 = f82_339 := fld_of (hF371.get (by decide) (hF362.get (by decide) h82_357))
        have hf379 : fld w368 82 9 = f82_341 := fld_of (hF371.get (by decide) (hF362.get (by decide) h82_357))
        have hf380 : fld w368 82 10 = f82_343 := fld_of (hF371.get (by decide) (hF362.get (by decide) h82_357))
        have hf381 : fld w368 82 14 = f82_345 := fld_of (hF371.get (by decide) (hF362.get (by decide) h82_357))
        have hk382 := ((fld_eq (j := 14) ((hF371.1 82 (by decide)).trans (hF362.1 82 (by decide)))).trans k14_318)
        have hl383 : f82_345 ≤ 500 := by omega
        have hk384 : WRG w368 (tq B nn p_260) := ⟨(fld_eq (j := 10) ((hF371.1 82 (by decide)).trans (hF362.1 82 (by decide)))).trans hW320.1, (rwv_eq (j := 16) ((hF371.1 83 (by decide)).trans (hF362.1 83 (by decide)))).trans hW320.2.1, (rwv_eq (j := 17) ((hF371.1 83 (by decide)).trans (hF362.1 83 (by decide)))).trans hW320.2.2⟩
        refine xg_t (xg_aload (va := (2, 82)) rfl rfl) ?_
        refine xg_t (xg_getf (va := (2, 85)) (hF371.get (by decide) (hF362.get (by decide) h82_357)) rfl) ?_
        refine xg_t (xg_iload (va := (0, 6)) rfl rfl) ?_
        refine xg_t (xg_dup2 rfl) ?_
        obtain ⟨g85_385, h85_386, hb387⟩ := (hI370 85 (by decide) (by decide) : cpI 7 52 4294967295 (wget w368 85))
        have h85_386 : xRow w368 85 7 52 g85_385 := h85_386
        refine xg_ialdB (n := 6) (B := 4294967295) h85_386 (hb387) xnm0 (by omega) (fun u388 hu389 he390 => ?_)
        have hK391 : u388 = u42 := (((rwv_of h85_386 (by decide)).trans he390).symm.trans (rwv_eq ((hF371.1 85 (by decide)).trans ((hF362.1 85 (by decide)).trans ((hF312.1 85 (by decide)).trans ((hF304.1 85 (by decide)).trans ((hF149.1 85 (by decide)).trans ((hF103.1 85 (by decide)).trans hj57)))))))).trans ((hm 6 (by decide)).trans hK45.symm)
        have hl392 : u388 ≤ 500 := by omega
        refine xg_t (xg_const) ?_
        refine xg_t (xg_iadd (u := u388) (v := 1) (z := u388 + 1) xnm0 xnm0 (by omega)) ?_
        refine xg_iastK (n := 6) (u := u388 + 1) h85_386 xnm0 xnm0 rfl (by omega) (fun w393 hr394 hb395 => ?_)
        refine xg_t (xg_aload (va := (2, 82)) rfl rfl) ?_
        refine xg_t (xg_dup rfl) ?_
        refine xg_t (xg_getf (va := (0, f82_345)) (hb395.get (by decide) (hF371.get (by decide) (hF362.get (by decide) h82_357))) rfl) ?_
        have hn396 := id hb346
        unfold xHid at hn396
        refine xg_t (xg_const) ?_
        refine xg_t (xg_iadd (u := f82_345) (v := 1) (z := f82_345 + 1) xnm0 xnm0 (by omega)) ?_
        refine xg_putI (fl1 := [(2, 83), (2, 84), (0, f82_327), (0, f82_329), (0, f82_331), (0, f82_333), (0, f82_335), (0, f82_337), (0, f82_339), (0, f82_341), (0, f82_343), (2, 85), (2, 86), (2, 87), (0, f82_345 + 1), (2, 88), (2, 89), (2, 90), (2, 91), (2, 92), (2, 93), (2, 94), (4, f82_347), (4, f82_348), (0, f82_349), (2, 95), (2, 96), (2, 97), (2, 98), (2, 99), (2, 100), (2, 101), (2, 102), (0, f82_351), (2, 103), (2, 104), (2, 105), (2, 106), (2, 107), (2, 108), (2, 109), (0, f82_353), (0, f82_355), (2, 110), (2, 111), (2, 112), (2, 113)]) (hb395.get (by decide) (hF371.get (by decide) (hF362.get (by decide) h82_357))) rfl rfl rfl (fun w397 hk398 hb399 => ?_)
        have hf400 : fld w397 82 2 = f82_327 := fld_of hk398
        have hf401 : fld w397 82 3 = f82_329 := fld_of hk398
        have hf402 : fld w397 82 4 = f82_331 := fld_of hk398
        have hf403 : fld w397 82 5 = f82_333 := fld_of hk398
        have hf404 : fld w397 82 6 = f82_335 := fld_of hk398
        have hf405 : fld w397 82 7 = f82_337 := fld_of hk398
        have hf406 : fld w397 82 8 = f82_339 := fld_of hk398
        have hf407 : fld w397 82 9 = f82_341 := fld_of hk398
        have hf408 : fld w397 82 10 = f82_343 := fld_of hk398
        have hf409 : fld w397 82 14 = f82_345 + 1 := fld_of hk398
        exact xg_e ⟨w397, ⟨rfl, rfl⟩, xMnv.up (S := [85, 82]) hI370 ((xFr.of (S := [85, 82]) hb395 (by decide)).tr (xFr.of (S := [85, 82]) hb399 (by decide))) (List.forall_mem_cons.mpr ⟨(show cpI 7 52 4294967295 (wget w397 85) from ⟨_, (hr394.but hb399 (by decide)), xrb (by omega) (hb387)⟩), List.forall_mem_cons.mpr ⟨(show cp82 (wget w397 82) from ⟨f82_327, f82_329, f82_331, f82_333, f82_335, f82_337, f82_339, f82_341, f82_343, f82_345 + 1, f82_347, f82_348, f82_349, f82_351, f82_353, f82_355, hk398, by omega, hb330, by omega, by omega, hb336, by omega, hb340, hb342, by omega, by omega, hb350, hb352, hb354, hb356, by omega⟩), fun _ h => absurd h List.not_mem_nil⟩⟩), (((((((hF50.tr (hF103.up (by decide))).tr (hF149.up (by decide))).tr (hF304.up (by decide))).tr (hF312.up (by decide))).tr (hF362.up (by decide))).tr (hF371.up (by decide))).tr ((xFr.of (S := [82, 83, 85, 86, 87]) hb395 (by decide)).tr (xFr.of (S := [82, 83, 85, 86, 87]) hb399 (by decide)))), ⟨Or.inl ⟨p_260, lf326, ⟨by have z := hk384.1; omega, (rwv_eq (j := 16) ((hb399.1 83 (by decide)).trans (hb395.1 83 (by decide)))).trans hk384.2.1, (rwv_eq (j := 17) ((hb399.1 83 (by decide)).trans (hb395.1 83 (by decide)))).trans hk384.2.2⟩⟩, ((((((((hj56.tr (K83.fr hF103 (by decide))).tr k8_153).tr (K83.fr hF304 (by decide))).tr k8_316).tr (K83.fr hF362 (by decide))).tr (K83.fr hF371 (by decide))).tr (K83.but hb395 (by decide))).tr (K83.but hb399 (by decide))), by omega⟩⟩
      · obtain ⟨p_410, hp411⟩ : ∃ x, x = tf B nn p_260 := ⟨_, rfl⟩
        rw [← hp411] at hT_324
        have ln412 : lnR B nn p0 = lnN B nn 6 0 p_410 := by rw [hp411]; exact ln262.trans (lnN_y (k := 0) hk319)
        have vp413 : vlp B nn (lnP B nn k) 1 = p_260 := by show tf B nn (vlp B nn (lnP B nn k) 0) = p_260; rw [vp263]; exact hp261.symm
        have vl414 : vln B nn (lnP B nn k) 1 = tnu B nn p_260 := by
          show (if (1 : Nat) = 3 then _ else tnu B nn (vlp B nn (lnP B nn k) 1)) = _
          rw [if_neg (by decide), vp413]
        have he416 : (chk (mf3 B nn k 6 (flA B nn k)) 1 6 (tnu B nn p_260) (tq B nn p_260)) = (mf4 B nn k 6 (flA B nn k)) := by show _ = chk (mf3 B nn k 6 (flA B nn k)) 1 6 (vln B nn (lnP B nn k) 1) (tq B nn (vlp B nn (lnP B nn k) 1)); rw [vl414, vp413]
        have hF_415 := hF_325
        rw [he416] at hF_415
        have he418 : (mf4 B nn k 6 (flA B nn k)) = (mfl B nn k 6 (flA B nn k)) := rfl
        have hF_417 := hF_415
        rw [he418] at hF_417
        obtain ⟨f82_419, f82_421, f82_423, f82_425, f82_427, f82_429, f82_431, f82_433, f82_435, f82_437, f82_439, f82_440, f82_441, f82_443, f82_445, f82_447, h82_449, hb420, hb422, hb424, hb426, hb428, hb430, hb432, hb434, hb436, hb438, hb442, hb444, hb446, hb448, hb450⟩ := (hI311 82 (by decide) (by decide) : cp82 (wget w309 82))
        replace hb422 := xHid.of hb422
        replace hb428 := xHid.of hb428
        replace hb432 := xHid.of hb432
        replace hb434 := xHid.of hb434
        replace hb438 := xHid.of hb438
        replace hb442 := xHid.of hb442
        replace hb444 := xHid.of hb444
        replace hb446 := xHid.of hb446
        replace hb448 := xHid.of hb448
        refine xg_cVv mX12_puts (vs := [(0, 6), (0, u42), (0, 6), (0, n313)]) (rest := []) (cn1 := 0) (sl1 := 0) rfl (mPuts6 (hI311) (by omega) (by omega) (by omega) (fun _ => by omega)) rfl h82_449 rfl rfl rfl rfl rfl rfl (fun w451 hq452 => ?_)
        obtain ⟨hI453, hF454, hx455⟩ := hq452
        obtain ⟨hp456, hp457⟩ := hx455
        refine xg_t (xg_iinc (u := 1) (z := 2) (l1 := [(0, (2, 82)), (1, (0, 6)), (2, (0, at_)), (3, (0, u42))]) rfl rfl (by decide) rfl) ?_
        refine xg_t (xg_goto) ?_
        refine xg_t (xg_blk (b := [(365, 2, 2, 4, 0, 0), (367, 1, 3, 2, 0, 0), (368, 3, 6, 394, 3, 0), (371, 1, 0, 0, 0, 0), (372, 1, 2, 1, 0, 0), (373, 1, 2, 3, 0, 0), (374, 1, 3, 5, 0, 0), (375, 2, 2, 4, 0, 0), (377, 1, 11, 0, 0, 0), (378, 1, 0, 0, 0, 0), (379, 1, 3, 1, 0, 0), (380, 2, 4, 6, 0, 0), (382, 3, 13, 199, 96, 196), (385, 3, 13, 211, 96, 200), (388, 3, 9, 4, 1, 0), (391, 3, 8, 365, 0, 0)]) rfl) ?_
        refine xg_t (xg_iload (va := (0, 2)) rfl rfl) ?_
        refine xg_t (xg_const) ?_
        refine xg_t (xg_icT (u := 2) (v := 2) rfl xnm0 xnm0 (by decide)) ?_
        refine xg_t (xg_blk (b := [(394, 1, 0, 0, 0, 0), (395, 3, 1, 12, 10, 180), (398, 3, 7, 416, 1, 0), (401, 1, 0, 0, 0, 0), (402, 3, 1, 12, 7, 151), (405, 1, 3, 2, 0, 0), (406, 3, 6, 416, 1, 0), (409, 1, 0, 0, 0, 0), (410, 3, 13, 110, 96, 190), (413, 3, 8, 420, 0, 0)]) rfl) ?_
        have ln458 : lnR B nn p0 = lnS B nn p_410 := by exact ln412.trans (lnN_0 (by decide))
        refine xg_t (xg_aload (va := (2, 82)) rfl rfl) ?_
        refine xg_t (xg_getf (va := (0, f82_435)) (hF454.get (by decide) h82_449) rfl) ?_
        have hf459 : fld w451 82 10 = f82_435 := fld_of (hF454.get (by decide) h82_449)
        have hk460 : fld w451 82 10 = 0 := ((fld_eq (j := 10) (hF454.1 82 (by decide))).trans k10_323)
        refine xg_t (xg_ifF (u := f82_435) rfl xnm0 (xj_neF (by omega))) ?_
        obtain ⟨⟨ht461, ht462, ht463, ht464, ht465, ht466⟩, ht467, ht468, ht469⟩ := id (hT_324.fr (hF454.1 82 (by decide)))
        have hf470 : fld w451 82 6 = f82_427 := fld_of (hF454.get (by decide) h82_449)
        have hf471 : fld w451 82 7 = f82_429 := fld_of (hF454.get (by decide) h82_449)
        have hf472 : fld w451 82 8 = f82_431 := fld_of (hF454.get (by decide) h82_449)
        have hf473 : fld w451 82 9 = f82_433 := fld_of (hF454.get (by decide) h82_449)
        have hf474 : fld w451 82 3 = f82_421 := fld_of (hF454.get (by decide) h82_449)
        have hmk475 := mkd_of (ir := 0) (B := B) (n := nn) (p := p_410)
        refine xg_t (xg_aload (va := (2, 82)) rfl rfl) ?_
        refine xg_t (xg_getf (va := (0, f82_429)) (hF454.get (by decide) h82_449) rfl) ?_
        refine xg_t (xg_const) ?_
        by_cases hc476 : f82_429 = 2
        · refine xg_t (xg_icF (u := f82_429) (v := 2) rfl xnm0 xnm0 (xj_neF hc476)) ?_
          have sg4771 : tkd B nn p_410 = 3 := by omega
          have sg4772 : B (tq B nn p_410) = 59 := by omega
          refine xg_t (xg_aload (va := (2, 82)) rfl rfl) ?_
          clear ht461 ht462 ht463 ht464 ht465 ht466 ht467 ht468 ht469 hf470 hf471 hf472 hf473 hf474 hmk475
          obtain ⟨⟨ht478, ht479, ht480, ht481, ht482, ht483⟩, -⟩ := id (hT_324.fr (hF454.1 82 (by decide)))
          have hk484 := ((fld_eq (j := 10) (hF454.1 82 (by decide))).trans k10_323)
          have hk485 := ((fld_eq (j := 14) (hF454.1 82 (by decide))).trans k14_318)
          refine xg_cVv mX12_advance (vs := []) (rest := []) (cn1 := 0) (sl1 := 0) rfl (mAdvX (hI453) (hB.fr (fun j h4 h9 => (((((hj56.tr (K83.fr hF103 (by decide))).tr k8_153).tr (K83.fr hF304 (by decide))).tr k8_316).tr (K83.fr hF454 (by decide))) j (by omega) (by omega) (by omega))) ht478 ht479 (by rw [ht480]; exact tf_le ht483)) rfl (hF454.get (by decide) h82_449) rfl rfl rfl rfl rfl rfl (fun w486 hq487 => ?_)
          obtain ⟨hI488, hF489, hx490⟩ := hq487
          obtain ⟨hz491, hz492, hz493⟩ := hx490
          rw [ht480] at hz491
          clear ht478 ht479 ht480 ht481 ht482 ht483
          obtain ⟨p_494, hp495⟩ : ∃ x, x = tf B nn p_410 := ⟨_, rfl⟩
          rw [← hp495] at hz491
          have k10_496 := hz492.trans hk484
          have k14_497 := hz493.trans hk485
          clear hz492 hz493 hk484 hk485
          have ln498 : lnR B nn p0 = (true, p_494) := by rw [hp495]; exact ln458.trans (lnS_y ⟨sg4771, sg4772⟩)
          refine xg_t (xg_goto) ?_
          refine xg_t (xg_blk (b := [(420, 1, 0, 0, 0, 0), (421, 3, 1, 12, 11, 17), (424, 1, 2, 1, 0, 0), (425, 1, 39, 0, 0, 0), (426, 1, 10, 0, 0, 0), (427, 1, 3, 1, 0, 0), (428, 1, 11, 0, 0, 0), (429, 1, 17, 0, 0, 0), (430, 1, 0, 0, 0, 0), (431, 1, 19, 0, 0, 0), (432, 3, 1, 12, 14, 212), (435, 1, 3, 1, 0, 0), (436, 1, 11, 0, 0, 0), (437, 3, 14, 12, 14, 212), (440, 1, 12, 0, 0, 0)]) rfl) ?_
          obtain ⟨f82_499, f82_501, f82_503, f82_505, f82_507, f82_509, f82_511, f82_513, f82_515, f82_517, f82_519, f82_520, f82_521, f82_523, f82_525, f82_527, h82_529, hb500, hb502, hb504, hb506, hb508, hb510, hb512, hb514, hb516, hb518, hb522, hb524, hb526, hb528, hb530⟩ := (hI488 82 (by decide) (by decide) : cp82 (wget w486 82))
          replace hb502 := xHid.of hb502
          replace hb508 := xHid.of hb508
          replace hb512 := xHid.of hb512
          replace hb514 := xHid.of hb514
          replace hb518 := xHid.of hb518
          replace hb522 := xHid.of hb522
          replace hb524 := xHid.of hb524
          replace hb526 := xHid.of hb526
          replace hb528 := xHid.of hb528
          have hf531 : fld w486 82 2 = f82_499 := fld_of h82_529
          have hf532 : fld w486 82 3 = f82_501 := fld_of h82_529
          have hf533 : fld w486 82 4 = f82_503 := fld_of h82_529
          have hf534 : fld w486 82 5 = f82_505 := fld_of h82_529
          have hf535 : fld w486 82 6 = f82_507 := fld_of h82_529
          have hf536 : fld w486 82 7 = f82_509 := fld_of h82_529
          have hf537 : fld w486 82 8 = f82_511 := fld_of h82_529
          have hf538 : fld w486 82 9 = f82_513 := fld_of h82_529
          have hf539 : fld w486 82 10 = f82_515 := fld_of h82_529
          have hf540 : fld w486 82 14 = f82_517 := fld_of h82_529
          have hk541 := k14_497
          have hl542 : f82_517 ≤ 500 := by omega
          have hk543 := hz491
          have hk544 := (hF_417.k83 (rwv_eq ((hF489.1 83 (by decide)).trans (hF454.1 83 (by decide)))) (rwv_eq ((hF489.1 83 (by decide)).trans (hF454.1 83 (by decide)))))
          have hk545 := k10_496
          refine xg_t (xg_aload (va := (2, 82)) rfl rfl) ?_
          refine xg_t (xg_getf (va := (2, 85)) h82_529 rfl) ?_
          refine xg_t (xg_iload (va := (0, 6)) rfl rfl) ?_
          refine xg_t (xg_dup2 rfl) ?_
          obtain ⟨g85_546, h85_547, hb548⟩ := (hI488 85 (by decide) (by decide) : cpI 7 52 4294967295 (wget w486 85))
          have h85_547 : xRow w486 85 7 52 g85_546 := h85_547
          refine xg_ialdB (n := 6) (B := 4294967295) h85_547 (hb548) xnm0 (by omega) (fun u549 hu550 he551 => ?_)
          have hK552 : u549 = u42 := (((rwv_of h85_547 (by decide)).trans he551).symm.trans (rwv_eq ((hF489.1 85 (by decide)).trans ((hF454.1 85 (by decide)).trans ((hF312.1 85 (by decide)).trans ((hF304.1 85 (by decide)).trans ((hF149.1 85 (by decide)).trans ((hF103.1 85 (by decide)).trans hj57)))))))).trans ((hm 6 (by decide)).trans hK45.symm)
          have hl553 : u549 ≤ 500 := by omega
          refine xg_t (xg_const) ?_
          refine xg_t (xg_iadd (u := u549) (v := 1) (z := u549 + 1) xnm0 xnm0 (by omega)) ?_
          refine xg_iastK (n := 6) (u := u549 + 1) h85_547 xnm0 xnm0 rfl (by omega) (fun w554 hr555 hb556 => ?_)
          refine xg_t (xg_aload (va := (2, 82)) rfl rfl) ?_
          refine xg_t (xg_dup rfl) ?_
          refine xg_t (xg_getf (va := (0, f82_517)) (hb556.get (by decide) h82_529) rfl) ?_
          have hn557 := id hb518
          unfold xHid at hn557
          refine xg_t (xg_const) ?_
          refine xg_t (xg_iadd (u := f82_517) (v := 1) (z := f82_517 + 1) xnm0 xnm0 (by omega)) ?_
          refine xg_putI (fl1 := [(2, 83), (2, 84), (0, f82_499), (0, f82_501), (0, f82_503), (0, f82_505), (0, f82_507), (0, f82_509), (0, f82_511), (0, f82_513), (0, f82_515), (2, 85), (2, 86), (2, 87), (0, f82_517 + 1), (2, 88), (2, 89), (2, 90), (2, 91), (2, 92), (2, 93), (2, 94), (4, f82_519), (4, f82_520), (0, f82_521), (2, 95), (2, 96), (2, 97), (2, 98), (2, 99), (2, 100), (2, 101), (2, 102), (0, f82_523), (2, 103), (2, 104), (2, 105), (2, 106), (2, 107), (2, 108), (2, 109), (0, f82_525), (0, f82_527), (2, 110), (2, 111), (2, 112), (2, 113)]) (hb556.get (by decide) h82_529) rfl rfl rfl (fun w558 hk559 hb560 => ?_)
          have hf561 : fld w558 82 2 = f82_499 := fld_of hk559
          have hf562 : fld w558 82 3 = f82_501 := fld_of hk559
          have hf563 : fld w558 82 4 = f82_503 := fld_of hk559
          have hf564 : fld w558 82 5 = f82_505 := fld_of hk559
          have hf565 : fld w558 82 6 = f82_507 := fld_of hk559
          have hf566 : fld w558 82 7 = f82_509 := fld_of hk559
          have hf567 : fld w558 82 8 = f82_511 := fld_of hk559
          have hf568 : fld w558 82 9 = f82_513 := fld_of hk559
          have hf569 : fld w558 82 10 = f82_515 := fld_of hk559
          have hf570 : fld w558 82 14 = f82_517 + 1 := fld_of hk559
          have he571 : lnP B nn (k + 1) = p_494 := by
            show (lnR B nn (lnP B nn k)).2 = _
            rw [← hp0, ln498]
          have hT572 : TKM 0 B nn w558 p_494 := hk543.w14 (by omega) (by omega) (by omega) (by omega) (by omega) (by omega) (by omega) (by omega)
          have hF573 : FP w558 (mfl B nn k 6 (flA B nn k)) := hk544.k83 (rwv_eq ((hb560.1 83 (by decide)).trans (hb556.1 83 (by decide)))) (rwv_eq ((hb560.1 83 (by decide)).trans (hb556.1 83 (by decide))))
          have hg575 := (tf_gt (B := B) (n := nn) (p := p_108) (by omega)).2
          have hg576 := tq_ge (B := B) (n := nn) (p := p_108)
          have hg577 := (tf_gt (B := B) (n := nn) (p := p_260) (by omega)).2
          have hg578 := tq_ge (B := B) (n := nn) (p := p_260)
          have hg579 := (tf_gt (B := B) (n := nn) (p := p0) (by rw [slt_kd (by rw [hp0, hs]; decide)]; decide)).2
          have hg580 := (tf_gt (B := B) (n := nn) (p := p_410) (by omega)).2
          have hg581 := tq_ge (B := B) (n := nn) (p := p_410)
          have hg582 := tq_ge (B := B) (n := nn) (p := p_494)
          have hp1x := hp109
          have hO574 : ORD B nn k 6 (tq B nn (lnP B nn (k + 1))) := by
            unfold ORD
            rw [he571, vp263, vp413, ← hp0]
            exact ⟨by omega, by omega, fun z => absurd z (by decide), by omega, fun z => absurd z (by decide)⟩
          have hM583 : rwv w558 85 6 = lnC B nn 6 k + 1 := (rwv_of (hr555.but hb560 (by decide)) (by decide)).trans ((if_pos rfl).trans (by omega))
          have hM584 : ∀ s, s < 7 → s ≠ 6 → rwv w558 85 s = rwv w 85 s := fun s hs hn => (rwv_of (hr555.but hb560 (by decide)) hs).trans ((if_neg hn).trans ((rwv_of h85_547 hs).symm.trans (rwv_eq ((hF489.1 85 (by decide)).trans ((hF454.1 85 (by decide)).trans ((hF312.1 85 (by decide)).trans ((hF304.1 85 (by decide)).trans ((hF149.1 85 (by decide)).trans ((hF103.1 85 (by decide)).trans hj57)))))))))
          have hr585 : lnC B nn 6 k < 1 → ∀ t, t < 2 → XM w558 6 (lnC B nn 6 k) t = vln B nn (lnP B nn k) t := fun hlt t ht => by
            rcases (show t = 0 ∨ t = 1 by omega) with rfl | rfl
            · show rwv w558 86 (5 + 0) = _
              rw [show 5 + 0 = 5 by omega]
              exact ((rwv_eq (hb560.1 86 (by decide))).trans ((rwv_eq (hb556.1 86 (by decide))).trans ((rwv_eq (hF489.1 86 (by decide))).trans ((hp457 5 (by omega) (by omega)).trans (rwv_eq (hF312.1 86 (by decide))))))).trans ((hp306 (by omega)).trans (hv158.trans vl264.symm))
            · show rwv w558 86 (5 + 1) = _
              rw [show 5 + 1 = 6 by omega]
              exact ((rwv_eq (hb560.1 86 (by decide))).trans ((rwv_eq (hb556.1 86 (by decide))).trans (rwv_eq (hF489.1 86 (by decide))))).trans ((hp456 (by omega)).trans (hv321.trans vl414.symm))
          have ho586 : ∀ j, (j < 5 ∨ 7 ≤ j) → j < 140 → rwv w558 86 j = rwv w 86 j := fun j hj hl => ((rwv_eq (hb560.1 86 (by decide))).trans ((rwv_eq (hb556.1 86 (by decide))).trans ((rwv_eq (hF489.1 86 (by decide))).trans ((hp457 j (by omega) hl).trans ((rwv_eq (hF312.1 86 (by decide))).trans ((hp307 j (by omega) hl).trans ((rwv_eq (hF149.1 86 (by decide))).trans ((rwv_eq (hF103.1 86 (by decide))).trans (rwv_eq hj58)))))))))
          have ha587 : ∀ j, j < 20 → rwv w558 87 j = rwv w 87 j := fun j _ => rwv_eq ((hb560.1 87 (by decide)).trans ((hb556.1 87 (by decide)).trans ((hF489.1 87 (by decide)).trans ((hF454.1 87 (by decide)).trans ((hF312.1 87 (by decide)).trans ((hF304.1 87 (by decide)).trans ((hF149.1 87 (by decide)).trans ((hF103.1 87 (by decide)).trans hj59))))))))
          have hM588 := MSTok6 hS hs (by have z := hk545; omega) (by omega) hF573 hO574 hM583 hM584 hr585 ho586 ha587
          exact xg_e ⟨w558, ⟨rfl, rfl⟩, xMnv.up (S := [85, 82]) hI488 ((xFr.of (S := [85, 82]) hb556 (by decide)).tr (xFr.of (S := [85, 82]) hb560 (by decide))) (List.forall_mem_cons.mpr ⟨(show cpI 7 52 4294967295 (wget w558 85) from ⟨_, (hr555.but hb560 (by decide)), xrb (by omega) (hb548)⟩), List.forall_mem_cons.mpr ⟨(show cp82 (wget w558 82) from ⟨f82_499, f82_501, f82_503, f82_505, f82_507, f82_509, f82_511, f82_513, f82_515, f82_517 + 1, f82_519, f82_520, f82_521, f82_523, f82_525, f82_527, hk559, by omega, hb502, by omega, by omega, hb508, by omega, hb512, hb514, by omega, by omega, hb522, hb524, hb526, hb528, by omega⟩), fun _ h => absurd h List.not_mem_nil⟩⟩), (((((((hF50.tr (hF103.up (by decide))).tr (hF149.up (by decide))).tr (hF304.up (by decide))).tr (hF312.up (by decide))).tr (hF454.up (by decide))).tr (hF489.up (by decide))).tr ((xFr.of (S := [82, 83, 85, 86, 87]) hb556 (by decide)).tr (xFr.of (S := [82, 83, 85, 86, 87]) hb560 (by decide)))), ⟨Or.inr ⟨by rw [ln498], by rw [he571]; exact hT572, hM588⟩, ((((((((hj56.tr (K83.fr hF103 (by decide))).tr k8_153).tr (K83.fr hF304 (by decide))).tr k8_316).tr (K83.fr hF454 (by decide))).tr (K83.fr hF489 (by decide))).tr (K83.but hb556 (by decide))).tr (K83.but hb560 (by decide))), by omega⟩⟩
        · refine xg_t (xg_icT (u := f82_429) (v := 2) rfl xnm0 xnm0 (xj_neT hc476)) ?_
          refine xg_t (xg_blk (b := [(416, 1, 0, 0, 0, 0), (417, 3, 13, 140, 96, 183)]) rfl) ?_
          have lf589n : ¬ (tkd B nn p_410 = 3 ∧ B (tq B nn p_410) = 59) := by omega
          have lf589 : lnR B nn p0 = (false, p_410) := ln458.trans (lnS_n lf589n)
          refine xg_t (xg_aload (va := (2, 82)) rfl rfl) ?_
          have hk590 := ((fld_eq (j := 14) (hF454.1 82 (by decide))).trans k14_318)
          have hk591 := (hT_324.fr (hF454.1 82 (by decide))).1.2.2.2.1
          clear ht461 ht462 ht463 ht464 ht465 ht466 ht467 ht468 ht469 hf470 hf471 hf472 hf473 hf474 hmk475
          refine xg_cVv mX12_ends (vs := []) (rest := []) (cn1 := 0) (sl1 := 0) rfl (mEndsX (hI453) ((fld_eq (j := 10) (hF454.1 82 (by decide))).trans k10_323)) rfl (hF454.get (by decide) h82_449) rfl rfl rfl rfl rfl rfl (fun w592 hq593 => ?_)
          obtain ⟨hI594, hF595, hx596⟩ := hq593
          obtain ⟨hv597, hv598, hv599, hv600, hv601⟩ := hx596
          have hW602 : WRG w592 (tq B nn p_410) := ⟨hv597, hv598, hv599.trans hk591⟩
          have k14_603 := hv600.trans hk590
          refine xg_t (xg_blk (b := [(420, 1, 0, 0, 0, 0), (421, 3, 1, 12, 11, 17), (424, 1, 2, 1, 0, 0), (425, 1, 39, 0, 0, 0), (426, 1, 10, 0, 0, 0), (427, 1, 3, 1, 0, 0), (428, 1, 11, 0, 0, 0), (429, 1, 17, 0, 0, 0), (430, 1, 0, 0, 0, 0), (431, 1, 19, 0, 0, 0), (432, 3, 1, 12, 14, 212), (435, 1, 3, 1, 0, 0), (436, 1, 11, 0, 0, 0), (437, 3, 14, 12, 14, 212), (440, 1, 12, 0, 0, 0)]) rfl) ?_
          obtain ⟨f82_604, f82_606, f82_608, f82_610, f82_612, f82_614, f82_616, f82_618, f82_620, f82_622, f82_624, f82_625, f82_626, f82_628, f82_630, f82_632, h82_634, hb605, hb607, hb609, hb611, hb613, hb615, hb617, hb619, hb621, hb623, hb627, hb629, hb631, hb633, hb635⟩ := (hI594 82 (by decide) (by decide) : cp82 (wget w592 82))
          replace hb607 := xHid.of hb607
          replace hb613 := xHid.of hb613
          replace hb617 := xHid.of hb617
          replace hb619 := xHid.of hb619
          replace hb623 := xHid.of hb623
          replace hb627 := xHid.of hb627
          replace hb629 := xHid.of hb629
          replace hb631 := xHid.of hb631
          replace hb633 := xHid.of hb633
          have hf636 : fld w592 82 2 = f82_604 := fld_of h82_634
          have hf637 : fld w592 82 3 = f82_606 := fld_of h82_634
          have hf638 : fld w592 82 4 = f82_608 := fld_of h82_634
          have hf639 : fld w592 82 5 = f82_610 := fld_of h82_634
          have hf640 : fld w592 82 6 = f82_612 := fld_of h82_634
          have hf641 : fld w592 82 7 = f82_614 := fld_of h82_634
          have hf642 : fld w592 82 8 = f82_616 := fld_of h82_634
          have hf643 : fld w592 82 9 = f82_618 := fld_of h82_634
          have hf644 : fld w592 82 10 = f82_620 := fld_of h82_634
          have hf645 : fld w592 82 14 = f82_622 := fld_of h82_634
          have hk646 := k14_603
          have hl647 : f82_622 ≤ 500 := by omega
          have hk648 : WRG w592 (tq B nn p_410) := hW602
          refine xg_t (xg_aload (va := (2, 82)) rfl rfl) ?_
          refine xg_t (xg_getf (va := (2, 85)) h82_634 rfl) ?_
          refine xg_t (xg_iload (va := (0, 6)) rfl rfl) ?_
          refine xg_t (xg_dup2 rfl) ?_
          obtain ⟨g85_649, h85_650, hb651⟩ := (hI594 85 (by decide) (by decide) : cpI 7 52 4294967295 (wget w592 85))
          have h85_650 : xRow w592 85 7 52 g85_649 := h85_650
          refine xg_ialdB (n := 6) (B := 4294967295) h85_650 (hb651) xnm0 (by omega) (fun u652 hu653 he654 => ?_)
          have hK655 : u652 = u42 := (((rwv_of h85_650 (by decide)).trans he654).symm.trans (rwv_eq ((hF595.1 85 (by decide)).trans ((hF454.1 85 (by decide)).trans ((hF312.1 85 (by decide)).trans ((hF304.1 85 (by decide)).trans ((hF149.1 85 (by decide)).trans ((hF103.1 85 (by decide)).trans hj57)))))))).trans ((hm 6 (by decide)).trans hK45.symm)
          have hl656 : u652 ≤ 500 := by omega
          refine xg_t (xg_const) ?_
          refine xg_t (xg_iadd (u := u652) (v := 1) (z := u652 + 1) xnm0 xnm0 (by omega)) ?_
          refine xg_iastK (n := 6) (u := u652 + 1) h85_650 xnm0 xnm0 rfl (by omega) (fun w657 hr658 hb659 => ?_)
          refine xg_t (xg_aload (va := (2, 82)) rfl rfl) ?_
          refine xg_t (xg_dup rfl) ?_
          refine xg_t (xg_getf (va := (0, f82_622)) (hb659.get (by decide) h82_634) rfl) ?_
          have hn660 := id hb623
          unfold xHid at hn660
          refine xg_t (xg_const) ?_
          refine xg_t (xg_iadd (u := f82_622) (v := 1) (z := f82_622 + 1) xnm0 xnm0 (by omega)) ?_
          refine xg_putI (fl1 := [(2, 83), (2, 84), (0, f82_604), (0, f82_606), (0, f82_608), (0, f82_610), (0, f82_612), (0, f82_614), (0, f82_616), (0, f82_618), (0, f82_620), (2, 85), (2, 86), (2, 87), (0, f82_622 + 1), (2, 88), (2, 89), (2, 90), (2, 91), (2, 92), (2, 93), (2, 94), (4, f82_624), (4, f82_625), (0, f82_626), (2, 95), (2, 96), (2, 97), (2, 98), (2, 99), (2, 100), (2, 101), (2, 102), (0, f82_628), (2, 103), (2, 104), (2, 105), (2, 106), (2, 107), (2, 108), (2, 109), (0, f82_630), (0, f82_632), (2, 110), (2, 111), (2, 112), (2, 113)]) (hb659.get (by decide) h82_634) rfl rfl rfl (fun w661 hk662 hb663 => ?_)
          have hf664 : fld w661 82 2 = f82_604 := fld_of hk662
          have hf665 : fld w661 82 3 = f82_606 := fld_of hk662
          have hf666 : fld w661 82 4 = f82_608 := fld_of hk662
          have hf667 : fld w661 82 5 = f82_610 := fld_of hk662
          have hf668 : fld w661 82 6 = f82_612 := fld_of hk662
          have hf669 : fld w661 82 7 = f82_614 := fld_of hk662
          have hf670 : fld w661 82 8 = f82_616 := fld_of hk662
          have hf671 : fld w661 82 9 = f82_618 := fld_of hk662
          have hf672 : fld w661 82 10 = f82_620 := fld_of hk662
          have hf673 : fld w661 82 14 = f82_622 + 1 := fld_of hk662
          exact xg_e ⟨w661, ⟨rfl, rfl⟩, xMnv.up (S := [85, 82]) hI594 ((xFr.of (S := [85, 82]) hb659 (by decide)).tr (xFr.of (S := [85, 82]) hb663 (by decide))) (List.forall_mem_cons.mpr ⟨(show cpI 7 52 4294967295 (wget w661 85) from ⟨_, (hr658.but hb663 (by decide)), xrb (by omega) (hb651)⟩), List.forall_mem_cons.mpr ⟨(show cp82 (wget w661 82) from ⟨f82_604, f82_606, f82_608, f82_610, f82_612, f82_614, f82_616, f82_618, f82_620, f82_622 + 1, f82_624, f82_625, f82_626, f82_628, f82_630, f82_632, hk662, by omega, hb607, by omega, by omega, hb613, by omega, hb617, hb619, by omega, by omega, hb627, hb629, hb631, hb633, by omega⟩), fun _ h => absurd h List.not_mem_nil⟩⟩), (((((((hF50.tr (hF103.up (by decide))).tr (hF149.up (by decide))).tr (hF304.up (by decide))).tr (hF312.up (by decide))).tr (hF454.up (by decide))).tr (hF595.up (by decide))).tr ((xFr.of (S := [82, 83, 85, 86, 87]) hb659 (by decide)).tr (xFr.of (S := [82, 83, 85, 86, 87]) hb663 (by decide)))), ⟨Or.inl ⟨p_410, lf589, ⟨by have z := hk648.1; omega, (rwv_eq (j := 16) ((hb663.1 83 (by decide)).trans (hb659.1 83 (by decide)))).trans hk648.2.1, (rwv_eq (j := 17) ((hb663.1 83 (by decide)).trans (hb659.1 83 (by decide)))).trans hk648.2.2⟩⟩, ((((((((hj56.tr (K83.fr hF103 (by decide))).tr k8_153).tr (K83.fr hF304 (by decide))).tr k8_316).tr (K83.fr hF454 (by decide))).tr hv601).tr (K83.but hb659 (by decide))).tr (K83.but hb663 (by decide))), by omega⟩⟩
  refine xg_t (xg_iload (va := (0, u42)) rfl rfl) ?_
  refine xg_t (xg_iload (va := (0, 6)) rfl rfl) ?_
  refine xg_t (xg_cSr mX12_mostOf (vs := [(0, 6)]) (rest := [(0, u42)]) (rs := [(0, 1), (0, u42)]) (cn1 := 0) (sl1 := 0) rfl (mMostR6) rfl rfl rfl rfl rfl rfl rfl rfl) ?_
  by_cases hc674 : u42 < 1
  · refine xg_t (xg_icT (u := u42) (v := 1) rfl xnm0 xnm0 (xj_ltT hc674 (by omega))) ?_
    refine xg_t (xg_drop (l1 := [(0, (2, 82)), (1, (0, 6)), (2, (0, at_)), (3, (0, u42))]) (List.forall_mem_cons.mpr ⟨List.mem_cons_of_mem _ (List.mem_cons_of_mem _ (List.mem_cons_of_mem _ (List.mem_cons_self))), List.forall_mem_cons.mpr ⟨List.mem_cons_of_mem _ (List.mem_cons_of_mem _ (List.mem_cons_self)), List.forall_mem_cons.mpr ⟨List.mem_cons_of_mem _ (List.mem_cons_self), List.forall_mem_cons.mpr ⟨List.mem_cons_self, fun _ h => absurd h List.not_mem_nil⟩⟩⟩⟩)) ?_
    have he675 : flA B nn k = mf1 B nn k 6 (flA B nn k) := by unfold mf1; rw [decide_eq_false (show ¬ lim 6 ≤ lnC B nn 6 k from (show ¬ 1 ≤ lnC B nn 6 k by omega))]; rfl
    exact jn47 w (hI) (xFr.rf) (⟨by rw [← he675]; exact zF, z10, hT, z14, K83.rf, rfl, rfl, rfl⟩)
  · refine xg_t (xg_icF (u := u42) (v := 1) rfl xnm0 xnm0 (xj_ltF (by omega) (by omega))) ?_
    refine xg_t (xg_aload (va := (2, 82)) rfl rfl) ?_
    refine xg_t (xg_const) ?_
    refine xg_t (xg_iload (va := (0, at_)) rfl rfl) ?_
    refine xg_cVv mX12_also (vs := [(0, 3), (0, at_)]) (rest := []) (cn1 := 0) (sl1 := 0) rfl (mAlsoX (hI) (by omega) (by omega) (by omega) z10 zF) rfl h82_31 rfl rfl rfl rfl rfl rfl (fun w676 hq677 => ?_)
    obtain ⟨hI678, hF679, hx680⟩ := hq677
    obtain ⟨hv681, hv682⟩ := hx680
    refine xg_t (xg_drop (l1 := [(0, (2, 82)), (1, (0, 6)), (2, (0, at_)), (3, (0, u42))]) (List.forall_mem_cons.mpr ⟨List.mem_cons_of_mem _ (List.mem_cons_of_mem _ (List.mem_cons_of_mem _ (List.mem_cons_self))), List.forall_mem_cons.mpr ⟨List.mem_cons_of_mem _ (List.mem_cons_of_mem _ (List.mem_cons_self)), List.forall_mem_cons.mpr ⟨List.mem_cons_of_mem _ (List.mem_cons_self), List.forall_mem_cons.mpr ⟨List.mem_cons_self, fun _ h => absurd h List.not_mem_nil⟩⟩⟩⟩)) ?_
    have he683 : alo (flA B nn k) 3 at_ = mf1 B nn k 6 (flA B nn k) := by unfold mf1; rw [decide_eq_true (show lim 6 ≤ lnC B nn 6 k from (show 1 ≤ lnC B nn 6 k by omega)), hat, hp0]; rfl
    exact jn47 w676 (hI678) ((hF679.up (by decide))) (⟨by rw [← he683]; exact hv681, ((fld_eq (j := 10) (hF679.1 82 (by decide))).trans z10), (hT.fr (hF679.1 82 (by decide))), ((fld_eq (j := 14) (hF679.1 82 (by decide))).trans z14), hv682, (hF679.1 85 (by decide)), (hF679.1 86 (by decide)), (hF679.1 87 (by decide))⟩)
end XFME
