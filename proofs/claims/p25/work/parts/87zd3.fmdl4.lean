/-! the model: a line of each sort, more -/
section XFME
variable {d : Nat} {w : List (List xE)} {bd : List (Nat × Nat)} {fc : List (Nat × Nat × Bool)} {rr : Nat × Nat}
set_option maxHeartbeats 60000000 in
theorem mALnX2 {B : Nat → Nat} {nn k p0 : Nat} {at_ : Nat} (hI : xMnv w) (hB : bsm w B nn) (hp0 : p0 = lnP B nn k) (hT : TKM 0 B nn w p0) (hS : MST B nn w k) (hk5 : k ≤ 500) (hs : slt B nn (lnP B nn k) = 2) (hat : at_ = tq B nn p0) : xTo (d + 7) mX12_aLine (43, [], [(2, (0, at_)), (1, (0, 2)), (0, (2, 82))], [], (w, bd, fc, 0, 0, rr)) (fun φ => ∃ w', xEnd 0 [] (w', bd, fc, 0, 0, rr) φ ∧ xMnv w' ∧ xFr [82, 83, 85, 86, 87] w w' ∧ (((∃ q, lnR B nn p0 = (false, q) ∧ WRG w' (tq B nn q)) ∨ ((lnR B nn p0).1 = true ∧ TKM 0 B nn w' (lnP B nn (k + 1)) ∧ MST B nn w' (k + 1))) ∧ K83 w w' ∧ fld w 82 14 ≤ fld w' 82 14)) := by
  refine xoCh82 (hI 82 (by decide) (by decide) : cp82 (wget w 82)) (fun f82_1 f82_3 f82_5 f82_7 f82_9 f82_11 f82_13 f82_15 f82_17 f82_19 f82_21 f82_22 f82_23 f82_25 f82_27 f82_29 h82_31 hb2 hb4 hb6 hb8 hb10 hb12 hb14 hb16 hb18 hb20 hb24 hb26 hb28 hb30 hb32 => ?_)
  refine xoI (hI 85 (by decide) (by decide) : cpI 7 52 4294967295 (wget w 85)) (fun g85_33 h85_34 hb35 => ?_)
  refine xoI (hI 86 (by decide) (by decide) : cpI 140 53 4294967295 (wget w 86)) (fun g86_36 h86_37 hb38 => ?_)
  refine xoI (hI 87 (by decide) (by decide) : cpI 20 54 4294967295 (wget w 87)) (fun g87_39 h87_40 hb41 => ?_)
  obtain ⟨⟨z10, z14, zF, zp⟩, hm, hR⟩ := id hS
  have hkc := lnC_k (B := B) (n := nn) (s := 2) (k := k)
  have hq0 : at_ ≤ 500 := by
    have z1 := tf_gt (B := B) (n := nn) (p := p0) (by rw [slt_kd (by rw [hp0, hs]; decide)]; decide)
    have z2 := hB.1
    omega
  refine xg_t (xg_blk (b := [(43, 1, 0, 0, 0, 0), (44, 3, 1, 12, 11, 17), (47, 1, 2, 1, 0, 0), (48, 1, 10, 0, 0, 0), (49, 1, 15, 3, 0, 0), (50, 1, 2, 3, 0, 0), (51, 1, 2, 1, 0, 0), (52, 3, 13, 194, 98, 193), (55, 3, 6, 64, 2, 0), (58, 1, 0, 0, 0, 0), (59, 1, 3, 3, 0, 0), (60, 1, 2, 2, 0, 0), (61, 3, 13, 115, 96, 186)]) rfl) ?_
  refine xg_t (xg_aload (va := (2, 82)) rfl rfl) ?_
  refine xg_t (xg_getf (va := (2, 85)) h82_31 rfl) ?_
  refine xg_t (xg_iload (va := (0, 2)) rfl rfl) ?_
  refine xg_ialdB (n := 2) (B := 4294967295) h85_34 (hb35) xnm0 (by omega) (fun u42 hu43 he44 => ?_)
  have hK45 : u42 = lnC B nn 2 k := (((rwv_of h85_34 (by decide)).trans he44).symm).trans (hm 2 (by decide))
  have hl46 : u42 ≤ 500 := by omega
  refine xg_t (xg_istore (l1 := [(2, (0, at_)), (1, (0, 2)), (0, (2, 82))]) rfl rfl rfl) ?_
  have jn47 : ∀ (w48 : List (List xE)), xMnv w48 → xFr [82, 83, 85, 86, 87] w w48 → (FP w48 (mf1 B nn k 2 (flA B nn k)) ∧ fld w48 82 10 = 0 ∧ TKM 0 B nn w48 p0 ∧ fld w48 82 14 = k ∧ K83 w w48 ∧ wget w48 85 = wget w 85 ∧ wget w48 86 = wget w 86 ∧ wget w48 87 = wget w 87) → xTo (d + 7) mX12_aLine (64, [], [(0, (2, 82)), (1, (0, 2)), (2, (0, at_)), (3, (0, u42))], [], (w48, bd, fc, 0, 0, rr)) (fun φ => ∃ w', xEnd 0 [] (w', bd, fc, 0, 0, rr) φ ∧ xMnv w' ∧ xFr [82, 83, 85, 86, 87] w w' ∧ (((∃ q, lnR B nn p0 = (false, q) ∧ WRG w' (tq B nn q)) ∨ ((lnR B nn p0).1 = true ∧ TKM 0 B nn w' (lnP B nn (k + 1)) ∧ MST B nn w' (k + 1))) ∧ K83 w w' ∧ fld w 82 14 ≤ fld w' 82 14)) := by
    intro w48 hI49 hF50 he51
    obtain ⟨hj52, hj53, hj54, hj55, hj56, hj57, hj58, hj59⟩ := he51
    refine xg_t (xg_blk (b := [(64, 1, 0, 0, 0, 0), (65, 3, 13, 110, 96, 190), (68, 1, 2, 1, 0, 0), (69, 39, 33, 362, 0, 9)]) rfl) ?_
    refine xg_t (xg_aload (va := (2, 82)) rfl rfl) ?_
    obtain ⟨⟨ht60, ht61, ht62, ht63, ht64, ht65⟩, -⟩ := id hj54
    have hk66 := hj53
    have hk67 := hj55
    refine xoCh82 (hI49 82 (by decide) (by decide) : cp82 (wget w48 82)) (fun f82_68 f82_70 f82_72 f82_74 f82_76 f82_78 f82_80 f82_82 f82_84 f82_86 f82_88 f82_89 f82_90 f82_92 f82_94 f82_96 h82_98 hb69 hb71 hb73 hb75 hb77 hb79 hb81 hb83 hb85 hb87 hb91 hb93 hb95 hb97 hb99 => ?_)
    refine xg_cVv mX12_advance (vs := []) (rest := []) (cn1 := 0) (sl1 := 0) rfl (mAdvX (hI49) (hB.fr (fun j h4 h9 => hj56 j (by omega) (by omega) (by omega))) ht60 ht61 (by rw [ht62]; exact tf_le ht65)) rfl h82_98 rfl rfl rfl rfl rfl rfl (fun w100 hq101 => ?_)
    obtain ⟨hI102, hF103, hx104⟩ := hq101
    obtain ⟨hz105, hz106, hz107⟩ := hx104
    rw [ht62] at hz105
    clear ht60 ht61 ht62 ht63 ht64 ht65
    obtain ⟨p_108, hp109⟩ : ∃ x, x = tf B nn p0 := ⟨_, rfl⟩
    rw [← hp109] at hz105
    have k10_110 := hz106.trans hk66
    have k14_111 := hz107.trans hk67
    clear hz106 hz107 hk66 hk67
    have ln112 : lnR B nn p0 = lnN B nn 2 2 p_108 := by rw [hp109]; exact lnR_go (by rw [hp0]; exact hs) (by decide)
    refine xg_t (xg_iload (va := (0, 2)) rfl rfl) ?_
    refine xg_t (xg_swt (ks := [(0, 108), (1, 116), (2, 180), (3, 221), (4, 273), (5, 326)]) (u := 2) (z := 180) rfl rfl rfl xnm0 (xsw_n (by omega) (xsw_n (by omega) (xsw_y rfl)))) ?_
    refine xg_t (xg_blk (b := [(180, 1, 3, 0, 0, 0), (181, 2, 15, 4, 0, 0)]) rfl) ?_
    refine xg_t (xg_const) ?_
    refine xg_t (xg_istore (l1 := [(0, (2, 82)), (1, (0, 2)), (2, (0, at_)), (3, (0, u42))]) rfl rfl rfl) ?_
    refine xg_t (xg_blk (b := [(183, 2, 2, 4, 0, 0), (185, 1, 3, 2, 0, 0), (186, 3, 6, 218, 3, 0), (189, 1, 0, 0, 0, 0), (190, 1, 2, 1, 0, 0), (191, 1, 2, 3, 0, 0), (192, 2, 4, 60, 0, 0), (194, 1, 3, 2, 0, 0), (195, 1, 2, 3, 0, 0), (196, 1, 16, 0, 0, 0), (197, 1, 11, 0, 0, 0), (198, 2, 2, 4, 0, 0), (200, 1, 11, 0, 0, 0), (201, 1, 0, 0, 0, 0), (202, 1, 3, 1, 0, 0), (203, 3, 5, 9999, 0, 0), (206, 3, 13, 199, 96, 196), (209, 3, 13, 211, 96, 200), (212, 3, 9, 4, 1, 0), (215, 3, 8, 183, 0, 0)]) rfl) ?_
    refine xg_t (xg_iload (va := (0, 0)) rfl rfl) ?_
    refine xg_t (xg_const) ?_
    refine xg_t (xg_icF (u := 0) (v := 2) rfl xnm0 xnm0 (by decide)) ?_
    refine xg_t (xg_aload (va := (2, 82)) rfl rfl) ?_
    refine xg_t (xg_iload (va := (0, 2)) rfl rfl) ?_
    refine xg_t (xg_iload (va := (0, u42)) rfl rfl) ?_
    refine xg_t (xg_bip) ?_
    refine xg_t (xg_const) ?_
    refine xg_t (xg_iload (va := (0, u42)) rfl rfl) ?_
    refine xg_t (xg_imul (u := 2) (v := u42) (z := 2 * u42) xnm0 xnm0 (by omega)) ?_
    refine xg_t (xg_iadd (u := 60) (v := 2 * u42) (z := 60 + (2 * u42)) xnm0 xnm0 (by omega)) ?_
    refine xg_t (xg_iload (va := (0, 0)) rfl rfl) ?_
    refine xg_t (xg_iadd (u := 60 + (2 * u42)) (v := 0) (z := (60 + (2 * u42)) + 0) xnm0 xnm0 (by omega)) ?_
    refine xg_t (xg_aload (va := (2, 82)) rfl rfl) ?_
    refine xg_t (xg_const) ?_
    refine xg_t (xg_sip) ?_
    have hk113 := k14_111
    refine xoCh82 (hI102 82 (by decide) (by decide) : cp82 (wget w100 82)) (fun f82_114 f82_116 f82_118 f82_120 f82_122 f82_124 f82_126 f82_128 f82_130 f82_132 f82_134 f82_135 f82_136 f82_138 f82_140 f82_142 h82_144 hb115 hb117 hb119 hb121 hb123 hb125 hb127 hb129 hb131 hb133 hb137 hb139 hb141 hb143 hb145 => ?_)
    refine xg_cVi mX12_numbered (vs := [(0, 1), (0, 9999)]) (rest := [(0, (60 + (2 * u42)) + 0), (0, u42), (0, 2), (2, 82)]) (cn1 := 0) (sl1 := 0) rfl (mNumX (ir := 0) (hI102) (by omega) (by omega) (hB.fr (fun j h4 h9 => (hj56.tr (K83.fr hF103 (by decide))) j (by omega) (by omega) (by omega))) k10_110 hz105 (hj52.k83 (rwv_eq (hF103.1 83 (by decide))) (rwv_eq (hF103.1 83 (by decide))))) rfl h82_144 rfl rfl rfl rfl rfl rfl (fun n150 w146 hq147 => ?_)
    obtain ⟨hn151, hI148, hF149⟩ := hq147
    obtain ⟨hx154, h14_152, k8_153⟩ := hn151
    have k14_155 := h14_152.trans hk113
    rcases hx154 with ⟨rfl, hk156, hW157⟩ | ⟨hv158, h9_159, hk156, k10_160, hT_161, hF_162⟩
    · have lf163 : lnR B nn p0 = (false, p_108) := ln112.trans (lnN_n (k := 1) hk156)
      refine xoCh82 (hI148 82 (by decide) (by decide) : cp82 (wget w146 82)) (fun f82_164 f82_166 f82_168 f82_170 f82_172 f82_174 f82_176 f82_178 f82_180 f82_182 f82_184 f82_185 f82_186 f82_188 f82_190 f82_192 h82_194 hb165 hb167 hb169 hb171 hb173 hb175 hb177 hb179 hb181 hb183 hb187 hb189 hb191 hb193 hb195 => ?_)
      refine xg_cVv mX12_puts (vs := [(0, 2), (0, u42), (0, (60 + (2 * u42)) + 0), (0, 0)]) (rest := []) (cn1 := 0) (sl1 := 0) rfl (mPuts2 (hI148) (by omega) (by omega) (by omega) (fun _ => by omega)) rfl h82_194 rfl rfl rfl rfl rfl rfl (fun w196 hq197 => ?_)
      obtain ⟨hI198, hF199, hx200⟩ := hq197
      obtain ⟨hp201, hp202⟩ := hx200
      refine xg_t (xg_iinc (u := 0) (z := 1) (l1 := [(0, (2, 82)), (1, (0, 2)), (2, (0, at_)), (3, (0, u42))]) rfl rfl (by decide) rfl) ?_
      refine xg_t (xg_goto) ?_
      refine xg_t (xg_blk (b := [(183, 2, 2, 4, 0, 0), (185, 1, 3, 2, 0, 0), (186, 3, 6, 218, 3, 0), (189, 1, 0, 0, 0, 0), (190, 1, 2, 1, 0, 0), (191, 1, 2, 3, 0, 0), (192, 2, 4, 60, 0, 0), (194, 1, 3, 2, 0, 0), (195, 1, 2, 3, 0, 0), (196, 1, 16, 0, 0, 0), (197, 1, 11, 0, 0, 0), (198, 2, 2, 4, 0, 0), (200, 1, 11, 0, 0, 0), (201, 1, 0, 0, 0, 0), (202, 1, 3, 1, 0, 0), (203, 3, 5, 9999, 0, 0), (206, 3, 13, 199, 96, 196), (209, 3, 13, 211, 96, 200), (212, 3, 9, 4, 1, 0), (215, 3, 8, 183, 0, 0)]) rfl) ?_
      refine xg_t (xg_iload (va := (0, 1)) rfl rfl) ?_
      refine xg_t (xg_const) ?_
      refine xg_t (xg_icF (u := 1) (v := 2) rfl xnm0 xnm0 (by decide)) ?_
      refine xg_t (xg_aload (va := (2, 82)) rfl rfl) ?_
      refine xg_t (xg_iload (va := (0, 2)) rfl rfl) ?_
      refine xg_t (xg_iload (va := (0, u42)) rfl rfl) ?_
      refine xg_t (xg_bip) ?_
      refine xg_t (xg_const) ?_
      refine xg_t (xg_iload (va := (0, u42)) rfl rfl) ?_
      refine xg_t (xg_imul (u := 2) (v := u42) (z := 2 * u42) xnm0 xnm0 (by omega)) ?_
      refine xg_t (xg_iadd (u := 60) (v := 2 * u42) (z := 60 + (2 * u42)) xnm0 xnm0 (by omega)) ?_
      refine xg_t (xg_iload (va := (0, 1)) rfl rfl) ?_
      refine xg_t (xg_iadd (u := 60 + (2 * u42)) (v := 1) (z := (60 + (2 * u42)) + 1) xnm0 xnm0 (by omega)) ?_
      refine xg_t (xg_aload (va := (2, 82)) rfl rfl) ?_
      refine xg_t (xg_const) ?_
      refine xg_t (xg_sip) ?_
      refine xg_cVi mX12_numbered (vs := [(0, 1), (0, 9999)]) (rest := [(0, (60 + (2 * u42)) + 1), (0, u42), (0, 2), (2, 82)]) (cn1 := 0) (sl1 := 0) rfl (mNumW (hI198) (by omega) (by omega) (by have q := hW157.1; have q2 := fld_eq (j := 10) (hF199.1 82 (by decide)); omega)) rfl (hF199.get (by decide) h82_194) rfl rfl rfl rfl rfl rfl (fun n207 w203 hq204 => ?_)
      obtain ⟨hn208, hI205, hF206⟩ := hq204
      obtain rfl := hn208
      refine xg_cVv mX12_puts (vs := [(0, 2), (0, u42), (0, (60 + (2 * u42)) + 1), (0, 0)]) (rest := []) (cn1 := 0) (sl1 := 0) rfl (mPuts2 (hI205) (by omega) (by omega) (by omega) (fun _ => by omega)) rfl (hF206.get (by decide) (hF199.get (by decide) h82_194)) rfl rfl rfl rfl rfl rfl (fun w209 hq210 => ?_)
      obtain ⟨hI211, hF212, hx213⟩ := hq210
      obtain ⟨hp214, hp215⟩ := hx213
      refine xg_t (xg_iinc (u := 1) (z := 2) (l1 := [(0, (2, 82)), (1, (0, 2)), (2, (0, at_)), (3, (0, u42))]) rfl rfl (by decide) rfl) ?_
      refine xg_t (xg_goto) ?_
      refine xg_t (xg_blk (b := [(183, 2, 2, 4, 0, 0), (185, 1, 3, 2, 0, 0), (186, 3, 6, 218, 3, 0), (189, 1, 0, 0, 0, 0), (190, 1, 2, 1, 0, 0), (191, 1, 2, 3, 0, 0), (192, 2, 4, 60, 0, 0), (194, 1, 3, 2, 0, 0), (195, 1, 2, 3, 0, 0), (196, 1, 16, 0, 0, 0), (197, 1, 11, 0, 0, 0), (198, 2, 2, 4, 0, 0), (200, 1, 11, 0, 0, 0), (201, 1, 0, 0, 0, 0), (202, 1, 3, 1, 0, 0), (203, 3, 5, 9999, 0, 0), (206, 3, 13, 199, 96, 196), (209, 3, 13, 211, 96, 200), (212, 3, 9, 4, 1, 0), (215, 3, 8, 183, 0, 0)]) rfl) ?_
      refine xg_t (xg_iload (va := (0, 2)) rfl rfl) ?_
      refine xg_t (xg_const) ?_
      refine xg_t (xg_icT (u := 2) (v := 2) rfl xnm0 xnm0 (by decide)) ?_
      refine xg_t (xg_blk (b := [(218, 3, 8, 394, 0, 0)]) rfl) ?_
      refine xg_t (xg_goto) ?_
      refine xg_t (xg_blk (b := [(394, 1, 0, 0, 0, 0), (395, 3, 1, 12, 10, 180), (398, 3, 7, 416, 1, 0), (401, 1, 0, 0, 0, 0), (402, 3, 1, 12, 7, 151), (405, 1, 3, 2, 0, 0), (406, 3, 6, 416, 1, 0), (409, 1, 0, 0, 0, 0), (410, 3, 13, 110, 96, 190), (413, 3, 8, 420, 0, 0)]) rfl) ?_
      refine xg_t (xg_aload (va := (2, 82)) rfl rfl) ?_
      refine xg_t (xg_getf (va := (0, f82_180)) (hF212.get (by decide) (hF206.get (by decide) (hF199.get (by decide) h82_194))) rfl) ?_
      have hf216 : fld w209 82 10 = f82_180 := fld_of (hF212.get (by decide) (hF206.get (by decide) (hF199.get (by decide) h82_194)))
      have hk217 : fld w209 82 10 ≠ 0 := (by have q := hW157.1; have q2 := fld_eq (j := 10) ((hF212.1 82 (by decide)).trans ((hF206.1 82 (by decide)).trans (hF199.1 82 (by decide)))); omega)
      refine xg_t (xg_ifT (u := f82_180) rfl xnm0 (xj_neT (by omega))) ?_
      refine xg_t (xg_blk (b := [(416, 1, 0, 0, 0, 0), (417, 3, 13, 140, 96, 183)]) rfl) ?_
      refine xg_t (xg_aload (va := (2, 82)) rfl rfl) ?_
      refine xg_cVv mX12_ends (vs := []) (rest := []) (cn1 := 0) (sl1 := 0) rfl (mEndsW (hI211) (by have q := hW157.1; have q2 := fld_eq (j := 10) ((hF212.1 82 (by decide)).trans ((hF206.1 82 (by decide)).trans (hF199.1 82 (by decide)))); omega)) rfl (hF212.get (by decide) (hF206.get (by decide) (hF199.get (by decide) h82_194))) rfl rfl rfl rfl rfl rfl (fun w218 hq219 => ?_)
      obtain ⟨hI220, hF221⟩ := hq219
      refine xg_t (xg_blk (b := [(420, 1, 0, 0, 0, 0), (421, 3, 1, 12, 11, 17), (424, 1, 2, 1, 0, 0), (425, 1, 39, 0, 0, 0), (426, 1, 10, 0, 0, 0), (427, 1, 3, 1, 0, 0), (428, 1, 11, 0, 0, 0), (429, 1, 17, 0, 0, 0), (430, 1, 0, 0, 0, 0), (431, 1, 19, 0, 0, 0), (432, 3, 1, 12, 14, 212), (435, 1, 3, 1, 0, 0), (436, 1, 11, 0, 0, 0), (437, 3, 14, 12, 14, 212), (440, 1, 12, 0, 0, 0)]) rfl) ?_
      have hf222 : fld w218 82 2 = f82_164 := fld_of (hF221.get (by decide) (hF212.get (by decide) (hF206.get (by decide) (hF199.get (by decide) h82_194))))
      have hf223 : fld w218 82 3 = f82_166 := fld_of (hF221.get (by decide) (hF212.get (by decide) (hF206.get (by decide) (hF199.get (by decide) h82_194))))
      have hf224 : fld w218 82 4 = f82_168 := fld_of (hF221.get (by decide) (hF212.get (by decide) (hF206.get (by decide) (hF199.get (by decide) h82_194))))
      have hf225 : fld w218 82 5 = f82_170 := fld_of (hF221.get (by decide) (hF212.get (by decide) (hF206.get (by decide) (hF199.get (by decide) h82_194))))
      have hf226 : fld w218 82 6 = f82_172 := fld_of (hF221.get (by decide) (hF212.get (by decide) (hF206.get (by decide) (hF199.get (by decide) h82_194))))
      have hf227 : fld w218 82 7 = f82_174 := fld_of (hF221.get (by decide) (hF212.get (by decide) (hF206.get (by decide) (hF199.get (by decide) h82_194))))
      have hf228 : fld w218 82 8 = f82_176 := fld_of (hF221.get (by decide) (hF212.get (by decide) (hF206.get (by decide) (hF199.get (by decide) h82_194))))
      have hf229 : fld w218 82 9 = f82_178 := fld_of (hF221.get (by decide) (hF212.get (by decide) (hF206.get (by decide) (hF199.get (by decide) h82_194))))
      have hf230 : fld w218 82 10 = f82_180 := fld_of (hF221.get (by decide) (hF212.get (by decide) (hF206.get (by decide) (hF199.get (by decide) h82_194))))
      have hf231 : fld w218 82 14 = f82_182 := fld_of (hF221.get (by decide) (hF212.get (by decide) (hF206.get (by decide) (hF199.get (by decide) h82_194))))
      have hk232 := ((fld_eq (j := 14) ((hF221.1 82 (by decide)).trans ((hF212.1 82 (by decide)).trans ((hF206.1 82 (by decide)).trans (hF199.1 82 (by decide)))))).trans k14_155)
      have hl233 : f82_182 ≤ 500 := by omega
      have hk234 : WRG w218 (tq B nn p_108) := ⟨(fld_eq (j := 10) ((hF221.1 82 (by decide)).trans ((hF212.1 82 (by decide)).trans ((hF206.1 82 (by decide)).trans (hF199.1 82 (by decide)))))).trans hW157.1, (rwv_eq (j := 16) ((hF221.1 83 (by decide)).trans ((hF212.1 83 (by decide)).trans ((hF206.1 83 (by decide)).trans (hF199.1 83 (by decide)))))).trans hW157.2.1, (rwv_eq (j := 17) ((hF221.1 83 (by decide)).trans ((hF212.1 83 (by decide)).trans ((hF206.1 83 (by decide)).trans (hF199.1 83 (by decide)))))).trans hW157.2.2⟩
      refine xg_t (xg_aload (va := (2, 82)) rfl rfl) ?_
      refine xg_t (xg_getf (va := (2, 85)) (hF221.get (by decide) (hF212.get (by decide) (hF206.get (by decide) (hF199.get (by decide) h82_194)))) rfl) ?_
      refine xg_t (xg_iload (va := (0, 2)) rfl rfl) ?_
      refine xg_t (xg_dup2 rfl) ?_
      refine xoI (hI220 85 (by decide) (by decide) : cpI 7 52 4294967295 (wget w218 85)) (fun g85_235 h85_236 hb237 => ?_)
      refine xg_ialdB (n := 2) (B := 4294967295) h85_236 (hb237) xnm0 (by omega) (fun u238 hu239 he240 => ?_)
      have hK241 : u238 = u42 := (((rwv_of h85_236 (by decide)).trans he240).symm.trans (rwv_eq ((hF221.1 85 (by decide)).trans ((hF212.1 85 (by decide)).trans ((hF206.1 85 (by decide)).trans ((hF199.1 85 (by decide)).trans ((hF149.1 85 (by decide)).trans ((hF103.1 85 (by decide)).trans hj57)))))))).trans ((hm 2 (by decide)).trans hK45.symm)
      have hl242 : u238 ≤ 500 := by omega
      refine xg_t (xg_const) ?_
      refine xg_t (xg_iadd (u := u238) (v := 1) (z := u238 + 1) xnm0 xnm0 (by omega)) ?_
      refine xg_iastK (n := 2) (u := u238 + 1) h85_236 xnm0 xnm0 rfl (by omega) (fun w243 hr244 hb245 => ?_)
      refine xg_t (xg_aload (va := (2, 82)) rfl rfl) ?_
      refine xg_t (xg_dup rfl) ?_
      refine xg_t (xg_getf (va := (0, f82_182)) (hb245.get (by decide) (hF221.get (by decide) (hF212.get (by decide) (hF206.get (by decide) (hF199.get (by decide) h82_194))))) rfl) ?_
      have hn246 := id hb183
      unfold xHid at hn246
      refine xg_t (xg_const) ?_
      refine xg_t (xg_iadd (u := f82_182) (v := 1) (z := f82_182 + 1) xnm0 xnm0 (by omega)) ?_
      refine xg_putI (fl1 := [(2, 83), (2, 84), (0, f82_164), (0, f82_166), (0, f82_168), (0, f82_170), (0, f82_172), (0, f82_174), (0, f82_176), (0, f82_178), (0, f82_180), (2, 85), (2, 86), (2, 87), (0, f82_182 + 1), (2, 88), (2, 89), (2, 90), (2, 91), (2, 92), (2, 93), (2, 94), (4, f82_184), (4, f82_185), (0, f82_186), (2, 95), (2, 96), (2, 97), (2, 98), (2, 99), (2, 100), (2, 101), (2, 102), (0, f82_188), (2, 103), (2, 104), (2, 105), (2, 106), (2, 107), (2, 108), (2, 109), (0, f82_190), (0, f82_192), (2, 110), (2, 111), (2, 112), (2, 113)]) (hb245.get (by decide) (hF221.get (by decide) (hF212.get (by decide) (hF206.get (by decide) (hF199.get (by decide) h82_194))))) rfl rfl rfl (fun w247 hk248 hb249 => ?_)
      have hf250 : fld w247 82 2 = f82_164 := fld_of hk248
      have hf251 : fld w247 82 3 = f82_166 := fld_of hk248
      have hf252 : fld w247 82 4 = f82_168 := fld_of hk248
      have hf253 : fld w247 82 5 = f82_170 := fld_of hk248
      have hf254 : fld w247 82 6 = f82_172 := fld_of hk248
      have hf255 : fld w247 82 7 = f82_174 := fld_of hk248
      have hf256 : fld w247 82 8 = f82_176 := fld_of hk248
      have hf257 : fld w247 82 9 = f82_178 := fld_of hk248
      have hf258 : fld w247 82 10 = f82_180 := fld_of hk248
      have hf259 : fld w247 82 14 = f82_182 + 1 := fld_of hk248
      exact xg_e ⟨w247, ⟨rfl, rfl⟩, xMnv.up (S := [85, 82]) hI220 ((xFr.of (S := [85, 82]) hb245 (by decide)).tr (xFr.of (S := [85, 82]) hb249 (by decide))) (List.forall_mem_cons.mpr ⟨(show cpI 7 52 4294967295 (wget w247 85) from ⟨_, (hr244.but hb249 (by decide)), xrb (by omega) (hb237)⟩), List.forall_mem_cons.mpr ⟨(show cp82 (wget w247 82) from ⟨f82_164, f82_166, f82_168, f82_170, f82_172, f82_174, f82_176, f82_178, f82_180, f82_182 + 1, f82_184, f82_185, f82_186, f82_188, f82_190, f82_192, hk248, by omega, hb167, by omega, by omega, hb173, by omega, hb177, hb179, by omega, by omega, hb187, hb189, hb191, hb193, by omega⟩), fun _ h => absurd h List.not_mem_nil⟩⟩), (((((((hF50.tr (hF103.up (by decide))).tr (hF149.up (by decide))).tr (hF199.up (by decide))).tr (hF206.up (by decide))).tr (hF212.up (by decide))).tr (hF221.up (by decide))).tr ((xFr.of (S := [82, 83, 85, 86, 87]) hb245 (by decide)).tr (xFr.of (S := [82, 83, 85, 86, 87]) hb249 (by decide)))), ⟨Or.inl ⟨p_108, lf163, ⟨by have z := hk234.1; omega, (rwv_eq (j := 16) ((hb249.1 83 (by decide)).trans (hb245.1 83 (by decide)))).trans hk234.2.1, (rwv_eq (j := 17) ((hb249.1 83 (by decide)).trans (hb245.1 83 (by decide)))).trans hk234.2.2⟩⟩, ((((((((hj56.tr (K83.fr hF103 (by decide))).tr k8_153).tr (K83.fr hF199 (by decide))).tr (K83.fr hF206 (by decide))).tr (K83.fr hF212 (by decide))).tr (K83.fr hF221 (by decide))).tr (K83.but hb245 (by decide))).tr (K83.but hb249 (by decide))), by omega⟩⟩
    · obtain ⟨p_260, hp261⟩ : ∃ x, x = tf B nn p_108 := ⟨_, rfl⟩
      rw [← hp261] at hT_161
      have ln262 : lnR B nn p0 = lnN B nn 2 1 p_260 := by rw [hp261]; exact ln112.trans (lnN_y (k := 1) hk156)
      have vp263 : vlp B nn (lnP B nn k) 0 = p_108 := by rw [← hp0]; exact hp109.symm
      have vl264 : vln B nn (lnP B nn k) 0 = tnu B nn p_108 := by
        show (if (0 : Nat) = 3 then _ else tnu B nn (vlp B nn (lnP B nn k) 0)) = _
        rw [if_neg (by decide), vp263]
      have he266 : (chk (mf1 B nn k 2 (flA B nn k)) 1 9999 (tnu B nn p_108) (tq B nn p_108)) = (mf2 B nn k 2 (flA B nn k)) := by show _ = chk (mf1 B nn k 2 (flA B nn k)) 1 9999 (vln B nn (lnP B nn k) 0) (tq B nn (vlp B nn (lnP B nn k) 0)); rw [vl264, vp263]
      have hF_265 := hF_162
      rw [he266] at hF_265
      have he268 : (mf2 B nn k 2 (flA B nn k)) = (mf3 B nn k 2 (flA B nn k)) := rfl
      have hF_267 := hF_265
      rw [he268] at hF_267
      refine xoCh82 (hI148 82 (by decide) (by decide) : cp82 (wget w146 82)) (fun f82_269 f82_271 f82_273 f82_275 f82_277 f82_279 f82_281 f82_283 f82_285 f82_287 f82_289 f82_290 f82_291 f82_293 f82_295 f82_297 h82_299 hb270 hb272 hb274 hb276 hb278 hb280 hb282 hb284 hb286 hb288 hb292 hb294 hb296 hb298 hb300 => ?_)
      refine xg_cVv mX12_puts (vs := [(0, 2), (0, u42), (0, (60 + (2 * u42)) + 0), (0, n150)]) (rest := []) (cn1 := 0) (sl1 := 0) rfl (mPuts2 (hI148) (by omega) (by omega) (by omega) (fun _ => by omega)) rfl h82_299 rfl rfl rfl rfl rfl rfl (fun w301 hq302 => ?_)
      obtain ⟨hI303, hF304, hx305⟩ := hq302
      obtain ⟨hp306, hp307⟩ := hx305
      refine xg_t (xg_iinc (u := 0) (z := 1) (l1 := [(0, (2, 82)), (1, (0, 2)), (2, (0, at_)), (3, (0, u42))]) rfl rfl (by decide) rfl) ?_
      refine xg_t (xg_goto) ?_
      refine xg_t (xg_blk (b := [(183, 2, 2, 4, 0, 0), (185, 1, 3, 2, 0, 0), (186, 3, 6, 218, 3, 0), (189, 1, 0, 0, 0, 0), (190, 1, 2, 1, 0, 0), (191, 1, 2, 3, 0, 0), (192, 2, 4, 60, 0, 0), (194, 1, 3, 2, 0, 0), (195, 1, 2, 3, 0, 0), (196, 1, 16, 0, 0, 0), (197, 1, 11, 0, 0, 0), (198, 2, 2, 4, 0, 0), (200, 1, 11, 0, 0, 0), (201, 1, 0, 0, 0, 0), (202, 1, 3, 1, 0, 0), (203, 3, 5, 9999, 0, 0), (206, 3, 13, 199, 96, 196), (209, 3, 13, 211, 96, 200), (212, 3, 9, 4, 1, 0), (215, 3, 8, 183, 0, 0)]) rfl) ?_
      refine xg_t (xg_iload (va := (0, 1)) rfl rfl) ?_
      refine xg_t (xg_const) ?_
      refine xg_t (xg_icF (u := 1) (v := 2) rfl xnm0 xnm0 (by decide)) ?_
      refine xg_t (xg_aload (va := (2, 82)) rfl rfl) ?_
      refine xg_t (xg_iload (va := (0, 2)) rfl rfl) ?_
      refine xg_t (xg_iload (va := (0, u42)) rfl rfl) ?_
      refine xg_t (xg_bip) ?_
      refine xg_t (xg_const) ?_
      refine xg_t (xg_iload (va := (0, u42)) rfl rfl) ?_
      refine xg_t (xg_imul (u := 2) (v := u42) (z := 2 * u42) xnm0 xnm0 (by omega)) ?_
      refine xg_t (xg_iadd (u := 60) (v := 2 * u42) (z := 60 + (2 * u42)) xnm0 xnm0 (by omega)) ?_
      refine xg_t (xg_iload (va := (0, 1)) rfl rfl) ?_
      refine xg_t (xg_iadd (u := 60 + (2 * u42)) (v := 1) (z := (60 + (2 * u42)) + 1) xnm0 xnm0 (by omega)) ?_
      refine xg_t (xg_aload (va := (2, 82)) rfl rfl) ?_
      refine xg_t (xg_const) ?_
      refine xg_t (xg_sip) ?_
      have hk308 := ((fld_eq (j := 14) (hF304.1 82 (by decide))).trans k14_155)
      refine xg_cVi mX12_numbered (vs := [(0, 1), (0, 9999)]) (rest := [(0, (60 + (2 * u42)) + 1), (0, u42), (0, 2), (2, 82)]) (cn1 := 0) (sl1 := 0) rfl (mNumX (ir := 0) (hI303) (by omega) (by omega) (hB.fr (fun j h4 h9 => (((hj56.tr (K83.fr hF103 (by decide))).tr k8_153).tr (K83.fr hF304 (by decide))) j (by omega) (by omega) (by omega))) ((fld_eq (j := 10) (hF304.1 82 (by decide))).trans k10_160) (hT_161.fr (hF304.1 82 (by decide))) (hF_267.k83 (rwv_eq (hF304.1 83 (by decide))) (rwv_eq (hF304.1 83 (by decide))))) rfl (hF304.get (by decide) h82_299) rfl rfl rfl rfl rfl rfl (fun n313 w309 hq310 => ?_)
      obtain ⟨hn314, hI311, hF312⟩ := hq310
      obtain ⟨hx317, h14_315, k8_316⟩ := hn314
      have k14_318 := h14_315.trans hk308
      rcases hx317 with ⟨rfl, hk319, hW320⟩ | ⟨hv321, h9_322, hk319, k10_323, hT_324, hF_325⟩
      · have lf326 : lnR B nn p0 = (false, p_260) := ln262.trans (lnN_n (k := 0) hk319)
        refine xoCh82 (hI311 82 (by decide) (by decide) : cp82 (wget w309 82)) (fun f82_327 f82_329 f82_331 f82_333 f82_335 f82_337 f82_339 f82_341 f82_343 f82_345 f82_347 f82_348 f82_349 f82_351 f82_353 f82_355 h82_357 hb328 hb330 hb332 hb334 hb336 hb338 hb340 hb342 hb344 hb346 hb350 hb352 hb354 hb356 hb358 => ?_)
        refine xg_cVv mX12_puts (vs := [(0, 2), (0, u42), (0, (60 + (2 * u42)) + 1), (0, 0)]) (rest := []) (cn1 := 0) (sl1 := 0) rfl (mPuts2 (hI311) (by omega) (by omega) (by omega) (fun _ => by omega)) rfl h82_357 rfl rfl rfl rfl rfl rfl (fun w359 hq360 => ?_)
        obtain ⟨hI361, hF362, hx363⟩ := hq360
        obtain ⟨hp364, hp365⟩ := hx363
        refine xg_t (xg_iinc (u := 1) (z := 2) (l1 := [(0, (2, 82)), (1, (0, 2)), (2, (0, at_)), (3, (0, u42))]) rfl rfl (by decide) rfl) ?_
        refine xg_t (xg_goto) ?_
        refine xg_t (xg_blk (b := [(183, 2, 2, 4, 0, 0), (185, 1, 3, 2, 0, 0), (186, 3, 6, 218, 3, 0), (189, 1, 0, 0, 0, 0), (190, 1, 2, 1, 0, 0), (191, 1, 2, 3, 0, 0), (192, 2, 4, 60, 0, 0), (194, 1, 3, 2, 0, 0), (195, 1, 2, 3, 0, 0), (196, 1, 16, 0, 0, 0), (197, 1, 11, 0, 0, 0), (198, 2, 2, 4, 0, 0), (200, 1, 11, 0, 0, 0), (201, 1, 0, 0, 0, 0), (202, 1, 3, 1, 0, 0), (203, 3, 5, 9999, 0, 0), (206, 3, 13, 199, 96, 196), (209, 3, 13, 211, 96, 200), (212, 3, 9, 4, 1, 0), (215, 3, 8, 183, 0, 0)]) rfl) ?_
        refine xg_t (xg_iload (va := (0, 2)) rfl rfl) ?_
        refine xg_t (xg_const) ?_
        refine xg_t (xg_icT (u := 2) (v := 2) rfl xnm0 xnm0 (by decide)) ?_
        refine xg_t (xg_blk (b := [(218, 3, 8, 394, 0, 0)]) rfl) ?_
        refine xg_t (xg_goto) ?_
        refine xg_t (xg_blk (b := [(394, 1, 0, 0, 0, 0), (395, 3, 1, 12, 10, 180), (398, 3, 7, 416, 1, 0), (401, 1, 0, 0, 0, 0), (402, 3, 1, 12, 7, 151), (405, 1, 3, 2, 0, 0), (406, 3, 6, 416, 1, 0), (409, 1, 0, 0, 0, 0), (410, 3, 13, 110, 96, 190), (413, 3, 8, 420, 0, 0)]) rfl) ?_
        refine xg_t (xg_aload (va := (2, 82)) rfl rfl) ?_
        refine xg_t (xg_getf (va := (0, f82_343)) (hF362.get (by decide) h82_357) rfl) ?_
        have hf366 : fld w359 82 10 = f82_343 := fld_of (hF362.get (by decide) h82_357)
        have hk367 : fld w359 82 10 ≠ 0 := (by have q := hW320.1; have q2 := fld_eq (j := 10) (hF362.1 82 (by decide)); omega)
        refine xg_t (xg_ifT (u := f82_343) rfl xnm0 (xj_neT (by omega))) ?_
        refine xg_t (xg_blk (b := [(416, 1, 0, 0, 0, 0), (417, 3, 13, 140, 96, 183)]) rfl) ?_
        refine xg_t (xg_aload (va := (2, 82)) rfl rfl) ?_
        refine xg_cVv mX12_ends (vs := []) (rest := []) (cn1 := 0) (sl1 := 0) rfl (mEndsW (hI361) (by have q := hW320.1; have q2 := fld_eq (j := 10) (hF362.1 82 (by decide)); omega)) rfl (hF362.get (by decide) h82_357) rfl rfl rfl rfl rfl rfl (fun w368 hq369 => ?_)
        obtain ⟨hI370, hF371⟩ := hq369
        refine xg_t (xg_blk (b := [(420, 1, 0, 0, 0, 0), (421, 3, 1, 12, 11, 17), (424, 1, 2, 1, 0, 0), (425, 1, 39, 0, 0, 0), (426, 1, 10, 0, 0, 0), (427, 1, 3, 1, 0, 0), (428, 1, 11, 0, 0, 0), (429, 1, 17, 0, 0, 0), (430, 1, 0, 0, 0, 0), (431, 1, 19, 0, 0, 0), (432, 3, 1, 12, 14, 212), (435, 1, 3, 1, 0, 0), (436, 1, 11, 0, 0, 0), (437, 3, 14, 12, 14, 212), (440, 1, 12, 0, 0, 0)]) rfl) ?_
        have hf372 : fld w368 82 2 = f82_327 := fld_of (hF371.get (by decide) (hF362.get (by decide) h82_357))
        have hf373 : fld w368 82 3 = f82_329 := fld_of (hF371.get (by decide) (hF362.get (by decide) h82_357))
        have hf374 : fld w368 82 4 = f82_331 := fld_of (hF371.get (by decide) (hF362.get (by decide) h82_357))
        have hf375 : fld w368 82 5 = f82_333 := fld_of (hF371.get (by decide) (hF362.get (by decide) h82_357))
        have hf376 : fld w368 82 6 = f82_335 := fld_of (hF371.get (by decide) (hF362.get (by decide) h82_357))
        have hf377 : fld w368 82 7 = f82_337 := fld_of (hF371.get (by decide) (hF362.get (by decide) h82_357))
        have hf378 : fld w368 82 8 = f82_339 := fld_of (hF371.get (by decide) (hF362.get (by decide) h82_357))
        have hf379 : fld w368 82 9 = f82_341 := fld_of (hF371.get (by decide) (hF362.get (by decide) h82_357))
        have hf380 : fld w368 82 10 = f82_343 := fld_of (hF371.get (by decide) (hF362.get (by decide) h82_357))
        have hf381 : fld w368 82 14 = f82_345 := fld_of (hF371.get (by decide) (hF362.get (by decide) h82_357))
        have hk382 := ((fld_eq (j := 14) ((hF371.1 82 (by decide)).trans (hF362.1 82 (by decide)))).trans k14_318)
        have hl383 : f82_345 ≤ 500 := by omega
        have hk384 : WRG w368 (tq B nn p_260) := ⟨(fld_eq (j := 10) ((hF371.1 82 (by decide)).trans (hF362.1 82 (by decide)))).trans hW320.1, (rwv_eq (j := 16) ((hF371.1 83 (by decide)).trans (hF362.1 83 (by decide)))).trans hW320.2.1, (rwv_eq (j := 17) ((hF371.1 83 (by decide)).trans (hF362.1 83 (by decide)))).trans hW320.2.2⟩
        refine xg_t (xg_aload (va := (2, 82)) rfl rfl) ?_
        refine xg_t (xg_getf (va := (2, 85)) (hF371.get (by decide) (hF362.get (by decide) h82_357)) rfl) ?_
        refine xg_t (xg_iload (va := (0, 2)) rfl rfl) ?_
        refine xg_t (xg_dup2 rfl) ?_
        refine xoI (hI370 85 (by decide) (by decide) : cpI 7 52 4294967295 (wget w368 85)) (fun g85_385 h85_386 hb387 => ?_)
        refine xg_ialdB (n := 2) (B := 4294967295) h85_386 (hb387) xnm0 (by omega) (fun u388 hu389 he390 => ?_)
        have hK391 : u388 = u42 := (((rwv_of h85_386 (by decide)).trans he390).symm.trans (rwv_eq ((hF371.1 85 (by decide)).trans ((hF362.1 85 (by decide)).trans ((hF312.1 85 (by decide)).trans ((hF304.1 85 (by decide)).trans ((hF149.1 85 (by decide)).trans ((hF103.1 85 (by decide)).trans hj57)))))))).trans ((hm 2 (by decide)).trans hK45.symm)
        have hl392 : u388 ≤ 500 := by omega
        refine xg_t (xg_const) ?_
        refine xg_t (xg_iadd (u := u388) (v := 1) (z := u388 + 1) xnm0 xnm0 (by omega)) ?_
        refine xg_iastK (n := 2) (u := u388 + 1) h85_386 xnm0 xnm0 rfl (by omega) (fun w393 hr394 hb395 => ?_)
        refine xg_t (xg_aload (va := (2, 82)) rfl rfl) ?_
        refine xg_t (xg_dup rfl) ?_
        refine xg_t (xg_getf (va := (0, f82_345)) (hb395.get (by decide) (hF371.get (by decide) (hF362.get (by decide) h82_357))) rfl) ?_
        have hn396 := id hb346
        unfold xHid at hn396
        refine xg_t (xg_const) ?_
        refine xg_t (xg_iadd (u := f82_345) (v := 1) (z := f82_345 + 1) xnm0 xnm0 (by omega)) ?_
        refine xg_putI (fl1 := [(2, 83), (2, 84), (0, f82_327), (0, f82_329), (0, f82_331), (0, f82_333), (0, f82_335), (0, f82_337), (0, f82_339), (0, f82_341), (0, f82_343), (2, 85), (2, 86), (2, 87), (0, f82_345 + 1), (2, 88), (2, 89), (2, 90), (2, 91), (2, 92), (2, 93), (2, 94), (4, f82_347), (4, f82_348), (0, f82_349), (2, 95), (2, 96), (2, 97), (2, 98), (2, 99), (2, 100), (2, 101), (2, 102), (0, f82_351), (2, 103), (2, 104), (2, 105), (2, 106), (2, 107), (2, 108), (2, 109), (0, f82_353), (0, f82_355), (2, 110), (2, 111), (2, 112), (2, 113)]) (hb395.get (by decide) (hF371.get (by decide) (hF362.get (by decide) h82_357))) rfl rfl rfl (fun w397 hk398 hb399 => ?_)
        have hf400 : fld w397 82 2 = f82_327 := fld_of hk398
        have hf401 : fld w397 82 3 = f82_329 := fld_of hk398
        have hf402 : fld w397 82 4 = f82_331 := fld_of hk398
        have hf403 : fld w397 82 5 = f82_333 := fld_of hk398
        have hf404 : fld w397 82 6 = f82_335 := fld_of hk398
        have hf405 : fld w397 82 7 = f82_337 := fld_of hk398
        have hf406 : fld w397 82 8 = f82_339 := fld_of hk398
        have hf407 : fld w397 82 9 = f82_341 := fld_of hk398
        have hf408 : fld w397 82 10 = f82_343 := fld_of hk398
        have hf409 : fld w397 82 14 = f82_345 + 1 := fld_of hk398
        exact xg_e ⟨w397, ⟨rfl, rfl⟩, xMnv.up (S := [85, 82]) hI370 ((xFr.of (S := [85, 82]) hb395 (by decide)).tr (xFr.of (S := [85, 82]) hb399 (by decide))) (List.forall_mem_cons.mpr ⟨(show cpI 7 52 4294967295 (wget w397 85) from ⟨_, (hr394.but hb399 (by decide)), xrb (by omega) (hb387)⟩), List.forall_mem_cons.mpr ⟨(show cp82 (wget w397 82) from ⟨f82_327, f82_329, f82_331, f82_333, f82_335, f82_337, f82_339, f82_341, f82_343, f82_345 + 1, f82_347, f82_348, f82_349, f82_351, f82_353, f82_355, hk398, by omega, hb330, by omega, by omega, hb336, by omega, hb340, hb342, by omega, by omega, hb350, hb352, hb354, hb356, by omega⟩), fun _ h => absurd h List.not_mem_nil⟩⟩), (((((((hF50.tr (hF103.up (by decide))).tr (hF149.up (by decide))).tr (hF304.up (by decide))).tr (hF312.up (by decide))).tr (hF362.up (by decide))).tr (hF371.up (by decide))).tr ((xFr.of (S := [82, 83, 85, 86, 87]) hb395 (by decide)).tr (xFr.of (S := [82, 83, 85, 86, 87]) hb399 (by decide)))), ⟨Or.inl ⟨p_260, lf326, ⟨by have z := hk384.1; omega, (rwv_eq (j := 16) ((hb399.1 83 (by decide)).trans (hb395.1 83 (by decide)))).trans hk384.2.1, (rwv_eq (j := 17) ((hb399.1 83 (by decide)).trans (hb395.1 83 (by decide)))).trans hk384.2.2⟩⟩, ((((((((hj56.tr (K83.fr hF103 (by decide))).tr k8_153).tr (K83.fr hF304 (by decide))).tr k8_316).tr (K83.fr hF362 (by decide))).tr (K83.fr hF371 (by decide))).tr (K83.but hb395 (by decide))).tr (K83.but hb399 (by decide))), by omega⟩⟩
      · obtain ⟨p_410, hp411⟩ : ∃ x, x = tf B nn p_260 := ⟨_, rfl⟩
        rw [← hp411] at hT_324
        have ln412 : lnR B nn p0 = lnN B nn 2 0 p_410 := by rw [hp411]; exact ln262.trans (lnN_y (k := 0) hk319)
        have vp413 : vlp B nn (lnP B nn k) 1 = p_260 := by show tf B nn (vlp B nn (lnP B nn k) 0) = p_260; rw [vp263]; exact hp261.symm
        have vl414 : vln B nn (lnP B nn k) 1 = tnu B nn p_260 := by
          show (if (1 : Nat) = 3 then _ else tnu B nn (vlp B nn (lnP B nn k) 1)) = _
          rw [if_neg (by decide), vp413]
        have he416 : (chk (mf3 B nn k 2 (flA B nn k)) 1 9999 (tnu B nn p_260) (tq B nn p_260)) = (mf4 B nn k 2 (flA B nn k)) := by show _ = chk (mf3 B nn k 2 (flA B nn k)) 1 9999 (vln B nn (lnP B nn k) 1) (tq B nn (vlp B nn (lnP B nn k) 1)); rw [vl414, vp413]
        have hF_415 := hF_325
        rw [he416] at hF_415
        have he418 : (mf4 B nn k 2 (flA B nn k)) = (mfl B nn k 2 (flA B nn k)) := rfl
        have hF_417 := hF_415
        rw [he418] at hF_417
        refine xoCh82 (hI311 82 (by decide) (by decide) : cp82 (wget w309 82)) (fun f82_419 f82_421 f82_423 f82_425 f82_427 f82_429 f82_431 f82_433 f82_435 f82_437 f82_439 f82_440 f82_441 f82_443 f82_445 f82_447 h82_449 hb420 hb422 hb424 hb426 hb428 hb430 hb432 hb434 hb436 hb438 hb442 hb444 hb446 hb448 hb450 => ?_)
        refine xg_cVv mX12_puts (vs := [(0, 2), (0, u42), (0, (60 + (2 * u42)) + 1), (0, n313)]) (rest := []) (cn1 := 0) (sl1 := 0) rfl (mPuts2 (hI311) (by omega) (by omega) (by omega) (fun _ => by omega)) rfl h82_449 rfl rfl rfl rfl rfl rfl (fun w451 hq452 => ?_)
        obtain ⟨hI453, hF454, hx455⟩ := hq452
        obtain ⟨hp456, hp457⟩ := hx455
        refine xg_t (xg_iinc (u := 1) (z := 2) (l1 := [(0, (2, 82)), (1, (0, 2)), (2, (0, at_)), (3, (0, u42))]) rfl rfl (by decide) rfl) ?_
        refine xg_t (xg_goto) ?_
        refine xg_t (xg_blk (b := [(183, 2, 2, 4, 0, 0), (185, 1, 3, 2, 0, 0), (186, 3, 6, 218, 3, 0), (189, 1, 0, 0, 0, 0), (190, 1, 2, 1, 0, 0), (191, 1, 2, 3, 0, 0), (192, 2, 4, 60, 0, 0), (194, 1, 3, 2, 0, 0), (195, 1, 2, 3, 0, 0), (196, 1, 16, 0, 0, 0), (197, 1, 11, 0, 0, 0), (198, 2, 2, 4, 0, 0), (200, 1, 11, 0, 0, 0), (201, 1, 0, 0, 0, 0), (202, 1, 3, 1, 0, 0), (203, 3, 5, 9999, 0, 0), (206, 3, 13, 199, 96, 196), (209, 3, 13, 211, 96, 200), (212, 3, 9, 4, 1, 0), (215, 3, 8, 183, 0, 0)]) rfl) ?_
        refine xg_t (xg_iload (va := (0, 2)) rfl rfl) ?_
        refine xg_t (xg_const) ?_
        refine xg_t (xg_icT (u := 2) (v := 2) rfl xnm0 xnm0 (by decide)) ?_
        refine xg_t (xg_blk (b := [(218, 3, 8, 394, 0, 0)]) rfl) ?_
        refine xg_t (xg_goto) ?_
        refine xg_t (xg_blk (b := [(394, 1, 0, 0, 0, 0), (395, 3, 1, 12, 10, 180), (398, 3, 7, 416, 1, 0), (401, 1, 0, 0, 0, 0), (402, 3, 1, 12, 7, 151), (405, 1, 3, 2, 0, 0), (406, 3, 6, 416, 1, 0), (409, 1, 0, 0, 0, 0), (410, 3, 13, 110, 96, 190), (413, 3, 8, 420, 0, 0)]) rfl) ?_
        have ln458 : lnR B nn p0 = lnS B nn p_410 := by exact ln412.trans (lnN_0 (by decide))
        refine xg_t (xg_aload (va := (2, 82)) rfl rfl) ?_
        refine xg_t (xg_getf (va := (0, f82_435)) (hF454.get (by decide) h82_449) rfl) ?_
        have hf459 : fld w451 82 10 = f82_435 := fld_of (hF454.get (by decide) h82_449)
        have hk460 : fld w451 82 10 = 0 := ((fld_eq (j := 10) (hF454.1 82 (by decide))).trans k10_323)
        refine xg_t (xg_ifF (u := f82_435) rfl xnm0 (xj_neF (by omega))) ?_
        obtain ⟨⟨ht461, ht462, ht463, ht464, ht465, ht466⟩, ht467, ht468, ht469⟩ := id (hT_324.fr (hF454.1 82 (by decide)))
        have hf470 : fld w451 82 6 = f82_427 := fld_of (hF454.get (by decide) h82_449)
        have hf471 : fld w451 82 7 = f82_429 := fld_of (hF454.get (by decide) h82_449)
        have hf472 : fld w451 82 8 = f82_431 := fld_of (hF454.get (by decide) h82_449)
        have hf473 : fld w451 82 9 = f82_433 := fld_of (hF454.get (by decide) h82_449)
        have hf474 : fld w451 82 3 = f82_421 := fld_of (hF454.get (by decide) h82_449)
        have hmk475 := mkd_of (ir := 0) (B := B) (n := nn) (p := p_410)
        refine xg_t (xg_aload (va := (2, 82)) rfl rfl) ?_
        refine xg_t (xg_getf (va := (0, f82_429)) (hF454.get (by decide) h82_449) rfl) ?_
        refine xg_t (xg_const) ?_
        by_cases hc476 : f82_429 = 2
        · refine xg_t (xg_icF (u := f82_429) (v := 2) rfl xnm0 xnm0 (xj_neF hc476)) ?_
          have sg4771 : tkd B nn p_410 = 3 := by omega
          have sg4772 : B (tq B nn p_410) = 59 := by omega
          refine xg_t (xg_aload (va := (2, 82)) rfl rfl) ?_
          clear ht461 ht462 ht463 ht464 ht465 ht466 ht467 ht468 ht469 hf470 hf471 hf472 hf473 hf474 hmk475
          obtain ⟨⟨ht478, ht479, ht480, ht481, ht482, ht483⟩, -⟩ := id (hT_324.fr (hF454.1 82 (by decide)))
          have hk484 := ((fld_eq (j := 10) (hF454.1 82 (by decide))).trans k10_323)
          have hk485 := ((fld_eq (j := 14) (hF454.1 82 (by decide))).trans k14_318)
          refine xg_cVv mX12_advance (vs := []) (rest := []) (cn1 := 0) (sl1 := 0) rfl (mAdvX (hI453) (hB.fr (fun j h4 h9 => (((((hj56.tr (K83.fr hF103 (by decide))).tr k8_153).tr (K83.fr hF304 (by decide))).tr k8_316).tr (K83.fr hF454 (by decide))) j (by omega) (by omega) (by omega))) ht478 ht479 (by rw [ht480]; exact tf_le ht483)) rfl (hF454.get (by decide) h82_449) rfl rfl rfl rfl rfl rfl (fun w486 hq487 => ?_)
          obtain ⟨hI488, hF489, hx490⟩ := hq487
          obtain ⟨hz491, hz492, hz493⟩ := hx490
          rw [ht480] at hz491
          clear ht478 ht479 ht480 ht481 ht482 ht483
          obtain ⟨p_494, hp495⟩ : ∃ x, x = tf B nn p_410 := ⟨_, rfl⟩
          rw [← hp495] at hz491
          have k10_496 := hz492.trans hk484
          have k14_497 := hz493.trans hk485
          clear hz492 hz493 hk484 hk485
          have ln498 : lnR B nn p0 = (true, p_494) := by rw [hp495]; exact ln458.trans (lnS_y ⟨sg4771, sg4772⟩)
          refine xg_t (xg_goto) ?_
          refine xg_t (xg_blk (b := [(420, 1, 0, 0, 0, 0), (421, 3, 1, 12, 11, 17), (424, 1, 2, 1, 0, 0), (425, 1, 39, 0, 0, 0), (426, 1, 10, 0, 0, 0), (427, 1, 3, 1, 0, 0), (428, 1, 11, 0, 0, 0), (429, 1, 17, 0, 0, 0), (430, 1, 0, 0, 0, 0), (431, 1, 19, 0, 0, 0), (432, 3, 1, 12, 14, 212), (435, 1, 3, 1, 0, 0), (436, 1, 11, 0, 0, 0), (437, 3, 14, 12, 14, 212), (440, 1, 12, 0, 0, 0)]) rfl) ?_
          refine xoCh82 (hI488 82 (by decide) (by decide) : cp82 (wget w486 82)) (fun f82_499 f82_501 f82_503 f82_505 f82_507 f82_509 f82_511 f82_513 f82_515 f82_517 f82_519 f82_520 f82_521 f82_523 f82_525 f82_527 h82_529 hb500 hb502 hb504 hb506 hb508 hb510 hb512 hb514 hb516 hb518 hb522 hb524 hb526 hb528 hb530 => ?_)
          have hf531 : fld w486 82 2 = f82_499 := fld_of h82_529
          have hf532 : fld w486 82 3 = f82_501 := fld_of h82_529
          have hf533 : fld w486 82 4 = f82_503 := fld_of h82_529
          have hf534 : fld w486 82 5 = f82_505 := fld_of h82_529
          have hf535 : fld w486 82 6 = f82_507 := fld_of h82_529
          have hf536 : fld w486 82 7 = f82_509 := fld_of h82_529
          have hf537 : fld w486 82 8 = f82_511 := fld_of h82_529
          have hf538 : fld w486 82 9 = f82_513 := fld_of h82_529
          have hf539 : fld w486 82 10 = f82_515 := fld_of h82_529
          have hf540 : fld w486 82 14 = f82_517 := fld_of h82_529
          have hk541 := k14_497
          have hl542 : f82_517 ≤ 500 := by omega
          have hk543 := hz491
          have hk544 := (hF_417.k83 (rwv_eq ((hF489.1 83 (by decide)).trans (hF454.1 83 (by decide)))) (rwv_eq ((hF489.1 83 (by decide)).trans (hF454.1 83 (by decide)))))
          have hk545 := k10_496
          refine xg_t (xg_aload (va := (2, 82)) rfl rfl) ?_
          refine xg_t (xg_getf (va := (2, 85)) h82_529 rfl) ?_
          refine xg_t (xg_iload (va := (0, 2)) rfl rfl) ?_
          refine xg_t (xg_dup2 rfl) ?_
          refine xoI (hI488 85 (by decide) (by decide) : cpI 7 52 4294967295 (wget w486 85)) (fun g85_546 h85_547 hb548 => ?_)
          refine xg_ialdB (n := 2) (B := 4294967295) h85_547 (hb548) xnm0 (by omega) (fun u549 hu550 he551 => ?_)
          have hK552 : u549 = u42 := (((rwv_of h85_547 (by decide)).trans he551).symm.trans (rwv_eq ((hF489.1 85 (by decide)).trans ((hF454.1 85 (by decide)).trans ((hF312.1 85 (by decide)).trans ((hF304.1 85 (by decide)).trans ((hF149.1 85 (by decide)).trans ((hF103.1 85 (by decide)).trans hj57)))))))).trans ((hm 2 (by decide)).trans hK45.symm)
          have hl553 : u549 ≤ 500 := by omega
          refine xg_t (xg_const) ?_
          refine xg_t (xg_iadd (u := u549) (v := 1) (z := u549 + 1) xnm0 xnm0 (by omega)) ?_
          refine xg_iastK (n := 2) (u := u549 + 1) h85_547 xnm0 xnm0 rfl (by omega) (fun w554 hr555 hb556 => ?_)
          refine xg_t (xg_aload (va := (2, 82)) rfl rfl) ?_
          refine xg_t (xg_dup rfl) ?_
          refine xg_t (xg_getf (va := (0, f82_517)) (hb556.get (by decide) h82_529) rfl) ?_
          have hn557 := id hb518
          unfold xHid at hn557
          refine xg_t (xg_const) ?_
          refine xg_t (xg_iadd (u := f82_517) (v := 1) (z := f82_517 + 1) xnm0 xnm0 (by omega)) ?_
          refine xg_putI (fl1 := [(2, 83), (2, 84), (0, f82_499), (0, f82_501), (0, f82_503), (0, f82_505), (0, f82_507), (0, f82_509), (0, f82_511), (0, f82_513), (0, f82_515), (2, 85), (2, 86), (2, 87), (0, f82_517 + 1), (2, 88), (2, 89), (2, 90), (2, 91), (2, 92), (2, 93), (2, 94), (4, f82_519), (4, f82_520), (0, f82_521), (2, 95), (2, 96), (2, 97), (2, 98), (2, 99), (2, 100), (2, 101), (2, 102), (0, f82_523), (2, 103), (2, 104), (2, 105), (2, 106), (2, 107), (2, 108), (2, 109), (0, f82_525), (0, f82_527), (2, 110), (2, 111), (2, 112), (2, 113)]) (hb556.get (by decide) h82_529) rfl rfl rfl (fun w558 hk559 hb560 => ?_)
          have hf561 : fld w558 82 2 = f82_499 := fld_of hk559
          have hf562 : fld w558 82 3 = f82_501 := fld_of hk559
          have hf563 : fld w558 82 4 = f82_503 := fld_of hk559
          have hf564 : fld w558 82 5 = f82_505 := fld_of hk559
          have hf565 : fld w558 82 6 = f82_507 := fld_of hk559
          have hf566 : fld w558 82 7 = f82_509 := fld_of hk559
          have hf567 : fld w558 82 8 = f82_511 := fld_of hk559
          have hf568 : fld w558 82 9 = f82_513 := fld_of hk559
          have hf569 : fld w558 82 10 = f82_515 := fld_of hk559
          have hf570 : fld w558 82 14 = f82_517 + 1 := fld_of hk559
          have he571 : lnP B nn (k + 1) = p_494 := by
            show (lnR B nn (lnP B nn k)).2 = _
            rw [← hp0, ln498]
          have hT572 : TKM 0 B nn w558 p_494 := hk543.w14 (by omega) (by omega) (by omega) (by omega) (by omega) (by omega) (by omega) (by omega)
          have hF573 : FP w558 (mfl B nn k 2 (flA B nn k)) := hk544.k83 (rwv_eq ((hb560.1 83 (by decide)).trans (hb556.1 83 (by decide)))) (rwv_eq ((hb560.1 83 (by decide)).trans (hb556.1 83 (by decide))))
          have hg575 := (tf_gt (B := B) (n := nn) (p := p_108) (by omega)).2
          have hg576 := tq_ge (B := B) (n := nn) (p := p_108)
          have hg577 := (tf_gt (B := B) (n := nn) (p := p_260) (by omega)).2
          have hg578 := tq_ge (B := B) (n := nn) (p := p_260)
          have hg579 := (tf_gt (B := B) (n := nn) (p := p0) (by rw [slt_kd (by rw [hp0, hs]; decide)]; decide)).2
          have hg580 := (tf_gt (B := B) (n := nn) (p := p_410) (by omega)).2
          have hg581 := tq_ge (B := B) (n := nn) (p := p_410)
          have hg582 := tq_ge (B := B) (n := nn) (p := p_494)
          have hp1x := hp109
          have hO574 : ORD B nn k 2 (tq B nn (lnP B nn (k + 1))) := by
            unfold ORD
            rw [he571, vp263, vp413, ← hp0]
            exact ⟨by omega, by omega, fun z => absurd z (by decide), by omega, fun z => absurd z (by decide)⟩
          have hM583 : rwv w558 85 2 = lnC B nn 2 k + 1 := (rwv_of (hr555.but hb560 (by decide)) (by decide)).trans ((if_pos rfl).trans (by omega))
          have hM584 : ∀ s, s < 7 → s ≠ 2 → rwv w558 85 s = rwv w 85 s := fun s hs hn => (rwv_of (hr555.but hb560 (by decide)) hs).trans ((if_neg hn).trans ((rwv_of h85_547 hs).symm.trans (rwv_eq ((hF489.1 85 (by decide)).trans ((hF454.1 85 (by decide)).trans ((hF312.1 85 (by decide)).trans ((hF304.1 85 (by decide)).trans ((hF149.1 85 (by decide)).trans ((hF103.1 85 (by decide)).trans hj57)))))))))
          have hr585 : lnC B nn 2 k < 6 → ∀ t, t < 2 → XM w558 2 (lnC B nn 2 k) t = vln B nn (lnP B nn k) t := fun hlt t ht => by
            rcases (show t = 0 ∨ t = 1 by omega) with rfl | rfl
            · show rwv w558 86 (60 + 2 * lnC B nn 2 k + 0) = _
              rw [show 60 + 2 * lnC B nn 2 k + 0 = (60 + (2 * u42)) + 0 by omega]
              exact ((rwv_eq (hb560.1 86 (by decide))).trans ((rwv_eq (hb556.1 86 (by decide))).trans ((rwv_eq (hF489.1 86 (by decide))).trans ((hp457 ((60 + (2 * u42)) + 0) (by omega) (by omega)).trans (rwv_eq (hF312.1 86 (by decide))))))).trans ((hp306 (by omega)).trans (hv158.trans vl264.symm))
            · show rwv w558 86 (60 + 2 * lnC B nn 2 k + 1) = _
              rw [show 60 + 2 * lnC B nn 2 k + 1 = (60 + (2 * u42)) + 1 by omega]
              exact ((rwv_eq (hb560.1 86 (by decide))).trans ((rwv_eq (hb556.1 86 (by decide))).trans (rwv_eq (hF489.1 86 (by decide))))).trans ((hp456 (by omega)).trans (hv321.trans vl414.symm))
          have ho586 : ∀ j, (j < 60 + 2 * lnC B nn 2 k ∨ 60 + 2 * (lnC B nn 2 k + 1) ≤ j) → j < 140 → rwv w558 86 j = rwv w 86 j := fun j hj hl => ((rwv_eq (hb560.1 86 (by decide))).trans ((rwv_eq (hb556.1 86 (by decide))).trans ((rwv_eq (hF489.1 86 (by decide))).trans ((hp457 j (by omega) hl).trans ((rwv_eq (hF312.1 86 (by decide))).trans ((hp307 j (by omega) hl).trans ((rwv_eq (hF149.1 86 (by decide))).trans ((rwv_eq (hF103.1 86 (by decide))).trans (rwv_eq hj58)))))))))
          have ha587 : ∀ j, j < 20 → rwv w558 87 j = rwv w 87 j := fun j _ => rwv_eq ((hb560.1 87 (by decide)).trans ((hb556.1 87 (by decide)).trans ((hF489.1 87 (by decide)).trans ((hF454.1 87 (by decide)).trans ((hF312.1 87 (by decide)).trans ((hF304.1 87 (by decide)).trans ((hF149.1 87 (by decide)).trans ((hF103.1 87 (by decide)).trans hj59))))))))
          have hM588 := MSTok2 hS hs (by have z := hk545; omega) (by omega) hF573 hO574 hM583 hM584 hr585 ho586 ha587
          exact xg_e ⟨w558, ⟨rfl, rfl⟩, xMnv.up (S := [85, 82]) hI488 ((xFr.of (S := [85, 82]) hb556 (by decide)).tr (xFr.of (S := [85, 82]) hb560 (by decide))) (List.forall_mem_cons.mpr ⟨(show cpI 7 52 4294967295 (wget w558 85) from ⟨_, (hr555.but hb560 (by decide)), xrb (by omega) (hb548)⟩), List.forall_mem_cons.mpr ⟨(show cp82 (wget w558 82) from ⟨f82_499, f82_501, f82_503, f82_505, f82_507, f82_509, f82_511, f82_513, f82_515, f82_517 + 1, f82_519, f82_520, f82_521, f82_523, f82_525, f82_527, hk559, by omega, hb502, by omega, by omega, hb508, by omega, hb512, hb514, by omega, by omega, hb522, hb524, hb526, hb528, by omega⟩), fun _ h => absurd h List.not_mem_nil⟩⟩), (((((((hF50.tr (hF103.up (by decide))).tr (hF149.up (by decide))).tr (hF304.up (by decide))).tr (hF312.up (by decide))).tr (hF454.up (by decide))).tr (hF489.up (by decide))).tr ((xFr.of (S := [82, 83, 85, 86, 87]) hb556 (by decide)).tr (xFr.of (S := [82, 83, 85, 86, 87]) hb560 (by decide)))), ⟨Or.inr ⟨by rw [ln498], by rw [he571]; exact hT572, hM588⟩, ((((((((hj56.tr (K83.fr hF103 (by decide))).tr k8_153).tr (K83.fr hF304 (by decide))).tr k8_316).tr (K83.fr hF454 (by decide))).tr (K83.fr hF489 (by decide))).tr (K83.but hb556 (by decide))).tr (K83.but hb560 (by decide))), by omega⟩⟩
        · refine xg_t (xg_icT (u := f82_429) (v := 2) rfl xnm0 xnm0 (xj_neT hc476)) ?_
          refine xg_t (xg_blk (b := [(416, 1, 0, 0, 0, 0), (417, 3, 13, 140, 96, 183)]) rfl) ?_
          have lf589n : ¬ (tkd B nn p_410 = 3 ∧ B (tq B nn p_410) = 59) := by omega
          have lf589 : lnR B nn p0 = (false, p_410) := ln458.trans (lnS_n lf589n)
          refine xg_t (xg_aload (va := (2, 82)) rfl rfl) ?_
          have hk590 := ((fld_eq (j := 14) (hF454.1 82 (by decide))).trans k14_318)
          have hk591 := (hT_324.fr (hF454.1 82 (by decide))).1.2.2.2.1
          clear ht461 ht462 ht463 ht464 ht465 ht466 ht467 ht468 ht469 hf470 hf471 hf472 hf473 hf474 hmk475
          refine xg_cVv mX12_ends (vs := []) (rest := []) (cn1 := 0) (sl1 := 0) rfl (mEndsX (hI453) ((fld_eq (j := 10) (hF454.1 82 (by decide))).trans k10_323)) rfl (hF454.get (by decide) h82_449) rfl rfl rfl rfl rfl rfl (fun w592 hq593 => ?_)
          obtain ⟨hI594, hF595, hx596⟩ := hq593
          obtain ⟨hv597, hv598, hv599, hv600, hv601⟩ := hx596
          have hW602 : WRG w592 (tq B nn p_410) := ⟨hv597, hv598, hv599.trans hk591⟩
          have k14_603 := hv600.trans hk590
          refine xg_t (xg_blk (b := [(420, 1, 0, 0, 0, 0), (421, 3, 1, 12, 11, 17), (424, 1, 2, 1, 0, 0), (425, 1, 39, 0, 0, 0), (426, 1, 10, 0, 0, 0), (427, 1, 3, 1, 0, 0), (428, 1, 11, 0, 0, 0), (429, 1, 17, 0, 0, 0), (430, 1, 0, 0, 0, 0), (431, 1, 19, 0, 0, 0), (432, 3, 1, 12, 14, 212), (435, 1, 3, 1, 0, 0), (436, 1, 11, 0, 0, 0), (437, 3, 14, 12, 14, 212), (440, 1, 12, 0, 0, 0)]) rfl) ?_
          refine xoCh82 (hI594 82 (by decide) (by decide) : cp82 (wget w592 82)) (fun f82_604 f82_606 f82_608 f82_610 f82_612 f82_614 f82_616 f82_618 f82_620 f82_622 f82_624 f82_625 f82_626 f82_628 f82_630 f82_632 h82_634 hb605 hb607 hb609 hb611 hb613 hb615 hb617 hb619 hb621 hb623 hb627 hb629 hb631 hb633 hb635 => ?_)
          have hf636 : fld w592 82 2 = f82_604 := fld_of h82_634
          have hf637 : fld w592 82 3 = f82_606 := fld_of h82_634
          have hf638 : fld w592 82 4 = f82_608 := fld_of h82_634
          have hf639 : fld w592 82 5 = f82_610 := fld_of h82_634
          have hf640 : fld w592 82 6 = f82_612 := fld_of h82_634
          have hf641 : fld w592 82 7 = f82_614 := fld_of h82_634
          have hf642 : fld w592 82 8 = f82_616 := fld_of h82_634
          have hf643 : fld w592 82 9 = f82_618 := fld_of h82_634
          have hf644 : fld w592 82 10 = f82_620 := fld_of h82_634
          have hf645 : fld w592 82 14 = f82_622 := fld_of h82_634
          have hk646 := k14_603
          have hl647 : f82_622 ≤ 500 := by omega
          have hk648 : WRG w592 (tq B nn p_410) := hW602
          refine xg_t (xg_aload (va := (2, 82)) rfl rfl) ?_
          refine xg_t (xg_getf (va := (2, 85)) h82_634 rfl) ?_
          refine xg_t (xg_iload (va := (0, 2)) rfl rfl) ?_
          refine xg_t (xg_dup2 rfl) ?_
          refine xoI (hI594 85 (by decide) (by decide) : cpI 7 52 4294967295 (wget w592 85)) (fun g85_649 h85_650 hb651 => ?_)
          refine xg_ialdB (n := 2) (B := 4294967295) h85_650 (hb651) xnm0 (by omega) (fun u652 hu653 he654 => ?_)
          have hK655 : u652 = u42 := (((rwv_of h85_650 (by decide)).trans he654).symm.trans (rwv_eq ((hF595.1 85 (by decide)).trans ((hF454.1 85 (by decide)).trans ((hF312.1 85 (by decide)).trans ((hF304.1 85 (by decide)).trans ((hF149.1 85 (by decide)).trans ((hF103.1 85 (by decide)).trans hj57)))))))).trans ((hm 2 (by decide)).trans hK45.symm)
          have hl656 : u652 ≤ 500 := by omega
          refine xg_t (xg_const) ?_
          refine xg_t (xg_iadd (u := u652) (v := 1) (z := u652 + 1) xnm0 xnm0 (by omega)) ?_
          refine xg_iastK (n := 2) (u := u652 + 1) h85_650 xnm0 xnm0 rfl (by omega) (fun w657 hr658 hb659 => ?_)
          refine xg_t (xg_aload (va := (2, 82)) rfl rfl) ?_
          refine xg_t (xg_dup rfl) ?_
          refine xg_t (xg_getf (va := (0, f82_622)) (hb659.get (by decide) h82_634) rfl) ?_
          have hn660 := id hb623
          unfold xHid at hn660
          refine xg_t (xg_const) ?_
          refine xg_t (xg_iadd (u := f82_622) (v := 1) (z := f82_622 + 1) xnm0 xnm0 (by omega)) ?_
          refine xg_putI (fl1 := [(2, 83), (2, 84), (0, f82_604), (0, f82_606), (0, f82_608), (0, f82_610), (0, f82_612), (0, f82_614), (0, f82_616), (0, f82_618), (0, f82_620), (2, 85), (2, 86), (2, 87), (0, f82_622 + 1), (2, 88), (2, 89), (2, 90), (2, 91), (2, 92), (2, 93), (2, 94), (4, f82_624), (4, f82_625), (0, f82_626), (2, 95), (2, 96), (2, 97), (2, 98), (2, 99), (2, 100), (2, 101), (2, 102), (0, f82_628), (2, 103), (2, 104), (2, 105), (2, 106), (2, 107), (2, 108), (2, 109), (0, f82_630), (0, f82_632), (2, 110), (2, 111), (2, 112), (2, 113)]) (hb659.get (by decide) h82_634) rfl rfl rfl (fun w661 hk662 hb663 => ?_)
          have hf664 : fld w661 82 2 = f82_604 := fld_of hk662
          have hf665 : fld w661 82 3 = f82_606 := fld_of hk662
          have hf666 : fld w661 82 4 = f82_608 := fld_of hk662
          have hf667 : fld w661 82 5 = f82_610 := fld_of hk662
          have hf668 : fld w661 82 6 = f82_612 := fld_of hk662
          have hf669 : fld w661 82 7 = f82_614 := fld_of hk662
          have hf670 : fld w661 82 8 = f82_616 := fld_of hk662
          have hf671 : fld w661 82 9 = f82_618 := fld_of hk662
          have hf672 : fld w661 82 10 = f82_620 := fld_of hk662
          have hf673 : fld w661 82 14 = f82_622 + 1 := fld_of hk662
          exact xg_e ⟨w661, ⟨rfl, rfl⟩, xMnv.up (S := [85, 82]) hI594 ((xFr.of (S := [85, 82]) hb659 (by decide)).tr (xFr.of (S := [85, 82]) hb663 (by decide))) (List.forall_mem_cons.mpr ⟨(show cpI 7 52 4294967295 (wget w661 85) from ⟨_, (hr658.but hb663 (by decide)), xrb (by omega) (hb651)⟩), List.forall_mem_cons.mpr ⟨(show cp82 (wget w661 82) from ⟨f82_604, f82_606, f82_608, f82_610, f82_612, f82_614, f82_616, f82_618, f82_620, f82_622 + 1, f82_624, f82_625, f82_626, f82_628, f82_630, f82_632, hk662, by omega, hb607, by omega, by omega, hb613, by omega, hb617, hb619, by omega, by omega, hb627, hb629, hb631, hb633, by omega⟩), fun _ h => absurd h List.not_mem_nil⟩⟩), (((((((hF50.tr (hF103.up (by decide))).tr (hF149.up (by decide))).tr (hF304.up (by decide))).tr (hF312.up (by decide))).tr (hF454.up (by decide))).tr (hF595.up (by decide))).tr ((xFr.of (S := [82, 83, 85, 86, 87]) hb659 (by decide)).tr (xFr.of (S := [82, 83, 85, 86, 87]) hb663 (by decide)))), ⟨Or.inl ⟨p_410, lf589, ⟨by have z := hk648.1; omega, (rwv_eq (j := 16) ((hb663.1 83 (by decide)).trans (hb659.1 83 (by decide)))).trans hk648.2.1, (rwv_eq (j := 17) ((hb663.1 83 (by decide)).trans (hb659.1 83 (by decide)))).trans hk648.2.2⟩⟩, ((((((((hj56.tr (K83.fr hF103 (by decide))).tr k8_153).tr (K83.fr hF304 (by decide))).tr k8_316).tr (K83.fr hF454 (by decide))).tr hv601).tr (K83.but hb659 (by decide))).tr (K83.but hb663 (by decide))), by omega⟩⟩
  refine xg_t (xg_iload (va := (0, u42)) rfl rfl) ?_
  refine xg_t (xg_iload (va := (0, 2)) rfl rfl) ?_
  refine xg_t (xg_cSr mX12_mostOf (vs := [(0, 2)]) (rest := [(0, u42)]) (rs := [(0, 6), (0, u42)]) (cn1 := 0) (sl1 := 0) rfl (mMostR2) rfl rfl rfl rfl rfl rfl rfl rfl) ?_
  by_cases hc674 : u42 < 6
  · refine xg_t (xg_icT (u := u42) (v := 6) rfl xnm0 xnm0 (xj_ltT hc674 (by omega))) ?_
    refine xg_t (xg_drop (l1 := [(0, (2, 82)), (1, (0, 2)), (2, (0, at_)), (3, (0, u42))]) (List.forall_mem_cons.mpr ⟨List.mem_cons_of_mem _ (List.mem_cons_of_mem _ (List.mem_cons_of_mem _ (List.mem_cons_self))), List.forall_mem_cons.mpr ⟨List.mem_cons_of_mem _ (List.mem_cons_of_mem _ (List.mem_cons_self)), List.forall_mem_cons.mpr ⟨List.mem_cons_of_mem _ (List.mem_cons_self), List.forall_mem_cons.mpr ⟨List.mem_cons_self, fun _ h => absurd h List.not_mem_nil⟩⟩⟩⟩)) ?_
    have he675 : flA B nn k = mf1 B nn k 2 (flA B nn k) := by unfold mf1; rw [decide_eq_false (show ¬ lim 2 ≤ lnC B nn 2 k from (show ¬ 6 ≤ lnC B nn 2 k by omega))]; rfl
    exact jn47 w (hI) (xFr.rf) (⟨by rw [← he675]; exact zF, z10, hT, z14, K83.rf, rfl, rfl, rfl⟩)
  · refine xg_t (xg_icF (u := u42) (v := 6) rfl xnm0 xnm0 (xj_ltF (by omega) (by omega))) ?_
    refine xg_t (xg_aload (va := (2, 82)) rfl rfl) ?_
    refine xg_t (xg_const) ?_
    refine xg_t (xg_iload (va := (0, at_)) rfl rfl) ?_
    refine xg_cVv mX12_also (vs := [(0, 3), (0, at_)]) (rest := []) (cn1 := 0) (sl1 := 0) rfl (mAlsoX (hI) (by omega) (by omega) (by omega) z10 zF) rfl h82_31 rfl rfl rfl rfl rfl rfl (fun w676 hq677 => ?_)
    obtain ⟨hI678, hF679, hx680⟩ := hq677
    obtain ⟨hv681, hv682⟩ := hx680
    refine xg_t (xg_drop (l1 := [(0, (2, 82)), (1, (0, 2)), (2, (0, at_)), (3, (0, u42))]) (List.forall_mem_cons.mpr ⟨List.mem_cons_of_mem _ (List.mem_cons_of_mem _ (List.mem_cons_of_mem _ (List.mem_cons_self))), List.forall_mem_cons.mpr ⟨List.mem_cons_of_mem _ (List.mem_cons_of_mem _ (List.mem_cons_self)), List.forall_mem_cons.mpr ⟨List.mem_cons_of_mem _ (List.mem_cons_self), List.forall_mem_cons.mpr ⟨List.mem_cons_self, fun _ h => absurd h List.not_mem_nil⟩⟩⟩⟩)) ?_
    have he683 : alo (flA B nn k) 3 at_ = mf1 B nn k 2 (flA B nn k) := by unfold mf1; rw [decide_eq_true (show lim 2 ≤ lnC B nn 2 k from (show 6 ≤ lnC B nn 2 k by omega)), hat, hp0]; rfl
    exact jn47 w676 (hI678) ((hF679.up (by decide))) (⟨by rw [← he683]; exact hv681, ((fld_eq (j := 10) (hF679.1 82 (by decide))).trans z10), (hT.fr (hF679.1 82 (by decide))), ((fld_eq (j := 14) (hF679.1 82 (by decide))).trans z14), hv682, (hF679.1 85 (by decide)), (hF679.1 86 (by decide)), (hF679.1 87 (by decide))⟩)
set_option maxHeartbeats 60000000 in
theorem mALnX3 {B : Nat → Nat} {nn k p0 : Nat} {at_ : Nat} (hI : xMnv w) (hB : bsm w B nn) (hp0 : p0 = lnP B nn k) (hT : TKM 0 B nn w p0) (hS : MST B nn w k) (hk5 : k ≤ 500) (hs : slt B nn (lnP B nn k) = 3) (hat : at_ = tq B nn p0) : xTo (d + 7) mX12_aLine (43, [], [(2, (0, at_)), (1, (0, 3)), (0, (2, 82))], [], (w, bd, fc, 0, 0, rr)) (fun φ => ∃ w', xEnd 0 [] (w', bd, fc, 0, 0, rr) φ ∧ xMnv w' ∧ xFr [82, 83, 85, 86, 87] w w' ∧ (((∃ q, lnR B nn p0 = (false, q) ∧ WRG w' (tq B nn q)) ∨ ((lnR B nn p0).1 = true ∧ TKM 0 B nn w' (lnP B nn (k + 1)) ∧ MST B nn w' (k + 1))) ∧ K83 w w' ∧ fld w 82 14 ≤ fld w' 82 14)) := by
  refine xoCh82 (hI 82 (by decide) (by decide) : cp82 (wget w 82)) (fun f82_1 f82_3 f82_5 f82_7 f82_9 f82_11 f82_13 f82_15 f82_17 f82_19 f82_21 f82_22 f82_23 f82_25 f82_27 f82_29 h82_31 hb2 hb4 hb6 hb8 hb10 hb12 hb14 hb16 hb18 hb20 hb24 hb26 hb28 hb30 hb32 => ?_)
  refine xoI (hI 85 (by decide) (by decide) : cpI 7 52 4294967295 (wget w 85)) (fun g85_33 h85_34 hb35 => ?_)
  refine xoI (hI 86 (by decide) (by decide) : cpI 140 53 4294967295 (wget w 86)) (fun g86_36 h86_37 hb38 => ?_)
  refine xoI (hI 87 (by decide) (by decide) : cpI 20 54 4294967295 (wget w 87)) (fun g87_39 h87_40 hb41 => ?_)
  obtain ⟨⟨z10, z14, zF, zp⟩, hm, hR⟩ := id hS
  have hkc := lnC_k (B := B) (n := nn) (s := 3) (k := k)
  have hq0 : at_ ≤ 500 := by
    have z1 := tf_gt (B := B) (n := nn) (p := p0) (by rw [slt_kd (by rw [hp0, hs]; decide)]; decide)
    have z2 := hB.1
    omega
  refine xg_t (xg_blk (b := [(43, 1, 0, 0, 0, 0), (44, 3, 1, 12, 11, 17), (47, 1, 2, 1, 0, 0), (48, 1, 10, 0, 0, 0), (49, 1, 15, 3, 0, 0), (50, 1, 2, 3, 0, 0), (51, 1, 2, 1, 0, 0), (52, 3, 13, 194, 98, 193), (55, 3, 6, 64, 2, 0), (58, 1, 0, 0, 0, 0), (59, 1, 3, 3, 0, 0), (60, 1, 2, 2, 0, 0), (61, 3, 13, 115, 96, 186)]) rfl) ?_
  refine xg_t (xg_aload (va := (2, 82)) rfl rfl) ?_
  refine xg_t (xg_getf (va := (2, 85)) h82_31 rfl) ?_
  refine xg_t (xg_iload (va := (0, 3)) rfl rfl) ?_
  refine xg_ialdB (n := 3) (B := 4294967295) h85_34 (hb35) xnm0 (by omega) (fun u42 hu43 he44 => ?_)
  have hK45 : u42 = lnC B nn 3 k := (((rwv_of h85_34 (by decide)).trans he44).symm).trans (hm 3 (by decide))
  have hl46 : u42 ≤ 500 := by omega
  refine xg_t (xg_istore (l1 := [(2, (0, at_)), (1, (0, 3)), (0, (2, 82))]) rfl rfl rfl) ?_
  have jn47 : ∀ (w48 : List (List xE)), xMnv w48 → xFr [82, 83, 85, 86, 87] w w48 → (FP w48 (mf1 B nn k 3 (flA B nn k)) ∧ fld w48 82 10 = 0 ∧ TKM 0 B nn w48 p0 ∧ fld w48 82 14 = k ∧ K83 w w48 ∧ wget w48 85 = wget w 85 ∧ wget w48 86 = wget w 86 ∧ wget w48 87 = wget w 87) → xTo (d + 7) mX12_aLine (64, [], [(0, (2, 82)), (1, (0, 3)), (2, (0, at_)), (3, (0, u42))], [], (w48, bd, fc, 0, 0, rr)) (fun φ => ∃ w', xEnd 0 [] (w', bd, fc, 0, 0, rr) φ ∧ xMnv w' ∧ xFr [82, 83, 85, 86, 87] w w' ∧ (((∃ q, lnR B nn p0 = (false, q) ∧ WRG w' (tq B nn q)) ∨ ((lnR B nn p0).1 = true ∧ TKM 0 B nn w' (lnP B nn (k + 1)) ∧ MST B nn w' (k + 1))) ∧ K83 w w' ∧ fld w 82 14 ≤ fld w' 82 14)) := by
    intro w48 hI49 hF50 he51
    obtain ⟨hj52, hj53, hj54, hj55, hj56, hj57, hj58, hj59⟩ := he51
    refine xg_t (xg_blk (b := [(64, 1, 0, 0, 0, 0), (65, 3, 13, 110, 96, 190), (68, 1, 2, 1, 0, 0), (69, 39, 33, 362, 0, 9)]) rfl) ?_
    refine xg_t (xg_aload (va := (2, 82)) rfl rfl) ?_
    obtain ⟨⟨ht60, ht61, ht62, ht63, ht64, ht65⟩, -⟩ := id hj54
    have hk66 := hj53
    have hk67 := hj55
    refine xoCh82 (hI49 82 (by decide) (by decide) : cp82 (wget w48 82)) (fun f82_68 f82_70 f82_72 f82_74 f82_76 f82_78 f82_80 f82_82 f82_84 f82_86 f82_88 f82_89 f82_90 f82_92 f82_94 f82_96 h82_98 hb69 hb71 hb73 hb75 hb77 hb79 hb81 hb83 hb85 hb87 hb91 hb93 hb95 hb97 hb99 => ?_)
    refine xg_cVv mX12_advance (vs := []) (rest := []) (cn1 := 0) (sl1 := 0) rfl (mAdvX (hI49) (hB.fr (fun j h4 h9 => hj56 j (by omega) (by omega) (by omega))) ht60 ht61 (by rw [ht62]; exact tf_le ht65)) rfl h82_98 rfl rfl rfl rfl rfl rfl (fun w100 hq101 => ?_)
    obtain ⟨hI102, hF103, hx104⟩ := hq101
    obtain ⟨hz105, hz106, hz107⟩ := hx104
    rw [ht62] at hz105
    clear ht60 ht61 ht62 ht63 ht64 ht65
    obtain ⟨p_108, hp109⟩ : ∃ x, x = tf B nn p0 := ⟨_, rfl⟩
    rw [← hp109] at hz105
    have k10_110 := hz106.trans hk66
    have k14_111 := hz107.trans hk67
    clear hz106 hz107 hk66 hk67
    have ln112 : lnR B nn p0 = lnN B nn 3 3 p_108 := by rw [hp109]; exact lnR_go (by rw [hp0]; exact hs) (by decide)
    refine xg_t (xg_iload (va := (0, 3)) rfl rfl) ?_
    refine xg_t (xg_swt (ks := [(0, 108), (1, 116), (2, 180), (3, 221), (4, 273), (5, 326)]) (u := 3) (z := 221) rfl rfl rfl xnm0 (xsw_n (by omega) (xsw_n (by omega) (xsw_n (by omega) (xsw_y rfl))))) ?_
    refine xg_t (xg_blk (b := [(221, 1, 3, 0, 0, 0), (222, 2, 15, 4, 0, 0)]) rfl) ?_
    refine xg_t (xg_const) ?_
    refine xg_t (xg_istore (l1 := [(0, (2, 82)), (1, (0, 3)), (2, (0, at_)), (3, (0, u42))]) rfl rfl rfl) ?_
    refine xg_t (xg_blk (b := [(224, 2, 2, 4, 0, 0), (226, 1, 3, 3, 0, 0), (227, 3, 6, 270, 3, 0), (230, 1, 0, 0, 0, 0), (231, 1, 2, 1, 0, 0), (232, 1, 2, 3, 0, 0), (233, 2, 4, 80, 0, 0), (235, 1, 3, 3, 0, 0), (236, 1, 2, 3, 0, 0), (237, 1, 16, 0, 0, 0), (238, 1, 11, 0, 0, 0), (239, 2, 2, 4, 0, 0), (241, 1, 11, 0, 0, 0), (242, 1, 0, 0, 0, 0), (243, 1, 3, 1, 0, 0), (244, 2, 2, 4, 0, 0), (246, 1, 3, 2, 0, 0), (247, 3, 6, 255, 3, 0), (250, 2, 4, 10, 0, 0), (252, 3, 8, 258, 0, 0)]) rfl) ?_
    refine xg_t (xg_iload (va := (0, 0)) rfl rfl) ?_
    refine xg_t (xg_const) ?_
    refine xg_t (xg_icF (u := 0) (v := 3) rfl xnm0 xnm0 (by decide)) ?_
    refine xg_t (xg_aload (va := (2, 82)) rfl rfl) ?_
    refine xg_t (xg_iload (va := (0, 3)) rfl rfl) ?_
    refine xg_t (xg_iload (va := (0, u42)) rfl rfl) ?_
    refine xg_t (xg_bip) ?_
    refine xg_t (xg_const) ?_
    refine xg_t (xg_iload (va := (0, u42)) rfl rfl) ?_
    refine xg_t (xg_imul (u := 3) (v := u42) (z := 3 * u42) xnm0 xnm0 (by omega)) ?_
    refine xg_t (xg_iadd (u := 80) (v := 3 * u42) (z := 80 + (3 * u42)) xnm0 xnm0 (by omega)) ?_
    refine xg_t (xg_iload (va := (0, 0)) rfl rfl) ?_
    refine xg_t (xg_iadd (u := 80 + (3 * u42)) (v := 0) (z := (80 + (3 * u42)) + 0) xnm0 xnm0 (by omega)) ?_
    refine xg_t (xg_aload (va := (2, 82)) rfl rfl) ?_
    refine xg_t (xg_const) ?_
    refine xg_t (xg_iload (va := (0, 0)) rfl rfl) ?_
    refine xg_t (xg_const) ?_
    refine xg_t (xg_icF (u := 0) (v := 2) rfl xnm0 xnm0 (by decide)) ?_
    refine xg_t (xg_bip) ?_
    refine xg_t (xg_goto) ?_
    refine xg_t (xg_blk (b := [(258, 3, 13, 199, 96, 196), (261, 3, 13, 211, 96, 200), (264, 3, 9, 4, 1, 0), (267, 3, 8, 224, 0, 0)]) rfl) ?_
    have hk113 := k14_111
    refine xoCh82 (hI102 82 (by decide) (by decide) : cp82 (wget w100 82)) (fun f82_114 f82_116 f82_118 f82_120 f82_122 f82_124 f82_126 f82_128 f82_130 f82_132 f82_134 f82_135 f82_136 f82_138 f82_140 f82_142 h82_144 hb115 hb117 hb119 hb121 hb123 hb125 hb127 hb129 hb131 hb133 hb137 hb139 hb141 hb143 hb145 => ?_)
    refine xg_cVi mX12_numbered (vs := [(0, 1), (0, 10)]) (rest := [(0, (80 + (3 * u42)) + 0), (0, u42), (0, 3), (2, 82)]) (cn1 := 0) (sl1 := 0) rfl (mNumX (ir := 0) (hI102) (by omega) (by omega) (hB.fr (fun j h4 h9 => (hj56.tr (K83.fr hF103 (by decide))) j (by omega) (by omega) (by omega))) k10_110 hz105 (hj52.k83 (rwv_eq (hF103.1 83 (by decide))) (rwv_eq (hF103.1 83 (by decide))))) rfl h82_144 rfl rfl rfl rfl rfl rfl (fun n150 w146 hq147 => ?_)
    obtain ⟨hn151, hI148, hF149⟩ := hq147
    obtain ⟨hx154, h14_152, k8_153⟩ := hn151
    have k14_155 := h14_152.trans hk113
    rcases hx154 with ⟨rfl, hk156, hW157⟩ | ⟨hv158, h9_159, hk156, k10_160, hT_161, hF_162⟩
    · have lf163 : lnR B nn p0 = (false, p_108) := ln112.trans (lnN_n (k := 2) hk156)
      refine xoCh82 (hI148 82 (by decide) (by decide) : cp82 (wget w146 82)) (fun f82_164 f82_166 f82_168 f82_170 f82_172 f82_174 f82_176 f82_178 f82_180 f82_182 f82_184 f82_185 f82_186 f82_188 f82_190 f82_192 h82_194 hb165 hb167 hb169 hb171 hb173 hb175 hb177 hb179 hb181 hb183 hb187 hb189 hb191 hb193 hb195 => ?_)
      refine xg_cVv mX12_puts (vs := [(0, 3), (0, u42), (0, (80 + (3 * u42)) + 0), (0, 0)]) (rest := []) (cn1 := 0) (sl1 := 0) rfl (mPuts3 (hI148) (by omega) (by omega) (by omega) (fun _ => by omega)) rfl h82_194 rfl rfl rfl rfl rfl rfl (fun w196 hq197 => ?_)
      obtain ⟨hI198, hF199, hx200⟩ := hq197
      obtain ⟨hp201, hp202⟩ := hx200
      refine xg_t (xg_iinc (u := 0) (z := 1) (l1 := [(0, (2, 82)), (1, (0, 3)), (2, (0, at_)), (3, (0, u42))]) rfl rfl (by decide) rfl) ?_
      refine xg_t (xg_goto) ?_
      refine xg_t (xg_blk (b := [(224, 2, 2, 4, 0, 0), (226, 1, 3, 3, 0, 0), (227, 3, 6, 270, 3, 0), (230, 1, 0, 0, 0, 0), (231, 1, 2, 1, 0, 0), (232, 1, 2, 3, 0, 0), (233, 2, 4, 80, 0, 0), (235, 1, 3, 3, 0, 0), (236, 1, 2, 3, 0, 0), (237, 1, 16, 0, 0, 0), (238, 1, 11, 0, 0, 0), (239, 2, 2, 4, 0, 0), (241, 1, 11, 0, 0, 0), (242, 1, 0, 0, 0, 0), (243, 1, 3, 1, 0, 0), (244, 2, 2, 4, 0, 0), (246, 1, 3, 2, 0, 0), (247, 3, 6, 255, 3, 0), (250, 2, 4, 10, 0, 0), (252, 3, 8, 258, 0, 0)]) rfl) ?_
      refine xg_t (xg_iload (va := (0, 1)) rfl rfl) ?_
      refine xg_t (xg_const) ?_
      refine xg_t (xg_icF (u := 1) (v := 3) rfl xnm0 xnm0 (by decide)) ?_
      refine xg_t (xg_aload (va := (2, 82)) rfl rfl) ?_
      refine xg_t (xg_iload (va := (0, 3)) rfl rfl) ?_
      refine xg_t (xg_iload (va := (0, u42)) rfl rfl) ?_
      refine xg_t (xg_bip) ?_
      refine xg_t (xg_const) ?_
      refine xg_t (xg_iload (va := (0, u42)) rfl rfl) ?_
      refine xg_t (xg_imul (u := 3) (v := u42) (z := 3 * u42) xnm0 xnm0 (by omega)) ?_
      refine xg_t (xg_iadd (u := 80) (v := 3 * u42) (z := 80 + (3 * u42)) xnm0 xnm0 (by omega)) ?_
      refine xg_t (xg_iload (va := (0, 1)) rfl rfl) ?_
      refine xg_t (xg_iadd (u := 80 + (3 * u42)) (v := 1) (z := (80 + (3 * u42)) + 1) xnm0 xnm0 (by omega)) ?_
      refine xg_t (xg_aload (va := (2, 82)) rfl rfl) ?_
      refine xg_t (xg_const) ?_
      refine xg_t (xg_iload (va := (0, 1)) rfl rfl) ?_
      refine xg_t (xg_const) ?_
      refine xg_t (xg_icF (u := 1) (v := 2) rfl xnm0 xnm0 (by decide)) ?_
      refine xg_t (xg_bip) ?_
      refine xg_t (xg_goto) ?_
      refine xg_t (xg_blk (b := [(258, 3, 13, 199, 96, 196), (261, 3, 13, 211, 96, 200), (264, 3, 9, 4, 1, 0), (267, 3, 8, 224, 0, 0)]) rfl) ?_
      refine xg_cVi mX12_numbered (vs := [(0, 1), (0, 10)]) (rest := [(0, (80 + (3 * u42)) + 1), (0, u42), (0, 3), (2, 82)]) (cn1 := 0) (sl1 := 0) rfl (mNumW (hI198) (by omega) (by omega) (by have q := hW157.1; have q2 := fld_eq (j := 10) (hF199.1 82 (by decide)); omega)) rfl (hF199.get (by decide) h82_194) rfl rfl rfl rfl rfl rfl (fun n207 w203 hq204 => ?_)
      obtain ⟨hn208, hI205, hF206⟩ := hq204
      obtain rfl := hn208
      refine xg_cVv mX12_puts (vs := [(0, 3), (0, u42), (0, (80 + (3 * u42)) + 1), (0, 0)]) (rest := []) (cn1 := 0) (sl1 := 0) rfl (mPuts3 (hI205) (by omega) (by omega) (by omega) (fun _ => by omega)) rfl (hF206.get (by decide) (hF199.get (by decide) h82_194)) rfl rfl rfl rfl rfl rfl (fun w209 hq210 => ?_)
      obtain ⟨hI211, hF212, hx213⟩ := hq210
      obtain ⟨hp214, hp215⟩ := hx213
      refine xg_t (xg_iinc (u := 1) (z := 2) (l1 := [(0, (2, 82)), (1, (0, 3)), (2, (0, at_)), (3, (0, u42))]) rfl rfl (by decide) rfl) ?_
      refine xg_t (xg_goto) ?_
      refine xg_t (xg_blk (b := [(224, 2, 2, 4, 0, 0), (226, 1, 3, 3, 0, 0), (227, 3, 6, 270, 3, 0), (230, 1, 0, 0, 0, 0), (231, 1, 2, 1, 0, 0), (232, 1, 2, 3, 0, 0), (233, 2, 4, 80, 0, 0), (235, 1, 3, 3, 0, 0), (236, 1, 2, 3, 0, 0), (237, 1, 16, 0, 0, 0), (238, 1, 11, 0, 0, 0), (239, 2, 2, 4, 0, 0), (241, 1, 11, 0, 0, 0), (242, 1, 0, 0, 0, 0), (243, 1, 3, 1, 0, 0), (244, 2, 2, 4, 0, 0), (246, 1, 3, 2, 0, 0), (247, 3, 6, 255, 3, 0), (250, 2, 4, 10, 0, 0), (252, 3, 8, 258, 0, 0)]) rfl) ?_
      refine xg_t (xg_iload (va := (0, 2)) rfl rfl) ?_
      refine xg_t (xg_const) ?_
      refine xg_t (xg_icF (u := 2) (v := 3) rfl xnm0 xnm0 (by decide)) ?_
      refine xg_t (xg_aload (va := (2, 82)) rfl rfl) ?_
      refine xg_t (xg_iload (va := (0, 3)) rfl rfl) ?_
      refine xg_t (xg_iload (va := (0, u42)) rfl rfl) ?_
      refine xg_t (xg_bip) ?_
      refine xg_t (xg_const) ?_
      refine xg_t (xg_iload (va := (0, u42)) rfl rfl) ?_
      refine xg_t (xg_imul (u := 3) (v := u42) (z := 3 * u42) xnm0 xnm0 (by omega)) ?_
      refine xg_t (xg_iadd (u := 80) (v := 3 * u42) (z := 80 + (3 * u42)) xnm0 xnm0 (by omega)) ?_
      refine xg_t (xg_iload (va := (0, 2)) rfl rfl) ?_
      refine xg_t (xg_iadd (u := 80 + (3 * u42)) (v := 2) (z := (80 + (3 * u42)) + 2) xnm0 xnm0 (by omega)) ?_
      refine xg_t (xg_aload (va := (2, 82)) rfl rfl) ?_
      refine xg_t (xg_const) ?_
      refine xg_t (xg_iload (va := (0, 2)) rfl rfl) ?_
      refine xg_t (xg_const) ?_
      refine xg_t (xg_icT (u := 2) (v := 2) rfl xnm0 xnm0 (by decide)) ?_
      refine xg_t (xg_blk (b := [(255, 3, 5, 999, 0, 0)]) rfl) ?_
      refine xg_t (xg_sip) ?_
      refine xg_t (xg_blk (b := [(258, 3, 13, 199, 96, 196), (261, 3, 13, 211, 96, 200), (264, 3, 9, 4, 1, 0), (267, 3, 8, 224, 0, 0)]) rfl) ?_
      refine xg_cVi mX12_numbered (vs := [(0, 1), (0, 999)]) (rest := [(0, (80 + (3 * u42)) + 2), (0, u42), (0, 3), (2, 82)]) (cn1 := 0) (sl1 := 0) rfl (mNumW (hI211) (by omega) (by omega) (by have q := hW157.1; have q2 := fld_eq (j := 10) ((hF212.1 82 (by decide)).trans ((hF206.1 82 (by decide)).trans (hF199.1 82 (by decide)))); omega)) rfl (hF212.get (by decide) (hF206.get (by decide) (hF199.get (by decide) h82_194))) rfl rfl rfl rfl rfl rfl (fun n220 w216 hq217 => ?_)
      obtain ⟨hn221, hI218, hF219⟩ := hq217
      obtain rfl := hn221
      refine xg_cVv mX12_puts (vs := [(0, 3), (0, u42), (0, (80 + (3 * u42)) + 2), (0, 0)]) (rest := []) (cn1 := 0) (sl1 := 0) rfl (mPuts3 (hI218) (by omega) (by omega) (by omega) (fun _ => by omega)) rfl (hF219.get (by decide) (hF212.get (by decide) (hF206.get (by decide) (hF199.get (by decide) h82_194)))) rfl rfl rfl rfl rfl rfl (fun w222 hq223 => ?_)
      obtain ⟨hI224, hF225, hx226⟩ := hq223
      obtain ⟨hp227, hp228⟩ := hx226
      refine xg_t (xg_iinc (u := 2) (z := 3) (l1 := [(0, (2, 82)), (1, (0, 3)), (2, (0, at_)), (3, (0, u42))]) rfl rfl (by decide) rfl) ?_
      refine xg_t (xg_goto) ?_
      refine xg_t (xg_blk (b := [(224, 2, 2, 4, 0, 0), (226, 1, 3, 3, 0, 0), (227, 3, 6, 270, 3, 0), (230, 1, 0, 0, 0, 0), (231, 1, 2, 1, 0, 0), (232, 1, 2, 3, 0, 0), (233, 2, 4, 80, 0, 0), (235, 1, 3, 3, 0, 0), (236, 1, 2, 3, 0, 0), (237, 1, 16, 0, 0, 0), (238, 1, 11, 0, 0, 0), (239, 2, 2, 4, 0, 0), (241, 1, 11, 0, 0, 0), (242, 1, 0, 0, 0, 0), (243, 1, 3, 1, 0, 0), (244, 2, 2, 4, 0, 0), (246, 1, 3, 2, 0, 0), (247, 3, 6, 255, 3, 0), (250, 2, 4, 10, 0, 0), (252, 3, 8, 258, 0, 0)]) rfl) ?_
      refine xg_t (xg_iload (va := (0, 3)) rfl rfl) ?_
      refine xg_t (xg_const) ?_
      refine xg_t (xg_icT (u := 3) (v := 3) rfl xnm0 xnm0 (by decide)) ?_
      refine xg_t (xg_blk (b := [(270, 3, 8, 394, 0, 0)]) rfl) ?_
      refine xg_t (xg_goto) ?_
      refine xg_t (xg_blk (b := [(394, 1, 0, 0, 0, 0), (395, 3, 1, 12, 10, 180), (398, 3, 7, 416, 1, 0), (401, 1, 0, 0, 0, 0), (402, 3, 1, 12, 7, 151), (405, 1, 3, 2, 0, 0), (406, 3, 6, 416, 1, 0), (409, 1, 0, 0, 0, 0), (410, 3, 13, 110, 96, 190), (413, 3, 8, 420, 0, 0)]) rfl) ?_
      refine xg_t (xg_aload (va := (2, 82)) rfl rfl) ?_
      refine xg_t (xg_getf (va := (0, f82_180)) (hF225.get (by decide) (hF219.get (by decide) (hF212.get (by decide) (hF206.get (by decide) (hF199.get (by decide) h82_194))))) rfl) ?_
      have hf229 : fld w222 82 10 = f82_180 := fld_of (hF225.get (by decide) (hF219.get (by decide) (hF212.get (by decide) (hF206.get (by decide) (hF199.get (by decide) h82_194)))))
      have hk230 : fld w222 82 10 ≠ 0 := (by have q := hW157.1; have q2 := fld_eq (j := 10) ((hF225.1 82 (by decide)).trans ((hF219.1 82 (by decide)).trans ((hF212.1 82 (by decide)).trans ((hF206.1 82 (by decide)).trans (hF199.1 82 (by decide)))))); omega)
      refine xg_t (xg_ifT (u := f82_180) rfl xnm0 (xj_neT (by omega))) ?_
      refine xg_t (xg_blk (b := [(416, 1, 0, 0, 0, 0), (417, 3, 13, 140, 96, 183)]) rfl) ?_
      refine xg_t (xg_aload (va := (2, 82)) rfl rfl) ?_
      refine xg_cVv mX12_ends (vs := []) (rest := []) (cn1 := 0) (sl1 := 0) rfl (mEndsW (hI224) (by have q := hW157.1; have q2 := fld_eq (j := 10) ((hF225.1 82 (by decide)).trans ((hF219.1 82 (by decide)).trans ((hF212.1 82 (by decide)).trans ((hF206.1 82 (by decide)).trans (hF199.1 82 (by decide)))))); omega)) rfl (hF225.get (by decide) (hF219.get (by decide) (hF212.get (by decide) (hF206.get (by decide) (hF199.get (by decide) h82_194))))) rfl rfl rfl rfl rfl rfl (fun w231 hq232 => ?_)
      obtain ⟨hI233, hF234⟩ := hq232
      refine xg_t (xg_blk (b := [(420, 1, 0, 0, 0, 0), (421, 3, 1, 12, 11, 17), (424, 1, 2, 1, 0, 0), (425, 1, 39, 0, 0, 0), (426, 1, 10, 0, 0, 0), (427, 1, 3, 1, 0, 0), (428, 1, 11, 0, 0, 0), (429, 1, 17, 0, 0, 0), (430, 1, 0, 0, 0, 0), (431, 1, 19, 0, 0, 0), (432, 3, 1, 12, 14, 212), (435, 1, 3, 1, 0, 0), (436, 1, 11, 0, 0, 0), (437, 3, 14, 12, 14, 212), (440, 1, 12, 0, 0, 0)]) rfl) ?_
      have hf235 : fld w231 82 2 = f82_164 := fld_of (hF234.get (by decide) (hF225.get (by decide) (hF219.get (by decide) (hF212.get (by decide) (hF206.get (by decide) (hF199.get (by decide) h82_194))))))
      have hf236 : fld w231 82 3 = f82_166 := fld_of (hF234.get (by decide) (hF225.get (by decide) (hF219.get (by decide) (hF212.get (by decide) (hF206.get (by decide) (hF199.get (by decide) h82_194))))))
      have hf237 : fld w231 82 4 = f82_168 := fld_of (hF234.get (by decide) (hF225.get (by decide) (hF219.get (by decide) (hF212.get (by decide) (hF206.get (by decide) (hF199.get (by decide) h82_194))))))
      have hf238 : fld w231 82 5 = f82_170 := fld_of (hF234.get (by decide) (hF225.get (by decide) (hF219.get (by decide) (hF212.get (by decide) (hF206.get (by decide) (hF199.get (by decide) h82_194))))))
      have hf239 : fld w231 82 6 = f82_172 := fld_of (hF234.get (by decide) (hF225.get (by decide) (hF219.get (by decide) (hF212.get (by decide) (hF206.get (by decide) (hF199.get (by decide) h82_194))))))
      have hf240 : fld w231 82 7 = f82_174 := fld_of (hF234.get (by decide) (hF225.get (by decide) (hF219.get (by decide) (hF212.get (by decide) (hF206.get (by decide) (hF199.get (by decide) h82_194))))))
      have hf241 : fld w231 82 8 = f82_176 := fld_of (hF234.get (by decide) (hF225.get (by decide) (hF219.get (by decide) (hF212.get (by decide) (hF206.get (by decide) (hF199.get (by decide) h82_194))))))
      have hf242 : fld w231 82 9 = f82_178 := fld_of (hF234.get (by decide) (hF225.get (by decide) (hF219.get (by decide) (hF212.get (by decide) (hF206.get (by decide) (hF199.get (by decide) h82_194))))))
      have hf243 : fld w231 82 10 = f82_180 := fld_of (hF234.get (by decide) (hF225.get (by decide) (hF219.get (by decide) (hF212.get (by decide) (hF206.get (by decide) (hF199.get (by decide) h82_194))))))
      have hf244 : fld w231 82 14 = f82_182 := fld_of (hF234.get (by decide) (hF225.get (by decide) (hF219.get (by decide) (hF212.get (by decide) (hF206.get (by decide) (hF199.get (by decide) h82_194))))))
      have hk245 := ((fld_eq (j := 14) ((hF234.1 82 (by decide)).trans ((hF225.1 82 (by decide)).trans ((hF219.1 82 (by decide)).trans ((hF212.1 82 (by decide)).trans ((hF206.1 82 (by decide)).trans (hF199.1 82 (by decide)))))))).trans k14_155)
      have hl246 : f82_182 ≤ 500 := by omega
      have hk247 : WRG w231 (tq B nn p_108) := ⟨(fld_eq (j := 10) ((hF234.1 82 (by decide)).trans ((hF225.1 82 (by decide)).trans ((hF219.1 82 (by decide)).trans ((hF212.1 82 (by decide)).trans ((hF206.1 82 (by decide)).trans (hF199.1 82 (by decide)))))))).trans hW157.1, (rwv_eq (j := 16) ((hF234.1 83 (by decide)).trans ((hF225.1 83 (by decide)).trans ((hF219.1 83 (by decide)).trans ((hF212.1 83 (by decide)).trans ((hF206.1 83 (by decide)).trans (hF199.1 83 (by decide)))))))).trans hW157.2.1, (rwv_eq (j := 17) ((hF234.1 83 (by decide)).trans ((hF225.1 83 (by decide)).trans ((hF219.1 83 (by decide)).trans ((hF212.1 83 (by decide)).trans ((hF206.1 83 (by decide)).trans (hF199.1 83 (by decide)))))))).trans hW157.2.2⟩
      refine xg_t (xg_aload (va := (2, 82)) rfl rfl) ?_
      refine xg_t (xg_getf (va := (2, 85)) (hF234.get (by decide) (hF225.get (by decide) (hF219.get (by decide) (hF212.get (by decide) (hF206.get (by decide) (hF199.get (by decide) h82_194)))))) rfl) ?_
      refine xg_t (xg_iload (va := (0, 3)) rfl rfl) ?_
      refine xg_t (xg_dup2 rfl) ?_
      refine xoI (hI233 85 (by decide) (by decide) : cpI 7 52 4294967295 (wget w231 85)) (fun g85_248 h85_249 hb250 => ?_)
      refine xg_ialdB (n := 3) (B := 4294967295) h85_249 (hb250) xnm0 (by omega) (fun u251 hu252 he253 => ?_)
      have hK254 : u251 = u42 := (((rwv_of h85_249 (by decide)).trans he253).symm.trans (rwv_eq ((hF234.1 85 (by decide)).trans ((hF225.1 85 (by decide)).trans ((hF219.1 85 (by decide)).trans ((hF212.1 85 (by decide)).trans ((hF206.1 85 (by decide)).trans ((hF199.1 85 (by decide)).trans ((hF149.1 85 (by decide)).trans ((hF103.1 85 (by decide)).trans hj57)))))))))).trans ((hm 3 (by decide)).trans hK45.symm)
      have hl255 : u251 ≤ 500 := by omega
      refine xg_t (xg_const) ?_
      refine xg_t (xg_iadd (u := u251) (v := 1) (z := u251 + 1) xnm0 xnm0 (by omega)) ?_
      refine xg_iastK (n := 3) (u := u251 + 1) h85_249 xnm0 xnm0 rfl (by omega) (fun w256 hr257 hb258 => ?_)
      refine xg_t (xg_aload (va := (2, 82)) rfl rfl) ?_
      refine xg_t (xg_dup rfl) ?_
      refine xg_t (xg_getf (va := (0, f82_182)) (hb258.get (by decide) (hF234.get (by decide) (hF225.get (by decide) (hF219.get (by decide) (hF212.get (by decide) (hF206.get (by decide) (hF199.get (by decide) h82_194))))))) rfl) ?_
      have hn259 := id hb183
      unfold xHid at hn259
      refine xg_t (xg_const) ?_
      refine xg_t (xg_iadd (u := f82_182) (v := 1) (z := f82_182 + 1) xnm0 xnm0 (by omega)) ?_
      refine xg_putI (fl1 := [(2, 83), (2, 84), (0, f82_164), (0, f82_166), (0, f82_168), (0, f82_170), (0, f82_172), (0, f82_174), (0, f82_176), (0, f82_178), (0, f82_180), (2, 85), (2, 86), (2, 87), (0, f82_182 + 1), (2, 88), (2, 89), (2, 90), (2, 91), (2, 92), (2, 93), (2, 94), (4, f82_184), (4, f82_185), (0, f82_186), (2, 95), (2, 96), (2, 97), (2, 98), (2, 99), (2, 100), (2, 101), (2, 102), (0, f82_188), (2, 103), (2, 104), (2, 105), (2, 106), (2, 107), (2, 108), (2, 109), (0, f82_190), (0, f82_192), (2, 110), (2, 111), (2, 112), (2, 113)]) (hb258.get (by decide) (hF234.get (by decide) (hF225.get (by decide) (hF219.get (by decide) (hF212.get (by decide) (hF206.get (by decide) (hF199.get (by decide) h82_194))))))) rfl rfl rfl (fun w260 hk261 hb262 => ?_)
      have hf263 : fld w260 82 2 = f82_164 := fld_of hk261
      have hf264 : fld w260 82 3 = f82_166 := fld_of hk261
      have hf265 : fld w260 82 4 = f82_168 := fld_of hk261
      have hf266 : fld w260 82 5 = f82_170 := fld_of hk261
      have hf267 : fld w260 82 6 = f82_172 := fld_of hk261
      have hf268 : fld w260 82 7 = f82_174 := fld_of hk261
      have hf269 : fld w260 82 8 = f82_176 := fld_of hk261
      have hf270 : fld w260 82 9 = f82_178 := fld_of hk261
      have hf271 : fld w260 82 10 = f82_180 := fld_of hk261
      have hf272 : fld w260 82 14 = f82_182 + 1 := fld_of hk261
      exact xg_e ⟨w260, ⟨rfl, rfl⟩, xMnv.up (S := [85, 82]) hI233 ((xFr.of (S := [85, 82]) hb258 (by decide)).tr (xFr.of (S := [85, 82]) hb262 (by decide))) (List.forall_mem_cons.mpr ⟨(show cpI 7 52 4294967295 (wget w260 85) from ⟨_, (hr257.but hb262 (by decide)), xrb (by omega) (hb250)⟩), List.forall_mem_cons.mpr ⟨(show cp82 (wget w260 82) from ⟨f82_164, f82_166, f82_168, f82_170, f82_172, f82_174, f82_176, f82_178, f82_180, f82_182 + 1, f82_184, f82_185, f82_186, f82_188, f82_190, f82_192, hk261, by omega, hb167, by omega, by omega, hb173, by omega, hb177, hb179, by omega, by omega, hb187, hb189, hb191, hb193, by omega⟩), fun _ h => absurd h List.not_mem_nil⟩⟩), (((((((((hF50.tr (hF103.up (by decide))).tr (hF149.up (by decide))).tr (hF199.up (by decide))).tr (hF206.up (by decide))).tr (hF212.up (by decide))).tr (hF219.up (by decide))).tr (hF225.up (by decide))).tr (hF234.up (by decide))).tr ((xFr.of (S := [82, 83, 85, 86, 87]) hb258 (by decide)).tr (xFr.of (S := [82, 83, 85, 86, 87]) hb262 (by decide)))), ⟨Or.inl ⟨p_108, lf163, ⟨by have z := hk247.1; omega, (rwv_eq (j := 16) ((hb262.1 83 (by decide)).trans (hb258.1 83 (by decide)))).trans hk247.2.1, (rwv_eq (j := 17) ((hb262.1 83 (by decide)).trans (hb258.1 83 (by decide)))).trans hk247.2.2⟩⟩, ((((((((((hj56.tr (K83.fr hF103 (by decide))).tr k8_153).tr (K83.fr hF199 (by decide))).tr (K83.fr hF206 (by decide))).tr (K83.fr hF212 (by decide))).tr (K83.fr hF219 (by decide))).tr (K83.fr hF225 (by decide))).tr (K83.fr hF234 (by decide))).tr (K83.but hb258 (by decide))).tr (K83.but hb262 (by decide))), by omega⟩⟩
    · obtain ⟨p_273, hp274⟩ : ∃ x, x = tf B nn p_108 := ⟨_, rfl⟩
      rw [← hp274] at hT_161
      have ln275 : lnR B nn p0 = lnN B nn 3 2 p_273 := by rw [hp274]; exact ln112.trans (lnN_y (k := 2) hk156)
      have vp276 : vlp B nn (lnP B nn k) 0 = p_108 := by rw [← hp0]; exact hp109.symm
      have vl277 : vln B nn (lnP B nn k) 0 = tnu B nn p_108 := by
        show (if (0 : Nat) = 3 then _ else tnu B nn (vlp B nn (lnP B nn k) 0)) = _
        rw [if_neg (by decide), vp276]
      have he279 : (chk (mf1 B nn k 3 (flA B nn k)) 1 10 (tnu B nn p_108) (tq B nn p_108)) = (mf2 B nn k 3 (flA B nn k)) := by show _ = chk (mf1 B nn k 3 (flA B nn k)) 1 10 (vln B nn (lnP B nn k) 0) (tq B nn (vlp B nn (lnP B nn k) 0)); rw [vl277, vp276]
      have hF_278 := hF_162
      rw [he279] at hF_278
      have he281 : (mf2 B nn k 3 (flA B nn k)) = (mf3 B nn k 3 (flA B nn k)) := rfl
      have hF_280 := hF_278
      rw [he281] at hF_280
      refine xoCh82 (hI148 82 (by decide) (by decide) : cp82 (wget w146 82)) (fun f82_282 f82_284 f82_286 f82_288 f82_290 f82_292 f82_294 f82_296 f82_298 f82_300 f82_302 f82_303 f82_304 f82_306 f82_308 f82_310 h82_312 hb283 hb285 hb287 hb289 hb291 hb293 hb295 hb297 hb299 hb301 hb305 hb307 hb309 hb311 hb313 => ?_)
      refine xg_cVv mX12_puts (vs := [(0, 3), (0, u42), (0, (80 + (3 * u42)) + 0), (0, n150)]) (rest := []) (cn1 := 0) (sl1 := 0) rfl (mPuts3 (hI148) (by omega) (by omega) (by omega) (fun _ => by omega)) rfl h82_312 rfl rfl rfl rfl rfl rfl (fun w314 hq315 => ?_)
      obtain ⟨hI316, hF317, hx318⟩ := hq315
      obtain ⟨hp319, hp320⟩ := hx318
      refine xg_t (xg_iinc (u := 0) (z := 1) (l1 := [(0, (2, 82)), (1, (0, 3)), (2, (0, at_)), (3, (0, u42))]) rfl rfl (by decide) rfl) ?_
      refine xg_t (xg_goto) ?_
      refine xg_t (xg_blk (b := [(224, 2, 2, 4, 0, 0), (226, 1, 3, 3, 0, 0), (227, 3, 6, 270, 3, 0), (230, 1, 0, 0, 0, 0), (231, 1, 2, 1, 0, 0), (232, 1, 2, 3, 0, 0), (233, 2, 4, 80, 0, 0), (235, 1, 3, 3, 0, 0), (236, 1, 2, 3, 0, 0), (237, 1, 16, 0, 0, 0), (238, 1, 11, 0, 0, 0), (239, 2, 2, 4, 0, 0), (241, 1, 11, 0, 0, 0), (242, 1, 0, 0, 0, 0), (243, 1, 3, 1, 0, 0), (244, 2, 2, 4, 0, 0), (246, 1, 3, 2, 0, 0), (247, 3, 6, 255, 3, 0), (250, 2, 4, 10, 0, 0), (252, 3, 8, 258, 0, 0)]) rfl) ?_
      refine xg_t (xg_iload (va := (0, 1)) rfl rfl) ?_
      refine xg_t (xg_const) ?_
      refine xg_t (xg_icF (u := 1) (v := 3) rfl xnm0 xnm0 (by decide)) ?_
      refine xg_t (xg_aload (va := (2, 82)) rfl rfl) ?_
      refine xg_t (xg_iload (va := (0, 3)) rfl rfl) ?_
      refine xg_t (xg_iload (va := (0, u42)) rfl rfl) ?_
      refine xg_t (xg_bip) ?_
      refine xg_t (xg_const) ?_
      refine xg_t (xg_iload (va := (0, u42)) rfl rfl) ?_
      refine xg_t (xg_imul (u := 3) (v := u42) (z := 3 * u42) xnm0 xnm0 (by omega)) ?_
      refine xg_t (xg_iadd (u := 80) (v := 3 * u42) (z := 80 + (3 * u42)) xnm0 xnm0 (by omega)) ?_
      refine xg_t (xg_iload (va := (0, 1)) rfl rfl) ?_
      refine xg_t (xg_iadd (u := 80 + (3 * u42)) (v := 1) (z := (80 + (3 * u42)) + 1) xnm0 xnm0 (by omega)) ?_
      refine xg_t (xg_aload (va := (2, 82)) rfl rfl) ?_
      refine xg_t (xg_const) ?_
      refine xg_t (xg_iload (va := (0, 1)) rfl rfl) ?_
      refine xg_t (xg_const) ?_
      refine xg_t (xg_icF (u := 1) (v := 2) rfl xnm0 xnm0 (by decide)) ?_
      refine xg_t (xg_bip) ?_
      refine xg_t (xg_goto) ?_
      refine xg_t (xg_blk (b := [(258, 3, 13, 199, 96, 196), (261, 3, 13, 211, 96, 200), (264, 3, 9, 4, 1, 0), (267, 3, 8, 224, 0, 0)]) rfl) ?_
      have hk321 := ((fld_eq (j := 14) (hF317.1 82 (by decide))).trans k14_155)
      refine xg_cVi mX12_numbered (vs := [(0, 1), (0, 10)]) (rest := [(0, (80 + (3 * u42)) + 1), (0, u42), (0, 3), (2, 82)]) (cn1 := 0) (sl1 := 0) rfl (mNumX (ir := 0) (hI316) (by omega) (by omega) (hB.fr (fun j h4 h9 => (((hj56.tr (K83.fr hF103 (by decide))).tr k8_153).tr (K83.fr hF317 (by decide))) j (by omega) (by omega) (by omega))) ((fld_eq (j := 10) (hF317.1 82 (by decide))).trans k10_160) (hT_161.fr (hF317.1 82 (by decide))) (hF_280.k83 (rwv_eq (hF317.1 83 (by decide))) (rwv_eq (hF317.1 83 (by decide))))) rfl (hF317.get (by decide) h82_312) rfl rfl rfl rfl rfl rfl (fun n326 w322 hq323 => ?_)
      obtain ⟨hn327, hI324, hF325⟩ := hq323
      obtain ⟨hx330, h14_328, k8_329⟩ := hn327
      have k14_331 := h14_328.trans hk321
      rcases hx330 with ⟨rfl, hk332, hW333⟩ | ⟨hv334, h9_335, hk332, k10_336, hT_337, hF_338⟩
      · have lf339 : lnR B nn p0 = (false, p_273) := ln275.trans (lnN_n (k := 1) hk332)
        refine xoCh82 (hI324 82 (by decide) (by decide) : cp82 (wget w322 82)) (fun f82_340 f82_342 f82_344 f82_346 f82_348 f82_350 f82_352 f82_354 f82_356 f82_358 f82_360 f82_361 f82_362 f82_364 f82_366 f82_368 h82_370 hb341 hb343 hb345 hb347 hb349 hb351 hb353 hb355 hb357 hb359 hb363 hb365 hb367 hb369 hb371 => ?_)
        refine xg_cVv mX12_puts (vs := [(0, 3), (0, u42), (0, (80 + (3 * u42)) + 1), (0, 0)]) (rest := []) (cn1 := 0) (sl1 := 0) rfl (mPuts3 (hI324) (by omega) (by omega) (by omega) (fun _ => by omega)) rfl h82_370 rfl rfl rfl rfl rfl rfl (fun w372 hq373 => ?_)
        obtain ⟨hI374, hF375, hx376⟩ := hq373
        obtain ⟨hp377, hp378⟩ := hx376
        refine xg_t (xg_iinc (u := 1) (z := 2) (l1 := [(0, (2, 82)), (1, (0, 3)), (2, (0, at_)), (3, (0, u42))]) rfl rfl (by decide) rfl) ?_
        refine xg_t (xg_goto) ?_
        refine xg_t (xg_blk (b := [(224, 2, 2, 4, 0, 0), (226, 1, 3, 3, 0, 0), (227, 3, 6, 270, 3, 0), (230, 1, 0, 0, 0, 0), (231, 1, 2, 1, 0, 0), (232, 1, 2, 3, 0, 0), (233, 2, 4, 80, 0, 0), (235, 1, 3, 3, 0, 0), (236, 1, 2, 3, 0, 0), (237, 1, 16, 0, 0, 0), (238, 1, 11, 0, 0, 0), (239, 2, 2, 4, 0, 0), (241, 1, 11, 0, 0, 0), (242, 1, 0, 0, 0, 0), (243, 1, 3, 1, 0, 0), (244, 2, 2, 4, 0, 0), (246, 1, 3, 2, 0, 0), (247, 3, 6, 255, 3, 0), (250, 2, 4, 10, 0, 0), (252, 3, 8, 258, 0, 0)]) rfl) ?_
        refine xg_t (xg_iload (va := (0, 2)) rfl rfl) ?_
        refine xg_t (xg_const) ?_
        refine xg_t (xg_icF (u := 2) (v := 3) rfl xnm0 xnm0 (by decide)) ?_
        refine xg_t (xg_aload (va := (2, 82)) rfl rfl) ?_
        refine xg_t (xg_iload (va := (0, 3)) rfl rfl) ?_
        refine xg_t (xg_iload (va := (0, u42)) rfl rfl) ?_
        refine xg_t (xg_bip) ?_
        refine xg_t (xg_const) ?_
        refine xg_t (xg_iload (va := (0, u42)) rfl rfl) ?_
        refine xg_t (xg_imul (u := 3) (v := u42) (z := 3 * u42) xnm0 xnm0 (by omega)) ?_
        refine xg_t (xg_iadd (u := 80) (v := 3 * u42) (z := 80 + (3 * u42)) xnm0 xnm0 (by omega)) ?_
        refine xg_t (xg_iload (va := (0, 2)) rfl rfl) ?_
        refine xg_t (xg_iadd (u := 80 + (3 * u42)) (v := 2) (z := (80 + (3 * u42)) + 2) xnm0 xnm0 (by omega)) ?_
        refine xg_t (xg_aload (va := (2, 82)) rfl rfl) ?_
        refine xg_t (xg_const) ?_
        refine xg_t (xg_iload (va := (0, 2)) rfl rfl) ?_
        refine xg_t (xg_const) ?_
        refine xg_t (xg_icT (u := 2) (v := 2) rfl xnm0 xnm0 (by decide)) ?_
        refine xg_t (xg_blk (b := [(255, 3, 5, 999, 0, 0)]) rfl) ?_
        refine xg_t (xg_sip) ?_
        refine xg_t (xg_blk (b := [(258, 3, 13, 199, 96, 196), (261, 3, 13, 211, 96, 200), (264, 3, 9, 4, 1, 0), (267, 3, 8, 224, 0, 0)]) rfl) ?_
        refine xg_cVi mX12_numbered (vs := [(0, 1), (0, 999)]) (rest := [(0, (80 + (3 * u42)) + 2), (0, u42), (0, 3), (2, 82)]) (cn1 := 0) (sl1 := 0) rfl (mNumW (hI374) (by omega) (by omega) (by have q := hW333.1; have q2 := fld_eq (j := 10) (hF375.1 82 (by decide)); omega)) rfl (hF375.get (by decide) h82_370) rfl rfl rfl rfl rfl rfl (fun n383 w379 hq380 => ?_)
        obtain ⟨hn384, hI381, hF382⟩ := hq380
        obtain rfl := hn384
        refine xg_cVv mX12_puts (vs := [(0, 3), (0, u42), (0, (80 + (3 * u42)) + 2), (0, 0)]) (rest := []) (cn1 := 0) (sl1 := 0) rfl (mPuts3 (hI381) (by omega) (by omega) (by omega) (fun _ => by omega)) rfl (hF382.get (by decide) (hF375.get (by decide) h82_370)) rfl rfl rfl rfl rfl rfl (fun w385 hq386 => ?_)
        obtain ⟨hI387, hF388, hx389⟩ := hq386
        obtain ⟨hp390, hp391⟩ := hx389
        refine xg_t (xg_iinc (u := 2) (z := 3) (l1 := [(0, (2, 82)), (1, (0, 3)), (2, (0, at_)), (3, (0, u42))]) rfl rfl (by decide) rfl) ?_
        refine xg_t (xg_goto) ?_
        refine xg_t (xg_blk (b := [(224, 2, 2, 4, 0, 0), (226, 1, 3, 3, 0, 0), (227, 3, 6, 270, 3, 0), (230, 1, 0, 0, 0, 0), (231, 1, 2, 1, 0, 0), (232, 1, 2, 3, 0, 0), (233, 2, 4, 80, 0, 0), (235, 1, 3, 3, 0, 0), (236, 1, 2, 3, 0, 0), (237, 1, 16, 0, 0, 0), (238, 1, 11, 0, 0, 0), (239, 2, 2, 4, 0, 0), (241, 1, 11, 0, 0, 0), (242, 1, 0, 0, 0, 0), (243, 1, 3, 1, 0, 0), (244, 2, 2, 4, 0, 0), (246, 1, 3, 2, 0, 0), (247, 3, 6, 255, 3, 0), (250, 2, 4, 10, 0, 0), (252, 3, 8, 258, 0, 0)]) rfl) ?_
        refine xg_t (xg_iload (va := (0, 3)) rfl rfl) ?_
        refine xg_t (xg_const) ?_
        refine xg_t (xg_icT (u := 3) (v := 3) rfl xnm0 xnm0 (by decide)) ?_
        refine xg_t (xg_blk (b := [(270, 3, 8, 394, 0, 0)]) rfl) ?_
        refine xg_t (xg_goto) ?_
        refine xg_t (xg_blk (b := [(394, 1, 0, 0, 0, 0), (395, 3, 1, 12, 10, 180), (398, 3, 7, 416, 1, 0), (401, 1, 0, 0, 0, 0), (402, 3, 1, 12, 7, 151), (405, 1, 3, 2, 0, 0), (406, 3, 6, 416, 1, 0), (409, 1, 0, 0, 0, 0), (410, 3, 13, 110, 96, 190), (413, 3, 8, 420, 0, 0)]) rfl) ?_
        refine xg_t (xg_aload (va := (2, 82)) rfl rfl) ?_
        refine xg_t (xg_getf (va := (0, f82_356)) (hF388.get (by decide) (hF382.get (by decide) (hF375.get (by decide) h82_370))) rfl) ?_
        have hf392 : fld w385 82 10 = f82_356 := fld_of (hF388.get (by decide) (hF382.get (by decide) (hF375.get (by decide) h82_370)))
        have hk393 : fld w385 82 10 ≠ 0 := (by have q := hW333.1; have q2 := fld_eq (j := 10) ((hF388.1 82 (by decide)).trans ((hF382.1 82 (by decide)).trans (hF375.1 82 (by decide)))); omega)
        refine xg_t (xg_ifT (u := f82_356) rfl xnm0 (xj_neT (by omega))) ?_
        refine xg_t (xg_blk (b := [(416, 1, 0, 0, 0, 0), (417, 3, 13, 140, 96, 183)]) rfl) ?_
        refine xg_t (xg_aload (va := (2, 82)) rfl rfl) ?_
        refine xg_cVv mX12_ends (vs := []) (rest := []) (cn1 := 0) (sl1 := 0) rfl (mEndsW (hI387) (by have q := hW333.1; have q2 := fld_eq (j := 10) ((hF388.1 82 (by decide)).trans ((hF382.1 82 (by decide)).trans (hF375.1 82 (by decide)))); omega)) rfl (hF388.get (by decide) (hF382.get (by decide) (hF375.get (by decide) h82_370))) rfl rfl rfl rfl rfl rfl (fun w394 hq395 => ?_)
        obtain ⟨hI396, hF397⟩ := hq395
        refine xg_t (xg_blk (b := [(420, 1, 0, 0, 0, 0), (421, 3, 1, 12, 11, 17), (424, 1, 2, 1, 0, 0), (425, 1, 39, 0, 0, 0), (426, 1, 10, 0, 0, 0), (427, 1, 3, 1, 0, 0), (428, 1, 11, 0, 0, 0), (429, 1, 17, 0, 0, 0), (430, 1, 0, 0, 0, 0), (431, 1, 19, 0, 0, 0), (432, 3, 1, 12, 14, 212), (435, 1, 3, 1, 0, 0), (436, 1, 11, 0, 0, 0), (437, 3, 14, 12, 14, 212), (440, 1, 12, 0, 0, 0)]) rfl) ?_
        have hf398 : fld w394 82 2 = f82_340 := fld_of (hF397.get (by decide) (hF388.get (by decide) (hF382.get (by decide) (hF375.get (by decide) h82_370))))
        have hf399 : fld w394 82 3 = f82_342 := fld_of (hF397.get (by decide) (hF388.get (by decide) (hF382.get (by decide) (hF375.get (by decide) h82_370))))
        have hf400 : fld w394 82 4 = f82_344 := fld_of (hF397.get (by decide) (hF388.get (by decide) (hF382.get (by decide) (hF375.get (by decide) h82_370))))
        have hf401 : fld w394 82 5 = f82_346 := fld_of (hF397.get (by decide) (hF388.get (by decide) (hF382.get (by decide) (hF375.get (by decide) h82_370))))
        have hf402 : fld w394 82 6 = f82_348 := fld_of (hF397.get (by decide) (hF388.get (by decide) (hF382.get (by decide) (hF375.get (by decide) h82_370))))
        have hf403 : fld w394 82 7 = f82_350 := fld_of (hF397.get (by decide) (hF388.get (by decide) (hF382.get (by decide) (hF375.get (by decide) h82_370))))
        have hf404 : fld w394 82 8 = f82_352 := fld_of (hF397.get (by decide) (hF388.get (by decide) (hF382.get (by decide) (hF375.get (by decide) h82_370))))
        have hf405 : fld w394 82 9 = f82_354 := fld_of (hF397.get (by decide) (hF388.get (by decide) (hF382.get (by decide) (hF375.get (by decide) h82_370))))
        have hf406 : fld w394 82 10 = f82_356 := fld_of (hF397.get (by decide) (hF388.get (by decide) (hF382.get (by decide) (hF375.get (by decide) h82_370))))
        have hf407 : fld w394 82 14 = f82_358 := fld_of (hF397.get (by decide) (hF388.get (by decide) (hF382.get (by decide) (hF375.get (by decide) h82_370))))
        have hk408 := ((fld_eq (j := 14) ((hF397.1 82 (by decide)).trans ((hF388.1 82 (by decide)).trans ((hF382.1 82 (by decide)).trans (hF375.1 82 (by decide)))))).trans k14_331)
        have hl409 : f82_358 ≤ 500 := by omega
        have hk410 : WRG w394 (tq B nn p_273) := ⟨(fld_eq (j := 10) ((hF397.1 82 (by decide)).trans ((hF388.1 82 (by decide)).trans ((hF382.1 82 (by decide)).trans (hF375.1 82 (by decide)))))).trans hW333.1, (rwv_eq (j := 16) ((hF397.1 83 (by decide)).trans ((hF388.1 83 (by decide)).trans ((hF382.1 83 (by decide)).trans (hF375.1 83 (by decide)))))).trans hW333.2.1, (rwv_eq (j := 17) ((hF397.1 83 (by decide)).trans ((hF388.1 83 (by decide)).trans ((hF382.1 83 (by decide)).trans (hF375.1 83 (by decide)))))).trans hW333.2.2⟩
        refine xg_t (xg_aload (va := (2, 82)) rfl rfl) ?_
        refine xg_t (xg_getf (va := (2, 85)) (hF397.get (by decide) (hF388.get (by decide) (hF382.get (by decide) (hF375.get (by decide) h82_370)))) rfl) ?_
        refine xg_t (xg_iload (va := (0, 3)) rfl rfl) ?_
        refine xg_t (xg_dup2 rfl) ?_
        refine xoI (hI396 85 (by decide) (by decide) : cpI 7 52 4294967295 (wget w394 85)) (fun g85_411 h85_412 hb413 => ?_)
        refine xg_ialdB (n := 3) (B := 4294967295) h85_412 (hb413) xnm0 (by omega) (fun u414 hu415 he416 => ?_)
        have hK417 : u414 = u42 := (((rwv_of h85_412 (by decide)).trans he416).symm.trans (rwv_eq ((hF397.1 85 (by decide)).trans ((hF388.1 85 (by decide)).trans ((hF382.1 85 (by decide)).trans ((hF375.1 85 (by decide)).trans ((hF325.1 85 (by decide)).trans ((hF317.1 85 (by decide)).trans ((hF149.1 85 (by decide)).trans ((hF103.1 85 (by decide)).trans hj57)))))))))).trans ((hm 3 (by decide)).trans hK45.symm)
        have hl418 : u414 ≤ 500 := by omega
        refine xg_t (xg_const) ?_
        refine xg_t (xg_iadd (u := u414) (v := 1) (z := u414 + 1) xnm0 xnm0 (by omega)) ?_
        refine xg_iastK (n := 3) (u := u414 + 1) h85_412 xnm0 xnm0 rfl (by omega) (fun w419 hr420 hb421 => ?_)
        refine xg_t (xg_aload (va := (2, 82)) rfl rfl) ?_
        refine xg_t (xg_dup rfl) ?_
        refine xg_t (xg_getf (va := (0, f82_358)) (hb421.get (by decide) (hF397.get (by decide) (hF388.get (by decide) (hF382.get (by decide) (hF375.get (by decide) h82_370))))) rfl) ?_
        have hn422 := id hb359
        unfold xHid at hn422
        refine xg_t (xg_const) ?_
        refine xg_t (xg_iadd (u := f82_358) (v := 1) (z := f82_358 + 1) xnm0 xnm0 (by omega)) ?_
        refine xg_putI (fl1 := [(2, 83), (2, 84), (0, f82_340), (0, f82_342), (0, f82_344), (0, f82_346), (0, f82_348), (0, f82_350), (0, f82_352), (0, f82_354), (0, f82_356), (2, 85), (2, 86), (2, 87), (0, f82_358 + 1), (2, 88), (2, 89), (2, 90), (2, 91), (2, 92), (2, 93), (2, 94), (4, f82_360), (4, f82_361), (0, f82_362), (2, 95), (2, 96), (2, 97), (2, 98), (2, 99), (2, 100), (2, 101), (2, 102), (0, f82_364), (2, 103), (2, 104), (2, 105), (2, 106), (2, 107), (2, 108), (2, 109), (0, f82_366), (0, f82_368), (2, 110), (2, 111), (2, 112), (2, 113)]) (hb421.get (by decide) (hF397.get (by decide) (hF388.get (by decide) (hF382.get (by decide) (hF375.get (by decide) h82_370))))) rfl rfl rfl (fun w423 hk424 hb425 => ?_)
        have hf426 : fld w423 82 2 = f82_340 := fld_of hk424
        have hf427 : fld w423 82 3 = f82_342 := fld_of hk424
        have hf428 : fld w423 82 4 = f82_344 := fld_of hk424
        have hf429 : fld w423 82 5 = f82_346 := fld_of hk424
        have hf430 : fld w423 82 6 = f82_348 := fld_of hk424
        have hf431 : fld w423 82 7 = f82_350 := fld_of hk424
        have hf432 : fld w423 82 8 = f82_352 := fld_of hk424
        have hf433 : fld w423 82 9 = f82_354 := fld_of hk424
        have hf434 : fld w423 82 10 = f82_356 := fld_of hk424
        have hf435 : fld w423 82 14 = f82_358 + 1 := fld_of hk424
        exact xg_e ⟨w423, ⟨rfl, rfl⟩, xMnv.up (S := [85, 82]) hI396 ((xFr.of (S := [85, 82]) hb421 (by decide)).tr (xFr.of (S := [85, 82]) hb425 (by decide))) (List.forall_mem_cons.mpr ⟨(show cpI 7 52 4294967295 (wget w423 85) from ⟨_, (hr420.but hb425 (by decide)), xrb (by omega) (hb413)⟩), List.forall_mem_cons.mpr ⟨(show cp82 (wget w423 82) from ⟨f82_340, f82_342, f82_344, f82_346, f82_348, f82_350, f82_352, f82_354, f82_356, f82_358 + 1, f82_360, f82_361, f82_362, f82_364, f82_366, f82_368, hk424, by omega, hb343, by omega, by omega, hb349, by omega, hb353, hb355, by omega, by omega, hb363, hb365, hb367, hb369, by omega⟩), fun _ h => absurd h List.not_mem_nil⟩⟩), (((((((((hF50.tr (hF103.up (by decide))).tr (hF149.up (by decide))).tr (hF317.up (by decide))).tr (hF325.up (by decide))).tr (hF375.up (by decide))).tr (hF382.up (by decide))).tr (hF388.up (by decide))).tr (hF397.up (by decide))).tr ((xFr.of (S := [82, 83, 85, 86, 87]) hb421 (by decide)).tr (xFr.of (S := [82, 83, 85, 86, 87]) hb425 (by decide)))), ⟨Or.inl ⟨p_273, lf339, ⟨by have z := hk410.1; omega, (rwv_eq (j := 16) ((hb425.1 83 (by decide)).trans (hb421.1 83 (by decide)))).trans hk410.2.1, (rwv_eq (j := 17) ((hb425.1 83 (by decide)).trans (hb421.1 83 (by decide)))).trans hk410.2.2⟩⟩, ((((((((((hj56.tr (K83.fr hF103 (by decide))).tr k8_153).tr (K83.fr hF317 (by decide))).tr k8_329).tr (K83.fr hF375 (by decide))).tr (K83.fr hF382 (by decide))).tr (K83.fr hF388 (by decide))).tr (K83.fr hF397 (by decide))).tr (K83.but hb421 (by decide))).tr (K83.but hb425 (by decide))), by omega⟩⟩
      · obtain ⟨p_436, hp437⟩ : ∃ x, x = tf B nn p_273 := ⟨_, rfl⟩
        rw [← hp437] at hT_337
        have ln438 : lnR B nn p0 = lnN B nn 3 1 p_436 := by rw [hp437]; exact ln275.trans (lnN_y (k := 1) hk332)
        have vp439 : vlp B nn (lnP B nn k) 1 = p_273 := by show tf B nn (vlp B nn (lnP B nn k) 0) = p_273; rw [vp276]; exact hp274.symm
        have vl440 : vln B nn (lnP B nn k) 1 = tnu B nn p_273 := by
          show (if (1 : Nat) = 3 then _ else tnu B nn (vlp B nn (lnP B nn k) 1)) = _
          rw [if_neg (by decide), vp439]
        have he442 : (chk (mf3 B nn k 3 (flA B nn k)) 1 10 (tnu B nn p_273) (tq B nn p_273)) = (mf4 B nn k 3 (flA B nn k)) := by show _ = chk (mf3 B nn k 3 (flA B nn k)) 1 10 (vln B nn (lnP B nn k) 1) (tq B nn (vlp B nn (lnP B nn k) 1)); rw [vl440, vp439]
        have hF_441 := hF_338
        rw [he442] at hF_441
        refine xoCh82 (hI324 82 (by decide) (by decide) : cp82 (wget w322 82)) (fun f82_443 f82_445 f82_447 f82_449 f82_451 f82_453 f82_455 f82_457 f82_459 f82_461 f82_463 f82_464 f82_465 f82_467 f82_469 f82_471 h82_473 hb444 hb446 hb448 hb450 hb452 hb454 hb456 hb458 hb460 hb462 hb466 hb468 hb470 hb472 hb474 => ?_)
        refine xg_cVv mX12_puts (vs := [(0, 3), (0, u42), (0, (80 + (3 * u42)) + 1), (0, n326)]) (rest := []) (cn1 := 0) (sl1 := 0) rfl (mPuts3 (hI324) (by omega) (by omega) (by omega) (fun _ => by omega)) rfl h82_473 rfl rfl rfl rfl rfl rfl (fun w475 hq476 => ?_)
        obtain ⟨hI477, hF478, hx479⟩ := hq476
        obtain ⟨hp480, hp481⟩ := hx479
        refine xg_t (xg_iinc (u := 1) (z := 2) (l1 := [(0, (2, 82)), (1, (0, 3)), (2, (0, at_)), (3, (0, u42))]) rfl rfl (by decide) rfl) ?_
        refine xg_t (xg_goto) ?_
        refine xg_t (xg_blk (b := [(224, 2, 2, 4, 0, 0), (226, 1, 3, 3, 0, 0), (227, 3, 6, 270, 3, 0), (230, 1, 0, 0, 0, 0), (231, 1, 2, 1, 0, 0), (232, 1, 2, 3, 0, 0), (233, 2, 4, 80, 0, 0), (235, 1, 3, 3, 0, 0), (236, 1, 2, 3, 0, 0), (237, 1, 16, 0, 0, 0), (238, 1, 11, 0, 0, 0), (239, 2, 2, 4, 0, 0), (241, 1, 11, 0, 0, 0), (242, 1, 0, 0, 0, 0), (243, 1, 3, 1, 0, 0), (244, 2, 2, 4, 0, 0), (246, 1, 3, 2, 0, 0), (247, 3, 6, 255, 3, 0), (250, 2, 4, 10, 0, 0), (252, 3, 8, 258, 0, 0)]) rfl) ?_
        refine xg_t (xg_iload (va := (0, 2)) rfl rfl) ?_
        refine xg_t (xg_const) ?_
        refine xg_t (xg_icF (u := 2) (v := 3) rfl xnm0 xnm0 (by decide)) ?_
        refine xg_t (xg_aload (va := (2, 82)) rfl rfl) ?_
        refine xg_t (xg_iload (va := (0, 3)) rfl rfl) ?_
        refine xg_t (xg_iload (va := (0, u42)) rfl rfl) ?_
        refine xg_t (xg_bip) ?_
        refine xg_t (xg_const) ?_
        refine xg_t (xg_iload (va := (0, u42)) rfl rfl) ?_
        refine xg_t (xg_imul (u := 3) (v := u42) (z := 3 * u42) xnm0 xnm0 (by omega)) ?_
        refine xg_t (xg_iadd (u := 80) (v := 3 * u42) (z := 80 + (3 * u42)) xnm0 xnm0 (by omega)) ?_
        refine xg_t (xg_iload (va := (0, 2)) rfl rfl) ?_
        refine xg_t (xg_iadd (u := 80 + (3 * u42)) (v := 2) (z := (80 + (3 * u42)) + 2) xnm0 xnm0 (by omega)) ?_
        refine xg_t (xg_aload (va := (2, 82)) rfl rfl) ?_
        refine xg_t (xg_const) ?_
        refine xg_t (xg_iload (va := (0, 2)) rfl rfl) ?_
        refine xg_t (xg_const) ?_
        refine xg_t (xg_icT (u := 2) (v := 2) rfl xnm0 xnm0 (by decide)) ?_
        refine xg_t (xg_blk (b := [(255, 3, 5, 999, 0, 0)]) rfl) ?_
        refine xg_t (xg_sip) ?_
        refine xg_t (xg_blk (b := [(258, 3, 13, 199, 96, 196), (261, 3, 13, 211, 96, 200), (264, 3, 9, 4, 1, 0), (267, 3, 8, 224, 0, 0)]) rfl) ?_
        have hk482 := ((fld_eq (j := 14) (hF478.1 82 (by decide))).trans k14_331)
        refine xg_cVi mX12_numbered (vs := [(0, 1), (0, 999)]) (rest := [(0, (80 + (3 * u42)) + 2), (0, u42), (0, 3), (2, 82)]) (cn1 := 0) (sl1 := 0) rfl (mNumX (ir := 0) (hI477) (by omega) (by omega) (hB.fr (fun j h4 h9 => (((((hj56.tr (K83.fr hF103 (by decide))).tr k8_153).tr (K83.fr hF317 (by decide))).tr k8_329).tr (K83.fr hF478 (by decide))) j (by omega) (by omega) (by omega))) ((fld_eq (j := 10) (hF478.1 82 (by decide))).trans k10_336) (hT_337.fr (hF478.1 82 (by decide))) (hF_441.k83 (rwv_eq (hF478.1 83 (by decide))) (rwv_eq (hF478.1 83 (by decide))))) rfl (hF478.get (by decide) h82_473) rfl rfl rfl rfl rfl rfl (fun n487 w483 hq484 => ?_)
        obtain ⟨hn488, hI485, hF486⟩ := hq484
        obtain ⟨hx491, h14_489, k8_490⟩ := hn488
        have k14_492 := h14_489.trans hk482
        rcases hx491 with ⟨rfl, hk493, hW494⟩ | ⟨hv495, h9_496, hk493, k10_497, hT_498, hF_499⟩
        · have lf500 : lnR B nn p0 = (false, p_436) := ln438.trans (lnN_n (k := 0) hk493)
          refine xoCh82 (hI485 82 (by decide) (by decide) : cp82 (wget w483 82)) (fun f82_501 f82_503 f82_505 f82_507 f82_509 f82_511 f82_513 f82_515 f82_517 f82_519 f82_521 f82_522 f82_523 f82_525 f82_527 f82_529 h82_531 hb502 hb504 hb506 hb508 hb510 hb512 hb514 hb516 hb518 hb520 hb524 hb526 hb528 hb530 hb532 => ?_)
          refine xg_cVv mX12_puts (vs := [(0, 3), (0, u42), (0, (80 + (3 * u42)) + 2), (0, 0)]) (rest := []) (cn1 := 0) (sl1 := 0) rfl (mPuts3 (hI485) (by omega) (by omega) (by omega) (fun _ => by omega)) rfl h82_531 rfl rfl rfl rfl rfl rfl (fun w533 hq534 => ?_)
          obtain ⟨hI535, hF536, hx537⟩ := hq534
          obtain ⟨hp538, hp539⟩ := hx537
          refine xg_t (xg_iinc (u := 2) (z := 3) (l1 := [(0, (2, 82)), (1, (0, 3)), (2, (0, at_)), (3, (0, u42))]) rfl rfl (by decide) rfl) ?_
          refine xg_t (xg_goto) ?_
          refine xg_t (xg_blk (b := [(224, 2, 2, 4, 0, 0), (226, 1, 3, 3, 0, 0), (227, 3, 6, 270, 3, 0), (230, 1, 0, 0, 0, 0), (231, 1, 2, 1, 0, 0), (232, 1, 2, 3, 0, 0), (233, 2, 4, 80, 0, 0), (235, 1, 3, 3, 0, 0), (236, 1, 2, 3, 0, 0), (237, 1, 16, 0, 0, 0), (238, 1, 11, 0, 0, 0), (239, 2, 2, 4, 0, 0), (241, 1, 11, 0, 0, 0), (242, 1, 0, 0, 0, 0), (243, 1, 3, 1, 0, 0), (244, 2, 2, 4, 0, 0), (246, 1, 3, 2, 0, 0), (247, 3, 6, 255, 3, 0), (250, 2, 4, 10, 0, 0), (252, 3, 8, 258, 0, 0)]) rfl) ?_
          refine xg_t (xg_iload (va := (0, 3)) rfl rfl) ?_
          refine xg_t (xg_const) ?_
          refine xg_t (xg_icT (u := 3) (v := 3) rfl xnm0 xnm0 (by decide)) ?_
          refine xg_t (xg_blk (b := [(270, 3, 8, 394, 0, 0)]) rfl) ?_
          refine xg_t (xg_goto) ?_
          refine xg_t (xg_blk (b := [(394, 1, 0, 0, 0, 0), (395, 3, 1, 12, 10, 180), (398, 3, 7, 416, 1, 0), (401, 1, 0, 0, 0, 0), (402, 3, 1, 12, 7, 151), (405, 1, 3, 2, 0, 0), (406, 3, 6, 416, 1, 0), (409, 1, 0, 0, 0, 0), (410, 3, 13, 110, 96, 190), (413, 3, 8, 420, 0, 0)]) rfl) ?_
          refine xg_t (xg_aload (va := (2, 82)) rfl rfl) ?_
          refine xg_t (xg_getf (va := (0, f82_517)) (hF536.get (by decide) h82_531) rfl) ?_
          have hf540 : fld w533 82 10 = f82_517 := fld_of (hF536.get (by decide) h82_531)
          have hk541 : fld w533 82 10 ≠ 0 := (by have q := hW494.1; have q2 := fld_eq (j := 10) (hF536.1 82 (by decide)); omega)
          refine xg_t (xg_ifT (u := f82_517) rfl xnm0 (xj_neT (by omega))) ?_
          refine xg_t (xg_blk (b := [(416, 1, 0, 0, 0, 0), (417, 3, 13, 140, 96, 183)]) rfl) ?_
          refine xg_t (xg_aload (va := (2, 82)) rfl rfl) ?_
          refine xg_cVv mX12_ends (vs := []) (rest := []) (cn1 := 0) (sl1 := 0) rfl (mEndsW (hI535) (by have q := hW494.1; have q2 := fld_eq (j := 10) (hF536.1 82 (by decide)); omega)) rfl (hF536.get (by decide) h82_531) rfl rfl rfl rfl rfl rfl (fun w542 hq543 => ?_)
          obtain ⟨hI544, hF545⟩ := hq543
          refine xg_t (xg_blk (b := [(420, 1, 0, 0, 0, 0), (421, 3, 1, 12, 11, 17), (424, 1, 2, 1, 0, 0), (425, 1, 39, 0, 0, 0), (426, 1, 10, 0, 0, 0), (427, 1, 3, 1, 0, 0), (428, 1, 11, 0, 0, 0), (429, 1, 17, 0, 0, 0), (430, 1, 0, 0, 0, 0), (431, 1, 19, 0, 0, 0), (432, 3, 1, 12, 14, 212), (435, 1, 3, 1, 0, 0), (436, 1, 11, 0, 0, 0), (437, 3, 14, 12, 14, 212), (440, 1, 12, 0, 0, 0)]) rfl) ?_
          have hf546 : fld w542 82 2 = f82_501 := fld_of (hF545.get (by decide) (hF536.get (by decide) h82_531))
          have hf547 : fld w542 82 3 = f82_503 := fld_of (hF545.get (by decide) (hF536.get (by decide) h82_531))
          have hf548 : fld w542 82 4 = f82_505 := fld_of (hF545.get (by decide) (hF536.get (by decide) h82_531))
          have hf549 : fld w542 82 5 = f82_507 := fld_of (hF545.get (by decide) (hF536.get (by decide) h82_531))
          have hf550 : fld w542 82 6 = f82_509 := fld_of (hF545.get (by decide) (hF536.get (by decide) h82_531))
          have hf551 : fld w542 82 7 = f82_511 := fld_of (hF545.get (by decide) (hF536.get (by decide) h82_531))
          have hf552 : fld w542 82 8 = f82_513 := fld_of (hF545.get (by decide) (hF536.get (by decide) h82_531))
          have hf553 : fld w542 82 9 = f82_515 := fld_of (hF545.get (by decide) (hF536.get (by decide) h82_531))
          have hf554 : fld w542 82 10 = f82_517 := fld_of (hF545.get (by decide) (hF536.get (by decide) h82_531))
          have hf555 : fld w542 82 14 = f82_519 := fld_of (hF545.get (by decide) (hF536.get (by decide) h82_531))
          have hk556 := ((fld_eq (j := 14) ((hF545.1 82 (by decide)).trans (hF536.1 82 (by decide)))).trans k14_492)
          have hl557 : f82_519 ≤ 500 := by omega
          have hk558 : WRG w542 (tq B nn p_436) := ⟨(fld_eq (j := 10) ((hF545.1 82 (by decide)).trans (hF536.1 82 (by decide)))).trans hW494.1, (rwv_eq (j := 16) ((hF545.1 83 (by decide)).trans (hF536.1 83 (by decide)))).trans hW494.2.1, (rwv_eq (j := 17) ((hF545.1 83 (by decide)).trans (hF536.1 83 (by decide)))).trans hW494.2.2⟩
          refine xg_t (xg_aload (va := (2, 82)) rfl rfl) ?_
          refine xg_t (xg_getf (va := (2, 85)) (hF545.get (by decide) (hF536.get (by decide) h82_531)) rfl) ?_
          refine xg_t (xg_iload (va := (0, 3)) rfl rfl) ?_
          refine xg_t (xg_dup2 rfl) ?_
          refine xoI (hI544 85 (by decide) (by decide) : cpI 7 52 4294967295 (wget w542 85)) (fun g85_559 h85_560 hb561 => ?_)
          refine xg_ialdB (n := 3) (B := 4294967295) h85_560 (hb561) xnm0 (by omega) (fun u562 hu563 he564 => ?_)
          have hK565 : u562 = u42 := (((rwv_of h85_560 (by decide)).trans he564).symm.trans (rwv_eq ((hF545.1 85 (by decide)).trans ((hF536.1 85 (by decide)).trans ((hF486.1 85 (by decide)).trans ((hF478.1 85 (by decide)).trans ((hF325.1 85 (by decide)).trans ((hF317.1 85 (by decide)).trans ((hF149.1 85 (by decide)).trans ((hF103.1 85 (by decide)).trans hj57)))))))))).trans ((hm 3 (by decide)).trans hK45.symm)
          have hl566 : u562 ≤ 500 := by omega
          refine xg_t (xg_const) ?_
          refine xg_t (xg_iadd (u := u562) (v := 1) (z := u562 + 1) xnm0 xnm0 (by omega)) ?_
          refine xg_iastK (n := 3) (u := u562 + 1) h85_560 xnm0 xnm0 rfl (by omega) (fun w567 hr568 hb569 => ?_)
          refine xg_t (xg_aload (va := (2, 82)) rfl rfl) ?_
          refine xg_t (xg_dup rfl) ?_
          refine xg_t (xg_getf (va := (0, f82_519)) (hb569.get (by decide) (hF545.get (by decide) (hF536.get (by decide) h82_531))) rfl) ?_
          have hn570 := id hb520
          unfold xHid at hn570
          refine xg_t (xg_const) ?_
          refine xg_t (xg_iadd (u := f82_519) (v := 1) (z := f82_519 + 1) xnm0 xnm0 (by omega)) ?_
          refine xg_putI (fl1 := [(2, 83), (2, 84), (0, f82_501), (0, f82_503), (0, f82_505), (0, f82_507), (0, f82_509), (0, f82_511), (0, f82_513), (0, f82_515), (0, f82_517), (2, 85), (2, 86), (2, 87), (0, f82_519 + 1), (2, 88), (2, 89), (2, 90), (2, 91), (2, 92), (2, 93), (2, 94), (4, f82_521), (4, f82_522), (0, f82_523), (2, 95), (2, 96), (2, 97), (2, 98), (2, 99), (2, 100), (2, 101), (2, 102), (0, f82_525), (2, 103), (2, 104), (2, 105), (2, 106), (2, 107), (2, 108), (2, 109), (0, f82_527), (0, f82_529), (2, 110), (2, 111), (2, 112), (2, 113)]) (hb569.get (by decide) (hF545.get (by decide) (hF536.get (by decide) h82_531))) rfl rfl rfl (fun w571 hk572 hb573 => ?_)
          have hf574 : fld w571 82 2 = f82_501 := fld_of hk572
          have hf575 : fld w571 82 3 = f82_503 := fld_of hk572
          have hf576 : fld w571 82 4 = f82_505 := fld_of hk572
          have hf577 : fld w571 82 5 = f82_507 := fld_of hk572
          have hf578 : fld w571 82 6 = f82_509 := fld_of hk572
          have hf579 : fld w571 82 7 = f82_511 := fld_of hk572
          have hf580 : fld w571 82 8 = f82_513 := fld_of hk572
          have hf581 : fld w571 82 9 = f82_515 := fld_of hk572
          have hf582 : fld w571 82 10 = f82_517 := fld_of hk572
          have hf583 : fld w571 82 14 = f82_519 + 1 := fld_of hk572
          exact xg_e ⟨w571, ⟨rfl, rfl⟩, xMnv.up (S := [85, 82]) hI544 ((xFr.of (S := [85, 82]) hb569 (by decide)).tr (xFr.of (S := [85, 82]) hb573 (by decide))) (List.forall_mem_cons.mpr ⟨(show cpI 7 52 4294967295 (wget w571 85) from ⟨_, (hr568.but hb573 (by decide)), xrb (by omega) (hb561)⟩), List.forall_mem_cons.mpr ⟨(show cp82 (wget w571 82) from ⟨f82_501, f82_503, f82_505, f82_507, f82_509, f82_511, f82_513, f82_515, f82_517, f82_519 + 1, f82_521, f82_522, f82_523, f82_525, f82_527, f82_529, hk572, by omega, hb504, by omega, by omega, hb510, by omega, hb514, hb516, by omega, by omega, hb524, hb526, hb528, hb530, by omega⟩), fun _ h => absurd h List.not_mem_nil⟩⟩), (((((((((hF50.tr (hF103.up (by decide))).tr (hF149.up (by decide))).tr (hF317.up (by decide))).tr (hF325.up (by decide))).tr (hF478.up (by decide))).tr (hF486.up (by decide))).tr (hF536.up (by decide))).tr (hF545.up (by decide))).tr ((xFr.of (S := [82, 83, 85, 86, 87]) hb569 (by decide)).tr (xFr.of (S := [82, 83, 85, 86, 87]) hb573 (by decide)))), ⟨Or.inl ⟨p_436, lf500, ⟨by have z := hk558.1; omega, (rwv_eq (j := 16) ((hb573.1 83 (by decide)).trans (hb569.1 83 (by decide)))).trans hk558.2.1, (rwv_eq (j := 17) ((hb573.1 83 (by decide)).trans (hb569.1 83 (by decide)))).trans hk558.2.2⟩⟩, ((((((((((hj56.tr (K83.fr hF103 (by decide))).tr k8_153).tr (K83.fr hF317 (by decide))).tr k8_329).tr (K83.fr hF478 (by decide))).tr k8_490).tr (K83.fr hF536 (by decide))).tr (K83.fr hF545 (by decide))).tr (K83.but hb569 (by decide))).tr (K83.but hb573 (by decide))), by omega⟩⟩
        · obtain ⟨p_584, hp585⟩ : ∃ x, x = tf B nn p_436 := ⟨_, rfl⟩
          rw [← hp585] at hT_498
          have ln586 : lnR B nn p0 = lnN B nn 3 0 p_584 := by rw [hp585]; exact ln438.trans (lnN_y (k := 0) hk493)
          have vp587 : vlp B nn (lnP B nn k) 2 = p_436 := by show tf B nn (vlp B nn (lnP B nn k) 1) = p_436; rw [vp439]; exact hp437.symm
          have vl588 : vln B nn (lnP B nn k) 2 = tnu B nn p_436 := by
            show (if (2 : Nat) = 3 then _ else tnu B nn (vlp B nn (lnP B nn k) 2)) = _
            rw [if_neg (by decide), vp587]
          have he590 : (chk (mf4 B nn k 3 (flA B nn k)) 1 999 (tnu B nn p_436) (tq B nn p_436)) = (mfl B nn k 3 (flA B nn k)) := by show _ = chk (mf4 B nn k 3 (flA B nn k)) 1 999 (vln B nn (lnP B nn k) 2) (tq B nn (vlp B nn (lnP B nn k) 2)); rw [vl588, vp587]
          have hF_589 := hF_499
          rw [he590] at hF_589
          refine xoCh82 (hI485 82 (by decide) (by decide) : cp82 (wget w483 82)) (fun f82_591 f82_593 f82_595 f82_597 f82_599 f82_601 f82_603 f82_605 f82_607 f82_609 f82_611 f82_612 f82_613 f82_615 f82_617 f82_619 h82_621 hb592 hb594 hb596 hb598 hb600 hb602 hb604 hb606 hb608 hb610 hb614 hb616 hb618 hb620 hb622 => ?_)
          refine xg_cVv mX12_puts (vs := [(0, 3), (0, u42), (0, (80 + (3 * u42)) + 2), (0, n487)]) (rest := []) (cn1 := 0) (sl1 := 0) rfl (mPuts3 (hI485) (by omega) (by omega) (by omega) (fun _ => by omega)) rfl h82_621 rfl rfl rfl rfl rfl rfl (fun w623 hq624 => ?_)
          obtain ⟨hI625, hF626, hx627⟩ := hq624
          obtain ⟨hp628, hp629⟩ := hx627
          refine xg_t (xg_iinc (u := 2) (z := 3) (l1 := [(0, (2, 82)), (1, (0, 3)), (2, (0, at_)), (3, (0, u42))]) rfl rfl (by decide) rfl) ?_
          refine xg_t (xg_goto) ?_
          refine xg_t (xg_blk (b := [(224, 2, 2, 4, 0, 0), (226, 1, 3, 3, 0, 0), (227, 3, 6, 270, 3, 0), (230, 1, 0, 0, 0, 0), (231, 1, 2, 1, 0, 0), (232, 1, 2, 3, 0, 0), (233, 2, 4, 80, 0, 0), (235, 1, 3, 3, 0, 0), (236, 1, 2, 3, 0, 0), (237, 1, 16, 0, 0, 0), (238, 1, 11, 0, 0, 0), (239, 2, 2, 4, 0, 0), (241, 1, 11, 0, 0, 0), (242, 1, 0, 0, 0, 0), (243, 1, 3, 1, 0, 0), (244, 2, 2, 4, 0, 0), (246, 1, 3, 2, 0, 0), (247, 3, 6, 255, 3, 0), (250, 2, 4, 10, 0, 0), (252, 3, 8, 258, 0, 0)]) rfl) ?_
          refine xg_t (xg_iload (va := (0, 3)) rfl rfl) ?_
          refine xg_t (xg_const) ?_
          refine xg_t (xg_icT (u := 3) (v := 3) rfl xnm0 xnm0 (by decide)) ?_
          refine xg_t (xg_blk (b := [(270, 3, 8, 394, 0, 0)]) rfl) ?_
          refine xg_t (xg_goto) ?_
          refine xg_t (xg_blk (b := [(394, 1, 0, 0, 0, 0), (395, 3, 1, 12, 10, 180), (398, 3, 7, 416, 1, 0), (401, 1, 0, 0, 0, 0), (402, 3, 1, 12, 7, 151), (405, 1, 3, 2, 0, 0), (406, 3, 6, 416, 1, 0), (409, 1, 0, 0, 0, 0), (410, 3, 13, 110, 96, 190), (413, 3, 8, 420, 0, 0)]) rfl) ?_
          have ln630 : lnR B nn p0 = lnS B nn p_584 := by exact ln586.trans (lnN_0 (by decide))
          refine xg_t (xg_aload (va := (2, 82)) rfl rfl) ?_
          refine xg_t (xg_getf (va := (0, f82_607)) (hF626.get (by decide) h82_621) rfl) ?_
          have hf631 : fld w623 82 10 = f82_607 := fld_of (hF626.get (by decide) h82_621)
          have hk632 : fld w623 82 10 = 0 := ((fld_eq (j := 10) (hF626.1 82 (by decide))).trans k10_497)
          refine xg_t (xg_ifF (u := f82_607) rfl xnm0 (xj_neF (by omega))) ?_
          obtain ⟨⟨ht633, ht634, ht635, ht636, ht637, ht638⟩, ht639, ht640, ht641⟩ := id (hT_498.fr (hF626.1 82 (by decide)))
          have hf642 : fld w623 82 6 = f82_599 := fld_of (hF626.get (by decide) h82_621)
          have hf643 : fld w623 82 7 = f82_601 := fld_of (hF626.get (by decide) h82_621)
          have hf644 : fld w623 82 8 = f82_603 := fld_of (hF626.get (by decide) h82_621)
          have hf645 : fld w623 82 9 = f82_605 := fld_of (hF626.get (by decide) h82_621)
          have hf646 : fld w623 82 3 = f82_593 := fld_of (hF626.get (by decide) h82_621)
          have hmk647 := mkd_of (ir := 0) (B := B) (n := nn) (p := p_584)
          refine xg_t (xg_aload (va := (2, 82)) rfl rfl) ?_
          refine xg_t (xg_getf (va := (0, f82_601)) (hF626.get (by decide) h82_621) rfl) ?_
          refine xg_t (xg_const) ?_
          by_cases hc648 : f82_601 = 2
          · refine xg_t (xg_icF (u := f82_601) (v := 2) rfl xnm0 xnm0 (xj_neF hc648)) ?_
            have sg6491 : tkd B nn p_584 = 3 := by omega
            have sg6492 : B (tq B nn p_584) = 59 := by omega
            refine xg_t (xg_aload (va := (2, 82)) rfl rfl) ?_
            clear ht633 ht634 ht635 ht636 ht637 ht638 ht639 ht640 ht641 hf642 hf643 hf644 hf645 hf646 hmk647
            obtain ⟨⟨ht650, ht651, ht652, ht653, ht654, ht655⟩, -⟩ := id (hT_498.fr (hF626.1 82 (by decide)))
            have hk656 := ((fld_eq (j := 10) (hF626.1 82 (by decide))).trans k10_497)
            have hk657 := ((fld_eq (j := 14) (hF626.1 82 (by decide))).trans k14_492)
            refine xg_cVv mX12_advance (vs := []) (rest := []) (cn1 := 0) (sl1 := 0) rfl (mAdvX (hI625) (hB.fr (fun j h4 h9 => (((((((hj56.tr (K83.fr hF103 (by decide))).tr k8_153).tr (K83.fr hF317 (by decide))).tr k8_329).tr (K83.fr hF478 (by decide))).tr k8_490).tr (K83.fr hF626 (by decide))) j (by omega) (by omega) (by omega))) ht650 ht651 (by rw [ht652]; exact tf_le ht655)) rfl (hF626.get (by decide) h82_621) rfl rfl rfl rfl rfl rfl (fun w658 hq659 => ?_)
            obtain ⟨hI660, hF661, hx662⟩ := hq659
            obtain ⟨hz663, hz664, hz665⟩ := hx662
            rw [ht652] at hz663
            clear ht650 ht651 ht652 ht653 ht654 ht655
            obtain ⟨p_666, hp667⟩ : ∃ x, x = tf B nn p_584 := ⟨_, rfl⟩
            rw [← hp667] at hz663
            have k10_668 := hz664.trans hk656
            have k14_669 := hz665.trans hk657
            clear hz664 hz665 hk656 hk657
            have ln670 : lnR B nn p0 = (true, p_666) := by rw [hp667]; exact ln630.trans (lnS_y ⟨sg6491, sg6492⟩)
            refine xg_t (xg_goto) ?_
            refine xg_t (xg_blk (b := [(420, 1, 0, 0, 0, 0), (421, 3, 1, 12, 11, 17), (424, 1, 2, 1, 0, 0), (425, 1, 39, 0, 0, 0), (426, 1, 10, 0, 0, 0), (427, 1, 3, 1, 0, 0), (428, 1, 11, 0, 0, 0), (429, 1, 17, 0, 0, 0), (430, 1, 0, 0, 0, 0), (431, 1, 19, 0, 0, 0), (432, 3, 1, 12, 14, 212), (435, 1, 3, 1, 0, 0), (436, 1, 11, 0, 0, 0), (437, 3, 14, 12, 14, 212), (440, 1, 12, 0, 0, 0)]) rfl) ?_
            refine xoCh82 (hI660 82 (by decide) (by decide) : cp82 (wget w658 82)) (fun f82_671 f82_673 f82_675 f82_677 f82_679 f82_681 f82_683 f82_685 f82_687 f82_689 f82_691 f82_692 f82_693 f82_695 f82_697 f82_699 h82_701 hb672 hb674 hb676 hb678 hb680 hb682 hb684 hb686 hb688 hb690 hb694 hb696 hb698 hb700 hb702 => ?_)
            have hf703 : fld w658 82 2 = f82_671 := fld_of h82_701
            have hf704 : fld w658 82 3 = f82_673 := fld_of h82_701
            have hf705 : fld w658 82 4 = f82_675 := fld_of h82_701
            have hf706 : fld w658 82 5 = f82_677 := fld_of h82_701
            have hf707 : fld w658 82 6 = f82_679 := fld_of h82_701
            have hf708 : fld w658 82 7 = f82_681 := fld_of h82_701
            have hf709 : fld w658 82 8 = f82_683 := fld_of h82_701
            have hf710 : fld w658 82 9 = f82_685 := fld_of h82_701
            have hf711 : fld w658 82 10 = f82_687 := fld_of h82_701
            have hf712 : fld w658 82 14 = f82_689 := fld_of h82_701
            have hk713 := k14_669
            have hl714 : f82_689 ≤ 500 := by omega
            have hk715 := hz663
            have hk716 := (hF_589.k83 (rwv_eq ((hF661.1 83 (by decide)).trans (hF626.1 83 (by decide)))) (rwv_eq ((hF661.1 83 (by decide)).trans (hF626.1 83 (by decide)))))
            have hk717 := k10_668
            refine xg_t (xg_aload (va := (2, 82)) rfl rfl) ?_
            refine xg_t (xg_getf (va := (2, 85)) h82_701 rfl) ?_
            refine xg_t (xg_iload (va := (0, 3)) rfl rfl) ?_
            refine xg_t (xg_dup2 rfl) ?_
            refine xoI (hI660 85 (by decide) (by decide) : cpI 7 52 4294967295 (wget w658 85)) (fun g85_718 h85_719 hb720 => ?_)
            refine xg_ialdB (n := 3) (B := 4294967295) h85_719 (hb720) xnm0 (by omega) (fun u721 hu722 he723 => ?_)
            have hK724 : u721 = u42 := (((rwv_of h85_719 (by decide)).trans he723).symm.trans (rwv_eq ((hF661.1 85 (by decide)).trans ((hF626.1 85 (by decide)).trans ((hF486.1 85 (by decide)).trans ((hF478.1 85 (by decide)).trans ((hF325.1 85 (by decide)).trans ((hF317.1 85 (by decide)).trans ((hF149.1 85 (by decide)).trans ((hF103.1 85 (by decide)).trans hj57)))))))))).trans ((hm 3 (by decide)).trans hK45.symm)
            have hl725 : u721 ≤ 500 := by omega
            refine xg_t (xg_const) ?_
            refine xg_t (xg_iadd (u := u721) (v := 1) (z := u721 + 1) xnm0 xnm0 (by omega)) ?_
            refine xg_iastK (n := 3) (u := u721 + 1) h85_719 xnm0 xnm0 rfl (by omega) (fun w726 hr727 hb728 => ?_)
            refine xg_t (xg_aload (va := (2, 82)) rfl rfl) ?_
            refine xg_t (xg_dup rfl) ?_
            refine xg_t (xg_getf (va := (0, f82_689)) (hb728.get (by decide) h82_701) rfl) ?_
            have hn729 := id hb690
            unfold xHid at hn729
            refine xg_t (xg_const) ?_
            refine xg_t (xg_iadd (u := f82_689) (v := 1) (z := f82_689 + 1) xnm0 xnm0 (by omega)) ?_
            refine xg_putI (fl1 := [(2, 83), (2, 84), (0, f82_671), (0, f82_673), (0, f82_675), (0, f82_677), (0, f82_679), (0, f82_681), (0, f82_683), (0, f82_685), (0, f82_687), (2, 85), (2, 86), (2, 87), (0, f82_689 + 1), (2, 88), (2, 89), (2, 90), (2, 91), (2, 92), (2, 93), (2, 94), (4, f82_691), (4, f82_692), (0, f82_693), (2, 95), (2, 96), (2, 97), (2, 98), (2, 99), (2, 100), (2, 101), (2, 102), (0, f82_695), (2, 103), (2, 104), (2, 105), (2, 106), (2, 107), (2, 108), (2, 109), (0, f82_697), (0, f82_699), (2, 110), (2, 111), (2, 112), (2, 113)]) (hb728.get (by decide) h82_701) rfl rfl rfl (fun w730 hk731 hb732 => ?_)
            have hf733 : fld w730 82 2 = f82_671 := fld_of hk731
            have hf734 : fld w730 82 3 = f82_673 := fld_of hk731
            have hf735 : fld w730 82 4 = f82_675 := fld_of hk731
            have hf736 : fld w730 82 5 = f82_677 := fld_of hk731
            have hf737 : fld w730 82 6 = f82_679 := fld_of hk731
            have hf738 : fld w730 82 7 = f82_681 := fld_of hk731
            have hf739 : fld w730 82 8 = f82_683 := fld_of hk731
            have hf740 : fld w730 82 9 = f82_685 := fld_of hk731
            have hf741 : fld w730 82 10 = f82_687 := fld_of hk731
            have hf742 : fld w730 82 14 = f82_689 + 1 := fld_of hk731
            have he743 : lnP B nn (k + 1) = p_666 := by
              show (lnR B nn (lnP B nn k)).2 = _
              rw [← hp0, ln670]
            have hT744 : TKM 0 B nn w730 p_666 := hk715.w14 (by omega) (by omega) (by omega) (by omega) (by omega) (by omega) (by omega) (by omega)
            have hF745 : FP w730 (mfl B nn k 3 (flA B nn k)) := hk716.k83 (rwv_eq ((hb732.1 83 (by decide)).trans (hb728.1 83 (by decide)))) (rwv_eq ((hb732.1 83 (by decide)).trans (hb728.1 83 (by decide))))
            have hg747 := (tf_gt (B := B) (n := nn) (p := p_108) (by omega)).2
            have hg748 := tq_ge (B := B) (n := nn) (p := p_108)
            have hg749 := (tf_gt (B := B) (n := nn) (p := p_273) (by omega)).2
            have hg750 := tq_ge (B := B) (n := nn) (p := p_273)
            have hg751 := (tf_gt (B := B) (n := nn) (p := p_436) (by omega)).2
            have hg752 := tq_ge (B := B) (n := nn) (p := p_436)
            have hg753 := (tf_gt (B := B) (n := nn) (p := p0) (by rw [slt_kd (by rw [hp0, hs]; decide)]; decide)).2
            have hg754 := (tf_gt (B := B) (n := nn) (p := p_584) (by omega)).2
            have hg755 := tq_ge (B := B) (n := nn) (p := p_584)
            have hg756 := tq_ge (B := B) (n := nn) (p := p_666)
            have hp1x := hp109
            have hO746 : ORD B nn k 3 (tq B nn (lnP B nn (k + 1))) := by
              unfold ORD
              rw [he743, vp276, vp439, ← hp0]
              have v2 := congrArg (tq B nn) vp587
              have v3 : tq B nn (vlp B nn p0 2) = tq B nn p_436 := by rw [hp0]; exact v2
              exact ⟨by omega, by omega, fun _ => by omega, by omega, fun _ => by omega⟩
            have hM757 : rwv w730 85 3 = lnC B nn 3 k + 1 := (rwv_of (hr727.but hb732 (by decide)) (by decide)).trans ((if_pos rfl).trans (by omega))
            have hM758 : ∀ s, s < 7 → s ≠ 3 → rwv w730 85 s = rwv w 85 s := fun s hs hn => (rwv_of (hr727.but hb732 (by decide)) hs).trans ((if_neg hn).trans ((rwv_of h85_719 hs).symm.trans (rwv_eq ((hF661.1 85 (by decide)).trans ((hF626.1 85 (by decide)).trans ((hF486.1 85 (by decide)).trans ((hF478.1 85 (by decide)).trans ((hF325.1 85 (by decide)).trans ((hF317.1 85 (by decide)).trans ((hF149.1 85 (by decide)).trans ((hF103.1 85 (by decide)).trans hj57)))))))))))
            have hr759 : lnC B nn 3 k < 4 → ∀ t, t < 3 → XM w730 3 (lnC B nn 3 k) t = vln B nn (lnP B nn k) t := fun hlt t ht => by
              rcases (show t = 0 ∨ t = 1 ∨ t = 2 by omega) with rfl | rfl | rfl
              · show rwv w730 86 (80 + 3 * lnC B nn 3 k + 0) = _
                rw [show 80 + 3 * lnC B nn 3 k + 0 = (80 + (3 * u42)) + 0 by omega]
                exact ((rwv_eq (hb732.1 86 (by decide))).trans ((rwv_eq (hb728.1 86 (by decide))).trans ((rwv_eq (hF661.1 86 (by decide))).trans ((hp629 ((80 + (3 * u42)) + 0) (by omega) (by omega)).trans ((rwv_eq (hF486.1 86 (by decide))).trans ((hp481 ((80 + (3 * u42)) + 0) (by omega) (by omega)).trans (rwv_eq (hF325.1 86 (by decide))))))))).trans ((hp319 (by omega)).trans (hv158.trans vl277.symm))
              · show rwv w730 86 (80 + 3 * lnC B nn 3 k + 1) = _
                rw [show 80 + 3 * lnC B nn 3 k + 1 = (80 + (3 * u42)) + 1 by omega]
                exact ((rwv_eq (hb732.1 86 (by decide))).trans ((rwv_eq (hb728.1 86 (by decide))).trans ((rwv_eq (hF661.1 86 (by decide))).trans ((hp629 ((80 + (3 * u42)) + 1) (by omega) (by omega)).trans (rwv_eq (hF486.1 86 (by decide))))))).trans ((hp480 (by omega)).trans (hv334.trans vl440.symm))
              · show rwv w730 86 (80 + 3 * lnC B nn 3 k + 2) = _
                rw [show 80 + 3 * lnC B nn 3 k + 2 = (80 + (3 * u42)) + 2 by omega]
                exact ((rwv_eq (hb732.1 86 (by decide))).trans ((rwv_eq (hb728.1 86 (by decide))).trans (rwv_eq (hF661.1 86 (by decide))))).trans ((hp628 (by omega)).trans (hv495.trans vl588.symm))
            have ho760 : ∀ j, (j < 80 + 3 * lnC B nn 3 k ∨ 80 + 3 * (lnC B nn 3 k + 1) ≤ j) → j < 140 → rwv w730 86 j = rwv w 86 j := fun j hj hl => ((rwv_eq (hb732.1 86 (by decide))).trans ((rwv_eq (hb728.1 86 (by decide))).trans ((rwv_eq (hF661.1 86 (by decide))).trans ((hp629 j (by omega) hl).trans ((rwv_eq (hF486.1 86 (by decide))).trans ((hp481 j (by omega) hl).trans ((rwv_eq (hF325.1 86 (by decide))).trans ((hp320 j (by omega) hl).trans ((rwv_eq (hF149.1 86 (by decide))).trans ((rwv_eq (hF103.1 86 (by decide))).trans (rwv_eq hj58)))))))))))
            have ha761 : ∀ j, j < 20 → rwv w730 87 j = rwv w 87 j := fun j _ => rwv_eq ((hb732.1 87 (by decide)).trans ((hb728.1 87 (by decide)).trans ((hF661.1 87 (by decide)).trans ((hF626.1 87 (by decide)).trans ((hF486.1 87 (by decide)).trans ((hF478.1 87 (by decide)).trans ((hF325.1 87 (by decide)).trans ((hF317.1 87 (by decide)).trans ((hF149.1 87 (by decide)).trans ((hF103.1 87 (by decide)).trans hj59))))))))))
            have hM762 := MSTok3 hS hs (by have z := hk717; omega) (by omega) hF745 hO746 hM757 hM758 hr759 ho760 ha761
            exact xg_e ⟨w730, ⟨rfl, rfl⟩, xMnv.up (S := [85, 82]) hI660 ((xFr.of (S := [85, 82]) hb728 (by decide)).tr (xFr.of (S := [85, 82]) hb732 (by decide))) (List.forall_mem_cons.mpr ⟨(show cpI 7 52 4294967295 (wget w730 85) from ⟨_, (hr727.but hb732 (by decide)), xrb (by omega) (hb720)⟩), List.forall_mem_cons.mpr ⟨(show cp82 (wget w730 82) from ⟨f82_671, f82_673, f82_675, f82_677, f82_679, f82_681, f82_683, f82_685, f82_687, f82_689 + 1, f82_691, f82_692, f82_693, f82_695, f82_697, f82_699, hk731, by omega, hb674, by omega, by omega, hb680, by omega, hb684, hb686, by omega, by omega, hb694, hb696, hb698, hb700, by omega⟩), fun _ h => absurd h List.not_mem_nil⟩⟩), (((((((((hF50.tr (hF103.up (by decide))).tr (hF149.up (by decide))).tr (hF317.up (by decide))).tr (hF325.up (by decide))).tr (hF478.up (by decide))).tr (hF486.up (by decide))).tr (hF626.up (by decide))).tr (hF661.up (by decide))).tr ((xFr.of (S := [82, 83, 85, 86, 87]) hb728 (by decide)).tr (xFr.of (S := [82, 83, 85, 86, 87]) hb732 (by decide)))), ⟨Or.inr ⟨by rw [ln670], by rw [he743]; exact hT744, hM762⟩, ((((((((((hj56.tr (K83.fr hF103 (by decide))).tr k8_153).tr (K83.fr hF317 (by decide))).tr k8_329).tr (K83.fr hF478 (by decide))).tr k8_490).tr (K83.fr hF626 (by decide))).tr (K83.fr hF661 (by decide))).tr (K83.but hb728 (by decide))).tr (K83.but hb732 (by decide))), by omega⟩⟩
          · refine xg_t (xg_icT (u := f82_601) (v := 2) rfl xnm0 xnm0 (xj_neT hc648)) ?_
            refine xg_t (xg_blk (b := [(416, 1, 0, 0, 0, 0), (417, 3, 13, 140, 96, 183)]) rfl) ?_
            have lf763n : ¬ (tkd B nn p_584 = 3 ∧ B (tq B nn p_584) = 59) := by omega
            have lf763 : lnR B nn p0 = (false, p_584) := ln630.trans (lnS_n lf763n)
            refine xg_t (xg_aload (va := (2, 82)) rfl rfl) ?_
            have hk764 := ((fld_eq (j := 14) (hF626.1 82 (by decide))).trans k14_492)
            have hk765 := (hT_498.fr (hF626.1 82 (by decide))).1.2.2.2.1
            clear ht633 ht634 ht635 ht636 ht637 ht638 ht639 ht640 ht641 hf642 hf643 hf644 hf645 hf646 hmk647
            refine xg_cVv mX12_ends (vs := []) (rest := []) (cn1 := 0) (sl1 := 0) rfl (mEndsX (hI625) ((fld_eq (j := 10) (hF626.1 82 (by decide))).trans k10_497)) rfl (hF626.get (by decide) h82_621) rfl rfl rfl rfl rfl rfl (fun w766 hq767 => ?_)
            obtain ⟨hI768, hF769, hx770⟩ := hq767
            obtain ⟨hv771, hv772, hv773, hv774, hv775⟩ := hx770
            have hW776 : WRG w766 (tq B nn p_584) := ⟨hv771, hv772, hv773.trans hk765⟩
            have k14_777 := hv774.trans hk764
            refine xg_t (xg_blk (b := [(420, 1, 0, 0, 0, 0), (421, 3, 1, 12, 11, 17), (424, 1, 2, 1, 0, 0), (425, 1, 39, 0, 0, 0), (426, 1, 10, 0, 0, 0), (427, 1, 3, 1, 0, 0), (428, 1, 11, 0, 0, 0), (429, 1, 17, 0, 0, 0), (430, 1, 0, 0, 0, 0), (431, 1, 19, 0, 0, 0), (432, 3, 1, 12, 14, 212), (435, 1, 3, 1, 0, 0), (436, 1, 11, 0, 0, 0), (437, 3, 14, 12, 14, 212), (440, 1, 12, 0, 0, 0)]) rfl) ?_
            refine xoCh82 (hI768 82 (by decide) (by decide) : cp82 (wget w766 82)) (fun f82_778 f82_780 f82_782 f82_784 f82_786 f82_788 f82_790 f82_792 f82_794 f82_796 f82_798 f82_799 f82_800 f82_802 f82_804 f82_806 h82_808 hb779 hb781 hb783 hb785 hb787 hb789 hb791 hb793 hb795 hb797 hb801 hb803 hb805 hb807 hb809 => ?_)
            have hf810 : fld w766 82 2 = f82_778 := fld_of h82_808
            have hf811 : fld w766 82 3 = f82_780 := fld_of h82_808
            have hf812 : fld w766 82 4 = f82_782 := fld_of h82_808
            have hf813 : fld w766 82 5 = f82_784 := fld_of h82_808
            have hf814 : fld w766 82 6 = f82_786 := fld_of h82_808
            have hf815 : fld w766 82 7 = f82_788 := fld_of h82_808
            have hf816 : fld w766 82 8 = f82_790 := fld_of h82_808
            have hf817 : fld w766 82 9 = f82_792 := fld_of h82_808
            have hf818 : fld w766 82 10 = f82_794 := fld_of h82_808
            have hf819 : fld w766 82 14 = f82_796 := fld_of h82_808
            have hk820 := k14_777
            have hl821 : f82_796 ≤ 500 := by omega
            have hk822 : WRG w766 (tq B nn p_584) := hW776
            refine xg_t (xg_aload (va := (2, 82)) rfl rfl) ?_
            refine xg_t (xg_getf (va := (2, 85)) h82_808 rfl) ?_
            refine xg_t (xg_iload (va := (0, 3)) rfl rfl) ?_
            refine xg_t (xg_dup2 rfl) ?_
            refine xoI (hI768 85 (by decide) (by decide) : cpI 7 52 4294967295 (wget w766 85)) (fun g85_823 h85_824 hb825 => ?_)
            refine xg_ialdB (n := 3) (B := 4294967295) h85_824 (hb825) xnm0 (by omega) (fun u826 hu827 he828 => ?_)
            have hK829 : u826 = u42 := (((rwv_of h85_824 (by decide)).trans he828).symm.trans (rwv_eq ((hF769.1 85 (by decide)).trans ((hF626.1 85 (by decide)).trans ((hF486.1 85 (by decide)).trans ((hF478.1 85 (by decide)).trans ((hF325.1 85 (by decide)).trans ((hF317.1 85 (by decide)).trans ((hF149.1 85 (by decide)).trans ((hF103.1 85 (by decide)).trans hj57)))))))))).trans ((hm 3 (by decide)).trans hK45.symm)
            have hl830 : u826 ≤ 500 := by omega
            refine xg_t (xg_const) ?_
            refine xg_t (xg_iadd (u := u826) (v := 1) (z := u826 + 1) xnm0 xnm0 (by omega)) ?_
            refine xg_iastK (n := 3) (u := u826 + 1) h85_824 xnm0 xnm0 rfl (by omega) (fun w831 hr832 hb833 => ?_)
            refine xg_t (xg_aload (va := (2, 82)) rfl rfl) ?_
            refine xg_t (xg_dup rfl) ?_
            refine xg_t (xg_getf (va := (0, f82_796)) (hb833.get (by decide) h82_808) rfl) ?_
            have hn834 := id hb797
            unfold xHid at hn834
            refine xg_t (xg_const) ?_
            refine xg_t (xg_iadd (u := f82_796) (v := 1) (z := f82_796 + 1) xnm0 xnm0 (by omega)) ?_
            refine xg_putI (fl1 := [(2, 83), (2, 84), (0, f82_778), (0, f82_780), (0, f82_782), (0, f82_784), (0, f82_786), (0, f82_788), (0, f82_790), (0, f82_792), (0, f82_794), (2, 85), (2, 86), (2, 87), (0, f82_796 + 1), (2, 88), (2, 89), (2, 90), (2, 91), (2, 92), (2, 93), (2, 94), (4, f82_798), (4, f82_799), (0, f82_800), (2, 95), (2, 96), (2, 97), (2, 98), (2, 99), (2, 100), (2, 101), (2, 102), (0, f82_802), (2, 103), (2, 104), (2, 105), (2, 106), (2, 107), (2, 108), (2, 109), (0, f82_804), (0, f82_806), (2, 110), (2, 111), (2, 112), (2, 113)]) (hb833.get (by decide) h82_808) rfl rfl rfl (fun w835 hk836 hb837 => ?_)
            have hf838 : fld w835 82 2 = f82_778 := fld_of hk836
            have hf839 : fld w835 82 3 = f82_780 := fld_of hk836
            have hf840 : fld w835 82 4 = f82_782 := fld_of hk836
            have hf841 : fld w835 82 5 = f82_784 := fld_of hk836
            have hf842 : fld w835 82 6 = f82_786 := fld_of hk836
            have hf843 : fld w835 82 7 = f82_788 := fld_of hk836
            have hf844 : fld w835 82 8 = f82_790 := fld_of hk836
            have hf845 : fld w835 82 9 = f82_792 := fld_of hk836
            have hf846 : fld w835 82 10 = f82_794 := fld_of hk836
            have hf847 : fld w835 82 14 = f82_796 + 1 := fld_of hk836
            exact xg_e ⟨w835, ⟨rfl, rfl⟩, xMnv.up (S := [85, 82]) hI768 ((xFr.of (S := [85, 82]) hb833 (by decide)).tr (xFr.of (S := [85, 82]) hb837 (by decide))) (List.forall_mem_cons.mpr ⟨(show cpI 7 52 4294967295 (wget w835 85) from ⟨_, (hr832.but hb837 (by decide)), xrb (by omega) (hb825)⟩), List.forall_mem_cons.mpr ⟨(show cp82 (wget w835 82) from ⟨f82_778, f82_780, f82_782, f82_784, f82_786, f82_788, f82_790, f82_792, f82_794, f82_796 + 1, f82_798, f82_799, f82_800, f82_802, f82_804, f82_806, hk836, by omega, hb781, by omega, by omega, hb787, by omega, hb791, hb793, by omega, by omega, hb801, hb803, hb805, hb807, by omega⟩), fun _ h => absurd h List.not_mem_nil⟩⟩), (((((((((hF50.tr (hF103.up (by decide))).tr (hF149.up (by decide))).tr (hF317.up (by decide))).tr (hF325.up (by decide))).tr (hF478.up (by decide))).tr (hF486.up (by decide))).tr (hF626.up (by decide))).tr (hF769.up (by decide))).tr ((xFr.of (S := [82, 83, 85, 86, 87]) hb833 (by decide)).tr (xFr.of (S := [82, 83, 85, 86, 87]) hb837 (by decide)))), ⟨Or.inl ⟨p_584, lf763, ⟨by have z := hk822.1; omega, (rwv_eq (j := 16) ((hb837.1 83 (by decide)).trans (hb833.1 83 (by decide)))).trans hk822.2.1, (rwv_eq (j := 17) ((hb837.1 83 (by decide)).trans (hb833.1 83 (by decide)))).trans hk822.2.2⟩⟩, ((((((((((hj56.tr (K83.fr hF103 (by decide))).tr k8_153).tr (K83.fr hF317 (by decide))).tr k8_329).tr (K83.fr hF478 (by decide))).tr k8_490).tr (K83.fr hF626 (by decide))).tr hv775).tr (K83.but hb833 (by decide))).tr (K83.but hb837 (by decide))), by omega⟩⟩
  refine xg_t (xg_iload (va := (0, u42)) rfl rfl) ?_
  refine xg_t (xg_iload (va := (0, 3)) rfl rfl) ?_
  refine xg_t (xg_cSr mX12_mostOf (vs := [(0, 3)]) (rest := [(0, u42)]) (rs := [(0, 4), (0, u42)]) (cn1 := 0) (sl1 := 0) rfl (mMostR3) rfl rfl rfl rfl rfl rfl rfl rfl) ?_
  by_cases hc848 : u42 < 4
  · refine xg_t (xg_icT (u := u42) (v := 4) rfl xnm0 xnm0 (xj_ltT hc848 (by omega))) ?_
    refine xg_t (xg_drop (l1 := [(0, (2, 82)), (1, (0, 3)), (2, (0, at_)), (3, (0, u42))]) (List.forall_mem_cons.mpr ⟨List.mem_cons_of_mem _ (List.mem_cons_of_mem _ (List.mem_cons_of_mem _ (List.mem_cons_self))), List.forall_mem_cons.mpr ⟨List.mem_cons_of_mem _ (List.mem_cons_of_mem _ (List.mem_cons_self)), List.forall_mem_cons.mpr ⟨List.mem_cons_of_mem _ (List.mem_cons_self), List.forall_mem_cons.mpr ⟨List.mem_cons_self, fun _ h => absurd h List.not_mem_nil⟩⟩⟩⟩)) ?_
    have he849 : flA B nn k = mf1 B nn k 3 (flA B nn k) := by unfold mf1; rw [decide_eq_false (show ¬ lim 3 ≤ lnC B nn 3 k from (show ¬ 4 ≤ lnC B nn 3 k by omega))]; rfl
    exact jn47 w (hI) (xFr.rf) (⟨by rw [← he849]; exact zF, z10, hT, z14, K83.rf, rfl, rfl, rfl⟩)
  · refine xg_t (xg_icF (u := u42) (v := 4) rfl xnm0 xnm0 (xj_ltF (by omega) (by omega))) ?_
    refine xg_t (xg_aload (va := (2, 82)) rfl rfl) ?_
    refine xg_t (xg_const) ?_
    refine xg_t (xg_iload (va := (0, at_)) rfl rfl) ?_
    refine xg_cVv mX12_also (vs := [(0, 3), (0, at_)]) (rest := []) (cn1 := 0) (sl1 := 0) rfl (mAlsoX (hI) (by omega) (by omega) (by omega) z10 zF) rfl h82_31 rfl rfl rfl rfl rfl rfl (fun w850 hq851 => ?_)
    obtain ⟨hI852, hF853, hx854⟩ := hq851
    obtain ⟨hv855, hv856⟩ := hx854
    refine xg_t (xg_drop (l1 := [(0, (2, 82)), (1, (0, 3)), (2, (0, at_)), (3, (0, u42))]) (List.forall_mem_cons.mpr ⟨List.mem_cons_of_mem _ (List.mem_cons_of_mem _ (List.mem_cons_of_mem _ (List.mem_cons_self))), List.forall_mem_cons.mpr ⟨List.mem_cons_of_mem _ (List.mem_cons_of_mem _ (List.mem_cons_self)), List.forall_mem_cons.mpr ⟨List.mem_cons_of_mem _ (List.mem_cons_self), List.forall_mem_cons.mpr ⟨List.mem_cons_self, fun _ h => absurd h List.not_mem_nil⟩⟩⟩⟩)) ?_
    have he857 : alo (flA B nn k) 3 at_ = mf1 B nn k 3 (flA B nn k) := by unfold mf1; rw [decide_eq_true (show lim 3 ≤ lnC B nn 3 k from (show 4 ≤ lnC B nn 3 k by omega)), hat, hp0]; rfl
    exact jn47 w850 (hI852) ((hF853.up (by decide))) (⟨by rw [← he857]; exact hv855, ((fld_eq (j := 10) (hF853.1 82 (by decide))).trans z10), (hT.fr (hF853.1 82 (by decide))), ((fld_eq (j := 14) (hF853.1 82 (by decide))).trans z14), hv856, (hF853.1 85 (by decide)), (hF853.1 86 (by decide)), (hF853.1 87 (by decide))⟩)
end XFME
