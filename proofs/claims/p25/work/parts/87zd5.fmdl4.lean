section
/-! the model: a line of each sort, more -/
section XFME
variable {d : Nat} {w : List (List xE)} {bd : List (Nat × Nat)} {fc : List (Nat × Nat × Bool)} {rr : Nat × Nat}
set_option maxHeartbeats 60000000 in
theorem mALnX4 {B : Nat → Nat} {nn k p0 : Nat} {at_ : Nat} (hI : xMnv w) (hB : bsm w B nn) (hp0 : p0 = lnP B nn k) (hT : TKM 0 B nn w p0) (hS : MST B nn w k) (hk5 : k ≤ 500) (hs : slt B nn (lnP B nn k) = 4) (hat : at_ = tq B nn p0) : xTo (d + 7) mX12_aLine (43, [], [(2, (0, at_)), (1, (0, 4)), (0, (2, 82))], [], (w, bd, fc, 0, 0, rr)) (fun φ => ∃ w', xEnd 0 [] (w', bd, fc, 0, 0, rr) φ ∧ xMnv w' ∧ xFr [82, 83, 85, 86, 87] w w' ∧ (((∃ q, lnR B nn p0 = (false, q) ∧ WRG w' (tq B nn q)) ∨ ((lnR B nn p0).1 = true ∧ TKM 0 B nn w' (lnP B nn (k + 1)) ∧ MST B nn w' (k + 1))) ∧ K83 w w' ∧ fld w 82 14 ≤ fld w' 82 14)) := by
  refine xoCh82 (hI 82 (by decide) (by decide) : cp82 (wget w 82)) (fun f82_1 f82_3 f82_5 f82_7 f82_9 f82_11 f82_13 f82_15 f82_17 f82_19 f82_21 f82_22 f82_23 f82_25 f82_27 f82_29 h82_31 hb2 hb4 hb6 hb8 hb10 hb12 hb14 hb16 hb18 hb20 hb24 hb26 hb28 hb30 hb32 => ?_)
  refine xoI (hI 85 (by decide) (by decide) : cpI 7 52 4294967295 (wget w 85)) (fun g85_33 h85_34 hb35 => ?_)
  refine xoI (hI 86 (by decide) (by decide) : cpI 140 53 4294967295 (wget w 86)) (fun g86_36 h86_37 hb38 => ?_)
  refine xoI (hI 87 (by decide) (by decide) : cpI 20 54 4294967295 (wget w 87)) (fun g87_39 h87_40 hb41 => ?_)
  obtain ⟨⟨z10, z14, zF, zp⟩, hm, hR⟩ := id hS
  have hkc := lnC_k (B := B) (n := nn) (s := 4) (k := k)
  have hq0 : at_ ≤ 500 := by
    have z1 := tf_gt (B := B) (n := nn) (p := p0) (by rw [slt_kd (by rw [hp0, hs]; decide)]; decide)
    have z2 := hB.1
    omega
  refine xg_t (xg_blk (b := [(43, 1, 0, 0, 0, 0), (44, 3, 1, 12, 11, 17), (47, 1, 2, 1, 0, 0), (48, 1, 10, 0, 0, 0), (49, 1, 15, 3, 0, 0), (50, 1, 2, 3, 0, 0), (51, 1, 2, 1, 0, 0), (52, 3, 13, 194, 98, 193), (55, 3, 6, 64, 2, 0), (58, 1, 0, 0, 0, 0), (59, 1, 3, 3, 0, 0), (60, 1, 2, 2, 0, 0), (61, 3, 13, 115, 96, 186)]) rfl) ?_
  refine xg_t (xg_aload (va := (2, 82)) rfl rfl) ?_
  refine xg_t (xg_getf (va := (2, 85)) h82_31 rfl) ?_
  refine xg_t (xg_iload (va := (0, 4)) rfl rfl) ?_
  refine xg_ialdB (n := 4) (B := 4294967295) h85_34 (hb35) xnm0 (by omega) (fun u42 hu43 he44 => ?_)
  have hK45 : u42 = lnC B nn 4 k := (((rwv_of h85_34 (by decide)).trans he44).symm).trans (hm 4 (by decide))
  have hl46 : u42 ≤ 500 := by omega
  refine xg_t (xg_istore (l1 := [(2, (0, at_)), (1, (0, 4)), (0, (2, 82))]) rfl rfl rfl) ?_
  have jn47 : ∀ (w48 : List (List xE)), xMnv w48 → xFr [82, 83, 85, 86, 87] w w48 → (FP w48 (mf1 B nn k 4 (flA B nn k)) ∧ fld w48 82 10 = 0 ∧ TKM 0 B nn w48 p0 ∧ fld w48 82 14 = k ∧ K83 w w48 ∧ wget w48 85 = wget w 85 ∧ wget w48 86 = wget w 86 ∧ wget w48 87 = wget w 87) → xTo (d + 7) mX12_aLine (64, [], [(0, (2, 82)), (1, (0, 4)), (2, (0, at_)), (3, (0, u42))], [], (w48, bd, fc, 0, 0, rr)) (fun φ => ∃ w', xEnd 0 [] (w', bd, fc, 0, 0, rr) φ ∧ xMnv w' ∧ xFr [82, 83, 85, 86, 87] w w' ∧ (((∃ q, lnR B nn p0 = (false, q) ∧ WRG w' (tq B nn q)) ∨ ((lnR B nn p0).1 = true ∧ TKM 0 B nn w' (lnP B nn (k + 1)) ∧ MST B nn w' (k + 1))) ∧ K83 w w' ∧ fld w 82 14 ≤ fld w' 82 14)) := by
    intro w48 hI49 hF50 he51
    obtain ⟨hj52, hj53, hj54, hj55, hj56, hj57, hj58, hj59⟩ := he51
    refine xg_t (xg_blk (b := [(64, 1, 0, 0, 0, 0), (65, 3, 13, 110, 96, 190), (68, 1, 2, 1, 0, 0), (69, 39, 33, 362, 0, 9)]) rfl) ?_
    refine xg_t (xg_aload (va := (2, 82)) rfl rfl) ?_
    obtain ⟨⟨ht60, ht61, ht62, ht63, ht64, ht65⟩, -⟩ := id hj54
    have hk66 := hj53
    have hk67 := hj55
    refine xoCh82 (hI49 82 (by decide) (by decide) : cp82 (wget w48 82)) (fun f82_68 f82_70 f82_72 f82_74 f82_76 f82_78 f82_80 f82_82 f82_84 f82_86 f82_88 f82_89 f82_90 f82_92 f82_94 f82_96 h82_98 hb69 hb71 hb73 hb75 hb77 hb79 hb81 hb83 hb85 hb87 hb91 hb93 hb95 hb97 hb99 => ?_)
    refine xg_cVv mX12_advance (vs := []) (rest := []) (cn1 := 0) (sl1 := 0) rfl (mAdvX (hI49) (hB.fr (fun j h4 h9 => hj56 j (by omega) (by omega) (by omega))) ht60 ht61 (by rw [ht62]; exact tf_le ht65)) rfl h82_98 rfl rfl rfl rfl rfl rfl (fun w100 hq101 => ?_)
    obtain ⟨hI102, hF103, hx104⟩ := hq101
    obtain ⟨hz105, hz106, hz107⟩ := hx104
    rw [ht62] at hz105
    clear ht60 ht61 ht62 ht63 ht64 ht65
    obtain ⟨p_108, hp109⟩ : ∃ x, x = tf B nn p0 := ⟨_, rfl⟩
    rw [← hp109] at hz105
    have k10_110 := hz106.trans hk66
    have k14_111 := hz107.trans hk67
    clear hz106 hz107 hk66 hk67
    have ln112 : lnR B nn p0 = lnN B nn 4 2 p_108 := by rw [hp109]; exact lnR_go (by rw [hp0]; exact hs) (by decide)
    refine xg_t (xg_iload (va := (0, 4)) rfl rfl) ?_
    refine xg_t (xg_swt (ks := [(0, 108), (1, 116), (2, 180), (3, 221), (4, 273), (5, 326)]) (u := 4) (z := 273) rfl rfl rfl xnm0 (xsw_n (by omega) (xsw_n (by omega) (xsw_n (by omega) (xsw_n (by omega) (xsw_y rfl)))))) ?_
    refine xg_t (xg_blk (b := [(273, 1, 2, 3, 0, 0), (274, 2, 4, 20, 0, 0), (276, 3, 6, 286, 3, 0), (279, 1, 0, 0, 0, 0), (280, 3, 1, 12, 13, 23), (283, 1, 2, 3, 0, 0), (284, 1, 2, 2, 0, 0), (285, 1, 17, 0, 0, 0)]) rfl) ?_
    refine xg_t (xg_iload (va := (0, u42)) rfl rfl) ?_
    refine xg_t (xg_bip) ?_
    by_cases hc113 : u42 < 20
    · refine xg_t (xg_icF (u := u42) (v := 20) rfl xnm0 xnm0 (xj_geF hc113 (by omega))) ?_
      refine xg_t (xg_aload (va := (2, 82)) rfl rfl) ?_
      refine xoCh82 (hI102 82 (by decide) (by decide) : cp82 (wget w100 82)) (fun f82_114 f82_116 f82_118 f82_120 f82_122 f82_124 f82_126 f82_128 f82_130 f82_132 f82_134 f82_135 f82_136 f82_138 f82_140 f82_142 h82_144 hb115 hb117 hb119 hb121 hb123 hb125 hb127 hb129 hb131 hb133 hb137 hb139 hb141 hb143 hb145 => ?_)
      refine xg_t (xg_getf (va := (2, 87)) h82_144 rfl) ?_
      refine xg_t (xg_iload (va := (0, u42)) rfl rfl) ?_
      refine xg_t (xg_iload (va := (0, at_)) rfl rfl) ?_
      refine xoI (hI102 87 (by decide) (by decide) : cpI 20 54 4294967295 (wget w100 87)) (fun g87_146 h87_147 hb148 => ?_)
      refine xg_iastK (n := u42) (u := at_) h87_147 xnm0 xnm0 rfl (by omega) (fun w149 hr150 hb151 => ?_)
      refine xg_t (xg_blk (b := [(286, 1, 3, 0, 0, 0), (287, 2, 15, 4, 0, 0)]) rfl) ?_
      refine xg_t (xg_const) ?_
      refine xg_t (xg_istore (l1 := [(0, (2, 82)), (1, (0, 4)), (2, (0, at_)), (3, (0, u42))]) rfl rfl rfl) ?_
      refine xg_t (xg_blk (b := [(289, 2, 2, 4, 0, 0), (291, 1, 3, 2, 0, 0), (292, 3, 6, 323, 3, 0), (295, 1, 0, 0, 0, 0), (296, 1, 2, 1, 0, 0), (297, 1, 2, 3, 0, 0), (298, 2, 4, 100, 0, 0), (300, 1, 3, 2, 0, 0), (301, 1, 2, 3, 0, 0), (302, 1, 16, 0, 0, 0), (303, 1, 11, 0, 0, 0), (304, 2, 2, 4, 0, 0), (306, 1, 11, 0, 0, 0), (307, 1, 0, 0, 0, 0), (308, 1, 3, 0, 0, 0), (309, 2, 4, 9, 0, 0), (311, 3, 13, 199, 96, 196), (314, 3, 13, 211, 96, 200), (317, 3, 9, 4, 1, 0), (320, 3, 8, 289, 0, 0)]) rfl) ?_
      refine xg_t (xg_iload (va := (0, 0)) rfl rfl) ?_
      refine xg_t (xg_const) ?_
      refine xg_t (xg_icF (u := 0) (v := 2) rfl xnm0 xnm0 (by decide)) ?_
      refine xg_t (xg_aload (va := (2, 82)) rfl rfl) ?_
      refine xg_t (xg_iload (va := (0, 4)) rfl rfl) ?_
      refine xg_t (xg_iload (va := (0, u42)) rfl rfl) ?_
      refine xg_t (xg_bip) ?_
      refine xg_t (xg_const) ?_
      refine xg_t (xg_iload (va := (0, u42)) rfl rfl) ?_
      refine xg_t (xg_imul (u := 2) (v := u42) (z := 2 * u42) xnm0 xnm0 (by omega)) ?_
      refine xg_t (xg_iadd (u := 100) (v := 2 * u42) (z := 100 + (2 * u42)) xnm0 xnm0 (by omega)) ?_
      refine xg_t (xg_iload (va := (0, 0)) rfl rfl) ?_
      refine xg_t (xg_iadd (u := 100 + (2 * u42)) (v := 0) (z := (100 + (2 * u42)) + 0) xnm0 xnm0 (by omega)) ?_
      refine xg_t (xg_aload (va := (2, 82)) rfl rfl) ?_
      refine xg_t (xg_const) ?_
      refine xg_t (xg_bip) ?_
      have hk152 := ((fld_eq (j := 14) (hb151.1 82 (by decide))).trans k14_111)
      refine xg_cVi mX12_numbered (vs := [(0, 0), (0, 9)]) (rest := [(0, (100 + (2 * u42)) + 0), (0, u42), (0, 4), (2, 82)]) (cn1 := 0) (sl1 := 0) rfl (mNumX (ir := 0) (xMnv.up (S := [87]) hI102 (xFr.of (S := [87]) hb151 (by decide)) (List.forall_mem_cons.mpr ⟨(show cpI 20 54 4294967295 (wget w149 87) from ⟨_, hr150, xrb (by omega) (hb148)⟩), fun _ h => absurd h List.not_mem_nil⟩)) (by omega) (by omega) (hB.fr (fun j h4 h9 => ((hj56.tr (K83.fr hF103 (by decide))).tr (K83.but hb151 (by decide))) j (by omega) (by omega) (by omega))) ((fld_eq (j := 10) (hb151.1 82 (by decide))).trans k10_110) (hz105.fr (hb151.1 82 (by decide))) (hj52.k83 (rwv_eq ((hb151.1 83 (by decide)).trans (hF103.1 83 (by decide)))) (rwv_eq ((hb151.1 83 (by decide)).trans (hF103.1 83 (by decide)))))) rfl (hb151.get (by decide) h82_144) rfl rfl rfl rfl rfl rfl (fun n157 w153 hq154 => ?_)
      obtain ⟨hn158, hI155, hF156⟩ := hq154
      obtain ⟨hx161, h14_159, k8_160⟩ := hn158
      have k14_162 := h14_159.trans hk152
      rcases hx161 with ⟨rfl, hk163, hW164⟩ | ⟨hv165, h9_166, hk163, k10_167, hT_168, hF_169⟩
      · have lf170 : lnR B nn p0 = (false, p_108) := ln112.trans (lnN_n (k := 1) hk163)
        refine xoCh82 (hI155 82 (by decide) (by decide) : cp82 (wget w153 82)) (fun f82_171 f82_173 f82_175 f82_177 f82_179 f82_181 f82_183 f82_185 f82_187 f82_189 f82_191 f82_192 f82_193 f82_195 f82_197 f82_199 h82_201 hb172 hb174 hb176 hb178 hb180 hb182 hb184 hb186 hb188 hb190 hb194 hb196 hb198 hb200 hb202 => ?_)
        refine xg_cVv mX12_puts (vs := [(0, 4), (0, u42), (0, (100 + (2 * u42)) + 0), (0, 0)]) (rest := []) (cn1 := 0) (sl1 := 0) rfl (mPuts4 (hI155) (by omega) (by omega) (by omega) (fun _ => by omega)) rfl h82_201 rfl rfl rfl rfl rfl rfl (fun w203 hq204 => ?_)
        obtain ⟨hI205, hF206, hx207⟩ := hq204
        obtain ⟨hp208, hp209⟩ := hx207
        refine xg_t (xg_iinc (u := 0) (z := 1) (l1 := [(0, (2, 82)), (1, (0, 4)), (2, (0, at_)), (3, (0, u42))]) rfl rfl (by decide) rfl) ?_
        refine xg_t (xg_goto) ?_
        refine xg_t (xg_blk (b := [(289, 2, 2, 4, 0, 0), (291, 1, 3, 2, 0, 0), (292, 3, 6, 323, 3, 0), (295, 1, 0, 0, 0, 0), (296, 1, 2, 1, 0, 0), (297, 1, 2, 3, 0, 0), (298, 2, 4, 100, 0, 0), (300, 1, 3, 2, 0, 0), (301, 1, 2, 3, 0, 0), (302, 1, 16, 0, 0, 0), (303, 1, 11, 0, 0, 0), (304, 2, 2, 4, 0, 0), (306, 1, 11, 0, 0, 0), (307, 1, 0, 0, 0, 0), (308, 1, 3, 0, 0, 0), (309, 2, 4, 9, 0, 0), (311, 3, 13, 199, 96, 196), (314, 3, 13, 211, 96, 200), (317, 3, 9, 4, 1, 0), (320, 3, 8, 289, 0, 0)]) rfl) ?_
        refine xg_t (xg_iload (va := (0, 1)) rfl rfl) ?_
        refine xg_t (xg_const) ?_
        refine xg_t (xg_icF (u := 1) (v := 2) rfl xnm0 xnm0 (by decide)) ?_
        refine xg_t (xg_aload (va := (2, 82)) rfl rfl) ?_
        refine xg_t (xg_iload (va := (0, 4)) rfl rfl) ?_
        refine xg_t (xg_iload (va := (0, u42)) rfl rfl) ?_
        refine xg_t (xg_bip) ?_
        refine xg_t (xg_const) ?_
        refine xg_t (xg_iload (va := (0, u42)) rfl rfl) ?_
        refine xg_t (xg_imul (u := 2) (v := u42) (z := 2 * u42) xnm0 xnm0 (by omega)) ?_
        refine xg_t (xg_iadd (u := 100) (v := 2 * u42) (z := 100 + (2 * u42)) xnm0 xnm0 (by omega)) ?_
        refine xg_t (xg_iload (va := (0, 1)) rfl rfl) ?_
        refine xg_t (xg_iadd (u := 100 + (2 * u42)) (v := 1) (z := (100 + (2 * u42)) + 1) xnm0 xnm0 (by omega)) ?_
        refine xg_t (xg_aload (va := (2, 82)) rfl rfl) ?_
        refine xg_t (xg_const) ?_
        refine xg_t (xg_bip) ?_
        refine xg_cVi mX12_numbered (vs := [(0, 0), (0, 9)]) (rest := [(0, (100 + (2 * u42)) + 1), (0, u42), (0, 4), (2, 82)]) (cn1 := 0) (sl1 := 0) rfl (mNumW (hI205) (by omega) (by omega) (by have q := hW164.1; have q2 := fld_eq (j := 10) (hF206.1 82 (by decide)); omega)) rfl (hF206.get (by decide) h82_201) rfl rfl rfl rfl rfl rfl (fun n214 w210 hq211 => ?_)
        obtain ⟨hn215, hI212, hF213⟩ := hq211
        obtain rfl := hn215
        refine xg_cVv mX12_puts (vs := [(0, 4), (0, u42), (0, (100 + (2 * u42)) + 1), (0, 0)]) (rest := []) (cn1 := 0) (sl1 := 0) rfl (mPuts4 (hI212) (by omega) (by omega) (by omega) (fun _ => by omega)) rfl (hF213.get (by decide) (hF206.get (by decide) h82_201)) rfl rfl rfl rfl rfl rfl (fun w216 hq217 => ?_)
        obtain ⟨hI218, hF219, hx220⟩ := hq217
        obtain ⟨hp221, hp222⟩ := hx220
        refine xg_t (xg_iinc (u := 1) (z := 2) (l1 := [(0, (2, 82)), (1, (0, 4)), (2, (0, at_)), (3, (0, u42))]) rfl rfl (by decide) rfl) ?_
        refine xg_t (xg_goto) ?_
        refine xg_t (xg_blk (b := [(289, 2, 2, 4, 0, 0), (291, 1, 3, 2, 0, 0), (292, 3, 6, 323, 3, 0), (295, 1, 0, 0, 0, 0), (296, 1, 2, 1, 0, 0), (297, 1, 2, 3, 0, 0), (298, 2, 4, 100, 0, 0), (300, 1, 3, 2, 0, 0), (301, 1, 2, 3, 0, 0), (302, 1, 16, 0, 0, 0), (303, 1, 11, 0, 0, 0), (304, 2, 2, 4, 0, 0), (306, 1, 11, 0, 0, 0), (307, 1, 0, 0, 0, 0), (308, 1, 3, 0, 0, 0), (309, 2, 4, 9, 0, 0), (311, 3, 13, 199, 96, 196), (314, 3, 13, 211, 96, 200), (317, 3, 9, 4, 1, 0), (320, 3, 8, 289, 0, 0)]) rfl) ?_
        refine xg_t (xg_iload (va := (0, 2)) rfl rfl) ?_
        refine xg_t (xg_const) ?_
        refine xg_t (xg_icT (u := 2) (v := 2) rfl xnm0 xnm0 (by decide)) ?_
        refine xg_t (xg_blk (b := [(323, 3, 8, 394, 0, 0)]) rfl) ?_
        refine xg_t (xg_goto) ?_
        refine xg_t (xg_blk (b := [(394, 1, 0, 0, 0, 0), (395, 3, 1, 12, 10, 180), (398, 3, 7, 416, 1, 0), (401, 1, 0, 0, 0, 0), (402, 3, 1, 12, 7, 151), (405, 1, 3, 2, 0, 0), (406, 3, 6, 416, 1, 0), (409, 1, 0, 0, 0, 0), (410, 3, 13, 110, 96, 190), (413, 3, 8, 420, 0, 0)]) rfl) ?_
        refine xg_t (xg_aload (va := (2, 82)) rfl rfl) ?_
        refine xg_t (xg_getf (va := (0, f82_187)) (hF219.get (by decide) (hF213.get (by decide) (hF206.get (by decide) h82_201))) rfl) ?_
        have hf223 : fld w216 82 10 = f82_187 := fld_of (hF219.get (by decide) (hF213.get (by decide) (hF206.get (by decide) h82_201)))
        have hk224 : fld w216 82 10 ≠ 0 := (by have q := hW164.1; have q2 := fld_eq (j := 10) ((hF219.1 82 (by decide)).trans ((hF213.1 82 (by decide)).trans (hF206.1 82 (by decide)))); omega)
        refine xg_t (xg_ifT (u := f82_187) rfl xnm0 (xj_neT (by omega))) ?_
        refine xg_t (xg_blk (b := [(416, 1, 0, 0, 0, 0), (417, 3, 13, 140, 96, 183)]) rfl) ?_
        refine xg_t (xg_aload (va := (2, 82)) rfl rfl) ?_
        refine xg_cVv mX12_ends (vs := []) (rest := []) (cn1 := 0) (sl1 := 0) rfl (mEndsW (hI218) (by have q := hW164.1; have q2 := fld_eq (j := 10) ((hF219.1 82 (by decide)).trans ((hF213.1 82 (by decide)).trans (hF206.1 82 (by decide)))); omega)) rfl (hF219.get (by decide) (hF213.get (by decide) (hF206.get (by decide) h82_201))) rfl rfl rfl rfl rfl rfl (fun w225 hq226 => ?_)
        obtain ⟨hI227, hF228⟩ := hq226
        refine xg_t (xg_blk (b := [(420, 1, 0, 0, 0, 0), (421, 3, 1, 12, 11, 17), (424, 1, 2, 1, 0, 0), (425, 1, 39, 0, 0, 0), (426, 1, 10, 0, 0, 0), (427, 1, 3, 1, 0, 0), (428, 1, 11, 0, 0, 0), (429, 1, 17, 0, 0, 0), (430, 1, 0, 0, 0, 0), (431, 1, 19, 0, 0, 0), (432, 3, 1, 12, 14, 212), (435, 1, 3, 1, 0, 0), (436, 1, 11, 0, 0, 0), (437, 3, 14, 12, 14, 212), (440, 1, 12, 0, 0, 0)]) rfl) ?_
        have hf229 : fld w225 82 2 = f82_171 := fld_of (hF228.get (by decide) (hF219.get (by decide) (hF213.get (by decide) (hF206.get (by decide) h82_201))))
        have hf230 : fld w225 82 3 = f82_173 := fld_of (hF228.get (by decide) (hF219.get (by decide) (hF213.get (by decide) (hF206.get (by decide) h82_201))))
        have hf231 : fld w225 82 4 = f82_175 := fld_of (hF228.get (by decide) (hF219.get (by decide) (hF213.get (by decide) (hF206.get (by decide) h82_201))))
        have hf232 : fld w225 82 5 = f82_177 := fld_of (hF228.get (by decide) (hF219.get (by decide) (hF213.get (by decide) (hF206.get (by decide) h82_201))))
        have hf233 : fld w225 82 6 = f82_179 := fld_of (hF228.get (by decide) (hF219.get (by decide) (hF213.get (by decide) (hF206.get (by decide) h82_201))))
        have hf234 : fld w225 82 7 = f82_181 := fld_of (hF228.get (by decide) (hF219.get (by decide) (hF213.get (by decide) (hF206.get (by decide) h82_201))))
        have hf235 : fld w225 82 8 = f82_183 := fld_of (hF228.get (by decide) (hF219.get (by decide) (hF213.get (by decide) (hF206.get (by decide) h82_201))))
        have hf236 : fld w225 82 9 = f82_185 := fld_of (hF228.get (by decide) (hF219.get (by decide) (hF213.get (by decide) (hF206.get (by decide) h82_201))))
        have hf237 : fld w225 82 10 = f82_187 := fld_of (hF228.get (by decide) (hF219.get (by decide) (hF213.get (by decide) (hF206.get (by decide) h82_201))))
        have hf238 : fld w225 82 14 = f82_189 := fld_of (hF228.get (by decide) (hF219.get (by decide) (hF213.get (by decide) (hF206.get (by decide) h82_201))))
        have hk239 := ((fld_eq (j := 14) ((hF228.1 82 (by decide)).trans ((hF219.1 82 (by decide)).trans ((hF213.1 82 (by decide)).trans (hF206.1 82 (by decide)))))).trans k14_162)
        have hl240 : f82_189 ≤ 500 := by omega
        have hk241 : WRG w225 (tq B nn p_108) := ⟨(fld_eq (j := 10) ((hF228.1 82 (by decide)).trans ((hF219.1 82 (by decide)).trans ((hF213.1 82 (by decide)).trans (hF206.1 82 (by decide)))))).trans hW164.1, (rwv_eq (j := 16) ((hF228.1 83 (by decide)).trans ((hF219.1 83 (by decide)).trans ((hF213.1 83 (by decide)).trans (hF206.1 83 (by decide)))))).trans hW164.2.1, (rwv_eq (j := 17) ((hF228.1 83 (by decide)).trans ((hF219.1 83 (by decide)).trans ((hF213.1 83 (by decide)).trans (hF206.1 83 (by decide)))))).trans hW164.2.2⟩
        refine xg_t (xg_aload (va := (2, 82)) rfl rfl) ?_
        refine xg_t (xg_getf (va := (2, 85)) (hF228.get (by decide) (hF219.get (by decide) (hF213.get (by decide) (hF206.get (by decide) h82_201)))) rfl) ?_
        refine xg_t (xg_iload (va := (0, 4)) rfl rfl) ?_
        refine xg_t (xg_dup2 rfl) ?_
        refine xoI (hI227 85 (by decide) (by decide) : cpI 7 52 4294967295 (wget w225 85)) (fun g85_242 h85_243 hb244 => ?_)
        refine xg_ialdB (n := 4) (B := 4294967295) h85_243 (hb244) xnm0 (by omega) (fun u245 hu246 he247 => ?_)
        have hK248 : u245 = u42 := (((rwv_of h85_243 (by decide)).trans he247).symm.trans (rwv_eq ((hF228.1 85 (by decide)).trans ((hF219.1 85 (by decide)).trans ((hF213.1 85 (by decide)).trans ((hF206.1 85 (by decide)).trans ((hF156.1 85 (by decide)).trans ((hb151.1 85 (by decide)).trans ((hF103.1 85 (by decide)).trans hj57))))))))).trans ((hm 4 (by decide)).trans hK45.symm)
        have hl249 : u245 ≤ 500 := by omega
        refine xg_t (xg_const) ?_
        refine xg_t (xg_iadd (u := u245) (v := 1) (z := u245 + 1) xnm0 xnm0 (by omega)) ?_
        refine xg_iastK (n := 4) (u := u245 + 1) h85_243 xnm0 xnm0 rfl (by omega) (fun w250 hr251 hb252 => ?_)
        refine xg_t (xg_aload (va := (2, 82)) rfl rfl) ?_
        refine xg_t (xg_dup rfl) ?_
        refine xg_t (xg_getf (va := (0, f82_189)) (hb252.get (by decide) (hF228.get (by decide) (hF219.get (by decide) (hF213.get (by decide) (hF206.get (by decide) h82_201))))) rfl) ?_
        have hn253 := id hb190
        unfold xHid at hn253
        refine xg_t (xg_const) ?_
        refine xg_t (xg_iadd (u := f82_189) (v := 1) (z := f82_189 + 1) xnm0 xnm0 (by omega)) ?_
        refine xg_putI (fl1 := [(2, 83), (2, 84), (0, f82_171), (0, f82_173), (0, f82_175), (0, f82_177), (0, f82_179), (0, f82_181), (0, f82_183), (0, f82_185), (0, f82_187), (2, 85), (2, 86), (2, 87), (0, f82_189 + 1), (2, 88), (2, 89), (2, 90), (2, 91), (2, 92), (2, 93), (2, 94), (4, f82_191), (4, f82_192), (0, f82_193), (2, 95), (2, 96), (2, 97), (2, 98), (2, 99), (2, 100), (2, 101), (2, 102), (0, f82_195), (2, 103), (2, 104), (2, 105), (2, 106), (2, 107), (2, 108), (2, 109), (0, f82_197), (0, f82_199), (2, 110), (2, 111), (2, 112), (2, 113)]) (hb252.get (by decide) (hF228.get (by decide) (hF219.get (by decide) (hF213.get (by decide) (hF206.get (by decide) h82_201))))) rfl rfl rfl (fun w254 hk255 hb256 => ?_)
        have hf257 : fld w254 82 2 = f82_171 := fld_of hk255
        have hf258 : fld w254 82 3 = f82_173 := fld_of hk255
        have hf259 : fld w254 82 4 = f82_175 := fld_of hk255
        have hf260 : fld w254 82 5 = f82_177 := fld_of hk255
        have hf261 : fld w254 82 6 = f82_179 := fld_of hk255
        have hf262 : fld w254 82 7 = f82_181 := fld_of hk255
        have hf263 : fld w254 82 8 = f82_183 := fld_of hk255
        have hf264 : fld w254 82 9 = f82_185 := fld_of hk255
        have hf265 : fld w254 82 10 = f82_187 := fld_of hk255
        have hf266 : fld w254 82 14 = f82_189 + 1 := fld_of hk255
        exact xg_e ⟨w254, ⟨rfl, rfl⟩, xMnv.up (S := [85, 82]) hI227 ((xFr.of (S := [85, 82]) hb252 (by decide)).tr (xFr.of (S := [85, 82]) hb256 (by decide))) (List.forall_mem_cons.mpr ⟨(show cpI 7 52 4294967295 (wget w254 85) from ⟨_, (hr251.but hb256 (by decide)), xrb (by omega) (hb244)⟩), List.forall_mem_cons.mpr ⟨(show cp82 (wget w254 82) from ⟨f82_171, f82_173, f82_175, f82_177, f82_179, f82_181, f82_183, f82_185, f82_187, f82_189 + 1, f82_191, f82_192, f82_193, f82_195, f82_197, f82_199, hk255, by omega, hb174, by omega, by omega, hb180, by omega, hb184, hb186, by omega, by omega, hb194, hb196, hb198, hb200, by omega⟩), fun _ h => absurd h List.not_mem_nil⟩⟩), ((((((((hF50.tr (hF103.up (by decide))).tr (xFr.of (S := [82, 83, 85, 86, 87]) hb151 (by decide))).tr (hF156.up (by decide))).tr (hF206.up (by decide))).tr (hF213.up (by decide))).tr (hF219.up (by decide))).tr (hF228.up (by decide))).tr ((xFr.of (S := [82, 83, 85, 86, 87]) hb252 (by decide)).tr (xFr.of (S := [82, 83, 85, 86, 87]) hb256 (by decide)))), ⟨Or.inl ⟨p_108, lf170, ⟨by have z := hk241.1; omega, (rwv_eq (j := 16) ((hb256.1 83 (by decide)).trans (hb252.1 83 (by decide)))).trans hk241.2.1, (rwv_eq (j := 17) ((hb256.1 83 (by decide)).trans (hb252.1 83 (by decide)))).trans hk241.2.2⟩⟩, (((((((((hj56.tr (K83.fr hF103 (by decide))).tr (K83.but hb151 (by decide))).tr k8_160).tr (K83.fr hF206 (by decide))).tr (K83.fr hF213 (by decide))).tr (K83.fr hF219 (by decide))).tr (K83.fr hF228 (by decide))).tr (K83.but hb252 (by decide))).tr (K83.but hb256 (by decide))), by omega⟩⟩
      · obtain ⟨p_267, hp268⟩ : ∃ x, x = tf B nn p_108 := ⟨_, rfl⟩
        rw [← hp268] at hT_168
        have ln269 : lnR B nn p0 = lnN B nn 4 1 p_267 := by rw [hp268]; exact ln112.trans (lnN_y (k := 1) hk163)
        have vp270 : vlp B nn (lnP B nn k) 0 = p_108 := by rw [← hp0]; exact hp109.symm
        have vl271 : vln B nn (lnP B nn k) 0 = tnu B nn p_108 := by
          show (if (0 : Nat) = 3 then _ else tnu B nn (vlp B nn (lnP B nn k) 0)) = _
          rw [if_neg (by decide), vp270]
        have he273 : (chk (mf1 B nn k 4 (flA B nn k)) 0 9 (tnu B nn p_108) (tq B nn p_108)) = (mf2 B nn k 4 (flA B nn k)) := by show _ = chk (mf1 B nn k 4 (flA B nn k)) 0 9 (vln B nn (lnP B nn k) 0) (tq B nn (vlp B nn (lnP B nn k) 0)); rw [vl271, vp270]
        have hF_272 := hF_169
        rw [he273] at hF_272
        have he275 : (mf2 B nn k 4 (flA B nn k)) = (mf3 B nn k 4 (flA B nn k)) := rfl
        have hF_274 := hF_272
        rw [he275] at hF_274
        refine xoCh82 (hI155 82 (by decide) (by decide) : cp82 (wget w153 82)) (fun f82_276 f82_278 f82_280 f82_282 f82_284 f82_286 f82_288 f82_290 f82_292 f82_294 f82_296 f82_297 f82_298 f82_300 f82_302 f82_304 h82_306 hb277 hb279 hb281 hb283 hb285 hb287 hb289 hb291 hb293 hb295 hb299 hb301 hb303 hb305 hb307 => ?_)
        refine xg_cVv mX12_puts (vs := [(0, 4), (0, u42), (0, (100 + (2 * u42)) + 0), (0, n157)]) (rest := []) (cn1 := 0) (sl1 := 0) rfl (mPuts4 (hI155) (by omega) (by omega) (by omega) (fun _ => by omega)) rfl h82_306 rfl rfl rfl rfl rfl rfl (fun w308 hq309 => ?_)
        obtain ⟨hI310, hF311, hx312⟩ := hq309
        obtain ⟨hp313, hp314⟩ := hx312
        refine xg_t (xg_iinc (u := 0) (z := 1) (l1 := [(0, (2, 82)), (1, (0, 4)), (2, (0, at_)), (3, (0, u42))]) rfl rfl (by decide) rfl) ?_
        refine xg_t (xg_goto) ?_
        refine xg_t (xg_blk (b := [(289, 2, 2, 4, 0, 0), (291, 1, 3, 2, 0, 0), (292, 3, 6, 323, 3, 0), (295, 1, 0, 0, 0, 0), (296, 1, 2, 1, 0, 0), (297, 1, 2, 3, 0, 0), (298, 2, 4, 100, 0, 0), (300, 1, 3, 2, 0, 0), (301, 1, 2, 3, 0, 0), (302, 1, 16, 0, 0, 0), (303, 1, 11, 0, 0, 0), (304, 2, 2, 4, 0, 0), (306, 1, 11, 0, 0, 0), (307, 1, 0, 0, 0, 0), (308, 1, 3, 0, 0, 0), (309, 2, 4, 9, 0, 0), (311, 3, 13, 199, 96, 196), (314, 3, 13, 211, 96, 200), (317, 3, 9, 4, 1, 0), (320, 3, 8, 289, 0, 0)]) rfl) ?_
        refine xg_t (xg_iload (va := (0, 1)) rfl rfl) ?_
        refine xg_t (xg_const) ?_
        refine xg_t (xg_icF (u := 1) (v := 2) rfl xnm0 xnm0 (by decide)) ?_
        refine xg_t (xg_aload (va := (2, 82)) rfl rfl) ?_
        refine xg_t (xg_iload (va := (0, 4)) rfl rfl) ?_
        refine xg_t (xg_iload (va := (0, u42)) rfl rfl) ?_
        refine xg_t (xg_bip) ?_
        refine xg_t (xg_const) ?_
        refine xg_t (xg_iload (va := (0, u42)) rfl rfl) ?_
        refine xg_t (xg_imul (u := 2) (v := u42) (z := 2 * u42) xnm0 xnm0 (by omega)) ?_
        refine xg_t (xg_iadd (u := 100) (v := 2 * u42) (z := 100 + (2 * u42)) xnm0 xnm0 (by omega)) ?_
        refine xg_t (xg_iload (va := (0, 1)) rfl rfl) ?_
        refine xg_t (xg_iadd (u := 100 + (2 * u42)) (v := 1) (z := (100 + (2 * u42)) + 1) xnm0 xnm0 (by omega)) ?_
        refine xg_t (xg_aload (va := (2, 82)) rfl rfl) ?_
        refine xg_t (xg_const) ?_
        refine xg_t (xg_bip) ?_
        have hk315 := ((fld_eq (j := 14) (hF311.1 82 (by decide))).trans k14_162)
        refine xg_cVi mX12_numbered (vs := [(0, 0), (0, 9)]) (rest := [(0, (100 + (2 * u42)) + 1), (0, u42), (0, 4), (2, 82)]) (cn1 := 0) (sl1 := 0) rfl (mNumX (ir := 0) (hI310) (by omega) (by omega) (hB.fr (fun j h4 h9 => ((((hj56.tr (K83.fr hF103 (by decide))).tr (K83.but hb151 (by decide))).tr k8_160).tr (K83.fr hF311 (by decide))) j (by omega) (by omega) (by omega))) ((fld_eq (j := 10) (hF311.1 82 (by decide))).trans k10_167) (hT_168.fr (hF311.1 82 (by decide))) (hF_274.k83 (rwv_eq (hF311.1 83 (by decide))) (rwv_eq (hF311.1 83 (by decide))))) rfl (hF311.get (by decide) h82_306) rfl rfl rfl rfl rfl rfl (fun n320 w316 hq317 => ?_)
        obtain ⟨hn321, hI318, hF319⟩ := hq317
        obtain ⟨hx324, h14_322, k8_323⟩ := hn321
        have k14_325 := h14_322.trans hk315
        rcases hx324 with ⟨rfl, hk326, hW327⟩ | ⟨hv328, h9_329, hk326, k10_330, hT_331, hF_332⟩
        · have lf333 : lnR B nn p0 = (false, p_267) := ln269.trans (lnN_n (k := 0) hk326)
          refine xoCh82 (hI318 82 (by decide) (by decide) : cp82 (wget w316 82)) (fun f82_334 f82_336 f82_338 f82_340 f82_342 f82_344 f82_346 f82_348 f82_350 f82_352 f82_354 f82_355 f82_356 f82_358 f82_360 f82_362 h82_364 hb335 hb337 hb339 hb341 hb343 hb345 hb347 hb349 hb351 hb353 hb357 hb359 hb361 hb363 hb365 => ?_)
          refine xg_cVv mX12_puts (vs := [(0, 4), (0, u42), (0, (100 + (2 * u42)) + 1), (0, 0)]) (rest := []) (cn1 := 0) (sl1 := 0) rfl (mPuts4 (hI318) (by omega) (by omega) (by omega) (fun _ => by omega)) rfl h82_364 rfl rfl rfl rfl rfl rfl (fun w366 hq367 => ?_)
          obtain ⟨hI368, hF369, hx370⟩ := hq367
          obtain ⟨hp371, hp372⟩ := hx370
          refine xg_t (xg_iinc (u := 1) (z := 2) (l1 := [(0, (2, 82)), (1, (0, 4)), (2, (0, at_)), (3, (0, u42))]) rfl rfl (by decide) rfl) ?_
          refine xg_t (xg_goto) ?_
          refine xg_t (xg_blk (b := [(289, 2, 2, 4, 0, 0), (291, 1, 3, 2, 0, 0), (292, 3, 6, 323, 3, 0), (295, 1, 0, 0, 0, 0), (296, 1, 2, 1, 0, 0), (297, 1, 2, 3, 0, 0), (298, 2, 4, 100, 0, 0), (300, 1, 3, 2, 0, 0), (301, 1, 2, 3, 0, 0), (302, 1, 16, 0, 0, 0), (303, 1, 11, 0, 0, 0), (304, 2, 2, 4, 0, 0), (306, 1, 11, 0, 0, 0), (307, 1, 0, 0, 0, 0), (308, 1, 3, 0, 0, 0), (309, 2, 4, 9, 0, 0), (311, 3, 13, 199, 96, 196), (314, 3, 13, 211, 96, 200), (317, 3, 9, 4, 1, 0), (320, 3, 8, 289, 0, 0)]) rfl) ?_
          refine xg_t (xg_iload (va := (0, 2)) rfl rfl) ?_
          refine xg_t (xg_const) ?_
          refine xg_t (xg_icT (u := 2) (v := 2) rfl xnm0 xnm0 (by decide)) ?_
          refine xg_t (xg_blk (b := [(323, 3, 8, 394, 0, 0)]) rfl) ?_
          refine xg_t (xg_goto) ?_
          refine xg_t (xg_blk (b := [(394, 1, 0, 0, 0, 0), (395, 3, 1, 12, 10, 180), (398, 3, 7, 416, 1, 0), (401, 1, 0, 0, 0, 0), (402, 3, 1, 12, 7, 151), (405, 1, 3, 2, 0, 0), (406, 3, 6, 416, 1, 0), (409, 1, 0, 0, 0, 0), (410, 3, 13, 110, 96, 190), (413, 3, 8, 420, 0, 0)]) rfl) ?_
          refine xg_t (xg_aload (va := (2, 82)) rfl rfl) ?_
          refine xg_t (xg_getf (va := (0, f82_350)) (hF369.get (by decide) h82_364) rfl) ?_
          have hf373 : fld w366 82 10 = f82_350 := fld_of (hF369.get (by decide) h82_364)
          have hk374 : fld w366 82 10 ≠ 0 := (by have q := hW327.1; have q2 := fld_eq (j := 10) (hF369.1 82 (by decide)); omega)
          refine xg_t (xg_ifT (u := f82_350) rfl xnm0 (xj_neT (by omega))) ?_
          refine xg_t (xg_blk (b := [(416, 1, 0, 0, 0, 0), (417, 3, 13, 140, 96, 183)]) rfl) ?_
          refine xg_t (xg_aload (va := (2, 82)) rfl rfl) ?_
          refine xg_cVv mX12_ends (vs := []) (rest := []) (cn1 := 0) (sl1 := 0) rfl (mEndsW (hI368) (by have q := hW327.1; have q2 := fld_eq (j := 10) (hF369.1 82 (by decide)); omega)) rfl (hF369.get (by decide) h82_364) rfl rfl rfl rfl rfl rfl (fun w375 hq376 => ?_)
          obtain ⟨hI377, hF378⟩ := hq376
          refine xg_t (xg_blk (b := [(420, 1, 0, 0, 0, 0), (421, 3, 1, 12, 11, 17), (424, 1, 2, 1, 0, 0), (425, 1, 39, 0, 0, 0), (426, 1, 10, 0, 0, 0), (427, 1, 3, 1, 0, 0), (428, 1, 11, 0, 0, 0), (429, 1, 17, 0, 0, 0), (430, 1, 0, 0, 0, 0), (431, 1, 19, 0, 0, 0), (432, 3, 1, 12, 14, 212), (435, 1, 3, 1, 0, 0), (436, 1, 11, 0, 0, 0), (437, 3, 14, 12, 14, 212), (440, 1, 12, 0, 0, 0)]) rfl) ?_
          have hf379 : fld w375 82 2 = f82_334 := fld_of (hF378.get (by decide) (hF369.get (by decide) h82_364))
          have hf380 : fld w375 82 3 = f82_336 := fld_of (hF378.get (by decide) (hF369.get (by decide) h82_364))
          have hf381 : fld w375 82 4 = f82_338 := fld_of (hF378.get (by decide) (hF369.get (by decide) h82_364))
          have hf382 : fld w375 82 5 = f82_340 := fld_of (hF378.get (by decide) (hF369.get (by decide) h82_364))
          have hf383 : fld w375 82 6 = f82_342 := fld_of (hF378.get (by decide) (hF369.get (by decide) h82_364))
          have hf384 : fld w375 82 7 = f82_344 := fld_of (hF378.get (by decide) (hF369.get (by decide) h82_364))
          have hf385 : fld w375 82 8 = f82_346 := fld_of (hF378.get (by decide) (hF369.get (by decide) h82_364))
          have hf386 : fld w375 82 9 = f82_348 := fld_of (hF378.get (by decide) (hF369.get (by decide) h82_364))
          have hf387 : fld w375 82 10 = f82_350 := fld_of (hF378.get (by decide) (hF369.get (by decide) h82_364))
          have hf388 : fld w375 82 14 = f82_352 := fld_of (hF378.get (by decide) (hF369.get (by decide) h82_364))
          have hk389 := ((fld_eq (j := 14) ((hF378.1 82 (by decide)).trans (hF369.1 82 (by decide)))).trans k14_325)
          have hl390 : f82_352 ≤ 500 := by omega
          have hk391 : WRG w375 (tq B nn p_267) := ⟨(fld_eq (j := 10) ((hF378.1 82 (by decide)).trans (hF369.1 82 (by decide)))).trans hW327.1, (rwv_eq (j := 16) ((hF378.1 83 (by decide)).trans (hF369.1 83 (by decide)))).trans hW327.2.1, (rwv_eq (j := 17) ((hF378.1 83 (by decide)).trans (hF369.1 83 (by decide)))).trans hW327.2.2⟩
          refine xg_t (xg_aload (va := (2, 82)) rfl rfl) ?_
          refine xg_t (xg_getf (va := (2, 85)) (hF378.get (by decide) (hF369.get (by decide) h82_364)) rfl) ?_
          refine xg_t (xg_iload (va := (0, 4)) rfl rfl) ?_
          refine xg_t (xg_dup2 rfl) ?_
          refine xoI (hI377 85 (by decide) (by decide) : cpI 7 52 4294967295 (wget w375 85)) (fun g85_392 h85_393 hb394 => ?_)
          refine xg_ialdB (n := 4) (B := 4294967295) h85_393 (hb394) xnm0 (by omega) (fun u395 hu396 he397 => ?_)
          have hK398 : u395 = u42 := (((rwv_of h85_393 (by decide)).trans he397).symm.trans (rwv_eq ((hF378.1 85 (by decide)).trans ((hF369.1 85 (by decide)).trans ((hF319.1 85 (by decide)).trans ((hF311.1 85 (by decide)).trans ((hF156.1 85 (by decide)).trans ((hb151.1 85 (by decide)).trans ((hF103.1 85 (by decide)).trans hj57))))))))).trans ((hm 4 (by decide)).trans hK45.symm)
          have hl399 : u395 ≤ 500 := by omega
          refine xg_t (xg_const) ?_
          refine xg_t (xg_iadd (u := u395) (v := 1) (z := u395 + 1) xnm0 xnm0 (by omega)) ?_
          refine xg_iastK (n := 4) (u := u395 + 1) h85_393 xnm0 xnm0 rfl (by omega) (fun w400 hr401 hb402 => ?_)
          refine xg_t (xg_aload (va := (2, 82)) rfl rfl) ?_
          refine xg_t (xg_dup rfl) ?_
          refine xg_t (xg_getf (va := (0, f82_352)) (hb402.get (by decide) (hF378.get (by decide) (hF369.get (by decide) h82_364))) rfl) ?_
          have hn403 := id hb353
          unfold xHid at hn403
          refine xg_t (xg_const) ?_
          refine xg_t (xg_iadd (u := f82_352) (v := 1) (z := f82_352 + 1) xnm0 xnm0 (by omega)) ?_
          refine xg_putI (fl1 := [(2, 83), (2, 84), (0, f82_334), (0, f82_336), (0, f82_338), (0, f82_340), (0, f82_342), (0, f82_344), (0, f82_346), (0, f82_348), (0, f82_350), (2, 85), (2, 86), (2, 87), (0, f82_352 + 1), (2, 88), (2, 89), (2, 90), (2, 91), (2, 92), (2, 93), (2, 94), (4, f82_354), (4, f82_355), (0, f82_356), (2, 95), (2, 96), (2, 97), (2, 98), (2, 99), (2, 100), (2, 101), (2, 102), (0, f82_358), (2, 103), (2, 104), (2, 105), (2, 106), (2, 107), (2, 108), (2, 109), (0, f82_360), (0, f82_362), (2, 110), (2, 111), (2, 112), (2, 113)]) (hb402.get (by decide) (hF378.get (by decide) (hF369.get (by decide) h82_364))) rfl rfl rfl (fun w404 hk405 hb406 => ?_)
          have hf407 : fld w404 82 2 = f82_334 := fld_of hk405
          have hf408 : fld w404 82 3 = f82_336 := fld_of hk405
          have hf409 : fld w404 82 4 = f82_338 := fld_of hk405
          have hf410 : fld w404 82 5 = f82_340 := fld_of hk405
          have hf411 : fld w404 82 6 = f82_342 := fld_of hk405
          have hf412 : fld w404 82 7 = f82_344 := fld_of hk405
          have hf413 : fld w404 82 8 = f82_346 := fld_of hk405
          have hf414 : fld w404 82 9 = f82_348 := fld_of hk405
          have hf415 : fld w404 82 10 = f82_350 := fld_of hk405
          have hf416 : fld w404 82 14 = f82_352 + 1 := fld_of hk405
          exact xg_e ⟨w404, ⟨rfl, rfl⟩, xMnv.up (S := [85, 82]) hI377 ((xFr.of (S := [85, 82]) hb402 (by decide)).tr (xFr.of (S := [85, 82]) hb406 (by decide))) (List.forall_mem_cons.mpr ⟨(show cpI 7 52 4294967295 (wget w404 85) from ⟨_, (hr401.but hb406 (by decide)), xrb (by omega) (hb394)⟩), List.forall_mem_cons.mpr ⟨(show cp82 (wget w404 82) from ⟨f82_334, f82_336, f82_338, f82_340, f82_342, f82_344, f82_346, f82_348, f82_350, f82_352 + 1, f82_354, f82_355, f82_356, f82_358, f82_360, f82_362, hk405, by omega, hb337, by omega, by omega, hb343, by omega, hb347, hb349, by omega, by omega, hb357, hb359, hb361, hb363, by omega⟩), fun _ h => absurd h List.not_mem_nil⟩⟩), ((((((((hF50.tr (hF103.up (by decide))).tr (xFr.of (S := [82, 83, 85, 86, 87]) hb151 (by decide))).tr (hF156.up (by decide))).tr (hF311.up (by decide))).tr (hF319.up (by decide))).tr (hF369.up (by decide))).tr (hF378.up (by decide))).tr ((xFr.of (S := [82, 83, 85, 86, 87]) hb402 (by decide)).tr (xFr.of (S := [82, 83, 85, 86, 87]) hb406 (by decide)))), ⟨Or.inl ⟨p_267, lf333, ⟨by have z := hk391.1; omega, (rwv_eq (j := 16) ((hb406.1 83 (by decide)).trans (hb402.1 83 (by decide)))).trans hk391.2.1, (rwv_eq (j := 17) ((hb406.1 83 (by decide)).trans (hb402.1 83 (by decide)))).trans hk391.2.2⟩⟩, (((((((((hj56.tr (K83.fr hF103 (by decide))).tr (K83.but hb151 (by decide))).tr k8_160).tr (K83.fr hF311 (by decide))).tr k8_323).tr (K83.fr hF369 (by decide))).tr (K83.fr hF378 (by decide))).tr (K83.but hb402 (by decide))).tr (K83.but hb406 (by decide))), by omega⟩⟩
        · obtain ⟨p_417, hp418⟩ : ∃ x, x = tf B nn p_267 := ⟨_, rfl⟩
          rw [← hp418] at hT_331
          have ln419 : lnR B nn p0 = lnN B nn 4 0 p_417 := by rw [hp418]; exact ln269.trans (lnN_y (k := 0) hk326)
          have vp420 : vlp B nn (lnP B nn k) 1 = p_267 := by show tf B nn (vlp B nn (lnP B nn k) 0) = p_267; rw [vp270]; exact hp268.symm
          have vl421 : vln B nn (lnP B nn k) 1 = tnu B nn p_267 := by
            show (if (1 : Nat) = 3 then _ else tnu B nn (vlp B nn (lnP B nn k) 1)) = _
            rw [if_neg (by decide), vp420]
          have he423 : (chk (mf3 B nn k 4 (flA B nn k)) 0 9 (tnu B nn p_267) (tq B nn p_267)) = (mf4 B nn k 4 (flA B nn k)) := by show _ = chk (mf3 B nn k 4 (flA B nn k)) 0 9 (vln B nn (lnP B nn k) 1) (tq B nn (vlp B nn (lnP B nn k) 1)); rw [vl421, vp420]
          have hF_422 := hF_332
          rw [he423] at hF_422
          have he425 : (mf4 B nn k 4 (flA B nn k)) = (mfl B nn k 4 (flA B nn k)) := rfl
          have hF_424 := hF_422
          rw [he425] at hF_424
          refine xoCh82 (hI318 82 (by decide) (by decide) : cp82 (wget w316 82)) (fun f82_426 f82_428 f82_430 f82_432 f82_434 f82_436 f82_438 f82_440 f82_442 f82_444 f82_446 f82_447 f82_448 f82_450 f82_452 f82_454 h82_456 hb427 hb429 hb431 hb433 hb435 hb437 hb439 hb441 hb443 hb445 hb449 hb451 hb453 hb455 hb457 => ?_)
          refine xg_cVv mX12_puts (vs := [(0, 4), (0, u42), (0, (100 + (2 * u42)) + 1), (0, n320)]) (rest := []) (cn1 := 0) (sl1 := 0) rfl (mPuts4 (hI318) (by omega) (by omega) (by omega) (fun _ => by omega)) rfl h82_456 rfl rfl rfl rfl rfl rfl (fun w458 hq459 => ?_)
          obtain ⟨hI460, hF461, hx462⟩ := hq459
          obtain ⟨hp463, hp464⟩ := hx462
          refine xg_t (xg_iinc (u := 1) (z := 2) (l1 := [(0, (2, 82)), (1, (0, 4)), (2, (0, at_)), (3, (0, u42))]) rfl rfl (by decide) rfl) ?_
          refine xg_t (xg_goto) ?_
          refine xg_t (xg_blk (b := [(289, 2, 2, 4, 0, 0), (291, 1, 3, 2, 0, 0), (292, 3, 6, 323, 3, 0), (295, 1, 0, 0, 0, 0), (296, 1, 2, 1, 0, 0), (297, 1, 2, 3, 0, 0), (298, 2, 4, 100, 0, 0), (300, 1, 3, 2, 0, 0), (301, 1, 2, 3, 0, 0), (302, 1, 16, 0, 0, 0), (303, 1, 11, 0, 0, 0), (304, 2, 2, 4, 0, 0), (306, 1, 11, 0, 0, 0), (307, 1, 0, 0, 0, 0), (308, 1, 3, 0, 0, 0), (309, 2, 4, 9, 0, 0), (311, 3, 13, 199, 96, 196), (314, 3, 13, 211, 96, 200), (317, 3, 9, 4, 1, 0), (320, 3, 8, 289, 0, 0)]) rfl) ?_
          refine xg_t (xg_iload (va := (0, 2)) rfl rfl) ?_
          refine xg_t (xg_const) ?_
          refine xg_t (xg_icT (u := 2) (v := 2) rfl xnm0 xnm0 (by decide)) ?_
          refine xg_t (xg_blk (b := [(323, 3, 8, 394, 0, 0)]) rfl) ?_
          refine xg_t (xg_goto) ?_
          refine xg_t (xg_blk (b := [(394, 1, 0, 0, 0, 0), (395, 3, 1, 12, 10, 180), (398, 3, 7, 416, 1, 0), (401, 1, 0, 0, 0, 0), (402, 3, 1, 12, 7, 151), (405, 1, 3, 2, 0, 0), (406, 3, 6, 416, 1, 0), (409, 1, 0, 0, 0, 0), (410, 3, 13, 110, 96, 190), (413, 3, 8, 420, 0, 0)]) rfl) ?_
          have ln465 : lnR B nn p0 = lnS B nn p_417 := by exact ln419.trans (lnN_0 (by decide))
          refine xg_t (xg_aload (va := (2, 82)) rfl rfl) ?_
          refine xg_t (xg_getf (va := (0, f82_442)) (hF461.get (by decide) h82_456) rfl) ?_
          have hf466 : fld w458 82 10 = f82_442 := fld_of (hF461.get (by decide) h82_456)
          have hk467 : fld w458 82 10 = 0 := ((fld_eq (j := 10) (hF461.1 82 (by decide))).trans k10_330)
          refine xg_t (xg_ifF (u := f82_442) rfl xnm0 (xj_neF (by omega))) ?_
          obtain ⟨⟨ht468, ht469, ht470, ht471, ht472, ht473⟩, ht474, ht475, ht476⟩ := id (hT_331.fr (hF461.1 82 (by decide)))
          have hf477 : fld w458 82 6 = f82_434 := fld_of (hF461.get (by decide) h82_456)
          have hf478 : fld w458 82 7 = f82_436 := fld_of (hF461.get (by decide) h82_456)
          have hf479 : fld w458 82 8 = f82_438 := fld_of (hF461.get (by decide) h82_456)
          have hf480 : fld w458 82 9 = f82_440 := fld_of (hF461.get (by decide) h82_456)
          have hf481 : fld w458 82 3 = f82_428 := fld_of (hF461.get (by decide) h82_456)
          have hmk482 := mkd_of (ir := 0) (B := B) (n := nn) (p := p_417)
          refine xg_t (xg_aload (va := (2, 82)) rfl rfl) ?_
          refine xg_t (xg_getf (va := (0, f82_436)) (hF461.get (by decide) h82_456) rfl) ?_
          refine xg_t (xg_const) ?_
          by_cases hc483 : f82_436 = 2
          · refine xg_t (xg_icF (u := f82_436) (v := 2) rfl xnm0 xnm0 (xj_neF hc483)) ?_
            have sg4841 : tkd B nn p_417 = 3 := by omega
            have sg4842 : B (tq B nn p_417) = 59 := by omega
            refine xg_t (xg_aload (va := (2, 82)) rfl rfl) ?_
            clear ht468 ht469 ht470 ht471 ht472 ht473 ht474 ht475 ht476 hf477 hf478 hf479 hf480 hf481 hmk482
            obtain ⟨⟨ht485, ht486, ht487, ht488, ht489, ht490⟩, -⟩ := id (hT_331.fr (hF461.1 82 (by decide)))
            have hk491 := ((fld_eq (j := 10) (hF461.1 82 (by decide))).trans k10_330)
            have hk492 := ((fld_eq (j := 14) (hF461.1 82 (by decide))).trans k14_325)
            refine xg_cVv mX12_advance (vs := []) (rest := []) (cn1 := 0) (sl1 := 0) rfl (mAdvX (hI460) (hB.fr (fun j h4 h9 => ((((((hj56.tr (K83.fr hF103 (by decide))).tr (K83.but hb151 (by decide))).tr k8_160).tr (K83.fr hF311 (by decide))).tr k8_323).tr (K83.fr hF461 (by decide))) j (by omega) (by omega) (by omega))) ht485 ht486 (by rw [ht487]; exact tf_le ht490)) rfl (hF461.get (by decide) h82_456) rfl rfl rfl rfl rfl rfl (fun w493 hq494 => ?_)
            obtain ⟨hI495, hF496, hx497⟩ := hq494
            obtain ⟨hz498, hz499, hz500⟩ := hx497
            rw [ht487] at hz498
            clear ht485 ht486 ht487 ht488 ht489 ht490
            obtain ⟨p_501, hp502⟩ : ∃ x, x = tf B nn p_417 := ⟨_, rfl⟩
            rw [← hp502] at hz498
            have k10_503 := hz499.trans hk491
            have k14_504 := hz500.trans hk492
            clear hz499 hz500 hk491 hk492
            have ln505 : lnR B nn p0 = (true, p_501) := by rw [hp502]; exact ln465.trans (lnS_y ⟨sg4841, sg4842⟩)
            refine xg_t (xg_goto) ?_
            refine xg_t (xg_blk (b := [(420, 1, 0, 0, 0, 0), (421, 3, 1, 12, 11, 17), (424, 1, 2, 1, 0, 0), (425, 1, 39, 0, 0, 0), (426, 1, 10, 0, 0, 0), (427, 1, 3, 1, 0, 0), (428, 1, 11, 0, 0, 0), (429, 1, 17, 0, 0, 0), (430, 1, 0, 0, 0, 0), (431, 1, 19, 0, 0, 0), (432, 3, 1, 12, 14, 212), (435, 1, 3, 1, 0, 0), (436, 1, 11, 0, 0, 0), (437, 3, 14, 12, 14, 212), (440, 1, 12, 0, 0, 0)]) rfl) ?_
            refine xoCh82 (hI495 82 (by decide) (by decide) : cp82 (wget w493 82)) (fun f82_506 f82_508 f82_510 f82_512 f82_514 f82_516 f82_518 f82_520 f82_522 f82_524 f82_526 f82_527 f82_528 f82_530 f82_532 f82_534 h82_536 hb507 hb509 hb511 hb513 hb515 hb517 hb519 hb521 hb523 hb525 hb529 hb531 hb533 hb535 hb537 => ?_)
            have hf538 : fld w493 82 2 = f82_506 := fld_of h82_536
            have hf539 : fld w493 82 3 = f82_508 := fld_of h82_536
            have hf540 : fld w493 82 4 = f82_510 := fld_of h82_536
            have hf541 : fld w493 82 5 = f82_512 := fld_of h82_536
            have hf542 : fld w493 82 6 = f82_514 := fld_of h82_536
            have hf543 : fld w493 82 7 = f82_516 := fld_of h82_536
            have hf544 : fld w493 82 8 = f82_518 := fld_of h82_536
            have hf545 : fld w493 82 9 = f82_520 := fld_of h82_536
            have hf546 : fld w493 82 10 = f82_522 := fld_of h82_536
            have hf547 : fld w493 82 14 = f82_524 := fld_of h82_536
            have hk548 := k14_504
            have hl549 : f82_524 ≤ 500 := by omega
            have hk550 := hz498
            have hk551 := (hF_424.k83 (rwv_eq ((hF496.1 83 (by decide)).trans (hF461.1 83 (by decide)))) (rwv_eq ((hF496.1 83 (by decide)).trans (hF461.1 83 (by decide)))))
            have hk552 := k10_503
            refine xg_t (xg_aload (va := (2, 82)) rfl rfl) ?_
            refine xg_t (xg_getf (va := (2, 85)) h82_536 rfl) ?_
            refine xg_t (xg_iload (va := (0, 4)) rfl rfl) ?_
            refine xg_t (xg_dup2 rfl) ?_
            refine xoI (hI495 85 (by decide) (by decide) : cpI 7 52 4294967295 (wget w493 85)) (fun g85_553 h85_554 hb555 => ?_)
            refine xg_ialdB (n := 4) (B := 4294967295) h85_554 (hb555) xnm0 (by omega) (fun u556 hu557 he558 => ?_)
            have hK559 : u556 = u42 := (((rwv_of h85_554 (by decide)).trans he558).symm.trans (rwv_eq ((hF496.1 85 (by decide)).trans ((hF461.1 85 (by decide)).trans ((hF319.1 85 (by decide)).trans ((hF311.1 85 (by decide)).trans ((hF156.1 85 (by decide)).trans ((hb151.1 85 (by decide)).trans ((hF103.1 85 (by decide)).trans hj57))))))))).trans ((hm 4 (by decide)).trans hK45.symm)
            have hl560 : u556 ≤ 500 := by omega
            refine xg_t (xg_const) ?_
            refine xg_t (xg_iadd (u := u556) (v := 1) (z := u556 + 1) xnm0 xnm0 (by omega)) ?_
            refine xg_iastK (n := 4) (u := u556 + 1) h85_554 xnm0 xnm0 rfl (by omega) (fun w561 hr562 hb563 => ?_)
            refine xg_t (xg_aload (va := (2, 82)) rfl rfl) ?_
            refine xg_t (xg_dup rfl) ?_
            refine xg_t (xg_getf (va := (0, f82_524)) (hb563.get (by decide) h82_536) rfl) ?_
            have hn564 := id hb525
            unfold xHid at hn564
            refine xg_t (xg_const) ?_
            refine xg_t (xg_iadd (u := f82_524) (v := 1) (z := f82_524 + 1) xnm0 xnm0 (by omega)) ?_
            refine xg_putI (fl1 := [(2, 83), (2, 84), (0, f82_506), (0, f82_508), (0, f82_510), (0, f82_512), (0, f82_514), (0, f82_516), (0, f82_518), (0, f82_520), (0, f82_522), (2, 85), (2, 86), (2, 87), (0, f82_524 + 1), (2, 88), (2, 89), (2, 90), (2, 91), (2, 92), (2, 93), (2, 94), (4, f82_526), (4, f82_527), (0, f82_528), (2, 95), (2, 96), (2, 97), (2, 98), (2, 99), (2, 100), (2, 101), (2, 102), (0, f82_530), (2, 103), (2, 104), (2, 105), (2, 106), (2, 107), (2, 108), (2, 109), (0, f82_532), (0, f82_534), (2, 110), (2, 111), (2, 112), (2, 113)]) (hb563.get (by decide) h82_536) rfl rfl rfl (fun w565 hk566 hb567 => ?_)
            have hf568 : fld w565 82 2 = f82_506 := fld_of hk566
            have hf569 : fld w565 82 3 = f82_508 := fld_of hk566
            have hf570 : fld w565 82 4 = f82_510 := fld_of hk566
            have hf571 : fld w565 82 5 = f82_512 := fld_of hk566
            have hf572 : fld w565 82 6 = f82_514 := fld_of hk566
            have hf573 : fld w565 82 7 = f82_516 := fld_of hk566
            have hf574 : fld w565 82 8 = f82_518 := fld_of hk566
            have hf575 : fld w565 82 9 = f82_520 := fld_of hk566
            have hf576 : fld w565 82 10 = f82_522 := fld_of hk566
            have hf577 : fld w565 82 14 = f82_524 + 1 := fld_of hk566
            have he578 : lnP B nn (k + 1) = p_501 := by
              show (lnR B nn (lnP B nn k)).2 = _
              rw [← hp0, ln505]
            have hT579 : TKM 0 B nn w565 p_501 := hk550.w14 (by omega) (by omega) (by omega) (by omega) (by omega) (by omega) (by omega) (by omega)
            have hF580 : FP w565 (mfl B nn k 4 (flA B nn k)) := hk551.k83 (rwv_eq ((hb567.1 83 (by decide)).trans (hb563.1 83 (by decide)))) (rwv_eq ((hb567.1 83 (by decide)).trans (hb563.1 83 (by decide))))
            have hg582 := (tf_gt (B := B) (n := nn) (p := p_108) (by omega)).2
            have hg583 := tq_ge (B := B) (n := nn) (p := p_108)
            have hg584 := (tf_gt (B := B) (n := nn) (p := p_267) (by omega)).2
            have hg585 := tq_ge (B := B) (n := nn) (p := p_267)
            have hg586 := (tf_gt (B := B) (n := nn) (p := p0) (by rw [slt_kd (by rw [hp0, hs]; decide)]; decide)).2
            have hg587 := (tf_gt (B := B) (n := nn) (p := p_417) (by omega)).2
            have hg588 := tq_ge (B := B) (n := nn) (p := p_417)
            have hg589 := tq_ge (B := B) (n := nn) (p := p_501)
            have hp1x := hp109
            have hO581 : ORD B nn k 4 (tq B nn (lnP B nn (k + 1))) := by
              unfold ORD
              rw [he578, vp270, vp420, ← hp0]
              exact ⟨by omega, by omega, fun z => absurd z (by decide), by omega, fun z => absurd z (by decide)⟩
            have hM590 : rwv w565 85 4 = lnC B nn 4 k + 1 := (rwv_of (hr562.but hb567 (by decide)) (by decide)).trans ((if_pos rfl).trans (by omega))
            have hM591 : ∀ s, s < 7 → s ≠ 4 → rwv w565 85 s = rwv w 85 s := fun s hs hn => (rwv_of (hr562.but hb567 (by decide)) hs).trans ((if_neg hn).trans ((rwv_of h85_554 hs).symm.trans (rwv_eq ((hF496.1 85 (by decide)).trans ((hF461.1 85 (by decide)).trans ((hF319.1 85 (by decide)).trans ((hF311.1 85 (by decide)).trans ((hF156.1 85 (by decide)).trans ((hb151.1 85 (by decide)).trans ((hF103.1 85 (by decide)).trans hj57))))))))))
            have hr592 : lnC B nn 4 k < 20 → ∀ t, t < 2 → XM w565 4 (lnC B nn 4 k) t = vln B nn (lnP B nn k) t := fun hlt t ht => by
              rcases (show t = 0 ∨ t = 1 by omega) with rfl | rfl
              · show rwv w565 86 (100 + 2 * lnC B nn 4 k + 0) = _
                rw [show 100 + 2 * lnC B nn 4 k + 0 = (100 + (2 * u42)) + 0 by omega]
                exact ((rwv_eq (hb567.1 86 (by decide))).trans ((rwv_eq (hb563.1 86 (by decide))).trans ((rwv_eq (hF496.1 86 (by decide))).trans ((hp464 ((100 + (2 * u42)) + 0) (by omega) (by omega)).trans (rwv_eq (hF319.1 86 (by decide))))))).trans ((hp313 (by omega)).trans (hv165.trans vl271.symm))
              · show rwv w565 86 (100 + 2 * lnC B nn 4 k + 1) = _
                rw [show 100 + 2 * lnC B nn 4 k + 1 = (100 + (2 * u42)) + 1 by omega]
                exact ((rwv_eq (hb567.1 86 (by decide))).trans ((rwv_eq (hb563.1 86 (by decide))).trans (rwv_eq (hF496.1 86 (by decide))))).trans ((hp463 (by omega)).trans (hv328.trans vl421.symm))
            have ho593 : ∀ j, (j < 100 + 2 * lnC B nn 4 k ∨ 100 + 2 * (lnC B nn 4 k + 1) ≤ j) → j < 140 → rwv w565 86 j = rwv w 86 j := fun j hj hl => ((rwv_eq (hb567.1 86 (by decide))).trans ((rwv_eq (hb563.1 86 (by decide))).trans ((rwv_eq (hF496.1 86 (by decide))).trans ((hp464 j (by omega) hl).trans ((rwv_eq (hF319.1 86 (by decide))).trans ((hp314 j (by omega) hl).trans ((rwv_eq (hF156.1 86 (by decide))).trans ((rwv_eq (hb151.1 86 (by decide))).trans ((rwv_eq (hF103.1 86 (by decide))).trans (rwv_eq hj58))))))))))
            have ha594 : (lnC B nn 4 k < 20 → rwv w565 87 (lnC B nn 4 k) = tq B nn (lnP B nn k)) ∧ ∀ j, j ≠ lnC B nn 4 k → j < 20 → rwv w565 87 j = rwv w 87 j := ⟨fun hlt => (rwv_of (((((((hr150.fr hF156 (by decide)).fr hF311 (by decide)).fr hF319 (by decide)).fr hF461 (by decide)).fr hF496 (by decide)).but hb563 (by decide)).but hb567 (by decide)) hlt).trans ((if_pos (by omega)).trans (by rw [← hp0]; exact hat)), fun j hj hl => (rwv_of (((((((hr150.fr hF156 (by decide)).fr hF311 (by decide)).fr hF319 (by decide)).fr hF461 (by decide)).fr hF496 (by decide)).but hb563 (by decide)).but hb567 (by decide)) hl).trans ((if_neg (by omega)).trans ((rwv_of h87_147 hl).symm.trans (rwv_eq ((hF103.1 87 (by decide)).trans hj59))))⟩
            have hM595 := MSTok4 hS hs (by have z := hk552; omega) (by omega) hF580 hO581 hM590 hM591 hr592 ho593 ha594
            exact xg_e ⟨w565, ⟨rfl, rfl⟩, xMnv.up (S := [85, 82]) hI495 ((xFr.of (S := [85, 82]) hb563 (by decide)).tr (xFr.of (S := [85, 82]) hb567 (by decide))) (List.forall_mem_cons.mpr ⟨(show cpI 7 52 4294967295 (wget w565 85) from ⟨_, (hr562.but hb567 (by decide)), xrb (by omega) (hb555)⟩), List.forall_mem_cons.mpr ⟨(show cp82 (wget w565 82) from ⟨f82_506, f82_508, f82_510, f82_512, f82_514, f82_516, f82_518, f82_520, f82_522, f82_524 + 1, f82_526, f82_527, f82_528, f82_530, f82_532, f82_534, hk566, by omega, hb509, by omega, by omega, hb515, by omega, hb519, hb521, by omega, by omega, hb529, hb531, hb533, hb535, by omega⟩), fun _ h => absurd h List.not_mem_nil⟩⟩), ((((((((hF50.tr (hF103.up (by decide))).tr (xFr.of (S := [82, 83, 85, 86, 87]) hb151 (by decide))).tr (hF156.up (by decide))).tr (hF311.up (by decide))).tr (hF319.up (by decide))).tr (hF461.up (by decide))).tr (hF496.up (by decide))).tr ((xFr.of (S := [82, 83, 85, 86, 87]) hb563 (by decide)).tr (xFr.of (S := [82, 83, 85, 86, 87]) hb567 (by decide)))), ⟨Or.inr ⟨by rw [ln505], by rw [he578]; exact hT579, hM595⟩, (((((((((hj56.tr (K83.fr hF103 (by decide))).tr (K83.but hb151 (by decide))).tr k8_160).tr (K83.fr hF311 (by decide))).tr k8_323).tr (K83.fr hF461 (by decide))).tr (K83.fr hF496 (by decide))).tr (K83.but hb563 (by decide))).tr (K83.but hb567 (by decide))), by omega⟩⟩
          · refine xg_t (xg_icT (u := f82_436) (v := 2) rfl xnm0 xnm0 (xj_neT hc483)) ?_
            refine xg_t (xg_blk (b := [(416, 1, 0, 0, 0, 0), (417, 3, 13, 140, 96, 183)]) rfl) ?_
            have lf596n : ¬ (tkd B nn p_417 = 3 ∧ B (tq B nn p_417) = 59) := by omega
            have lf596 : lnR B nn p0 = (false, p_417) := ln465.trans (lnS_n lf596n)
            refine xg_t (xg_aload (va := (2, 82)) rfl rfl) ?_
            have hk597 := ((fld_eq (j := 14) (hF461.1 82 (by decide))).trans k14_325)
            have hk598 := (hT_331.fr (hF461.1 82 (by decide))).1.2.2.2.1
            clear ht468 ht469 ht470 ht471 ht472 ht473 ht474 ht475 ht476 hf477 hf478 hf479 hf480 hf481 hmk482
            refine xg_cVv mX12_ends (vs := []) (rest := []) (cn1 := 0) (sl1 := 0) rfl (mEndsX (hI460) ((fld_eq (j := 10) (hF461.1 82 (by decide))).trans k10_330)) rfl (hF461.get (by decide) h82_456) rfl rfl rfl rfl rfl rfl (fun w599 hq600 => ?_)
            obtain ⟨hI601, hF602, hx603⟩ := hq600
            obtain ⟨hv604, hv605, hv606, hv607, hv608⟩ := hx603
            have hW609 : WRG w599 (tq B nn p_417) := ⟨hv604, hv605, hv606.trans hk598⟩
            have k14_610 := hv607.trans hk597
            refine xg_t (xg_blk (b := [(420, 1, 0, 0, 0, 0), (421, 3, 1, 12, 11, 17), (424, 1, 2, 1, 0, 0), (425, 1, 39, 0, 0, 0), (426, 1, 10, 0, 0, 0), (427, 1, 3, 1, 0, 0), (428, 1, 11, 0, 0, 0), (429, 1, 17, 0, 0, 0), (430, 1, 0, 0, 0, 0), (431, 1, 19, 0, 0, 0), (432, 3, 1, 12, 14, 212), (435, 1, 3, 1, 0, 0), (436, 1, 11, 0, 0, 0), (437, 3, 14, 12, 14, 212), (440, 1, 12, 0, 0, 0)]) rfl) ?_
            refine xoCh82 (hI601 82 (by decide) (by decide) : cp82 (wget w599 82)) (fun f82_611 f82_613 f82_615 f82_617 f82_619 f82_621 f82_623 f82_625 f82_627 f82_629 f82_631 f82_632 f82_633 f82_635 f82_637 f82_639 h82_641 hb612 hb614 hb616 hb618 hb620 hb622 hb624 hb626 hb628 hb630 hb634 hb636 hb638 hb640 hb642 => ?_)
            have hf643 : fld w599 82 2 = f82_611 := fld_of h82_641
            have hf644 : fld w599 82 3 = f82_613 := fld_of h82_641
            have hf645 : fld w599 82 4 = f82_615 := fld_of h82_641
            have hf646 : fld w599 82 5 = f82_617 := fld_of h82_641
            have hf647 : fld w599 82 6 = f82_619 := fld_of h82_641
            have hf648 : fld w599 82 7 = f82_621 := fld_of h82_641
            have hf649 : fld w599 82 8 = f82_623 := fld_of h82_641
            have hf650 : fld w599 82 9 = f82_625 := fld_of h82_641
            have hf651 : fld w599 82 10 = f82_627 := fld_of h82_641
            have hf652 : fld w599 82 14 = f82_629 := fld_of h82_641
            have hk653 := k14_610
            have hl654 : f82_629 ≤ 500 := by omega
            have hk655 : WRG w599 (tq B nn p_417) := hW609
            refine xg_t (xg_aload (va := (2, 82)) rfl rfl) ?_
            refine xg_t (xg_getf (va := (2, 85)) h82_641 rfl) ?_
            refine xg_t (xg_iload (va := (0, 4)) rfl rfl) ?_
            refine xg_t (xg_dup2 rfl) ?_
            refine xoI (hI601 85 (by decide) (by decide) : cpI 7 52 4294967295 (wget w599 85)) (fun g85_656 h85_657 hb658 => ?_)
            refine xg_ialdB (n := 4) (B := 4294967295) h85_657 (hb658) xnm0 (by omega) (fun u659 hu660 he661 => ?_)
            have hK662 : u659 = u42 := (((rwv_of h85_657 (by decide)).trans he661).symm.trans (rwv_eq ((hF602.1 85 (by decide)).trans ((hF461.1 85 (by decide)).trans ((hF319.1 85 (by decide)).trans ((hF311.1 85 (by decide)).trans ((hF156.1 85 (by decide)).trans ((hb151.1 85 (by decide)).trans ((hF103.1 85 (by decide)).trans hj57))))))))).trans ((hm 4 (by decide)).trans hK45.symm)
            have hl663 : u659 ≤ 500 := by omega
            refine xg_t (xg_const) ?_
            refine xg_t (xg_iadd (u := u659) (v := 1) (z := u659 + 1) xnm0 xnm0 (by omega)) ?_
            refine xg_iastK (n := 4) (u := u659 + 1) h85_657 xnm0 xnm0 rfl (by omega) (fun w664 hr665 hb666 => ?_)
            refine xg_t (xg_aload (va := (2, 82)) rfl rfl) ?_
            refine xg_t (xg_dup rfl) ?_
            refine xg_t (xg_getf (va := (0, f82_629)) (hb666.get (by decide) h82_641) rfl) ?_
            have hn667 := id hb630
            unfold xHid at hn667
            refine xg_t (xg_const) ?_
            refine xg_t (xg_iadd (u := f82_629) (v := 1) (z := f82_629 + 1) xnm0 xnm0 (by omega)) ?_
            refine xg_putI (fl1 := [(2, 83), (2, 84), (0, f82_611), (0, f82_613), (0, f82_615), (0, f82_617), (0, f82_619), (0, f82_621), (0, f82_623), (0, f82_625), (0, f82_627), (2, 85), (2, 86), (2, 87), (0, f82_629 + 1), (2, 88), (2, 89), (2, 90), (2, 91), (2, 92), (2, 93), (2, 94), (4, f82_631), (4, f82_632), (0, f82_633), (2, 95), (2, 96), (2, 97), (2, 98), (2, 99), (2, 100), (2, 101), (2, 102), (0, f82_635), (2, 103), (2, 104), (2, 105), (2, 106), (2, 107), (2, 108), (2, 109), (0, f82_637), (0, f82_639), (2, 110), (2, 111), (2, 112), (2, 113)]) (hb666.get (by decide) h82_641) rfl rfl rfl (fun w668 hk669 hb670 => ?_)
            have hf671 : fld w668 82 2 = f82_611 := fld_of hk669
            have hf672 : fld w668 82 3 = f82_613 := fld_of hk669
            have hf673 : fld w668 82 4 = f82_615 := fld_of hk669
            have hf674 : fld w668 82 5 = f82_617 := fld_of hk669
            have hf675 : fld w668 82 6 = f82_619 := fld_of hk669
            have hf676 : fld w668 82 7 = f82_621 := fld_of hk669
            have hf677 : fld w668 82 8 = f82_623 := fld_of hk669
            have hf678 : fld w668 82 9 = f82_625 := fld_of hk669
            have hf679 : fld w668 82 10 = f82_627 := fld_of hk669
            have hf680 : fld w668 82 14 = f82_629 + 1 := fld_of hk669
            exact xg_e ⟨w668, ⟨rfl, rfl⟩, xMnv.up (S := [85, 82]) hI601 ((xFr.of (S := [85, 82]) hb666 (by decide)).tr (xFr.of (S := [85, 82]) hb670 (by decide))) (List.forall_mem_cons.mpr ⟨(show cpI 7 52 4294967295 (wget w668 85) from ⟨_, (hr665.but hb670 (by decide)), xrb (by omega) (hb658)⟩), List.forall_mem_cons.mpr ⟨(show cp82 (wget w668 82) from ⟨f82_611, f82_613, f82_615, f82_617, f82_619, f82_621, f82_623, f82_625, f82_627, f82_629 + 1, f82_631, f82_632, f82_633, f82_635, f82_637, f82_639, hk669, by omega, hb614, by omega, by omega, hb620, by omega, hb624, hb626, by omega, by omega, hb634, hb636, hb638, hb640, by omega⟩), fun _ h => absurd h List.not_mem_nil⟩⟩), ((((((((hF50.tr (hF103.up (by decide))).tr (xFr.of (S := [82, 83, 85, 86, 87]) hb151 (by decide))).tr (hF156.up (by decide))).tr (hF311.up (by decide))).tr (hF319.up (by decide))).tr (hF461.up (by decide))).tr (hF602.up (by decide))).tr ((xFr.of (S := [82, 83, 85, 86, 87]) hb666 (by decide)).tr (xFr.of (S := [82, 83, 85, 86, 87]) hb670 (by decide)))), ⟨Or.inl ⟨p_417, lf596, ⟨by have z := hk655.1; omega, (rwv_eq (j := 16) ((hb670.1 83 (by decide)).trans (hb666.1 83 (by decide)))).trans hk655.2.1, (rwv_eq (j := 17) ((hb670.1 83 (by decide)).trans (hb666.1 83 (by decide)))).trans hk655.2.2⟩⟩, (((((((((hj56.tr (K83.fr hF103 (by decide))).tr (K83.but hb151 (by decide))).tr k8_160).tr (K83.fr hF311 (by decide))).tr k8_323).tr (K83.fr hF461 (by decide))).tr hv608).tr (K83.but hb666 (by decide))).tr (K83.but hb670 (by decide))), by omega⟩⟩
    · refine xg_t (xg_icT (u := u42) (v := 20) rfl xnm0 xnm0 (xj_geT (by omega) (by omega))) ?_
      refine xg_t (xg_blk (b := [(286, 1, 3, 0, 0, 0), (287, 2, 15, 4, 0, 0)]) rfl) ?_
      refine xg_t (xg_const) ?_
      refine xg_t (xg_istore (l1 := [(0, (2, 82)), (1, (0, 4)), (2, (0, at_)), (3, (0, u42))]) rfl rfl rfl) ?_
      refine xg_t (xg_blk (b := [(289, 2, 2, 4, 0, 0), (291, 1, 3, 2, 0, 0), (292, 3, 6, 323, 3, 0), (295, 1, 0, 0, 0, 0), (296, 1, 2, 1, 0, 0), (297, 1, 2, 3, 0, 0), (298, 2, 4, 100, 0, 0), (300, 1, 3, 2, 0, 0), (301, 1, 2, 3, 0, 0), (302, 1, 16, 0, 0, 0), (303, 1, 11, 0, 0, 0), (304, 2, 2, 4, 0, 0), (306, 1, 11, 0, 0, 0), (307, 1, 0, 0, 0, 0), (308, 1, 3, 0, 0, 0), (309, 2, 4, 9, 0, 0), (311, 3, 13, 199, 96, 196), (314, 3, 13, 211, 96, 200), (317, 3, 9, 4, 1, 0), (320, 3, 8, 289, 0, 0)]) rfl) ?_
      refine xg_t (xg_iload (va := (0, 0)) rfl rfl) ?_
      refine xg_t (xg_const) ?_
      refine xg_t (xg_icF (u := 0) (v := 2) rfl xnm0 xnm0 (by decide)) ?_
      refine xg_t (xg_aload (va := (2, 82)) rfl rfl) ?_
      refine xg_t (xg_iload (va := (0, 4)) rfl rfl) ?_
      refine xg_t (xg_iload (va := (0, u42)) rfl rfl) ?_
      refine xg_t (xg_bip) ?_
      refine xg_t (xg_const) ?_
      refine xg_t (xg_iload (va := (0, u42)) rfl rfl) ?_
      refine xg_t (xg_imul (u := 2) (v := u42) (z := 2 * u42) xnm0 xnm0 (by omega)) ?_
      refine xg_t (xg_iadd (u := 100) (v := 2 * u42) (z := 100 + (2 * u42)) xnm0 xnm0 (by omega)) ?_
      refine xg_t (xg_iload (va := (0, 0)) rfl rfl) ?_
      refine xg_t (xg_iadd (u := 100 + (2 * u42)) (v := 0) (z := (100 + (2 * u42)) + 0) xnm0 xnm0 (by omega)) ?_
      refine xg_t (xg_aload (va := (2, 82)) rfl rfl) ?_
      refine xg_t (xg_const) ?_
      refine xg_t (xg_bip) ?_
      have hk681 := k14_111
      refine xoCh82 (hI102 82 (by decide) (by decide) : cp82 (wget w100 82)) (fun f82_682 f82_684 f82_686 f82_688 f82_690 f82_692 f82_694 f82_696 f82_698 f82_700 f82_702 f82_703 f82_704 f82_706 f82_708 f82_710 h82_712 hb683 hb685 hb687 hb689 hb691 hb693 hb695 hb697 hb699 hb701 hb705 hb707 hb709 hb711 hb713 => ?_)
      refine xg_cVi mX12_numbered (vs := [(0, 0), (0, 9)]) (rest := [(0, (100 + (2 * u42)) + 0), (0, u42), (0, 4), (2, 82)]) (cn1 := 0) (sl1 := 0) rfl (mNumX (ir := 0) (hI102) (by omega) (by omega) (hB.fr (fun j h4 h9 => (hj56.tr (K83.fr hF103 (by decide))) j (by omega) (by omega) (by omega))) k10_110 hz105 (hj52.k83 (rwv_eq (hF103.1 83 (by decide))) (rwv_eq (hF103.1 83 (by decide))))) rfl h82_712 rfl rfl rfl rfl rfl rfl (fun n718 w714 hq715 => ?_)
      obtain ⟨hn719, hI716, hF717⟩ := hq715
      obtain ⟨hx722, h14_720, k8_721⟩ := hn719
      have k14_723 := h14_720.trans hk681
      rcases hx722 with ⟨rfl, hk724, hW725⟩ | ⟨hv726, h9_727, hk724, k10_728, hT_729, hF_730⟩
      · have lf731 : lnR B nn p0 = (false, p_108) := ln112.trans (lnN_n (k := 1) hk724)
        refine xoCh82 (hI716 82 (by decide) (by decide) : cp82 (wget w714 82)) (fun f82_732 f82_734 f82_736 f82_738 f82_740 f82_742 f82_744 f82_746 f82_748 f82_750 f82_752 f82_753 f82_754 f82_756 f82_758 f82_760 h82_762 hb733 hb735 hb737 hb739 hb741 hb743 hb745 hb747 hb749 hb751 hb755 hb757 hb759 hb761 hb763 => ?_)
        refine xg_cVv mX12_puts (vs := [(0, 4), (0, u42), (0, (100 + (2 * u42)) + 0), (0, 0)]) (rest := []) (cn1 := 0) (sl1 := 0) rfl (mPuts4 (hI716) (by omega) (by omega) (by omega) (fun _ => by omega)) rfl h82_762 rfl rfl rfl rfl rfl rfl (fun w764 hq765 => ?_)
        obtain ⟨hI766, hF767, hx768⟩ := hq765
        obtain ⟨hp769, hp770⟩ := hx768
        refine xg_t (xg_iinc (u := 0) (z := 1) (l1 := [(0, (2, 82)), (1, (0, 4)), (2, (0, at_)), (3, (0, u42))]) rfl rfl (by decide) rfl) ?_
        refine xg_t (xg_goto) ?_
        refine xg_t (xg_blk (b := [(289, 2, 2, 4, 0, 0), (291, 1, 3, 2, 0, 0), (292, 3, 6, 323, 3, 0), (295, 1, 0, 0, 0, 0), (296, 1, 2, 1, 0, 0), (297, 1, 2, 3, 0, 0), (298, 2, 4, 100, 0, 0), (300, 1, 3, 2, 0, 0), (301, 1, 2, 3, 0, 0), (302, 1, 16, 0, 0, 0), (303, 1, 11, 0, 0, 0), (304, 2, 2, 4, 0, 0), (306, 1, 11, 0, 0, 0), (307, 1, 0, 0, 0, 0), (308, 1, 3, 0, 0, 0), (309, 2, 4, 9, 0, 0), (311, 3, 13, 199, 96, 196), (314, 3, 13, 211, 96, 200), (317, 3, 9, 4, 1, 0), (320, 3, 8, 289, 0, 0)]) rfl) ?_
        refine xg_t (xg_iload (va := (0, 1)) rfl rfl) ?_
        refine xg_t (xg_const) ?_
        refine xg_t (xg_icF (u := 1) (v := 2) rfl xnm0 xnm0 (by decide)) ?_
        refine xg_t (xg_aload (va := (2, 82)) rfl rfl) ?_
        refine xg_t (xg_iload (va := (0, 4)) rfl rfl) ?_
        refine xg_t (xg_iload (va := (0, u42)) rfl rfl) ?_
        refine xg_t (xg_bip) ?_
        refine xg_t (xg_const) ?_
        refine xg_t (xg_iload (va := (0, u42)) rfl rfl) ?_
        refine xg_t (xg_imul (u := 2) (v := u42) (z := 2 * u42) xnm0 xnm0 (by omega)) ?_
        refine xg_t (xg_iadd (u := 100) (v := 2 * u42) (z := 100 + (2 * u42)) xnm0 xnm0 (by omega)) ?_
        refine xg_t (xg_iload (va := (0, 1)) rfl rfl) ?_
        refine xg_t (xg_iadd (u := 100 + (2 * u42)) (v := 1) (z := (100 + (2 * u42)) + 1) xnm0 xnm0 (by omega)) ?_
        refine xg_t (xg_aload (va := (2, 82)) rfl rfl) ?_
        refine xg_t (xg_const) ?_
        refine xg_t (xg_bip) ?_
        refine xg_cVi mX12_numbered (vs := [(0, 0), (0, 9)]) (rest := [(0, (100 + (2 * u42)) + 1), (0, u42), (0, 4), (2, 82)]) (cn1 := 0) (sl1 := 0) rfl (mNumW (hI766) (by omega) (by omega) (by have q := hW725.1; have q2 := fld_eq (j := 10) (hF767.1 82 (by decide)); omega)) rfl (hF767.get (by decide) h82_762) rfl rfl rfl rfl rfl rfl (fun n775 w771 hq772 => ?_)
        obtain ⟨hn776, hI773, hF774⟩ := hq772
        obtain rfl := hn776
        refine xg_cVv mX12_puts (vs := [(0, 4), (0, u42), (0, (100 + (2 * u42)) + 1), (0, 0)]) (rest := []) (cn1 := 0) (sl1 := 0) rfl (mPuts4 (hI773) (by omega) (by omega) (by omega) (fun _ => by omega)) rfl (hF774.get (by decide) (hF767.get (by decide) h82_762)) rfl rfl rfl rfl rfl rfl (fun w777 hq778 => ?_)
        obtain ⟨hI779, hF780, hx781⟩ := hq778
        obtain ⟨hp782, hp783⟩ := hx781
        refine xg_t (xg_iinc (u := 1) (z := 2) (l1 := [(0, (2, 82)), (1, (0, 4)), (2, (0, at_)), (3, (0, u42))]) rfl rfl (by decide) rfl) ?_
        refine xg_t (xg_goto) ?_
        refine xg_t (xg_blk (b := [(289, 2, 2, 4, 0, 0), (291, 1, 3, 2, 0, 0), (292, 3, 6, 323, 3, 0), (295, 1, 0, 0, 0, 0), (296, 1, 2, 1, 0, 0), (297, 1, 2, 3, 0, 0), (298, 2, 4, 100, 0, 0), (300, 1, 3, 2, 0, 0), (301, 1, 2, 3, 0, 0), (302, 1, 16, 0, 0, 0), (303, 1, 11, 0, 0, 0), (304, 2, 2, 4, 0, 0), (306, 1, 11, 0, 0, 0), (307, 1, 0, 0, 0, 0), (308, 1, 3, 0, 0, 0), (309, 2, 4, 9, 0, 0), (311, 3, 13, 199, 96, 196), (314, 3, 13, 211, 96, 200), (317, 3, 9, 4, 1, 0), (320, 3, 8, 289, 0, 0)]) rfl) ?_
        refine xg_t (xg_iload (va := (0, 2)) rfl rfl) ?_
        refine xg_t (xg_const) ?_
        refine xg_t (xg_icT (u := 2) (v := 2) rfl xnm0 xnm0 (by decide)) ?_
        refine xg_t (xg_blk (b := [(323, 3, 8, 394, 0, 0)]) rfl) ?_
        refine xg_t (xg_goto) ?_
        refine xg_t (xg_blk (b := [(394, 1, 0, 0, 0, 0), (395, 3, 1, 12, 10, 180), (398, 3, 7, 416, 1, 0), (401, 1, 0, 0, 0, 0), (402, 3, 1, 12, 7, 151), (405, 1, 3, 2, 0, 0), (406, 3, 6, 416, 1, 0), (409, 1, 0, 0, 0, 0), (410, 3, 13, 110, 96, 190), (413, 3, 8, 420, 0, 0)]) rfl) ?_
        refine xg_t (xg_aload (va := (2, 82)) rfl rfl) ?_
        refine xg_t (xg_getf (va := (0, f82_748)) (hF780.get (by decide) (hF774.get (by decide) (hF767.get (by decide) h82_762))) rfl) ?_
        have hf784 : fld w777 82 10 = f82_748 := fld_of (hF780.get (by decide) (hF774.get (by decide) (hF767.get (by decide) h82_762)))
        have hk785 : fld w777 82 10 ≠ 0 := (by have q := hW725.1; have q2 := fld_eq (j := 10) ((hF780.1 82 (by decide)).trans ((hF774.1 82 (by decide)).trans (hF767.1 82 (by decide)))); omega)
        refine xg_t (xg_ifT (u := f82_748) rfl xnm0 (xj_neT (by omega))) ?_
        refine xg_t (xg_blk (b := [(416, 1, 0, 0, 0, 0), (417, 3, 13, 140, 96, 183)]) rfl) ?_
        refine xg_t (xg_aload (va := (2, 82)) rfl rfl) ?_
        refine xg_cVv mX12_ends (vs := []) (rest := []) (cn1 := 0) (sl1 := 0) rfl (mEndsW (hI779) (by have q := hW725.1; have q2 := fld_eq (j := 10) ((hF780.1 82 (by decide)).trans ((hF774.1 82 (by decide)).trans (hF767.1 82 (by decide)))); omega)) rfl (hF780.get (by decide) (hF774.get (by decide) (hF767.get (by decide) h82_762))) rfl rfl rfl rfl rfl rfl (fun w786 hq787 => ?_)
        obtain ⟨hI788, hF789⟩ := hq787
        refine xg_t (xg_blk (b := [(420, 1, 0, 0, 0, 0), (421, 3, 1, 12, 11, 17), (424, 1, 2, 1, 0, 0), (425, 1, 39, 0, 0, 0), (426, 1, 10, 0, 0, 0), (427, 1, 3, 1, 0, 0), (428, 1, 11, 0, 0, 0), (429, 1, 17, 0, 0, 0), (430, 1, 0, 0, 0, 0), (431, 1, 19, 0, 0, 0), (432, 3, 1, 12, 14, 212), (435, 1, 3, 1, 0, 0), (436, 1, 11, 0, 0, 0), (437, 3, 14, 12, 14, 212), (440, 1, 12, 0, 0, 0)]) rfl) ?_
        have hf790 : fld w786 82 2 = f82_732 := fld_of (hF789.get (by decide) (hF780.get (by decide) (hF774.get (by decide) (hF767.get (by decide) h82_762))))
        have hf791 : fld w786 82 3 = f82_734 := fld_of (hF789.get (by decide) (hF780.get (by decide) (hF774.get (by decide) (hF767.get (by decide) h82_762))))
        have hf792 : fld w786 82 4 = f82_736 := fld_of (hF789.get (by decide) (hF780.get (by decide) (hF774.get (by decide) (hF767.get (by decide) h82_762))))
        have hf793 : fld w786 82 5 = f82_738 := fld_of (hF789.get (by decide) (hF780.get (by decide) (hF774.get (by decide) (hF767.get (by decide) h82_762))))
        have hf794 : fld w786 82 6 = f82_740 := fld_of (hF789.get (by decide) (hF780.get (by decide) (hF774.get (by decide) (hF767.get (by decide) h82_762))))
        have hf795 : fld w786 82 7 = f82_742 := fld_of (hF789.get (by decide) (hF780.get (by decide) (hF774.get (by decide) (hF767.get (by decide) h82_762))))
        have hf796 : fld w786 82 8 = f82_744 := fld_of (hF789.get (by decide) (hF780.get (by decide) (hF774.get (by decide) (hF767.get (by decide) h82_762))))
        have hf797 : fld w786 82 9 = f82_746 := fld_of (hF789.get (by decide) (hF780.get (by decide) (hF774.get (by decide) (hF767.get (by decide) h82_762))))
        have hf798 : fld w786 82 10 = f82_748 := fld_of (hF789.get (by decide) (hF780.get (by decide) (hF774.get (by decide) (hF767.get (by decide) h82_762))))
        have hf799 : fld w786 82 14 = f82_750 := fld_of (hF789.get (by decide) (hF780.get (by decide) (hF774.get (by decide) (hF767.get (by decide) h82_762))))
        have hk800 := ((fld_eq (j := 14) ((hF789.1 82 (by decide)).trans ((hF780.1 82 (by decide)).trans ((hF774.1 82 (by decide)).trans (hF767.1 82 (by decide)))))).trans k14_723)
        have hl801 : f82_750 ≤ 500 := by omega
        have hk802 : WRG w786 (tq B nn p_108) := ⟨(fld_eq (j := 10) ((hF789.1 82 (by decide)).trans ((hF780.1 82 (by decide)).trans ((hF774.1 82 (by decide)).trans (hF767.1 82 (by decide)))))).trans hW725.1, (rwv_eq (j := 16) ((hF789.1 83 (by decide)).trans ((hF780.1 83 (by decide)).trans ((hF774.1 83 (by decide)).trans (hF767.1 83 (by decide)))))).trans hW725.2.1, (rwv_eq (j := 17) ((hF789.1 83 (by decide)).trans ((hF780.1 83 (by decide)).trans ((hF774.1 83 (by decide)).trans (hF767.1 83 (by decide)))))).trans hW725.2.2⟩
        refine xg_t (xg_aload (va := (2, 82)) rfl rfl) ?_
        refine xg_t (xg_getf (va := (2, 85)) (hF789.get (by decide) (hF780.get (by decide) (hF774.get (by decide) (hF767.get (by decide) h82_762)))) rfl) ?_
        refine xg_t (xg_iload (va := (0, 4)) rfl rfl) ?_
        refine xg_t (xg_dup2 rfl) ?_
        refine xoI (hI788 85 (by decide) (by decide) : cpI 7 52 4294967295 (wget w786 85)) (fun g85_803 h85_804 hb805 => ?_)
        refine xg_ialdB (n := 4) (B := 4294967295) h85_804 (hb805) xnm0 (by omega) (fun u806 hu807 he808 => ?_)
        have hK809 : u806 = u42 := (((rwv_of h85_804 (by decide)).trans he808).symm.trans (rwv_eq ((hF789.1 85 (by decide)).trans ((hF780.1 85 (by decide)).trans ((hF774.1 85 (by decide)).trans ((hF767.1 85 (by decide)).trans ((hF717.1 85 (by decide)).trans ((hF103.1 85 (by decide)).trans hj57)))))))).trans ((hm 4 (by decide)).trans hK45.symm)
        have hl810 : u806 ≤ 500 := by omega
        refine xg_t (xg_const) ?_
        refine xg_t (xg_iadd (u := u806) (v := 1) (z := u806 + 1) xnm0 xnm0 (by omega)) ?_
        refine xg_iastK (n := 4) (u := u806 + 1) h85_804 xnm0 xnm0 rfl (by omega) (fun w811 hr812 hb813 => ?_)
        refine xg_t (xg_aload (va := (2, 82)) rfl rfl) ?_
        refine xg_t (xg_dup rfl) ?_
        refine xg_t (xg_getf (va := (0, f82_750)) (hb813.get (by decide) (hF789.get (by decide) (hF780.get (by decide) (hF774.get (by decide) (hF767.get (by decide) h82_762))))) rfl) ?_
        have hn814 := id hb751
        unfold xHid at hn814
        refine xg_t (xg_const) ?_
        refine xg_t (xg_iadd (u := f82_750) (v := 1) (z := f82_750 + 1) xnm0 xnm0 (by omega)) ?_
        refine xg_putI (fl1 := [(2, 83), (2, 84), (0, f82_732), (0, f82_734), (0, f82_736), (0, f82_738), (0, f82_740), (0, f82_742), (0, f82_744), (0, f82_746), (0, f82_748), (2, 85), (2, 86), (2, 87), (0, f82_750 + 1), (2, 88), (2, 89), (2, 90), (2, 91), (2, 92), (2, 93), (2, 94), (4, f82_752), (4, f82_753), (0, f82_754), (2, 95), (2, 96), (2, 97), (2, 98), (2, 99), (2, 100), (2, 101), (2, 102), (0, f82_756), (2, 103), (2, 104), (2, 105), (2, 106), (2, 107), (2, 108), (2, 109), (0, f82_758), (0, f82_760), (2, 110), (2, 111), (2, 112), (2, 113)]) (hb813.get (by decide) (hF789.get (by decide) (hF780.get (by decide) (hF774.get (by decide) (hF767.get (by decide) h82_762))))) rfl rfl rfl (fun w815 hk816 hb817 => ?_)
        have hf818 : fld w815 82 2 = f82_732 := fld_of hk816
        have hf819 : fld w815 82 3 = f82_734 := fld_of hk816
        have hf820 : fld w815 82 4 = f82_736 := fld_of hk816
        have hf821 : fld w815 82 5 = f82_738 := fld_of hk816
        have hf822 : fld w815 82 6 = f82_740 := fld_of hk816
        have hf823 : fld w815 82 7 = f82_742 := fld_of hk816
        have hf824 : fld w815 82 8 = f82_744 := fld_of hk816
        have hf825 : fld w815 82 9 = f82_746 := fld_of hk816
        have hf826 : fld w815 82 10 = f82_748 := fld_of hk816
        have hf827 : fld w815 82 14 = f82_750 + 1 := fld_of hk816
        exact xg_e ⟨w815, ⟨rfl, rfl⟩, xMnv.up (S := [85, 82]) hI788 ((xFr.of (S := [85, 82]) hb813 (by decide)).tr (xFr.of (S := [85, 82]) hb817 (by decide))) (List.forall_mem_cons.mpr ⟨(show cpI 7 52 4294967295 (wget w815 85) from ⟨_, (hr812.but hb817 (by decide)), xrb (by omega) (hb805)⟩), List.forall_mem_cons.mpr ⟨(show cp82 (wget w815 82) from ⟨f82_732, f82_734, f82_736, f82_738, f82_740, f82_742, f82_744, f82_746, f82_748, f82_750 + 1, f82_752, f82_753, f82_754, f82_756, f82_758, f82_760, hk816, by omega, hb735, by omega, by omega, hb741, by omega, hb745, hb747, by omega, by omega, hb755, hb757, hb759, hb761, by omega⟩), fun _ h => absurd h List.not_mem_nil⟩⟩), (((((((hF50.tr (hF103.up (by decide))).tr (hF717.up (by decide))).tr (hF767.up (by decide))).tr (hF774.up (by decide))).tr (hF780.up (by decide))).tr (hF789.up (by decide))).tr ((xFr.of (S := [82, 83, 85, 86, 87]) hb813 (by decide)).tr (xFr.of (S := [82, 83, 85, 86, 87]) hb817 (by decide)))), ⟨Or.inl ⟨p_108, lf731, ⟨by have z := hk802.1; omega, (rwv_eq (j := 16) ((hb817.1 83 (by decide)).trans (hb813.1 83 (by decide)))).trans hk802.2.1, (rwv_eq (j := 17) ((hb817.1 83 (by decide)).trans (hb813.1 83 (by decide)))).trans hk802.2.2⟩⟩, ((((((((hj56.tr (K83.fr hF103 (by decide))).tr k8_721).tr (K83.fr hF767 (by decide))).tr (K83.fr hF774 (by decide))).tr (K83.fr hF780 (by decide))).tr (K83.fr hF789 (by decide))).tr (K83.but hb813 (by decide))).tr (K83.but hb817 (by decide))), by omega⟩⟩
      · obtain ⟨p_828, hp829⟩ : ∃ x, x = tf B nn p_108 := ⟨_, rfl⟩
        rw [← hp829] at hT_729
        have ln830 : lnR B nn p0 = lnN B nn 4 1 p_828 := by rw [hp829]; exact ln112.trans (lnN_y (k := 1) hk724)
        have vp831 : vlp B nn (lnP B nn k) 0 = p_108 := by rw [← hp0]; exact hp109.symm
        have vl832 : vln B nn (lnP B nn k) 0 = tnu B nn p_108 := by
          show (if (0 : Nat) = 3 then _ else tnu B nn (vlp B nn (lnP B nn k) 0)) = _
          rw [if_neg (by decide), vp831]
        have he834 : (chk (mf1 B nn k 4 (flA B nn k)) 0 9 (tnu B nn p_108) (tq B nn p_108)) = (mf2 B nn k 4 (flA B nn k)) := by show _ = chk (mf1 B nn k 4 (flA B nn k)) 0 9 (vln B nn (lnP B nn k) 0) (tq B nn (vlp B nn (lnP B nn k) 0)); rw [vl832, vp831]
        have hF_833 := hF_730
        rw [he834] at hF_833
        have he836 : (mf2 B nn k 4 (flA B nn k)) = (mf3 B nn k 4 (flA B nn k)) := rfl
        have hF_835 := hF_833
        rw [he836] at hF_835
        refine xoCh82 (hI716 82 (by decide) (by decide) : cp82 (wget w714 82)) (fun f82_837 f82_839 f82_841 f82_843 f82_845 f82_847 f82_849 f82_851 f82_853 f82_855 f82_857 f82_858 f82_859 f82_861 f82_863 f82_865 h82_867 hb838 hb840 hb842 hb844 hb846 hb848 hb850 hb852 hb854 hb856 hb860 hb862 hb864 hb866 hb868 => ?_)
        refine xg_cVv mX12_puts (vs := [(0, 4), (0, u42), (0, (100 + (2 * u42)) + 0), (0, n718)]) (rest := []) (cn1 := 0) (sl1 := 0) rfl (mPuts4 (hI716) (by omega) (by omega) (by omega) (fun _ => by omega)) rfl h82_867 rfl rfl rfl rfl rfl rfl (fun w869 hq870 => ?_)
        obtain ⟨hI871, hF872, hx873⟩ := hq870
        obtain ⟨hp874, hp875⟩ := hx873
        refine xg_t (xg_iinc (u := 0) (z := 1) (l1 := [(0, (2, 82)), (1, (0, 4)), (2, (0, at_)), (3, (0, u42))]) rfl rfl (by decide) rfl) ?_
        refine xg_t (xg_goto) ?_
        refine xg_t (xg_blk (b := [(289, 2, 2, 4, 0, 0), (291, 1, 3, 2, 0, 0), (292, 3, 6, 323, 3, 0), (295, 1, 0, 0, 0, 0), (296, 1, 2, 1, 0, 0), (297, 1, 2, 3, 0, 0), (298, 2, 4, 100, 0, 0), (300, 1, 3, 2, 0, 0), (301, 1, 2, 3, 0, 0), (302, 1, 16, 0, 0, 0), (303, 1, 11, 0, 0, 0), (304, 2, 2, 4, 0, 0), (306, 1, 11, 0, 0, 0), (307, 1, 0, 0, 0, 0), (308, 1, 3, 0, 0, 0), (309, 2, 4, 9, 0, 0), (311, 3, 13, 199, 96, 196), (314, 3, 13, 211, 96, 200), (317, 3, 9, 4, 1, 0), (320, 3, 8, 289, 0, 0)]) rfl) ?_
        refine xg_t (xg_iload (va := (0, 1)) rfl rfl) ?_
        refine xg_t (xg_const) ?_
        refine xg_t (xg_icF (u := 1) (v := 2) rfl xnm0 xnm0 (by decide)) ?_
        refine xg_t (xg_aload (va := (2, 82)) rfl rfl) ?_
        refine xg_t (xg_iload (va := (0, 4)) rfl rfl) ?_
        refine xg_t (xg_iload (va := (0, u42)) rfl rfl) ?_
        refine xg_t (xg_bip) ?_
        refine xg_t (xg_const) ?_
        refine xg_t (xg_iload (va := (0, u42)) rfl rfl) ?_
        refine xg_t (xg_imul (u := 2) (v := u42) (z := 2 * u42) xnm0 xnm0 (by omega)) ?_
        refine xg_t (xg_iadd (u := 100) (v := 2 * u42) (z := 100 + (2 * u42)) xnm0 xnm0 (by omega)) ?_
        refine xg_t (xg_iload (va := (0, 1)) rfl rfl) ?_
        refine xg_t (xg_iadd (u := 100 + (2 * u42)) (v := 1) (z := (100 + (2 * u42)) + 1) xnm0 xnm0 (by omega)) ?_
        refine xg_t (xg_aload (va := (2, 82)) rfl rfl) ?_
        refine xg_t (xg_const) ?_
        refine xg_t (xg_bip) ?_
        have hk876 := ((fld_eq (j := 14) (hF872.1 82 (by decide))).trans k14_723)
        refine xg_cVi mX12_numbered (vs := [(0, 0), (0, 9)]) (rest := [(0, (100 + (2 * u42)) + 1), (0, u42), (0, 4), (2, 82)]) (cn1 := 0) (sl1 := 0) rfl (mNumX (ir := 0) (hI871) (by omega) (by omega) (hB.fr (fun j h4 h9 => (((hj56.tr (K83.fr hF103 (by decide))).tr k8_721).tr (K83.fr hF872 (by decide))) j (by omega) (by omega) (by omega))) ((fld_eq (j := 10) (hF872.1 82 (by decide))).trans k10_728) (hT_729.fr (hF872.1 82 (by decide))) (hF_835.k83 (rwv_eq (hF872.1 83 (by decide))) (rwv_eq (hF872.1 83 (by decide))))) rfl (hF872.get (by decide) h82_867) rfl rfl rfl rfl rfl rfl (fun n881 w877 hq878 => ?_)
        obtain ⟨hn882, hI879, hF880⟩ := hq878
        obtain ⟨hx885, h14_883, k8_884⟩ := hn882
        have k14_886 := h14_883.trans hk876
        rcases hx885 with ⟨rfl, hk887, hW888⟩ | ⟨hv889, h9_890, hk887, k10_891, hT_892, hF_893⟩
        · have lf894 : lnR B nn p0 = (false, p_828) := ln830.trans (lnN_n (k := 0) hk887)
          refine xoCh82 (hI879 82 (by decide) (by decide) : cp82 (wget w877 82)) (fun f82_895 f82_897 f82_899 f82_901 f82_903 f82_905 f82_907 f82_909 f82_911 f82_913 f82_915 f82_916 f82_917 f82_919 f82_921 f82_923 h82_925 hb896 hb898 hb900 hb902 hb904 hb906 hb908 hb910 hb912 hb914 hb918 hb920 hb922 hb924 hb926 => ?_)
          refine xg_cVv mX12_puts (vs := [(0, 4), (0, u42), (0, (100 + (2 * u42)) + 1), (0, 0)]) (rest := []) (cn1 := 0) (sl1 := 0) rfl (mPuts4 (hI879) (by omega) (by omega) (by omega) (fun _ => by omega)) rfl h82_925 rfl rfl rfl rfl rfl rfl (fun w927 hq928 => ?_)
          obtain ⟨hI929, hF930, hx931⟩ := hq928
          obtain ⟨hp932, hp933⟩ := hx931
          refine xg_t (xg_iinc (u := 1) (z := 2) (l1 := [(0, (2, 82)), (1, (0, 4)), (2, (0, at_)), (3, (0, u42))]) rfl rfl (by decide) rfl) ?_
          refine xg_t (xg_goto) ?_
          refine xg_t (xg_blk (b := [(289, 2, 2, 4, 0, 0), (291, 1, 3, 2, 0, 0), (292, 3, 6, 323, 3, 0), (295, 1, 0, 0, 0, 0), (296, 1, 2, 1, 0, 0), (297, 1, 2, 3, 0, 0), (298, 2, 4, 100, 0, 0), (300, 1, 3, 2, 0, 0), (301, 1, 2, 3, 0, 0), (302, 1, 16, 0, 0, 0), (303, 1, 11, 0, 0, 0), (304, 2, 2, 4, 0, 0), (306, 1, 11, 0, 0, 0), (307, 1, 0, 0, 0, 0), (308, 1, 3, 0, 0, 0), (309, 2, 4, 9, 0, 0), (311, 3, 13, 199, 96, 196), (314, 3, 13, 211, 96, 200), (317, 3, 9, 4, 1, 0), (320, 3, 8, 289, 0, 0)]) rfl) ?_
          refine xg_t (xg_iload (va := (0, 2)) rfl rfl) ?_
          refine xg_t (xg_const) ?_
          refine xg_t (xg_icT (u := 2) (v := 2) rfl xnm0 xnm0 (by decide)) ?_
          refine xg_t (xg_blk (b := [(323, 3, 8, 394, 0, 0)]) rfl) ?_
          refine xg_t (xg_goto) ?_
          refine xg_t (xg_blk (b := [(394, 1, 0, 0, 0, 0), (395, 3, 1, 12, 10, 180), (398, 3, 7, 416, 1, 0), (401, 1, 0, 0, 0, 0), (402, 3, 1, 12, 7, 151), (405, 1, 3, 2, 0, 0), (406, 3, 6, 416, 1, 0), (409, 1, 0, 0, 0, 0), (410, 3, 13, 110, 96, 190), (413, 3, 8, 420, 0, 0)]) rfl) ?_
          refine xg_t (xg_aload (va := (2, 82)) rfl rfl) ?_
          refine xg_t (xg_getf (va := (0, f82_911)) (hF930.get (by decide) h82_925) rfl) ?_
          have hf934 : fld w927 82 10 = f82_911 := fld_of (hF930.get (by decide) h82_925)
          have hk935 : fld w927 82 10 ≠ 0 := (by have q := hW888.1; have q2 := fld_eq (j := 10) (hF930.1 82 (by decide)); omega)
          refine xg_t (xg_ifT (u := f82_911) rfl xnm0 (xj_neT (by omega))) ?_
          refine xg_t (xg_blk (b := [(416, 1, 0, 0, 0, 0), (417, 3, 13, 140, 96, 183)]) rfl) ?_
          refine xg_t (xg_aload (va := (2, 82)) rfl rfl) ?_
          refine xg_cVv mX12_ends (vs := []) (rest := []) (cn1 := 0) (sl1 := 0) rfl (mEndsW (hI929) (by have q := hW888.1; have q2 := fld_eq (j := 10) (hF930.1 82 (by decide)); omega)) rfl (hF930.get (by decide) h82_925) rfl rfl rfl rfl rfl rfl (fun w936 hq937 => ?_)
          obtain ⟨hI938, hF939⟩ := hq937
          refine xg_t (xg_blk (b := [(420, 1, 0, 0, 0, 0), (421, 3, 1, 12, 11, 17), (424, 1, 2, 1, 0, 0), (425, 1, 39, 0, 0, 0), (426, 1, 10, 0, 0, 0), (427, 1, 3, 1, 0, 0), (428, 1, 11, 0, 0, 0), (429, 1, 17, 0, 0, 0), (430, 1, 0, 0, 0, 0), (431, 1, 19, 0, 0, 0), (432, 3, 1, 12, 14, 212), (435, 1, 3, 1, 0, 0), (436, 1, 11, 0, 0, 0), (437, 3, 14, 12, 14, 212), (440, 1, 12, 0, 0, 0)]) rfl) ?_
          have hf940 : fld w936 82 2 = f82_895 := fld_of (hF939.get (by decide) (hF930.get (by decide) h82_925))
          have hf941 : fld w936 82 3 = f82_897 := fld_of (hF939.get (by decide) (hF930.get (by decide) h82_925))
          have hf942 : fld w936 82 4 = f82_899 := fld_of (hF939.get (by decide) (hF930.get (by decide) h82_925))
          have hf943 : fld w936 82 5 = f82_901 := fld_of (hF939.get (by decide) (hF930.get (by decide) h82_925))
          have hf944 : fld w936 82 6 = f82_903 := fld_of (hF939.get (by decide) (hF930.get (by decide) h82_925))
          have hf945 : fld w936 82 7 = f82_905 := fld_of (hF939.get (by decide) (hF930.get (by decide) h82_925))
          have hf946 : fld w936 82 8 = f82_907 := fld_of (hF939.get (by decide) (hF930.get (by decide) h82_925))
          have hf947 : fld w936 82 9 = f82_909 := fld_of (hF939.get (by decide) (hF930.get (by decide) h82_925))
          have hf948 : fld w936 82 10 = f82_911 := fld_of (hF939.get (by decide) (hF930.get (by decide) h82_925))
          have hf949 : fld w936 82 14 = f82_913 := fld_of (hF939.get (by decide) (hF930.get (by decide) h82_925))
          have hk950 := ((fld_eq (j := 14) ((hF939.1 82 (by decide)).trans (hF930.1 82 (by decide)))).trans k14_886)
          have hl951 : f82_913 ≤ 500 := by omega
          have hk952 : WRG w936 (tq B nn p_828) := ⟨(fld_eq (j := 10) ((hF939.1 82 (by decide)).trans (hF930.1 82 (by decide)))).trans hW888.1, (rwv_eq (j := 16) ((hF939.1 83 (by decide)).trans (hF930.1 83 (by decide)))).trans hW888.2.1, (rwv_eq (j := 17) ((hF939.1 83 (by decide)).trans (hF930.1 83 (by decide)))).trans hW888.2.2⟩
          refine xg_t (xg_aload (va := (2, 82)) rfl rfl) ?_
          refine xg_t (xg_getf (va := (2, 85)) (hF939.get (by decide) (hF930.get (by decide) h82_925)) rfl) ?_
          refine xg_t (xg_iload (va := (0, 4)) rfl rfl) ?_
          refine xg_t (xg_dup2 rfl) ?_
          refine xoI (hI938 85 (by decide) (by decide) : cpI 7 52 4294967295 (wget w936 85)) (fun g85_953 h85_954 hb955 => ?_)
          refine xg_ialdB (n := 4) (B := 4294967295) h85_954 (hb955) xnm0 (by omega) (fun u956 hu957 he958 => ?_)
          have hK959 : u956 = u42 := (((rwv_of h85_954 (by decide)).trans he958).symm.trans (rwv_eq ((hF939.1 85 (by decide)).trans ((hF930.1 85 (by decide)).trans ((hF880.1 85 (by decide)).trans ((hF872.1 85 (by decide)).trans ((hF717.1 85 (by decide)).trans ((hF103.1 85 (by decide)).trans hj57)))))))).trans ((hm 4 (by decide)).trans hK45.symm)
          have hl960 : u956 ≤ 500 := by omega
          refine xg_t (xg_const) ?_
          refine xg_t (xg_iadd (u := u956) (v := 1) (z := u956 + 1) xnm0 xnm0 (by omega)) ?_
          refine xg_iastK (n := 4) (u := u956 + 1) h85_954 xnm0 xnm0 rfl (by omega) (fun w961 hr962 hb963 => ?_)
          refine xg_t (xg_aload (va := (2, 82)) rfl rfl) ?_
          refine xg_t (xg_dup rfl) ?_
          refine xg_t (xg_getf (va := (0, f82_913)) (hb963.get (by decide) (hF939.get (by decide) (hF930.get (by decide) h82_925))) rfl) ?_
          have hn964 := id hb914
          unfold xHid at hn964
          refine xg_t (xg_const) ?_
          refine xg_t (xg_iadd (u := f82_913) (v := 1) (z := f82_913 + 1) xnm0 xnm0 (by omega)) ?_
          refine xg_putI (fl1 := [(2, 83), (2, 84), (0, f82_895), (0, f82_897), (0, f82_899), (0, f82_901), (0, f82_903), (0, f82_905), (0, f82_907), (0, f82_909), (0, f82_911), (2, 85), (2, 86), (2, 87), (0, f82_913 + 1), (2, 88), (2, 89), (2, 90), (2, 91), (2, 92), (2, 93), (2, 94), (4, f82_915), (4, f82_916), (0, f82_917), (2, 95), (2, 96), (2, 97), (2, 98), (2, 99), (2, 100), (2, 101), (2, 102), (0, f82_919), (2, 103), (2, 104), (2, 105), (2, 106), (2, 107), (2, 108), (2, 109), (0, f82_921), (0, f82_923), (2, 110), (2, 111), (2, 112), (2, 113)]) (hb963.get (by decide) (hF939.get (by decide) (hF930.get (by decide) h82_925))) rfl rfl rfl (fun w965 hk966 hb967 => ?_)
          have hf968 : fld w965 82 2 = f82_895 := fld_of hk966
          have hf969 : fld w965 82 3 = f82_897 := fld_of hk966
          have hf970 : fld w965 82 4 = f82_899 := fld_of hk966
          have hf971 : fld w965 82 5 = f82_901 := fld_of hk966
          have hf972 : fld w965 82 6 = f82_903 := fld_of hk966
          have hf973 : fld w965 82 7 = f82_905 := fld_of hk966
          have hf974 : fld w965 82 8 = f82_907 := fld_of hk966
          have hf975 : fld w965 82 9 = f82_909 := fld_of hk966
          have hf976 : fld w965 82 10 = f82_911 := fld_of hk966
          have hf977 : fld w965 82 14 = f82_913 + 1 := fld_of hk966
          exact xg_e ⟨w965, ⟨rfl, rfl⟩, xMnv.up (S := [85, 82]) hI938 ((xFr.of (S := [85, 82]) hb963 (by decide)).tr (xFr.of (S := [85, 82]) hb967 (by decide))) (List.forall_mem_cons.mpr ⟨(show cpI 7 52 4294967295 (wget w965 85) from ⟨_, (hr962.but hb967 (by decide)), xrb (by omega) (hb955)⟩), List.forall_mem_cons.mpr ⟨(show cp82 (wget w965 82) from ⟨f82_895, f82_897, f82_899, f82_901, f82_903, f82_905, f82_907, f82_909, f82_911, f82_913 + 1, f82_915, f82_916, f82_917, f82_919, f82_921, f82_923, hk966, by omega, hb898, by omega, by omega, hb904, by omega, hb908, hb910, by omega, by omega, hb918, hb920, hb922, hb924, by omega⟩), fun _ h => absurd h List.not_mem_nil⟩⟩), (((((((hF50.tr (hF103.up (by decide))).tr (hF717.up (by decide))).tr (hF872.up (by decide))).tr (hF880.up (by decide))).tr (hF930.up (by decide))).tr (hF939.up (by decide))).tr ((xFr.of (S := [82, 83, 85, 86, 87]) hb963 (by decide)).tr (xFr.of (S := [82, 83, 85, 86, 87]) hb967 (by decide)))), ⟨Or.inl ⟨p_828, lf894, ⟨by have z := hk952.1; omega, (rwv_eq (j := 16) ((hb967.1 83 (by decide)).trans (hb963.1 83 (by decide)))).trans hk952.2.1, (rwv_eq (j := 17) ((hb967.1 83 (by decide)).trans (hb963.1 83 (by decide)))).trans hk952.2.2⟩⟩, ((((((((hj56.tr (K83.fr hF103 (by decide))).tr k8_721).tr (K83.fr hF872 (by decide))).tr k8_884).tr (K83.fr hF930 (by decide))).tr (K83.fr hF939 (by decide))).tr (K83.but hb963 (by decide))).tr (K83.but hb967 (by decide))), by omega⟩⟩
        · obtain ⟨p_978, hp979⟩ : ∃ x, x = tf B nn p_828 := ⟨_, rfl⟩
          rw [← hp979] at hT_892
          have ln980 : lnR B nn p0 = lnN B nn 4 0 p_978 := by rw [hp979]; exact ln830.trans (lnN_y (k := 0) hk887)
          have vp981 : vlp B nn (lnP B nn k) 1 = p_828 := by show tf B nn (vlp B nn (lnP B nn k) 0) = p_828; rw [vp831]; exact hp829.symm
          have vl982 : vln B nn (lnP B nn k) 1 = tnu B nn p_828 := by
            show (if (1 : Nat) = 3 then _ else tnu B nn (vlp B nn (lnP B nn k) 1)) = _
            rw [if_neg (by decide), vp981]
          have he984 : (chk (mf3 B nn k 4 (flA B nn k)) 0 9 (tnu B nn p_828) (tq B nn p_828)) = (mf4 B nn k 4 (flA B nn k)) := by show _ = chk (mf3 B nn k 4 (flA B nn k)) 0 9 (vln B nn (lnP B nn k) 1) (tq B nn (vlp B nn (lnP B nn k) 1)); rw [vl982, vp981]
          have hF_983 := hF_893
          rw [he984] at hF_983
          have he986 : (mf4 B nn k 4 (flA B nn k)) = (mfl B nn k 4 (flA B nn k)) := rfl
          have hF_985 := hF_983
          rw [he986] at hF_985
          refine xoCh82 (hI879 82 (by decide) (by decide) : cp82 (wget w877 82)) (fun f82_987 f82_989 f82_991 f82_993 f82_995 f82_997 f82_999 f82_1001 f82_1003 f82_1005 f82_1007 f82_1008 f82_1009 f82_1011 f82_1013 f82_1015 h82_1017 hb988 hb990 hb992 hb994 hb996 hb998 hb1000 hb1002 hb1004 hb1006 hb1010 hb1012 hb1014 hb1016 hb1018 => ?_)
          refine xg_cVv mX12_puts (vs := [(0, 4), (0, u42), (0, (100 + (2 * u42)) + 1), (0, n881)]) (rest := []) (cn1 := 0) (sl1 := 0) rfl (mPuts4 (hI879) (by omega) (by omega) (by omega) (fun _ => by omega)) rfl h82_1017 rfl rfl rfl rfl rfl rfl (fun w1019 hq1020 => ?_)
          obtain ⟨hI1021, hF1022, hx1023⟩ := hq1020
          obtain ⟨hp1024, hp1025⟩ := hx1023
          refine xg_t (xg_iinc (u := 1) (z := 2) (l1 := [(0, (2, 82)), (1, (0, 4)), (2, (0, at_)), (3, (0, u42))]) rfl rfl (by decide) rfl) ?_
          refine xg_t (xg_goto) ?_
          refine xg_t (xg_blk (b := [(289, 2, 2, 4, 0, 0), (291, 1, 3, 2, 0, 0), (292, 3, 6, 323, 3, 0), (295, 1, 0, 0, 0, 0), (296, 1, 2, 1, 0, 0), (297, 1, 2, 3, 0, 0), (298, 2, 4, 100, 0, 0), (300, 1, 3, 2, 0, 0), (301, 1, 2, 3, 0, 0), (302, 1, 16, 0, 0, 0), (303, 1, 11, 0, 0, 0), (304, 2, 2, 4, 0, 0), (306, 1, 11, 0, 0, 0), (307, 1, 0, 0, 0, 0), (308, 1, 3, 0, 0, 0), (309, 2, 4, 9, 0, 0), (311, 3, 13, 199, 96, 196), (314, 3, 13, 211, 96, 200), (317, 3, 9, 4, 1, 0), (320, 3, 8, 289, 0, 0)]) rfl) ?_
          refine xg_t (xg_iload (va := (0, 2)) rfl rfl) ?_
          refine xg_t (xg_const) ?_
          refine xg_t (xg_icT (u := 2) (v := 2) rfl xnm0 xnm0 (by decide)) ?_
          refine xg_t (xg_blk (b := [(323, 3, 8, 394, 0, 0)]) rfl) ?_
          refine xg_t (xg_goto) ?_
          refine xg_t (xg_blk (b := [(394, 1, 0, 0, 0, 0), (395, 3, 1, 12, 10, 180), (398, 3, 7, 416, 1, 0), (401, 1, 0, 0, 0, 0), (402, 3, 1, 12, 7, 151), (405, 1, 3, 2, 0, 0), (406, 3, 6, 416, 1, 0), (409, 1, 0, 0, 0, 0), (410, 3, 13, 110, 96, 190), (413, 3, 8, 420, 0, 0)]) rfl) ?_
          have ln1026 : lnR B nn p0 = lnS B nn p_978 := by exact ln980.trans (lnN_0 (by decide))
          refine xg_t (xg_aload (va := (2, 82)) rfl rfl) ?_
          refine xg_t (xg_getf (va := (0, f82_1003)) (hF1022.get (by decide) h82_1017) rfl) ?_
          have hf1027 : fld w1019 82 10 = f82_1003 := fld_of (hF1022.get (by decide) h82_1017)
          have hk1028 : fld w1019 82 10 = 0 := ((fld_eq (j := 10) (hF1022.1 82 (by decide))).trans k10_891)
          refine xg_t (xg_ifF (u := f82_1003) rfl xnm0 (xj_neF (by omega))) ?_
          obtain ⟨⟨ht1029, ht1030, ht1031, ht1032, ht1033, ht1034⟩, ht1035, ht1036, ht1037⟩ := id (hT_892.fr (hF1022.1 82 (by decide)))
          have hf1038 : fld w1019 82 6 = f82_995 := fld_of (hF1022.get (by decide) h82_1017)
          have hf1039 : fld w1019 82 7 = f82_997 := fld_of (hF1022.get (by decide) h82_1017)
          have hf1040 : fld w1019 82 8 = f82_999 := fld_of (hF1022.get (by decide) h82_1017)
          have hf1041 : fld w1019 82 9 = f82_1001 := fld_of (hF1022.get (by decide) h82_1017)
          have hf1042 : fld w1019 82 3 = f82_989 := fld_of (hF1022.get (by decide) h82_1017)
          have hmk1043 := mkd_of (ir := 0) (B := B) (n := nn) (p := p_978)
          refine xg_t (xg_aload (va := (2, 82)) rfl rfl) ?_
          refine xg_t (xg_getf (va := (0, f82_997)) (hF1022.get (by decide) h82_1017) rfl) ?_
          refine xg_t (xg_const) ?_
          by_cases hc1044 : f82_997 = 2
          · refine xg_t (xg_icF (u := f82_997) (v := 2) rfl xnm0 xnm0 (xj_neF hc1044)) ?_
            have sg10451 : tkd B nn p_978 = 3 := by omega
            have sg10452 : B (tq B nn p_978) = 59 := by omega
            refine xg_t (xg_aload (va := (2, 82)) rfl rfl) ?_
            clear ht1029 ht1030 ht1031 ht1032 ht1033 ht1034 ht1035 ht1036 ht1037 hf1038 hf1039 hf1040 hf1041 hf1042 hmk1043
            obtain ⟨⟨ht1046, ht1047, ht1048, ht1049, ht1050, ht1051⟩, -⟩ := id (hT_892.fr (hF1022.1 82 (by decide)))
            have hk1052 := ((fld_eq (j := 10) (hF1022.1 82 (by decide))).trans k10_891)
            have hk1053 := ((fld_eq (j := 14) (hF1022.1 82 (by decide))).trans k14_886)
            refine xg_cVv mX12_advance (vs := []) (rest := []) (cn1 := 0) (sl1 := 0) rfl (mAdvX (hI1021) (hB.fr (fun j h4 h9 => (((((hj56.tr (K83.fr hF103 (by decide))).tr k8_721).tr (K83.fr hF872 (by decide))).tr k8_884).tr (K83.fr hF1022 (by decide))) j (by omega) (by omega) (by omega))) ht1046 ht1047 (by rw [ht1048]; exact tf_le ht1051)) rfl (hF1022.get (by decide) h82_1017) rfl rfl rfl rfl rfl rfl (fun w1054 hq1055 => ?_)
            obtain ⟨hI1056, hF1057, hx1058⟩ := hq1055
            obtain ⟨hz1059, hz1060, hz1061⟩ := hx1058
            rw [ht1048] at hz1059
            clear ht1046 ht1047 ht1048 ht1049 ht1050 ht1051
            obtain ⟨p_1062, hp1063⟩ : ∃ x, x = tf B nn p_978 := ⟨_, rfl⟩
            rw [← hp1063] at hz1059
            have k10_1064 := hz1060.trans hk1052
            have k14_1065 := hz1061.trans hk1053
            clear hz1060 hz1061 hk1052 hk1053
            have ln1066 : lnR B nn p0 = (true, p_1062) := by rw [hp1063]; exact ln1026.trans (lnS_y ⟨sg10451, sg10452⟩)
            refine xg_t (xg_goto) ?_
            refine xg_t (xg_blk (b := [(420, 1, 0, 0, 0, 0), (421, 3, 1, 12, 11, 17), (424, 1, 2, 1, 0, 0), (425, 1, 39, 0, 0, 0), (426, 1, 10, 0, 0, 0), (427, 1, 3, 1, 0, 0), (428, 1, 11, 0, 0, 0), (429, 1, 17, 0, 0, 0), (430, 1, 0, 0, 0, 0), (431, 1, 19, 0, 0, 0), (432, 3, 1, 12, 14, 212), (435, 1, 3, 1, 0, 0), (436, 1, 11, 0, 0, 0), (437, 3, 14, 12, 14, 212), (440, 1, 12, 0, 0, 0)]) rfl) ?_
            refine xoCh82 (hI1056 82 (by decide) (by decide) : cp82 (wget w1054 82)) (fun f82_1067 f82_1069 f82_1071 f82_1073 f82_1075 f82_1077 f82_1079 f82_1081 f82_1083 f82_1085 f82_1087 f82_1088 f82_1089 f82_1091 f82_1093 f82_1095 h82_1097 hb1068 hb1070 hb1072 hb1074 hb1076 hb1078 hb1080 hb1082 hb1084 hb1086 hb1090 hb1092 hb1094 hb1096 hb1098 => ?_)
            have hf1099 : fld w1054 82 2 = f82_1067 := fld_of h82_1097
            have hf1100 : fld w1054 82 3 = f82_1069 := fld_of h82_1097
            have hf1101 : fld w1054 82 4 = f82_1071 := fld_of h82_1097
            have hf1102 : fld w1054 82 5 = f82_1073 := fld_of h82_1097
            have hf1103 : fld w1054 82 6 = f82_1075 := fld_of h82_1097
            have hf1104 : fld w1054 82 7 = f82_1077 := fld_of h82_1097
            have hf1105 : fld w1054 82 8 = f82_1079 := fld_of h82_1097
            have hf1106 : fld w1054 82 9 = f82_1081 := fld_of h82_1097
            have hf1107 : fld w1054 82 10 = f82_1083 := fld_of h82_1097
            have hf1108 : fld w1054 82 14 = f82_1085 := fld_of h82_1097
            have hk1109 := k14_1065
            have hl1110 : f82_1085 ≤ 500 := by omega
            have hk1111 := hz1059
            have hk1112 := (hF_985.k83 (rwv_eq ((hF1057.1 83 (by decide)).trans (hF1022.1 83 (by decide)))) (rwv_eq ((hF1057.1 83 (by decide)).trans (hF1022.1 83 (by decide)))))
            have hk1113 := k10_1064
            refine xg_t (xg_aload (va := (2, 82)) rfl rfl) ?_
            refine xg_t (xg_getf (va := (2, 85)) h82_1097 rfl) ?_
            refine xg_t (xg_iload (va := (0, 4)) rfl rfl) ?_
            refine xg_t (xg_dup2 rfl) ?_
            refine xoI (hI1056 85 (by decide) (by decide) : cpI 7 52 4294967295 (wget w1054 85)) (fun g85_1114 h85_1115 hb1116 => ?_)
            refine xg_ialdB (n := 4) (B := 4294967295) h85_1115 (hb1116) xnm0 (by omega) (fun u1117 hu1118 he1119 => ?_)
            have hK1120 : u1117 = u42 := (((rwv_of h85_1115 (by decide)).trans he1119).symm.trans (rwv_eq ((hF1057.1 85 (by decide)).trans ((hF1022.1 85 (by decide)).trans ((hF880.1 85 (by decide)).trans ((hF872.1 85 (by decide)).trans ((hF717.1 85 (by decide)).trans ((hF103.1 85 (by decide)).trans hj57)))))))).trans ((hm 4 (by decide)).trans hK45.symm)
            have hl1121 : u1117 ≤ 500 := by omega
            refine xg_t (xg_const) ?_
            refine xg_t (xg_iadd (u := u1117) (v := 1) (z := u1117 + 1) xnm0 xnm0 (by omega)) ?_
            refine xg_iastK (n := 4) (u := u1117 + 1) h85_1115 xnm0 xnm0 rfl (by omega) (fun w1122 hr1123 hb1124 => ?_)
            refine xg_t (xg_aload (va := (2, 82)) rfl rfl) ?_
            refine xg_t (xg_dup rfl) ?_
            refine xg_t (xg_getf (va := (0, f82_1085)) (hb1124.get (by decide) h82_1097) rfl) ?_
            have hn1125 := id hb1086
            unfold xHid at hn1125
            refine xg_t (xg_const) ?_
            refine xg_t (xg_iadd (u := f82_1085) (v := 1) (z := f82_1085 + 1) xnm0 xnm0 (by omega)) ?_
            refine xg_putI (fl1 := [(2, 83), (2, 84), (0, f82_1067), (0, f82_1069), (0, f82_1071), (0, f82_1073), (0, f82_1075), (0, f82_1077), (0, f82_1079), (0, f82_1081), (0, f82_1083), (2, 85), (2, 86), (2, 87), (0, f82_1085 + 1), (2, 88), (2, 89), (2, 90), (2, 91), (2, 92), (2, 93), (2, 94), (4, f82_1087), (4, f82_1088), (0, f82_1089), (2, 95), (2, 96), (2, 97), (2, 98), (2, 99), (2, 100), (2, 101), (2, 102), (0, f82_1091), (2, 103), (2, 104), (2, 105), (2, 106), (2, 107), (2, 108), (2, 109), (0, f82_1093), (0, f82_1095), (2, 110), (2, 111), (2, 112), (2, 113)]) (hb1124.get (by decide) h82_1097) rfl rfl rfl (fun w1126 hk1127 hb1128 => ?_)
            have hf1129 : fld w1126 82 2 = f82_1067 := fld_of hk1127
            have hf1130 : fld w1126 82 3 = f82_1069 := fld_of hk1127
            have hf1131 : fld w1126 82 4 = f82_1071 := fld_of hk1127
            have hf1132 : fld w1126 82 5 = f82_1073 := fld_of hk1127
            have hf1133 : fld w1126 82 6 = f82_1075 := fld_of hk1127
            have hf1134 : fld w1126 82 7 = f82_1077 := fld_of hk1127
            have hf1135 : fld w1126 82 8 = f82_1079 := fld_of hk1127
            have hf1136 : fld w1126 82 9 = f82_1081 := fld_of hk1127
            have hf1137 : fld w1126 82 10 = f82_1083 := fld_of hk1127
            have hf1138 : fld w1126 82 14 = f82_1085 + 1 := fld_of hk1127
            have he1139 : lnP B nn (k + 1) = p_1062 := by
              show (lnR B nn (lnP B nn k)).2 = _
              rw [← hp0, ln1066]
            have hT1140 : TKM 0 B nn w1126 p_1062 := hk1111.w14 (by omega) (by omega) (by omega) (by omega) (by omega) (by omega) (by omega) (by omega)
            have hF1141 : FP w1126 (mfl B nn k 4 (flA B nn k)) := hk1112.k83 (rwv_eq ((hb1128.1 83 (by decide)).trans (hb1124.1 83 (by decide)))) (rwv_eq ((hb1128.1 83 (by decide)).trans (hb1124.1 83 (by decide))))
            have hg1143 := (tf_gt (B := B) (n := nn) (p := p_108) (by omega)).2
            have hg1144 := tq_ge (B := B) (n := nn) (p := p_108)
            have hg1145 := (tf_gt (B := B) (n := nn) (p := p_828) (by omega)).2
            have hg1146 := tq_ge (B := B) (n := nn) (p := p_828)
            have hg1147 := (tf_gt (B := B) (n := nn) (p := p0) (by rw [slt_kd (by rw [hp0, hs]; decide)]; decide)).2
            have hg1148 := (tf_gt (B := B) (n := nn) (p := p_978) (by omega)).2
            have hg1149 := tq_ge (B := B) (n := nn) (p := p_978)
            have hg1150 := tq_ge (B := B) (n := nn) (p := p_1062)
            have hp1x := hp109
            have hO1142 : ORD B nn k 4 (tq B nn (lnP B nn (k + 1))) := by
              unfold ORD
              rw [he1139, vp831, vp981, ← hp0]
              exact ⟨by omega, by omega, fun z => absurd z (by decide), by omega, fun z => absurd z (by decide)⟩
            have hM1151 : rwv w1126 85 4 = lnC B nn 4 k + 1 := (rwv_of (hr1123.but hb1128 (by decide)) (by decide)).trans ((if_pos rfl).trans (by omega))
            have hM1152 : ∀ s, s < 7 → s ≠ 4 → rwv w1126 85 s = rwv w 85 s := fun s hs hn => (rwv_of (hr1123.but hb1128 (by decide)) hs).trans ((if_neg hn).trans ((rwv_of h85_1115 hs).symm.trans (rwv_eq ((hF1057.1 85 (by decide)).trans ((hF1022.1 85 (by decide)).trans ((hF880.1 85 (by decide)).trans ((hF872.1 85 (by decide)).trans ((hF717.1 85 (by decide)).trans ((hF103.1 85 (by decide)).trans hj57)))))))))
            have hr1153 : lnC B nn 4 k < 20 → ∀ t, t < 2 → XM w1126 4 (lnC B nn 4 k) t = vln B nn (lnP B nn k) t := fun hlt t ht => by
              rcases (show t = 0 ∨ t = 1 by omega) with rfl | rfl
              · show rwv w1126 86 (100 + 2 * lnC B nn 4 k + 0) = _
                rw [show 100 + 2 * lnC B nn 4 k + 0 = (100 + (2 * u42)) + 0 by omega]
                exact ((rwv_eq (hb1128.1 86 (by decide))).trans ((rwv_eq (hb1124.1 86 (by decide))).trans ((rwv_eq (hF1057.1 86 (by decide))).trans ((hp1025 ((100 + (2 * u42)) + 0) (by omega) (by omega)).trans (rwv_eq (hF880.1 86 (by decide))))))).trans ((hp874 (by omega)).trans (hv726.trans vl832.symm))
              · show rwv w1126 86 (100 + 2 * lnC B nn 4 k + 1) = _
                rw [show 100 + 2 * lnC B nn 4 k + 1 = (100 + (2 * u42)) + 1 by omega]
                exact ((rwv_eq (hb1128.1 86 (by decide))).trans ((rwv_eq (hb1124.1 86 (by decide))).trans (rwv_eq (hF1057.1 86 (by decide))))).trans ((hp1024 (by omega)).trans (hv889.trans vl982.symm))
            have ho1154 : ∀ j, (j < 100 + 2 * lnC B nn 4 k ∨ 100 + 2 * (lnC B nn 4 k + 1) ≤ j) → j < 140 → rwv w1126 86 j = rwv w 86 j := fun j hj hl => ((rwv_eq (hb1128.1 86 (by decide))).trans ((rwv_eq (hb1124.1 86 (by decide))).trans ((rwv_eq (hF1057.1 86 (by decide))).trans ((hp1025 j (by omega) hl).trans ((rwv_eq (hF880.1 86 (by decide))).trans ((hp875 j (by omega) hl).trans ((rwv_eq (hF717.1 86 (by decide))).trans ((rwv_eq (hF103.1 86 (by decide))).trans (rwv_eq hj58)))))))))
            have ha1155 : (lnC B nn 4 k < 20 → rwv w1126 87 (lnC B nn 4 k) = tq B nn (lnP B nn k)) ∧ ∀ j, j ≠ lnC B nn 4 k → j < 20 → rwv w1126 87 j = rwv w 87 j := ⟨fun hlt => absurd hlt (by omega), fun j _ _ => rwv_eq ((hb1128.1 87 (by decide)).trans ((hb1124.1 87 (by decide)).trans ((hF1057.1 87 (by decide)).trans ((hF1022.1 87 (by decide)).trans ((hF880.1 87 (by decide)).trans ((hF872.1 87 (by decide)).trans ((hF717.1 87 (by decide)).trans ((hF103.1 87 (by decide)).trans hj59))))))))⟩
            have hM1156 := MSTok4 hS hs (by have z := hk1113; omega) (by omega) hF1141 hO1142 hM1151 hM1152 hr1153 ho1154 ha1155
            exact xg_e ⟨w1126, ⟨rfl, rfl⟩, xMnv.up (S := [85, 82]) hI1056 ((xFr.of (S := [85, 82]) hb1124 (by decide)).tr (xFr.of (S := [85, 82]) hb1128 (by decide))) (List.forall_mem_cons.mpr ⟨(show cpI 7 52 4294967295 (wget w1126 85) from ⟨_, (hr1123.but hb1128 (by decide)), xrb (by omega) (hb1116)⟩), List.forall_mem_cons.mpr ⟨(show cp82 (wget w1126 82) from ⟨f82_1067, f82_1069, f82_1071, f82_1073, f82_1075, f82_1077, f82_1079, f82_1081, f82_1083, f82_1085 + 1, f82_1087, f82_1088, f82_1089, f82_1091, f82_1093, f82_1095, hk1127, by omega, hb1070, by omega, by omega, hb1076, by omega, hb1080, hb1082, by omega, by omega, hb1090, hb1092, hb1094, hb1096, by omega⟩), fun _ h => absurd h List.not_mem_nil⟩⟩), (((((((hF50.tr (hF103.up (by decide))).tr (hF717.up (by decide))).tr (hF872.up (by decide))).tr (hF880.up (by decide))).tr (hF1022.up (by decide))).tr (hF1057.up (by decide))).tr ((xFr.of (S := [82, 83, 85, 86, 87]) hb1124 (by decide)).tr (xFr.of (S := [82, 83, 85, 86, 87]) hb1128 (by decide)))), ⟨Or.inr ⟨by rw [ln1066], by rw [he1139]; exact hT1140, hM1156⟩, ((((((((hj56.tr (K83.fr hF103 (by decide))).tr k8_721).tr (K83.fr hF872 (by decide))).tr k8_884).tr (K83.fr hF1022 (by decide))).tr (K83.fr hF1057 (by decide))).tr (K83.but hb1124 (by decide))).tr (K83.but hb1128 (by decide))), by omega⟩⟩
          · refine xg_t (xg_icT (u := f82_997) (v := 2) rfl xnm0 xnm0 (xj_neT hc1044)) ?_
            refine xg_t (xg_blk (b := [(416, 1, 0, 0, 0, 0), (417, 3, 13, 140, 96, 183)]) rfl) ?_
            have lf1157n : ¬ (tkd B nn p_978 = 3 ∧ B (tq B nn p_978) = 59) := by omega
            have lf1157 : lnR B nn p0 = (false, p_978) := ln1026.trans (lnS_n lf1157n)
            refine xg_t (xg_aload (va := (2, 82)) rfl rfl) ?_
            have hk1158 := ((fld_eq (j := 14) (hF1022.1 82 (by decide))).trans k14_886)
            have hk1159 := (hT_892.fr (hF1022.1 82 (by decide))).1.2.2.2.1
            clear ht1029 ht1030 ht1031 ht1032 ht1033 ht1034 ht1035 ht1036 ht1037 hf1038 hf1039 hf1040 hf1041 hf1042 hmk1043
            refine xg_cVv mX12_ends (vs := []) (rest := []) (cn1 := 0) (sl1 := 0) rfl (mEndsX (hI1021) ((fld_eq (j := 10) (hF1022.1 82 (by decide))).trans k10_891)) rfl (hF1022.get (by decide) h82_1017) rfl rfl rfl rfl rfl rfl (fun w1160 hq1161 => ?_)
            obtain ⟨hI1162, hF1163, hx1164⟩ := hq1161
            obtain ⟨hv1165, hv1166, hv1167, hv1168, hv1169⟩ := hx1164
            have hW1170 : WRG w1160 (tq B nn p_978) := ⟨hv1165, hv1166, hv1167.trans hk1159⟩
            have k14_1171 := hv1168.trans hk1158
            refine xg_t (xg_blk (b := [(420, 1, 0, 0, 0, 0), (421, 3, 1, 12, 11, 17), (424, 1, 2, 1, 0, 0), (425, 1, 39, 0, 0, 0), (426, 1, 10, 0, 0, 0), (427, 1, 3, 1, 0, 0), (428, 1, 11, 0, 0, 0), (429, 1, 17, 0, 0, 0), (430, 1, 0, 0, 0, 0), (431, 1, 19, 0, 0, 0), (432, 3, 1, 12, 14, 212), (435, 1, 3, 1, 0, 0), (436, 1, 11, 0, 0, 0), (437, 3, 14, 12, 14, 212), (440, 1, 12, 0, 0, 0)]) rfl) ?_
            refine xoCh82 (hI1162 82 (by decide) (by decide) : cp82 (wget w1160 82)) (fun f82_1172 f82_1174 f82_1176 f82_1178 f82_1180 f82_1182 f82_1184 f82_1186 f82_1188 f82_1190 f82_1192 f82_1193 f82_1194 f82_1196 f82_1198 f82_1200 h82_1202 hb1173 hb1175 hb1177 hb1179 hb1181 hb1183 hb1185 hb1187 hb1189 hb1191 hb1195 hb1197 hb1199 hb1201 hb1203 => ?_)
            have hf1204 : fld w1160 82 2 = f82_1172 := fld_of h82_1202
            have hf1205 : fld w1160 82 3 = f82_1174 := fld_of h82_1202
            have hf1206 : fld w1160 82 4 = f82_1176 := fld_of h82_1202
            have hf1207 : fld w1160 82 5 = f82_1178 := fld_of h82_1202
            have hf1208 : fld w1160 82 6 = f82_1180 := fld_of h82_1202
            have hf1209 : fld w1160 82 7 = f82_1182 := fld_of h82_1202
            have hf1210 : fld w1160 82 8 = f82_1184 := fld_of h82_1202
            have hf1211 : fld w1160 82 9 = f82_1186 := fld_of h82_1202
            have hf1212 : fld w1160 82 10 = f82_1188 := fld_of h82_1202
            have hf1213 : fld w1160 82 14 = f82_1190 := fld_of h82_1202
            have hk1214 := k14_1171
            have hl1215 : f82_1190 ≤ 500 := by omega
            have hk1216 : WRG w1160 (tq B nn p_978) := hW1170
            refine xg_t (xg_aload (va := (2, 82)) rfl rfl) ?_
            refine xg_t (xg_getf (va := (2, 85)) h82_1202 rfl) ?_
            refine xg_t (xg_iload (va := (0, 4)) rfl rfl) ?_
            refine xg_t (xg_dup2 rfl) ?_
            refine xoI (hI1162 85 (by decide) (by decide) : cpI 7 52 4294967295 (wget w1160 85)) (fun g85_1217 h85_1218 hb1219 => ?_)
            refine xg_ialdB (n := 4) (B := 4294967295) h85_1218 (hb1219) xnm0 (by omega) (fun u1220 hu1221 he1222 => ?_)
            have hK1223 : u1220 = u42 := (((rwv_of h85_1218 (by decide)).trans he1222).symm.trans (rwv_eq ((hF1163.1 85 (by decide)).trans ((hF1022.1 85 (by decide)).trans ((hF880.1 85 (by decide)).trans ((hF872.1 85 (by decide)).trans ((hF717.1 85 (by decide)).trans ((hF103.1 85 (by decide)).trans hj57)))))))).trans ((hm 4 (by decide)).trans hK45.symm)
            have hl1224 : u1220 ≤ 500 := by omega
            refine xg_t (xg_const) ?_
            refine xg_t (xg_iadd (u := u1220) (v := 1) (z := u1220 + 1) xnm0 xnm0 (by omega)) ?_
            refine xg_iastK (n := 4) (u := u1220 + 1) h85_1218 xnm0 xnm0 rfl (by omega) (fun w1225 hr1226 hb1227 => ?_)
            refine xg_t (xg_aload (va := (2, 82)) rfl rfl) ?_
            refine xg_t (xg_dup rfl) ?_
            refine xg_t (xg_getf (va := (0, f82_1190)) (hb1227.get (by decide) h82_1202) rfl) ?_
            have hn1228 := id hb1191
            unfold xHid at hn1228
            refine xg_t (xg_const) ?_
            refine xg_t (xg_iadd (u := f82_1190) (v := 1) (z := f82_1190 + 1) xnm0 xnm0 (by omega)) ?_
            refine xg_putI (fl1 := [(2, 83), (2, 84), (0, f82_1172), (0, f82_1174), (0, f82_1176), (0, f82_1178), (0, f82_1180), (0, f82_1182), (0, f82_1184), (0, f82_1186), (0, f82_1188), (2, 85), (2, 86), (2, 87), (0, f82_1190 + 1), (2, 88), (2, 89), (2, 90), (2, 91), (2, 92), (2, 93), (2, 94), (4, f82_1192), (4, f82_1193), (0, f82_1194), (2, 95), (2, 96), (2, 97), (2, 98), (2, 99), (2, 100), (2, 101), (2, 102), (0, f82_1196), (2, 103), (2, 104), (2, 105), (2, 106), (2, 107), (2, 108), (2, 109), (0, f82_1198), (0, f82_1200), (2, 110), (2, 111), (2, 112), (2, 113)]) (hb1227.get (by decide) h82_1202) rfl rfl rfl (fun w1229 hk1230 hb1231 => ?_)
            have hf1232 : fld w1229 82 2 = f82_1172 := fld_of hk1230
            have hf1233 : fld w1229 82 3 = f82_1174 := fld_of hk1230
            have hf1234 : fld w1229 82 4 = f82_1176 := fld_of hk1230
            have hf1235 : fld w1229 82 5 = f82_1178 := fld_of hk1230
            have hf1236 : fld w1229 82 6 = f82_1180 := fld_of hk1230
            have hf1237 : fld w1229 82 7 = f82_1182 := fld_of hk1230
            have hf1238 : fld w1229 82 8 = f82_1184 := fld_of hk1230
            have hf1239 : fld w1229 82 9 = f82_1186 := fld_of hk1230
            have hf1240 : fld w1229 82 10 = f82_1188 := fld_of hk1230
            have hf1241 : fld w1229 82 14 = f82_1190 + 1 := fld_of hk1230
            exact xg_e ⟨w1229, ⟨rfl, rfl⟩, xMnv.up (S := [85, 82]) hI1162 ((xFr.of (S := [85, 82]) hb1227 (by decide)).tr (xFr.of (S := [85, 82]) hb1231 (by decide))) (List.forall_mem_cons.mpr ⟨(show cpI 7 52 4294967295 (wget w1229 85) from ⟨_, (hr1226.but hb1231 (by decide)), xrb (by omega) (hb1219)⟩), List.forall_mem_cons.mpr ⟨(show cp82 (wget w1229 82) from ⟨f82_1172, f82_1174, f82_1176, f82_1178, f82_1180, f82_1182, f82_1184, f82_1186, f82_1188, f82_1190 + 1, f82_1192, f82_1193, f82_1194, f82_1196, f82_1198, f82_1200, hk1230, by omega, hb1175, by omega, by omega, hb1181, by omega, hb1185, hb1187, by omega, by omega, hb1195, hb1197, hb1199, hb1201, by omega⟩), fun _ h => absurd h List.not_mem_nil⟩⟩), (((((((hF50.tr (hF103.up (by decide))).tr (hF717.up (by decide))).tr (hF872.up (by decide))).tr (hF880.up (by decide))).tr (hF1022.up (by decide))).tr (hF1163.up (by decide))).tr ((xFr.of (S := [82, 83, 85, 86, 87]) hb1227 (by decide)).tr (xFr.of (S := [82, 83, 85, 86, 87]) hb1231 (by decide)))), ⟨Or.inl ⟨p_978, lf1157, ⟨by have z := hk1216.1; omega, (rwv_eq (j := 16) ((hb1231.1 83 (by decide)).trans (hb1227.1 83 (by decide)))).trans hk1216.2.1, (rwv_eq (j := 17) ((hb1231.1 83 (by decide)).trans (hb1227.1 83 (by decide)))).trans hk1216.2.2⟩⟩, ((((((((hj56.tr (K83.fr hF103 (by decide))).tr k8_721).tr (K83.fr hF872 (by decide))).tr k8_884).tr (K83.fr hF1022 (by decide))).tr hv1169).tr (K83.but hb1227 (by decide))).tr (K83.but hb1231 (by decide))), by omega⟩⟩
  refine xg_t (xg_iload (va := (0, u42)) rfl rfl) ?_
  refine xg_t (xg_iload (va := (0, 4)) rfl rfl) ?_
  refine xg_t (xg_cSr mX12_mostOf (vs := [(0, 4)]) (rest := [(0, u42)]) (rs := [(0, 20), (0, u42)]) (cn1 := 0) (sl1 := 0) rfl (mMostR4) rfl rfl rfl rfl rfl rfl rfl rfl) ?_
  by_cases hc1242 : u42 < 20
  · refine xg_t (xg_icT (u := u42) (v := 20) rfl xnm0 xnm0 (xj_ltT hc1242 (by omega))) ?_
    refine xg_t (xg_drop (l1 := [(0, (2, 82)), (1, (0, 4)), (2, (0, at_)), (3, (0, u42))]) (List.forall_mem_cons.mpr ⟨List.mem_cons_of_mem _ (List.mem_cons_of_mem _ (List.mem_cons_of_mem _ (List.mem_cons_self))), List.forall_mem_cons.mpr ⟨List.mem_cons_of_mem _ (List.mem_cons_of_mem _ (List.mem_cons_self)), List.forall_mem_cons.mpr ⟨List.mem_cons_of_mem _ (List.mem_cons_self), List.forall_mem_cons.mpr ⟨List.mem_cons_self, fun _ h => absurd h List.not_mem_nil⟩⟩⟩⟩)) ?_
    have he1243 : flA B nn k = mf1 B nn k 4 (flA B nn k) := by unfold mf1; rw [decide_eq_false (show ¬ lim 4 ≤ lnC B nn 4 k from (show ¬ 20 ≤ lnC B nn 4 k by omega))]; rfl
    exact jn47 w (hI) (xFr.rf) (⟨by rw [← he1243]; exact zF, z10, hT, z14, K83.rf, rfl, rfl, rfl⟩)
  · refine xg_t (xg_icF (u := u42) (v := 20) rfl xnm0 xnm0 (xj_ltF (by omega) (by omega))) ?_
    refine xg_t (xg_aload (va := (2, 82)) rfl rfl) ?_
    refine xg_t (xg_const) ?_
    refine xg_t (xg_iload (va := (0, at_)) rfl rfl) ?_
    refine xg_cVv mX12_also (vs := [(0, 3), (0, at_)]) (rest := []) (cn1 := 0) (sl1 := 0) rfl (mAlsoX (hI) (by omega) (by omega) (by omega) z10 zF) rfl h82_31 rfl rfl rfl rfl rfl rfl (fun w1244 hq1245 => ?_)
    obtain ⟨hI1246, hF1247, hx1248⟩ := hq1245
    obtain ⟨hv1249, hv1250⟩ := hx1248
    refine xg_t (xg_drop (l1 := [(0, (2, 82)), (1, (0, 4)), (2, (0, at_)), (3, (0, u42))]) (List.forall_mem_cons.mpr ⟨List.mem_cons_of_mem _ (List.mem_cons_of_mem _ (List.mem_cons_of_mem _ (List.mem_cons_self))), List.forall_mem_cons.mpr ⟨List.mem_cons_of_mem _ (List.mem_cons_of_mem _ (List.mem_cons_self)), List.forall_mem_cons.mpr ⟨List.mem_cons_of_mem _ (List.mem_cons_self), List.forall_mem_cons.mpr ⟨List.mem_cons_self, fun _ h => absurd h List.not_mem_nil⟩⟩⟩⟩)) ?_
    have he1251 : alo (flA B nn k) 3 at_ = mf1 B nn k 4 (flA B nn k) := by unfold mf1; rw [decide_eq_true (show lim 4 ≤ lnC B nn 4 k from (show 20 ≤ lnC B nn 4 k by omega)), hat, hp0]; rfl
    exact jn47 w1244 (hI1246) ((hF1247.up (by decide))) (⟨by rw [← he1251]; exact hv1249, ((fld_eq (j := 10) (hF1247.1 82 (by decide))).trans z10), (hT.fr (hF1247.1 82 (by decide))), ((fld_eq (j := 14) (hF1247.1 82 (by decide))).trans z14), hv1250, (hF1247.1 85 (by decide)), (hF1247.1 86 (by decide)), (hF1247.1 87 (by decide))⟩)
set_option maxHeartbeats 60000000 in
theorem mALnX5 {B : Nat → Nat} {nn k p0 : Nat} {at_ : Nat} (hI : xMnv w) (hB : bsm w B nn) (hp0 : p0 = lnP B nn k) (hT : TKM 0 B nn w p0) (hS : MST B nn w k) (hk5 : k ≤ 500) (hs : slt B nn (lnP B nn k) = 5) (hat : at_ = tq B nn p0) : xTo (d + 7) mX12_aLine (43, [], [(2, (0, at_)), (1, (0, 5)), (0, (2, 82))], [], (w, bd, fc, 0, 0, rr)) (fun φ => ∃ w', xEnd 0 [] (w', bd, fc, 0, 0, rr) φ ∧ xMnv w' ∧ xFr [82, 83, 85, 86, 87] w w' ∧ (((∃ q, lnR B nn p0 = (false, q) ∧ WRG w' (tq B nn q)) ∨ ((lnR B nn p0).1 = true ∧ TKM 0 B nn w' (lnP B nn (k + 1)) ∧ MST B nn w' (k + 1))) ∧ K83 w w' ∧ fld w 82 14 ≤ fld w' 82 14)) := by
  refine xoCh82 (hI 82 (by decide) (by decide) : cp82 (wget w 82)) (fun f82_1 f82_3 f82_5 f82_7 f82_9 f82_11 f82_13 f82_15 f82_17 f82_19 f82_21 f82_22 f82_23 f82_25 f82_27 f82_29 h82_31 hb2 hb4 hb6 hb8 hb10 hb12 hb14 hb16 hb18 hb20 hb24 hb26 hb28 hb30 hb32 => ?_)
  refine xoI (hI 85 (by decide) (by decide) : cpI 7 52 4294967295 (wget w 85)) (fun g85_33 h85_34 hb35 => ?_)
  refine xoI (hI 86 (by decide) (by decide) : cpI 140 53 4294967295 (wget w 86)) (fun g86_36 h86_37 hb38 => ?_)
  refine xoI (hI 87 (by decide) (by decide) : cpI 20 54 4294967295 (wget w 87)) (fun g87_39 h87_40 hb41 => ?_)
  obtain ⟨⟨z10, z14, zF, zp⟩, hm, hR⟩ := id hS
  have hkc := lnC_k (B := B) (n := nn) (s := 5) (k := k)
  have hq0 : at_ ≤ 500 := by
    have z1 := tf_gt (B := B) (n := nn) (p := p0) (by rw [slt_kd (by rw [hp0, hs]; decide)]; decide)
    have z2 := hB.1
    omega
  refine xg_t (xg_blk (b := [(43, 1, 0, 0, 0, 0), (44, 3, 1, 12, 11, 17), (47, 1, 2, 1, 0, 0), (48, 1, 10, 0, 0, 0), (49, 1, 15, 3, 0, 0), (50, 1, 2, 3, 0, 0), (51, 1, 2, 1, 0, 0), (52, 3, 13, 194, 98, 193), (55, 3, 6, 64, 2, 0), (58, 1, 0, 0, 0, 0), (59, 1, 3, 3, 0, 0), (60, 1, 2, 2, 0, 0), (61, 3, 13, 115, 96, 186)]) rfl) ?_
  refine xg_t (xg_aload (va := (2, 82)) rfl rfl) ?_
  refine xg_t (xg_getf (va := (2, 85)) h82_31 rfl) ?_
  refine xg_t (xg_iload (va := (0, 5)) rfl rfl) ?_
  refine xg_ialdB (n := 5) (B := 4294967295) h85_34 (hb35) xnm0 (by omega) (fun u42 hu43 he44 => ?_)
  have hK45 : u42 = lnC B nn 5 k := (((rwv_of h85_34 (by decide)).trans he44).symm).trans (hm 5 (by decide))
  have hl46 : u42 ≤ 500 := by omega
  refine xg_t (xg_istore (l1 := [(2, (0, at_)), (1, (0, 5)), (0, (2, 82))]) rfl rfl rfl) ?_
  have jn47 : ∀ (w48 : List (List xE)), xMnv w48 → xFr [82, 83, 85, 86, 87] w w48 → (FP w48 (mf1 B nn k 5 (flA B nn k)) ∧ fld w48 82 10 = 0 ∧ TKM 0 B nn w48 p0 ∧ fld w48 82 14 = k ∧ K83 w w48 ∧ wget w48 85 = wget w 85 ∧ wget w48 86 = wget w 86 ∧ wget w48 87 = wget w 87) → xTo (d + 7) mX12_aLine (64, [], [(0, (2, 82)), (1, (0, 5)), (2, (0, at_)), (3, (0, u42))], [], (w48, bd, fc, 0, 0, rr)) (fun φ => ∃ w', xEnd 0 [] (w', bd, fc, 0, 0, rr) φ ∧ xMnv w' ∧ xFr [82, 83, 85, 86, 87] w w' ∧ (((∃ q, lnR B nn p0 = (false, q) ∧ WRG w' (tq B nn q)) ∨ ((lnR B nn p0).1 = true ∧ TKM 0 B nn w' (lnP B nn (k + 1)) ∧ MST B nn w' (k + 1))) ∧ K83 w w' ∧ fld w 82 14 ≤ fld w' 82 14)) := by
    intro w48 hI49 hF50 he51
    obtain ⟨hj52, hj53, hj54, hj55, hj56, hj57, hj58, hj59⟩ := he51
    refine xg_t (xg_blk (b := [(64, 1, 0, 0, 0, 0), (65, 3, 13, 110, 96, 190), (68, 1, 2, 1, 0, 0), (69, 39, 33, 362, 0, 9)]) rfl) ?_
    refine xg_t (xg_aload (va := (2, 82)) rfl rfl) ?_
    obtain ⟨⟨ht60, ht61, ht62, ht63, ht64, ht65⟩, -⟩ := id hj54
    have hk66 := hj53
    have hk67 := hj55
    refine xoCh82 (hI49 82 (by decide) (by decide) : cp82 (wget w48 82)) (fun f82_68 f82_70 f82_72 f82_74 f82_76 f82_78 f82_80 f82_82 f82_84 f82_86 f82_88 f82_89 f82_90 f82_92 f82_94 f82_96 h82_98 hb69 hb71 hb73 hb75 hb77 hb79 hb81 hb83 hb85 hb87 hb91 hb93 hb95 hb97 hb99 => ?_)
    refine xg_cVv mX12_advance (vs := []) (rest := []) (cn1 := 0) (sl1 := 0) rfl (mAdvX (hI49) (hB.fr (fun j h4 h9 => hj56 j (by omega) (by omega) (by omega))) ht60 ht61 (by rw [ht62]; exact tf_le ht65)) rfl h82_98 rfl rfl rfl rfl rfl rfl (fun w100 hq101 => ?_)
    obtain ⟨hI102, hF103, hx104⟩ := hq101
    obtain ⟨hz105, hz106, hz107⟩ := hx104
    rw [ht62] at hz105
    clear ht60 ht61 ht62 ht63 ht64 ht65
    obtain ⟨p_108, hp109⟩ : ∃ x, x = tf B nn p0 := ⟨_, rfl⟩
    rw [← hp109] at hz105
    have k10_110 := hz106.trans hk66
    have k14_111 := hz107.trans hk67
    clear hz106 hz107 hk66 hk67
    have ln112 : lnR B nn p0 = lnN B nn 5 2 p_108 := by rw [hp109]; exact lnR_go (by rw [hp0]; exact hs) (by decide)
    refine xg_t (xg_iload (va := (0, 5)) rfl rfl) ?_
    refine xg_t (xg_swt (ks := [(0, 108), (1, 116), (2, 180), (3, 221), (4, 273), (5, 326)]) (u := 5) (z := 326) rfl rfl rfl xnm0 (xsw_n (by omega) (xsw_n (by omega) (xsw_n (by omega) (xsw_n (by omega) (xsw_n (by omega) (xsw_y rfl))))))) ?_
    refine xg_t (xg_blk (b := [(326, 1, 3, 0, 0, 0), (327, 2, 15, 4, 0, 0)]) rfl) ?_
    refine xg_t (xg_const) ?_
    refine xg_t (xg_istore (l1 := [(0, (2, 82)), (1, (0, 5)), (2, (0, at_)), (3, (0, u42))]) rfl rfl rfl) ?_
    refine xg_t (xg_blk (b := [(329, 2, 2, 4, 0, 0), (331, 1, 3, 2, 0, 0), (332, 3, 6, 359, 3, 0), (335, 1, 0, 0, 0, 0), (336, 1, 2, 1, 0, 0), (337, 1, 2, 3, 0, 0), (338, 2, 4, 7, 0, 0), (340, 2, 2, 4, 0, 0), (342, 1, 11, 0, 0, 0), (343, 1, 0, 0, 0, 0), (344, 1, 3, 1, 0, 0), (345, 2, 4, 10, 0, 0), (347, 3, 13, 199, 96, 196), (350, 3, 13, 211, 96, 200), (353, 3, 9, 4, 1, 0), (356, 3, 8, 329, 0, 0)]) rfl) ?_
    refine xg_t (xg_iload (va := (0, 0)) rfl rfl) ?_
    refine xg_t (xg_const) ?_
    refine xg_t (xg_icF (u := 0) (v := 2) rfl xnm0 xnm0 (by decide)) ?_
    refine xg_t (xg_aload (va := (2, 82)) rfl rfl) ?_
    refine xg_t (xg_iload (va := (0, 5)) rfl rfl) ?_
    refine xg_t (xg_iload (va := (0, u42)) rfl rfl) ?_
    refine xg_t (xg_bip) ?_
    refine xg_t (xg_iload (va := (0, 0)) rfl rfl) ?_
    refine xg_t (xg_iadd (u := 7) (v := 0) (z := 7) xnm0 xnm0 (by decide)) ?_
    refine xg_t (xg_aload (va := (2, 82)) rfl rfl) ?_
    refine xg_t (xg_const) ?_
    refine xg_t (xg_bip) ?_
    have hk113 := k14_111
    refine xoCh82 (hI102 82 (by decide) (by decide) : cp82 (wget w100 82)) (fun f82_114 f82_116 f82_118 f82_120 f82_122 f82_124 f82_126 f82_128 f82_130 f82_132 f82_134 f82_135 f82_136 f82_138 f82_140 f82_142 h82_144 hb115 hb117 hb119 hb121 hb123 hb125 hb127 hb129 hb131 hb133 hb137 hb139 hb141 hb143 hb145 => ?_)
    refine xg_cVi mX12_numbered (vs := [(0, 1), (0, 10)]) (rest := [(0, 7), (0, u42), (0, 5), (2, 82)]) (cn1 := 0) (sl1 := 0) rfl (mNumX (ir := 0) (hI102) (by omega) (by omega) (hB.fr (fun j h4 h9 => (hj56.tr (K83.fr hF103 (by decide))) j (by omega) (by omega) (by omega))) k10_110 hz105 (hj52.k83 (rwv_eq (hF103.1 83 (by decide))) (rwv_eq (hF103.1 83 (by decide))))) rfl h82_144 rfl rfl rfl rfl rfl rfl (fun n150 w146 hq147 => ?_)
    obtain ⟨hn151, hI148, hF149⟩ := hq147
    obtain ⟨hx154, h14_152, k8_153⟩ := hn151
    have k14_155 := h14_152.trans hk113
    rcases hx154 with ⟨rfl, hk156, hW157⟩ | ⟨hv158, h9_159, hk156, k10_160, hT_161, hF_162⟩
    · have lf163 : lnR B nn p0 = (false, p_108) := ln112.trans (lnN_n (k := 1) hk156)
      refine xoCh82 (hI148 82 (by decide) (by decide) : cp82 (wget w146 82)) (fun f82_164 f82_166 f82_168 f82_170 f82_172 f82_174 f82_176 f82_178 f82_180 f82_182 f82_184 f82_185 f82_186 f82_188 f82_190 f82_192 h82_194 hb165 hb167 hb169 hb171 hb173 hb175 hb177 hb179 hb181 hb183 hb187 hb189 hb191 hb193 hb195 => ?_)
      refine xg_cVv mX12_puts (vs := [(0, 5), (0, u42), (0, 7), (0, 0)]) (rest := []) (cn1 := 0) (sl1 := 0) rfl (mPuts5 (hI148) (by omega) (by omega) (by omega) (fun _ => by omega)) rfl h82_194 rfl rfl rfl rfl rfl rfl (fun w196 hq197 => ?_)
      obtain ⟨hI198, hF199, hx200⟩ := hq197
      obtain ⟨hp201, hp202⟩ := hx200
      refine xg_t (xg_iinc (u := 0) (z := 1) (l1 := [(0, (2, 82)), (1, (0, 5)), (2, (0, at_)), (3, (0, u42))]) rfl rfl (by decide) rfl) ?_
      refine xg_t (xg_goto) ?_
      refine xg_t (xg_blk (b := [(329, 2, 2, 4, 0, 0), (331, 1, 3, 2, 0, 0), (332, 3, 6, 359, 3, 0), (335, 1, 0, 0, 0, 0), (336, 1, 2, 1, 0, 0), (337, 1, 2, 3, 0, 0), (338, 2, 4, 7, 0, 0), (340, 2, 2, 4, 0, 0), (342, 1, 11, 0, 0, 0), (343, 1, 0, 0, 0, 0), (344, 1, 3, 1, 0, 0), (345, 2, 4, 10, 0, 0), (347, 3, 13, 199, 96, 196), (350, 3, 13, 211, 96, 200), (353, 3, 9, 4, 1, 0), (356, 3, 8, 329, 0, 0)]) rfl) ?_
      refine xg_t (xg_iload (va := (0, 1)) rfl rfl) ?_
      refine xg_t (xg_const) ?_
      refine xg_t (xg_icF (u := 1) (v := 2) rfl xnm0 xnm0 (by decide)) ?_
      refine xg_t (xg_aload (va := (2, 82)) rfl rfl) ?_
      refine xg_t (xg_iload (va := (0, 5)) rfl rfl) ?_
      refine xg_t (xg_iload (va := (0, u42)) rfl rfl) ?_
      refine xg_t (xg_bip) ?_
      refine xg_t (xg_iload (va := (0, 1)) rfl rfl) ?_
      refine xg_t (xg_iadd (u := 7) (v := 1) (z := 8) xnm0 xnm0 (by decide)) ?_
      refine xg_t (xg_aload (va := (2, 82)) rfl rfl) ?_
      refine xg_t (xg_const) ?_
      refine xg_t (xg_bip) ?_
      refine xg_cVi mX12_numbered (vs := [(0, 1), (0, 10)]) (rest := [(0, 8), (0, u42), (0, 5), (2, 82)]) (cn1 := 0) (sl1 := 0) rfl (mNumW (hI198) (by omega) (by omega) (by have q := hW157.1; have q2 := fld_eq (j := 10) (hF199.1 82 (by decide)); omega)) rfl (hF199.get (by decide) h82_194) rfl rfl rfl rfl rfl rfl (fun n207 w203 hq204 => ?_)
      obtain ⟨hn208, hI205, hF206⟩ := hq204
      obtain rfl := hn208
      refine xg_cVv mX12_puts (vs := [(0, 5), (0, u42), (0, 8), (0, 0)]) (rest := []) (cn1 := 0) (sl1 := 0) rfl (mPuts5 (hI205) (by omega) (by omega) (by omega) (fun _ => by omega)) rfl (hF206.get (by decide) (hF199.get (by decide) h82_194)) rfl rfl rfl rfl rfl rfl (fun w209 hq210 => ?_)
      obtain ⟨hI211, hF212, hx213⟩ := hq210
      obtain ⟨hp214, hp215⟩ := hx213
      refine xg_t (xg_iinc (u := 1) (z := 2) (l1 := [(0, (2, 82)), (1, (0, 5)), (2, (0, at_)), (3, (0, u42))]) rfl rfl (by decide) rfl) ?_
      refine xg_t (xg_goto) ?_
      refine xg_t (xg_blk (b := [(329, 2, 2, 4, 0, 0), (331, 1, 3, 2, 0, 0), (332, 3, 6, 359, 3, 0), (335, 1, 0, 0, 0, 0), (336, 1, 2, 1, 0, 0), (337, 1, 2, 3, 0, 0), (338, 2, 4, 7, 0, 0), (340, 2, 2, 4, 0, 0), (342, 1, 11, 0, 0, 0), (343, 1, 0, 0, 0, 0), (344, 1, 3, 1, 0, 0), (345, 2, 4, 10, 0, 0), (347, 3, 13, 199, 96, 196), (350, 3, 13, 211, 96, 200), (353, 3, 9, 4, 1, 0), (356, 3, 8, 329, 0, 0)]) rfl) ?_
      refine xg_t (xg_iload (va := (0, 2)) rfl rfl) ?_
      refine xg_t (xg_const) ?_
      refine xg_t (xg_icT (u := 2) (v := 2) rfl xnm0 xnm0 (by decide)) ?_
      refine xg_t (xg_blk (b := [(359, 3, 8, 394, 0, 0)]) rfl) ?_
      refine xg_t (xg_goto) ?_
      refine xg_t (xg_blk (b := [(394, 1, 0, 0, 0, 0), (395, 3, 1, 12, 10, 180), (398, 3, 7, 416, 1, 0), (401, 1, 0, 0, 0, 0), (402, 3, 1, 12, 7, 151), (405, 1, 3, 2, 0, 0), (406, 3, 6, 416, 1, 0), (409, 1, 0, 0, 0, 0), (410, 3, 13, 110, 96, 190), (413, 3, 8, 420, 0, 0)]) rfl) ?_
      refine xg_t (xg_aload (va := (2, 82)) rfl rfl) ?_
      refine xg_t (xg_getf (va := (0, f82_180)) (hF212.get (by decide) (hF206.get (by decide) (hF199.get (by decide) h82_194))) rfl) ?_
      have hf216 : fld w209 82 10 = f82_180 := fld_of (hF212.get (by decide) (hF206.get (by decide) (hF199.get (by decide) h82_194)))
      have hk217 : fld w209 82 10 ≠ 0 := (by have q := hW157.1; have q2 := fld_eq (j := 10) ((hF212.1 82 (by decide)).trans ((hF206.1 82 (by decide)).trans (hF199.1 82 (by decide)))); omega)
      refine xg_t (xg_ifT (u := f82_180) rfl xnm0 (xj_neT (by omega))) ?_
      refine xg_t (xg_blk (b := [(416, 1, 0, 0, 0, 0), (417, 3, 13, 140, 96, 183)]) rfl) ?_
      refine xg_t (xg_aload (va := (2, 82)) rfl rfl) ?_
      refine xg_cVv mX12_ends (vs := []) (rest := []) (cn1 := 0) (sl1 := 0) rfl (mEndsW (hI211) (by have q := hW157.1; have q2 := fld_eq (j := 10) ((hF212.1 82 (by decide)).trans ((hF206.1 82 (by decide)).trans (hF199.1 82 (by decide)))); omega)) rfl (hF212.get (by decide) (hF206.get (by decide) (hF199.get (by decide) h82_194))) rfl rfl rfl rfl rfl rfl (fun w218 hq219 => ?_)
      obtain ⟨hI220, hF221⟩ := hq219
      refine xg_t (xg_blk (b := [(420, 1, 0, 0, 0, 0), (421, 3, 1, 12, 11, 17), (424, 1, 2, 1, 0, 0), (425, 1, 39, 0, 0, 0), (426, 1, 10, 0, 0, 0), (427, 1, 3, 1, 0, 0), (428, 1, 11, 0, 0, 0), (429, 1, 17, 0, 0, 0), (430, 1, 0, 0, 0, 0), (431, 1, 19, 0, 0, 0), (432, 3, 1, 12, 14, 212), (435, 1, 3, 1, 0, 0), (436, 1, 11, 0, 0, 0), (437, 3, 14, 12, 14, 212), (440, 1, 12, 0, 0, 0)]) rfl) ?_
      have hf222 : fld w218 82 2 = f82_164 := fld_of (hF221.get (by decide) (hF212.get (by decide) (hF206.get (by decide) (hF199.get (by decide) h82_194))))
      have hf223 : fld w218 82 3 = f82_166 := fld_of (hF221.get (by decide) (hF212.get (by decide) (hF206.get (by decide) (hF199.get (by decide) h82_194))))
      have hf224 : fld w218 82 4 = f82_168 := fld_of (hF221.get (by decide) (hF212.get (by decide) (hF206.get (by decide) (hF199.get (by decide) h82_194))))
      have hf225 : fld w218 82 5 = f82_170 := fld_of (hF221.get (by decide) (hF212.get (by decide) (hF206.get (by decide) (hF199.get (by decide) h82_194))))
      have hf226 : fld w218 82 6 = f82_172 := fld_of (hF221.get (by decide) (hF212.get (by decide) (hF206.get (by decide) (hF199.get (by decide) h82_194))))
      have hf227 : fld w218 82 7 = f82_174 := fld_of (hF221.get (by decide) (hF212.get (by decide) (hF206.get (by decide) (hF199.get (by decide) h82_194))))
      have hf228 : fld w218 82 8 = f82_176 := fld_of (hF221.get (by decide) (hF212.get (by decide) (hF206.get (by decide) (hF199.get (by decide) h82_194))))
      have hf229 : fld w218 82 9 = f82_178 := fld_of (hF221.get (by decide) (hF212.get (by decide) (hF206.get (by decide) (hF199.get (by decide) h82_194))))
      have hf230 : fld w218 82 10 = f82_180 := fld_of (hF221.get (by decide) (hF212.get (by decide) (hF206.get (by decide) (hF199.get (by decide) h82_194))))
      have hf231 : fld w218 82 14 = f82_182 := fld_of (hF221.get (by decide) (hF212.get (by decide) (hF206.get (by decide) (hF199.get (by decide) h82_194))))
      have hk232 := ((fld_eq (j := 14) ((hF221.1 82 (by decide)).trans ((hF212.1 82 (by decide)).trans ((hF206.1 82 (by decide)).trans (hF199.1 82 (by decide)))))).trans k14_155)
      have hl233 : f82_182 ≤ 500 := by omega
      have hk234 : WRG w218 (tq B nn p_108) := ⟨(fld_eq (j := 10) ((hF221.1 82 (by decide)).trans ((hF212.1 82 (by decide)).trans ((hF206.1 82 (by decide)).trans (hF199.1 82 (by decide)))))).trans hW157.1, (rwv_eq (j := 16) ((hF221.1 83 (by decide)).trans ((hF212.1 83 (by decide)).trans ((hF206.1 83 (by decide)).trans (hF199.1 83 (by decide)))))).trans hW157.2.1, (rwv_eq (j := 17) ((hF221.1 83 (by decide)).trans ((hF212.1 83 (by decide)).trans ((hF206.1 83 (by decide)).trans (hF199.1 83 (by decide)))))).trans hW157.2.2⟩
      refine xg_t (xg_aload (va := (2, 82)) rfl rfl) ?_
      refine xg_t (xg_getf (va := (2, 85)) (hF221.get (by decide) (hF212.get (by decide) (hF206.get (by decide) (hF199.get (by decide) h82_194)))) rfl) ?_
      refine xg_t (xg_iload (va := (0, 5)) rfl rfl) ?_
      refine xg_t (xg_dup2 rfl) ?_
      refine xoI (hI220 85 (by decide) (by decide) : cpI 7 52 4294967295 (wget w218 85)) (fun g85_235 h85_236 hb237 => ?_)
      refine xg_ialdB (n := 5) (B := 4294967295) h85_236 (hb237) xnm0 (by omega) (fun u238 hu239 he240 => ?_)
      have hK241 : u238 = u42 := (((rwv_of h85_236 (by decide)).trans he240).symm.trans (rwv_eq ((hF221.1 85 (by decide)).trans ((hF212.1 85 (by decide)).trans ((hF206.1 85 (by decide)).trans ((hF199.1 85 (by decide)).trans ((hF149.1 85 (by decide)).trans ((hF103.1 85 (by decide)).trans hj57)))))))).trans ((hm 5 (by decide)).trans hK45.symm)
      have hl242 : u238 ≤ 500 := by omega
      refine xg_t (xg_const) ?_
      refine xg_t (xg_iadd (u := u238) (v := 1) (z := u238 + 1) xnm0 xnm0 (by omega)) ?_
      refine xg_iastK (n := 5) (u := u238 + 1) h85_236 xnm0 xnm0 rfl (by omega) (fun w243 hr244 hb245 => ?_)
      refine xg_t (xg_aload (va := (2, 82)) rfl rfl) ?_
      refine xg_t (xg_dup rfl) ?_
      refine xg_t (xg_getf (va := (0, f82_182)) (hb245.get (by decide) (hF221.get (by decide) (hF212.get (by decide) (hF206.get (by decide) (hF199.get (by decide) h82_194))))) rfl) ?_
      have hn246 := id hb183
      unfold xHid at hn246
      refine xg_t (xg_const) ?_
      refine xg_t (xg_iadd (u := f82_182) (v := 1) (z := f82_182 + 1) xnm0 xnm0 (by omega)) ?_
      refine xg_putI (fl1 := [(2, 83), (2, 84), (0, f82_164), (0, f82_166), (0, f82_168), (0, f82_170), (0, f82_172), (0, f82_174), (0, f82_176), (0, f82_178), (0, f82_180), (2, 85), (2, 86), (2, 87), (0, f82_182 + 1), (2, 88), (2, 89), (2, 90), (2, 91), (2, 92), (2, 93), (2, 94), (4, f82_184), (4, f82_185), (0, f82_186), (2, 95), (2, 96), (2, 97), (2, 98), (2, 99), (2, 100), (2, 101), (2, 102), (0, f82_188), (2, 103), (2, 104), (2, 105), (2, 106), (2, 107), (2, 108), (2, 109), (0, f82_190), (0, f82_192), (2, 110), (2, 111), (2, 112), (2, 113)]) (hb245.get (by decide) (hF221.get (by decide) (hF212.get (by decide) (hF206.get (by decide) (hF199.get (by decide) h82_194))))) rfl rfl rfl (fun w247 hk248 hb249 => ?_)
      have hf250 : fld w247 82 2 = f82_164 := fld_of hk248
      have hf251 : fld w247 82 3 = f82_166 := fld_of hk248
      have hf252 : fld w247 82 4 = f82_168 := fld_of hk248
      have hf253 : fld w247 82 5 = f82_170 := fld_of hk248
      have hf254 : fld w247 82 6 = f82_172 := fld_of hk248
      have hf255 : fld w247 82 7 = f82_174 := fld_of hk248
      have hf256 : fld w247 82 8 = f82_176 := fld_of hk248
      have hf257 : fld w247 82 9 = f82_178 := fld_of hk248
      have hf258 : fld w247 82 10 = f82_180 := fld_of hk248
      have hf259 : fld w247 82 14 = f82_182 + 1 := fld_of hk248
      exact xg_e ⟨w247, ⟨rfl, rfl⟩, xMnv.up (S := [85, 82]) hI220 ((xFr.of (S := [85, 82]) hb245 (by decide)).tr (xFr.of (S := [85, 82]) hb249 (by decide))) (List.forall_mem_cons.mpr ⟨(show cpI 7 52 4294967295 (wget w247 85) from ⟨_, (hr244.but hb249 (by decide)), xrb (by omega) (hb237)⟩), List.forall_mem_cons.mpr ⟨(show cp82 (wget w247 82) from ⟨f82_164, f82_166, f82_168, f82_170, f82_172, f82_174, f82_176, f82_178, f82_180, f82_182 + 1, f82_184, f82_185, f82_186, f82_188, f82_190, f82_192, hk248, by omega, hb167, by omega, by omega, hb173, by omega, hb177, hb179, by omega, by omega, hb187, hb189, hb191, hb193, by omega⟩), fun _ h => absurd h List.not_mem_nil⟩⟩), (((((((hF50.tr (hF103.up (by decide))).tr (hF149.up (by decide))).tr (hF199.up (by decide))).tr (hF206.up (by decide))).tr (hF212.up (by decide))).tr (hF221.up (by decide))).tr ((xFr.of (S := [82, 83, 85, 86, 87]) hb245 (by decide)).tr (xFr.of (S := [82, 83, 85, 86, 87]) hb249 (by decide)))), ⟨Or.inl ⟨p_108, lf163, ⟨by have z := hk234.1; omega, (rwv_eq (j := 16) ((hb249.1 83 (by decide)).trans (hb245.1 83 (by decide)))).trans hk234.2.1, (rwv_eq (j := 17) ((hb249.1 83 (by decide)).trans (hb245.1 83 (by decide)))).trans hk234.2.2⟩⟩, ((((((((hj56.tr (K83.fr hF103 (by decide))).tr k8_153).tr (K83.fr hF199 (by decide))).tr (K83.fr hF206 (by decide))).tr (K83.fr hF212 (by decide))).tr (K83.fr hF221 (by decide))).tr (K83.but hb245 (by decide))).tr (K83.but hb249 (by decide))), by omega⟩⟩
    · obtain ⟨p_260, hp261⟩ : ∃ x, x = tf B nn p_108 := ⟨_, rfl⟩
      rw [← hp261] at hT_161
      have ln262 : lnR B nn p0 = lnN B nn 5 1 p_260 := by rw [hp261]; exact ln112.trans (lnN_y (k := 1) hk156)
      have vp263 : vlp B nn (lnP B nn k) 0 = p_108 := by rw [← hp0]; exact hp109.symm
      have vl264 : vln B nn (lnP B nn k) 0 = tnu B nn p_108 := by
        show (if (0 : Nat) = 3 then _ else tnu B nn (vlp B nn (lnP B nn k) 0)) = _
        rw [if_neg (by decide), vp263]
      have he266 : (chk (mf1 B nn k 5 (flA B nn k)) 1 10 (tnu B nn p_108) (tq B nn p_108)) = (mf2 B nn k 5 (flA B nn k)) := by show _ = chk (mf1 B nn k 5 (flA B nn k)) 1 10 (vln B nn (lnP B nn k) 0) (tq B nn (vlp B nn (lnP B nn k) 0)); rw [vl264, vp263]
      have hF_265 := hF_162
      rw [he266] at hF_265
      have he268 : (mf2 B nn k 5 (flA B nn k)) = (mf3 B nn k 5 (flA B nn k)) := rfl
      have hF_267 := hF_265
      rw [he268] at hF_267
      refine xoCh82 (hI148 82 (by decide) (by decide) : cp82 (wget w146 82)) (fun f82_269 f82_271 f82_273 f82_275 f82_277 f82_279 f82_281 f82_283 f82_285 f82_287 f82_289 f82_290 f82_291 f82_293 f82_295 f82_297 h82_299 hb270 hb272 hb274 hb276 hb278 hb280 hb282 hb284 hb286 hb288 hb292 hb294 hb296 hb298 hb300 => ?_)
      refine xg_cVv mX12_puts (vs := [(0, 5), (0, u42), (0, 7), (0, n150)]) (rest := []) (cn1 := 0) (sl1 := 0) rfl (mPuts5 (hI148) (by omega) (by omega) (by omega) (fun _ => by omega)) rfl h82_299 rfl rfl rfl rfl rfl rfl (fun w301 hq302 => ?_)
      obtain ⟨hI303, hF304, hx305⟩ := hq302
      obtain ⟨hp306, hp307⟩ := hx305
      refine xg_t (xg_iinc (u := 0) (z := 1) (l1 := [(0, (2, 82)), (1, (0, 5)), (2, (0, at_)), (3, (0, u42))]) rfl rfl (by decide) rfl) ?_
      refine xg_t (xg_goto) ?_
      refine xg_t (xg_blk (b := [(329, 2, 2, 4, 0, 0), (331, 1, 3, 2, 0, 0), (332, 3, 6, 359, 3, 0), (335, 1, 0, 0, 0, 0), (336, 1, 2, 1, 0, 0), (337, 1, 2, 3, 0, 0), (338, 2, 4, 7, 0, 0), (340, 2, 2, 4, 0, 0), (342, 1, 11, 0, 0, 0), (343, 1, 0, 0, 0, 0), (344, 1, 3, 1, 0, 0), (345, 2, 4, 10, 0, 0), (347, 3, 13, 199, 96, 196), (350, 3, 13, 211, 96, 200), (353, 3, 9, 4, 1, 0), (356, 3, 8, 329, 0, 0)]) rfl) ?_
      refine xg_t (xg_iload (va := (0, 1)) rfl rfl) ?_
      refine xg_t (xg_const) ?_
      refine xg_t (xg_icF (u := 1) (v := 2) rfl xnm0 xnm0 (by decide)) ?_
      refine xg_t (xg_aload (va := (2, 82)) rfl rfl) ?_
      refine xg_t (xg_iload (va := (0, 5)) rfl rfl) ?_
      refine xg_t (xg_iload (va := (0, u42)) rfl rfl) ?_
      refine xg_t (xg_bip) ?_
      refine xg_t (xg_iload (va := (0, 1)) rfl rfl) ?_
      refine xg_t (xg_iadd (u := 7) (v := 1) (z := 8) xnm0 xnm0 (by decide)) ?_
      refine xg_t (xg_aload (va := (2, 82)) rfl rfl) ?_
      refine xg_t (xg_const) ?_
      refine xg_t (xg_bip) ?_
      have hk308 := ((fld_eq (j := 14) (hF304.1 82 (by decide))).trans k14_155)
      refine xg_cVi mX12_numbered (vs := [(0, 1), (0, 10)]) (rest := [(0, 8), (0, u42), (0, 5), (2, 82)]) (cn1 := 0) (sl1 := 0) rfl (mNumX (ir := 0) (hI303) (by omega) (by omega) (hB.fr (fun j h4 h9 => (((hj56.tr (K83.fr hF103 (by decide))).tr k8_153).tr (K83.fr hF304 (by decide))) j (by omega) (by omega) (by omega))) ((fld_eq (j := 10) (hF304.1 82 (by decide))).trans k10_160) (hT_161.fr (hF304.1 82 (by decide))) (hF_267.k83 (rwv_eq (hF304.1 83 (by decide))) (rwv_eq (hF304.1 83 (by decide))))) rfl (hF304.get (by decide) h82_299) rfl rfl rfl rfl rfl rfl (fun n313 w309 hq310 => ?_)
      obtain ⟨hn314, hI311, hF312⟩ := hq310
      obtain ⟨hx317, h14_315, k8_316⟩ := hn314
      have k14_318 := h14_315.trans hk308
      rcases hx317 with ⟨rfl, hk319, hW320⟩ | ⟨hv321, h9_322, hk319, k10_323, hT_324, hF_325⟩
      · have lf326 : lnR B nn p0 = (false, p_260) := ln262.trans (lnN_n (k := 0) hk319)
        refine xoCh82 (hI311 82 (by decide) (by decide) : cp82 (wget w309 82)) (fun f82_327 f82_329 f82_331 f82_333 f82_335 f82_337 f82_339 f82_341 f82_343 f82_345 f82_347 f82_348 f82_349 f82_351 f82_353 f82_355 h82_357 hb328 hb330 hb332 hb334 hb336 hb338 hb340 hb342 hb344 hb346 hb350 hb352 hb354 hb356 hb358 => ?_)
        refine xg_cVv mX12_puts (vs := [(0, 5), (0, u42), (0, 8), (0, 0)]) (rest := []) (cn1 := 0) (sl1 := 0) rfl (mPuts5 (hI311) (by omega) (by omega) (by omega) (fun _ => by omega)) rfl h82_357 rfl rfl rfl rfl rfl rfl (fun w359 hq360 => ?_)
        obtain ⟨hI361, hF362, hx363⟩ := hq360
        obtain ⟨hp364, hp365⟩ := hx363
        refine xg_t (xg_iinc (u := 1) (z := 2) (l1 := [(0, (2, 82)), (1, (0, 5)), (2, (0, at_)), (3, (0, u42))]) rfl rfl (by decide) rfl) ?_
        refine xg_t (xg_goto) ?_
        refine xg_t (xg_blk (b := [(329, 2, 2, 4, 0, 0), (331, 1, 3, 2, 0, 0), (332, 3, 6, 359, 3, 0), (335, 1, 0, 0, 0, 0), (336, 1, 2, 1, 0, 0), (337, 1, 2, 3, 0, 0), (338, 2, 4, 7, 0, 0), (340, 2, 2, 4, 0, 0), (342, 1, 11, 0, 0, 0), (343, 1, 0, 0, 0, 0), (344, 1, 3, 1, 0, 0), (345, 2, 4, 10, 0, 0), (347, 3, 13, 199, 96, 196), (350, 3, 13, 211, 96, 200), (353, 3, 9, 4, 1, 0), (356, 3, 8, 329, 0, 0)]) rfl) ?_
        refine xg_t (xg_iload (va := (0, 2)) rfl rfl) ?_
        refine xg_t (xg_const) ?_
        refine xg_t (xg_icT (u := 2) (v := 2) rfl xnm0 xnm0 (by decide)) ?_
        refine xg_t (xg_blk (b := [(359, 3, 8, 394, 0, 0)]) rfl) ?_
        refine xg_t (xg_goto) ?_
        refine xg_t (xg_blk (b := [(394, 1, 0, 0, 0, 0), (395, 3, 1, 12, 10, 180), (398, 3, 7, 416, 1, 0), (401, 1, 0, 0, 0, 0), (402, 3, 1, 12, 7, 151), (405, 1, 3, 2, 0, 0), (406, 3, 6, 416, 1, 0), (409, 1, 0, 0, 0, 0), (410, 3, 13, 110, 96, 190), (413, 3, 8, 420, 0, 0)]) rfl) ?_
        refine xg_t (xg_aload (va := (2, 82)) rfl rfl) ?_
        refine xg_t (xg_getf (va := (0, f82_343)) (hF362.get (by decide) h82_357) rfl) ?_
        have hf366 : fld w359 82 10 = f82_343 := fld_of (hF362.get (by decide) h82_357)
        have hk367 : fld w359 82 10 ≠ 0 := (by have q := hW320.1; have q2 := fld_eq (j := 10) (hF362.1 82 (by decide)); omega)
        refine xg_t (xg_ifT (u := f82_343) rfl xnm0 (xj_neT (by omega))) ?_
        refine xg_t (xg_blk (b := [(416, 1, 0, 0, 0, 0), (417, 3, 13, 140, 96, 183)]) rfl) ?_
        refine xg_t (xg_aload (va := (2, 82)) rfl rfl) ?_
        refine xg_cVv mX12_ends (vs := []) (rest := []) (cn1 := 0) (sl1 := 0) rfl (mEndsW (hI361) (by have q := hW320.1; have q2 := fld_eq (j := 10) (hF362.1 82 (by decide)); omega)) rfl (hF362.get (by decide) h82_357) rfl rfl rfl rfl rfl rfl (fun w368 hq369 => ?_)
        obtain ⟨hI370, hF371⟩ := hq369
        refine xg_t (xg_blk (b := [(420, 1, 0, 0, 0, 0), (421, 3, 1, 12, 11, 17), (424, 1, 2, 1, 0, 0), (425, 1, 39, 0, 0, 0), (426, 1, 10, 0, 0, 0), (427, 1, 3, 1, 0, 0), (428, 1, 11, 0, 0, 0), (429, 1, 17, 0, 0, 0), (430, 1, 0, 0, 0, 0), (431, 1, 19, 0, 0, 0), (432, 3, 1, 12, 14, 212), (435, 1, 3, 1, 0, 0), (436, 1, 11, 0, 0, 0), (437, 3, 14, 12, 14, 212), (440, 1, 12, 0, 0, 0)]) rfl) ?_
        have hf372 : fld w368 82 2 = f82_327 := fld_of (hF371.get (by decide) (hF362.get (by decide) h82_357))
        have hf373 : fld w368 82 3 = f82_329 := fld_of (hF371.get (by decide) (hF362.get (by decide) h82_357))
        have hf374 : fld w368 82 4 = f82_331 := fld_of (hF371.get (by decide) (hF362.get (by decide) h82_357))
        have hf375 : fld w368 82 5 = f82_333 := fld_of (hF371.get (by decide) (hF362.get (by decide) h82_357))
        have hf376 : fld w368 82 6 = f82_335 := fld_of (hF371.get (by decide) (hF362.get (by decide) h82_357))
        have hf377 : fld w368 82 7 = f82_337 := fld_of (hF371.get (by decide) (hF362.get (by decide) h82_357))
        have hf378 : fld w368 82 8 = f82_339 := fld_of (hF371.get (by decide) (hF362.get (by decide) h82_357))
        have hf379 : fld w368 82 9 = f82_341 := fld_of (hF371.get (by decide) (hF362.get (by decide) h82_357))
        have hf380 : fld w368 82 10 = f82_343 := fld_of (hF371.get (by decide) (hF362.get (by decide) h82_357))
        have hf381 : fld w368 82 14 = f82_345 := fld_of (hF371.get (by decide) (hF362.get (by decide) h82_357))
        have hk382 := ((fld_eq (j := 14) ((hF371.1 82 (by decide)).trans (hF362.1 82 (by decide)))).trans k14_318)
        have hl383 : f82_345 ≤ 500 := by omega
        have hk384 : WRG w368 (tq B nn p_260) := ⟨(fld_eq (j := 10) ((hF371.1 82 (by decide)).trans (hF362.1 82 (by decide)))).trans hW320.1, (rwv_eq (j := 16) ((hF371.1 83 (by decide)).trans (hF362.1 83 (by decide)))).trans hW320.2.1, (rwv_eq (j := 17) ((hF371.1 83 (by decide)).trans (hF362.1 83 (by decide)))).trans hW320.2.2⟩
        refine xg_t (xg_aload (va := (2, 82)) rfl rfl) ?_
        refine xg_t (xg_getf (va := (2, 85)) (hF371.get (by decide) (hF362.get (by decide) h82_357)) rfl) ?_
        refine xg_t (xg_iload (va := (0, 5)) rfl rfl) ?_
        refine xg_t (xg_dup2 rfl) ?_
        refine xoI (hI370 85 (by decide) (by decide) : cpI 7 52 4294967295 (wget w368 85)) (fun g85_385 h85_386 hb387 => ?_)
        refine xg_ialdB (n := 5) (B := 4294967295) h85_386 (hb387) xnm0 (by omega) (fun u388 hu389 he390 => ?_)
        have hK391 : u388 = u42 := (((rwv_of h85_386 (by decide)).trans he390).symm.trans (rwv_eq ((hF371.1 85 (by decide)).trans ((hF362.1 85 (by decide)).trans ((hF312.1 85 (by decide)).trans ((hF304.1 85 (by decide)).trans ((hF149.1 85 (by decide)).trans ((hF103.1 85 (by decide)).trans hj57)))))))).trans ((hm 5 (by decide)).trans hK45.symm)
        have hl392 : u388 ≤ 500 := by omega
        refine xg_t (xg_const) ?_
        refine xg_t (xg_iadd (u := u388) (v := 1) (z := u388 + 1) xnm0 xnm0 (by omega)) ?_
        refine xg_iastK (n := 5) (u := u388 + 1) h85_386 xnm0 xnm0 rfl (by omega) (fun w393 hr394 hb395 => ?_)
        refine xg_t (xg_aload (va := (2, 82)) rfl rfl) ?_
        refine xg_t (xg_dup rfl) ?_
        refine xg_t (xg_getf (va := (0, f82_345)) (hb395.get (by decide) (hF371.get (by decide) (hF362.get (by decide) h82_357))) rfl) ?_
        have hn396 := id hb346
        unfold xHid at hn396
        refine xg_t (xg_const) ?_
        refine xg_t (xg_iadd (u := f82_345) (v := 1) (z := f82_345 + 1) xnm0 xnm0 (by omega)) ?_
        refine xg_putI (fl1 := [(2, 83), (2, 84), (0, f82_327), (0, f82_329), (0, f82_331), (0, f82_333), (0, f82_335), (0, f82_337), (0, f82_339), (0, f82_341), (0, f82_343), (2, 85), (2, 86), (2, 87), (0, f82_345 + 1), (2, 88), (2, 89), (2, 90), (2, 91), (2, 92), (2, 93), (2, 94), (4, f82_347), (4, f82_348), (0, f82_349), (2, 95), (2, 96), (2, 97), (2, 98), (2, 99), (2, 100), (2, 101), (2, 102), (0, f82_351), (2, 103), (2, 104), (2, 105), (2, 106), (2, 107), (2, 108), (2, 109), (0, f82_353), (0, f82_355), (2, 110), (2, 111), (2, 112), (2, 113)]) (hb395.get (by decide) (hF371.get (by decide) (hF362.get (by decide) h82_357))) rfl rfl rfl (fun w397 hk398 hb399 => ?_)
        have hf400 : fld w397 82 2 = f82_327 := fld_of hk398
        have hf401 : fld w397 82 3 = f82_329 := fld_of hk398
        have hf402 : fld w397 82 4 = f82_331 := fld_of hk398
        have hf403 : fld w397 82 5 = f82_333 := fld_of hk398
        have hf404 : fld w397 82 6 = f82_335 := fld_of hk398
        have hf405 : fld w397 82 7 = f82_337 := fld_of hk398
        have hf406 : fld w397 82 8 = f82_339 := fld_of hk398
        have hf407 : fld w397 82 9 = f82_341 := fld_of hk398
        have hf408 : fld w397 82 10 = f82_343 := fld_of hk398
        have hf409 : fld w397 82 14 = f82_345 + 1 := fld_of hk398
        exact xg_e ⟨w397, ⟨rfl, rfl⟩, xMnv.up (S := [85, 82]) hI370 ((xFr.of (S := [85, 82]) hb395 (by decide)).tr (xFr.of (S := [85, 82]) hb399 (by decide))) (List.forall_mem_cons.mpr ⟨(show cpI 7 52 4294967295 (wget w397 85) from ⟨_, (hr394.but hb399 (by decide)), xrb (by omega) (hb387)⟩), List.forall_mem_cons.mpr ⟨(show cp82 (wget w397 82) from ⟨f82_327, f82_329, f82_331, f82_333, f82_335, f82_337, f82_339, f82_341, f82_343, f82_345 + 1, f82_347, f82_348, f82_349, f82_351, f82_353, f82_355, hk398, by omega, hb330, by omega, by omega, hb336, by omega, hb340, hb342, by omega, by omega, hb350, hb352, hb354, hb356, by omega⟩), fun _ h => absurd h List.not_mem_nil⟩⟩), (((((((hF50.tr (hF103.up (by decide))).tr (hF149.up (by decide))).tr (hF304.up (by decide))).tr (hF312.up (by decide))).tr (hF362.up (by decide))).tr (hF371.up (by decide))).tr ((xFr.of (S := [82, 83, 85, 86, 87]) hb395 (by decide)).tr (xFr.of (S := [82, 83, 85, 86, 87]) hb399 (by decide)))), ⟨Or.inl ⟨p_260, lf326, ⟨by have z := hk384.1; omega, (rwv_eq (j := 16) ((hb399.1 83 (by decide)).trans (hb395.1 83 (by decide)))).trans hk384.2.1, (rwv_eq (j := 17) ((hb399.1 83 (by decide)).trans (hb395.1 83 (by decide)))).trans hk384.2.2⟩⟩, ((((((((hj56.tr (K83.fr hF103 (by decide))).tr k8_153).tr (K83.fr hF304 (by decide))).tr k8_316).tr (K83.fr hF362 (by decide))).tr (K83.fr hF371 (by decide))).tr (K83.but hb395 (by decide))).tr (K83.but hb399 (by decide))), by omega⟩⟩
      · obtain ⟨p_410, hp411⟩ : ∃ x, x = tf B nn p_260 := ⟨_, rfl⟩
        rw [← hp411] at hT_324
        have ln412 : lnR B nn p0 = lnN B nn 5 0 p_410 := by rw [hp411]; exact ln262.trans (lnN_y (k := 0) hk319)
        have vp413 : vlp B nn (lnP B nn k) 1 = p_260 := by show tf B nn (vlp B nn (lnP B nn k) 0) = p_260; rw [vp263]; exact hp261.symm
        have vl414 : vln B nn (lnP B nn k) 1 = tnu B nn p_260 := by
          show (if (1 : Nat) = 3 then _ else tnu B nn (vlp B nn (lnP B nn k) 1)) = _
          rw [if_neg (by decide), vp413]
        have he416 : (chk (mf3 B nn k 5 (flA B nn k)) 1 10 (tnu B nn p_260) (tq B nn p_260)) = (mf4 B nn k 5 (flA B nn k)) := by show _ = chk (mf3 B nn k 5 (flA B nn k)) 1 10 (vln B nn (lnP B nn k) 1) (tq B nn (vlp B nn (lnP B nn k) 1)); rw [vl414, vp413]
        have hF_415 := hF_325
        rw [he416] at hF_415
        have he418 : (mf4 B nn k 5 (flA B nn k)) = (mfl B nn k 5 (flA B nn k)) := rfl
        have hF_417 := hF_415
        rw [he418] at hF_417
        refine xoCh82 (hI311 82 (by decide) (by decide) : cp82 (wget w309 82)) (fun f82_419 f82_421 f82_423 f82_425 f82_427 f82_429 f82_431 f82_433 f82_435 f82_437 f82_439 f82_440 f82_441 f82_443 f82_445 f82_447 h82_449 hb420 hb422 hb424 hb426 hb428 hb430 hb432 hb434 hb436 hb438 hb442 hb444 hb446 hb448 hb450 => ?_)
        refine xg_cVv mX12_puts (vs := [(0, 5), (0, u42), (0, 8), (0, n313)]) (rest := []) (cn1 := 0) (sl1 := 0) rfl (mPuts5 (hI311) (by omega) (by omega) (by omega) (fun _ => by omega)) rfl h82_449 rfl rfl rfl rfl rfl rfl (fun w451 hq452 => ?_)
        obtain ⟨hI453, hF454, hx455⟩ := hq452
        obtain ⟨hp456, hp457⟩ := hx455
        refine xg_t (xg_iinc (u := 1) (z := 2) (l1 := [(0, (2, 82)), (1, (0, 5)), (2, (0, at_)), (3, (0, u42))]) rfl rfl (by decide) rfl) ?_
        refine xg_t (xg_goto) ?_
        refine xg_t (xg_blk (b := [(329, 2, 2, 4, 0, 0), (331, 1, 3, 2, 0, 0), (332, 3, 6, 359, 3, 0), (335, 1, 0, 0, 0, 0), (336, 1, 2, 1, 0, 0), (337, 1, 2, 3, 0, 0), (338, 2, 4, 7, 0, 0), (340, 2, 2, 4, 0, 0), (342, 1, 11, 0, 0, 0), (343, 1, 0, 0, 0, 0), (344, 1, 3, 1, 0, 0), (345, 2, 4, 10, 0, 0), (347, 3, 13, 199, 96, 196), (350, 3, 13, 211, 96, 200), (353, 3, 9, 4, 1, 0), (356, 3, 8, 329, 0, 0)]) rfl) ?_
        refine xg_t (xg_iload (va := (0, 2)) rfl rfl) ?_
        refine xg_t (xg_const) ?_
        refine xg_t (xg_icT (u := 2) (v := 2) rfl xnm0 xnm0 (by decide)) ?_
        refine xg_t (xg_blk (b := [(359, 3, 8, 394, 0, 0)]) rfl) ?_
        refine xg_t (xg_goto) ?_
        refine xg_t (xg_blk (b := [(394, 1, 0, 0, 0, 0), (395, 3, 1, 12, 10, 180), (398, 3, 7, 416, 1, 0), (401, 1, 0, 0, 0, 0), (402, 3, 1, 12, 7, 151), (405, 1, 3, 2, 0, 0), (406, 3, 6, 416, 1, 0), (409, 1, 0, 0, 0, 0), (410, 3, 13, 110, 96, 190), (413, 3, 8, 420, 0, 0)]) rfl) ?_
        have ln458 : lnR B nn p0 = lnS B nn p_410 := by exact ln412.trans (lnN_0 (by decide))
        refine xg_t (xg_aload (va := (2, 82)) rfl rfl) ?_
        refine xg_t (xg_getf (va := (0, f82_435)) (hF454.get (by decide) h82_449) rfl) ?_
        have hf459 : fld w451 82 10 = f82_435 := fld_of (hF454.get (by decide) h82_449)
        have hk460 : fld w451 82 10 = 0 := ((fld_eq (j := 10) (hF454.1 82 (by decide))).trans k10_323)
        refine xg_t (xg_ifF (u := f82_435) rfl xnm0 (xj_neF (by omega))) ?_
        obtain ⟨⟨ht461, ht462, ht463, ht464, ht465, ht466⟩, ht467, ht468, ht469⟩ := id (hT_324.fr (hF454.1 82 (by decide)))
        have hf470 : fld w451 82 6 = f82_427 := fld_of (hF454.get (by decide) h82_449)
        have hf471 : fld w451 82 7 = f82_429 := fld_of (hF454.get (by decide) h82_449)
        have hf472 : fld w451 82 8 = f82_431 := fld_of (hF454.get (by decide) h82_449)
        have hf473 : fld w451 82 9 = f82_433 := fld_of (hF454.get (by decide) h82_449)
        have hf474 : fld w451 82 3 = f82_421 := fld_of (hF454.get (by decide) h82_449)
        have hmk475 := mkd_of (ir := 0) (B := B) (n := nn) (p := p_410)
        refine xg_t (xg_aload (va := (2, 82)) rfl rfl) ?_
        refine xg_t (xg_getf (va := (0, f82_429)) (hF454.get (by decide) h82_449) rfl) ?_
        refine xg_t (xg_const) ?_
        by_cases hc476 : f82_429 = 2
        · refine xg_t (xg_icF (u := f82_429) (v := 2) rfl xnm0 xnm0 (xj_neF hc476)) ?_
          have sg4771 : tkd B nn p_410 = 3 := by omega
          have sg4772 : B (tq B nn p_410) = 59 := by omega
          refine xg_t (xg_aload (va := (2, 82)) rfl rfl) ?_
          clear ht461 ht462 ht463 ht464 ht465 ht466 ht467 ht468 ht469 hf470 hf471 hf472 hf473 hf474 hmk475
          obtain ⟨⟨ht478, ht479, ht480, ht481, ht482, ht483⟩, -⟩ := id (hT_324.fr (hF454.1 82 (by decide)))
          have hk484 := ((fld_eq (j := 10) (hF454.1 82 (by decide))).trans k10_323)
          have hk485 := ((fld_eq (j := 14) (hF454.1 82 (by decide))).trans k14_318)
          refine xg_cVv mX12_advance (vs := []) (rest := []) (cn1 := 0) (sl1 := 0) rfl (mAdvX (hI453) (hB.fr (fun j h4 h9 => (((((hj56.tr (K83.fr hF103 (by decide))).tr k8_153).tr (K83.fr hF304 (by decide))).tr k8_316).tr (K83.fr hF454 (by decide))) j (by omega) (by omega) (by omega))) ht478 ht479 (by rw [ht480]; exact tf_le ht483)) rfl (hF454.get (by decide) h82_449) rfl rfl rfl rfl rfl rfl (fun w486 hq487 => ?_)
          obtain ⟨hI488, hF489, hx490⟩ := hq487
          obtain ⟨hz491, hz492, hz493⟩ := hx490
          rw [ht480] at hz491
          clear ht478 ht479 ht480 ht481 ht482 ht483
          obtain ⟨p_494, hp495⟩ : ∃ x, x = tf B nn p_410 := ⟨_, rfl⟩
          rw [← hp495] at hz491
          have k10_496 := hz492.trans hk484
          have k14_497 := hz493.trans hk485
          clear hz492 hz493 hk484 hk485
          have ln498 : lnR B nn p0 = (true, p_494) := by rw [hp495]; exact ln458.trans (lnS_y ⟨sg4771, sg4772⟩)
          refine xg_t (xg_goto) ?_
          refine xg_t (xg_blk (b := [(420, 1, 0, 0, 0, 0), (421, 3, 1, 12, 11, 17), (424, 1, 2, 1, 0, 0), (425, 1, 39, 0, 0, 0), (426, 1, 10, 0, 0, 0), (427, 1, 3, 1, 0, 0), (428, 1, 11, 0, 0, 0), (429, 1, 17, 0, 0, 0), (430, 1, 0, 0, 0, 0), (431, 1, 19, 0, 0, 0), (432, 3, 1, 12, 14, 212), (435, 1, 3, 1, 0, 0), (436, 1, 11, 0, 0, 0), (437, 3, 14, 12, 14, 212), (440, 1, 12, 0, 0, 0)]) rfl) ?_
          refine xoCh82 (hI488 82 (by decide) (by decide) : cp82 (wget w486 82)) (fun f82_499 f82_501 f82_503 f82_505 f82_507 f82_509 f82_511 f82_513 f82_515 f82_517 f82_519 f82_520 f82_521 f82_523 f82_525 f82_527 h82_529 hb500 hb502 hb504 hb506 hb508 hb510 hb512 hb514 hb516 hb518 hb522 hb524 hb526 hb528 hb530 => ?_)
          have hf531 : fld w486 82 2 = f82_499 := fld_of h82_529
          have hf532 : fld w486 82 3 = f82_501 := fld_of h82_529
          have hf533 : fld w486 82 4 = f82_503 := fld_of h82_529
          have hf534 : fld w486 82 5 = f82_505 := fld_of h82_529
          have hf535 : fld w486 82 6 = f82_507 := fld_of h82_529
          have hf536 : fld w486 82 7 = f82_509 := fld_of h82_529
          have hf537 : fld w486 82 8 = f82_511 := fld_of h82_529
          have hf538 : fld w486 82 9 = f82_513 := fld_of h82_529
          have hf539 : fld w486 82 10 = f82_515 := fld_of h82_529
          have hf540 : fld w486 82 14 = f82_517 := fld_of h82_529
          have hk541 := k14_497
          have hl542 : f82_517 ≤ 500 := by omega
          have hk543 := hz491
          have hk544 := (hF_417.k83 (rwv_eq ((hF489.1 83 (by decide)).trans (hF454.1 83 (by decide)))) (rwv_eq ((hF489.1 83 (by decide)).trans (hF454.1 83 (by decide)))))
          have hk545 := k10_496
          refine xg_t (xg_aload (va := (2, 82)) rfl rfl) ?_
          refine xg_t (xg_getf (va := (2, 85)) h82_529 rfl) ?_
          refine xg_t (xg_iload (va := (0, 5)) rfl rfl) ?_
          refine xg_t (xg_dup2 rfl) ?_
          refine xoI (hI488 85 (by decide) (by decide) : cpI 7 52 4294967295 (wget w486 85)) (fun g85_546 h85_547 hb548 => ?_)
          refine xg_ialdB (n := 5) (B := 4294967295) h85_547 (hb548) xnm0 (by omega) (fun u549 hu550 he551 => ?_)
          have hK552 : u549 = u42 := (((rwv_of h85_547 (by decide)).trans he551).symm.trans (rwv_eq ((hF489.1 85 (by decide)).trans ((hF454.1 85 (by decide)).trans ((hF312.1 85 (by decide)).trans ((hF304.1 85 (by decide)).trans ((hF149.1 85 (by decide)).trans ((hF103.1 85 (by decide)).trans hj57)))))))).trans ((hm 5 (by decide)).trans hK45.symm)
          have hl553 : u549 ≤ 500 := by omega
          refine xg_t (xg_const) ?_
          refine xg_t (xg_iadd (u := u549) (v := 1) (z := u549 + 1) xnm0 xnm0 (by omega)) ?_
          refine xg_iastK (n := 5) (u := u549 + 1) h85_547 xnm0 xnm0 rfl (by omega) (fun w554 hr555 hb556 => ?_)
          refine xg_t (xg_aload (va := (2, 82)) rfl rfl) ?_
          refine xg_t (xg_dup rfl) ?_
          refine xg_t (xg_getf (va := (0, f82_517)) (hb556.get (by decide) h82_529) rfl) ?_
          have hn557 := id hb518
          unfold xHid at hn557
          refine xg_t (xg_const) ?_
          refine xg_t (xg_iadd (u := f82_517) (v := 1) (z := f82_517 + 1) xnm0 xnm0 (by omega)) ?_
          refine xg_putI (fl1 := [(2, 83), (2, 84), (0, f82_499), (0, f82_501), (0, f82_503), (0, f82_505), (0, f82_507), (0, f82_509), (0, f82_511), (0, f82_513), (0, f82_515), (2, 85), (2, 86), (2, 87), (0, f82_517 + 1), (2, 88), (2, 89), (2, 90), (2, 91), (2, 92), (2, 93), (2, 94), (4, f82_519), (4, f82_520), (0, f82_521), (2, 95), (2, 96), (2, 97), (2, 98), (2, 99), (2, 100), (2, 101), (2, 102), (0, f82_523), (2, 103), (2, 104), (2, 105), (2, 106), (2, 107), (2, 108), (2, 109), (0, f82_525), (0, f82_527), (2, 110), (2, 111), (2, 112), (2, 113)]) (hb556.get (by decide) h82_529) rfl rfl rfl (fun w558 hk559 hb560 => ?_)
          have hf561 : fld w558 82 2 = f82_499 := fld_of hk559
          have hf562 : fld w558 82 3 = f82_501 := fld_of hk559
          have hf563 : fld w558 82 4 = f82_503 := fld_of hk559
          have hf564 : fld w558 82 5 = f82_505 := fld_of hk559
          have hf565 : fld w558 82 6 = f82_507 := fld_of hk559
          have hf566 : fld w558 82 7 = f82_509 := fld_of hk559
          have hf567 : fld w558 82 8 = f82_511 := fld_of hk559
          have hf568 : fld w558 82 9 = f82_513 := fld_of hk559
          have hf569 : fld w558 82 10 = f82_515 := fld_of hk559
          have hf570 : fld w558 82 14 = f82_517 + 1 := fld_of hk559
          have he571 : lnP B nn (k + 1) = p_494 := by
            show (lnR B nn (lnP B nn k)).2 = _
            rw [← hp0, ln498]
          have hT572 : TKM 0 B nn w558 p_494 := hk543.w14 (by omega) (by omega) (by omega) (by omega) (by omega) (by omega) (by omega) (by omega)
          have hF573 : FP w558 (mfl B nn k 5 (flA B nn k)) := hk544.k83 (rwv_eq ((hb560.1 83 (by decide)).trans (hb556.1 83 (by decide)))) (rwv_eq ((hb560.1 83 (by decide)).trans (hb556.1 83 (by decide))))
          have hg575 := (tf_gt (B := B) (n := nn) (p := p_108) (by omega)).2
          have hg576 := tq_ge (B := B) (n := nn) (p := p_108)
          have hg577 := (tf_gt (B := B) (n := nn) (p := p_260) (by omega)).2
          have hg578 := tq_ge (B := B) (n := nn) (p := p_260)
          have hg579 := (tf_gt (B := B) (n := nn) (p := p0) (by rw [slt_kd (by rw [hp0, hs]; decide)]; decide)).2
          have hg580 := (tf_gt (B := B) (n := nn) (p := p_410) (by omega)).2
          have hg581 := tq_ge (B := B) (n := nn) (p := p_410)
          have hg582 := tq_ge (B := B) (n := nn) (p := p_494)
          have hp1x := hp109
          have hO574 : ORD B nn k 5 (tq B nn (lnP B nn (k + 1))) := by
            unfold ORD
            rw [he571, vp263, vp413, ← hp0]
            exact ⟨by omega, by omega, fun z => absurd z (by decide), by omega, fun z => absurd z (by decide)⟩
          have hM583 : rwv w558 85 5 = lnC B nn 5 k + 1 := (rwv_of (hr555.but hb560 (by decide)) (by decide)).trans ((if_pos rfl).trans (by omega))
          have hM584 : ∀ s, s < 7 → s ≠ 5 → rwv w558 85 s = rwv w 85 s := fun s hs hn => (rwv_of (hr555.but hb560 (by decide)) hs).trans ((if_neg hn).trans ((rwv_of h85_547 hs).symm.trans (rwv_eq ((hF489.1 85 (by decide)).trans ((hF454.1 85 (by decide)).trans ((hF312.1 85 (by decide)).trans ((hF304.1 85 (by decide)).trans ((hF149.1 85 (by decide)).trans ((hF103.1 85 (by decide)).trans hj57)))))))))
          have hr585 : lnC B nn 5 k < 1 → ∀ t, t < 2 → XM w558 5 (lnC B nn 5 k) t = vln B nn (lnP B nn k) t := fun hlt t ht => by
            rcases (show t = 0 ∨ t = 1 by omega) with rfl | rfl
            · show rwv w558 86 (7 + 0) = _
              rw [show 7 + 0 = 7 by omega]
              exact ((rwv_eq (hb560.1 86 (by decide))).trans ((rwv_eq (hb556.1 86 (by decide))).trans ((rwv_eq (hF489.1 86 (by decide))).trans ((hp457 7 (by omega) (by omega)).trans (rwv_eq (hF312.1 86 (by decide))))))).trans ((hp306 (by omega)).trans (hv158.trans vl264.symm))
            · show rwv w558 86 (7 + 1) = _
              rw [show 7 + 1 = 8 by omega]
              exact ((rwv_eq (hb560.1 86 (by decide))).trans ((rwv_eq (hb556.1 86 (by decide))).trans (rwv_eq (hF489.1 86 (by decide))))).trans ((hp456 (by omega)).trans (hv321.trans vl414.symm))
          have ho586 : ∀ j, (j < 7 ∨ 9 ≤ j) → j < 140 → rwv w558 86 j = rwv w 86 j := fun j hj hl => ((rwv_eq (hb560.1 86 (by decide))).trans ((rwv_eq (hb556.1 86 (by decide))).trans ((rwv_eq (hF489.1 86 (by decide))).trans ((hp457 j (by omega) hl).trans ((rwv_eq (hF312.1 86 (by decide))).trans ((hp307 j (by omega) hl).trans ((rwv_eq (hF149.1 86 (by decide))).trans ((rwv_eq (hF103.1 86 (by decide))).trans (rwv_eq hj58)))))))))
          have ha587 : ∀ j, j < 20 → rwv w558 87 j = rwv w 87 j := fun j _ => rwv_eq ((hb560.1 87 (by decide)).trans ((hb556.1 87 (by decide)).trans ((hF489.1 87 (by decide)).trans ((hF454.1 87 (by decide)).trans ((hF312.1 87 (by decide)).trans ((hF304.1 87 (by decide)).trans ((hF149.1 87 (by decide)).trans ((hF103.1 87 (by decide)).trans hj59))))))))
          have hM588 := MSTok5 hS hs (by have z := hk545; omega) (by omega) hF573 hO574 hM583 hM584 hr585 ho586 ha587
          exact xg_e ⟨w558, ⟨rfl, rfl⟩, xMnv.up (S := [85, 82]) hI488 ((xFr.of (S := [85, 82]) hb556 (by decide)).tr (xFr.of (S := [85, 82]) hb560 (by decide))) (List.forall_mem_cons.mpr ⟨(show cpI 7 52 4294967295 (wget w558 85) from ⟨_, (hr555.but hb560 (by decide)), xrb (by omega) (hb548)⟩), List.forall_mem_cons.mpr ⟨(show cp82 (wget w558 82) from ⟨f82_499, f82_501, f82_503, f82_505, f82_507, f82_509, f82_511, f82_513, f82_515, f82_517 + 1, f82_519, f82_520, f82_521, f82_523, f82_525, f82_527, hk559, by omega, hb502, by omega, by omega, hb508, by omega, hb512, hb514, by omega, by omega, hb522, hb524, hb526, hb528, by omega⟩), fun _ h => absurd h List.not_mem_nil⟩⟩), (((((((hF50.tr (hF103.up (by decide))).tr (hF149.up (by decide))).tr (hF304.up (by decide))).tr (hF312.up (by decide))).tr (hF454.up (by decide))).tr (hF489.up (by decide))).tr ((xFr.of (S := [82, 83, 85, 86, 87]) hb556 (by decide)).tr (xFr.of (S := [82, 83, 85, 86, 87]) hb560 (by decide)))), ⟨Or.inr ⟨by rw [ln498], by rw [he571]; exact hT572, hM588⟩, ((((((((hj56.tr (K83.fr hF103 (by decide))).tr k8_153).tr (K83.fr hF304 (by decide))).tr k8_316).tr (K83.fr hF454 (by decide))).tr (K83.fr hF489 (by decide))).tr (K83.but hb556 (by decide))).tr (K83.but hb560 (by decide))), by omega⟩⟩
        · refine xg_t (xg_icT (u := f82_429) (v := 2) rfl xnm0 xnm0 (xj_neT hc476)) ?_
          refine xg_t (xg_blk (b := [(416, 1, 0, 0, 0, 0), (417, 3, 13, 140, 96, 183)]) rfl) ?_
          have lf589n : ¬ (tkd B nn p_410 = 3 ∧ B (tq B nn p_410) = 59) := by omega
          have lf589 : lnR B nn p0 = (false, p_410) := ln458.trans (lnS_n lf589n)
          refine xg_t (xg_aload (va := (2, 82)) rfl rfl) ?_
          have hk590 := ((fld_eq (j := 14) (hF454.1 82 (by decide))).trans k14_318)
          have hk591 := (hT_324.fr (hF454.1 82 (by decide))).1.2.2.2.1
          clear ht461 ht462 ht463 ht464 ht465 ht466 ht467 ht468 ht469 hf470 hf471 hf472 hf473 hf474 hmk475
          refine xg_cVv mX12_ends (vs := []) (rest := []) (cn1 := 0) (sl1 := 0) rfl (mEndsX (hI453) ((fld_eq (j := 10) (hF454.1 82 (by decide))).trans k10_323)) rfl (hF454.get (by decide) h82_449) rfl rfl rfl rfl rfl rfl (fun w592 hq593 => ?_)
          obtain ⟨hI594, hF595, hx596⟩ := hq593
          obtain ⟨hv597, hv598, hv599, hv600, hv601⟩ := hx596
          have hW602 : WRG w592 (tq B nn p_410) := ⟨hv597, hv598, hv599.trans hk591⟩
          have k14_603 := hv600.trans hk590
          refine xg_t (xg_blk (b := [(420, 1, 0, 0, 0, 0), (421, 3, 1, 12, 11, 17), (424, 1, 2, 1, 0, 0), (425, 1, 39, 0, 0, 0), (426, 1, 10, 0, 0, 0), (427, 1, 3, 1, 0, 0), (428, 1, 11, 0, 0, 0), (429, 1, 17, 0, 0, 0), (430, 1, 0, 0, 0, 0), (431, 1, 19, 0, 0, 0), (432, 3, 1, 12, 14, 212), (435, 1, 3, 1, 0, 0), (436, 1, 11, 0, 0, 0), (437, 3, 14, 12, 14, 212), (440, 1, 12, 0, 0, 0)]) rfl) ?_
          refine xoCh82 (hI594 82 (by decide) (by decide) : cp82 (wget w592 82)) (fun f82_604 f82_606 f82_608 f82_610 f82_612 f82_614 f82_616 f82_618 f82_620 f82_622 f82_624 f82_625 f82_626 f82_628 f82_630 f82_632 h82_634 hb605 hb607 hb609 hb611 hb613 hb615 hb617 hb619 hb621 hb623 hb627 hb629 hb631 hb633 hb635 => ?_)
          have hf636 : fld w592 82 2 = f82_604 := fld_of h82_634
          have hf637 : fld w592 82 3 = f82_606 := fld_of h82_634
          have hf638 : fld w592 82 4 = f82_608 := fld_of h82_634
          have hf639 : fld w592 82 5 = f82_610 := fld_of h82_634
          have hf640 : fld w592 82 6 = f82_612 := fld_of h82_634
          have hf641 : fld w592 82 7 = f82_614 := fld_of h82_634
          have hf642 : fld w592 82 8 = f82_616 := fld_of h82_634
          have hf643 : fld w592 82 9 = f82_618 := fld_of h82_634
          have hf644 : fld w592 82 10 = f82_620 := fld_of h82_634
          have hf645 : fld w592 82 14 = f82_622 := fld_of h82_634
          have hk646 := k14_603
          have hl647 : f82_622 ≤ 500 := by omega
          have hk648 : WRG w592 (tq B nn p_410) := hW602
          refine xg_t (xg_aload (va := (2, 82)) rfl rfl) ?_
          refine xg_t (xg_getf (va := (2, 85)) h82_634 rfl) ?_
          refine xg_t (xg_iload (va := (0, 5)) rfl rfl) ?_
          refine xg_t (xg_dup2 rfl) ?_
          refine xoI (hI594 85 (by decide) (by decide) : cpI 7 52 4294967295 (wget w592 85)) (fun g85_649 h85_650 hb651 => ?_)
          refine xg_ialdB (n := 5) (B := 4294967295) h85_650 (hb651) xnm0 (by omega) (fun u652 hu653 he654 => ?_)
          have hK655 : u652 = u42 := (((rwv_of h85_650 (by decide)).trans he654).symm.trans (rwv_eq ((hF595.1 85 (by decide)).trans ((hF454.1 85 (by decide)).trans ((hF312.1 85 (by decide)).trans ((hF304.1 85 (by decide)).trans ((hF149.1 85 (by decide)).trans ((hF103.1 85 (by decide)).trans hj57)))))))).trans ((hm 5 (by decide)).trans hK45.symm)
          have hl656 : u652 ≤ 500 := by omega
          refine xg_t (xg_const) ?_
          refine xg_t (xg_iadd (u := u652) (v := 1) (z := u652 + 1) xnm0 xnm0 (by omega)) ?_
          refine xg_iastK (n := 5) (u := u652 + 1) h85_650 xnm0 xnm0 rfl (by omega) (fun w657 hr658 hb659 => ?_)
          refine xg_t (xg_aload (va := (2, 82)) rfl rfl) ?_
          refine xg_t (xg_dup rfl) ?_
          refine xg_t (xg_getf (va := (0, f82_622)) (hb659.get (by decide) h82_634) rfl) ?_
          have hn660 := id hb623
          unfold xHid at hn660
          refine xg_t (xg_const) ?_
          refine xg_t (xg_iadd (u := f82_622) (v := 1) (z := f82_622 + 1) xnm0 xnm0 (by omega)) ?_
          refine xg_putI (fl1 := [(2, 83), (2, 84), (0, f82_604), (0, f82_606), (0, f82_608), (0, f82_610), (0, f82_612), (0, f82_614), (0, f82_616), (0, f82_618), (0, f82_620), (2, 85), (2, 86), (2, 87), (0, f82_622 + 1), (2, 88), (2, 89), (2, 90), (2, 91), (2, 92), (2, 93), (2, 94), (4, f82_624), (4, f82_625), (0, f82_626), (2, 95), (2, 96), (2, 97), (2, 98), (2, 99), (2, 100), (2, 101), (2, 102), (0, f82_628), (2, 103), (2, 104), (2, 105), (2, 106), (2, 107), (2, 108), (2, 109), (0, f82_630), (0, f82_632), (2, 110), (2, 111), (2, 112), (2, 113)]) (hb659.get (by decide) h82_634) rfl rfl rfl (fun w661 hk662 hb663 => ?_)
          have hf664 : fld w661 82 2 = f82_604 := fld_of hk662
          have hf665 : fld w661 82 3 = f82_606 := fld_of hk662
          have hf666 : fld w661 82 4 = f82_608 := fld_of hk662
          have hf667 : fld w661 82 5 = f82_610 := fld_of hk662
          have hf668 : fld w661 82 6 = f82_612 := fld_of hk662
          have hf669 : fld w661 82 7 = f82_614 := fld_of hk662
          have hf670 : fld w661 82 8 = f82_616 := fld_of hk662
          have hf671 : fld w661 82 9 = f82_618 := fld_of hk662
          have hf672 : fld w661 82 10 = f82_620 := fld_of hk662
          have hf673 : fld w661 82 14 = f82_622 + 1 := fld_of hk662
          exact xg_e ⟨w661, ⟨rfl, rfl⟩, xMnv.up (S := [85, 82]) hI594 ((xFr.of (S := [85, 82]) hb659 (by decide)).tr (xFr.of (S := [85, 82]) hb663 (by decide))) (List.forall_mem_cons.mpr ⟨(show cpI 7 52 4294967295 (wget w661 85) from ⟨_, (hr658.but hb663 (by decide)), xrb (by omega) (hb651)⟩), List.forall_mem_cons.mpr ⟨(show cp82 (wget w661 82) from ⟨f82_604, f82_606, f82_608, f82_610, f82_612, f82_614, f82_616, f82_618, f82_620, f82_622 + 1, f82_624, f82_625, f82_626, f82_628, f82_630, f82_632, hk662, by omega, hb607, by omega, by omega, hb613, by omega, hb617, hb619, by omega, by omega, hb627, hb629, hb631, hb633, by omega⟩), fun _ h => absurd h List.not_mem_nil⟩⟩), (((((((hF50.tr (hF103.up (by decide))).tr (hF149.up (by decide))).tr (hF304.up (by decide))).tr (hF312.up (by decide))).tr (hF454.up (by decide))).tr (hF595.up (by decide))).tr ((xFr.of (S := [82, 83, 85, 86, 87]) hb659 (by decide)).tr (xFr.of (S := [82, 83, 85, 86, 87]) hb663 (by decide)))), ⟨Or.inl ⟨p_410, lf589, ⟨by have z := hk648.1; omega, (rwv_eq (j := 16) ((hb663.1 83 (by decide)).trans (hb659.1 83 (by decide)))).trans hk648.2.1, (rwv_eq (j := 17) ((hb663.1 83 (by decide)).trans (hb659.1 83 (by decide)))).trans hk648.2.2⟩⟩, ((((((((hj56.tr (K83.fr hF103 (by decide))).tr k8_153).tr (K83.fr hF304 (by decide))).tr k8_316).tr (K83.fr hF454 (by decide))).tr hv601).tr (K83.but hb659 (by decide))).tr (K83.but hb663 (by decide))), by omega⟩⟩
  refine xg_t (xg_iload (va := (0, u42)) rfl rfl) ?_
  refine xg_t (xg_iload (va := (0, 5)) rfl rfl) ?_
  refine xg_t (xg_cSr mX12_mostOf (vs := [(0, 5)]) (rest := [(0, u42)]) (rs := [(0, 1), (0, u42)]) (cn1 := 0) (sl1 := 0) rfl (mMostR5) rfl rfl rfl rfl rfl rfl rfl rfl) ?_
  by_cases hc674 : u42 < 1
  · refine xg_t (xg_icT (u := u42) (v := 1) rfl xnm0 xnm0 (xj_ltT hc674 (by omega))) ?_
    refine xg_t (xg_drop (l1 := [(0, (2, 82)), (1, (0, 5)), (2, (0, at_)), (3, (0, u42))]) (List.forall_mem_cons.mpr ⟨List.mem_cons_of_mem _ (List.mem_cons_of_mem _ (List.mem_cons_of_mem _ (List.mem_cons_self))), List.forall_mem_cons.mpr ⟨List.mem_cons_of_mem _ (List.mem_cons_of_mem _ (List.mem_cons_self)), List.forall_mem_cons.mpr ⟨List.mem_cons_of_mem _ (List.mem_cons_self), List.forall_mem_cons.mpr ⟨List.mem_cons_self, fun _ h => absurd h List.not_mem_nil⟩⟩⟩⟩)) ?_
    have he675 : flA B nn k = mf1 B nn k 5 (flA B nn k) := by unfold mf1; rw [decide_eq_false (show ¬ lim 5 ≤ lnC B nn 5 k from (show ¬ 1 ≤ lnC B nn 5 k by omega))]; rfl
    exact jn47 w (hI) (xFr.rf) (⟨by rw [← he675]; exact zF, z10, hT, z14, K83.rf, rfl, rfl, rfl⟩)
  · refine xg_t (xg_icF (u := u42) (v := 1) rfl xnm0 xnm0 (xj_ltF (by omega) (by omega))) ?_
    refine xg_t (xg_aload (va := (2, 82)) rfl rfl) ?_
    refine xg_t (xg_const) ?_
    refine xg_t (xg_iload (va := (0, at_)) rfl rfl) ?_
    refine xg_cVv mX12_also (vs := [(0, 3), (0, at_)]) (rest := []) (cn1 := 0) (sl1 := 0) rfl (mAlsoX (hI) (by omega) (by omega) (by omega) z10 zF) rfl h82_31 rfl rfl rfl rfl rfl rfl (fun w676 hq677 => ?_)
    obtain ⟨hI678, hF679, hx680⟩ := hq677
    obtain ⟨hv681, hv682⟩ := hx680
    refine xg_t (xg_drop (l1 := [(0, (2, 82)), (1, (0, 5)), (2, (0, at_)), (3, (0, u42))]) (List.forall_mem_cons.mpr ⟨List.mem_cons_of_mem _ (List.mem_cons_of_mem _ (List.mem_cons_of_mem _ (List.mem_cons_self))), List.forall_mem_cons.mpr ⟨List.mem_cons_of_mem _ (List.mem_cons_of_mem _ (List.mem_cons_self)), List.forall_mem_cons.mpr ⟨List.mem_cons_of_mem _ (List.mem_cons_self), List.forall_mem_cons.mpr ⟨List.mem_cons_self, fun _ h => absurd h List.not_mem_nil⟩⟩⟩⟩)) ?_
    have he683 : alo (flA B nn k) 3 at_ = mf1 B nn k 5 (flA B nn k) := by unfold mf1; rw [decide_eq_true (show lim 5 ≤ lnC B nn 5 k from (show 1 ≤ lnC B nn 5 k by omega)), hat, hp0]; rfl
    exact jn47 w676 (hI678) ((hF679.up (by decide))) (⟨by rw [← he683]; exact hv681, ((fld_eq (j := 10) (hF679.1 82 (by decide))).trans z10), (hT.fr (hF679.1 82 (by decide))), ((fld_eq (j := 14) (hF679.1 82 (by decide))).trans z14), hv682, (hF679.1 85 (by decide)), (hF679.1 86 (by decide)), (hF679.1 87 (by decide))⟩)
end XFME
end
section
/-! the model: a line of each sort, more -/
section XFME
variable {d : Nat} {w : List (List xE)} {bd : List (Nat × Nat)} {fc : List (Nat × Nat × Bool)} {rr : Nat × Nat}
set_option maxHeartbeats 60000000 in
theorem mALnX6 {B : Nat → Nat} {nn k p0 : Nat} {at_ : Nat} (hI : xMnv w) (hB : bsm w B nn) (hp0 : p0 = lnP B nn k) (hT : TKM 0 B nn w p0) (hS : MST B nn w k) (hk5 : k ≤ 500) (hs : slt B nn (lnP B nn k) = 6) (hat : at_ = tq B nn p0) : xTo (d + 7) mX12_aLine (43, [], [(2, (0, at_)), (1, (0, 6)), (0, (2, 82))], [], (w, bd, fc, 0, 0, rr)) (fun φ => ∃ w', xEnd 0 [] (w', bd, fc, 0, 0, rr) φ ∧ xMnv w' ∧ xFr [82, 83, 85, 86, 87] w w' ∧ (((∃ q, lnR B nn p0 = (false, q) ∧ WRG w' (tq B nn q)) ∨ ((lnR B nn p0).1 = true ∧ TKM 0 B nn w' (lnP B nn (k + 1)) ∧ MST B nn w' (k + 1))) ∧ K83 w w' ∧ fld w 82 14 ≤ fld w' 82 14)) := by
  refine xoCh82 (hI 82 (by decide) (by decide) : cp82 (wget w 82)) (fun f82_1 f82_3 f82_5 f82_7 f82_9 f82_11 f82_13 f82_15 f82_17 f82_19 f82_21 f82_22 f82_23 f82_25 f82_27 f82_29 h82_31 hb2 hb4 hb6 hb8 hb10 hb12 hb14 hb16 hb18 hb20 hb24 hb26 hb28 hb30 hb32 => ?_)
  refine xoI (hI 85 (by decide) (by decide) : cpI 7 52 4294967295 (wget w 85)) (fun g85_33 h85_34 hb35 => ?_)
  refine xoI (hI 86 (by decide) (by decide) : cpI 140 53 4294967295 (wget w 86)) (fun g86_36 h86_37 hb38 => ?_)
  refine xoI (hI 87 (by decide) (by decide) : cpI 20 54 4294967295 (wget w 87)) (fun g87_39 h87_40 hb41 => ?_)
  obtain ⟨⟨z10, z14, zF, zp⟩, hm, hR⟩ := id hS
  have hkc := lnC_k (B := B) (n := nn) (s := 6) (k := k)
  have hq0 : at_ ≤ 500 := by
    have z1 := tf_gt (B := B) (n := nn) (p := p0) (by rw [slt_kd (by rw [hp0, hs]; decide)]; decide)
    have z2 := hB.1
    omega
  refine xg_t (xg_blk (b := [(43, 1, 0, 0, 0, 0), (44, 3, 1, 12, 11, 17), (47, 1, 2, 1, 0, 0), (48, 1, 10, 0, 0, 0), (49, 1, 15, 3, 0, 0), (50, 1, 2, 3, 0, 0), (51, 1, 2, 1, 0, 0), (52, 3, 13, 194, 98, 193), (55, 3, 6, 64, 2, 0), (58, 1, 0, 0, 0, 0), (59, 1, 3, 3, 0, 0), (60, 1, 2, 2, 0, 0), (61, 3, 13, 115, 96, 186)]) rfl) ?_
  refine xg_t (xg_aload (va := (2, 82)) rfl rfl) ?_
  refine xg_t (xg_getf (va := (2, 85)) h82_31 rfl) ?_
  refine xg_t (xg_iload (va := (0, 6)) rfl rfl) ?_
  refine xg_ialdB (n := 6) (B := 4294967295) h85_34 (hb35) xnm0 (by omega) (fun u42 hu43 he44 => ?_)
  have hK45 : u42 = lnC B nn 6 k := (((rwv_of h85_34 (by decide)).trans he44).symm).trans (hm 6 (by decide))
  have hl46 : u42 ≤ 500 := by omega
  refine xg_t (xg_istore (l1 := [(2, (0, at_)), (1, (0, 6)), (0, (2, 82))]) rfl rfl rfl) ?_
  have jn47 : ∀ (w48 : List (List xE)), xMnv w48 → xFr [82, 83, 85, 86, 87] w w48 → (FP w48 (mf1 B nn k 6 (flA B nn k)) ∧ fld w48 82 10 = 0 ∧ TKM 0 B nn w48 p0 ∧ fld w48 82 14 = k ∧ K83 w w48 ∧ wget w48 85 = wget w 85 ∧ wget w48 86 = wget w 86 ∧ wget w48 87 = wget w 87) → xTo (d + 7) mX12_aLine (64, [], [(0, (2, 82)), (1, (0, 6)), (2, (0, at_)), (3, (0, u42))], [], (w48, bd, fc, 0, 0, rr)) (fun φ => ∃ w', xEnd 0 [] (w', bd, fc, 0, 0, rr) φ ∧ xMnv w' ∧ xFr [82, 83, 85, 86, 87] w w' ∧ (((∃ q, lnR B nn p0 = (false, q) ∧ WRG w' (tq B nn q)) ∨ ((lnR B nn p0).1 = true ∧ TKM 0 B nn w' (lnP B nn (k + 1)) ∧ MST B nn w' (k + 1))) ∧ K83 w w' ∧ fld w 82 14 ≤ fld w' 82 14)) := by
    intro w48 hI49 hF50 he51
    obtain ⟨hj52, hj53, hj54, hj55, hj56, hj57, hj58, hj59⟩ := he51
    refine xg_t (xg_blk (b := [(64, 1, 0, 0, 0, 0), (65, 3, 13, 110, 96, 190), (68, 1, 2, 1, 0, 0), (69, 39, 33, 362, 0, 9)]) rfl) ?_
    refine xg_t (xg_aload (va := (2, 82)) rfl rfl) ?_
    obtain ⟨⟨ht60, ht61, ht62, ht63, ht64, ht65⟩, -⟩ := id hj54
    have hk66 := hj53
    have hk67 := hj55
    refine xoCh82 (hI49 82 (by decide) (by decide) : cp82 (wget w48 82)) (fun f82_68 f82_70 f82_72 f82_74 f82_76 f82_78 f82_80 f82_82 f82_84 f82_86 f82_88 f82_89 f82_90 f82_92 f82_94 f82_96 h82_98 hb69 hb71 hb73 hb75 hb77 hb79 hb81 hb83 hb85 hb87 hb91 hb93 hb95 hb97 hb99 => ?_)
    refine xg_cVv mX12_advance (vs := []) (rest := []) (cn1 := 0) (sl1 := 0) rfl (mAdvX (hI49) (hB.fr (fun j h4 h9 => hj56 j (by omega) (by omega) (by omega))) ht60 ht61 (by rw [ht62]; exact tf_le ht65)) rfl h82_98 rfl rfl rfl rfl rfl rfl (fun w100 hq101 => ?_)
    obtain ⟨hI102, hF103, hx104⟩ := hq101
    obtain ⟨hz105, hz106, hz107⟩ := hx104
    rw [ht62] at hz105
    clear ht60 ht61 ht62 ht63 ht64 ht65
    obtain ⟨p_108, hp109⟩ : ∃ x, x = tf B nn p0 := ⟨_, rfl⟩
    rw [← hp109] at hz105
    have k10_110 := hz106.trans hk66
    have k14_111 := hz107.trans hk67
    clear hz106 hz107 hk66 hk67
    have ln112 : lnR B nn p0 = lnN B nn 6 2 p_108 := by rw [hp109]; exact lnR_go (by rw [hp0]; exact hs) (by decide)
    refine xg_t (xg_iload (va := (0, 6)) rfl rfl) ?_
    refine xg_t (xg_swt (ks := [(0, 108), (1, 116), (2, 180), (3, 221), (4, 273), (5, 326)]) (u := 6) (z := 362) rfl rfl rfl xnm0 (xsw_n (by omega) (xsw_n (by omega) (xsw_n (by omega) (xsw_n (by omega) (xsw_n (by omega) (xsw_n (by omega) (xsw_d)))))))) ?_
    refine xg_t (xg_blk (b := [(362, 1, 3, 0, 0, 0), (363, 2, 15, 4, 0, 0)]) rfl) ?_
    refine xg_t (xg_const) ?_
    refine xg_t (xg_istore (l1 := [(0, (2, 82)), (1, (0, 6)), (2, (0, at_)), (3, (0, u42))]) rfl rfl rfl) ?_
    refine xg_t (xg_blk (b := [(365, 2, 2, 4, 0, 0), (367, 1, 3, 2, 0, 0), (368, 3, 6, 394, 3, 0), (371, 1, 0, 0, 0, 0), (372, 1, 2, 1, 0, 0), (373, 1, 2, 3, 0, 0), (374, 1, 3, 5, 0, 0), (375, 2, 2, 4, 0, 0), (377, 1, 11, 0, 0, 0), (378, 1, 0, 0, 0, 0), (379, 1, 3, 1, 0, 0), (380, 2, 4, 6, 0, 0), (382, 3, 13, 199, 96, 196), (385, 3, 13, 211, 96, 200), (388, 3, 9, 4, 1, 0), (391, 3, 8, 365, 0, 0)]) rfl) ?_
    refine xg_t (xg_iload (va := (0, 0)) rfl rfl) ?_
    refine xg_t (xg_const) ?_
    refine xg_t (xg_icF (u := 0) (v := 2) rfl xnm0 xnm0 (by decide)) ?_
    refine xg_t (xg_aload (va := (2, 82)) rfl rfl) ?_
    refine xg_t (xg_iload (va := (0, 6)) rfl rfl) ?_
    refine xg_t (xg_iload (va := (0, u42)) rfl rfl) ?_
    refine xg_t (xg_const) ?_
    refine xg_t (xg_iload (va := (0, 0)) rfl rfl) ?_
    refine xg_t (xg_iadd (u := 5) (v := 0) (z := 5) xnm0 xnm0 (by decide)) ?_
    refine xg_t (xg_aload (va := (2, 82)) rfl rfl) ?_
    refine xg_t (xg_const) ?_
    refine xg_t (xg_bip) ?_
    have hk113 := k14_111
    refine xoCh82 (hI102 82 (by decide) (by decide) : cp82 (wget w100 82)) (fun f82_114 f82_116 f82_118 f82_120 f82_122 f82_124 f82_126 f82_128 f82_130 f82_132 f82_134 f82_135 f82_136 f82_138 f82_140 f82_142 h82_144 hb115 hb117 hb119 hb121 hb123 hb125 hb127 hb129 hb131 hb133 hb137 hb139 hb141 hb143 hb145 => ?_)
    refine xg_cVi mX12_numbered (vs := [(0, 1), (0, 6)]) (rest := [(0, 5), (0, u42), (0, 6), (2, 82)]) (cn1 := 0) (sl1 := 0) rfl (mNumX (ir := 0) (hI102) (by omega) (by omega) (hB.fr (fun j h4 h9 => (hj56.tr (K83.fr hF103 (by decide))) j (by omega) (by omega) (by omega))) k10_110 hz105 (hj52.k83 (rwv_eq (hF103.1 83 (by decide))) (rwv_eq (hF103.1 83 (by decide))))) rfl h82_144 rfl rfl rfl rfl rfl rfl (fun n150 w146 hq147 => ?_)
    obtain ⟨hn151, hI148, hF149⟩ := hq147
    obtain ⟨hx154, h14_152, k8_153⟩ := hn151
    have k14_155 := h14_152.trans hk113
    rcases hx154 with ⟨rfl, hk156, hW157⟩ | ⟨hv158, h9_159, hk156, k10_160, hT_161, hF_162⟩
    · have lf163 : lnR B nn p0 = (false, p_108) := ln112.trans (lnN_n (k := 1) hk156)
      refine xoCh82 (hI148 82 (by decide) (by decide) : cp82 (wget w146 82)) (fun f82_164 f82_166 f82_168 f82_170 f82_172 f82_174 f82_176 f82_178 f82_180 f82_182 f82_184 f82_185 f82_186 f82_188 f82_190 f82_192 h82_194 hb165 hb167 hb169 hb171 hb173 hb175 hb177 hb179 hb181 hb183 hb187 hb189 hb191 hb193 hb195 => ?_)
      refine xg_cVv mX12_puts (vs := [(0, 6), (0, u42), (0, 5), (0, 0)]) (rest := []) (cn1 := 0) (sl1 := 0) rfl (mPuts6 (hI148) (by omega) (by omega) (by omega) (fun _ => by omega)) rfl h82_194 rfl rfl rfl rfl rfl rfl (fun w196 hq197 => ?_)
      obtain ⟨hI198, hF199, hx200⟩ := hq197
      obtain ⟨hp201, hp202⟩ := hx200
      refine xg_t (xg_iinc (u := 0) (z := 1) (l1 := [(0, (2, 82)), (1, (0, 6)), (2, (0, at_)), (3, (0, u42))]) rfl rfl (by decide) rfl) ?_
      refine xg_t (xg_goto) ?_
      refine xg_t (xg_blk (b := [(365, 2, 2, 4, 0, 0), (367, 1, 3, 2, 0, 0), (368, 3, 6, 394, 3, 0), (371, 1, 0, 0, 0, 0), (372, 1, 2, 1, 0, 0), (373, 1, 2, 3, 0, 0), (374, 1, 3, 5, 0, 0), (375, 2, 2, 4, 0, 0), (377, 1, 11, 0, 0, 0), (378, 1, 0, 0, 0, 0), (379, 1, 3, 1, 0, 0), (380, 2, 4, 6, 0, 0), (382, 3, 13, 199, 96, 196), (385, 3, 13, 211, 96, 200), (388, 3, 9, 4, 1, 0), (391, 3, 8, 365, 0, 0)]) rfl) ?_
      refine xg_t (xg_iload (va := (0, 1)) rfl rfl) ?_
      refine xg_t (xg_const) ?_
      refine xg_t (xg_icF (u := 1) (v := 2) rfl xnm0 xnm0 (by decide)) ?_
      refine xg_t (xg_aload (va := (2, 82)) rfl rfl) ?_
      refine xg_t (xg_iload (va := (0, 6)) rfl rfl) ?_
      refine xg_t (xg_iload (va := (0, u42)) rfl rfl) ?_
      refine xg_t (xg_const) ?_
      refine xg_t (xg_iload (va := (0, 1)) rfl rfl) ?_
      refine xg_t (xg_iadd (u := 5) (v := 1) (z := 6) xnm0 xnm0 (by decide)) ?_
      refine xg_t (xg_aload (va := (2, 82)) rfl rfl) ?_
      refine xg_t (xg_const) ?_
      refine xg_t (xg_bip) ?_
      refine xg_cVi mX12_numbered (vs := [(0, 1), (0, 6)]) (rest := [(0, 6), (0, u42), (0, 6), (2, 82)]) (cn1 := 0) (sl1 := 0) rfl (mNumW (hI198) (by omega) (by omega) (by have q := hW157.1; have q2 := fld_eq (j := 10) (hF199.1 82 (by decide)); omega)) rfl (hF199.get (by decide) h82_194) rfl rfl rfl rfl rfl rfl (fun n207 w203 hq204 => ?_)
      obtain ⟨hn208, hI205, hF206⟩ := hq204
      obtain rfl := hn208
      refine xg_cVv mX12_puts (vs := [(0, 6), (0, u42), (0, 6), (0, 0)]) (rest := []) (cn1 := 0) (sl1 := 0) rfl (mPuts6 (hI205) (by omega) (by omega) (by omega) (fun _ => by omega)) rfl (hF206.get (by decide) (hF199.get (by decide) h82_194)) rfl rfl rfl rfl rfl rfl (fun w209 hq210 => ?_)
      obtain ⟨hI211, hF212, hx213⟩ := hq210
      obtain ⟨hp214, hp215⟩ := hx213
      refine xg_t (xg_iinc (u := 1) (z := 2) (l1 := [(0, (2, 82)), (1, (0, 6)), (2, (0, at_)), (3, (0, u42))]) rfl rfl (by decide) rfl) ?_
      refine xg_t (xg_goto) ?_
      refine xg_t (xg_blk (b := [(365, 2, 2, 4, 0, 0), (367, 1, 3, 2, 0, 0), (368, 3, 6, 394, 3, 0), (371, 1, 0, 0, 0, 0), (372, 1, 2, 1, 0, 0), (373, 1, 2, 3, 0, 0), (374, 1, 3, 5, 0, 0), (375, 2, 2, 4, 0, 0), (377, 1, 11, 0, 0, 0), (378, 1, 0, 0, 0, 0), (379, 1, 3, 1, 0, 0), (380, 2, 4, 6, 0, 0), (382, 3, 13, 199, 96, 196), (385, 3, 13, 211, 96, 200), (388, 3, 9, 4, 1, 0), (391, 3, 8, 365, 0, 0)]) rfl) ?_
      refine xg_t (xg_iload (va := (0, 2)) rfl rfl) ?_
      refine xg_t (xg_const) ?_
      refine xg_t (xg_icT (u := 2) (v := 2) rfl xnm0 xnm0 (by decide)) ?_
      refine xg_t (xg_blk (b := [(394, 1, 0, 0, 0, 0), (395, 3, 1, 12, 10, 180), (398, 3, 7, 416, 1, 0), (401, 1, 0, 0, 0, 0), (402, 3, 1, 12, 7, 151), (405, 1, 3, 2, 0, 0), (406, 3, 6, 416, 1, 0), (409, 1, 0, 0, 0, 0), (410, 3, 13, 110, 96, 190), (413, 3, 8, 420, 0, 0)]) rfl) ?_
      refine xg_t (xg_aload (va := (2, 82)) rfl rfl) ?_
      refine xg_t (xg_getf (va := (0, f82_180)) (hF212.get (by decide) (hF206.get (by decide) (hF199.get (by decide) h82_194))) rfl) ?_
      have hf216 : fld w209 82 10 = f82_180 := fld_of (hF212.get (by decide) (hF206.get (by decide) (hF199.get (by decide) h82_194)))
      have hk217 : fld w209 82 10 ≠ 0 := (by have q := hW157.1; have q2 := fld_eq (j := 10) ((hF212.1 82 (by decide)).trans ((hF206.1 82 (by decide)).trans (hF199.1 82 (by decide)))); omega)
      refine xg_t (xg_ifT (u := f82_180) rfl xnm0 (xj_neT (by omega))) ?_
      refine xg_t (xg_blk (b := [(416, 1, 0, 0, 0, 0), (417, 3, 13, 140, 96, 183)]) rfl) ?_
      refine xg_t (xg_aload (va := (2, 82)) rfl rfl) ?_
      refine xg_cVv mX12_ends (vs := []) (rest := []) (cn1 := 0) (sl1 := 0) rfl (mEndsW (hI211) (by have q := hW157.1; have q2 := fld_eq (j := 10) ((hF212.1 82 (by decide)).trans ((hF206.1 82 (by decide)).trans (hF199.1 82 (by decide)))); omega)) rfl (hF212.get (by decide) (hF206.get (by decide) (hF199.get (by decide) h82_194))) rfl rfl rfl rfl rfl rfl (fun w218 hq219 => ?_)
      obtain ⟨hI220, hF221⟩ := hq219
      refine xg_t (xg_blk (b := [(420, 1, 0, 0, 0, 0), (421, 3, 1, 12, 11, 17), (424, 1, 2, 1, 0, 0), (425, 1, 39, 0, 0, 0), (426, 1, 10, 0, 0, 0), (427, 1, 3, 1, 0, 0), (428, 1, 11, 0, 0, 0), (429, 1, 17, 0, 0, 0), (430, 1, 0, 0, 0, 0), (431, 1, 19, 0, 0, 0), (432, 3, 1, 12, 14, 212), (435, 1, 3, 1, 0, 0), (436, 1, 11, 0, 0, 0), (437, 3, 14, 12, 14, 212), (440, 1, 12, 0, 0, 0)]) rfl) ?_
      have hf222 : fld w218 82 2 = f82_164 := fld_of (hF221.get (by decide) (hF212.get (by decide) (hF206.get (by decide) (hF199.get (by decide) h82_194))))
      have hf223 : fld w218 82 3 = f82_166 := fld_of (hF221.get (by decide) (hF212.get (by decide) (hF206.get (by decide) (hF199.get (by decide) h82_194))))
      have hf224 : fld w218 82 4 = f82_168 := fld_of (hF221.get (by decide) (hF212.get (by decide) (hF206.get (by decide) (hF199.get (by decide) h82_194))))
      have hf225 : fld w218 82 5 = f82_170 := fld_of (hF221.get (by decide) (hF212.get (by decide) (hF206.get (by decide) (hF199.get (by decide) h82_194))))
      have hf226 : fld w218 82 6 = f82_172 := fld_of (hF221.get (by decide) (hF212.get (by decide) (hF206.get (by decide) (hF199.get (by decide) h82_194))))
      have hf227 : fld w218 82 7 = f82_174 := fld_of (hF221.get (by decide) (hF212.get (by decide) (hF206.get (by decide) (hF199.get (by decide) h82_194))))
      have hf228 : fld w218 82 8 = f82_176 := fld_of (hF221.get (by decide) (hF212.get (by decide) (hF206.get (by decide) (hF199.get (by decide) h82_194))))
      have hf229 : fld w218 82 9 = f82_178 := fld_of (hF221.get (by decide) (hF212.get (by decide) (hF206.get (by decide) (hF199.get (by decide) h82_194))))
      have hf230 : fld w218 82 10 = f82_180 := fld_of (hF221.get (by decide) (hF212.get (by decide) (hF206.get (by decide) (hF199.get (by decide) h82_194))))
      have hf231 : fld w218 82 14 = f82_182 := fld_of (hF221.get (by decide) (hF212.get (by decide) (hF206.get (by decide) (hF199.get (by decide) h82_194))))
      have hk232 := ((fld_eq (j := 14) ((hF221.1 82 (by decide)).trans ((hF212.1 82 (by decide)).trans ((hF206.1 82 (by decide)).trans (hF199.1 82 (by decide)))))).trans k14_155)
      have hl233 : f82_182 ≤ 500 := by omega
      have hk234 : WRG w218 (tq B nn p_108) := ⟨(fld_eq (j := 10) ((hF221.1 82 (by decide)).trans ((hF212.1 82 (by decide)).trans ((hF206.1 82 (by decide)).trans (hF199.1 82 (by decide)))))).trans hW157.1, (rwv_eq (j := 16) ((hF221.1 83 (by decide)).trans ((hF212.1 83 (by decide)).trans ((hF206.1 83 (by decide)).trans (hF199.1 83 (by decide)))))).trans hW157.2.1, (rwv_eq (j := 17) ((hF221.1 83 (by decide)).trans ((hF212.1 83 (by decide)).trans ((hF206.1 83 (by decide)).trans (hF199.1 83 (by decide)))))).trans hW157.2.2⟩
      refine xg_t (xg_aload (va := (2, 82)) rfl rfl) ?_
      refine xg_t (xg_getf (va := (2, 85)) (hF221.get (by decide) (hF212.get (by decide) (hF206.get (by decide) (hF199.get (by decide) h82_194)))) rfl) ?_
      refine xg_t (xg_iload (va := (0, 6)) rfl rfl) ?_
      refine xg_t (xg_dup2 rfl) ?_
      refine xoI (hI220 85 (by decide) (by decide) : cpI 7 52 4294967295 (wget w218 85)) (fun g85_235 h85_236 hb237 => ?_)
      refine xg_ialdB (n := 6) (B := 4294967295) h85_236 (hb237) xnm0 (by omega) (fun u238 hu239 he240 => ?_)
      have hK241 : u238 = u42 := (((rwv_of h85_236 (by decide)).trans he240).symm.trans (rwv_eq ((hF221.1 85 (by decide)).trans ((hF212.1 85 (by decide)).trans ((hF206.1 85 (by decide)).trans ((hF199.1 85 (by decide)).trans ((hF149.1 85 (by decide)).trans ((hF103.1 85 (by decide)).trans hj57)))))))).trans ((hm 6 (by decide)).trans hK45.symm)
      have hl242 : u238 ≤ 500 := by omega
      refine xg_t (xg_const) ?_
      refine xg_t (xg_iadd (u := u238) (v := 1) (z := u238 + 1) xnm0 xnm0 (by omega)) ?_
      refine xg_iastK (n := 6) (u := u238 + 1) h85_236 xnm0 xnm0 rfl (by omega) (fun w243 hr244 hb245 => ?_)
      refine xg_t (xg_aload (va := (2, 82)) rfl rfl) ?_
      refine xg_t (xg_dup rfl) ?_
      refine xg_t (xg_getf (va := (0, f82_182)) (hb245.get (by decide) (hF221.get (by decide) (hF212.get (by decide) (hF206.get (by decide) (hF199.get (by decide) h82_194))))) rfl) ?_
      have hn246 := id hb183
      unfold xHid at hn246
      refine xg_t (xg_const) ?_
      refine xg_t (xg_iadd (u := f82_182) (v := 1) (z := f82_182 + 1) xnm0 xnm0 (by omega)) ?_
      refine xg_putI (fl1 := [(2, 83), (2, 84), (0, f82_164), (0, f82_166), (0, f82_168), (0, f82_170), (0, f82_172), (0, f82_174), (0, f82_176), (0, f82_178), (0, f82_180), (2, 85), (2, 86), (2, 87), (0, f82_182 + 1), (2, 88), (2, 89), (2, 90), (2, 91), (2, 92), (2, 93), (2, 94), (4, f82_184), (4, f82_185), (0, f82_186), (2, 95), (2, 96), (2, 97), (2, 98), (2, 99), (2, 100), (2, 101), (2, 102), (0, f82_188), (2, 103), (2, 104), (2, 105), (2, 106), (2, 107), (2, 108), (2, 109), (0, f82_190), (0, f82_192), (2, 110), (2, 111), (2, 112), (2, 113)]) (hb245.get (by decide) (hF221.get (by decide) (hF212.get (by decide) (hF206.get (by decide) (hF199.get (by decide) h82_194))))) rfl rfl rfl (fun w247 hk248 hb249 => ?_)
      have hf250 : fld w247 82 2 = f82_164 := fld_of hk248
      have hf251 : fld w247 82 3 = f82_166 := fld_of hk248
      have hf252 : fld w247 82 4 = f82_168 := fld_of hk248
      have hf253 : fld w247 82 5 = f82_170 := fld_of hk248
      have hf254 : fld w247 82 6 = f82_172 := fld_of hk248
      have hf255 : fld w247 82 7 = f82_174 := fld_of hk248
      have hf256 : fld w247 82 8 = f82_176 := fld_of hk248
      have hf257 : fld w247 82 9 = f82_178 := fld_of hk248
      have hf258 : fld w247 82 10 = f82_180 := fld_of hk248
      have hf259 : fld w247 82 14 = f82_182 + 1 := fld_of hk248
      exact xg_e ⟨w247, ⟨rfl, rfl⟩, xMnv.up (S := [85, 82]) hI220 ((xFr.of (S := [85, 82]) hb245 (by decide)).tr (xFr.of (S := [85, 82]) hb249 (by decide))) (List.forall_mem_cons.mpr ⟨(show cpI 7 52 4294967295 (wget w247 85) from ⟨_, (hr244.but hb249 (by decide)), xrb (by omega) (hb237)⟩), List.forall_mem_cons.mpr ⟨(show cp82 (wget w247 82) from ⟨f82_164, f82_166, f82_168, f82_170, f82_172, f82_174, f82_176, f82_178, f82_180, f82_182 + 1, f82_184, f82_185, f82_186, f82_188, f82_190, f82_192, hk248, by omega, hb167, by omega, by omega, hb173, by omega, hb177, hb179, by omega, by omega, hb187, hb189, hb191, hb193, by omega⟩), fun _ h => absurd h List.not_mem_nil⟩⟩), (((((((hF50.tr (hF103.up (by decide))).tr (hF149.up (by decide))).tr (hF199.up (by decide))).tr (hF206.up (by decide))).tr (hF212.up (by decide))).tr (hF221.up (by decide))).tr ((xFr.of (S := [82, 83, 85, 86, 87]) hb245 (by decide)).tr (xFr.of (S := [82, 83, 85, 86, 87]) hb249 (by decide)))), ⟨Or.inl ⟨p_108, lf163, ⟨by have z := hk234.1; omega, (rwv_eq (j := 16) ((hb249.1 83 (by decide)).trans (hb245.1 83 (by decide)))).trans hk234.2.1, (rwv_eq (j := 17) ((hb249.1 83 (by decide)).trans (hb245.1 83 (by decide)))).trans hk234.2.2⟩⟩, ((((((((hj56.tr (K83.fr hF103 (by decide))).tr k8_153).tr (K83.fr hF199 (by decide))).tr (K83.fr hF206 (by decide))).tr (K83.fr hF212 (by decide))).tr (K83.fr hF221 (by decide))).tr (K83.but hb245 (by decide))).tr (K83.but hb249 (by decide))), by omega⟩⟩
    · obtain ⟨p_260, hp261⟩ : ∃ x, x = tf B nn p_108 := ⟨_, rfl⟩
      rw [← hp261] at hT_161
      have ln262 : lnR B nn p0 = lnN B nn 6 1 p_260 := by rw [hp261]; exact ln112.trans (lnN_y (k := 1) hk156)
      have vp263 : vlp B nn (lnP B nn k) 0 = p_108 := by rw [← hp0]; exact hp109.symm
      have vl264 : vln B nn (lnP B nn k) 0 = tnu B nn p_108 := by
        show (if (0 : Nat) = 3 then _ else tnu B nn (vlp B nn (lnP B nn k) 0)) = _
        rw [if_neg (by decide), vp263]
      have he266 : (chk (mf1 B nn k 6 (flA B nn k)) 1 6 (tnu B nn p_108) (tq B nn p_108)) = (mf2 B nn k 6 (flA B nn k)) := by show _ = chk (mf1 B nn k 6 (flA B nn k)) 1 6 (vln B nn (lnP B nn k) 0) (tq B nn (vlp B nn (lnP B nn k) 0)); rw [vl264, vp263]
      have hF_265 := hF_162
      rw [he266] at hF_265
      have he268 : (mf2 B nn k 6 (flA B nn k)) = (mf3 B nn k 6 (flA B nn k)) := rfl
      have hF_267 := hF_265
      rw [he268] at hF_267
      refine xoCh82 (hI148 82 (by decide) (by decide) : cp82 (wget w146 82)) (fun f82_269 f82_271 f82_273 f82_275 f82_277 f82_279 f82_281 f82_283 f82_285 f82_287 f82_289 f82_290 f82_291 f82_293 f82_295 f82_297 h82_299 hb270 hb272 hb274 hb276 hb278 hb280 hb282 hb284 hb286 hb288 hb292 hb294 hb296 hb298 hb300 => ?_)
      refine xg_cVv mX12_puts (vs := [(0, 6), (0, u42), (0, 5), (0, n150)]) (rest := []) (cn1 := 0) (sl1 := 0) rfl (mPuts6 (hI148) (by omega) (by omega) (by omega) (fun _ => by omega)) rfl h82_299 rfl rfl rfl rfl rfl rfl (fun w301 hq302 => ?_)
      obtain ⟨hI303, hF304, hx305⟩ := hq302
      obtain ⟨hp306, hp307⟩ := hx305
      refine xg_t (xg_iinc (u := 0) (z := 1) (l1 := [(0, (2, 82)), (1, (0, 6)), (2, (0, at_)), (3, (0, u42))]) rfl rfl (by decide) rfl) ?_
      refine xg_t (xg_goto) ?_
      refine xg_t (xg_blk (b := [(365, 2, 2, 4, 0, 0), (367, 1, 3, 2, 0, 0), (368, 3, 6, 394, 3, 0), (371, 1, 0, 0, 0, 0), (372, 1, 2, 1, 0, 0), (373, 1, 2, 3, 0, 0), (374, 1, 3, 5, 0, 0), (375, 2, 2, 4, 0, 0), (377, 1, 11, 0, 0, 0), (378, 1, 0, 0, 0, 0), (379, 1, 3, 1, 0, 0), (380, 2, 4, 6, 0, 0), (382, 3, 13, 199, 96, 196), (385, 3, 13, 211, 96, 200), (388, 3, 9, 4, 1, 0), (391, 3, 8, 365, 0, 0)]) rfl) ?_
      refine xg_t (xg_iload (va := (0, 1)) rfl rfl) ?_
      refine xg_t (xg_const) ?_
      refine xg_t (xg_icF (u := 1) (v := 2) rfl xnm0 xnm0 (by decide)) ?_
      refine xg_t (xg_aload (va := (2, 82)) rfl rfl) ?_
      refine xg_t (xg_iload (va := (0, 6)) rfl rfl) ?_
      refine xg_t (xg_iload (va := (0, u42)) rfl rfl) ?_
      refine xg_t (xg_const) ?_
      refine xg_t (xg_iload (va := (0, 1)) rfl rfl) ?_
      refine xg_t (xg_iadd (u := 5) (v := 1) (z := 6) xnm0 xnm0 (by decide)) ?_
      refine xg_t (xg_aload (va := (2, 82)) rfl rfl) ?_
      refine xg_t (xg_const) ?_
      refine xg_t (xg_bip) ?_
      have hk308 := ((fld_eq (j := 14) (hF304.1 82 (by decide))).trans k14_155)
      refine xg_cVi mX12_numbered (vs := [(0, 1), (0, 6)]) (rest := [(0, 6), (0, u42), (0, 6), (2, 82)]) (cn1 := 0) (sl1 := 0) rfl (mNumX (ir := 0) (hI303) (by omega) (by omega) (hB.fr (fun j h4 h9 => (((hj56.tr (K83.fr hF103 (by decide))).tr k8_153).tr (K83.fr hF304 (by decide))) j (by omega) (by omega) (by omega))) ((fld_eq (j := 10) (hF304.1 82 (by decide))).trans k10_160) (hT_161.fr (hF304.1 82 (by decide))) (hF_267.k83 (rwv_eq (hF304.1 83 (by decide))) (rwv_eq (hF304.1 83 (by decide))))) rfl (hF304.get (by decide) h82_299) rfl rfl rfl rfl rfl rfl (fun n313 w309 hq310 => ?_)
      obtain ⟨hn314, hI311, hF312⟩ := hq310
      obtain ⟨hx317, h14_315, k8_316⟩ := hn314
      have k14_318 := h14_315.trans hk308
      rcases hx317 with ⟨rfl, hk319, hW320⟩ | ⟨hv321, h9_322, hk319, k10_323, hT_324, hF_325⟩
      · have lf326 : lnR B nn p0 = (false, p_260) := ln262.trans (lnN_n (k := 0) hk319)
        refine xoCh82 (hI311 82 (by decide) (by decide) : cp82 (wget w309 82)) (fun f82_327 f82_329 f82_331 f82_333 f82_335 f82_337 f82_339 f82_341 f82_343 f82_345 f82_347 f82_348 f82_349 f82_351 f82_353 f82_355 h82_357 hb328 hb330 hb332 hb334 hb336 hb338 hb340 hb342 hb344 hb346 hb350 hb352 hb354 hb356 hb358 => ?_)
        refine xg_cVv mX12_puts (vs := [(0, 6), (0, u42), (0, 6), (0, 0)]) (rest := []) (cn1 := 0) (sl1 := 0) rfl (mPuts6 (hI311) (by omega) (by omega) (by omega) (fun _ => by omega)) rfl h82_357 rfl rfl rfl rfl rfl rfl (fun w359 hq360 => ?_)
        obtain ⟨hI361, hF362, hx363⟩ := hq360
        obtain ⟨hp364, hp365⟩ := hx363
        refine xg_t (xg_iinc (u := 1) (z := 2) (l1 := [(0, (2, 82)), (1, (0, 6)), (2, (0, at_)), (3, (0, u42))]) rfl rfl (by decide) rfl) ?_
        refine xg_t (xg_goto) ?_
        refine xg_t (xg_blk (b := [(365, 2, 2, 4, 0, 0), (367, 1, 3, 2, 0, 0), (368, 3, 6, 394, 3, 0), (371, 1, 0, 0, 0, 0), (372, 1, 2, 1, 0, 0), (373, 1, 2, 3, 0, 0), (374, 1, 3, 5, 0, 0), (375, 2, 2, 4, 0, 0), (377, 1, 11, 0, 0, 0), (378, 1, 0, 0, 0, 0), (379, 1, 3, 1, 0, 0), (380, 2, 4, 6, 0, 0), (382, 3, 13, 199, 96, 196), (385, 3, 13, 211, 96, 200), (388, 3, 9, 4, 1, 0), (391, 3, 8, 365, 0, 0)]) rfl) ?_
        refine xg_t (xg_iload (va := (0, 2)) rfl rfl) ?_
        refine xg_t (xg_const) ?_
        refine xg_t (xg_icT (u := 2) (v := 2) rfl xnm0 xnm0 (by decide)) ?_
        refine xg_t (xg_blk (b := [(394, 1, 0, 0, 0, 0), (395, 3, 1, 12, 10, 180), (398, 3, 7, 416, 1, 0), (401, 1, 0, 0, 0, 0), (402, 3, 1, 12, 7, 151), (405, 1, 3, 2, 0, 0), (406, 3, 6, 416, 1, 0), (409, 1, 0, 0, 0, 0), (410, 3, 13, 110, 96, 190), (413, 3, 8, 420, 0, 0)]) rfl) ?_
        refine xg_t (xg_aload (va := (2, 82)) rfl rfl) ?_
        refine xg_t (xg_getf (va := (0, f82_343)) (hF362.get (by decide) h82_357) rfl) ?_
        have hf366 : fld w359 82 10 = f82_343 := fld_of (hF362.get (by decide) h82_357)
        have hk367 : fld w359 82 10 ≠ 0 := (by have q := hW320.1; have q2 := fld_eq (j := 10) (hF362.1 82 (by decide)); omega)
        refine xg_t (xg_ifT (u := f82_343) rfl xnm0 (xj_neT (by omega))) ?_
        refine xg_t (xg_blk (b := [(416, 1, 0, 0, 0, 0), (417, 3, 13, 140, 96, 183)]) rfl) ?_
        refine xg_t (xg_aload (va := (2, 82)) rfl rfl) ?_
        refine xg_cVv mX12_ends (vs := []) (rest := []) (cn1 := 0) (sl1 := 0) rfl (mEndsW (hI361) (by have q := hW320.1; have q2 := fld_eq (j := 10) (hF362.1 82 (by decide)); omega)) rfl (hF362.get (by decide) h82_357) rfl rfl rfl rfl rfl rfl (fun w368 hq369 => ?_)
        obtain ⟨hI370, hF371⟩ := hq369
        refine xg_t (xg_blk (b := [(420, 1, 0, 0, 0, 0), (421, 3, 1, 12, 11, 17), (424, 1, 2, 1, 0, 0), (425, 1, 39, 0, 0, 0), (426, 1, 10, 0, 0, 0), (427, 1, 3, 1, 0, 0), (428, 1, 11, 0, 0, 0), (429, 1, 17, 0, 0, 0), (430, 1, 0, 0, 0, 0), (431, 1, 19, 0, 0, 0), (432, 3, 1, 12, 14, 212), (435, 1, 3, 1, 0, 0), (436, 1, 11, 0, 0, 0), (437, 3, 14, 12, 14, 212), (440, 1, 12, 0, 0, 0)]) rfl) ?_
        have hf372 : fld w368 82 2 = f82_327 := fld_of (hF371.get (by decide) (hF362.get (by decide) h82_357))
        have hf373 : fld w368 82 3 = f82_329 := fld_of (hF371.get (by decide) (hF362.get (by decide) h82_357))
        have hf374 : fld w368 82 4 = f82_331 := fld_of (hF371.get (by decide) (hF362.get (by decide) h82_357))
        have hf375 : fld w368 82 5 = f82_333 := fld_of (hF371.get (by decide) (hF362.get (by decide) h82_357))
        have hf376 : fld w368 82 6 = f82_335 := fld_of (hF371.get (by decide) (hF362.get (by decide) h82_357))
        have hf377 : fld w368 82 7 = f82_337 := fld_of (hF371.get (by decide) (hF362.get (by decide) h82_357))
        have hf378 : fld w368 82 8 = f82_339 := fld_of (hF371.get (by decide) (hF362.get (by decide) h82_357))
        have hf379 : fld w368 82 9 = f82_341 := fld_of (hF371.get (by decide) (hF362.get (by decide) h82_357))
        have hf380 : fld w368 82 10 = f82_343 := fld_of (hF371.get (by decide) (hF362.get (by decide) h82_357))
        have hf381 : fld w368 82 14 = f82_345 := fld_of (hF371.get (by decide) (hF362.get (by decide) h82_357))
        have hk382 := ((fld_eq (j := 14) ((hF371.1 82 (by decide)).trans (hF362.1 82 (by decide)))).trans k14_318)
        have hl383 : f82_345 ≤ 500 := by omega
        have hk384 : WRG w368 (tq B nn p_260) := ⟨(fld_eq (j := 10) ((hF371.1 82 (by decide)).trans (hF362.1 82 (by decide)))).trans hW320.1, (rwv_eq (j := 16) ((hF371.1 83 (by decide)).trans (hF362.1 83 (by decide)))).trans hW320.2.1, (rwv_eq (j := 17) ((hF371.1 83 (by decide)).trans (hF362.1 83 (by decide)))).trans hW320.2.2⟩
        refine xg_t (xg_aload (va := (2, 82)) rfl rfl) ?_
        refine xg_t (xg_getf (va := (2, 85)) (hF371.get (by decide) (hF362.get (by decide) h82_357)) rfl) ?_
        refine xg_t (xg_iload (va := (0, 6)) rfl rfl) ?_
        refine xg_t (xg_dup2 rfl) ?_
        refine xoI (hI370 85 (by decide) (by decide) : cpI 7 52 4294967295 (wget w368 85)) (fun g85_385 h85_386 hb387 => ?_)
        refine xg_ialdB (n := 6) (B := 4294967295) h85_386 (hb387) xnm0 (by omega) (fun u388 hu389 he390 => ?_)
        have hK391 : u388 = u42 := (((rwv_of h85_386 (by decide)).trans he390).symm.trans (rwv_eq ((hF371.1 85 (by decide)).trans ((hF362.1 85 (by decide)).trans ((hF312.1 85 (by decide)).trans ((hF304.1 85 (by decide)).trans ((hF149.1 85 (by decide)).trans ((hF103.1 85 (by decide)).trans hj57)))))))).trans ((hm 6 (by decide)).trans hK45.symm)
        have hl392 : u388 ≤ 500 := by omega
        refine xg_t (xg_const) ?_
        refine xg_t (xg_iadd (u := u388) (v := 1) (z := u388 + 1) xnm0 xnm0 (by omega)) ?_
        refine xg_iastK (n := 6) (u := u388 + 1) h85_386 xnm0 xnm0 rfl (by omega) (fun w393 hr394 hb395 => ?_)
        refine xg_t (xg_aload (va := (2, 82)) rfl rfl) ?_
        refine xg_t (xg_dup rfl) ?_
        refine xg_t (xg_getf (va := (0, f82_345)) (hb395.get (by decide) (hF371.get (by decide) (hF362.get (by decide) h82_357))) rfl) ?_
        have hn396 := id hb346
        unfold xHid at hn396
        refine xg_t (xg_const) ?_
        refine xg_t (xg_iadd (u := f82_345) (v := 1) (z := f82_345 + 1) xnm0 xnm0 (by omega)) ?_
        refine xg_putI (fl1 := [(2, 83), (2, 84), (0, f82_327), (0, f82_329), (0, f82_331), (0, f82_333), (0, f82_335), (0, f82_337), (0, f82_339), (0, f82_341), (0, f82_343), (2, 85), (2, 86), (2, 87), (0, f82_345 + 1), (2, 88), (2, 89), (2, 90), (2, 91), (2, 92), (2, 93), (2, 94), (4, f82_347), (4, f82_348), (0, f82_349), (2, 95), (2, 96), (2, 97), (2, 98), (2, 99), (2, 100), (2, 101), (2, 102), (0, f82_351), (2, 103), (2, 104), (2, 105), (2, 106), (2, 107), (2, 108), (2, 109), (0, f82_353), (0, f82_355), (2, 110), (2, 111), (2, 112), (2, 113)]) (hb395.get (by decide) (hF371.get (by decide) (hF362.get (by decide) h82_357))) rfl rfl rfl (fun w397 hk398 hb399 => ?_)
        have hf400 : fld w397 82 2 = f82_327 := fld_of hk398
        have hf401 : fld w397 82 3 = f82_329 := fld_of hk398
        have hf402 : fld w397 82 4 = f82_331 := fld_of hk398
        have hf403 : fld w397 82 5 = f82_333 := fld_of hk398
        have hf404 : fld w397 82 6 = f82_335 := fld_of hk398
        have hf405 : fld w397 82 7 = f82_337 := fld_of hk398
        have hf406 : fld w397 82 8 = f82_339 := fld_of hk398
        have hf407 : fld w397 82 9 = f82_341 := fld_of hk398
        have hf408 : fld w397 82 10 = f82_343 := fld_of hk398
        have hf409 : fld w397 82 14 = f82_345 + 1 := fld_of hk398
        exact xg_e ⟨w397, ⟨rfl, rfl⟩, xMnv.up (S := [85, 82]) hI370 ((xFr.of (S := [85, 82]) hb395 (by decide)).tr (xFr.of (S := [85, 82]) hb399 (by decide))) (List.forall_mem_cons.mpr ⟨(show cpI 7 52 4294967295 (wget w397 85) from ⟨_, (hr394.but hb399 (by decide)), xrb (by omega) (hb387)⟩), List.forall_mem_cons.mpr ⟨(show cp82 (wget w397 82) from ⟨f82_327, f82_329, f82_331, f82_333, f82_335, f82_337, f82_339, f82_341, f82_343, f82_345 + 1, f82_347, f82_348, f82_349, f82_351, f82_353, f82_355, hk398, by omega, hb330, by omega, by omega, hb336, by omega, hb340, hb342, by omega, by omega, hb350, hb352, hb354, hb356, by omega⟩), fun _ h => absurd h List.not_mem_nil⟩⟩), (((((((hF50.tr (hF103.up (by decide))).tr (hF149.up (by decide))).tr (hF304.up (by decide))).tr (hF312.up (by decide))).tr (hF362.up (by decide))).tr (hF371.up (by decide))).tr ((xFr.of (S := [82, 83, 85, 86, 87]) hb395 (by decide)).tr (xFr.of (S := [82, 83, 85, 86, 87]) hb399 (by decide)))), ⟨Or.inl ⟨p_260, lf326, ⟨by have z := hk384.1; omega, (rwv_eq (j := 16) ((hb399.1 83 (by decide)).trans (hb395.1 83 (by decide)))).trans hk384.2.1, (rwv_eq (j := 17) ((hb399.1 83 (by decide)).trans (hb395.1 83 (by decide)))).trans hk384.2.2⟩⟩, ((((((((hj56.tr (K83.fr hF103 (by decide))).tr k8_153).tr (K83.fr hF304 (by decide))).tr k8_316).tr (K83.fr hF362 (by decide))).tr (K83.fr hF371 (by decide))).tr (K83.but hb395 (by decide))).tr (K83.but hb399 (by decide))), by omega⟩⟩
      · obtain ⟨p_410, hp411⟩ : ∃ x, x = tf B nn p_260 := ⟨_, rfl⟩
        rw [← hp411] at hT_324
        have ln412 : lnR B nn p0 = lnN B nn 6 0 p_410 := by rw [hp411]; exact ln262.trans (lnN_y (k := 0) hk319)
        have vp413 : vlp B nn (lnP B nn k) 1 = p_260 := by show tf B nn (vlp B nn (lnP B nn k) 0) = p_260; rw [vp263]; exact hp261.symm
        have vl414 : vln B nn (lnP B nn k) 1 = tnu B nn p_260 := by
          show (if (1 : Nat) = 3 then _ else tnu B nn (vlp B nn (lnP B nn k) 1)) = _
          rw [if_neg (by decide), vp413]
        have he416 : (chk (mf3 B nn k 6 (flA B nn k)) 1 6 (tnu B nn p_260) (tq B nn p_260)) = (mf4 B nn k 6 (flA B nn k)) := by show _ = chk (mf3 B nn k 6 (flA B nn k)) 1 6 (vln B nn (lnP B nn k) 1) (tq B nn (vlp B nn (lnP B nn k) 1)); rw [vl414, vp413]
        have hF_415 := hF_325
        rw [he416] at hF_415
        have he418 : (mf4 B nn k 6 (flA B nn k)) = (mfl B nn k 6 (flA B nn k)) := rfl
        have hF_417 := hF_415
        rw [he418] at hF_417
        refine xoCh82 (hI311 82 (by decide) (by decide) : cp82 (wget w309 82)) (fun f82_419 f82_421 f82_423 f82_425 f82_427 f82_429 f82_431 f82_433 f82_435 f82_437 f82_439 f82_440 f82_441 f82_443 f82_445 f82_447 h82_449 hb420 hb422 hb424 hb426 hb428 hb430 hb432 hb434 hb436 hb438 hb442 hb444 hb446 hb448 hb450 => ?_)
        refine xg_cVv mX12_puts (vs := [(0, 6), (0, u42), (0, 6), (0, n313)]) (rest := []) (cn1 := 0) (sl1 := 0) rfl (mPuts6 (hI311) (by omega) (by omega) (by omega) (fun _ => by omega)) rfl h82_449 rfl rfl rfl rfl rfl rfl (fun w451 hq452 => ?_)
        obtain ⟨hI453, hF454, hx455⟩ := hq452
        obtain ⟨hp456, hp457⟩ := hx455
        refine xg_t (xg_iinc (u := 1) (z := 2) (l1 := [(0, (2, 82)), (1, (0, 6)), (2, (0, at_)), (3, (0, u42))]) rfl rfl (by decide) rfl) ?_
        refine xg_t (xg_goto) ?_
        refine xg_t (xg_blk (b := [(365, 2, 2, 4, 0, 0), (367, 1, 3, 2, 0, 0), (368, 3, 6, 394, 3, 0), (371, 1, 0, 0, 0, 0), (372, 1, 2, 1, 0, 0), (373, 1, 2, 3, 0, 0), (374, 1, 3, 5, 0, 0), (375, 2, 2, 4, 0, 0), (377, 1, 11, 0, 0, 0), (378, 1, 0, 0, 0, 0), (379, 1, 3, 1, 0, 0), (380, 2, 4, 6, 0, 0), (382, 3, 13, 199, 96, 196), (385, 3, 13, 211, 96, 200), (388, 3, 9, 4, 1, 0), (391, 3, 8, 365, 0, 0)]) rfl) ?_
        refine xg_t (xg_iload (va := (0, 2)) rfl rfl) ?_
        refine xg_t (xg_const) ?_
        refine xg_t (xg_icT (u := 2) (v := 2) rfl xnm0 xnm0 (by decide)) ?_
        refine xg_t (xg_blk (b := [(394, 1, 0, 0, 0, 0), (395, 3, 1, 12, 10, 180), (398, 3, 7, 416, 1, 0), (401, 1, 0, 0, 0, 0), (402, 3, 1, 12, 7, 151), (405, 1, 3, 2, 0, 0), (406, 3, 6, 416, 1, 0), (409, 1, 0, 0, 0, 0), (410, 3, 13, 110, 96, 190), (413, 3, 8, 420, 0, 0)]) rfl) ?_
        have ln458 : lnR B nn p0 = lnS B nn p_410 := by exact ln412.trans (lnN_0 (by decide))
        refine xg_t (xg_aload (va := (2, 82)) rfl rfl) ?_
        refine xg_t (xg_getf (va := (0, f82_435)) (hF454.get (by decide) h82_449) rfl) ?_
        have hf459 : fld w451 82 10 = f82_435 := fld_of (hF454.get (by decide) h82_449)
        have hk460 : fld w451 82 10 = 0 := ((fld_eq (j := 10) (hF454.1 82 (by decide))).trans k10_323)
        refine xg_t (xg_ifF (u := f82_435) rfl xnm0 (xj_neF (by omega))) ?_
        obtain ⟨⟨ht461, ht462, ht463, ht464, ht465, ht466⟩, ht467, ht468, ht469⟩ := id (hT_324.fr (hF454.1 82 (by decide)))
        have hf470 : fld w451 82 6 = f82_427 := fld_of (hF454.get (by decide) h82_449)
        have hf471 : fld w451 82 7 = f82_429 := fld_of (hF454.get (by decide) h82_449)
        have hf472 : fld w451 82 8 = f82_431 := fld_of (hF454.get (by decide) h82_449)
        have hf473 : fld w451 82 9 = f82_433 := fld_of (hF454.get (by decide) h82_449)
        have hf474 : fld w451 82 3 = f82_421 := fld_of (hF454.get (by decide) h82_449)
        have hmk475 := mkd_of (ir := 0) (B := B) (n := nn) (p := p_410)
        refine xg_t (xg_aload (va := (2, 82)) rfl rfl) ?_
        refine xg_t (xg_getf (va := (0, f82_429)) (hF454.get (by decide) h82_449) rfl) ?_
        refine xg_t (xg_const) ?_
        by_cases hc476 : f82_429 = 2
        · refine xg_t (xg_icF (u := f82_429) (v := 2) rfl xnm0 xnm0 (xj_neF hc476)) ?_
          have sg4771 : tkd B nn p_410 = 3 := by omega
          have sg4772 : B (tq B nn p_410) = 59 := by omega
          refine xg_t (xg_aload (va := (2, 82)) rfl rfl) ?_
          clear ht461 ht462 ht463 ht464 ht465 ht466 ht467 ht468 ht469 hf470 hf471 hf472 hf473 hf474 hmk475
          obtain ⟨⟨ht478, ht479, ht480, ht481, ht482, ht483⟩, -⟩ := id (hT_324.fr (hF454.1 82 (by decide)))
          have hk484 := ((fld_eq (j := 10) (hF454.1 82 (by decide))).trans k10_323)
          have hk485 := ((fld_eq (j := 14) (hF454.1 82 (by decide))).trans k14_318)
          refine xg_cVv mX12_advance (vs := []) (rest := []) (cn1 := 0) (sl1 := 0) rfl (mAdvX (hI453) (hB.fr (fun j h4 h9 => (((((hj56.tr (K83.fr hF103 (by decide))).tr k8_153).tr (K83.fr hF304 (by decide))).tr k8_316).tr (K83.fr hF454 (by decide))) j (by omega) (by omega) (by omega))) ht478 ht479 (by rw [ht480]; exact tf_le ht483)) rfl (hF454.get (by decide) h82_449) rfl rfl rfl rfl rfl rfl (fun w486 hq487 => ?_)
          obtain ⟨hI488, hF489, hx490⟩ := hq487
          obtain ⟨hz491, hz492, hz493⟩ := hx490
          rw [ht480] at hz491
          clear ht478 ht479 ht480 ht481 ht482 ht483
          obtain ⟨p_494, hp495⟩ : ∃ x, x = tf B nn p_410 := ⟨_, rfl⟩
          rw [← hp495] at hz491
          have k10_496 := hz492.trans hk484
          have k14_497 := hz493.trans hk485
          clear hz492 hz493 hk484 hk485
          have ln498 : lnR B nn p0 = (true, p_494) := by rw [hp495]; exact ln458.trans (lnS_y ⟨sg4771, sg4772⟩)
          refine xg_t (xg_goto) ?_
          refine xg_t (xg_blk (b := [(420, 1, 0, 0, 0, 0), (421, 3, 1, 12, 11, 17), (424, 1, 2, 1, 0, 0), (425, 1, 39, 0, 0, 0), (426, 1, 10, 0, 0, 0), (427, 1, 3, 1, 0, 0), (428, 1, 11, 0, 0, 0), (429, 1, 17, 0, 0, 0), (430, 1, 0, 0, 0, 0), (431, 1, 19, 0, 0, 0), (432, 3, 1, 12, 14, 212), (435, 1, 3, 1, 0, 0), (436, 1, 11, 0, 0, 0), (437, 3, 14, 12, 14, 212), (440, 1, 12, 0, 0, 0)]) rfl) ?_
          refine xoCh82 (hI488 82 (by decide) (by decide) : cp82 (wget w486 82)) (fun f82_499 f82_501 f82_503 f82_505 f82_507 f82_509 f82_511 f82_513 f82_515 f82_517 f82_519 f82_520 f82_521 f82_523 f82_525 f82_527 h82_529 hb500 hb502 hb504 hb506 hb508 hb510 hb512 hb514 hb516 hb518 hb522 hb524 hb526 hb528 hb530 => ?_)
          have hf531 : fld w486 82 2 = f82_499 := fld_of h82_529
          have hf532 : fld w486 82 3 = f82_501 := fld_of h82_529
          have hf533 : fld w486 82 4 = f82_503 := fld_of h82_529
          have hf534 : fld w486 82 5 = f82_505 := fld_of h82_529
          have hf535 : fld w486 82 6 = f82_507 := fld_of h82_529
          have hf536 : fld w486 82 7 = f82_509 := fld_of h82_529
          have hf537 : fld w486 82 8 = f82_511 := fld_of h82_529
          have hf538 : fld w486 82 9 = f82_513 := fld_of h82_529
          have hf539 : fld w486 82 10 = f82_515 := fld_of h82_529
          have hf540 : fld w486 82 14 = f82_517 := fld_of h82_529
          have hk541 := k14_497
          have hl542 : f82_517 ≤ 500 := by omega
          have hk543 := hz491
          have hk544 := (hF_417.k83 (rwv_eq ((hF489.1 83 (by decide)).trans (hF454.1 83 (by decide)))) (rwv_eq ((hF489.1 83 (by decide)).trans (hF454.1 83 (by decide)))))
          have hk545 := k10_496
          refine xg_t (xg_aload (va := (2, 82)) rfl rfl) ?_
          refine xg_t (xg_getf (va := (2, 85)) h82_529 rfl) ?_
          refine xg_t (xg_iload (va := (0, 6)) rfl rfl) ?_
          refine xg_t (xg_dup2 rfl) ?_
          refine xoI (hI488 85 (by decide) (by decide) : cpI 7 52 4294967295 (wget w486 85)) (fun g85_546 h85_547 hb548 => ?_)
          refine xg_ialdB (n := 6) (B := 4294967295) h85_547 (hb548) xnm0 (by omega) (fun u549 hu550 he551 => ?_)
          have hK552 : u549 = u42 := (((rwv_of h85_547 (by decide)).trans he551).symm.trans (rwv_eq ((hF489.1 85 (by decide)).trans ((hF454.1 85 (by decide)).trans ((hF312.1 85 (by decide)).trans ((hF304.1 85 (by decide)).trans ((hF149.1 85 (by decide)).trans ((hF103.1 85 (by decide)).trans hj57)))))))).trans ((hm 6 (by decide)).trans hK45.symm)
          have hl553 : u549 ≤ 500 := by omega
          refine xg_t (xg_const) ?_
          refine xg_t (xg_iadd (u := u549) (v := 1) (z := u549 + 1) xnm0 xnm0 (by omega)) ?_
          refine xg_iastK (n := 6) (u := u549 + 1) h85_547 xnm0 xnm0 rfl (by omega) (fun w554 hr555 hb556 => ?_)
          refine xg_t (xg_aload (va := (2, 82)) rfl rfl) ?_
          refine xg_t (xg_dup rfl) ?_
          refine xg_t (xg_getf (va := (0, f82_517)) (hb556.get (by decide) h82_529) rfl) ?_
          have hn557 := id hb518
          unfold xHid at hn557
          refine xg_t (xg_const) ?_
          refine xg_t (xg_iadd (u := f82_517) (v := 1) (z := f82_517 + 1) xnm0 xnm0 (by omega)) ?_
          refine xg_putI (fl1 := [(2, 83), (2, 84), (0, f82_499), (0, f82_501), (0, f82_503), (0, f82_505), (0, f82_507), (0, f82_509), (0, f82_511), (0, f82_513), (0, f82_515), (2, 85), (2, 86), (2, 87), (0, f82_517 + 1), (2, 88), (2, 89), (2, 90), (2, 91), (2, 92), (2, 93), (2, 94), (4, f82_519), (4, f82_520), (0, f82_521), (2, 95), (2, 96), (2, 97), (2, 98), (2, 99), (2, 100), (2, 101), (2, 102), (0, f82_523), (2, 103), (2, 104), (2, 105), (2, 106), (2, 107), (2, 108), (2, 109), (0, f82_525), (0, f82_527), (2, 110), (2, 111), (2, 112), (2, 113)]) (hb556.get (by decide) h82_529) rfl rfl rfl (fun w558 hk559 hb560 => ?_)
          have hf561 : fld w558 82 2 = f82_499 := fld_of hk559
          have hf562 : fld w558 82 3 = f82_501 := fld_of hk559
          have hf563 : fld w558 82 4 = f82_503 := fld_of hk559
          have hf564 : fld w558 82 5 = f82_505 := fld_of hk559
          have hf565 : fld w558 82 6 = f82_507 := fld_of hk559
          have hf566 : fld w558 82 7 = f82_509 := fld_of hk559
          have hf567 : fld w558 82 8 = f82_511 := fld_of hk559
          have hf568 : fld w558 82 9 = f82_513 := fld_of hk559
          have hf569 : fld w558 82 10 = f82_515 := fld_of hk559
          have hf570 : fld w558 82 14 = f82_517 + 1 := fld_of hk559
          have he571 : lnP B nn (k + 1) = p_494 := by
            show (lnR B nn (lnP B nn k)).2 = _
            rw [← hp0, ln498]
          have hT572 : TKM 0 B nn w558 p_494 := hk543.w14 (by omega) (by omega) (by omega) (by omega) (by omega) (by omega) (by omega) (by omega)
          have hF573 : FP w558 (mfl B nn k 6 (flA B nn k)) := hk544.k83 (rwv_eq ((hb560.1 83 (by decide)).trans (hb556.1 83 (by decide)))) (rwv_eq ((hb560.1 83 (by decide)).trans (hb556.1 83 (by decide))))
          have hg575 := (tf_gt (B := B) (n := nn) (p := p_108) (by omega)).2
          have hg576 := tq_ge (B := B) (n := nn) (p := p_108)
          have hg577 := (tf_gt (B := B) (n := nn) (p := p_260) (by omega)).2
          have hg578 := tq_ge (B := B) (n := nn) (p := p_260)
          have hg579 := (tf_gt (B := B) (n := nn) (p := p0) (by rw [slt_kd (by rw [hp0, hs]; decide)]; decide)).2
          have hg580 := (tf_gt (B := B) (n := nn) (p := p_410) (by omega)).2
          have hg581 := tq_ge (B := B) (n := nn) (p := p_410)
          have hg582 := tq_ge (B := B) (n := nn) (p := p_494)
          have hp1x := hp109
          have hO574 : ORD B nn k 6 (tq B nn (lnP B nn (k + 1))) := by
            unfold ORD
            rw [he571, vp263, vp413, ← hp0]
            exact ⟨by omega, by omega, fun z => absurd z (by decide), by omega, fun z => absurd z (by decide)⟩
          have hM583 : rwv w558 85 6 = lnC B nn 6 k + 1 := (rwv_of (hr555.but hb560 (by decide)) (by decide)).trans ((if_pos rfl).trans (by omega))
          have hM584 : ∀ s, s < 7 → s ≠ 6 → rwv w558 85 s = rwv w 85 s := fun s hs hn => (rwv_of (hr555.but hb560 (by decide)) hs).trans ((if_neg hn).trans ((rwv_of h85_547 hs).symm.trans (rwv_eq ((hF489.1 85 (by decide)).trans ((hF454.1 85 (by decide)).trans ((hF312.1 85 (by decide)).trans ((hF304.1 85 (by decide)).trans ((hF149.1 85 (by decide)).trans ((hF103.1 85 (by decide)).trans hj57)))))))))
          have hr585 : lnC B nn 6 k < 1 → ∀ t, t < 2 → XM w558 6 (lnC B nn 6 k) t = vln B nn (lnP B nn k) t := fun hlt t ht => by
            rcases (show t = 0 ∨ t = 1 by omega) with rfl | rfl
            · show rwv w558 86 (5 + 0) = _
              rw [show 5 + 0 = 5 by omega]
              exact ((rwv_eq (hb560.1 86 (by decide))).trans ((rwv_eq (hb556.1 86 (by decide))).trans ((rwv_eq (hF489.1 86 (by decide))).trans ((hp457 5 (by omega) (by omega)).trans (rwv_eq (hF312.1 86 (by decide))))))).trans ((hp306 (by omega)).trans (hv158.trans vl264.symm))
            · show rwv w558 86 (5 + 1) = _
              rw [show 5 + 1 = 6 by omega]
              exact ((rwv_eq (hb560.1 86 (by decide))).trans ((rwv_eq (hb556.1 86 (by decide))).trans (rwv_eq (hF489.1 86 (by decide))))).trans ((hp456 (by omega)).trans (hv321.trans vl414.symm))
          have ho586 : ∀ j, (j < 5 ∨ 7 ≤ j) → j < 140 → rwv w558 86 j = rwv w 86 j := fun j hj hl => ((rwv_eq (hb560.1 86 (by decide))).trans ((rwv_eq (hb556.1 86 (by decide))).trans ((rwv_eq (hF489.1 86 (by decide))).trans ((hp457 j (by omega) hl).trans ((rwv_eq (hF312.1 86 (by decide))).trans ((hp307 j (by omega) hl).trans ((rwv_eq (hF149.1 86 (by decide))).trans ((rwv_eq (hF103.1 86 (by decide))).trans (rwv_eq hj58)))))))))
          have ha587 : ∀ j, j < 20 → rwv w558 87 j = rwv w 87 j := fun j _ => rwv_eq ((hb560.1 87 (by decide)).trans ((hb556.1 87 (by decide)).trans ((hF489.1 87 (by decide)).trans ((hF454.1 87 (by decide)).trans ((hF312.1 87 (by decide)).trans ((hF304.1 87 (by decide)).trans ((hF149.1 87 (by decide)).trans ((hF103.1 87 (by decide)).trans hj59))))))))
          have hM588 := MSTok6 hS hs (by have z := hk545; omega) (by omega) hF573 hO574 hM583 hM584 hr585 ho586 ha587
          exact xg_e ⟨w558, ⟨rfl, rfl⟩, xMnv.up (S := [85, 82]) hI488 ((xFr.of (S := [85, 82]) hb556 (by decide)).tr (xFr.of (S := [85, 82]) hb560 (by decide))) (List.forall_mem_cons.mpr ⟨(show cpI 7 52 4294967295 (wget w558 85) from ⟨_, (hr555.but hb560 (by decide)), xrb (by omega) (hb548)⟩), List.forall_mem_cons.mpr ⟨(show cp82 (wget w558 82) from ⟨f82_499, f82_501, f82_503, f82_505, f82_507, f82_509, f82_511, f82_513, f82_515, f82_517 + 1, f82_519, f82_520, f82_521, f82_523, f82_525, f82_527, hk559, by omega, hb502, by omega, by omega, hb508, by omega, hb512, hb514, by omega, by omega, hb522, hb524, hb526, hb528, by omega⟩), fun _ h => absurd h List.not_mem_nil⟩⟩), (((((((hF50.tr (hF103.up (by decide))).tr (hF149.up (by decide))).tr (hF304.up (by decide))).tr (hF312.up (by decide))).tr (hF454.up (by decide))).tr (hF489.up (by decide))).tr ((xFr.of (S := [82, 83, 85, 86, 87]) hb556 (by decide)).tr (xFr.of (S := [82, 83, 85, 86, 87]) hb560 (by decide)))), ⟨Or.inr ⟨by rw [ln498], by rw [he571]; exact hT572, hM588⟩, ((((((((hj56.tr (K83.fr hF103 (by decide))).tr k8_153).tr (K83.fr hF304 (by decide))).tr k8_316).tr (K83.fr hF454 (by decide))).tr (K83.fr hF489 (by decide))).tr (K83.but hb556 (by decide))).tr (K83.but hb560 (by decide))), by omega⟩⟩
        · refine xg_t (xg_icT (u := f82_429) (v := 2) rfl xnm0 xnm0 (xj_neT hc476)) ?_
          refine xg_t (xg_blk (b := [(416, 1, 0, 0, 0, 0), (417, 3, 13, 140, 96, 183)]) rfl) ?_
          have lf589n : ¬ (tkd B nn p_410 = 3 ∧ B (tq B nn p_410) = 59) := by omega
          have lf589 : lnR B nn p0 = (false, p_410) := ln458.trans (lnS_n lf589n)
          refine xg_t (xg_aload (va := (2, 82)) rfl rfl) ?_
          have hk590 := ((fld_eq (j := 14) (hF454.1 82 (by decide))).trans k14_318)
          have hk591 := (hT_324.fr (hF454.1 82 (by decide))).1.2.2.2.1
          clear ht461 ht462 ht463 ht464 ht465 ht466 ht467 ht468 ht469 hf470 hf471 hf472 hf473 hf474 hmk475
          refine xg_cVv mX12_ends (vs := []) (rest := []) (cn1 := 0) (sl1 := 0) rfl (mEndsX (hI453) ((fld_eq (j := 10) (hF454.1 82 (by decide))).trans k10_323)) rfl (hF454.get (by decide) h82_449) rfl rfl rfl rfl rfl rfl (fun w592 hq593 => ?_)
          obtain ⟨hI594, hF595, hx596⟩ := hq593
          obtain ⟨hv597, hv598, hv599, hv600, hv601⟩ := hx596
          have hW602 : WRG w592 (tq B nn p_410) := ⟨hv597, hv598, hv599.trans hk591⟩
          have k14_603 := hv600.trans hk590
          refine xg_t (xg_blk (b := [(420, 1, 0, 0, 0, 0), (421, 3, 1, 12, 11, 17), (424, 1, 2, 1, 0, 0), (425, 1, 39, 0, 0, 0), (426, 1, 10, 0, 0, 0), (427, 1, 3, 1, 0, 0), (428, 1, 11, 0, 0, 0), (429, 1, 17, 0, 0, 0), (430, 1, 0, 0, 0, 0), (431, 1, 19, 0, 0, 0), (432, 3, 1, 12, 14, 212), (435, 1, 3, 1, 0, 0), (436, 1, 11, 0, 0, 0), (437, 3, 14, 12, 14, 212), (440, 1, 12, 0, 0, 0)]) rfl) ?_
          refine xoCh82 (hI594 82 (by decide) (by decide) : cp82 (wget w592 82)) (fun f82_604 f82_606 f82_608 f82_610 f82_612 f82_614 f82_616 f82_618 f82_620 f82_622 f82_624 f82_625 f82_626 f82_628 f82_630 f82_632 h82_634 hb605 hb607 hb609 hb611 hb613 hb615 hb617 hb619 hb621 hb623 hb627 hb629 hb631 hb633 hb635 => ?_)
          have hf636 : fld w592 82 2 = f82_604 := fld_of h82_634
          have hf637 : fld w592 82 3 = f82_606 := fld_of h82_634
          have hf638 : fld w592 82 4 = f82_608 := fld_of h82_634
          have hf639 : fld w592 82 5 = f82_610 := fld_of h82_634
          have hf640 : fld w592 82 6 = f82_612 := fld_of h82_634
          have hf641 : fld w592 82 7 = f82_614 := fld_of h82_634
          have hf642 : fld w592 82 8 = f82_616 := fld_of h82_634
          have hf643 : fld w592 82 9 = f82_618 := fld_of h82_634
          have hf644 : fld w592 82 10 = f82_620 := fld_of h82_634
          have hf645 : fld w592 82 14 = f82_622 := fld_of h82_634
          have hk646 := k14_603
          have hl647 : f82_622 ≤ 500 := by omega
          have hk648 : WRG w592 (tq B nn p_410) := hW602
          refine xg_t (xg_aload (va := (2, 82)) rfl rfl) ?_
          refine xg_t (xg_getf (va := (2, 85)) h82_634 rfl) ?_
          refine xg_t (xg_iload (va := (0, 6)) rfl rfl) ?_
          refine xg_t (xg_dup2 rfl) ?_
          refine xoI (hI594 85 (by decide) (by decide) : cpI 7 52 4294967295 (wget w592 85)) (fun g85_649 h85_650 hb651 => ?_)
          refine xg_ialdB (n := 6) (B := 4294967295) h85_650 (hb651) xnm0 (by omega) (fun u652 hu653 he654 => ?_)
          have hK655 : u652 = u42 := (((rwv_of h85_650 (by decide)).trans he654).symm.trans (rwv_eq ((hF595.1 85 (by decide)).trans ((hF454.1 85 (by decide)).trans ((hF312.1 85 (by decide)).trans ((hF304.1 85 (by decide)).trans ((hF149.1 85 (by decide)).trans ((hF103.1 85 (by decide)).trans hj57)))))))).trans ((hm 6 (by decide)).trans hK45.symm)
          have hl656 : u652 ≤ 500 := by omega
          refine xg_t (xg_const) ?_
          refine xg_t (xg_iadd (u := u652) (v := 1) (z := u652 + 1) xnm0 xnm0 (by omega)) ?_
          refine xg_iastK (n := 6) (u := u652 + 1) h85_650 xnm0 xnm0 rfl (by omega) (fun w657 hr658 hb659 => ?_)
          refine xg_t (xg_aload (va := (2, 82)) rfl rfl) ?_
          refine xg_t (xg_dup rfl) ?_
          refine xg_t (xg_getf (va := (0, f82_622)) (hb659.get (by decide) h82_634) rfl) ?_
          have hn660 := id hb623
          unfold xHid at hn660
          refine xg_t (xg_const) ?_
          refine xg_t (xg_iadd (u := f82_622) (v := 1) (z := f82_622 + 1) xnm0 xnm0 (by omega)) ?_
          refine xg_putI (fl1 := [(2, 83), (2, 84), (0, f82_604), (0, f82_606), (0, f82_608), (0, f82_610), (0, f82_612), (0, f82_614), (0, f82_616), (0, f82_618), (0, f82_620), (2, 85), (2, 86), (2, 87), (0, f82_622 + 1), (2, 88), (2, 89), (2, 90), (2, 91), (2, 92), (2, 93), (2, 94), (4, f82_624), (4, f82_625), (0, f82_626), (2, 95), (2, 96), (2, 97), (2, 98), (2, 99), (2, 100), (2, 101), (2, 102), (0, f82_628), (2, 103), (2, 104), (2, 105), (2, 106), (2, 107), (2, 108), (2, 109), (0, f82_630), (0, f82_632), (2, 110), (2, 111), (2, 112), (2, 113)]) (hb659.get (by decide) h82_634) rfl rfl rfl (fun w661 hk662 hb663 => ?_)
          have hf664 : fld w661 82 2 = f82_604 := fld_of hk662
          have hf665 : fld w661 82 3 = f82_606 := fld_of hk662
          have hf666 : fld w661 82 4 = f82_608 := fld_of hk662
          have hf667 : fld w661 82 5 = f82_610 := fld_of hk662
          have hf668 : fld w661 82 6 = f82_612 := fld_of hk662
          have hf669 : fld w661 82 7 = f82_614 := fld_of hk662
          have hf670 : fld w661 82 8 = f82_616 := fld_of hk662
          have hf671 : fld w661 82 9 = f82_618 := fld_of hk662
          have hf672 : fld w661 82 10 = f82_620 := fld_of hk662
          have hf673 : fld w661 82 14 = f82_622 + 1 := fld_of hk662
          exact xg_e ⟨w661, ⟨rfl, rfl⟩, xMnv.up (S := [85, 82]) hI594 ((xFr.of (S := [85, 82]) hb659 (by decide)).tr (xFr.of (S := [85, 82]) hb663 (by decide))) (List.forall_mem_cons.mpr ⟨(show cpI 7 52 4294967295 (wget w661 85) from ⟨_, (hr658.but hb663 (by decide)), xrb (by omega) (hb651)⟩), List.forall_mem_cons.mpr ⟨(show cp82 (wget w661 82) from ⟨f82_604, f82_606, f82_608, f82_610, f82_612, f82_614, f82_616, f82_618, f82_620, f82_622 + 1, f82_624, f82_625, f82_626, f82_628, f82_630, f82_632, hk662, by omega, hb607, by omega, by omega, hb613, by omega, hb617, hb619, by omega, by omega, hb627, hb629, hb631, hb633, by omega⟩), fun _ h => absurd h List.not_mem_nil⟩⟩), (((((((hF50.tr (hF103.up (by decide))).tr (hF149.up (by decide))).tr (hF304.up (by decide))).tr (hF312.up (by decide))).tr (hF454.up (by decide))).tr (hF595.up (by decide))).tr ((xFr.of (S := [82, 83, 85, 86, 87]) hb659 (by decide)).tr (xFr.of (S := [82, 83, 85, 86, 87]) hb663 (by decide)))), ⟨Or.inl ⟨p_410, lf589, ⟨by have z := hk648.1; omega, (rwv_eq (j := 16) ((hb663.1 83 (by decide)).trans (hb659.1 83 (by decide)))).trans hk648.2.1, (rwv_eq (j := 17) ((hb663.1 83 (by decide)).trans (hb659.1 83 (by decide)))).trans hk648.2.2⟩⟩, ((((((((hj56.tr (K83.fr hF103 (by decide))).tr k8_153).tr (K83.fr hF304 (by decide))).tr k8_316).tr (K83.fr hF454 (by decide))).tr hv601).tr (K83.but hb659 (by decide))).tr (K83.but hb663 (by decide))), by omega⟩⟩
  refine xg_t (xg_iload (va := (0, u42)) rfl rfl) ?_
  refine xg_t (xg_iload (va := (0, 6)) rfl rfl) ?_
  refine xg_t (xg_cSr mX12_mostOf (vs := [(0, 6)]) (rest := [(0, u42)]) (rs := [(0, 1), (0, u42)]) (cn1 := 0) (sl1 := 0) rfl (mMostR6) rfl rfl rfl rfl rfl rfl rfl rfl) ?_
  by_cases hc674 : u42 < 1
  · refine xg_t (xg_icT (u := u42) (v := 1) rfl xnm0 xnm0 (xj_ltT hc674 (by omega))) ?_
    refine xg_t (xg_drop (l1 := [(0, (2, 82)), (1, (0, 6)), (2, (0, at_)), (3, (0, u42))]) (List.forall_mem_cons.mpr ⟨List.mem_cons_of_mem _ (List.mem_cons_of_mem _ (List.mem_cons_of_mem _ (List.mem_cons_self))), List.forall_mem_cons.mpr ⟨List.mem_cons_of_mem _ (List.mem_cons_of_mem _ (List.mem_cons_self)), List.forall_mem_cons.mpr ⟨List.mem_cons_of_mem _ (List.mem_cons_self), List.forall_mem_cons.mpr ⟨List.mem_cons_self, fun _ h => absurd h List.not_mem_nil⟩⟩⟩⟩)) ?_
    have he675 : flA B nn k = mf1 B nn k 6 (flA B nn k) := by unfold mf1; rw [decide_eq_false (show ¬ lim 6 ≤ lnC B nn 6 k from (show ¬ 1 ≤ lnC B nn 6 k by omega))]; rfl
    exact jn47 w (hI) (xFr.rf) (⟨by rw [← he675]; exact zF, z10, hT, z14, K83.rf, rfl, rfl, rfl⟩)
  · refine xg_t (xg_icF (u := u42) (v := 1) rfl xnm0 xnm0 (xj_ltF (by omega) (by omega))) ?_
    refine xg_t (xg_aload (va := (2, 82)) rfl rfl) ?_
    refine xg_t (xg_const) ?_
    refine xg_t (xg_iload (va := (0, at_)) rfl rfl) ?_
    refine xg_cVv mX12_also (vs := [(0, 3), (0, at_)]) (rest := []) (cn1 := 0) (sl1 := 0) rfl (mAlsoX (hI) (by omega) (by omega) (by omega) z10 zF) rfl h82_31 rfl rfl rfl rfl rfl rfl (fun w676 hq677 => ?_)
    obtain ⟨hI678, hF679, hx680⟩ := hq677
    obtain ⟨hv681, hv682⟩ := hx680
    refine xg_t (xg_drop (l1 := [(0, (2, 82)), (1, (0, 6)), (2, (0, at_)), (3, (0, u42))]) (List.forall_mem_cons.mpr ⟨List.mem_cons_of_mem _ (List.mem_cons_of_mem _ (List.mem_cons_of_mem _ (List.mem_cons_self))), List.forall_mem_cons.mpr ⟨List.mem_cons_of_mem _ (List.mem_cons_of_mem _ (List.mem_cons_self)), List.forall_mem_cons.mpr ⟨List.mem_cons_of_mem _ (List.mem_cons_self), List.forall_mem_cons.mpr ⟨List.mem_cons_self, fun _ h => absurd h List.not_mem_nil⟩⟩⟩⟩)) ?_
    have he683 : alo (flA B nn k) 3 at_ = mf1 B nn k 6 (flA B nn k) := by unfold mf1; rw [decide_eq_true (show lim 6 ≤ lnC B nn 6 k from (show 1 ≤ lnC B nn 6 k by omega)), hat, hp0]; rfl
    exact jn47 w676 (hI678) ((hF679.up (by decide))) (⟨by rw [← he683]; exact hv681, ((fld_eq (j := 10) (hF679.1 82 (by decide))).trans z10), (hT.fr (hF679.1 82 (by decide))), ((fld_eq (j := 14) (hF679.1 82 (by decide))).trans z14), hv682, (hF679.1 85 (by decide)), (hF679.1 86 (by decide)), (hF679.1 87 (by decide))⟩)
end XFME
end
