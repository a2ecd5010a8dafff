section
/-! the model: a line of each sort, more -/
section XFME
variable {d : Nat} {w : List (List xE)} {bd : List (Nat × Nat)} {fc : List (Nat × Nat × Bool)} {rr : Nat × Nat}
set_option maxHeartbeats 60000000 in
theorem mALnX4 {B : Nat → Nat} {nn k p0 : Nat} {at_ : Nat} (hI : xMnv w) (hB : bsm w B nn) (hp0 : p0 = lnP B nn k) (hT : TKM 0 B nn w p0) (hS : MST B nn w k) (hk5 : k ≤ 500) (hs : slt B nn (lnP B nn k) = 4) (hat : at_ = tq B nn p0) : xTo (d + 7) mX12_aLine (43, [], [(2, (0, at_)), (1, (0, 4)), (0, (2, 82))], [], (w, bd, fc, 0, 0, rr)) (fun φ => ∃ w', xEnd 0 [] (w', bd, fc, 0, 0, rr) φ ∧ xMnv w' ∧ xFr [82, 83, 85, 86, 87] w w' ∧ (((∃ q, lnR B nn p0 = (false, q) ∧ WRG w' (tq B nn q)) ∨ ((lnR B nn p0).1 = true ∧ TKM 0 B nn w' (lnP B nn (k + 1)) ∧ MST B nn w' (k + 1))) ∧ K83 w w' ∧ fld w 82 14 ≤ fld w' 82 14)) := by
  refine xoCh82 (xqc82 hI : cp82 (wget w 82)) (fun f82_1 f82_3 f82_5 f82_7 f82_9 f82_11 f82_13 f82_15 f82_17 f82_19 f82_21 f82_22 f82_23 f82_25 f82_27 f82_29 h82_31 hb2 hb4 hb6 hb8 hb10 hb12 hb14 hb16 hb18 hb20 hb24 hb26 hb28 hb30 hb32 => ?_)
  refine xoI (xqc85 hI : cpI 7 52 4294967295 (wget w 85)) (fun g85_33 h85_34 hb35 => ?_)
  refine xoI (xqc86 hI : cpI 140 53 4294967295 (wget w 86)) (fun g86_36 h86_37 hb38 => ?_)
  refine xoI (xqc87 hI : cpI 20 54 4294967295 (wget w 87)) (fun g87_39 h87_40 hb41 => ?_)
  obtain ⟨⟨z10, z14, zF, zp⟩, hm, hR⟩ := id hS
  have hkc := lnC_k (B := B) (n := nn) (s := 4) (k := k)
  have hq0 : at_ ≤ 500 := by
    have z1 := tf_gt (B := B) (n := nn) (p := p0) (by rw [slt_kd (by rw [hp0, hs]; decide)]; decide)
    have z2 := hB.1
    omega
  refine xg_t (xg_blq rfl) ?_
  refine xg_t (xg_aload (va := (2, 82)) rfl rfl) ?_
  refine xg_t (xg_getf (va := (2, 85)) h82_31 rfl) ?_
  refine xg_t (xg_iload (va := (0, 4)) rfl rfl) ?_
  refine xg_ialdB (n := 4) (B := 4294967295) h85_34 (hb35) xnm0 (by first | decide | omega) (fun u42 hu43 he44 => ?_)
  have hK45 : u42 = lnC B nn 4 k := (((rwv_of h85_34 (by decide)).trans he44).symm).trans (hm 4 (by decide))
  have hl46 : u42 ≤ 500 := by omega
  refine xg_t (xg_istore (l1 := [(2, (0, at_)), (1, (0, 4)), (0, (2, 82))]) rfl rfl rfl) ?_
  have jn47 : ∀ (w48 : List (List xE)), xMnv w48 → xFr [82, 83, 85, 86, 87] w w48 → (FP w48 (mf1 B nn k 4 (flA B nn k)) ∧ fld w48 82 10 = 0 ∧ TKM 0 B nn w48 p0 ∧ fld w48 82 14 = k ∧ K83 w w48 ∧ wget w48 85 = wget w 85 ∧ wget w48 86 = wget w 86 ∧ wget w48 87 = wget w 87) → xTo (d + 7) mX12_aLine (64, [], [(0, (2, 82)), (1, (0, 4)), (2, (0, at_)), (3, (0, u42))], [], (w48, bd, fc, 0, 0, rr)) (fun φ => ∃ w', xEnd 0 [] (w', bd, fc, 0, 0, rr) φ ∧ xMnv w' ∧ xFr [82, 83, 85, 86, 87] w w' ∧ (((∃ q, lnR B nn p0 = (false, q) ∧ WRG w' (tq B nn q)) ∨ ((lnR B nn p0).1 = true ∧ TKM 0 B nn w' (lnP B nn (k + 1)) ∧ MST B nn w' (k + 1))) ∧ K83 w w' ∧ fld w 82 14 ≤ fld w' 82 14)) := by
    intro w48 hI49 hF50 he51
    obtain ⟨hj52, hj53, hj54, hj55, hj56, hj57, hj58, hj59⟩ := he51
    refine xg_t (xg_blq rfl) ?_
    refine xg_t (xg_aload (va := (2, 82)) rfl rfl) ?_
    obtain ⟨⟨ht60, ht61, ht62, ht63, ht64, ht65⟩, -⟩ := id hj54
    have hk66 := hj53
    have hk67 := hj55
    refine xoCh82 (xqc82 hI49 : cp82 (wget w48 82)) (fun f82_68 f82_70 f82_72 f82_74 f82_76 f82_78 f82_80 f82_82 f82_84 f82_86 f82_88 f82_89 f82_90 f82_92 f82_94 f82_96 h82_98 hb69 hb71 hb73 hb75 hb77 hb79 hb81 hb83 hb85 hb87 hb91 hb93 hb95 hb97 hb99 => ?_)
    refine xg_cVv mX12_advance (vs := []) (rest := []) (cn1 := 0) (sl1 := 0) rfl (mAdvX (hI49) (hB.fr (fun j h4 h9 => hj56 j (by omega) (by omega) (by omega))) ht60 ht61 (by rw [ht62]; exact tf_le ht65)) rfl h82_98 rfl rfl rfl rfl rfl rfl (fun w100 hq101 => ?_)
    obtain ⟨hI102, hF103, hx104⟩ := hq101
    obtain ⟨hz105, hz106, hz107⟩ := hx104
    rw [ht62] at hz105
    clear ht60 ht61 ht62 ht63 ht64 ht65
    obtain ⟨p_108, hp109⟩ : ∃ x, x = tf B nn p0 := ⟨_, rfl⟩
    rw [← hp109] at hz105
    have k10_110 := hz106.trans hk66
    have k14_111 := hz107.trans hk67
    clear hz106 hz107 hk66 hk67
    have ln112 : lnR B nn p0 = lnN B nn 4 2 p_108 := by rw [hp109]; exact lnR_go (by rw [hp0]; exact hs) (by decide)
    refine xg_t (xg_iload (va := (0, 4)) rfl rfl) ?_
    refine xg_t (xg_swt (ks := [(0, 108), (1, 116), (2, 180), (3, 221), (4, 273), (5, 326)]) (u := 4) (z := 273) rfl rfl rfl xnm0 (xsw_n (by omega) (xsw_n (by omega) (xsw_n (by omega) (xsw_n (by omega) (xsw_y rfl)))))) ?_
    refine xg_t (xg_blq rfl) ?_
    refine xg_t (xg_iload (va := (0, u42)) rfl rfl) ?_
    refine xg_t (xg_bip) ?_
    by_cases hc113 : u42 < 20
    · refine xg_t (xg_icF (u := u42) (v := 20) rfl xnm0 xnm0 (xj_geF hc113 (by omega))) ?_
      refine xg_t (xg_aload (va := (2, 82)) rfl rfl) ?_
      refine xoCh82 (xqc82 hI102 : cp82 (wget w100 82)) (fun f82_114 f82_116 f82_118 f82_120 f82_122 f82_124 f82_126 f82_128 f82_130 f82_132 f82_134 f82_135 f82_136 f82_138 f82_140 f82_142 h82_144 hb115 hb117 hb119 hb121 hb123 hb125 hb127 hb129 hb131 hb133 hb137 hb139 hb141 hb143 hb145 => ?_)
      refine xg_t (xg_getf (va := (2, 87)) h82_144 rfl) ?_
      refine xg_t (xg_iload (va := (0, u42)) rfl rfl) ?_
      refine xg_t (xg_iload (va := (0, at_)) rfl rfl) ?_
      refine xoI (xqc87 hI102 : cpI 20 54 4294967295 (wget w100 87)) (fun g87_146 h87_147 hb148 => ?_)
      refine xg_iastK (n := u42) (u := at_) h87_147 xnm0 xnm0 rfl (by omega) (fun w149 hr150 hb151 => ?_)
      refine xg_t (xg_blq rfl) ?_
      refine xg_t (xg_const) ?_
      refine xg_t (xg_istore (l1 := [(0, (2, 82)), (1, (0, 4)), (2, (0, at_)), (3, (0, u42))]) rfl rfl rfl) ?_
      refine xg_t (xg_blq rfl) ?_
      refine xg_t (xg_iload (va := (0, 0)) rfl rfl) ?_
      refine xg_t (xg_const) ?_
      refine xg_t (xg_icF (u := 0) (v := 2) rfl xnm0 xnm0 (by decide)) ?_
      refine xg_t (xg_aload (va := (2, 82)) rfl rfl) ?_
      refine xg_t (xg_iload (va := (0, 4)) rfl rfl) ?_
      refine xg_t (xg_iload (va := (0, u42)) rfl rfl) ?_
      refine xg_t (xg_bip) ?_
      refine xg_t (xg_const) ?_
      refine xg_t (xg_iload (va := (0, u42)) rfl rfl) ?_
      refine xg_t (xg_imul (u := 2) (v := u42) (z := 2 * u42) xnm0 xnm0 (by omega)) ?_
      refine xg_t (xg_iadd (u := 100) (v := 2 * u42) (z := 100 + (2 * u42)) xnm0 xnm0 (by omega)) ?_
      refine xg_t (xg_iload (va := (0, 0)) rfl rfl) ?_
      refine xg_t (xg_iadd (u := 100 + (2 * u42)) (v := 0) (z := (100 + (2 * u42)) + 0) xnm0 xnm0 (by omega)) ?_
      refine xg_t (xg_aload (va := (2, 82)) rfl rfl) ?_
      refine xg_t (xg_const) ?_
      refine xg_t (xg_bip) ?_
      have hk152 := ((fld_eq (j := 14) (hb151.1 82 (by decide))).trans k14_111)
      refine xg_cVi mX12_numbered (vs := [(0, 0), (0, 9)]) (rest := [(0, (100 + (2 * u42)) + 0), (0, u42), (0, 4), (2, 82)]) (cn1 := 0) (sl1 := 0) rfl (mNumX (ir := 0) (xMnv.up (S := [87]) hI102 (xFr.of (S := [87]) hb151 (by decide)) (List.forall_mem_cons.mpr ⟨xqu87 (show cpI 20 54 4294967295 (wget w149 87) from ⟨_, hr150, xrb (by omega) (hb148)⟩), fun _ h => absurd h List.not_mem_nil⟩)) (by omega) (by omega) (hB.fr (fun j h4 h9 => ((hj56.tr (K83.fr hF103 (by decide))).tr (K83.but hb151 (by decide))) j (by omega) (by omega) (by omega))) ((fld_eq (j := 10) (hb151.1 82 (by decide))).trans k10_110) (hz105.fr (hb151.1 82 (by decide))) (hj52.k83 (rwv_eq ((hb151.1 83 (by decide)).trans (hF103.1 83 (by decide)))) (rwv_eq ((hb151.1 83 (by decide)).trans (hF103.1 83 (by decide)))))) rfl (hb151.get (by decide) h82_144) rfl rfl rfl rfl rfl rfl (fun n157 w153 hq154 => ?_)
      obtain ⟨hn158, hI155, hF156⟩ := hq154
      obtain ⟨hx161, h14_159, k8_160⟩ := hn158
      have k14_162 := h14_159.trans hk152
      rcases hx161 with ⟨rfl, hk163, hW164⟩ | ⟨hv165, h9_166, hk163, k10_167, hT_168, hF_169⟩
      · have lf170 : lnR B nn p0 = (false, p_108) := ln112.trans (lnN_n (k := 1) hk163)
        refine xoCh82 (xqc82 hI155 : cp82 (wget w153 82)) (fun f82_171 f82_173 f82_175 f82_177 f82_179 f82_181 f82_183 f82_185 f82_187 f82_189 f82_191 f82_192 f82_193 f82_195 f82_197 f82_199 h82_201 hb172 hb174 hb176 hb178 hb180 hb182 hb184 hb186 hb188 hb190 hb194 hb196 hb198 hb200 hb202 => ?_)
        refine xg_cVv mX12_puts (vs := [(0, 4), (0, u42), (0, (100 + (2 * u42)) + 0), (0, 0)]) (rest := []) (cn1 := 0) (sl1 := 0) rfl (mPuts4 (hI155) (by omega) (by omega) (by omega) (fun _ => by omega)) rfl h82_201 rfl rfl rfl rfl rfl rfl (fun w203 hq204 => ?_)
        obtain ⟨hI205, hF206, hx207⟩ := hq204
        obtain ⟨hp208, hp209⟩ := hx207
        refine xg_t (xg_iinc (u := 0) (z := 1) (l1 := [(0, (2, 82)), (1, (0, 4)), (2, (0, at_)), (3, (0, u42))]) rfl rfl (by decide) rfl) ?_
        refine xg_t (xg_goto) ?_
        refine xg_t (xg_blq rfl) ?_
        refine xg_t (xg_iload (va := (0, 1)) rfl rfl) ?_
        refine xg_t (xg_const) ?_
        refine xg_t (xg_icF (u := 1) (v := 2) rfl xnm0 xnm0 (by decide)) ?_
        refine xg_t (xg_aload (va := (2, 82)) rfl rfl) ?_
        refine xg_t (xg_iload (va := (0, 4)) rfl rfl) ?_
        refine xg_t (xg_iload (va := (0, u42)) rfl rfl) ?_
        refine xg_t (xg_bip) ?_
        refine xg_t (xg_const) ?_
        refine xg_t (xg_iload (va := (0, u42)) rfl rfl) ?_
        refine xg_t (xg_imul (u := 2) (v := u42) (z := 2 * u42) xnm0 xnm0 (by omega)) ?_
        refine xg_t (xg_iadd (u := 100) (v := 2 * u42) (z := 100 + (2 * u42)) xnm0 xnm0 (by omega)) ?_
        refine xg_t (xg_iload (va := (0, 1)) rfl rfl) ?_
        refine xg_t (xg_iadd (u := 100 + (2 * u42)) (v := 1) (z := (100 + (2 * u42)) + 1) xnm0 xnm0 (by omega)) ?_
        refine xg_t (xg_aload (va := (2, 82)) rfl rfl) ?_
        refine xg_t (xg_const) ?_
        refine xg_t (xg_bip) ?_
        refine xg_cVi mX12_numbered (vs := [(0, 0), (0, 9)]) (rest := [(0, (100 + (2 * u42)) + 1), (0, u42), (0, 4), (2, 82)]) (cn1 := 0) (sl1 := 0) rfl (mNumW (hI205) (by omega) (by omega) (by have q := hW164.1; have q2 := fld_eq (j := 10) (hF206.1 82 (by decide)); omega)) rfl (hF206.get (by decide) h82_201) rfl rfl rfl rfl rfl rfl (fun n214 w210 hq211 => ?_)
        obtain ⟨hn215, hI212, hF213⟩ := hq211
        obtain rfl := hn215
        refine xg_cVv mX12_puts (vs := [(0, 4), (0, u42), (0, (100 + (2 * u42)) + 1), (0, 0)]) (rest := []) (cn1 := 0) (sl1 := 0) rfl (mPuts4 (hI212) (by omega) (by omega) (by omega) (fun _ => by omega)) rfl (hF213.get (by decide) (hF206.get (by decide) h82_201)) rfl rfl rfl rfl rfl rfl (fun w216 hq217 => ?_)
        obtain ⟨hI218, hF219, hx220⟩ := hq217
        obtain ⟨hp221, hp222⟩ := hx220
        refine xg_t (xg_iinc (u := 1) (z := 2) (l1 := [(0, (2, 82)), (1, (0, 4)), (2, (0, at_)), (3, (0, u42))]) rfl rfl (by decide) rfl) ?_
        refine xg_t (xg_goto) ?_
        refine xg_t (xg_blq rfl) ?_
        refine xg_t (xg_iload (va := (0, 2)) rfl rfl) ?_
        refine xg_t (xg_const) ?_
        refine xg_t (xg_icT (u := 2) (v := 2) rfl xnm0 xnm0 (by decide)) ?_
        refine xg_t (xg_blq rfl) ?_
        refine xg_t (xg_goto) ?_
        refine xg_t (xg_blq rfl) ?_
        refine xg_t (xg_aload (va := (2, 82)) rfl rfl) ?_
        refine xg_t (xg_getf (va := (0, f82_187)) (hF219.get (by decide) (hF213.get (by decide) (hF206.get (by decide) h82_201))) rfl) ?_
        have hf223 : fld w216 82 10 = f82_187 := fld_of (hF219.get (by decide) (hF213.get (by decide) (hF206.get (by decide) h82_201)))
        have hk224 : fld w216 82 10 ≠ 0 := (by have q := hW164.1; have q2 := fld_eq (j := 10) ((hF219.1 82 (by decide)).trans ((hF213.1 82 (by decide)).trans (hF206.1 82 (by decide)))); omega)
        refine xg_t (xg_ifT (u := f82_187) rfl xnm0 (xj_neT (by omega))) ?_
        refine xg_t (xg_blq rfl) ?_
        refine xg_t (xg_aload (va := (2, 82)) rfl rfl) ?_
        refine xg_cVv mX12_ends (vs := []) (rest := []) (cn1 := 0) (sl1 := 0) rfl (mEndsW (hI218) (by have q := hW164.1; have q2 := fld_eq (j := 10) ((hF219.1 82 (by decide)).trans ((hF213.1 82 (by decide)).trans (hF206.1 82 (by decide)))); omega)) rfl (hF219.get (by decide) (hF213.get (by decide) (hF206.get (by decide) h82_201))) rfl rfl rfl rfl rfl rfl (fun w225 hq226 => ?_)
        obtain ⟨hI227, hF228⟩ := hq226
        refine xg_t (xg_blq rfl) ?_
        have hf229 : fld w225 82 10 = f82_187 := fld_of (hF228.get (by decide) (hF219.get (by decide) (hF213.get (by decide) (hF206.get (by decide) h82_201))))
        have hf230 : fld w225 82 14 = f82_189 := fld_of (hF228.get (by decide) (hF219.get (by decide) (hF213.get (by decide) (hF206.get (by decide) h82_201))))
        have hk231 := ((fld_eq (j := 14) ((hF228.1 82 (by decide)).trans ((hF219.1 82 (by decide)).trans ((hF213.1 82 (by decide)).trans (hF206.1 82 (by decide)))))).trans k14_162)
        have hl232 : f82_189 ≤ 500 := by omega
        have hk233 : WRG w225 (tq B nn p_108) := ⟨(fld_eq (j := 10) ((hF228.1 82 (by decide)).trans ((hF219.1 82 (by decide)).trans ((hF213.1 82 (by decide)).trans (hF206.1 82 (by decide)))))).trans hW164.1, (rwv_eq (j := 16) ((hF228.1 83 (by decide)).trans ((hF219.1 83 (by decide)).trans ((hF213.1 83 (by decide)).trans (hF206.1 83 (by decide)))))).trans hW164.2.1, (rwv_eq (j := 17) ((hF228.1 83 (by decide)).trans ((hF219.1 83 (by decide)).trans ((hF213.1 83 (by decide)).trans (hF206.1 83 (by decide)))))).trans hW164.2.2⟩
        refine xg_t (xg_aload (va := (2, 82)) rfl rfl) ?_
        refine xg_t (xg_getf (va := (2, 85)) (hF228.get (by decide) (hF219.get (by decide) (hF213.get (by decide) (hF206.get (by decide) h82_201)))) rfl) ?_
        refine xg_t (xg_iload (va := (0, 4)) rfl rfl) ?_
        refine xg_t (xg_dup2 rfl) ?_
        refine xoI (xqc85 hI227 : cpI 7 52 4294967295 (wget w225 85)) (fun g85_234 h85_235 hb236 => ?_)
        refine xg_ialdB (n := 4) (B := 4294967295) h85_235 (hb236) xnm0 (by first | decide | omega) (fun u237 hu238 he239 => ?_)
        have hK240 : u237 = u42 := (((rwv_of h85_235 (by decide)).trans he239).symm.trans (rwv_eq ((hF228.1 85 (by decide)).trans ((hF219.1 85 (by decide)).trans ((hF213.1 85 (by decide)).trans ((hF206.1 85 (by decide)).trans ((hF156.1 85 (by decide)).trans ((hb151.1 85 (by decide)).trans ((hF103.1 85 (by decide)).trans hj57))))))))).trans ((hm 4 (by decide)).trans hK45.symm)
        have hl241 : u237 ≤ 500 := by omega
        refine xg_t (xg_const) ?_
        refine xg_t (xg_iadd (u := u237) (v := 1) (z := u237 + 1) xnm0 xnm0 (by omega)) ?_
        refine xg_iastK (n := 4) (u := u237 + 1) h85_235 xnm0 xnm0 rfl (by first | decide | omega) (fun w242 hr243 hb244 => ?_)
        refine xg_t (xg_aload (va := (2, 82)) rfl rfl) ?_
        refine xg_t (xg_dup rfl) ?_
        refine xg_t (xg_getf (va := (0, f82_189)) (hb244.get (by decide) (hF228.get (by decide) (hF219.get (by decide) (hF213.get (by decide) (hF206.get (by decide) h82_201))))) rfl) ?_
        have hn245 := id hb190
        unfold xHid at hn245
        refine xg_t (xg_const) ?_
        refine xg_t (xg_iadd (u := f82_189) (v := 1) (z := f82_189 + 1) xnm0 xnm0 (by omega)) ?_
        refine xg_putI (fl1 := [(2, 83), (2, 84), (0, f82_171), (0, f82_173), (0, f82_175), (0, f82_177), (0, f82_179), (0, f82_181), (0, f82_183), (0, f82_185), (0, f82_187), (2, 85), (2, 86), (2, 87), (0, f82_189 + 1), (2, 88), (2, 89), (2, 90), (2, 91), (2, 92), (2, 93), (2, 94), (4, f82_191), (4, f82_192), (0, f82_193), (2, 95), (2, 96), (2, 97), (2, 98), (2, 99), (2, 100), (2, 101), (2, 102), (0, f82_195), (2, 103), (2, 104), (2, 105), (2, 106), (2, 107), (2, 108), (2, 109), (0, f82_197), (0, f82_199), (2, 110), (2, 111), (2, 112), (2, 113)]) (hb244.get (by decide) (hF228.get (by decide) (hF219.get (by decide) (hF213.get (by decide) (hF206.get (by decide) h82_201))))) rfl rfl rfl (fun w246 hk247 hb248 => ?_)
        have hf249 : fld w246 82 10 = f82_187 := fld_of hk247
        have hf250 : fld w246 82 14 = f82_189 + 1 := fld_of hk247
        exact xg_e ⟨w246, ⟨rfl, rfl⟩, xMnv.up (S := [85, 82]) hI227 ((xFr.of (S := [85, 82]) hb244 (by decide)).tr (xFr.of (S := [85, 82]) hb248 (by decide))) (List.forall_mem_cons.mpr ⟨xqu85 (show cpI 7 52 4294967295 (wget w246 85) from ⟨_, (hr243.but hb248 (by decide)), xrb (by omega) (hb236)⟩), List.forall_mem_cons.mpr ⟨xqu82 (show cp82 (wget w246 82) from xmC82 f82_171 f82_173 f82_175 f82_177 f82_179 f82_181 f82_183 f82_185 f82_187 (f82_189 + 1) f82_191 f82_192 f82_193 f82_195 f82_197 f82_199 hk247 hb172 hb174 hb176 hb178 hb180 hb182 hb184 hb186 hb188 (by omega) hb194 hb196 hb198 hb200 (by omega)), fun _ h => absurd h List.not_mem_nil⟩⟩), ((((((((hF50.tr (hF103.up (by decide))).tr (xFr.of (S := [82, 83, 85, 86, 87]) hb151 (by decide))).tr (hF156.up (by decide))).tr (hF206.up (by decide))).tr (hF213.up (by decide))).tr (hF219.up (by decide))).tr (hF228.up (by decide))).tr ((xFr.of (S := [82, 83, 85, 86, 87]) hb244 (by decide)).tr (xFr.of (S := [82, 83, 85, 86, 87]) hb248 (by decide)))), ⟨Or.inl ⟨p_108, lf170, ⟨by have z := hk233.1; omega, (rwv_eq (j := 16) ((hb248.1 83 (by decide)).trans (hb244.1 83 (by decide)))).trans hk233.2.1, (rwv_eq (j := 17) ((hb248.1 83 (by decide)).trans (hb244.1 83 (by decide)))).trans hk233.2.2⟩⟩, (((((((((hj56.tr (K83.fr hF103 (by decide))).tr (K83.but hb151 (by decide))).tr k8_160).tr (K83.fr hF206 (by decide))).tr (K83.fr hF213 (by decide))).tr (K83.fr hF219 (by decide))).tr (K83.fr hF228 (by decide))).tr (K83.but hb244 (by decide))).tr (K83.but hb248 (by decide))), by omega⟩⟩
      · obtain ⟨p_251, hp252⟩ : ∃ x, x = tf B nn p_108 := ⟨_, rfl⟩
        rw [← hp252] at hT_168
        have ln253 : lnR B nn p0 = lnN B nn 4 1 p_251 := by rw [hp252]; exact ln112.trans (lnN_y (k := 1) hk163)
        have vp254 : vlp B nn (lnP B nn k) 0 = p_108 := by rw [← hp0]; exact hp109.symm
        have vl255 : vln B nn (lnP B nn k) 0 = tnu B nn p_108 := by
          show (if (0 : Nat) = 3 then _ else tnu B nn (vlp B nn (lnP B nn k) 0)) = _
          rw [if_neg (by decide), vp254]
        have he257 : (chk (mf1 B nn k 4 (flA B nn k)) 0 9 (tnu B nn p_108) (tq B nn p_108)) = (mf2 B nn k 4 (flA B nn k)) := by show _ = chk (mf1 B nn k 4 (flA B nn k)) 0 9 (vln B nn (lnP B nn k) 0) (tq B nn (vlp B nn (lnP B nn k) 0)); rw [vl255, vp254]
        have hF_256 := hF_169
        rw [he257] at hF_256
        have he259 : (mf2 B nn k 4 (flA B nn k)) = (mf3 B nn k 4 (flA B nn k)) := rfl
        have hF_258 := hF_256
        rw [he259] at hF_258
        refine xoCh82 (xqc82 hI155 : cp82 (wget w153 82)) (fun f82_260 f82_262 f82_264 f82_266 f82_268 f82_270 f82_272 f82_274 f82_276 f82_278 f82_280 f82_281 f82_282 f82_284 f82_286 f82_288 h82_290 hb261 hb263 hb265 hb267 hb269 hb271 hb273 hb275 hb277 hb279 hb283 hb285 hb287 hb289 hb291 => ?_)
        refine xg_cVv mX12_puts (vs := [(0, 4), (0, u42), (0, (100 + (2 * u42)) + 0), (0, n157)]) (rest := []) (cn1 := 0) (sl1 := 0) rfl (mPuts4 (hI155) (by omega) (by omega) (by omega) (fun _ => by omega)) rfl h82_290 rfl rfl rfl rfl rfl rfl (fun w292 hq293 => ?_)
        obtain ⟨hI294, hF295, hx296⟩ := hq293
        obtain ⟨hp297, hp298⟩ := hx296
        refine xg_t (xg_iinc (u := 0) (z := 1) (l1 := [(0, (2, 82)), (1, (0, 4)), (2, (0, at_)), (3, (0, u42))]) rfl rfl (by decide) rfl) ?_
        refine xg_t (xg_goto) ?_
        refine xg_t (xg_blq rfl) ?_
        refine xg_t (xg_iload (va := (0, 1)) rfl rfl) ?_
        refine xg_t (xg_const) ?_
        refine xg_t (xg_icF (u := 1) (v := 2) rfl xnm0 xnm0 (by decide)) ?_
        refine xg_t (xg_aload (va := (2, 82)) rfl rfl) ?_
        refine xg_t (xg_iload (va := (0, 4)) rfl rfl) ?_
        refine xg_t (xg_iload (va := (0, u42)) rfl rfl) ?_
        refine xg_t (xg_bip) ?_
        refine xg_t (xg_const) ?_
        refine xg_t (xg_iload (va := (0, u42)) rfl rfl) ?_
        refine xg_t (xg_imul (u := 2) (v := u42) (z := 2 * u42) xnm0 xnm0 (by omega)) ?_
        refine xg_t (xg_iadd (u := 100) (v := 2 * u42) (z := 100 + (2 * u42)) xnm0 xnm0 (by omega)) ?_
        refine xg_t (xg_iload (va := (0, 1)) rfl rfl) ?_
        refine xg_t (xg_iadd (u := 100 + (2 * u42)) (v := 1) (z := (100 + (2 * u42)) + 1) xnm0 xnm0 (by omega)) ?_
        refine xg_t (xg_aload (va := (2, 82)) rfl rfl) ?_
        refine xg_t (xg_const) ?_
        refine xg_t (xg_bip) ?_
        have hk299 := ((fld_eq (j := 14) (hF295.1 82 (by decide))).trans k14_162)
        refine xg_cVi mX12_numbered (vs := [(0, 0), (0, 9)]) (rest := [(0, (100 + (2 * u42)) + 1), (0, u42), (0, 4), (2, 82)]) (cn1 := 0) (sl1 := 0) rfl (mNumX (ir := 0) (hI294) (by omega) (by omega) (hB.fr (fun j h4 h9 => ((((hj56.tr (K83.fr hF103 (by decide))).tr (K83.but hb151 (by decide))).tr k8_160).tr (K83.fr hF295 (by decide))) j (by omega) (by omega) (by omega))) ((fld_eq (j := 10) (hF295.1 82 (by decide))).trans k10_167) (hT_168.fr (hF295.1 82 (by decide))) (hF_258.k83 (rwv_eq (hF295.1 83 (by decide))) (rwv_eq (hF295.1 83 (by decide))))) rfl (hF295.get (by decide) h82_290) rfl rfl rfl rfl rfl rfl (fun n304 w300 hq301 => ?_)
        obtain ⟨hn305, hI302, hF303⟩ := hq301
        obtain ⟨hx308, h14_306, k8_307⟩ := hn305
        have k14_309 := h14_306.trans hk299
        rcases hx308 with ⟨rfl, hk310, hW311⟩ | ⟨hv312, h9_313, hk310, k10_314, hT_315, hF_316⟩
        · have lf317 : lnR B nn p0 = (false, p_251) := ln253.trans (lnN_n (k := 0) hk310)
          refine xoCh82 (xqc82 hI302 : cp82 (wget w300 82)) (fun f82_318 f82_320 f82_322 f82_324 f82_326 f82_328 f82_330 f82_332 f82_334 f82_336 f82_338 f82_339 f82_340 f82_342 f82_344 f82_346 h82_348 hb319 hb321 hb323 hb325 hb327 hb329 hb331 hb333 hb335 hb337 hb341 hb343 hb345 hb347 hb349 => ?_)
          refine xg_cVv mX12_puts (vs := [(0, 4), (0, u42), (0, (100 + (2 * u42)) + 1), (0, 0)]) (rest := []) (cn1 := 0) (sl1 := 0) rfl (mPuts4 (hI302) (by omega) (by omega) (by omega) (fun _ => by omega)) rfl h82_348 rfl rfl rfl rfl rfl rfl (fun w350 hq351 => ?_)
          obtain ⟨hI352, hF353, hx354⟩ := hq351
          obtain ⟨hp355, hp356⟩ := hx354
          refine xg_t (xg_iinc (u := 1) (z := 2) (l1 := [(0, (2, 82)), (1, (0, 4)), (2, (0, at_)), (3, (0, u42))]) rfl rfl (by decide) rfl) ?_
          refine xg_t (xg_goto) ?_
          refine xg_t (xg_blq rfl) ?_
          refine xg_t (xg_iload (va := (0, 2)) rfl rfl) ?_
          refine xg_t (xg_const) ?_
          refine xg_t (xg_icT (u := 2) (v := 2) rfl xnm0 xnm0 (by decide)) ?_
          refine xg_t (xg_blq rfl) ?_
          refine xg_t (xg_goto) ?_
          refine xg_t (xg_blq rfl) ?_
          refine xg_t (xg_aload (va := (2, 82)) rfl rfl) ?_
          refine xg_t (xg_getf (va := (0, f82_334)) (hF353.get (by decide) h82_348) rfl) ?_
          have hf357 : fld w350 82 10 = f82_334 := fld_of (hF353.get (by decide) h82_348)
          have hk358 : fld w350 82 10 ≠ 0 := (by have q := hW311.1; have q2 := fld_eq (j := 10) (hF353.1 82 (by decide)); omega)
          refine xg_t (xg_ifT (u := f82_334) rfl xnm0 (xj_neT (by omega))) ?_
          refine xg_t (xg_blq rfl) ?_
          refine xg_t (xg_aload (va := (2, 82)) rfl rfl) ?_
          refine xg_cVv mX12_ends (vs := []) (rest := []) (cn1 := 0) (sl1 := 0) rfl (mEndsW (hI352) (by have q := hW311.1; have q2 := fld_eq (j := 10) (hF353.1 82 (by decide)); omega)) rfl (hF353.get (by decide) h82_348) rfl rfl rfl rfl rfl rfl (fun w359 hq360 => ?_)
          obtain ⟨hI361, hF362⟩ := hq360
          refine xg_t (xg_blq rfl) ?_
          have hf363 : fld w359 82 10 = f82_334 := fld_of (hF362.get (by decide) (hF353.get (by decide) h82_348))
          have hf364 : fld w359 82 14 = f82_336 := fld_of (hF362.get (by decide) (hF353.get (by decide) h82_348))
          have hk365 := ((fld_eq (j := 14) ((hF362.1 82 (by decide)).trans (hF353.1 82 (by decide)))).trans k14_309)
          have hl366 : f82_336 ≤ 500 := by omega
          have hk367 : WRG w359 (tq B nn p_251) := ⟨(fld_eq (j := 10) ((hF362.1 82 (by decide)).trans (hF353.1 82 (by decide)))).trans hW311.1, (rwv_eq (j := 16) ((hF362.1 83 (by decide)).trans (hF353.1 83 (by decide)))).trans hW311.2.1, (rwv_eq (j := 17) ((hF362.1 83 (by decide)).trans (hF353.1 83 (by decide)))).trans hW311.2.2⟩
          refine xg_t (xg_aload (va := (2, 82)) rfl rfl) ?_
          refine xg_t (xg_getf (va := (2, 85)) (hF362.get (by decide) (hF353.get (by decide) h82_348)) rfl) ?_
          refine xg_t (xg_iload (va := (0, 4)) rfl rfl) ?_
          refine xg_t (xg_dup2 rfl) ?_
          refine xoI (xqc85 hI361 : cpI 7 52 4294967295 (wget w359 85)) (fun g85_368 h85_369 hb370 => ?_)
          refine xg_ialdB (n := 4) (B := 4294967295) h85_369 (hb370) xnm0 (by first | decide | omega) (fun u371 hu372 he373 => ?_)
          have hK374 : u371 = u42 := (((rwv_of h85_369 (by decide)).trans he373).symm.trans (rwv_eq ((hF362.1 85 (by decide)).trans ((hF353.1 85 (by decide)).trans ((hF303.1 85 (by decide)).trans ((hF295.1 85 (by decide)).trans ((hF156.1 85 (by decide)).trans ((hb151.1 85 (by decide)).trans ((hF103.1 85 (by decide)).trans hj57))))))))).trans ((hm 4 (by decide)).trans hK45.symm)
          have hl375 : u371 ≤ 500 := by omega
          refine xg_t (xg_const) ?_
          refine xg_t (xg_iadd (u := u371) (v := 1) (z := u371 + 1) xnm0 xnm0 (by omega)) ?_
          refine xg_iastK (n := 4) (u := u371 + 1) h85_369 xnm0 xnm0 rfl (by first | decide | omega) (fun w376 hr377 hb378 => ?_)
          refine xg_t (xg_aload (va := (2, 82)) rfl rfl) ?_
          refine xg_t (xg_dup rfl) ?_
          refine xg_t (xg_getf (va := (0, f82_336)) (hb378.get (by decide) (hF362.get (by decide) (hF353.get (by decide) h82_348))) rfl) ?_
          have hn379 := id hb337
          unfold xHid at hn379
          refine xg_t (xg_const) ?_
          refine xg_t (xg_iadd (u := f82_336) (v := 1) (z := f82_336 + 1) xnm0 xnm0 (by omega)) ?_
          refine xg_putI (fl1 := [(2, 83), (2, 84), (0, f82_318), (0, f82_320), (0, f82_322), (0, f82_324), (0, f82_326), (0, f82_328), (0, f82_330), (0, f82_332), (0, f82_334), (2, 85), (2, 86), (2, 87), (0, f82_336 + 1), (2, 88), (2, 89), (2, 90), (2, 91), (2, 92), (2, 93), (2, 94), (4, f82_338), (4, f82_339), (0, f82_340), (2, 95), (2, 96), (2, 97), (2, 98), (2, 99), (2, 100), (2, 101), (2, 102), (0, f82_342), (2, 103), (2, 104), (2, 105), (2, 106), (2, 107), (2, 108), (2, 109), (0, f82_344), (0, f82_346), (2, 110), (2, 111), (2, 112), (2, 113)]) (hb378.get (by decide) (hF362.get (by decide) (hF353.get (by decide) h82_348))) rfl rfl rfl (fun w380 hk381 hb382 => ?_)
          have hf383 : fld w380 82 10 = f82_334 := fld_of hk381
          have hf384 : fld w380 82 14 = f82_336 + 1 := fld_of hk381
          exact xg_e ⟨w380, ⟨rfl, rfl⟩, xMnv.up (S := [85, 82]) hI361 ((xFr.of (S := [85, 82]) hb378 (by decide)).tr (xFr.of (S := [85, 82]) hb382 (by decide))) (List.forall_mem_cons.mpr ⟨xqu85 (show cpI 7 52 4294967295 (wget w380 85) from ⟨_, (hr377.but hb382 (by decide)), xrb (by omega) (hb370)⟩), List.forall_mem_cons.mpr ⟨xqu82 (show cp82 (wget w380 82) from xmC82 f82_318 f82_320 f82_322 f82_324 f82_326 f82_328 f82_330 f82_332 f82_334 (f82_336 + 1) f82_338 f82_339 f82_340 f82_342 f82_344 f82_346 hk381 hb319 hb321 hb323 hb325 hb327 hb329 hb331 hb333 hb335 (by omega) hb341 hb343 hb345 hb347 (by omega)), fun _ h => absurd h List.not_mem_nil⟩⟩), ((((((((hF50.tr (hF103.up (by decide))).tr (xFr.of (S := [82, 83, 85, 86, 87]) hb151 (by decide))).tr (hF156.up (by decide))).tr (hF295.up (by decide))).tr (hF303.up (by decide))).tr (hF353.up (by decide))).tr (hF362.up (by decide))).tr ((xFr.of (S := [82, 83, 85, 86, 87]) hb378 (by decide)).tr (xFr.of (S := [82, 83, 85, 86, 87]) hb382 (by decide)))), ⟨Or.inl ⟨p_251, lf317, ⟨by have z := hk367.1; omega, (rwv_eq (j := 16) ((hb382.1 83 (by decide)).trans (hb378.1 83 (by decide)))).trans hk367.2.1, (rwv_eq (j := 17) ((hb382.1 83 (by decide)).trans (hb378.1 83 (by decide)))).trans hk367.2.2⟩⟩, (((((((((hj56.tr (K83.fr hF103 (by decide))).tr (K83.but hb151 (by decide))).tr k8_160).tr (K83.fr hF295 (by decide))).tr k8_307).tr (K83.fr hF353 (by decide))).tr (K83.fr hF362 (by decide))).tr (K83.but hb378 (by decide))).tr (K83.but hb382 (by decide))), by omega⟩⟩
        · obtain ⟨p_385, hp386⟩ : ∃ x, x = tf B nn p_251 := ⟨_, rfl⟩
          rw [← hp386] at hT_315
          have ln387 : lnR B nn p0 = lnN B nn 4 0 p_385 := by rw [hp386]; exact ln253.trans (lnN_y (k := 0) hk310)
          have vp388 : vlp B nn (lnP B nn k) 1 = p_251 := by show tf B nn (vlp B nn (lnP B nn k) 0) = p_251; rw [vp254]; exact hp252.symm
          have vl389 : vln B nn (lnP B nn k) 1 = tnu B nn p_251 := by
            show (if (1 : Nat) = 3 then _ else tnu B nn (vlp B nn (lnP B nn k) 1)) = _
            rw [if_neg (by decide), vp388]
          have he391 : (chk (mf3 B nn k 4 (flA B nn k)) 0 9 (tnu B nn p_251) (tq B nn p_251)) = (mf4 B nn k 4 (flA B nn k)) := by show _ = chk (mf3 B nn k 4 (flA B nn k)) 0 9 (vln B nn (lnP B nn k) 1) (tq B nn (vlp B nn (lnP B nn k) 1)); rw [vl389, vp388]
          have hF_390 := hF_316
          rw [he391] at hF_390
          have he393 : (mf4 B nn k 4 (flA B nn k)) = (mfl B nn k 4 (flA B nn k)) := rfl
          have hF_392 := hF_390
          rw [he393] at hF_392
          refine xoCh82 (xqc82 hI302 : cp82 (wget w300 82)) (fun f82_394 f82_396 f82_398 f82_400 f82_402 f82_404 f82_406 f82_408 f82_410 f82_412 f82_414 f82_415 f82_416 f82_418 f82_420 f82_422 h82_424 hb395 hb397 hb399 hb401 hb403 hb405 hb407 hb409 hb411 hb413 hb417 hb419 hb421 hb423 hb425 => ?_)
          refine xg_cVv mX12_puts (vs := [(0, 4), (0, u42), (0, (100 + (2 * u42)) + 1), (0, n304)]) (rest := []) (cn1 := 0) (sl1 := 0) rfl (mPuts4 (hI302) (by omega) (by omega) (by omega) (fun _ => by omega)) rfl h82_424 rfl rfl rfl rfl rfl rfl (fun w426 hq427 => ?_)
          obtain ⟨hI428, hF429, hx430⟩ := hq427
          obtain ⟨hp431, hp432⟩ := hx430
          refine xg_t (xg_iinc (u := 1) (z := 2) (l1 := [(0, (2, 82)), (1, (0, 4)), (2, (0, at_)), (3, (0, u42))]) rfl rfl (by decide) rfl) ?_
          refine xg_t (xg_goto) ?_
          refine xg_t (xg_blq rfl) ?_
          refine xg_t (xg_iload (va := (0, 2)) rfl rfl) ?_
          refine xg_t (xg_const) ?_
          refine xg_t (xg_icT (u := 2) (v := 2) rfl xnm0 xnm0 (by decide)) ?_
          refine xg_t (xg_blq rfl) ?_
          refine xg_t (xg_goto) ?_
          refine xg_t (xg_blq rfl) ?_
          have ln433 : lnR B nn p0 = lnS B nn p_385 := by exact ln387.trans (lnN_0 (by decide))
          refine xg_t (xg_aload (va := (2, 82)) rfl rfl) ?_
          refine xg_t (xg_getf (va := (0, f82_410)) (hF429.get (by decide) h82_424) rfl) ?_
          have hf434 : fld w426 82 10 = f82_410 := fld_of (hF429.get (by decide) h82_424)
          have hk435 : fld w426 82 10 = 0 := ((fld_eq (j := 10) (hF429.1 82 (by decide))).trans k10_314)
          refine xg_t (xg_ifF (u := f82_410) rfl xnm0 (xj_neF (by omega))) ?_
          obtain ⟨⟨ht436, ht437, ht438, ht439, ht440, ht441⟩, ht442, ht443, ht444⟩ := id (hT_315.fr (hF429.1 82 (by decide)))
          have hf445 : fld w426 82 6 = f82_402 := fld_of (hF429.get (by decide) h82_424)
          have hf446 : fld w426 82 7 = f82_404 := fld_of (hF429.get (by decide) h82_424)
          have hf447 : fld w426 82 8 = f82_406 := fld_of (hF429.get (by decide) h82_424)
          have hf448 : fld w426 82 9 = f82_408 := fld_of (hF429.get (by decide) h82_424)
          have hf449 : fld w426 82 3 = f82_396 := fld_of (hF429.get (by decide) h82_424)
          have hmk450 := mkd_of (ir := 0) (B := B) (n := nn) (p := p_385)
          refine xg_t (xg_aload (va := (2, 82)) rfl rfl) ?_
          refine xg_t (xg_getf (va := (0, f82_404)) (hF429.get (by decide) h82_424) rfl) ?_
          refine xg_t (xg_const) ?_
          by_cases hc451 : f82_404 = 2
          · refine xg_t (xg_icF (u := f82_404) (v := 2) rfl xnm0 xnm0 (xj_neF hc451)) ?_
            have sg4521 : tkd B nn p_385 = 3 := by omega
            have sg4522 : B (tq B nn p_385) = 59 := by omega
            refine xg_t (xg_aload (va := (2, 82)) rfl rfl) ?_
            clear ht436 ht437 ht438 ht439 ht440 ht441 ht442 ht443 ht444 hf445 hf446 hf447 hf448 hf449 hmk450
            obtain ⟨⟨ht453, ht454, ht455, ht456, ht457, ht458⟩, -⟩ := id (hT_315.fr (hF429.1 82 (by decide)))
            have hk459 := ((fld_eq (j := 10) (hF429.1 82 (by decide))).trans k10_314)
            have hk460 := ((fld_eq (j := 14) (hF429.1 82 (by decide))).trans k14_309)
            refine xg_cVv mX12_advance (vs := []) (rest := []) (cn1 := 0) (sl1 := 0) rfl (mAdvX (hI428) (hB.fr (fun j h4 h9 => ((((((hj56.tr (K83.fr hF103 (by decide))).tr (K83.but hb151 (by decide))).tr k8_160).tr (K83.fr hF295 (by decide))).tr k8_307).tr (K83.fr hF429 (by decide))) j (by omega) (by omega) (by omega))) ht453 ht454 (by rw [ht455]; exact tf_le ht458)) rfl (hF429.get (by decide) h82_424) rfl rfl rfl rfl rfl rfl (fun w461 hq462 => ?_)
            obtain ⟨hI463, hF464, hx465⟩ := hq462
            obtain ⟨hz466, hz467, hz468⟩ := hx465
            rw [ht455] at hz466
            clear ht453 ht454 ht455 ht456 ht457 ht458
            obtain ⟨p_469, hp470⟩ : ∃ x, x = tf B nn p_385 := ⟨_, rfl⟩
            rw [← hp470] at hz466
            have k10_471 := hz467.trans hk459
            have k14_472 := hz468.trans hk460
            clear hz467 hz468 hk459 hk460
            have ln473 : lnR B nn p0 = (true, p_469) := by rw [hp470]; exact ln433.trans (lnS_y ⟨sg4521, sg4522⟩)
            refine xg_t (xg_goto) ?_
            refine xg_t (xg_blq rfl) ?_
            refine xoCh82 (xqc82 hI463 : cp82 (wget w461 82)) (fun f82_474 f82_476 f82_478 f82_480 f82_482 f82_484 f82_486 f82_488 f82_490 f82_492 f82_494 f82_495 f82_496 f82_498 f82_500 f82_502 h82_504 hb475 hb477 hb479 hb481 hb483 hb485 hb487 hb489 hb491 hb493 hb497 hb499 hb501 hb503 hb505 => ?_)
            have hf506 : fld w461 82 10 = f82_490 := fld_of h82_504
            have hf507 : fld w461 82 14 = f82_492 := fld_of h82_504
            have hk508 := k14_472
            have hl509 : f82_492 ≤ 500 := by omega
            have hk510 := hz466
            have hk511 := (hF_392.k83 (rwv_eq ((hF464.1 83 (by decide)).trans (hF429.1 83 (by decide)))) (rwv_eq ((hF464.1 83 (by decide)).trans (hF429.1 83 (by decide)))))
            have hk512 := k10_471
            refine xg_t (xg_aload (va := (2, 82)) rfl rfl) ?_
            refine xg_t (xg_getf (va := (2, 85)) h82_504 rfl) ?_
            refine xg_t (xg_iload (va := (0, 4)) rfl rfl) ?_
            refine xg_t (xg_dup2 rfl) ?_
            refine xoI (xqc85 hI463 : cpI 7 52 4294967295 (wget w461 85)) (fun g85_513 h85_514 hb515 => ?_)
            refine xg_ialdB (n := 4) (B := 4294967295) h85_514 (hb515) xnm0 (by first | decide | omega) (fun u516 hu517 he518 => ?_)
            have hK519 : u516 = u42 := (((rwv_of h85_514 (by decide)).trans he518).symm.trans (rwv_eq ((hF464.1 85 (by decide)).trans ((hF429.1 85 (by decide)).trans ((hF303.1 85 (by decide)).trans ((hF295.1 85 (by decide)).trans ((hF156.1 85 (by decide)).trans ((hb151.1 85 (by decide)).trans ((hF103.1 85 (by decide)).trans hj57))))))))).trans ((hm 4 (by decide)).trans hK45.symm)
            have hl520 : u516 ≤ 500 := by omega
            refine xg_t (xg_const) ?_
            refine xg_t (xg_iadd (u := u516) (v := 1) (z := u516 + 1) xnm0 xnm0 (by omega)) ?_
            refine xg_iastK (n := 4) (u := u516 + 1) h85_514 xnm0 xnm0 rfl (by first | decide | omega) (fun w521 hr522 hb523 => ?_)
            refine xg_t (xg_aload (va := (2, 82)) rfl rfl) ?_
            refine xg_t (xg_dup rfl) ?_
            refine xg_t (xg_getf (va := (0, f82_492)) (hb523.get (by decide) h82_504) rfl) ?_
            have hn524 := id hb493
            unfold xHid at hn524
            refine xg_t (xg_const) ?_
            refine xg_t (xg_iadd (u := f82_492) (v := 1) (z := f82_492 + 1) xnm0 xnm0 (by omega)) ?_
            refine xg_putI (fl1 := [(2, 83), (2, 84), (0, f82_474), (0, f82_476), (0, f82_478), (0, f82_480), (0, f82_482), (0, f82_484), (0, f82_486), (0, f82_488), (0, f82_490), (2, 85), (2, 86), (2, 87), (0, f82_492 + 1), (2, 88), (2, 89), (2, 90), (2, 91), (2, 92), (2, 93), (2, 94), (4, f82_494), (4, f82_495), (0, f82_496), (2, 95), (2, 96), (2, 97), (2, 98), (2, 99), (2, 100), (2, 101), (2, 102), (0, f82_498), (2, 103), (2, 104), (2, 105), (2, 106), (2, 107), (2, 108), (2, 109), (0, f82_500), (0, f82_502), (2, 110), (2, 111), (2, 112), (2, 113)]) (hb523.get (by decide) h82_504) rfl rfl rfl (fun w525 hk526 hb527 => ?_)
            have hf528 : fld w525 82 10 = f82_490 := fld_of hk526
            have hf529 : fld w525 82 14 = f82_492 + 1 := fld_of hk526
            have he530 : lnP B nn (k + 1) = p_469 := by
              show (lnR B nn (lnP B nn k)).2 = _
              rw [← hp0, ln473]
            have hT531 : TKM 0 B nn w525 p_469 := hk510.w14 ((show fld w525 82 2 = f82_474 from fld_of hk526).trans (show fld w461 82 2 = f82_474 from fld_of h82_504).symm) ((show fld w525 82 3 = f82_476 from fld_of hk526).trans (show fld w461 82 3 = f82_476 from fld_of h82_504).symm) ((show fld w525 82 4 = f82_478 from fld_of hk526).trans (show fld w461 82 4 = f82_478 from fld_of h82_504).symm) ((show fld w525 82 5 = f82_480 from fld_of hk526).trans (show fld w461 82 5 = f82_480 from fld_of h82_504).symm) ((show fld w525 82 6 = f82_482 from fld_of hk526).trans (show fld w461 82 6 = f82_482 from fld_of h82_504).symm) ((show fld w525 82 7 = f82_484 from fld_of hk526).trans (show fld w461 82 7 = f82_484 from fld_of h82_504).symm) ((show fld w525 82 8 = f82_486 from fld_of hk526).trans (show fld w461 82 8 = f82_486 from fld_of h82_504).symm) ((show fld w525 82 9 = f82_488 from fld_of hk526).trans (show fld w461 82 9 = f82_488 from fld_of h82_504).symm)
            have hF532 : FP w525 (mfl B nn k 4 (flA B nn k)) := hk511.k83 (rwv_eq ((hb527.1 83 (by decide)).trans (hb523.1 83 (by decide)))) (rwv_eq ((hb527.1 83 (by decide)).trans (hb523.1 83 (by decide))))
            have hg534 := (tf_gt (B := B) (n := nn) (p := p_108) (by omega)).2
            have hg535 := tq_ge (B := B) (n := nn) (p := p_108)
            have hg536 := (tf_gt (B := B) (n := nn) (p := p_251) (by omega)).2
            have hg537 := tq_ge (B := B) (n := nn) (p := p_251)
            have hg538 := (tf_gt (B := B) (n := nn) (p := p0) (by rw [slt_kd (by rw [hp0, hs]; decide)]; decide)).2
            have hg539 := (tf_gt (B := B) (n := nn) (p := p_385) (by omega)).2
            have hg540 := tq_ge (B := B) (n := nn) (p := p_385)
            have hg541 := tq_ge (B := B) (n := nn) (p := p_469)
            have hp1x := hp109
            have hO533 : ORD B nn k 4 (tq B nn (lnP B nn (k + 1))) := by
              unfold ORD
              rw [he530, vp254, vp388, ← hp0]
              exact ⟨by omega, by omega, fun z => absurd z (by decide), by omega, fun z => absurd z (by decide)⟩
            have hM542 : rwv w525 85 4 = lnC B nn 4 k + 1 := (rwv_of (hr522.but hb527 (by decide)) (by decide)).trans ((if_pos rfl).trans (by omega))
            have hM543 : ∀ s, s < 7 → s ≠ 4 → rwv w525 85 s = rwv w 85 s := fun s hs hn => (rwv_of (hr522.but hb527 (by decide)) hs).trans ((if_neg hn).trans ((rwv_of h85_514 hs).symm.trans (rwv_eq ((hF464.1 85 (by decide)).trans ((hF429.1 85 (by decide)).trans ((hF303.1 85 (by decide)).trans ((hF295.1 85 (by decide)).trans ((hF156.1 85 (by decide)).trans ((hb151.1 85 (by decide)).trans ((hF103.1 85 (by decide)).trans hj57))))))))))
            have hr544 : lnC B nn 4 k < 20 → ∀ t, t < 2 → XM w525 4 (lnC B nn 4 k) t = vln B nn (lnP B nn k) t := fun hlt t ht => by
              rcases (show t = 0 ∨ t = 1 by omega) with rfl | rfl
              · show rwv w525 86 (100 + 2 * lnC B nn 4 k + 0) = _
                rw [show 100 + 2 * lnC B nn 4 k + 0 = (100 + (2 * u42)) + 0 by omega]
                exact ((rwv_eq (hb527.1 86 (by decide))).trans ((rwv_eq (hb523.1 86 (by decide))).trans ((rwv_eq (hF464.1 86 (by decide))).trans ((hp432 ((100 + (2 * u42)) + 0) (by omega) (by omega)).trans (rwv_eq (hF303.1 86 (by decide))))))).trans ((hp297 (by omega)).trans (hv165.trans vl255.symm))
              · show rwv w525 86 (100 + 2 * lnC B nn 4 k + 1) = _
                rw [show 100 + 2 * lnC B nn 4 k + 1 = (100 + (2 * u42)) + 1 by omega]
                exact ((rwv_eq (hb527.1 86 (by decide))).trans ((rwv_eq (hb523.1 86 (by decide))).trans (rwv_eq (hF464.1 86 (by decide))))).trans ((hp431 (by omega)).trans (hv312.trans vl389.symm))
            have ho545 : ∀ j, (j < 100 + 2 * lnC B nn 4 k ∨ 100 + 2 * (lnC B nn 4 k + 1) ≤ j) → j < 140 → rwv w525 86 j = rwv w 86 j := fun j hj hl => ((rwv_eq (hb527.1 86 (by decide))).trans ((rwv_eq (hb523.1 86 (by decide))).trans ((rwv_eq (hF464.1 86 (by decide))).trans ((hp432 j (by omega) hl).trans ((rwv_eq (hF303.1 86 (by decide))).trans ((hp298 j (by omega) hl).trans ((rwv_eq (hF156.1 86 (by decide))).trans ((rwv_eq (hb151.1 86 (by decide))).trans ((rwv_eq (hF103.1 86 (by decide))).trans (rwv_eq hj58))))))))))
            have ha546 : (lnC B nn 4 k < 20 → rwv w525 87 (lnC B nn 4 k) = tq B nn (lnP B nn k)) ∧ ∀ j, j ≠ lnC B nn 4 k → j < 20 → rwv w525 87 j = rwv w 87 j := ⟨fun hlt => (rwv_of (((((((hr150.fr hF156 (by decide)).fr hF295 (by decide)).fr hF303 (by decide)).fr hF429 (by decide)).fr hF464 (by decide)).but hb523 (by decide)).but hb527 (by decide)) hlt).trans ((if_pos (by omega)).trans (by rw [← hp0]; exact hat)), fun j hj hl => (rwv_of (((((((hr150.fr hF156 (by decide)).fr hF295 (by decide)).fr hF303 (by decide)).fr hF429 (by decide)).fr hF464 (by decide)).but hb523 (by decide)).but hb527 (by decide)) hl).trans ((if_neg (by omega)).trans ((rwv_of h87_147 hl).symm.trans (rwv_eq ((hF103.1 87 (by decide)).trans hj59))))⟩
            have hM547 := MSTok4 hS hs (by have z := hk512; omega) (by omega) hF532 hO533 hM542 hM543 hr544 ho545 ha546
            exact xg_e ⟨w525, ⟨rfl, rfl⟩, xMnv.up (S := [85, 82]) hI463 ((xFr.of (S := [85, 82]) hb523 (by decide)).tr (xFr.of (S := [85, 82]) hb527 (by decide))) (List.forall_mem_cons.mpr ⟨xqu85 (show cpI 7 52 4294967295 (wget w525 85) from ⟨_, (hr522.but hb527 (by decide)), xrb (by omega) (hb515)⟩), List.forall_mem_cons.mpr ⟨xqu82 (show cp82 (wget w525 82) from xmC82 f82_474 f82_476 f82_478 f82_480 f82_482 f82_484 f82_486 f82_488 f82_490 (f82_492 + 1) f82_494 f82_495 f82_496 f82_498 f82_500 f82_502 hk526 hb475 hb477 hb479 hb481 hb483 hb485 hb487 hb489 hb491 (by omega) hb497 hb499 hb501 hb503 (by omega)), fun _ h => absurd h List.not_mem_nil⟩⟩), ((((((((hF50.tr (hF103.up (by decide))).tr (xFr.of (S := [82, 83, 85, 86, 87]) hb151 (by decide))).tr (hF156.up (by decide))).tr (hF295.up (by decide))).tr (hF303.up (by decide))).tr (hF429.up (by decide))).tr (hF464.up (by decide))).tr ((xFr.of (S := [82, 83, 85, 86, 87]) hb523 (by decide)).tr (xFr.of (S := [82, 83, 85, 86, 87]) hb527 (by decide)))), ⟨Or.inr ⟨by rw [ln473], by rw [he530]; exact hT531, hM547⟩, (((((((((hj56.tr (K83.fr hF103 (by decide))).tr (K83.but hb151 (by decide))).tr k8_160).tr (K83.fr hF295 (by decide))).tr k8_307).tr (K83.fr hF429 (by decide))).tr (K83.fr hF464 (by decide))).tr (K83.but hb523 (by decide))).tr (K83.but hb527 (by decide))), by omega⟩⟩
          · refine xg_t (xg_icT (u := f82_404) (v := 2) rfl xnm0 xnm0 (xj_neT hc451)) ?_
            refine xg_t (xg_blq rfl) ?_
            have lf548n : ¬ (tkd B nn p_385 = 3 ∧ B (tq B nn p_385) = 59) := by omega
            have lf548 : lnR B nn p0 = (false, p_385) := ln433.trans (lnS_n lf548n)
            refine xg_t (xg_aload (va := (2, 82)) rfl rfl) ?_
            have hk549 := ((fld_eq (j := 14) (hF429.1 82 (by decide))).trans k14_309)
            have hk550 := (hT_315.fr (hF429.1 82 (by decide))).1.2.2.2.1
            clear ht436 ht437 ht438 ht439 ht440 ht441 ht442 ht443 ht444 hf445 hf446 hf447 hf448 hf449 hmk450
            refine xg_cVv mX12_ends (vs := []) (rest := []) (cn1 := 0) (sl1 := 0) rfl (mEndsX (hI428) ((fld_eq (j := 10) (hF429.1 82 (by decide))).trans k10_314)) rfl (hF429.get (by decide) h82_424) rfl rfl rfl rfl rfl rfl (fun w551 hq552 => ?_)
            obtain ⟨hI553, hF554, hx555⟩ := hq552
            obtain ⟨hv556, hv557, hv558, hv559, hv560⟩ := hx555
            have hW561 : WRG w551 (tq B nn p_385) := ⟨hv556, hv557, hv558.trans hk550⟩
            have k14_562 := hv559.trans hk549
            refine xg_t (xg_blq rfl) ?_
            refine xoCh82 (xqc82 hI553 : cp82 (wget w551 82)) (fun f82_563 f82_565 f82_567 f82_569 f82_571 f82_573 f82_575 f82_577 f82_579 f82_581 f82_583 f82_584 f82_585 f82_587 f82_589 f82_591 h82_593 hb564 hb566 hb568 hb570 hb572 hb574 hb576 hb578 hb580 hb582 hb586 hb588 hb590 hb592 hb594 => ?_)
            have hf595 : fld w551 82 10 = f82_579 := fld_of h82_593
            have hf596 : fld w551 82 14 = f82_581 := fld_of h82_593
            have hk597 := k14_562
            have hl598 : f82_581 ≤ 500 := by omega
            have hk599 : WRG w551 (tq B nn p_385) := hW561
            refine xg_t (xg_aload (va := (2, 82)) rfl rfl) ?_
            refine xg_t (xg_getf (va := (2, 85)) h82_593 rfl) ?_
            refine xg_t (xg_iload (va := (0, 4)) rfl rfl) ?_
            refine xg_t (xg_dup2 rfl) ?_
            refine xoI (xqc85 hI553 : cpI 7 52 4294967295 (wget w551 85)) (fun g85_600 h85_601 hb602 => ?_)
            refine xg_ialdB (n := 4) (B := 4294967295) h85_601 (hb602) xnm0 (by first | decide | omega) (fun u603 hu604 he605 => ?_)
            have hK606 : u603 = u42 := (((rwv_of h85_601 (by decide)).trans he605).symm.trans (rwv_eq ((hF554.1 85 (by decide)).trans ((hF429.1 85 (by decide)).trans ((hF303.1 85 (by decide)).trans ((hF295.1 85 (by decide)).trans ((hF156.1 85 (by decide)).trans ((hb151.1 85 (by decide)).trans ((hF103.1 85 (by decide)).trans hj57))))))))).trans ((hm 4 (by decide)).trans hK45.symm)
            have hl607 : u603 ≤ 500 := by omega
            refine xg_t (xg_const) ?_
            refine xg_t (xg_iadd (u := u603) (v := 1) (z := u603 + 1) xnm0 xnm0 (by omega)) ?_
            refine xg_iastK (n := 4) (u := u603 + 1) h85_601 xnm0 xnm0 rfl (by first | decide | omega) (fun w608 hr609 hb610 => ?_)
            refine xg_t (xg_aload (va := (2, 82)) rfl rfl) ?_
            refine xg_t (xg_dup rfl) ?_
            refine xg_t (xg_getf (va := (0, f82_581)) (hb610.get (by decide) h82_593) rfl) ?_
            have hn611 := id hb582
            unfold xHid at hn611
            refine xg_t (xg_const) ?_
            refine xg_t (xg_iadd (u := f82_581) (v := 1) (z := f82_581 + 1) xnm0 xnm0 (by omega)) ?_
            refine xg_putI (fl1 := [(2, 83), (2, 84), (0, f82_563), (0, f82_565), (0, f82_567), (0, f82_569), (0, f82_571), (0, f82_573), (0, f82_575), (0, f82_577), (0, f82_579), (2, 85), (2, 86), (2, 87), (0, f82_581 + 1), (2, 88), (2, 89), (2, 90), (2, 91), (2, 92), (2, 93), (2, 94), (4, f82_583), (4, f82_584), (0, f82_585), (2, 95), (2, 96), (2, 97), (2, 98), (2, 99), (2, 100), (2, 101), (2, 102), (0, f82_587), (2, 103), (2, 104), (2, 105), (2, 106), (2, 107), (2, 108), (2, 109), (0, f82_589), (0, f82_591), (2, 110), (2, 111), (2, 112), (2, 113)]) (hb610.get (by decide) h82_593) rfl rfl rfl (fun w612 hk613 hb614 => ?_)
            have hf615 : fld w612 82 10 = f82_579 := fld_of hk613
            have hf616 : fld w612 82 14 = f82_581 + 1 := fld_of hk613
            exact xg_e ⟨w612, ⟨rfl, rfl⟩, xMnv.up (S := [85, 82]) hI553 ((xFr.of (S := [85, 82]) hb610 (by decide)).tr (xFr.of (S := [85, 82]) hb614 (by decide))) (List.forall_mem_cons.mpr ⟨xqu85 (show cpI 7 52 4294967295 (wget w612 85) from ⟨_, (hr609.but hb614 (by decide)), xrb (by omega) (hb602)⟩), List.forall_mem_cons.mpr ⟨xqu82 (show cp82 (wget w612 82) from xmC82 f82_563 f82_565 f82_567 f82_569 f82_571 f82_573 f82_575 f82_577 f82_579 (f82_581 + 1) f82_583 f82_584 f82_585 f82_587 f82_589 f82_591 hk613 hb564 hb566 hb568 hb570 hb572 hb574 hb576 hb578 hb580 (by omega) hb586 hb588 hb590 hb592 (by omega)), fun _ h => absurd h List.not_mem_nil⟩⟩), ((((((((hF50.tr (hF103.up (by decide))).tr (xFr.of (S := [82, 83, 85, 86, 87]) hb151 (by decide))).tr (hF156.up (by decide))).tr (hF295.up (by decide))).tr (hF303.up (by decide))).tr (hF429.up (by decide))).tr (hF554.up (by decide))).tr ((xFr.of (S := [82, 83, 85, 86, 87]) hb610 (by decide)).tr (xFr.of (S := [82, 83, 85, 86, 87]) hb614 (by decide)))), ⟨Or.inl ⟨p_385, lf548, ⟨by have z := hk599.1; omega, (rwv_eq (j := 16) ((hb614.1 83 (by decide)).trans (hb610.1 83 (by decide)))).trans hk599.2.1, (rwv_eq (j := 17) ((hb614.1 83 (by decide)).trans (hb610.1 83 (by decide)))).trans hk599.2.2⟩⟩, (((((((((hj56.tr (K83.fr hF103 (by decide))).tr (K83.but hb151 (by decide))).tr k8_160).tr (K83.fr hF295 (by decide))).tr k8_307).tr (K83.fr hF429 (by decide))).tr hv560).tr (K83.but hb610 (by decide))).tr (K83.but hb614 (by decide))), by omega⟩⟩
    · refine xg_t (xg_icT (u := u42) (v := 20) rfl xnm0 xnm0 (xj_geT (by omega) (by omega))) ?_
      refine xg_t (xg_blq rfl) ?_
      refine xg_t (xg_const) ?_
      refine xg_t (xg_istore (l1 := [(0, (2, 82)), (1, (0, 4)), (2, (0, at_)), (3, (0, u42))]) rfl rfl rfl) ?_
      refine xg_t (xg_blq rfl) ?_
      refine xg_t (xg_iload (va := (0, 0)) rfl rfl) ?_
      refine xg_t (xg_const) ?_
      refine xg_t (xg_icF (u := 0) (v := 2) rfl xnm0 xnm0 (by decide)) ?_
      refine xg_t (xg_aload (va := (2, 82)) rfl rfl) ?_
      refine xg_t (xg_iload (va := (0, 4)) rfl rfl) ?_
      refine xg_t (xg_iload (va := (0, u42)) rfl rfl) ?_
      refine xg_t (xg_bip) ?_
      refine xg_t (xg_const) ?_
      refine xg_t (xg_iload (va := (0, u42)) rfl rfl) ?_
      refine xg_t (xg_imul (u := 2) (v := u42) (z := 2 * u42) xnm0 xnm0 (by omega)) ?_
      refine xg_t (xg_iadd (u := 100) (v := 2 * u42) (z := 100 + (2 * u42)) xnm0 xnm0 (by omega)) ?_
      refine xg_t (xg_iload (va := (0, 0)) rfl rfl) ?_
      refine xg_t (xg_iadd (u := 100 + (2 * u42)) (v := 0) (z := (100 + (2 * u42)) + 0) xnm0 xnm0 (by omega)) ?_
      refine xg_t (xg_aload (va := (2, 82)) rfl rfl) ?_
      refine xg_t (xg_const) ?_
      refine xg_t (xg_bip) ?_
      have hk617 := k14_111
      refine xoCh82 (xqc82 hI102 : cp82 (wget w100 82)) (fun f82_618 f82_620 f82_622 f82_624 f82_626 f82_628 f82_630 f82_632 f82_634 f82_636 f82_638 f82_639 f82_640 f82_642 f82_644 f82_646 h82_648 hb619 hb621 hb623 hb625 hb627 hb629 hb631 hb633 hb635 hb637 hb641 hb643 hb645 hb647 hb649 => ?_)
      refine xg_cVi mX12_numbered (vs := [(0, 0), (0, 9)]) (rest := [(0, (100 + (2 * u42)) + 0), (0, u42), (0, 4), (2, 82)]) (cn1 := 0) (sl1 := 0) rfl (mNumX (ir := 0) (hI102) (by omega) (by omega) (hB.fr (fun j h4 h9 => (hj56.tr (K83.fr hF103 (by decide))) j (by omega) (by omega) (by omega))) k10_110 hz105 (hj52.k83 (rwv_eq (hF103.1 83 (by decide))) (rwv_eq (hF103.1 83 (by decide))))) rfl h82_648 rfl rfl rfl rfl rfl rfl (fun n654 w650 hq651 => ?_)
      obtain ⟨hn655, hI652, hF653⟩ := hq651
      obtain ⟨hx658, h14_656, k8_657⟩ := hn655
      have k14_659 := h14_656.trans hk617
      rcases hx658 with ⟨rfl, hk660, hW661⟩ | ⟨hv662, h9_663, hk660, k10_664, hT_665, hF_666⟩
      · have lf667 : lnR B nn p0 = (false, p_108) := ln112.trans (lnN_n (k := 1) hk660)
        refine xoCh82 (xqc82 hI652 : cp82 (wget w650 82)) (fun f82_668 f82_670 f82_672 f82_674 f82_676 f82_678 f82_680 f82_682 f82_684 f82_686 f82_688 f82_689 f82_690 f82_692 f82_694 f82_696 h82_698 hb669 hb671 hb673 hb675 hb677 hb679 hb681 hb683 hb685 hb687 hb691 hb693 hb695 hb697 hb699 => ?_)
        refine xg_cVv mX12_puts (vs := [(0, 4), (0, u42), (0, (100 + (2 * u42)) + 0), (0, 0)]) (rest := []) (cn1 := 0) (sl1 := 0) rfl (mPuts4 (hI652) (by omega) (by omega) (by omega) (fun _ => by omega)) rfl h82_698 rfl rfl rfl rfl rfl rfl (fun w700 hq701 => ?_)
        obtain ⟨hI702, hF703, hx704⟩ := hq701
        obtain ⟨hp705, hp706⟩ := hx704
        refine xg_t (xg_iinc (u := 0) (z := 1) (l1 := [(0, (2, 82)), (1, (0, 4)), (2, (0, at_)), (3, (0, u42))]) rfl rfl (by decide) rfl) ?_
        refine xg_t (xg_goto) ?_
        refine xg_t (xg_blq rfl) ?_
        refine xg_t (xg_iload (va := (0, 1)) rfl rfl) ?_
        refine xg_t (xg_const) ?_
        refine xg_t (xg_icF (u := 1) (v := 2) rfl xnm0 xnm0 (by decide)) ?_
        refine xg_t (xg_aload (va := (2, 82)) rfl rfl) ?_
        refine xg_t (xg_iload (va := (0, 4)) rfl rfl) ?_
        refine xg_t (xg_iload (va := (0, u42)) rfl rfl) ?_
        refine xg_t (xg_bip) ?_
        refine xg_t (xg_const) ?_
        refine xg_t (xg_iload (va := (0, u42)) rfl rfl) ?_
        refine xg_t (xg_imul (u := 2) (v := u42) (z := 2 * u42) xnm0 xnm0 (by omega)) ?_
        refine xg_t (xg_iadd (u := 100) (v := 2 * u42) (z := 100 + (2 * u42)) xnm0 xnm0 (by omega)) ?_
        refine xg_t (xg_iload (va := (0, 1)) rfl rfl) ?_
        refine xg_t (xg_iadd (u := 100 + (2 * u42)) (v := 1) (z := (100 + (2 * u42)) + 1) xnm0 xnm0 (by omega)) ?_
        refine xg_t (xg_aload (va := (2, 82)) rfl rfl) ?_
        refine xg_t (xg_const) ?_
        refine xg_t (xg_bip) ?_
        refine xg_cVi mX12_numbered (vs := [(0, 0), (0, 9)]) (rest := [(0, (100 + (2 * u42)) + 1), (0, u42), (0, 4), (2, 82)]) (cn1 := 0) (sl1 := 0) rfl (mNumW (hI702) (by omega) (by omega) (by have q := hW661.1; have q2 := fld_eq (j := 10) (hF703.1 82 (by decide)); omega)) rfl (hF703.get (by decide) h82_698) rfl rfl rfl rfl rfl rfl (fun n711 w707 hq708 => ?_)
        obtain ⟨hn712, hI709, hF710⟩ := hq708
        obtain rfl := hn712
        refine xg_cVv mX12_puts (vs := [(0, 4), (0, u42), (0, (100 + (2 * u42)) + 1), (0, 0)]) (rest := []) (cn1 := 0) (sl1 := 0) rfl (mPuts4 (hI709) (by omega) (by omega) (by omega) (fun _ => by omega)) rfl (hF710.get (by decide) (hF703.get (by decide) h82_698)) rfl rfl rfl rfl rfl rfl (fun w713 hq714 => ?_)
        obtain ⟨hI715, hF716, hx717⟩ := hq714
        obtain ⟨hp718, hp719⟩ := hx717
        refine xg_t (xg_iinc (u := 1) (z := 2) (l1 := [(0, (2, 82)), (1, (0, 4)), (2, (0, at_)), (3, (0, u42))]) rfl rfl (by decide) rfl) ?_
        refine xg_t (xg_goto) ?_
        refine xg_t (xg_blq rfl) ?_
        refine xg_t (xg_iload (va := (0, 2)) rfl rfl) ?_
        refine xg_t (xg_const) ?_
        refine xg_t (xg_icT (u := 2) (v := 2) rfl xnm0 xnm0 (by decide)) ?_
        refine xg_t (xg_blq rfl) ?_
        refine xg_t (xg_goto) ?_
        refine xg_t (xg_blq rfl) ?_
        refine xg_t (xg_aload (va := (2, 82)) rfl rfl) ?_
        refine xg_t (xg_getf (va := (0, f82_684)) (hF716.get (by decide) (hF710.get (by decide) (hF703.get (by decide) h82_698))) rfl) ?_
        have hf720 : fld w713 82 10 = f82_684 := fld_of (hF716.get (by decide) (hF710.get (by decide) (hF703.get (by decide) h82_698)))
        have hk721 : fld w713 82 10 ≠ 0 := (by have q := hW661.1; have q2 := fld_eq (j := 10) ((hF716.1 82 (by decide)).trans ((hF710.1 82 (by decide)).trans (hF703.1 82 (by decide)))); omega)
        refine xg_t (xg_ifT (u := f82_684) rfl xnm0 (xj_neT (by omega))) ?_
        refine xg_t (xg_blq rfl) ?_
        refine xg_t (xg_aload (va := (2, 82)) rfl rfl) ?_
        refine xg_cVv mX12_ends (vs := []) (rest := []) (cn1 := 0) (sl1 := 0) rfl (mEndsW (hI715) (by have q := hW661.1; have q2 := fld_eq (j := 10) ((hF716.1 82 (by decide)).trans ((hF710.1 82 (by decide)).trans (hF703.1 82 (by decide)))); omega)) rfl (hF716.get (by decide) (hF710.get (by decide) (hF703.get (by decide) h82_698))) rfl rfl rfl rfl rfl rfl (fun w722 hq723 => ?_)
        obtain ⟨hI724, hF725⟩ := hq723
        refine xg_t (xg_blq rfl) ?_
        have hf726 : fld w722 82 10 = f82_684 := fld_of (hF725.get (by decide) (hF716.get (by decide) (hF710.get (by decide) (hF703.get (by decide) h82_698))))
        have hf727 : fld w722 82 14 = f82_686 := fld_of (hF725.get (by decide) (hF716.get (by decide) (hF710.get (by decide) (hF703.get (by decide) h82_698))))
        have hk728 := ((fld_eq (j := 14) ((hF725.1 82 (by decide)).trans ((hF716.1 82 (by decide)).trans ((hF710.1 82 (by decide)).trans (hF703.1 82 (by decide)))))).trans k14_659)
        have hl729 : f82_686 ≤ 500 := by omega
        have hk730 : WRG w722 (tq B nn p_108) := ⟨(fld_eq (j := 10) ((hF725.1 82 (by decide)).trans ((hF716.1 82 (by decide)).trans ((hF710.1 82 (by decide)).trans (hF703.1 82 (by decide)))))).trans hW661.1, (rwv_eq (j := 16) ((hF725.1 83 (by decide)).trans ((hF716.1 83 (by decide)).trans ((hF710.1 83 (by decide)).trans (hF703.1 83 (by decide)))))).trans hW661.2.1, (rwv_eq (j := 17) ((hF725.1 83 (by decide)).trans ((hF716.1 83 (by decide)).trans ((hF710.1 83 (by decide)).trans (hF703.1 83 (by decide)))))).trans hW661.2.2⟩
        refine xg_t (xg_aload (va := (2, 82)) rfl rfl) ?_
        refine xg_t (xg_getf (va := (2, 85)) (hF725.get (by decide) (hF716.get (by decide) (hF710.get (by decide) (hF703.get (by decide) h82_698)))) rfl) ?_
        refine xg_t (xg_iload (va := (0, 4)) rfl rfl) ?_
        refine xg_t (xg_dup2 rfl) ?_
        refine xoI (xqc85 hI724 : cpI 7 52 4294967295 (wget w722 85)) (fun g85_731 h85_732 hb733 => ?_)
        refine xg_ialdB (n := 4) (B := 4294967295) h85_732 (hb733) xnm0 (by first | decide | omega) (fun u734 hu735 he736 => ?_)
        have hK737 : u734 = u42 := (((rwv_of h85_732 (by decide)).trans he736).symm.trans (rwv_eq ((hF725.1 85 (by decide)).trans ((hF716.1 85 (by decide)).trans ((hF710.1 85 (by decide)).trans ((hF703.1 85 (by decide)).trans ((hF653.1 85 (by decide)).trans ((hF103.1 85 (by decide)).trans hj57)))))))).trans ((hm 4 (by decide)).trans hK45.symm)
        have hl738 : u734 ≤ 500 := by omega
        refine xg_t (xg_const) ?_
        refine xg_t (xg_iadd (u := u734) (v := 1) (z := u734 + 1) xnm0 xnm0 (by omega)) ?_
        refine xg_iastK (n := 4) (u := u734 + 1) h85_732 xnm0 xnm0 rfl (by first | decide | omega) (fun w739 hr740 hb741 => ?_)
        refine xg_t (xg_aload (va := (2, 82)) rfl rfl) ?_
        refine xg_t (xg_dup rfl) ?_
        refine xg_t (xg_getf (va := (0, f82_686)) (hb741.get (by decide) (hF725.get (by decide) (hF716.get (by decide) (hF710.get (by decide) (hF703.get (by decide) h82_698))))) rfl) ?_
        have hn742 := id hb687
        unfold xHid at hn742
        refine xg_t (xg_const) ?_
        refine xg_t (xg_iadd (u := f82_686) (v := 1) (z := f82_686 + 1) xnm0 xnm0 (by omega)) ?_
        refine xg_putI (fl1 := [(2, 83), (2, 84), (0, f82_668), (0, f82_670), (0, f82_672), (0, f82_674), (0, f82_676), (0, f82_678), (0, f82_680), (0, f82_682), (0, f82_684), (2, 85), (2, 86), (2, 87), (0, f82_686 + 1), (2, 88), (2, 89), (2, 90), (2, 91), (2, 92), (2, 93), (2, 94), (4, f82_688), (4, f82_689), (0, f82_690), (2, 95), (2, 96), (2, 97), (2, 98), (2, 99), (2, 100), (2, 101), (2, 102), (0, f82_692), (2, 103), (2, 104), (2, 105), (2, 106), (2, 107), (2, 108), (2, 109), (0, f82_694), (0, f82_696), (2, 110), (2, 111), (2, 112), (2, 113)]) (hb741.get (by decide) (hF725.get (by decide) (hF716.get (by decide) (hF710.get (by decide) (hF703.get (by decide) h82_698))))) rfl rfl rfl (fun w743 hk744 hb745 => ?_)
        have hf746 : fld w743 82 10 = f82_684 := fld_of hk744
        have hf747 : fld w743 82 14 = f82_686 + 1 := fld_of hk744
        exact xg_e ⟨w743, ⟨rfl, rfl⟩, xMnv.up (S := [85, 82]) hI724 ((xFr.of (S := [85, 82]) hb741 (by decide)).tr (xFr.of (S := [85, 82]) hb745 (by decide))) (List.forall_mem_cons.mpr ⟨xqu85 (show cpI 7 52 4294967295 (wget w743 85) from ⟨_, (hr740.but hb745 (by decide)), xrb (by omega) (hb733)⟩), List.forall_mem_cons.mpr ⟨xqu82 (show cp82 (wget w743 82) from xmC82 f82_668 f82_670 f82_672 f82_674 f82_676 f82_678 f82_680 f82_682 f82_684 (f82_686 + 1) f82_688 f82_689 f82_690 f82_692 f82_694 f82_696 hk744 hb669 hb671 hb673 hb675 hb677 hb679 hb681 hb683 hb685 (by omega) hb691 hb693 hb695 hb697 (by omega)), fun _ h => absurd h List.not_mem_nil⟩⟩), (((((((hF50.tr (hF103.up (by decide))).tr (hF653.up (by decide))).tr (hF703.up (by decide))).tr (hF710.up (by decide))).tr (hF716.up (by decide))).tr (hF725.up (by decide))).tr ((xFr.of (S := [82, 83, 85, 86, 87]) hb741 (by decide)).tr (xFr.of (S := [82, 83, 85, 86, 87]) hb745 (by decide)))), ⟨Or.inl ⟨p_108, lf667, ⟨by have z := hk730.1; omega, (rwv_eq (j := 16) ((hb745.1 83 (by decide)).trans (hb741.1 83 (by decide)))).trans hk730.2.1, (rwv_eq (j := 17) ((hb745.1 83 (by decide)).trans (hb741.1 83 (by decide)))).trans hk730.2.2⟩⟩, ((((((((hj56.tr (K83.fr hF103 (by decide))).tr k8_657).tr (K83.fr hF703 (by decide))).tr (K83.fr hF710 (by decide))).tr (K83.fr hF716 (by decide))).tr (K83.fr hF725 (by decide))).tr (K83.but hb741 (by decide))).tr (K83.but hb745 (by decide))), by omega⟩⟩
      · obtain ⟨p_748, hp749⟩ : ∃ x, x = tf B nn p_108 := ⟨_, rfl⟩
        rw [← hp749] at hT_665
        have ln750 : lnR B nn p0 = lnN B nn 4 1 p_748 := by rw [hp749]; exact ln112.trans (lnN_y (k := 1) hk660)
        have vp751 : vlp B nn (lnP B nn k) 0 = p_108 := by rw [← hp0]; exact hp109.symm
        have vl752 : vln B nn (lnP B nn k) 0 = tnu B nn p_108 := by
          show (if (0 : Nat) = 3 then _ else tnu B nn (vlp B nn (lnP B nn k) 0)) = _
          rw [if_neg (by decide), vp751]
        have he754 : (chk (mf1 B nn k 4 (flA B nn k)) 0 9 (tnu B nn p_108) (tq B nn p_108)) = (mf2 B nn k 4 (flA B nn k)) := by show _ = chk (mf1 B nn k 4 (flA B nn k)) 0 9 (vln B nn (lnP B nn k) 0) (tq B nn (vlp B nn (lnP B nn k) 0)); rw [vl752, vp751]
        have hF_753 := hF_666
        rw [he754] at hF_753
        have he756 : (mf2 B nn k 4 (flA B nn k)) = (mf3 B nn k 4 (flA B nn k)) := rfl
        have hF_755 := hF_753
        rw [he756] at hF_755
        refine xoCh82 (xqc82 hI652 : cp82 (wget w650 82)) (fun f82_757 f82_759 f82_761 f82_763 f82_765 f82_767 f82_769 f82_771 f82_773 f82_775 f82_777 f82_778 f82_779 f82_781 f82_783 f82_785 h82_787 hb758 hb760 hb762 hb764 hb766 hb768 hb770 hb772 hb774 hb776 hb780 hb782 hb784 hb786 hb788 => ?_)
        refine xg_cVv mX12_puts (vs := [(0, 4), (0, u42), (0, (100 + (2 * u42)) + 0), (0, n654)]) (rest := []) (cn1 := 0) (sl1 := 0) rfl (mPuts4 (hI652) (by omega) (by omega) (by omega) (fun _ => by omega)) rfl h82_787 rfl rfl rfl rfl rfl rfl (fun w789 hq790 => ?_)
        obtain ⟨hI791, hF792, hx793⟩ := hq790
        obtain ⟨hp794, hp795⟩ := hx793
        refine xg_t (xg_iinc (u := 0) (z := 1) (l1 := [(0, (2, 82)), (1, (0, 4)), (2, (0, at_)), (3, (0, u42))]) rfl rfl (by decide) rfl) ?_
        refine xg_t (xg_goto) ?_
        refine xg_t (xg_blq rfl) ?_
        refine xg_t (xg_iload (va := (0, 1)) rfl rfl) ?_
        refine xg_t (xg_const) ?_
        refine xg_t (xg_icF (u := 1) (v := 2) rfl xnm0 xnm0 (by decide)) ?_
        refine xg_t (xg_aload (va := (2, 82)) rfl rfl) ?_
        refine xg_t (xg_iload (va := (0, 4)) rfl rfl) ?_
        refine xg_t (xg_iload (va := (0, u42)) rfl rfl) ?_
        refine xg_t (xg_bip) ?_
        refine xg_t (xg_const) ?_
        refine xg_t (xg_iload (va := (0, u42)) rfl rfl) ?_
        refine xg_t (xg_imul (u := 2) (v := u42) (z := 2 * u42) xnm0 xnm0 (by omega)) ?_
        refine xg_t (xg_iadd (u := 100) (v := 2 * u42) (z := 100 + (2 * u42)) xnm0 xnm0 (by omega)) ?_
        refine xg_t (xg_iload (va := (0, 1)) rfl rfl) ?_
        refine xg_t (xg_iadd (u := 100 + (2 * u42)) (v := 1) (z := (100 + (2 * u42)) + 1) xnm0 xnm0 (by omega)) ?_
        refine xg_t (xg_aload (va := (2, 82)) rfl rfl) ?_
        refine xg_t (xg_const) ?_
        refine xg_t (xg_bip) ?_
        have hk796 := ((fld_eq (j := 14) (hF792.1 82 (by decide))).trans k14_659)
        refine xg_cVi mX12_numbered (vs := [(0, 0), (0, 9)]) (rest := [(0, (100 + (2 * u42)) + 1), (0, u42), (0, 4), (2, 82)]) (cn1 := 0) (sl1 := 0) rfl (mNumX (ir := 0) (hI791) (by omega) (by omega) (hB.fr (fun j h4 h9 => (((hj56.tr (K83.fr hF103 (by decide))).tr k8_657).tr (K83.fr hF792 (by decide))) j (by omega) (by omega) (by omega))) ((fld_eq (j := 10) (hF792.1 82 (by decide))).trans k10_664) (hT_665.fr (hF792.1 82 (by decide))) (hF_755.k83 (rwv_eq (hF792.1 83 (by decide))) (rwv_eq (hF792.1 83 (by decide))))) rfl (hF792.get (by decide) h82_787) rfl rfl rfl rfl rfl rfl (fun n801 w797 hq798 => ?_)
        obtain ⟨hn802, hI799, hF800⟩ := hq798
        obtain ⟨hx805, h14_803, k8_804⟩ := hn802
        have k14_806 := h14_803.trans hk796
        rcases hx805 with ⟨rfl, hk807, hW808⟩ | ⟨hv809, h9_810, hk807, k10_811, hT_812, hF_813⟩
        · have lf814 : lnR B nn p0 = (false, p_748) := ln750.trans (lnN_n (k := 0) hk807)
          refine xoCh82 (xqc82 hI799 : cp82 (wget w797 82)) (fun f82_815 f82_817 f82_819 f82_821 f82_823 f82_825 f82_827 f82_829 f82_831 f82_833 f82_835 f82_836 f82_837 f82_839 f82_841 f82_843 h82_845 hb816 hb818 hb820 hb822 hb824 hb826 hb828 hb830 hb832 hb834 hb838 hb840 hb842 hb844 hb846 => ?_)
          refine xg_cVv mX12_puts (vs := [(0, 4), (0, u42), (0, (100 + (2 * u42)) + 1), (0, 0)]) (rest := []) (cn1 := 0) (sl1 := 0) rfl (mPuts4 (hI799) (by omega) (by omega) (by omega) (fun _ => by omega)) rfl h82_845 rfl rfl rfl rfl rfl rfl (fun w847 hq848 => ?_)
          obtain ⟨hI849, hF850, hx851⟩ := hq848
          obtain ⟨hp852, hp853⟩ := hx851
          refine xg_t (xg_iinc (u := 1) (z := 2) (l1 := [(0, (2, 82)), (1, (0, 4)), (2, (0, at_)), (3, (0, u42))]) rfl rfl (by decide) rfl) ?_
          refine xg_t (xg_goto) ?_
          refine xg_t (xg_blq rfl) ?_
          refine xg_t (xg_iload (va := (0, 2)) rfl rfl) ?_
          refine xg_t (xg_const) ?_
          refine xg_t (xg_icT (u := 2) (v := 2) rfl xnm0 xnm0 (by decide)) ?_
          refine xg_t (xg_blq rfl) ?_
          refine xg_t (xg_goto) ?_
          refine xg_t (xg_blq rfl) ?_
          refine xg_t (xg_aload (va := (2, 82)) rfl rfl) ?_
          refine xg_t (xg_getf (va := (0, f82_831)) (hF850.get (by decide) h82_845) rfl) ?_
          have hf854 : fld w847 82 10 = f82_831 := fld_of (hF850.get (by decide) h82_845)
          have hk855 : fld w847 82 10 ≠ 0 := (by have q := hW808.1; have q2 := fld_eq (j := 10) (hF850.1 82 (by decide)); omega)
          refine xg_t (xg_ifT (u := f82_831) rfl xnm0 (xj_neT (by omega))) ?_
          refine xg_t (xg_blq rfl) ?_
          refine xg_t (xg_aload (va := (2, 82)) rfl rfl) ?_
          refine xg_cVv mX12_ends (vs := []) (rest := []) (cn1 := 0) (sl1 := 0) rfl (mEndsW (hI849) (by have q := hW808.1; have q2 := fld_eq (j := 10) (hF850.1 82 (by decide)); omega)) rfl (hF850.get (by decide) h82_845) rfl rfl rfl rfl rfl rfl (fun w856 hq857 => ?_)
          obtain ⟨hI858, hF859⟩ := hq857
          refine xg_t (xg_blq rfl) ?_
          have hf860 : fld w856 82 10 = f82_831 := fld_of (hF859.get (by decide) (hF850.get (by decide) h82_845))
          have hf861 : fld w856 82 14 = f82_833 := fld_of (hF859.get (by decide) (hF850.get (by decide) h82_845))
          have hk862 := ((fld_eq (j := 14) ((hF859.1 82 (by decide)).trans (hF850.1 82 (by decide)))).trans k14_806)
          have hl863 : f82_833 ≤ 500 := by omega
          have hk864 : WRG w856 (tq B nn p_748) := ⟨(fld_eq (j := 10) ((hF859.1 82 (by decide)).trans (hF850.1 82 (by decide)))).trans hW808.1, (rwv_eq (j := 16) ((hF859.1 83 (by decide)).trans (hF850.1 83 (by decide)))).trans hW808.2.1, (rwv_eq (j := 17) ((hF859.1 83 (by decide)).trans (hF850.1 83 (by decide)))).trans hW808.2.2⟩
          refine xg_t (xg_aload (va := (2, 82)) rfl rfl) ?_
          refine xg_t (xg_getf (va := (2, 85)) (hF859.get (by decide) (hF850.get (by decide) h82_845)) rfl) ?_
          refine xg_t (xg_iload (va := (0, 4)) rfl rfl) ?_
          refine xg_t (xg_dup2 rfl) ?_
          refine xoI (xqc85 hI858 : cpI 7 52 4294967295 (wget w856 85)) (fun g85_865 h85_866 hb867 => ?_)
          refine xg_ialdB (n := 4) (B := 4294967295) h85_866 (hb867) xnm0 (by first | decide | omega) (fun u868 hu869 he870 => ?_)
          have hK871 : u868 = u42 := (((rwv_of h85_866 (by decide)).trans he870).symm.trans (rwv_eq ((hF859.1 85 (by decide)).trans ((hF850.1 85 (by decide)).trans ((hF800.1 85 (by decide)).trans ((hF792.1 85 (by decide)).trans ((hF653.1 85 (by decide)).trans ((hF103.1 85 (by decide)).trans hj57)))))))).trans ((hm 4 (by decide)).trans hK45.symm)
          have hl872 : u868 ≤ 500 := by omega
          refine xg_t (xg_const) ?_
          refine xg_t (xg_iadd (u := u868) (v := 1) (z := u868 + 1) xnm0 xnm0 (by omega)) ?_
          refine xg_iastK (n := 4) (u := u868 + 1) h85_866 xnm0 xnm0 rfl (by first | decide | omega) (fun w873 hr874 hb875 => ?_)
          refine xg_t (xg_aload (va := (2, 82)) rfl rfl) ?_
          refine xg_t (xg_dup rfl) ?_
          refine xg_t (xg_getf (va := (0, f82_833)) (hb875.get (by decide) (hF859.get (by decide) (hF850.get (by decide) h82_845))) rfl) ?_
          have hn876 := id hb834
          unfold xHid at hn876
          refine xg_t (xg_const) ?_
          refine xg_t (xg_iadd (u := f82_833) (v := 1) (z := f82_833 + 1) xnm0 xnm0 (by omega)) ?_
          refine xg_putI (fl1 := [(2, 83), (2, 84), (0, f82_815), (0, f82_817), (0, f82_819), (0, f82_821), (0, f82_823), (0, f82_825), (0, f82_827), (0, f82_829), (0, f82_831), (2, 85), (2, 86), (2, 87), (0, f82_833 + 1), (2, 88), (2, 89), (2, 90), (2, 91), (2, 92), (2, 93), (2, 94), (4, f82_835), (4, f82_836), (0, f82_837), (2, 95), (2, 96), (2, 97), (2, 98), (2, 99), (2, 100), (2, 101), (2, 102), (0, f82_839), (2, 103), (2, 104), (2, 105), (2, 106), (2, 107), (2, 108), (2, 109), (0, f82_841), (0, f82_843), (2, 110), (2, 111), (2, 112), (2, 113)]) (hb875.get (by decide) (hF859.get (by decide) (hF850.get (by decide) h82_845))) rfl rfl rfl (fun w877 hk878 hb879 => ?_)
          have hf880 : fld w877 82 10 = f82_831 := fld_of hk878
          have hf881 : fld w877 82 14 = f82_833 + 1 := fld_of hk878
          exact xg_e ⟨w877, ⟨rfl, rfl⟩, xMnv.up (S := [85, 82]) hI858 ((xFr.of (S := [85, 82]) hb875 (by decide)).tr (xFr.of (S := [85, 82]) hb879 (by decide))) (List.forall_mem_cons.mpr ⟨xqu85 (show cpI 7 52 4294967295 (wget w877 85) from ⟨_, (hr874.but hb879 (by decide)), xrb (by omega) (hb867)⟩), List.forall_mem_cons.mpr ⟨xqu82 (show cp82 (wget w877 82) from xmC82 f82_815 f82_817 f82_819 f82_821 f82_823 f82_825 f82_827 f82_829 f82_831 (f82_833 + 1) f82_835 f82_836 f82_837 f82_839 f82_841 f82_843 hk878 hb816 hb818 hb820 hb822 hb824 hb826 hb828 hb830 hb832 (by omega) hb838 hb840 hb842 hb844 (by omega)), fun _ h => absurd h List.not_mem_nil⟩⟩), (((((((hF50.tr (hF103.up (by decide))).tr (hF653.up (by decide))).tr (hF792.up (by decide))).tr (hF800.up (by decide))).tr (hF850.up (by decide))).tr (hF859.up (by decide))).tr ((xFr.of (S := [82, 83, 85, 86, 87]) hb875 (by decide)).tr (xFr.of (S := [82, 83, 85, 86, 87]) hb879 (by decide)))), ⟨Or.inl ⟨p_748, lf814, ⟨by have z := hk864.1; omega, (rwv_eq (j := 16) ((hb879.1 83 (by decide)).trans (hb875.1 83 (by decide)))).trans hk864.2.1, (rwv_eq (j := 17) ((hb879.1 83 (by decide)).trans (hb875.1 83 (by decide)))).trans hk864.2.2⟩⟩, ((((((((hj56.tr (K83.fr hF103 (by decide))).tr k8_657).tr (K83.fr hF792 (by decide))).tr k8_804).tr (K83.fr hF850 (by decide))).tr (K83.fr hF859 (by decide))).tr (K83.but hb875 (by decide))).tr (K83.but hb879 (by decide))), by omega⟩⟩
        · obtain ⟨p_882, hp883⟩ : ∃ x, x = tf B nn p_748 := ⟨_, rfl⟩
          rw [← hp883] at hT_812
          have ln884 : lnR B nn p0 = lnN B nn 4 0 p_882 := by rw [hp883]; exact ln750.trans (lnN_y (k := 0) hk807)
          have vp885 : vlp B nn (lnP B nn k) 1 = p_748 := by show tf B nn (vlp B nn (lnP B nn k) 0) = p_748; rw [vp751]; exact hp749.symm
          have vl886 : vln B nn (lnP B nn k) 1 = tnu B nn p_748 := by
            show (if (1 : Nat) = 3 then _ else tnu B nn (vlp B nn (lnP B nn k) 1)) = _
            rw [if_neg (by decide), vp885]
          have he888 : (chk (mf3 B nn k 4 (flA B nn k)) 0 9 (tnu B nn p_748) (tq B nn p_748)) = (mf4 B nn k 4 (flA B nn k)) := by show _ = chk (mf3 B nn k 4 (flA B nn k)) 0 9 (vln B nn (lnP B nn k) 1) (tq B nn (vlp B nn (lnP B nn k) 1)); rw [vl886, vp885]
          have hF_887 := hF_813
          rw [he888] at hF_887
          have he890 : (mf4 B nn k 4 (flA B nn k)) = (mfl B nn k 4 (flA B nn k)) := rfl
          have hF_889 := hF_887
          rw [he890] at hF_889
          refine xoCh82 (xqc82 hI799 : cp82 (wget w797 82)) (fun f82_891 f82_893 f82_895 f82_897 f82_899 f82_901 f82_903 f82_905 f82_907 f82_909 f82_911 f82_912 f82_913 f82_915 f82_917 f82_919 h82_921 hb892 hb894 hb896 hb898 hb900 hb902 hb904 hb906 hb908 hb910 hb914 hb916 hb918 hb920 hb922 => ?_)
          refine xg_cVv mX12_puts (vs := [(0, 4), (0, u42), (0, (100 + (2 * u42)) + 1), (0, n801)]) (rest := []) (cn1 := 0) (sl1 := 0) rfl (mPuts4 (hI799) (by omega) (by omega) (by omega) (fun _ => by omega)) rfl h82_921 rfl rfl rfl rfl rfl rfl (fun w923 hq924 => ?_)
          obtain ⟨hI925, hF926, hx927⟩ := hq924
          obtain ⟨hp928, hp929⟩ := hx927
          refine xg_t (xg_iinc (u := 1) (z := 2) (l1 := [(0, (2, 82)), (1, (0, 4)), (2, (0, at_)), (3, (0, u42))]) rfl rfl (by decide) rfl) ?_
          refine xg_t (xg_goto) ?_
          refine xg_t (xg_blq rfl) ?_
          refine xg_t (xg_iload (va := (0, 2)) rfl rfl) ?_
          refine xg_t (xg_const) ?_
          refine xg_t (xg_icT (u := 2) (v := 2) rfl xnm0 xnm0 (by decide)) ?_
          refine xg_t (xg_blq rfl) ?_
          refine xg_t (xg_goto) ?_
          refine xg_t (xg_blq rfl) ?_
          have ln930 : lnR B nn p0 = lnS B nn p_882 := by exact ln884.trans (lnN_0 (by decide))
          refine xg_t (xg_aload (va := (2, 82)) rfl rfl) ?_
          refine xg_t (xg_getf (va := (0, f82_907)) (hF926.get (by decide) h82_921) rfl) ?_
          have hf931 : fld w923 82 10 = f82_907 := fld_of (hF926.get (by decide) h82_921)
          have hk932 : fld w923 82 10 = 0 := ((fld_eq (j := 10) (hF926.1 82 (by decide))).trans k10_811)
          refine xg_t (xg_ifF (u := f82_907) rfl xnm0 (xj_neF (by omega))) ?_
          obtain ⟨⟨ht933, ht934, ht935, ht936, ht937, ht938⟩, ht939, ht940, ht941⟩ := id (hT_812.fr (hF926.1 82 (by decide)))
          have hf942 : fld w923 82 6 = f82_899 := fld_of (hF926.get (by decide) h82_921)
          have hf943 : fld w923 82 7 = f82_901 := fld_of (hF926.get (by decide) h82_921)
          have hf944 : fld w923 82 8 = f82_903 := fld_of (hF926.get (by decide) h82_921)
          have hf945 : fld w923 82 9 = f82_905 := fld_of (hF926.get (by decide) h82_921)
          have hf946 : fld w923 82 3 = f82_893 := fld_of (hF926.get (by decide) h82_921)
          have hmk947 := mkd_of (ir := 0) (B := B) (n := nn) (p := p_882)
          refine xg_t (xg_aload (va := (2, 82)) rfl rfl) ?_
          refine xg_t (xg_getf (va := (0, f82_901)) (hF926.get (by decide) h82_921) rfl) ?_
          refine xg_t (xg_const) ?_
          by_cases hc948 : f82_901 = 2
          · refine xg_t (xg_icF (u := f82_901) (v := 2) rfl xnm0 xnm0 (xj_neF hc948)) ?_
            have sg9491 : tkd B nn p_882 = 3 := by omega
            have sg9492 : B (tq B nn p_882) = 59 := by omega
            refine xg_t (xg_aload (va := (2, 82)) rfl rfl) ?_
            clear ht933 ht934 ht935 ht936 ht937 ht938 ht939 ht940 ht941 hf942 hf943 hf944 hf945 hf946 hmk947
            obtain ⟨⟨ht950, ht951, ht952, ht953, ht954, ht955⟩, -⟩ := id (hT_812.fr (hF926.1 82 (by decide)))
            have hk956 := ((fld_eq (j := 10) (hF926.1 82 (by decide))).trans k10_811)
            have hk957 := ((fld_eq (j := 14) (hF926.1 82 (by decide))).trans k14_806)
            refine xg_cVv mX12_advance (vs := []) (rest := []) (cn1 := 0) (sl1 := 0) rfl (mAdvX (hI925) (hB.fr (fun j h4 h9 => (((((hj56.tr (K83.fr hF103 (by decide))).tr k8_657).tr (K83.fr hF792 (by decide))).tr k8_804).tr (K83.fr hF926 (by decide))) j (by omega) (by omega) (by omega))) ht950 ht951 (by rw [ht952]; exact tf_le ht955)) rfl (hF926.get (by decide) h82_921) rfl rfl rfl rfl rfl rfl (fun w958 hq959 => ?_)
            obtain ⟨hI960, hF961, hx962⟩ := hq959
            obtain ⟨hz963, hz964, hz965⟩ := hx962
            rw [ht952] at hz963
            clear ht950 ht951 ht952 ht953 ht954 ht955
            obtain ⟨p_966, hp967⟩ : ∃ x, x = tf B nn p_882 := ⟨_, rfl⟩
            rw [← hp967] at hz963
            have k10_968 := hz964.trans hk956
            have k14_969 := hz965.trans hk957
            clear hz964 hz965 hk956 hk957
            have ln970 : lnR B nn p0 = (true, p_966) := by rw [hp967]; exact ln930.trans (lnS_y ⟨sg9491, sg9492⟩)
            refine xg_t (xg_goto) ?_
            refine xg_t (xg_blq rfl) ?_
            refine xoCh82 (xqc82 hI960 : cp82 (wget w958 82)) (fun f82_971 f82_973 f82_975 f82_977 f82_979 f82_981 f82_983 f82_985 f82_987 f82_989 f82_991 f82_992 f82_993 f82_995 f82_997 f82_999 h82_1001 hb972 hb974 hb976 hb978 hb980 hb982 hb984 hb986 hb988 hb990 hb994 hb996 hb998 hb1000 hb1002 => ?_)
            have hf1003 : fld w958 82 10 = f82_987 := fld_of h82_1001
            have hf1004 : fld w958 82 14 = f82_989 := fld_of h82_1001
            have hk1005 := k14_969
            have hl1006 : f82_989 ≤ 500 := by omega
            have hk1007 := hz963
            have hk1008 := (hF_889.k83 (rwv_eq ((hF961.1 83 (by decide)).trans (hF926.1 83 (by decide)))) (rwv_eq ((hF961.1 83 (by decide)).trans (hF926.1 83 (by decide)))))
            have hk1009 := k10_968
            refine xg_t (xg_aload (va := (2, 82)) rfl rfl) ?_
            refine xg_t (xg_getf (va := (2, 85)) h82_1001 rfl) ?_
            refine xg_t (xg_iload (va := (0, 4)) rfl rfl) ?_
            refine xg_t (xg_dup2 rfl) ?_
            refine xoI (xqc85 hI960 : cpI 7 52 4294967295 (wget w958 85)) (fun g85_1010 h85_1011 hb1012 => ?_)
            refine xg_ialdB (n := 4) (B := 4294967295) h85_1011 (hb1012) xnm0 (by first | decide | omega) (fun u1013 hu1014 he1015 => ?_)
            have hK1016 : u1013 = u42 := (((rwv_of h85_1011 (by decide)).trans he1015).symm.trans (rwv_eq ((hF961.1 85 (by decide)).trans ((hF926.1 85 (by decide)).trans ((hF800.1 85 (by decide)).trans ((hF792.1 85 (by decide)).trans ((hF653.1 85 (by decide)).trans ((hF103.1 85 (by decide)).trans hj57)))))))).trans ((hm 4 (by decide)).trans hK45.symm)
            have hl1017 : u1013 ≤ 500 := by omega
            refine xg_t (xg_const) ?_
            refine xg_t (xg_iadd (u := u1013) (v := 1) (z := u1013 + 1) xnm0 xnm0 (by omega)) ?_
            refine xg_iastK (n := 4) (u := u1013 + 1) h85_1011 xnm0 xnm0 rfl (by first | decide | omega) (fun w1018 hr1019 hb1020 => ?_)
            refine xg_t (xg_aload (va := (2, 82)) rfl rfl) ?_
            refine xg_t (xg_dup rfl) ?_
            refine xg_t (xg_getf (va := (0, f82_989)) (hb1020.get (by decide) h82_1001) rfl) ?_
            have hn1021 := id hb990
            unfold xHid at hn1021
            refine xg_t (xg_const) ?_
            refine xg_t (xg_iadd (u := f82_989) (v := 1) (z := f82_989 + 1) xnm0 xnm0 (by omega)) ?_
            refine xg_putI (fl1 := [(2, 83), (2, 84), (0, f82_971), (0, f82_973), (0, f82_975), (0, f82_977), (0, f82_979), (0, f82_981), (0, f82_983), (0, f82_985), (0, f82_987), (2, 85), (2, 86), (2, 87), (0, f82_989 + 1), (2, 88), (2, 89), (2, 90), (2, 91), (2, 92), (2, 93), (2, 94), (4, f82_991), (4, f82_992), (0, f82_993), (2, 95), (2, 96), (2, 97), (2, 98), (2, 99), (2, 100), (2, 101), (2, 102), (0, f82_995), (2, 103), (2, 104), (2, 105), (2, 106), (2, 107), (2, 108), (2, 109), (0, f82_997), (0, f82_999), (2, 110), (2, 111), (2, 112), (2, 113)]) (hb1020.get (by decide) h82_1001) rfl rfl rfl (fun w1022 hk1023 hb1024 => ?_)
            have hf1025 : fld w1022 82 10 = f82_987 := fld_of hk1023
            have hf1026 : fld w1022 82 14 = f82_989 + 1 := fld_of hk1023
            have he1027 : lnP B nn (k + 1) = p_966 := by
              show (lnR B nn (lnP B nn k)).2 = _
              rw [← hp0, ln970]
            have hT1028 : TKM 0 B nn w1022 p_966 := hk1007.w14 ((show fld w1022 82 2 = f82_971 from fld_of hk1023).trans (show fld w958 82 2 = f82_971 from fld_of h82_1001).symm) ((show fld w1022 82 3 = f82_973 from fld_of hk1023).trans (show fld w958 82 3 = f82_973 from fld_of h82_1001).symm) ((show fld w1022 82 4 = f82_975 from fld_of hk1023).trans (show fld w958 82 4 = f82_975 from fld_of h82_1001).symm) ((show fld w1022 82 5 = f82_977 from fld_of hk1023).trans (show fld w958 82 5 = f82_977 from fld_of h82_1001).symm) ((show fld w1022 82 6 = f82_979 from fld_of hk1023).trans (show fld w958 82 6 = f82_979 from fld_of h82_1001).symm) ((show fld w1022 82 7 = f82_981 from fld_of hk1023).trans (show fld w958 82 7 = f82_981 from fld_of h82_1001).symm) ((show fld w1022 82 8 = f82_983 from fld_of hk1023).trans (show fld w958 82 8 = f82_983 from fld_of h82_1001).symm) ((show fld w1022 82 9 = f82_985 from fld_of hk1023).trans (show fld w958 82 9 = f82_985 from fld_of h82_1001).symm)
            have hF1029 : FP w1022 (mfl B nn k 4 (flA B nn k)) := hk1008.k83 (rwv_eq ((hb1024.1 83 (by decide)).trans (hb1020.1 83 (by decide)))) (rwv_eq ((hb1024.1 83 (by decide)).trans (hb1020.1 83 (by decide))))
            have hg1031 := (tf_gt (B := B) (n := nn) (p := p_108) (by omega)).2
            have hg1032 := tq_ge (B := B) (n := nn) (p := p_108)
            have hg1033 := (tf_gt (B := B) (n := nn) (p := p_748) (by omega)).2
            have hg1034 := tq_ge (B := B) (n := nn) (p := p_748)
            have hg1035 := (tf_gt (B := B) (n := nn) (p := p0) (by rw [slt_kd (by rw [hp0, hs]; decide)]; decide)).2
            have hg1036 := (tf_gt (B := B) (n := nn) (p := p_882) (by omega)).2
            have hg1037 := tq_ge (B := B) (n := nn) (p := p_882)
            have hg1038 := tq_ge (B := B) (n := nn) (p := p_966)
            have hp1x := hp109
            have hO1030 : ORD B nn k 4 (tq B nn (lnP B nn (k + 1))) := by
              unfold ORD
              rw [he1027, vp751, vp885, ← hp0]
              exact ⟨by omega, by omega, fun z => absurd z (by decide), by omega, fun z => absurd z (by decide)⟩
            have hM1039 : rwv w1022 85 4 = lnC B nn 4 k + 1 := (rwv_of (hr1019.but hb1024 (by decide)) (by decide)).trans ((if_pos rfl).trans (by omega))
            have hM1040 : ∀ s, s < 7 → s ≠ 4 → rwv w1022 85 s = rwv w 85 s := fun s hs hn => (rwv_of (hr1019.but hb1024 (by decide)) hs).trans ((if_neg hn).trans ((rwv_of h85_1011 hs).symm.trans (rwv_eq ((hF961.1 85 (by decide)).trans ((hF926.1 85 (by decide)).trans ((hF800.1 85 (by decide)).trans ((hF792.1 85 (by decide)).trans ((hF653.1 85 (by decide)).trans ((hF103.1 85 (by decide)).trans hj57)))))))))
            have hr1041 : lnC B nn 4 k < 20 → ∀ t, t < 2 → XM w1022 4 (lnC B nn 4 k) t = vln B nn (lnP B nn k) t := fun hlt t ht => by
              rcases (show t = 0 ∨ t = 1 by omega) with rfl | rfl
              · show rwv w1022 86 (100 + 2 * lnC B nn 4 k + 0) = _
                rw [show 100 + 2 * lnC B nn 4 k + 0 = (100 + (2 * u42)) + 0 by omega]
                exact ((rwv_eq (hb1024.1 86 (by decide))).trans ((rwv_eq (hb1020.1 86 (by decide))).trans ((rwv_eq (hF961.1 86 (by decide))).trans ((hp929 ((100 + (2 * u42)) + 0) (by omega) (by omega)).trans (rwv_eq (hF800.1 86 (by decide))))))).trans ((hp794 (by omega)).trans (hv662.trans vl752.symm))
              · show rwv w1022 86 (100 + 2 * lnC B nn 4 k + 1) = _
                rw [show 100 + 2 * lnC B nn 4 k + 1 = (100 + (2 * u42)) + 1 by omega]
                exact ((rwv_eq (hb1024.1 86 (by decide))).trans ((rwv_eq (hb1020.1 86 (by decide))).trans (rwv_eq (hF961.1 86 (by decide))))).trans ((hp928 (by omega)).trans (hv809.trans vl886.symm))
            have ho1042 : ∀ j, (j < 100 + 2 * lnC B nn 4 k ∨ 100 + 2 * (lnC B nn 4 k + 1) ≤ j) → j < 140 → rwv w1022 86 j = rwv w 86 j := fun j hj hl => ((rwv_eq (hb1024.1 86 (by decide))).trans ((rwv_eq (hb1020.1 86 (by decide))).trans ((rwv_eq (hF961.1 86 (by decide))).trans ((hp929 j (by omega) hl).trans ((rwv_eq (hF800.1 86 (by decide))).trans ((hp795 j (by omega) hl).trans ((rwv_eq (hF653.1 86 (by decide))).trans ((rwv_eq (hF103.1 86 (by decide))).trans (rwv_eq hj58)))))))))
            have ha1043 : (lnC B nn 4 k < 20 → rwv w1022 87 (lnC B nn 4 k) = tq B nn (lnP B nn k)) ∧ ∀ j, j ≠ lnC B nn 4 k → j < 20 → rwv w1022 87 j = rwv w 87 j := ⟨fun hlt => absurd hlt (by omega), fun j _ _ => rwv_eq ((hb1024.1 87 (by decide)).trans ((hb1020.1 87 (by decide)).trans ((hF961.1 87 (by decide)).trans ((hF926.1 87 (by decide)).trans ((hF800.1 87 (by decide)).trans ((hF792.1 87 (by decide)).trans ((hF653.1 87 (by decide)).trans ((hF103.1 87 (by decide)).trans hj59))))))))⟩
            have hM1044 := MSTok4 hS hs (by have z := hk1009; omega) (by omega) hF1029 hO1030 hM1039 hM1040 hr1041 ho1042 ha1043
            exact xg_e ⟨w1022, ⟨rfl, rfl⟩, xMnv.up (S := [85, 82]) hI960 ((xFr.of (S := [85, 82]) hb1020 (by decide)).tr (xFr.of (S := [85, 82]) hb1024 (by decide))) (List.forall_mem_cons.mpr ⟨xqu85 (show cpI 7 52 4294967295 (wget w1022 85) from ⟨_, (hr1019.but hb1024 (by decide)), xrb (by omega) (hb1012)⟩), List.forall_mem_cons.mpr ⟨xqu82 (show cp82 (wget w1022 82) from xmC82 f82_971 f82_973 f82_975 f82_977 f82_979 f82_981 f82_983 f82_985 f82_987 (f82_989 + 1) f82_991 f82_992 f82_993 f82_995 f82_997 f82_999 hk1023 hb972 hb974 hb976 hb978 hb980 hb982 hb984 hb986 hb988 (by omega) hb994 hb996 hb998 hb1000 (by omega)), fun _ h => absurd h List.not_mem_nil⟩⟩), (((((((hF50.tr (hF103.up (by decide))).tr (hF653.up (by decide))).tr (hF792.up (by decide))).tr (hF800.up (by decide))).tr (hF926.up (by decide))).tr (hF961.up (by decide))).tr ((xFr.of (S := [82, 83, 85, 86, 87]) hb1020 (by decide)).tr (xFr.of (S := [82, 83, 85, 86, 87]) hb1024 (by decide)))), ⟨Or.inr ⟨by rw [ln970], by rw [he1027]; exact hT1028, hM1044⟩, ((((((((hj56.tr (K83.fr hF103 (by decide))).tr k8_657).tr (K83.fr hF792 (by decide))).tr k8_804).tr (K83.fr hF926 (by decide))).tr (K83.fr hF961 (by decide))).tr (K83.but hb1020 (by decide))).tr (K83.but hb1024 (by decide))), by omega⟩⟩
          · refine xg_t (xg_icT (u := f82_901) (v := 2) rfl xnm0 xnm0 (xj_neT hc948)) ?_
            refine xg_t (xg_blq rfl) ?_
            have lf1045n : ¬ (tkd B nn p_882 = 3 ∧ B (tq B nn p_882) = 59) := by omega
            have lf1045 : lnR B nn p0 = (false, p_882) := ln930.trans (lnS_n lf1045n)
            refine xg_t (xg_aload (va := (2, 82)) rfl rfl) ?_
            have hk1046 := ((fld_eq (j := 14) (hF926.1 82 (by decide))).trans k14_806)
            have hk1047 := (hT_812.fr (hF926.1 82 (by decide))).1.2.2.2.1
            clear ht933 ht934 ht935 ht936 ht937 ht938 ht939 ht940 ht941 hf942 hf943 hf944 hf945 hf946 hmk947
            refine xg_cVv mX12_ends (vs := []) (rest := []) (cn1 := 0) (sl1 := 0) rfl (mEndsX (hI925) ((fld_eq (j := 10) (hF926.1 82 (by decide))).trans k10_811)) rfl (hF926.get (by decide) h82_921) rfl rfl rfl rfl rfl rfl (fun w1048 hq1049 => ?_)
            obtain ⟨hI1050, hF1051, hx1052⟩ := hq1049
            obtain ⟨hv1053, hv1054, hv1055, hv1056, hv1057⟩ := hx1052
            have hW1058 : WRG w1048 (tq B nn p_882) := ⟨hv1053, hv1054, hv1055.trans hk1047⟩
            have k14_1059 := hv1056.trans hk1046
            refine xg_t (xg_blq rfl) ?_
            refine xoCh82 (xqc82 hI1050 : cp82 (wget w1048 82)) (fun f82_1060 f82_1062 f82_1064 f82_1066 f82_1068 f82_1070 f82_1072 f82_1074 f82_1076 f82_1078 f82_1080 f82_1081 f82_1082 f82_1084 f82_1086 f82_1088 h82_1090 hb1061 hb1063 hb1065 hb1067 hb1069 hb1071 hb1073 hb1075 hb1077 hb1079 hb1083 hb1085 hb1087 hb1089 hb1091 => ?_)
            have hf1092 : fld w1048 82 10 = f82_1076 := fld_of h82_1090
            have hf1093 : fld w1048 82 14 = f82_1078 := fld_of h82_1090
            have hk1094 := k14_1059
            have hl1095 : f82_1078 ≤ 500 := by omega
            have hk1096 : WRG w1048 (tq B nn p_882) := hW1058
            refine xg_t (xg_aload (va := (2, 82)) rfl rfl) ?_
            refine xg_t (xg_getf (va := (2, 85)) h82_1090 rfl) ?_
            refine xg_t (xg_iload (va := (0, 4)) rfl rfl) ?_
            refine xg_t (xg_dup2 rfl) ?_
            refine xoI (xqc85 hI1050 : cpI 7 52 4294967295 (wget w1048 85)) (fun g85_1097 h85_1098 hb1099 => ?_)
            refine xg_ialdB (n := 4) (B := 4294967295) h85_1098 (hb1099) xnm0 (by first | decide | omega) (fun u1100 hu1101 he1102 => ?_)
            have hK1103 : u1100 = u42 := (((rwv_of h85_1098 (by decide)).trans he1102).symm.trans (rwv_eq ((hF1051.1 85 (by decide)).trans ((hF926.1 85 (by decide)).trans ((hF800.1 85 (by decide)).trans ((hF792.1 85 (by decide)).trans ((hF653.1 85 (by decide)).trans ((hF103.1 85 (by decide)).trans hj57)))))))).trans ((hm 4 (by decide)).trans hK45.symm)
            have hl1104 : u1100 ≤ 500 := by omega
            refine xg_t (xg_const) ?_
            refine xg_t (xg_iadd (u := u1100) (v := 1) (z := u1100 + 1) xnm0 xnm0 (by omega)) ?_
            refine xg_iastK (n := 4) (u := u1100 + 1) h85_1098 xnm0 xnm0 rfl (by first | decide | omega) (fun w1105 hr1106 hb1107 => ?_)
            refine xg_t (xg_aload (va := (2, 82)) rfl rfl) ?_
            refine xg_t (xg_dup rfl) ?_
            refine xg_t (xg_getf (va := (0, f82_1078)) (hb1107.get (by decide) h82_1090) rfl) ?_
            have hn1108 := id hb1079
            unfold xHid at hn1108
            refine xg_t (xg_const) ?_
            refine xg_t (xg_iadd (u := f82_1078) (v := 1) (z := f82_1078 + 1) xnm0 xnm0 (by omega)) ?_
            refine xg_putI (fl1 := [(2, 83), (2, 84), (0, f82_1060), (0, f82_1062), (0, f82_1064), (0, f82_1066), (0, f82_1068), (0, f82_1070), (0, f82_1072), (0, f82_1074), (0, f82_1076), (2, 85), (2, 86), (2, 87), (0, f82_1078 + 1), (2, 88), (2, 89), (2, 90), (2, 91), (2, 92), (2, 93), (2, 94), (4, f82_1080), (4, f82_1081), (0, f82_1082), (2, 95), (2, 96), (2, 97), (2, 98), (2, 99), (2, 100), (2, 101), (2, 102), (0, f82_1084), (2, 103), (2, 104), (2, 105), (2, 106), (2, 107), (2, 108), (2, 109), (0, f82_1086), (0, f82_1088), (2, 110), (2, 111), (2, 112), (2, 113)]) (hb1107.get (by decide) h82_1090) rfl rfl rfl (fun w1109 hk1110 hb1111 => ?_)
            have hf1112 : fld w1109 82 10 = f82_1076 := fld_of hk1110
            have hf1113 : fld w1109 82 14 = f82_1078 + 1 := fld_of hk1110
            exact xg_e ⟨w1109, ⟨rfl, rfl⟩, xMnv.up (S := [85, 82]) hI1050 ((xFr.of (S := [85, 82]) hb1107 (by decide)).tr (xFr.of (S := [85, 82]) hb1111 (by decide))) (List.forall_mem_cons.mpr ⟨xqu85 (show cpI 7 52 4294967295 (wget w1109 85) from ⟨_, (hr1106.but hb1111 (by decide)), xrb (by omega) (hb1099)⟩), List.forall_mem_cons.mpr ⟨xqu82 (show cp82 (wget w1109 82) from xmC82 f82_1060 f82_1062 f82_1064 f82_1066 f82_1068 f82_1070 f82_1072 f82_1074 f82_1076 (f82_1078 + 1) f82_1080 f82_1081 f82_1082 f82_1084 f82_1086 f82_1088 hk1110 hb1061 hb1063 hb1065 hb1067 hb1069 hb1071 hb1073 hb1075 hb1077 (by omega) hb1083 hb1085 hb1087 hb1089 (by omega)), fun _ h => absurd h List.not_mem_nil⟩⟩), (((((((hF50.tr (hF103.up (by decide))).tr (hF653.up (by decide))).tr (hF792.up (by decide))).tr (hF800.up (by decide))).tr (hF926.up (by decide))).tr (hF1051.up (by decide))).tr ((xFr.of (S := [82, 83, 85, 86, 87]) hb1107 (by decide)).tr (xFr.of (S := [82, 83, 85, 86, 87]) hb1111 (by decide)))), ⟨Or.inl ⟨p_882, lf1045, ⟨by have z := hk1096.1; omega, (rwv_eq (j := 16) ((hb1111.1 83 (by decide)).trans (hb1107.1 83 (by decide)))).trans hk1096.2.1, (rwv_eq (j := 17) ((hb1111.1 83 (by decide)).trans (hb1107.1 83 (by decide)))).trans hk1096.2.2⟩⟩, ((((((((hj56.tr (K83.fr hF103 (by decide))).tr k8_657).tr (K83.fr hF792 (by decide))).tr k8_804).tr (K83.fr hF926 (by decide))).tr hv1057).tr (K83.but hb1107 (by decide))).tr (K83.but hb1111 (by decide))), by omega⟩⟩
  refine xg_t (xg_iload (va := (0, u42)) rfl rfl) ?_
  refine xg_t (xg_iload (va := (0, 4)) rfl rfl) ?_
  refine xg_t (xg_cSr mX12_mostOf (vs := [(0, 4)]) (rest := [(0, u42)]) (rs := [(0, 20), (0, u42)]) (cn1 := 0) (sl1 := 0) rfl (mMostR4) rfl rfl rfl rfl rfl rfl rfl rfl) ?_
  by_cases hc1114 : u42 < 20
  · refine xg_t (xg_icT (u := u42) (v := 20) rfl xnm0 xnm0 (xj_ltT hc1114 (by omega))) ?_
    refine xg_t (xg_drop (l1 := [(0, (2, 82)), (1, (0, 4)), (2, (0, at_)), (3, (0, u42))]) (List.forall_mem_cons.mpr ⟨List.mem_cons_of_mem _ (List.mem_cons_of_mem _ (List.mem_cons_of_mem _ (List.mem_cons_self))), List.forall_mem_cons.mpr ⟨List.mem_cons_of_mem _ (List.mem_cons_of_mem _ (List.mem_cons_self)), List.forall_mem_cons.mpr ⟨List.mem_cons_of_mem _ (List.mem_cons_self), List.forall_mem_cons.mpr ⟨List.mem_cons_self, fun _ h => absurd h List.not_mem_nil⟩⟩⟩⟩)) ?_
    have he1115 : flA B nn k = mf1 B nn k 4 (flA B nn k) := by unfold mf1; rw [decide_eq_false (show ¬ lim 4 ≤ lnC B nn 4 k from (show ¬ 20 ≤ lnC B nn 4 k by omega))]; rfl
    exact jn47 w (hI) (xFr.rf) (⟨by rw [← he1115]; exact zF, z10, hT, z14, K83.rf, rfl, rfl, rfl⟩)
  · refine xg_t (xg_icF (u := u42) (v := 20) rfl xnm0 xnm0 (xj_ltF (by omega) (by omega))) ?_
    refine xg_t (xg_aload (va := (2, 82)) rfl rfl) ?_
    refine xg_t (xg_const) ?_
    refine xg_t (xg_iload (va := (0, at_)) rfl rfl) ?_
    refine xg_cVv mX12_also (vs := [(0, 3), (0, at_)]) (rest := []) (cn1 := 0) (sl1 := 0) rfl (mAlsoX (hI) (by omega) (by omega) (by omega) z10 zF) rfl h82_31 rfl rfl rfl rfl rfl rfl (fun w1116 hq1117 => ?_)
    obtain ⟨hI1118, hF1119, hx1120⟩ := hq1117
    obtain ⟨hv1121, hv1122⟩ := hx1120
    refine xg_t (xg_drop (l1 := [(0, (2, 82)), (1, (0, 4)), (2, (0, at_)), (3, (0, u42))]) (List.forall_mem_cons.mpr ⟨List.mem_cons_of_mem _ (List.mem_cons_of_mem _ (List.mem_cons_of_mem _ (List.mem_cons_self))), List.forall_mem_cons.mpr ⟨List.mem_cons_of_mem _ (List.mem_cons_of_mem _ (List.mem_cons_self)), List.forall_mem_cons.mpr ⟨List.mem_cons_of_mem _ (List.mem_cons_self), List.forall_mem_cons.mpr ⟨List.mem_cons_self, fun _ h => absurd h List.not_mem_nil⟩⟩⟩⟩)) ?_
    have he1123 : alo (flA B nn k) 3 at_ = mf1 B nn k 4 (flA B nn k) := by unfold mf1; rw [decide_eq_true (show lim 4 ≤ lnC B nn 4 k from (show 20 ≤ lnC B nn 4 k by omega)), hat, hp0]; rfl
    exact jn47 w1116 (hI1118) ((hF1119.up (by decide))) (⟨by rw [← he1123]; exact hv1121, ((fld_eq (j := 10) (hF1119.1 82 (by decide))).trans z10), (hT.fr (hF1119.1 82 (by decide))), ((fld_eq (j := 14) (hF1119.1 82 (by decide))).trans z14), hv1122, (hF1119.1 85 (by decide)), (hF1119.1 86 (by decide)), (hF1119.1 87 (by decide))⟩)
set_option maxHeartbeats 60000000 in
theorem mALnX5 {B : Nat → Nat} {nn k p0 : Nat} {at_ : Nat} (hI : xMnv w) (hB : bsm w B nn) (hp0 : p0 = lnP B nn k) (hT : TKM 0 B nn w p0) (hS : MST B nn w k) (hk5 : k ≤ 500) (hs : slt B nn (lnP B nn k) = 5) (hat : at_ = tq B nn p0) : xTo (d + 7) mX12_aLine (43, [], [(2, (0, at_)), (1, (0, 5)), (0, (2, 82))], [], (w, bd, fc, 0, 0, rr)) (fun φ => ∃ w', xEnd 0 [] (w', bd, fc, 0, 0, rr) φ ∧ xMnv w' ∧ xFr [82, 83, 85, 86, 87] w w' ∧ (((∃ q, lnR B nn p0 = (false, q) ∧ WRG w' (tq B nn q)) ∨ ((lnR B nn p0).1 = true ∧ TKM 0 B nn w' (lnP B nn (k + 1)) ∧ MST B nn w' (k + 1))) ∧ K83 w w' ∧ fld w 82 14 ≤ fld w' 82 14)) := by
  refine xoCh82 (xqc82 hI : cp82 (wget w 82)) (fun f82_1 f82_3 f82_5 f82_7 f82_9 f82_11 f82_13 f82_15 f82_17 f82_19 f82_21 f82_22 f82_23 f82_25 f82_27 f82_29 h82_31 hb2 hb4 hb6 hb8 hb10 hb12 hb14 hb16 hb18 hb20 hb24 hb26 hb28 hb30 hb32 => ?_)
  refine xoI (xqc85 hI : cpI 7 52 4294967295 (wget w 85)) (fun g85_33 h85_34 hb35 => ?_)
  refine xoI (xqc86 hI : cpI 140 53 4294967295 (wget w 86)) (fun g86_36 h86_37 hb38 => ?_)
  refine xoI (xqc87 hI : cpI 20 54 4294967295 (wget w 87)) (fun g87_39 h87_40 hb41 => ?_)
  obtain ⟨⟨z10, z14, zF, zp⟩, hm, hR⟩ := id hS
  have hkc := lnC_k (B := B) (n := nn) (s := 5) (k := k)
  have hq0 : at_ ≤ 500 := by
    have z1 := tf_gt (B := B) (n := nn) (p := p0) (by rw [slt_kd (by rw [hp0, hs]; decide)]; decide)
    have z2 := hB.1
    omega
  refine xg_t (xg_blq rfl) ?_
  refine xg_t (xg_aload (va := (2, 82)) rfl rfl) ?_
  refine xg_t (xg_getf (va := (2, 85)) h82_31 rfl) ?_
  refine xg_t (xg_iload (va := (0, 5)) rfl rfl) ?_
  refine xg_ialdB (n := 5) (B := 4294967295) h85_34 (hb35) xnm0 (by first | decide | omega) (fun u42 hu43 he44 => ?_)
  have hK45 : u42 = lnC B nn 5 k := (((rwv_of h85_34 (by decide)).trans he44).symm).trans (hm 5 (by decide))
  have hl46 : u42 ≤ 500 := by omega
  refine xg_t (xg_istore (l1 := [(2, (0, at_)), (1, (0, 5)), (0, (2, 82))]) rfl rfl rfl) ?_
  have jn47 : ∀ (w48 : List (List xE)), xMnv w48 → xFr [82, 83, 85, 86, 87] w w48 → (FP w48 (mf1 B nn k 5 (flA B nn k)) ∧ fld w48 82 10 = 0 ∧ TKM 0 B nn w48 p0 ∧ fld w48 82 14 = k ∧ K83 w w48 ∧ wget w48 85 = wget w 85 ∧ wget w48 86 = wget w 86 ∧ wget w48 87 = wget w 87) → xTo (d + 7) mX12_aLine (64, [], [(0, (2, 82)), (1, (0, 5)), (2, (0, at_)), (3, (0, u42))], [], (w48, bd, fc, 0, 0, rr)) (fun φ => ∃ w', xEnd 0 [] (w', bd, fc, 0, 0, rr) φ ∧ xMnv w' ∧ xFr [82, 83, 85, 86, 87] w w' ∧ (((∃ q, lnR B nn p0 = (false, q) ∧ WRG w' (tq B nn q)) ∨ ((lnR B nn p0).1 = true ∧ TKM 0 B nn w' (lnP B nn (k + 1)) ∧ MST B nn w' (k + 1))) ∧ K83 w w' ∧ fld w 82 14 ≤ fld w' 82 14)) := by
    intro w48 hI49 hF50 he51
    obtain ⟨hj52, hj53, hj54, hj55, hj56, hj57, hj58, hj59⟩ := he51
    refine xg_t (xg_blq rfl) ?_
    refine xg_t (xg_aload (va := (2, 82)) rfl rfl) ?_
    obtain ⟨⟨ht60, ht61, ht62, ht63, ht64, ht65⟩, -⟩ := id hj54
    have hk66 := hj53
    have hk67 := hj55
    refine xoCh82 (xqc82 hI49 : cp82 (wget w48 82)) (fun f82_68 f82_70 f82_72 f82_74 f82_76 f82_78 f82_80 f82_82 f82_84 f82_86 f82_88 f82_89 f82_90 f82_92 f82_94 f82_96 h82_98 hb69 hb71 hb73 hb75 hb77 hb79 hb81 hb83 hb85 hb87 hb91 hb93 hb95 hb97 hb99 => ?_)
    refine xg_cVv mX12_advance (vs := []) (rest := []) (cn1 := 0) (sl1 := 0) rfl (mAdvX (hI49) (hB.fr (fun j h4 h9 => hj56 j (by omega) (by omega) (by omega))) ht60 ht61 (by rw [ht62]; exact tf_le ht65)) rfl h82_98 rfl rfl rfl rfl rfl rfl (fun w100 hq101 => ?_)
    obtain ⟨hI102, hF103, hx104⟩ := hq101
    obtain ⟨hz105, hz106, hz107⟩ := hx104
    rw [ht62] at hz105
    clear ht60 ht61 ht62 ht63 ht64 ht65
    obtain ⟨p_108, hp109⟩ : ∃ x, x = tf B nn p0 := ⟨_, rfl⟩
    rw [← hp109] at hz105
    have k10_110 := hz106.trans hk66
    have k14_111 := hz107.trans hk67
    clear hz106 hz107 hk66 hk67
    have ln112 : lnR B nn p0 = lnN B nn 5 2 p_108 := by rw [hp109]; exact lnR_go (by rw [hp0]; exact hs) (by decide)
    refine xg_t (xg_iload (va := (0, 5)) rfl rfl) ?_
    refine xg_t (xg_swt (ks := [(0, 108), (1, 116), (2, 180), (3, 221), (4, 273), (5, 326)]) (u := 5) (z := 326) rfl rfl rfl xnm0 (xsw_n (by omega) (xsw_n (by omega) (xsw_n (by omega) (xsw_n (by omega) (xsw_n (by omega) (xsw_y rfl))))))) ?_
    refine xg_t (xg_blq rfl) ?_
    refine xg_t (xg_const) ?_
    refine xg_t (xg_istore (l1 := [(0, (2, 82)), (1, (0, 5)), (2, (0, at_)), (3, (0, u42))]) rfl rfl rfl) ?_
    refine xg_t (xg_blq rfl) ?_
    refine xg_t (xg_iload (va := (0, 0)) rfl rfl) ?_
    refine xg_t (xg_const) ?_
    refine xg_t (xg_icF (u := 0) (v := 2) rfl xnm0 xnm0 (by decide)) ?_
    refine xg_t (xg_aload (va := (2, 82)) rfl rfl) ?_
    refine xg_t (xg_iload (va := (0, 5)) rfl rfl) ?_
    refine xg_t (xg_iload (va := (0, u42)) rfl rfl) ?_
    refine xg_t (xg_bip) ?_
    refine xg_t (xg_iload (va := (0, 0)) rfl rfl) ?_
    refine xg_t (xg_iadd (u := 7) (v := 0) (z := 7) xnm0 xnm0 (by decide)) ?_
    refine xg_t (xg_aload (va := (2, 82)) rfl rfl) ?_
    refine xg_t (xg_const) ?_
    refine xg_t (xg_bip) ?_
    have hk113 := k14_111
    refine xoCh82 (xqc82 hI102 : cp82 (wget w100 82)) (fun f82_114 f82_116 f82_118 f82_120 f82_122 f82_124 f82_126 f82_128 f82_130 f82_132 f82_134 f82_135 f82_136 f82_138 f82_140 f82_142 h82_144 hb115 hb117 hb119 hb121 hb123 hb125 hb127 hb129 hb131 hb133 hb137 hb139 hb141 hb143 hb145 => ?_)
    refine xg_cVi mX12_numbered (vs := [(0, 1), (0, 10)]) (rest := [(0, 7), (0, u42), (0, 5), (2, 82)]) (cn1 := 0) (sl1 := 0) rfl (mNumX (ir := 0) (hI102) (by omega) (by omega) (hB.fr (fun j h4 h9 => (hj56.tr (K83.fr hF103 (by decide))) j (by omega) (by omega) (by omega))) k10_110 hz105 (hj52.k83 (rwv_eq (hF103.1 83 (by decide))) (rwv_eq (hF103.1 83 (by decide))))) rfl h82_144 rfl rfl rfl rfl rfl rfl (fun n150 w146 hq147 => ?_)
    obtain ⟨hn151, hI148, hF149⟩ := hq147
    obtain ⟨hx154, h14_152, k8_153⟩ := hn151
    have k14_155 := h14_152.trans hk113
    rcases hx154 with ⟨rfl, hk156, hW157⟩ | ⟨hv158, h9_159, hk156, k10_160, hT_161, hF_162⟩
    · have lf163 : lnR B nn p0 = (false, p_108) := ln112.trans (lnN_n (k := 1) hk156)
      refine xoCh82 (xqc82 hI148 : cp82 (wget w146 82)) (fun f82_164 f82_166 f82_168 f82_170 f82_172 f82_174 f82_176 f82_178 f82_180 f82_182 f82_184 f82_185 f82_186 f82_188 f82_190 f82_192 h82_194 hb165 hb167 hb169 hb171 hb173 hb175 hb177 hb179 hb181 hb183 hb187 hb189 hb191 hb193 hb195 => ?_)
      refine xg_cVv mX12_puts (vs := [(0, 5), (0, u42), (0, 7), (0, 0)]) (rest := []) (cn1 := 0) (sl1 := 0) rfl (mPuts5 (hI148) (by omega) (by omega) (by omega) (fun _ => by omega)) rfl h82_194 rfl rfl rfl rfl rfl rfl (fun w196 hq197 => ?_)
      obtain ⟨hI198, hF199, hx200⟩ := hq197
      obtain ⟨hp201, hp202⟩ := hx200
      refine xg_t (xg_iinc (u := 0) (z := 1) (l1 := [(0, (2, 82)), (1, (0, 5)), (2, (0, at_)), (3, (0, u42))]) rfl rfl (by decide) rfl) ?_
      refine xg_t (xg_goto) ?_
      refine xg_t (xg_blq rfl) ?_
      refine xg_t (xg_iload (va := (0, 1)) rfl rfl) ?_
      refine xg_t (xg_const) ?_
      refine xg_t (xg_icF (u := 1) (v := 2) rfl xnm0 xnm0 (by decide)) ?_
      refine xg_t (xg_aload (va := (2, 82)) rfl rfl) ?_
      refine xg_t (xg_iload (va := (0, 5)) rfl rfl) ?_
      refine xg_t (xg_iload (va := (0, u42)) rfl rfl) ?_
      refine xg_t (xg_bip) ?_
      refine xg_t (xg_iload (va := (0, 1)) rfl rfl) ?_
      refine xg_t (xg_iadd (u := 7) (v := 1) (z := 8) xnm0 xnm0 (by decide)) ?_
      refine xg_t (xg_aload (va := (2, 82)) rfl rfl) ?_
      refine xg_t (xg_const) ?_
      refine xg_t (xg_bip) ?_
      refine xg_cVi mX12_numbered (vs := [(0, 1), (0, 10)]) (rest := [(0, 8), (0, u42), (0, 5), (2, 82)]) (cn1 := 0) (sl1 := 0) rfl (mNumW (hI198) (by omega) (by omega) (by have q := hW157.1; have q2 := fld_eq (j := 10) (hF199.1 82 (by decide)); omega)) rfl (hF199.get (by decide) h82_194) rfl rfl rfl rfl rfl rfl (fun n207 w203 hq204 => ?_)
      obtain ⟨hn208, hI205, hF206⟩ := hq204
      obtain rfl := hn208
      refine xg_cVv mX12_puts (vs := [(0, 5), (0, u42), (0, 8), (0, 0)]) (rest := []) (cn1 := 0) (sl1 := 0) rfl (mPuts5 (hI205) (by omega) (by omega) (by omega) (fun _ => by omega)) rfl (hF206.get (by decide) (hF199.get (by decide) h82_194)) rfl rfl rfl rfl rfl rfl (fun w209 hq210 => ?_)
      obtain ⟨hI211, hF212, hx213⟩ := hq210
      obtain ⟨hp214, hp215⟩ := hx213
      refine xg_t (xg_iinc (u := 1) (z := 2) (l1 := [(0, (2, 82)), (1, (0, 5)), (2, (0, at_)), (3, (0, u42))]) rfl rfl (by decide) rfl) ?_
      refine xg_t (xg_goto) ?_
      refine xg_t (xg_blq rfl) ?_
      refine xg_t (xg_iload (va := (0, 2)) rfl rfl) ?_
      refine xg_t (xg_const) ?_
      refine xg_t (xg_icT (u := 2) (v := 2) rfl xnm0 xnm0 (by decide)) ?_
      refine xg_t (xg_blq rfl) ?_
      refine xg_t (xg_goto) ?_
      refine xg_t (xg_blq rfl) ?_
      refine xg_t (xg_aload (va := (2, 82)) rfl rfl) ?_
      refine xg_t (xg_getf (va := (0, f82_180)) (hF212.get (by decide) (hF206.get (by decide) (hF199.get (by decide) h82_194))) rfl) ?_
      have hf216 : fld w209 82 10 = f82_180 := fld_of (hF212.get (by decide) (hF206.get (by decide) (hF199.get (by decide) h82_194)))
      have hk217 : fld w209 82 10 ≠ 0 := (by have q := hW157.1; have q2 := fld_eq (j := 10) ((hF212.1 82 (by decide)).trans ((hF206.1 82 (by decide)).trans (hF199.1 82 (by decide)))); omega)
      refine xg_t (xg_ifT (u := f82_180) rfl xnm0 (xj_neT (by omega))) ?_
      refine xg_t (xg_blq rfl) ?_
      refine xg_t (xg_aload (va := (2, 82)) rfl rfl) ?_
      refine xg_cVv mX12_ends (vs := []) (rest := []) (cn1 := 0) (sl1 := 0) rfl (mEndsW (hI211) (by have q := hW157.1; have q2 := fld_eq (j := 10) ((hF212.1 82 (by decide)).trans ((hF206.1 82 (by decide)).trans (hF199.1 82 (by decide)))); omega)) rfl (hF212.get (by decide) (hF206.get (by decide) (hF199.get (by decide) h82_194))) rfl rfl rfl rfl rfl rfl (fun w218 hq219 => ?_)
      obtain ⟨hI220, hF221⟩ := hq219
      refine xg_t (xg_blq rfl) ?_
      have hf222 : fld w218 82 10 = f82_180 := fld_of (hF221.get (by decide) (hF212.get (by decide) (hF206.get (by decide) (hF199.get (by decide) h82_194))))
      have hf223 : fld w218 82 14 = f82_182 := fld_of (hF221.get (by decide) (hF212.get (by decide) (hF206.get (by decide) (hF199.get (by decide) h82_194))))
      have hk224 := ((fld_eq (j := 14) ((hF221.1 82 (by decide)).trans ((hF212.1 82 (by decide)).trans ((hF206.1 82 (by decide)).trans (hF199.1 82 (by decide)))))).trans k14_155)
      have hl225 : f82_182 ≤ 500 := by omega
      have hk226 : WRG w218 (tq B nn p_108) := ⟨(fld_eq (j := 10) ((hF221.1 82 (by decide)).trans ((hF212.1 82 (by decide)).trans ((hF206.1 82 (by decide)).trans (hF199.1 82 (by decide)))))).trans hW157.1, (rwv_eq (j := 16) ((hF221.1 83 (by decide)).trans ((hF212.1 83 (by decide)).trans ((hF206.1 83 (by decide)).trans (hF199.1 83 (by decide)))))).trans hW157.2.1, (rwv_eq (j := 17) ((hF221.1 83 (by decide)).trans ((hF212.1 83 (by decide)).trans ((hF206.1 83 (by decide)).trans (hF199.1 83 (by decide)))))).trans hW157.2.2⟩
      refine xg_t (xg_aload (va := (2, 82)) rfl rfl) ?_
      refine xg_t (xg_getf (va := (2, 85)) (hF221.get (by decide) (hF212.get (by decide) (hF206.get (by decide) (hF199.get (by decide) h82_194)))) rfl) ?_
      refine xg_t (xg_iload (va := (0, 5)) rfl rfl) ?_
      refine xg_t (xg_dup2 rfl) ?_
      refine xoI (xqc85 hI220 : cpI 7 52 4294967295 (wget w218 85)) (fun g85_227 h85_228 hb229 => ?_)
      refine xg_ialdB (n := 5) (B := 4294967295) h85_228 (hb229) xnm0 (by first | decide | omega) (fun u230 hu231 he232 => ?_)
      have hK233 : u230 = u42 := (((rwv_of h85_228 (by decide)).trans he232).symm.trans (rwv_eq ((hF221.1 85 (by decide)).trans ((hF212.1 85 (by decide)).trans ((hF206.1 85 (by decide)).trans ((hF199.1 85 (by decide)).trans ((hF149.1 85 (by decide)).trans ((hF103.1 85 (by decide)).trans hj57)))))))).trans ((hm 5 (by decide)).trans hK45.symm)
      have hl234 : u230 ≤ 500 := by omega
      refine xg_t (xg_const) ?_
      refine xg_t (xg_iadd (u := u230) (v := 1) (z := u230 + 1) xnm0 xnm0 (by omega)) ?_
      refine xg_iastK (n := 5) (u := u230 + 1) h85_228 xnm0 xnm0 rfl (by first | decide | omega) (fun w235 hr236 hb237 => ?_)
      refine xg_t (xg_aload (va := (2, 82)) rfl rfl) ?_
      refine xg_t (xg_dup rfl) ?_
      refine xg_t (xg_getf (va := (0, f82_182)) (hb237.get (by decide) (hF221.get (by decide) (hF212.get (by decide) (hF206.get (by decide) (hF199.get (by decide) h82_194))))) rfl) ?_
      have hn238 := id hb183
      unfold xHid at hn238
      refine xg_t (xg_const) ?_
      refine xg_t (xg_iadd (u := f82_182) (v := 1) (z := f82_182 + 1) xnm0 xnm0 (by omega)) ?_
      refine xg_putI (fl1 := [(2, 83), (2, 84), (0, f82_164), (0, f82_166), (0, f82_168), (0, f82_170), (0, f82_172), (0, f82_174), (0, f82_176), (0, f82_178), (0, f82_180), (2, 85), (2, 86), (2, 87), (0, f82_182 + 1), (2, 88), (2, 89), (2, 90), (2, 91), (2, 92), (2, 93), (2, 94), (4, f82_184), (4, f82_185), (0, f82_186), (2, 95), (2, 96), (2, 97), (2, 98), (2, 99), (2, 100), (2, 101), (2, 102), (0, f82_188), (2, 103), (2, 104), (2, 105), (2, 106), (2, 107), (2, 108), (2, 109), (0, f82_190), (0, f82_192), (2, 110), (2, 111), (2, 112), (2, 113)]) (hb237.get (by decide) (hF221.get (by decide) (hF212.get (by decide) (hF206.get (by decide) (hF199.get (by decide) h82_194))))) rfl rfl rfl (fun w239 hk240 hb241 => ?_)
      have hf242 : fld w239 82 10 = f82_180 := fld_of hk240
      have hf243 : fld w239 82 14 = f82_182 + 1 := fld_of hk240
      exact xg_e ⟨w239, ⟨rfl, rfl⟩, xMnv.up (S := [85, 82]) hI220 ((xFr.of (S := [85, 82]) hb237 (by decide)).tr (xFr.of (S := [85, 82]) hb241 (by decide))) (List.forall_mem_cons.mpr ⟨xqu85 (show cpI 7 52 4294967295 (wget w239 85) from ⟨_, (hr236.but hb241 (by decide)), xrb (by omega) (hb229)⟩), List.forall_mem_cons.mpr ⟨xqu82 (show cp82 (wget w239 82) from xmC82 f82_164 f82_166 f82_168 f82_170 f82_172 f82_174 f82_176 f82_178 f82_180 (f82_182 + 1) f82_184 f82_185 f82_186 f82_188 f82_190 f82_192 hk240 hb165 hb167 hb169 hb171 hb173 hb175 hb177 hb179 hb181 (by omega) hb187 hb189 hb191 hb193 (by omega)), fun _ h => absurd h List.not_mem_nil⟩⟩), (((((((hF50.tr (hF103.up (by decide))).tr (hF149.up (by decide))).tr (hF199.up (by decide))).tr (hF206.up (by decide))).tr (hF212.up (by decide))).tr (hF221.up (by decide))).tr ((xFr.of (S := [82, 83, 85, 86, 87]) hb237 (by decide)).tr (xFr.of (S := [82, 83, 85, 86, 87]) hb241 (by decide)))), ⟨Or.inl ⟨p_108, lf163, ⟨by have z := hk226.1; omega, (rwv_eq (j := 16) ((hb241.1 83 (by decide)).trans (hb237.1 83 (by decide)))).trans hk226.2.1, (rwv_eq (j := 17) ((hb241.1 83 (by decide)).trans (hb237.1 83 (by decide)))).trans hk226.2.2⟩⟩, ((((((((hj56.tr (K83.fr hF103 (by decide))).tr k8_153).tr (K83.fr hF199 (by decide))).tr (K83.fr hF206 (by decide))).tr (K83.fr hF212 (by decide))).tr (K83.fr hF221 (by decide))).tr (K83.but hb237 (by decide))).tr (K83.but hb241 (by decide))), by omega⟩⟩
    · obtain ⟨p_244, hp245⟩ : ∃ x, x = tf B nn p_108 := ⟨_, rfl⟩
      rw [← hp245] at hT_161
      have ln246 : lnR B nn p0 = lnN B nn 5 1 p_244 := by rw [hp245]; exact ln112.trans (lnN_y (k := 1) hk156)
      have vp247 : vlp B nn (lnP B nn k) 0 = p_108 := by rw [← hp0]; exact hp109.symm
      have vl248 : vln B nn (lnP B nn k) 0 = tnu B nn p_108 := by
        show (if (0 : Nat) = 3 then _ else tnu B nn (vlp B nn (lnP B nn k) 0)) = _
        rw [if_neg (by decide), vp247]
      have he250 : (chk (mf1 B nn k 5 (flA B nn k)) 1 10 (tnu B nn p_108) (tq B nn p_108)) = (mf2 B nn k 5 (flA B nn k)) := by show _ = chk (mf1 B nn k 5 (flA B nn k)) 1 10 (vln B nn (lnP B nn k) 0) (tq B nn (vlp B nn (lnP B nn k) 0)); rw [vl248, vp247]
      have hF_249 := hF_162
      rw [he250] at hF_249
      have he252 : (mf2 B nn k 5 (flA B nn k)) = (mf3 B nn k 5 (flA B nn k)) := rfl
      have hF_251 := hF_249
      rw [he252] at hF_251
      refine xoCh82 (xqc82 hI148 : cp82 (wget w146 82)) (fun f82_253 f82_255 f82_257 f82_259 f82_261 f82_263 f82_265 f82_267 f82_269 f82_271 f82_273 f82_274 f82_275 f82_277 f82_279 f82_281 h82_283 hb254 hb256 hb258 hb260 hb262 hb264 hb266 hb268 hb270 hb272 hb276 hb278 hb280 hb282 hb284 => ?_)
      refine xg_cVv mX12_puts (vs := [(0, 5), (0, u42), (0, 7), (0, n150)]) (rest := []) (cn1 := 0) (sl1 := 0) rfl (mPuts5 (hI148) (by omega) (by omega) (by omega) (fun _ => by omega)) rfl h82_283 rfl rfl rfl rfl rfl rfl (fun w285 hq286 => ?_)
      obtain ⟨hI287, hF288, hx289⟩ := hq286
      obtain ⟨hp290, hp291⟩ := hx289
      refine xg_t (xg_iinc (u := 0) (z := 1) (l1 := [(0, (2, 82)), (1, (0, 5)), (2, (0, at_)), (3, (0, u42))]) rfl rfl (by decide) rfl) ?_
      refine xg_t (xg_goto) ?_
      refine xg_t (xg_blq rfl) ?_
      refine xg_t (xg_iload (va := (0, 1)) rfl rfl) ?_
      refine xg_t (xg_const) ?_
      refine xg_t (xg_icF (u := 1) (v := 2) rfl xnm0 xnm0 (by decide)) ?_
      refine xg_t (xg_aload (va := (2, 82)) rfl rfl) ?_
      refine xg_t (xg_iload (va := (0, 5)) rfl rfl) ?_
      refine xg_t (xg_iload (va := (0, u42)) rfl rfl) ?_
      refine xg_t (xg_bip) ?_
      refine xg_t (xg_iload (va := (0, 1)) rfl rfl) ?_
      refine xg_t (xg_iadd (u := 7) (v := 1) (z := 8) xnm0 xnm0 (by decide)) ?_
      refine xg_t (xg_aload (va := (2, 82)) rfl rfl) ?_
      refine xg_t (xg_const) ?_
      refine xg_t (xg_bip) ?_
      have hk292 := ((fld_eq (j := 14) (hF288.1 82 (by decide))).trans k14_155)
      refine xg_cVi mX12_numbered (vs := [(0, 1), (0, 10)]) (rest := [(0, 8), (0, u42), (0, 5), (2, 82)]) (cn1 := 0) (sl1 := 0) rfl (mNumX (ir := 0) (hI287) (by omega) (by omega) (hB.fr (fun j h4 h9 => (((hj56.tr (K83.fr hF103 (by decide))).tr k8_153).tr (K83.fr hF288 (by decide))) j (by omega) (by omega) (by omega))) ((fld_eq (j := 10) (hF288.1 82 (by decide))).trans k10_160) (hT_161.fr (hF288.1 82 (by decide))) (hF_251.k83 (rwv_eq (hF288.1 83 (by decide))) (rwv_eq (hF288.1 83 (by decide))))) rfl (hF288.get (by decide) h82_283) rfl rfl rfl rfl rfl rfl (fun n297 w293 hq294 => ?_)
      obtain ⟨hn298, hI295, hF296⟩ := hq294
      obtain ⟨hx301, h14_299, k8_300⟩ := hn298
      have k14_302 := h14_299.trans hk292
      rcases hx301 with ⟨rfl, hk303, hW304⟩ | ⟨hv305, h9_306, hk303, k10_307, hT_308, hF_309⟩
      · have lf310 : lnR B nn p0 = (false, p_244) := ln246.trans (lnN_n (k := 0) hk303)
        refine xoCh82 (xqc82 hI295 : cp82 (wget w293 82)) (fun f82_311 f82_313 f82_315 f82_317 f82_319 f82_321 f82_323 f82_325 f82_327 f82_329 f82_331 f82_332 f82_333 f82_335 f82_337 f82_339 h82_341 hb312 hb314 hb316 hb318 hb320 hb322 hb324 hb326 hb328 hb330 hb334 hb336 hb338 hb340 hb342 => ?_)
        refine xg_cVv mX12_puts (vs := [(0, 5), (0, u42), (0, 8), (0, 0)]) (rest := []) (cn1 := 0) (sl1 := 0) rfl (mPuts5 (hI295) (by omega) (by omega) (by omega) (fun _ => by omega)) rfl h82_341 rfl rfl rfl rfl rfl rfl (fun w343 hq344 => ?_)
        obtain ⟨hI345, hF346, hx347⟩ := hq344
        obtain ⟨hp348, hp349⟩ := hx347
        refine xg_t (xg_iinc (u := 1) (z := 2) (l1 := [(0, (2, 82)), (1, (0, 5)), (2, (0, at_)), (3, (0, u42))]) rfl rfl (by decide) rfl) ?_
        refine xg_t (xg_goto) ?_
        refine xg_t (xg_blq rfl) ?_
        refine xg_t (xg_iload (va := (0, 2)) rfl rfl) ?_
        refine xg_t (xg_const) ?_
        refine xg_t (xg_icT (u := 2) (v := 2) rfl xnm0 xnm0 (by decide)) ?_
        refine xg_t (xg_blq rfl) ?_
        refine xg_t (xg_goto) ?_
        refine xg_t (xg_blq rfl) ?_
        refine xg_t (xg_aload (va := (2, 82)) rfl rfl) ?_
        refine xg_t (xg_getf (va := (0, f82_327)) (hF346.get (by decide) h82_341) rfl) ?_
        have hf350 : fld w343 82 10 = f82_327 := fld_of (hF346.get (by decide) h82_341)
        have hk351 : fld w343 82 10 ≠ 0 := (by have q := hW304.1; have q2 := fld_eq (j := 10) (hF346.1 82 (by decide)); omega)
        refine xg_t (xg_ifT (u := f82_327) rfl xnm0 (xj_neT (by omega))) ?_
        refine xg_t (xg_blq rfl) ?_
        refine xg_t (xg_aload (va := (2, 82)) rfl rfl) ?_
        refine xg_cVv mX12_ends (vs := []) (rest := []) (cn1 := 0) (sl1 := 0) rfl (mEndsW (hI345) (by have q := hW304.1; have q2 := fld_eq (j := 10) (hF346.1 82 (by decide)); omega)) rfl (hF346.get (by decide) h82_341) rfl rfl rfl rfl rfl rfl (fun w352 hq353 => ?_)
        obtain ⟨hI354, hF355⟩ := hq353
        refine xg_t (xg_blq rfl) ?_
        have hf356 : fld w352 82 10 = f82_327 := fld_of (hF355.get (by decide) (hF346.get (by decide) h82_341))
        have hf357 : fld w352 82 14 = f82_329 := fld_of (hF355.get (by decide) (hF346.get (by decide) h82_341))
        have hk358 := ((fld_eq (j := 14) ((hF355.1 82 (by decide)).trans (hF346.1 82 (by decide)))).trans k14_302)
        have hl359 : f82_329 ≤ 500 := by omega
        have hk360 : WRG w352 (tq B nn p_244) := ⟨(fld_eq (j := 10) ((hF355.1 82 (by decide)).trans (hF346.1 82 (by decide)))).trans hW304.1, (rwv_eq (j := 16) ((hF355.1 83 (by decide)).trans (hF346.1 83 (by decide)))).trans hW304.2.1, (rwv_eq (j := 17) ((hF355.1 83 (by decide)).trans (hF346.1 83 (by decide)))).trans hW304.2.2⟩
        refine xg_t (xg_aload (va := (2, 82)) rfl rfl) ?_
        refine xg_t (xg_getf (va := (2, 85)) (hF355.get (by decide) (hF346.get (by decide) h82_341)) rfl) ?_
        refine xg_t (xg_iload (va := (0, 5)) rfl rfl) ?_
        refine xg_t (xg_dup2 rfl) ?_
        refine xoI (xqc85 hI354 : cpI 7 52 4294967295 (wget w352 85)) (fun g85_361 h85_362 hb363 => ?_)
        refine xg_ialdB (n := 5) (B := 4294967295) h85_362 (hb363) xnm0 (by first | decide | omega) (fun u364 hu365 he366 => ?_)
        have hK367 : u364 = u42 := (((rwv_of h85_362 (by decide)).trans he366).symm.trans (rwv_eq ((hF355.1 85 (by decide)).trans ((hF346.1 85 (by decide)).trans ((hF296.1 85 (by decide)).trans ((hF288.1 85 (by decide)).trans ((hF149.1 85 (by decide)).trans ((hF103.1 85 (by decide)).trans hj57)))))))).trans ((hm 5 (by decide)).trans hK45.symm)
        have hl368 : u364 ≤ 500 := by omega
        refine xg_t (xg_const) ?_
        refine xg_t (xg_iadd (u := u364) (v := 1) (z := u364 + 1) xnm0 xnm0 (by omega)) ?_
        refine xg_iastK (n := 5) (u := u364 + 1) h85_362 xnm0 xnm0 rfl (by first | decide | omega) (fun w369 hr370 hb371 => ?_)
        refine xg_t (xg_aload (va := (2, 82)) rfl rfl) ?_
        refine xg_t (xg_dup rfl) ?_
        refine xg_t (xg_getf (va := (0, f82_329)) (hb371.get (by decide) (hF355.get (by decide) (hF346.get (by decide) h82_341))) rfl) ?_
        have hn372 := id hb330
        unfold xHid at hn372
        refine xg_t (xg_const) ?_
        refine xg_t (xg_iadd (u := f82_329) (v := 1) (z := f82_329 + 1) xnm0 xnm0 (by omega)) ?_
        refine xg_putI (fl1 := [(2, 83), (2, 84), (0, f82_311), (0, f82_313), (0, f82_315), (0, f82_317), (0, f82_319), (0, f82_321), (0, f82_323), (0, f82_325), (0, f82_327), (2, 85), (2, 86), (2, 87), (0, f82_329 + 1), (2, 88), (2, 89), (2, 90), (2, 91), (2, 92), (2, 93), (2, 94), (4, f82_331), (4, f82_332), (0, f82_333), (2, 95), (2, 96), (2, 97), (2, 98), (2, 99), (2, 100), (2, 101), (2, 102), (0, f82_335), (2, 103), (2, 104), (2, 105), (2, 106), (2, 107), (2, 108), (2, 109), (0, f82_337), (0, f82_339), (2, 110), (2, 111), (2, 112), (2, 113)]) (hb371.get (by decide) (hF355.get (by decide) (hF346.get (by decide) h82_341))) rfl rfl rfl (fun w373 hk374 hb375 => ?_)
        have hf376 : fld w373 82 10 = f82_327 := fld_of hk374
        have hf377 : fld w373 82 14 = f82_329 + 1 := fld_of hk374
        exact xg_e ⟨w373, ⟨rfl, rfl⟩, xMnv.up (S := [85, 82]) hI354 ((xFr.of (S := [85, 82]) hb371 (by decide)).tr (xFr.of (S := [85, 82]) hb375 (by decide))) (List.forall_mem_cons.mpr ⟨xqu85 (show cpI 7 52 4294967295 (wget w373 85) from ⟨_, (hr370.but hb375 (by decide)), xrb (by omega) (hb363)⟩), List.forall_mem_cons.mpr ⟨xqu82 (show cp82 (wget w373 82) from xmC82 f82_311 f82_313 f82_315 f82_317 f82_319 f82_321 f82_323 f82_325 f82_327 (f82_329 + 1) f82_331 f82_332 f82_333 f82_335 f82_337 f82_339 hk374 hb312 hb314 hb316 hb318 hb320 hb322 hb324 hb326 hb328 (by omega) hb334 hb336 hb338 hb340 (by omega)), fun _ h => absurd h List.not_mem_nil⟩⟩), (((((((hF50.tr (hF103.up (by decide))).tr (hF149.up (by decide))).tr (hF288.up (by decide))).tr (hF296.up (by decide))).tr (hF346.up (by decide))).tr (hF355.up (by decide))).tr ((xFr.of (S := [82, 83, 85, 86, 87]) hb371 (by decide)).tr (xFr.of (S := [82, 83, 85, 86, 87]) hb375 (by decide)))), ⟨Or.inl ⟨p_244, lf310, ⟨by have z := hk360.1; omega, (rwv_eq (j := 16) ((hb375.1 83 (by decide)).trans (hb371.1 83 (by decide)))).trans hk360.2.1, (rwv_eq (j := 17) ((hb375.1 83 (by decide)).trans (hb371.1 83 (by decide)))).trans hk360.2.2⟩⟩, ((((((((hj56.tr (K83.fr hF103 (by decide))).tr k8_153).tr (K83.fr hF288 (by decide))).tr k8_300).tr (K83.fr hF346 (by decide))).tr (K83.fr hF355 (by decide))).tr (K83.but hb371 (by decide))).tr (K83.but hb375 (by decide))), by omega⟩⟩
      · obtain ⟨p_378, hp379⟩ : ∃ x, x = tf B nn p_244 := ⟨_, rfl⟩
        rw [← hp379] at hT_308
        have ln380 : lnR B nn p0 = lnN B nn 5 0 p_378 := by rw [hp379]; exact ln246.trans (lnN_y (k := 0) hk303)
        have vp381 : vlp B nn (lnP B nn k) 1 = p_244 := by show tf B nn (vlp B nn (lnP B nn k) 0) = p_244; rw [vp247]; exact hp245.symm
        have vl382 : vln B nn (lnP B nn k) 1 = tnu B nn p_244 := by
          show (if (1 : Nat) = 3 then _ else tnu B nn (vlp B nn (lnP B nn k) 1)) = _
          rw [if_neg (by decide), vp381]
        have he384 : (chk (mf3 B nn k 5 (flA B nn k)) 1 10 (tnu B nn p_244) (tq B nn p_244)) = (mf4 B nn k 5 (flA B nn k)) := by show _ = chk (mf3 B nn k 5 (flA B nn k)) 1 10 (vln B nn (lnP B nn k) 1) (tq B nn (vlp B nn (lnP B nn k) 1)); rw [vl382, vp381]
        have hF_383 := hF_309
        rw [he384] at hF_383
        have he386 : (mf4 B nn k 5 (flA B nn k)) = (mfl B nn k 5 (flA B nn k)) := rfl
        have hF_385 := hF_383
        rw [he386] at hF_385
        refine xoCh82 (xqc82 hI295 : cp82 (wget w293 82)) (fun f82_387 f82_389 f82_391 f82_393 f82_395 f82_397 f82_399 f82_401 f82_403 f82_405 f82_407 f82_408 f82_409 f82_411 f82_413 f82_415 h82_417 hb388 hb390 hb392 hb394 hb396 hb398 hb400 hb402 hb404 hb406 hb410 hb412 hb414 hb416 hb418 => ?_)
        refine xg_cVv mX12_puts (vs := [(0, 5), (0, u42), (0, 8), (0, n297)]) (rest := []) (cn1 := 0) (sl1 := 0) rfl (mPuts5 (hI295) (by omega) (by omega) (by omega) (fun _ => by omega)) rfl h82_417 rfl rfl rfl rfl rfl rfl (fun w419 hq420 => ?_)
        obtain ⟨hI421, hF422, hx423⟩ := hq420
        obtain ⟨hp424, hp425⟩ := hx423
        refine xg_t (xg_iinc (u := 1) (z := 2) (l1 := [(0, (2, 82)), (1, (0, 5)), (2, (0, at_)), (3, (0, u42))]) rfl rfl (by decide) rfl) ?_
        refine xg_t (xg_goto) ?_
        refine xg_t (xg_blq rfl) ?_
        refine xg_t (xg_iload (va := (0, 2)) rfl rfl) ?_
        refine xg_t (xg_const) ?_
        refine xg_t (xg_icT (u := 2) (v := 2) rfl xnm0 xnm0 (by decide)) ?_
        refine xg_t (xg_blq rfl) ?_
        refine xg_t (xg_goto) ?_
        refine xg_t (xg_blq rfl) ?_
        have ln426 : lnR B nn p0 = lnS B nn p_378 := by exact ln380.trans (lnN_0 (by decide))
        refine xg_t (xg_aload (va := (2, 82)) rfl rfl) ?_
        refine xg_t (xg_getf (va := (0, f82_403)) (hF422.get (by decide) h82_417) rfl) ?_
        have hf427 : fld w419 82 10 = f82_403 := fld_of (hF422.get (by decide) h82_417)
        have hk428 : fld w419 82 10 = 0 := ((fld_eq (j := 10) (hF422.1 82 (by decide))).trans k10_307)
        refine xg_t (xg_ifF (u := f82_403) rfl xnm0 (xj_neF (by omega))) ?_
        obtain ⟨⟨ht429, ht430, ht431, ht432, ht433, ht434⟩, ht435, ht436, ht437⟩ := id (hT_308.fr (hF422.1 82 (by decide)))
        have hf438 : fld w419 82 6 = f82_395 := fld_of (hF422.get (by decide) h82_417)
        have hf439 : fld w419 82 7 = f82_397 := fld_of (hF422.get (by decide) h82_417)
        have hf440 : fld w419 82 8 = f82_399 := fld_of (hF422.get (by decide) h82_417)
        have hf441 : fld w419 82 9 = f82_401 := fld_of (hF422.get (by decide) h82_417)
        have hf442 : fld w419 82 3 = f82_389 := fld_of (hF422.get (by decide) h82_417)
        have hmk443 := mkd_of (ir := 0) (B := B) (n := nn) (p := p_378)
        refine xg_t (xg_aload (va := (2, 82)) rfl rfl) ?_
        refine xg_t (xg_getf (va := (0, f82_397)) (hF422.get (by decide) h82_417) rfl) ?_
        refine xg_t (xg_const) ?_
        by_cases hc444 : f82_397 = 2
        · refine xg_t (xg_icF (u := f82_397) (v := 2) rfl xnm0 xnm0 (xj_neF hc444)) ?_
          have sg4451 : tkd B nn p_378 = 3 := by omega
          have sg4452 : B (tq B nn p_378) = 59 := by omega
          refine xg_t (xg_aload (va := (2, 82)) rfl rfl) ?_
          clear ht429 ht430 ht431 ht432 ht433 ht434 ht435 ht436 ht437 hf438 hf439 hf440 hf441 hf442 hmk443
          obtain ⟨⟨ht446, ht447, ht448, ht449, ht450, ht451⟩, -⟩ := id (hT_308.fr (hF422.1 82 (by decide)))
          have hk452 := ((fld_eq (j := 10) (hF422.1 82 (by decide))).trans k10_307)
          have hk453 := ((fld_eq (j := 14) (hF422.1 82 (by decide))).trans k14_302)
          refine xg_cVv mX12_advance (vs := []) (rest := []) (cn1 := 0) (sl1 := 0) rfl (mAdvX (hI421) (hB.fr (fun j h4 h9 => (((((hj56.tr (K83.fr hF103 (by decide))).tr k8_153).tr (K83.fr hF288 (by decide))).tr k8_300).tr (K83.fr hF422 (by decide))) j (by omega) (by omega) (by omega))) ht446 ht447 (by rw [ht448]; exact tf_le ht451)) rfl (hF422.get (by decide) h82_417) rfl rfl rfl rfl rfl rfl (fun w454 hq455 => ?_)
          obtain ⟨hI456, hF457, hx458⟩ := hq455
          obtain ⟨hz459, hz460, hz461⟩ := hx458
          rw [ht448] at hz459
          clear ht446 ht447 ht448 ht449 ht450 ht451
          obtain ⟨p_462, hp463⟩ : ∃ x, x = tf B nn p_378 := ⟨_, rfl⟩
          rw [← hp463] at hz459
          have k10_464 := hz460.trans hk452
          have k14_465 := hz461.trans hk453
          clear hz460 hz461 hk452 hk453
          have ln466 : lnR B nn p0 = (true, p_462) := by rw [hp463]; exact ln426.trans (lnS_y ⟨sg4451, sg4452⟩)
          refine xg_t (xg_goto) ?_
          refine xg_t (xg_blq rfl) ?_
          refine xoCh82 (xqc82 hI456 : cp82 (wget w454 82)) (fun f82_467 f82_469 f82_471 f82_473 f82_475 f82_477 f82_479 f82_481 f82_483 f82_485 f82_487 f82_488 f82_489 f82_491 f82_493 f82_495 h82_497 hb468 hb470 hb472 hb474 hb476 hb478 hb480 hb482 hb484 hb486 hb490 hb492 hb494 hb496 hb498 => ?_)
          have hf499 : fld w454 82 10 = f82_483 := fld_of h82_497
          have hf500 : fld w454 82 14 = f82_485 := fld_of h82_497
          have hk501 := k14_465
          have hl502 : f82_485 ≤ 500 := by omega
          have hk503 := hz459
          have hk504 := (hF_385.k83 (rwv_eq ((hF457.1 83 (by decide)).trans (hF422.1 83 (by decide)))) (rwv_eq ((hF457.1 83 (by decide)).trans (hF422.1 83 (by decide)))))
          have hk505 := k10_464
          refine xg_t (xg_aload (va := (2, 82)) rfl rfl) ?_
          refine xg_t (xg_getf (va := (2, 85)) h82_497 rfl) ?_
          refine xg_t (xg_iload (va := (0, 5)) rfl rfl) ?_
          refine xg_t (xg_dup2 rfl) ?_
          refine xoI (xqc85 hI456 : cpI 7 52 4294967295 (wget w454 85)) (fun g85_506 h85_507 hb508 => ?_)
          refine xg_ialdB (n := 5) (B := 4294967295) h85_507 (hb508) xnm0 (by first | decide | omega) (fun u509 hu510 he511 => ?_)
          have hK512 : u509 = u42 := (((rwv_of h85_507 (by decide)).trans he511).symm.trans (rwv_eq ((hF457.1 85 (by decide)).trans ((hF422.1 85 (by decide)).trans ((hF296.1 85 (by decide)).trans ((hF288.1 85 (by decide)).trans ((hF149.1 85 (by decide)).trans ((hF103.1 85 (by decide)).trans hj57)))))))).trans ((hm 5 (by decide)).trans hK45.symm)
          have hl513 : u509 ≤ 500 := by omega
          refine xg_t (xg_const) ?_
          refine xg_t (xg_iadd (u := u509) (v := 1) (z := u509 + 1) xnm0 xnm0 (by omega)) ?_
          refine xg_iastK (n := 5) (u := u509 + 1) h85_507 xnm0 xnm0 rfl (by first | decide | omega) (fun w514 hr515 hb516 => ?_)
          refine xg_t (xg_aload (va := (2, 82)) rfl rfl) ?_
          refine xg_t (xg_dup rfl) ?_
          refine xg_t (xg_getf (va := (0, f82_485)) (hb516.get (by decide) h82_497) rfl) ?_
          have hn517 := id hb486
          unfold xHid at hn517
          refine xg_t (xg_const) ?_
          refine xg_t (xg_iadd (u := f82_485) (v := 1) (z := f82_485 + 1) xnm0 xnm0 (by omega)) ?_
          refine xg_putI (fl1 := [(2, 83), (2, 84), (0, f82_467), (0, f82_469), (0, f82_471), (0, f82_473), (0, f82_475), (0, f82_477), (0, f82_479), (0, f82_481), (0, f82_483), (2, 85), (2, 86), (2, 87), (0, f82_485 + 1), (2, 88), (2, 89), (2, 90), (2, 91), (2, 92), (2, 93), (2, 94), (4, f82_487), (4, f82_488), (0, f82_489), (2, 95), (2, 96), (2, 97), (2, 98), (2, 99), (2, 100), (2, 101), (2, 102), (0, f82_491), (2, 103), (2, 104), (2, 105), (2, 106), (2, 107), (2, 108), (2, 109), (0, f82_493), (0, f82_495), (2, 110), (2, 111), (2, 112), (2, 113)]) (hb516.get (by decide) h82_497) rfl rfl rfl (fun w518 hk519 hb520 => ?_)
          have hf521 : fld w518 82 10 = f82_483 := fld_of hk519
          have hf522 : fld w518 82 14 = f82_485 + 1 := fld_of hk519
          have he523 : lnP B nn (k + 1) = p_462 := by
            show (lnR B nn (lnP B nn k)).2 = _
            rw [← hp0, ln466]
          have hT524 : TKM 0 B nn w518 p_462 := hk503.w14 ((show fld w518 82 2 = f82_467 from fld_of hk519).trans (show fld w454 82 2 = f82_467 from fld_of h82_497).symm) ((show fld w518 82 3 = f82_469 from fld_of hk519).trans (show fld w454 82 3 = f82_469 from fld_of h82_497).symm) ((show fld w518 82 4 = f82_471 from fld_of hk519).trans (show fld w454 82 4 = f82_471 from fld_of h82_497).symm) ((show fld w518 82 5 = f82_473 from fld_of hk519).trans (show fld w454 82 5 = f82_473 from fld_of h82_497).symm) ((show fld w518 82 6 = f82_475 from fld_of hk519).trans (show fld w454 82 6 = f82_475 from fld_of h82_497).symm) ((show fld w518 82 7 = f82_477 from fld_of hk519).trans (show fld w454 82 7 = f82_477 from fld_of h82_497).symm) ((show fld w518 82 8 = f82_479 from fld_of hk519).trans (show fld w454 82 8 = f82_479 from fld_of h82_497).symm) ((show fld w518 82 9 = f82_481 from fld_of hk519).trans (show fld w454 82 9 = f82_481 from fld_of h82_497).symm)
          have hF525 : FP w518 (mfl B nn k 5 (flA B nn k)) := hk504.k83 (rwv_eq ((hb520.1 83 (by decide)).trans (hb516.1 83 (by decide)))) (rwv_eq ((hb520.1 83 (by decide)).trans (hb516.1 83 (by decide))))
          have hg527 := (tf_gt (B := B) (n := nn) (p := p_108) (by omega)).2
          have hg528 := tq_ge (B := B) (n := nn) (p := p_108)
          have hg529 := (tf_gt (B := B) (n := nn) (p := p_244) (by omega)).2
          have hg530 := tq_ge (B := B) (n := nn) (p := p_244)
          have hg531 := (tf_gt (B := B) (n := nn) (p := p0) (by rw [slt_kd (by rw [hp0, hs]; decide)]; decide)).2
          have hg532 := (tf_gt (B := B) (n := nn) (p := p_378) (by omega)).2
          have hg533 := tq_ge (B := B) (n := nn) (p := p_378)
          have hg534 := tq_ge (B := B) (n := nn) (p := p_462)
          have hp1x := hp109
          have hO526 : ORD B nn k 5 (tq B nn (lnP B nn (k + 1))) := by
            unfold ORD
            rw [he523, vp247, vp381, ← hp0]
            exact ⟨by omega, by omega, fun z => absurd z (by decide), by omega, fun z => absurd z (by decide)⟩
          have hM535 : rwv w518 85 5 = lnC B nn 5 k + 1 := (rwv_of (hr515.but hb520 (by decide)) (by decide)).trans ((if_pos rfl).trans (by omega))
          have hM536 : ∀ s, s < 7 → s ≠ 5 → rwv w518 85 s = rwv w 85 s := fun s hs hn => (rwv_of (hr515.but hb520 (by decide)) hs).trans ((if_neg hn).trans ((rwv_of h85_507 hs).symm.trans (rwv_eq ((hF457.1 85 (by decide)).trans ((hF422.1 85 (by decide)).trans ((hF296.1 85 (by decide)).trans ((hF288.1 85 (by decide)).trans ((hF149.1 85 (by decide)).trans ((hF103.1 85 (by decide)).trans hj57)))))))))
          have hr537 : lnC B nn 5 k < 1 → ∀ t, t < 2 → XM w518 5 (lnC B nn 5 k) t = vln B nn (lnP B nn k) t := fun hlt t ht => by
            rcases (show t = 0 ∨ t = 1 by omega) with rfl | rfl
            · show rwv w518 86 (7 + 0) = _
              rw [show 7 + 0 = 7 by omega]
              exact ((rwv_eq (hb520.1 86 (by decide))).trans ((rwv_eq (hb516.1 86 (by decide))).trans ((rwv_eq (hF457.1 86 (by decide))).trans ((hp425 7 (by omega) (by omega)).trans (rwv_eq (hF296.1 86 (by decide))))))).trans ((hp290 (by omega)).trans (hv158.trans vl248.symm))
            · show rwv w518 86 (7 + 1) = _
              rw [show 7 + 1 = 8 by omega]
              exact ((rwv_eq (hb520.1 86 (by decide))).trans ((rwv_eq (hb516.1 86 (by decide))).trans (rwv_eq (hF457.1 86 (by decide))))).trans ((hp424 (by omega)).trans (hv305.trans vl382.symm))
          have ho538 : ∀ j, (j < 7 ∨ 9 ≤ j) → j < 140 → rwv w518 86 j = rwv w 86 j := fun j hj hl => ((rwv_eq (hb520.1 86 (by decide))).trans ((rwv_eq (hb516.1 86 (by decide))).trans ((rwv_eq (hF457.1 86 (by decide))).trans ((hp425 j (by omega) hl).trans ((rwv_eq (hF296.1 86 (by decide))).trans ((hp291 j (by omega) hl).trans ((rwv_eq (hF149.1 86 (by decide))).trans ((rwv_eq (hF103.1 86 (by decide))).trans (rwv_eq hj58)))))))))
          have ha539 : ∀ j, j < 20 → rwv w518 87 j = rwv w 87 j := fun j _ => rwv_eq ((hb520.1 87 (by decide)).trans ((hb516.1 87 (by decide)).trans ((hF457.1 87 (by decide)).trans ((hF422.1 87 (by decide)).trans ((hF296.1 87 (by decide)).trans ((hF288.1 87 (by decide)).trans ((hF149.1 87 (by decide)).trans ((hF103.1 87 (by decide)).trans hj59))))))))
          have hM540 := MSTok5 hS hs (by have z := hk505; omega) (by omega) hF525 hO526 hM535 hM536 hr537 ho538 ha539
          exact xg_e ⟨w518, ⟨rfl, rfl⟩, xMnv.up (S := [85, 82]) hI456 ((xFr.of (S := [85, 82]) hb516 (by decide)).tr (xFr.of (S := [85, 82]) hb520 (by decide))) (List.forall_mem_cons.mpr ⟨xqu85 (show cpI 7 52 4294967295 (wget w518 85) from ⟨_, (hr515.but hb520 (by decide)), xrb (by omega) (hb508)⟩), List.forall_mem_cons.mpr ⟨xqu82 (show cp82 (wget w518 82) from xmC82 f82_467 f82_469 f82_471 f82_473 f82_475 f82_477 f82_479 f82_481 f82_483 (f82_485 + 1) f82_487 f82_488 f82_489 f82_491 f82_493 f82_495 hk519 hb468 hb470 hb472 hb474 hb476 hb478 hb480 hb482 hb484 (by omega) hb490 hb492 hb494 hb496 (by omega)), fun _ h => absurd h List.not_mem_nil⟩⟩), (((((((hF50.tr (hF103.up (by decide))).tr (hF149.up (by decide))).tr (hF288.up (by decide))).tr (hF296.up (by decide))).tr (hF422.up (by decide))).tr (hF457.up (by decide))).tr ((xFr.of (S := [82, 83, 85, 86, 87]) hb516 (by decide)).tr (xFr.of (S := [82, 83, 85, 86, 87]) hb520 (by decide)))), ⟨Or.inr ⟨by rw [ln466], by rw [he523]; exact hT524, hM540⟩, ((((((((hj56.tr (K83.fr hF103 (by decide))).tr k8_153).tr (K83.fr hF288 (by decide))).tr k8_300).tr (K83.fr hF422 (by decide))).tr (K83.fr hF457 (by decide))).tr (K83.but hb516 (by decide))).tr (K83.but hb520 (by decide))), by omega⟩⟩
        · refine xg_t (xg_icT (u := f82_397) (v := 2) rfl xnm0 xnm0 (xj_neT hc444)) ?_
          refine xg_t (xg_blq rfl) ?_
          have lf541n : ¬ (tkd B nn p_378 = 3 ∧ B (tq B nn p_378) = 59) := by omega
          have lf541 : lnR B nn p0 = (false, p_378) := ln426.trans (lnS_n lf541n)
          refine xg_t (xg_aload (va := (2, 82)) rfl rfl) ?_
          have hk542 := ((fld_eq (j := 14) (hF422.1 82 (by decide))).trans k14_302)
          have hk543 := (hT_308.fr (hF422.1 82 (by decide))).1.2.2.2.1
          clear ht429 ht430 ht431 ht432 ht433 ht434 ht435 ht436 ht437 hf438 hf439 hf440 hf441 hf442 hmk443
          refine xg_cVv mX12_ends (vs := []) (rest := []) (cn1 := 0) (sl1 := 0) rfl (mEndsX (hI421) ((fld_eq (j := 10) (hF422.1 82 (by decide))).trans k10_307)) rfl (hF422.get (by decide) h82_417) rfl rfl rfl rfl rfl rfl (fun w544 hq545 => ?_)
          obtain ⟨hI546, hF547, hx548⟩ := hq545
          obtain ⟨hv549, hv550, hv551, hv552, hv553⟩ := hx548
          have hW554 : WRG w544 (tq B nn p_378) := ⟨hv549, hv550, hv551.trans hk543⟩
          have k14_555 := hv552.trans hk542
          refine xg_t (xg_blq rfl) ?_
          refine xoCh82 (xqc82 hI546 : cp82 (wget w544 82)) (fun f82_556 f82_558 f82_560 f82_562 f82_564 f82_566 f82_568 f82_570 f82_572 f82_574 f82_576 f82_577 f82_578 f82_580 f82_582 f82_584 h82_586 hb557 hb559 hb561 hb563 hb565 hb567 hb569 hb571 hb573 hb575 hb579 hb581 hb583 hb585 hb587 => ?_)
          have hf588 : fld w544 82 10 = f82_572 := fld_of h82_586
          have hf589 : fld w544 82 14 = f82_574 := fld_of h82_586
          have hk590 := k14_555
          have hl591 : f82_574 ≤ 500 := by omega
          have hk592 : WRG w544 (tq B nn p_378) := hW554
          refine xg_t (xg_aload (va := (2, 82)) rfl rfl) ?_
          refine xg_t (xg_getf (va := (2, 85)) h82_586 rfl) ?_
          refine xg_t (xg_iload (va := (0, 5)) rfl rfl) ?_
          refine xg_t (xg_dup2 rfl) ?_
          refine xoI (xqc85 hI546 : cpI 7 52 4294967295 (wget w544 85)) (fun g85_593 h85_594 hb595 => ?_)
          refine xg_ialdB (n := 5) (B := 4294967295) h85_594 (hb595) xnm0 (by first | decide | omega) (fun u596 hu597 he598 => ?_)
          have hK599 : u596 = u42 := (((rwv_of h85_594 (by decide)).trans he598).symm.trans (rwv_eq ((hF547.1 85 (by decide)).trans ((hF422.1 85 (by decide)).trans ((hF296.1 85 (by decide)).trans ((hF288.1 85 (by decide)).trans ((hF149.1 85 (by decide)).trans ((hF103.1 85 (by decide)).trans hj57)))))))).trans ((hm 5 (by decide)).trans hK45.symm)
          have hl600 : u596 ≤ 500 := by omega
          refine xg_t (xg_const) ?_
          refine xg_t (xg_iadd (u := u596) (v := 1) (z := u596 + 1) xnm0 xnm0 (by omega)) ?_
          refine xg_iastK (n := 5) (u := u596 + 1) h85_594 xnm0 xnm0 rfl (by first | decide | omega) (fun w601 hr602 hb603 => ?_)
          refine xg_t (xg_aload (va := (2, 82)) rfl rfl) ?_
          refine xg_t (xg_dup rfl) ?_
          refine xg_t (xg_getf (va := (0, f82_574)) (hb603.get (by decide) h82_586) rfl) ?_
          have hn604 := id hb575
          unfold xHid at hn604
          refine xg_t (xg_const) ?_
          refine xg_t (xg_iadd (u := f82_574) (v := 1) (z := f82_574 + 1) xnm0 xnm0 (by omega)) ?_
          refine xg_putI (fl1 := [(2, 83), (2, 84), (0, f82_556), (0, f82_558), (0, f82_560), (0, f82_562), (0, f82_564), (0, f82_566), (0, f82_568), (0, f82_570), (0, f82_572), (2, 85), (2, 86), (2, 87), (0, f82_574 + 1), (2, 88), (2, 89), (2, 90), (2, 91), (2, 92), (2, 93), (2, 94), (4, f82_576), (4, f82_577), (0, f82_578), (2, 95), (2, 96), (2, 97), (2, 98), (2, 99), (2, 100), (2, 101), (2, 102), (0, f82_580), (2, 103), (2, 104), (2, 105), (2, 106), (2, 107), (2, 108), (2, 109), (0, f82_582), (0, f82_584), (2, 110), (2, 111), (2, 112), (2, 113)]) (hb603.get (by decide) h82_586) rfl rfl rfl (fun w605 hk606 hb607 => ?_)
          have hf608 : fld w605 82 10 = f82_572 := fld_of hk606
          have hf609 : fld w605 82 14 = f82_574 + 1 := fld_of hk606
          exact xg_e ⟨w605, ⟨rfl, rfl⟩, xMnv.up (S := [85, 82]) hI546 ((xFr.of (S := [85, 82]) hb603 (by decide)).tr (xFr.of (S := [85, 82]) hb607 (by decide))) (List.forall_mem_cons.mpr ⟨xqu85 (show cpI 7 52 4294967295 (wget w605 85) from ⟨_, (hr602.but hb607 (by decide)), xrb (by omega) (hb595)⟩), List.forall_mem_cons.mpr ⟨xqu82 (show cp82 (wget w605 82) from xmC82 f82_556 f82_558 f82_560 f82_562 f82_564 f82_566 f82_568 f82_570 f82_572 (f82_574 + 1) f82_576 f82_577 f82_578 f82_580 f82_582 f82_584 hk606 hb557 hb559 hb561 hb563 hb565 hb567 hb569 hb571 hb573 (by omega) hb579 hb581 hb583 hb585 (by omega)), fun _ h => absurd h List.not_mem_nil⟩⟩), (((((((hF50.tr (hF103.up (by decide))).tr (hF149.up (by decide))).tr (hF288.up (by decide))).tr (hF296.up (by decide))).tr (hF422.up (by decide))).tr (hF547.up (by decide))).tr ((xFr.of (S := [82, 83, 85, 86, 87]) hb603 (by decide)).tr (xFr.of (S := [82, 83, 85, 86, 87]) hb607 (by decide)))), ⟨Or.inl ⟨p_378, lf541, ⟨by have z := hk592.1; omega, (rwv_eq (j := 16) ((hb607.1 83 (by decide)).trans (hb603.1 83 (by decide)))).trans hk592.2.1, (rwv_eq (j := 17) ((hb607.1 83 (by decide)).trans (hb603.1 83 (by decide)))).trans hk592.2.2⟩⟩, ((((((((hj56.tr (K83.fr hF103 (by decide))).tr k8_153).tr (K83.fr hF288 (by decide))).tr k8_300).tr (K83.fr hF422 (by decide))).tr hv553).tr (K83.but hb603 (by decide))).tr (K83.but hb607 (by decide))), by omega⟩⟩
  refine xg_t (xg_iload (va := (0, u42)) rfl rfl) ?_
  refine xg_t (xg_iload (va := (0, 5)) rfl rfl) ?_
  refine xg_t (xg_cSr mX12_mostOf (vs := [(0, 5)]) (rest := [(0, u42)]) (rs := [(0, 1), (0, u42)]) (cn1 := 0) (sl1 := 0) rfl (mMostR5) rfl rfl rfl rfl rfl rfl rfl rfl) ?_
  by_cases hc610 : u42 < 1
  · refine xg_t (xg_icT (u := u42) (v := 1) rfl xnm0 xnm0 (xj_ltT hc610 (by omega))) ?_
    refine xg_t (xg_drop (l1 := [(0, (2, 82)), (1, (0, 5)), (2, (0, at_)), (3, (0, u42))]) (List.forall_mem_cons.mpr ⟨List.mem_cons_of_mem _ (List.mem_cons_of_mem _ (List.mem_cons_of_mem _ (List.mem_cons_self))), List.forall_mem_cons.mpr ⟨List.mem_cons_of_mem _ (List.mem_cons_of_mem _ (List.mem_cons_self)), List.forall_mem_cons.mpr ⟨List.mem_cons_of_mem _ (List.mem_cons_self), List.forall_mem_cons.mpr ⟨List.mem_cons_self, fun _ h => absurd h List.not_mem_nil⟩⟩⟩⟩)) ?_
    have he611 : flA B nn k = mf1 B nn k 5 (flA B nn k) := by unfold mf1; rw [decide_eq_false (show ¬ lim 5 ≤ lnC B nn 5 k from (show ¬ 1 ≤ lnC B nn 5 k by omega))]; rfl
    exact jn47 w (hI) (xFr.rf) (⟨by rw [← he611]; exact zF, z10, hT, z14, K83.rf, rfl, rfl, rfl⟩)
  · refine xg_t (xg_icF (u := u42) (v := 1) rfl xnm0 xnm0 (xj_ltF (by omega) (by omega))) ?_
    refine xg_t (xg_aload (va := (2, 82)) rfl rfl) ?_
    refine xg_t (xg_const) ?_
    refine xg_t (xg_iload (va := (0, at_)) rfl rfl) ?_
    refine xg_cVv mX12_also (vs := [(0, 3), (0, at_)]) (rest := []) (cn1 := 0) (sl1 := 0) rfl (mAlsoX (hI) (by omega) (by omega) (by omega) z10 zF) rfl h82_31 rfl rfl rfl rfl rfl rfl (fun w612 hq613 => ?_)
    obtain ⟨hI614, hF615, hx616⟩ := hq613
    obtain ⟨hv617, hv618⟩ := hx616
    refine xg_t (xg_drop (l1 := [(0, (2, 82)), (1, (0, 5)), (2, (0, at_)), (3, (0, u42))]) (List.forall_mem_cons.mpr ⟨List.mem_cons_of_mem _ (List.mem_cons_of_mem _ (List.mem_cons_of_mem _ (List.mem_cons_self))), List.forall_mem_cons.mpr ⟨List.mem_cons_of_mem _ (List.mem_cons_of_mem _ (List.mem_cons_self)), List.forall_mem_cons.mpr ⟨List.mem_cons_of_mem _ (List.mem_cons_self), List.forall_mem_cons.mpr ⟨List.mem_cons_self, fun _ h => absurd h List.not_mem_nil⟩⟩⟩⟩)) ?_
    have he619 : alo (flA B nn k) 3 at_ = mf1 B nn k 5 (flA B nn k) := by unfold mf1; rw [decide_eq_true (show lim 5 ≤ lnC B nn 5 k from (show 1 ≤ lnC B nn 5 k by omega)), hat, hp0]; rfl
    exact jn47 w612 (hI614) ((hF615.up (by decide))) (⟨by rw [← he619]; exact hv617, ((fld_eq (j := 10) (hF615.1 82 (by decide))).trans z10), (hT.fr (hF615.1 82 (by decide))), ((fld_eq (j := 14) (hF615.1 82 (by decide))).trans z14), hv618, (hF615.1 85 (by decide)), (hF615.1 86 (by decide)), (hF615.1 87 (by decide))⟩)
end XFME
end
section
/-! the model: a line of each sort, more -/
section XFME
variable {d : Nat} {w : List (List xE)} {bd : List (Nat × Nat)} {fc : List (Nat × Nat × Bool)} {rr : Nat × Nat}
set_option maxHeartbeats 60000000 in
theorem mALnX6 {B : Nat → Nat} {nn k p0 : Nat} {at_ : Nat} (hI : xMnv w) (hB : bsm w B nn) (hp0 : p0 = lnP B nn k) (hT : TKM 0 B nn w p0) (hS : MST B nn w k) (hk5 : k ≤ 500) (hs : slt B nn (lnP B nn k) = 6) (hat : at_ = tq B nn p0) : xTo (d + 7) mX12_aLine (43, [], [(2, (0, at_)), (1, (0, 6)), (0, (2, 82))], [], (w, bd, fc, 0, 0, rr)) (fun φ => ∃ w', xEnd 0 [] (w', bd, fc, 0, 0, rr) φ ∧ xMnv w' ∧ xFr [82, 83, 85, 86, 87] w w' ∧ (((∃ q, lnR B nn p0 = (false, q) ∧ WRG w' (tq B nn q)) ∨ ((lnR B nn p0).1 = true ∧ TKM 0 B nn w' (lnP B nn (k + 1)) ∧ MST B nn w' (k + 1))) ∧ K83 w w' ∧ fld w 82 14 ≤ fld w' 82 14)) := by
  refine xoCh82 (xqc82 hI : cp82 (wget w 82)) (fun f82_1 f82_3 f82_5 f82_7 f82_9 f82_11 f82_13 f82_15 f82_17 f82_19 f82_21 f82_22 f82_23 f82_25 f82_27 f82_29 h82_31 hb2 hb4 hb6 hb8 hb10 hb12 hb14 hb16 hb18 hb20 hb24 hb26 hb28 hb30 hb32 => ?_)
  refine xoI (xqc85 hI : cpI 7 52 4294967295 (wget w 85)) (fun g85_33 h85_34 hb35 => ?_)
  refine xoI (xqc86 hI : cpI 140 53 4294967295 (wget w 86)) (fun g86_36 h86_37 hb38 => ?_)
  refine xoI (xqc87 hI : cpI 20 54 4294967295 (wget w 87)) (fun g87_39 h87_40 hb41 => ?_)
  obtain ⟨⟨z10, z14, zF, zp⟩, hm, hR⟩ := id hS
  have hkc := lnC_k (B := B) (n := nn) (s := 6) (k := k)
  have hq0 : at_ ≤ 500 := by
    have z1 := tf_gt (B := B) (n := nn) (p := p0) (by rw [slt_kd (by rw [hp0, hs]; decide)]; decide)
    have z2 := hB.1
    omega
  refine xg_t (xg_blq rfl) ?_
  refine xg_t (xg_aload (va := (2, 82)) rfl rfl) ?_
  refine xg_t (xg_getf (va := (2, 85)) h82_31 rfl) ?_
  refine xg_t (xg_iload (va := (0, 6)) rfl rfl) ?_
  refine xg_ialdB (n := 6) (B := 4294967295) h85_34 (hb35) xnm0 (by first | decide | omega) (fun u42 hu43 he44 => ?_)
  have hK45 : u42 = lnC B nn 6 k := (((rwv_of h85_34 (by decide)).trans he44).symm).trans (hm 6 (by decide))
  have hl46 : u42 ≤ 500 := by omega
  refine xg_t (xg_istore (l1 := [(2, (0, at_)), (1, (0, 6)), (0, (2, 82))]) rfl rfl rfl) ?_
  have jn47 : ∀ (w48 : List (List xE)), xMnv w48 → xFr [82, 83, 85, 86, 87] w w48 → (FP w48 (mf1 B nn k 6 (flA B nn k)) ∧ fld w48 82 10 = 0 ∧ TKM 0 B nn w48 p0 ∧ fld w48 82 14 = k ∧ K83 w w48 ∧ wget w48 85 = wget w 85 ∧ wget w48 86 = wget w 86 ∧ wget w48 87 = wget w 87) → xTo (d + 7) mX12_aLine (64, [], [(0, (2, 82)), (1, (0, 6)), (2, (0, at_)), (3, (0, u42))], [], (w48, bd, fc, 0, 0, rr)) (fun φ => ∃ w', xEnd 0 [] (w', bd, fc, 0, 0, rr) φ ∧ xMnv w' ∧ xFr [82, 83, 85, 86, 87] w w' ∧ (((∃ q, lnR B nn p0 = (false, q) ∧ WRG w' (tq B nn q)) ∨ ((lnR B nn p0).1 = true ∧ TKM 0 B nn w' (lnP B nn (k + 1)) ∧ MST B nn w' (k + 1))) ∧ K83 w w' ∧ fld w 82 14 ≤ fld w' 82 14)) := by
    intro w48 hI49 hF50 he51
    obtain ⟨hj52, hj53, hj54, hj55, hj56, hj57, hj58, hj59⟩ := he51
    refine xg_t (xg_blq rfl) ?_
    refine xg_t (xg_aload (va := (2, 82)) rfl rfl) ?_
    obtain ⟨⟨ht60, ht61, ht62, ht63, ht64, ht65⟩, -⟩ := id hj54
    have hk66 := hj53
    have hk67 := hj55
    refine xoCh82 (xqc82 hI49 : cp82 (wget w48 82)) (fun f82_68 f82_70 f82_72 f82_74 f82_76 f82_78 f82_80 f82_82 f82_84 f82_86 f82_88 f82_89 f82_90 f82_92 f82_94 f82_96 h82_98 hb69 hb71 hb73 hb75 hb77 hb79 hb81 hb83 hb85 hb87 hb91 hb93 hb95 hb97 hb99 => ?_)
    refine xg_cVv mX12_advance (vs := []) (rest := []) (cn1 := 0) (sl1 := 0) rfl (mAdvX (hI49) (hB.fr (fun j h4 h9 => hj56 j (by omega) (by omega) (by omega))) ht60 ht61 (by rw [ht62]; exact tf_le ht65)) rfl h82_98 rfl rfl rfl rfl rfl rfl (fun w100 hq101 => ?_)
    obtain ⟨hI102, hF103, hx104⟩ := hq101
    obtain ⟨hz105, hz106, hz107⟩ := hx104
    rw [ht62] at hz105
    clear ht60 ht61 ht62 ht63 ht64 ht65
    obtain ⟨p_108, hp109⟩ : ∃ x, x = tf B nn p0 := ⟨_, rfl⟩
    rw [← hp109] at hz105
    have k10_110 := hz106.trans hk66
    have k14_111 := hz107.trans hk67
    clear hz106 hz107 hk66 hk67
    have ln112 : lnR B nn p0 = lnN B nn 6 2 p_108 := by rw [hp109]; exact lnR_go (by rw [hp0]; exact hs) (by decide)
    refine xg_t (xg_iload (va := (0, 6)) rfl rfl) ?_
    refine xg_t (xg_swt (ks := [(0, 108), (1, 116), (2, 180), (3, 221), (4, 273), (5, 326)]) (u := 6) (z := 362) rfl rfl rfl xnm0 (xsw_n (by omega) (xsw_n (by omega) (xsw_n (by omega) (xsw_n (by omega) (xsw_n (by omega) (xsw_n (by omega) (xsw_d)))))))) ?_
    refine xg_t (xg_blq rfl) ?_
    refine xg_t (xg_const) ?_
    refine xg_t (xg_istore (l1 := [(0, (2, 82)), (1, (0, 6)), (2, (0, at_)), (3, (0, u42))]) rfl rfl rfl) ?_
    refine xg_t (xg_blq rfl) ?_
    refine xg_t (xg_iload (va := (0, 0)) rfl rfl) ?_
    refine xg_t (xg_const) ?_
    refine xg_t (xg_icF (u := 0) (v := 2) rfl xnm0 xnm0 (by decide)) ?_
    refine xg_t (xg_aload (va := (2, 82)) rfl rfl) ?_
    refine xg_t (xg_iload (va := (0, 6)) rfl rfl) ?_
    refine xg_t (xg_iload (va := (0, u42)) rfl rfl) ?_
    refine xg_t (xg_const) ?_
    refine xg_t (xg_iload (va := (0, 0)) rfl rfl) ?_
    refine xg_t (xg_iadd (u := 5) (v := 0) (z := 5) xnm0 xnm0 (by decide)) ?_
    refine xg_t (xg_aload (va := (2, 82)) rfl rfl) ?_
    refine xg_t (xg_const) ?_
    refine xg_t (xg_bip) ?_
    have hk113 := k14_111
    refine xoCh82 (xqc82 hI102 : cp82 (wget w100 82)) (fun f82_114 f82_116 f82_118 f82_120 f82_122 f82_124 f82_126 f82_128 f82_130 f82_132 f82_134 f82_135 f82_136 f82_138 f82_140 f82_142 h82_144 hb115 hb117 hb119 hb121 hb123 hb125 hb127 hb129 hb131 hb133 hb137 hb139 hb141 hb143 hb145 => ?_)
    refine xg_cVi mX12_numbered (vs := [(0, 1), (0, 6)]) (rest := [(0, 5), (0, u42), (0, 6), (2, 82)]) (cn1 := 0) (sl1 := 0) rfl (mNumX (ir := 0) (hI102) (by omega) (by omega) (hB.fr (fun j h4 h9 => (hj56.tr (K83.fr hF103 (by decide))) j (by omega) (by omega) (by omega))) k10_110 hz105 (hj52.k83 (rwv_eq (hF103.1 83 (by decide))) (rwv_eq (hF103.1 83 (by decide))))) rfl h82_144 rfl rfl rfl rfl rfl rfl (fun n150 w146 hq147 => ?_)
    obtain ⟨hn151, hI148, hF149⟩ := hq147
    obtain ⟨hx154, h14_152, k8_153⟩ := hn151
    have k14_155 := h14_152.trans hk113
    rcases hx154 with ⟨rfl, hk156, hW157⟩ | ⟨hv158, h9_159, hk156, k10_160, hT_161, hF_162⟩
    · have lf163 : lnR B nn p0 = (false, p_108) := ln112.trans (lnN_n (k := 1) hk156)
      refine xoCh82 (xqc82 hI148 : cp82 (wget w146 82)) (fun f82_164 f82_166 f82_168 f82_170 f82_172 f82_174 f82_176 f82_178 f82_180 f82_182 f82_184 f82_185 f82_186 f82_188 f82_190 f82_192 h82_194 hb165 hb167 hb169 hb171 hb173 hb175 hb177 hb179 hb181 hb183 hb187 hb189 hb191 hb193 hb195 => ?_)
      refine xg_cVv mX12_puts (vs := [(0, 6), (0, u42), (0, 5), (0, 0)]) (rest := []) (cn1 := 0) (sl1 := 0) rfl (mPuts6 (hI148) (by omega) (by omega) (by omega) (fun _ => by omega)) rfl h82_194 rfl rfl rfl rfl rfl rfl (fun w196 hq197 => ?_)
      obtain ⟨hI198, hF199, hx200⟩ := hq197
      obtain ⟨hp201, hp202⟩ := hx200
      refine xg_t (xg_iinc (u := 0) (z := 1) (l1 := [(0, (2, 82)), (1, (0, 6)), (2, (0, at_)), (3, (0, u42))]) rfl rfl (by decide) rfl) ?_
      refine xg_t (xg_goto) ?_
      refine xg_t (xg_blq rfl) ?_
      refine xg_t (xg_iload (va := (0, 1)) rfl rfl) ?_
      refine xg_t (xg_const) ?_
      refine xg_t (xg_icF (u := 1) (v := 2) rfl xnm0 xnm0 (by decide)) ?_
      refine xg_t (xg_aload (va := (2, 82)) rfl rfl) ?_
      refine xg_t (xg_iload (va := (0, 6)) rfl rfl) ?_
      refine xg_t (xg_iload (va := (0, u42)) rfl rfl) ?_
      refine xg_t (xg_const) ?_
      refine xg_t (xg_iload (va := (0, 1)) rfl rfl) ?_
      refine xg_t (xg_iadd (u := 5) (v := 1) (z := 6) xnm0 xnm0 (by decide)) ?_
      refine xg_t (xg_aload (va := (2, 82)) rfl rfl) ?_
      refine xg_t (xg_const) ?_
      refine xg_t (xg_bip) ?_
      refine xg_cVi mX12_numbered (vs := [(0, 1), (0, 6)]) (rest := [(0, 6), (0, u42), (0, 6), (2, 82)]) (cn1 := 0) (sl1 := 0) rfl (mNumW (hI198) (by omega) (by omega) (by have q := hW157.1; have q2 := fld_eq (j := 10) (hF199.1 82 (by decide)); omega)) rfl (hF199.get (by decide) h82_194) rfl rfl rfl rfl rfl rfl (fun n207 w203 hq204 => ?_)
      obtain ⟨hn208, hI205, hF206⟩ := hq204
      obtain rfl := hn208
      refine xg_cVv mX12_puts (vs := [(0, 6), (0, u42), (0, 6), (0, 0)]) (rest := []) (cn1 := 0) (sl1 := 0) rfl (mPuts6 (hI205) (by omega) (by omega) (by omega) (fun _ => by omega)) rfl (hF206.get (by decide) (hF199.get (by decide) h82_194)) rfl rfl rfl rfl rfl rfl (fun w209 hq210 => ?_)
      obtain ⟨hI211, hF212, hx213⟩ := hq210
      obtain ⟨hp214, hp215⟩ := hx213
      refine xg_t (xg_iinc (u := 1) (z := 2) (l1 := [(0, (2, 82)), (1, (0, 6)), (2, (0, at_)), (3, (0, u42))]) rfl rfl (by decide) rfl) ?_
      refine xg_t (xg_goto) ?_
      refine xg_t (xg_blq rfl) ?_
      refine xg_t (xg_iload (va := (0, 2)) rfl rfl) ?_
      refine xg_t (xg_const) ?_
      refine xg_t (xg_icT (u := 2) (v := 2) rfl xnm0 xnm0 (by decide)) ?_
      refine xg_t (xg_blq rfl) ?_
      refine xg_t (xg_aload (va := (2, 82)) rfl rfl) ?_
      refine xg_t (xg_getf (va := (0, f82_180)) (hF212.get (by decide) (hF206.get (by decide) (hF199.get (by decide) h82_194))) rfl) ?_
      have hf216 : fld w209 82 10 = f82_180 := fld_of (hF212.get (by decide) (hF206.get (by decide) (hF199.get (by decide) h82_194)))
      have hk217 : fld w209 82 10 ≠ 0 := (by have q := hW157.1; have q2 := fld_eq (j := 10) ((hF212.1 82 (by decide)).trans ((hF206.1 82 (by decide)).trans (hF199.1 82 (by decide)))); omega)
      refine xg_t (xg_ifT (u := f82_180) rfl xnm0 (xj_neT (by omega))) ?_
      refine xg_t (xg_blq rfl) ?_
      refine xg_t (xg_aload (va := (2, 82)) rfl rfl) ?_
      refine xg_cVv mX12_ends (vs := []) (rest := []) (cn1 := 0) (sl1 := 0) rfl (mEndsW (hI211) (by have q := hW157.1; have q2 := fld_eq (j := 10) ((hF212.1 82 (by decide)).trans ((hF206.1 82 (by decide)).trans (hF199.1 82 (by decide)))); omega)) rfl (hF212.get (by decide) (hF206.get (by decide) (hF199.get (by decide) h82_194))) rfl rfl rfl rfl rfl rfl (fun w218 hq219 => ?_)
      obtain ⟨hI220, hF221⟩ := hq219
      refine xg_t (xg_blq rfl) ?_
      have hf222 : fld w218 82 10 = f82_180 := fld_of (hF221.get (by decide) (hF212.get (by decide) (hF206.get (by decide) (hF199.get (by decide) h82_194))))
      have hf223 : fld w218 82 14 = f82_182 := fld_of (hF221.get (by decide) (hF212.get (by decide) (hF206.get (by decide) (hF199.get (by decide) h82_194))))
      have hk224 := ((fld_eq (j := 14) ((hF221.1 82 (by decide)).trans ((hF212.1 82 (by decide)).trans ((hF206.1 82 (by decide)).trans (hF199.1 82 (by decide)))))).trans k14_155)
      have hl225 : f82_182 ≤ 500 := by omega
      have hk226 : WRG w218 (tq B nn p_108) := ⟨(fld_eq (j := 10) ((hF221.1 82 (by decide)).trans ((hF212.1 82 (by decide)).trans ((hF206.1 82 (by decide)).trans (hF199.1 82 (by decide)))))).trans hW157.1, (rwv_eq (j := 16) ((hF221.1 83 (by decide)).trans ((hF212.1 83 (by decide)).trans ((hF206.1 83 (by decide)).trans (hF199.1 83 (by decide)))))).trans hW157.2.1, (rwv_eq (j := 17) ((hF221.1 83 (by decide)).trans ((hF212.1 83 (by decide)).trans ((hF206.1 83 (by decide)).trans (hF199.1 83 (by decide)))))).trans hW157.2.2⟩
      refine xg_t (xg_aload (va := (2, 82)) rfl rfl) ?_
      refine xg_t (xg_getf (va := (2, 85)) (hF221.get (by decide) (hF212.get (by decide) (hF206.get (by decide) (hF199.get (by decide) h82_194)))) rfl) ?_
      refine xg_t (xg_iload (va := (0, 6)) rfl rfl) ?_
      refine xg_t (xg_dup2 rfl) ?_
      refine xoI (xqc85 hI220 : cpI 7 52 4294967295 (wget w218 85)) (fun g85_227 h85_228 hb229 => ?_)
      refine xg_ialdB (n := 6) (B := 4294967295) h85_228 (hb229) xnm0 (by first | decide | omega) (fun u230 hu231 he232 => ?_)
      have hK233 : u230 = u42 := (((rwv_of h85_228 (by decide)).trans he232).symm.trans (rwv_eq ((hF221.1 85 (by decide)).trans ((hF212.1 85 (by decide)).trans ((hF206.1 85 (by decide)).trans ((hF199.1 85 (by decide)).trans ((hF149.1 85 (by decide)).trans ((hF103.1 85 (by decide)).trans hj57)))))))).trans ((hm 6 (by decide)).trans hK45.symm)
      have hl234 : u230 ≤ 500 := by omega
      refine xg_t (xg_const) ?_
      refine xg_t (xg_iadd (u := u230) (v := 1) (z := u230 + 1) xnm0 xnm0 (by omega)) ?_
      refine xg_iastK (n := 6) (u := u230 + 1) h85_228 xnm0 xnm0 rfl (by first | decide | omega) (fun w235 hr236 hb237 => ?_)
      refine xg_t (xg_aload (va := (2, 82)) rfl rfl) ?_
      refine xg_t (xg_dup rfl) ?_
      refine xg_t (xg_getf (va := (0, f82_182)) (hb237.get (by decide) (hF221.get (by decide) (hF212.get (by decide) (hF206.get (by decide) (hF199.get (by decide) h82_194))))) rfl) ?_
      have hn238 := id hb183
      unfold xHid at hn238
      refine xg_t (xg_const) ?_
      refine xg_t (xg_iadd (u := f82_182) (v := 1) (z := f82_182 + 1) xnm0 xnm0 (by omega)) ?_
      refine xg_putI (fl1 := [(2, 83), (2, 84), (0, f82_164), (0, f82_166), (0, f82_168), (0, f82_170), (0, f82_172), (0, f82_174), (0, f82_176), (0, f82_178), (0, f82_180), (2, 85), (2, 86), (2, 87), (0, f82_182 + 1), (2, 88), (2, 89), (2, 90), (2, 91), (2, 92), (2, 93), (2, 94), (4, f82_184), (4, f82_185), (0, f82_186), (2, 95), (2, 96), (2, 97), (2, 98), (2, 99), (2, 100), (2, 101), (2, 102), (0, f82_188), (2, 103), (2, 104), (2, 105), (2, 106), (2, 107), (2, 108), (2, 109), (0, f82_190), (0, f82_192), (2, 110), (2, 111), (2, 112), (2, 113)]) (hb237.get (by decide) (hF221.get (by decide) (hF212.get (by decide) (hF206.get (by decide) (hF199.get (by decide) h82_194))))) rfl rfl rfl (fun w239 hk240 hb241 => ?_)
      have hf242 : fld w239 82 10 = f82_180 := fld_of hk240
      have hf243 : fld w239 82 14 = f82_182 + 1 := fld_of hk240
      exact xg_e ⟨w239, ⟨rfl, rfl⟩, xMnv.up (S := [85, 82]) hI220 ((xFr.of (S := [85, 82]) hb237 (by decide)).tr (xFr.of (S := [85, 82]) hb241 (by decide))) (List.forall_mem_cons.mpr ⟨xqu85 (show cpI 7 52 4294967295 (wget w239 85) from ⟨_, (hr236.but hb241 (by decide)), xrb (by omega) (hb229)⟩), List.forall_mem_cons.mpr ⟨xqu82 (show cp82 (wget w239 82) from xmC82 f82_164 f82_166 f82_168 f82_170 f82_172 f82_174 f82_176 f82_178 f82_180 (f82_182 + 1) f82_184 f82_185 f82_186 f82_188 f82_190 f82_192 hk240 hb165 hb167 hb169 hb171 hb173 hb175 hb177 hb179 hb181 (by omega) hb187 hb189 hb191 hb193 (by omega)), fun _ h => absurd h List.not_mem_nil⟩⟩), (((((((hF50.tr (hF103.up (by decide))).tr (hF149.up (by decide))).tr (hF199.up (by decide))).tr (hF206.up (by decide))).tr (hF212.up (by decide))).tr (hF221.up (by decide))).tr ((xFr.of (S := [82, 83, 85, 86, 87]) hb237 (by decide)).tr (xFr.of (S := [82, 83, 85, 86, 87]) hb241 (by decide)))), ⟨Or.inl ⟨p_108, lf163, ⟨by have z := hk226.1; omega, (rwv_eq (j := 16) ((hb241.1 83 (by decide)).trans (hb237.1 83 (by decide)))).trans hk226.2.1, (rwv_eq (j := 17) ((hb241.1 83 (by decide)).trans (hb237.1 83 (by decide)))).trans hk226.2.2⟩⟩, ((((((((hj56.tr (K83.fr hF103 (by decide))).tr k8_153).tr (K83.fr hF199 (by decide))).tr (K83.fr hF206 (by decide))).tr (K83.fr hF212 (by decide))).tr (K83.fr hF221 (by decide))).tr (K83.but hb237 (by decide))).tr (K83.but hb241 (by decide))), by omega⟩⟩
    · obtain ⟨p_244, hp245⟩ : ∃ x, x = tf B nn p_108 := ⟨_, rfl⟩
      rw [← hp245] at hT_161
      have ln246 : lnR B nn p0 = lnN B nn 6 1 p_244 := by rw [hp245]; exact ln112.trans (lnN_y (k := 1) hk156)
      have vp247 : vlp B nn (lnP B nn k) 0 = p_108 := by rw [← hp0]; exact hp109.symm
      have vl248 : vln B nn (lnP B nn k) 0 = tnu B nn p_108 := by
        show (if (0 : Nat) = 3 then _ else tnu B nn (vlp B nn (lnP B nn k) 0)) = _
        rw [if_neg (by decide), vp247]
      have he250 : (chk (mf1 B nn k 6 (flA B nn k)) 1 6 (tnu B nn p_108) (tq B nn p_108)) = (mf2 B nn k 6 (flA B nn k)) := by show _ = chk (mf1 B nn k 6 (flA B nn k)) 1 6 (vln B nn (lnP B nn k) 0) (tq B nn (vlp B nn (lnP B nn k) 0)); rw [vl248, vp247]
      have hF_249 := hF_162
      rw [he250] at hF_249
      have he252 : (mf2 B nn k 6 (flA B nn k)) = (mf3 B nn k 6 (flA B nn k)) := rfl
      have hF_251 := hF_249
      rw [he252] at hF_251
      refine xoCh82 (xqc82 hI148 : cp82 (wget w146 82)) (fun f82_253 f82_255 f82_257 f82_259 f82_261 f82_263 f82_265 f82_267 f82_269 f82_271 f82_273 f82_274 f82_275 f82_277 f82_279 f82_281 h82_283 hb254 hb256 hb258 hb260 hb262 hb264 hb266 hb268 hb270 hb272 hb276 hb278 hb280 hb282 hb284 => ?_)
      refine xg_cVv mX12_puts (vs := [(0, 6), (0, u42), (0, 5), (0, n150)]) (rest := []) (cn1 := 0) (sl1 := 0) rfl (mPuts6 (hI148) (by omega) (by omega) (by omega) (fun _ => by omega)) rfl h82_283 rfl rfl rfl rfl rfl rfl (fun w285 hq286 => ?_)
      obtain ⟨hI287, hF288, hx289⟩ := hq286
      obtain ⟨hp290, hp291⟩ := hx289
      refine xg_t (xg_iinc (u := 0) (z := 1) (l1 := [(0, (2, 82)), (1, (0, 6)), (2, (0, at_)), (3, (0, u42))]) rfl rfl (by decide) rfl) ?_
      refine xg_t (xg_goto) ?_
      refine xg_t (xg_blq rfl) ?_
      refine xg_t (xg_iload (va := (0, 1)) rfl rfl) ?_
      refine xg_t (xg_const) ?_
      refine xg_t (xg_icF (u := 1) (v := 2) rfl xnm0 xnm0 (by decide)) ?_
      refine xg_t (xg_aload (va := (2, 82)) rfl rfl) ?_
      refine xg_t (xg_iload (va := (0, 6)) rfl rfl) ?_
      refine xg_t (xg_iload (va := (0, u42)) rfl rfl) ?_
      refine xg_t (xg_const) ?_
      refine xg_t (xg_iload (va := (0, 1)) rfl rfl) ?_
      refine xg_t (xg_iadd (u := 5) (v := 1) (z := 6) xnm0 xnm0 (by decide)) ?_
      refine xg_t (xg_aload (va := (2, 82)) rfl rfl) ?_
      refine xg_t (xg_const) ?_
      refine xg_t (xg_bip) ?_
      have hk292 := ((fld_eq (j := 14) (hF288.1 82 (by decide))).trans k14_155)
      refine xg_cVi mX12_numbered (vs := [(0, 1), (0, 6)]) (rest := [(0, 6), (0, u42), (0, 6), (2, 82)]) (cn1 := 0) (sl1 := 0) rfl (mNumX (ir := 0) (hI287) (by omega) (by omega) (hB.fr (fun j h4 h9 => (((hj56.tr (K83.fr hF103 (by decide))).tr k8_153).tr (K83.fr hF288 (by decide))) j (by omega) (by omega) (by omega))) ((fld_eq (j := 10) (hF288.1 82 (by decide))).trans k10_160) (hT_161.fr (hF288.1 82 (by decide))) (hF_251.k83 (rwv_eq (hF288.1 83 (by decide))) (rwv_eq (hF288.1 83 (by decide))))) rfl (hF288.get (by decide) h82_283) rfl rfl rfl rfl rfl rfl (fun n297 w293 hq294 => ?_)
      obtain ⟨hn298, hI295, hF296⟩ := hq294
      obtain ⟨hx301, h14_299, k8_300⟩ := hn298
      have k14_302 := h14_299.trans hk292
      rcases hx301 with ⟨rfl, hk303, hW304⟩ | ⟨hv305, h9_306, hk303, k10_307, hT_308, hF_309⟩
      · have lf310 : lnR B nn p0 = (false, p_244) := ln246.trans (lnN_n (k := 0) hk303)
        refine xoCh82 (xqc82 hI295 : cp82 (wget w293 82)) (fun f82_311 f82_313 f82_315 f82_317 f82_319 f82_321 f82_323 f82_325 f82_327 f82_329 f82_331 f82_332 f82_333 f82_335 f82_337 f82_339 h82_341 hb312 hb314 hb316 hb318 hb320 hb322 hb324 hb326 hb328 hb330 hb334 hb336 hb338 hb340 hb342 => ?_)
        refine xg_cVv mX12_puts (vs := [(0, 6), (0, u42), (0, 6), (0, 0)]) (rest := []) (cn1 := 0) (sl1 := 0) rfl (mPuts6 (hI295) (by omega) (by omega) (by omega) (fun _ => by omega)) rfl h82_341 rfl rfl rfl rfl rfl rfl (fun w343 hq344 => ?_)
        obtain ⟨hI345, hF346, hx347⟩ := hq344
        obtain ⟨hp348, hp349⟩ := hx347
        refine xg_t (xg_iinc (u := 1) (z := 2) (l1 := [(0, (2, 82)), (1, (0, 6)), (2, (0, at_)), (3, (0, u42))]) rfl rfl (by decide) rfl) ?_
        refine xg_t (xg_goto) ?_
        refine xg_t (xg_blq rfl) ?_
        refine xg_t (xg_iload (va := (0, 2)) rfl rfl) ?_
        refine xg_t (xg_const) ?_
        refine xg_t (xg_icT (u := 2) (v := 2) rfl xnm0 xnm0 (by decide)) ?_
        refine xg_t (xg_blq rfl) ?_
        refine xg_t (xg_aload (va := (2, 82)) rfl rfl) ?_
        refine xg_t (xg_getf (va := (0, f82_327)) (hF346.get (by decide) h82_341) rfl) ?_
        have hf350 : fld w343 82 10 = f82_327 := fld_of (hF346.get (by decide) h82_341)
        have hk351 : fld w343 82 10 ≠ 0 := (by have q := hW304.1; have q2 := fld_eq (j := 10) (hF346.1 82 (by decide)); omega)
        refine xg_t (xg_ifT (u := f82_327) rfl xnm0 (xj_neT (by omega))) ?_
        refine xg_t (xg_blq rfl) ?_
        refine xg_t (xg_aload (va := (2, 82)) rfl rfl) ?_
        refine xg_cVv mX12_ends (vs := []) (rest := []) (cn1 := 0) (sl1 := 0) rfl (mEndsW (hI345) (by have q := hW304.1; have q2 := fld_eq (j := 10) (hF346.1 82 (by decide)); omega)) rfl (hF346.get (by decide) h82_341) rfl rfl rfl rfl rfl rfl (fun w352 hq353 => ?_)
        obtain ⟨hI354, hF355⟩ := hq353
        refine xg_t (xg_blq rfl) ?_
        have hf356 : fld w352 82 10 = f82_327 := fld_of (hF355.get (by decide) (hF346.get (by decide) h82_341))
        have hf357 : fld w352 82 14 = f82_329 := fld_of (hF355.get (by decide) (hF346.get (by decide) h82_341))
        have hk358 := ((fld_eq (j := 14) ((hF355.1 82 (by decide)).trans (hF346.1 82 (by decide)))).trans k14_302)
        have hl359 : f82_329 ≤ 500 := by omega
        have hk360 : WRG w352 (tq B nn p_244) := ⟨(fld_eq (j := 10) ((hF355.1 82 (by decide)).trans (hF346.1 82 (by decide)))).trans hW304.1, (rwv_eq (j := 16) ((hF355.1 83 (by decide)).trans (hF346.1 83 (by decide)))).trans hW304.2.1, (rwv_eq (j := 17) ((hF355.1 83 (by decide)).trans (hF346.1 83 (by decide)))).trans hW304.2.2⟩
        refine xg_t (xg_aload (va := (2, 82)) rfl rfl) ?_
        refine xg_t (xg_getf (va := (2, 85)) (hF355.get (by decide) (hF346.get (by decide) h82_341)) rfl) ?_
        refine xg_t (xg_iload (va := (0, 6)) rfl rfl) ?_
        refine xg_t (xg_dup2 rfl) ?_
        refine xoI (xqc85 hI354 : cpI 7 52 4294967295 (wget w352 85)) (fun g85_361 h85_362 hb363 => ?_)
        refine xg_ialdB (n := 6) (B := 4294967295) h85_362 (hb363) xnm0 (by first | decide | omega) (fun u364 hu365 he366 => ?_)
        have hK367 : u364 = u42 := (((rwv_of h85_362 (by decide)).trans he366).symm.trans (rwv_eq ((hF355.1 85 (by decide)).trans ((hF346.1 85 (by decide)).trans ((hF296.1 85 (by decide)).trans ((hF288.1 85 (by decide)).trans ((hF149.1 85 (by decide)).trans ((hF103.1 85 (by decide)).trans hj57)))))))).trans ((hm 6 (by decide)).trans hK45.symm)
        have hl368 : u364 ≤ 500 := by omega
        refine xg_t (xg_const) ?_
        refine xg_t (xg_iadd (u := u364) (v := 1) (z := u364 + 1) xnm0 xnm0 (by omega)) ?_
        refine xg_iastK (n := 6) (u := u364 + 1) h85_362 xnm0 xnm0 rfl (by first | decide | omega) (fun w369 hr370 hb371 => ?_)
        refine xg_t (xg_aload (va := (2, 82)) rfl rfl) ?_
        refine xg_t (xg_dup rfl) ?_
        refine xg_t (xg_getf (va := (0, f82_329)) (hb371.get (by decide) (hF355.get (by decide) (hF346.get (by decide) h82_341))) rfl) ?_
        have hn372 := id hb330
        unfold xHid at hn372
        refine xg_t (xg_const) ?_
        refine xg_t (xg_iadd (u := f82_329) (v := 1) (z := f82_329 + 1) xnm0 xnm0 (by omega)) ?_
        refine xg_putI (fl1 := [(2, 83), (2, 84), (0, f82_311), (0, f82_313), (0, f82_315), (0, f82_317), (0, f82_319), (0, f82_321), (0, f82_323), (0, f82_325), (0, f82_327), (2, 85), (2, 86), (2, 87), (0, f82_329 + 1), (2, 88), (2, 89), (2, 90), (2, 91), (2, 92), (2, 93), (2, 94), (4, f82_331), (4, f82_332), (0, f82_333), (2, 95), (2, 96), (2, 97), (2, 98), (2, 99), (2, 100), (2, 101), (2, 102), (0, f82_335), (2, 103), (2, 104), (2, 105), (2, 106), (2, 107), (2, 108), (2, 109), (0, f82_337), (0, f82_339), (2, 110), (2, 111), (2, 112), (2, 113)]) (hb371.get (by decide) (hF355.get (by decide) (hF346.get (by decide) h82_341))) rfl rfl rfl (fun w373 hk374 hb375 => ?_)
        have hf376 : fld w373 82 10 = f82_327 := fld_of hk374
        have hf377 : fld w373 82 14 = f82_329 + 1 := fld_of hk374
        exact xg_e ⟨w373, ⟨rfl, rfl⟩, xMnv.up (S := [85, 82]) hI354 ((xFr.of (S := [85, 82]) hb371 (by decide)).tr (xFr.of (S := [85, 82]) hb375 (by decide))) (List.forall_mem_cons.mpr ⟨xqu85 (show cpI 7 52 4294967295 (wget w373 85) from ⟨_, (hr370.but hb375 (by decide)), xrb (by omega) (hb363)⟩), List.forall_mem_cons.mpr ⟨xqu82 (show cp82 (wget w373 82) from xmC82 f82_311 f82_313 f82_315 f82_317 f82_319 f82_321 f82_323 f82_325 f82_327 (f82_329 + 1) f82_331 f82_332 f82_333 f82_335 f82_337 f82_339 hk374 hb312 hb314 hb316 hb318 hb320 hb322 hb324 hb326 hb328 (by omega) hb334 hb336 hb338 hb340 (by omega)), fun _ h => absurd h List.not_mem_nil⟩⟩), (((((((hF50.tr (hF103.up (by decide))).tr (hF149.up (by decide))).tr (hF288.up (by decide))).tr (hF296.up (by decide))).tr (hF346.up (by decide))).tr (hF355.up (by decide))).tr ((xFr.of (S := [82, 83, 85, 86, 87]) hb371 (by decide)).tr (xFr.of (S := [82, 83, 85, 86, 87]) hb375 (by decide)))), ⟨Or.inl ⟨p_244, lf310, ⟨by have z := hk360.1; omega, (rwv_eq (j := 16) ((hb375.1 83 (by decide)).trans (hb371.1 83 (by decide)))).trans hk360.2.1, (rwv_eq (j := 17) ((hb375.1 83 (by decide)).trans (hb371.1 83 (by decide)))).trans hk360.2.2⟩⟩, ((((((((hj56.tr (K83.fr hF103 (by decide))).tr k8_153).tr (K83.fr hF288 (by decide))).tr k8_300).tr (K83.fr hF346 (by decide))).tr (K83.fr hF355 (by decide))).tr (K83.but hb371 (by decide))).tr (K83.but hb375 (by decide))), by omega⟩⟩
      · obtain ⟨p_378, hp379⟩ : ∃ x, x = tf B nn p_244 := ⟨_, rfl⟩
        rw [← hp379] at hT_308
        have ln380 : lnR B nn p0 = lnN B nn 6 0 p_378 := by rw [hp379]; exact ln246.trans (lnN_y (k := 0) hk303)
        have vp381 : vlp B nn (lnP B nn k) 1 = p_244 := by show tf B nn (vlp B nn (lnP B nn k) 0) = p_244; rw [vp247]; exact hp245.symm
        have vl382 : vln B nn (lnP B nn k) 1 = tnu B nn p_244 := by
          show (if (1 : Nat) = 3 then _ else tnu B nn (vlp B nn (lnP B nn k) 1)) = _
          rw [if_neg (by decide), vp381]
        have he384 : (chk (mf3 B nn k 6 (flA B nn k)) 1 6 (tnu B nn p_244) (tq B nn p_244)) = (mf4 B nn k 6 (flA B nn k)) := by show _ = chk (mf3 B nn k 6 (flA B nn k)) 1 6 (vln B nn (lnP B nn k) 1) (tq B nn (vlp B nn (lnP B nn k) 1)); rw [vl382, vp381]
        have hF_383 := hF_309
        rw [he384] at hF_383
        have he386 : (mf4 B nn k 6 (flA B nn k)) = (mfl B nn k 6 (flA B nn k)) := rfl
        have hF_385 := hF_383
        rw [he386] at hF_385
        refine xoCh82 (xqc82 hI295 : cp82 (wget w293 82)) (fun f82_387 f82_389 f82_391 f82_393 f82_395 f82_397 f82_399 f82_401 f82_403 f82_405 f82_407 f82_408 f82_409 f82_411 f82_413 f82_415 h82_417 hb388 hb390 hb392 hb394 hb396 hb398 hb400 hb402 hb404 hb406 hb410 hb412 hb414 hb416 hb418 => ?_)
        refine xg_cVv mX12_puts (vs := [(0, 6), (0, u42), (0, 6), (0, n297)]) (rest := []) (cn1 := 0) (sl1 := 0) rfl (mPuts6 (hI295) (by omega) (by omega) (by omega) (fun _ => by omega)) rfl h82_417 rfl rfl rfl rfl rfl rfl (fun w419 hq420 => ?_)
        obtain ⟨hI421, hF422, hx423⟩ := hq420
        obtain ⟨hp424, hp425⟩ := hx423
        refine xg_t (xg_iinc (u := 1) (z := 2) (l1 := [(0, (2, 82)), (1, (0, 6)), (2, (0, at_)), (3, (0, u42))]) rfl rfl (by decide) rfl) ?_
        refine xg_t (xg_goto) ?_
        refine xg_t (xg_blq rfl) ?_
        refine xg_t (xg_iload (va := (0, 2)) rfl rfl) ?_
        refine xg_t (xg_const) ?_
        refine xg_t (xg_icT (u := 2) (v := 2) rfl xnm0 xnm0 (by decide)) ?_
        refine xg_t (xg_blq rfl) ?_
        have ln426 : lnR B nn p0 = lnS B nn p_378 := by exact ln380.trans (lnN_0 (by decide))
        refine xg_t (xg_aload (va := (2, 82)) rfl rfl) ?_
        refine xg_t (xg_getf (va := (0, f82_403)) (hF422.get (by decide) h82_417) rfl) ?_
        have hf427 : fld w419 82 10 = f82_403 := fld_of (hF422.get (by decide) h82_417)
        have hk428 : fld w419 82 10 = 0 := ((fld_eq (j := 10) (hF422.1 82 (by decide))).trans k10_307)
        refine xg_t (xg_ifF (u := f82_403) rfl xnm0 (xj_neF (by omega))) ?_
        obtain ⟨⟨ht429, ht430, ht431, ht432, ht433, ht434⟩, ht435, ht436, ht437⟩ := id (hT_308.fr (hF422.1 82 (by decide)))
        have hf438 : fld w419 82 6 = f82_395 := fld_of (hF422.get (by decide) h82_417)
        have hf439 : fld w419 82 7 = f82_397 := fld_of (hF422.get (by decide) h82_417)
        have hf440 : fld w419 82 8 = f82_399 := fld_of (hF422.get (by decide) h82_417)
        have hf441 : fld w419 82 9 = f82_401 := fld_of (hF422.get (by decide) h82_417)
        have hf442 : fld w419 82 3 = f82_389 := fld_of (hF422.get (by decide) h82_417)
        have hmk443 := mkd_of (ir := 0) (B := B) (n := nn) (p := p_378)
        refine xg_t (xg_aload (va := (2, 82)) rfl rfl) ?_
        refine xg_t (xg_getf (va := (0, f82_397)) (hF422.get (by decide) h82_417) rfl) ?_
        refine xg_t (xg_const) ?_
        by_cases hc444 : f82_397 = 2
        · refine xg_t (xg_icF (u := f82_397) (v := 2) rfl xnm0 xnm0 (xj_neF hc444)) ?_
          have sg4451 : tkd B nn p_378 = 3 := by omega
          have sg4452 : B (tq B nn p_378) = 59 := by omega
          refine xg_t (xg_aload (va := (2, 82)) rfl rfl) ?_
          clear ht429 ht430 ht431 ht432 ht433 ht434 ht435 ht436 ht437 hf438 hf439 hf440 hf441 hf442 hmk443
          obtain ⟨⟨ht446, ht447, ht448, ht449, ht450, ht451⟩, -⟩ := id (hT_308.fr (hF422.1 82 (by decide)))
          have hk452 := ((fld_eq (j := 10) (hF422.1 82 (by decide))).trans k10_307)
          have hk453 := ((fld_eq (j := 14) (hF422.1 82 (by decide))).trans k14_302)
          refine xg_cVv mX12_advance (vs := []) (rest := []) (cn1 := 0) (sl1 := 0) rfl (mAdvX (hI421) (hB.fr (fun j h4 h9 => (((((hj56.tr (K83.fr hF103 (by decide))).tr k8_153).tr (K83.fr hF288 (by decide))).tr k8_300).tr (K83.fr hF422 (by decide))) j (by omega) (by omega) (by omega))) ht446 ht447 (by rw [ht448]; exact tf_le ht451)) rfl (hF422.get (by decide) h82_417) rfl rfl rfl rfl rfl rfl (fun w454 hq455 => ?_)
          obtain ⟨hI456, hF457, hx458⟩ := hq455
          obtain ⟨hz459, hz460, hz461⟩ := hx458
          rw [ht448] at hz459
          clear ht446 ht447 ht448 ht449 ht450 ht451
          obtain ⟨p_462, hp463⟩ : ∃ x, x = tf B nn p_378 := ⟨_, rfl⟩
          rw [← hp463] at hz459
          have k10_464 := hz460.trans hk452
          have k14_465 := hz461.trans hk453
          clear hz460 hz461 hk452 hk453
          have ln466 : lnR B nn p0 = (true, p_462) := by rw [hp463]; exact ln426.trans (lnS_y ⟨sg4451, sg4452⟩)
          refine xg_t (xg_goto) ?_
          refine xg_t (xg_blq rfl) ?_
          refine xoCh82 (xqc82 hI456 : cp82 (wget w454 82)) (fun f82_467 f82_469 f82_471 f82_473 f82_475 f82_477 f82_479 f82_481 f82_483 f82_485 f82_487 f82_488 f82_489 f82_491 f82_493 f82_495 h82_497 hb468 hb470 hb472 hb474 hb476 hb478 hb480 hb482 hb484 hb486 hb490 hb492 hb494 hb496 hb498 => ?_)
          have hf499 : fld w454 82 10 = f82_483 := fld_of h82_497
          have hf500 : fld w454 82 14 = f82_485 := fld_of h82_497
          have hk501 := k14_465
          have hl502 : f82_485 ≤ 500 := by omega
          have hk503 := hz459
          have hk504 := (hF_385.k83 (rwv_eq ((hF457.1 83 (by decide)).trans (hF422.1 83 (by decide)))) (rwv_eq ((hF457.1 83 (by decide)).trans (hF422.1 83 (by decide)))))
          have hk505 := k10_464
          refine xg_t (xg_aload (va := (2, 82)) rfl rfl) ?_
          refine xg_t (xg_getf (va := (2, 85)) h82_497 rfl) ?_
          refine xg_t (xg_iload (va := (0, 6)) rfl rfl) ?_
          refine xg_t (xg_dup2 rfl) ?_
          refine xoI (xqc85 hI456 : cpI 7 52 4294967295 (wget w454 85)) (fun g85_506 h85_507 hb508 => ?_)
          refine xg_ialdB (n := 6) (B := 4294967295) h85_507 (hb508) xnm0 (by first | decide | omega) (fun u509 hu510 he511 => ?_)
          have hK512 : u509 = u42 := (((rwv_of h85_507 (by decide)).trans he511).symm.trans (rwv_eq ((hF457.1 85 (by decide)).trans ((hF422.1 85 (by decide)).trans ((hF296.1 85 (by decide)).trans ((hF288.1 85 (by decide)).trans ((hF149.1 85 (by decide)).trans ((hF103.1 85 (by decide)).trans hj57)))))))).trans ((hm 6 (by decide)).trans hK45.symm)
          have hl513 : u509 ≤ 500 := by omega
          refine xg_t (xg_const) ?_
          refine xg_t (xg_iadd (u := u509) (v := 1) (z := u509 + 1) xnm0 xnm0 (by omega)) ?_
          refine xg_iastK (n := 6) (u := u509 + 1) h85_507 xnm0 xnm0 rfl (by first | decide | omega) (fun w514 hr515 hb516 => ?_)
          refine xg_t (xg_aload (va := (2, 82)) rfl rfl) ?_
          refine xg_t (xg_dup rfl) ?_
          refine xg_t (xg_getf (va := (0, f82_485)) (hb516.get (by decide) h82_497) rfl) ?_
          have hn517 := id hb486
          unfold xHid at hn517
          refine xg_t (xg_const) ?_
          refine xg_t (xg_iadd (u := f82_485) (v := 1) (z := f82_485 + 1) xnm0 xnm0 (by omega)) ?_
          refine xg_putI (fl1 := [(2, 83), (2, 84), (0, f82_467), (0, f82_469), (0, f82_471), (0, f82_473), (0, f82_475), (0, f82_477), (0, f82_479), (0, f82_481), (0, f82_483), (2, 85), (2, 86), (2, 87), (0, f82_485 + 1), (2, 88), (2, 89), (2, 90), (2, 91), (2, 92), (2, 93), (2, 94), (4, f82_487), (4, f82_488), (0, f82_489), (2, 95), (2, 96), (2, 97), (2, 98), (2, 99), (2, 100), (2, 101), (2, 102), (0, f82_491), (2, 103), (2, 104), (2, 105), (2, 106), (2, 107), (2, 108), (2, 109), (0, f82_493), (0, f82_495), (2, 110), (2, 111), (2, 112), (2, 113)]) (hb516.get (by decide) h82_497) rfl rfl rfl (fun w518 hk519 hb520 => ?_)
          have hf521 : fld w518 82 10 = f82_483 := fld_of hk519
          have hf522 : fld w518 82 14 = f82_485 + 1 := fld_of hk519
          have he523 : lnP B nn (k + 1) = p_462 := by
            show (lnR B nn (lnP B nn k)).2 = _
            rw [← hp0, ln466]
          have hT524 : TKM 0 B nn w518 p_462 := hk503.w14 ((show fld w518 82 2 = f82_467 from fld_of hk519).trans (show fld w454 82 2 = f82_467 from fld_of h82_497).symm) ((show fld w518 82 3 = f82_469 from fld_of hk519).trans (show fld w454 82 3 = f82_469 from fld_of h82_497).symm) ((show fld w518 82 4 = f82_471 from fld_of hk519).trans (show fld w454 82 4 = f82_471 from fld_of h82_497).symm) ((show fld w518 82 5 = f82_473 from fld_of hk519).trans (show fld w454 82 5 = f82_473 from fld_of h82_497).symm) ((show fld w518 82 6 = f82_475 from fld_of hk519).trans (show fld w454 82 6 = f82_475 from fld_of h82_497).symm) ((show fld w518 82 7 = f82_477 from fld_of hk519).trans (show fld w454 82 7 = f82_477 from fld_of h82_497).symm) ((show fld w518 82 8 = f82_479 from fld_of hk519).trans (show fld w454 82 8 = f82_479 from fld_of h82_497).symm) ((show fld w518 82 9 = f82_481 from fld_of hk519).trans (show fld w454 82 9 = f82_481 from fld_of h82_497).symm)
          have hF525 : FP w518 (mfl B nn k 6 (flA B nn k)) := hk504.k83 (rwv_eq ((hb520.1 83 (by decide)).trans (hb516.1 83 (by decide)))) (rwv_eq ((hb520.1 83 (by decide)).trans (hb516.1 83 (by decide))))
          have hg527 := (tf_gt (B := B) (n := nn) (p := p_108) (by omega)).2
          have hg528 := tq_ge (B := B) (n := nn) (p := p_108)
          have hg529 := (tf_gt (B := B) (n := nn) (p := p_244) (by omega)).2
          have hg530 := tq_ge (B := B) (n := nn) (p := p_244)
          have hg531 := (tf_gt (B := B) (n := nn) (p := p0) (by rw [slt_kd (by rw [hp0, hs]; decide)]; decide)).2
          have hg532 := (tf_gt (B := B) (n := nn) (p := p_378) (by omega)).2
          have hg533 := tq_ge (B := B) (n := nn) (p := p_378)
          have hg534 := tq_ge (B := B) (n := nn) (p := p_462)
          have hp1x := hp109
          have hO526 : ORD B nn k 6 (tq B nn (lnP B nn (k + 1))) := by
            unfold ORD
            rw [he523, vp247, vp381, ← hp0]
            exact ⟨by omega, by omega, fun z => absurd z (by decide), by omega, fun z => absurd z (by decide)⟩
          have hM535 : rwv w518 85 6 = lnC B nn 6 k + 1 := (rwv_of (hr515.but hb520 (by decide)) (by decide)).trans ((if_pos rfl).trans (by omega))
          have hM536 : ∀ s, s < 7 → s ≠ 6 → rwv w518 85 s = rwv w 85 s := fun s hs hn => (rwv_of (hr515.but hb520 (by decide)) hs).trans ((if_neg hn).trans ((rwv_of h85_507 hs).symm.trans (rwv_eq ((hF457.1 85 (by decide)).trans ((hF422.1 85 (by decide)).trans ((hF296.1 85 (by decide)).trans ((hF288.1 85 (by decide)).trans ((hF149.1 85 (by decide)).trans ((hF103.1 85 (by decide)).trans hj57)))))))))
          have hr537 : lnC B nn 6 k < 1 → ∀ t, t < 2 → XM w518 6 (lnC B nn 6 k) t = vln B nn (lnP B nn k) t := fun hlt t ht => by
            rcases (show t = 0 ∨ t = 1 by omega) with rfl | rfl
            · show rwv w518 86 (5 + 0) = _
              rw [show 5 + 0 = 5 by omega]
              exact ((rwv_eq (hb520.1 86 (by decide))).trans ((rwv_eq (hb516.1 86 (by decide))).trans ((rwv_eq (hF457.1 86 (by decide))).trans ((hp425 5 (by omega) (by omega)).trans (rwv_eq (hF296.1 86 (by decide))))))).trans ((hp290 (by omega)).trans (hv158.trans vl248.symm))
            · show rwv w518 86 (5 + 1) = _
              rw [show 5 + 1 = 6 by omega]
              exact ((rwv_eq (hb520.1 86 (by decide))).trans ((rwv_eq (hb516.1 86 (by decide))).trans (rwv_eq (hF457.1 86 (by decide))))).trans ((hp424 (by omega)).trans (hv305.trans vl382.symm))
          have ho538 : ∀ j, (j < 5 ∨ 7 ≤ j) → j < 140 → rwv w518 86 j = rwv w 86 j := fun j hj hl => ((rwv_eq (hb520.1 86 (by decide))).trans ((rwv_eq (hb516.1 86 (by decide))).trans ((rwv_eq (hF457.1 86 (by decide))).trans ((hp425 j (by omega) hl).trans ((rwv_eq (hF296.1 86 (by decide))).trans ((hp291 j (by omega) hl).trans ((rwv_eq (hF149.1 86 (by decide))).trans ((rwv_eq (hF103.1 86 (by decide))).trans (rwv_eq hj58)))))))))
          have ha539 : ∀ j, j < 20 → rwv w518 87 j = rwv w 87 j := fun j _ => rwv_eq ((hb520.1 87 (by decide)).trans ((hb516.1 87 (by decide)).trans ((hF457.1 87 (by decide)).trans ((hF422.1 87 (by decide)).trans ((hF296.1 87 (by decide)).trans ((hF288.1 87 (by decide)).trans ((hF149.1 87 (by decide)).trans ((hF103.1 87 (by decide)).trans hj59))))))))
          have hM540 := MSTok6 hS hs (by have z := hk505; omega) (by omega) hF525 hO526 hM535 hM536 hr537 ho538 ha539
          exact xg_e ⟨w518, ⟨rfl, rfl⟩, xMnv.up (S := [85, 82]) hI456 ((xFr.of (S := [85, 82]) hb516 (by decide)).tr (xFr.of (S := [85, 82]) hb520 (by decide))) (List.forall_mem_cons.mpr ⟨xqu85 (show cpI 7 52 4294967295 (wget w518 85) from ⟨_, (hr515.but hb520 (by decide)), xrb (by omega) (hb508)⟩), List.forall_mem_cons.mpr ⟨xqu82 (show cp82 (wget w518 82) from xmC82 f82_467 f82_469 f82_471 f82_473 f82_475 f82_477 f82_479 f82_481 f82_483 (f82_485 + 1) f82_487 f82_488 f82_489 f82_491 f82_493 f82_495 hk519 hb468 hb470 hb472 hb474 hb476 hb478 hb480 hb482 hb484 (by omega) hb490 hb492 hb494 hb496 (by omega)), fun _ h => absurd h List.not_mem_nil⟩⟩), (((((((hF50.tr (hF103.up (by decide))).tr (hF149.up (by decide))).tr (hF288.up (by decide))).tr (hF296.up (by decide))).tr (hF422.up (by decide))).tr (hF457.up (by decide))).tr ((xFr.of (S := [82, 83, 85, 86, 87]) hb516 (by decide)).tr (xFr.of (S := [82, 83, 85, 86, 87]) hb520 (by decide)))), ⟨Or.inr ⟨by rw [ln466], by rw [he523]; exact hT524, hM540⟩, ((((((((hj56.tr (K83.fr hF103 (by decide))).tr k8_153).tr (K83.fr hF288 (by decide))).tr k8_300).tr (K83.fr hF422 (by decide))).tr (K83.fr hF457 (by decide))).tr (K83.but hb516 (by decide))).tr (K83.but hb520 (by decide))), by omega⟩⟩
        · refine xg_t (xg_icT (u := f82_397) (v := 2) rfl xnm0 xnm0 (xj_neT hc444)) ?_
          refine xg_t (xg_blq rfl) ?_
          have lf541n : ¬ (tkd B nn p_378 = 3 ∧ B (tq B nn p_378) = 59) := by omega
          have lf541 : lnR B nn p0 = (false, p_378) := ln426.trans (lnS_n lf541n)
          refine xg_t (xg_aload (va := (2, 82)) rfl rfl) ?_
          have hk542 := ((fld_eq (j := 14) (hF422.1 82 (by decide))).trans k14_302)
          have hk543 := (hT_308.fr (hF422.1 82 (by decide))).1.2.2.2.1
          clear ht429 ht430 ht431 ht432 ht433 ht434 ht435 ht436 ht437 hf438 hf439 hf440 hf441 hf442 hmk443
          refine xg_cVv mX12_ends (vs := []) (rest := []) (cn1 := 0) (sl1 := 0) rfl (mEndsX (hI421) ((fld_eq (j := 10) (hF422.1 82 (by decide))).trans k10_307)) rfl (hF422.get (by decide) h82_417) rfl rfl rfl rfl rfl rfl (fun w544 hq545 => ?_)
          obtain ⟨hI546, hF547, hx548⟩ := hq545
          obtain ⟨hv549, hv550, hv551, hv552, hv553⟩ := hx548
          have hW554 : WRG w544 (tq B nn p_378) := ⟨hv549, hv550, hv551.trans hk543⟩
          have k14_555 := hv552.trans hk542
          refine xg_t (xg_blq rfl) ?_
          refine xoCh82 (xqc82 hI546 : cp82 (wget w544 82)) (fun f82_556 f82_558 f82_560 f82_562 f82_564 f82_566 f82_568 f82_570 f82_572 f82_574 f82_576 f82_577 f82_578 f82_580 f82_582 f82_584 h82_586 hb557 hb559 hb561 hb563 hb565 hb567 hb569 hb571 hb573 hb575 hb579 hb581 hb583 hb585 hb587 => ?_)
          have hf588 : fld w544 82 10 = f82_572 := fld_of h82_586
          have hf589 : fld w544 82 14 = f82_574 := fld_of h82_586
          have hk590 := k14_555
          have hl591 : f82_574 ≤ 500 := by omega
          have hk592 : WRG w544 (tq B nn p_378) := hW554
          refine xg_t (xg_aload (va := (2, 82)) rfl rfl) ?_
          refine xg_t (xg_getf (va := (2, 85)) h82_586 rfl) ?_
          refine xg_t (xg_iload (va := (0, 6)) rfl rfl) ?_
          refine xg_t (xg_dup2 rfl) ?_
          refine xoI (xqc85 hI546 : cpI 7 52 4294967295 (wget w544 85)) (fun g85_593 h85_594 hb595 => ?_)
          refine xg_ialdB (n := 6) (B := 4294967295) h85_594 (hb595) xnm0 (by first | decide | omega) (fun u596 hu597 he598 => ?_)
          have hK599 : u596 = u42 := (((rwv_of h85_594 (by decide)).trans he598).symm.trans (rwv_eq ((hF547.1 85 (by decide)).trans ((hF422.1 85 (by decide)).trans ((hF296.1 85 (by decide)).trans ((hF288.1 85 (by decide)).trans ((hF149.1 85 (by decide)).trans ((hF103.1 85 (by decide)).trans hj57)))))))).trans ((hm 6 (by decide)).trans hK45.symm)
          have hl600 : u596 ≤ 500 := by omega
          refine xg_t (xg_const) ?_
          refine xg_t (xg_iadd (u := u596) (v := 1) (z := u596 + 1) xnm0 xnm0 (by omega)) ?_
          refine xg_iastK (n := 6) (u := u596 + 1) h85_594 xnm0 xnm0 rfl (by first | decide | omega) (fun w601 hr602 hb603 => ?_)
          refine xg_t (xg_aload (va := (2, 82)) rfl rfl) ?_
          refine xg_t (xg_dup rfl) ?_
          refine xg_t (xg_getf (va := (0, f82_574)) (hb603.get (by decide) h82_586) rfl) ?_
          have hn604 := id hb575
          unfold xHid at hn604
          refine xg_t (xg_const) ?_
          refine xg_t (xg_iadd (u := f82_574) (v := 1) (z := f82_574 + 1) xnm0 xnm0 (by omega)) ?_
          refine xg_putI (fl1 := [(2, 83), (2, 84), (0, f82_556), (0, f82_558), (0, f82_560), (0, f82_562), (0, f82_564), (0, f82_566), (0, f82_568), (0, f82_570), (0, f82_572), (2, 85), (2, 86), (2, 87), (0, f82_574 + 1), (2, 88), (2, 89), (2, 90), (2, 91), (2, 92), (2, 93), (2, 94), (4, f82_576), (4, f82_577), (0, f82_578), (2, 95), (2, 96), (2, 97), (2, 98), (2, 99), (2, 100), (2, 101), (2, 102), (0, f82_580), (2, 103), (2, 104), (2, 105), (2, 106), (2, 107), (2, 108), (2, 109), (0, f82_582), (0, f82_584), (2, 110), (2, 111), (2, 112), (2, 113)]) (hb603.get (by decide) h82_586) rfl rfl rfl (fun w605 hk606 hb607 => ?_)
          have hf608 : fld w605 82 10 = f82_572 := fld_of hk606
          have hf609 : fld w605 82 14 = f82_574 + 1 := fld_of hk606
          exact xg_e ⟨w605, ⟨rfl, rfl⟩, xMnv.up (S := [85, 82]) hI546 ((xFr.of (S := [85, 82]) hb603 (by decide)).tr (xFr.of (S := [85, 82]) hb607 (by decide))) (List.forall_mem_cons.mpr ⟨xqu85 (show cpI 7 52 4294967295 (wget w605 85) from ⟨_, (hr602.but hb607 (by decide)), xrb (by omega) (hb595)⟩), List.forall_mem_cons.mpr ⟨xqu82 (show cp82 (wget w605 82) from xmC82 f82_556 f82_558 f82_560 f82_562 f82_564 f82_566 f82_568 f82_570 f82_572 (f82_574 + 1) f82_576 f82_577 f82_578 f82_580 f82_582 f82_584 hk606 hb557 hb559 hb561 hb563 hb565 hb567 hb569 hb571 hb573 (by omega) hb579 hb581 hb583 hb585 (by omega)), fun _ h => absurd h List.not_mem_nil⟩⟩), (((((((hF50.tr (hF103.up (by decide))).tr (hF149.up (by decide))).tr (hF288.up (by decide))).tr (hF296.up (by decide))).tr (hF422.up (by decide))).tr (hF547.up (by decide))).tr ((xFr.of (S := [82, 83, 85, 86, 87]) hb603 (by decide)).tr (xFr.of (S := [82, 83, 85, 86, 87]) hb607 (by decide)))), ⟨Or.inl ⟨p_378, lf541, ⟨by have z := hk592.1; omega, (rwv_eq (j := 16) ((hb607.1 83 (by decide)).trans (hb603.1 83 (by decide)))).trans hk592.2.1, (rwv_eq (j := 17) ((hb607.1 83 (by decide)).trans (hb603.1 83 (by decide)))).trans hk592.2.2⟩⟩, ((((((((hj56.tr (K83.fr hF103 (by decide))).tr k8_153).tr (K83.fr hF288 (by decide))).tr k8_300).tr (K83.fr hF422 (by decide))).tr hv553).tr (K83.but hb603 (by decide))).tr (K83.but hb607 (by decide))), by omega⟩⟩
  refine xg_t (xg_iload (va := (0, u42)) rfl rfl) ?_
  refine xg_t (xg_iload (va := (0, 6)) rfl rfl) ?_
  refine xg_t (xg_cSr mX12_mostOf (vs := [(0, 6)]) (rest := [(0, u42)]) (rs := [(0, 1), (0, u42)]) (cn1 := 0) (sl1 := 0) rfl (mMostR6) rfl rfl rfl rfl rfl rfl rfl rfl) ?_
  by_cases hc610 : u42 < 1
  · refine xg_t (xg_icT (u := u42) (v := 1) rfl xnm0 xnm0 (xj_ltT hc610 (by omega))) ?_
    refine xg_t (xg_drop (l1 := [(0, (2, 82)), (1, (0, 6)), (2, (0, at_)), (3, (0, u42))]) (List.forall_mem_cons.mpr ⟨List.mem_cons_of_mem _ (List.mem_cons_of_mem _ (List.mem_cons_of_mem _ (List.mem_cons_self))), List.forall_mem_cons.mpr ⟨List.mem_cons_of_mem _ (List.mem_cons_of_mem _ (List.mem_cons_self)), List.forall_mem_cons.mpr ⟨List.mem_cons_of_mem _ (List.mem_cons_self), List.forall_mem_cons.mpr ⟨List.mem_cons_self, fun _ h => absurd h List.not_mem_nil⟩⟩⟩⟩)) ?_
    have he611 : flA B nn k = mf1 B nn k 6 (flA B nn k) := by unfold mf1; rw [decide_eq_false (show ¬ lim 6 ≤ lnC B nn 6 k from (show ¬ 1 ≤ lnC B nn 6 k by omega))]; rfl
    exact jn47 w (hI) (xFr.rf) (⟨by rw [← he611]; exact zF, z10, hT, z14, K83.rf, rfl, rfl, rfl⟩)
  · refine xg_t (xg_icF (u := u42) (v := 1) rfl xnm0 xnm0 (xj_ltF (by omega) (by omega))) ?_
    refine xg_t (xg_aload (va := (2, 82)) rfl rfl) ?_
    refine xg_t (xg_const) ?_
    refine xg_t (xg_iload (va := (0, at_)) rfl rfl) ?_
    refine xg_cVv mX12_also (vs := [(0, 3), (0, at_)]) (rest := []) (cn1 := 0) (sl1 := 0) rfl (mAlsoX (hI) (by omega) (by omega) (by omega) z10 zF) rfl h82_31 rfl rfl rfl rfl rfl rfl (fun w612 hq613 => ?_)
    obtain ⟨hI614, hF615, hx616⟩ := hq613
    obtain ⟨hv617, hv618⟩ := hx616
    refine xg_t (xg_drop (l1 := [(0, (2, 82)), (1, (0, 6)), (2, (0, at_)), (3, (0, u42))]) (List.forall_mem_cons.mpr ⟨List.mem_cons_of_mem _ (List.mem_cons_of_mem _ (List.mem_cons_of_mem _ (List.mem_cons_self))), List.forall_mem_cons.mpr ⟨List.mem_cons_of_mem _ (List.mem_cons_of_mem _ (List.mem_cons_self)), List.forall_mem_cons.mpr ⟨List.mem_cons_of_mem _ (List.mem_cons_self), List.forall_mem_cons.mpr ⟨List.mem_cons_self, fun _ h => absurd h List.not_mem_nil⟩⟩⟩⟩)) ?_
    have he619 : alo (flA B nn k) 3 at_ = mf1 B nn k 6 (flA B nn k) := by unfold mf1; rw [decide_eq_true (show lim 6 ≤ lnC B nn 6 k from (show 1 ≤ lnC B nn 6 k by omega)), hat, hp0]; rfl
    exact jn47 w612 (hI614) ((hF615.up (by decide))) (⟨by rw [← he619]; exact hv617, ((fld_eq (j := 10) (hF615.1 82 (by decide))).trans z10), (hT.fr (hF615.1 82 (by decide))), ((fld_eq (j := 14) (hF615.1 82 (by decide))).trans z14), hv618, (hF615.1 85 (by decide)), (hF615.1 86 (by decide)), (hF615.1 87 (by decide))⟩)
end XFME
end
