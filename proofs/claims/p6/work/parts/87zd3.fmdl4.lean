/-! the model: a line of each sort, more -/
section XFME
variable {d : Nat} {w : List (List xE)} {bd : List (Nat × Nat)} {fc : List (Nat × Nat × Bool)} {rr : Nat × Nat}
set_option maxHeartbeats 60000000 in
theorem mALnX2 {B : Nat → Nat} {nn k p0 : Nat} {at_ : Nat} (hI : xMnv w) (hB : bsm w B nn) (hp0 : p0 = lnP B nn k) (hT : TKM 0 B nn w p0) (hS : MST B nn w k) (hk5 : k ≤ 500) (hs : slt B nn (lnP B nn k) = 2) (hat : at_ = tq B nn p0) : xTo (d + 7) mX12_aLine (43, [], [(2, (0, at_)), (1, (0, 2)), (0, (2, 82))], [], (w, bd, fc, 0, 0, rr)) (fun φ => ∃ w', xEnd 0 [] (w', bd, fc, 0, 0, rr) φ ∧ xMnv w' ∧ xFr [82, 83, 85, 86, 87] w w' ∧ (((∃ q, lnR B nn p0 = (false, q) ∧ WRG w' (tq B nn q)) ∨ ((lnR B nn p0).1 = true ∧ TKM 0 B nn w' (lnP B nn (k + 1)) ∧ MST B nn w' (k + 1))) ∧ K83 w w' ∧ fld w 82 14 ≤ fld w' 82 14)) := by
  refine xoCh82 (xqc82 hI : cp82 (wget w 82)) (fun f82_1 f82_3 f82_5 f82_7 f82_9 f82_11 f82_13 f82_15 f82_17 f82_19 f82_21 f82_22 f82_23 f82_25 f82_27 f82_29 h82_31 hb2 hb4 hb6 hb8 hb10 hb12 hb14 hb16 hb18 hb20 hb24 hb26 hb28 hb30 hb32 => ?_)
  refine xoI (xqc85 hI : cpI 7 52 4294967295 (wget w 85)) (fun g85_33 h85_34 hb35 => ?_)
  refine xoI (xqc86 hI : cpI 140 53 4294967295 (wget w 86)) (fun g86_36 h86_37 hb38 => ?_)
  refine xoI (xqc87 hI : cpI 20 54 4294967295 (wget w 87)) (fun g87_39 h87_40 hb41 => ?_)
  obtain ⟨⟨z10, z14, zF, zp⟩, hm, hR⟩ := id hS
  have hkc := lnC_k (B := B) (n := nn) (s := 2) (k := k)
  have hq0 : at_ ≤ 500 := by
    have z1 := tf_gt (B := B) (n := nn) (p := p0) (by rw [slt_kd (by rw [hp0, hs]; decide)]; decide)
    have z2 := hB.1
    omega
  refine xg_t (xg_blq rfl) ?_
  refine xg_t (xg_aload (va := (2, 82)) rfl rfl) ?_
  refine xg_t (xg_getf (va := (2, 85)) h82_31 rfl) ?_
  refine xg_t (xg_iload (va := (0, 2)) rfl rfl) ?_
  refine xg_ialdB (n := 2) (B := 4294967295) h85_34 (hb35) xnm0 (by first | decide | omega) (fun u42 hu43 he44 => ?_)
  have hK45 : u42 = lnC B nn 2 k := (((rwv_of h85_34 (by decide)).trans he44).symm).trans (hm 2 (by decide))
  have hl46 : u42 ≤ 500 := by omega
  refine xg_t (xg_istore (l1 := [(2, (0, at_)), (1, (0, 2)), (0, (2, 82))]) rfl rfl rfl) ?_
  have jn47 : ∀ (w48 : List (List xE)), xMnv w48 → xFr [82, 83, 85, 86, 87] w w48 → (FP w48 (mf1 B nn k 2 (flA B nn k)) ∧ fld w48 82 10 = 0 ∧ TKM 0 B nn w48 p0 ∧ fld w48 82 14 = k ∧ K83 w w48 ∧ wget w48 85 = wget w 85 ∧ wget w48 86 = wget w 86 ∧ wget w48 87 = wget w 87) → xTo (d + 7) mX12_aLine (64, [], [(0, (2, 82)), (1, (0, 2)), (2, (0, at_)), (3, (0, u42))], [], (w48, bd, fc, 0, 0, rr)) (fun φ => ∃ w', xEnd 0 [] (w', bd, fc, 0, 0, rr) φ ∧ xMnv w' ∧ xFr [82, 83, 85, 86, 87] w w' ∧ (((∃ q, lnR B nn p0 = (false, q) ∧ WRG w' (tq B nn q)) ∨ ((lnR B nn p0).1 = true ∧ TKM 0 B nn w' (lnP B nn (k + 1)) ∧ MST B nn w' (k + 1))) ∧ K83 w w' ∧ fld w 82 14 ≤ fld w' 82 14)) := by
    intro w48 hI49 hF50 he51
    obtain ⟨hj52, hj53, hj54, hj55, hj56, hj57, hj58, hj59⟩ := he51
    refine xg_t (xg_blq rfl) ?_
    refine xg_t (xg_aload (va := (2, 82)) rfl rfl) ?_
    obtain ⟨⟨ht60, ht61, ht62, ht63, ht64, ht65⟩, -⟩ := id hj54
    have hk66 := hj53
    have hk67 := hj55
    refine xoCh82 (xqc82 hI49 : cp82 (wget w48 82)) (fun f82_68 f82_70 f82_72 f82_74 f82_76 f82_78 f82_80 f82_82 f82_84 f82_86 f82_88 f82_89 f82_90 f82_92 f82_94 f82_96 h82_98 hb69 hb71 hb73 hb75 hb77 hb79 hb81 hb83 hb85 hb87 hb91 hb93 hb95 hb97 hb99 => ?_)
    refine xg_cVv mX12_advance (vs := []) (rest := []) (cn1 := 0) (sl1 := 0) rfl (mAdvX (hI49) (hB.fr (fun j h4 h9 => hj56 j (by omega) (by omega) (by omega))) ht60 ht61 (by rw [ht62]; exact tf_le ht65)) rfl h82_98 rfl rfl rfl rfl rfl rfl (fun w100 hq101 => ?_)
    obtain ⟨hI102, hF103, hx104⟩ := hq101
    obtain ⟨hz105, hz106, hz107⟩ := hx104
    rw [ht62] at hz105
    clear ht60 ht61 ht62 ht63 ht64 ht65
    obtain ⟨p_108, hp109⟩ : ∃ x, x = tf B nn p0 := ⟨_, rfl⟩
    rw [← hp109] at hz105
    have k10_110 := hz106.trans hk66
    have k14_111 := hz107.trans hk67
    clear hz106 hz107 hk66 hk67
    have ln112 : lnR B nn p0 = lnN B nn 2 2 p_108 := by rw [hp109]; exact lnR_go (by rw [hp0]; exact hs) (by decide)
    refine xg_t (xg_iload (va := (0, 2)) rfl rfl) ?_
    refine xg_t (xg_swt (ks := [(0, 108), (1, 116), (2, 180), (3, 221), (4, 273), (5, 326)]) (u := 2) (z := 180) rfl rfl rfl xnm0 (xsw_n (by omega) (xsw_n (by omega) (xsw_y rfl)))) ?_
    refine xg_t (xg_blq rfl) ?_
    refine xg_t (xg_const) ?_
    refine xg_t (xg_istore (l1 := [(0, (2, 82)), (1, (0, 2)), (2, (0, at_)), (3, (0, u42))]) rfl rfl rfl) ?_
    refine xg_t (xg_blq rfl) ?_
    refine xg_t (xg_iload (va := (0, 0)) rfl rfl) ?_
    refine xg_t (xg_const) ?_
    refine xg_t (xg_icF (u := 0) (v := 2) rfl xnm0 xnm0 (by decide)) ?_
    refine xg_t (xg_aload (va := (2, 82)) rfl rfl) ?_
    refine xg_t (xg_iload (va := (0, 2)) rfl rfl) ?_
    refine xg_t (xg_iload (va := (0, u42)) rfl rfl) ?_
    refine xg_t (xg_bip) ?_
    refine xg_t (xg_const) ?_
    refine xg_t (xg_iload (va := (0, u42)) rfl rfl) ?_
    refine xg_t (xg_imul (u := 2) (v := u42) (z := 2 * u42) xnm0 xnm0 (by omega)) ?_
    refine xg_t (xg_iadd (u := 60) (v := 2 * u42) (z := 60 + (2 * u42)) xnm0 xnm0 (by omega)) ?_
    refine xg_t (xg_iload (va := (0, 0)) rfl rfl) ?_
    refine xg_t (xg_iadd (u := 60 + (2 * u42)) (v := 0) (z := (60 + (2 * u42)) + 0) xnm0 xnm0 (by omega)) ?_
    refine xg_t (xg_aload (va := (2, 82)) rfl rfl) ?_
    refine xg_t (xg_const) ?_
    refine xg_t (xg_sip) ?_
    have hk113 := k14_111
    refine xoCh82 (xqc82 hI102 : cp82 (wget w100 82)) (fun f82_114 f82_116 f82_118 f82_120 f82_122 f82_124 f82_126 f82_128 f82_130 f82_132 f82_134 f82_135 f82_136 f82_138 f82_140 f82_142 h82_144 hb115 hb117 hb119 hb121 hb123 hb125 hb127 hb129 hb131 hb133 hb137 hb139 hb141 hb143 hb145 => ?_)
    refine xg_cVi mX12_numbered (vs := [(0, 1), (0, 9999)]) (rest := [(0, (60 + (2 * u42)) + 0), (0, u42), (0, 2), (2, 82)]) (cn1 := 0) (sl1 := 0) rfl (mNumX (ir := 0) (hI102) (by omega) (by omega) (hB.fr (fun j h4 h9 => (hj56.tr (K83.fr hF103 (by decide))) j (by omega) (by omega) (by omega))) k10_110 hz105 (hj52.k83 (rwv_eq (hF103.1 83 (by decide))) (rwv_eq (hF103.1 83 (by decide))))) rfl h82_144 rfl rfl rfl rfl rfl rfl (fun n150 w146 hq147 => ?_)
    obtain ⟨hn151, hI148, hF149⟩ := hq147
    obtain ⟨hx154, h14_152, k8_153⟩ := hn151
    have k14_155 := h14_152.trans hk113
    rcases hx154 with ⟨rfl, hk156, hW157⟩ | ⟨hv158, h9_159, hk156, k10_160, hT_161, hF_162⟩
    · have lf163 : lnR B nn p0 = (false, p_108) := ln112.trans (lnN_n (k := 1) hk156)
      refine xoCh82 (xqc82 hI148 : cp82 (wget w146 82)) (fun f82_164 f82_166 f82_168 f82_170 f82_172 f82_174 f82_176 f82_178 f82_180 f82_182 f82_184 f82_185 f82_186 f82_188 f82_190 f82_192 h82_194 hb165 hb167 hb169 hb171 hb173 hb175 hb177 hb179 hb181 hb183 hb187 hb189 hb191 hb193 hb195 => ?_)
      refine xg_cVv mX12_puts (vs := [(0, 2), (0, u42), (0, (60 + (2 * u42)) + 0), (0, 0)]) (rest := []) (cn1 := 0) (sl1 := 0) rfl (mPuts2 (hI148) (by omega) (by omega) (by omega) (fun _ => by omega)) rfl h82_194 rfl rfl rfl rfl rfl rfl (fun w196 hq197 => ?_)
      obtain ⟨hI198, hF199, hx200⟩ := hq197
      obtain ⟨hp201, hp202⟩ := hx200
      refine xg_t (xg_iinc (u := 0) (z := 1) (l1 := [(0, (2, 82)), (1, (0, 2)), (2, (0, at_)), (3, (0, u42))]) rfl rfl (by decide) rfl) ?_
      refine xg_t (xg_goto) ?_
      refine xg_t (xg_blq rfl) ?_
      refine xg_t (xg_iload (va := (0, 1)) rfl rfl) ?_
      refine xg_t (xg_const) ?_
      refine xg_t (xg_icF (u := 1) (v := 2) rfl xnm0 xnm0 (by decide)) ?_
      refine xg_t (xg_aload (va := (2, 82)) rfl rfl) ?_
      refine xg_t (xg_iload (va := (0, 2)) rfl rfl) ?_
      refine xg_t (xg_iload (va := (0, u42)) rfl rfl) ?_
      refine xg_t (xg_bip) ?_
      refine xg_t (xg_const) ?_
      refine xg_t (xg_iload (va := (0, u42)) rfl rfl) ?_
      refine xg_t (xg_imul (u := 2) (v := u42) (z := 2 * u42) xnm0 xnm0 (by omega)) ?_
      refine xg_t (xg_iadd (u := 60) (v := 2 * u42) (z := 60 + (2 * u42)) xnm0 xnm0 (by omega)) ?_
      refine xg_t (xg_iload (va := (0, 1)) rfl rfl) ?_
      refine xg_t (xg_iadd (u := 60 + (2 * u42)) (v := 1) (z := (60 + (2 * u42)) + 1) xnm0 xnm0 (by omega)) ?_
      refine xg_t (xg_aload (va := (2, 82)) rfl rfl) ?_
      refine xg_t (xg_const) ?_
      refine xg_t (xg_sip) ?_
      refine xg_cVi mX12_numbered (vs := [(0, 1), (0, 9999)]) (rest := [(0, (60 + (2 * u42)) + 1), (0, u42), (0, 2), (2, 82)]) (cn1 := 0) (sl1 := 0) rfl (mNumW (hI198) (by omega) (by omega) (by have q := hW157.1; have q2 := fld_eq (j := 10) (hF199.1 82 (by decide)); omega)) rfl (hF199.get (by decide) h82_194) rfl rfl rfl rfl rfl rfl (fun n207 w203 hq204 => ?_)
      obtain ⟨hn208, hI205, hF206⟩ := hq204
      obtain rfl := hn208
      refine xg_cVv mX12_puts (vs := [(0, 2), (0, u42), (0, (60 + (2 * u42)) + 1), (0, 0)]) (rest := []) (cn1 := 0) (sl1 := 0) rfl (mPuts2 (hI205) (by omega) (by omega) (by omega) (fun _ => by omega)) rfl (hF206.get (by decide) (hF199.get (by decide) h82_194)) rfl rfl rfl rfl rfl rfl (fun w209 hq210 => ?_)
      obtain ⟨hI211, hF212, hx213⟩ := hq210
      obtain ⟨hp214, hp215⟩ := hx213
      refine xg_t (xg_iinc (u := 1) (z := 2) (l1 := [(0, (2, 82)), (1, (0, 2)), (2, (0, at_)), (3, (0, u42))]) rfl rfl (by decide) rfl) ?_
      refine xg_t (xg_goto) ?_
      refine xg_t (xg_blq rfl) ?_
      refine xg_t (xg_iload (va := (0, 2)) rfl rfl) ?_
      refine xg_t (xg_const) ?_
      refine xg_t (xg_icT (u := 2) (v := 2) rfl xnm0 xnm0 (by decide)) ?_
      refine xg_t (xg_blq rfl) ?_
      refine xg_t (xg_goto) ?_
      refine xg_t (xg_blq rfl) ?_
      refine xg_t (xg_aload (va := (2, 82)) rfl rfl) ?_
      refine xg_t (xg_getf (va := (0, f82_180)) (hF212.get (by decide) (hF206.get (by decide) (hF199.get (by decide) h82_194))) rfl) ?_
      have hf216 : fld w209 82 10 = f82_180 := fld_of (hF212.get (by decide) (hF206.get (by decide) (hF199.get (by decide) h82_194)))
      have hk217 : fld w209 82 10 ≠ 0 := (by have q := hW157.1; have q2 := fld_eq (j := 10) ((hF212.1 82 (by decide)).trans ((hF206.1 82 (by decide)).trans (hF199.1 82 (by decide)))); omega)
      refine xg_t (xg_ifT (u := f82_180) rfl xnm0 (xj_neT (by omega))) ?_
      refine xg_t (xg_blq rfl) ?_
      refine xg_t (xg_aload (va := (2, 82)) rfl rfl) ?_
      refine xg_cVv mX12_ends (vs := []) (rest := []) (cn1 := 0) (sl1 := 0) rfl (mEndsW (hI211) (by have q := hW157.1; have q2 := fld_eq (j := 10) ((hF212.1 82 (by decide)).trans ((hF206.1 82 (by decide)).trans (hF199.1 82 (by decide)))); omega)) rfl (hF212.get (by decide) (hF206.get (by decide) (hF199.get (by decide) h82_194))) rfl rfl rfl rfl rfl rfl (fun w218 hq219 => ?_)
      obtain ⟨hI220, hF221⟩ := hq219
      refine xg_t (xg_blq rfl) ?_
      have hf222 : fld w218 82 10 = f82_180 := fld_of (hF221.get (by decide) (hF212.get (by decide) (hF206.get (by decide) (hF199.get (by decide) h82_194))))
      have hf223 : fld w218 82 14 = f82_182 := fld_of (hF221.get (by decide) (hF212.get (by decide) (hF206.get (by decide) (hF199.get (by decide) h82_194))))
      have hk224 := ((fld_eq (j := 14) ((hF221.1 82 (by decide)).trans ((hF212.1 82 (by decide)).trans ((hF206.1 82 (by decide)).trans (hF199.1 82 (by decide)))))).trans k14_155)
      have hl225 : f82_182 ≤ 500 := by omega
      have hk226 : WRG w218 (tq B nn p_108) := ⟨(fld_eq (j := 10) ((hF221.1 82 (by decide)).trans ((hF212.1 82 (by decide)).trans ((hF206.1 82 (by decide)).trans (hF199.1 82 (by decide)))))).trans hW157.1, (rwv_eq (j := 16) ((hF221.1 83 (by decide)).trans ((hF212.1 83 (by decide)).trans ((hF206.1 83 (by decide)).trans (hF199.1 83 (by decide)))))).trans hW157.2.1, (rwv_eq (j := 17) ((hF221.1 83 (by decide)).trans ((hF212.1 83 (by decide)).trans ((hF206.1 83 (by decide)).trans (hF199.1 83 (by decide)))))).trans hW157.2.2⟩
      refine xg_t (xg_aload (va := (2, 82)) rfl rfl) ?_
      refine xg_t (xg_getf (va := (2, 85)) (hF221.get (by decide) (hF212.get (by decide) (hF206.get (by decide) (hF199.get (by decide) h82_194)))) rfl) ?_
      refine xg_t (xg_iload (va := (0, 2)) rfl rfl) ?_
      refine xg_t (xg_dup2 rfl) ?_
      refine xoI (xqc85 hI220 : cpI 7 52 4294967295 (wget w218 85)) (fun g85_227 h85_228 hb229 => ?_)
      refine xg_ialdB (n := 2) (B := 4294967295) h85_228 (hb229) xnm0 (by first | decide | omega) (fun u230 hu231 he232 => ?_)
      have hK233 : u230 = u42 := (((rwv_of h85_228 (by decide)).trans he232).symm.trans (rwv_eq ((hF221.1 85 (by decide)).trans ((hF212.1 85 (by decide)).trans ((hF206.1 85 (by decide)).trans ((hF199.1 85 (by decide)).trans ((hF149.1 85 (by decide)).trans ((hF103.1 85 (by decide)).trans hj57)))))))).trans ((hm 2 (by decide)).trans hK45.symm)
      have hl234 : u230 ≤ 500 := by omega
      refine xg_t (xg_const) ?_
      refine xg_t (xg_iadd (u := u230) (v := 1) (z := u230 + 1) xnm0 xnm0 (by omega)) ?_
      refine xg_iastK (n := 2) (u := u230 + 1) h85_228 xnm0 xnm0 rfl (by first | decide | omega) (fun w235 hr236 hb237 => ?_)
      refine xg_t (xg_aload (va := (2, 82)) rfl rfl) ?_
      refine xg_t (xg_dup rfl) ?_
      refine xg_t (xg_getf (va := (0, f82_182)) (hb237.get (by decide) (hF221.get (by decide) (hF212.get (by decide) (hF206.get (by decide) (hF199.get (by decide) h82_194))))) rfl) ?_
      have hn238 := id hb183
      unfold xHid at hn238
      refine xg_t (xg_const) ?_
      refine xg_t (xg_iadd (u := f82_182) (v := 1) (z := f82_182 + 1) xnm0 xnm0 (by omega)) ?_
      refine xg_putI (fl1 := [(2, 83), (2, 84), (0, f82_164), (0, f82_166), (0, f82_168), (0, f82_170), (0, f82_172), (0, f82_174), (0, f82_176), (0, f82_178), (0, f82_180), (2, 85), (2, 86), (2, 87), (0, f82_182 + 1), (2, 88), (2, 89), (2, 90), (2, 91), (2, 92), (2, 93), (2, 94), (4, f82_184), (4, f82_185), (0, f82_186), (2, 95), (2, 96), (2, 97), (2, 98), (2, 99), (2, 100), (2, 101), (2, 102), (0, f82_188), (2, 103), (2, 104), (2, 105), (2, 106), (2, 107), (2, 108), (2, 109), (0, f82_190), (0, f82_192), (2, 110), (2, 111), (2, 112), (2, 113)]) (hb237.get (by decide) (hF221.get (by decide) (hF212.get (by decide) (hF206.get (by decide) (hF199.get (by decide) h82_194))))) rfl rfl rfl (fun w239 hk240 hb241 => ?_)
      have hf242 : fld w239 82 10 = f82_180 := fld_of hk240
      have hf243 : fld w239 82 14 = f82_182 + 1 := fld_of hk240
      exact xg_e ⟨w239, ⟨rfl, rfl⟩, xMnv.up (S := [85, 82]) hI220 ((xFr.of (S := [85, 82]) hb237 (by decide)).tr (xFr.of (S := [85, 82]) hb241 (by decide))) (List.forall_mem_cons.mpr ⟨xqu85 (show cpI 7 52 4294967295 (wget w239 85) from ⟨_, (hr236.but hb241 (by decide)), xrb (by omega) (hb229)⟩), List.forall_mem_cons.mpr ⟨xqu82 (show cp82 (wget w239 82) from xmC82 f82_164 f82_166 f82_168 f82_170 f82_172 f82_174 f82_176 f82_178 f82_180 (f82_182 + 1) f82_184 f82_185 f82_186 f82_188 f82_190 f82_192 hk240 hb165 hb167 hb169 hb171 hb173 hb175 hb177 hb179 hb181 (by omega) hb187 hb189 hb191 hb193 (by omega)), fun _ h => absurd h List.not_mem_nil⟩⟩), (((((((hF50.tr (hF103.up (by decide))).tr (hF149.up (by decide))).tr (hF199.up (by decide))).tr (hF206.up (by decide))).tr (hF212.up (by decide))).tr (hF221.up (by decide))).tr ((xFr.of (S := [82, 83, 85, 86, 87]) hb237 (by decide)).tr (xFr.of (S := [82, 83, 85, 86, 87]) hb241 (by decide)))), ⟨Or.inl ⟨p_108, lf163, ⟨by have z := hk226.1; omega, (rwv_eq (j := 16) ((hb241.1 83 (by decide)).trans (hb237.1 83 (by decide)))).trans hk226.2.1, (rwv_eq (j := 17) ((hb241.1 83 (by decide)).trans (hb237.1 83 (by decide)))).trans hk226.2.2⟩⟩, ((((((((hj56.tr (K83.fr hF103 (by decide))).tr k8_153).tr (K83.fr hF199 (by decide))).tr (K83.fr hF206 (by decide))).tr (K83.fr hF212 (by decide))).tr (K83.fr hF221 (by decide))).tr (K83.but hb237 (by decide))).tr (K83.but hb241 (by decide))), by omega⟩⟩
    · obtain ⟨p_244, hp245⟩ : ∃ x, x = tf B nn p_108 := ⟨_, rfl⟩
      rw [← hp245] at hT_161
      have ln246 : lnR B nn p0 = lnN B nn 2 1 p_244 := by rw [hp245]; exact ln112.trans (lnN_y (k := 1) hk156)
      have vp247 : vlp B nn (lnP B nn k) 0 = p_108 := by rw [← hp0]; exact hp109.symm
      have vl248 : vln B nn (lnP B nn k) 0 = tnu B nn p_108 := by
        show (if (0 : Nat) = 3 then _ else tnu B nn (vlp B nn (lnP B nn k) 0)) = _
        rw [if_neg (by decide), vp247]
      have he250 : (chk (mf1 B nn k 2 (flA B nn k)) 1 9999 (tnu B nn p_108) (tq B nn p_108)) = (mf2 B nn k 2 (flA B nn k)) := by show _ = chk (mf1 B nn k 2 (flA B nn k)) 1 9999 (vln B nn (lnP B nn k) 0) (tq B nn (vlp B nn (lnP B nn k) 0)); rw [vl248, vp247]
      have hF_249 := hF_162
      rw [he250] at hF_249
      have he252 : (mf2 B nn k 2 (flA B nn k)) = (mf3 B nn k 2 (flA B nn k)) := rfl
      have hF_251 := hF_249
      rw [he252] at hF_251
      refine xoCh82 (xqc82 hI148 : cp82 (wget w146 82)) (fun f82_253 f82_255 f82_257 f82_259 f82_261 f82_263 f82_265 f82_267 f82_269 f82_271 f82_273 f82_274 f82_275 f82_277 f82_279 f82_281 h82_283 hb254 hb256 hb258 hb260 hb262 hb264 hb266 hb268 hb270 hb272 hb276 hb278 hb280 hb282 hb284 => ?_)
      refine xg_cVv mX12_puts (vs := [(0, 2), (0, u42), (0, (60 + (2 * u42)) + 0), (0, n150)]) (rest := []) (cn1 := 0) (sl1 := 0) rfl (mPuts2 (hI148) (by omega) (by omega) (by omega) (fun _ => by omega)) rfl h82_283 rfl rfl rfl rfl rfl rfl (fun w285 hq286 => ?_)
      obtain ⟨hI287, hF288, hx289⟩ := hq286
      obtain ⟨hp290, hp291⟩ := hx289
      refine xg_t (xg_iinc (u := 0) (z := 1) (l1 := [(0, (2, 82)), (1, (0, 2)), (2, (0, at_)), (3, (0, u42))]) rfl rfl (by decide) rfl) ?_
      refine xg_t (xg_goto) ?_
      refine xg_t (xg_blq rfl) ?_
      refine xg_t (xg_iload (va := (0, 1)) rfl rfl) ?_
      refine xg_t (xg_const) ?_
      refine xg_t (xg_icF (u := 1) (v := 2) rfl xnm0 xnm0 (by decide)) ?_
      refine xg_t (xg_aload (va := (2, 82)) rfl rfl) ?_
      refine xg_t (xg_iload (va := (0, 2)) rfl rfl) ?_
      refine xg_t (xg_iload (va := (0, u42)) rfl rfl) ?_
      refine xg_t (xg_bip) ?_
      refine xg_t (xg_const) ?_
      refine xg_t (xg_iload (va := (0, u42)) rfl rfl) ?_
      refine xg_t (xg_imul (u := 2) (v := u42) (z := 2 * u42) xnm0 xnm0 (by omega)) ?_
      refine xg_t (xg_iadd (u := 60) (v := 2 * u42) (z := 60 + (2 * u42)) xnm0 xnm0 (by omega)) ?_
      refine xg_t (xg_iload (va := (0, 1)) rfl rfl) ?_
      refine xg_t (xg_iadd (u := 60 + (2 * u42)) (v := 1) (z := (60 + (2 * u42)) + 1) xnm0 xnm0 (by omega)) ?_
      refine xg_t (xg_aload (va := (2, 82)) rfl rfl) ?_
      refine xg_t (xg_const) ?_
      refine xg_t (xg_sip) ?_
      have hk292 := ((fld_eq (j := 14) (hF288.1 82 (by decide))).trans k14_155)
      refine xg_cVi mX12_numbered (vs := [(0, 1), (0, 9999)]) (rest := [(0, (60 + (2 * u42)) + 1), (0, u42), (0, 2), (2, 82)]) (cn1 := 0) (sl1 := 0) rfl (mNumX (ir := 0) (hI287) (by omega) (by omega) (hB.fr (fun j h4 h9 => (((hj56.tr (K83.fr hF103 (by decide))).tr k8_153).tr (K83.fr hF288 (by decide))) j (by omega) (by omega) (by omega))) ((fld_eq (j := 10) (hF288.1 82 (by decide))).trans k10_160) (hT_161.fr (hF288.1 82 (by decide))) (hF_251.k83 (rwv_eq (hF288.1 83 (by decide))) (rwv_eq (hF288.1 83 (by decide))))) rfl (hF288.get (by decide) h82_283) rfl rfl rfl rfl rfl rfl (fun n297 w293 hq294 => ?_)
      obtain ⟨hn298, hI295, hF296⟩ := hq294
      obtain ⟨hx301, h14_299, k8_300⟩ := hn298
      have k14_302 := h14_299.trans hk292
      rcases hx301 with ⟨rfl, hk303, hW304⟩ | ⟨hv305, h9_306, hk303, k10_307, hT_308, hF_309⟩
      · have lf310 : lnR B nn p0 = (false, p_244) := ln246.trans (lnN_n (k := 0) hk303)
        refine xoCh82 (xqc82 hI295 : cp82 (wget w293 82)) (fun f82_311 f82_313 f82_315 f82_317 f82_319 f82_321 f82_323 f82_325 f82_327 f82_329 f82_331 f82_332 f82_333 f82_335 f82_337 f82_339 h82_341 hb312 hb314 hb316 hb318 hb320 hb322 hb324 hb326 hb328 hb330 hb334 hb336 hb338 hb340 hb342 => ?_)
        refine xg_cVv mX12_puts (vs := [(0, 2), (0, u42), (0, (60 + (2 * u42)) + 1), (0, 0)]) (rest := []) (cn1 := 0) (sl1 := 0) rfl (mPuts2 (hI295) (by omega) (by omega) (by omega) (fun _ => by omega)) rfl h82_341 rfl rfl rfl rfl rfl rfl (fun w343 hq344 => ?_)
        obtain ⟨hI345, hF346, hx347⟩ := hq344
        obtain ⟨hp348, hp349⟩ := hx347
        refine xg_t (xg_iinc (u := 1) (z := 2) (l1 := [(0, (2, 82)), (1, (0, 2)), (2, (0, at_)), (3, (0, u42))]) rfl rfl (by decide) rfl) ?_
        refine xg_t (xg_goto) ?_
        refine xg_t (xg_blq rfl) ?_
        refine xg_t (xg_iload (va := (0, 2)) rfl rfl) ?_
        refine xg_t (xg_const) ?_
        refine xg_t (xg_icT (u := 2) (v := 2) rfl xnm0 xnm0 (by decide)) ?_
        refine xg_t (xg_blq rfl) ?_
        refine xg_t (xg_goto) ?_
        refine xg_t (xg_blq rfl) ?_
        refine xg_t (xg_aload (va := (2, 82)) rfl rfl) ?_
        refine xg_t (xg_getf (va := (0, f82_327)) (hF346.get (by decide) h82_341) rfl) ?_
        have hf350 : fld w343 82 10 = f82_327 := fld_of (hF346.get (by decide) h82_341)
        have hk351 : fld w343 82 10 ≠ 0 := (by have q := hW304.1; have q2 := fld_eq (j := 10) (hF346.1 82 (by decide)); omega)
        refine xg_t (xg_ifT (u := f82_327) rfl xnm0 (xj_neT (by omega))) ?_
        refine xg_t (xg_blq rfl) ?_
        refine xg_t (xg_aload (va := (2, 82)) rfl rfl) ?_
        refine xg_cVv mX12_ends (vs := []) (rest := []) (cn1 := 0) (sl1 := 0) rfl (mEndsW (hI345) (by have q := hW304.1; have q2 := fld_eq (j := 10) (hF346.1 82 (by decide)); omega)) rfl (hF346.get (by decide) h82_341) rfl rfl rfl rfl rfl rfl (fun w352 hq353 => ?_)
        obtain ⟨hI354, hF355⟩ := hq353
        refine xg_t (xg_blq rfl) ?_
        have hf356 : fld w352 82 10 = f82_327 := fld_of (hF355.get (by decide) (hF346.get (by decide) h82_341))
        have hf357 : fld w352 82 14 = f82_329 := fld_of (hF355.get (by decide) (hF346.get (by decide) h82_341))
        have hk358 := ((fld_eq (j := 14) ((hF355.1 82 (by decide)).trans (hF346.1 82 (by decide)))).trans k14_302)
        have hl359 : f82_329 ≤ 500 := by omega
        have hk360 : WRG w352 (tq B nn p_244) := ⟨(fld_eq (j := 10) ((hF355.1 82 (by decide)).trans (hF346.1 82 (by decide)))).trans hW304.1, (rwv_eq (j := 16) ((hF355.1 83 (by decide)).trans (hF346.1 83 (by decide)))).trans hW304.2.1, (rwv_eq (j := 17) ((hF355.1 83 (by decide)).trans (hF346.1 83 (by decide)))).trans hW304.2.2⟩
        refine xg_t (xg_aload (va := (2, 82)) rfl rfl) ?_
        refine xg_t (xg_getf (va := (2, 85)) (hF355.get (by decide) (hF346.get (by decide) h82_341)) rfl) ?_
        refine xg_t (xg_iload (va := (0, 2)) rfl rfl) ?_
        refine xg_t (xg_dup2 rfl) ?_
        refine xoI (xqc85 hI354 : cpI 7 52 4294967295 (wget w352 85)) (fun g85_361 h85_362 hb363 => ?_)
        refine xg_ialdB (n := 2) (B := 4294967295) h85_362 (hb363) xnm0 (by first | decide | omega) (fun u364 hu365 he366 => ?_)
        have hK367 : u364 = u42 := (((rwv_of h85_362 (by decide)).trans he366).symm.trans (rwv_eq ((hF355.1 85 (by decide)).trans ((hF346.1 85 (by decide)).trans ((hF296.1 85 (by decide)).trans ((hF288.1 85 (by decide)).trans ((hF149.1 85 (by decide)).trans ((hF103.1 85 (by decide)).trans hj57)))))))).trans ((hm 2 (by decide)).trans hK45.symm)
        have hl368 : u364 ≤ 500 := by omega
        refine xg_t (xg_const) ?_
        refine xg_t (xg_iadd (u := u364) (v := 1) (z := u364 + 1) xnm0 xnm0 (by omega)) ?_
        refine xg_iastK (n := 2) (u := u364 + 1) h85_362 xnm0 xnm0 rfl (by first | decide | omega) (fun w369 hr370 hb371 => ?_)
        refine xg_t (xg_aload (va := (2, 82)) rfl rfl) ?_
        refine xg_t (xg_dup rfl) ?_
        refine xg_t (xg_getf (va := (0, f82_329)) (hb371.get (by decide) (hF355.get (by decide) (hF346.get (by decide) h82_341))) rfl) ?_
        have hn372 := id hb330
        unfold xHid at hn372
        refine xg_t (xg_const) ?_
        refine xg_t (xg_iadd (u := f82_329) (v := 1) (z := f82_329 + 1) xnm0 xnm0 (by omega)) ?_
        refine xg_putI (fl1 := [(2, 83), (2, 84), (0, f82_311), (0, f82_313), (0, f82_315), (0, f82_317), (0, f82_319), (0, f82_321), (0, f82_323), (0, f82_325), (0, f82_327), (2, 85), (2, 86), (2, 87), (0, f82_329 + 1), (2, 88), (2, 89), (2, 90), (2, 91), (2, 92), (2, 93), (2, 94), (4, f82_331), (4, f82_332), (0, f82_333), (2, 95), (2, 96), (2, 97), (2, 98), (2, 99), (2, 100), (2, 101), (2, 102), (0, f82_335), (2, 103), (2, 104), (2, 105), (2, 106), (2, 107), (2, 108), (2, 109), (0, f82_337), (0, f82_339), (2, 110), (2, 111), (2, 112), (2, 113)]) (hb371.get (by decide) (hF355.get (by decide) (hF346.get (by decide) h82_341))) rfl rfl rfl (fun w373 hk374 hb375 => ?_)
        have hf376 : fld w373 82 10 = f82_327 := fld_of hk374
        have hf377 : fld w373 82 14 = f82_329 + 1 := fld_of hk374
        exact xg_e ⟨w373, ⟨rfl, rfl⟩, xMnv.up (S := [85, 82]) hI354 ((xFr.of (S := [85, 82]) hb371 (by decide)).tr (xFr.of (S := [85, 82]) hb375 (by decide))) (List.forall_mem_cons.mpr ⟨xqu85 (show cpI 7 52 4294967295 (wget w373 85) from ⟨_, (hr370.but hb375 (by decide)), xrb (by omega) (hb363)⟩), List.forall_mem_cons.mpr ⟨xqu82 (show cp82 (wget w373 82) from xmC82 f82_311 f82_313 f82_315 f82_317 f82_319 f82_321 f82_323 f82_325 f82_327 (f82_329 + 1) f82_331 f82_332 f82_333 f82_335 f82_337 f82_339 hk374 hb312 hb314 hb316 hb318 hb320 hb322 hb324 hb326 hb328 (by omega) hb334 hb336 hb338 hb340 (by omega)), fun _ h => absurd h List.not_mem_nil⟩⟩), (((((((hF50.tr (hF103.up (by decide))).tr (hF149.up (by decide))).tr (hF288.up (by decide))).tr (hF296.up (by decide))).tr (hF346.up (by decide))).tr (hF355.up (by decide))).tr ((xFr.of (S := [82, 83, 85, 86, 87]) hb371 (by decide)).tr (xFr.of (S := [82, 83, 85, 86, 87]) hb375 (by decide)))), ⟨Or.inl ⟨p_244, lf310, ⟨by have z := hk360.1; omega, (rwv_eq (j := 16) ((hb375.1 83 (by decide)).trans (hb371.1 83 (by decide)))).trans hk360.2.1, (rwv_eq (j := 17) ((hb375.1 83 (by decide)).trans (hb371.1 83 (by decide)))).trans hk360.2.2⟩⟩, ((((((((hj56.tr (K83.fr hF103 (by decide))).tr k8_153).tr (K83.fr hF288 (by decide))).tr k8_300).tr (K83.fr hF346 (by decide))).tr (K83.fr hF355 (by decide))).tr (K83.but hb371 (by decide))).tr (K83.but hb375 (by decide))), by omega⟩⟩
      · obtain ⟨p_378, hp379⟩ : ∃ x, x = tf B nn p_244 := ⟨_, rfl⟩
        rw [← hp379] at hT_308
        have ln380 : lnR B nn p0 = lnN B nn 2 0 p_378 := by rw [hp379]; exact ln246.trans (lnN_y (k := 0) hk303)
        have vp381 : vlp B nn (lnP B nn k) 1 = p_244 := by show tf B nn (vlp B nn (lnP B nn k) 0) = p_244; rw [vp247]; exact hp245.symm
        have vl382 : vln B nn (lnP B nn k) 1 = tnu B nn p_244 := by
          show (if (1 : Nat) = 3 then _ else tnu B nn (vlp B nn (lnP B nn k) 1)) = _
          rw [if_neg (by decide), vp381]
        have he384 : (chk (mf3 B nn k 2 (flA B nn k)) 1 9999 (tnu B nn p_244) (tq B nn p_244)) = (mf4 B nn k 2 (flA B nn k)) := by show _ = chk (mf3 B nn k 2 (flA B nn k)) 1 9999 (vln B nn (lnP B nn k) 1) (tq B nn (vlp B nn (lnP B nn k) 1)); rw [vl382, vp381]
        have hF_383 := hF_309
        rw [he384] at hF_383
        have he386 : (mf4 B nn k 2 (flA B nn k)) = (mfl B nn k 2 (flA B nn k)) := rfl
        have hF_385 := hF_383
        rw [he386] at hF_385
        refine xoCh82 (xqc82 hI295 : cp82 (wget w293 82)) (fun f82_387 f82_389 f82_391 f82_393 f82_395 f82_397 f82_399 f82_401 f82_403 f82_405 f82_407 f82_408 f82_409 f82_411 f82_413 f82_415 h82_417 hb388 hb390 hb392 hb394 hb396 hb398 hb400 hb402 hb404 hb406 hb410 hb412 hb414 hb416 hb418 => ?_)
        refine xg_cVv mX12_puts (vs := [(0, 2), (0, u42), (0, (60 + (2 * u42)) + 1), (0, n297)]) (rest := []) (cn1 := 0) (sl1 := 0) rfl (mPuts2 (hI295) (by omega) (by omega) (by omega) (fun _ => by omega)) rfl h82_417 rfl rfl rfl rfl rfl rfl (fun w419 hq420 => ?_)
        obtain ⟨hI421, hF422, hx423⟩ := hq420
        obtain ⟨hp424, hp425⟩ := hx423
        refine xg_t (xg_iinc (u := 1) (z := 2) (l1 := [(0, (2, 82)), (1, (0, 2)), (2, (0, at_)), (3, (0, u42))]) rfl rfl (by decide) rfl) ?_
        refine xg_t (xg_goto) ?_
        refine xg_t (xg_blq rfl) ?_
        refine xg_t (xg_iload (va := (0, 2)) rfl rfl) ?_
        refine xg_t (xg_const) ?_
        refine xg_t (xg_icT (u := 2) (v := 2) rfl xnm0 xnm0 (by decide)) ?_
        refine xg_t (xg_blq rfl) ?_
        refine xg_t (xg_goto) ?_
        refine xg_t (xg_blq rfl) ?_
        have ln426 : lnR B nn p0 = lnS B nn p_378 := by exact ln380.trans (lnN_0 (by decide))
        refine xg_t (xg_aload (va := (2, 82)) rfl rfl) ?_
        refine xg_t (xg_getf (va := (0, f82_403)) (hF422.get (by decide) h82_417) rfl) ?_
        have hf427 : fld w419 82 10 = f82_403 := fld_of (hF422.get (by decide) h82_417)
        have hk428 : fld w419 82 10 = 0 := ((fld_eq (j := 10) (hF422.1 82 (by decide))).trans k10_307)
        refine xg_t (xg_ifF (u := f82_403) rfl xnm0 (xj_neF (by omega))) ?_
        obtain ⟨⟨ht429, ht430, ht431, ht432, ht433, ht434⟩, ht435, ht436, ht437⟩ := id (hT_308.fr (hF422.1 82 (by decide)))
        have hf438 : fld w419 82 6 = f82_395 := fld_of (hF422.get (by decide) h82_417)
        have hf439 : fld w419 82 7 = f82_397 := fld_of (hF422.get (by decide) h82_417)
        have hf440 : fld w419 82 8 = f82_399 := fld_of (hF422.get (by decide) h82_417)
        have hf441 : fld w419 82 9 = f82_401 := fld_of (hF422.get (by decide) h82_417)
        have hf442 : fld w419 82 3 = f82_389 := fld_of (hF422.get (by decide) h82_417)
        have hmk443 := mkd_of (ir := 0) (B := B) (n := nn) (p := p_378)
        refine xg_t (xg_aload (va := (2, 82)) rfl rfl) ?_
        refine xg_t (xg_getf (va := (0, f82_397)) (hF422.get (by decide) h82_417) rfl) ?_
        refine xg_t (xg_const) ?_
        by_cases hc444 : f82_397 = 2
        · refine xg_t (xg_icF (u := f82_397) (v := 2) rfl xnm0 xnm0 (xj_neF hc444)) ?_
          have sg4451 : tkd B nn p_378 = 3 := by omega
          have sg4452 : B (tq B nn p_378) = 59 := by omega
          refine xg_t (xg_aload (va := (2, 82)) rfl rfl) ?_
          clear ht429 ht430 ht431 ht432 ht433 ht434 ht435 ht436 ht437 hf438 hf439 hf440 hf441 hf442 hmk443
          obtain ⟨⟨ht446, ht447, ht448, ht449, ht450, ht451⟩, -⟩ := id (hT_308.fr (hF422.1 82 (by decide)))
          have hk452 := ((fld_eq (j := 10) (hF422.1 82 (by decide))).trans k10_307)
          have hk453 := ((fld_eq (j := 14) (hF422.1 82 (by decide))).trans k14_302)
          refine xg_cVv mX12_advance (vs := []) (rest := []) (cn1 := 0) (sl1 := 0) rfl (mAdvX (hI421) (hB.fr (fun j h4 h9 => (((((hj56.tr (K83.fr hF103 (by decide))).tr k8_153).tr (K83.fr hF288 (by decide))).tr k8_300).tr (K83.fr hF422 (by decide))) j (by omega) (by omega) (by omega))) ht446 ht447 (by rw [ht448]; exact tf_le ht451)) rfl (hF422.get (by decide) h82_417) rfl rfl rfl rfl rfl rfl (fun w454 hq455 => ?_)
          obtain ⟨hI456, hF457, hx458⟩ := hq455
          obtain ⟨hz459, hz460, hz461⟩ := hx458
          rw [ht448] at hz459
          clear ht446 ht447 ht448 ht449 ht450 ht451
          obtain ⟨p_462, hp463⟩ : ∃ x, x = tf B nn p_378 := ⟨_, rfl⟩
          rw [← hp463] at hz459
          have k10_464 := hz460.trans hk452
          have k14_465 := hz461.trans hk453
          clear hz460 hz461 hk452 hk453
          have ln466 : lnR B nn p0 = (true, p_462) := by rw [hp463]; exact ln426.trans (lnS_y ⟨sg4451, sg4452⟩)
          refine xg_t (xg_goto) ?_
          refine xg_t (xg_blq rfl) ?_
          refine xoCh82 (xqc82 hI456 : cp82 (wget w454 82)) (fun f82_467 f82_469 f82_471 f82_473 f82_475 f82_477 f82_479 f82_481 f82_483 f82_485 f82_487 f82_488 f82_489 f82_491 f82_493 f82_495 h82_497 hb468 hb470 hb472 hb474 hb476 hb478 hb480 hb482 hb484 hb486 hb490 hb492 hb494 hb496 hb498 => ?_)
          have hf499 : fld w454 82 10 = f82_483 := fld_of h82_497
          have hf500 : fld w454 82 14 = f82_485 := fld_of h82_497
          have hk501 := k14_465
          have hl502 : f82_485 ≤ 500 := by omega
          have hk503 := hz459
          have hk504 := (hF_385.k83 (rwv_eq ((hF457.1 83 (by decide)).trans (hF422.1 83 (by decide)))) (rwv_eq ((hF457.1 83 (by decide)).trans (hF422.1 83 (by decide)))))
          have hk505 := k10_464
          refine xg_t (xg_aload (va := (2, 82)) rfl rfl) ?_
          refine xg_t (xg_getf (va := (2, 85)) h82_497 rfl) ?_
          refine xg_t (xg_iload (va := (0, 2)) rfl rfl) ?_
          refine xg_t (xg_dup2 rfl) ?_
          refine xoI (xqc85 hI456 : cpI 7 52 4294967295 (wget w454 85)) (fun g85_506 h85_507 hb508 => ?_)
          refine xg_ialdB (n := 2) (B := 4294967295) h85_507 (hb508) xnm0 (by first | decide | omega) (fun u509 hu510 he511 => ?_)
          have hK512 : u509 = u42 := (((rwv_of h85_507 (by decide)).trans he511).symm.trans (rwv_eq ((hF457.1 85 (by decide)).trans ((hF422.1 85 (by decide)).trans ((hF296.1 85 (by decide)).trans ((hF288.1 85 (by decide)).trans ((hF149.1 85 (by decide)).trans ((hF103.1 85 (by decide)).trans hj57)))))))).trans ((hm 2 (by decide)).trans hK45.symm)
          have hl513 : u509 ≤ 500 := by omega
          refine xg_t (xg_const) ?_
          refine xg_t (xg_iadd (u := u509) (v := 1) (z := u509 + 1) xnm0 xnm0 (by omega)) ?_
          refine xg_iastK (n := 2) (u := u509 + 1) h85_507 xnm0 xnm0 rfl (by first | decide | omega) (fun w514 hr515 hb516 => ?_)
          refine xg_t (xg_aload (va := (2, 82)) rfl rfl) ?_
          refine xg_t (xg_dup rfl) ?_
          refine xg_t (xg_getf (va := (0, f82_485)) (hb516.get (by decide) h82_497) rfl) ?_
          have hn517 := id hb486
          unfold xHid at hn517
          refine xg_t (xg_const) ?_
          refine xg_t (xg_iadd (u := f82_485) (v := 1) (z := f82_485 + 1) xnm0 xnm0 (by omega)) ?_
          refine xg_putI (fl1 := [(2, 83), (2, 84), (0, f82_467), (0, f82_469), (0, f82_471), (0, f82_473), (0, f82_475), (0, f82_477), (0, f82_479), (0, f82_481), (0, f82_483), (2, 85), (2, 86), (2, 87), (0, f82_485 + 1), (2, 88), (2, 89), (2, 90), (2, 91), (2, 92), (2, 93), (2, 94), (4, f82_487), (4, f82_488), (0, f82_489), (2, 95), (2, 96), (2, 97), (2, 98), (2, 99), (2, 100), (2, 101), (2, 102), (0, f82_491), (2, 103), (2, 104), (2, 105), (2, 106), (2, 107), (2, 108), (2, 109), (0, f82_493), (0, f82_495), (2, 110), (2, 111), (2, 112), (2, 113)]) (hb516.get (by decide) h82_497) rfl rfl rfl (fun w518 hk519 hb520 => ?_)
          have hf521 : fld w518 82 10 = f82_483 := fld_of hk519
          have hf522 : fld w518 82 14 = f82_485 + 1 := fld_of hk519
          have he523 : lnP B nn (k + 1) = p_462 := by
            show (lnR B nn (lnP B nn k)).2 = _
            rw [← hp0, ln466]
          have hT524 : TKM 0 B nn w518 p_462 := hk503.w14 ((show fld w518 82 2 = f82_467 from fld_of hk519).trans (show fld w454 82 2 = f82_467 from fld_of h82_497).symm) ((show fld w518 82 3 = f82_469 from fld_of hk519).trans (show fld w454 82 3 = f82_469 from fld_of h82_497).symm) ((show fld w518 82 4 = f82_471 from fld_of hk519).trans (show fld w454 82 4 = f82_471 from fld_of h82_497).symm) ((show fld w518 82 5 = f82_473 from fld_of hk519).trans (show fld w454 82 5 = f82_473 from fld_of h82_497).symm) ((show fld w518 82 6 = f82_475 from fld_of hk519).trans (show fld w454 82 6 = f82_475 from fld_of h82_497).symm) ((show fld w518 82 7 = f82_477 from fld_of hk519).trans (show fld w454 82 7 = f82_477 from fld_of h82_497).symm) ((show fld w518 82 8 = f82_479 from fld_of hk519).trans (show fld w454 82 8 = f82_479 from fld_of h82_497).symm) ((show fld w518 82 9 = f82_481 from fld_of hk519).trans (show fld w454 82 9 = f82_481 from fld_of h82_497).symm)
          have hF525 : FP w518 (mfl B nn k 2 (flA B nn k)) := hk504.k83 (rwv_eq ((hb520.1 83 (by decide)).trans (hb516.1 83 (by decide)))) (rwv_eq ((hb520.1 83 (by decide)).trans (hb516.1 83 (by decide))))
          have hg527 := (tf_gt (B := B) (n := nn) (p := p_108) (by omega)).2
          have hg528 := tq_ge (B := B) (n := nn) (p := p_108)
          have hg529 := (tf_gt (B := B) (n := nn) (p := p_244) (by omega)).2
          have hg530 := tq_ge (B := B) (n := nn) (p := p_244)
          have hg531 := (tf_gt (B := B) (n := nn) (p := p0) (by rw [slt_kd (by rw [hp0, hs]; decide)]; decide)).2
          have hg532 := (tf_gt (B := B) (n := nn) (p := p_378) (by omega)).2
          have hg533 := tq_ge (B := B) (n := nn) (p := p_378)
          have hg534 := tq_ge (B := B) (n := nn) (p := p_462)
          have hp1x := hp109
          have hO526 : ORD B nn k 2 (tq B nn (lnP B nn (k + 1))) := by
            unfold ORD
            rw [he523, vp247, vp381, ← hp0]
            exact ⟨by omega, by omega, fun z => absurd z (by decide), by omega, fun z => absurd z (by decide)⟩
          have hM535 : rwv w518 85 2 = lnC B nn 2 k + 1 := (rwv_of (hr515.but hb520 (by decide)) (by decide)).trans ((if_pos rfl).trans (by omega))
          have hM536 : ∀ s, s < 7 → s ≠ 2 → rwv w518 85 s = rwv w 85 s := fun s hs hn => (rwv_of (hr515.but hb520 (by decide)) hs).trans ((if_neg hn).trans ((rwv_of h85_507 hs).symm.trans (rwv_eq ((hF457.1 85 (by decide)).trans ((hF422.1 85 (by decide)).trans ((hF296.1 85 (by decide)).trans ((hF288.1 85 (by decide)).trans ((hF149.1 85 (by decide)).trans ((hF103.1 85 (by decide)).trans hj57)))))))))
          have hr537 : lnC B nn 2 k < 6 → ∀ t, t < 2 → XM w518 2 (lnC B nn 2 k) t = vln B nn (lnP B nn k) t := fun hlt t ht => by
            rcases (show t = 0 ∨ t = 1 by omega) with rfl | rfl
            · show rwv w518 86 (60 + 2 * lnC B nn 2 k + 0) = _
              rw [show 60 + 2 * lnC B nn 2 k + 0 = (60 + (2 * u42)) + 0 by omega]
              exact ((rwv_eq (hb520.1 86 (by decide))).trans ((rwv_eq (hb516.1 86 (by decide))).trans ((rwv_eq (hF457.1 86 (by decide))).trans ((hp425 ((60 + (2 * u42)) + 0) (by omega) (by omega)).trans (rwv_eq (hF296.1 86 (by decide))))))).trans ((hp290 (by omega)).trans (hv158.trans vl248.symm))
            · show rwv w518 86 (60 + 2 * lnC B nn 2 k + 1) = _
              rw [show 60 + 2 * lnC B nn 2 k + 1 = (60 + (2 * u42)) + 1 by omega]
              exact ((rwv_eq (hb520.1 86 (by decide))).trans ((rwv_eq (hb516.1 86 (by decide))).trans (rwv_eq (hF457.1 86 (by decide))))).trans ((hp424 (by omega)).trans (hv305.trans vl382.symm))
          have ho538 : ∀ j, (j < 60 + 2 * lnC B nn 2 k ∨ 60 + 2 * (lnC B nn 2 k + 1) ≤ j) → j < 140 → rwv w518 86 j = rwv w 86 j := fun j hj hl => ((rwv_eq (hb520.1 86 (by decide))).trans ((rwv_eq (hb516.1 86 (by decide))).trans ((rwv_eq (hF457.1 86 (by decide))).trans ((hp425 j (by omega) hl).trans ((rwv_eq (hF296.1 86 (by decide))).trans ((hp291 j (by omega) hl).trans ((rwv_eq (hF149.1 86 (by decide))).trans ((rwv_eq (hF103.1 86 (by decide))).trans (rwv_eq hj58)))))))))
          have ha539 : ∀ j, j < 20 → rwv w518 87 j = rwv w 87 j := fun j _ => rwv_eq ((hb520.1 87 (by decide)).trans ((hb516.1 87 (by decide)).trans ((hF457.1 87 (by decide)).trans ((hF422.1 87 (by decide)).trans ((hF296.1 87 (by decide)).trans ((hF288.1 87 (by decide)).trans ((hF149.1 87 (by decide)).trans ((hF103.1 87 (by decide)).trans hj59))))))))
          have hM540 := MSTok2 hS hs (by have z := hk505; omega) (by omega) hF525 hO526 hM535 hM536 hr537 ho538 ha539
          exact xg_e ⟨w518, ⟨rfl, rfl⟩, xMnv.up (S := [85, 82]) hI456 ((xFr.of (S := [85, 82]) hb516 (by decide)).tr (xFr.of (S := [85, 82]) hb520 (by decide))) (List.forall_mem_cons.mpr ⟨xqu85 (show cpI 7 52 4294967295 (wget w518 85) from ⟨_, (hr515.but hb520 (by decide)), xrb (by omega) (hb508)⟩), List.forall_mem_cons.mpr ⟨xqu82 (show cp82 (wget w518 82) from xmC82 f82_467 f82_469 f82_471 f82_473 f82_475 f82_477 f82_479 f82_481 f82_483 (f82_485 + 1) f82_487 f82_488 f82_489 f82_491 f82_493 f82_495 hk519 hb468 hb470 hb472 hb474 hb476 hb478 hb480 hb482 hb484 (by omega) hb490 hb492 hb494 hb496 (by omega)), fun _ h => absurd h List.not_mem_nil⟩⟩), (((((((hF50.tr (hF103.up (by decide))).tr (hF149.up (by decide))).tr (hF288.up (by decide))).tr (hF296.up (by decide))).tr (hF422.up (by decide))).tr (hF457.up (by decide))).tr ((xFr.of (S := [82, 83, 85, 86, 87]) hb516 (by decide)).tr (xFr.of (S := [82, 83, 85, 86, 87]) hb520 (by decide)))), ⟨Or.inr ⟨by rw [ln466], by rw [he523]; exact hT524, hM540⟩, ((((((((hj56.tr (K83.fr hF103 (by decide))).tr k8_153).tr (K83.fr hF288 (by decide))).tr k8_300).tr (K83.fr hF422 (by decide))).tr (K83.fr hF457 (by decide))).tr (K83.but hb516 (by decide))).tr (K83.but hb520 (by decide))), by omega⟩⟩
        · refine xg_t (xg_icT (u := f82_397) (v := 2) rfl xnm0 xnm0 (xj_neT hc444)) ?_
          refine xg_t (xg_blq rfl) ?_
          have lf541n : ¬ (tkd B nn p_378 = 3 ∧ B (tq B nn p_378) = 59) := by omega
          have lf541 : lnR B nn p0 = (false, p_378) := ln426.trans (lnS_n lf541n)
          refine xg_t (xg_aload (va := (2, 82)) rfl rfl) ?_
          have hk542 := ((fld_eq (j := 14) (hF422.1 82 (by decide))).trans k14_302)
          have hk543 := (hT_308.fr (hF422.1 82 (by decide))).1.2.2.2.1
          clear ht429 ht430 ht431 ht432 ht433 ht434 ht435 ht436 ht437 hf438 hf439 hf440 hf441 hf442 hmk443
          refine xg_cVv mX12_ends (vs := []) (rest := []) (cn1 := 0) (sl1 := 0) rfl (mEndsX (hI421) ((fld_eq (j := 10) (hF422.1 82 (by decide))).trans k10_307)) rfl (hF422.get (by decide) h82_417) rfl rfl rfl rfl rfl rfl (fun w544 hq545 => ?_)
          obtain ⟨hI546, hF547, hx548⟩ := hq545
          obtain ⟨hv549, hv550, hv551, hv552, hv553⟩ := hx548
          have hW554 : WRG w544 (tq B nn p_378) := ⟨hv549, hv550, hv551.trans hk543⟩
          have k14_555 := hv552.trans hk542
          refine xg_t (xg_blq rfl) ?_
          refine xoCh82 (xqc82 hI546 : cp82 (wget w544 82)) (fun f82_556 f82_558 f82_560 f82_562 f82_564 f82_566 f82_568 f82_570 f82_572 f82_574 f82_576 f82_577 f82_578 f82_580 f82_582 f82_584 h82_586 hb557 hb559 hb561 hb563 hb565 hb567 hb569 hb571 hb573 hb575 hb579 hb581 hb583 hb585 hb587 => ?_)
          have hf588 : fld w544 82 10 = f82_572 := fld_of h82_586
          have hf589 : fld w544 82 14 = f82_574 := fld_of h82_586
          have hk590 := k14_555
          have hl591 : f82_574 ≤ 500 := by omega
          have hk592 : WRG w544 (tq B nn p_378) := hW554
          refine xg_t (xg_aload (va := (2, 82)) rfl rfl) ?_
          refine xg_t (xg_getf (va := (2, 85)) h82_586 rfl) ?_
          refine xg_t (xg_iload (va := (0, 2)) rfl rfl) ?_
          refine xg_t (xg_dup2 rfl) ?_
          refine xoI (xqc85 hI546 : cpI 7 52 4294967295 (wget w544 85)) (fun g85_593 h85_594 hb595 => ?_)
          refine xg_ialdB (n := 2) (B := 4294967295) h85_594 (hb595) xnm0 (by first | decide | omega) (fun u596 hu597 he598 => ?_)
          have hK599 : u596 = u42 := (((rwv_of h85_594 (by decide)).trans he598).symm.trans (rwv_eq ((hF547.1 85 (by decide)).trans ((hF422.1 85 (by decide)).trans ((hF296.1 85 (by decide)).trans ((hF288.1 85 (by decide)).trans ((hF149.1 85 (by decide)).trans ((hF103.1 85 (by decide)).trans hj57)))))))).trans ((hm 2 (by decide)).trans hK45.symm)
          have hl600 : u596 ≤ 500 := by omega
          refine xg_t (xg_const) ?_
          refine xg_t (xg_iadd (u := u596) (v := 1) (z := u596 + 1) xnm0 xnm0 (by omega)) ?_
          refine xg_iastK (n := 2) (u := u596 + 1) h85_594 xnm0 xnm0 rfl (by first | decide | omega) (fun w601 hr602 hb603 => ?_)
          refine xg_t (xg_aload (va := (2, 82)) rfl rfl) ?_
          refine xg_t (xg_dup rfl) ?_
          refine xg_t (xg_getf (va := (0, f82_574)) (hb603.get (by decide) h82_586) rfl) ?_
          have hn604 := id hb575
          unfold xHid at hn604
          refine xg_t (xg_const) ?_
          refine xg_t (xg_iadd (u := f82_574) (v := 1) (z := f82_574 + 1) xnm0 xnm0 (by omega)) ?_
          refine xg_putI (fl1 := [(2, 83), (2, 84), (0, f82_556), (0, f82_558), (0, f82_560), (0, f82_562), (0, f82_564), (0, f82_566), (0, f82_568), (0, f82_570), (0, f82_572), (2, 85), (2, 86), (2, 87), (0, f82_574 + 1), (2, 88), (2, 89), (2, 90), (2, 91), (2, 92), (2, 93), (2, 94), (4, f82_576), (4, f82_577), (0, f82_578), (2, 95), (2, 96), (2, 97), (2, 98), (2, 99), (2, 100), (2, 101), (2, 102), (0, f82_580), (2, 103), (2, 104), (2, 105), (2, 106), (2, 107), (2, 108), (2, 109), (0, f82_582), (0, f82_584), (2, 110), (2, 111), (2, 112), (2, 113)]) (hb603.get (by decide) h82_586) rfl rfl rfl (fun w605 hk606 hb607 => ?_)
          have hf608 : fld w605 82 10 = f82_572 := fld_of hk606
          have hf609 : fld w605 82 14 = f82_574 + 1 := fld_of hk606
          exact xg_e ⟨w605, ⟨rfl, rfl⟩, xMnv.up (S := [85, 82]) hI546 ((xFr.of (S := [85, 82]) hb603 (by decide)).tr (xFr.of (S := [85, 82]) hb607 (by decide))) (List.forall_mem_cons.mpr ⟨xqu85 (show cpI 7 52 4294967295 (wget w605 85) from ⟨_, (hr602.but hb607 (by decide)), xrb (by omega) (hb595)⟩), List.forall_mem_cons.mpr ⟨xqu82 (show cp82 (wget w605 82) from xmC82 f82_556 f82_558 f82_560 f82_562 f82_564 f82_566 f82_568 f82_570 f82_572 (f82_574 + 1) f82_576 f82_577 f82_578 f82_580 f82_582 f82_584 hk606 hb557 hb559 hb561 hb563 hb565 hb567 hb569 hb571 hb573 (by omega) hb579 hb581 hb583 hb585 (by omega)), fun _ h => absurd h List.not_mem_nil⟩⟩), (((((((hF50.tr (hF103.up (by decide))).tr (hF149.up (by decide))).tr (hF288.up (by decide))).tr (hF296.up (by decide))).tr (hF422.up (by decide))).tr (hF547.up (by decide))).tr ((xFr.of (S := [82, 83, 85, 86, 87]) hb603 (by decide)).tr (xFr.of (S := [82, 83, 85, 86, 87]) hb607 (by decide)))), ⟨Or.inl ⟨p_378, lf541, ⟨by have z := hk592.1; omega, (rwv_eq (j := 16) ((hb607.1 83 (by decide)).trans (hb603.1 83 (by decide)))).trans hk592.2.1, (rwv_eq (j := 17) ((hb607.1 83 (by decide)).trans (hb603.1 83 (by decide)))).trans hk592.2.2⟩⟩, ((((((((hj56.tr (K83.fr hF103 (by decide))).tr k8_153).tr (K83.fr hF288 (by decide))).tr k8_300).tr (K83.fr hF422 (by decide))).tr hv553).tr (K83.but hb603 (by decide))).tr (K83.but hb607 (by decide))), by omega⟩⟩
  refine xg_t (xg_iload (va := (0, u42)) rfl rfl) ?_
  refine xg_t (xg_iload (va := (0, 2)) rfl rfl) ?_
  refine xg_t (xg_cSr mX12_mostOf (vs := [(0, 2)]) (rest := [(0, u42)]) (rs := [(0, 6), (0, u42)]) (cn1 := 0) (sl1 := 0) rfl (mMostR2) rfl rfl rfl rfl rfl rfl rfl rfl) ?_
  by_cases hc610 : u42 < 6
  · refine xg_t (xg_icT (u := u42) (v := 6) rfl xnm0 xnm0 (xj_ltT hc610 (by omega))) ?_
    refine xg_t (xg_drop (l1 := [(0, (2, 82)), (1, (0, 2)), (2, (0, at_)), (3, (0, u42))]) (List.forall_mem_cons.mpr ⟨List.mem_cons_of_mem _ (List.mem_cons_of_mem _ (List.mem_cons_of_mem _ (List.mem_cons_self))), List.forall_mem_cons.mpr ⟨List.mem_cons_of_mem _ (List.mem_cons_of_mem _ (List.mem_cons_self)), List.forall_mem_cons.mpr ⟨List.mem_cons_of_mem _ (List.mem_cons_self), List.forall_mem_cons.mpr ⟨List.mem_cons_self, fun _ h => absurd h List.not_mem_nil⟩⟩⟩⟩)) ?_
    have he611 : flA B nn k = mf1 B nn k 2 (flA B nn k) := by unfold mf1; rw [decide_eq_false (show ¬ lim 2 ≤ lnC B nn 2 k from (show ¬ 6 ≤ lnC B nn 2 k by omega))]; rfl
    exact jn47 w (hI) (xFr.rf) (⟨by rw [← he611]; exact zF, z10, hT, z14, K83.rf, rfl, rfl, rfl⟩)
  · refine xg_t (xg_icF (u := u42) (v := 6) rfl xnm0 xnm0 (xj_ltF (by omega) (by omega))) ?_
    refine xg_t (xg_aload (va := (2, 82)) rfl rfl) ?_
    refine xg_t (xg_const) ?_
    refine xg_t (xg_iload (va := (0, at_)) rfl rfl) ?_
    refine xg_cVv mX12_also (vs := [(0, 3), (0, at_)]) (rest := []) (cn1 := 0) (sl1 := 0) rfl (mAlsoX (hI) (by omega) (by omega) (by omega) z10 zF) rfl h82_31 rfl rfl rfl rfl rfl rfl (fun w612 hq613 => ?_)
    obtain ⟨hI614, hF615, hx616⟩ := hq613
    obtain ⟨hv617, hv618⟩ := hx616
    refine xg_t (xg_drop (l1 := [(0, (2, 82)), (1, (0, 2)), (2, (0, at_)), (3, (0, u42))]) (List.forall_mem_cons.mpr ⟨List.mem_cons_of_mem _ (List.mem_cons_of_mem _ (List.mem_cons_of_mem _ (List.mem_cons_self))), List.forall_mem_cons.mpr ⟨List.mem_cons_of_mem _ (List.mem_cons_of_mem _ (List.mem_cons_self)), List.forall_mem_cons.mpr ⟨List.mem_cons_of_mem _ (List.mem_cons_self), List.forall_mem_cons.mpr ⟨List.mem_cons_self, fun _ h => absurd h List.not_mem_nil⟩⟩⟩⟩)) ?_
    have he619 : alo (flA B nn k) 3 at_ = mf1 B nn k 2 (flA B nn k) := by unfold mf1; rw [decide_eq_true (show lim 2 ≤ lnC B nn 2 k from (show 6 ≤ lnC B nn 2 k by omega)), hat, hp0]; rfl
    exact jn47 w612 (hI614) ((hF615.up (by decide))) (⟨by rw [← he619]; exact hv617, ((fld_eq (j := 10) (hF615.1 82 (by decide))).trans z10), (hT.fr (hF615.1 82 (by decide))), ((fld_eq (j := 14) (hF615.1 82 (by decide))).trans z14), hv618, (hF615.1 85 (by decide)), (hF615.1 86 (by decide)), (hF615.1 87 (by decide))⟩)
set_option maxHeartbeats 60000000 in
theorem mALnX3 {B : Nat → Nat} {nn k p0 : Nat} {at_ : Nat} (hI : xMnv w) (hB : bsm w B nn) (hp0 : p0 = lnP B nn k) (hT : TKM 0 B nn w p0) (hS : MST B nn w k) (hk5 : k ≤ 500) (hs : slt B nn (lnP B nn k) = 3) (hat : at_ = tq B nn p0) : xTo (d + 7) mX12_aLine (43, [], [(2, (0, at_)), (1, (0, 3)), (0, (2, 82))], [], (w, bd, fc, 0, 0, rr)) (fun φ => ∃ w', xEnd 0 [] (w', bd, fc, 0, 0, rr) φ ∧ xMnv w' ∧ xFr [82, 83, 85, 86, 87] w w' ∧ (((∃ q, lnR B nn p0 = (false, q) ∧ WRG w' (tq B nn q)) ∨ ((lnR B nn p0).1 = true ∧ TKM 0 B nn w' (lnP B nn (k + 1)) ∧ MST B nn w' (k + 1))) ∧ K83 w w' ∧ fld w 82 14 ≤ fld w' 82 14)) := by
  refine xoCh82 (xqc82 hI : cp82 (wget w 82)) (fun f82_1 f82_3 f82_5 f82_7 f82_9 f82_11 f82_13 f82_15 f82_17 f82_19 f82_21 f82_22 f82_23 f82_25 f82_27 f82_29 h82_31 hb2 hb4 hb6 hb8 hb10 hb12 hb14 hb16 hb18 hb20 hb24 hb26 hb28 hb30 hb32 => ?_)
  refine xoI (xqc85 hI : cpI 7 52 4294967295 (wget w 85)) (fun g85_33 h85_34 hb35 => ?_)
  refine xoI (xqc86 hI : cpI 140 53 4294967295 (wget w 86)) (fun g86_36 h86_37 hb38 => ?_)
  refine xoI (xqc87 hI : cpI 20 54 4294967295 (wget w 87)) (fun g87_39 h87_40 hb41 => ?_)
  obtain ⟨⟨z10, z14, zF, zp⟩, hm, hR⟩ := id hS
  have hkc := lnC_k (B := B) (n := nn) (s := 3) (k := k)
  have hq0 : at_ ≤ 500 := by
    have z1 := tf_gt (B := B) (n := nn) (p := p0) (by rw [slt_kd (by rw [hp0, hs]; decide)]; decide)
    have z2 := hB.1
    omega
  refine xg_t (xg_blq rfl) ?_
  refine xg_t (xg_aload (va := (2, 82)) rfl rfl) ?_
  refine xg_t (xg_getf (va := (2, 85)) h82_31 rfl) ?_
  refine xg_t (xg_iload (va := (0, 3)) rfl rfl) ?_
  refine xg_ialdB (n := 3) (B := 4294967295) h85_34 (hb35) xnm0 (by first | decide | omega) (fun u42 hu43 he44 => ?_)
  have hK45 : u42 = lnC B nn 3 k := (((rwv_of h85_34 (by decide)).trans he44).symm).trans (hm 3 (by decide))
  have hl46 : u42 ≤ 500 := by omega
  refine xg_t (xg_istore (l1 := [(2, (0, at_)), (1, (0, 3)), (0, (2, 82))]) rfl rfl rfl) ?_
  have jn47 : ∀ (w48 : List (List xE)), xMnv w48 → xFr [82, 83, 85, 86, 87] w w48 → (FP w48 (mf1 B nn k 3 (flA B nn k)) ∧ fld w48 82 10 = 0 ∧ TKM 0 B nn w48 p0 ∧ fld w48 82 14 = k ∧ K83 w w48 ∧ wget w48 85 = wget w 85 ∧ wget w48 86 = wget w 86 ∧ wget w48 87 = wget w 87) → xTo (d + 7) mX12_aLine (64, [], [(0, (2, 82)), (1, (0, 3)), (2, (0, at_)), (3, (0, u42))], [], (w48, bd, fc, 0, 0, rr)) (fun φ => ∃ w', xEnd 0 [] (w', bd, fc, 0, 0, rr) φ ∧ xMnv w' ∧ xFr [82, 83, 85, 86, 87] w w' ∧ (((∃ q, lnR B nn p0 = (false, q) ∧ WRG w' (tq B nn q)) ∨ ((lnR B nn p0).1 = true ∧ TKM 0 B nn w' (lnP B nn (k + 1)) ∧ MST B nn w' (k + 1))) ∧ K83 w w' ∧ fld w 82 14 ≤ fld w' 82 14)) := by
    intro w48 hI49 hF50 he51
    obtain ⟨hj52, hj53, hj54, hj55, hj56, hj57, hj58, hj59⟩ := he51
    refine xg_t (xg_blq rfl) ?_
    refine xg_t (xg_aload (va := (2, 82)) rfl rfl) ?_
    obtain ⟨⟨ht60, ht61, ht62, ht63, ht64, ht65⟩, -⟩ := id hj54
    have hk66 := hj53
    have hk67 := hj55
    refine xoCh82 (xqc82 hI49 : cp82 (wget w48 82)) (fun f82_68 f82_70 f82_72 f82_74 f82_76 f82_78 f82_80 f82_82 f82_84 f82_86 f82_88 f82_89 f82_90 f82_92 f82_94 f82_96 h82_98 hb69 hb71 hb73 hb75 hb77 hb79 hb81 hb83 hb85 hb87 hb91 hb93 hb95 hb97 hb99 => ?_)
    refine xg_cVv mX12_advance (vs := []) (rest := []) (cn1 := 0) (sl1 := 0) rfl (mAdvX (hI49) (hB.fr (fun j h4 h9 => hj56 j (by omega) (by omega) (by omega))) ht60 ht61 (by rw [ht62]; exact tf_le ht65)) rfl h82_98 rfl rfl rfl rfl rfl rfl (fun w100 hq101 => ?_)
    obtain ⟨hI102, hF103, hx104⟩ := hq101
    obtain ⟨hz105, hz106, hz107⟩ := hx104
    rw [ht62] at hz105
    clear ht60 ht61 ht62 ht63 ht64 ht65
    obtain ⟨p_108, hp109⟩ : ∃ x, x = tf B nn p0 := ⟨_, rfl⟩
    rw [← hp109] at hz105
    have k10_110 := hz106.trans hk66
    have k14_111 := hz107.trans hk67
    clear hz106 hz107 hk66 hk67
    have ln112 : lnR B nn p0 = lnN B nn 3 3 p_108 := by rw [hp109]; exact lnR_go (by rw [hp0]; exact hs) (by decide)
    refine xg_t (xg_iload (va := (0, 3)) rfl rfl) ?_
    refine xg_t (xg_swt (ks := [(0, 108), (1, 116), (2, 180), (3, 221), (4, 273), (5, 326)]) (u := 3) (z := 221) rfl rfl rfl xnm0 (xsw_n (by omega) (xsw_n (by omega) (xsw_n (by omega) (xsw_y rfl))))) ?_
    refine xg_t (xg_blq rfl) ?_
    refine xg_t (xg_const) ?_
    refine xg_t (xg_istore (l1 := [(0, (2, 82)), (1, (0, 3)), (2, (0, at_)), (3, (0, u42))]) rfl rfl rfl) ?_
    refine xg_t (xg_blq rfl) ?_
    refine xg_t (xg_iload (va := (0, 0)) rfl rfl) ?_
    refine xg_t (xg_const) ?_
    refine xg_t (xg_icF (u := 0) (v := 3) rfl xnm0 xnm0 (by decide)) ?_
    refine xg_t (xg_aload (va := (2, 82)) rfl rfl) ?_
    refine xg_t (xg_iload (va := (0, 3)) rfl rfl) ?_
    refine xg_t (xg_iload (va := (0, u42)) rfl rfl) ?_
    refine xg_t (xg_bip) ?_
    refine xg_t (xg_const) ?_
    refine xg_t (xg_iload (va := (0, u42)) rfl rfl) ?_
    refine xg_t (xg_imul (u := 3) (v := u42) (z := 3 * u42) xnm0 xnm0 (by omega)) ?_
    refine xg_t (xg_iadd (u := 80) (v := 3 * u42) (z := 80 + (3 * u42)) xnm0 xnm0 (by omega)) ?_
    refine xg_t (xg_iload (va := (0, 0)) rfl rfl) ?_
    refine xg_t (xg_iadd (u := 80 + (3 * u42)) (v := 0) (z := (80 + (3 * u42)) + 0) xnm0 xnm0 (by omega)) ?_
    refine xg_t (xg_aload (va := (2, 82)) rfl rfl) ?_
    refine xg_t (xg_const) ?_
    refine xg_t (xg_iload (va := (0, 0)) rfl rfl) ?_
    refine xg_t (xg_const) ?_
    refine xg_t (xg_icF (u := 0) (v := 2) rfl xnm0 xnm0 (by decide)) ?_
    refine xg_t (xg_bip) ?_
    refine xg_t (xg_goto) ?_
    refine xg_t (xg_blq rfl) ?_
    have hk113 := k14_111
    refine xoCh82 (xqc82 hI102 : cp82 (wget w100 82)) (fun f82_114 f82_116 f82_118 f82_120 f82_122 f82_124 f82_126 f82_128 f82_130 f82_132 f82_134 f82_135 f82_136 f82_138 f82_140 f82_142 h82_144 hb115 hb117 hb119 hb121 hb123 hb125 hb127 hb129 hb131 hb133 hb137 hb139 hb141 hb143 hb145 => ?_)
    refine xg_cVi mX12_numbered (vs := [(0, 1), (0, 10)]) (rest := [(0, (80 + (3 * u42)) + 0), (0, u42), (0, 3), (2, 82)]) (cn1 := 0) (sl1 := 0) rfl (mNumX (ir := 0) (hI102) (by omega) (by omega) (hB.fr (fun j h4 h9 => (hj56.tr (K83.fr hF103 (by decide))) j (by omega) (by omega) (by omega))) k10_110 hz105 (hj52.k83 (rwv_eq (hF103.1 83 (by decide))) (rwv_eq (hF103.1 83 (by decide))))) rfl h82_144 rfl rfl rfl rfl rfl rfl (fun n150 w146 hq147 => ?_)
    obtain ⟨hn151, hI148, hF149⟩ := hq147
    obtain ⟨hx154, h14_152, k8_153⟩ := hn151
    have k14_155 := h14_152.trans hk113
    rcases hx154 with ⟨rfl, hk156, hW157⟩ | ⟨hv158, h9_159, hk156, k10_160, hT_161, hF_162⟩
    · have lf163 : lnR B nn p0 = (false, p_108) := ln112.trans (lnN_n (k := 2) hk156)
      refine xoCh82 (xqc82 hI148 : cp82 (wget w146 82)) (fun f82_164 f82_166 f82_168 f82_170 f82_172 f82_174 f82_176 f82_178 f82_180 f82_182 f82_184 f82_185 f82_186 f82_188 f82_190 f82_192 h82_194 hb165 hb167 hb169 hb171 hb173 hb175 hb177 hb179 hb181 hb183 hb187 hb189 hb191 hb193 hb195 => ?_)
      refine xg_cVv mX12_puts (vs := [(0, 3), (0, u42), (0, (80 + (3 * u42)) + 0), (0, 0)]) (rest := []) (cn1 := 0) (sl1 := 0) rfl (mPuts3 (hI148) (by omega) (by omega) (by omega) (fun _ => by omega)) rfl h82_194 rfl rfl rfl rfl rfl rfl (fun w196 hq197 => ?_)
      obtain ⟨hI198, hF199, hx200⟩ := hq197
      obtain ⟨hp201, hp202⟩ := hx200
      refine xg_t (xg_iinc (u := 0) (z := 1) (l1 := [(0, (2, 82)), (1, (0, 3)), (2, (0, at_)), (3, (0, u42))]) rfl rfl (by decide) rfl) ?_
      refine xg_t (xg_goto) ?_
      refine xg_t (xg_blq rfl) ?_
      refine xg_t (xg_iload (va := (0, 1)) rfl rfl) ?_
      refine xg_t (xg_const) ?_
      refine xg_t (xg_icF (u := 1) (v := 3) rfl xnm0 xnm0 (by decide)) ?_
      refine xg_t (xg_aload (va := (2, 82)) rfl rfl) ?_
      refine xg_t (xg_iload (va := (0, 3)) rfl rfl) ?_
      refine xg_t (xg_iload (va := (0, u42)) rfl rfl) ?_
      refine xg_t (xg_bip) ?_
      refine xg_t (xg_const) ?_
      refine xg_t (xg_iload (va := (0, u42)) rfl rfl) ?_
      refine xg_t (xg_imul (u := 3) (v := u42) (z := 3 * u42) xnm0 xnm0 (by omega)) ?_
      refine xg_t (xg_iadd (u := 80) (v := 3 * u42) (z := 80 + (3 * u42)) xnm0 xnm0 (by omega)) ?_
      refine xg_t (xg_iload (va := (0, 1)) rfl rfl) ?_
      refine xg_t (xg_iadd (u := 80 + (3 * u42)) (v := 1) (z := (80 + (3 * u42)) + 1) xnm0 xnm0 (by omega)) ?_
      refine xg_t (xg_aload (va := (2, 82)) rfl rfl) ?_
      refine xg_t (xg_const) ?_
      refine xg_t (xg_iload (va := (0, 1)) rfl rfl) ?_
      refine xg_t (xg_const) ?_
      refine xg_t (xg_icF (u := 1) (v := 2) rfl xnm0 xnm0 (by decide)) ?_
      refine xg_t (xg_bip) ?_
      refine xg_t (xg_goto) ?_
      refine xg_t (xg_blq rfl) ?_
      refine xg_cVi mX12_numbered (vs := [(0, 1), (0, 10)]) (rest := [(0, (80 + (3 * u42)) + 1), (0, u42), (0, 3), (2, 82)]) (cn1 := 0) (sl1 := 0) rfl (mNumW (hI198) (by omega) (by omega) (by have q := hW157.1; have q2 := fld_eq (j := 10) (hF199.1 82 (by decide)); omega)) rfl (hF199.get (by decide) h82_194) rfl rfl rfl rfl rfl rfl (fun n207 w203 hq204 => ?_)
      obtain ⟨hn208, hI205, hF206⟩ := hq204
      obtain rfl := hn208
      refine xg_cVv mX12_puts (vs := [(0, 3), (0, u42), (0, (80 + (3 * u42)) + 1), (0, 0)]) (rest := []) (cn1 := 0) (sl1 := 0) rfl (mPuts3 (hI205) (by omega) (by omega) (by omega) (fun _ => by omega)) rfl (hF206.get (by decide) (hF199.get (by decide) h82_194)) rfl rfl rfl rfl rfl rfl (fun w209 hq210 => ?_)
      obtain ⟨hI211, hF212, hx213⟩ := hq210
      obtain ⟨hp214, hp215⟩ := hx213
      refine xg_t (xg_iinc (u := 1) (z := 2) (l1 := [(0, (2, 82)), (1, (0, 3)), (2, (0, at_)), (3, (0, u42))]) rfl rfl (by decide) rfl) ?_
      refine xg_t (xg_goto) ?_
      refine xg_t (xg_blq rfl) ?_
      refine xg_t (xg_iload (va := (0, 2)) rfl rfl) ?_
      refine xg_t (xg_const) ?_
      refine xg_t (xg_icF (u := 2) (v := 3) rfl xnm0 xnm0 (by decide)) ?_
      refine xg_t (xg_aload (va := (2, 82)) rfl rfl) ?_
      refine xg_t (xg_iload (va := (0, 3)) rfl rfl) ?_
      refine xg_t (xg_iload (va := (0, u42)) rfl rfl) ?_
      refine xg_t (xg_bip) ?_
      refine xg_t (xg_const) ?_
      refine xg_t (xg_iload (va := (0, u42)) rfl rfl) ?_
      refine xg_t (xg_imul (u := 3) (v := u42) (z := 3 * u42) xnm0 xnm0 (by omega)) ?_
      refine xg_t (xg_iadd (u := 80) (v := 3 * u42) (z := 80 + (3 * u42)) xnm0 xnm0 (by omega)) ?_
      refine xg_t (xg_iload (va := (0, 2)) rfl rfl) ?_
      refine xg_t (xg_iadd (u := 80 + (3 * u42)) (v := 2) (z := (80 + (3 * u42)) + 2) xnm0 xnm0 (by omega)) ?_
      refine xg_t (xg_aload (va := (2, 82)) rfl rfl) ?_
      refine xg_t (xg_const) ?_
      refine xg_t (xg_iload (va := (0, 2)) rfl rfl) ?_
      refine xg_t (xg_const) ?_
      refine xg_t (xg_icT (u := 2) (v := 2) rfl xnm0 xnm0 (by decide)) ?_
      refine xg_t (xg_blq rfl) ?_
      refine xg_t (xg_sip) ?_
      refine xg_t (xg_blq rfl) ?_
      refine xg_cVi mX12_numbered (vs := [(0, 1), (0, 999)]) (rest := [(0, (80 + (3 * u42)) + 2), (0, u42), (0, 3), (2, 82)]) (cn1 := 0) (sl1 := 0) rfl (mNumW (hI211) (by omega) (by omega) (by have q := hW157.1; have q2 := fld_eq (j := 10) ((hF212.1 82 (by decide)).trans ((hF206.1 82 (by decide)).trans (hF199.1 82 (by decide)))); omega)) rfl (hF212.get (by decide) (hF206.get (by decide) (hF199.get (by decide) h82_194))) rfl rfl rfl rfl rfl rfl (fun n220 w216 hq217 => ?_)
      obtain ⟨hn221, hI218, hF219⟩ := hq217
      obtain rfl := hn221
      refine xg_cVv mX12_puts (vs := [(0, 3), (0, u42), (0, (80 + (3 * u42)) + 2), (0, 0)]) (rest := []) (cn1 := 0) (sl1 := 0) rfl (mPuts3 (hI218) (by omega) (by omega) (by omega) (fun _ => by omega)) rfl (hF219.get (by decide) (hF212.get (by decide) (hF206.get (by decide) (hF199.get (by decide) h82_194)))) rfl rfl rfl rfl rfl rfl (fun w222 hq223 => ?_)
      obtain ⟨hI224, hF225, hx226⟩ := hq223
      obtain ⟨hp227, hp228⟩ := hx226
      refine xg_t (xg_iinc (u := 2) (z := 3) (l1 := [(0, (2, 82)), (1, (0, 3)), (2, (0, at_)), (3, (0, u42))]) rfl rfl (by decide) rfl) ?_
      refine xg_t (xg_goto) ?_
      refine xg_t (xg_blq rfl) ?_
      refine xg_t (xg_iload (va := (0, 3)) rfl rfl) ?_
      refine xg_t (xg_const) ?_
      refine xg_t (xg_icT (u := 3) (v := 3) rfl xnm0 xnm0 (by decide)) ?_
      refine xg_t (xg_blq rfl) ?_
      refine xg_t (xg_goto) ?_
      refine xg_t (xg_blq rfl) ?_
      refine xg_t (xg_aload (va := (2, 82)) rfl rfl) ?_
      refine xg_t (xg_getf (va := (0, f82_180)) (hF225.get (by decide) (hF219.get (by decide) (hF212.get (by decide) (hF206.get (by decide) (hF199.get (by decide) h82_194))))) rfl) ?_
      have hf229 : fld w222 82 10 = f82_180 := fld_of (hF225.get (by decide) (hF219.get (by decide) (hF212.get (by decide) (hF206.get (by decide) (hF199.get (by decide) h82_194)))))
      have hk230 : fld w222 82 10 ≠ 0 := (by have q := hW157.1; have q2 := fld_eq (j := 10) ((hF225.1 82 (by decide)).trans ((hF219.1 82 (by decide)).trans ((hF212.1 82 (by decide)).trans ((hF206.1 82 (by decide)).trans (hF199.1 82 (by decide)))))); omega)
      refine xg_t (xg_ifT (u := f82_180) rfl xnm0 (xj_neT (by omega))) ?_
      refine xg_t (xg_blq rfl) ?_
      refine xg_t (xg_aload (va := (2, 82)) rfl rfl) ?_
      refine xg_cVv mX12_ends (vs := []) (rest := []) (cn1 := 0) (sl1 := 0) rfl (mEndsW (hI224) (by have q := hW157.1; have q2 := fld_eq (j := 10) ((hF225.1 82 (by decide)).trans ((hF219.1 82 (by decide)).trans ((hF212.1 82 (by decide)).trans ((hF206.1 82 (by decide)).trans (hF199.1 82 (by decide)))))); omega)) rfl (hF225.get (by decide) (hF219.get (by decide) (hF212.get (by decide) (hF206.get (by decide) (hF199.get (by decide) h82_194))))) rfl rfl rfl rfl rfl rfl (fun w231 hq232 => ?_)
      obtain ⟨hI233, hF234⟩ := hq232
      refine xg_t (xg_blq rfl) ?_
      have hf235 : fld w231 82 10 = f82_180 := fld_of (hF234.get (by decide) (hF225.get (by decide) (hF219.get (by decide) (hF212.get (by decide) (hF206.get (by decide) (hF199.get (by decide) h82_194))))))
      have hf236 : fld w231 82 14 = f82_182 := fld_of (hF234.get (by decide) (hF225.get (by decide) (hF219.get (by decide) (hF212.get (by decide) (hF206.get (by decide) (hF199.get (by decide) h82_194))))))
      have hk237 := ((fld_eq (j := 14) ((hF234.1 82 (by decide)).trans ((hF225.1 82 (by decide)).trans ((hF219.1 82 (by decide)).trans ((hF212.1 82 (by decide)).trans ((hF206.1 82 (by decide)).trans (hF199.1 82 (by decide)))))))).trans k14_155)
      have hl238 : f82_182 ≤ 500 := by omega
      have hk239 : WRG w231 (tq B nn p_108) := ⟨(fld_eq (j := 10) ((hF234.1 82 (by decide)).trans ((hF225.1 82 (by decide)).trans ((hF219.1 82 (by decide)).trans ((hF212.1 82 (by decide)).trans ((hF206.1 82 (by decide)).trans (hF199.1 82 (by decide)))))))).trans hW157.1, (rwv_eq (j := 16) ((hF234.1 83 (by decide)).trans ((hF225.1 83 (by decide)).trans ((hF219.1 83 (by decide)).trans ((hF212.1 83 (by decide)).trans ((hF206.1 83 (by decide)).trans (hF199.1 83 (by decide)))))))).trans hW157.2.1, (rwv_eq (j := 17) ((hF234.1 83 (by decide)).trans ((hF225.1 83 (by decide)).trans ((hF219.1 83 (by decide)).trans ((hF212.1 83 (by decide)).trans ((hF206.1 83 (by decide)).trans (hF199.1 83 (by decide)))))))).trans hW157.2.2⟩
      refine xg_t (xg_aload (va := (2, 82)) rfl rfl) ?_
      refine xg_t (xg_getf (va := (2, 85)) (hF234.get (by decide) (hF225.get (by decide) (hF219.get (by decide) (hF212.get (by decide) (hF206.get (by decide) (hF199.get (by decide) h82_194)))))) rfl) ?_
      refine xg_t (xg_iload (va := (0, 3)) rfl rfl) ?_
      refine xg_t (xg_dup2 rfl) ?_
      refine xoI (xqc85 hI233 : cpI 7 52 4294967295 (wget w231 85)) (fun g85_240 h85_241 hb242 => ?_)
      refine xg_ialdB (n := 3) (B := 4294967295) h85_241 (hb242) xnm0 (by first | decide | omega) (fun u243 hu244 he245 => ?_)
      have hK246 : u243 = u42 := (((rwv_of h85_241 (by decide)).trans he245).symm.trans (rwv_eq ((hF234.1 85 (by decide)).trans ((hF225.1 85 (by decide)).trans ((hF219.1 85 (by decide)).trans ((hF212.1 85 (by decide)).trans ((hF206.1 85 (by decide)).trans ((hF199.1 85 (by decide)).trans ((hF149.1 85 (by decide)).trans ((hF103.1 85 (by decide)).trans hj57)))))))))).trans ((hm 3 (by decide)).trans hK45.symm)
      have hl247 : u243 ≤ 500 := by omega
      refine xg_t (xg_const) ?_
      refine xg_t (xg_iadd (u := u243) (v := 1) (z := u243 + 1) xnm0 xnm0 (by omega)) ?_
      refine xg_iastK (n := 3) (u := u243 + 1) h85_241 xnm0 xnm0 rfl (by first | decide | omega) (fun w248 hr249 hb250 => ?_)
      refine xg_t (xg_aload (va := (2, 82)) rfl rfl) ?_
      refine xg_t (xg_dup rfl) ?_
      refine xg_t (xg_getf (va := (0, f82_182)) (hb250.get (by decide) (hF234.get (by decide) (hF225.get (by decide) (hF219.get (by decide) (hF212.get (by decide) (hF206.get (by decide) (hF199.get (by decide) h82_194))))))) rfl) ?_
      have hn251 := id hb183
      unfold xHid at hn251
      refine xg_t (xg_const) ?_
      refine xg_t (xg_iadd (u := f82_182) (v := 1) (z := f82_182 + 1) xnm0 xnm0 (by omega)) ?_
      refine xg_putI (fl1 := [(2, 83), (2, 84), (0, f82_164), (0, f82_166), (0, f82_168), (0, f82_170), (0, f82_172), (0, f82_174), (0, f82_176), (0, f82_178), (0, f82_180), (2, 85), (2, 86), (2, 87), (0, f82_182 + 1), (2, 88), (2, 89), (2, 90), (2, 91), (2, 92), (2, 93), (2, 94), (4, f82_184), (4, f82_185), (0, f82_186), (2, 95), (2, 96), (2, 97), (2, 98), (2, 99), (2, 100), (2, 101), (2, 102), (0, f82_188), (2, 103), (2, 104), (2, 105), (2, 106), (2, 107), (2, 108), (2, 109), (0, f82_190), (0, f82_192), (2, 110), (2, 111), (2, 112), (2, 113)]) (hb250.get (by decide) (hF234.get (by decide) (hF225.get (by decide) (hF219.get (by decide) (hF212.get (by decide) (hF206.get (by decide) (hF199.get (by decide) h82_194))))))) rfl rfl rfl (fun w252 hk253 hb254 => ?_)
      have hf255 : fld w252 82 10 = f82_180 := fld_of hk253
      have hf256 : fld w252 82 14 = f82_182 + 1 := fld_of hk253
      exact xg_e ⟨w252, ⟨rfl, rfl⟩, xMnv.up (S := [85, 82]) hI233 ((xFr.of (S := [85, 82]) hb250 (by decide)).tr (xFr.of (S := [85, 82]) hb254 (by decide))) (List.forall_mem_cons.mpr ⟨xqu85 (show cpI 7 52 4294967295 (wget w252 85) from ⟨_, (hr249.but hb254 (by decide)), xrb (by omega) (hb242)⟩), List.forall_mem_cons.mpr ⟨xqu82 (show cp82 (wget w252 82) from xmC82 f82_164 f82_166 f82_168 f82_170 f82_172 f82_174 f82_176 f82_178 f82_180 (f82_182 + 1) f82_184 f82_185 f82_186 f82_188 f82_190 f82_192 hk253 hb165 hb167 hb169 hb171 hb173 hb175 hb177 hb179 hb181 (by omega) hb187 hb189 hb191 hb193 (by omega)), fun _ h => absurd h List.not_mem_nil⟩⟩), (((((((((hF50.tr (hF103.up (by decide))).tr (hF149.up (by decide))).tr (hF199.up (by decide))).tr (hF206.up (by decide))).tr (hF212.up (by decide))).tr (hF219.up (by decide))).tr (hF225.up (by decide))).tr (hF234.up (by decide))).tr ((xFr.of (S := [82, 83, 85, 86, 87]) hb250 (by decide)).tr (xFr.of (S := [82, 83, 85, 86, 87]) hb254 (by decide)))), ⟨Or.inl ⟨p_108, lf163, ⟨by have z := hk239.1; omega, (rwv_eq (j := 16) ((hb254.1 83 (by decide)).trans (hb250.1 83 (by decide)))).trans hk239.2.1, (rwv_eq (j := 17) ((hb254.1 83 (by decide)).trans (hb250.1 83 (by decide)))).trans hk239.2.2⟩⟩, ((((((((((hj56.tr (K83.fr hF103 (by decide))).tr k8_153).tr (K83.fr hF199 (by decide))).tr (K83.fr hF206 (by decide))).tr (K83.fr hF212 (by decide))).tr (K83.fr hF219 (by decide))).tr (K83.fr hF225 (by decide))).tr (K83.fr hF234 (by decide))).tr (K83.but hb250 (by decide))).tr (K83.but hb254 (by decide))), by omega⟩⟩
    · obtain ⟨p_257, hp258⟩ : ∃ x, x = tf B nn p_108 := ⟨_, rfl⟩
      rw [← hp258] at hT_161
      have ln259 : lnR B nn p0 = lnN B nn 3 2 p_257 := by rw [hp258]; exact ln112.trans (lnN_y (k := 2) hk156)
      have vp260 : vlp B nn (lnP B nn k) 0 = p_108 := by rw [← hp0]; exact hp109.symm
      have vl261 : vln B nn (lnP B nn k) 0 = tnu B nn p_108 := by
        show (if (0 : Nat) = 3 then _ else tnu B nn (vlp B nn (lnP B nn k) 0)) = _
        rw [if_neg (by decide), vp260]
      have he263 : (chk (mf1 B nn k 3 (flA B nn k)) 1 10 (tnu B nn p_108) (tq B nn p_108)) = (mf2 B nn k 3 (flA B nn k)) := by show _ = chk (mf1 B nn k 3 (flA B nn k)) 1 10 (vln B nn (lnP B nn k) 0) (tq B nn (vlp B nn (lnP B nn k) 0)); rw [vl261, vp260]
      have hF_262 := hF_162
      rw [he263] at hF_262
      have he265 : (mf2 B nn k 3 (flA B nn k)) = (mf3 B nn k 3 (flA B nn k)) := rfl
      have hF_264 := hF_262
      rw [he265] at hF_264
      refine xoCh82 (xqc82 hI148 : cp82 (wget w146 82)) (fun f82_266 f82_268 f82_270 f82_272 f82_274 f82_276 f82_278 f82_280 f82_282 f82_284 f82_286 f82_287 f82_288 f82_290 f82_292 f82_294 h82_296 hb267 hb269 hb271 hb273 hb275 hb277 hb279 hb281 hb283 hb285 hb289 hb291 hb293 hb295 hb297 => ?_)
      refine xg_cVv mX12_puts (vs := [(0, 3), (0, u42), (0, (80 + (3 * u42)) + 0), (0, n150)]) (rest := []) (cn1 := 0) (sl1 := 0) rfl (mPuts3 (hI148) (by omega) (by omega) (by omega) (fun _ => by omega)) rfl h82_296 rfl rfl rfl rfl rfl rfl (fun w298 hq299 => ?_)
      obtain ⟨hI300, hF301, hx302⟩ := hq299
      obtain ⟨hp303, hp304⟩ := hx302
      refine xg_t (xg_iinc (u := 0) (z := 1) (l1 := [(0, (2, 82)), (1, (0, 3)), (2, (0, at_)), (3, (0, u42))]) rfl rfl (by decide) rfl) ?_
      refine xg_t (xg_goto) ?_
      refine xg_t (xg_blq rfl) ?_
      refine xg_t (xg_iload (va := (0, 1)) rfl rfl) ?_
      refine xg_t (xg_const) ?_
      refine xg_t (xg_icF (u := 1) (v := 3) rfl xnm0 xnm0 (by decide)) ?_
      refine xg_t (xg_aload (va := (2, 82)) rfl rfl) ?_
      refine xg_t (xg_iload (va := (0, 3)) rfl rfl) ?_
      refine xg_t (xg_iload (va := (0, u42)) rfl rfl) ?_
      refine xg_t (xg_bip) ?_
      refine xg_t (xg_const) ?_
      refine xg_t (xg_iload (va := (0, u42)) rfl rfl) ?_
      refine xg_t (xg_imul (u := 3) (v := u42) (z := 3 * u42) xnm0 xnm0 (by omega)) ?_
      refine xg_t (xg_iadd (u := 80) (v := 3 * u42) (z := 80 + (3 * u42)) xnm0 xnm0 (by omega)) ?_
      refine xg_t (xg_iload (va := (0, 1)) rfl rfl) ?_
      refine xg_t (xg_iadd (u := 80 + (3 * u42)) (v := 1) (z := (80 + (3 * u42)) + 1) xnm0 xnm0 (by omega)) ?_
      refine xg_t (xg_aload (va := (2, 82)) rfl rfl) ?_
      refine xg_t (xg_const) ?_
      refine xg_t (xg_iload (va := (0, 1)) rfl rfl) ?_
      refine xg_t (xg_const) ?_
      refine xg_t (xg_icF (u := 1) (v := 2) rfl xnm0 xnm0 (by decide)) ?_
      refine xg_t (xg_bip) ?_
      refine xg_t (xg_goto) ?_
      refine xg_t (xg_blq rfl) ?_
      have hk305 := ((fld_eq (j := 14) (hF301.1 82 (by decide))).trans k14_155)
      refine xg_cVi mX12_numbered (vs := [(0, 1), (0, 10)]) (rest := [(0, (80 + (3 * u42)) + 1), (0, u42), (0, 3), (2, 82)]) (cn1 := 0) (sl1 := 0) rfl (mNumX (ir := 0) (hI300) (by omega) (by omega) (hB.fr (fun j h4 h9 => (((hj56.tr (K83.fr hF103 (by decide))).tr k8_153).tr (K83.fr hF301 (by decide))) j (by omega) (by omega) (by omega))) ((fld_eq (j := 10) (hF301.1 82 (by decide))).trans k10_160) (hT_161.fr (hF301.1 82 (by decide))) (hF_264.k83 (rwv_eq (hF301.1 83 (by decide))) (rwv_eq (hF301.1 83 (by decide))))) rfl (hF301.get (by decide) h82_296) rfl rfl rfl rfl rfl rfl (fun n310 w306 hq307 => ?_)
      obtain ⟨hn311, hI308, hF309⟩ := hq307
      obtain ⟨hx314, h14_312, k8_313⟩ := hn311
      have k14_315 := h14_312.trans hk305
      rcases hx314 with ⟨rfl, hk316, hW317⟩ | ⟨hv318, h9_319, hk316, k10_320, hT_321, hF_322⟩
      · have lf323 : lnR B nn p0 = (false, p_257) := ln259.trans (lnN_n (k := 1) hk316)
        refine xoCh82 (xqc82 hI308 : cp82 (wget w306 82)) (fun f82_324 f82_326 f82_328 f82_330 f82_332 f82_334 f82_336 f82_338 f82_340 f82_342 f82_344 f82_345 f82_346 f82_348 f82_350 f82_352 h82_354 hb325 hb327 hb329 hb331 hb333 hb335 hb337 hb339 hb341 hb343 hb347 hb349 hb351 hb353 hb355 => ?_)
        refine xg_cVv mX12_puts (vs := [(0, 3), (0, u42), (0, (80 + (3 * u42)) + 1), (0, 0)]) (rest := []) (cn1 := 0) (sl1 := 0) rfl (mPuts3 (hI308) (by omega) (by omega) (by omega) (fun _ => by omega)) rfl h82_354 rfl rfl rfl rfl rfl rfl (fun w356 hq357 => ?_)
        obtain ⟨hI358, hF359, hx360⟩ := hq357
        obtain ⟨hp361, hp362⟩ := hx360
        refine xg_t (xg_iinc (u := 1) (z := 2) (l1 := [(0, (2, 82)), (1, (0, 3)), (2, (0, at_)), (3, (0, u42))]) rfl rfl (by decide) rfl) ?_
        refine xg_t (xg_goto) ?_
        refine xg_t (xg_blq rfl) ?_
        refine xg_t (xg_iload (va := (0, 2)) rfl rfl) ?_
        refine xg_t (xg_const) ?_
        refine xg_t (xg_icF (u := 2) (v := 3) rfl xnm0 xnm0 (by decide)) ?_
        refine xg_t (xg_aload (va := (2, 82)) rfl rfl) ?_
        refine xg_t (xg_iload (va := (0, 3)) rfl rfl) ?_
        refine xg_t (xg_iload (va := (0, u42)) rfl rfl) ?_
        refine xg_t (xg_bip) ?_
        refine xg_t (xg_const) ?_
        refine xg_t (xg_iload (va := (0, u42)) rfl rfl) ?_
        refine xg_t (xg_imul (u := 3) (v := u42) (z := 3 * u42) xnm0 xnm0 (by omega)) ?_
        refine xg_t (xg_iadd (u := 80) (v := 3 * u42) (z := 80 + (3 * u42)) xnm0 xnm0 (by omega)) ?_
        refine xg_t (xg_iload (va := (0, 2)) rfl rfl) ?_
        refine xg_t (xg_iadd (u := 80 + (3 * u42)) (v := 2) (z := (80 + (3 * u42)) + 2) xnm0 xnm0 (by omega)) ?_
        refine xg_t (xg_aload (va := (2, 82)) rfl rfl) ?_
        refine xg_t (xg_const) ?_
        refine xg_t (xg_iload (va := (0, 2)) rfl rfl) ?_
        refine xg_t (xg_const) ?_
        refine xg_t (xg_icT (u := 2) (v := 2) rfl xnm0 xnm0 (by decide)) ?_
        refine xg_t (xg_blq rfl) ?_
        refine xg_t (xg_sip) ?_
        refine xg_t (xg_blq rfl) ?_
        refine xg_cVi mX12_numbered (vs := [(0, 1), (0, 999)]) (rest := [(0, (80 + (3 * u42)) + 2), (0, u42), (0, 3), (2, 82)]) (cn1 := 0) (sl1 := 0) rfl (mNumW (hI358) (by omega) (by omega) (by have q := hW317.1; have q2 := fld_eq (j := 10) (hF359.1 82 (by decide)); omega)) rfl (hF359.get (by decide) h82_354) rfl rfl rfl rfl rfl rfl (fun n367 w363 hq364 => ?_)
        obtain ⟨hn368, hI365, hF366⟩ := hq364
        obtain rfl := hn368
        refine xg_cVv mX12_puts (vs := [(0, 3), (0, u42), (0, (80 + (3 * u42)) + 2), (0, 0)]) (rest := []) (cn1 := 0) (sl1 := 0) rfl (mPuts3 (hI365) (by omega) (by omega) (by omega) (fun _ => by omega)) rfl (hF366.get (by decide) (hF359.get (by decide) h82_354)) rfl rfl rfl rfl rfl rfl (fun w369 hq370 => ?_)
        obtain ⟨hI371, hF372, hx373⟩ := hq370
        obtain ⟨hp374, hp375⟩ := hx373
        refine xg_t (xg_iinc (u := 2) (z := 3) (l1 := [(0, (2, 82)), (1, (0, 3)), (2, (0, at_)), (3, (0, u42))]) rfl rfl (by decide) rfl) ?_
        refine xg_t (xg_goto) ?_
        refine xg_t (xg_blq rfl) ?_
        refine xg_t (xg_iload (va := (0, 3)) rfl rfl) ?_
        refine xg_t (xg_const) ?_
        refine xg_t (xg_icT (u := 3) (v := 3) rfl xnm0 xnm0 (by decide)) ?_
        refine xg_t (xg_blq rfl) ?_
        refine xg_t (xg_goto) ?_
        refine xg_t (xg_blq rfl) ?_
        refine xg_t (xg_aload (va := (2, 82)) rfl rfl) ?_
        refine xg_t (xg_getf (va := (0, f82_340)) (hF372.get (by decide) (hF366.get (by decide) (hF359.get (by decide) h82_354))) rfl) ?_
        have hf376 : fld w369 82 10 = f82_340 := fld_of (hF372.get (by decide) (hF366.get (by decide) (hF359.get (by decide) h82_354)))
        have hk377 : fld w369 82 10 ≠ 0 := (by have q := hW317.1; have q2 := fld_eq (j := 10) ((hF372.1 82 (by decide)).trans ((hF366.1 82 (by decide)).trans (hF359.1 82 (by decide)))); omega)
        refine xg_t (xg_ifT (u := f82_340) rfl xnm0 (xj_neT (by omega))) ?_
        refine xg_t (xg_blq rfl) ?_
        refine xg_t (xg_aload (va := (2, 82)) rfl rfl) ?_
        refine xg_cVv mX12_ends (vs := []) (rest := []) (cn1 := 0) (sl1 := 0) rfl (mEndsW (hI371) (by have q := hW317.1; have q2 := fld_eq (j := 10) ((hF372.1 82 (by decide)).trans ((hF366.1 82 (by decide)).trans (hF359.1 82 (by decide)))); omega)) rfl (hF372.get (by decide) (hF366.get (by decide) (hF359.get (by decide) h82_354))) rfl rfl rfl rfl rfl rfl (fun w378 hq379 => ?_)
        obtain ⟨hI380, hF381⟩ := hq379
        refine xg_t (xg_blq rfl) ?_
        have hf382 : fld w378 82 10 = f82_340 := fld_of (hF381.get (by decide) (hF372.get (by decide) (hF366.get (by decide) (hF359.get (by decide) h82_354))))
        have hf383 : fld w378 82 14 = f82_342 := fld_of (hF381.get (by decide) (hF372.get (by decide) (hF366.get (by decide) (hF359.get (by decide) h82_354))))
        have hk384 := ((fld_eq (j := 14) ((hF381.1 82 (by decide)).trans ((hF372.1 82 (by decide)).trans ((hF366.1 82 (by decide)).trans (hF359.1 82 (by decide)))))).trans k14_315)
        have hl385 : f82_342 ≤ 500 := by omega
        have hk386 : WRG w378 (tq B nn p_257) := ⟨(fld_eq (j := 10) ((hF381.1 82 (by decide)).trans ((hF372.1 82 (by decide)).trans ((hF366.1 82 (by decide)).trans (hF359.1 82 (by decide)))))).trans hW317.1, (rwv_eq (j := 16) ((hF381.1 83 (by decide)).trans ((hF372.1 83 (by decide)).trans ((hF366.1 83 (by decide)).trans (hF359.1 83 (by decide)))))).trans hW317.2.1, (rwv_eq (j := 17) ((hF381.1 83 (by decide)).trans ((hF372.1 83 (by decide)).trans ((hF366.1 83 (by decide)).trans (hF359.1 83 (by decide)))))).trans hW317.2.2⟩
        refine xg_t (xg_aload (va := (2, 82)) rfl rfl) ?_
        refine xg_t (xg_getf (va := (2, 85)) (hF381.get (by decide) (hF372.get (by decide) (hF366.get (by decide) (hF359.get (by decide) h82_354)))) rfl) ?_
        refine xg_t (xg_iload (va := (0, 3)) rfl rfl) ?_
        refine xg_t (xg_dup2 rfl) ?_
        refine xoI (xqc85 hI380 : cpI 7 52 4294967295 (wget w378 85)) (fun g85_387 h85_388 hb389 => ?_)
        refine xg_ialdB (n := 3) (B := 4294967295) h85_388 (hb389) xnm0 (by first | decide | omega) (fun u390 hu391 he392 => ?_)
        have hK393 : u390 = u42 := (((rwv_of h85_388 (by decide)).trans he392).symm.trans (rwv_eq ((hF381.1 85 (by decide)).trans ((hF372.1 85 (by decide)).trans ((hF366.1 85 (by decide)).trans ((hF359.1 85 (by decide)).trans ((hF309.1 85 (by decide)).trans ((hF301.1 85 (by decide)).trans ((hF149.1 85 (by decide)).trans ((hF103.1 85 (by decide)).trans hj57)))))))))).trans ((hm 3 (by decide)).trans hK45.symm)
        have hl394 : u390 ≤ 500 := by omega
        refine xg_t (xg_const) ?_
        refine xg_t (xg_iadd (u := u390) (v := 1) (z := u390 + 1) xnm0 xnm0 (by omega)) ?_
        refine xg_iastK (n := 3) (u := u390 + 1) h85_388 xnm0 xnm0 rfl (by first | decide | omega) (fun w395 hr396 hb397 => ?_)
        refine xg_t (xg_aload (va := (2, 82)) rfl rfl) ?_
        refine xg_t (xg_dup rfl) ?_
        refine xg_t (xg_getf (va := (0, f82_342)) (hb397.get (by decide) (hF381.get (by decide) (hF372.get (by decide) (hF366.get (by decide) (hF359.get (by decide) h82_354))))) rfl) ?_
        have hn398 := id hb343
        unfold xHid at hn398
        refine xg_t (xg_const) ?_
        refine xg_t (xg_iadd (u := f82_342) (v := 1) (z := f82_342 + 1) xnm0 xnm0 (by omega)) ?_
        refine xg_putI (fl1 := [(2, 83), (2, 84), (0, f82_324), (0, f82_326), (0, f82_328), (0, f82_330), (0, f82_332), (0, f82_334), (0, f82_336), (0, f82_338), (0, f82_340), (2, 85), (2, 86), (2, 87), (0, f82_342 + 1), (2, 88), (2, 89), (2, 90), (2, 91), (2, 92), (2, 93), (2, 94), (4, f82_344), (4, f82_345), (0, f82_346), (2, 95), (2, 96), (2, 97), (2, 98), (2, 99), (2, 100), (2, 101), (2, 102), (0, f82_348), (2, 103), (2, 104), (2, 105), (2, 106), (2, 107), (2, 108), (2, 109), (0, f82_350), (0, f82_352), (2, 110), (2, 111), (2, 112), (2, 113)]) (hb397.get (by decide) (hF381.get (by decide) (hF372.get (by decide) (hF366.get (by decide) (hF359.get (by decide) h82_354))))) rfl rfl rfl (fun w399 hk400 hb401 => ?_)
        have hf402 : fld w399 82 10 = f82_340 := fld_of hk400
        have hf403 : fld w399 82 14 = f82_342 + 1 := fld_of hk400
        exact xg_e ⟨w399, ⟨rfl, rfl⟩, xMnv.up (S := [85, 82]) hI380 ((xFr.of (S := [85, 82]) hb397 (by decide)).tr (xFr.of (S := [85, 82]) hb401 (by decide))) (List.forall_mem_cons.mpr ⟨xqu85 (show cpI 7 52 4294967295 (wget w399 85) from ⟨_, (hr396.but hb401 (by decide)), xrb (by omega) (hb389)⟩), List.forall_mem_cons.mpr ⟨xqu82 (show cp82 (wget w399 82) from xmC82 f82_324 f82_326 f82_328 f82_330 f82_332 f82_334 f82_336 f82_338 f82_340 (f82_342 + 1) f82_344 f82_345 f82_346 f82_348 f82_350 f82_352 hk400 hb325 hb327 hb329 hb331 hb333 hb335 hb337 hb339 hb341 (by omega) hb347 hb349 hb351 hb353 (by omega)), fun _ h => absurd h List.not_mem_nil⟩⟩), (((((((((hF50.tr (hF103.up (by decide))).tr (hF149.up (by decide))).tr (hF301.up (by decide))).tr (hF309.up (by decide))).tr (hF359.up (by decide))).tr (hF366.up (by decide))).tr (hF372.up (by decide))).tr (hF381.up (by decide))).tr ((xFr.of (S := [82, 83, 85, 86, 87]) hb397 (by decide)).tr (xFr.of (S := [82, 83, 85, 86, 87]) hb401 (by decide)))), ⟨Or.inl ⟨p_257, lf323, ⟨by have z := hk386.1; omega, (rwv_eq (j := 16) ((hb401.1 83 (by decide)).trans (hb397.1 83 (by decide)))).trans hk386.2.1, (rwv_eq (j := 17) ((hb401.1 83 (by decide)).trans (hb397.1 83 (by decide)))).trans hk386.2.2⟩⟩, ((((((((((hj56.tr (K83.fr hF103 (by decide))).tr k8_153).tr (K83.fr hF301 (by decide))).tr k8_313).tr (K83.fr hF359 (by decide))).tr (K83.fr hF366 (by decide))).tr (K83.fr hF372 (by decide))).tr (K83.fr hF381 (by decide))).tr (K83.but hb397 (by decide))).tr (K83.but hb401 (by decide))), by omega⟩⟩
      · obtain ⟨p_404, hp405⟩ : ∃ x, x = tf B nn p_257 := ⟨_, rfl⟩
        rw [← hp405] at hT_321
        have ln406 : lnR B nn p0 = lnN B nn 3 1 p_404 := by rw [hp405]; exact ln259.trans (lnN_y (k := 1) hk316)
        have vp407 : vlp B nn (lnP B nn k) 1 = p_257 := by show tf B nn (vlp B nn (lnP B nn k) 0) = p_257; rw [vp260]; exact hp258.symm
        have vl408 : vln B nn (lnP B nn k) 1 = tnu B nn p_257 := by
          show (if (1 : Nat) = 3 then _ else tnu B nn (vlp B nn (lnP B nn k) 1)) = _
          rw [if_neg (by decide), vp407]
        have he410 : (chk (mf3 B nn k 3 (flA B nn k)) 1 10 (tnu B nn p_257) (tq B nn p_257)) = (mf4 B nn k 3 (flA B nn k)) := by show _ = chk (mf3 B nn k 3 (flA B nn k)) 1 10 (vln B nn (lnP B nn k) 1) (tq B nn (vlp B nn (lnP B nn k) 1)); rw [vl408, vp407]
        have hF_409 := hF_322
        rw [he410] at hF_409
        refine xoCh82 (xqc82 hI308 : cp82 (wget w306 82)) (fun f82_411 f82_413 f82_415 f82_417 f82_419 f82_421 f82_423 f82_425 f82_427 f82_429 f82_431 f82_432 f82_433 f82_435 f82_437 f82_439 h82_441 hb412 hb414 hb416 hb418 hb420 hb422 hb424 hb426 hb428 hb430 hb434 hb436 hb438 hb440 hb442 => ?_)
        refine xg_cVv mX12_puts (vs := [(0, 3), (0, u42), (0, (80 + (3 * u42)) + 1), (0, n310)]) (rest := []) (cn1 := 0) (sl1 := 0) rfl (mPuts3 (hI308) (by omega) (by omega) (by omega) (fun _ => by omega)) rfl h82_441 rfl rfl rfl rfl rfl rfl (fun w443 hq444 => ?_)
        obtain ⟨hI445, hF446, hx447⟩ := hq444
        obtain ⟨hp448, hp449⟩ := hx447
        refine xg_t (xg_iinc (u := 1) (z := 2) (l1 := [(0, (2, 82)), (1, (0, 3)), (2, (0, at_)), (3, (0, u42))]) rfl rfl (by decide) rfl) ?_
        refine xg_t (xg_goto) ?_
        refine xg_t (xg_blq rfl) ?_
        refine xg_t (xg_iload (va := (0, 2)) rfl rfl) ?_
        refine xg_t (xg_const) ?_
        refine xg_t (xg_icF (u := 2) (v := 3) rfl xnm0 xnm0 (by decide)) ?_
        refine xg_t (xg_aload (va := (2, 82)) rfl rfl) ?_
        refine xg_t (xg_iload (va := (0, 3)) rfl rfl) ?_
        refine xg_t (xg_iload (va := (0, u42)) rfl rfl) ?_
        refine xg_t (xg_bip) ?_
        refine xg_t (xg_const) ?_
        refine xg_t (xg_iload (va := (0, u42)) rfl rfl) ?_
        refine xg_t (xg_imul (u := 3) (v := u42) (z := 3 * u42) xnm0 xnm0 (by omega)) ?_
        refine xg_t (xg_iadd (u := 80) (v := 3 * u42) (z := 80 + (3 * u42)) xnm0 xnm0 (by omega)) ?_
        refine xg_t (xg_iload (va := (0, 2)) rfl rfl) ?_
        refine xg_t (xg_iadd (u := 80 + (3 * u42)) (v := 2) (z := (80 + (3 * u42)) + 2) xnm0 xnm0 (by omega)) ?_
        refine xg_t (xg_aload (va := (2, 82)) rfl rfl) ?_
        refine xg_t (xg_const) ?_
        refine xg_t (xg_iload (va := (0, 2)) rfl rfl) ?_
        refine xg_t (xg_const) ?_
        refine xg_t (xg_icT (u := 2) (v := 2) rfl xnm0 xnm0 (by decide)) ?_
        refine xg_t (xg_blq rfl) ?_
        refine xg_t (xg_sip) ?_
        refine xg_t (xg_blq rfl) ?_
        have hk450 := ((fld_eq (j := 14) (hF446.1 82 (by decide))).trans k14_315)
        refine xg_cVi mX12_numbered (vs := [(0, 1), (0, 999)]) (rest := [(0, (80 + (3 * u42)) + 2), (0, u42), (0, 3), (2, 82)]) (cn1 := 0) (sl1 := 0) rfl (mNumX (ir := 0) (hI445) (by omega) (by omega) (hB.fr (fun j h4 h9 => (((((hj56.tr (K83.fr hF103 (by decide))).tr k8_153).tr (K83.fr hF301 (by decide))).tr k8_313).tr (K83.fr hF446 (by decide))) j (by omega) (by omega) (by omega))) ((fld_eq (j := 10) (hF446.1 82 (by decide))).trans k10_320) (hT_321.fr (hF446.1 82 (by decide))) (hF_409.k83 (rwv_eq (hF446.1 83 (by decide))) (rwv_eq (hF446.1 83 (by decide))))) rfl (hF446.get (by decide) h82_441) rfl rfl rfl rfl rfl rfl (fun n455 w451 hq452 => ?_)
        obtain ⟨hn456, hI453, hF454⟩ := hq452
        obtain ⟨hx459, h14_457, k8_458⟩ := hn456
        have k14_460 := h14_457.trans hk450
        rcases hx459 with ⟨rfl, hk461, hW462⟩ | ⟨hv463, h9_464, hk461, k10_465, hT_466, hF_467⟩
        · have lf468 : lnR B nn p0 = (false, p_404) := ln406.trans (lnN_n (k := 0) hk461)
          refine xoCh82 (xqc82 hI453 : cp82 (wget w451 82)) (fun f82_469 f82_471 f82_473 f82_475 f82_477 f82_479 f82_481 f82_483 f82_485 f82_487 f82_489 f82_490 f82_491 f82_493 f82_495 f82_497 h82_499 hb470 hb472 hb474 hb476 hb478 hb480 hb482 hb484 hb486 hb488 hb492 hb494 hb496 hb498 hb500 => ?_)
          refine xg_cVv mX12_puts (vs := [(0, 3), (0, u42), (0, (80 + (3 * u42)) + 2), (0, 0)]) (rest := []) (cn1 := 0) (sl1 := 0) rfl (mPuts3 (hI453) (by omega) (by omega) (by omega) (fun _ => by omega)) rfl h82_499 rfl rfl rfl rfl rfl rfl (fun w501 hq502 => ?_)
          obtain ⟨hI503, hF504, hx505⟩ := hq502
          obtain ⟨hp506, hp507⟩ := hx505
          refine xg_t (xg_iinc (u := 2) (z := 3) (l1 := [(0, (2, 82)), (1, (0, 3)), (2, (0, at_)), (3, (0, u42))]) rfl rfl (by decide) rfl) ?_
          refine xg_t (xg_goto) ?_
          refine xg_t (xg_blq rfl) ?_
          refine xg_t (xg_iload (va := (0, 3)) rfl rfl) ?_
          refine xg_t (xg_const) ?_
          refine xg_t (xg_icT (u := 3) (v := 3) rfl xnm0 xnm0 (by decide)) ?_
          refine xg_t (xg_blq rfl) ?_
          refine xg_t (xg_goto) ?_
          refine xg_t (xg_blq rfl) ?_
          refine xg_t (xg_aload (va := (2, 82)) rfl rfl) ?_
          refine xg_t (xg_getf (va := (0, f82_485)) (hF504.get (by decide) h82_499) rfl) ?_
          have hf508 : fld w501 82 10 = f82_485 := fld_of (hF504.get (by decide) h82_499)
          have hk509 : fld w501 82 10 ≠ 0 := (by have q := hW462.1; have q2 := fld_eq (j := 10) (hF504.1 82 (by decide)); omega)
          refine xg_t (xg_ifT (u := f82_485) rfl xnm0 (xj_neT (by omega))) ?_
          refine xg_t (xg_blq rfl) ?_
          refine xg_t (xg_aload (va := (2, 82)) rfl rfl) ?_
          refine xg_cVv mX12_ends (vs := []) (rest := []) (cn1 := 0) (sl1 := 0) rfl (mEndsW (hI503) (by have q := hW462.1; have q2 := fld_eq (j := 10) (hF504.1 82 (by decide)); omega)) rfl (hF504.get (by decide) h82_499) rfl rfl rfl rfl rfl rfl (fun w510 hq511 => ?_)
          obtain ⟨hI512, hF513⟩ := hq511
          refine xg_t (xg_blq rfl) ?_
          have hf514 : fld w510 82 10 = f82_485 := fld_of (hF513.get (by decide) (hF504.get (by decide) h82_499))
          have hf515 : fld w510 82 14 = f82_487 := fld_of (hF513.get (by decide) (hF504.get (by decide) h82_499))
          have hk516 := ((fld_eq (j := 14) ((hF513.1 82 (by decide)).trans (hF504.1 82 (by decide)))).trans k14_460)
          have hl517 : f82_487 ≤ 500 := by omega
          have hk518 : WRG w510 (tq B nn p_404) := ⟨(fld_eq (j := 10) ((hF513.1 82 (by decide)).trans (hF504.1 82 (by decide)))).trans hW462.1, (rwv_eq (j := 16) ((hF513.1 83 (by decide)).trans (hF504.1 83 (by decide)))).trans hW462.2.1, (rwv_eq (j := 17) ((hF513.1 83 (by decide)).trans (hF504.1 83 (by decide)))).trans hW462.2.2⟩
          refine xg_t (xg_aload (va := (2, 82)) rfl rfl) ?_
          refine xg_t (xg_getf (va := (2, 85)) (hF513.get (by decide) (hF504.get (by decide) h82_499)) rfl) ?_
          refine xg_t (xg_iload (va := (0, 3)) rfl rfl) ?_
          refine xg_t (xg_dup2 rfl) ?_
          refine xoI (xqc85 hI512 : cpI 7 52 4294967295 (wget w510 85)) (fun g85_519 h85_520 hb521 => ?_)
          refine xg_ialdB (n := 3) (B := 4294967295) h85_520 (hb521) xnm0 (by first | decide | omega) (fun u522 hu523 he524 => ?_)
          have hK525 : u522 = u42 := (((rwv_of h85_520 (by decide)).trans he524).symm.trans (rwv_eq ((hF513.1 85 (by decide)).trans ((hF504.1 85 (by decide)).trans ((hF454.1 85 (by decide)).trans ((hF446.1 85 (by decide)).trans ((hF309.1 85 (by decide)).trans ((hF301.1 85 (by decide)).trans ((hF149.1 85 (by decide)).trans ((hF103.1 85 (by decide)).trans hj57)))))))))).trans ((hm 3 (by decide)).trans hK45.symm)
          have hl526 : u522 ≤ 500 := by omega
          refine xg_t (xg_const) ?_
          refine xg_t (xg_iadd (u := u522) (v := 1) (z := u522 + 1) xnm0 xnm0 (by omega)) ?_
          refine xg_iastK (n := 3) (u := u522 + 1) h85_520 xnm0 xnm0 rfl (by first | decide | omega) (fun w527 hr528 hb529 => ?_)
          refine xg_t (xg_aload (va := (2, 82)) rfl rfl) ?_
          refine xg_t (xg_dup rfl) ?_
          refine xg_t (xg_getf (va := (0, f82_487)) (hb529.get (by decide) (hF513.get (by decide) (hF504.get (by decide) h82_499))) rfl) ?_
          have hn530 := id hb488
          unfold xHid at hn530
          refine xg_t (xg_const) ?_
          refine xg_t (xg_iadd (u := f82_487) (v := 1) (z := f82_487 + 1) xnm0 xnm0 (by omega)) ?_
          refine xg_putI (fl1 := [(2, 83), (2, 84), (0, f82_469), (0, f82_471), (0, f82_473), (0, f82_475), (0, f82_477), (0, f82_479), (0, f82_481), (0, f82_483), (0, f82_485), (2, 85), (2, 86), (2, 87), (0, f82_487 + 1), (2, 88), (2, 89), (2, 90), (2, 91), (2, 92), (2, 93), (2, 94), (4, f82_489), (4, f82_490), (0, f82_491), (2, 95), (2, 96), (2, 97), (2, 98), (2, 99), (2, 100), (2, 101), (2, 102), (0, f82_493), (2, 103), (2, 104), (2, 105), (2, 106), (2, 107), (2, 108), (2, 109), (0, f82_495), (0, f82_497), (2, 110), (2, 111), (2, 112), (2, 113)]) (hb529.get (by decide) (hF513.get (by decide) (hF504.get (by decide) h82_499))) rfl rfl rfl (fun w531 hk532 hb533 => ?_)
          have hf534 : fld w531 82 10 = f82_485 := fld_of hk532
          have hf535 : fld w531 82 14 = f82_487 + 1 := fld_of hk532
          exact xg_e ⟨w531, ⟨rfl, rfl⟩, xMnv.up (S := [85, 82]) hI512 ((xFr.of (S := [85, 82]) hb529 (by decide)).tr (xFr.of (S := [85, 82]) hb533 (by decide))) (List.forall_mem_cons.mpr ⟨xqu85 (show cpI 7 52 4294967295 (wget w531 85) from ⟨_, (hr528.but hb533 (by decide)), xrb (by omega) (hb521)⟩), List.forall_mem_cons.mpr ⟨xqu82 (show cp82 (wget w531 82) from xmC82 f82_469 f82_471 f82_473 f82_475 f82_477 f82_479 f82_481 f82_483 f82_485 (f82_487 + 1) f82_489 f82_490 f82_491 f82_493 f82_495 f82_497 hk532 hb470 hb472 hb474 hb476 hb478 hb480 hb482 hb484 hb486 (by omega) hb492 hb494 hb496 hb498 (by omega)), fun _ h => absurd h List.not_mem_nil⟩⟩), (((((((((hF50.tr (hF103.up (by decide))).tr (hF149.up (by decide))).tr (hF301.up (by decide))).tr (hF309.up (by decide))).tr (hF446.up (by decide))).tr (hF454.up (by decide))).tr (hF504.up (by decide))).tr (hF513.up (by decide))).tr ((xFr.of (S := [82, 83, 85, 86, 87]) hb529 (by decide)).tr (xFr.of (S := [82, 83, 85, 86, 87]) hb533 (by decide)))), ⟨Or.inl ⟨p_404, lf468, ⟨by have z := hk518.1; omega, (rwv_eq (j := 16) ((hb533.1 83 (by decide)).trans (hb529.1 83 (by decide)))).trans hk518.2.1, (rwv_eq (j := 17) ((hb533.1 83 (by decide)).trans (hb529.1 83 (by decide)))).trans hk518.2.2⟩⟩, ((((((((((hj56.tr (K83.fr hF103 (by decide))).tr k8_153).tr (K83.fr hF301 (by decide))).tr k8_313).tr (K83.fr hF446 (by decide))).tr k8_458).tr (K83.fr hF504 (by decide))).tr (K83.fr hF513 (by decide))).tr (K83.but hb529 (by decide))).tr (K83.but hb533 (by decide))), by omega⟩⟩
        · obtain ⟨p_536, hp537⟩ : ∃ x, x = tf B nn p_404 := ⟨_, rfl⟩
          rw [← hp537] at hT_466
          have ln538 : lnR B nn p0 = lnN B nn 3 0 p_536 := by rw [hp537]; exact ln406.trans (lnN_y (k := 0) hk461)
          have vp539 : vlp B nn (lnP B nn k) 2 = p_404 := by show tf B nn (vlp B nn (lnP B nn k) 1) = p_404; rw [vp407]; exact hp405.symm
          have vl540 : vln B nn (lnP B nn k) 2 = tnu B nn p_404 := by
            show (if (2 : Nat) = 3 then _ else tnu B nn (vlp B nn (lnP B nn k) 2)) = _
            rw [if_neg (by decide), vp539]
          have he542 : (chk (mf4 B nn k 3 (flA B nn k)) 1 999 (tnu B nn p_404) (tq B nn p_404)) = (mfl B nn k 3 (flA B nn k)) := by show _ = chk (mf4 B nn k 3 (flA B nn k)) 1 999 (vln B nn (lnP B nn k) 2) (tq B nn (vlp B nn (lnP B nn k) 2)); rw [vl540, vp539]
          have hF_541 := hF_467
          rw [he542] at hF_541
          refine xoCh82 (xqc82 hI453 : cp82 (wget w451 82)) (fun f82_543 f82_545 f82_547 f82_549 f82_551 f82_553 f82_555 f82_557 f82_559 f82_561 f82_563 f82_564 f82_565 f82_567 f82_569 f82_571 h82_573 hb544 hb546 hb548 hb550 hb552 hb554 hb556 hb558 hb560 hb562 hb566 hb568 hb570 hb572 hb574 => ?_)
          refine xg_cVv mX12_puts (vs := [(0, 3), (0, u42), (0, (80 + (3 * u42)) + 2), (0, n455)]) (rest := []) (cn1 := 0) (sl1 := 0) rfl (mPuts3 (hI453) (by omega) (by omega) (by omega) (fun _ => by omega)) rfl h82_573 rfl rfl rfl rfl rfl rfl (fun w575 hq576 => ?_)
          obtain ⟨hI577, hF578, hx579⟩ := hq576
          obtain ⟨hp580, hp581⟩ := hx579
          refine xg_t (xg_iinc (u := 2) (z := 3) (l1 := [(0, (2, 82)), (1, (0, 3)), (2, (0, at_)), (3, (0, u42))]) rfl rfl (by decide) rfl) ?_
          refine xg_t (xg_goto) ?_
          refine xg_t (xg_blq rfl) ?_
          refine xg_t (xg_iload (va := (0, 3)) rfl rfl) ?_
          refine xg_t (xg_const) ?_
          refine xg_t (xg_icT (u := 3) (v := 3) rfl xnm0 xnm0 (by decide)) ?_
          refine xg_t (xg_blq rfl) ?_
          refine xg_t (xg_goto) ?_
          refine xg_t (xg_blq rfl) ?_
          have ln582 : lnR B nn p0 = lnS B nn p_536 := by exact ln538.trans (lnN_0 (by decide))
          refine xg_t (xg_aload (va := (2, 82)) rfl rfl) ?_
          refine xg_t (xg_getf (va := (0, f82_559)) (hF578.get (by decide) h82_573) rfl) ?_
          have hf583 : fld w575 82 10 = f82_559 := fld_of (hF578.get (by decide) h82_573)
          have hk584 : fld w575 82 10 = 0 := ((fld_eq (j := 10) (hF578.1 82 (by decide))).trans k10_465)
          refine xg_t (xg_ifF (u := f82_559) rfl xnm0 (xj_neF (by omega))) ?_
          obtain ⟨⟨ht585, ht586, ht587, ht588, ht589, ht590⟩, ht591, ht592, ht593⟩ := id (hT_466.fr (hF578.1 82 (by decide)))
          have hf594 : fld w575 82 6 = f82_551 := fld_of (hF578.get (by decide) h82_573)
          have hf595 : fld w575 82 7 = f82_553 := fld_of (hF578.get (by decide) h82_573)
          have hf596 : fld w575 82 8 = f82_555 := fld_of (hF578.get (by decide) h82_573)
          have hf597 : fld w575 82 9 = f82_557 := fld_of (hF578.get (by decide) h82_573)
          have hf598 : fld w575 82 3 = f82_545 := fld_of (hF578.get (by decide) h82_573)
          have hmk599 := mkd_of (ir := 0) (B := B) (n := nn) (p := p_536)
          refine xg_t (xg_aload (va := (2, 82)) rfl rfl) ?_
          refine xg_t (xg_getf (va := (0, f82_553)) (hF578.get (by decide) h82_573) rfl) ?_
          refine xg_t (xg_const) ?_
          by_cases hc600 : f82_553 = 2
          · refine xg_t (xg_icF (u := f82_553) (v := 2) rfl xnm0 xnm0 (xj_neF hc600)) ?_
            have sg6011 : tkd B nn p_536 = 3 := by omega
            have sg6012 : B (tq B nn p_536) = 59 := by omega
            refine xg_t (xg_aload (va := (2, 82)) rfl rfl) ?_
            clear ht585 ht586 ht587 ht588 ht589 ht590 ht591 ht592 ht593 hf594 hf595 hf596 hf597 hf598 hmk599
            obtain ⟨⟨ht602, ht603, ht604, ht605, ht606, ht607⟩, -⟩ := id (hT_466.fr (hF578.1 82 (by decide)))
            have hk608 := ((fld_eq (j := 10) (hF578.1 82 (by decide))).trans k10_465)
            have hk609 := ((fld_eq (j := 14) (hF578.1 82 (by decide))).trans k14_460)
            refine xg_cVv mX12_advance (vs := []) (rest := []) (cn1 := 0) (sl1 := 0) rfl (mAdvX (hI577) (hB.fr (fun j h4 h9 => (((((((hj56.tr (K83.fr hF103 (by decide))).tr k8_153).tr (K83.fr hF301 (by decide))).tr k8_313).tr (K83.fr hF446 (by decide))).tr k8_458).tr (K83.fr hF578 (by decide))) j (by omega) (by omega) (by omega))) ht602 ht603 (by rw [ht604]; exact tf_le ht607)) rfl (hF578.get (by decide) h82_573) rfl rfl rfl rfl rfl rfl (fun w610 hq611 => ?_)
            obtain ⟨hI612, hF613, hx614⟩ := hq611
            obtain ⟨hz615, hz616, hz617⟩ := hx614
            rw [ht604] at hz615
            clear ht602 ht603 ht604 ht605 ht606 ht607
            obtain ⟨p_618, hp619⟩ : ∃ x, x = tf B nn p_536 := ⟨_, rfl⟩
            rw [← hp619] at hz615
            have k10_620 := hz616.trans hk608
            have k14_621 := hz617.trans hk609
            clear hz616 hz617 hk608 hk609
            have ln622 : lnR B nn p0 = (true, p_618) := by rw [hp619]; exact ln582.trans (lnS_y ⟨sg6011, sg6012⟩)
            refine xg_t (xg_goto) ?_
            refine xg_t (xg_blq rfl) ?_
            refine xoCh82 (xqc82 hI612 : cp82 (wget w610 82)) (fun f82_623 f82_625 f82_627 f82_629 f82_631 f82_633 f82_635 f82_637 f82_639 f82_641 f82_643 f82_644 f82_645 f82_647 f82_649 f82_651 h82_653 hb624 hb626 hb628 hb630 hb632 hb634 hb636 hb638 hb640 hb642 hb646 hb648 hb650 hb652 hb654 => ?_)
            have hf655 : fld w610 82 10 = f82_639 := fld_of h82_653
            have hf656 : fld w610 82 14 = f82_641 := fld_of h82_653
            have hk657 := k14_621
            have hl658 : f82_641 ≤ 500 := by omega
            have hk659 := hz615
            have hk660 := (hF_541.k83 (rwv_eq ((hF613.1 83 (by decide)).trans (hF578.1 83 (by decide)))) (rwv_eq ((hF613.1 83 (by decide)).trans (hF578.1 83 (by decide)))))
            have hk661 := k10_620
            refine xg_t (xg_aload (va := (2, 82)) rfl rfl) ?_
            refine xg_t (xg_getf (va := (2, 85)) h82_653 rfl) ?_
            refine xg_t (xg_iload (va := (0, 3)) rfl rfl) ?_
            refine xg_t (xg_dup2 rfl) ?_
            refine xoI (xqc85 hI612 : cpI 7 52 4294967295 (wget w610 85)) (fun g85_662 h85_663 hb664 => ?_)
            refine xg_ialdB (n := 3) (B := 4294967295) h85_663 (hb664) xnm0 (by first | decide | omega) (fun u665 hu666 he667 => ?_)
            have hK668 : u665 = u42 := (((rwv_of h85_663 (by decide)).trans he667).symm.trans (rwv_eq ((hF613.1 85 (by decide)).trans ((hF578.1 85 (by decide)).trans ((hF454.1 85 (by decide)).trans ((hF446.1 85 (by decide)).trans ((hF309.1 85 (by decide)).trans ((hF301.1 85 (by decide)).trans ((hF149.1 85 (by decide)).trans ((hF103.1 85 (by decide)).trans hj57)))))))))).trans ((hm 3 (by decide)).trans hK45.symm)
            have hl669 : u665 ≤ 500 := by omega
            refine xg_t (xg_const) ?_
            refine xg_t (xg_iadd (u := u665) (v := 1) (z := u665 + 1) xnm0 xnm0 (by omega)) ?_
            refine xg_iastK (n := 3) (u := u665 + 1) h85_663 xnm0 xnm0 rfl (by first | decide | omega) (fun w670 hr671 hb672 => ?_)
            refine xg_t (xg_aload (va := (2, 82)) rfl rfl) ?_
            refine xg_t (xg_dup rfl) ?_
            refine xg_t (xg_getf (va := (0, f82_641)) (hb672.get (by decide) h82_653) rfl) ?_
            have hn673 := id hb642
            unfold xHid at hn673
            refine xg_t (xg_const) ?_
            refine xg_t (xg_iadd (u := f82_641) (v := 1) (z := f82_641 + 1) xnm0 xnm0 (by omega)) ?_
            refine xg_putI (fl1 := [(2, 83), (2, 84), (0, f82_623), (0, f82_625), (0, f82_627), (0, f82_629), (0, f82_631), (0, f82_633), (0, f82_635), (0, f82_637), (0, f82_639), (2, 85), (2, 86), (2, 87), (0, f82_641 + 1), (2, 88), (2, 89), (2, 90), (2, 91), (2, 92), (2, 93), (2, 94), (4, f82_643), (4, f82_644), (0, f82_645), (2, 95), (2, 96), (2, 97), (2, 98), (2, 99), (2, 100), (2, 101), (2, 102), (0, f82_647), (2, 103), (2, 104), (2, 105), (2, 106), (2, 107), (2, 108), (2, 109), (0, f82_649), (0, f82_651), (2, 110), (2, 111), (2, 112), (2, 113)]) (hb672.get (by decide) h82_653) rfl rfl rfl (fun w674 hk675 hb676 => ?_)
            have hf677 : fld w674 82 10 = f82_639 := fld_of hk675
            have hf678 : fld w674 82 14 = f82_641 + 1 := fld_of hk675
            have he679 : lnP B nn (k + 1) = p_618 := by
              show (lnR B nn (lnP B nn k)).2 = _
              rw [← hp0, ln622]
            have hT680 : TKM 0 B nn w674 p_618 := hk659.w14 ((show fld w674 82 2 = f82_623 from fld_of hk675).trans (show fld w610 82 2 = f82_623 from fld_of h82_653).symm) ((show fld w674 82 3 = f82_625 from fld_of hk675).trans (show fld w610 82 3 = f82_625 from fld_of h82_653).symm) ((show fld w674 82 4 = f82_627 from fld_of hk675).trans (show fld w610 82 4 = f82_627 from fld_of h82_653).symm) ((show fld w674 82 5 = f82_629 from fld_of hk675).trans (show fld w610 82 5 = f82_629 from fld_of h82_653).symm) ((show fld w674 82 6 = f82_631 from fld_of hk675).trans (show fld w610 82 6 = f82_631 from fld_of h82_653).symm) ((show fld w674 82 7 = f82_633 from fld_of hk675).trans (show fld w610 82 7 = f82_633 from fld_of h82_653).symm) ((show fld w674 82 8 = f82_635 from fld_of hk675).trans (show fld w610 82 8 = f82_635 from fld_of h82_653).symm) ((show fld w674 82 9 = f82_637 from fld_of hk675).trans (show fld w610 82 9 = f82_637 from fld_of h82_653).symm)
            have hF681 : FP w674 (mfl B nn k 3 (flA B nn k)) := hk660.k83 (rwv_eq ((hb676.1 83 (by decide)).trans (hb672.1 83 (by decide)))) (rwv_eq ((hb676.1 83 (by decide)).trans (hb672.1 83 (by decide))))
            have hg683 := (tf_gt (B := B) (n := nn) (p := p_108) (by omega)).2
            have hg684 := tq_ge (B := B) (n := nn) (p := p_108)
            have hg685 := (tf_gt (B := B) (n := nn) (p := p_257) (by omega)).2
            have hg686 := tq_ge (B := B) (n := nn) (p := p_257)
            have hg687 := (tf_gt (B := B) (n := nn) (p := p_404) (by omega)).2
            have hg688 := tq_ge (B := B) (n := nn) (p := p_404)
            have hg689 := (tf_gt (B := B) (n := nn) (p := p0) (by rw [slt_kd (by rw [hp0, hs]; decide)]; decide)).2
            have hg690 := (tf_gt (B := B) (n := nn) (p := p_536) (by omega)).2
            have hg691 := tq_ge (B := B) (n := nn) (p := p_536)
            have hg692 := tq_ge (B := B) (n := nn) (p := p_618)
            have hp1x := hp109
            have hO682 : ORD B nn k 3 (tq B nn (lnP B nn (k + 1))) := by
              unfold ORD
              rw [he679, vp260, vp407, ← hp0]
              have v2 := congrArg (tq B nn) vp539
              have v3 : tq B nn (vlp B nn p0 2) = tq B nn p_404 := by rw [hp0]; exact v2
              exact ⟨by omega, by omega, fun _ => by omega, by omega, fun _ => by omega⟩
            have hM693 : rwv w674 85 3 = lnC B nn 3 k + 1 := (rwv_of (hr671.but hb676 (by decide)) (by decide)).trans ((if_pos rfl).trans (by omega))
            have hM694 : ∀ s, s < 7 → s ≠ 3 → rwv w674 85 s = rwv w 85 s := fun s hs hn => (rwv_of (hr671.but hb676 (by decide)) hs).trans ((if_neg hn).trans ((rwv_of h85_663 hs).symm.trans (rwv_eq ((hF613.1 85 (by decide)).trans ((hF578.1 85 (by decide)).trans ((hF454.1 85 (by decide)).trans ((hF446.1 85 (by decide)).trans ((hF309.1 85 (by decide)).trans ((hF301.1 85 (by decide)).trans ((hF149.1 85 (by decide)).trans ((hF103.1 85 (by decide)).trans hj57)))))))))))
            have hr695 : lnC B nn 3 k < 4 → ∀ t, t < 3 → XM w674 3 (lnC B nn 3 k) t = vln B nn (lnP B nn k) t := fun hlt t ht => by
              rcases (show t = 0 ∨ t = 1 ∨ t = 2 by omega) with rfl | rfl | rfl
              · show rwv w674 86 (80 + 3 * lnC B nn 3 k + 0) = _
                rw [show 80 + 3 * lnC B nn 3 k + 0 = (80 + (3 * u42)) + 0 by omega]
                exact ((rwv_eq (hb676.1 86 (by decide))).trans ((rwv_eq (hb672.1 86 (by decide))).trans ((rwv_eq (hF613.1 86 (by decide))).trans ((hp581 ((80 + (3 * u42)) + 0) (by omega) (by omega)).trans ((rwv_eq (hF454.1 86 (by decide))).trans ((hp449 ((80 + (3 * u42)) + 0) (by omega) (by omega)).trans (rwv_eq (hF309.1 86 (by decide))))))))).trans ((hp303 (by omega)).trans (hv158.trans vl261.symm))
              · show rwv w674 86 (80 + 3 * lnC B nn 3 k + 1) = _
                rw [show 80 + 3 * lnC B nn 3 k + 1 = (80 + (3 * u42)) + 1 by omega]
                exact ((rwv_eq (hb676.1 86 (by decide))).trans ((rwv_eq (hb672.1 86 (by decide))).trans ((rwv_eq (hF613.1 86 (by decide))).trans ((hp581 ((80 + (3 * u42)) + 1) (by omega) (by omega)).trans (rwv_eq (hF454.1 86 (by decide))))))).trans ((hp448 (by omega)).trans (hv318.trans vl408.symm))
              · show rwv w674 86 (80 + 3 * lnC B nn 3 k + 2) = _
                rw [show 80 + 3 * lnC B nn 3 k + 2 = (80 + (3 * u42)) + 2 by omega]
                exact ((rwv_eq (hb676.1 86 (by decide))).trans ((rwv_eq (hb672.1 86 (by decide))).trans (rwv_eq (hF613.1 86 (by decide))))).trans ((hp580 (by omega)).trans (hv463.trans vl540.symm))
            have ho696 : ∀ j, (j < 80 + 3 * lnC B nn 3 k ∨ 80 + 3 * (lnC B nn 3 k + 1) ≤ j) → j < 140 → rwv w674 86 j = rwv w 86 j := fun j hj hl => ((rwv_eq (hb676.1 86 (by decide))).trans ((rwv_eq (hb672.1 86 (by decide))).trans ((rwv_eq (hF613.1 86 (by decide))).trans ((hp581 j (by omega) hl).trans ((rwv_eq (hF454.1 86 (by decide))).trans ((hp449 j (by omega) hl).trans ((rwv_eq (hF309.1 86 (by decide))).trans ((hp304 j (by omega) hl).trans ((rwv_eq (hF149.1 86 (by decide))).trans ((rwv_eq (hF103.1 86 (by decide))).trans (rwv_eq hj58)))))))))))
            have ha697 : ∀ j, j < 20 → rwv w674 87 j = rwv w 87 j := fun j _ => rwv_eq ((hb676.1 87 (by decide)).trans ((hb672.1 87 (by decide)).trans ((hF613.1 87 (by decide)).trans ((hF578.1 87 (by decide)).trans ((hF454.1 87 (by decide)).trans ((hF446.1 87 (by decide)).trans ((hF309.1 87 (by decide)).trans ((hF301.1 87 (by decide)).trans ((hF149.1 87 (by decide)).trans ((hF103.1 87 (by decide)).trans hj59))))))))))
            have hM698 := MSTok3 hS hs (by have z := hk661; omega) (by omega) hF681 hO682 hM693 hM694 hr695 ho696 ha697
            exact xg_e ⟨w674, ⟨rfl, rfl⟩, xMnv.up (S := [85, 82]) hI612 ((xFr.of (S := [85, 82]) hb672 (by decide)).tr (xFr.of (S := [85, 82]) hb676 (by decide))) (List.forall_mem_cons.mpr ⟨xqu85 (show cpI 7 52 4294967295 (wget w674 85) from ⟨_, (hr671.but hb676 (by decide)), xrb (by omega) (hb664)⟩), List.forall_mem_cons.mpr ⟨xqu82 (show cp82 (wget w674 82) from xmC82 f82_623 f82_625 f82_627 f82_629 f82_631 f82_633 f82_635 f82_637 f82_639 (f82_641 + 1) f82_643 f82_644 f82_645 f82_647 f82_649 f82_651 hk675 hb624 hb626 hb628 hb630 hb632 hb634 hb636 hb638 hb640 (by omega) hb646 hb648 hb650 hb652 (by omega)), fun _ h => absurd h List.not_mem_nil⟩⟩), (((((((((hF50.tr (hF103.up (by decide))).tr (hF149.up (by decide))).tr (hF301.up (by decide))).tr (hF309.up (by decide))).tr (hF446.up (by decide))).tr (hF454.up (by decide))).tr (hF578.up (by decide))).tr (hF613.up (by decide))).tr ((xFr.of (S := [82, 83, 85, 86, 87]) hb672 (by decide)).tr (xFr.of (S := [82, 83, 85, 86, 87]) hb676 (by decide)))), ⟨Or.inr ⟨by rw [ln622], by rw [he679]; exact hT680, hM698⟩, ((((((((((hj56.tr (K83.fr hF103 (by decide))).tr k8_153).tr (K83.fr hF301 (by decide))).tr k8_313).tr (K83.fr hF446 (by decide))).tr k8_458).tr (K83.fr hF578 (by decide))).tr (K83.fr hF613 (by decide))).tr (K83.but hb672 (by decide))).tr (K83.but hb676 (by decide))), by omega⟩⟩
          · refine xg_t (xg_icT (u := f82_553) (v := 2) rfl xnm0 xnm0 (xj_neT hc600)) ?_
            refine xg_t (xg_blq rfl) ?_
            have lf699n : ¬ (tkd B nn p_536 = 3 ∧ B (tq B nn p_536) = 59) := by omega
            have lf699 : lnR B nn p0 = (false, p_536) := ln582.trans (lnS_n lf699n)
            refine xg_t (xg_aload (va := (2, 82)) rfl rfl) ?_
            have hk700 := ((fld_eq (j := 14) (hF578.1 82 (by decide))).trans k14_460)
            have hk701 := (hT_466.fr (hF578.1 82 (by decide))).1.2.2.2.1
            clear ht585 ht586 ht587 ht588 ht589 ht590 ht591 ht592 ht593 hf594 hf595 hf596 hf597 hf598 hmk599
            refine xg_cVv mX12_ends (vs := []) (rest := []) (cn1 := 0) (sl1 := 0) rfl (mEndsX (hI577) ((fld_eq (j := 10) (hF578.1 82 (by decide))).trans k10_465)) rfl (hF578.get (by decide) h82_573) rfl rfl rfl rfl rfl rfl (fun w702 hq703 => ?_)
            obtain ⟨hI704, hF705, hx706⟩ := hq703
            obtain ⟨hv707, hv708, hv709, hv710, hv711⟩ := hx706
            have hW712 : WRG w702 (tq B nn p_536) := ⟨hv707, hv708, hv709.trans hk701⟩
            have k14_713 := hv710.trans hk700
            refine xg_t (xg_blq rfl) ?_
            refine xoCh82 (xqc82 hI704 : cp82 (wget w702 82)) (fun f82_714 f82_716 f82_718 f82_720 f82_722 f82_724 f82_726 f82_728 f82_730 f82_732 f82_734 f82_735 f82_736 f82_738 f82_740 f82_742 h82_744 hb715 hb717 hb719 hb721 hb723 hb725 hb727 hb729 hb731 hb733 hb737 hb739 hb741 hb743 hb745 => ?_)
            have hf746 : fld w702 82 10 = f82_730 := fld_of h82_744
            have hf747 : fld w702 82 14 = f82_732 := fld_of h82_744
            have hk748 := k14_713
            have hl749 : f82_732 ≤ 500 := by omega
            have hk750 : WRG w702 (tq B nn p_536) := hW712
            refine xg_t (xg_aload (va := (2, 82)) rfl rfl) ?_
            refine xg_t (xg_getf (va := (2, 85)) h82_744 rfl) ?_
            refine xg_t (xg_iload (va := (0, 3)) rfl rfl) ?_
            refine xg_t (xg_dup2 rfl) ?_
            refine xoI (xqc85 hI704 : cpI 7 52 4294967295 (wget w702 85)) (fun g85_751 h85_752 hb753 => ?_)
            refine xg_ialdB (n := 3) (B := 4294967295) h85_752 (hb753) xnm0 (by first | decide | omega) (fun u754 hu755 he756 => ?_)
            have hK757 : u754 = u42 := (((rwv_of h85_752 (by decide)).trans he756).symm.trans (rwv_eq ((hF705.1 85 (by decide)).trans ((hF578.1 85 (by decide)).trans ((hF454.1 85 (by decide)).trans ((hF446.1 85 (by decide)).trans ((hF309.1 85 (by decide)).trans ((hF301.1 85 (by decide)).trans ((hF149.1 85 (by decide)).trans ((hF103.1 85 (by decide)).trans hj57)))))))))).trans ((hm 3 (by decide)).trans hK45.symm)
            have hl758 : u754 ≤ 500 := by omega
            refine xg_t (xg_const) ?_
            refine xg_t (xg_iadd (u := u754) (v := 1) (z := u754 + 1) xnm0 xnm0 (by omega)) ?_
            refine xg_iastK (n := 3) (u := u754 + 1) h85_752 xnm0 xnm0 rfl (by first | decide | omega) (fun w759 hr760 hb761 => ?_)
            refine xg_t (xg_aload (va := (2, 82)) rfl rfl) ?_
            refine xg_t (xg_dup rfl) ?_
            refine xg_t (xg_getf (va := (0, f82_732)) (hb761.get (by decide) h82_744) rfl) ?_
            have hn762 := id hb733
            unfold xHid at hn762
            refine xg_t (xg_const) ?_
            refine xg_t (xg_iadd (u := f82_732) (v := 1) (z := f82_732 + 1) xnm0 xnm0 (by omega)) ?_
            refine xg_putI (fl1 := [(2, 83), (2, 84), (0, f82_714), (0, f82_716), (0, f82_718), (0, f82_720), (0, f82_722), (0, f82_724), (0, f82_726), (0, f82_728), (0, f82_730), (2, 85), (2, 86), (2, 87), (0, f82_732 + 1), (2, 88), (2, 89), (2, 90), (2, 91), (2, 92), (2, 93), (2, 94), (4, f82_734), (4, f82_735), (0, f82_736), (2, 95), (2, 96), (2, 97), (2, 98), (2, 99), (2, 100), (2, 101), (2, 102), (0, f82_738), (2, 103), (2, 104), (2, 105), (2, 106), (2, 107), (2, 108), (2, 109), (0, f82_740), (0, f82_742), (2, 110), (2, 111), (2, 112), (2, 113)]) (hb761.get (by decide) h82_744) rfl rfl rfl (fun w763 hk764 hb765 => ?_)
            have hf766 : fld w763 82 10 = f82_730 := fld_of hk764
            have hf767 : fld w763 82 14 = f82_732 + 1 := fld_of hk764
            exact xg_e ⟨w763, ⟨rfl, rfl⟩, xMnv.up (S := [85, 82]) hI704 ((xFr.of (S := [85, 82]) hb761 (by decide)).tr (xFr.of (S := [85, 82]) hb765 (by decide))) (List.forall_mem_cons.mpr ⟨xqu85 (show cpI 7 52 4294967295 (wget w763 85) from ⟨_, (hr760.but hb765 (by decide)), xrb (by omega) (hb753)⟩), List.forall_mem_cons.mpr ⟨xqu82 (show cp82 (wget w763 82) from xmC82 f82_714 f82_716 f82_718 f82_720 f82_722 f82_724 f82_726 f82_728 f82_730 (f82_732 + 1) f82_734 f82_735 f82_736 f82_738 f82_740 f82_742 hk764 hb715 hb717 hb719 hb721 hb723 hb725 hb727 hb729 hb731 (by omega) hb737 hb739 hb741 hb743 (by omega)), fun _ h => absurd h List.not_mem_nil⟩⟩), (((((((((hF50.tr (hF103.up (by decide))).tr (hF149.up (by decide))).tr (hF301.up (by decide))).tr (hF309.up (by decide))).tr (hF446.up (by decide))).tr (hF454.up (by decide))).tr (hF578.up (by decide))).tr (hF705.up (by decide))).tr ((xFr.of (S := [82, 83, 85, 86, 87]) hb761 (by decide)).tr (xFr.of (S := [82, 83, 85, 86, 87]) hb765 (by decide)))), ⟨Or.inl ⟨p_536, lf699, ⟨by have z := hk750.1; omega, (rwv_eq (j := 16) ((hb765.1 83 (by decide)).trans (hb761.1 83 (by decide)))).trans hk750.2.1, (rwv_eq (j := 17) ((hb765.1 83 (by decide)).trans (hb761.1 83 (by decide)))).trans hk750.2.2⟩⟩, ((((((((((hj56.tr (K83.fr hF103 (by decide))).tr k8_153).tr (K83.fr hF301 (by decide))).tr k8_313).tr (K83.fr hF446 (by decide))).tr k8_458).tr (K83.fr hF578 (by decide))).tr hv711).tr (K83.but hb761 (by decide))).tr (K83.but hb765 (by decide))), by omega⟩⟩
  refine xg_t (xg_iload (va := (0, u42)) rfl rfl) ?_
  refine xg_t (xg_iload (va := (0, 3)) rfl rfl) ?_
  refine xg_t (xg_cSr mX12_mostOf (vs := [(0, 3)]) (rest := [(0, u42)]) (rs := [(0, 4), (0, u42)]) (cn1 := 0) (sl1 := 0) rfl (mMostR3) rfl rfl rfl rfl rfl rfl rfl rfl) ?_
  by_cases hc768 : u42 < 4
  · refine xg_t (xg_icT (u := u42) (v := 4) rfl xnm0 xnm0 (xj_ltT hc768 (by omega))) ?_
    refine xg_t (xg_drop (l1 := [(0, (2, 82)), (1, (0, 3)), (2, (0, at_)), (3, (0, u42))]) (List.forall_mem_cons.mpr ⟨List.mem_cons_of_mem _ (List.mem_cons_of_mem _ (List.mem_cons_of_mem _ (List.mem_cons_self))), List.forall_mem_cons.mpr ⟨List.mem_cons_of_mem _ (List.mem_cons_of_mem _ (List.mem_cons_self)), List.forall_mem_cons.mpr ⟨List.mem_cons_of_mem _ (List.mem_cons_self), List.forall_mem_cons.mpr ⟨List.mem_cons_self, fun _ h => absurd h List.not_mem_nil⟩⟩⟩⟩)) ?_
    have he769 : flA B nn k = mf1 B nn k 3 (flA B nn k) := by unfold mf1; rw [decide_eq_false (show ¬ lim 3 ≤ lnC B nn 3 k from (show ¬ 4 ≤ lnC B nn 3 k by omega))]; rfl
    exact jn47 w (hI) (xFr.rf) (⟨by rw [← he769]; exact zF, z10, hT, z14, K83.rf, rfl, rfl, rfl⟩)
  · refine xg_t (xg_icF (u := u42) (v := 4) rfl xnm0 xnm0 (xj_ltF (by omega) (by omega))) ?_
    refine xg_t (xg_aload (va := (2, 82)) rfl rfl) ?_
    refine xg_t (xg_const) ?_
    refine xg_t (xg_iload (va := (0, at_)) rfl rfl) ?_
    refine xg_cVv mX12_also (vs := [(0, 3), (0, at_)]) (rest := []) (cn1 := 0) (sl1 := 0) rfl (mAlsoX (hI) (by omega) (by omega) (by omega) z10 zF) rfl h82_31 rfl rfl rfl rfl rfl rfl (fun w770 hq771 => ?_)
    obtain ⟨hI772, hF773, hx774⟩ := hq771
    obtain ⟨hv775, hv776⟩ := hx774
    refine xg_t (xg_drop (l1 := [(0, (2, 82)), (1, (0, 3)), (2, (0, at_)), (3, (0, u42))]) (List.forall_mem_cons.mpr ⟨List.mem_cons_of_mem _ (List.mem_cons_of_mem _ (List.mem_cons_of_mem _ (List.mem_cons_self))), List.forall_mem_cons.mpr ⟨List.mem_cons_of_mem _ (List.mem_cons_of_mem _ (List.mem_cons_self)), List.forall_mem_cons.mpr ⟨List.mem_cons_of_mem _ (List.mem_cons_self), List.forall_mem_cons.mpr ⟨List.mem_cons_self, fun _ h => absurd h List.not_mem_nil⟩⟩⟩⟩)) ?_
    have he777 : alo (flA B nn k) 3 at_ = mf1 B nn k 3 (flA B nn k) := by unfold mf1; rw [decide_eq_true (show lim 3 ≤ lnC B nn 3 k from (show 4 ≤ lnC B nn 3 k by omega)), hat, hp0]; rfl
    exact jn47 w770 (hI772) ((hF773.up (by decide))) (⟨by rw [← he777]; exact hv775, ((fld_eq (j := 10) (hF773.1 82 (by decide))).trans z10), (hT.fr (hF773.1 82 (by decide))), ((fld_eq (j := 14) (hF773.1 82 (by decide))).trans z14), hv776, (hF773.1 85 (by decide)), (hF773.1 86 (by decide)), (hF773.1 87 (by decide))⟩)
end XFME
