/-! again -/
def xR26 (m : Nat) (us : List (Nat × xV)) : Prop := ∀ j, j < 3 → xat 4 us j = (3, 0) ∨ ∃ i, i < m ∧ xat 4 us j = (2, 114 + 25 * i)
theorem xIm.sub {a b a' b' : Nat} {w : List (List xE)} (h : xIm a b w) (h1 : a ≤ a') (h2 : b' ≤ b) : xIm a' b' w := fun k h3 h4 => h k (by omega) (by omega)
section XAG
variable {d : Nat} {w : List (List xE)} {bd : List (Nat × Nat)} {fc : List (Nat × Nat × Bool)} {rr : Nat × Nat}
theorem xg_aald {p0 pc ln x y ix n k L t : Nat} {M : xM} {tl : List xI} {lo : xLo} {st : List xV} {hp : xH} {va vb : xV} {us : List (Nat × xV)} (h : wget hp.1 k = some (.inr (4, L, t, us))) (hi : xnm hp.2.1 va = (0, n)) (hn : n < L) (hv : xat 4 us n = vb) : xLd d M (p0, (pc, ln, 47, x, y, ix) :: tl, lo, va :: (2, k) :: st, hp) [(pc + ln, tl, lo, vb :: st, hp)] := by
  refine xg_op (f := xh_aaload) rfl ?_
  show xob (wget hp.1 k) (fun q => xarr q (xald1 (fun k => Nat.beq k 4) xidk d M (pc, ln, 47, x, y, ix) tl lo st hp (xnm hp.2.1 va))) = _
  rw [h, hi]
  show xif (true && (true && Nat.blt n L)) (xidk d M (pc + ln, tl, lo, xat 4 us n :: st, hp)) = _
  rw [xblt_t hn, hv]
  rfl
set_option maxRecDepth 100000 in
theorem scAgain {us0 : List (Nat × xV)} {mm : Nat} {kk : Nat} (hI : xInv w) (hkk : kk ≤ 4294967295) (h26 : wget w 26 = some (.inr (4, 3, 12, us0))) (hv : xR26 mm us0) (hmm : mm ≤ 3) (hM : xIm 114 (114 + 25 * mm) w) : xPi (d + 4) mX11_again [(2, 0), (0, kk)] w bd fc rr (fun n w' => ((n = 1 ∧ kk ≤ 2 ∧ xat 4 us0 kk ≠ (3, 0)) ∨ (n = 0 ∧ ¬ (kk ≤ 2 ∧ xat 4 us0 kk ≠ (3, 0)))) ∧ xInv w' ∧ xFr [1, 2, 3, 4, 5, 6, 7, 8, 9, 10, 11, 12, 13, 14, 15, 16, 17, 18, 19, 20, 21, 22, 23, 24, 25, 49, 58, 68, 72, 76] w w') := by
  refine xPi.of ?_
  show xTo (d + 4) mX11_again (0, [], [(0, (2, 0)), (1, (0, kk))], [], (w, bd, fc, 0, 0, rr)) (fun φ => ∃ n w', xEnd 4 [(0, n)] (w', bd, fc, 0, 0, rr) φ ∧ ((n = 1 ∧ kk ≤ 2 ∧ xat 4 us0 kk ≠ (3, 0)) ∨ (n = 0 ∧ ¬ (kk ≤ 2 ∧ xat 4 us0 kk ≠ (3, 0)))) ∧ xInv w' ∧ xFr [1, 2, 3, 4, 5, 6, 7, 8, 9, 10, 11, 12, 13, 14, 15, 16, 17, 18, 19, 20, 21, 22, 23, 24, 25, 49, 58, 68, 72, 76] w w')
  have h0_1 := (hI 0 (by decide) : cp0 (wget w 0))
  refine xg_t (xg_blk (b := [(0, 1, 2, 1, 0, 0), (1, 1, 3, 0, 0, 0), (2, 1, 3, 2, 0, 0), (3, 3, 13, 70, 90, 238), (6, 3, 7, 18, 0, 0), (9, 1, 0, 0, 0, 0), (10, 3, 1, 11, 1, 16), (13, 1, 2, 1, 0, 0), (14, 1, 47, 0, 0, 0), (15, 3, 44, 20, 0, 0)]) rfl) ?_
  refine xg_t (xg_iload (va := (0, kk)) rfl rfl) ?_
  refine xg_t (xg_const) ?_
  refine xg_t (xg_const) ?_
  refine xg_t (xg_cSr mX11_isIn (vs := [(0, kk), (0, 0), (0, 2)]) (rest := []) (rs := [(0, if 0 ≤ kk ∧ kk ≤ 2 then 1 else 0)]) (cn1 := 0) (sl1 := 0) rfl (isIn_ok (by omega) (by omega) (by omega)) rfl rfl rfl rfl rfl rfl rfl rfl) ?_
  by_cases hc2 : 0 ≤ kk ∧ kk ≤ 2
  · refine xg_t (xg_ifF (u := (if 0 ≤ kk ∧ kk ≤ 2 then 1 else 0)) rfl xnm0 (xj_eqF (xite1 hc2))) ?_
    refine xg_t (xg_aload (va := (2, 0)) rfl rfl) ?_
    refine xg_t (xg_getf (va := (2, 26)) h0_1 rfl) ?_
    refine xg_t (xg_iload (va := (0, kk)) rfl rfl) ?_
    rcases hv kk (by omega) with hz3 | ⟨q4, hq5, hz3⟩
    · refine xg_t (xg_aald (n := kk) (vb := (3, 0)) h26 xnm0 (by omega) hz3) ?_
      refine xg_t (xg_ifnnF) ?_
      refine xg_t (xg_blk (b := [(18, 1, 3, 0, 0, 0), (19, 1, 12, 0, 1, 0)]) rfl) ?_
      refine xg_t (xg_const) ?_
      exact xg_e ⟨0, w, ⟨rfl, rfl⟩, Or.inr ⟨rfl, fun z => z.2 hz3⟩, hI, xFr.rf⟩
    · rcases (show q4 = 0 ∨ q4 = 1 ∨ q4 = 2 by omega) with rfl | rfl | rfl
      · refine xg_t (xg_aald (n := kk) (vb := (2, 114)) h26 xnm0 (by omega) hz3) ?_
        refine xg_t (xg_ifnnT) ?_
        refine xg_t (xg_blk (b := [(20, 1, 0, 0, 0, 0), (21, 3, 1, 11, 0, 10), (24, 1, 0, 0, 0, 0), (25, 3, 1, 11, 1, 16), (28, 1, 2, 1, 0, 0), (29, 1, 47, 0, 0, 0), (30, 3, 13, 322, 72, 378), (33, 1, 0, 0, 0, 0), (34, 3, 13, 61, 88, 103), (37, 1, 0, 0, 0, 0), (38, 3, 1, 11, 8, 79), (41, 3, 13, 272, 32, 326), (44, 1, 3, 1, 0, 0), (45, 1, 12, 0, 1, 0)]) rfl) ?_
        refine xg_t (xg_aload (va := (2, 0)) rfl rfl) ?_
        refine xg_t (xg_getf (va := (2, 1)) h0_1 rfl) ?_
        refine xg_t (xg_aload (va := (2, 0)) rfl rfl) ?_
        refine xg_t (xg_getf (va := (2, 26)) h0_1 rfl) ?_
        refine xg_t (xg_iload (va := (0, kk)) rfl rfl) ?_
        refine xg_t (xg_aald (n := kk) (vb := (2, 114)) h26 xnm0 (by omega) hz3) ?_
        obtain ⟨f1_6, f1_8, f1_10, f1_12, f1_14, f1_16, h1_18, hb7, hb9, hb11, hb13, hb15, hb17⟩ := (hI 1 (by decide) : cp1 (wget w 1))
        refine xg_cVv mX9_copy (vs := [(2, 114)]) (rest := []) (cn1 := 0) (sl1 := 0) rfl (imTold00 (hI) (xIm.sub hM (by omega) (by omega))) rfl h1_18 rfl rfl rfl rfl rfl rfl (fun w19 hq20 => ?_)
        obtain ⟨hI21, hF22, hx23⟩ := hq20
        refine xg_t (xg_aload (va := (2, 0)) rfl rfl) ?_
        refine xg_cVv mX11_forgetFilm (vs := []) (rest := []) (cn1 := 0) (sl1 := 0) rfl (scForgetFilm (hI21)) rfl (hF22.get (by decide) h0_1) rfl rfl rfl rfl rfl rfl (fun w24 hq25 => ?_)
        obtain ⟨hI26, hF27⟩ := hq25
        refine xg_t (xg_aload (va := (2, 0)) rfl rfl) ?_
        refine xg_t (xg_getf (va := (2, 76)) (hF27.get (by decide) (hF22.get (by decide) h0_1)) rfl) ?_
        obtain ⟨f76_28, f76_30, f76_32, f76_34, f76_36, f76_38, f76_40, f76_42, h76_44, hb29, hb31, hb33, hb35, hb37, hb39, hb41, hb43⟩ := (hI26 76 (by decide) : cp76 (wget w24 76))
        refine xg_cVv mX4_forget (vs := []) (rest := []) (cn1 := 0) (sl1 := 0) rfl (lwForget (hI26)) rfl h76_44 rfl rfl rfl rfl rfl rfl (fun w45 hq46 => ?_)
        obtain ⟨hI47, hF48⟩ := hq46
        refine xg_t (xg_const) ?_
        exact xg_e ⟨1, w45, ⟨rfl, rfl⟩, Or.inl ⟨rfl, by omega, fun z => absurd (hz3.symm.trans z) (fun q => absurd (congrArg Prod.fst q) (show ¬ (2 : Nat) = 3 by decide))⟩, hI47, (((hF22.up (by decide)).tr (hF27.up (by decide))).tr (hF48.up (by decide)))⟩
      · refine xg_t (xg_aald (n := kk) (vb := (2, 139)) h26 xnm0 (by omega) hz3) ?_
        refine xg_t (xg_ifnnT) ?_
        refine xg_t (xg_blk (b := [(20, 1, 0, 0, 0, 0), (21, 3, 1, 11, 0, 10), (24, 1, 0, 0, 0, 0), (25, 3, 1, 11, 1, 16), (28, 1, 2, 1, 0, 0), (29, 1, 47, 0, 0, 0), (30, 3, 13, 322, 72, 378), (33, 1, 0, 0, 0, 0), (34, 3, 13, 61, 88, 103), (37, 1, 0, 0, 0, 0), (38, 3, 1, 11, 8, 79), (41, 3, 13, 272, 32, 326), (44, 1, 3, 1, 0, 0), (45, 1, 12, 0, 1, 0)]) rfl) ?_
        refine xg_t (xg_aload (va := (2, 0)) rfl rfl) ?_
        refine xg_t (xg_getf (va := (2, 1)) h0_1 rfl) ?_
        refine xg_t (xg_aload (va := (2, 0)) rfl rfl) ?_
        refine xg_t (xg_getf (va := (2, 26)) h0_1 rfl) ?_
        refine xg_t (xg_iload (va := (0, kk)) rfl rfl) ?_
        refine xg_t (xg_aald (n := kk) (vb := (2, 139)) h26 xnm0 (by omega) hz3) ?_
        obtain ⟨f1_49, f1_51, f1_53, f1_55, f1_57, f1_59, h1_61, hb50, hb52, hb54, hb56, hb58, hb60⟩ := (hI 1 (by decide) : cp1 (wget w 1))
        refine xg_cVv mX9_copy (vs := [(2, 139)]) (rest := []) (cn1 := 0) (sl1 := 0) rfl (imTold10 (hI) (xIm.sub hM (by omega) (by omega))) rfl h1_61 rfl rfl rfl rfl rfl rfl (fun w62 hq63 => ?_)
        obtain ⟨hI64, hF65, hx66⟩ := hq63
        refine xg_t (xg_aload (va := (2, 0)) rfl rfl) ?_
        refine xg_cVv mX11_forgetFilm (vs := []) (rest := []) (cn1 := 0) (sl1 := 0) rfl (scForgetFilm (hI64)) rfl (hF65.get (by decide) h0_1) rfl rfl rfl rfl rfl rfl (fun w67 hq68 => ?_)
        obtain ⟨hI69, hF70⟩ := hq68
        refine xg_t (xg_aload (va := (2, 0)) rfl rfl) ?_
        refine xg_t (xg_getf (va := (2, 76)) (hF70.get (by decide) (hF65.get (by decide) h0_1)) rfl) ?_
        obtain ⟨f76_71, f76_73, f76_75, f76_77, f76_79, f76_81, f76_83, f76_85, h76_87, hb72, hb74, hb76, hb78, hb80, hb82, hb84, hb86⟩ := (hI69 76 (by decide) : cp76 (wget w67 76))
        refine xg_cVv mX4_forget (vs := []) (rest := []) (cn1 := 0) (sl1 := 0) rfl (lwForget (hI69)) rfl h76_87 rfl rfl rfl rfl rfl rfl (fun w88 hq89 => ?_)
        obtain ⟨hI90, hF91⟩ := hq89
        refine xg_t (xg_const) ?_
        exact xg_e ⟨1, w88, ⟨rfl, rfl⟩, Or.inl ⟨rfl, by omega, fun z => absurd (hz3.symm.trans z) (fun q => absurd (congrArg Prod.fst q) (show ¬ (2 : Nat) = 3 by decide))⟩, hI90, (((hF65.up (by decide)).tr (hF70.up (by decide))).tr (hF91.up (by decide)))⟩
      · refine xg_t (xg_aald (n := kk) (vb := (2, 164)) h26 xnm0 (by omega) hz3) ?_
        refine xg_t (xg_ifnnT) ?_
        refine xg_t (xg_blk (b := [(20, 1, 0, 0, 0, 0), (21, 3, 1, 11, 0, 10), (24, 1, 0, 0, 0, 0), (25, 3, 1, 11, 1, 16), (28, 1, 2, 1, 0, 0), (29, 1, 47, 0, 0, 0), (30, 3, 13, 322, 72, 378), (33, 1, 0, 0, 0, 0), (34, 3, 13, 61, 88, 103), (37, 1, 0, 0, 0, 0), (38, 3, 1, 11, 8, 79), (41, 3, 13, 272, 32, 326), (44, 1, 3, 1, 0, 0), (45, 1, 12, 0, 1, 0)]) rfl) ?_
        refine xg_t (xg_aload (va := (2, 0)) rfl rfl) ?_
        refine xg_t (xg_getf (va := (2, 1)) h0_1 rfl) ?_
        refine xg_t (xg_aload (va := (2, 0)) rfl rfl) ?_
        refine xg_t (xg_getf (va := (2, 26)) h0_1 rfl) ?_
        refine xg_t (xg_iload (va := (0, kk)) rfl rfl) ?_
        refine xg_t (xg_aald (n := kk) (vb := (2, 164)) h26 xnm0 (by omega) hz3) ?_
        obtain ⟨f1_92, f1_94, f1_96, f1_98, f1_100, f1_102, h1_104, hb93, hb95, hb97, hb99, hb101, hb103⟩ := (hI 1 (by decide) : cp1 (wget w 1))
        refine xg_cVv mX9_copy (vs := [(2, 164)]) (rest := []) (cn1 := 0) (sl1 := 0) rfl (imTold20 (hI) (xIm.sub hM (by omega) (by omega))) rfl h1_104 rfl rfl rfl rfl rfl rfl (fun w105 hq106 => ?_)
        obtain ⟨hI107, hF108, hx109⟩ := hq106
        refine xg_t (xg_aload (va := (2, 0)) rfl rfl) ?_
        refine xg_cVv mX11_forgetFilm (vs := []) (rest := []) (cn1 := 0) (sl1 := 0) rfl (scForgetFilm (hI107)) rfl (hF108.get (by decide) h0_1) rfl rfl rfl rfl rfl rfl (fun w110 hq111 => ?_)
        obtain ⟨hI112, hF113⟩ := hq111
        refine xg_t (xg_aload (va := (2, 0)) rfl rfl) ?_
        refine xg_t (xg_getf (va := (2, 76)) (hF113.get (by decide) (hF108.get (by decide) h0_1)) rfl) ?_
        obtain ⟨f76_114, f76_116, f76_118, f76_120, f76_122, f76_124, f76_126, f76_128, h76_130, hb115, hb117, hb119, hb121, hb123, hb125, hb127, hb129⟩ := (hI112 76 (by decide) : cp76 (wget w110 76))
        refine xg_cVv mX4_forget (vs := []) (rest := []) (cn1 := 0) (sl1 := 0) rfl (lwForget (hI112)) rfl h76_130 rfl rfl rfl rfl rfl rfl (fun w131 hq132 => ?_)
        obtain ⟨hI133, hF134⟩ := hq132
        refine xg_t (xg_const) ?_
        exact xg_e ⟨1, w131, ⟨rfl, rfl⟩, Or.inl ⟨rfl, by omega, fun z => absurd (hz3.symm.trans z) (fun q => absurd (congrArg Prod.fst q) (show ¬ (2 : Nat) = 3 by decide))⟩, hI133, (((hF108.up (by decide)).tr (hF113.up (by decide))).tr (hF134.up (by decide)))⟩
  · refine xg_t (xg_ifT (u := (if 0 ≤ kk ∧ kk ≤ 2 then 1 else 0)) rfl xnm0 (xj_eqT (xite0 hc2))) ?_
    refine xg_t (xg_blk (b := [(18, 1, 3, 0, 0, 0), (19, 1, 12, 0, 1, 0)]) rfl) ?_
    refine xg_t (xg_const) ?_
    exact xg_e ⟨0, w, ⟨rfl, rfl⟩, Or.inr ⟨rfl, fun z => absurd z.1 (by omega)⟩, hI, xFr.rf⟩
end XAG
