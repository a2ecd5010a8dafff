/-! the model: plans; the bend -/
theorem sm_pred {f : Nat → Nat} {p : Nat} (h : 1 ≤ p) : sm f p = sm f (p - 1) + ar (f (p - 1)) := by
  cases p with
  | zero => omega
  | succ n => rfl
theorem lN_ne0 {v : Nat} (h1 : 1 ≤ v) (h2 : v < 18446744073709551616) : ¬ lN v = 0 := by
  intro h
  have e : (lN v).toBitVec.toNat = (0 : Int64).toBitVec.toNat := congrArg (fun x : Int64 => x.toBitVec.toNat) h
  have e2 : (lN v).toBitVec.toNat = v % 18446744073709551616 := by
    show (BitVec.ofNat 64 v).toNat = _
    rw [BitVec.toNat_ofNat]
  rw [e2] at e
  have e3 : (0 : Int64).toBitVec.toNat = 0 := rfl
  omega
theorem xg_lre {d p0 a b : Nat} {M : xM} {cs : List xI} {lo : xLo} {st : List xV} {hp : xH} (h : lN a = lN b) : xLd d M (p0, cs, lo, (4, a) :: st, hp) [(p0, cs, lo, (4, b) :: st, hp)] := by
  intro hM hpos p l e R s m args below meth c D A g cw0 tys0 io0 Q C hQ cw tys io H locs ls lv sv hE hK hP hD hS hlv hlo hsv hh
  obtain ⟨wa, sv2, rfl, r2, hs2⟩ := xrel_cons hsv
  have e1 : wa = .long (lN a) := r2
  refine hQ _ List.mem_cons_self ?_ cw tys io H locs ls lv (wa :: sv2) hE hK hP hD hS hlv hlo ⟨(show wa = .long (lN b) by rw [e1, h]), hs2⟩ hh
  cases cs <;> exact hpos
/-- blocks: where each begins, what each bears -/
theorem bl_next {H U H' U1 : Nat → Nat} {p u z t : Nat} (hB : ∀ q, q < p → H q < p ∧ 1 ≤ U (H q) ∧ U (H q) ≤ 19602 * p) (hH : ∀ j, j ≠ p → H' j = H j) (hu : H' p = u) (hc : (u = p ∧ z = 0 ∧ ∀ j, j ≠ p → U1 j = U j) ∨ (u < p ∧ z = U u ∧ 1 ≤ z ∧ z ≤ 19602 * p ∧ ∀ j, U1 j = U j)) (t1 : 1 ≤ t) (t2 : t ≤ 19602) : ∀ q, q < p + 1 → H' q < p + 1 ∧ 1 ≤ (if H' q = u then z + t else U1 (H' q)) ∧ (if H' q = u then z + t else U1 (H' q)) ≤ 19602 * (p + 1) := by
  intro q hq
  by_cases e : q = p
  · subst e
    rw [hu, if_pos rfl]
    rcases hc with ⟨h1, h2, -⟩ | ⟨h1, h2, h3, h4, -⟩ <;> omega
  · obtain ⟨a1, a2, a3⟩ := hB q (by omega)
    have eH := hH q e
    rw [eH]
    by_cases y : H q = u
    · rw [if_pos y]
      rcases hc with ⟨h1, h2, -⟩ | ⟨h1, h2, h3, h4, -⟩ <;> omega
    · rw [if_neg y]
      rcases hc with ⟨h1, h2, h3⟩ | ⟨h1, h2, h3, h4, h5⟩
      · rw [h3 _ (by omega)]; omega
      · rw [h5]; omega
section XM6
variable {d : Nat} {w : List (List xE)} {bd : List (Nat × Nat)} {fc : List (Nat × Nat × Bool)} {rr : Nat × Nat}
theorem mPlans (hI : xMnv w)  : xPq (d + 4) mX12_plans [(2, 82)] w bd fc rr [] (fun w' => xMnv w' ∧ xFr [82, 106, 107, 108, 109] w w') := by
  refine xPq.of ?_
  show xTo (d + 4) mX12_plans (0, [], [(0, (2, 82))], [], (w, bd, fc, 0, 0, rr)) (fun φ => ∃ w', xEnd 0 [] (w', bd, fc, 0, 0, rr) φ ∧ xMnv w' ∧ xFr [82, 106, 107, 108, 109] w w')
  obtain ⟨f82_1, f82_3, f82_5, f82_7, f82_9, f82_11, f82_13, f82_15, f82_17, f82_19, f82_21, f82_22, f82_23, f82_25, f82_27, f82_29, h82_31, hb2, hb4, hb6, hb8, hb10, hb12, hb14, hb16, hb18, hb20, hb24, hb26, hb28, hb30, hb32⟩ := (hI 82 (by decide) (by decide) : cp82 (wget w 82))
  replace hb4 := xHid.of hb4
  replace hb10 := xHid.of hb10
  replace hb14 := xHid.of hb14
  replace hb16 := xHid.of hb16
  replace hb20 := xHid.of hb20
  replace hb24 := xHid.of hb24
  replace hb26 := xHid.of hb26
  replace hb28 := xHid.of hb28
  replace hb30 := xHid.of hb30
  obtain ⟨g83_33, h83_34, hb35, hx36⟩ := (hI 83 (by decide) (by decide) : cpx83 (wget w 83))
  have h83_34 : xRow w 83 5360 50 g83_33 := h83_34
  refine xg_t (xg_blk (b := [(0, 1, 0, 0, 0, 0), (1, 3, 13, 234, 96, 358), (4, 1, 0, 0, 0, 0), (5, 1, 3, 0, 0, 0), (6, 3, 14, 12, 41, 364), (9, 1, 0, 0, 0, 0), (10, 1, 3, 0, 0, 0), (11, 3, 14, 12, 42, 361), (14, 1, 0, 0, 0, 0), (15, 1, 3, 0, 0, 0), (16, 1, 3, 0, 0, 0), (17, 1, 0, 0, 0, 0), (18, 3, 1, 12, 0, 7), (21, 2, 4, 7, 0, 0), (23, 1, 10, 0, 0, 0), (24, 1, 0, 0, 0, 0), (25, 3, 1, 12, 0, 7), (28, 2, 4, 8, 0, 0), (30, 1, 10, 0, 0, 0), (31, 3, 13, 182, 96, 367)]) rfl) ?_
  refine xg_t (xg_aload (va := (2, 82)) rfl rfl) ?_
  refine xg_cVv mX12_values (vs := []) (rest := []) (cn1 := 0) (sl1 := 0) rfl (mValues (hI)) rfl h82_31 rfl rfl rfl rfl rfl rfl (fun w37 hq38 => ?_)
  obtain ⟨hI39, hF40⟩ := hq38
  refine xg_t (xg_aload (va := (2, 82)) rfl rfl) ?_
  refine xg_t (xg_const) ?_
  refine xg_putI (fl1 := [(2, 83), (2, 84), (0, f82_1), (0, f82_3), (0, f82_5), (0, f82_7), (0, f82_9), (0, f82_11), (0, f82_13), (0, f82_15), (0, f82_17), (2, 85), (2, 86), (2, 87), (0, f82_19), (2, 88), (2, 89), (2, 90), (2, 91), (2, 92), (2, 93), (2, 94), (4, f82_21), (4, f82_22), (0, f82_23), (2, 95), (2, 96), (2, 97), (2, 98), (2, 99), (2, 100), (2, 101), (2, 102), (0, f82_25), (2, 103), (2, 104), (2, 105), (2, 106), (2, 107), (2, 108), (2, 109), (0, 0), (0, f82_29), (2, 110), (2, 111), (2, 112), (2, 113)]) (hF40.get (by decide) h82_31) rfl rfl rfl (fun w41 hk42 hb43 => ?_)
  refine xg_t (xg_aload (va := (2, 82)) rfl rfl) ?_
  refine xg_t (xg_const) ?_
  refine xg_putI (fl1 := [(2, 83), (2, 84), (0, f82_1), (0, f82_3), (0, f82_5), (0, f82_7), (0, f82_9), (0, f82_11), (0, f82_13), (0, f82_15), (0, f82_17), (2, 85), (2, 86), (2, 87), (0, f82_19), (2, 88), (2, 89), (2, 90), (2, 91), (2, 92), (2, 93), (2, 94), (4, f82_21), (4, f82_22), (0, f82_23), (2, 95), (2, 96), (2, 97), (2, 98), (2, 99), (2, 100), (2, 101), (2, 102), (0, f82_25), (2, 103), (2, 104), (2, 105), (2, 106), (2, 107), (2, 108), (2, 109), (0, 0), (0, 0), (2, 110), (2, 111), (2, 112), (2, 113)]) hk42 rfl rfl rfl (fun w44 hk45 hb46 => ?_)
  refine xg_t (xg_aload (va := (2, 82)) rfl rfl) ?_
  refine xg_t (xg_const) ?_
  refine xg_t (xg_const) ?_
  refine xg_t (xg_aload (va := (2, 82)) rfl rfl) ?_
  refine xg_t (xg_getf (va := (2, 83)) hk45 rfl) ?_
  refine xg_t (xg_bip) ?_
  refine xg_ialdB (n := 7) (B := 4294967295) (((h83_34.fr hF40 (by decide)).but hb43 (by decide)).but hb46 (by decide)) (hb35) xnm0 (by omega) (fun u47 hu48 he49 => ?_)
  have hl50 : u47 ≤ 10 := by rw [← he49]; exact hx36.l7
  refine xg_t (xg_aload (va := (2, 82)) rfl rfl) ?_
  refine xg_t (xg_getf (va := (2, 83)) hk45 rfl) ?_
  refine xg_t (xg_bip) ?_
  refine xg_ialdB (n := 8) (B := 4294967295) (((h83_34.fr hF40 (by decide)).but hb43 (by decide)).but hb46 (by decide)) (hb35) xnm0 (by omega) (fun u51 hu52 he53 => ?_)
  have hl54 : u51 ≤ 10 := by rw [← he53]; exact hx36.l8
  have hz42 : fld w44 82 42 = 0 := fld_of hk45
  have hz41 : fld w44 82 41 = 0 := fld_of hk45
  obtain ⟨g108_55, h108_56, hb57, hx58⟩ := (hI39 108 (by decide) (by decide) : cpx108 (wget w37 108))
  have h108_56 : xRow w37 108 200 75 g108_55 := h108_56
  have hzs := smW_of ((h108_56.but hb43 (by decide)).but hb46 (by decide)) hz42 (by omega)
  have hz0 : sm g108_55 0 = 0 := rfl
  refine xg_cVv mX12_lays (vs := [(0, 0), (0, 0), (0, u47), (0, u51)]) (rest := []) (cn1 := 0) (sl1 := 0) rfl (mLays (xMnv.up (S := [82]) hI39 ((xFr.of (S := [82]) hb43 (by decide)).tr (xFr.of (S := [82]) hb46 (by decide))) (List.forall_mem_cons.mpr ⟨(show cp82 (wget w44 82) from ⟨f82_1, f82_3, f82_5, f82_7, f82_9, f82_11, f82_13, f82_15, f82_17, f82_19, f82_21, f82_22, f82_23, f82_25, 0, 0, hk45, by omega, hb4, by omega, by omega, hb10, by omega, hb14, hb16, by omega, hb20, hb24, hb26, by omega, by omega, by omega⟩), fun _ h => absurd h List.not_mem_nil⟩)) (by omega) (by omega) (by omega) (by omega) (by omega) (by omega) (by omega)) rfl hk45 rfl rfl rfl rfl rfl rfl (fun w59 hq60 => ?_)
  obtain ⟨hI61, hF62, hx63⟩ := hq60
  obtain ⟨hy64, hy65, hy66⟩ := hx63
  have hza := ar_le (((0 * 11 + 0) * 11 + u47) * 11 + u51)
  have key67 : ∀ (m69 : Nat) (w70 : List (List xE)), 2 * smW w70 - fld w70 82 42 < m69 → xMnv w70 → xFr [82, 106, 107, 108, 109] w w70 → smW w70 + fld w70 82 41 ≤ 100 → xTo (d + 4) mX12_plans (34, [], [(0, (2, 82))], [], (w70, bd, fc, 0, 0, rr)) (fun φ => ∃ w', xEnd 0 [] (w', bd, fc, 0, 0, rr) φ ∧ xMnv w' ∧ xFr [82, 106, 107, 108, 109] w w') := by
    intro m69
    induction m69 with
    | zero => intro w70 hz; exact absurd hz (Nat.not_lt_zero _)
    | succ m69 ih68 =>
      intro w70 hm74 hI71 hF72 he73
      obtain ⟨f82_75, f82_77, f82_79, f82_81, f82_83, f82_85, f82_87, f82_89, f82_91, f82_93, f82_95, f82_96, f82_97, f82_99, f82_101, f82_103, h82_105, hb76, hb78, hb80, hb82, hb84, hb86, hb88, hb90, hb92, hb94, hb98, hb100, hb102, hb104, hb106⟩ := (hI71 82 (by decide) (by decide) : cp82 (wget w70 82))
      replace hb78 := xHid.of hb78
      replace hb84 := xHid.of hb84
      replace hb88 := xHid.of hb88
      replace hb90 := xHid.of hb90
      replace hb94 := xHid.of hb94
      replace hb98 := xHid.of hb98
      replace hb100 := xHid.of hb100
      replace hb102 := xHid.of hb102
      replace hb104 := xHid.of hb104
      obtain ⟨g108_107, h108_108, hb109, hx110⟩ := (hI71 108 (by decide) (by decide) : cpx108 (wget w70 108))
      have h108_108 : xRow w70 108 200 75 g108_107 := h108_108
      have hq42 : fld w70 82 42 = f82_103 := fld_of h82_105
      have hq41 : fld w70 82 41 = f82_101 := fld_of h82_105
      have hqs := smW_of h108_108 hq42 (hb104)
      have hqg := smW_ge w70
      refine xg_t (xg_blk (b := [(34, 1, 0, 0, 0, 0), (35, 3, 1, 12, 42, 361), (38, 3, 7, 67, 5, 0), (41, 1, 0, 0, 0, 0), (42, 1, 19, 0, 0, 0), (43, 3, 1, 12, 42, 361), (46, 1, 3, 1, 0, 0), (47, 1, 18, 0, 0, 0), (48, 3, 14, 12, 42, 361), (51, 1, 0, 0, 0, 0), (52, 1, 0, 0, 0, 0), (53, 3, 1, 12, 39, 87), (56, 1, 0, 0, 0, 0), (57, 3, 1, 12, 42, 361), (60, 1, 10, 0, 0, 0), (61, 3, 13, 208, 96, 370), (64, 3, 8, 34, 0, 0)]) rfl) ?_
      refine xg_t (xg_aload (va := (2, 82)) rfl rfl) ?_
      refine xg_t (xg_getf (va := (0, f82_103)) h82_105 rfl) ?_
      have hn111 : f82_103 ≤ 200 := hb104
      by_cases hc112 : 0 < f82_103
      · refine xg_t (xg_ifF (u := f82_103) rfl xnm0 (xj_leF hc112 (by omega))) ?_
        refine xg_t (xg_aload (va := (2, 82)) rfl rfl) ?_
        refine xg_t (xg_dup rfl) ?_
        refine xg_t (xg_getf (va := (0, f82_103)) h82_105 rfl) ?_
        refine xg_t (xg_const) ?_
        refine xg_t (xg_isub (u := f82_103) (v := 1) (z := f82_103 - 1) xnm0 xnm0 (by omega)) ?_
        refine xg_putI (fl1 := [(2, 83), (2, 84), (0, f82_75), (0, f82_77), (0, f82_79), (0, f82_81), (0, f82_83), (0, f82_85), (0, f82_87), (0, f82_89), (0, f82_91), (2, 85), (2, 86), (2, 87), (0, f82_93), (2, 88), (2, 89), (2, 90), (2, 91), (2, 92), (2, 93), (2, 94), (4, f82_95), (4, f82_96), (0, f82_97), (2, 95), (2, 96), (2, 97), (2, 98), (2, 99), (2, 100), (2, 101), (2, 102), (0, f82_99), (2, 103), (2, 104), (2, 105), (2, 106), (2, 107), (2, 108), (2, 109), (0, f82_101), (0, f82_103 - 1), (2, 110), (2, 111), (2, 112), (2, 113)]) h82_105 rfl rfl rfl (fun w113 hk114 hb115 => ?_)
        refine xg_t (xg_aload (va := (2, 82)) rfl rfl) ?_
        refine xg_t (xg_aload (va := (2, 82)) rfl rfl) ?_
        refine xg_t (xg_getf (va := (2, 108)) hk114 rfl) ?_
        refine xg_t (xg_aload (va := (2, 82)) rfl rfl) ?_
        refine xg_t (xg_getf (va := (0, f82_103 - 1)) hk114 rfl) ?_
        refine xg_ialdB (n := f82_103 - 1) (B := 4294967295) (h108_108.but hb115 (by decide)) (hb109) xnm0 (by omega) (fun u116 hu117 he118 => ?_)
        have hok_ := hx110 (f82_103 - 1)
        rw [he118] at hok_
        have hsp := sm_pred (f := g108_107) (p := f82_103) (by omega)
        rw [he118] at hsp
        have ho42 : fld w113 82 42 = f82_103 - 1 := fld_of hk114
        have ho41 : fld w113 82 41 = f82_101 := fld_of hk114
        have hos := smW_of (h108_108.but hb115 (by decide)) ho42 (by omega)
        have hoa := ar_pos u116
        have hl119 : u116 ≤ 14640 := by have := hok_.1; omega
        refine xg_cVv mX12_plansOne (vs := [(0, u116)]) (rest := []) (cn1 := 0) (sl1 := 0) rfl (mPlansOne (xMnv.up (S := [82]) hI71 (xFr.of (S := [82]) hb115 (by decide)) (List.forall_mem_cons.mpr ⟨(show cp82 (wget w113 82) from ⟨f82_75, f82_77, f82_79, f82_81, f82_83, f82_85, f82_87, f82_89, f82_91, f82_93, f82_95, f82_96, f82_97, f82_99, f82_101, f82_103 - 1, hk114, by omega, hb78, by omega, by omega, hb84, by omega, hb88, hb90, by omega, hb94, hb98, hb100, hb102, by omega, by omega⟩), fun _ h => absurd h List.not_mem_nil⟩)) hok_ (by omega)) rfl hk114 rfl rfl rfl rfl rfl rfl (fun w120 hq121 => ?_)
        obtain ⟨hI122, hF123, hx124⟩ := hq121
        have hov := hx124
        have hog := smW_ge w120
        refine xg_t (xg_goto) ?_
        exact ih68 w120 (by omega) (hI122) (((hF72.tr (xFr.of (S := [82, 106, 107, 108, 109]) hb115 (by decide))).tr (hF123.up (by decide)))) (by omega)
      · refine xg_t (xg_ifT (u := f82_103) rfl xnm0 (xj_leT (by omega) (by omega))) ?_
        refine xg_t (xg_blk (b := [(67, 1, 12, 0, 0, 0)]) rfl) ?_
        exact xg_e ⟨w70, ⟨rfl, rfl⟩, hI71, hF72⟩
  exact key67 _ w59 (Nat.lt_succ_self _) (hI61) ((((hF40.up (by decide)).tr ((xFr.of (S := [82, 106, 107, 108, 109]) hb43 (by decide)).tr (xFr.of (S := [82, 106, 107, 108, 109]) hb46 (by decide)))).tr (hF62.up (by decide)))) (by omega)
theorem mPanels (hI : xMnv w)  : xPi (d + 5) mX12_panels [(2, 82)] w bd fc rr (fun n w' => (n ≤ 4294967295) ∧ xMnv w' ∧ xFr [82, 106, 107, 108, 109] w w') := by
  refine xPi.of ?_
  show xTo (d + 5) mX12_panels (0, [], [(0, (2, 82))], [], (w, bd, fc, 0, 0, rr)) (fun φ => ∃ n w', xEnd 1 [(0, n)] (w', bd, fc, 0, 0, rr) φ ∧ (n ≤ 4294967295) ∧ xMnv w' ∧ xFr [82, 106, 107, 108, 109] w w')
  obtain ⟨f82_1, f82_3, f82_5, f82_7, f82_9, f82_11, f82_13, f82_15, f82_17, f82_19, f82_21, f82_22, f82_23, f82_25, f82_27, f82_29, h82_31, hb2, hb4, hb6, hb8, hb10, hb12, hb14, hb16, hb18, hb20, hb24, hb26, hb28, hb30, hb32⟩ := (hI 82 (by decide) (by decide) : cp82 (wget w 82))
  replace hb4 := xHid.of hb4
  replace hb10 := xHid.of hb10
  replace hb14 := xHid.of hb14
  replace hb16 := xHid.of hb16
  replace hb20 := xHid.of hb20
  replace hb24 := xHid.of hb24
  replace hb26 := xHid.of hb26
  replace hb28 := xHid.of hb28
  replace hb30 := xHid.of hb30
  refine xg_t (xg_blk (b := [(0, 1, 0, 0, 0, 0), (1, 3, 13, 207, 96, 373), (4, 1, 0, 0, 0, 0), (5, 3, 1, 12, 41, 364), (8, 1, 12, 0, 1, 0)]) rfl) ?_
  refine xg_t (xg_aload (va := (2, 82)) rfl rfl) ?_
  refine xg_cVv mX12_plans (vs := []) (rest := []) (cn1 := 0) (sl1 := 0) rfl (mPlans (hI)) rfl h82_31 rfl rfl rfl rfl rfl rfl (fun w33 hq34 => ?_)
  obtain ⟨hI35, hF36⟩ := hq34
  refine xg_t (xg_aload (va := (2, 82)) rfl rfl) ?_
  obtain ⟨f82_37, f82_39, f82_41, f82_43, f82_45, f82_47, f82_49, f82_51, f82_53, f82_55, f82_57, f82_58, f82_59, f82_61, f82_63, f82_65, h82_67, hb38, hb40, hb42, hb44, hb46, hb48, hb50, hb52, hb54, hb56, hb60, hb62, hb64, hb66, hb68⟩ := (hI35 82 (by decide) (by decide) : cp82 (wget w33 82))
  replace hb40 := xHid.of hb40
  replace hb46 := xHid.of hb46
  replace hb50 := xHid.of hb50
  replace hb52 := xHid.of hb52
  replace hb56 := xHid.of hb56
  replace hb60 := xHid.of hb60
  replace hb62 := xHid.of hb62
  replace hb64 := xHid.of hb64
  replace hb66 := xHid.of hb66
  refine xg_t (xg_getf (va := (0, f82_63)) h82_67 rfl) ?_
  have hn69 : f82_63 ≤ 100 := hb64
  exact xg_e ⟨f82_63, w33, ⟨rfl, rfl⟩, by omega, hI35, (hF36.up (by decide))⟩
theorem mPanel {kk wh : Nat} (hI : xMnv w) (hkk : kk ≤ 4294967295) (hwh : wh ≤ 4294967295) : xPi (d + 5) mX12_panel [(2, 82), (0, kk), (0, wh)] w bd fc rr (fun n w' => (n ≤ 4294967295) ∧ xMnv w' ∧ xFr [82, 106, 107, 108, 109] w w') := by
  refine xPi.of ?_
  show xTo (d + 5) mX12_panel (0, [], [(0, (2, 82)), (1, (0, kk)), (2, (0, wh))], [], (w, bd, fc, 0, 0, rr)) (fun φ => ∃ n w', xEnd 1 [(0, n)] (w', bd, fc, 0, 0, rr) φ ∧ (n ≤ 4294967295) ∧ xMnv w' ∧ xFr [82, 106, 107, 108, 109] w w')
  obtain ⟨f82_1, f82_3, f82_5, f82_7, f82_9, f82_11, f82_13, f82_15, f82_17, f82_19, f82_21, f82_22, f82_23, f82_25, f82_27, f82_29, h82_31, hb2, hb4, hb6, hb8, hb10, hb12, hb14, hb16, hb18, hb20, hb24, hb26, hb28, hb30, hb32⟩ := (hI 82 (by decide) (by decide) : cp82 (wget w 82))
  replace hb4 := xHid.of hb4
  replace hb10 := xHid.of hb10
  replace hb14 := xHid.of hb14
  replace hb16 := xHid.of hb16
  replace hb20 := xHid.of hb20
  replace hb24 := xHid.of hb24
  replace hb26 := xHid.of hb26
  replace hb28 := xHid.of hb28
  replace hb30 := xHid.of hb30
  refine xg_t (xg_blk (b := [(0, 1, 2, 2, 0, 0), (1, 1, 3, 0, 0, 0), (2, 1, 3, 2, 0, 0), (3, 3, 13, 161, 98, 105), (6, 3, 7, 11, 1, 0), (9, 1, 3, 4294967295, 0, 0), (10, 1, 12, 0, 1, 0)]) rfl) ?_
  refine xg_t (xg_iload (va := (0, wh)) rfl rfl) ?_
  refine xg_t (xg_const) ?_
  refine xg_t (xg_const) ?_
  refine xg_t (xg_cSr mX12_isIn (vs := [(0, wh), (0, 0), (0, 2)]) (rest := []) (rs := [(0, if 0 ≤ wh ∧ wh ≤ 2 then 1 else 0)]) (cn1 := 0) (sl1 := 0) rfl (mIsIn (by omega) (by omega) (by omega)) rfl rfl rfl rfl rfl rfl rfl rfl) ?_
  by_cases hc33 : 0 ≤ wh ∧ wh ≤ 2
  · refine xg_t (xg_ifT (u := (if 0 ≤ wh ∧ wh ≤ 2 then 1 else 0)) rfl xnm0 (xj_neT (xite1 hc33))) ?_
    refine xg_t (xg_blk (b := [(11, 1, 0, 0, 0, 0), (12, 3, 13, 207, 96, 373), (15, 1, 2, 1, 0, 0), (16, 1, 3, 0, 0, 0), (17, 1, 0, 0, 0, 0), (18, 3, 1, 12, 41, 364), (21, 1, 3, 1, 0, 0), (22, 1, 18, 0, 0, 0), (23, 3, 13, 161, 98, 105), (26, 3, 7, 42, 0, 0), (29, 1, 0, 0, 0, 0), (30, 3, 1, 12, 40, 90), (33, 1, 3, 3, 0, 0), (34, 1, 2, 1, 0, 0), (35, 1, 16, 0, 0, 0), (36, 1, 2, 2, 0, 0), (37, 1, 11, 0, 0, 0), (38, 1, 10, 0, 0, 0), (39, 3, 8, 43, 0, 0)]) rfl) ?_
    refine xg_t (xg_aload (va := (2, 82)) rfl rfl) ?_
    refine xg_cVv mX12_plans (vs := []) (rest := []) (cn1 := 0) (sl1 := 0) rfl (mPlans (hI)) rfl h82_31 rfl rfl rfl rfl rfl rfl (fun w34 hq35 => ?_)
    obtain ⟨hI36, hF37⟩ := hq35
    refine xg_t (xg_iload (va := (0, kk)) rfl rfl) ?_
    refine xg_t (xg_const) ?_
    refine xg_t (xg_aload (va := (2, 82)) rfl rfl) ?_
    obtain ⟨f82_38, f82_40, f82_42, f82_44, f82_46, f82_48, f82_50, f82_52, f82_54, f82_56, f82_58, f82_59, f82_60, f82_62, f82_64, f82_66, h82_68, hb39, hb41, hb43, hb45, hb47, hb49, hb51, hb53, hb55, hb57, hb61, hb63, hb65, hb67, hb69⟩ := (hI36 82 (by decide) (by decide) : cp82 (wget w34 82))
    replace hb41 := xHid.of hb41
    replace hb47 := xHid.of hb47
    replace hb51 := xHid.of hb51
    replace hb53 := xHid.of hb53
    replace hb57 := xHid.of hb57
    replace hb61 := xHid.of hb61
    replace hb63 := xHid.of hb63
    replace hb65 := xHid.of hb65
    replace hb67 := xHid.of hb67
    refine xg_t (xg_getf (va := (0, f82_64)) h82_68 rfl) ?_
    have hn70 : f82_64 ≤ 100 := hb65
    refine xg_t (xg_const) ?_
    by_cases hc71 : 1 ≤ f82_64
    · refine xg_t (xg_isub (u := f82_64) (v := 1) (z := f82_64 - 1) xnm0 xnm0 (by omega)) ?_
      refine xg_t (xg_cSr mX12_isIn (vs := [(0, kk), (0, 0), (0, f82_64 - 1)]) (rest := []) (rs := [(0, if 0 ≤ kk ∧ kk ≤ f82_64 - 1 then 1 else 0)]) (cn1 := 0) (sl1 := 0) rfl (mIsIn (by omega) (by omega) (by omega)) rfl rfl rfl rfl rfl rfl rfl rfl) ?_
      by_cases hc72 : 0 ≤ kk ∧ kk ≤ f82_64 - 1
      · refine xg_t (xg_ifF (u := (if 0 ≤ kk ∧ kk ≤ f82_64 - 1 then 1 else 0)) rfl xnm0 (xj_eqF (xite1 hc72))) ?_
        refine xg_t (xg_aload (va := (2, 82)) rfl rfl) ?_
        refine xg_t (xg_getf (va := (2, 109)) h82_68 rfl) ?_
        refine xg_t (xg_const) ?_
        refine xg_t (xg_iload (va := (0, kk)) rfl rfl) ?_
        refine xg_t (xg_imul (u := 3) (v := kk) (z := 3 * kk) xnm0 xnm0 (by omega)) ?_
        refine xg_t (xg_iload (va := (0, wh)) rfl rfl) ?_
        refine xg_t (xg_iadd (u := 3 * kk) (v := wh) (z := (3 * kk) + wh) xnm0 xnm0 (by omega)) ?_
        obtain ⟨g109_73, h109_74, hb75⟩ := (hI36 109 (by decide) (by decide) : cpI 300 76 4294967295 (wget w34 109))
        have h109_74 : xRow w34 109 300 76 g109_73 := h109_74
        refine xg_ialdB (n := (3 * kk) + wh) (B := 4294967295) h109_74 (hb75) xnm0 (by omega) (fun u76 hu77 he78 => ?_)
        refine xg_t (xg_goto) ?_
        refine xg_t (xg_blk (b := [(43, 1, 12, 0, 1, 0)]) rfl) ?_
        exact xg_e ⟨u76, w34, ⟨rfl, rfl⟩, by omega, hI36, (hF37.up (by decide))⟩
      · refine xg_t (xg_ifT (u := (if 0 ≤ kk ∧ kk ≤ f82_64 - 1 then 1 else 0)) rfl xnm0 (xj_eqT (xite0 hc72))) ?_
        refine xg_t (xg_blk (b := [(42, 1, 3, 4294967295, 0, 0)]) rfl) ?_
        refine xg_t (xg_const) ?_
        refine xg_t (xg_blk (b := [(43, 1, 12, 0, 1, 0)]) rfl) ?_
        exact xg_e ⟨4294967295, w34, ⟨rfl, rfl⟩, by omega, hI36, (hF37.up (by decide))⟩
    · have hz81 : 4294967295 ≤ (f82_64 + (4294967296 - 1)) % 4294967296 := by omega
      refine xg_t (xg_isub (u := f82_64) (v := 1) (z := (f82_64 + (4294967296 - 1)) % 4294967296) xnm0 xnm0 rfl) ?_
      have hz80 : (f82_64 + (4294967296 - 1)) % 4294967296 < 4294967296 := Nat.mod_lt _ (by decide)
      generalize (f82_64 + (4294967296 - 1)) % 4294967296 = z79 at hz81 hz80 ⊢
      refine xg_t (xg_cSr mX12_isIn (vs := [(0, kk), (0, 0), (0, z79)]) (rest := []) (rs := [(0, 0)]) (cn1 := 0) (sl1 := 0) rfl (mIsInN (by omega) (by omega) (by omega) (by omega)) rfl rfl rfl rfl rfl rfl rfl rfl) ?_
      refine xg_t (xg_ifT (u := 0) rfl xnm0 (by decide)) ?_
      refine xg_t (xg_blk (b := [(42, 1, 3, 4294967295, 0, 0)]) rfl) ?_
      refine xg_t (xg_const) ?_
      refine xg_t (xg_blk (b := [(43, 1, 12, 0, 1, 0)]) rfl) ?_
      exact xg_e ⟨4294967295, w34, ⟨rfl, rfl⟩, by omega, hI36, (hF37.up (by decide))⟩
  · refine xg_t (xg_ifF (u := (if 0 ≤ wh ∧ wh ≤ 2 then 1 else 0)) rfl xnm0 (xj_neF (xite0 hc33))) ?_
    refine xg_t (xg_const) ?_
    exact xg_e ⟨4294967295, w, ⟨rfl, rfl⟩, by omega, hI, xFr.rf⟩
theorem mInOrder (hI : xMnv w)  : xPq d mX12_inOrder [(2, 82)] w bd fc rr [] (fun w' => xMnv w' ∧ xFr [88] w w' ∧ (∃ f : Nat → Nat, xRow w' 88 6 55 f ∧ (∀ j, f j ≤ 5) ∧ ∀ j, j < 6 → f j = j)) := by
  refine xPq.of ?_
  show xTo d mX12_inOrder (0, [], [(0, (2, 82))], [], (w, bd, fc, 0, 0, rr)) (fun φ => ∃ w', xEnd 0 [] (w', bd, fc, 0, 0, rr) φ ∧ xMnv w' ∧ xFr [88] w w' ∧ (∃ f : Nat → Nat, xRow w' 88 6 55 f ∧ (∀ j, f j ≤ 5) ∧ ∀ j, j < 6 → f j = j))
  obtain ⟨f82_1, f82_3, f82_5, f82_7, f82_9, f82_11, f82_13, f82_15, f82_17, f82_19, f82_21, f82_22, f82_23, f82_25, f82_27, f82_29, h82_31, hb2, hb4, hb6, hb8, hb10, hb12, hb14, hb16, hb18, hb20, hb24, hb26, hb28, hb30, hb32⟩ := (hI 82 (by decide) (by decide) : cp82 (wget w 82))
  replace hb4 := xHid.of hb4
  replace hb10 := xHid.of hb10
  replace hb14 := xHid.of hb14
  replace hb16 := xHid.of hb16
  replace hb20 := xHid.of hb20
  replace hb24 := xHid.of hb24
  replace hb26 := xHid.of hb26
  replace hb28 := xHid.of hb28
  replace hb30 := xHid.of hb30
  refine xg_t (xg_blk (b := [(0, 1, 3, 0, 0, 0), (1, 1, 15, 1, 0, 0)]) rfl) ?_
  refine xg_t (xg_const) ?_
  refine xg_t (xg_istore (l1 := [(0, (2, 82))]) rfl rfl rfl) ?_
  refine xg_t (xg_drop (l1 := [(0, (2, 82)), (1, (0, 0))]) (List.forall_mem_cons.mpr ⟨List.mem_cons_of_mem _ (List.mem_cons_self), List.forall_mem_cons.mpr ⟨List.mem_cons_self, fun _ h => absurd h List.not_mem_nil⟩⟩)) ?_
  obtain ⟨g88_39, h88_40, hb41⟩ := (hI 88 (by decide) (by decide) : cpI 6 55 5 (wget w 88))
  have h88_40 : xRow w 88 6 55 g88_39 := h88_40
  have key33 : ∀ (m35 : Nat) (ki : Nat) (w36 : List (List xE)), 6 - ki < m35 → ki ≤ 6 → xMnv w36 → xFr [88] w w36 → (∃ f : Nat → Nat, xRow w36 88 6 55 f ∧ ∀ j, j < ki → f j = j) → xTo d mX12_inOrder (2, [], [(0, (2, 82)), (1, (0, ki))], [], (w36, bd, fc, 0, 0, rr)) (fun φ => ∃ w', xEnd 0 [] (w', bd, fc, 0, 0, rr) φ ∧ xMnv w' ∧ xFr [88] w w' ∧ (∃ f : Nat → Nat, xRow w' 88 6 55 f ∧ (∀ j, f j ≤ 5) ∧ ∀ j, j < 6 → f j = j)) := by
    intro m35
    induction m35 with
    | zero => intro ki w36 hz; exact absurd hz (Nat.not_lt_zero _)
    | succ m35 ih34 =>
      intro ki w36 hm44 hn42 hI37 hF38 he43
      obtain ⟨f45, hr46, hf47⟩ := he43
      obtain ⟨g88_49, h88_50, hb51⟩ := (hI37 88 (by decide) (by decide) : cpI 6 55 5 (wget w36 88))
      have h88_50 : xRow w36 88 6 55 g88_49 := h88_50
      have hd48 : ∀ j, j < ki → g88_49 j = j := fun j hj => by rw [← xRow.det hr46 h88_50 j (by omega)]; exact hf47 j hj
      refine xg_t (xg_blk (b := [(2, 1, 2, 1, 0, 0), (3, 2, 4, 6, 0, 0), (5, 3, 6, 21, 3, 0), (8, 1, 0, 0, 0, 0), (9, 3, 1, 12, 15, 26), (12, 1, 2, 1, 0, 0), (13, 1, 2, 1, 0, 0), (14, 1, 17, 0, 0, 0), (15, 3, 9, 1, 1, 0), (18, 3, 8, 2, 0, 0)]) rfl) ?_
      refine xg_t (xg_iload (va := (0, ki)) rfl rfl) ?_
      refine xg_t (xg_bip) ?_
      by_cases hc52 : ki < 6
      · refine xg_t (xg_icF (u := ki) (v := 6) rfl xnm0 xnm0 (xj_geF hc52 (by omega))) ?_
        refine xg_t (xg_aload (va := (2, 82)) rfl rfl) ?_
        refine xg_t (xg_getf (va := (2, 88)) (hF38.get (by decide) h82_31) rfl) ?_
        refine xg_t (xg_iload (va := (0, ki)) rfl rfl) ?_
        refine xg_t (xg_iload (va := (0, ki)) rfl rfl) ?_
        refine xg_iastK (n := ki) (u := ki) h88_50 xnm0 xnm0 rfl (by omega) (fun w53 hr54 hb55 => ?_)
        refine xg_t (xg_iinc (u := ki) (z := ki + 1) (l1 := [(0, (2, 82))]) rfl rfl (by omega) rfl) ?_
        refine xg_t (xg_goto) ?_
        refine xg_t (xg_drop (l1 := [(0, (2, 82)), (1, (0, ki + 1))]) (List.forall_mem_cons.mpr ⟨List.mem_cons_of_mem _ (List.mem_cons_self), List.forall_mem_cons.mpr ⟨List.mem_cons_self, fun _ h => absurd h List.not_mem_nil⟩⟩)) ?_
        exact ih34 (ki + 1) w53 (by omega) (by omega) (xMnv.up (S := [88]) hI37 (xFr.of (S := [88]) hb55 (by decide)) (List.forall_mem_cons.mpr ⟨(show cpI 6 55 5 (wget w53 88) from ⟨_, hr54, xrb (by omega) (hb51)⟩), fun _ h => absurd h List.not_mem_nil⟩)) ((hF38.tr (xFr.of (S := [88]) hb55 (by decide)))) (⟨_, hr54, fun j hj => by show (if j = ki then ki else g88_49 j) = j; split; omega; exact hd48 j (by omega)⟩)
      · refine xg_t (xg_icT (u := ki) (v := 6) rfl xnm0 xnm0 (xj_geT (by omega) (by omega))) ?_
        refine xg_t (xg_blk (b := [(21, 1, 12, 0, 0, 0)]) rfl) ?_
        exact xg_e ⟨w36, ⟨rfl, rfl⟩, hI37, hF38, ⟨_, h88_50, hb51, fun j hj => hd48 j (by omega)⟩⟩
  exact key33 _ 0 w (Nat.lt_succ_self _) (by omega) (hI) (xFr.rf) (⟨_, h88_40, fun j hj => absurd hj (Nat.not_lt_zero _)⟩)
theorem mLayerOf {o0 g0 : Nat → Nat} {pp wh : Nat} (hI : xMnv w) (hpp : pp ≤ 5) (hwh : wh ≤ 3) (hR88 : xRow w 88 6 55 o0) (hob : ∀ j, o0 j ≤ 5) (hR83 : xRow w 83 5360 50 g0) (hgb : ∀ j, g0 j ≤ 4294967295) (hok : okA g0) : xPi d mX12_layerOf [(2, 82), (0, pp), (0, wh)] w bd fc rr (fun n w' => (n ≤ 4294967295 ∧ (wh < 3 → o0 pp < g0 0 → 1 ≤ n ∧ n ≤ 99)) ∧ xMnv w' ∧ xFr [] w w') := by
  refine xPi.of ?_
  show xTo d mX12_layerOf (0, [], [(0, (2, 82)), (1, (0, pp)), (2, (0, wh))], [], (w, bd, fc, 0, 0, rr)) (fun φ => ∃ n w', xEnd 1 [(0, n)] (w', bd, fc, 0, 0, rr) φ ∧ (n ≤ 4294967295 ∧ (wh < 3 → o0 pp < g0 0 → 1 ≤ n ∧ n ≤ 99)) ∧ xMnv w' ∧ xFr [] w w')
  obtain ⟨f82_1, f82_3, f82_5, f82_7, f82_9, f82_11, f82_13, f82_15, f82_17, f82_19, f82_21, f82_22, f82_23, f82_25, f82_27, f82_29, h82_31, hb2, hb4, hb6, hb8, hb10, hb12, hb14, hb16, hb18, hb20, hb24, hb26, hb28, hb30, hb32⟩ := (hI 82 (by decide) (by decide) : cp82 (wget w 82))
  replace hb4 := xHid.of hb4
  replace hb10 := xHid.of hb10
  replace hb14 := xHid.of hb14
  replace hb16 := xHid.of hb16
  replace hb20 := xHid.of hb20
  replace hb24 := xHid.of hb24
  replace hb26 := xHid.of hb26
  replace hb28 := xHid.of hb28
  replace hb30 := xHid.of hb30
  refine xg_t (xg_blk (b := [(0, 1, 0, 0, 0, 0), (1, 3, 1, 12, 0, 7), (4, 2, 4, 20, 0, 0), (6, 1, 3, 4, 0, 0), (7, 1, 0, 0, 0, 0), (8, 3, 1, 12, 15, 26), (11, 1, 2, 1, 0, 0), (12, 1, 10, 0, 0, 0), (13, 1, 16, 0, 0, 0), (14, 1, 11, 0, 0, 0), (15, 1, 2, 2, 0, 0), (16, 1, 11, 0, 0, 0), (17, 1, 10, 0, 0, 0), (18, 1, 12, 0, 1, 0)]) rfl) ?_
  refine xg_t (xg_aload (va := (2, 82)) rfl rfl) ?_
  refine xg_t (xg_getf (va := (2, 83)) h82_31 rfl) ?_
  refine xg_t (xg_bip) ?_
  refine xg_t (xg_const) ?_
  refine xg_t (xg_aload (va := (2, 82)) rfl rfl) ?_
  refine xg_t (xg_getf (va := (2, 88)) h82_31 rfl) ?_
  refine xg_t (xg_iload (va := (0, pp)) rfl rfl) ?_
  refine xg_ialdB (n := pp) (B := 5) hR88 (hob) xnm0 (by omega) (fun u33 hu34 he35 => ?_)
  refine xg_t (xg_imul (u := 4) (v := u33) (z := 4 * u33) xnm0 xnm0 (by omega)) ?_
  refine xg_t (xg_iadd (u := 20) (v := 4 * u33) (z := 20 + (4 * u33)) xnm0 xnm0 (by omega)) ?_
  refine xg_t (xg_iload (va := (0, wh)) rfl rfl) ?_
  refine xg_t (xg_iadd (u := 20 + (4 * u33)) (v := wh) (z := (20 + (4 * u33)) + wh) xnm0 xnm0 (by omega)) ?_
  refine xg_ialdB (n := (20 + (4 * u33)) + wh) (B := 4294967295) hR83 (hgb) xnm0 (by omega) (fun u36 hu37 he38 => ?_)
  exact xg_e ⟨u36, w, ⟨rfl, rfl⟩, ⟨by omega, fun h1 h2 => by rw [he35] at h2; rw [← he38]; exact hok.lay h2 h1⟩, hI, xFr.rf⟩
theorem mSize0 {vv : Nat} (hI : xMnv w)  : xPj d mX12_size0 [(4, vv)] w bd fc rr (fun n w' => (n = n) ∧ xMnv w' ∧ xFr [] w w') := by
  refine xPj.of ?_
  show xTo d mX12_size0 (0, [], [(0, (4, vv))], [], (w, bd, fc, 0, 0, rr)) (fun φ => ∃ n w', xEnd 2 [(4, n)] (w', bd, fc, 0, 0, rr) φ ∧ (n = n) ∧ xMnv w' ∧ xFr [] w w')
  refine xg_t (xg_blk (b := [(0, 1, 53, 0, 0, 0), (1, 1, 51, 0, 0, 0), (2, 1, 57, 0, 0, 0), (3, 3, 7, 11, 3, 0), (6, 1, 53, 0, 0, 0), (7, 1, 68, 0, 0, 0), (8, 3, 8, 12, 0, 0)]) rfl) ?_
  refine xg_t (xg_lload (u := vv) rfl) ?_
  refine xg_t (xg_lconst) ?_
  refine xg_k (xg_lcmp (u := vv) (v := 0)) (xpt_lt _) (fun z1 hz2 => ?_)
  by_cases hc3 : z1 < 2147483648
  · refine xg_t (xg_ifT (u := z1) rfl xnm0 (xjz_geT hc3)) ?_
    refine xg_t (xg_blk (b := [(11, 1, 53, 0, 0, 0)]) rfl) ?_
    refine xg_t (xg_lload (u := vv) rfl) ?_
    refine xg_t (xg_blk (b := [(12, 1, 12, 0, 2, 0)]) rfl) ?_
    exact xg_e ⟨vv, w, ⟨rfl, rfl⟩, by omega, hI, xFr.rf⟩
  · refine xg_t (xg_ifF (u := z1) rfl xnm0 (xjz_geF (by omega) (by omega))) ?_
    refine xg_t (xg_lload (u := vv) rfl) ?_
    refine xg_kl (xg_lneg (u := vv)) (fun l4 => ?_)
    refine xg_t (xg_goto) ?_
    refine xg_t (xg_blk (b := [(12, 1, 12, 0, 2, 0)]) rfl) ?_
    exact xg_e ⟨l4, w, ⟨rfl, rfl⟩, by omega, hI, xFr.rf⟩
end XM6
