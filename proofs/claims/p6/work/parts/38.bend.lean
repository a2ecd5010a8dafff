section
/-! Bend: every method ends and keeps what holds of the cells -/
section XBE
variable {d : Nat} {w : List (List xE)} {bd : List (Nat × Nat)} {fc : List (Nat × Nat × Bool)} {rr : Nat × Nat}
theorem dvDivide {ov un : Nat} (hI : xInv w)  : xPj d mX11_divide [(4, ov), (4, un)] w bd fc rr (fun n w' => (n = n) ∧ xInv w' ∧ xFr [] w w') := by
  refine xPj.of ?_
  show xTo d mX11_divide (0, [], [(0, (4, ov)), (2, (4, un))], [], (w, bd, fc, 0, 0, rr)) (fun φ => ∃ n w', xEnd 2 [(4, n)] (w', bd, fc, 0, 0, rr) φ ∧ (n = n) ∧ xInv w' ∧ xFr [] w w')
  refine xg_t (xg_blq rfl) ?_
  refine xg_t (xg_lload (u := un) rfl) ?_
  refine xg_t (xg_lconst) ?_
  by_cases hc1 : lN un = lN 0
  · refine xg_t (xg_lcmp (u := un) (v := 0)) ?_
    refine xg_t (xg_ifF (u := xpt (lg_cmp (lN un) (lN 0))) rfl xnm0 (xj_neF (xlc_z hc1))) ?_
    refine xg_t (xg_lconst) ?_
    refine xg_t (xg_goto) ?_
    refine xg_t (xg_blq rfl) ?_
    exact xg_e ⟨0, w, ⟨rfl, rfl⟩, by first | decide | omega, hI, xFr.rf⟩
  · refine xg_t (xg_lcmp (u := un) (v := 0)) ?_
    refine xg_t (xg_ifT (u := xpt (lg_cmp (lN un) (lN 0))) rfl xnm0 (xj_neT (xlc_nz hc1))) ?_
    refine xg_t (xg_blq rfl) ?_
    refine xg_t (xg_lload (u := ov) rfl) ?_
    refine xg_t (xg_lload (u := un) rfl) ?_
    refine xg_kl (xg_ldiv (u := ov) (v := un) (hc1)) (fun l2 => ?_)
    refine xg_t (xg_blq rfl) ?_
    exact xg_e ⟨l2, w, ⟨rfl, rfl⟩, by omega, hI, xFr.rf⟩
theorem bdLay (hI : xInv w)  : xPq (d + 2) mX0_lay [(2, 49)] w bd fc rr [] (fun w' => xInv w' ∧ xFr [51, 52, 53, 54, 55] w w') := by
  refine xPq.of ?_
  show xTo (d + 2) mX0_lay (0, [], [(0, (2, 49))], [], (w, bd, fc, 0, 0, rr)) (fun φ => ∃ w', xEnd 0 [] (w', bd, fc, 0, 0, rr) φ ∧ xInv w' ∧ xFr [51, 52, 53, 54, 55] w w')
  refine xoC49 (xqc49 hI : cp49 (wget w 49)) (fun f49_1 f49_3 h49_5 hb2 hb4 => ?_)
  refine xoC3 (xqc3 hI : cp3 (wget w 3)) (fun f3_6 f3_8 f3_10 f3_12 f3_14 h3_16 hb7 hb9 hb11 hb13 hb15 => ?_)
  obtain ⟨f4_17, h4_19, hb18⟩ := (xqc4 hI : cp4 (wget w 4))
  refine xoI (xqc5 hI : cpI 24 1 4294967295 (wget w 5)) (fun g5_20 h5_21 hb22 => ?_)
  refine xg_t (xg_blq rfl) ?_
  refine xg_t (xg_aload (va := (2, 49)) rfl rfl) ?_
  refine xg_t (xg_getf (va := (2, 3)) h49_5 rfl) ?_
  refine xg_t (xg_getf (va := (2, 4)) h3_16 rfl) ?_
  refine xg_t (xg_getf (va := (0, f4_17)) h4_19 rfl) ?_
  refine xg_t (xg_istore (l1 := [(0, (2, 49))]) rfl rfl rfl) ?_
  refine xg_t (xg_const) ?_
  refine xg_t (xg_istore (l1 := [(1, (0, f4_17)), (0, (2, 49))]) rfl rfl rfl) ?_
  refine xg_t (xg_const) ?_
  refine xg_t (xg_istore (l1 := [(2, (0, 0)), (1, (0, f4_17)), (0, (2, 49))]) rfl rfl rfl) ?_
  refine xg_t (xg_const) ?_
  refine xg_t (xg_istore (l1 := [(3, (0, 0)), (2, (0, 0)), (1, (0, f4_17)), (0, (2, 49))]) rfl rfl rfl) ?_
  refine xg_t (xg_drop (l1 := [(0, (2, 49)), (1, (0, f4_17)), (2, (0, 0)), (3, (0, 0)), (4, (0, 0))]) (List.forall_mem_cons.mpr ⟨List.mem_cons_of_mem _ (List.mem_cons_of_mem _ (List.mem_cons_of_mem _ (List.mem_cons_of_mem _ (List.mem_cons_self)))), List.forall_mem_cons.mpr ⟨List.mem_cons_of_mem _ (List.mem_cons_of_mem _ (List.mem_cons_of_mem _ (List.mem_cons_self))), List.forall_mem_cons.mpr ⟨List.mem_cons_of_mem _ (List.mem_cons_of_mem _ (List.mem_cons_self)), List.forall_mem_cons.mpr ⟨List.mem_cons_of_mem _ (List.mem_cons_self), List.forall_mem_cons.mpr ⟨List.mem_cons_self, fun _ h => absurd h List.not_mem_nil⟩⟩⟩⟩⟩)) ?_
  have key23 : ∀ (m25 : Nat) (he sa pl : Nat) (w26 : List (List xE)), 6 - pl < m25 → he ≤ 4294967295 → sa ≤ 5 → pl ≤ 6 → xInv w26 → xFr [51, 52, 53, 54, 55] w w26 → xTo (d + 2) mX0_lay (18, [], [(0, (2, 49)), (1, (0, f4_17)), (2, (0, he)), (3, (0, sa)), (4, (0, pl))], [], (w26, bd, fc, 0, 0, rr)) (fun φ => ∃ w', xEnd 0 [] (w', bd, fc, 0, 0, rr) φ ∧ xInv w' ∧ xFr [51, 52, 53, 54, 55] w w') := by
    intro m25
    induction m25 with
    | zero => intro he sa pl w26 hz; exact absurd hz (Nat.not_lt_zero _)
    | succ m25 ih24 =>
      intro he sa pl w26 hm32 hn29 hn30 hn31 hI27 hF28
      refine xg_t (xg_blq rfl) ?_
      refine xg_t (xg_iload (va := (0, pl)) rfl rfl) ?_
      refine xg_t (xg_iload (va := (0, f4_17)) rfl rfl) ?_
      by_cases hc33 : pl < f4_17
      · refine xg_t (xg_icF (u := pl) (v := f4_17) rfl xnm0 xnm0 (xj_geF hc33 (by omega))) ?_
        have jn34 : ∀ (sb : Nat) (w35 : List (List xE)), sb ≤ 5 → xInv w35 → xFr [51, 52, 53, 54, 55] w w35 → xTo (d + 2) mX0_lay (65, [], [(0, (2, 49)), (1, (0, f4_17)), (2, (0, he)), (3, (0, sb)), (4, (0, pl))], [], (w35, bd, fc, 0, 0, rr)) (fun φ => ∃ w', xEnd 0 [] (w', bd, fc, 0, 0, rr) φ ∧ xInv w' ∧ xFr [51, 52, 53, 54, 55] w w') := by
          intro sb w35 hn38 hI36 hF37
          refine xg_t (xg_blq rfl) ?_
          refine xg_t (xg_aload (va := (2, 49)) rfl rfl) ?_
          refine xg_t (xg_getf (va := (2, 3)) (hF37.get (by decide) h49_5) rfl) ?_
          refine xg_t (xg_getf (va := (2, 4)) (hF37.get (by decide) h3_16) rfl) ?_
          refine xg_t (xg_aload (va := (2, 49)) rfl rfl) ?_
          refine xg_t (xg_getf (va := (2, 50)) (hF37.get (by decide) h49_5) rfl) ?_
          refine xg_t (xg_iload (va := (0, pl)) rfl rfl) ?_
          refine xoI (xqc50 hI36 : cpI 6 23 4294967295 (wget w35 50)) (fun g50_39 h50_40 hb41 => ?_)
          refine xg_ialdB (n := pl) (B := 4294967295) h50_40 (hb41) xnm0 (by omega) (fun u42 hu43 he44 => ?_)
          refine xg_t (xg_const) ?_
          refine xg_k (xg_cVr mX5_get (vs := [(0, u42), (0, 0)]) (rest := []) (rs := [(0, if u42 < f4_17 ∧ 0 < 4 then g5_20 (u42 * 4 + 0) else 4294967295)]) (cn1 := 0) (sl1 := 0) rfl (rget_ok (lim := 6) (wd := 4) (sz := f4_17) (hF37.get (by decide) h4_19) (h5_21.fr hF37 (by decide)) (by decide) (by omega) (by decide) (by decide) (by omega) (by omega)) rfl (hF37.get (by decide) h4_19) rfl rfl rfl rfl rfl rfl rfl) (xiteb (hb22)) (fun z45 hz46 => ?_)
          refine xg_t (xg_istore (l1 := [(0, (2, 49)), (1, (0, f4_17)), (2, (0, he)), (3, (0, sb)), (4, (0, pl))]) rfl rfl rfl) ?_
          refine xg_t (xg_iload (va := (0, z45)) rfl rfl) ?_
          refine xg_kl (xg_i2l (u := z45) xnm0) (fun l47 => ?_)
          refine xg_t (xg_aload (va := (2, 49)) rfl rfl) ?_
          refine xg_t (xg_getf (va := (2, 3)) (hF37.get (by decide) h49_5) rfl) ?_
          refine xg_t (xg_getf (va := (2, 4)) (hF37.get (by decide) h3_16) rfl) ?_
          refine xg_t (xg_aload (va := (2, 49)) rfl rfl) ?_
          refine xg_t (xg_getf (va := (2, 50)) (hF37.get (by decide) h49_5) rfl) ?_
          refine xg_t (xg_iload (va := (0, pl)) rfl rfl) ?_
          refine xg_ialdB (n := pl) (B := 4294967295) h50_40 (hb41) xnm0 (by omega) (fun u48 hu49 he50 => ?_)
          refine xg_t (xg_const) ?_
          refine xg_k (xg_cVr mX5_get (vs := [(0, u48), (0, 1)]) (rest := [(4, l47)]) (rs := [(0, if u48 < f4_17 ∧ 1 < 4 then g5_20 (u48 * 4 + 1) else 4294967295), (4, l47)]) (cn1 := 0) (sl1 := 0) rfl (rget_ok (lim := 6) (wd := 4) (sz := f4_17) (hF37.get (by decide) h4_19) (h5_21.fr hF37 (by decide)) (by decide) (by omega) (by decide) (by decide) (by omega) (by omega)) rfl (hF37.get (by decide) h4_19) rfl rfl rfl rfl rfl rfl rfl) (xiteb (hb22)) (fun z51 hz52 => ?_)
          refine xg_kl (xg_i2l (u := z51) xnm0) (fun l53 => ?_)
          refine xg_kl (xg_lmul (u := l47) (v := l53)) (fun l54 => ?_)
          refine xg_t (xg_lstore (l1 := [(5, (0, z45)), (0, (2, 49)), (1, (0, f4_17)), (2, (0, he)), (3, (0, sb)), (4, (0, pl))]) rfl rfl) ?_
          refine xg_t (xg_aload (va := (2, 49)) rfl rfl) ?_
          refine xg_t (xg_getf (va := (2, 53)) (hF37.get (by decide) h49_5) rfl) ?_
          refine xg_t (xg_iload (va := (0, sb)) rfl rfl) ?_
          refine xg_t (xg_dup2 rfl) ?_
          obtain ⟨g53_55, h53_56⟩ := (xqc53 hI36 : cpJ 6 26 (wget w35 53))
          have h53_56 : xRk 3 4 w35 53 6 26 g53_55 := h53_56
          refine xg_kl (xg_lald (n := sb) h53_56 xnm0 (by omega) rfl) (fun l58 => ?_)
          refine xg_t (xg_lload (u := l54) rfl) ?_
          refine xg_t (xg_const) ?_
          refine xg_t (xg_iload (va := (0, he)) rfl rfl) ?_
          refine xg_k (xg_imul (u := 2) (v := he) (z := (2 * he) % 4294967296) xnm0 xnm0 rfl) (Nat.mod_lt _ (by decide)) (fun z59 hz60 => ?_)
          refine xg_t (xg_iload (va := (0, z45)) rfl rfl) ?_
          refine xg_k (xg_iadd (u := z59) (v := z45) (z := (z59 + z45) % 4294967296) xnm0 xnm0 rfl) (Nat.mod_lt _ (by decide)) (fun z61 hz62 => ?_)
          refine xg_kl (xg_i2l (u := z61) xnm0) (fun l63 => ?_)
          refine xg_kl (xg_lmul (u := l54) (v := l63)) (fun l64 => ?_)
          refine xg_kl (xg_ladd (u := l58) (v := l64)) (fun l65 => ?_)
          refine xg_last (n := sb) (u := l65) h53_56 xnm0 (by omega) (fun w66 hr67 hb68 => ?_)
          refine xg_t (xg_aload (va := (2, 49)) rfl rfl) ?_
          refine xg_t (xg_getf (va := (2, 54)) (hb68.get (by decide) (hF37.get (by decide) h49_5)) rfl) ?_
          refine xg_t (xg_iload (va := (0, sb)) rfl rfl) ?_
          refine xg_t (xg_dup2 rfl) ?_
          obtain ⟨g54_69, h54_70⟩ := (xqc54 hI36 : cpJ 6 27 (wget w35 54))
          have h54_70 : xRk 3 4 w35 54 6 27 g54_69 := h54_70
          refine xg_kl (xg_lald (n := sb) (h54_70.but hb68 (by decide)) xnm0 (by omega) rfl) (fun l72 => ?_)
          refine xg_t (xg_ldc2) ?_
          refine xg_t (xg_lload (u := l54) rfl) ?_
          refine xg_kl (xg_lmul (u := 2) (v := l54)) (fun l73 => ?_)
          refine xg_kl (xg_ladd (u := l72) (v := l73)) (fun l74 => ?_)
          refine xg_last (n := sb) (u := l74) (h54_70.but hb68 (by decide)) xnm0 (by omega) (fun w75 hr76 hb77 => ?_)
          refine xg_t (xg_aload (va := (2, 49)) rfl rfl) ?_
          refine xg_t (xg_getf (va := (2, 52)) (hb77.get (by decide) (hb68.get (by decide) (hF37.get (by decide) h49_5))) rfl) ?_
          refine xg_t (xg_iload (va := (0, pl)) rfl rfl) ?_
          refine xg_t (xg_iload (va := (0, sb)) rfl rfl) ?_
          refine xoI (xqc52 hI36 : cpI 6 25 5 (wget w35 52)) (fun g52_78 h52_79 hb80 => ?_)
          refine xg_iastK (n := pl) (u := sb) ((h52_79.but hb68 (by decide)).but hb77 (by decide)) xnm0 xnm0 rfl (by omega) (fun w81 hr82 hb83 => ?_)
          refine xg_t (xg_aload (va := (2, 49)) rfl rfl) ?_
          refine xg_t (xg_getf (va := (2, 51)) (hb83.get (by decide) (hb77.get (by decide) (hb68.get (by decide) (hF37.get (by decide) h49_5)))) rfl) ?_
          refine xg_t (xg_iload (va := (0, pl)) rfl rfl) ?_
          refine xg_t (xg_iload (va := (0, he)) rfl rfl) ?_
          refine xoI (xqc51 hI36 : cpI 6 24 4294967295 (wget w35 51)) (fun g51_84 h51_85 hb86 => ?_)
          refine xg_iastK (n := pl) (u := he) (((h51_85.but hb68 (by decide)).but hb77 (by decide)).but hb83 (by decide)) xnm0 xnm0 rfl (by omega) (fun w87 hr88 hb89 => ?_)
          refine xg_t (xg_iload (va := (0, he)) rfl rfl) ?_
          refine xg_t (xg_iload (va := (0, z45)) rfl rfl) ?_
          refine xg_k (xg_iadd (u := he) (v := z45) (z := (he + z45) % 4294967296) xnm0 xnm0 rfl) (Nat.mod_lt _ (by decide)) (fun z90 hz91 => ?_)
          refine xg_t (xg_istore (l1 := [(6, (4, l54)), (5, (0, z45)), (0, (2, 49)), (1, (0, f4_17)), (3, (0, sb)), (4, (0, pl))]) rfl rfl rfl) ?_
          refine xg_t (xg_iinc (u := pl) (z := pl + 1) (l1 := [(2, (0, z90)), (6, (4, l54)), (5, (0, z45)), (0, (2, 49)), (1, (0, f4_17)), (3, (0, sb))]) rfl rfl (by omega) rfl) ?_
          refine xg_t (xg_goto) ?_
          refine xg_t (xg_drop (l1 := [(0, (2, 49)), (1, (0, f4_17)), (2, (0, z90)), (3, (0, sb)), (4, (0, pl + 1))]) (List.forall_mem_cons.mpr ⟨List.mem_cons_of_mem _ (List.mem_cons_of_mem _ (List.mem_cons_of_mem _ (List.mem_cons_of_mem _ (List.mem_cons_self)))), List.forall_mem_cons.mpr ⟨List.mem_cons_of_mem _ (List.mem_cons_of_mem _ (List.mem_cons_of_mem _ (List.mem_cons_of_mem _ (List.mem_cons_of_mem _ (List.mem_cons_self))))), List.forall_mem_cons.mpr ⟨List.mem_cons_of_mem _ (List.mem_cons_self), List.forall_mem_cons.mpr ⟨List.mem_cons_of_mem _ (List.mem_cons_of_mem _ (List.mem_cons_of_mem _ (List.mem_cons_of_mem _ (List.mem_cons_of_mem _ (List.mem_cons_of_mem _ (List.mem_cons_self)))))), List.forall_mem_cons.mpr ⟨List.mem_cons_self, fun _ h => absurd h List.not_mem_nil⟩⟩⟩⟩⟩)) ?_
          exact ih24 z90 sb (pl + 1) w87 (by omega) (by omega) (by omega) (by omega) (xInv.up (S := [53, 54, 52, 51]) hI36 ((((xFr.of (S := [53, 54, 52, 51]) hb68 (by decide)).tr (xFr.of (S := [53, 54, 52, 51]) hb77 (by decide))).tr (xFr.of (S := [53, 54, 52, 51]) hb83 (by decide))).tr (xFr.of (S := [53, 54, 52, 51]) hb89 (by decide))) (List.forall_mem_cons.mpr ⟨xqu53 (show cpJ 6 26 (wget w87 53) from ⟨_, (((hr67.but hb77 (by decide)).but hb83 (by decide)).but hb89 (by decide))⟩), List.forall_mem_cons.mpr ⟨xqu54 (show cpJ 6 27 (wget w87 54) from ⟨_, ((hr76.but hb83 (by decide)).but hb89 (by decide))⟩), List.forall_mem_cons.mpr ⟨xqu52 (show cpI 6 25 5 (wget w87 52) from ⟨_, (hr82.but hb89 (by decide)), xrb (by omega) (hb80)⟩), List.forall_mem_cons.mpr ⟨xqu51 (show cpI 6 24 4294967295 (wget w87 51) from ⟨_, hr88, xrb (by omega) (hb86)⟩), fun _ h => absurd h List.not_mem_nil⟩⟩⟩⟩)) ((hF37.tr ((((xFr.of (S := [51, 52, 53, 54, 55]) hb68 (by decide)).tr (xFr.of (S := [51, 52, 53, 54, 55]) hb77 (by decide))).tr (xFr.of (S := [51, 52, 53, 54, 55]) hb83 (by decide))).tr (xFr.of (S := [51, 52, 53, 54, 55]) hb89 (by decide)))))
        refine xg_t (xg_iload (va := (0, pl)) rfl rfl) ?_
        by_cases hc92 : pl = 0
        · refine xg_t (xg_ifT (u := pl) rfl xnm0 (xj_eqT hc92)) ?_
          refine xg_t (xg_blq rfl) ?_
          refine xg_t (xg_iload (va := (0, pl)) rfl rfl) ?_
          refine xg_t (xg_istore (l1 := [(0, (2, 49)), (1, (0, f4_17)), (2, (0, he)), (4, (0, pl))]) rfl rfl rfl) ?_
          refine xg_t (xg_aload (va := (2, 49)) rfl rfl) ?_
          refine xg_t (xg_getf (va := (2, 53)) (hF28.get (by decide) h49_5) rfl) ?_
          refine xg_t (xg_iload (va := (0, pl)) rfl rfl) ?_
          refine xg_t (xg_lconst) ?_
          obtain ⟨g53_93, h53_94⟩ := (xqc53 hI27 : cpJ 6 26 (wget w26 53))
          have h53_94 : xRk 3 4 w26 53 6 26 g53_93 := h53_94
          refine xg_last (n := pl) (u := 0) h53_94 xnm0 (by omega) (fun w96 hr97 hb98 => ?_)
          refine xg_t (xg_aload (va := (2, 49)) rfl rfl) ?_
          refine xg_t (xg_getf (va := (2, 54)) (hb98.get (by decide) (hF28.get (by decide) h49_5)) rfl) ?_
          refine xg_t (xg_iload (va := (0, pl)) rfl rfl) ?_
          refine xg_t (xg_lconst) ?_
          obtain ⟨g54_99, h54_100⟩ := (xqc54 hI27 : cpJ 6 27 (wget w26 54))
          have h54_100 : xRk 3 4 w26 54 6 27 g54_99 := h54_100
          refine xg_last (n := pl) (u := 0) (h54_100.but hb98 (by decide)) xnm0 (by omega) (fun w102 hr103 hb104 => ?_)
          refine xg_t (xg_drop (l1 := [(0, (2, 49)), (1, (0, f4_17)), (2, (0, he)), (3, (0, pl)), (4, (0, pl))]) (List.forall_mem_cons.mpr ⟨List.mem_cons_of_mem _ (List.mem_cons_self), List.forall_mem_cons.mpr ⟨List.mem_cons_of_mem _ (List.mem_cons_of_mem _ (List.mem_cons_self)), List.forall_mem_cons.mpr ⟨List.mem_cons_of_mem _ (List.mem_cons_of_mem _ (List.mem_cons_of_mem _ (List.mem_cons_self))), List.forall_mem_cons.mpr ⟨List.mem_cons_self, List.forall_mem_cons.mpr ⟨List.mem_cons_of_mem _ (List.mem_cons_of_mem _ (List.mem_cons_of_mem _ (List.mem_cons_of_mem _ (List.mem_cons_self)))), fun _ h => absurd h List.not_mem_nil⟩⟩⟩⟩⟩)) ?_
          exact jn34 pl w102 (by omega) (xInv.up (S := [53, 54]) hI27 ((xFr.of (S := [53, 54]) hb98 (by decide)).tr (xFr.of (S := [53, 54]) hb104 (by decide))) (List.forall_mem_cons.mpr ⟨xqu53 (show cpJ 6 26 (wget w102 53) from ⟨_, (hr97.but hb104 (by decide))⟩), List.forall_mem_cons.mpr ⟨xqu54 (show cpJ 6 27 (wget w102 54) from ⟨_, hr103⟩), fun _ h => absurd h List.not_mem_nil⟩⟩)) ((hF28.tr ((xFr.of (S := [51, 52, 53, 54, 55]) hb98 (by decide)).tr (xFr.of (S := [51, 52, 53, 54, 55]) hb104 (by decide)))))
        · refine xg_t (xg_ifF (u := pl) rfl xnm0 (xj_eqF hc92)) ?_
          refine xg_t (xg_aload (va := (2, 49)) rfl rfl) ?_
          refine xg_t (xg_getf (va := (2, 3)) (hF28.get (by decide) h49_5) rfl) ?_
          refine xg_t (xg_getf (va := (2, 4)) (hF28.get (by decide) h3_16) rfl) ?_
          refine xg_t (xg_iload (va := (0, pl)) rfl rfl) ?_
          refine xg_t (xg_const) ?_
          refine xg_t (xg_isub (u := pl) (v := 1) (z := pl - 1) xnm0 xnm0 (by omega)) ?_
          refine xg_t (xg_const) ?_
          refine xg_k (xg_cVr mX5_get (vs := [(0, pl - 1), (0, 3)]) (rest := []) (rs := [(0, if pl - 1 < f4_17 ∧ 3 < 4 then g5_20 ((pl - 1) * 4 + 3) else 4294967295)]) (cn1 := 0) (sl1 := 0) rfl (rget_ok (lim := 6) (wd := 4) (sz := f4_17) (hF28.get (by decide) h4_19) (h5_21.fr hF28 (by decide)) (by decide) (by omega) (by decide) (by decide) (by omega) (by omega)) rfl (hF28.get (by decide) h4_19) rfl rfl rfl rfl rfl rfl rfl) (xiteb (hb22)) (fun z105 hz106 => ?_)
          refine xg_t (xg_const) ?_
          by_cases hc107 : z105 = 1
          · refine xg_t (xg_icF (u := z105) (v := 1) rfl xnm0 xnm0 (xj_neF hc107)) ?_
            refine xg_t (xg_blq rfl) ?_
            refine xg_t (xg_iload (va := (0, pl)) rfl rfl) ?_
            refine xg_t (xg_istore (l1 := [(0, (2, 49)), (1, (0, f4_17)), (2, (0, he)), (4, (0, pl))]) rfl rfl rfl) ?_
            refine xg_t (xg_aload (va := (2, 49)) rfl rfl) ?_
            refine xg_t (xg_getf (va := (2, 53)) (hF28.get (by decide) h49_5) rfl) ?_
            refine xg_t (xg_iload (va := (0, pl)) rfl rfl) ?_
            refine xg_t (xg_lconst) ?_
            obtain ⟨g53_108, h53_109⟩ := (xqc53 hI27 : cpJ 6 26 (wget w26 53))
            have h53_109 : xRk 3 4 w26 53 6 26 g53_108 := h53_109
            refine xg_last (n := pl) (u := 0) h53_109 xnm0 (by omega) (fun w111 hr112 hb113 => ?_)
            refine xg_t (xg_aload (va := (2, 49)) rfl rfl) ?_
            refine xg_t (xg_getf (va := (2, 54)) (hb113.get (by decide) (hF28.get (by decide) h49_5)) rfl) ?_
            refine xg_t (xg_iload (va := (0, pl)) rfl rfl) ?_
            refine xg_t (xg_lconst) ?_
            obtain ⟨g54_114, h54_115⟩ := (xqc54 hI27 : cpJ 6 27 (wget w26 54))
            have h54_115 : xRk 3 4 w26 54 6 27 g54_114 := h54_115
            refine xg_last (n := pl) (u := 0) (h54_115.but hb113 (by decide)) xnm0 (by omega) (fun w117 hr118 hb119 => ?_)
            refine xg_t (xg_drop (l1 := [(0, (2, 49)), (1, (0, f4_17)), (2, (0, he)), (3, (0, pl)), (4, (0, pl))]) (List.forall_mem_cons.mpr ⟨List.mem_cons_of_mem _ (List.mem_cons_self), List.forall_mem_cons.mpr ⟨List.mem_cons_of_mem _ (List.mem_cons_of_mem _ (List.mem_cons_self)), List.forall_mem_cons.mpr ⟨List.mem_cons_of_mem _ (List.mem_cons_of_mem _ (List.mem_cons_of_mem _ (List.mem_cons_self))), List.forall_mem_cons.mpr ⟨List.mem_cons_self, List.forall_mem_cons.mpr ⟨List.mem_cons_of_mem _ (List.mem_cons_of_mem _ (List.mem_cons_of_mem _ (List.mem_cons_of_mem _ (List.mem_cons_self)))), fun _ h => absurd h List.not_mem_nil⟩⟩⟩⟩⟩)) ?_
            exact jn34 pl w117 (by omega) (xInv.up (S := [53, 54]) hI27 ((xFr.of (S := [53, 54]) hb113 (by decide)).tr (xFr.of (S := [53, 54]) hb119 (by decide))) (List.forall_mem_cons.mpr ⟨xqu53 (show cpJ 6 26 (wget w117 53) from ⟨_, (hr112.but hb119 (by decide))⟩), List.forall_mem_cons.mpr ⟨xqu54 (show cpJ 6 27 (wget w117 54) from ⟨_, hr118⟩), fun _ h => absurd h List.not_mem_nil⟩⟩)) ((hF28.tr ((xFr.of (S := [51, 52, 53, 54, 55]) hb113 (by decide)).tr (xFr.of (S := [51, 52, 53, 54, 55]) hb119 (by decide)))))
          · refine xg_t (xg_icT (u := z105) (v := 1) rfl xnm0 xnm0 (xj_neT hc107)) ?_
            exact jn34 sa w26 (by omega) (hI27) (hF28)
      · refine xg_t (xg_icT (u := pl) (v := f4_17) rfl xnm0 xnm0 (xj_geT (by omega) (by omega))) ?_
        refine xg_t (xg_blq rfl) ?_
        refine xg_t (xg_const) ?_
        refine xg_t (xg_istore (l1 := [(0, (2, 49)), (1, (0, f4_17)), (2, (0, he)), (3, (0, sa))]) rfl rfl rfl) ?_
        refine xg_t (xg_drop (l1 := [(0, (2, 49)), (1, (0, f4_17)), (2, (0, he)), (3, (0, sa)), (4, (0, 0))]) (List.forall_mem_cons.mpr ⟨List.mem_cons_of_mem _ (List.mem_cons_self), List.forall_mem_cons.mpr ⟨List.mem_cons_of_mem _ (List.mem_cons_of_mem _ (List.mem_cons_self)), List.forall_mem_cons.mpr ⟨List.mem_cons_of_mem _ (List.mem_cons_of_mem _ (List.mem_cons_of_mem _ (List.mem_cons_self))), List.forall_mem_cons.mpr ⟨List.mem_cons_of_mem _ (List.mem_cons_of_mem _ (List.mem_cons_of_mem _ (List.mem_cons_of_mem _ (List.mem_cons_self)))), List.forall_mem_cons.mpr ⟨List.mem_cons_self, fun _ h => absurd h List.not_mem_nil⟩⟩⟩⟩⟩)) ?_
        have key120 : ∀ (m122 : Nat) (pm : Nat) (w123 : List (List xE)), 6 - pm < m122 → pm ≤ 6 → xInv w123 → xFr [51, 52, 53, 54, 55] w w123 → xTo (d + 2) mX0_lay (174, [], [(0, (2, 49)), (1, (0, f4_17)), (2, (0, he)), (3, (0, sa)), (4, (0, pm))], [], (w123, bd, fc, 0, 0, rr)) (fun φ => ∃ w', xEnd 0 [] (w', bd, fc, 0, 0, rr) φ ∧ xInv w' ∧ xFr [51, 52, 53, 54, 55] w w') := by
          intro m122
          induction m122 with
          | zero => intro pm w123 hz; exact absurd hz (Nat.not_lt_zero _)
          | succ m122 ih121 =>
            intro pm w123 hm127 hn126 hI124 hF125
            refine xg_t (xg_blq rfl) ?_
            refine xg_t (xg_iload (va := (0, pm)) rfl rfl) ?_
            refine xg_t (xg_iload (va := (0, f4_17)) rfl rfl) ?_
            by_cases hc128 : pm < f4_17
            · refine xg_t (xg_icF (u := pm) (v := f4_17) rfl xnm0 xnm0 (xj_geF hc128 (by omega))) ?_
              refine xg_t (xg_aload (va := (2, 49)) rfl rfl) ?_
              refine xg_t (xg_getf (va := (2, 51)) (hF125.get (by decide) h49_5) rfl) ?_
              refine xg_t (xg_iload (va := (0, pm)) rfl rfl) ?_
              refine xoI (xqc51 hI124 : cpI 6 24 4294967295 (wget w123 51)) (fun g51_129 h51_130 hb131 => ?_)
              refine xg_ialdB (n := pm) (B := 4294967295) h51_130 (hb131) xnm0 (by omega) (fun u132 hu133 he134 => ?_)
              refine xg_kl (xg_i2l (u := u132) xnm0) (fun l135 => ?_)
              refine xg_t (xg_aload (va := (2, 49)) rfl rfl) ?_
              refine xg_t (xg_getf (va := (2, 54)) (hF125.get (by decide) h49_5) rfl) ?_
              refine xg_t (xg_aload (va := (2, 49)) rfl rfl) ?_
              refine xg_t (xg_getf (va := (2, 52)) (hF125.get (by decide) h49_5) rfl) ?_
              refine xg_t (xg_iload (va := (0, pm)) rfl rfl) ?_
              refine xoI (xqc52 hI124 : cpI 6 25 5 (wget w123 52)) (fun g52_136 h52_137 hb138 => ?_)
              refine xg_ialdB (n := pm) (B := 5) h52_137 (hb138) xnm0 (by omega) (fun u139 hu140 he141 => ?_)
              obtain ⟨g54_142, h54_143⟩ := (xqc54 hI124 : cpJ 6 27 (wget w123 54))
              have h54_143 : xRk 3 4 w123 54 6 27 g54_142 := h54_143
              refine xg_kl (xg_lald (n := u139) h54_143 xnm0 (by omega) rfl) (fun l145 => ?_)
              refine xg_kl (xg_lmul (u := l135) (v := l145)) (fun l146 => ?_)
              refine xg_t (xg_aload (va := (2, 49)) rfl rfl) ?_
              refine xg_t (xg_getf (va := (2, 53)) (hF125.get (by decide) h49_5) rfl) ?_
              refine xg_t (xg_aload (va := (2, 49)) rfl rfl) ?_
              refine xg_t (xg_getf (va := (2, 52)) (hF125.get (by decide) h49_5) rfl) ?_
              refine xg_t (xg_iload (va := (0, pm)) rfl rfl) ?_
              refine xg_ialdB (n := pm) (B := 5) h52_137 (hb138) xnm0 (by omega) (fun u147 hu148 he149 => ?_)
              obtain ⟨g53_150, h53_151⟩ := (xqc53 hI124 : cpJ 6 26 (wget w123 53))
              have h53_151 : xRk 3 4 w123 53 6 26 g53_150 := h53_151
              refine xg_kl (xg_lald (n := u147) h53_151 xnm0 (by omega) rfl) (fun l153 => ?_)
              refine xg_kl (xg_lsub (u := l146) (v := l153)) (fun l154 => ?_)
              refine xg_t (xg_lstore (l1 := [(0, (2, 49)), (1, (0, f4_17)), (2, (0, he)), (3, (0, sa)), (4, (0, pm))]) rfl rfl) ?_
              refine xg_t (xg_lload (u := l154) rfl) ?_
              refine xg_t (xg_aload (va := (2, 49)) rfl rfl) ?_
              refine xg_t (xg_getf (va := (2, 3)) (hF125.get (by decide) h49_5) rfl) ?_
              refine xg_t (xg_getf (va := (2, 4)) (hF125.get (by decide) h3_16) rfl) ?_
              refine xg_t (xg_aload (va := (2, 49)) rfl rfl) ?_
              refine xg_t (xg_getf (va := (2, 50)) (hF125.get (by decide) h49_5) rfl) ?_
              refine xg_t (xg_iload (va := (0, pm)) rfl rfl) ?_
              refine xoI (xqc50 hI124 : cpI 6 23 4294967295 (wget w123 50)) (fun g50_155 h50_156 hb157 => ?_)
              refine xg_ialdB (n := pm) (B := 4294967295) h50_156 (hb157) xnm0 (by omega) (fun u158 hu159 he160 => ?_)
              refine xg_t (xg_const) ?_
              refine xg_k (xg_cVr mX5_get (vs := [(0, u158), (0, 0)]) (rest := [(4, l154)]) (rs := [(0, if u158 < f4_17 ∧ 0 < 4 then g5_20 (u158 * 4 + 0) else 4294967295), (4, l154)]) (cn1 := 0) (sl1 := 0) rfl (rget_ok (lim := 6) (wd := 4) (sz := f4_17) (hF125.get (by decide) h4_19) (h5_21.fr hF125 (by decide)) (by decide) (by omega) (by decide) (by decide) (by omega) (by omega)) rfl (hF125.get (by decide) h4_19) rfl rfl rfl rfl rfl rfl rfl) (xiteb (hb22)) (fun z161 hz162 => ?_)
              refine xg_kl (xg_i2l (u := z161) xnm0) (fun l163 => ?_)
              refine xg_t (xg_aload (va := (2, 49)) rfl rfl) ?_
              refine xg_t (xg_getf (va := (2, 54)) (hF125.get (by decide) h49_5) rfl) ?_
              refine xg_t (xg_aload (va := (2, 49)) rfl rfl) ?_
              refine xg_t (xg_getf (va := (2, 52)) (hF125.get (by decide) h49_5) rfl) ?_
              refine xg_t (xg_iload (va := (0, pm)) rfl rfl) ?_
              refine xg_ialdB (n := pm) (B := 5) h52_137 (hb138) xnm0 (by omega) (fun u164 hu165 he166 => ?_)
              refine xg_kl (xg_lald (n := u164) h54_143 xnm0 (by omega) rfl) (fun l167 => ?_)
              refine xg_kl (xg_lmul (u := l163) (v := l167)) (fun l168 => ?_)
              refine xg_kl (xg_ladd (u := l154) (v := l168)) (fun l169 => ?_)
              refine xg_t (xg_lstore (l1 := [(5, (4, l154)), (0, (2, 49)), (1, (0, f4_17)), (2, (0, he)), (3, (0, sa)), (4, (0, pm))]) rfl rfl) ?_
              refine xg_t (xg_aload (va := (2, 49)) rfl rfl) ?_
              refine xg_t (xg_getf (va := (2, 55)) (hF125.get (by decide) h49_5) rfl) ?_
              refine xg_t (xg_iload (va := (0, pm)) rfl rfl) ?_
              refine xg_t (xg_lload (u := l169) rfl) ?_
              refine xg_kl (xg_labs (u := l169) (Nat.zero_le _) (Nat.zero_le _) (Nat.le_of_ble_eq_true rfl)) (fun l170 => ?_)
              refine xg_t (xg_lload (u := l154) rfl) ?_
              refine xg_kl (xg_labs (u := l154) (Nat.zero_le _) (Nat.zero_le _) (Nat.le_of_ble_eq_true rfl)) (fun l171 => ?_)
              refine xg_k (xg_lcmp (u := l170) (v := l171)) (xpt_lt _) (fun z172 hz173 => ?_)
              by_cases hc174 : z172 < 2147483648
              · refine xg_t (xg_ifF (u := z172) rfl xnm0 (xjz_ltF hc174)) ?_
                refine xg_t (xg_lload (u := l169) rfl) ?_
                refine xg_t (xg_goto) ?_
                refine xg_t (xg_blq rfl) ?_
                obtain ⟨g55_175, h55_176⟩ := (xqc55 hI124 : cpJ 6 28 (wget w123 55))
                have h55_176 : xRk 3 4 w123 55 6 28 g55_175 := h55_176
                refine xg_last (n := pm) (u := l169) h55_176 xnm0 (by omega) (fun w178 hr179 hb180 => ?_)
                refine xg_t (xg_iinc (u := pm) (z := pm + 1) (l1 := [(7, (4, l169)), (5, (4, l154)), (0, (2, 49)), (1, (0, f4_17)), (2, (0, he)), (3, (0, sa))]) rfl rfl (by omega) rfl) ?_
                refine xg_t (xg_goto) ?_
                refine xg_t (xg_drop (l1 := [(0, (2, 49)), (1, (0, f4_17)), (2, (0, he)), (3, (0, sa)), (4, (0, pm + 1))]) (List.forall_mem_cons.mpr ⟨List.mem_cons_of_mem _ (List.mem_cons_of_mem _ (List.mem_cons_of_mem _ (List.mem_cons_self))), List.forall_mem_cons.mpr ⟨List.mem_cons_of_mem _ (List.mem_cons_of_mem _ (List.mem_cons_of_mem _ (List.mem_cons_of_mem _ (List.mem_cons_self)))), List.forall_mem_cons.mpr ⟨List.mem_cons_of_mem _ (List.mem_cons_of_mem _ (List.mem_cons_of_mem _ (List.mem_cons_of_mem _ (List.mem_cons_of_mem _ (List.mem_cons_self))))), List.forall_mem_cons.mpr ⟨List.mem_cons_of_mem _ (List.mem_cons_of_mem _ (List.mem_cons_of_mem _ (List.mem_cons_of_mem _ (List.mem_cons_of_mem _ (List.mem_cons_of_mem _ (List.mem_cons_self)))))), List.forall_mem_cons.mpr ⟨List.mem_cons_self, fun _ h => absurd h List.not_mem_nil⟩⟩⟩⟩⟩)) ?_
                exact ih121 (pm + 1) w178 (by omega) (by omega) (xInv.up (S := [55]) hI124 (xFr.of (S := [55]) hb180 (by decide)) (List.forall_mem_cons.mpr ⟨xqu55 (show cpJ 6 28 (wget w178 55) from ⟨_, hr179⟩), fun _ h => absurd h List.not_mem_nil⟩)) ((hF125.tr (xFr.of (S := [51, 52, 53, 54, 55]) hb180 (by decide))))
              · refine xg_t (xg_ifT (u := z172) rfl xnm0 (xjz_ltT (by omega) (by omega))) ?_
                refine xg_t (xg_blq rfl) ?_
                refine xg_t (xg_lload (u := l154) rfl) ?_
                refine xg_t (xg_blq rfl) ?_
                obtain ⟨g55_181, h55_182⟩ := (xqc55 hI124 : cpJ 6 28 (wget w123 55))
                have h55_182 : xRk 3 4 w123 55 6 28 g55_181 := h55_182
                refine xg_last (n := pm) (u := l154) h55_182 xnm0 (by omega) (fun w184 hr185 hb186 => ?_)
                refine xg_t (xg_iinc (u := pm) (z := pm + 1) (l1 := [(7, (4, l169)), (5, (4, l154)), (0, (2, 49)), (1, (0, f4_17)), (2, (0, he)), (3, (0, sa))]) rfl rfl (by omega) rfl) ?_
                refine xg_t (xg_goto) ?_
                refine xg_t (xg_drop (l1 := [(0, (2, 49)), (1, (0, f4_17)), (2, (0, he)), (3, (0, sa)), (4, (0, pm + 1))]) (List.forall_mem_cons.mpr ⟨List.mem_cons_of_mem _ (List.mem_cons_of_mem _ (List.mem_cons_of_mem _ (List.mem_cons_self))), List.forall_mem_cons.mpr ⟨List.mem_cons_of_mem _ (List.mem_cons_of_mem _ (List.mem_cons_of_mem _ (List.mem_cons_of_mem _ (List.mem_cons_self)))), List.forall_mem_cons.mpr ⟨List.mem_cons_of_mem _ (List.mem_cons_of_mem _ (List.mem_cons_of_mem _ (List.mem_cons_of_mem _ (List.mem_cons_of_mem _ (List.mem_cons_self))))), List.forall_mem_cons.mpr ⟨List.mem_cons_of_mem _ (List.mem_cons_of_mem _ (List.mem_cons_of_mem _ (List.mem_cons_of_mem _ (List.mem_cons_of_mem _ (List.mem_cons_of_mem _ (List.mem_cons_self)))))), List.forall_mem_cons.mpr ⟨List.mem_cons_self, fun _ h => absurd h List.not_mem_nil⟩⟩⟩⟩⟩)) ?_
                exact ih121 (pm + 1) w184 (by omega) (by omega) (xInv.up (S := [55]) hI124 (xFr.of (S := [55]) hb186 (by decide)) (List.forall_mem_cons.mpr ⟨xqu55 (show cpJ 6 28 (wget w184 55) from ⟨_, hr185⟩), fun _ h => absurd h List.not_mem_nil⟩)) ((hF125.tr (xFr.of (S := [51, 52, 53, 54, 55]) hb186 (by decide))))
            · refine xg_t (xg_icT (u := pm) (v := f4_17) rfl xnm0 xnm0 (xj_geT (by omega) (by omega))) ?_
              refine xg_t (xg_blq rfl) ?_
              exact xg_e ⟨w123, ⟨rfl, rfl⟩, hI124, hF125⟩
        exact key120 _ 0 w26 (Nat.lt_succ_self _) (by omega) (hI27) (hF28)
  exact key23 _ 0 0 0 w (Nat.lt_succ_self _) (by omega) (by omega) (by omega) (hI) (xFr.rf)
theorem bdLayAsTold (hI : xInv w)  : xPq (d + 3) mX0_layAsTold [(2, 49)] w bd fc rr [] (fun w' => xInv w' ∧ xFr [50, 51, 52, 53, 54, 55] w w') := by
  refine xPq.of ?_
  show xTo (d + 3) mX0_layAsTold (0, [], [(0, (2, 49))], [], (w, bd, fc, 0, 0, rr)) (fun φ => ∃ w', xEnd 0 [] (w', bd, fc, 0, 0, rr) φ ∧ xInv w' ∧ xFr [50, 51, 52, 53, 54, 55] w w')
  refine xoC49 (xqc49 hI : cp49 (wget w 49)) (fun f49_1 f49_3 h49_5 hb2 hb4 => ?_)
  refine xoC3 (xqc3 hI : cp3 (wget w 3)) (fun f3_6 f3_8 f3_10 f3_12 f3_14 h3_16 hb7 hb9 hb11 hb13 hb15 => ?_)
  obtain ⟨f4_17, h4_19, hb18⟩ := (xqc4 hI : cp4 (wget w 4))
  refine xoI (xqc5 hI : cpI 24 1 4294967295 (wget w 5)) (fun g5_20 h5_21 hb22 => ?_)
  refine xg_t (xg_blq rfl) ?_
  refine xg_t (xg_const) ?_
  refine xg_t (xg_istore (l1 := [(0, (2, 49))]) rfl rfl rfl) ?_
  refine xg_t (xg_drop (l1 := [(0, (2, 49)), (1, (0, 0))]) (List.forall_mem_cons.mpr ⟨List.mem_cons_of_mem _ (List.mem_cons_self), List.forall_mem_cons.mpr ⟨List.mem_cons_self, fun _ h => absurd h List.not_mem_nil⟩⟩)) ?_
  have key23 : ∀ (m25 : Nat) (pl : Nat) (w26 : List (List xE)), 6 - pl < m25 → pl ≤ 6 → xInv w26 → xFr [50, 51, 52, 53, 54, 55] w w26 → xTo (d + 3) mX0_layAsTold (2, [], [(0, (2, 49)), (1, (0, pl))], [], (w26, bd, fc, 0, 0, rr)) (fun φ => ∃ w', xEnd 0 [] (w', bd, fc, 0, 0, rr) φ ∧ xInv w' ∧ xFr [50, 51, 52, 53, 54, 55] w w') := by
    intro m25
    induction m25 with
    | zero => intro pl w26 hz; exact absurd hz (Nat.not_lt_zero _)
    | succ m25 ih24 =>
      intro pl w26 hm30 hn29 hI27 hF28
      refine xg_t (xg_blq rfl) ?_
      refine xg_t (xg_iload (va := (0, pl)) rfl rfl) ?_
      refine xg_t (xg_aload (va := (2, 49)) rfl rfl) ?_
      refine xg_t (xg_getf (va := (2, 50)) (hF28.get (by decide) h49_5) rfl) ?_
      refine xoI (xqc50 hI27 : cpI 6 23 4294967295 (wget w26 50)) (fun g50_31 h50_32 hb33 => ?_)
      obtain ⟨us34, ha35, ha36⟩ := id h50_32
      refine xg_t (xg_alen ha35) ?_
      by_cases hc37 : pl < 6
      · refine xg_t (xg_icF (u := pl) (v := 6) rfl xnm0 xnm0 (xj_geF hc37 (by omega))) ?_
        refine xg_t (xg_aload (va := (2, 49)) rfl rfl) ?_
        refine xg_t (xg_getf (va := (2, 50)) (hF28.get (by decide) h49_5) rfl) ?_
        refine xg_t (xg_iload (va := (0, pl)) rfl rfl) ?_
        refine xg_t (xg_iload (va := (0, pl)) rfl rfl) ?_
        refine xg_iastK (n := pl) (u := pl) h50_32 xnm0 xnm0 rfl (by omega) (fun w38 hr39 hb40 => ?_)
        refine xg_t (xg_iinc (u := pl) (z := pl + 1) (l1 := [(0, (2, 49))]) rfl rfl (by omega) rfl) ?_
        refine xg_t (xg_goto) ?_
        refine xg_t (xg_drop (l1 := [(0, (2, 49)), (1, (0, pl + 1))]) (List.forall_mem_cons.mpr ⟨List.mem_cons_of_mem _ (List.mem_cons_self), List.forall_mem_cons.mpr ⟨List.mem_cons_self, fun _ h => absurd h List.not_mem_nil⟩⟩)) ?_
        exact ih24 (pl + 1) w38 (by omega) (by omega) (xInv.up (S := [50]) hI27 (xFr.of (S := [50]) hb40 (by decide)) (List.forall_mem_cons.mpr ⟨xqu50 (show cpI 6 23 4294967295 (wget w38 50) from ⟨_, hr39, xrb (by omega) (hb33)⟩), fun _ h => absurd h List.not_mem_nil⟩)) ((hF28.tr (xFr.of (S := [50, 51, 52, 53, 54, 55]) hb40 (by decide))))
      · refine xg_t (xg_icT (u := pl) (v := 6) rfl xnm0 xnm0 (xj_geT (by omega) (by omega))) ?_
        refine xg_t (xg_blq rfl) ?_
        refine xg_t (xg_aload (va := (2, 49)) rfl rfl) ?_
        refine xg_cVv mX0_lay (vs := []) (rest := []) (cn1 := 0) (sl1 := 0) rfl (bdLay (hI27)) rfl (hF28.get (by decide) h49_5) rfl rfl rfl rfl rfl rfl (fun w41 hq42 => ?_)
        obtain ⟨hI43, hF44⟩ := hq42
        exact xg_e ⟨w41, ⟨rfl, rfl⟩, hI43, (hF28.tr (hF44.up (by decide)))⟩
  exact key23 _ 0 w (Nat.lt_succ_self _) (by omega) (hI) (xFr.rf)
theorem bdNeutral {pl : Nat} (hI : xInv w) (h1 : pl ≤ 5) : xPi (d + 1) mX0_neutralThousandths [(2, 49), (0, pl)] w bd fc rr (fun n w' => (n ≤ 4294967295) ∧ xInv w' ∧ xFr [] w w') := by
  refine xPi.of ?_
  show xTo (d + 1) mX0_neutralThousandths (0, [], [(0, (2, 49)), (1, (0, pl))], [], (w, bd, fc, 0, 0, rr)) (fun φ => ∃ n w', xEnd 1 [(0, n)] (w', bd, fc, 0, 0, rr) φ ∧ (n ≤ 4294967295) ∧ xInv w' ∧ xFr [] w w')
  refine xg_t (xg_blq rfl) ?_
  refine xg_t (xg_ldc2) ?_
  refine xg_t (xg_aload (va := (2, 49)) rfl rfl) ?_
  refine xoC49 (xqc49 hI : cp49 (wget w 49)) (fun f49_1 f49_3 h49_5 hb2 hb4 => ?_)
  refine xg_t (xg_getf (va := (2, 53)) h49_5 rfl) ?_
  refine xg_t (xg_aload (va := (2, 49)) rfl rfl) ?_
  refine xg_t (xg_getf (va := (2, 52)) h49_5 rfl) ?_
  refine xg_t (xg_iload (va := (0, pl)) rfl rfl) ?_
  refine xoI (xqc52 hI : cpI 6 25 5 (wget w 52)) (fun g52_6 h52_7 hb8 => ?_)
  refine xg_ialdB (n := pl) (B := 5) h52_7 (hb8) xnm0 (by omega) (fun u9 hu10 he11 => ?_)
  obtain ⟨g53_12, h53_13⟩ := (xqc53 hI : cpJ 6 26 (wget w 53))
  have h53_13 : xRk 3 4 w 53 6 26 g53_12 := h53_13
  refine xg_kl (xg_lald (n := u9) h53_13 xnm0 (by omega) rfl) (fun l15 => ?_)
  refine xg_kl (xg_lmul (u := 1000) (v := l15)) (fun l16 => ?_)
  refine xg_t (xg_aload (va := (2, 49)) rfl rfl) ?_
  refine xg_t (xg_getf (va := (2, 54)) h49_5 rfl) ?_
  refine xg_t (xg_aload (va := (2, 49)) rfl rfl) ?_
  refine xg_t (xg_getf (va := (2, 52)) h49_5 rfl) ?_
  refine xg_t (xg_iload (va := (0, pl)) rfl rfl) ?_
  refine xg_ialdB (n := pl) (B := 5) h52_7 (hb8) xnm0 (by omega) (fun u17 hu18 he19 => ?_)
  obtain ⟨g54_20, h54_21⟩ := (xqc54 hI : cpJ 6 27 (wget w 54))
  have h54_21 : xRk 3 4 w 54 6 27 g54_20 := h54_21
  refine xg_kl (xg_lald (n := u17) h54_21 xnm0 (by omega) rfl) (fun l23 => ?_)
  refine xg_cNj mX11_divide (vs := [(4, l16), (4, l23)]) (rest := []) (cn1 := 0) (sl1 := 0) rfl (dvDivide (hI)) rfl rfl rfl rfl rfl rfl rfl (fun l28 w24 hq25 => ?_)
  obtain ⟨hn29, hI26, hF27⟩ := hq25
  refine xg_k (xg_l2i (u := l28)) (xpt_lt _) (fun z30 hz31 => ?_)
  exact xg_e ⟨z30, w24, ⟨rfl, rfl⟩, by omega, hI26, (hF27.up (by decide))⟩
theorem bdStretch {pl ro : Nat} (hI : xInv w) (h1 : pl ≤ 5) (h2 : ro ≤ 4294967295) : xPi (d + 1) mX0_stretchMillionths [(2, 49), (0, pl), (0, ro)] w bd fc rr (fun n w' => (n ≤ 4294967295) ∧ xInv w' ∧ xFr [] w w') := by
  refine xPi.of ?_
  show xTo (d + 1) mX0_stretchMillionths (0, [], [(0, (2, 49)), (1, (0, pl)), (2, (0, ro))], [], (w, bd, fc, 0, 0, rr)) (fun φ => ∃ n w', xEnd 1 [(0, n)] (w', bd, fc, 0, 0, rr) φ ∧ (n ≤ 4294967295) ∧ xInv w' ∧ xFr [] w w')
  refine xg_t (xg_blq rfl) ?_
  refine xg_t (xg_ldc2) ?_
  refine xg_t (xg_aload (va := (2, 49)) rfl rfl) ?_
  refine xoC49 (xqc49 hI : cp49 (wget w 49)) (fun f49_1 f49_3 h49_5 hb2 hb4 => ?_)
  refine xg_t (xg_getf (va := (2, 55)) h49_5 rfl) ?_
  refine xg_t (xg_iload (va := (0, pl)) rfl rfl) ?_
  obtain ⟨g55_6, h55_7⟩ := (xqc55 hI : cpJ 6 28 (wget w 55))
  have h55_7 : xRk 3 4 w 55 6 28 g55_6 := h55_7
  refine xg_kl (xg_lald (n := pl) h55_7 xnm0 (by omega) rfl) (fun l9 => ?_)
  refine xg_kl (xg_lmul (u := 1000000) (v := l9)) (fun l10 => ?_)
  refine xg_t (xg_iload (va := (0, ro)) rfl rfl) ?_
  refine xg_kl (xg_i2l (u := ro) xnm0) (fun l11 => ?_)
  refine xg_t (xg_aload (va := (2, 49)) rfl rfl) ?_
  refine xg_t (xg_getf (va := (2, 54)) h49_5 rfl) ?_
  refine xg_t (xg_aload (va := (2, 49)) rfl rfl) ?_
  refine xg_t (xg_getf (va := (2, 52)) h49_5 rfl) ?_
  refine xg_t (xg_iload (va := (0, pl)) rfl rfl) ?_
  refine xoI (xqc52 hI : cpI 6 25 5 (wget w 52)) (fun g52_12 h52_13 hb14 => ?_)
  refine xg_ialdB (n := pl) (B := 5) h52_13 (hb14) xnm0 (by omega) (fun u15 hu16 he17 => ?_)
  obtain ⟨g54_18, h54_19⟩ := (xqc54 hI : cpJ 6 27 (wget w 54))
  have h54_19 : xRk 3 4 w 54 6 27 g54_18 := h54_19
  refine xg_kl (xg_lald (n := u15) h54_19 xnm0 (by omega) rfl) (fun l21 => ?_)
  refine xg_kl (xg_lmul (u := l11) (v := l21)) (fun l22 => ?_)
  refine xg_cNj mX11_divide (vs := [(4, l10), (4, l22)]) (rest := []) (cn1 := 0) (sl1 := 0) rfl (dvDivide (hI)) rfl rfl rfl rfl rfl rfl rfl (fun l27 w23 hq24 => ?_)
  obtain ⟨hn28, hI25, hF26⟩ := hq24
  refine xg_k (xg_l2i (u := l27)) (xpt_lt _) (fun z29 hz30 => ?_)
  exact xg_e ⟨z29, w23, ⟨rfl, rfl⟩, by omega, hI25, (hF26.up (by decide))⟩
theorem bdBorne {pl : Nat} (hI : xInv w) (h1 : pl ≤ 5) : xPj (d + 1) mX0_borneBy [(2, 49), (0, pl)] w bd fc rr (fun n w' => (n = n) ∧ xInv w' ∧ xFr [] w w') := by
  refine xPj.of ?_
  show xTo (d + 1) mX0_borneBy (0, [], [(0, (2, 49)), (1, (0, pl))], [], (w, bd, fc, 0, 0, rr)) (fun φ => ∃ n w', xEnd 2 [(4, n)] (w', bd, fc, 0, 0, rr) φ ∧ (n = n) ∧ xInv w' ∧ xFr [] w w')
  refine xoC49 (xqc49 hI : cp49 (wget w 49)) (fun f49_1 f49_3 h49_5 hb2 hb4 => ?_)
  refine xoC3 (xqc3 hI : cp3 (wget w 3)) (fun f3_6 f3_8 f3_10 f3_12 f3_14 h3_16 hb7 hb9 hb11 hb13 hb15 => ?_)
  obtain ⟨f4_17, h4_19, hb18⟩ := (xqc4 hI : cp4 (wget w 4))
  refine xoI (xqc5 hI : cpI 24 1 4294967295 (wget w 5)) (fun g5_20 h5_21 hb22 => ?_)
  refine xg_t (xg_blq rfl) ?_
  refine xg_t (xg_aload (va := (2, 49)) rfl rfl) ?_
  refine xg_t (xg_getf (va := (2, 3)) h49_5 rfl) ?_
  refine xg_t (xg_getf (va := (2, 4)) h3_16 rfl) ?_
  refine xg_t (xg_aload (va := (2, 49)) rfl rfl) ?_
  refine xg_t (xg_getf (va := (2, 50)) h49_5 rfl) ?_
  refine xg_t (xg_iload (va := (0, pl)) rfl rfl) ?_
  refine xoI (xqc50 hI : cpI 6 23 4294967295 (wget w 50)) (fun g50_23 h50_24 hb25 => ?_)
  refine xg_ialdB (n := pl) (B := 4294967295) h50_24 (hb25) xnm0 (by omega) (fun u26 hu27 he28 => ?_)
  refine xg_t (xg_const) ?_
  refine xg_k (xg_cVr mX5_get (vs := [(0, u26), (0, 2)]) (rest := []) (rs := [(0, if u26 < f4_17 ∧ 2 < 4 then g5_20 (u26 * 4 + 2) else 4294967295)]) (cn1 := 0) (sl1 := 0) rfl (rget_ok (lim := 6) (wd := 4) (sz := f4_17) h4_19 h5_21 (by decide) (by omega) (by decide) (by decide) (by omega) (by omega)) rfl h4_19 rfl rfl rfl rfl rfl rfl rfl) (xiteb (hb22)) (fun z29 hz30 => ?_)
  refine xg_kl (xg_i2l (u := z29) xnm0) (fun l31 => ?_)
  refine xg_t (xg_aload (va := (2, 49)) rfl rfl) ?_
  refine xg_t (xg_getf (va := (2, 54)) h49_5 rfl) ?_
  refine xg_t (xg_aload (va := (2, 49)) rfl rfl) ?_
  refine xg_t (xg_getf (va := (2, 52)) h49_5 rfl) ?_
  refine xg_t (xg_iload (va := (0, pl)) rfl rfl) ?_
  refine xoI (xqc52 hI : cpI 6 25 5 (wget w 52)) (fun g52_32 h52_33 hb34 => ?_)
  refine xg_ialdB (n := pl) (B := 5) h52_33 (hb34) xnm0 (by omega) (fun u35 hu36 he37 => ?_)
  obtain ⟨g54_38, h54_39⟩ := (xqc54 hI : cpJ 6 27 (wget w 54))
  have h54_39 : xRk 3 4 w 54 6 27 g54_38 := h54_39
  refine xg_kl (xg_lald (n := u35) h54_39 xnm0 (by omega) rfl) (fun l41 => ?_)
  refine xg_kl (xg_lmul (u := l31) (v := l41)) (fun l42 => ?_)
  exact xg_e ⟨l42, w, ⟨rfl, rfl⟩, by omega, hI, xFr.rf⟩
theorem bdCanBear {pl ro : Nat} (hI : xInv w) (h1 : pl ≤ 5) (h2 : ro ≤ 4294967295) : xPi (d + 2) mX0_canBear [(2, 49), (0, pl), (0, ro)] w bd fc rr (fun n w' => (n ≤ 1) ∧ xInv w' ∧ xFr [] w w') := by
  refine xPi.of ?_
  show xTo (d + 2) mX0_canBear (0, [], [(0, (2, 49)), (1, (0, pl)), (2, (0, ro))], [], (w, bd, fc, 0, 0, rr)) (fun φ => ∃ n w', xEnd 4 [(0, n)] (w', bd, fc, 0, 0, rr) φ ∧ (n ≤ 1) ∧ xInv w' ∧ xFr [] w w')
  refine xg_t (xg_blq rfl) ?_
  refine xg_t (xg_ldc2) ?_
  refine xg_t (xg_aload (va := (2, 49)) rfl rfl) ?_
  refine xoC49 (xqc49 hI : cp49 (wget w 49)) (fun f49_1 f49_3 h49_5 hb2 hb4 => ?_)
  refine xg_t (xg_getf (va := (2, 55)) h49_5 rfl) ?_
  refine xg_t (xg_iload (va := (0, pl)) rfl rfl) ?_
  obtain ⟨g55_6, h55_7⟩ := (xqc55 hI : cpJ 6 28 (wget w 55))
  have h55_7 : xRk 3 4 w 55 6 28 g55_6 := h55_7
  refine xg_kl (xg_lald (n := pl) h55_7 xnm0 (by omega) rfl) (fun l9 => ?_)
  refine xg_kl (xg_labs (u := l9) (Nat.zero_le _) (Nat.zero_le _) (Nat.le_of_ble_eq_true rfl)) (fun l10 => ?_)
  refine xg_kl (xg_lmul (u := 1000) (v := l10)) (fun l11 => ?_)
  refine xg_t (xg_iload (va := (0, ro)) rfl rfl) ?_
  refine xg_kl (xg_i2l (u := ro) xnm0) (fun l12 => ?_)
  refine xg_t (xg_aload (va := (2, 49)) rfl rfl) ?_
  refine xg_t (xg_iload (va := (0, pl)) rfl rfl) ?_
  refine xg_cVj mX0_borneBy (vs := [(0, pl)]) (rest := [(4, l12), (4, l11)]) (cn1 := 0) (sl1 := 0) rfl (bdBorne (hI) (by omega)) rfl h49_5 rfl rfl rfl rfl rfl rfl (fun l17 w13 hq14 => ?_)
  obtain ⟨hn18, hI15, hF16⟩ := hq14
  refine xg_kl (xg_lmul (u := l12) (v := l17)) (fun l19 => ?_)
  refine xg_k (xg_lcmp (u := l11) (v := l19)) (xpt_lt _) (fun z20 hz21 => ?_)
  by_cases hc22 : xbs 0 < xbs z20
  · have hc22u := hc22
    unfold xbs at hc22u
    have hn23 : z20 ≤ 2147483647 := by omega
    refine xg_t (xg_ifT (u := z20) rfl xnm0 (xjs_gtT hc22)) ?_
    refine xg_t (xg_blq rfl) ?_
    refine xg_t (xg_const) ?_
    refine xg_t (xg_blq rfl) ?_
    exact xg_e ⟨0, w13, ⟨rfl, rfl⟩, by first | decide | omega, hI15, (hF16.up (by decide))⟩
  · have hc22u := hc22
    unfold xbs at hc22u
    refine xg_t (xg_ifF (u := z20) rfl xnm0 (xjs_gtF hc22)) ?_
    refine xg_t (xg_const) ?_
    refine xg_t (xg_goto) ?_
    refine xg_t (xg_blq rfl) ?_
    exact xg_e ⟨1, w13, ⟨rfl, rfl⟩, by first | decide | omega, hI15, (hF16.up (by decide))⟩
theorem bdLeast (hI : xInv w)  : xPi (d + 2) mX0_leastRound [(2, 49)] w bd fc rr (fun n w' => (n ≤ 4294967295) ∧ xInv w' ∧ xFr [] w w') := by
  refine xPi.of ?_
  show xTo (d + 2) mX0_leastRound (0, [], [(0, (2, 49))], [], (w, bd, fc, 0, 0, rr)) (fun φ => ∃ n w', xEnd 1 [(0, n)] (w', bd, fc, 0, 0, rr) φ ∧ (n ≤ 4294967295) ∧ xInv w' ∧ xFr [] w w')
  refine xoC49 (xqc49 hI : cp49 (wget w 49)) (fun f49_1 f49_3 h49_5 hb2 hb4 => ?_)
  refine xoC3 (xqc3 hI : cp3 (wget w 3)) (fun f3_6 f3_8 f3_10 f3_12 f3_14 h3_16 hb7 hb9 hb11 hb13 hb15 => ?_)
  obtain ⟨f4_17, h4_19, hb18⟩ := (xqc4 hI : cp4 (wget w 4))
  refine xoI (xqc5 hI : cpI 24 1 4294967295 (wget w 5)) (fun g5_20 h5_21 hb22 => ?_)
  refine xg_t (xg_blq rfl) ?_
  refine xg_t (xg_lconst) ?_
  refine xg_t (xg_lstore (l1 := [(0, (2, 49))]) rfl rfl) ?_
  refine xg_t (xg_const) ?_
  refine xg_t (xg_istore (l1 := [(1, (4, 1)), (0, (2, 49))]) rfl rfl rfl) ?_
  refine xg_t (xg_drop (l1 := [(0, (2, 49)), (1, (4, 1)), (3, (0, 0))]) (List.forall_mem_cons.mpr ⟨List.mem_cons_of_mem _ (List.mem_cons_of_mem _ (List.mem_cons_self)), List.forall_mem_cons.mpr ⟨List.mem_cons_of_mem _ (List.mem_cons_self), List.forall_mem_cons.mpr ⟨List.mem_cons_self, fun _ h => absurd h List.not_mem_nil⟩⟩⟩)) ?_
  have key23 : ∀ (m25 : Nat) (le pl : Nat) (w26 : List (List xE)), 6 - pl < m25 → le = le → pl ≤ 6 → xInv w26 → xFr [] w w26 → xTo (d + 2) mX0_leastRound (4, [], [(0, (2, 49)), (1, (4, le)), (3, (0, pl))], [], (w26, bd, fc, 0, 0, rr)) (fun φ => ∃ n w', xEnd 1 [(0, n)] (w', bd, fc, 0, 0, rr) φ ∧ (n ≤ 4294967295) ∧ xInv w' ∧ xFr [] w w') := by
    intro m25
    induction m25 with
    | zero => intro le pl w26 hz; exact absurd hz (Nat.not_lt_zero _)
    | succ m25 ih24 =>
      intro le pl w26 hm31 hn29 hn30 hI27 hF28
      refine xg_t (xg_blq rfl) ?_
      refine xg_t (xg_iload (va := (0, pl)) rfl rfl) ?_
      refine xg_t (xg_aload (va := (2, 49)) rfl rfl) ?_
      refine xg_t (xg_getf (va := (2, 3)) (hF28.get (by decide) h49_5) rfl) ?_
      refine xg_t (xg_getf (va := (2, 4)) (hF28.get (by decide) h3_16) rfl) ?_
      refine xg_t (xg_getf (va := (0, f4_17)) (hF28.get (by decide) h4_19) rfl) ?_
      by_cases hc32 : pl < f4_17
      · refine xg_t (xg_icF (u := pl) (v := f4_17) rfl xnm0 xnm0 (xj_geF hc32 (by omega))) ?_
        refine xg_t (xg_aload (va := (2, 49)) rfl rfl) ?_
        refine xg_t (xg_iload (va := (0, pl)) rfl rfl) ?_
        refine xg_cVj mX0_borneBy (vs := [(0, pl)]) (rest := []) (cn1 := 0) (sl1 := 0) rfl (bdBorne (hI27) (by omega)) rfl (hF28.get (by decide) h49_5) rfl rfl rfl rfl rfl rfl (fun l37 w33 hq34 => ?_)
        obtain ⟨hn38, hI35, hF36⟩ := hq34
        refine xg_t (xg_lstore (l1 := [(0, (2, 49)), (1, (4, le)), (3, (0, pl))]) rfl rfl) ?_
        refine xg_t (xg_lload (u := le) rfl) ?_
        refine xg_t (xg_ldc2) ?_
        refine xg_t (xg_aload (va := (2, 49)) rfl rfl) ?_
        refine xg_t (xg_getf (va := (2, 55)) (hF36.get (by decide) (hF28.get (by decide) h49_5)) rfl) ?_
        refine xg_t (xg_iload (va := (0, pl)) rfl rfl) ?_
        obtain ⟨g55_39, h55_40⟩ := (xqc55 hI35 : cpJ 6 28 (wget w33 55))
        have h55_40 : xRk 3 4 w33 55 6 28 g55_39 := h55_40
        refine xg_kl (xg_lald (n := pl) h55_40 xnm0 (by omega) rfl) (fun l42 => ?_)
        refine xg_kl (xg_labs (u := l42) (Nat.zero_le _) (Nat.zero_le _) (Nat.le_of_ble_eq_true rfl)) (fun l43 => ?_)
        refine xg_kl (xg_lmul (u := 1000) (v := l43)) (fun l44 => ?_)
        refine xg_t (xg_lload (u := l37) rfl) ?_
        refine xg_kl (xg_ladd (u := l44) (v := l37)) (fun l45 => ?_)
        refine xg_t (xg_lconst) ?_
        refine xg_kl (xg_lsub (u := l45) (v := 1)) (fun l46 => ?_)
        refine xg_t (xg_lload (u := l37) rfl) ?_
        refine xg_cNj mX11_divide (vs := [(4, l46), (4, l37)]) (rest := [(4, le)]) (cn1 := 0) (sl1 := 0) rfl (dvDivide (hI35)) rfl rfl rfl rfl rfl rfl rfl (fun l51 w47 hq48 => ?_)
        obtain ⟨hn52, hI49, hF50⟩ := hq48
        refine xg_kl (xg_lmax (u := le) (v := l51) (Nat.zero_le _) (Nat.zero_le _) (Nat.le_of_ble_eq_true rfl)) (fun l53 => ?_)
        refine xg_t (xg_lstore (l1 := [(4, (4, l37)), (0, (2, 49)), (3, (0, pl))]) rfl rfl) ?_
        refine xg_t (xg_iinc (u := pl) (z := pl + 1) (l1 := [(1, (4, l53)), (4, (4, l37)), (0, (2, 49))]) rfl rfl (by omega) rfl) ?_
        refine xg_t (xg_goto) ?_
        refine xg_t (xg_drop (l1 := [(0, (2, 49)), (1, (4, l53)), (3, (0, pl + 1))]) (List.forall_mem_cons.mpr ⟨List.mem_cons_of_mem _ (List.mem_cons_of_mem _ (List.mem_cons_of_mem _ (List.mem_cons_self))), List.forall_mem_cons.mpr ⟨List.mem_cons_of_mem _ (List.mem_cons_self), List.forall_mem_cons.mpr ⟨List.mem_cons_self, fun _ h => absurd h List.not_mem_nil⟩⟩⟩)) ?_
        exact ih24 l53 (pl + 1) w47 (by omega) (by omega) (by omega) (hI49) (((hF28.tr (hF36.up (by decide))).tr (hF50.up (by decide))))
      · refine xg_t (xg_icT (u := pl) (v := f4_17) rfl xnm0 xnm0 (xj_geT (by omega) (by omega))) ?_
        refine xg_t (xg_blq rfl) ?_
        refine xg_t (xg_lload (u := le) rfl) ?_
        refine xg_t (xg_ldc2) ?_
        refine xg_kl (xg_lmin (u := le) (v := 10000) (Nat.zero_le _) (Nat.zero_le _) (Nat.le_of_ble_eq_true rfl)) (fun l54 => ?_)
        refine xg_k (xg_l2i (u := l54)) (xpt_lt _) (fun z55 hz56 => ?_)
        exact xg_e ⟨z55, w26, ⟨rfl, rfl⟩, by omega, hI27, hF28⟩
  exact key23 _ 1 0 w (Nat.lt_succ_self _) (by omega) (by omega) (hI) (xFr.rf)
theorem bdWorst (hI : xInv w)  : xPi (d + 2) mX0_worstPlace [(2, 49)] w bd fc rr (fun n w' => (n ≤ 5) ∧ xInv w' ∧ xFr [] w w') := by
  refine xPi.of ?_
  show xTo (d + 2) mX0_worstPlace (0, [], [(0, (2, 49))], [], (w, bd, fc, 0, 0, rr)) (fun φ => ∃ n w', xEnd 1 [(0, n)] (w', bd, fc, 0, 0, rr) φ ∧ (n ≤ 5) ∧ xInv w' ∧ xFr [] w w')
  refine xoC49 (xqc49 hI : cp49 (wget w 49)) (fun f49_1 f49_3 h49_5 hb2 hb4 => ?_)
  refine xoC3 (xqc3 hI : cp3 (wget w 3)) (fun f3_6 f3_8 f3_10 f3_12 f3_14 h3_16 hb7 hb9 hb11 hb13 hb15 => ?_)
  obtain ⟨f4_17, h4_19, hb18⟩ := (xqc4 hI : cp4 (wget w 4))
  refine xoI (xqc5 hI : cpI 24 1 4294967295 (wget w 5)) (fun g5_20 h5_21 hb22 => ?_)
  refine xg_t (xg_blq rfl) ?_
  refine xg_t (xg_const) ?_
  refine xg_t (xg_istore (l1 := [(0, (2, 49))]) rfl rfl rfl) ?_
  refine xg_t (xg_const) ?_
  refine xg_t (xg_istore (l1 := [(1, (0, 0)), (0, (2, 49))]) rfl rfl rfl) ?_
  refine xg_t (xg_drop (l1 := [(0, (2, 49)), (1, (0, 0)), (2, (0, 1))]) (List.forall_mem_cons.mpr ⟨List.mem_cons_of_mem _ (List.mem_cons_of_mem _ (List.mem_cons_self)), List.forall_mem_cons.mpr ⟨List.mem_cons_of_mem _ (List.mem_cons_self), List.forall_mem_cons.mpr ⟨List.mem_cons_self, fun _ h => absurd h List.not_mem_nil⟩⟩⟩)) ?_
  have key23 : ∀ (m25 : Nat) (wo pl : Nat) (w26 : List (List xE)), 6 - pl < m25 → wo ≤ 5 → pl ≤ 6 → xInv w26 → xFr [] w w26 → xTo (d + 2) mX0_worstPlace (4, [], [(0, (2, 49)), (1, (0, wo)), (2, (0, pl))], [], (w26, bd, fc, 0, 0, rr)) (fun φ => ∃ n w', xEnd 1 [(0, n)] (w', bd, fc, 0, 0, rr) φ ∧ (n ≤ 5) ∧ xInv w' ∧ xFr [] w w') := by
    intro m25
    induction m25 with
    | zero => intro wo pl w26 hz; exact absurd hz (Nat.not_lt_zero _)
    | succ m25 ih24 =>
      intro wo pl w26 hm31 hn29 hn30 hI27 hF28
      refine xg_t (xg_blq rfl) ?_
      refine xg_t (xg_iload (va := (0, pl)) rfl rfl) ?_
      refine xg_t (xg_aload (va := (2, 49)) rfl rfl) ?_
      refine xg_t (xg_getf (va := (2, 3)) (hF28.get (by decide) h49_5) rfl) ?_
      refine xg_t (xg_getf (va := (2, 4)) (hF28.get (by decide) h3_16) rfl) ?_
      refine xg_t (xg_getf (va := (0, f4_17)) (hF28.get (by decide) h4_19) rfl) ?_
      by_cases hc32 : pl < f4_17
      · refine xg_t (xg_icF (u := pl) (v := f4_17) rfl xnm0 xnm0 (xj_geF hc32 (by omega))) ?_
        refine xg_t (xg_aload (va := (2, 49)) rfl rfl) ?_
        refine xg_t (xg_getf (va := (2, 55)) (hF28.get (by decide) h49_5) rfl) ?_
        refine xg_t (xg_iload (va := (0, pl)) rfl rfl) ?_
        obtain ⟨g55_33, h55_34⟩ := (xqc55 hI27 : cpJ 6 28 (wget w26 55))
        have h55_34 : xRk 3 4 w26 55 6 28 g55_33 := h55_34
        refine xg_kl (xg_lald (n := pl) h55_34 xnm0 (by omega) rfl) (fun l36 => ?_)
        refine xg_kl (xg_labs (u := l36) (Nat.zero_le _) (Nat.zero_le _) (Nat.le_of_ble_eq_true rfl)) (fun l37 => ?_)
        refine xg_t (xg_aload (va := (2, 49)) rfl rfl) ?_
        refine xg_t (xg_iload (va := (0, wo)) rfl rfl) ?_
        refine xg_cVj mX0_borneBy (vs := [(0, wo)]) (rest := [(4, l37)]) (cn1 := 0) (sl1 := 0) rfl (bdBorne (hI27) (by omega)) rfl (hF28.get (by decide) h49_5) rfl rfl rfl rfl rfl rfl (fun l42 w38 hq39 => ?_)
        obtain ⟨hn43, hI40, hF41⟩ := hq39
        refine xg_kl (xg_lmul (u := l37) (v := l42)) (fun l44 => ?_)
        refine xg_t (xg_aload (va := (2, 49)) rfl rfl) ?_
        refine xg_t (xg_getf (va := (2, 55)) (hF41.get (by decide) (hF28.get (by decide) h49_5)) rfl) ?_
        refine xg_t (xg_iload (va := (0, wo)) rfl rfl) ?_
        refine xg_kl (xg_lald (n := wo) (h55_34.fr hF41 (by decide)) xnm0 (by omega) rfl) (fun l45 => ?_)
        refine xg_kl (xg_labs (u := l45) (Nat.zero_le _) (Nat.zero_le _) (Nat.le_of_ble_eq_true rfl)) (fun l46 => ?_)
        refine xg_t (xg_aload (va := (2, 49)) rfl rfl) ?_
        refine xg_t (xg_iload (va := (0, pl)) rfl rfl) ?_
        refine xg_cVj mX0_borneBy (vs := [(0, pl)]) (rest := [(4, l46), (4, l44)]) (cn1 := 0) (sl1 := 0) rfl (bdBorne (hI40) (by omega)) rfl (hF41.get (by decide) (hF28.get (by decide) h49_5)) rfl rfl rfl rfl rfl rfl (fun l51 w47 hq48 => ?_)
        obtain ⟨hn52, hI49, hF50⟩ := hq48
        refine xg_kl (xg_lmul (u := l46) (v := l51)) (fun l53 => ?_)
        refine xg_k (xg_lcmp (u := l44) (v := l53)) (xpt_lt _) (fun z54 hz55 => ?_)
        by_cases hc56 : xbs 0 < xbs z54
        · have hc56u := hc56
          unfold xbs at hc56u
          have hn57 : z54 ≤ 2147483647 := by omega
          refine xg_t (xg_ifF (u := z54) rfl xnm0 (xjs_leF hc56)) ?_
          refine xg_t (xg_iload (va := (0, pl)) rfl rfl) ?_
          refine xg_t (xg_istore (l1 := [(0, (2, 49)), (2, (0, pl))]) rfl rfl rfl) ?_
          refine xg_t (xg_blq rfl) ?_
          refine xg_t (xg_iinc (u := pl) (z := pl + 1) (l1 := [(1, (0, pl)), (0, (2, 49))]) rfl rfl (by omega) rfl) ?_
          refine xg_t (xg_goto) ?_
          refine xg_t (xg_drop (l1 := [(0, (2, 49)), (1, (0, pl)), (2, (0, pl + 1))]) (List.forall_mem_cons.mpr ⟨List.mem_cons_of_mem _ (List.mem_cons_of_mem _ (List.mem_cons_self)), List.forall_mem_cons.mpr ⟨List.mem_cons_of_mem _ (List.mem_cons_self), List.forall_mem_cons.mpr ⟨List.mem_cons_self, fun _ h => absurd h List.not_mem_nil⟩⟩⟩)) ?_
          exact ih24 pl (pl + 1) w47 (by omega) (by omega) (by omega) (hI49) (((hF28.tr (hF41.up (by decide))).tr (hF50.up (by decide))))
        · have hc56u := hc56
          unfold xbs at hc56u
          refine xg_t (xg_ifT (u := z54) rfl xnm0 (xjs_leT hc56)) ?_
          refine xg_t (xg_blq rfl) ?_
          refine xg_t (xg_iinc (u := pl) (z := pl + 1) (l1 := [(0, (2, 49)), (1, (0, wo))]) rfl rfl (by omega) rfl) ?_
          refine xg_t (xg_goto) ?_
          refine xg_t (xg_drop (l1 := [(0, (2, 49)), (1, (0, wo)), (2, (0, pl + 1))]) (List.forall_mem_cons.mpr ⟨List.mem_cons_of_mem _ (List.mem_cons_self), List.forall_mem_cons.mpr ⟨List.mem_cons_of_mem _ (List.mem_cons_of_mem _ (List.mem_cons_self)), List.forall_mem_cons.mpr ⟨List.mem_cons_self, fun _ h => absurd h List.not_mem_nil⟩⟩⟩)) ?_
          exact ih24 wo (pl + 1) w47 (by omega) (by omega) (by omega) (hI49) (((hF28.tr (hF41.up (by decide))).tr (hF50.up (by decide))))
      · refine xg_t (xg_icT (u := pl) (v := f4_17) rfl xnm0 xnm0 (xj_geT (by omega) (by omega))) ?_
        refine xg_t (xg_blq rfl) ?_
        refine xg_t (xg_iload (va := (0, wo)) rfl rfl) ?_
        exact xg_e ⟨wo, w26, ⟨rfl, rfl⟩, by omega, hI27, hF28⟩
  exact key23 _ 0 1 w (Nat.lt_succ_self _) (by omega) (by omega) (hI) (xFr.rf)
theorem bdTake {ro : Nat} (hI : xInv w) (h1 : ro ≤ 4294967295) : xPq (d + 1) mX0_takeOrder [(2, 49), (0, ro)] w bd fc rr [] (fun w' => xInv w' ∧ xFr [49, 57] w w') := by
  refine xPq.of ?_
  show xTo (d + 1) mX0_takeOrder (0, [], [(0, (2, 49)), (1, (0, ro))], [], (w, bd, fc, 0, 0, rr)) (fun φ => ∃ w', xEnd 0 [] (w', bd, fc, 0, 0, rr) φ ∧ xInv w' ∧ xFr [49, 57] w w')
  refine xg_t (xg_blq rfl) ?_
  refine xg_t (xg_aload (va := (2, 49)) rfl rfl) ?_
  refine xg_t (xg_iload (va := (0, ro)) rfl rfl) ?_
  refine xoC49 (xqc49 hI : cp49 (wget w 49)) (fun f49_1 f49_3 h49_5 hb2 hb4 => ?_)
  refine xg_putI (fl1 := [(2, 3), (2, 50), (2, 51), (2, 52), (2, 53), (2, 54), (2, 55), (2, 56), (2, 57), (0, ro), (0, f49_3)]) h49_5 rfl rfl rfl (fun w6 hk7 hb8 => ?_)
  refine xg_t (xg_aload (va := (2, 49)) rfl rfl) ?_
  refine xg_t (xg_getf (va := (2, 50)) hk7 rfl) ?_
  refine xg_t (xg_const) ?_
  refine xg_t (xg_aload (va := (2, 49)) rfl rfl) ?_
  refine xg_t (xg_getf (va := (2, 57)) hk7 rfl) ?_
  refine xg_t (xg_const) ?_
  refine xg_t (xg_aload (va := (2, 49)) rfl rfl) ?_
  refine xg_t (xg_getf (va := (2, 50)) hk7 rfl) ?_
  refine xoI (xqc50 hI : cpI 6 23 4294967295 (wget w 50)) (fun g50_9 h50_10 hb11 => ?_)
  obtain ⟨us12, ha13, ha14⟩ := id (h50_10.but hb8 (by decide))
  refine xg_t (xg_alen ha13) ?_
  refine xoI (xqc57 hI : cpI 6 30 4294967295 (wget w 57)) (fun g57_15 h57_16 hb17 => ?_)
  refine xg_copyI (n := 6) (h50_10.but hb8 (by decide)) (h57_16.but hb8 (by decide)) xnm0 (by omega) (by omega) (Nat.le_of_ble_eq_true rfl) (fun w18 hr19 hb20 => ?_)
  have rb21 := xcb2 (n := 6) (hb11) (hb17)
  exact xg_e ⟨w18, ⟨rfl, rfl⟩, xInv.up (S := [49, 57]) hI ((xFr.of (S := [49, 57]) hb8 (by decide)).tr (xFr.of (S := [49, 57]) hb20 (by decide))) (List.forall_mem_cons.mpr ⟨xqu49 (show cp49 (wget w18 49) from ⟨ro, f49_3, (hb20.get (by decide) hk7), by omega, hb4⟩), List.forall_mem_cons.mpr ⟨xqu57 (show cpI 6 30 4294967295 (wget w18 57) from ⟨_, hr19, rb21⟩), fun _ h => absurd h List.not_mem_nil⟩⟩), ((xFr.of (S := [49, 57]) hb8 (by decide)).tr (xFr.of (S := [49, 57]) hb20 (by decide)))⟩
theorem bdSwap {on ot : Nat} (hI : xInv w) (h1 : on ≤ 5) (h2 : ot ≤ 5) : xPq d mX0_swapPlaces [(2, 49), (0, on), (0, ot)] w bd fc rr [] (fun w' => xInv w' ∧ xFr [50] w w') := by
  refine xPq.of ?_
  show xTo d mX0_swapPlaces (0, [], [(0, (2, 49)), (1, (0, on)), (2, (0, ot))], [], (w, bd, fc, 0, 0, rr)) (fun φ => ∃ w', xEnd 0 [] (w', bd, fc, 0, 0, rr) φ ∧ xInv w' ∧ xFr [50] w w')
  refine xg_t (xg_blq rfl) ?_
  refine xg_t (xg_aload (va := (2, 49)) rfl rfl) ?_
  refine xoC49 (xqc49 hI : cp49 (wget w 49)) (fun f49_1 f49_3 h49_5 hb2 hb4 => ?_)
  refine xg_t (xg_getf (va := (2, 50)) h49_5 rfl) ?_
  refine xg_t (xg_iload (va := (0, on)) rfl rfl) ?_
  refine xoI (xqc50 hI : cpI 6 23 4294967295 (wget w 50)) (fun g50_6 h50_7 hb8 => ?_)
  refine xg_ialdB (n := on) (B := 4294967295) h50_7 (hb8) xnm0 (by omega) (fun u9 hu10 he11 => ?_)
  refine xg_t (xg_istore (l1 := [(0, (2, 49)), (1, (0, on)), (2, (0, ot))]) rfl rfl rfl) ?_
  refine xg_t (xg_aload (va := (2, 49)) rfl rfl) ?_
  refine xg_t (xg_getf (va := (2, 50)) h49_5 rfl) ?_
  refine xg_t (xg_iload (va := (0, on)) rfl rfl) ?_
  refine xg_t (xg_aload (va := (2, 49)) rfl rfl) ?_
  refine xg_t (xg_getf (va := (2, 50)) h49_5 rfl) ?_
  refine xg_t (xg_iload (va := (0, ot)) rfl rfl) ?_
  refine xg_ialdB (n := ot) (B := 4294967295) h50_7 (hb8) xnm0 (by omega) (fun u12 hu13 he14 => ?_)
  refine xg_iastK (n := on) (u := u12) h50_7 xnm0 xnm0 rfl (by omega) (fun w15 hr16 hb17 => ?_)
  refine xg_t (xg_aload (va := (2, 49)) rfl rfl) ?_
  refine xg_t (xg_getf (va := (2, 50)) (hb17.get (by decide) h49_5) rfl) ?_
  refine xg_t (xg_iload (va := (0, ot)) rfl rfl) ?_
  refine xg_t (xg_iload (va := (0, u9)) rfl rfl) ?_
  refine xg_iastK (n := ot) (u := u9) hr16 xnm0 xnm0 rfl (by omega) (fun w18 hr19 hb20 => ?_)
  exact xg_e ⟨w18, ⟨rfl, rfl⟩, xInv.up (S := [50]) hI ((xFr.of (S := [50]) hb17 (by decide)).tr (xFr.of (S := [50]) hb20 (by decide))) (List.forall_mem_cons.mpr ⟨xqu50 (show cpI 6 23 4294967295 (wget w18 50) from ⟨_, hr19, xrb (by omega) (xrb (by omega) (hb8))⟩), fun _ h => absurd h List.not_mem_nil⟩), ((xFr.of (S := [50]) hb17 (by decide)).tr (xFr.of (S := [50]) hb20 (by decide)))⟩
theorem bdStep (hI : xInv w)  : xPi (d + 1) mX0_stepOrder [(2, 49)] w bd fc rr (fun n w' => (n ≤ 1) ∧ xInv w' ∧ xFr [50] w w') := by
  refine xPi.of ?_
  show xTo (d + 1) mX0_stepOrder (0, [], [(0, (2, 49))], [], (w, bd, fc, 0, 0, rr)) (fun φ => ∃ n w', xEnd 4 [(0, n)] (w', bd, fc, 0, 0, rr) φ ∧ (n ≤ 1) ∧ xInv w' ∧ xFr [50] w w')
  refine xoC49 (xqc49 hI : cp49 (wget w 49)) (fun f49_1 f49_3 h49_5 hb2 hb4 => ?_)
  refine xoC3 (xqc3 hI : cp3 (wget w 3)) (fun f3_6 f3_8 f3_10 f3_12 f3_14 h3_16 hb7 hb9 hb11 hb13 hb15 => ?_)
  obtain ⟨f4_17, h4_19, hb18⟩ := (xqc4 hI : cp4 (wget w 4))
  refine xoI (xqc5 hI : cpI 24 1 4294967295 (wget w 5)) (fun g5_20 h5_21 hb22 => ?_)
  refine xg_t (xg_blq rfl) ?_
  refine xg_t (xg_aload (va := (2, 49)) rfl rfl) ?_
  refine xg_t (xg_getf (va := (2, 3)) h49_5 rfl) ?_
  refine xg_t (xg_getf (va := (2, 4)) h3_16 rfl) ?_
  refine xg_t (xg_getf (va := (0, f4_17)) h4_19 rfl) ?_
  refine xg_t (xg_istore (l1 := [(0, (2, 49))]) rfl rfl rfl) ?_
  refine xg_t (xg_iload (va := (0, f4_17)) rfl rfl) ?_
  refine xg_t (xg_const) ?_
  by_cases hc23 : 2 ≤ f4_17
  · refine xg_t (xg_isub (u := f4_17) (v := 2) (z := f4_17 - 2) xnm0 xnm0 (by omega)) ?_
    refine xg_t (xg_istore (l1 := [(1, (0, f4_17)), (0, (2, 49))]) rfl rfl rfl) ?_
    refine xg_t (xg_drop (l1 := [(0, (2, 49)), (1, (0, f4_17)), (2, (0, f4_17 - 2))]) (List.forall_mem_cons.mpr ⟨List.mem_cons_of_mem _ (List.mem_cons_of_mem _ (List.mem_cons_self)), List.forall_mem_cons.mpr ⟨List.mem_cons_of_mem _ (List.mem_cons_self), List.forall_mem_cons.mpr ⟨List.mem_cons_self, fun _ h => absurd h List.not_mem_nil⟩⟩⟩)) ?_
    have key24 : ∀ (m26 : Nat) (tu : Nat) (w27 : List (List xE)), (tu + 2) % 4294967296 < m26 → tu ≤ 4294967295 → xInv w27 → xFr [50] w w27 → tu + 2 ≤ f4_17 ∨ 4294967294 ≤ tu → xTo (d + 1) mX0_stepOrder (15, [], [(0, (2, 49)), (1, (0, f4_17)), (2, (0, tu))], [], (w27, bd, fc, 0, 0, rr)) (fun φ => ∃ n w', xEnd 4 [(0, n)] (w', bd, fc, 0, 0, rr) φ ∧ (n ≤ 1) ∧ xInv w' ∧ xFr [50] w w') := by
      intro m26
      induction m26 with
      | zero => intro tu w27 hz; exact absurd hz (Nat.not_lt_zero _)
      | succ m26 ih25 =>
        intro tu w27 hm32 hn30 hI28 hF29 he31
        refine xg_t (xg_blq rfl) ?_
        refine xg_t (xg_iload (va := (0, tu)) rfl rfl) ?_
        by_cases hc33 : tu < 2147483648
        · refine xg_t (xg_ifF (u := tu) rfl xnm0 (xjz_ltF hc33)) ?_
          have hn34 : tu ≤ 4 := by omega
          refine xg_t (xg_aload (va := (2, 49)) rfl rfl) ?_
          refine xg_t (xg_getf (va := (2, 50)) (hF29.get (by decide) h49_5) rfl) ?_
          refine xg_t (xg_iload (va := (0, tu)) rfl rfl) ?_
          refine xoI (xqc50 hI28 : cpI 6 23 4294967295 (wget w27 50)) (fun g50_35 h50_36 hb37 => ?_)
          refine xg_ialdB (n := tu) (B := 4294967295) h50_36 (hb37) xnm0 (by omega) (fun u38 hu39 he40 => ?_)
          refine xg_t (xg_aload (va := (2, 49)) rfl rfl) ?_
          refine xg_t (xg_getf (va := (2, 50)) (hF29.get (by decide) h49_5) rfl) ?_
          refine xg_t (xg_iload (va := (0, tu)) rfl rfl) ?_
          refine xg_t (xg_const) ?_
          refine xg_t (xg_iadd (u := tu) (v := 1) (z := tu + 1) xnm0 xnm0 (by omega)) ?_
          refine xg_ialdB (n := tu + 1) (B := 4294967295) h50_36 (hb37) xnm0 (by omega) (fun u41 hu42 he43 => ?_)
          by_cases hc44 : xbs u41 < xbs u38
          · have hc44u := hc44
            unfold xbs at hc44u
            refine xg_t (xg_icF (u := u38) (v := u41) rfl xnm0 xnm0 (xjs_leF hc44)) ?_
            refine xg_t (xg_iinc (u := tu) (z := (tu + 4294967295) % 4294967296) (l1 := [(0, (2, 49)), (1, (0, f4_17))]) rfl rfl (rfl) rfl) ?_
            refine xg_t (xg_goto) ?_
            refine xg_t (xg_drop (l1 := [(0, (2, 49)), (1, (0, f4_17)), (2, (0, (tu + 4294967295) % 4294967296))]) (List.forall_mem_cons.mpr ⟨List.mem_cons_of_mem _ (List.mem_cons_self), List.forall_mem_cons.mpr ⟨List.mem_cons_of_mem _ (List.mem_cons_of_mem _ (List.mem_cons_self)), List.forall_mem_cons.mpr ⟨List.mem_cons_self, fun _ h => absurd h List.not_mem_nil⟩⟩⟩)) ?_
            exact ih25 ((tu + 4294967295) % 4294967296) w27 (by omega) (by omega) (hI28) (hF29) (by omega)
          · have hc44u := hc44
            unfold xbs at hc44u
            refine xg_t (xg_icT (u := u38) (v := u41) rfl xnm0 xnm0 (xjs_leT hc44)) ?_
            refine xg_t (xg_blq rfl) ?_
            refine xg_t (xg_iload (va := (0, tu)) rfl rfl) ?_
            refine xg_t (xg_ifT (u := tu) rfl xnm0 (xj_geT (by omega) (by omega))) ?_
            refine xg_t (xg_blq rfl) ?_
            refine xg_t (xg_iload (va := (0, f4_17)) rfl rfl) ?_
            refine xg_t (xg_const) ?_
            refine xg_t (xg_isub (u := f4_17) (v := 1) (z := f4_17 - 1) xnm0 xnm0 (by omega)) ?_
            refine xg_t (xg_istore (l1 := [(0, (2, 49)), (1, (0, f4_17)), (2, (0, tu))]) rfl rfl rfl) ?_
            refine xg_t (xg_drop (l1 := [(0, (2, 49)), (1, (0, f4_17)), (2, (0, tu)), (3, (0, f4_17 - 1))]) (List.forall_mem_cons.mpr ⟨List.mem_cons_of_mem _ (List.mem_cons_self), List.forall_mem_cons.mpr ⟨List.mem_cons_of_mem _ (List.mem_cons_of_mem _ (List.mem_cons_self)), List.forall_mem_cons.mpr ⟨List.mem_cons_of_mem _ (List.mem_cons_of_mem _ (List.mem_cons_of_mem _ (List.mem_cons_self))), List.forall_mem_cons.mpr ⟨List.mem_cons_self, fun _ h => absurd h List.not_mem_nil⟩⟩⟩⟩)) ?_
            have key45 : ∀ (m47 : Nat) (gr : Nat) (w48 : List (List xE)), gr < m47 → gr ≤ 5 → xInv w48 → xFr [50] w w48 → xTo (d + 1) mX0_stepOrder (52, [], [(0, (2, 49)), (1, (0, f4_17)), (2, (0, tu)), (3, (0, gr))], [], (w48, bd, fc, 0, 0, rr)) (fun φ => ∃ n w', xEnd 4 [(0, n)] (w', bd, fc, 0, 0, rr) φ ∧ (n ≤ 1) ∧ xInv w' ∧ xFr [50] w w') := by
              intro m47
              induction m47 with
              | zero => intro gr w48 hz; exact absurd hz (Nat.not_lt_zero _)
              | succ m47 ih46 =>
                intro gr w48 hm52 hn51 hI49 hF50
                refine xg_t (xg_blq rfl) ?_
                refine xg_t (xg_iload (va := (0, gr)) rfl rfl) ?_
                refine xg_t (xg_iload (va := (0, tu)) rfl rfl) ?_
                refine xg_t (xg_const) ?_
                refine xg_t (xg_iadd (u := tu) (v := 1) (z := tu + 1) xnm0 xnm0 (by omega)) ?_
                by_cases hc53 : (tu + 1) < gr
                · refine xg_t (xg_icF (u := gr) (v := tu + 1) rfl xnm0 xnm0 (xj_leF hc53 (by omega))) ?_
                  refine xg_t (xg_aload (va := (2, 49)) rfl rfl) ?_
                  refine xg_t (xg_getf (va := (2, 50)) (hF50.get (by decide) h49_5) rfl) ?_
                  refine xg_t (xg_iload (va := (0, gr)) rfl rfl) ?_
                  refine xoI (xqc50 hI49 : cpI 6 23 4294967295 (wget w48 50)) (fun g50_54 h50_55 hb56 => ?_)
                  refine xg_ialdB (n := gr) (B := 4294967295) h50_55 (hb56) xnm0 (by omega) (fun u57 hu58 he59 => ?_)
                  refine xg_t (xg_aload (va := (2, 49)) rfl rfl) ?_
                  refine xg_t (xg_getf (va := (2, 50)) (hF50.get (by decide) h49_5) rfl) ?_
                  refine xg_t (xg_iload (va := (0, tu)) rfl rfl) ?_
                  refine xg_ialdB (n := tu) (B := 4294967295) h50_55 (hb56) xnm0 (by omega) (fun u60 hu61 he62 => ?_)
                  by_cases hc63 : xbs u57 < xbs u60
                  · have hc63u := hc63
                    unfold xbs at hc63u
                    refine xg_t (xg_icF (u := u57) (v := u60) rfl xnm0 xnm0 (xjs_geF hc63)) ?_
                    refine xg_t (xg_iinc (u := gr) (z := gr - 1) (l1 := [(0, (2, 49)), (1, (0, f4_17)), (2, (0, tu))]) rfl rfl (by omega) rfl) ?_
                    refine xg_t (xg_goto) ?_
                    refine xg_t (xg_drop (l1 := [(0, (2, 49)), (1, (0, f4_17)), (2, (0, tu)), (3, (0, gr - 1))]) (List.forall_mem_cons.mpr ⟨List.mem_cons_of_mem _ (List.mem_cons_self), List.forall_mem_cons.mpr ⟨List.mem_cons_of_mem _ (List.mem_cons_of_mem _ (List.mem_cons_self)), List.forall_mem_cons.mpr ⟨List.mem_cons_of_mem _ (List.mem_cons_of_mem _ (List.mem_cons_of_mem _ (List.mem_cons_self))), List.forall_mem_cons.mpr ⟨List.mem_cons_self, fun _ h => absurd h List.not_mem_nil⟩⟩⟩⟩)) ?_
                    exact ih46 (gr - 1) w48 (by omega) (by omega) (hI49) (hF50)
                  · have hc63u := hc63
                    unfold xbs at hc63u
                    refine xg_t (xg_icT (u := u57) (v := u60) rfl xnm0 xnm0 (xjs_geT hc63)) ?_
                    refine xg_t (xg_blq rfl) ?_
                    refine xg_t (xg_aload (va := (2, 49)) rfl rfl) ?_
                    refine xg_t (xg_iload (va := (0, tu)) rfl rfl) ?_
                    refine xg_t (xg_iload (va := (0, gr)) rfl rfl) ?_
                    refine xg_cVv mX0_swapPlaces (vs := [(0, tu), (0, gr)]) (rest := []) (cn1 := 0) (sl1 := 0) rfl (bdSwap (hI49) (by omega) (by omega)) rfl (hF50.get (by decide) h49_5) rfl rfl rfl rfl rfl rfl (fun w64 hq65 => ?_)
                    obtain ⟨hI66, hF67⟩ := hq65
                    refine xg_t (xg_iload (va := (0, tu)) rfl rfl) ?_
                    refine xg_t (xg_const) ?_
                    refine xg_t (xg_iadd (u := tu) (v := 1) (z := tu + 1) xnm0 xnm0 (by omega)) ?_
                    refine xg_t (xg_istore (l1 := [(0, (2, 49)), (1, (0, f4_17)), (2, (0, tu)), (3, (0, gr))]) rfl rfl rfl) ?_
                    refine xg_t (xg_iload (va := (0, f4_17)) rfl rfl) ?_
                    refine xg_t (xg_const) ?_
                    refine xg_t (xg_isub (u := f4_17) (v := 1) (z := f4_17 - 1) xnm0 xnm0 (by omega)) ?_
                    refine xg_t (xg_istore (l1 := [(4, (0, tu + 1)), (0, (2, 49)), (1, (0, f4_17)), (2, (0, tu)), (3, (0, gr))]) rfl rfl rfl) ?_
                    refine xg_t (xg_drop (l1 := [(0, (2, 49)), (1, (0, f4_17)), (2, (0, tu)), (3, (0, gr)), (4, (0, tu + 1)), (5, (0, f4_17 - 1))]) (List.forall_mem_cons.mpr ⟨List.mem_cons_of_mem _ (List.mem_cons_of_mem _ (List.mem_cons_self)), List.forall_mem_cons.mpr ⟨List.mem_cons_of_mem _ (List.mem_cons_of_mem _ (List.mem_cons_of_mem _ (List.mem_cons_self))), List.forall_mem_cons.mpr ⟨List.mem_cons_of_mem _ (List.mem_cons_of_mem _ (List.mem_cons_of_mem _ (List.mem_cons_of_mem _ (List.mem_cons_self)))), List.forall_mem_cons.mpr ⟨List.mem_cons_of_mem _ (List.mem_cons_of_mem _ (List.mem_cons_of_mem _ (List.mem_cons_of_mem _ (List.mem_cons_of_mem _ (List.mem_cons_self))))), List.forall_mem_cons.mpr ⟨List.mem_cons_of_mem _ (List.mem_cons_self), List.forall_mem_cons.mpr ⟨List.mem_cons_self, fun _ h => absurd h List.not_mem_nil⟩⟩⟩⟩⟩⟩)) ?_
                    have key68 : ∀ (m70 : Nat) (lw hg : Nat) (w71 : List (List xE)), 6 - lw < m70 → lw ≤ 6 → hg ≤ 5 → xInv w71 → xFr [50] w w71 → xTo (d + 1) mX0_stepOrder (96, [], [(0, (2, 49)), (1, (0, f4_17)), (2, (0, tu)), (3, (0, gr)), (4, (0, lw)), (5, (0, hg))], [], (w71, bd, fc, 0, 0, rr)) (fun φ => ∃ n w', xEnd 4 [(0, n)] (w', bd, fc, 0, 0, rr) φ ∧ (n ≤ 1) ∧ xInv w' ∧ xFr [50] w w') := by
                      intro m70
                      induction m70 with
                      | zero => intro lw hg w71 hz; exact absurd hz (Nat.not_lt_zero _)
                      | succ m70 ih69 =>
                        intro lw hg w71 hm76 hn74 hn75 hI72 hF73
                        refine xg_t (xg_blq rfl) ?_
                        refine xg_t (xg_iload (va := (0, lw)) rfl rfl) ?_
                        refine xg_t (xg_iload (va := (0, hg)) rfl rfl) ?_
                        by_cases hc77 : lw < hg
                        · refine xg_t (xg_icF (u := lw) (v := hg) rfl xnm0 xnm0 (xj_geF hc77 (by omega))) ?_
                          refine xg_t (xg_aload (va := (2, 49)) rfl rfl) ?_
                          refine xg_t (xg_iload (va := (0, lw)) rfl rfl) ?_
                          refine xg_t (xg_iload (va := (0, hg)) rfl rfl) ?_
                          refine xg_cVv mX0_swapPlaces (vs := [(0, lw), (0, hg)]) (rest := []) (cn1 := 0) (sl1 := 0) rfl (bdSwap (hI72) (by omega) (by omega)) rfl (hF73.get (by decide) h49_5) rfl rfl rfl rfl rfl rfl (fun w78 hq79 => ?_)
                          obtain ⟨hI80, hF81⟩ := hq79
                          refine xg_t (xg_iinc (u := lw) (z := lw + 1) (l1 := [(0, (2, 49)), (1, (0, f4_17)), (2, (0, tu)), (3, (0, gr)), (5, (0, hg))]) rfl rfl (by omega) rfl) ?_
                          refine xg_t (xg_iinc (u := hg) (z := hg - 1) (l1 := [(4, (0, lw + 1)), (0, (2, 49)), (1, (0, f4_17)), (2, (0, tu)), (3, (0, gr))]) rfl rfl (by omega) rfl) ?_
                          refine xg_t (xg_goto) ?_
                          refine xg_t (xg_drop (l1 := [(0, (2, 49)), (1, (0, f4_17)), (2, (0, tu)), (3, (0, gr)), (4, (0, lw + 1)), (5, (0, hg - 1))]) (List.forall_mem_cons.mpr ⟨List.mem_cons_of_mem _ (List.mem_cons_of_mem _ (List.mem_cons_self)), List.forall_mem_cons.mpr ⟨List.mem_cons_of_mem _ (List.mem_cons_of_mem _ (List.mem_cons_of_mem _ (List.mem_cons_self))), List.forall_mem_cons.mpr ⟨List.mem_cons_of_mem _ (List.mem_cons_of_mem _ (List.mem_cons_of_mem _ (List.mem_cons_of_mem _ (List.mem_cons_self)))), List.forall_mem_cons.mpr ⟨List.mem_cons_of_mem _ (List.mem_cons_of_mem _ (List.mem_cons_of_mem _ (List.mem_cons_of_mem _ (List.mem_cons_of_mem _ (List.mem_cons_self))))), List.forall_mem_cons.mpr ⟨List.mem_cons_of_mem _ (List.mem_cons_self), List.forall_mem_cons.mpr ⟨List.mem_cons_self, fun _ h => absurd h List.not_mem_nil⟩⟩⟩⟩⟩⟩)) ?_
                          exact ih69 (lw + 1) (hg - 1) w78 (by omega) (by omega) (by omega) (hI80) ((hF73.tr (hF81.up (by decide))))
                        · refine xg_t (xg_icT (u := lw) (v := hg) rfl xnm0 xnm0 (xj_geT (by omega) (by omega))) ?_
                          refine xg_t (xg_blq rfl) ?_
                          refine xg_t (xg_const) ?_
                          exact xg_e ⟨1, w71, ⟨rfl, rfl⟩, by first | decide | omega, hI72, hF73⟩
                    exact key68 _ (tu + 1) (f4_17 - 1) w64 (Nat.lt_succ_self _) (by omega) (by omega) (hI66) ((hF50.tr (hF67.up (by decide))))
                · refine xg_t (xg_icT (u := gr) (v := tu + 1) rfl xnm0 xnm0 (xj_leT (by omega) (by omega))) ?_
                  refine xg_t (xg_blq rfl) ?_
                  refine xg_t (xg_aload (va := (2, 49)) rfl rfl) ?_
                  refine xg_t (xg_iload (va := (0, tu)) rfl rfl) ?_
                  refine xg_t (xg_iload (va := (0, gr)) rfl rfl) ?_
                  refine xg_cVv mX0_swapPlaces (vs := [(0, tu), (0, gr)]) (rest := []) (cn1 := 0) (sl1 := 0) rfl (bdSwap (hI49) (by omega) (by omega)) rfl (hF50.get (by decide) h49_5) rfl rfl rfl rfl rfl rfl (fun w82 hq83 => ?_)
                  obtain ⟨hI84, hF85⟩ := hq83
                  refine xg_t (xg_iload (va := (0, tu)) rfl rfl) ?_
                  refine xg_t (xg_const) ?_
                  refine xg_t (xg_iadd (u := tu) (v := 1) (z := tu + 1) xnm0 xnm0 (by omega)) ?_
                  refine xg_t (xg_istore (l1 := [(0, (2, 49)), (1, (0, f4_17)), (2, (0, tu)), (3, (0, gr))]) rfl rfl rfl) ?_
                  refine xg_t (xg_iload (va := (0, f4_17)) rfl rfl) ?_
                  refine xg_t (xg_const) ?_
                  refine xg_t (xg_isub (u := f4_17) (v := 1) (z := f4_17 - 1) xnm0 xnm0 (by omega)) ?_
                  refine xg_t (xg_istore (l1 := [(4, (0, tu + 1)), (0, (2, 49)), (1, (0, f4_17)), (2, (0, tu)), (3, (0, gr))]) rfl rfl rfl) ?_
                  refine xg_t (xg_drop (l1 := [(0, (2, 49)), (1, (0, f4_17)), (2, (0, tu)), (3, (0, gr)), (4, (0, tu + 1)), (5, (0, f4_17 - 1))]) (List.forall_mem_cons.mpr ⟨List.mem_cons_of_mem _ (List.mem_cons_of_mem _ (List.mem_cons_self)), List.forall_mem_cons.mpr ⟨List.mem_cons_of_mem _ (List.mem_cons_of_mem _ (List.mem_cons_of_mem _ (List.mem_cons_self))), List.forall_mem_cons.mpr ⟨List.mem_cons_of_mem _ (List.mem_cons_of_mem _ (List.mem_cons_of_mem _ (List.mem_cons_of_mem _ (List.mem_cons_self)))), List.forall_mem_cons.mpr ⟨List.mem_cons_of_mem _ (List.mem_cons_of_mem _ (List.mem_cons_of_mem _ (List.mem_cons_of_mem _ (List.mem_cons_of_mem _ (List.mem_cons_self))))), List.forall_mem_cons.mpr ⟨List.mem_cons_of_mem _ (List.mem_cons_self), List.forall_mem_cons.mpr ⟨List.mem_cons_self, fun _ h => absurd h List.not_mem_nil⟩⟩⟩⟩⟩⟩)) ?_
                  have key86 : ∀ (m88 : Nat) (lw hg : Nat) (w89 : List (List xE)), 6 - lw < m88 → lw ≤ 6 → hg ≤ 5 → xInv w89 → xFr [50] w w89 → xTo (d + 1) mX0_stepOrder (96, [], [(0, (2, 49)), (1, (0, f4_17)), (2, (0, tu)), (3, (0, gr)), (4, (0, lw)), (5, (0, hg))], [], (w89, bd, fc, 0, 0, rr)) (fun φ => ∃ n w', xEnd 4 [(0, n)] (w', bd, fc, 0, 0, rr) φ ∧ (n ≤ 1) ∧ xInv w' ∧ xFr [50] w w') := by
                    intro m88
                    induction m88 with
                    | zero => intro lw hg w89 hz; exact absurd hz (Nat.not_lt_zero _)
                    | succ m88 ih87 =>
                      intro lw hg w89 hm94 hn92 hn93 hI90 hF91
                      refine xg_t (xg_blq rfl) ?_
                      refine xg_t (xg_iload (va := (0, lw)) rfl rfl) ?_
                      refine xg_t (xg_iload (va := (0, hg)) rfl rfl) ?_
                      by_cases hc95 : lw < hg
                      · refine xg_t (xg_icF (u := lw) (v := hg) rfl xnm0 xnm0 (xj_geF hc95 (by omega))) ?_
                        refine xg_t (xg_aload (va := (2, 49)) rfl rfl) ?_
                        refine xg_t (xg_iload (va := (0, lw)) rfl rfl) ?_
                        refine xg_t (xg_iload (va := (0, hg)) rfl rfl) ?_
                        refine xg_cVv mX0_swapPlaces (vs := [(0, lw), (0, hg)]) (rest := []) (cn1 := 0) (sl1 := 0) rfl (bdSwap (hI90) (by omega) (by omega)) rfl (hF91.get (by decide) h49_5) rfl rfl rfl rfl rfl rfl (fun w96 hq97 => ?_)
                        obtain ⟨hI98, hF99⟩ := hq97
                        refine xg_t (xg_iinc (u := lw) (z := lw + 1) (l1 := [(0, (2, 49)), (1, (0, f4_17)), (2, (0, tu)), (3, (0, gr)), (5, (0, hg))]) rfl rfl (by omega) rfl) ?_
                        refine xg_t (xg_iinc (u := hg) (z := hg - 1) (l1 := [(4, (0, lw + 1)), (0, (2, 49)), (1, (0, f4_17)), (2, (0, tu)), (3, (0, gr))]) rfl rfl (by omega) rfl) ?_
                        refine xg_t (xg_goto) ?_
                        refine xg_t (xg_drop (l1 := [(0, (2, 49)), (1, (0, f4_17)), (2, (0, tu)), (3, (0, gr)), (4, (0, lw + 1)), (5, (0, hg - 1))]) (List.forall_mem_cons.mpr ⟨List.mem_cons_of_mem _ (List.mem_cons_of_mem _ (List.mem_cons_self)), List.forall_mem_cons.mpr ⟨List.mem_cons_of_mem _ (List.mem_cons_of_mem _ (List.mem_cons_of_mem _ (List.mem_cons_self))), List.forall_mem_cons.mpr ⟨List.mem_cons_of_mem _ (List.mem_cons_of_mem _ (List.mem_cons_of_mem _ (List.mem_cons_of_mem _ (List.mem_cons_self)))), List.forall_mem_cons.mpr ⟨List.mem_cons_of_mem _ (List.mem_cons_of_mem _ (List.mem_cons_of_mem _ (List.mem_cons_of_mem _ (List.mem_cons_of_mem _ (List.mem_cons_self))))), List.forall_mem_cons.mpr ⟨List.mem_cons_of_mem _ (List.mem_cons_self), List.forall_mem_cons.mpr ⟨List.mem_cons_self, fun _ h => absurd h List.not_mem_nil⟩⟩⟩⟩⟩⟩)) ?_
                        exact ih87 (lw + 1) (hg - 1) w96 (by omega) (by omega) (by omega) (hI98) ((hF91.tr (hF99.up (by decide))))
                      · refine xg_t (xg_icT (u := lw) (v := hg) rfl xnm0 xnm0 (xj_geT (by omega) (by omega))) ?_
                        refine xg_t (xg_blq rfl) ?_
                        refine xg_t (xg_const) ?_
                        exact xg_e ⟨1, w89, ⟨rfl, rfl⟩, by first | decide | omega, hI90, hF91⟩
                  exact key86 _ (tu + 1) (f4_17 - 1) w82 (Nat.lt_succ_self _) (by omega) (by omega) (hI84) ((hF50.tr (hF85.up (by decide))))
            exact key45 _ (f4_17 - 1) w27 (Nat.lt_succ_self _) (by omega) (hI28) (hF29)
        · refine xg_t (xg_ifT (u := tu) rfl xnm0 (xjz_ltT (by omega) (by omega))) ?_
          refine xg_t (xg_blq rfl) ?_
          refine xg_t (xg_iload (va := (0, tu)) rfl rfl) ?_
          refine xg_t (xg_ifF (u := tu) rfl xnm0 (xjz_geF (by omega) (by omega))) ?_
          refine xg_t (xg_const) ?_
          exact xg_e ⟨0, w27, ⟨rfl, rfl⟩, by first | decide | omega, hI28, hF29⟩
    exact key24 _ (f4_17 - 2) w (Nat.lt_succ_self _) (by omega) (hI) (xFr.rf) (by omega)
  · have hz102 : 4294967294 ≤ (f4_17 + (4294967296 - 2)) % 4294967296 := by omega
    refine xg_t (xg_isub (u := f4_17) (v := 2) (z := (f4_17 + (4294967296 - 2)) % 4294967296) xnm0 xnm0 rfl) ?_
    have hz101 : (f4_17 + (4294967296 - 2)) % 4294967296 < 4294967296 := Nat.mod_lt _ (by decide)
    generalize (f4_17 + (4294967296 - 2)) % 4294967296 = z100 at hz102 hz101 ⊢
    refine xg_t (xg_istore (l1 := [(1, (0, f4_17)), (0, (2, 49))]) rfl rfl rfl) ?_
    refine xg_t (xg_drop (l1 := [(0, (2, 49)), (1, (0, f4_17)), (2, (0, z100))]) (List.forall_mem_cons.mpr ⟨List.mem_cons_of_mem _ (List.mem_cons_of_mem _ (List.mem_cons_self)), List.forall_mem_cons.mpr ⟨List.mem_cons_of_mem _ (List.mem_cons_self), List.forall_mem_cons.mpr ⟨List.mem_cons_self, fun _ h => absurd h List.not_mem_nil⟩⟩⟩)) ?_
    have key103 : ∀ (m105 : Nat) (tu : Nat) (w106 : List (List xE)), (tu + 2) % 4294967296 < m105 → tu ≤ 4294967295 → xInv w106 → xFr [50] w w106 → tu + 2 ≤ f4_17 ∨ 4294967294 ≤ tu → xTo (d + 1) mX0_stepOrder (15, [], [(0, (2, 49)), (1, (0, f4_17)), (2, (0, tu))], [], (w106, bd, fc, 0, 0, rr)) (fun φ => ∃ n w', xEnd 4 [(0, n)] (w', bd, fc, 0, 0, rr) φ ∧ (n ≤ 1) ∧ xInv w' ∧ xFr [50] w w') := by
      intro m105
      induction m105 with
      | zero => intro tu w106 hz; exact absurd hz (Nat.not_lt_zero _)
      | succ m105 ih104 =>
        intro tu w106 hm111 hn109 hI107 hF108 he110
        refine xg_t (xg_blq rfl) ?_
        refine xg_t (xg_iload (va := (0, tu)) rfl rfl) ?_
        by_cases hc112 : tu < 2147483648
        · refine xg_t (xg_ifF (u := tu) rfl xnm0 (xjz_ltF hc112)) ?_
          have hn113 : tu ≤ 4 := by omega
          refine xg_t (xg_aload (va := (2, 49)) rfl rfl) ?_
          refine xg_t (xg_getf (va := (2, 50)) (hF108.get (by decide) h49_5) rfl) ?_
          refine xg_t (xg_iload (va := (0, tu)) rfl rfl) ?_
          refine xoI (xqc50 hI107 : cpI 6 23 4294967295 (wget w106 50)) (fun g50_114 h50_115 hb116 => ?_)
          refine xg_ialdB (n := tu) (B := 4294967295) h50_115 (hb116) xnm0 (by omega) (fun u117 hu118 he119 => ?_)
          refine xg_t (xg_aload (va := (2, 49)) rfl rfl) ?_
          refine xg_t (xg_getf (va := (2, 50)) (hF108.get (by decide) h49_5) rfl) ?_
          refine xg_t (xg_iload (va := (0, tu)) rfl rfl) ?_
          refine xg_t (xg_const) ?_
          refine xg_t (xg_iadd (u := tu) (v := 1) (z := tu + 1) xnm0 xnm0 (by omega)) ?_
          refine xg_ialdB (n := tu + 1) (B := 4294967295) h50_115 (hb116) xnm0 (by omega) (fun u120 hu121 he122 => ?_)
          by_cases hc123 : xbs u120 < xbs u117
          · have hc123u := hc123
            unfold xbs at hc123u
            refine xg_t (xg_icF (u := u117) (v := u120) rfl xnm0 xnm0 (xjs_leF hc123)) ?_
            refine xg_t (xg_iinc (u := tu) (z := (tu + 4294967295) % 4294967296) (l1 := [(0, (2, 49)), (1, (0, f4_17))]) rfl rfl (rfl) rfl) ?_
            refine xg_t (xg_goto) ?_
            refine xg_t (xg_drop (l1 := [(0, (2, 49)), (1, (0, f4_17)), (2, (0, (tu + 4294967295) % 4294967296))]) (List.forall_mem_cons.mpr ⟨List.mem_cons_of_mem _ (List.mem_cons_self), List.forall_mem_cons.mpr ⟨List.mem_cons_of_mem _ (List.mem_cons_of_mem _ (List.mem_cons_self)), List.forall_mem_cons.mpr ⟨List.mem_cons_self, fun _ h => absurd h List.not_mem_nil⟩⟩⟩)) ?_
            exact ih104 ((tu + 4294967295) % 4294967296) w106 (by omega) (by omega) (hI107) (hF108) (by omega)
          · have hc123u := hc123
            unfold xbs at hc123u
            refine xg_t (xg_icT (u := u117) (v := u120) rfl xnm0 xnm0 (xjs_leT hc123)) ?_
            refine xg_t (xg_blq rfl) ?_
            refine xg_t (xg_iload (va := (0, tu)) rfl rfl) ?_
            refine xg_t (xg_ifT (u := tu) rfl xnm0 (xj_geT (by omega) (by omega))) ?_
            refine xg_t (xg_blq rfl) ?_
            refine xg_t (xg_iload (va := (0, f4_17)) rfl rfl) ?_
            refine xg_t (xg_const) ?_
            refine xg_t (xg_isub (u := f4_17) (v := 1) (z := f4_17 - 1) xnm0 xnm0 (by omega)) ?_
            refine xg_t (xg_istore (l1 := [(0, (2, 49)), (1, (0, f4_17)), (2, (0, tu))]) rfl rfl rfl) ?_
            refine xg_t (xg_drop (l1 := [(0, (2, 49)), (1, (0, f4_17)), (2, (0, tu)), (3, (0, f4_17 - 1))]) (List.forall_mem_cons.mpr ⟨List.mem_cons_of_mem _ (List.mem_cons_self), List.forall_mem_cons.mpr ⟨List.mem_cons_of_mem _ (List.mem_cons_of_mem _ (List.mem_cons_self)), List.forall_mem_cons.mpr ⟨List.mem_cons_of_mem _ (List.mem_cons_of_mem _ (List.mem_cons_of_mem _ (List.mem_cons_self))), List.forall_mem_cons.mpr ⟨List.mem_cons_self, fun _ h => absurd h List.not_mem_nil⟩⟩⟩⟩)) ?_
            have key124 : ∀ (m126 : Nat) (gr : Nat) (w127 : List (List xE)), gr < m126 → gr ≤ 5 → xInv w127 → xFr [50] w w127 → xTo (d + 1) mX0_stepOrder (52, [], [(0, (2, 49)), (1, (0, f4_17)), (2, (0, tu)), (3, (0, gr))], [], (w127, bd, fc, 0, 0, rr)) (fun φ => ∃ n w', xEnd 4 [(0, n)] (w', bd, fc, 0, 0, rr) φ ∧ (n ≤ 1) ∧ xInv w' ∧ xFr [50] w w') := by
              intro m126
              induction m126 with
              | zero => intro gr w127 hz; exact absurd hz (Nat.not_lt_zero _)
              | succ m126 ih125 =>
                intro gr w127 hm131 hn130 hI128 hF129
                refine xg_t (xg_blq rfl) ?_
                refine xg_t (xg_iload (va := (0, gr)) rfl rfl) ?_
                refine xg_t (xg_iload (va := (0, tu)) rfl rfl) ?_
                refine xg_t (xg_const) ?_
                refine xg_t (xg_iadd (u := tu) (v := 1) (z := tu + 1) xnm0 xnm0 (by omega)) ?_
                by_cases hc132 : (tu + 1) < gr
                · refine xg_t (xg_icF (u := gr) (v := tu + 1) rfl xnm0 xnm0 (xj_leF hc132 (by omega))) ?_
                  refine xg_t (xg_aload (va := (2, 49)) rfl rfl) ?_
                  refine xg_t (xg_getf (va := (2, 50)) (hF129.get (by decide) h49_5) rfl) ?_
                  refine xg_t (xg_iload (va := (0, gr)) rfl rfl) ?_
                  refine xoI (xqc50 hI128 : cpI 6 23 4294967295 (wget w127 50)) (fun g50_133 h50_134 hb135 => ?_)
                  refine xg_ialdB (n := gr) (B := 4294967295) h50_134 (hb135) xnm0 (by omega) (fun u136 hu137 he138 => ?_)
                  refine xg_t (xg_aload (va := (2, 49)) rfl rfl) ?_
                  refine xg_t (xg_getf (va := (2, 50)) (hF129.get (by decide) h49_5) rfl) ?_
                  refine xg_t (xg_iload (va := (0, tu)) rfl rfl) ?_
                  refine xg_ialdB (n := tu) (B := 4294967295) h50_134 (hb135) xnm0 (by omega) (fun u139 hu140 he141 => ?_)
                  by_cases hc142 : xbs u136 < xbs u139
                  · have hc142u := hc142
                    unfold xbs at hc142u
                    refine xg_t (xg_icF (u := u136) (v := u139) rfl xnm0 xnm0 (xjs_geF hc142)) ?_
                    refine xg_t (xg_iinc (u := gr) (z := gr - 1) (l1 := [(0, (2, 49)), (1, (0, f4_17)), (2, (0, tu))]) rfl rfl (by omega) rfl) ?_
                    refine xg_t (xg_goto) ?_
                    refine xg_t (xg_drop (l1 := [(0, (2, 49)), (1, (0, f4_17)), (2, (0, tu)), (3, (0, gr - 1))]) (List.forall_mem_cons.mpr ⟨List.mem_cons_of_mem _ (List.mem_cons_self), List.forall_mem_cons.mpr ⟨List.mem_cons_of_mem _ (List.mem_cons_of_mem _ (List.mem_cons_self)), List.forall_mem_cons.mpr ⟨List.mem_cons_of_mem _ (List.mem_cons_of_mem _ (List.mem_cons_of_mem _ (List.mem_cons_self))), List.forall_mem_cons.mpr ⟨List.mem_cons_self, fun _ h => absurd h List.not_mem_nil⟩⟩⟩⟩)) ?_
                    exact ih125 (gr - 1) w127 (by omega) (by omega) (hI128) (hF129)
                  · have hc142u := hc142
                    unfold xbs at hc142u
                    refine xg_t (xg_icT (u := u136) (v := u139) rfl xnm0 xnm0 (xjs_geT hc142)) ?_
                    refine xg_t (xg_blq rfl) ?_
                    refine xg_t (xg_aload (va := (2, 49)) rfl rfl) ?_
                    refine xg_t (xg_iload (va := (0, tu)) rfl rfl) ?_
                    refine xg_t (xg_iload (va := (0, gr)) rfl rfl) ?_
                    refine xg_cVv mX0_swapPlaces (vs := [(0, tu), (0, gr)]) (rest := []) (cn1 := 0) (sl1 := 0) rfl (bdSwap (hI128) (by omega) (by omega)) rfl (hF129.get (by decide) h49_5) rfl rfl rfl rfl rfl rfl (fun w143 hq144 => ?_)
                    obtain ⟨hI145, hF146⟩ := hq144
                    refine xg_t (xg_iload (va := (0, tu)) rfl rfl) ?_
                    refine xg_t (xg_const) ?_
                    refine xg_t (xg_iadd (u := tu) (v := 1) (z := tu + 1) xnm0 xnm0 (by omega)) ?_
                    refine xg_t (xg_istore (l1 := [(0, (2, 49)), (1, (0, f4_17)), (2, (0, tu)), (3, (0, gr))]) rfl rfl rfl) ?_
                    refine xg_t (xg_iload (va := (0, f4_17)) rfl rfl) ?_
                    refine xg_t (xg_const) ?_
                    refine xg_t (xg_isub (u := f4_17) (v := 1) (z := f4_17 - 1) xnm0 xnm0 (by omega)) ?_
                    refine xg_t (xg_istore (l1 := [(4, (0, tu + 1)), (0, (2, 49)), (1, (0, f4_17)), (2, (0, tu)), (3, (0, gr))]) rfl rfl rfl) ?_
                    refine xg_t (xg_drop (l1 := [(0, (2, 49)), (1, (0, f4_17)), (2, (0, tu)), (3, (0, gr)), (4, (0, tu + 1)), (5, (0, f4_17 - 1))]) (List.forall_mem_cons.mpr ⟨List.mem_cons_of_mem _ (List.mem_cons_of_mem _ (List.mem_cons_self)), List.forall_mem_cons.mpr ⟨List.mem_cons_of_mem _ (List.mem_cons_of_mem _ (List.mem_cons_of_mem _ (List.mem_cons_self))), List.forall_mem_cons.mpr ⟨List.mem_cons_of_mem _ (List.mem_cons_of_mem _ (List.mem_cons_of_mem _ (List.mem_cons_of_mem _ (List.mem_cons_self)))), List.forall_mem_cons.mpr ⟨List.mem_cons_of_mem _ (List.mem_cons_of_mem _ (List.mem_cons_of_mem _ (List.mem_cons_of_mem _ (List.mem_cons_of_mem _ (List.mem_cons_self))))), List.forall_mem_cons.mpr ⟨List.mem_cons_of_mem _ (List.mem_cons_self), List.forall_mem_cons.mpr ⟨List.mem_cons_self, fun _ h => absurd h List.not_mem_nil⟩⟩⟩⟩⟩⟩)) ?_
                    have key147 : ∀ (m149 : Nat) (lw hg : Nat) (w150 : List (List xE)), 6 - lw < m149 → lw ≤ 6 → hg ≤ 5 → xInv w150 → xFr [50] w w150 → xTo (d + 1) mX0_stepOrder (96, [], [(0, (2, 49)), (1, (0, f4_17)), (2, (0, tu)), (3, (0, gr)), (4, (0, lw)), (5, (0, hg))], [], (w150, bd, fc, 0, 0, rr)) (fun φ => ∃ n w', xEnd 4 [(0, n)] (w', bd, fc, 0, 0, rr) φ ∧ (n ≤ 1) ∧ xInv w' ∧ xFr [50] w w') := by
                      intro m149
                      induction m149 with
                      | zero => intro lw hg w150 hz; exact absurd hz (Nat.not_lt_zero _)
                      | succ m149 ih148 =>
                        intro lw hg w150 hm155 hn153 hn154 hI151 hF152
                        refine xg_t (xg_blq rfl) ?_
                        refine xg_t (xg_iload (va := (0, lw)) rfl rfl) ?_
                        refine xg_t (xg_iload (va := (0, hg)) rfl rfl) ?_
                        by_cases hc156 : lw < hg
                        · refine xg_t (xg_icF (u := lw) (v := hg) rfl xnm0 xnm0 (xj_geF hc156 (by omega))) ?_
                          refine xg_t (xg_aload (va := (2, 49)) rfl rfl) ?_
                          refine xg_t (xg_iload (va := (0, lw)) rfl rfl) ?_
                          refine xg_t (xg_iload (va := (0, hg)) rfl rfl) ?_
                          refine xg_cVv mX0_swapPlaces (vs := [(0, lw), (0, hg)]) (rest := []) (cn1 := 0) (sl1 := 0) rfl (bdSwap (hI151) (by omega) (by omega)) rfl (hF152.get (by decide) h49_5) rfl rfl rfl rfl rfl rfl (fun w157 hq158 => ?_)
                          obtain ⟨hI159, hF160⟩ := hq158
                          refine xg_t (xg_iinc (u := lw) (z := lw + 1) (l1 := [(0, (2, 49)), (1, (0, f4_17)), (2, (0, tu)), (3, (0, gr)), (5, (0, hg))]) rfl rfl (by omega) rfl) ?_
                          refine xg_t (xg_iinc (u := hg) (z := hg - 1) (l1 := [(4, (0, lw + 1)), (0, (2, 49)), (1, (0, f4_17)), (2, (0, tu)), (3, (0, gr))]) rfl rfl (by omega) rfl) ?_
                          refine xg_t (xg_goto) ?_
                          refine xg_t (xg_drop (l1 := [(0, (2, 49)), (1, (0, f4_17)), (2, (0, tu)), (3, (0, gr)), (4, (0, lw + 1)), (5, (0, hg - 1))]) (List.forall_mem_cons.mpr ⟨List.mem_cons_of_mem _ (List.mem_cons_of_mem _ (List.mem_cons_self)), List.forall_mem_cons.mpr ⟨List.mem_cons_of_mem _ (List.mem_cons_of_mem _ (List.mem_cons_of_mem _ (List.mem_cons_self))), List.forall_mem_cons.mpr ⟨List.mem_cons_of_mem _ (List.mem_cons_of_mem _ (List.mem_cons_of_mem _ (List.mem_cons_of_mem _ (List.mem_cons_self)))), List.forall_mem_cons.mpr ⟨List.mem_cons_of_mem _ (List.mem_cons_of_mem _ (List.mem_cons_of_mem _ (List.mem_cons_of_mem _ (List.mem_cons_of_mem _ (List.mem_cons_self))))), List.forall_mem_cons.mpr ⟨List.mem_cons_of_mem _ (List.mem_cons_self), List.forall_mem_cons.mpr ⟨List.mem_cons_self, fun _ h => absurd h List.not_mem_nil⟩⟩⟩⟩⟩⟩)) ?_
                          exact ih148 (lw + 1) (hg - 1) w157 (by omega) (by omega) (by omega) (hI159) ((hF152.tr (hF160.up (by decide))))
                        · refine xg_t (xg_icT (u := lw) (v := hg) rfl xnm0 xnm0 (xj_geT (by omega) (by omega))) ?_
                          refine xg_t (xg_blq rfl) ?_
                          refine xg_t (xg_const) ?_
                          exact xg_e ⟨1, w150, ⟨rfl, rfl⟩, by first | decide | omega, hI151, hF152⟩
                    exact key147 _ (tu + 1) (f4_17 - 1) w143 (Nat.lt_succ_self _) (by omega) (by omega) (hI145) ((hF129.tr (hF146.up (by decide))))
                · refine xg_t (xg_icT (u := gr) (v := tu + 1) rfl xnm0 xnm0 (xj_leT (by omega) (by omega))) ?_
                  refine xg_t (xg_blq rfl) ?_
                  refine xg_t (xg_aload (va := (2, 49)) rfl rfl) ?_
                  refine xg_t (xg_iload (va := (0, tu)) rfl rfl) ?_
                  refine xg_t (xg_iload (va := (0, gr)) rfl rfl) ?_
                  refine xg_cVv mX0_swapPlaces (vs := [(0, tu), (0, gr)]) (rest := []) (cn1 := 0) (sl1 := 0) rfl (bdSwap (hI128) (by omega) (by omega)) rfl (hF129.get (by decide) h49_5) rfl rfl rfl rfl rfl rfl (fun w161 hq162 => ?_)
                  obtain ⟨hI163, hF164⟩ := hq162
                  refine xg_t (xg_iload (va := (0, tu)) rfl rfl) ?_
                  refine xg_t (xg_const) ?_
                  refine xg_t (xg_iadd (u := tu) (v := 1) (z := tu + 1) xnm0 xnm0 (by omega)) ?_
                  refine xg_t (xg_istore (l1 := [(0, (2, 49)), (1, (0, f4_17)), (2, (0, tu)), (3, (0, gr))]) rfl rfl rfl) ?_
                  refine xg_t (xg_iload (va := (0, f4_17)) rfl rfl) ?_
                  refine xg_t (xg_const) ?_
                  refine xg_t (xg_isub (u := f4_17) (v := 1) (z := f4_17 - 1) xnm0 xnm0 (by omega)) ?_
                  refine xg_t (xg_istore (l1 := [(4, (0, tu + 1)), (0, (2, 49)), (1, (0, f4_17)), (2, (0, tu)), (3, (0, gr))]) rfl rfl rfl) ?_
                  refine xg_t (xg_drop (l1 := [(0, (2, 49)), (1, (0, f4_17)), (2, (0, tu)), (3, (0, gr)), (4, (0, tu + 1)), (5, (0, f4_17 - 1))]) (List.forall_mem_cons.mpr ⟨List.mem_cons_of_mem _ (List.mem_cons_of_mem _ (List.mem_cons_self)), List.forall_mem_cons.mpr ⟨List.mem_cons_of_mem _ (List.mem_cons_of_mem _ (List.mem_cons_of_mem _ (List.mem_cons_self))), List.forall_mem_cons.mpr ⟨List.mem_cons_of_mem _ (List.mem_cons_of_mem _ (List.mem_cons_of_mem _ (List.mem_cons_of_mem _ (List.mem_cons_self)))), List.forall_mem_cons.mpr ⟨List.mem_cons_of_mem _ (List.mem_cons_of_mem _ (List.mem_cons_of_mem _ (List.mem_cons_of_mem _ (List.mem_cons_of_mem _ (List.mem_cons_self))))), List.forall_mem_cons.mpr ⟨List.mem_cons_of_mem _ (List.mem_cons_self), List.forall_mem_cons.mpr ⟨List.mem_cons_self, fun _ h => absurd h List.not_mem_nil⟩⟩⟩⟩⟩⟩)) ?_
                  have key165 : ∀ (m167 : Nat) (lw hg : Nat) (w168 : List (List xE)), 6 - lw < m167 → lw ≤ 6 → hg ≤ 5 → xInv w168 → xFr [50] w w168 → xTo (d + 1) mX0_stepOrder (96, [], [(0, (2, 49)), (1, (0, f4_17)), (2, (0, tu)), (3, (0, gr)), (4, (0, lw)), (5, (0, hg))], [], (w168, bd, fc, 0, 0, rr)) (fun φ => ∃ n w', xEnd 4 [(0, n)] (w', bd, fc, 0, 0, rr) φ ∧ (n ≤ 1) ∧ xInv w' ∧ xFr [50] w w') := by
                    intro m167
                    induction m167 with
                    | zero => intro lw hg w168 hz; exact absurd hz (Nat.not_lt_zero _)
                    | succ m167 ih166 =>
                      intro lw hg w168 hm173 hn171 hn172 hI169 hF170
                      refine xg_t (xg_blq rfl) ?_
                      refine xg_t (xg_iload (va := (0, lw)) rfl rfl) ?_
                      refine xg_t (xg_iload (va := (0, hg)) rfl rfl) ?_
                      by_cases hc174 : lw < hg
                      · refine xg_t (xg_icF (u := lw) (v := hg) rfl xnm0 xnm0 (xj_geF hc174 (by omega))) ?_
                        refine xg_t (xg_aload (va := (2, 49)) rfl rfl) ?_
                        refine xg_t (xg_iload (va := (0, lw)) rfl rfl) ?_
                        refine xg_t (xg_iload (va := (0, hg)) rfl rfl) ?_
                        refine xg_cVv mX0_swapPlaces (vs := [(0, lw), (0, hg)]) (rest := []) (cn1 := 0) (sl1 := 0) rfl (bdSwap (hI169) (by omega) (by omega)) rfl (hF170.get (by decide) h49_5) rfl rfl rfl rfl rfl rfl (fun w175 hq176 => ?_)
                        obtain ⟨hI177, hF178⟩ := hq176
                        refine xg_t (xg_iinc (u := lw) (z := lw + 1) (l1 := [(0, (2, 49)), (1, (0, f4_17)), (2, (0, tu)), (3, (0, gr)), (5, (0, hg))]) rfl rfl (by omega) rfl) ?_
                        refine xg_t (xg_iinc (u := hg) (z := hg - 1) (l1 := [(4, (0, lw + 1)), (0, (2, 49)), (1, (0, f4_17)), (2, (0, tu)), (3, (0, gr))]) rfl rfl (by omega) rfl) ?_
                        refine xg_t (xg_goto) ?_
                        refine xg_t (xg_drop (l1 := [(0, (2, 49)), (1, (0, f4_17)), (2, (0, tu)), (3, (0, gr)), (4, (0, lw + 1)), (5, (0, hg - 1))]) (List.forall_mem_cons.mpr ⟨List.mem_cons_of_mem _ (List.mem_cons_of_mem _ (List.mem_cons_self)), List.forall_mem_cons.mpr ⟨List.mem_cons_of_mem _ (List.mem_cons_of_mem _ (List.mem_cons_of_mem _ (List.mem_cons_self))), List.forall_mem_cons.mpr ⟨List.mem_cons_of_mem _ (List.mem_cons_of_mem _ (List.mem_cons_of_mem _ (List.mem_cons_of_mem _ (List.mem_cons_self)))), List.forall_mem_cons.mpr ⟨List.mem_cons_of_mem _ (List.mem_cons_of_mem _ (List.mem_cons_of_mem _ (List.mem_cons_of_mem _ (List.mem_cons_of_mem _ (List.mem_cons_self))))), List.forall_mem_cons.mpr ⟨List.mem_cons_of_mem _ (List.mem_cons_self), List.forall_mem_cons.mpr ⟨List.mem_cons_self, fun _ h => absurd h List.not_mem_nil⟩⟩⟩⟩⟩⟩)) ?_
                        exact ih166 (lw + 1) (hg - 1) w175 (by omega) (by omega) (by omega) (hI177) ((hF170.tr (hF178.up (by decide))))
                      · refine xg_t (xg_icT (u := lw) (v := hg) rfl xnm0 xnm0 (xj_geT (by omega) (by omega))) ?_
                        refine xg_t (xg_blq rfl) ?_
                        refine xg_t (xg_const) ?_
                        exact xg_e ⟨1, w168, ⟨rfl, rfl⟩, by first | decide | omega, hI169, hF170⟩
                  exact key165 _ (tu + 1) (f4_17 - 1) w161 (Nat.lt_succ_self _) (by omega) (by omega) (hI163) ((hF129.tr (hF164.up (by decide))))
            exact key124 _ (f4_17 - 1) w106 (Nat.lt_succ_self _) (by omega) (hI107) (hF108)
        · refine xg_t (xg_ifT (u := tu) rfl xnm0 (xjz_ltT (by omega) (by omega))) ?_
          refine xg_t (xg_blq rfl) ?_
          refine xg_t (xg_iload (va := (0, tu)) rfl rfl) ?_
          refine xg_t (xg_ifF (u := tu) rfl xnm0 (xjz_geF (by omega) (by omega))) ?_
          refine xg_t (xg_const) ?_
          exact xg_e ⟨0, w106, ⟨rfl, rfl⟩, by first | decide | omega, hI107, hF108⟩
    exact key103 _ z100 w (Nat.lt_succ_self _) (by omega) (hI) (xFr.rf) (by omega)
theorem bdFind (hI : xInv w)  : xPq (d + 4) mX0_findOrder [(2, 49)] w bd fc rr [] (fun w' => xInv w' ∧ xFr [49, 50, 51, 52, 53, 54, 55, 56, 57] w w') := by
  refine xPq.of ?_
  show xTo (d + 4) mX0_findOrder (0, [], [(0, (2, 49))], [], (w, bd, fc, 0, 0, rr)) (fun φ => ∃ w', xEnd 0 [] (w', bd, fc, 0, 0, rr) φ ∧ xInv w' ∧ xFr [49, 50, 51, 52, 53, 54, 55, 56, 57] w w')
  refine xg_t (xg_blq rfl) ?_
  refine xg_t (xg_aload (va := (2, 49)) rfl rfl) ?_
  refine xoC49 (xqc49 hI : cp49 (wget w 49)) (fun f49_1 f49_3 h49_5 hb2 hb4 => ?_)
  refine xg_t (xg_getf (va := (0, f49_3)) h49_5 rfl) ?_
  by_cases hc6 : f49_3 = 0
  · refine xg_t (xg_ifT (u := f49_3) rfl xnm0 (xj_eqT hc6)) ?_
    refine xg_t (xg_blq rfl) ?_
    refine xg_t (xg_aload (va := (2, 49)) rfl rfl) ?_
    refine xg_cVv mX0_layAsTold (vs := []) (rest := []) (cn1 := 0) (sl1 := 0) rfl (bdLayAsTold (hI)) rfl h49_5 rfl rfl rfl rfl rfl rfl (fun w7 hq8 => ?_)
    obtain ⟨hI9, hF10⟩ := hq8
    refine xg_t (xg_aload (va := (2, 49)) rfl rfl) ?_
    refine xg_t (xg_aload (va := (2, 49)) rfl rfl) ?_
    refine xg_cVi mX0_leastRound (vs := []) (rest := [(2, 49)]) (cn1 := 0) (sl1 := 0) rfl (bdLeast (hI9)) rfl (hF10.get (by decide) h49_5) rfl rfl rfl rfl rfl rfl (fun n15 w11 hq12 => ?_)
    obtain ⟨hn16, hI13, hF14⟩ := hq12
    refine xg_cVv mX0_takeOrder (vs := [(0, n15)]) (rest := []) (cn1 := 0) (sl1 := 0) rfl (bdTake (hI13) (by omega)) rfl (hF14.get (by decide) (hF10.get (by decide) h49_5)) rfl rfl rfl rfl rfl rfl (fun w17 hq18 => ?_)
    obtain ⟨hI19, hF20⟩ := hq18
    refine xg_t (xg_const) ?_
    refine xg_t (xg_istore (l1 := [(0, (2, 49))]) rfl rfl rfl) ?_
    refine xg_t (xg_drop (l1 := [(0, (2, 49)), (1, (0, 1))]) (List.forall_mem_cons.mpr ⟨List.mem_cons_of_mem _ (List.mem_cons_self), List.forall_mem_cons.mpr ⟨List.mem_cons_self, fun _ h => absurd h List.not_mem_nil⟩⟩)) ?_
    have key21 : ∀ (m23 : Nat) (ki : Nat) (w24 : List (List xE)), 720 - ki < m23 → ki ≤ 720 → xInv w24 → xFr [49, 50, 51, 52, 53, 54, 55, 56, 57] w w24 → xTo (d + 4) mX0_findOrder (22, [], [(0, (2, 49)), (1, (0, ki))], [], (w24, bd, fc, 0, 0, rr)) (fun φ => ∃ w', xEnd 0 [] (w', bd, fc, 0, 0, rr) φ ∧ xInv w' ∧ xFr [49, 50, 51, 52, 53, 54, 55, 56, 57] w w') := by
      intro m23
      induction m23 with
      | zero => intro ki w24 hz; exact absurd hz (Nat.not_lt_zero _)
      | succ m23 ih22 =>
        intro ki w24 hm28 hn27 hI25 hF26
        refine xg_t (xg_blq rfl) ?_
        refine xg_t (xg_iload (va := (0, ki)) rfl rfl) ?_
        refine xg_t (xg_sip) ?_
        by_cases hc29 : ki < 720
        · refine xg_t (xg_icF (u := ki) (v := 720) rfl xnm0 xnm0 (xj_geF hc29 (by omega))) ?_
          refine xg_t (xg_aload (va := (2, 49)) rfl rfl) ?_
          refine xoC49 (xqc49 hI25 : cp49 (wget w24 49)) (fun f49_30 f49_32 h49_34 hb31 hb33 => ?_)
          refine xg_cVi mX0_stepOrder (vs := []) (rest := []) (cn1 := 0) (sl1 := 0) rfl (bdStep (hI25)) rfl h49_34 rfl rfl rfl rfl rfl rfl (fun n39 w35 hq36 => ?_)
          obtain ⟨hn40, hI37, hF38⟩ := hq36
          by_cases hc41 : n39 = 0
          · refine xg_t (xg_ifT (u := n39) rfl xnm0 (xj_eqT hc41)) ?_
            refine xg_t (xg_blq rfl) ?_
            refine xg_t (xg_aload (va := (2, 49)) rfl rfl) ?_
            refine xg_t (xg_const) ?_
            refine xg_putZ (fl1 := [(2, 3), (2, 50), (2, 51), (2, 52), (2, 53), (2, 54), (2, 55), (2, 56), (2, 57), (0, f49_30), (0, 1)]) (hF38.get (by decide) h49_34) rfl rfl rfl (fun w42 hk43 hb44 => ?_)
            exact xg_e ⟨w42, ⟨rfl, rfl⟩, xInv.up (S := [49]) hI37 (xFr.of (S := [49]) hb44 (by decide)) (List.forall_mem_cons.mpr ⟨xqu49 (show cp49 (wget w42 49) from ⟨f49_30, 1, hk43, hb31, by decide⟩), fun _ h => absurd h List.not_mem_nil⟩), ((hF26.tr (hF38.up (by decide))).tr (xFr.of (S := [49, 50, 51, 52, 53, 54, 55, 56, 57]) hb44 (by decide)))⟩
          · refine xg_t (xg_ifF (u := n39) rfl xnm0 (xj_eqF hc41)) ?_
            refine xg_t (xg_aload (va := (2, 49)) rfl rfl) ?_
            refine xg_cVv mX0_lay (vs := []) (rest := []) (cn1 := 0) (sl1 := 0) rfl (bdLay (hI37)) rfl (hF38.get (by decide) h49_34) rfl rfl rfl rfl rfl rfl (fun w45 hq46 => ?_)
            obtain ⟨hI47, hF48⟩ := hq46
            refine xg_t (xg_aload (va := (2, 49)) rfl rfl) ?_
            refine xg_cVi mX0_leastRound (vs := []) (rest := []) (cn1 := 0) (sl1 := 0) rfl (bdLeast (hI47)) rfl (hF48.get (by decide) (hF38.get (by decide) h49_34)) rfl rfl rfl rfl rfl rfl (fun n53 w49 hq50 => ?_)
            obtain ⟨hn54, hI51, hF52⟩ := hq50
            refine xg_t (xg_istore (l1 := [(0, (2, 49)), (1, (0, ki))]) rfl rfl rfl) ?_
            refine xg_t (xg_iload (va := (0, n53)) rfl rfl) ?_
            refine xg_t (xg_aload (va := (2, 49)) rfl rfl) ?_
            refine xg_t (xg_getf (va := (0, f49_30)) (hF52.get (by decide) (hF48.get (by decide) (hF38.get (by decide) h49_34))) rfl) ?_
            by_cases hc55 : xbs n53 < xbs f49_30
            · have hc55u := hc55
              unfold xbs at hc55u
              refine xg_t (xg_icF (u := n53) (v := f49_30) rfl xnm0 xnm0 (xjs_geF hc55)) ?_
              refine xg_t (xg_aload (va := (2, 49)) rfl rfl) ?_
              refine xg_t (xg_iload (va := (0, n53)) rfl rfl) ?_
              refine xg_cVv mX0_takeOrder (vs := [(0, n53)]) (rest := []) (cn1 := 0) (sl1 := 0) rfl (bdTake (hI51) (by omega)) rfl (hF52.get (by decide) (hF48.get (by decide) (hF38.get (by decide) h49_34))) rfl rfl rfl rfl rfl rfl (fun w56 hq57 => ?_)
              obtain ⟨hI58, hF59⟩ := hq57
              refine xg_t (xg_blq rfl) ?_
              refine xg_t (xg_iinc (u := ki) (z := ki + 1) (l1 := [(2, (0, n53)), (0, (2, 49))]) rfl rfl (by omega) rfl) ?_
              refine xg_t (xg_goto) ?_
              refine xg_t (xg_drop (l1 := [(0, (2, 49)), (1, (0, ki + 1))]) (List.forall_mem_cons.mpr ⟨List.mem_cons_of_mem _ (List.mem_cons_of_mem _ (List.mem_cons_self)), List.forall_mem_cons.mpr ⟨List.mem_cons_self, fun _ h => absurd h List.not_mem_nil⟩⟩)) ?_
              exact ih22 (ki + 1) w56 (by omega) (by omega) (hI58) (((((hF26.tr (hF38.up (by decide))).tr (hF48.up (by decide))).tr (hF52.up (by decide))).tr (hF59.up (by decide))))
            · have hc55u := hc55
              unfold xbs at hc55u
              refine xg_t (xg_icT (u := n53) (v := f49_30) rfl xnm0 xnm0 (xjs_geT hc55)) ?_
              refine xg_t (xg_blq rfl) ?_
              refine xg_t (xg_iinc (u := ki) (z := ki + 1) (l1 := [(2, (0, n53)), (0, (2, 49))]) rfl rfl (by omega) rfl) ?_
              refine xg_t (xg_goto) ?_
              refine xg_t (xg_drop (l1 := [(0, (2, 49)), (1, (0, ki + 1))]) (List.forall_mem_cons.mpr ⟨List.mem_cons_of_mem _ (List.mem_cons_of_mem _ (List.mem_cons_self)), List.forall_mem_cons.mpr ⟨List.mem_cons_self, fun _ h => absurd h List.not_mem_nil⟩⟩)) ?_
              exact ih22 (ki + 1) w49 (by omega) (by omega) (hI51) ((((hF26.tr (hF38.up (by decide))).tr (hF48.up (by decide))).tr (hF52.up (by decide))))
        · refine xg_t (xg_icT (u := ki) (v := 720) rfl xnm0 xnm0 (xj_geT (by omega) (by omega))) ?_
          refine xg_t (xg_blq rfl) ?_
          refine xg_t (xg_aload (va := (2, 49)) rfl rfl) ?_
          refine xg_t (xg_const) ?_
          refine xoC49 (xqc49 hI25 : cp49 (wget w24 49)) (fun f49_60 f49_62 h49_64 hb61 hb63 => ?_)
          refine xg_putZ (fl1 := [(2, 3), (2, 50), (2, 51), (2, 52), (2, 53), (2, 54), (2, 55), (2, 56), (2, 57), (0, f49_60), (0, 1)]) h49_64 rfl rfl rfl (fun w65 hk66 hb67 => ?_)
          exact xg_e ⟨w65, ⟨rfl, rfl⟩, xInv.up (S := [49]) hI25 (xFr.of (S := [49]) hb67 (by decide)) (List.forall_mem_cons.mpr ⟨xqu49 (show cp49 (wget w65 49) from ⟨f49_60, 1, hk66, hb61, by decide⟩), fun _ h => absurd h List.not_mem_nil⟩), (hF26.tr (xFr.of (S := [49, 50, 51, 52, 53, 54, 55, 56, 57]) hb67 (by decide)))⟩
    exact key21 _ 1 w17 (Nat.lt_succ_self _) (by omega) (hI19) ((((hF10.up (by decide)).tr (hF14.up (by decide))).tr (hF20.up (by decide))))
  · refine xg_t (xg_ifF (u := f49_3) rfl xnm0 (xj_eqF hc6)) ?_
    exact xg_e ⟨w, ⟨rfl, rfl⟩, hI, xFr.rf⟩
theorem bdRest (hI : xInv w)  : xPq (d + 1) mX0_restWear [(2, 49)] w bd fc rr [] (fun w' => xInv w' ∧ xFr [56] w w') := by
  refine xPq.of ?_
  show xTo (d + 1) mX0_restWear (0, [], [(0, (2, 49))], [], (w, bd, fc, 0, 0, rr)) (fun φ => ∃ w', xEnd 0 [] (w', bd, fc, 0, 0, rr) φ ∧ xInv w' ∧ xFr [56] w w')
  refine xg_t (xg_blq rfl) ?_
  refine xg_t (xg_aload (va := (2, 49)) rfl rfl) ?_
  refine xoC49 (xqc49 hI : cp49 (wget w 49)) (fun f49_1 f49_3 h49_5 hb2 hb4 => ?_)
  refine xg_t (xg_getf (va := (2, 56)) h49_5 rfl) ?_
  refine xg_t (xg_lconst) ?_
  obtain ⟨g56_6, h56_7⟩ := (xqc56 hI : cpJ 4 29 (wget w 56))
  have h56_7 : xRk 3 4 w 56 4 29 g56_6 := h56_7
  refine xg_cS mJ7_fill_d0a16 (vs := [(2, 56), (4, 0)]) (rest := []) (rs := []) (cn1 := 0) (sl1 := 0) rfl (fillJ (v := 0) h56_7 (by decide)) rfl rfl rfl rfl rfl rfl rfl rfl (fun w9 hq10 => ?_)
  obtain ⟨g11, hr12, hb13⟩ := hq10
  exact xg_e ⟨w9, ⟨rfl, rfl⟩, xInv.up (S := [56]) hI (xFr.of (S := [56]) hb13 (by decide)) (List.forall_mem_cons.mpr ⟨xqu56 (show cpJ 4 29 (wget w9 56) from ⟨_, hr12⟩), fun _ h => absurd h List.not_mem_nil⟩), (xFr.of (S := [56]) hb13 (by decide))⟩
theorem bdWear {pl ti ro : Nat} (hI : xInv w) (h1 : pl ≤ 5) (h2 : ro ≤ 4294967295) : xPq (d + 2) mX0_wear [(2, 49), (0, pl), (4, ti), (0, ro)] w bd fc rr [] (fun w' => xInv w' ∧ xFr [56] w w') := by
  refine xPq.of ?_
  show xTo (d + 2) mX0_wear (0, [], [(0, (2, 49)), (1, (0, pl)), (2, (4, ti)), (4, (0, ro))], [], (w, bd, fc, 0, 0, rr)) (fun φ => ∃ w', xEnd 0 [] (w', bd, fc, 0, 0, rr) φ ∧ xInv w' ∧ xFr [56] w w')
  refine xoC49 (xqc49 hI : cp49 (wget w 49)) (fun f49_1 f49_3 h49_5 hb2 hb4 => ?_)
  refine xoC3 (xqc3 hI : cp3 (wget w 3)) (fun f3_6 f3_8 f3_10 f3_12 f3_14 h3_16 hb7 hb9 hb11 hb13 hb15 => ?_)
  obtain ⟨f4_17, h4_19, hb18⟩ := (xqc4 hI : cp4 (wget w 4))
  refine xoI (xqc5 hI : cpI 24 1 4294967295 (wget w 5)) (fun g5_20 h5_21 hb22 => ?_)
  obtain ⟨f6_23, h6_25, hb24⟩ := (xqc6 hI : cp6 (wget w 6))
  refine xoI (xqc7 hI : cpI 8 2 4294967295 (wget w 7)) (fun g7_26 h7_27 hb28 => ?_)
  refine xg_t (xg_blq rfl) ?_
  refine xg_t (xg_const) ?_
  refine xg_t (xg_istore (l1 := [(0, (2, 49)), (1, (0, pl)), (2, (4, ti)), (4, (0, ro))]) rfl rfl rfl) ?_
  refine xg_t (xg_const) ?_
  refine xg_t (xg_istore (l1 := [(5, (0, 4294967295)), (0, (2, 49)), (1, (0, pl)), (2, (4, ti)), (4, (0, ro))]) rfl rfl rfl) ?_
  refine xg_t (xg_const) ?_
  refine xg_t (xg_istore (l1 := [(6, (0, 4294967295)), (5, (0, 4294967295)), (0, (2, 49)), (1, (0, pl)), (2, (4, ti)), (4, (0, ro))]) rfl rfl rfl) ?_
  refine xg_t (xg_drop (l1 := [(0, (2, 49)), (1, (0, pl)), (2, (4, ti)), (4, (0, ro)), (5, (0, 4294967295)), (6, (0, 4294967295)), (7, (0, 0))]) (List.forall_mem_cons.mpr ⟨List.mem_cons_of_mem _ (List.mem_cons_of_mem _ (List.mem_cons_of_mem _ (List.mem_cons_self))), List.forall_mem_cons.mpr ⟨List.mem_cons_of_mem _ (List.mem_cons_of_mem _ (List.mem_cons_of_mem _ (List.mem_cons_of_mem _ (List.mem_cons_self)))), List.forall_mem_cons.mpr ⟨List.mem_cons_of_mem _ (List.mem_cons_of_mem _ (List.mem_cons_of_mem _ (List.mem_cons_of_mem _ (List.mem_cons_of_mem _ (List.mem_cons_self))))), List.forall_mem_cons.mpr ⟨List.mem_cons_of_mem _ (List.mem_cons_of_mem _ (List.mem_cons_of_mem _ (List.mem_cons_of_mem _ (List.mem_cons_of_mem _ (List.mem_cons_of_mem _ (List.mem_cons_self)))))), List.forall_mem_cons.mpr ⟨List.mem_cons_of_mem _ (List.mem_cons_of_mem _ (List.mem_cons_self)), List.forall_mem_cons.mpr ⟨List.mem_cons_of_mem _ (List.mem_cons_self), List.forall_mem_cons.mpr ⟨List.mem_cons_self, fun _ h => absurd h List.not_mem_nil⟩⟩⟩⟩⟩⟩⟩)) ?_
  have key29 : ∀ (m31 : Nat) (li fr ki : Nat) (w32 : List (List xE)), 4 - ki < m31 → li ≤ 4294967295 → fr ≤ 4294967295 → ki ≤ 4 → xInv w32 → xFr [56] w w32 → li ≤ 3 ∨ li = 4294967295 → xTo (d + 2) mX0_wear (9, [], [(0, (2, 49)), (1, (0, pl)), (2, (4, ti)), (4, (0, ro)), (5, (0, li)), (6, (0, fr)), (7, (0, ki))], [], (w32, bd, fc, 0, 0, rr)) (fun φ => ∃ w', xEnd 0 [] (w', bd, fc, 0, 0, rr) φ ∧ xInv w' ∧ xFr [56] w w') := by
    intro m31
    induction m31 with
    | zero => intro li fr ki w32 hz; exact absurd hz (Nat.not_lt_zero _)
    | succ m31 ih30 =>
      intro li fr ki w32 hm39 hn35 hn36 hn37 hI33 hF34 he38
      refine xg_t (xg_blq rfl) ?_
      refine xg_t (xg_iload (va := (0, ki)) rfl rfl) ?_
      refine xg_t (xg_aload (va := (2, 49)) rfl rfl) ?_
      refine xg_t (xg_getf (va := (2, 3)) (hF34.get (by decide) h49_5) rfl) ?_
      refine xg_t (xg_getf (va := (2, 6)) (hF34.get (by decide) h3_16) rfl) ?_
      refine xg_t (xg_getf (va := (0, f6_23)) (hF34.get (by decide) h6_25) rfl) ?_
      by_cases hc40 : ki < f6_23
      · refine xg_t (xg_icF (u := ki) (v := f6_23) rfl xnm0 xnm0 (xj_geF hc40 (by omega))) ?_
        refine xg_t (xg_aload (va := (2, 49)) rfl rfl) ?_
        refine xg_t (xg_getf (va := (2, 3)) (hF34.get (by decide) h49_5) rfl) ?_
        refine xg_t (xg_getf (va := (2, 6)) (hF34.get (by decide) h3_16) rfl) ?_
        refine xg_t (xg_iload (va := (0, ki)) rfl rfl) ?_
        refine xg_t (xg_const) ?_
        refine xg_k (xg_cVr mX5_get (vs := [(0, ki), (0, 0)]) (rest := []) (rs := [(0, if ki < f6_23 ∧ 0 < 2 then g7_26 (ki * 2 + 0) else 4294967295)]) (cn1 := 0) (sl1 := 0) rfl (rget_ok (lim := 4) (wd := 2) (sz := f6_23) (hF34.get (by decide) h6_25) (h7_27.fr hF34 (by decide)) (by decide) (by omega) (by decide) (by decide) (by omega) (by omega)) rfl (hF34.get (by decide) h6_25) rfl rfl rfl rfl rfl rfl rfl) (xiteb (hb28)) (fun z41 hz42 => ?_)
        refine xg_t (xg_istore (l1 := [(0, (2, 49)), (1, (0, pl)), (2, (4, ti)), (4, (0, ro)), (5, (0, li)), (6, (0, fr)), (7, (0, ki))]) rfl rfl rfl) ?_
        refine xg_t (xg_iload (va := (0, z41)) rfl rfl) ?_
        refine xg_t (xg_iload (va := (0, fr)) rfl rfl) ?_
        by_cases hc43 : xbs fr < xbs z41
        · have hc43u := hc43
          unfold xbs at hc43u
          refine xg_t (xg_icF (u := z41) (v := fr) rfl xnm0 xnm0 (xjs_leF hc43)) ?_
          refine xg_t (xg_iload (va := (0, z41)) rfl rfl) ?_
          refine xg_t (xg_iload (va := (0, ro)) rfl rfl) ?_
          refine xg_k (xg_imul (u := z41) (v := ro) (z := (z41 * ro) % 4294967296) xnm0 xnm0 rfl) (Nat.mod_lt _ (by decide)) (fun z44 hz45 => ?_)
          refine xg_kl (xg_i2l (u := z44) xnm0) (fun l46 => ?_)
          refine xg_t (xg_aload (va := (2, 49)) rfl rfl) ?_
          refine xg_t (xg_getf (va := (2, 54)) (hF34.get (by decide) h49_5) rfl) ?_
          refine xg_t (xg_aload (va := (2, 49)) rfl rfl) ?_
          refine xg_t (xg_getf (va := (2, 52)) (hF34.get (by decide) h49_5) rfl) ?_
          refine xg_t (xg_iload (va := (0, pl)) rfl rfl) ?_
          refine xoI (xqc52 hI33 : cpI 6 25 5 (wget w32 52)) (fun g52_47 h52_48 hb49 => ?_)
          refine xg_ialdB (n := pl) (B := 5) h52_48 (hb49) xnm0 (by omega) (fun u50 hu51 he52 => ?_)
          obtain ⟨g54_53, h54_54⟩ := (xqc54 hI33 : cpJ 6 27 (wget w32 54))
          have h54_54 : xRk 3 4 w32 54 6 27 g54_53 := h54_54
          refine xg_kl (xg_lald (n := u50) h54_54 xnm0 (by omega) rfl) (fun l56 => ?_)
          refine xg_kl (xg_lmul (u := l46) (v := l56)) (fun l57 => ?_)
          refine xg_t (xg_ldc2) ?_
          refine xg_t (xg_aload (va := (2, 49)) rfl rfl) ?_
          refine xg_t (xg_getf (va := (2, 55)) (hF34.get (by decide) h49_5) rfl) ?_
          refine xg_t (xg_iload (va := (0, pl)) rfl rfl) ?_
          obtain ⟨g55_58, h55_59⟩ := (xqc55 hI33 : cpJ 6 28 (wget w32 55))
          have h55_59 : xRk 3 4 w32 55 6 28 g55_58 := h55_59
          refine xg_kl (xg_lald (n := pl) h55_59 xnm0 (by omega) rfl) (fun l61 => ?_)
          refine xg_kl (xg_labs (u := l61) (Nat.zero_le _) (Nat.zero_le _) (Nat.le_of_ble_eq_true rfl)) (fun l62 => ?_)
          refine xg_kl (xg_lmul (u := 1000) (v := l62)) (fun l63 => ?_)
          refine xg_k (xg_lcmp (u := l57) (v := l63)) (xpt_lt _) (fun z64 hz65 => ?_)
          by_cases hc66 : xbs 0 < xbs z64
          · have hc66u := hc66
            unfold xbs at hc66u
            have hn67 : z64 ≤ 2147483647 := by omega
            refine xg_t (xg_ifT (u := z64) rfl xnm0 (xjs_gtT hc66)) ?_
            refine xg_t (xg_blq rfl) ?_
            refine xg_t (xg_iinc (u := ki) (z := ki + 1) (l1 := [(8, (0, z41)), (0, (2, 49)), (1, (0, pl)), (2, (4, ti)), (4, (0, ro)), (5, (0, li)), (6, (0, fr))]) rfl rfl (by omega) rfl) ?_
            refine xg_t (xg_goto) ?_
            refine xg_t (xg_drop (l1 := [(0, (2, 49)), (1, (0, pl)), (2, (4, ti)), (4, (0, ro)), (5, (0, li)), (6, (0, fr)), (7, (0, ki + 1))]) (List.forall_mem_cons.mpr ⟨List.mem_cons_of_mem _ (List.mem_cons_of_mem _ (List.mem_cons_self)), List.forall_mem_cons.mpr ⟨List.mem_cons_of_mem _ (List.mem_cons_of_mem _ (List.mem_cons_of_mem _ (List.mem_cons_self))), List.forall_mem_cons.mpr ⟨List.mem_cons_of_mem _ (List.mem_cons_of_mem _ (List.mem_cons_of_mem _ (List.mem_cons_of_mem _ (List.mem_cons_self)))), List.forall_mem_cons.mpr ⟨List.mem_cons_of_mem _ (List.mem_cons_of_mem _ (List.mem_cons_of_mem _ (List.mem_cons_of_mem _ (List.mem_cons_of_mem _ (List.mem_cons_self))))), List.forall_mem_cons.mpr ⟨List.mem_cons_of_mem _ (List.mem_cons_of_mem _ (List.mem_cons_of_mem _ (List.mem_cons_of_mem _ (List.mem_cons_of_mem _ (List.mem_cons_of_mem _ (List.mem_cons_self)))))), List.forall_mem_cons.mpr ⟨List.mem_cons_of_mem _ (List.mem_cons_of_mem _ (List.mem_cons_of_mem _ (List.mem_cons_of_mem _ (List.mem_cons_of_mem _ (List.mem_cons_of_mem _ (List.mem_cons_of_mem _ (List.mem_cons_self))))))), List.forall_mem_cons.mpr ⟨List.mem_cons_self, fun _ h => absurd h List.not_mem_nil⟩⟩⟩⟩⟩⟩⟩)) ?_
            exact ih30 li fr (ki + 1) w32 (by omega) (by omega) (by omega) (by omega) (hI33) (hF34) (by omega)
          · have hc66u := hc66
            unfold xbs at hc66u
            refine xg_t (xg_ifF (u := z64) rfl xnm0 (xjs_gtF hc66)) ?_
            refine xg_t (xg_iload (va := (0, ki)) rfl rfl) ?_
            refine xg_t (xg_istore (l1 := [(8, (0, z41)), (0, (2, 49)), (1, (0, pl)), (2, (4, ti)), (4, (0, ro)), (6, (0, fr)), (7, (0, ki))]) rfl rfl rfl) ?_
            refine xg_t (xg_iload (va := (0, z41)) rfl rfl) ?_
            refine xg_t (xg_istore (l1 := [(5, (0, ki)), (8, (0, z41)), (0, (2, 49)), (1, (0, pl)), (2, (4, ti)), (4, (0, ro)), (7, (0, ki))]) rfl rfl rfl) ?_
            refine xg_t (xg_blq rfl) ?_
            refine xg_t (xg_iinc (u := ki) (z := ki + 1) (l1 := [(6, (0, z41)), (5, (0, ki)), (8, (0, z41)), (0, (2, 49)), (1, (0, pl)), (2, (4, ti)), (4, (0, ro))]) rfl rfl (by omega) rfl) ?_
            refine xg_t (xg_goto) ?_
            refine xg_t (xg_drop (l1 := [(0, (2, 49)), (1, (0, pl)), (2, (4, ti)), (4, (0, ro)), (5, (0, ki)), (6, (0, z41)), (7, (0, ki + 1))]) (List.forall_mem_cons.mpr ⟨List.mem_cons_of_mem _ (List.mem_cons_of_mem _ (List.mem_cons_of_mem _ (List.mem_cons_of_mem _ (List.mem_cons_self)))), List.forall_mem_cons.mpr ⟨List.mem_cons_of_mem _ (List.mem_cons_of_mem _ (List.mem_cons_of_mem _ (List.mem_cons_of_mem _ (List.mem_cons_of_mem _ (List.mem_cons_self))))), List.forall_mem_cons.mpr ⟨List.mem_cons_of_mem _ (List.mem_cons_of_mem _ (List.mem_cons_of_mem _ (List.mem_cons_of_mem _ (List.mem_cons_of_mem _ (List.mem_cons_of_mem _ (List.mem_cons_self)))))), List.forall_mem_cons.mpr ⟨List.mem_cons_of_mem _ (List.mem_cons_of_mem _ (List.mem_cons_of_mem _ (List.mem_cons_of_mem _ (List.mem_cons_of_mem _ (List.mem_cons_of_mem _ (List.mem_cons_of_mem _ (List.mem_cons_self))))))), List.forall_mem_cons.mpr ⟨List.mem_cons_of_mem _ (List.mem_cons_of_mem _ (List.mem_cons_self)), List.forall_mem_cons.mpr ⟨List.mem_cons_of_mem _ (List.mem_cons_self), List.forall_mem_cons.mpr ⟨List.mem_cons_self, fun _ h => absurd h List.not_mem_nil⟩⟩⟩⟩⟩⟩⟩)) ?_
            exact ih30 ki z41 (ki + 1) w32 (by omega) (by omega) (by omega) (by omega) (hI33) (hF34) (by omega)
        · have hc43u := hc43
          unfold xbs at hc43u
          refine xg_t (xg_icT (u := z41) (v := fr) rfl xnm0 xnm0 (xjs_leT hc43)) ?_
          refine xg_t (xg_blq rfl) ?_
          refine xg_t (xg_iinc (u := ki) (z := ki + 1) (l1 := [(8, (0, z41)), (0, (2, 49)), (1, (0, pl)), (2, (4, ti)), (4, (0, ro)), (5, (0, li)), (6, (0, fr))]) rfl rfl (by omega) rfl) ?_
          refine xg_t (xg_goto) ?_
          refine xg_t (xg_drop (l1 := [(0, (2, 49)), (1, (0, pl)), (2, (4, ti)), (4, (0, ro)), (5, (0, li)), (6, (0, fr)), (7, (0, ki + 1))]) (List.forall_mem_cons.mpr ⟨List.mem_cons_of_mem _ (List.mem_cons_of_mem _ (List.mem_cons_self)), List.forall_mem_cons.mpr ⟨List.mem_cons_of_mem _ (List.mem_cons_of_mem _ (List.mem_cons_of_mem _ (List.mem_cons_self))), List.forall_mem_cons.mpr ⟨List.mem_cons_of_mem _ (List.mem_cons_of_mem _ (List.mem_cons_of_mem _ (List.mem_cons_of_mem _ (List.mem_cons_self)))), List.forall_mem_cons.mpr ⟨List.mem_cons_of_mem _ (List.mem_cons_of_mem _ (List.mem_cons_of_mem _ (List.mem_cons_of_mem _ (List.mem_cons_of_mem _ (List.mem_cons_self))))), List.forall_mem_cons.mpr ⟨List.mem_cons_of_mem _ (List.mem_cons_of_mem _ (List.mem_cons_of_mem _ (List.mem_cons_of_mem _ (List.mem_cons_of_mem _ (List.mem_cons_of_mem _ (List.mem_cons_self)))))), List.forall_mem_cons.mpr ⟨List.mem_cons_of_mem _ (List.mem_cons_of_mem _ (List.mem_cons_of_mem _ (List.mem_cons_of_mem _ (List.mem_cons_of_mem _ (List.mem_cons_of_mem _ (List.mem_cons_of_mem _ (List.mem_cons_self))))))), List.forall_mem_cons.mpr ⟨List.mem_cons_self, fun _ h => absurd h List.not_mem_nil⟩⟩⟩⟩⟩⟩⟩)) ?_
          exact ih30 li fr (ki + 1) w32 (by omega) (by omega) (by omega) (by omega) (hI33) (hF34) (by omega)
      · refine xg_t (xg_icT (u := ki) (v := f6_23) rfl xnm0 xnm0 (xj_geT (by omega) (by omega))) ?_
        refine xg_t (xg_blq rfl) ?_
        refine xg_t (xg_iload (va := (0, li)) rfl rfl) ?_
        refine xg_t (xg_const) ?_
        by_cases hc68 : li = 4294967295
        · refine xg_t (xg_icT (u := li) (v := 4294967295) rfl xnm0 xnm0 (xj_eqT hc68)) ?_
          refine xg_t (xg_blq rfl) ?_
          exact xg_e ⟨w32, ⟨rfl, rfl⟩, hI33, hF34⟩
        · refine xg_t (xg_icF (u := li) (v := 4294967295) rfl xnm0 xnm0 (xj_eqF hc68)) ?_
          refine xg_t (xg_aload (va := (2, 49)) rfl rfl) ?_
          refine xg_t (xg_getf (va := (2, 56)) (hF34.get (by decide) h49_5) rfl) ?_
          refine xg_t (xg_iload (va := (0, li)) rfl rfl) ?_
          refine xg_t (xg_dup2 rfl) ?_
          obtain ⟨g56_69, h56_70⟩ := (xqc56 hI33 : cpJ 4 29 (wget w32 56))
          have h56_70 : xRk 3 4 w32 56 4 29 g56_69 := h56_70
          refine xg_kl (xg_lald (n := li) h56_70 xnm0 (by omega) rfl) (fun l72 => ?_)
          refine xg_t (xg_lload (u := ti) rfl) ?_
          refine xg_kl (xg_ladd (u := l72) (v := ti)) (fun l73 => ?_)
          refine xg_last (n := li) (u := l73) h56_70 xnm0 (by omega) (fun w74 hr75 hb76 => ?_)
          refine xg_t (xg_blq rfl) ?_
          exact xg_e ⟨w74, ⟨rfl, rfl⟩, xInv.up (S := [56]) hI33 (xFr.of (S := [56]) hb76 (by decide)) (List.forall_mem_cons.mpr ⟨xqu56 (show cpJ 4 29 (wget w74 56) from ⟨_, hr75⟩), fun _ h => absurd h List.not_mem_nil⟩), (hF34.tr (xFr.of (S := [56]) hb76 (by decide)))⟩
  exact key29 _ 4294967295 4294967295 0 w (Nat.lt_succ_self _) (by omega) (by omega) (by omega) (hI) (xFr.rf) (by omega)
theorem bdWhole (hI : xInv w)  : xPj (d + 1) mX0_wholeLives [(2, 49)] w bd fc rr (fun n w' => (n = n) ∧ xInv w' ∧ xFr [] w w') := by
  refine xPj.of ?_
  show xTo (d + 1) mX0_wholeLives (0, [], [(0, (2, 49))], [], (w, bd, fc, 0, 0, rr)) (fun φ => ∃ n w', xEnd 2 [(4, n)] (w', bd, fc, 0, 0, rr) φ ∧ (n = n) ∧ xInv w' ∧ xFr [] w w')
  refine xoC49 (xqc49 hI : cp49 (wget w 49)) (fun f49_1 f49_3 h49_5 hb2 hb4 => ?_)
  refine xoC3 (xqc3 hI : cp3 (wget w 3)) (fun f3_6 f3_8 f3_10 f3_12 f3_14 h3_16 hb7 hb9 hb11 hb13 hb15 => ?_)
  obtain ⟨f4_17, h4_19, hb18⟩ := (xqc4 hI : cp4 (wget w 4))
  refine xoI (xqc5 hI : cpI 24 1 4294967295 (wget w 5)) (fun g5_20 h5_21 hb22 => ?_)
  obtain ⟨f6_23, h6_25, hb24⟩ := (xqc6 hI : cp6 (wget w 6))
  refine xoI (xqc7 hI : cpI 8 2 4294967295 (wget w 7)) (fun g7_26 h7_27 hb28 => ?_)
  refine xg_t (xg_blq rfl) ?_
  refine xg_t (xg_lconst) ?_
  refine xg_t (xg_lstore (l1 := [(0, (2, 49))]) rfl rfl) ?_
  refine xg_t (xg_const) ?_
  refine xg_t (xg_istore (l1 := [(1, (4, 0)), (0, (2, 49))]) rfl rfl rfl) ?_
  refine xg_t (xg_drop (l1 := [(0, (2, 49)), (1, (4, 0)), (3, (0, 0))]) (List.forall_mem_cons.mpr ⟨List.mem_cons_of_mem _ (List.mem_cons_of_mem _ (List.mem_cons_self)), List.forall_mem_cons.mpr ⟨List.mem_cons_of_mem _ (List.mem_cons_self), List.forall_mem_cons.mpr ⟨List.mem_cons_self, fun _ h => absurd h List.not_mem_nil⟩⟩⟩)) ?_
  have key29 : ∀ (m31 : Nat) (wh ki : Nat) (w32 : List (List xE)), 4 - ki < m31 → wh = wh → ki ≤ 4 → xInv w32 → xFr [] w w32 → xTo (d + 1) mX0_wholeLives (4, [], [(0, (2, 49)), (1, (4, wh)), (3, (0, ki))], [], (w32, bd, fc, 0, 0, rr)) (fun φ => ∃ n w', xEnd 2 [(4, n)] (w', bd, fc, 0, 0, rr) φ ∧ (n = n) ∧ xInv w' ∧ xFr [] w w') := by
    intro m31
    induction m31 with
    | zero => intro wh ki w32 hz; exact absurd hz (Nat.not_lt_zero _)
    | succ m31 ih30 =>
      intro wh ki w32 hm37 hn35 hn36 hI33 hF34
      refine xg_t (xg_blq rfl) ?_
      refine xg_t (xg_iload (va := (0, ki)) rfl rfl) ?_
      refine xg_t (xg_aload (va := (2, 49)) rfl rfl) ?_
      refine xg_t (xg_getf (va := (2, 3)) (hF34.get (by decide) h49_5) rfl) ?_
      refine xg_t (xg_getf (va := (2, 6)) (hF34.get (by decide) h3_16) rfl) ?_
      refine xg_t (xg_getf (va := (0, f6_23)) (hF34.get (by decide) h6_25) rfl) ?_
      by_cases hc38 : ki < f6_23
      · refine xg_t (xg_icF (u := ki) (v := f6_23) rfl xnm0 xnm0 (xj_geF hc38 (by omega))) ?_
        refine xg_t (xg_lload (u := wh) rfl) ?_
        refine xg_t (xg_aload (va := (2, 49)) rfl rfl) ?_
        refine xg_t (xg_getf (va := (2, 56)) (hF34.get (by decide) h49_5) rfl) ?_
        refine xg_t (xg_iload (va := (0, ki)) rfl rfl) ?_
        obtain ⟨g56_39, h56_40⟩ := (xqc56 hI33 : cpJ 4 29 (wget w32 56))
        have h56_40 : xRk 3 4 w32 56 4 29 g56_39 := h56_40
        refine xg_kl (xg_lald (n := ki) h56_40 xnm0 (by omega) rfl) (fun l42 => ?_)
        refine xg_t (xg_aload (va := (2, 49)) rfl rfl) ?_
        refine xg_t (xg_getf (va := (2, 3)) (hF34.get (by decide) h49_5) rfl) ?_
        refine xg_t (xg_getf (va := (2, 6)) (hF34.get (by decide) h3_16) rfl) ?_
        refine xg_t (xg_iload (va := (0, ki)) rfl rfl) ?_
        refine xg_t (xg_const) ?_
        refine xg_k (xg_cVr mX5_get (vs := [(0, ki), (0, 1)]) (rest := [(4, l42), (4, wh)]) (rs := [(0, if ki < f6_23 ∧ 1 < 2 then g7_26 (ki * 2 + 1) else 4294967295), (4, l42), (4, wh)]) (cn1 := 0) (sl1 := 0) rfl (rget_ok (lim := 4) (wd := 2) (sz := f6_23) (hF34.get (by decide) h6_25) (h7_27.fr hF34 (by decide)) (by decide) (by omega) (by decide) (by decide) (by omega) (by omega)) rfl (hF34.get (by decide) h6_25) rfl rfl rfl rfl rfl rfl rfl) (xiteb (hb28)) (fun z43 hz44 => ?_)
        refine xg_kl (xg_i2l (u := z43) xnm0) (fun l45 => ?_)
        refine xg_cNj mX11_divide (vs := [(4, l42), (4, l45)]) (rest := [(4, wh)]) (cn1 := 0) (sl1 := 0) rfl (dvDivide (hI33)) rfl rfl rfl rfl rfl rfl rfl (fun l50 w46 hq47 => ?_)
        obtain ⟨hn51, hI48, hF49⟩ := hq47
        refine xg_kl (xg_ladd (u := wh) (v := l50)) (fun l52 => ?_)
        refine xg_t (xg_lstore (l1 := [(0, (2, 49)), (3, (0, ki))]) rfl rfl) ?_
        refine xg_t (xg_iinc (u := ki) (z := ki + 1) (l1 := [(1, (4, l52)), (0, (2, 49))]) rfl rfl (by omega) rfl) ?_
        refine xg_t (xg_goto) ?_
        refine xg_t (xg_drop (l1 := [(0, (2, 49)), (1, (4, l52)), (3, (0, ki + 1))]) (List.forall_mem_cons.mpr ⟨List.mem_cons_of_mem _ (List.mem_cons_of_mem _ (List.mem_cons_self)), List.forall_mem_cons.mpr ⟨List.mem_cons_of_mem _ (List.mem_cons_self), List.forall_mem_cons.mpr ⟨List.mem_cons_self, fun _ h => absurd h List.not_mem_nil⟩⟩⟩)) ?_
        exact ih30 l52 (ki + 1) w46 (by omega) (by omega) (by omega) (hI48) ((hF34.tr (hF49.up (by decide))))
      · refine xg_t (xg_icT (u := ki) (v := f6_23) rfl xnm0 xnm0 (xj_geT (by omega) (by omega))) ?_
        refine xg_t (xg_blq rfl) ?_
        refine xg_t (xg_lload (u := wh) rfl) ?_
        exact xg_e ⟨wh, w32, ⟨rfl, rfl⟩, by omega, hI33, hF34⟩
  exact key29 _ 0 0 w (Nat.lt_succ_self _) (by omega) (by omega) (hI) (xFr.rf)
theorem bdCommon (hI : xInv w)  : xPj (d + 1) mX0_commonLife [(2, 49)] w bd fc rr (fun n w' => (n = n) ∧ xInv w' ∧ xFr [] w w') := by
  refine xPj.of ?_
  show xTo (d + 1) mX0_commonLife (0, [], [(0, (2, 49))], [], (w, bd, fc, 0, 0, rr)) (fun φ => ∃ n w', xEnd 2 [(4, n)] (w', bd, fc, 0, 0, rr) φ ∧ (n = n) ∧ xInv w' ∧ xFr [] w w')
  refine xoC49 (xqc49 hI : cp49 (wget w 49)) (fun f49_1 f49_3 h49_5 hb2 hb4 => ?_)
  refine xoC3 (xqc3 hI : cp3 (wget w 3)) (fun f3_6 f3_8 f3_10 f3_12 f3_14 h3_16 hb7 hb9 hb11 hb13 hb15 => ?_)
  obtain ⟨f4_17, h4_19, hb18⟩ := (xqc4 hI : cp4 (wget w 4))
  refine xoI (xqc5 hI : cpI 24 1 4294967295 (wget w 5)) (fun g5_20 h5_21 hb22 => ?_)
  obtain ⟨f6_23, h6_25, hb24⟩ := (xqc6 hI : cp6 (wget w 6))
  refine xoI (xqc7 hI : cpI 8 2 4294967295 (wget w 7)) (fun g7_26 h7_27 hb28 => ?_)
  refine xg_t (xg_blq rfl) ?_
  refine xg_t (xg_lconst) ?_
  refine xg_t (xg_lstore (l1 := [(0, (2, 49))]) rfl rfl) ?_
  refine xg_t (xg_const) ?_
  refine xg_t (xg_istore (l1 := [(1, (4, 1)), (0, (2, 49))]) rfl rfl rfl) ?_
  refine xg_t (xg_drop (l1 := [(0, (2, 49)), (1, (4, 1)), (3, (0, 0))]) (List.forall_mem_cons.mpr ⟨List.mem_cons_of_mem _ (List.mem_cons_of_mem _ (List.mem_cons_self)), List.forall_mem_cons.mpr ⟨List.mem_cons_of_mem _ (List.mem_cons_self), List.forall_mem_cons.mpr ⟨List.mem_cons_self, fun _ h => absurd h List.not_mem_nil⟩⟩⟩)) ?_
  have key29 : ∀ (m31 : Nat) (pr ki : Nat) (w32 : List (List xE)), 4 - ki < m31 → pr = pr → ki ≤ 4 → xInv w32 → xFr [] w w32 → xTo (d + 1) mX0_commonLife (4, [], [(0, (2, 49)), (1, (4, pr)), (3, (0, ki))], [], (w32, bd, fc, 0, 0, rr)) (fun φ => ∃ n w', xEnd 2 [(4, n)] (w', bd, fc, 0, 0, rr) φ ∧ (n = n) ∧ xInv w' ∧ xFr [] w w') := by
    intro m31
    induction m31 with
    | zero => intro pr ki w32 hz; exact absurd hz (Nat.not_lt_zero _)
    | succ m31 ih30 =>
      intro pr ki w32 hm37 hn35 hn36 hI33 hF34
      refine xg_t (xg_blq rfl) ?_
      refine xg_t (xg_iload (va := (0, ki)) rfl rfl) ?_
      refine xg_t (xg_aload (va := (2, 49)) rfl rfl) ?_
      refine xg_t (xg_getf (va := (2, 3)) (hF34.get (by decide) h49_5) rfl) ?_
      refine xg_t (xg_getf (va := (2, 6)) (hF34.get (by decide) h3_16) rfl) ?_
      refine xg_t (xg_getf (va := (0, f6_23)) (hF34.get (by decide) h6_25) rfl) ?_
      by_cases hc38 : ki < f6_23
      · refine xg_t (xg_icF (u := ki) (v := f6_23) rfl xnm0 xnm0 (xj_geF hc38 (by omega))) ?_
        refine xg_t (xg_lload (u := pr) rfl) ?_
        refine xg_t (xg_aload (va := (2, 49)) rfl rfl) ?_
        refine xg_t (xg_getf (va := (2, 3)) (hF34.get (by decide) h49_5) rfl) ?_
        refine xg_t (xg_getf (va := (2, 6)) (hF34.get (by decide) h3_16) rfl) ?_
        refine xg_t (xg_iload (va := (0, ki)) rfl rfl) ?_
        refine xg_t (xg_const) ?_
        refine xg_k (xg_cVr mX5_get (vs := [(0, ki), (0, 1)]) (rest := [(4, pr)]) (rs := [(0, if ki < f6_23 ∧ 1 < 2 then g7_26 (ki * 2 + 1) else 4294967295), (4, pr)]) (cn1 := 0) (sl1 := 0) rfl (rget_ok (lim := 4) (wd := 2) (sz := f6_23) (hF34.get (by decide) h6_25) (h7_27.fr hF34 (by decide)) (by decide) (by omega) (by decide) (by decide) (by omega) (by omega)) rfl (hF34.get (by decide) h6_25) rfl rfl rfl rfl rfl rfl rfl) (xiteb (hb28)) (fun z39 hz40 => ?_)
        refine xg_kl (xg_i2l (u := z39) xnm0) (fun l41 => ?_)
        refine xg_kl (xg_lmul (u := pr) (v := l41)) (fun l42 => ?_)
        refine xg_t (xg_lstore (l1 := [(0, (2, 49)), (3, (0, ki))]) rfl rfl) ?_
        refine xg_t (xg_iinc (u := ki) (z := ki + 1) (l1 := [(1, (4, l42)), (0, (2, 49))]) rfl rfl (by omega) rfl) ?_
        refine xg_t (xg_goto) ?_
        refine xg_t (xg_drop (l1 := [(0, (2, 49)), (1, (4, l42)), (3, (0, ki + 1))]) (List.forall_mem_cons.mpr ⟨List.mem_cons_of_mem _ (List.mem_cons_of_mem _ (List.mem_cons_self)), List.forall_mem_cons.mpr ⟨List.mem_cons_of_mem _ (List.mem_cons_self), List.forall_mem_cons.mpr ⟨List.mem_cons_self, fun _ h => absurd h List.not_mem_nil⟩⟩⟩)) ?_
        exact ih30 l42 (ki + 1) w32 (by omega) (by omega) (by omega) (hI33) (hF34)
      · refine xg_t (xg_icT (u := ki) (v := f6_23) rfl xnm0 xnm0 (xj_geT (by omega) (by omega))) ?_
        refine xg_t (xg_blq rfl) ?_
        refine xg_t (xg_lload (u := pr) rfl) ?_
        exact xg_e ⟨pr, w32, ⟨rfl, rfl⟩, by omega, hI33, hF34⟩
  exact key29 _ 1 0 w (Nat.lt_succ_self _) (by omega) (by omega) (hI) (xFr.rf)
theorem bdPart {co : Nat} (hI : xInv w)  : xPj (d + 1) mX0_partLives [(2, 49), (4, co)] w bd fc rr (fun n w' => (n = n) ∧ xInv w' ∧ xFr [] w w') := by
  refine xPj.of ?_
  show xTo (d + 1) mX0_partLives (0, [], [(0, (2, 49)), (1, (4, co))], [], (w, bd, fc, 0, 0, rr)) (fun φ => ∃ n w', xEnd 2 [(4, n)] (w', bd, fc, 0, 0, rr) φ ∧ (n = n) ∧ xInv w' ∧ xFr [] w w')
  refine xoC49 (xqc49 hI : cp49 (wget w 49)) (fun f49_1 f49_3 h49_5 hb2 hb4 => ?_)
  refine xoC3 (xqc3 hI : cp3 (wget w 3)) (fun f3_6 f3_8 f3_10 f3_12 f3_14 h3_16 hb7 hb9 hb11 hb13 hb15 => ?_)
  obtain ⟨f4_17, h4_19, hb18⟩ := (xqc4 hI : cp4 (wget w 4))
  refine xoI (xqc5 hI : cpI 24 1 4294967295 (wget w 5)) (fun g5_20 h5_21 hb22 => ?_)
  obtain ⟨f6_23, h6_25, hb24⟩ := (xqc6 hI : cp6 (wget w 6))
  refine xoI (xqc7 hI : cpI 8 2 4294967295 (wget w 7)) (fun g7_26 h7_27 hb28 => ?_)
  refine xg_t (xg_blq rfl) ?_
  refine xg_t (xg_lconst) ?_
  refine xg_t (xg_lstore (l1 := [(0, (2, 49)), (1, (4, co))]) rfl rfl) ?_
  refine xg_t (xg_const) ?_
  refine xg_t (xg_istore (l1 := [(3, (4, 0)), (0, (2, 49)), (1, (4, co))]) rfl rfl rfl) ?_
  refine xg_t (xg_drop (l1 := [(0, (2, 49)), (1, (4, co)), (3, (4, 0)), (5, (0, 0))]) (List.forall_mem_cons.mpr ⟨List.mem_cons_of_mem _ (List.mem_cons_of_mem _ (List.mem_cons_self)), List.forall_mem_cons.mpr ⟨List.mem_cons_of_mem _ (List.mem_cons_of_mem _ (List.mem_cons_of_mem _ (List.mem_cons_self))), List.forall_mem_cons.mpr ⟨List.mem_cons_of_mem _ (List.mem_cons_self), List.forall_mem_cons.mpr ⟨List.mem_cons_self, fun _ h => absurd h List.not_mem_nil⟩⟩⟩⟩)) ?_
  have key29 : ∀ (m31 : Nat) (pa ki : Nat) (w32 : List (List xE)), 4 - ki < m31 → pa = pa → ki ≤ 4 → xInv w32 → xFr [] w w32 → xTo (d + 1) mX0_partLives (5, [], [(0, (2, 49)), (1, (4, co)), (3, (4, pa)), (5, (0, ki))], [], (w32, bd, fc, 0, 0, rr)) (fun φ => ∃ n w', xEnd 2 [(4, n)] (w', bd, fc, 0, 0, rr) φ ∧ (n = n) ∧ xInv w' ∧ xFr [] w w') := by
    intro m31
    induction m31 with
    | zero => intro pa ki w32 hz; exact absurd hz (Nat.not_lt_zero _)
    | succ m31 ih30 =>
      intro pa ki w32 hm37 hn35 hn36 hI33 hF34
      refine xg_t (xg_blq rfl) ?_
      refine xg_t (xg_iload (va := (0, ki)) rfl rfl) ?_
      refine xg_t (xg_aload (va := (2, 49)) rfl rfl) ?_
      refine xg_t (xg_getf (va := (2, 3)) (hF34.get (by decide) h49_5) rfl) ?_
      refine xg_t (xg_getf (va := (2, 6)) (hF34.get (by decide) h3_16) rfl) ?_
      refine xg_t (xg_getf (va := (0, f6_23)) (hF34.get (by decide) h6_25) rfl) ?_
      by_cases hc38 : ki < f6_23
      · refine xg_t (xg_icF (u := ki) (v := f6_23) rfl xnm0 xnm0 (xj_geF hc38 (by omega))) ?_
        refine xg_t (xg_aload (va := (2, 49)) rfl rfl) ?_
        refine xg_t (xg_getf (va := (2, 3)) (hF34.get (by decide) h49_5) rfl) ?_
        refine xg_t (xg_getf (va := (2, 6)) (hF34.get (by decide) h3_16) rfl) ?_
        refine xg_t (xg_iload (va := (0, ki)) rfl rfl) ?_
        refine xg_t (xg_const) ?_
        refine xg_k (xg_cVr mX5_get (vs := [(0, ki), (0, 1)]) (rest := []) (rs := [(0, if ki < f6_23 ∧ 1 < 2 then g7_26 (ki * 2 + 1) else 4294967295)]) (cn1 := 0) (sl1 := 0) rfl (rget_ok (lim := 4) (wd := 2) (sz := f6_23) (hF34.get (by decide) h6_25) (h7_27.fr hF34 (by decide)) (by decide) (by omega) (by decide) (by decide) (by omega) (by omega)) rfl (hF34.get (by decide) h6_25) rfl rfl rfl rfl rfl rfl rfl) (xiteb (hb28)) (fun z39 hz40 => ?_)
        refine xg_kl (xg_i2l (u := z39) xnm0) (fun l41 => ?_)
        refine xg_t (xg_lstore (l1 := [(0, (2, 49)), (1, (4, co)), (3, (4, pa)), (5, (0, ki))]) rfl rfl) ?_
        refine xg_t (xg_lload (u := pa) rfl) ?_
        refine xg_t (xg_aload (va := (2, 49)) rfl rfl) ?_
        refine xg_t (xg_getf (va := (2, 56)) (hF34.get (by decide) h49_5) rfl) ?_
        refine xg_t (xg_iload (va := (0, ki)) rfl rfl) ?_
        obtain ⟨g56_42, h56_43⟩ := (xqc56 hI33 : cpJ 4 29 (wget w32 56))
        have h56_43 : xRk 3 4 w32 56 4 29 g56_42 := h56_43
        refine xg_kl (xg_lald (n := ki) h56_43 xnm0 (by omega) rfl) (fun l45 => ?_)
        refine xg_t (xg_aload (va := (2, 49)) rfl rfl) ?_
        refine xg_t (xg_getf (va := (2, 56)) (hF34.get (by decide) h49_5) rfl) ?_
        refine xg_t (xg_iload (va := (0, ki)) rfl rfl) ?_
        refine xg_kl (xg_lald (n := ki) h56_43 xnm0 (by omega) rfl) (fun l46 => ?_)
        refine xg_t (xg_lload (u := l41) rfl) ?_
        refine xg_cNj mX11_divide (vs := [(4, l46), (4, l41)]) (rest := [(4, l45), (4, pa)]) (cn1 := 0) (sl1 := 0) rfl (dvDivide (hI33)) rfl rfl rfl rfl rfl rfl rfl (fun l51 w47 hq48 => ?_)
        obtain ⟨hn52, hI49, hF50⟩ := hq48
        refine xg_t (xg_lload (u := l41) rfl) ?_
        refine xg_kl (xg_lmul (u := l51) (v := l41)) (fun l53 => ?_)
        refine xg_kl (xg_lsub (u := l45) (v := l53)) (fun l54 => ?_)
        refine xg_t (xg_lload (u := co) rfl) ?_
        refine xg_t (xg_lload (u := l41) rfl) ?_
        refine xg_cNj mX11_divide (vs := [(4, co), (4, l41)]) (rest := [(4, l54), (4, pa)]) (cn1 := 0) (sl1 := 0) rfl (dvDivide (hI49)) rfl rfl rfl rfl rfl rfl rfl (fun l59 w55 hq56 => ?_)
        obtain ⟨hn60, hI57, hF58⟩ := hq56
        refine xg_kl (xg_lmul (u := l54) (v := l59)) (fun l61 => ?_)
        refine xg_kl (xg_ladd (u := pa) (v := l61)) (fun l62 => ?_)
        refine xg_t (xg_lstore (l1 := [(6, (4, l41)), (0, (2, 49)), (1, (4, co)), (5, (0, ki))]) rfl rfl) ?_
        refine xg_t (xg_iinc (u := ki) (z := ki + 1) (l1 := [(3, (4, l62)), (6, (4, l41)), (0, (2, 49)), (1, (4, co))]) rfl rfl (by omega) rfl) ?_
        refine xg_t (xg_goto) ?_
        refine xg_t (xg_drop (l1 := [(0, (2, 49)), (1, (4, co)), (3, (4, l62)), (5, (0, ki + 1))]) (List.forall_mem_cons.mpr ⟨List.mem_cons_of_mem _ (List.mem_cons_of_mem _ (List.mem_cons_of_mem _ (List.mem_cons_self))), List.forall_mem_cons.mpr ⟨List.mem_cons_of_mem _ (List.mem_cons_of_mem _ (List.mem_cons_of_mem _ (List.mem_cons_of_mem _ (List.mem_cons_self)))), List.forall_mem_cons.mpr ⟨List.mem_cons_of_mem _ (List.mem_cons_self), List.forall_mem_cons.mpr ⟨List.mem_cons_self, fun _ h => absurd h List.not_mem_nil⟩⟩⟩⟩)) ?_
        exact ih30 l62 (ki + 1) w55 (by omega) (by omega) (by omega) (hI57) (((hF34.tr (hF50.up (by decide))).tr (hF58.up (by decide))))
      · refine xg_t (xg_icT (u := ki) (v := f6_23) rfl xnm0 xnm0 (xj_geT (by omega) (by omega))) ?_
        refine xg_t (xg_blq rfl) ?_
        refine xg_t (xg_lload (u := pa) rfl) ?_
        exact xg_e ⟨pa, w32, ⟨rfl, rfl⟩, by omega, hI33, hF34⟩
  exact key29 _ 0 0 w (Nat.lt_succ_self _) (by omega) (by omega) (hI) (xFr.rf)
theorem bdWorn (hI : xInv w)  : xPi (d + 2) mX0_isWornOut [(2, 49)] w bd fc rr (fun n w' => (n ≤ 1) ∧ xInv w' ∧ xFr [] w w') := by
  refine xPi.of ?_
  show xTo (d + 2) mX0_isWornOut (0, [], [(0, (2, 49))], [], (w, bd, fc, 0, 0, rr)) (fun φ => ∃ n w', xEnd 4 [(0, n)] (w', bd, fc, 0, 0, rr) φ ∧ (n ≤ 1) ∧ xInv w' ∧ xFr [] w w')
  refine xg_t (xg_blq rfl) ?_
  refine xg_t (xg_aload (va := (2, 49)) rfl rfl) ?_
  refine xoC49 (xqc49 hI : cp49 (wget w 49)) (fun f49_1 f49_3 h49_5 hb2 hb4 => ?_)
  refine xg_cVj mX0_commonLife (vs := []) (rest := []) (cn1 := 0) (sl1 := 0) rfl (bdCommon (hI)) rfl h49_5 rfl rfl rfl rfl rfl rfl (fun l10 w6 hq7 => ?_)
  obtain ⟨hn11, hI8, hF9⟩ := hq7
  refine xg_t (xg_lstore (l1 := [(0, (2, 49))]) rfl rfl) ?_
  refine xg_t (xg_aload (va := (2, 49)) rfl rfl) ?_
  refine xg_cVj mX0_wholeLives (vs := []) (rest := []) (cn1 := 0) (sl1 := 0) rfl (bdWhole (hI8)) rfl (hF9.get (by decide) h49_5) rfl rfl rfl rfl rfl rfl (fun l16 w12 hq13 => ?_)
  obtain ⟨hn17, hI14, hF15⟩ := hq13
  refine xg_t (xg_lconst) ?_
  refine xg_k (xg_lcmp (u := l16) (v := 0)) (xpt_lt _) (fun z18 hz19 => ?_)
  by_cases hc20 : xbs 0 < xbs z18
  · have hc20u := hc20
    unfold xbs at hc20u
    have hn21 : z18 ≤ 2147483647 := by omega
    refine xg_t (xg_ifT (u := z18) rfl xnm0 (xjs_gtT hc20)) ?_
    refine xg_t (xg_blq rfl) ?_
    refine xg_t (xg_const) ?_
    refine xg_t (xg_goto) ?_
    refine xg_t (xg_blq rfl) ?_
    exact xg_e ⟨1, w12, ⟨rfl, rfl⟩, by first | decide | omega, hI14, ((hF9.up (by decide)).tr (hF15.up (by decide)))⟩
  · have hc20u := hc20
    unfold xbs at hc20u
    refine xg_t (xg_ifF (u := z18) rfl xnm0 (xjs_gtF hc20)) ?_
    refine xg_t (xg_aload (va := (2, 49)) rfl rfl) ?_
    refine xg_t (xg_lload (u := l10) rfl) ?_
    refine xg_cVj mX0_partLives (vs := [(4, l10)]) (rest := []) (cn1 := 0) (sl1 := 0) rfl (bdPart (hI14)) rfl (hF15.get (by decide) (hF9.get (by decide) h49_5)) rfl rfl rfl rfl rfl rfl (fun l26 w22 hq23 => ?_)
    obtain ⟨hn27, hI24, hF25⟩ := hq23
    refine xg_t (xg_lload (u := l10) rfl) ?_
    refine xg_k (xg_lcmp (u := l26) (v := l10)) (xpt_lt _) (fun z28 hz29 => ?_)
    by_cases hc30 : z28 < 2147483648
    · refine xg_t (xg_ifF (u := z28) rfl xnm0 (xjz_ltF hc30)) ?_
      refine xg_t (xg_blq rfl) ?_
      refine xg_t (xg_const) ?_
      refine xg_t (xg_goto) ?_
      refine xg_t (xg_blq rfl) ?_
      exact xg_e ⟨1, w22, ⟨rfl, rfl⟩, by first | decide | omega, hI24, (((hF9.up (by decide)).tr (hF15.up (by decide))).tr (hF25.up (by decide)))⟩
    · refine xg_t (xg_ifT (u := z28) rfl xnm0 (xjz_ltT (by omega) (by omega))) ?_
      refine xg_t (xg_blq rfl) ?_
      refine xg_t (xg_const) ?_
      refine xg_t (xg_blq rfl) ?_
      exact xg_e ⟨0, w22, ⟨rfl, rfl⟩, by first | decide | omega, hI24, (((hF9.up (by decide)).tr (hF15.up (by decide))).tr (hF25.up (by decide)))⟩
theorem bdWornTh (hI : xInv w)  : xPi (d + 2) mX0_wornThousandths [(2, 49)] w bd fc rr (fun n w' => (n ≤ 4294967295) ∧ xInv w' ∧ xFr [] w w') := by
  refine xPi.of ?_
  show xTo (d + 2) mX0_wornThousandths (0, [], [(0, (2, 49))], [], (w, bd, fc, 0, 0, rr)) (fun φ => ∃ n w', xEnd 1 [(0, n)] (w', bd, fc, 0, 0, rr) φ ∧ (n ≤ 4294967295) ∧ xInv w' ∧ xFr [] w w')
  refine xg_t (xg_blq rfl) ?_
  refine xg_t (xg_aload (va := (2, 49)) rfl rfl) ?_
  refine xoC49 (xqc49 hI : cp49 (wget w 49)) (fun f49_1 f49_3 h49_5 hb2 hb4 => ?_)
  refine xg_cVj mX0_commonLife (vs := []) (rest := []) (cn1 := 0) (sl1 := 0) rfl (bdCommon (hI)) rfl h49_5 rfl rfl rfl rfl rfl rfl (fun l10 w6 hq7 => ?_)
  obtain ⟨hn11, hI8, hF9⟩ := hq7
  refine xg_t (xg_lstore (l1 := [(0, (2, 49))]) rfl rfl) ?_
  refine xg_t (xg_ldc2) ?_
  refine xg_t (xg_aload (va := (2, 49)) rfl rfl) ?_
  refine xg_cVj mX0_wholeLives (vs := []) (rest := [(4, 1000)]) (cn1 := 0) (sl1 := 0) rfl (bdWhole (hI8)) rfl (hF9.get (by decide) h49_5) rfl rfl rfl rfl rfl rfl (fun l16 w12 hq13 => ?_)
  obtain ⟨hn17, hI14, hF15⟩ := hq13
  refine xg_kl (xg_lmul (u := 1000) (v := l16)) (fun l18 => ?_)
  refine xg_t (xg_ldc2) ?_
  refine xg_t (xg_aload (va := (2, 49)) rfl rfl) ?_
  refine xg_t (xg_lload (u := l10) rfl) ?_
  refine xg_cVj mX0_partLives (vs := [(4, l10)]) (rest := [(4, 1000), (4, l18)]) (cn1 := 0) (sl1 := 0) rfl (bdPart (hI14)) rfl (hF15.get (by decide) (hF9.get (by decide) h49_5)) rfl rfl rfl rfl rfl rfl (fun l23 w19 hq20 => ?_)
  obtain ⟨hn24, hI21, hF22⟩ := hq20
  refine xg_kl (xg_lmul (u := 1000) (v := l23)) (fun l25 => ?_)
  refine xg_t (xg_lload (u := l10) rfl) ?_
  refine xg_cNj mX11_divide (vs := [(4, l25), (4, l10)]) (rest := [(4, l18)]) (cn1 := 0) (sl1 := 0) rfl (dvDivide (hI21)) rfl rfl rfl rfl rfl rfl rfl (fun l30 w26 hq27 => ?_)
  obtain ⟨hn31, hI28, hF29⟩ := hq27
  refine xg_kl (xg_ladd (u := l18) (v := l30)) (fun l32 => ?_)
  refine xg_k (xg_l2i (u := l32)) (xpt_lt _) (fun z33 hz34 => ?_)
  exact xg_e ⟨z33, w26, ⟨rfl, rfl⟩, by omega, hI28, ((((hF9.up (by decide)).tr (hF15.up (by decide))).tr (hF22.up (by decide))).tr (hF29.up (by decide)))⟩
theorem bdBreaks {ti ro : Nat} (hI : xInv w) (h2 : ro ≤ 4294967295) : xPi (d + 3) mX0_breaksBehind [(2, 49), (4, ti), (0, ro)] w bd fc rr (fun n w' => (n ≤ 1) ∧ xInv w' ∧ xFr [56] w w') := by
  refine xPi.of ?_
  show xTo (d + 3) mX0_breaksBehind (0, [], [(0, (2, 49)), (1, (4, ti)), (3, (0, ro))], [], (w, bd, fc, 0, 0, rr)) (fun φ => ∃ n w', xEnd 4 [(0, n)] (w', bd, fc, 0, 0, rr) φ ∧ (n ≤ 1) ∧ xInv w' ∧ xFr [56] w w')
  refine xoC49 (xqc49 hI : cp49 (wget w 49)) (fun f49_1 f49_3 h49_5 hb2 hb4 => ?_)
  refine xoC3 (xqc3 hI : cp3 (wget w 3)) (fun f3_6 f3_8 f3_10 f3_12 f3_14 h3_16 hb7 hb9 hb11 hb13 hb15 => ?_)
  obtain ⟨f4_17, h4_19, hb18⟩ := (xqc4 hI : cp4 (wget w 4))
  refine xoI (xqc5 hI : cpI 24 1 4294967295 (wget w 5)) (fun g5_20 h5_21 hb22 => ?_)
  obtain ⟨f8_23, h8_25, hb24⟩ := (xqc8 hI : cp8 (wget w 8))
  refine xoI (xqc9 hI : cpI 12 3 4294967295 (wget w 9)) (fun g9_26 h9_27 hb28 => ?_)
  refine xg_t (xg_blq rfl) ?_
  refine xg_t (xg_const) ?_
  refine xg_t (xg_istore (l1 := [(0, (2, 49)), (1, (4, ti)), (3, (0, ro))]) rfl rfl rfl) ?_
  refine xg_t (xg_drop (l1 := [(0, (2, 49)), (1, (4, ti)), (3, (0, ro)), (4, (0, 0))]) (List.forall_mem_cons.mpr ⟨List.mem_cons_of_mem _ (List.mem_cons_self), List.forall_mem_cons.mpr ⟨List.mem_cons_of_mem _ (List.mem_cons_of_mem _ (List.mem_cons_self)), List.forall_mem_cons.mpr ⟨List.mem_cons_of_mem _ (List.mem_cons_of_mem _ (List.mem_cons_of_mem _ (List.mem_cons_self))), List.forall_mem_cons.mpr ⟨List.mem_cons_self, fun _ h => absurd h List.not_mem_nil⟩⟩⟩⟩)) ?_
  have key29 : ∀ (m31 : Nat) (pl : Nat) (w32 : List (List xE)), 6 - pl < m31 → pl ≤ 6 → xInv w32 → xFr [56] w w32 → xTo (d + 3) mX0_breaksBehind (3, [], [(0, (2, 49)), (1, (4, ti)), (3, (0, ro)), (4, (0, pl))], [], (w32, bd, fc, 0, 0, rr)) (fun φ => ∃ n w', xEnd 4 [(0, n)] (w', bd, fc, 0, 0, rr) φ ∧ (n ≤ 1) ∧ xInv w' ∧ xFr [56] w w') := by
    intro m31
    induction m31 with
    | zero => intro pl w32 hz; exact absurd hz (Nat.not_lt_zero _)
    | succ m31 ih30 =>
      intro pl w32 hm36 hn35 hI33 hF34
      refine xg_t (xg_blq rfl) ?_
      refine xg_t (xg_iload (va := (0, pl)) rfl rfl) ?_
      refine xg_t (xg_aload (va := (2, 49)) rfl rfl) ?_
      refine xg_t (xg_getf (va := (2, 3)) (hF34.get (by decide) h49_5) rfl) ?_
      refine xg_t (xg_getf (va := (2, 4)) (hF34.get (by decide) h3_16) rfl) ?_
      refine xg_t (xg_getf (va := (0, f4_17)) (hF34.get (by decide) h4_19) rfl) ?_
      by_cases hc37 : pl < f4_17
      · refine xg_t (xg_icF (u := pl) (v := f4_17) rfl xnm0 xnm0 (xj_geF hc37 (by omega))) ?_
        refine xg_t (xg_aload (va := (2, 49)) rfl rfl) ?_
        refine xg_cVv mX0_restWear (vs := []) (rest := []) (cn1 := 0) (sl1 := 0) rfl (bdRest (hI33)) rfl (hF34.get (by decide) h49_5) rfl rfl rfl rfl rfl rfl (fun w38 hq39 => ?_)
        obtain ⟨hI40, hF41⟩ := hq39
        refine xg_t (xg_const) ?_
        refine xg_t (xg_istore (l1 := [(0, (2, 49)), (1, (4, ti)), (3, (0, ro)), (4, (0, pl))]) rfl rfl rfl) ?_
        refine xg_t (xg_drop (l1 := [(0, (2, 49)), (1, (4, ti)), (3, (0, ro)), (4, (0, pl)), (5, (0, 0))]) (List.forall_mem_cons.mpr ⟨List.mem_cons_of_mem _ (List.mem_cons_self), List.forall_mem_cons.mpr ⟨List.mem_cons_of_mem _ (List.mem_cons_of_mem _ (List.mem_cons_self)), List.forall_mem_cons.mpr ⟨List.mem_cons_of_mem _ (List.mem_cons_of_mem _ (List.mem_cons_of_mem _ (List.mem_cons_self))), List.forall_mem_cons.mpr ⟨List.mem_cons_of_mem _ (List.mem_cons_of_mem _ (List.mem_cons_of_mem _ (List.mem_cons_of_mem _ (List.mem_cons_self)))), List.forall_mem_cons.mpr ⟨List.mem_cons_self, fun _ h => absurd h List.not_mem_nil⟩⟩⟩⟩⟩)) ?_
        have key42 : ∀ (m44 : Nat) (ki : Nat) (w45 : List (List xE)), 6 - ki < m44 → ki ≤ 6 → xInv w45 → xFr [56] w w45 → xTo (d + 3) mX0_breaksBehind (25, [], [(0, (2, 49)), (1, (4, ti)), (3, (0, ro)), (4, (0, pl)), (5, (0, ki))], [], (w45, bd, fc, 0, 0, rr)) (fun φ => ∃ n w', xEnd 4 [(0, n)] (w', bd, fc, 0, 0, rr) φ ∧ (n ≤ 1) ∧ xInv w' ∧ xFr [56] w w') := by
          intro m44
          induction m44 with
          | zero => intro ki w45 hz; exact absurd hz (Nat.not_lt_zero _)
          | succ m44 ih43 =>
            intro ki w45 hm49 hn48 hI46 hF47
            refine xg_t (xg_blq rfl) ?_
            refine xg_t (xg_iload (va := (0, ki)) rfl rfl) ?_
            refine xg_t (xg_aload (va := (2, 49)) rfl rfl) ?_
            refine xg_t (xg_getf (va := (2, 3)) (hF47.get (by decide) h49_5) rfl) ?_
            refine xg_t (xg_getf (va := (2, 8)) (hF47.get (by decide) h3_16) rfl) ?_
            refine xg_t (xg_getf (va := (0, f8_23)) (hF47.get (by decide) h8_25) rfl) ?_
            by_cases hc50 : ki < f8_23
            · refine xg_t (xg_icF (u := ki) (v := f8_23) rfl xnm0 xnm0 (xj_geF hc50 (by omega))) ?_
              refine xg_t (xg_aload (va := (2, 49)) rfl rfl) ?_
              refine xg_t (xg_iload (va := (0, pl)) rfl rfl) ?_
              refine xg_t (xg_aload (va := (2, 49)) rfl rfl) ?_
              refine xg_t (xg_getf (va := (2, 3)) (hF47.get (by decide) h49_5) rfl) ?_
              refine xg_t (xg_getf (va := (2, 8)) (hF47.get (by decide) h3_16) rfl) ?_
              refine xg_t (xg_iload (va := (0, ki)) rfl rfl) ?_
              refine xg_t (xg_const) ?_
              refine xg_k (xg_cVr mX5_get (vs := [(0, ki), (0, 0)]) (rest := [(0, pl), (2, 49)]) (rs := [(0, if ki < f8_23 ∧ 0 < 2 then g9_26 (ki * 2 + 0) else 4294967295), (0, pl), (2, 49)]) (cn1 := 0) (sl1 := 0) rfl (rget_ok (lim := 6) (wd := 2) (sz := f8_23) (hF47.get (by decide) h8_25) (h9_27.fr hF47 (by decide)) (by decide) (by omega) (by decide) (by decide) (by omega) (by omega)) rfl (hF47.get (by decide) h8_25) rfl rfl rfl rfl rfl rfl rfl) (xiteb (hb28)) (fun z51 hz52 => ?_)
              refine xg_kl (xg_i2l (u := z51) xnm0) (fun l53 => ?_)
              refine xg_t (xg_aload (va := (2, 49)) rfl rfl) ?_
              refine xg_t (xg_getf (va := (2, 3)) (hF47.get (by decide) h49_5) rfl) ?_
              refine xg_t (xg_getf (va := (2, 8)) (hF47.get (by decide) h3_16) rfl) ?_
              refine xg_t (xg_iload (va := (0, ki)) rfl rfl) ?_
              refine xg_t (xg_const) ?_
              refine xg_k (xg_cVr mX5_get (vs := [(0, ki), (0, 1)]) (rest := [(4, l53), (0, pl), (2, 49)]) (rs := [(0, if ki < f8_23 ∧ 1 < 2 then g9_26 (ki * 2 + 1) else 4294967295), (4, l53), (0, pl), (2, 49)]) (cn1 := 0) (sl1 := 0) rfl (rget_ok (lim := 6) (wd := 2) (sz := f8_23) (hF47.get (by decide) h8_25) (h9_27.fr hF47 (by decide)) (by decide) (by omega) (by decide) (by decide) (by omega) (by omega)) rfl (hF47.get (by decide) h8_25) rfl rfl rfl rfl rfl rfl rfl) (xiteb (hb28)) (fun z54 hz55 => ?_)
              refine xg_cVv mX0_wear (vs := [(0, pl), (4, l53), (0, z54)]) (rest := []) (cn1 := 0) (sl1 := 0) rfl (bdWear (hI46) (by omega) (by omega)) rfl (hF47.get (by decide) h49_5) rfl rfl rfl rfl rfl rfl (fun w56 hq57 => ?_)
              obtain ⟨hI58, hF59⟩ := hq57
              refine xg_t (xg_iinc (u := ki) (z := ki + 1) (l1 := [(0, (2, 49)), (1, (4, ti)), (3, (0, ro)), (4, (0, pl))]) rfl rfl (by omega) rfl) ?_
              refine xg_t (xg_goto) ?_
              refine xg_t (xg_drop (l1 := [(0, (2, 49)), (1, (4, ti)), (3, (0, ro)), (4, (0, pl)), (5, (0, ki + 1))]) (List.forall_mem_cons.mpr ⟨List.mem_cons_of_mem _ (List.mem_cons_self), List.forall_mem_cons.mpr ⟨List.mem_cons_of_mem _ (List.mem_cons_of_mem _ (List.mem_cons_self)), List.forall_mem_cons.mpr ⟨List.mem_cons_of_mem _ (List.mem_cons_of_mem _ (List.mem_cons_of_mem _ (List.mem_cons_self))), List.forall_mem_cons.mpr ⟨List.mem_cons_of_mem _ (List.mem_cons_of_mem _ (List.mem_cons_of_mem _ (List.mem_cons_of_mem _ (List.mem_cons_self)))), List.forall_mem_cons.mpr ⟨List.mem_cons_self, fun _ h => absurd h List.not_mem_nil⟩⟩⟩⟩⟩)) ?_
              exact ih43 (ki + 1) w56 (by omega) (by omega) (hI58) ((hF47.tr (hF59.up (by decide))))
            · refine xg_t (xg_icT (u := ki) (v := f8_23) rfl xnm0 xnm0 (xj_geT (by omega) (by omega))) ?_
              refine xg_t (xg_blq rfl) ?_
              refine xg_t (xg_aload (va := (2, 49)) rfl rfl) ?_
              refine xg_t (xg_iload (va := (0, pl)) rfl rfl) ?_
              refine xg_t (xg_lload (u := ti) rfl) ?_
              refine xg_t (xg_iload (va := (0, ro)) rfl rfl) ?_
              refine xg_cVv mX0_wear (vs := [(0, pl), (4, ti), (0, ro)]) (rest := []) (cn1 := 0) (sl1 := 0) rfl (bdWear (hI46) (by omega) (by omega)) rfl (hF47.get (by decide) h49_5) rfl rfl rfl rfl rfl rfl (fun w60 hq61 => ?_)
              obtain ⟨hI62, hF63⟩ := hq61
              refine xg_t (xg_aload (va := (2, 49)) rfl rfl) ?_
              refine xg_cVi mX0_isWornOut (vs := []) (rest := []) (cn1 := 0) (sl1 := 0) rfl (bdWorn (hI62)) rfl (hF63.get (by decide) (hF47.get (by decide) h49_5)) rfl rfl rfl rfl rfl rfl (fun n68 w64 hq65 => ?_)
              obtain ⟨hn69, hI66, hF67⟩ := hq65
              by_cases hc70 : n68 = 0
              · refine xg_t (xg_ifT (u := n68) rfl xnm0 (xj_eqT hc70)) ?_
                refine xg_t (xg_blq rfl) ?_
                refine xg_t (xg_iinc (u := pl) (z := pl + 1) (l1 := [(0, (2, 49)), (1, (4, ti)), (3, (0, ro)), (5, (0, ki))]) rfl rfl (by omega) rfl) ?_
                refine xg_t (xg_goto) ?_
                refine xg_t (xg_drop (l1 := [(0, (2, 49)), (1, (4, ti)), (3, (0, ro)), (4, (0, pl + 1))]) (List.forall_mem_cons.mpr ⟨List.mem_cons_of_mem _ (List.mem_cons_self), List.forall_mem_cons.mpr ⟨List.mem_cons_of_mem _ (List.mem_cons_of_mem _ (List.mem_cons_self)), List.forall_mem_cons.mpr ⟨List.mem_cons_of_mem _ (List.mem_cons_of_mem _ (List.mem_cons_of_mem _ (List.mem_cons_self))), List.forall_mem_cons.mpr ⟨List.mem_cons_self, fun _ h => absurd h List.not_mem_nil⟩⟩⟩⟩)) ?_
                exact ih30 (pl + 1) w64 (by omega) (by omega) (hI66) (((hF47.tr (hF63.up (by decide))).tr (hF67.up (by decide))))
              · refine xg_t (xg_ifF (u := n68) rfl xnm0 (xj_eqF hc70)) ?_
                refine xg_t (xg_const) ?_
                exact xg_e ⟨1, w64, ⟨rfl, rfl⟩, by first | decide | omega, hI66, ((hF47.tr (hF63.up (by decide))).tr (hF67.up (by decide)))⟩
        exact key42 _ 0 w38 (Nat.lt_succ_self _) (by omega) (hI40) ((hF34.tr (hF41.up (by decide))))
      · refine xg_t (xg_icT (u := pl) (v := f4_17) rfl xnm0 xnm0 (xj_geT (by omega) (by omega))) ?_
        refine xg_t (xg_blq rfl) ?_
        refine xg_t (xg_const) ?_
        exact xg_e ⟨0, w32, ⟨rfl, rfl⟩, by first | decide | omega, hI33, hF34⟩
  exact key29 _ 0 w (Nat.lt_succ_self _) (by omega) (hI) (xFr.rf)
end XBE
end
section
/-! Film: told and drafted -/
section XFM
variable {d : Nat} {w : List (List xE)} {bd : List (Nat × Nat)} {fc : List (Nat × Nat × Bool)} {rr : Nat × Nat}
theorem fmToldSlides (hI : xInv w)  : xPi (d + 1) mX1_slidesAnywhere [(2, 3)] w bd fc rr (fun n w' => (n ≤ 1) ∧ xInv w' ∧ xFr [] w w') := by
  refine xPi.of ?_
  show xTo (d + 1) mX1_slidesAnywhere (0, [], [(0, (2, 3))], [], (w, bd, fc, 0, 0, rr)) (fun φ => ∃ n w', xEnd 4 [(0, n)] (w', bd, fc, 0, 0, rr) φ ∧ (n ≤ 1) ∧ xInv w' ∧ xFr [] w w')
  refine xoC3 (xqc3 hI : cp3 (wget w 3)) (fun f3_1 f3_3 f3_5 f3_7 f3_9 h3_11 hb2 hb4 hb6 hb8 hb10 => ?_)
  obtain ⟨f4_12, h4_14, hb13⟩ := (xqc4 hI : cp4 (wget w 4))
  obtain ⟨f6_15, h6_17, hb16⟩ := (xqc6 hI : cp6 (wget w 6))
  obtain ⟨f8_18, h8_20, hb19⟩ := (xqc8 hI : cp8 (wget w 8))
  obtain ⟨f10_21, h10_23, hb22⟩ := (xqc10 hI : cp10 (wget w 10))
  obtain ⟨f12_24, h12_26, hb25⟩ := (xqc12 hI : cp12 (wget w 12))
  refine xg_t (xg_blq rfl) ?_
  refine xg_t (xg_const) ?_
  refine xg_t (xg_istore (l1 := [(0, (2, 3))]) rfl rfl rfl) ?_
  refine xg_t (xg_drop (l1 := [(0, (2, 3)), (1, (0, 0))]) (List.forall_mem_cons.mpr ⟨List.mem_cons_of_mem _ (List.mem_cons_self), List.forall_mem_cons.mpr ⟨List.mem_cons_self, fun _ h => absurd h List.not_mem_nil⟩⟩)) ?_
  have key27 : ∀ (m29 : Nat) (ki : Nat) (w30 : List (List xE)), 6 - ki < m29 → ki ≤ 6 → xInv w30 → xFr [] w w30 → xTo (d + 1) mX1_slidesAnywhere (2, [], [(0, (2, 3)), (1, (0, ki))], [], (w30, bd, fc, 0, 0, rr)) (fun φ => ∃ n w', xEnd 4 [(0, n)] (w', bd, fc, 0, 0, rr) φ ∧ (n ≤ 1) ∧ xInv w' ∧ xFr [] w w') := by
    intro m29
    induction m29 with
    | zero => intro ki w30 hz; exact absurd hz (Nat.not_lt_zero _)
    | succ m29 ih28 =>
      intro ki w30 hm34 hn33 hI31 hF32
      refine xg_t (xg_blq rfl) ?_
      refine xg_t (xg_iload (va := (0, ki)) rfl rfl) ?_
      refine xg_t (xg_const) ?_
      refine xg_t (xg_iadd (u := ki) (v := 1) (z := ki + 1) xnm0 xnm0 (by omega)) ?_
      refine xg_t (xg_aload (va := (2, 3)) rfl rfl) ?_
      refine xg_t (xg_getf (va := (2, 4)) (hF32.get (by decide) h3_11) rfl) ?_
      refine xg_t (xg_getf (va := (0, f4_12)) (hF32.get (by decide) h4_14) rfl) ?_
      by_cases hc35 : (ki + 1) < f4_12
      · refine xg_t (xg_icF (u := ki + 1) (v := f4_12) rfl xnm0 xnm0 (xj_geF hc35 (by omega))) ?_
        refine xg_t (xg_aload (va := (2, 3)) rfl rfl) ?_
        refine xg_t (xg_getf (va := (2, 4)) (hF32.get (by decide) h3_11) rfl) ?_
        refine xg_t (xg_iload (va := (0, ki)) rfl rfl) ?_
        refine xg_t (xg_const) ?_
        refine xoI (xqc5 hI31 : cpI 24 1 4294967295 (wget w30 5)) (fun g5_36 h5_37 hb38 => ?_)
        refine xg_k (xg_cVr mX5_get (vs := [(0, ki), (0, 3)]) (rest := []) (rs := [(0, if ki < f4_12 ∧ 3 < 4 then g5_36 (ki * 4 + 3) else 4294967295)]) (cn1 := 0) (sl1 := 0) rfl (rget_ok (lim := 6) (wd := 4) (sz := f4_12) (hF32.get (by decide) h4_14) h5_37 (by decide) (by omega) (by decide) (by decide) (by omega) (by omega)) rfl (hF32.get (by decide) h4_14) rfl rfl rfl rfl rfl rfl rfl) (xiteb (hb38)) (fun z39 hz40 => ?_)
        refine xg_t (xg_const) ?_
        by_cases hc41 : z39 = 1
        · refine xg_t (xg_icF (u := z39) (v := 1) rfl xnm0 xnm0 (xj_neF hc41)) ?_
          refine xg_t (xg_const) ?_
          exact xg_e ⟨1, w30, ⟨rfl, rfl⟩, by first | decide | omega, hI31, hF32⟩
        · refine xg_t (xg_icT (u := z39) (v := 1) rfl xnm0 xnm0 (xj_neT hc41)) ?_
          refine xg_t (xg_blq rfl) ?_
          refine xg_t (xg_iinc (u := ki) (z := ki + 1) (l1 := [(0, (2, 3))]) rfl rfl (by omega) rfl) ?_
          refine xg_t (xg_goto) ?_
          refine xg_t (xg_drop (l1 := [(0, (2, 3)), (1, (0, ki + 1))]) (List.forall_mem_cons.mpr ⟨List.mem_cons_of_mem _ (List.mem_cons_self), List.forall_mem_cons.mpr ⟨List.mem_cons_self, fun _ h => absurd h List.not_mem_nil⟩⟩)) ?_
          exact ih28 (ki + 1) w30 (by omega) (by omega) (hI31) (hF32)
      · refine xg_t (xg_icT (u := ki + 1) (v := f4_12) rfl xnm0 xnm0 (xj_geT (by omega) (by omega))) ?_
        refine xg_t (xg_blq rfl) ?_
        refine xg_t (xg_const) ?_
        exact xg_e ⟨0, w30, ⟨rfl, rfl⟩, by first | decide | omega, hI31, hF32⟩
  exact key27 _ 0 w (Nat.lt_succ_self _) (by omega) (hI) (xFr.rf)
end XFM
end
section
/-! the screens: calls, part one -/
section XSC
variable {d : Nat} {w : List (List xE)} {bd : List (Nat × Nat)} {fc : List (Nat × Nat × Bool)} {rr : Nat × Nat}
theorem isRound_ok {ro : Nat} (h : ro ≤ 4294967295) : xPr (d + 1) mX11_isRound [(0, ro)] w bd fc rr [(0, if 1 ≤ ro ∧ ro ≤ 9999 then 1 else 0)] w := by
  refine xPr.of ?_
  show xTo (d + 1) mX11_isRound (0, [], [(0, (0, ro))], [], (w, bd, fc, 0, 0, rr)) (xEnd 4 [(0, if 1 ≤ ro ∧ ro ≤ 9999 then 1 else 0)] (w, bd, fc, 0, 0, rr))
  refine xg_t (xg_blq rfl) ?_
  refine xg_t (xg_iload (va := (0, ro)) rfl rfl) ?_
  refine xg_t (xg_const) ?_
  refine xg_t (xg_sip) ?_
  refine xg_t (xg_cSr mX11_isIn (vs := [(0, ro), (0, 1), (0, 9999)]) (rest := []) (rs := [(0, if 1 ≤ ro ∧ ro ≤ 9999 then 1 else 0)]) (cn1 := 0) (sl1 := 0) rfl (isIn_ok (by omega) (by omega) (by omega)) rfl rfl rfl rfl rfl rfl rfl rfl) ?_
  exact xg_e ⟨xret_b (by split <;> omega), rfl⟩
theorem scHasPoint {ro co : Nat} (hI : xInv w) (hro : ro ≤ 4294967295) (hco : co ≤ 4294967295) : xPi (d + 1) mX11_hasPoint [(2, 0), (0, ro), (0, co)] w bd fc rr (fun n w' => (n ≤ 1 ∧ (n = 0 ∨ (ro ≤ 5 ∧ co ≤ 5))) ∧ xInv w' ∧ xFr [] w w') := by
  refine xPi.of ?_
  show xTo (d + 1) mX11_hasPoint (0, [], [(0, (2, 0)), (1, (0, ro)), (2, (0, co))], [], (w, bd, fc, 0, 0, rr)) (fun φ => ∃ n w', xEnd 4 [(0, n)] (w', bd, fc, 0, 0, rr) φ ∧ (n ≤ 1 ∧ (n = 0 ∨ (ro ≤ 5 ∧ co ≤ 5))) ∧ xInv w' ∧ xFr [] w w')
  have h0_1 := (xqc0 hI : cp0 (wget w 0))
  refine xoC1 (xqc1 hI : cp1 (wget w 1)) (fun f1_2 f1_4 f1_6 f1_8 f1_10 f1_12 h1_14 hb3 hb5 hb7 hb9 hb11 hb13 => ?_)
  refine xoC3 (xqc3 hI : cp3 (wget w 3)) (fun f3_15 f3_17 f3_19 f3_21 f3_23 h3_25 hb16 hb18 hb20 hb22 hb24 => ?_)
  refine xg_t (xg_blq rfl) ?_
  refine xg_t (xg_iload (va := (0, ro)) rfl rfl) ?_
  by_cases hc26 : ro < 2147483648
  · refine xg_t (xg_ifF (u := ro) rfl xnm0 (xjz_ltF hc26)) ?_
    refine xg_t (xg_iload (va := (0, ro)) rfl rfl) ?_
    refine xg_t (xg_aload (va := (2, 0)) rfl rfl) ?_
    refine xg_t (xg_getf (va := (2, 1)) h0_1 rfl) ?_
    refine xg_t (xg_getf (va := (2, 3)) h1_14 rfl) ?_
    refine xg_t (xg_getf (va := (0, f3_19)) h3_25 rfl) ?_
    by_cases hc27 : ro < f3_19
    · refine xg_t (xg_icF (u := ro) (v := f3_19) rfl xnm0 xnm0 (xj_geF hc27 (by omega))) ?_
      refine xg_t (xg_iload (va := (0, co)) rfl rfl) ?_
      by_cases hc28 : co < 2147483648
      · refine xg_t (xg_ifF (u := co) rfl xnm0 (xjz_ltF hc28)) ?_
        refine xg_t (xg_iload (va := (0, co)) rfl rfl) ?_
        refine xg_t (xg_aload (va := (2, 0)) rfl rfl) ?_
        refine xg_t (xg_getf (va := (2, 1)) h0_1 rfl) ?_
        refine xg_t (xg_getf (va := (2, 3)) h1_14 rfl) ?_
        refine xg_t (xg_getf (va := (0, f3_21)) h3_25 rfl) ?_
        by_cases hc29 : co < f3_21
        · refine xg_t (xg_icF (u := co) (v := f3_21) rfl xnm0 xnm0 (xj_geF hc29 (by omega))) ?_
          refine xg_t (xg_const) ?_
          refine xg_t (xg_goto) ?_
          refine xg_t (xg_blq rfl) ?_
          exact xg_e ⟨1, w, ⟨rfl, rfl⟩, by first | decide | omega, hI, xFr.rf⟩
        · refine xg_t (xg_icT (u := co) (v := f3_21) rfl xnm0 xnm0 (xj_geT (by omega) (by omega))) ?_
          refine xg_t (xg_blq rfl) ?_
          refine xg_t (xg_const) ?_
          refine xg_t (xg_blq rfl) ?_
          exact xg_e ⟨0, w, ⟨rfl, rfl⟩, by first | decide | omega, hI, xFr.rf⟩
      · refine xg_t (xg_ifT (u := co) rfl xnm0 (xjz_ltT (by omega) (by omega))) ?_
        refine xg_t (xg_blq rfl) ?_
        refine xg_t (xg_const) ?_
        refine xg_t (xg_blq rfl) ?_
        exact xg_e ⟨0, w, ⟨rfl, rfl⟩, by first | decide | omega, hI, xFr.rf⟩
    · refine xg_t (xg_icT (u := ro) (v := f3_19) rfl xnm0 xnm0 (xj_geT (by omega) (by omega))) ?_
      refine xg_t (xg_blq rfl) ?_
      refine xg_t (xg_const) ?_
      refine xg_t (xg_blq rfl) ?_
      exact xg_e ⟨0, w, ⟨rfl, rfl⟩, by first | decide | omega, hI, xFr.rf⟩
  · refine xg_t (xg_ifT (u := ro) rfl xnm0 (xjz_ltT (by omega) (by omega))) ?_
    refine xg_t (xg_blq rfl) ?_
    refine xg_t (xg_const) ?_
    refine xg_t (xg_blq rfl) ?_
    exact xg_e ⟨0, w, ⟨rfl, rfl⟩, by first | decide | omega, hI, xFr.rf⟩
theorem scHasPart {ra ro co : Nat} (hI : xInv w) (hra : ra ≤ 1) (hro : ro ≤ 4294967295) (hco : co ≤ 4294967295) : xPi (d + 2) mX11_hasPart [(2, 0), (0, ra), (0, ro), (0, co)] w bd fc rr (fun n w' => (n ≤ 1 ∧ (n = 0 ∨ (ro ≤ 5 ∧ co ≤ 5))) ∧ xInv w' ∧ xFr [] w w') := by
  refine xPi.of ?_
  show xTo (d + 2) mX11_hasPart (0, [], [(0, (2, 0)), (1, (0, ra)), (2, (0, ro)), (3, (0, co))], [], (w, bd, fc, 0, 0, rr)) (fun φ => ∃ n w', xEnd 4 [(0, n)] (w', bd, fc, 0, 0, rr) φ ∧ (n ≤ 1 ∧ (n = 0 ∨ (ro ≤ 5 ∧ co ≤ 5))) ∧ xInv w' ∧ xFr [] w w')
  have h0_1 := (xqc0 hI : cp0 (wget w 0))
  refine xoC1 (xqc1 hI : cp1 (wget w 1)) (fun f1_2 f1_4 f1_6 f1_8 f1_10 f1_12 h1_14 hb3 hb5 hb7 hb9 hb11 hb13 => ?_)
  refine xoC3 (xqc3 hI : cp3 (wget w 3)) (fun f3_15 f3_17 f3_19 f3_21 f3_23 h3_25 hb16 hb18 hb20 hb22 hb24 => ?_)
  refine xg_t (xg_blq rfl) ?_
  refine xg_t (xg_iload (va := (0, ra)) rfl rfl) ?_
  by_cases hc26 : ra = 0
  · refine xg_t (xg_ifT (u := ra) rfl xnm0 (xj_eqT hc26)) ?_
    refine xg_t (xg_blq rfl) ?_
    refine xg_t (xg_aload (va := (2, 0)) rfl rfl) ?_
    refine xg_t (xg_iload (va := (0, ro)) rfl rfl) ?_
    refine xg_t (xg_iload (va := (0, co)) rfl rfl) ?_
    refine xg_cVi mX11_hasPoint (vs := [(0, ro), (0, co)]) (rest := []) (cn1 := 0) (sl1 := 0) rfl (scHasPoint (hI) (by omega) (by omega)) rfl h0_1 rfl rfl rfl rfl rfl rfl (fun n31 w27 hq28 => ?_)
    obtain ⟨hn32, hI29, hF30⟩ := hq28
    by_cases hc33 : n31 = 0
    · refine xg_t (xg_ifT (u := n31) rfl xnm0 (xj_eqT hc33)) ?_
      refine xg_t (xg_blq rfl) ?_
      refine xg_t (xg_const) ?_
      refine xg_t (xg_blq rfl) ?_
      exact xg_e ⟨0, w27, ⟨rfl, rfl⟩, by first | decide | omega, hI29, (hF30.up (by decide))⟩
    · refine xg_t (xg_ifF (u := n31) rfl xnm0 (xj_eqF hc33)) ?_
      refine xg_t (xg_iload (va := (0, co)) rfl rfl) ?_
      refine xg_t (xg_const) ?_
      refine xg_t (xg_iadd (u := co) (v := 1) (z := co + 1) xnm0 xnm0 (by omega)) ?_
      refine xg_t (xg_aload (va := (2, 0)) rfl rfl) ?_
      refine xg_t (xg_getf (va := (2, 1)) (hF30.get (by decide) h0_1) rfl) ?_
      refine xg_t (xg_getf (va := (2, 3)) (hF30.get (by decide) h1_14) rfl) ?_
      refine xg_t (xg_getf (va := (0, f3_21)) (hF30.get (by decide) h3_25) rfl) ?_
      by_cases hc34 : (co + 1) < f3_21
      · refine xg_t (xg_icF (u := co + 1) (v := f3_21) rfl xnm0 xnm0 (xj_geF hc34 (by omega))) ?_
        refine xg_t (xg_const) ?_
        refine xg_t (xg_goto) ?_
        refine xg_t (xg_blq rfl) ?_
        exact xg_e ⟨1, w27, ⟨rfl, rfl⟩, by first | decide | omega, hI29, (hF30.up (by decide))⟩
      · refine xg_t (xg_icT (u := co + 1) (v := f3_21) rfl xnm0 xnm0 (xj_geT (by omega) (by omega))) ?_
        refine xg_t (xg_blq rfl) ?_
        refine xg_t (xg_const) ?_
        refine xg_t (xg_blq rfl) ?_
        exact xg_e ⟨0, w27, ⟨rfl, rfl⟩, by first | decide | omega, hI29, (hF30.up (by decide))⟩
  · refine xg_t (xg_ifF (u := ra) rfl xnm0 (xj_eqF hc26)) ?_
    refine xg_t (xg_aload (va := (2, 0)) rfl rfl) ?_
    refine xg_t (xg_iload (va := (0, ro)) rfl rfl) ?_
    refine xg_t (xg_iload (va := (0, co)) rfl rfl) ?_
    refine xg_cVi mX11_hasPoint (vs := [(0, ro), (0, co)]) (rest := []) (cn1 := 0) (sl1 := 0) rfl (scHasPoint (hI) (by omega) (by omega)) rfl h0_1 rfl rfl rfl rfl rfl rfl (fun n39 w35 hq36 => ?_)
    obtain ⟨hn40, hI37, hF38⟩ := hq36
    by_cases hc41 : n39 = 0
    · refine xg_t (xg_ifT (u := n39) rfl xnm0 (xj_eqT hc41)) ?_
      refine xg_t (xg_blq rfl) ?_
      refine xg_t (xg_const) ?_
      refine xg_t (xg_goto) ?_
      refine xg_t (xg_blq rfl) ?_
      exact xg_e ⟨0, w35, ⟨rfl, rfl⟩, by first | decide | omega, hI37, (hF38.up (by decide))⟩
    · refine xg_t (xg_ifF (u := n39) rfl xnm0 (xj_eqF hc41)) ?_
      refine xg_t (xg_iload (va := (0, ro)) rfl rfl) ?_
      refine xg_t (xg_const) ?_
      refine xg_t (xg_iadd (u := ro) (v := 1) (z := ro + 1) xnm0 xnm0 (by omega)) ?_
      refine xg_t (xg_aload (va := (2, 0)) rfl rfl) ?_
      refine xg_t (xg_getf (va := (2, 1)) (hF38.get (by decide) h0_1) rfl) ?_
      refine xg_t (xg_getf (va := (2, 3)) (hF38.get (by decide) h1_14) rfl) ?_
      refine xg_t (xg_getf (va := (0, f3_19)) (hF38.get (by decide) h3_25) rfl) ?_
      by_cases hc42 : (ro + 1) < f3_19
      · refine xg_t (xg_icF (u := ro + 1) (v := f3_19) rfl xnm0 xnm0 (xj_geF hc42 (by omega))) ?_
        refine xg_t (xg_const) ?_
        refine xg_t (xg_goto) ?_
        refine xg_t (xg_blq rfl) ?_
        exact xg_e ⟨1, w35, ⟨rfl, rfl⟩, by first | decide | omega, hI37, (hF38.up (by decide))⟩
      · refine xg_t (xg_icT (u := ro + 1) (v := f3_19) rfl xnm0 xnm0 (xj_geT (by omega) (by omega))) ?_
        refine xg_t (xg_blq rfl) ?_
        refine xg_t (xg_const) ?_
        refine xg_t (xg_goto) ?_
        refine xg_t (xg_blq rfl) ?_
        exact xg_e ⟨0, w35, ⟨rfl, rfl⟩, by first | decide | omega, hI37, (hF38.up (by decide))⟩
theorem scFault {wh : Nat} (hI : xInv w) (hwh : wh ≤ 4294967295) : xPi (d + 1) mX11_fault [(2, 0), (0, wh)] w bd fc rr (fun n w' => (n ≤ 4294967295) ∧ xInv w' ∧ xFr [] w w') := by
  refine xPi.of ?_
  show xTo (d + 1) mX11_fault (0, [], [(0, (2, 0)), (1, (0, wh))], [], (w, bd, fc, 0, 0, rr)) (fun φ => ∃ n w', xEnd 1 [(0, n)] (w', bd, fc, 0, 0, rr) φ ∧ (n ≤ 4294967295) ∧ xInv w' ∧ xFr [] w w')
  refine xg_t (xg_blq rfl) ?_
  refine xg_t (xg_iload (va := (0, wh)) rfl rfl) ?_
  by_cases hc1 : wh = 0
  · refine xg_t (xg_swt (ks := [(0, 28), (1, 36)]) (u := wh) (z := 28) rfl rfl rfl xnm0 (xsw_y hc1)) ?_
    refine xg_t (xg_blq rfl) ?_
    refine xg_t (xg_aload (va := (2, 0)) rfl rfl) ?_
    have h0_2 := (xqc0 hI : cp0 (wget w 0))
    refine xg_t (xg_getf (va := (2, 1)) h0_2 rfl) ?_
    refine xoC1 (xqc1 hI : cp1 (wget w 1)) (fun f1_3 f1_5 f1_7 f1_9 f1_11 f1_13 h1_15 hb4 hb6 hb8 hb10 hb12 hb14 => ?_)
    refine xg_t (xg_getf (va := (0, f1_5)) h1_15 rfl) ?_
    exact xg_e ⟨f1_5, w, ⟨rfl, rfl⟩, by omega, hI, xFr.rf⟩
  · by_cases hc16 : wh = 1
    · refine xg_t (xg_swt (ks := [(0, 28), (1, 36)]) (u := wh) (z := 36) rfl rfl rfl xnm0 (xsw_n hc1 (xsw_y hc16))) ?_
      refine xg_t (xg_blq rfl) ?_
      refine xg_t (xg_aload (va := (2, 0)) rfl rfl) ?_
      have h0_17 := (xqc0 hI : cp0 (wget w 0))
      refine xg_t (xg_getf (va := (2, 1)) h0_17 rfl) ?_
      refine xoC1 (xqc1 hI : cp1 (wget w 1)) (fun f1_18 f1_20 f1_22 f1_24 f1_26 f1_28 h1_30 hb19 hb21 hb23 hb25 hb27 hb29 => ?_)
      refine xg_t (xg_getf (va := (0, f1_22)) h1_30 rfl) ?_
      exact xg_e ⟨f1_22, w, ⟨rfl, rfl⟩, by omega, hI, xFr.rf⟩
    · refine xg_t (xg_swt (ks := [(0, 28), (1, 36)]) (u := wh) (z := 44) rfl rfl rfl xnm0 (xsw_n hc1 (xsw_n hc16 (xsw_d)))) ?_
      refine xg_t (xg_blq rfl) ?_
      refine xg_t (xg_const) ?_
      exact xg_e ⟨4294967295, w, ⟨rfl, rfl⟩, by first | decide | omega, hI, xFr.rf⟩
theorem scNeutral {la : Nat} (hI : xInv w) (hla : la ≤ 4294967295) : xPi (d + 4) mX11_neutral [(2, 0), (0, la)] w bd fc rr (fun n w' => (n ≤ 4294967295) ∧ xInv w' ∧ xFr [50, 51, 52, 53, 54, 55] w w') := by
  refine xPi.of ?_
  show xTo (d + 4) mX11_neutral (0, [], [(0, (2, 0)), (1, (0, la))], [], (w, bd, fc, 0, 0, rr)) (fun φ => ∃ n w', xEnd 1 [(0, n)] (w', bd, fc, 0, 0, rr) φ ∧ (n ≤ 4294967295) ∧ xInv w' ∧ xFr [50, 51, 52, 53, 54, 55] w w')
  have h0_1 := (xqc0 hI : cp0 (wget w 0))
  refine xoC1 (xqc1 hI : cp1 (wget w 1)) (fun f1_2 f1_4 f1_6 f1_8 f1_10 f1_12 h1_14 hb3 hb5 hb7 hb9 hb11 hb13 => ?_)
  refine xoC3 (xqc3 hI : cp3 (wget w 3)) (fun f3_15 f3_17 f3_19 f3_21 f3_23 h3_25 hb16 hb18 hb20 hb22 hb24 => ?_)
  obtain ⟨f4_26, h4_28, hb27⟩ := (xqc4 hI : cp4 (wget w 4))
  refine xoI (xqc5 hI : cpI 24 1 4294967295 (wget w 5)) (fun g5_29 h5_30 hb31 => ?_)
  refine xg_t (xg_blq rfl) ?_
  refine xg_t (xg_aload (va := (2, 0)) rfl rfl) ?_
  refine xg_t (xg_getf (va := (2, 1)) h0_1 rfl) ?_
  refine xg_t (xg_getf (va := (2, 3)) h1_14 rfl) ?_
  refine xg_t (xg_getf (va := (2, 4)) h3_25 rfl) ?_
  refine xg_t (xg_iload (va := (0, la)) rfl rfl) ?_
  refine xg_t (xg_cVr mX5_has (vs := [(0, la)]) (rest := []) (rs := [(0, if la < f4_26 then 1 else 0)]) (cn1 := 0) (sl1 := 0) rfl (rhas_ok h4_28 (by decide) (by omega) (by omega)) rfl h4_28 rfl rfl rfl rfl rfl rfl rfl) ?_
  by_cases hc32 : la < f4_26
  · refine xg_t (xg_ifT (u := (if la < f4_26 then 1 else 0)) rfl xnm0 (xj_neT (xite1 hc32))) ?_
    refine xg_t (xg_blq rfl) ?_
    refine xg_t (xg_aload (va := (2, 0)) rfl rfl) ?_
    refine xg_t (xg_getf (va := (2, 49)) h0_1 rfl) ?_
    refine xoC49 (xqc49 hI : cp49 (wget w 49)) (fun f49_33 f49_35 h49_37 hb34 hb36 => ?_)
    refine xg_cVv mX0_layAsTold (vs := []) (rest := []) (cn1 := 0) (sl1 := 0) rfl (bdLayAsTold (hI)) rfl h49_37 rfl rfl rfl rfl rfl rfl (fun w38 hq39 => ?_)
    obtain ⟨hI40, hF41⟩ := hq39
    refine xg_t (xg_aload (va := (2, 0)) rfl rfl) ?_
    refine xg_t (xg_getf (va := (2, 49)) (hF41.get (by decide) h0_1) rfl) ?_
    refine xg_t (xg_iload (va := (0, la)) rfl rfl) ?_
    refine xg_cVi mX0_neutralThousandths (vs := [(0, la)]) (rest := []) (cn1 := 0) (sl1 := 0) rfl (bdNeutral (hI40) (by omega)) rfl (hF41.get (by decide) h49_37) rfl rfl rfl rfl rfl rfl (fun n46 w42 hq43 => ?_)
    obtain ⟨hn47, hI44, hF45⟩ := hq43
    exact xg_e ⟨n46, w42, ⟨rfl, rfl⟩, by omega, hI44, ((hF41.up (by decide)).tr (hF45.up (by decide)))⟩
  · refine xg_t (xg_ifF (u := (if la < f4_26 then 1 else 0)) rfl xnm0 (xj_neF (xite0 hc32))) ?_
    refine xg_t (xg_const) ?_
    exact xg_e ⟨4294967295, w, ⟨rfl, rfl⟩, by first | decide | omega, hI, xFr.rf⟩
theorem scStretch {la ro : Nat} (hI : xInv w) (hla : la ≤ 4294967295) (hro : ro ≤ 4294967295) : xPi (d + 4) mX11_stretch [(2, 0), (0, la), (0, ro)] w bd fc rr (fun n w' => (n ≤ 4294967295) ∧ xInv w' ∧ xFr [50, 51, 52, 53, 54, 55] w w') := by
  refine xPi.of ?_
  show xTo (d + 4) mX11_stretch (0, [], [(0, (2, 0)), (1, (0, la)), (2, (0, ro))], [], (w, bd, fc, 0, 0, rr)) (fun φ => ∃ n w', xEnd 1 [(0, n)] (w', bd, fc, 0, 0, rr) φ ∧ (n ≤ 4294967295) ∧ xInv w' ∧ xFr [50, 51, 52, 53, 54, 55] w w')
  have h0_1 := (xqc0 hI : cp0 (wget w 0))
  refine xoC1 (xqc1 hI : cp1 (wget w 1)) (fun f1_2 f1_4 f1_6 f1_8 f1_10 f1_12 h1_14 hb3 hb5 hb7 hb9 hb11 hb13 => ?_)
  refine xoC3 (xqc3 hI : cp3 (wget w 3)) (fun f3_15 f3_17 f3_19 f3_21 f3_23 h3_25 hb16 hb18 hb20 hb22 hb24 => ?_)
  obtain ⟨f4_26, h4_28, hb27⟩ := (xqc4 hI : cp4 (wget w 4))
  refine xoI (xqc5 hI : cpI 24 1 4294967295 (wget w 5)) (fun g5_29 h5_30 hb31 => ?_)
  refine xg_t (xg_blq rfl) ?_
  refine xg_t (xg_aload (va := (2, 0)) rfl rfl) ?_
  refine xg_t (xg_getf (va := (2, 1)) h0_1 rfl) ?_
  refine xg_t (xg_getf (va := (2, 3)) h1_14 rfl) ?_
  refine xg_t (xg_getf (va := (2, 4)) h3_25 rfl) ?_
  refine xg_t (xg_iload (va := (0, la)) rfl rfl) ?_
  refine xg_t (xg_cVr mX5_has (vs := [(0, la)]) (rest := []) (rs := [(0, if la < f4_26 then 1 else 0)]) (cn1 := 0) (sl1 := 0) rfl (rhas_ok h4_28 (by decide) (by omega) (by omega)) rfl h4_28 rfl rfl rfl rfl rfl rfl rfl) ?_
  by_cases hc32 : la < f4_26
  · refine xg_t (xg_ifF (u := (if la < f4_26 then 1 else 0)) rfl xnm0 (xj_eqF (xite1 hc32))) ?_
    refine xg_t (xg_iload (va := (0, ro)) rfl rfl) ?_
    refine xg_t (xg_cSr mX11_isRound (vs := [(0, ro)]) (rest := []) (rs := [(0, if 1 ≤ ro ∧ ro ≤ 9999 then 1 else 0)]) (cn1 := 0) (sl1 := 0) rfl (isRound_ok (by omega)) rfl rfl rfl rfl rfl rfl rfl rfl) ?_
    by_cases hc33 : 1 ≤ ro ∧ ro ≤ 9999
    · refine xg_t (xg_ifT (u := (if 1 ≤ ro ∧ ro ≤ 9999 then 1 else 0)) rfl xnm0 (xj_neT (xite1 hc33))) ?_
      refine xg_t (xg_blq rfl) ?_
      refine xg_t (xg_aload (va := (2, 0)) rfl rfl) ?_
      refine xg_t (xg_getf (va := (2, 49)) h0_1 rfl) ?_
      refine xoC49 (xqc49 hI : cp49 (wget w 49)) (fun f49_34 f49_36 h49_38 hb35 hb37 => ?_)
      refine xg_cVv mX0_layAsTold (vs := []) (rest := []) (cn1 := 0) (sl1 := 0) rfl (bdLayAsTold (hI)) rfl h49_38 rfl rfl rfl rfl rfl rfl (fun w39 hq40 => ?_)
      obtain ⟨hI41, hF42⟩ := hq40
      refine xg_t (xg_aload (va := (2, 0)) rfl rfl) ?_
      refine xg_t (xg_getf (va := (2, 49)) (hF42.get (by decide) h0_1) rfl) ?_
      refine xg_t (xg_iload (va := (0, la)) rfl rfl) ?_
      refine xg_t (xg_iload (va := (0, ro)) rfl rfl) ?_
      refine xg_cVi mX0_stretchMillionths (vs := [(0, la), (0, ro)]) (rest := []) (cn1 := 0) (sl1 := 0) rfl (bdStretch (hI41) (by omega) (by omega)) rfl (hF42.get (by decide) h49_38) rfl rfl rfl rfl rfl rfl (fun n47 w43 hq44 => ?_)
      obtain ⟨hn48, hI45, hF46⟩ := hq44
      exact xg_e ⟨n47, w43, ⟨rfl, rfl⟩, by omega, hI45, ((hF42.up (by decide)).tr (hF46.up (by decide)))⟩
    · refine xg_t (xg_ifF (u := (if 1 ≤ ro ∧ ro ≤ 9999 then 1 else 0)) rfl xnm0 (xj_neF (xite0 hc33))) ?_
      refine xg_t (xg_blq rfl) ?_
      refine xg_t (xg_ldc) ?_
      exact xg_e ⟨2294967296, w, ⟨rfl, rfl⟩, by first | decide | omega, hI, xFr.rf⟩
  · refine xg_t (xg_ifT (u := (if la < f4_26 then 1 else 0)) rfl xnm0 (xj_eqT (xite0 hc32))) ?_
    refine xg_t (xg_blq rfl) ?_
    refine xg_t (xg_ldc) ?_
    exact xg_e ⟨2294967296, w, ⟨rfl, rfl⟩, by first | decide | omega, hI, xFr.rf⟩
theorem scBears {la ro : Nat} (hI : xInv w) (hla : la ≤ 4294967295) (hro : ro ≤ 4294967295) : xPi (d + 4) mX11_bears [(2, 0), (0, la), (0, ro)] w bd fc rr (fun n w' => (n ≤ 1) ∧ xInv w' ∧ xFr [50, 51, 52, 53, 54, 55] w w') := by
  refine xPi.of ?_
  show xTo (d + 4) mX11_bears (0, [], [(0, (2, 0)), (1, (0, la)), (2, (0, ro))], [], (w, bd, fc, 0, 0, rr)) (fun φ => ∃ n w', xEnd 4 [(0, n)] (w', bd, fc, 0, 0, rr) φ ∧ (n ≤ 1) ∧ xInv w' ∧ xFr [50, 51, 52, 53, 54, 55] w w')
  have h0_1 := (xqc0 hI : cp0 (wget w 0))
  refine xoC1 (xqc1 hI : cp1 (wget w 1)) (fun f1_2 f1_4 f1_6 f1_8 f1_10 f1_12 h1_14 hb3 hb5 hb7 hb9 hb11 hb13 => ?_)
  refine xoC3 (xqc3 hI : cp3 (wget w 3)) (fun f3_15 f3_17 f3_19 f3_21 f3_23 h3_25 hb16 hb18 hb20 hb22 hb24 => ?_)
  obtain ⟨f4_26, h4_28, hb27⟩ := (xqc4 hI : cp4 (wget w 4))
  refine xoI (xqc5 hI : cpI 24 1 4294967295 (wget w 5)) (fun g5_29 h5_30 hb31 => ?_)
  refine xg_t (xg_blq rfl) ?_
  refine xg_t (xg_aload (va := (2, 0)) rfl rfl) ?_
  refine xg_t (xg_getf (va := (2, 1)) h0_1 rfl) ?_
  refine xg_t (xg_getf (va := (2, 3)) h1_14 rfl) ?_
  refine xg_t (xg_getf (va := (2, 4)) h3_25 rfl) ?_
  refine xg_t (xg_iload (va := (0, la)) rfl rfl) ?_
  refine xg_t (xg_cVr mX5_has (vs := [(0, la)]) (rest := []) (rs := [(0, if la < f4_26 then 1 else 0)]) (cn1 := 0) (sl1 := 0) rfl (rhas_ok h4_28 (by decide) (by omega) (by omega)) rfl h4_28 rfl rfl rfl rfl rfl rfl rfl) ?_
  by_cases hc32 : la < f4_26
  · refine xg_t (xg_ifF (u := (if la < f4_26 then 1 else 0)) rfl xnm0 (xj_eqF (xite1 hc32))) ?_
    refine xg_t (xg_iload (va := (0, ro)) rfl rfl) ?_
    refine xg_t (xg_cSr mX11_isRound (vs := [(0, ro)]) (rest := []) (rs := [(0, if 1 ≤ ro ∧ ro ≤ 9999 then 1 else 0)]) (cn1 := 0) (sl1 := 0) rfl (isRound_ok (by omega)) rfl rfl rfl rfl rfl rfl rfl rfl) ?_
    by_cases hc33 : 1 ≤ ro ∧ ro ≤ 9999
    · refine xg_t (xg_ifT (u := (if 1 ≤ ro ∧ ro ≤ 9999 then 1 else 0)) rfl xnm0 (xj_neT (xite1 hc33))) ?_
      refine xg_t (xg_blq rfl) ?_
      refine xg_t (xg_aload (va := (2, 0)) rfl rfl) ?_
      refine xg_t (xg_getf (va := (2, 49)) h0_1 rfl) ?_
      refine xoC49 (xqc49 hI : cp49 (wget w 49)) (fun f49_34 f49_36 h49_38 hb35 hb37 => ?_)
      refine xg_cVv mX0_layAsTold (vs := []) (rest := []) (cn1 := 0) (sl1 := 0) rfl (bdLayAsTold (hI)) rfl h49_38 rfl rfl rfl rfl rfl rfl (fun w39 hq40 => ?_)
      obtain ⟨hI41, hF42⟩ := hq40
      refine xg_t (xg_aload (va := (2, 0)) rfl rfl) ?_
      refine xg_t (xg_getf (va := (2, 49)) (hF42.get (by decide) h0_1) rfl) ?_
      refine xg_t (xg_iload (va := (0, la)) rfl rfl) ?_
      refine xg_t (xg_iload (va := (0, ro)) rfl rfl) ?_
      refine xg_cVi mX0_canBear (vs := [(0, la), (0, ro)]) (rest := []) (cn1 := 0) (sl1 := 0) rfl (bdCanBear (hI41) (by omega) (by omega)) rfl (hF42.get (by decide) h49_38) rfl rfl rfl rfl rfl rfl (fun n47 w43 hq44 => ?_)
      obtain ⟨hn48, hI45, hF46⟩ := hq44
      exact xg_e ⟨n47, w43, ⟨xret_b (by omega), rfl⟩, by omega, hI45, ((hF42.up (by decide)).tr (hF46.up (by decide)))⟩
    · refine xg_t (xg_ifF (u := (if 1 ≤ ro ∧ ro ≤ 9999 then 1 else 0)) rfl xnm0 (xj_neF (xite0 hc33))) ?_
      refine xg_t (xg_blq rfl) ?_
      refine xg_t (xg_const) ?_
      exact xg_e ⟨0, w, ⟨rfl, rfl⟩, by first | decide | omega, hI, xFr.rf⟩
  · refine xg_t (xg_ifT (u := (if la < f4_26 then 1 else 0)) rfl xnm0 (xj_eqT (xite0 hc32))) ?_
    refine xg_t (xg_blq rfl) ?_
    refine xg_t (xg_const) ?_
    exact xg_e ⟨0, w, ⟨rfl, rfl⟩, by first | decide | omega, hI, xFr.rf⟩
theorem scLeast (hI : xInv w)  : xPi (d + 4) mX11_least [(2, 0)] w bd fc rr (fun n w' => (n ≤ 4294967295) ∧ xInv w' ∧ xFr [50, 51, 52, 53, 54, 55] w w') := by
  refine xPi.of ?_
  show xTo (d + 4) mX11_least (0, [], [(0, (2, 0))], [], (w, bd, fc, 0, 0, rr)) (fun φ => ∃ n w', xEnd 1 [(0, n)] (w', bd, fc, 0, 0, rr) φ ∧ (n ≤ 4294967295) ∧ xInv w' ∧ xFr [50, 51, 52, 53, 54, 55] w w')
  have h0_1 := (xqc0 hI : cp0 (wget w 0))
  refine xoC1 (xqc1 hI : cp1 (wget w 1)) (fun f1_2 f1_4 f1_6 f1_8 f1_10 f1_12 h1_14 hb3 hb5 hb7 hb9 hb11 hb13 => ?_)
  refine xoC3 (xqc3 hI : cp3 (wget w 3)) (fun f3_15 f3_17 f3_19 f3_21 f3_23 h3_25 hb16 hb18 hb20 hb22 hb24 => ?_)
  obtain ⟨f4_26, h4_28, hb27⟩ := (xqc4 hI : cp4 (wget w 4))
  refine xoI (xqc5 hI : cpI 24 1 4294967295 (wget w 5)) (fun g5_29 h5_30 hb31 => ?_)
  refine xg_t (xg_blq rfl) ?_
  refine xg_t (xg_aload (va := (2, 0)) rfl rfl) ?_
  refine xg_t (xg_getf (va := (2, 1)) h0_1 rfl) ?_
  refine xg_t (xg_getf (va := (2, 3)) h1_14 rfl) ?_
  refine xg_t (xg_getf (va := (2, 4)) h3_25 rfl) ?_
  refine xg_t (xg_getf (va := (0, f4_26)) h4_28 rfl) ?_
  by_cases hc32 : f4_26 = 0
  · refine xg_t (xg_ifF (u := f4_26) rfl xnm0 (xj_neF hc32)) ?_
    refine xg_t (xg_const) ?_
    exact xg_e ⟨4294967295, w, ⟨rfl, rfl⟩, by first | decide | omega, hI, xFr.rf⟩
  · refine xg_t (xg_ifT (u := f4_26) rfl xnm0 (xj_neT hc32)) ?_
    refine xg_t (xg_blq rfl) ?_
    refine xg_t (xg_aload (va := (2, 0)) rfl rfl) ?_
    refine xg_t (xg_getf (va := (2, 49)) h0_1 rfl) ?_
    refine xoC49 (xqc49 hI : cp49 (wget w 49)) (fun f49_33 f49_35 h49_37 hb34 hb36 => ?_)
    refine xg_cVv mX0_layAsTold (vs := []) (rest := []) (cn1 := 0) (sl1 := 0) rfl (bdLayAsTold (hI)) rfl h49_37 rfl rfl rfl rfl rfl rfl (fun w38 hq39 => ?_)
    obtain ⟨hI40, hF41⟩ := hq39
    refine xg_t (xg_aload (va := (2, 0)) rfl rfl) ?_
    refine xg_t (xg_getf (va := (2, 49)) (hF41.get (by decide) h0_1) rfl) ?_
    refine xg_cVi mX0_leastRound (vs := []) (rest := []) (cn1 := 0) (sl1 := 0) rfl (bdLeast (hI40)) rfl (hF41.get (by decide) h49_37) rfl rfl rfl rfl rfl rfl (fun n46 w42 hq43 => ?_)
    obtain ⟨hn47, hI44, hF45⟩ := hq43
    exact xg_e ⟨n46, w42, ⟨rfl, rfl⟩, by omega, hI44, ((hF41.up (by decide)).tr (hF45.up (by decide)))⟩
theorem scWorst {ro : Nat} (hI : xInv w) (hro : ro ≤ 4294967295) : xPi (d + 4) mX11_worst [(2, 0), (0, ro)] w bd fc rr (fun n w' => (n ≤ 4294967295) ∧ xInv w' ∧ xFr [50, 51, 52, 53, 54, 55] w w') := by
  refine xPi.of ?_
  show xTo (d + 4) mX11_worst (0, [], [(0, (2, 0)), (1, (0, ro))], [], (w, bd, fc, 0, 0, rr)) (fun φ => ∃ n w', xEnd 1 [(0, n)] (w', bd, fc, 0, 0, rr) φ ∧ (n ≤ 4294967295) ∧ xInv w' ∧ xFr [50, 51, 52, 53, 54, 55] w w')
  have h0_1 := (xqc0 hI : cp0 (wget w 0))
  refine xoC1 (xqc1 hI : cp1 (wget w 1)) (fun f1_2 f1_4 f1_6 f1_8 f1_10 f1_12 h1_14 hb3 hb5 hb7 hb9 hb11 hb13 => ?_)
  refine xoC3 (xqc3 hI : cp3 (wget w 3)) (fun f3_15 f3_17 f3_19 f3_21 f3_23 h3_25 hb16 hb18 hb20 hb22 hb24 => ?_)
  obtain ⟨f4_26, h4_28, hb27⟩ := (xqc4 hI : cp4 (wget w 4))
  refine xoI (xqc5 hI : cpI 24 1 4294967295 (wget w 5)) (fun g5_29 h5_30 hb31 => ?_)
  refine xg_t (xg_blq rfl) ?_
  refine xg_t (xg_aload (va := (2, 0)) rfl rfl) ?_
  refine xg_t (xg_getf (va := (2, 1)) h0_1 rfl) ?_
  refine xg_t (xg_getf (va := (2, 3)) h1_14 rfl) ?_
  refine xg_t (xg_getf (va := (2, 4)) h3_25 rfl) ?_
  refine xg_t (xg_getf (va := (0, f4_26)) h4_28 rfl) ?_
  by_cases hc32 : f4_26 = 0
  · refine xg_t (xg_ifT (u := f4_26) rfl xnm0 (xj_eqT hc32)) ?_
    refine xg_t (xg_blq rfl) ?_
    refine xg_t (xg_const) ?_
    exact xg_e ⟨4294967295, w, ⟨rfl, rfl⟩, by first | decide | omega, hI, xFr.rf⟩
  · refine xg_t (xg_ifF (u := f4_26) rfl xnm0 (xj_eqF hc32)) ?_
    refine xg_t (xg_iload (va := (0, ro)) rfl rfl) ?_
    refine xg_t (xg_cSr mX11_isRound (vs := [(0, ro)]) (rest := []) (rs := [(0, if 1 ≤ ro ∧ ro ≤ 9999 then 1 else 0)]) (cn1 := 0) (sl1 := 0) rfl (isRound_ok (by omega)) rfl rfl rfl rfl rfl rfl rfl rfl) ?_
    by_cases hc33 : 1 ≤ ro ∧ ro ≤ 9999
    · refine xg_t (xg_ifT (u := (if 1 ≤ ro ∧ ro ≤ 9999 then 1 else 0)) rfl xnm0 (xj_neT (xite1 hc33))) ?_
      refine xg_t (xg_blq rfl) ?_
      refine xg_t (xg_aload (va := (2, 0)) rfl rfl) ?_
      refine xg_t (xg_getf (va := (2, 49)) h0_1 rfl) ?_
      refine xoC49 (xqc49 hI : cp49 (wget w 49)) (fun f49_34 f49_36 h49_38 hb35 hb37 => ?_)
      refine xg_cVv mX0_layAsTold (vs := []) (rest := []) (cn1 := 0) (sl1 := 0) rfl (bdLayAsTold (hI)) rfl h49_38 rfl rfl rfl rfl rfl rfl (fun w39 hq40 => ?_)
      obtain ⟨hI41, hF42⟩ := hq40
      refine xg_t (xg_aload (va := (2, 0)) rfl rfl) ?_
      refine xg_t (xg_getf (va := (2, 49)) (hF42.get (by decide) h0_1) rfl) ?_
      refine xg_cVi mX0_worstPlace (vs := []) (rest := []) (cn1 := 0) (sl1 := 0) rfl (bdWorst (hI41)) rfl (hF42.get (by decide) h49_38) rfl rfl rfl rfl rfl rfl (fun n47 w43 hq44 => ?_)
      obtain ⟨hn48, hI45, hF46⟩ := hq44
      exact xg_e ⟨n47, w43, ⟨rfl, rfl⟩, by omega, hI45, ((hF42.up (by decide)).tr (hF46.up (by decide)))⟩
    · refine xg_t (xg_ifF (u := (if 1 ≤ ro ∧ ro ≤ 9999 then 1 else 0)) rfl xnm0 (xj_neF (xite0 hc33))) ?_
      refine xg_t (xg_blq rfl) ?_
      refine xg_t (xg_const) ?_
      exact xg_e ⟨4294967295, w, ⟨rfl, rfl⟩, by first | decide | omega, hI, xFr.rf⟩
theorem scMost (hI : xInv w)  : xPi (d + 5) mX11_most [(2, 0)] w bd fc rr (fun n w' => (n ≤ 4294967295) ∧ xInv w' ∧ xFr [58, 59, 60, 61, 62, 63, 64, 65, 66, 67] w w') := by
  refine xPi.of ?_
  show xTo (d + 5) mX11_most (0, [], [(0, (2, 0))], [], (w, bd, fc, 0, 0, rr)) (fun φ => ∃ n w', xEnd 1 [(0, n)] (w', bd, fc, 0, 0, rr) φ ∧ (n ≤ 4294967295) ∧ xInv w' ∧ xFr [58, 59, 60, 61, 62, 63, 64, 65, 66, 67] w w')
  refine xg_t (xg_blq rfl) ?_
  refine xg_t (xg_aload (va := (2, 0)) rfl rfl) ?_
  have h0_1 := (xqc0 hI : cp0 (wget w 0))
  refine xg_t (xg_getf (va := (2, 58)) h0_1 rfl) ?_
  refine xoC58 (xqc58 hI : cp58 (wget w 58)) (fun f58_2 f58_4 f58_6 h58_8 hb3 hb5 hb7 => ?_)
  refine xg_cVv mX10_refresh (vs := []) (rest := []) (cn1 := 0) (sl1 := 0) rfl (wyRefresh (hI)) rfl h58_8 rfl rfl rfl rfl rfl rfl (fun w9 hq10 => ?_)
  obtain ⟨hI11, hF12⟩ := hq10
  refine xg_t (xg_aload (va := (2, 0)) rfl rfl) ?_
  refine xg_t (xg_getf (va := (2, 58)) (hF12.get (by decide) h0_1) rfl) ?_
  refine xoC58 (xqc58 hI11 : cp58 (wget w9 58)) (fun f58_13 f58_15 f58_17 h58_19 hb14 hb16 hb18 => ?_)
  refine xg_t (xg_getf (va := (0, f58_15)) h58_19 rfl) ?_
  exact xg_e ⟨f58_15, w9, ⟨rfl, rfl⟩, by omega, hI11, (hF12.up (by decide))⟩
theorem scDamp {ro co : Nat} (hI : xInv w) (hro : ro ≤ 4294967295) (hco : co ≤ 4294967295) : xPi (d + 3) mX11_damp [(2, 0), (0, ro), (0, co)] w bd fc rr (fun n w' => (n ≤ 4294967295) ∧ xInv w' ∧ xFr [68, 70, 71] w w') := by
  refine xPi.of ?_
  show xTo (d + 3) mX11_damp (0, [], [(0, (2, 0)), (1, (0, ro)), (2, (0, co))], [], (w, bd, fc, 0, 0, rr)) (fun φ => ∃ n w', xEnd 1 [(0, n)] (w', bd, fc, 0, 0, rr) φ ∧ (n ≤ 4294967295) ∧ xInv w' ∧ xFr [68, 70, 71] w w')
  refine xg_t (xg_blq rfl) ?_
  refine xg_t (xg_aload (va := (2, 0)) rfl rfl) ?_
  refine xg_t (xg_iload (va := (0, ro)) rfl rfl) ?_
  refine xg_t (xg_iload (va := (0, co)) rfl rfl) ?_
  have h0_1 := (xqc0 hI : cp0 (wget w 0))
  refine xg_cVi mX11_hasPoint (vs := [(0, ro), (0, co)]) (rest := []) (cn1 := 0) (sl1 := 0) rfl (scHasPoint (hI) (by omega) (by omega)) rfl h0_1 rfl rfl rfl rfl rfl rfl (fun n6 w2 hq3 => ?_)
  obtain ⟨hn7, hI4, hF5⟩ := hq3
  by_cases hc8 : n6 = 0
  · refine xg_t (xg_ifF (u := n6) rfl xnm0 (xj_neF hc8)) ?_
    refine xg_t (xg_const) ?_
    exact xg_e ⟨4294967295, w2, ⟨rfl, rfl⟩, by first | decide | omega, hI4, (hF5.up (by decide))⟩
  · refine xg_t (xg_ifT (u := n6) rfl xnm0 (xj_neT hc8)) ?_
    refine xg_t (xg_blq rfl) ?_
    refine xg_t (xg_aload (va := (2, 0)) rfl rfl) ?_
    refine xg_t (xg_getf (va := (2, 68)) (hF5.get (by decide) h0_1) rfl) ?_
    refine xoC68 (xqc68 hI4 : cp68 (wget w2 68)) (fun f68_9 f68_11 h68_13 hb10 hb12 => ?_)
    refine xg_cVv mX3_refreshDamp (vs := []) (rest := []) (cn1 := 0) (sl1 := 0) rfl (lmRefreshDamp (hI4)) rfl h68_13 rfl rfl rfl rfl rfl rfl (fun w14 hq15 => ?_)
    obtain ⟨hI16, hF17⟩ := hq15
    refine xg_t (xg_aload (va := (2, 0)) rfl rfl) ?_
    refine xg_t (xg_getf (va := (2, 68)) (hF17.get (by decide) (hF5.get (by decide) h0_1)) rfl) ?_
    refine xoC68 (xqc68 hI16 : cp68 (wget w14 68)) (fun f68_18 f68_20 h68_22 hb19 hb21 => ?_)
    refine xg_t (xg_getf (va := (2, 70)) h68_22 rfl) ?_
    refine xg_t (xg_iload (va := (0, ro)) rfl rfl) ?_
    refine xg_t (xg_bip) ?_
    refine xg_t (xg_imul (u := ro) (v := 6) (z := ro * 6) xnm0 xnm0 (by omega)) ?_
    refine xg_t (xg_iload (va := (0, co)) rfl rfl) ?_
    refine xg_t (xg_iadd (u := ro * 6) (v := co) (z := (ro * 6) + co) xnm0 xnm0 (by omega)) ?_
    refine xoI (xqc70 hI16 : cpI 36 41 4294967295 (wget w14 70)) (fun g70_23 h70_24 hb25 => ?_)
    refine xg_ialdB (n := (ro * 6) + co) (B := 4294967295) h70_24 (hb25) xnm0 (by omega) (fun u26 hu27 he28 => ?_)
    exact xg_e ⟨u26, w14, ⟨rfl, rfl⟩, by omega, hI16, ((hF5.up (by decide)).tr (hF17.up (by decide)))⟩
theorem scLeft {ro co : Nat} (hI : xInv w) (hro : ro ≤ 4294967295) (hco : co ≤ 4294967295) : xPi (d + 4) mX11_left [(2, 0), (0, ro), (0, co)] w bd fc rr (fun n w' => (n ≤ 4294967295) ∧ xInv w' ∧ xFr [68, 69] w w') := by
  refine xPi.of ?_
  show xTo (d + 4) mX11_left (0, [], [(0, (2, 0)), (1, (0, ro)), (2, (0, co))], [], (w, bd, fc, 0, 0, rr)) (fun φ => ∃ n w', xEnd 1 [(0, n)] (w', bd, fc, 0, 0, rr) φ ∧ (n ≤ 4294967295) ∧ xInv w' ∧ xFr [68, 69] w w')
  refine xg_t (xg_blq rfl) ?_
  refine xg_t (xg_aload (va := (2, 0)) rfl rfl) ?_
  refine xg_t (xg_iload (va := (0, ro)) rfl rfl) ?_
  refine xg_t (xg_iload (va := (0, co)) rfl rfl) ?_
  have h0_1 := (xqc0 hI : cp0 (wget w 0))
  refine xg_cVi mX11_hasPoint (vs := [(0, ro), (0, co)]) (rest := []) (cn1 := 0) (sl1 := 0) rfl (scHasPoint (hI) (by omega) (by omega)) rfl h0_1 rfl rfl rfl rfl rfl rfl (fun n6 w2 hq3 => ?_)
  obtain ⟨hn7, hI4, hF5⟩ := hq3
  by_cases hc8 : n6 = 0
  · refine xg_t (xg_ifF (u := n6) rfl xnm0 (xj_neF hc8)) ?_
    refine xg_t (xg_const) ?_
    exact xg_e ⟨4294967295, w2, ⟨rfl, rfl⟩, by first | decide | omega, hI4, (hF5.up (by decide))⟩
  · refine xg_t (xg_ifT (u := n6) rfl xnm0 (xj_neT hc8)) ?_
    refine xg_t (xg_blq rfl) ?_
    refine xg_t (xg_aload (va := (2, 0)) rfl rfl) ?_
    refine xg_t (xg_getf (va := (2, 68)) (hF5.get (by decide) h0_1) rfl) ?_
    refine xoC68 (xqc68 hI4 : cp68 (wget w2 68)) (fun f68_9 f68_11 h68_13 hb10 hb12 => ?_)
    refine xg_cVv mX3_refreshAges (vs := []) (rest := []) (cn1 := 0) (sl1 := 0) rfl (lmRefreshAges (hI4)) rfl h68_13 rfl rfl rfl rfl rfl rfl (fun w14 hq15 => ?_)
    obtain ⟨hI16, hF17⟩ := hq15
    refine xg_t (xg_aload (va := (2, 0)) rfl rfl) ?_
    refine xg_t (xg_getf (va := (2, 68)) (hF17.get (by decide) (hF5.get (by decide) h0_1)) rfl) ?_
    refine xg_t (xg_iload (va := (0, ro)) rfl rfl) ?_
    refine xg_t (xg_bip) ?_
    refine xg_t (xg_imul (u := ro) (v := 6) (z := ro * 6) xnm0 xnm0 (by omega)) ?_
    refine xg_t (xg_iload (va := (0, co)) rfl rfl) ?_
    refine xg_t (xg_iadd (u := ro * 6) (v := co) (z := (ro * 6) + co) xnm0 xnm0 (by omega)) ?_
    refine xoC68 (xqc68 hI16 : cp68 (wget w14 68)) (fun f68_18 f68_20 h68_22 hb19 hb21 => ?_)
    refine xg_cVi mX3_leftOf (vs := [(0, (ro * 6) + co)]) (rest := []) (cn1 := 0) (sl1 := 0) rfl (lmLeftOf (hI16) (by omega)) rfl h68_22 rfl rfl rfl rfl rfl rfl (fun n27 w23 hq24 => ?_)
    obtain ⟨hn28, hI25, hF26⟩ := hq24
    exact xg_e ⟨n27, w23, ⟨rfl, rfl⟩, by omega, hI25, (((hF5.up (by decide)).tr (hF17.up (by decide))).tr (hF26.up (by decide)))⟩
theorem scUnlike (hI : xInv w)  : xPi (d + 4) mX11_unlike [(2, 0)] w bd fc rr (fun n w' => (n ≤ 4294967295) ∧ xInv w' ∧ xFr [68, 69] w w') := by
  refine xPi.of ?_
  show xTo (d + 4) mX11_unlike (0, [], [(0, (2, 0))], [], (w, bd, fc, 0, 0, rr)) (fun φ => ∃ n w', xEnd 1 [(0, n)] (w', bd, fc, 0, 0, rr) φ ∧ (n ≤ 4294967295) ∧ xInv w' ∧ xFr [68, 69] w w')
  refine xg_t (xg_blq rfl) ?_
  refine xg_t (xg_aload (va := (2, 0)) rfl rfl) ?_
  have h0_1 := (xqc0 hI : cp0 (wget w 0))
  refine xg_t (xg_getf (va := (2, 68)) h0_1 rfl) ?_
  refine xoC68 (xqc68 hI : cp68 (wget w 68)) (fun f68_2 f68_4 h68_6 hb3 hb5 => ?_)
  refine xg_cVv mX3_refreshAges (vs := []) (rest := []) (cn1 := 0) (sl1 := 0) rfl (lmRefreshAges (hI)) rfl h68_6 rfl rfl rfl rfl rfl rfl (fun w7 hq8 => ?_)
  obtain ⟨hI9, hF10⟩ := hq8
  refine xg_t (xg_aload (va := (2, 0)) rfl rfl) ?_
  refine xg_t (xg_getf (va := (2, 68)) (hF10.get (by decide) h0_1) rfl) ?_
  refine xoC68 (xqc68 hI9 : cp68 (wget w7 68)) (fun f68_11 f68_13 h68_15 hb12 hb14 => ?_)
  refine xg_cVi mX3_leftSpread (vs := []) (rest := []) (cn1 := 0) (sl1 := 0) rfl (lmLeftSpread (hI9)) rfl h68_15 rfl rfl rfl rfl rfl rfl (fun n20 w16 hq17 => ?_)
  obtain ⟨hn21, hI18, hF19⟩ := hq17
  exact xg_e ⟨n20, w16, ⟨rfl, rfl⟩, by omega, hI18, ((hF10.up (by decide)).tr (hF19.up (by decide)))⟩
theorem scKept (hI : xInv w)  : xPi (d + 3) mX11_kept [(2, 0)] w bd fc rr (fun n w' => (n ≤ 4294967295) ∧ xInv w' ∧ xFr [76, 77] w w') := by
  refine xPi.of ?_
  show xTo (d + 3) mX11_kept (0, [], [(0, (2, 0))], [], (w, bd, fc, 0, 0, rr)) (fun φ => ∃ n w', xEnd 1 [(0, n)] (w', bd, fc, 0, 0, rr) φ ∧ (n ≤ 4294967295) ∧ xInv w' ∧ xFr [76, 77] w w')
  refine xg_t (xg_blq rfl) ?_
  refine xg_t (xg_aload (va := (2, 0)) rfl rfl) ?_
  have h0_1 := (xqc0 hI : cp0 (wget w 0))
  refine xg_t (xg_getf (va := (2, 76)) h0_1 rfl) ?_
  refine xoC76 (xqc76 hI : cp76 (wget w 76)) (fun f76_2 f76_4 f76_6 f76_8 f76_10 f76_12 f76_14 f76_16 h76_18 hb3 hb5 hb7 hb9 hb11 hb13 hb15 hb17 => ?_)
  refine xg_cVv mX4_refresh (vs := []) (rest := []) (cn1 := 0) (sl1 := 0) rfl (lwRefresh (hI)) rfl h76_18 rfl rfl rfl rfl rfl rfl (fun w19 hq20 => ?_)
  obtain ⟨hI21, hF22⟩ := hq20
  refine xg_t (xg_aload (va := (2, 0)) rfl rfl) ?_
  refine xg_t (xg_getf (va := (2, 76)) (hF22.get (by decide) h0_1) rfl) ?_
  refine xoC76 (xqc76 hI21 : cp76 (wget w19 76)) (fun f76_23 f76_25 f76_27 f76_29 f76_31 f76_33 f76_35 f76_37 h76_39 hb24 hb26 hb28 hb30 hb32 hb34 hb36 hb38 => ?_)
  refine xg_t (xg_getf (va := (0, f76_23)) h76_39 rfl) ?_
  exact xg_e ⟨f76_23, w19, ⟨rfl, rfl⟩, by omega, hI21, (hF22.up (by decide))⟩
theorem scLaw {kk : Nat} (hI : xInv w) (hkk : kk ≤ 4294967295) : xPi (d + 3) mX11_law [(2, 0), (0, kk)] w bd fc rr (fun n w' => (n ≤ 4294967295) ∧ xInv w' ∧ xFr [76, 77] w w') := by
  refine xPi.of ?_
  show xTo (d + 3) mX11_law (0, [], [(0, (2, 0)), (1, (0, kk))], [], (w, bd, fc, 0, 0, rr)) (fun φ => ∃ n w', xEnd 1 [(0, n)] (w', bd, fc, 0, 0, rr) φ ∧ (n ≤ 4294967295) ∧ xInv w' ∧ xFr [76, 77] w w')
  refine xg_t (xg_blq rfl) ?_
  refine xg_t (xg_aload (va := (2, 0)) rfl rfl) ?_
  have h0_1 := (xqc0 hI : cp0 (wget w 0))
  refine xg_t (xg_getf (va := (2, 76)) h0_1 rfl) ?_
  refine xoC76 (xqc76 hI : cp76 (wget w 76)) (fun f76_2 f76_4 f76_6 f76_8 f76_10 f76_12 f76_14 f76_16 h76_18 hb3 hb5 hb7 hb9 hb11 hb13 hb15 hb17 => ?_)
  refine xg_cVv mX4_refresh (vs := []) (rest := []) (cn1 := 0) (sl1 := 0) rfl (lwRefresh (hI)) rfl h76_18 rfl rfl rfl rfl rfl rfl (fun w19 hq20 => ?_)
  obtain ⟨hI21, hF22⟩ := hq20
  refine xg_t (xg_iload (va := (0, kk)) rfl rfl) ?_
  by_cases hc23 : kk < 2147483648
  · refine xg_t (xg_ifF (u := kk) rfl xnm0 (xjz_ltF hc23)) ?_
    refine xg_t (xg_iload (va := (0, kk)) rfl rfl) ?_
    refine xg_t (xg_aload (va := (2, 0)) rfl rfl) ?_
    refine xg_t (xg_getf (va := (2, 76)) (hF22.get (by decide) h0_1) rfl) ?_
    refine xoC76 (xqc76 hI21 : cp76 (wget w19 76)) (fun f76_24 f76_26 f76_28 f76_30 f76_32 f76_34 f76_36 f76_38 h76_40 hb25 hb27 hb29 hb31 hb33 hb35 hb37 hb39 => ?_)
    refine xg_t (xg_getf (va := (0, f76_24)) h76_40 rfl) ?_
    by_cases hc41 : xbs kk < xbs f76_24
    · have hc41u := hc41
      unfold xbs at hc41u
      have hn42 : kk ≤ 2147483646 := by omega
      have hn43 : f76_24 ≤ 2147483647 := by omega
      refine xg_t (xg_icT (u := kk) (v := f76_24) rfl xnm0 xnm0 (xjs_ltT hc41)) ?_
      refine xg_t (xg_blq rfl) ?_
      refine xg_t (xg_aload (va := (2, 0)) rfl rfl) ?_
      refine xg_t (xg_getf (va := (2, 76)) (hF22.get (by decide) h0_1) rfl) ?_
      refine xg_t (xg_iload (va := (0, kk)) rfl rfl) ?_
      refine xg_cVi mX4_keptAt (vs := [(0, kk)]) (rest := []) (cn1 := 0) (sl1 := 0) rfl (lwKeptAt (hI21) (by omega)) rfl h76_40 rfl rfl rfl rfl rfl rfl (fun n48 w44 hq45 => ?_)
      obtain ⟨hn49, hI46, hF47⟩ := hq45
      exact xg_e ⟨n48, w44, ⟨rfl, rfl⟩, by omega, hI46, ((hF22.up (by decide)).tr (hF47.up (by decide)))⟩
    · have hc41u := hc41
      unfold xbs at hc41u
      have hn50 : kk ≤ 2147483647 := by omega
      refine xg_t (xg_icF (u := kk) (v := f76_24) rfl xnm0 xnm0 (xjs_ltF hc41)) ?_
      refine xg_t (xg_blq rfl) ?_
      refine xg_t (xg_const) ?_
      exact xg_e ⟨4294967295, w19, ⟨rfl, rfl⟩, by first | decide | omega, hI21, (hF22.up (by decide))⟩
  · refine xg_t (xg_ifT (u := kk) rfl xnm0 (xjz_ltT (by omega) (by omega))) ?_
    refine xg_t (xg_blq rfl) ?_
    refine xg_t (xg_const) ?_
    exact xg_e ⟨4294967295, w19, ⟨rfl, rfl⟩, by first | decide | omega, hI21, (hF22.up (by decide))⟩
theorem scSpan {sp mo : Nat} (hI : xInv w) (hsp : sp ≤ 4294967295) (hmo : mo ≤ 1) : xPi (d + 3) mX11_span [(2, 0), (0, sp), (0, mo)] w bd fc rr (fun n w' => (n ≤ 4294967295) ∧ xInv w' ∧ xFr [76, 77] w w') := by
  refine xPi.of ?_
  show xTo (d + 3) mX11_span (0, [], [(0, (2, 0)), (1, (0, sp)), (2, (0, mo))], [], (w, bd, fc, 0, 0, rr)) (fun φ => ∃ n w', xEnd 1 [(0, n)] (w', bd, fc, 0, 0, rr) φ ∧ (n ≤ 4294967295) ∧ xInv w' ∧ xFr [76, 77] w w')
  refine xg_t (xg_blq rfl) ?_
  refine xg_t (xg_aload (va := (2, 0)) rfl rfl) ?_
  have h0_1 := (xqc0 hI : cp0 (wget w 0))
  refine xg_t (xg_getf (va := (2, 76)) h0_1 rfl) ?_
  refine xoC76 (xqc76 hI : cp76 (wget w 76)) (fun f76_2 f76_4 f76_6 f76_8 f76_10 f76_12 f76_14 f76_16 h76_18 hb3 hb5 hb7 hb9 hb11 hb13 hb15 hb17 => ?_)
  refine xg_cVv mX4_refresh (vs := []) (rest := []) (cn1 := 0) (sl1 := 0) rfl (lwRefresh (hI)) rfl h76_18 rfl rfl rfl rfl rfl rfl (fun w19 hq20 => ?_)
  obtain ⟨hI21, hF22⟩ := hq20
  refine xg_t (xg_iload (va := (0, sp)) rfl rfl) ?_
  refine xg_t (xg_const) ?_
  refine xg_t (xg_bip) ?_
  refine xg_t (xg_cSr mX11_isIn (vs := [(0, sp), (0, 1), (0, 9)]) (rest := []) (rs := [(0, if 1 ≤ sp ∧ sp ≤ 9 then 1 else 0)]) (cn1 := 0) (sl1 := 0) rfl (isIn_ok (by omega) (by omega) (by omega)) rfl rfl rfl rfl rfl rfl rfl rfl) ?_
  by_cases hc23 : 1 ≤ sp ∧ sp ≤ 9
  · refine xg_t (xg_ifF (u := (if 1 ≤ sp ∧ sp ≤ 9 then 1 else 0)) rfl xnm0 (xj_eqF (xite1 hc23))) ?_
    refine xg_t (xg_aload (va := (2, 0)) rfl rfl) ?_
    refine xg_t (xg_getf (va := (2, 76)) (hF22.get (by decide) h0_1) rfl) ?_
    refine xoC76 (xqc76 hI21 : cp76 (wget w19 76)) (fun f76_24 f76_26 f76_28 f76_30 f76_32 f76_34 f76_36 f76_38 h76_40 hb25 hb27 hb29 hb31 hb33 hb35 hb37 hb39 => ?_)
    refine xg_t (xg_getf (va := (0, f76_24)) h76_40 rfl) ?_
    by_cases hc41 : f76_24 = 0
    · refine xg_t (xg_ifF (u := f76_24) rfl xnm0 (xj_neF hc41)) ?_
      refine xg_t (xg_blq rfl) ?_
      refine xg_t (xg_const) ?_
      exact xg_e ⟨4294967295, w19, ⟨rfl, rfl⟩, by first | decide | omega, hI21, (hF22.up (by decide))⟩
    · refine xg_t (xg_ifT (u := f76_24) rfl xnm0 (xj_neT hc41)) ?_
      refine xg_t (xg_blq rfl) ?_
      refine xg_t (xg_iload (va := (0, mo)) rfl rfl) ?_
      by_cases hc42 : mo = 0
      · refine xg_t (xg_ifT (u := mo) rfl xnm0 (xj_eqT hc42)) ?_
        refine xg_t (xg_blq rfl) ?_
        refine xg_t (xg_aload (va := (2, 0)) rfl rfl) ?_
        refine xg_t (xg_getf (va := (2, 76)) (hF22.get (by decide) h0_1) rfl) ?_
        refine xg_t (xg_iload (va := (0, sp)) rfl rfl) ?_
        refine xg_cVi mX4_spanStart (vs := [(0, sp)]) (rest := []) (cn1 := 0) (sl1 := 0) rfl (lwSpanStart (hI21) (by omega)) rfl h76_40 rfl rfl rfl rfl rfl rfl (fun n47 w43 hq44 => ?_)
        obtain ⟨hn48, hI45, hF46⟩ := hq44
        refine xg_t (xg_blq rfl) ?_
        exact xg_e ⟨n47, w43, ⟨rfl, rfl⟩, by omega, hI45, ((hF22.up (by decide)).tr (hF46.up (by decide)))⟩
      · refine xg_t (xg_ifF (u := mo) rfl xnm0 (xj_eqF hc42)) ?_
        refine xg_t (xg_aload (va := (2, 0)) rfl rfl) ?_
        refine xg_t (xg_getf (va := (2, 76)) (hF22.get (by decide) h0_1) rfl) ?_
        refine xg_t (xg_iload (va := (0, sp)) rfl rfl) ?_
        refine xg_cVi mX4_spanEnd (vs := [(0, sp)]) (rest := []) (cn1 := 0) (sl1 := 0) rfl (lwSpanEnd (hI21) (by omega)) rfl h76_40 rfl rfl rfl rfl rfl rfl (fun n53 w49 hq50 => ?_)
        obtain ⟨hn54, hI51, hF52⟩ := hq50
        refine xg_t (xg_goto) ?_
        refine xg_t (xg_blq rfl) ?_
        exact xg_e ⟨n53, w49, ⟨rfl, rfl⟩, by omega, hI51, ((hF22.up (by decide)).tr (hF52.up (by decide)))⟩
  · refine xg_t (xg_ifT (u := (if 1 ≤ sp ∧ sp ≤ 9 then 1 else 0)) rfl xnm0 (xj_eqT (xite0 hc23))) ?_
    refine xg_t (xg_blq rfl) ?_
    refine xg_t (xg_const) ?_
    exact xg_e ⟨4294967295, w19, ⟨rfl, rfl⟩, by first | decide | omega, hI21, (hF22.up (by decide))⟩
theorem scQuarrel {kk : Nat} (hI : xInv w) (hkk : kk ≤ 4294967295) : xPi (d + 3) mX11_quarrel [(2, 0), (0, kk)] w bd fc rr (fun n w' => (n ≤ 4294967295) ∧ xInv w' ∧ xFr [76, 77] w w') := by
  refine xPi.of ?_
  show xTo (d + 3) mX11_quarrel (0, [], [(0, (2, 0)), (1, (0, kk))], [], (w, bd, fc, 0, 0, rr)) (fun φ => ∃ n w', xEnd 1 [(0, n)] (w', bd, fc, 0, 0, rr) φ ∧ (n ≤ 4294967295) ∧ xInv w' ∧ xFr [76, 77] w w')
  refine xg_t (xg_blq rfl) ?_
  refine xg_t (xg_aload (va := (2, 0)) rfl rfl) ?_
  have h0_1 := (xqc0 hI : cp0 (wget w 0))
  refine xg_t (xg_getf (va := (2, 76)) h0_1 rfl) ?_
  refine xoC76 (xqc76 hI : cp76 (wget w 76)) (fun f76_2 f76_4 f76_6 f76_8 f76_10 f76_12 f76_14 f76_16 h76_18 hb3 hb5 hb7 hb9 hb11 hb13 hb15 hb17 => ?_)
  refine xg_cVv mX4_refresh (vs := []) (rest := []) (cn1 := 0) (sl1 := 0) rfl (lwRefresh (hI)) rfl h76_18 rfl rfl rfl rfl rfl rfl (fun w19 hq20 => ?_)
  obtain ⟨hI21, hF22⟩ := hq20
  refine xg_t (xg_iload (va := (0, kk)) rfl rfl) ?_
  by_cases hc23 : kk < 2147483648
  · refine xg_t (xg_ifF (u := kk) rfl xnm0 (xjz_ltF hc23)) ?_
    refine xg_t (xg_aload (va := (2, 0)) rfl rfl) ?_
    refine xg_t (xg_getf (va := (2, 76)) (hF22.get (by decide) h0_1) rfl) ?_
    refine xoC76 (xqc76 hI21 : cp76 (wget w19 76)) (fun f76_24 f76_26 f76_28 f76_30 f76_32 f76_34 f76_36 f76_38 h76_40 hb25 hb27 hb29 hb31 hb33 hb35 hb37 hb39 => ?_)
    refine xg_t (xg_getf (va := (0, f76_24)) h76_40 rfl) ?_
    by_cases hc41 : xbs 0 < xbs f76_24
    · have hc41u := hc41
      unfold xbs at hc41u
      have hn42 : f76_24 ≤ 2147483647 := by omega
      refine xg_t (xg_ifF (u := f76_24) rfl xnm0 (xjs_leF hc41)) ?_
      refine xg_t (xg_blq rfl) ?_
      refine xg_t (xg_const) ?_
      exact xg_e ⟨4294967295, w19, ⟨rfl, rfl⟩, by first | decide | omega, hI21, (hF22.up (by decide))⟩
    · have hc41u := hc41
      unfold xbs at hc41u
      refine xg_t (xg_ifT (u := f76_24) rfl xnm0 (xjs_leT hc41)) ?_
      refine xg_t (xg_blq rfl) ?_
      refine xg_t (xg_aload (va := (2, 0)) rfl rfl) ?_
      refine xg_t (xg_getf (va := (2, 76)) (hF22.get (by decide) h0_1) rfl) ?_
      refine xg_cVv mX4_refreshQuarrel (vs := []) (rest := []) (cn1 := 0) (sl1 := 0) rfl (lwRefreshQuarrel (hI21)) rfl h76_40 rfl rfl rfl rfl rfl rfl (fun w43 hq44 => ?_)
      obtain ⟨hI45, hF46⟩ := hq44
      refine xg_t (xg_aload (va := (2, 0)) rfl rfl) ?_
      refine xg_t (xg_getf (va := (2, 76)) (hF46.get (by decide) (hF22.get (by decide) h0_1)) rfl) ?_
      refine xg_t (xg_iload (va := (0, kk)) rfl rfl) ?_
      refine xoC76 (xqc76 hI45 : cp76 (wget w43 76)) (fun f76_47 f76_49 f76_51 f76_53 f76_55 f76_57 f76_59 f76_61 h76_63 hb48 hb50 hb52 hb54 hb56 hb58 hb60 hb62 => ?_)
      refine xg_cVi mX4_quarrelAt (vs := [(0, kk)]) (rest := []) (cn1 := 0) (sl1 := 0) rfl (lwQuarrelAt (hI45) (by omega)) rfl h76_63 rfl rfl rfl rfl rfl rfl (fun n68 w64 hq65 => ?_)
      obtain ⟨hn69, hI66, hF67⟩ := hq65
      exact xg_e ⟨n68, w64, ⟨rfl, rfl⟩, by omega, hI66, (((hF22.up (by decide)).tr (hF46.up (by decide))).tr (hF67.up (by decide)))⟩
  · refine xg_t (xg_ifT (u := kk) rfl xnm0 (xjz_ltT (by omega) (by omega))) ?_
    refine xg_t (xg_blq rfl) ?_
    refine xg_t (xg_const) ?_
    exact xg_e ⟨4294967295, w19, ⟨rfl, rfl⟩, by first | decide | omega, hI21, (hF22.up (by decide))⟩
theorem scNext {wh : Nat} (hI : xInv w) (hwh : wh ≤ 4294967295) : xPi (d + 3) mX11_next [(2, 0), (0, wh)] w bd fc rr (fun n w' => (n ≤ 4294967295) ∧ xInv w' ∧ xFr [76, 77, 78, 79] w w') := by
  refine xPi.of ?_
  show xTo (d + 3) mX11_next (0, [], [(0, (2, 0)), (1, (0, wh))], [], (w, bd, fc, 0, 0, rr)) (fun φ => ∃ n w', xEnd 1 [(0, n)] (w', bd, fc, 0, 0, rr) φ ∧ (n ≤ 4294967295) ∧ xInv w' ∧ xFr [76, 77, 78, 79] w w')
  refine xg_t (xg_blq rfl) ?_
  refine xg_t (xg_aload (va := (2, 0)) rfl rfl) ?_
  have h0_1 := (xqc0 hI : cp0 (wget w 0))
  refine xg_t (xg_getf (va := (2, 76)) h0_1 rfl) ?_
  refine xoC76 (xqc76 hI : cp76 (wget w 76)) (fun f76_2 f76_4 f76_6 f76_8 f76_10 f76_12 f76_14 f76_16 h76_18 hb3 hb5 hb7 hb9 hb11 hb13 hb15 hb17 => ?_)
  refine xg_cVv mX4_refresh (vs := []) (rest := []) (cn1 := 0) (sl1 := 0) rfl (lwRefresh (hI)) rfl h76_18 rfl rfl rfl rfl rfl rfl (fun w19 hq20 => ?_)
  obtain ⟨hI21, hF22⟩ := hq20
  refine xg_t (xg_aload (va := (2, 0)) rfl rfl) ?_
  refine xg_t (xg_getf (va := (2, 76)) (hF22.get (by decide) h0_1) rfl) ?_
  refine xoC76 (xqc76 hI21 : cp76 (wget w19 76)) (fun f76_23 f76_25 f76_27 f76_29 f76_31 f76_33 f76_35 f76_37 h76_39 hb24 hb26 hb28 hb30 hb32 hb34 hb36 hb38 => ?_)
  refine xg_cVv mX4_refreshNext (vs := []) (rest := []) (cn1 := 0) (sl1 := 0) rfl (lwRefreshNext (hI21)) rfl h76_39 rfl rfl rfl rfl rfl rfl (fun w40 hq41 => ?_)
  obtain ⟨hI42, hF43⟩ := hq41
  refine xg_t (xg_iload (va := (0, wh)) rfl rfl) ?_
  by_cases hc44 : wh = 0
  · refine xg_t (xg_swt (ks := [(0, 40), (1, 48), (2, 56)]) (u := wh) (z := 40) rfl rfl rfl xnm0 (xsw_y hc44)) ?_
    refine xg_t (xg_blq rfl) ?_
    refine xg_t (xg_aload (va := (2, 0)) rfl rfl) ?_
    refine xg_t (xg_getf (va := (2, 76)) (hF43.get (by decide) (hF22.get (by decide) h0_1)) rfl) ?_
    refine xoC76 (xqc76 hI42 : cp76 (wget w40 76)) (fun f76_45 f76_47 f76_49 f76_51 f76_53 f76_55 f76_57 f76_59 h76_61 hb46 hb48 hb50 hb52 hb54 hb56 hb58 hb60 => ?_)
    refine xg_t (xg_getf (va := (0, f76_49)) h76_61 rfl) ?_
    exact xg_e ⟨f76_49, w40, ⟨rfl, rfl⟩, by omega, hI42, ((hF22.up (by decide)).tr (hF43.up (by decide)))⟩
  · by_cases hc62 : wh = 1
    · refine xg_t (xg_swt (ks := [(0, 40), (1, 48), (2, 56)]) (u := wh) (z := 48) rfl rfl rfl xnm0 (xsw_n hc44 (xsw_y hc62))) ?_
      refine xg_t (xg_blq rfl) ?_
      refine xg_t (xg_aload (va := (2, 0)) rfl rfl) ?_
      refine xg_t (xg_getf (va := (2, 76)) (hF43.get (by decide) (hF22.get (by decide) h0_1)) rfl) ?_
      refine xoC76 (xqc76 hI42 : cp76 (wget w40 76)) (fun f76_63 f76_65 f76_67 f76_69 f76_71 f76_73 f76_75 f76_77 h76_79 hb64 hb66 hb68 hb70 hb72 hb74 hb76 hb78 => ?_)
      refine xg_t (xg_getf (va := (0, f76_69)) h76_79 rfl) ?_
      exact xg_e ⟨f76_69, w40, ⟨rfl, rfl⟩, by omega, hI42, ((hF22.up (by decide)).tr (hF43.up (by decide)))⟩
    · by_cases hc80 : wh = 2
      · refine xg_t (xg_swt (ks := [(0, 40), (1, 48), (2, 56)]) (u := wh) (z := 56) rfl rfl rfl xnm0 (xsw_n hc44 (xsw_n hc62 (xsw_y hc80)))) ?_
        refine xg_t (xg_blq rfl) ?_
        refine xg_t (xg_aload (va := (2, 0)) rfl rfl) ?_
        refine xg_t (xg_getf (va := (2, 76)) (hF43.get (by decide) (hF22.get (by decide) h0_1)) rfl) ?_
        refine xoC76 (xqc76 hI42 : cp76 (wget w40 76)) (fun f76_81 f76_83 f76_85 f76_87 f76_89 f76_91 f76_93 f76_95 h76_97 hb82 hb84 hb86 hb88 hb90 hb92 hb94 hb96 => ?_)
        refine xg_t (xg_getf (va := (0, f76_89)) h76_97 rfl) ?_
        exact xg_e ⟨f76_89, w40, ⟨rfl, rfl⟩, by omega, hI42, ((hF22.up (by decide)).tr (hF43.up (by decide)))⟩
      · refine xg_t (xg_swt (ks := [(0, 40), (1, 48), (2, 56)]) (u := wh) (z := 64) rfl rfl rfl xnm0 (xsw_n hc44 (xsw_n hc62 (xsw_n hc80 (xsw_d))))) ?_
        refine xg_t (xg_blq rfl) ?_
        refine xg_t (xg_const) ?_
        exact xg_e ⟨4294967295, w40, ⟨rfl, rfl⟩, by first | decide | omega, hI42, ((hF22.up (by decide)).tr (hF43.up (by decide)))⟩
theorem scPanels (hI : xInv w)  : xPi (d + 27) mX11_panels [(2, 0)] w bd fc rr (fun n w' => (n ≤ 4294967295) ∧ xInv w' ∧ xFr [72, 73, 74, 75] w w') := by
  refine xPi.of ?_
  show xTo (d + 27) mX11_panels (0, [], [(0, (2, 0))], [], (w, bd, fc, 0, 0, rr)) (fun φ => ∃ n w', xEnd 1 [(0, n)] (w', bd, fc, 0, 0, rr) φ ∧ (n ≤ 4294967295) ∧ xInv w' ∧ xFr [72, 73, 74, 75] w w')
  refine xg_t (xg_blq rfl) ?_
  refine xg_t (xg_aload (va := (2, 0)) rfl rfl) ?_
  have h0_1 := (xqc0 hI : cp0 (wget w 0))
  refine xg_t (xg_getf (va := (2, 72)) h0_1 rfl) ?_
  refine xoC72 (xqc72 hI : cp72 (wget w 72)) (fun f72_2 f72_4 h72_6 hb3 hb5 => ?_)
  refine xg_cVv mX7_refreshPlan (vs := []) (rest := []) (cn1 := 0) (sl1 := 0) rfl (shRefreshPlan (hI)) rfl h72_6 rfl rfl rfl rfl rfl rfl (fun w7 hq8 => ?_)
  obtain ⟨hI9, hF10⟩ := hq8
  refine xg_t (xg_aload (va := (2, 0)) rfl rfl) ?_
  refine xg_t (xg_getf (va := (2, 72)) (hF10.get (by decide) h0_1) rfl) ?_
  refine xoC72 (xqc72 hI9 : cp72 (wget w7 72)) (fun f72_11 f72_13 h72_15 hb12 hb14 => ?_)
  refine xg_t (xg_getf (va := (2, 74)) h72_15 rfl) ?_
  obtain ⟨f74_16, h74_18, hb17⟩ := (xqc74 hI9 : cp74 (wget w7 74))
  refine xg_t (xg_getf (va := (0, f74_16)) h74_18 rfl) ?_
  exact xg_e ⟨f74_16, w7, ⟨rfl, rfl⟩, by omega, hI9, (hF10.up (by decide))⟩
theorem scPanel {kk wh : Nat} (hI : xInv w) (hkk : kk ≤ 4294967295) (hwh : wh ≤ 4294967295) : xPi (d + 27) mX11_panel [(2, 0), (0, kk), (0, wh)] w bd fc rr (fun n w' => (n ≤ 4294967295) ∧ xInv w' ∧ xFr [72, 73, 74, 75] w w') := by
  refine xPi.of ?_
  show xTo (d + 27) mX11_panel (0, [], [(0, (2, 0)), (1, (0, kk)), (2, (0, wh))], [], (w, bd, fc, 0, 0, rr)) (fun φ => ∃ n w', xEnd 1 [(0, n)] (w', bd, fc, 0, 0, rr) φ ∧ (n ≤ 4294967295) ∧ xInv w' ∧ xFr [72, 73, 74, 75] w w')
  refine xg_t (xg_blq rfl) ?_
  refine xg_t (xg_aload (va := (2, 0)) rfl rfl) ?_
  have h0_1 := (xqc0 hI : cp0 (wget w 0))
  refine xg_t (xg_getf (va := (2, 72)) h0_1 rfl) ?_
  refine xoC72 (xqc72 hI : cp72 (wget w 72)) (fun f72_2 f72_4 h72_6 hb3 hb5 => ?_)
  refine xg_cVv mX7_refreshPlan (vs := []) (rest := []) (cn1 := 0) (sl1 := 0) rfl (shRefreshPlan (hI)) rfl h72_6 rfl rfl rfl rfl rfl rfl (fun w7 hq8 => ?_)
  obtain ⟨hI9, hF10⟩ := hq8
  refine xg_t (xg_aload (va := (2, 0)) rfl rfl) ?_
  refine xg_t (xg_getf (va := (2, 72)) (hF10.get (by decide) h0_1) rfl) ?_
  refine xoC72 (xqc72 hI9 : cp72 (wget w7 72)) (fun f72_11 f72_13 h72_15 hb12 hb14 => ?_)
  refine xg_t (xg_getf (va := (2, 74)) h72_15 rfl) ?_
  refine xg_t (xg_iload (va := (0, kk)) rfl rfl) ?_
  refine xg_t (xg_iload (va := (0, wh)) rfl rfl) ?_
  obtain ⟨f74_16, h74_18, hb17⟩ := (xqc74 hI9 : cp74 (wget w7 74))
  refine xoI (xqc75 hI9 : cpI 300 44 4294967295 (wget w7 75)) (fun g75_19 h75_20 hb21 => ?_)
  refine xg_k (xg_cVr mX5_get (vs := [(0, kk), (0, wh)]) (rest := []) (rs := [(0, if kk < f74_16 ∧ wh < 3 then g75_19 (kk * 3 + wh) else 4294967295)]) (cn1 := 0) (sl1 := 0) rfl (rget_ok (lim := 100) (wd := 3) (sz := f74_16) h74_18 h75_20 (by decide) (by omega) (by decide) (by decide) (by omega) (by omega)) rfl h74_18 rfl rfl rfl rfl rfl rfl rfl) (xiteb (hb21)) (fun z22 hz23 => ?_)
  exact xg_e ⟨z22, w7, ⟨rfl, rfl⟩, by omega, hI9, (hF10.up (by decide))⟩
theorem scCut {wh : Nat} (hI : xInv w) (hwh : wh ≤ 4294967295) : xPi (d + 5) mX11_cut [(2, 0), (0, wh)] w bd fc rr (fun n w' => (n ≤ 4294967295) ∧ xInv w' ∧ xFr [58, 59, 60, 61, 62, 63, 64, 65, 66, 67] w w') := by
  refine xPi.of ?_
  show xTo (d + 5) mX11_cut (0, [], [(0, (2, 0)), (1, (0, wh))], [], (w, bd, fc, 0, 0, rr)) (fun φ => ∃ n w', xEnd 1 [(0, n)] (w', bd, fc, 0, 0, rr) φ ∧ (n ≤ 4294967295) ∧ xInv w' ∧ xFr [58, 59, 60, 61, 62, 63, 64, 65, 66, 67] w w')
  refine xg_t (xg_blq rfl) ?_
  refine xg_t (xg_iload (va := (0, wh)) rfl rfl) ?_
  by_cases hc1 : wh < 2147483648
  · refine xg_t (xg_ifF (u := wh) rfl xnm0 (xjz_ltF hc1)) ?_
    refine xg_t (xg_iload (va := (0, wh)) rfl rfl) ?_
    refine xg_t (xg_const) ?_
    by_cases hc2 : 4 < wh
    · refine xg_t (xg_icF (u := wh) (v := 4) rfl xnm0 xnm0 (xj_leF hc2 (by omega))) ?_
      refine xg_t (xg_blq rfl) ?_
      refine xg_t (xg_const) ?_
      exact xg_e ⟨4294967295, w, ⟨rfl, rfl⟩, by first | decide | omega, hI, xFr.rf⟩
    · refine xg_t (xg_icT (u := wh) (v := 4) rfl xnm0 xnm0 (xj_leT (by omega) (by omega))) ?_
      refine xg_t (xg_blq rfl) ?_
      refine xg_t (xg_aload (va := (2, 0)) rfl rfl) ?_
      have h0_3 := (xqc0 hI : cp0 (wget w 0))
      refine xg_t (xg_getf (va := (2, 58)) h0_3 rfl) ?_
      refine xoC58 (xqc58 hI : cp58 (wget w 58)) (fun f58_4 f58_6 f58_8 h58_10 hb5 hb7 hb9 => ?_)
      refine xg_cVv mX10_refresh (vs := []) (rest := []) (cn1 := 0) (sl1 := 0) rfl (wyRefresh (hI)) rfl h58_10 rfl rfl rfl rfl rfl rfl (fun w11 hq12 => ?_)
      obtain ⟨hI13, hF14⟩ := hq12
      refine xg_t (xg_iload (va := (0, wh)) rfl rfl) ?_
      by_cases hc15 : wh = 0
      · refine xg_t (xg_ifF (u := wh) rfl xnm0 (xj_neF hc15)) ?_
        refine xg_t (xg_aload (va := (2, 0)) rfl rfl) ?_
        refine xg_t (xg_getf (va := (2, 58)) (hF14.get (by decide) h0_3) rfl) ?_
        refine xoC58 (xqc58 hI13 : cp58 (wget w11 58)) (fun f58_16 f58_18 f58_20 h58_22 hb17 hb19 hb21 => ?_)
        refine xg_t (xg_getf (va := (0, f58_18)) h58_22 rfl) ?_
        refine xg_t (xg_goto) ?_
        refine xg_t (xg_blq rfl) ?_
        exact xg_e ⟨f58_18, w11, ⟨rfl, rfl⟩, by omega, hI13, (hF14.up (by decide))⟩
      · refine xg_t (xg_ifT (u := wh) rfl xnm0 (xj_neT hc15)) ?_
        refine xg_t (xg_blq rfl) ?_
        refine xg_t (xg_aload (va := (2, 0)) rfl rfl) ?_
        refine xg_t (xg_getf (va := (2, 58)) (hF14.get (by decide) h0_3) rfl) ?_
        refine xg_t (xg_iload (va := (0, wh)) rfl rfl) ?_
        refine xg_t (xg_const) ?_
        refine xg_t (xg_isub (u := wh) (v := 1) (z := wh - 1) xnm0 xnm0 (by omega)) ?_
        refine xoC58 (xqc58 hI13 : cp58 (wget w11 58)) (fun f58_23 f58_25 f58_27 h58_29 hb24 hb26 hb28 => ?_)
        refine xg_cVi mX10_countCut (vs := [(0, wh - 1)]) (rest := []) (cn1 := 0) (sl1 := 0) rfl (wyCountCut (hI13) (by omega)) rfl h58_29 rfl rfl rfl rfl rfl rfl (fun n34 w30 hq31 => ?_)
        obtain ⟨hn35, hI32, hF33⟩ := hq31
        refine xg_t (xg_blq rfl) ?_
        exact xg_e ⟨n34, w30, ⟨rfl, rfl⟩, by omega, hI32, ((hF14.up (by decide)).tr (hF33.up (by decide)))⟩
  · refine xg_t (xg_ifT (u := wh) rfl xnm0 (xjz_ltT (by omega) (by omega))) ?_
    refine xg_t (xg_blq rfl) ?_
    refine xg_t (xg_const) ?_
    exact xg_e ⟨4294967295, w, ⟨rfl, rfl⟩, by first | decide | omega, hI, xFr.rf⟩
theorem scFed {ro : Nat} (hI : xInv w) (hro : ro ≤ 4294967295) : xPi (d + 5) mX11_fed [(2, 0), (0, ro)] w bd fc rr (fun n w' => (n ≤ 1) ∧ xInv w' ∧ xFr [58, 59, 60, 61, 62, 63, 64, 65, 66, 67] w w') := by
  refine xPi.of ?_
  show xTo (d + 5) mX11_fed (0, [], [(0, (2, 0)), (1, (0, ro))], [], (w, bd, fc, 0, 0, rr)) (fun φ => ∃ n w', xEnd 4 [(0, n)] (w', bd, fc, 0, 0, rr) φ ∧ (n ≤ 1) ∧ xInv w' ∧ xFr [58, 59, 60, 61, 62, 63, 64, 65, 66, 67] w w')
  have h0_1 := (xqc0 hI : cp0 (wget w 0))
  refine xoC1 (xqc1 hI : cp1 (wget w 1)) (fun f1_2 f1_4 f1_6 f1_8 f1_10 f1_12 h1_14 hb3 hb5 hb7 hb9 hb11 hb13 => ?_)
  refine xoC3 (xqc3 hI : cp3 (wget w 3)) (fun f3_15 f3_17 f3_19 f3_21 f3_23 h3_25 hb16 hb18 hb20 hb22 hb24 => ?_)
  refine xg_t (xg_blq rfl) ?_
  refine xg_t (xg_iload (va := (0, ro)) rfl rfl) ?_
  by_cases hc26 : ro < 2147483648
  · refine xg_t (xg_ifF (u := ro) rfl xnm0 (xjz_ltF hc26)) ?_
    refine xg_t (xg_iload (va := (0, ro)) rfl rfl) ?_
    refine xg_t (xg_aload (va := (2, 0)) rfl rfl) ?_
    refine xg_t (xg_getf (va := (2, 1)) h0_1 rfl) ?_
    refine xg_t (xg_getf (va := (2, 3)) h1_14 rfl) ?_
    refine xg_t (xg_getf (va := (0, f3_19)) h3_25 rfl) ?_
    by_cases hc27 : ro < f3_19
    · refine xg_t (xg_icT (u := ro) (v := f3_19) rfl xnm0 xnm0 (xj_ltT hc27 (by omega))) ?_
      refine xg_t (xg_blq rfl) ?_
      refine xg_t (xg_aload (va := (2, 0)) rfl rfl) ?_
      refine xg_t (xg_getf (va := (2, 58)) h0_1 rfl) ?_
      refine xoC58 (xqc58 hI : cp58 (wget w 58)) (fun f58_28 f58_30 f58_32 h58_34 hb29 hb31 hb33 => ?_)
      refine xg_cVv mX10_refresh (vs := []) (rest := []) (cn1 := 0) (sl1 := 0) rfl (wyRefresh (hI)) rfl h58_34 rfl rfl rfl rfl rfl rfl (fun w35 hq36 => ?_)
      obtain ⟨hI37, hF38⟩ := hq36
      refine xg_t (xg_aload (va := (2, 0)) rfl rfl) ?_
      refine xg_t (xg_getf (va := (2, 58)) (hF38.get (by decide) h0_1) rfl) ?_
      refine xoC58 (xqc58 hI37 : cp58 (wget w35 58)) (fun f58_39 f58_41 f58_43 h58_45 hb40 hb42 hb44 => ?_)
      refine xg_t (xg_getf (va := (2, 65)) h58_45 rfl) ?_
      refine xg_t (xg_iload (va := (0, ro)) rfl rfl) ?_
      obtain ⟨g65_46, h65_47, hb48⟩ := (xqc65 hI37 : cpK 2 0 6 37 1 (wget w35 65))
      have h65_47 : xRk 2 0 w35 65 6 37 g65_46 := h65_47
      refine xg_baldB (n := ro) (B := 1) h65_47 rfl (hb48) xnm0 (by omega) (fun u49 hu50 he51 => ?_)
      exact xg_e ⟨u49, w35, ⟨xret_b (by omega), rfl⟩, by omega, hI37, (hF38.up (by decide))⟩
    · refine xg_t (xg_icF (u := ro) (v := f3_19) rfl xnm0 xnm0 (xj_ltF (by omega) (by omega))) ?_
      refine xg_t (xg_blq rfl) ?_
      refine xg_t (xg_const) ?_
      exact xg_e ⟨0, w, ⟨rfl, rfl⟩, by first | decide | omega, hI, xFr.rf⟩
  · refine xg_t (xg_ifT (u := ro) rfl xnm0 (xjz_ltT (by omega) (by omega))) ?_
    refine xg_t (xg_blq rfl) ?_
    refine xg_t (xg_const) ?_
    exact xg_e ⟨0, w, ⟨rfl, rfl⟩, by first | decide | omega, hI, xFr.rf⟩
theorem scRefreshLamps (hI : xInv w)  : xPq (d + 5) mX11_refreshLamps [(2, 0)] w bd fc rr [] (fun w' => xInv w' ∧ xFr [58, 59, 60, 61, 62, 63, 64, 65, 66, 67, 68, 69, 70, 71] w w') := by
  refine xPq.of ?_
  show xTo (d + 5) mX11_refreshLamps (0, [], [(0, (2, 0))], [], (w, bd, fc, 0, 0, rr)) (fun φ => ∃ w', xEnd 0 [] (w', bd, fc, 0, 0, rr) φ ∧ xInv w' ∧ xFr [58, 59, 60, 61, 62, 63, 64, 65, 66, 67, 68, 69, 70, 71] w w')
  refine xg_t (xg_blq rfl) ?_
  refine xg_t (xg_aload (va := (2, 0)) rfl rfl) ?_
  have h0_1 := (xqc0 hI : cp0 (wget w 0))
  refine xg_t (xg_getf (va := (2, 58)) h0_1 rfl) ?_
  refine xoC58 (xqc58 hI : cp58 (wget w 58)) (fun f58_2 f58_4 f58_6 h58_8 hb3 hb5 hb7 => ?_)
  refine xg_cVv mX10_refresh (vs := []) (rest := []) (cn1 := 0) (sl1 := 0) rfl (wyRefresh (hI)) rfl h58_8 rfl rfl rfl rfl rfl rfl (fun w9 hq10 => ?_)
  obtain ⟨hI11, hF12⟩ := hq10
  refine xg_t (xg_aload (va := (2, 0)) rfl rfl) ?_
  refine xg_t (xg_getf (va := (2, 68)) (hF12.get (by decide) h0_1) rfl) ?_
  refine xoC68 (xqc68 hI11 : cp68 (wget w9 68)) (fun f68_13 f68_15 h68_17 hb14 hb16 => ?_)
  refine xg_cVv mX3_refreshAges (vs := []) (rest := []) (cn1 := 0) (sl1 := 0) rfl (lmRefreshAges (hI11)) rfl h68_17 rfl rfl rfl rfl rfl rfl (fun w18 hq19 => ?_)
  obtain ⟨hI20, hF21⟩ := hq19
  refine xg_t (xg_aload (va := (2, 0)) rfl rfl) ?_
  refine xg_t (xg_getf (va := (2, 68)) (hF21.get (by decide) (hF12.get (by decide) h0_1)) rfl) ?_
  refine xoC68 (xqc68 hI20 : cp68 (wget w18 68)) (fun f68_22 f68_24 h68_26 hb23 hb25 => ?_)
  refine xg_cVv mX3_refreshDamp (vs := []) (rest := []) (cn1 := 0) (sl1 := 0) rfl (lmRefreshDamp (hI20)) rfl h68_26 rfl rfl rfl rfl rfl rfl (fun w27 hq28 => ?_)
  obtain ⟨hI29, hF30⟩ := hq28
  exact xg_e ⟨w27, ⟨rfl, rfl⟩, hI29, (((hF12.up (by decide)).tr (hF21.up (by decide))).tr (hF30.up (by decide)))⟩
theorem scIsDark {ro co : Nat} (hI : xInv w) (hro : ro ≤ 5) (hco : co ≤ 5) : xPi (d + 2) mX11_isDark [(2, 0), (0, ro), (0, co)] w bd fc rr (fun n w' => (n ≤ 1) ∧ xInv w' ∧ xFr [] w w') := by
  refine xPi.of ?_
  show xTo (d + 2) mX11_isDark (0, [], [(0, (2, 0)), (1, (0, ro)), (2, (0, co))], [], (w, bd, fc, 0, 0, rr)) (fun φ => ∃ n w', xEnd 4 [(0, n)] (w', bd, fc, 0, 0, rr) φ ∧ (n ≤ 1) ∧ xInv w' ∧ xFr [] w w')
  refine xg_t (xg_blq rfl) ?_
  refine xg_t (xg_iload (va := (0, ro)) rfl rfl) ?_
  refine xg_t (xg_bip) ?_
  refine xg_t (xg_imul (u := ro) (v := 6) (z := ro * 6) xnm0 xnm0 (by omega)) ?_
  refine xg_t (xg_iload (va := (0, co)) rfl rfl) ?_
  refine xg_t (xg_iadd (u := ro * 6) (v := co) (z := (ro * 6) + co) xnm0 xnm0 (by omega)) ?_
  refine xg_t (xg_istore (l1 := [(0, (2, 0)), (1, (0, ro)), (2, (0, co))]) rfl rfl rfl) ?_
  refine xg_t (xg_aload (va := (2, 0)) rfl rfl) ?_
  have h0_1 := (xqc0 hI : cp0 (wget w 0))
  refine xg_t (xg_getf (va := (2, 58)) h0_1 rfl) ?_
  refine xoC58 (xqc58 hI : cp58 (wget w 58)) (fun f58_2 f58_4 f58_6 h58_8 hb3 hb5 hb7 => ?_)
  refine xg_t (xg_getf (va := (2, 65)) h58_8 rfl) ?_
  refine xg_t (xg_iload (va := (0, ro)) rfl rfl) ?_
  obtain ⟨g65_9, h65_10, hb11⟩ := (xqc65 hI : cpK 2 0 6 37 1 (wget w 65))
  have h65_10 : xRk 2 0 w 65 6 37 g65_9 := h65_10
  refine xg_baldB (n := ro) (B := 1) h65_10 rfl (hb11) xnm0 (by omega) (fun u12 hu13 he14 => ?_)
  by_cases hc15 : u12 = 0
  · refine xg_t (xg_ifT (u := u12) rfl xnm0 (xj_eqT hc15)) ?_
    refine xg_t (xg_blq rfl) ?_
    refine xg_t (xg_const) ?_
    refine xg_t (xg_goto) ?_
    refine xg_t (xg_blq rfl) ?_
    exact xg_e ⟨1, w, ⟨rfl, rfl⟩, by first | decide | omega, hI, xFr.rf⟩
  · refine xg_t (xg_ifF (u := u12) rfl xnm0 (xj_eqF hc15)) ?_
    refine xg_t (xg_aload (va := (2, 0)) rfl rfl) ?_
    refine xg_t (xg_getf (va := (2, 68)) h0_1 rfl) ?_
    refine xg_t (xg_iload (va := (0, (ro * 6) + co)) rfl rfl) ?_
    refine xoC68 (xqc68 hI : cp68 (wget w 68)) (fun f68_16 f68_18 h68_20 hb17 hb19 => ?_)
    refine xg_cVi mX3_leftOf (vs := [(0, (ro * 6) + co)]) (rest := []) (cn1 := 0) (sl1 := 0) rfl (lmLeftOf (hI) (by omega)) rfl h68_20 rfl rfl rfl rfl rfl rfl (fun n25 w21 hq22 => ?_)
    obtain ⟨hn26, hI23, hF24⟩ := hq22
    by_cases hc27 : n25 = 0
    · refine xg_t (xg_ifT (u := n25) rfl xnm0 (xj_eqT hc27)) ?_
      refine xg_t (xg_blq rfl) ?_
      refine xg_t (xg_const) ?_
      refine xg_t (xg_goto) ?_
      refine xg_t (xg_blq rfl) ?_
      exact xg_e ⟨1, w21, ⟨rfl, rfl⟩, by first | decide | omega, hI23, (hF24.up (by decide))⟩
    · refine xg_t (xg_ifF (u := n25) rfl xnm0 (xj_eqF hc27)) ?_
      refine xg_t (xg_aload (va := (2, 0)) rfl rfl) ?_
      refine xg_t (xg_getf (va := (2, 68)) (hF24.get (by decide) h0_1) rfl) ?_
      refine xg_t (xg_iload (va := (0, (ro * 6) + co)) rfl rfl) ?_
      refine xg_cVi mX3_isDamp (vs := [(0, (ro * 6) + co)]) (rest := []) (cn1 := 0) (sl1 := 0) rfl (lmIsDamp (hI23) (by omega)) rfl (hF24.get (by decide) h68_20) rfl rfl rfl rfl rfl rfl (fun n32 w28 hq29 => ?_)
      obtain ⟨hn33, hI30, hF31⟩ := hq29
      by_cases hc34 : n32 = 0
      · refine xg_t (xg_ifT (u := n32) rfl xnm0 (xj_eqT hc34)) ?_
        refine xg_t (xg_blq rfl) ?_
        refine xg_t (xg_const) ?_
        refine xg_t (xg_blq rfl) ?_
        exact xg_e ⟨0, w28, ⟨rfl, rfl⟩, by first | decide | omega, hI30, ((hF24.up (by decide)).tr (hF31.up (by decide)))⟩
      · refine xg_t (xg_ifF (u := n32) rfl xnm0 (xj_eqF hc34)) ?_
        refine xg_t (xg_blq rfl) ?_
        refine xg_t (xg_const) ?_
        refine xg_t (xg_goto) ?_
        refine xg_t (xg_blq rfl) ?_
        exact xg_e ⟨1, w28, ⟨rfl, rfl⟩, by first | decide | omega, hI30, ((hF24.up (by decide)).tr (hF31.up (by decide)))⟩
theorem scCountDark (hI : xInv w)  : xPi (d + 3) mX11_countDark [(2, 0)] w bd fc rr (fun n w' => (n ≤ 4294967295) ∧ xInv w' ∧ xFr [] w w') := by
  refine xPi.of ?_
  show xTo (d + 3) mX11_countDark (0, [], [(0, (2, 0))], [], (w, bd, fc, 0, 0, rr)) (fun φ => ∃ n w', xEnd 1 [(0, n)] (w', bd, fc, 0, 0, rr) φ ∧ (n ≤ 4294967295) ∧ xInv w' ∧ xFr [] w w')
  have h0_1 := (xqc0 hI : cp0 (wget w 0))
  refine xoC1 (xqc1 hI : cp1 (wget w 1)) (fun f1_2 f1_4 f1_6 f1_8 f1_10 f1_12 h1_14 hb3 hb5 hb7 hb9 hb11 hb13 => ?_)
  refine xoC3 (xqc3 hI : cp3 (wget w 3)) (fun f3_15 f3_17 f3_19 f3_21 f3_23 h3_25 hb16 hb18 hb20 hb22 hb24 => ?_)
  refine xg_t (xg_blq rfl) ?_
  refine xg_t (xg_const) ?_
  refine xg_t (xg_istore (l1 := [(0, (2, 0))]) rfl rfl rfl) ?_
  refine xg_t (xg_const) ?_
  refine xg_t (xg_istore (l1 := [(1, (0, 0)), (0, (2, 0))]) rfl rfl rfl) ?_
  refine xg_t (xg_drop (l1 := [(0, (2, 0)), (1, (0, 0)), (2, (0, 0))]) (List.forall_mem_cons.mpr ⟨List.mem_cons_of_mem _ (List.mem_cons_of_mem _ (List.mem_cons_self)), List.forall_mem_cons.mpr ⟨List.mem_cons_of_mem _ (List.mem_cons_self), List.forall_mem_cons.mpr ⟨List.mem_cons_self, fun _ h => absurd h List.not_mem_nil⟩⟩⟩)) ?_
  have key26 : ∀ (m28 : Nat) (da ro : Nat) (w29 : List (List xE)), 6 - ro < m28 → da ≤ 4294967295 → ro ≤ 6 → xInv w29 → xFr [] w w29 → xTo (d + 3) mX11_countDark (4, [], [(0, (2, 0)), (1, (0, da)), (2, (0, ro))], [], (w29, bd, fc, 0, 0, rr)) (fun φ => ∃ n w', xEnd 1 [(0, n)] (w', bd, fc, 0, 0, rr) φ ∧ (n ≤ 4294967295) ∧ xInv w' ∧ xFr [] w w') := by
    intro m28
    induction m28 with
    | zero => intro da ro w29 hz; exact absurd hz (Nat.not_lt_zero _)
    | succ m28 ih27 =>
      intro da ro w29 hm34 hn32 hn33 hI30 hF31
      refine xg_t (xg_blq rfl) ?_
      refine xg_t (xg_iload (va := (0, ro)) rfl rfl) ?_
      refine xg_t (xg_aload (va := (2, 0)) rfl rfl) ?_
      refine xg_t (xg_getf (va := (2, 1)) (hF31.get (by decide) h0_1) rfl) ?_
      refine xg_t (xg_getf (va := (2, 3)) (hF31.get (by decide) h1_14) rfl) ?_
      refine xg_t (xg_getf (va := (0, f3_19)) (hF31.get (by decide) h3_25) rfl) ?_
      by_cases hc35 : ro < f3_19
      · refine xg_t (xg_icF (u := ro) (v := f3_19) rfl xnm0 xnm0 (xj_geF hc35 (by omega))) ?_
        refine xg_t (xg_const) ?_
        refine xg_t (xg_istore (l1 := [(0, (2, 0)), (1, (0, da)), (2, (0, ro))]) rfl rfl rfl) ?_
        refine xg_t (xg_drop (l1 := [(0, (2, 0)), (1, (0, da)), (2, (0, ro)), (3, (0, 0))]) (List.forall_mem_cons.mpr ⟨List.mem_cons_of_mem _ (List.mem_cons_self), List.forall_mem_cons.mpr ⟨List.mem_cons_of_mem _ (List.mem_cons_of_mem _ (List.mem_cons_self)), List.forall_mem_cons.mpr ⟨List.mem_cons_of_mem _ (List.mem_cons_of_mem _ (List.mem_cons_of_mem _ (List.mem_cons_self))), List.forall_mem_cons.mpr ⟨List.mem_cons_self, fun _ h => absurd h List.not_mem_nil⟩⟩⟩⟩)) ?_
        have key36 : ∀ (m38 : Nat) (db co : Nat) (w39 : List (List xE)), 6 - co < m38 → db ≤ 4294967295 → co ≤ 6 → xInv w39 → xFr [] w w39 → xTo (d + 3) mX11_countDark (20, [], [(0, (2, 0)), (1, (0, db)), (2, (0, ro)), (3, (0, co))], [], (w39, bd, fc, 0, 0, rr)) (fun φ => ∃ n w', xEnd 1 [(0, n)] (w', bd, fc, 0, 0, rr) φ ∧ (n ≤ 4294967295) ∧ xInv w' ∧ xFr [] w w') := by
          intro m38
          induction m38 with
          | zero => intro db co w39 hz; exact absurd hz (Nat.not_lt_zero _)
          | succ m38 ih37 =>
            intro db co w39 hm44 hn42 hn43 hI40 hF41
            refine xg_t (xg_blq rfl) ?_
            refine xg_t (xg_iload (va := (0, co)) rfl rfl) ?_
            refine xg_t (xg_aload (va := (2, 0)) rfl rfl) ?_
            refine xg_t (xg_getf (va := (2, 1)) (hF41.get (by decide) h0_1) rfl) ?_
            refine xg_t (xg_getf (va := (2, 3)) (hF41.get (by decide) h1_14) rfl) ?_
            refine xg_t (xg_getf (va := (0, f3_21)) (hF41.get (by decide) h3_25) rfl) ?_
            by_cases hc45 : co < f3_21
            · refine xg_t (xg_icF (u := co) (v := f3_21) rfl xnm0 xnm0 (xj_geF hc45 (by omega))) ?_
              refine xg_t (xg_aload (va := (2, 0)) rfl rfl) ?_
              refine xg_t (xg_iload (va := (0, ro)) rfl rfl) ?_
              refine xg_t (xg_iload (va := (0, co)) rfl rfl) ?_
              refine xg_cVi mX11_isDark (vs := [(0, ro), (0, co)]) (rest := []) (cn1 := 0) (sl1 := 0) rfl (scIsDark (hI40) (by omega) (by omega)) rfl (hF41.get (by decide) h0_1) rfl rfl rfl rfl rfl rfl (fun n50 w46 hq47 => ?_)
              obtain ⟨hn51, hI48, hF49⟩ := hq47
              by_cases hc52 : n50 = 0
              · refine xg_t (xg_ifT (u := n50) rfl xnm0 (xj_eqT hc52)) ?_
                refine xg_t (xg_blq rfl) ?_
                refine xg_t (xg_iinc (u := co) (z := co + 1) (l1 := [(0, (2, 0)), (1, (0, db)), (2, (0, ro))]) rfl rfl (by omega) rfl) ?_
                refine xg_t (xg_goto) ?_
                refine xg_t (xg_drop (l1 := [(0, (2, 0)), (1, (0, db)), (2, (0, ro)), (3, (0, co + 1))]) (List.forall_mem_cons.mpr ⟨List.mem_cons_of_mem _ (List.mem_cons_self), List.forall_mem_cons.mpr ⟨List.mem_cons_of_mem _ (List.mem_cons_of_mem _ (List.mem_cons_self)), List.forall_mem_cons.mpr ⟨List.mem_cons_of_mem _ (List.mem_cons_of_mem _ (List.mem_cons_of_mem _ (List.mem_cons_self))), List.forall_mem_cons.mpr ⟨List.mem_cons_self, fun _ h => absurd h List.not_mem_nil⟩⟩⟩⟩)) ?_
                exact ih37 db (co + 1) w46 (by omega) (by omega) (by omega) (hI48) ((hF41.tr (hF49.up (by decide))))
              · refine xg_t (xg_ifF (u := n50) rfl xnm0 (xj_eqF hc52)) ?_
                refine xg_t (xg_iinc (u := db) (z := (db + 1) % 4294967296) (l1 := [(0, (2, 0)), (2, (0, ro)), (3, (0, co))]) rfl rfl (rfl) rfl) ?_
                refine xg_t (xg_blq rfl) ?_
                refine xg_t (xg_iinc (u := co) (z := co + 1) (l1 := [(1, (0, (db + 1) % 4294967296)), (0, (2, 0)), (2, (0, ro))]) rfl rfl (by omega) rfl) ?_
                refine xg_t (xg_goto) ?_
                refine xg_t (xg_drop (l1 := [(0, (2, 0)), (1, (0, (db + 1) % 4294967296)), (2, (0, ro)), (3, (0, co + 1))]) (List.forall_mem_cons.mpr ⟨List.mem_cons_of_mem _ (List.mem_cons_of_mem _ (List.mem_cons_self)), List.forall_mem_cons.mpr ⟨List.mem_cons_of_mem _ (List.mem_cons_self), List.forall_mem_cons.mpr ⟨List.mem_cons_of_mem _ (List.mem_cons_of_mem _ (List.mem_cons_of_mem _ (List.mem_cons_self))), List.forall_mem_cons.mpr ⟨List.mem_cons_self, fun _ h => absurd h List.not_mem_nil⟩⟩⟩⟩)) ?_
                exact ih37 ((db + 1) % 4294967296) (co + 1) w46 (by omega) (by omega) (by omega) (hI48) ((hF41.tr (hF49.up (by decide))))
            · refine xg_t (xg_icT (u := co) (v := f3_21) rfl xnm0 xnm0 (xj_geT (by omega) (by omega))) ?_
              refine xg_t (xg_blq rfl) ?_
              refine xg_t (xg_iinc (u := ro) (z := ro + 1) (l1 := [(0, (2, 0)), (1, (0, db)), (3, (0, co))]) rfl rfl (by omega) rfl) ?_
              refine xg_t (xg_goto) ?_
              refine xg_t (xg_drop (l1 := [(0, (2, 0)), (1, (0, db)), (2, (0, ro + 1))]) (List.forall_mem_cons.mpr ⟨List.mem_cons_of_mem _ (List.mem_cons_self), List.forall_mem_cons.mpr ⟨List.mem_cons_of_mem _ (List.mem_cons_of_mem _ (List.mem_cons_self)), List.forall_mem_cons.mpr ⟨List.mem_cons_self, fun _ h => absurd h List.not_mem_nil⟩⟩⟩)) ?_
              exact ih27 db (ro + 1) w39 (by omega) (by omega) (by omega) (hI40) (hF41)
        exact key36 _ da 0 w29 (Nat.lt_succ_self _) (by omega) (by omega) (hI30) (hF31)
      · refine xg_t (xg_icT (u := ro) (v := f3_19) rfl xnm0 xnm0 (xj_geT (by omega) (by omega))) ?_
        refine xg_t (xg_blq rfl) ?_
        refine xg_t (xg_iload (va := (0, da)) rfl rfl) ?_
        exact xg_e ⟨da, w29, ⟨rfl, rfl⟩, by omega, hI30, hF31⟩
  exact key26 _ 0 0 w (Nat.lt_succ_self _) (by omega) (by omega) (hI) (xFr.rf)
theorem scDark {ro co : Nat} (hI : xInv w) (hro : ro ≤ 4294967295) (hco : co ≤ 4294967295) : xPi (d + 6) mX11_dark [(2, 0), (0, ro), (0, co)] w bd fc rr (fun n w' => (n ≤ 1) ∧ xInv w' ∧ xFr [58, 59, 60, 61, 62, 63, 64, 65, 66, 67, 68, 69, 70, 71] w w') := by
  refine xPi.of ?_
  show xTo (d + 6) mX11_dark (0, [], [(0, (2, 0)), (1, (0, ro)), (2, (0, co))], [], (w, bd, fc, 0, 0, rr)) (fun φ => ∃ n w', xEnd 4 [(0, n)] (w', bd, fc, 0, 0, rr) φ ∧ (n ≤ 1) ∧ xInv w' ∧ xFr [58, 59, 60, 61, 62, 63, 64, 65, 66, 67, 68, 69, 70, 71] w w')
  refine xg_t (xg_blq rfl) ?_
  refine xg_t (xg_aload (va := (2, 0)) rfl rfl) ?_
  refine xg_t (xg_iload (va := (0, ro)) rfl rfl) ?_
  refine xg_t (xg_iload (va := (0, co)) rfl rfl) ?_
  have h0_1 := (xqc0 hI : cp0 (wget w 0))
  refine xg_cVi mX11_hasPoint (vs := [(0, ro), (0, co)]) (rest := []) (cn1 := 0) (sl1 := 0) rfl (scHasPoint (hI) (by omega) (by omega)) rfl h0_1 rfl rfl rfl rfl rfl rfl (fun n6 w2 hq3 => ?_)
  obtain ⟨hn7, hI4, hF5⟩ := hq3
  by_cases hc8 : n6 = 0
  · refine xg_t (xg_ifF (u := n6) rfl xnm0 (xj_neF hc8)) ?_
    refine xg_t (xg_const) ?_
    exact xg_e ⟨0, w2, ⟨rfl, rfl⟩, by first | decide | omega, hI4, (hF5.up (by decide))⟩
  · refine xg_t (xg_ifT (u := n6) rfl xnm0 (xj_neT hc8)) ?_
    refine xg_t (xg_blq rfl) ?_
    refine xg_t (xg_aload (va := (2, 0)) rfl rfl) ?_
    refine xg_cVv mX11_refreshLamps (vs := []) (rest := []) (cn1 := 0) (sl1 := 0) rfl (scRefreshLamps (hI4)) rfl (hF5.get (by decide) h0_1) rfl rfl rfl rfl rfl rfl (fun w9 hq10 => ?_)
    obtain ⟨hI11, hF12⟩ := hq10
    refine xg_t (xg_aload (va := (2, 0)) rfl rfl) ?_
    refine xg_t (xg_iload (va := (0, ro)) rfl rfl) ?_
    refine xg_t (xg_iload (va := (0, co)) rfl rfl) ?_
    refine xg_cVi mX11_isDark (vs := [(0, ro), (0, co)]) (rest := []) (cn1 := 0) (sl1 := 0) rfl (scIsDark (hI11) (by omega) (by omega)) rfl (hF12.get (by decide) (hF5.get (by decide) h0_1)) rfl rfl rfl rfl rfl rfl (fun n17 w13 hq14 => ?_)
    obtain ⟨hn18, hI15, hF16⟩ := hq14
    exact xg_e ⟨n17, w13, ⟨xret_b (by omega), rfl⟩, by omega, hI15, (((hF5.up (by decide)).tr (hF12.up (by decide))).tr (hF16.up (by decide)))⟩
theorem scDarks (hI : xInv w)  : xPi (d + 6) mX11_darks [(2, 0)] w bd fc rr (fun n w' => (n ≤ 4294967295) ∧ xInv w' ∧ xFr [58, 59, 60, 61, 62, 63, 64, 65, 66, 67, 68, 69, 70, 71] w w') := by
  refine xPi.of ?_
  show xTo (d + 6) mX11_darks (0, [], [(0, (2, 0))], [], (w, bd, fc, 0, 0, rr)) (fun φ => ∃ n w', xEnd 1 [(0, n)] (w', bd, fc, 0, 0, rr) φ ∧ (n ≤ 4294967295) ∧ xInv w' ∧ xFr [58, 59, 60, 61, 62, 63, 64, 65, 66, 67, 68, 69, 70, 71] w w')
  refine xg_t (xg_blq rfl) ?_
  refine xg_t (xg_aload (va := (2, 0)) rfl rfl) ?_
  have h0_1 := (xqc0 hI : cp0 (wget w 0))
  refine xg_cVv mX11_refreshLamps (vs := []) (rest := []) (cn1 := 0) (sl1 := 0) rfl (scRefreshLamps (hI)) rfl h0_1 rfl rfl rfl rfl rfl rfl (fun w2 hq3 => ?_)
  obtain ⟨hI4, hF5⟩ := hq3
  refine xg_t (xg_aload (va := (2, 0)) rfl rfl) ?_
  refine xg_cVi mX11_countDark (vs := []) (rest := []) (cn1 := 0) (sl1 := 0) rfl (scCountDark (hI4)) rfl (hF5.get (by decide) h0_1) rfl rfl rfl rfl rfl rfl (fun n10 w6 hq7 => ?_)
  obtain ⟨hn11, hI8, hF9⟩ := hq7
  exact xg_e ⟨n10, w6, ⟨rfl, rfl⟩, by omega, hI8, ((hF5.up (by decide)).tr (hF9.up (by decide)))⟩
theorem scLeads {ra ro co : Nat} (hI : xInv w) (hra : ra ≤ 1) (hro : ro ≤ 4294967295) (hco : co ≤ 4294967295) : xPi (d + 3) mX11_leads [(2, 0), (0, ra), (0, ro), (0, co)] w bd fc rr (fun n w' => (n ≤ 1) ∧ xInv w' ∧ xFr [] w w') := by
  refine xPi.of ?_
  show xTo (d + 3) mX11_leads (0, [], [(0, (2, 0)), (1, (0, ra)), (2, (0, ro)), (3, (0, co))], [], (w, bd, fc, 0, 0, rr)) (fun φ => ∃ n w', xEnd 4 [(0, n)] (w', bd, fc, 0, 0, rr) φ ∧ (n ≤ 1) ∧ xInv w' ∧ xFr [] w w')
  refine xg_t (xg_blq rfl) ?_
  refine xg_t (xg_aload (va := (2, 0)) rfl rfl) ?_
  refine xg_t (xg_iload (va := (0, ra)) rfl rfl) ?_
  refine xg_t (xg_iload (va := (0, ro)) rfl rfl) ?_
  refine xg_t (xg_iload (va := (0, co)) rfl rfl) ?_
  have h0_1 := (xqc0 hI : cp0 (wget w 0))
  refine xg_cVi mX11_hasPart (vs := [(0, ra), (0, ro), (0, co)]) (rest := []) (cn1 := 0) (sl1 := 0) rfl (scHasPart (hI) (by omega) (by omega) (by omega)) rfl h0_1 rfl rfl rfl rfl rfl rfl (fun n6 w2 hq3 => ?_)
  obtain ⟨hn7, hI4, hF5⟩ := hq3
  by_cases hc8 : n6 = 0
  · refine xg_t (xg_ifF (u := n6) rfl xnm0 (xj_neF hc8)) ?_
    refine xg_t (xg_const) ?_
    exact xg_e ⟨0, w2, ⟨rfl, rfl⟩, by first | decide | omega, hI4, (hF5.up (by decide))⟩
  · refine xg_t (xg_ifT (u := n6) rfl xnm0 (xj_neT hc8)) ?_
    refine xg_t (xg_blq rfl) ?_
    refine xg_t (xg_aload (va := (2, 0)) rfl rfl) ?_
    refine xg_t (xg_getf (va := (2, 1)) (hF5.get (by decide) h0_1) rfl) ?_
    refine xg_t (xg_iload (va := (0, ra)) rfl rfl) ?_
    refine xg_t (xg_iload (va := (0, ro)) rfl rfl) ?_
    refine xg_t (xg_iload (va := (0, co)) rfl rfl) ?_
    refine xoC1 (xqc1 hI4 : cp1 (wget w2 1)) (fun f1_9 f1_11 f1_13 f1_15 f1_17 f1_19 h1_21 hb10 hb12 hb14 hb16 hb18 hb20 => ?_)
    refine xg_cVi mX9_findCrack (vs := [(0, ra), (0, ro), (0, co)]) (rest := []) (cn1 := 0) (sl1 := 0) rfl (tdFindCrack (hI4) (by omega) (by omega) (by omega)) rfl h1_21 rfl rfl rfl rfl rfl rfl (fun n26 w22 hq23 => ?_)
    obtain ⟨hn27, hI24, hF25⟩ := hq23
    refine xg_t (xg_istore (l1 := [(0, (2, 0)), (1, (0, ra)), (2, (0, ro)), (3, (0, co))]) rfl rfl rfl) ?_
    refine xg_t (xg_iload (va := (0, n26)) rfl rfl) ?_
    refine xg_t (xg_const) ?_
    by_cases hc28 : n26 = 4294967295
    · refine xg_t (xg_icT (u := n26) (v := 4294967295) rfl xnm0 xnm0 (xj_eqT hc28)) ?_
      refine xg_t (xg_blq rfl) ?_
      refine xg_t (xg_const) ?_
      refine xg_t (xg_goto) ?_
      refine xg_t (xg_blq rfl) ?_
      exact xg_e ⟨1, w22, ⟨rfl, rfl⟩, by first | decide | omega, hI24, ((hF5.up (by decide)).tr (hF25.up (by decide)))⟩
    · refine xg_t (xg_icF (u := n26) (v := 4294967295) rfl xnm0 xnm0 (xj_eqF hc28)) ?_
      refine xg_t (xg_iload (va := (0, n26)) rfl rfl) ?_
      refine xg_t (xg_aload (va := (2, 0)) rfl rfl) ?_
      refine xg_t (xg_getf (va := (2, 1)) (hF25.get (by decide) (hF5.get (by decide) h0_1)) rfl) ?_
      refine xg_cVi mX9_cracksInView (vs := []) (rest := [(0, n26)]) (cn1 := 0) (sl1 := 0) rfl (tdCracksInView (hI24)) rfl (hF25.get (by decide) h1_21) rfl rfl rfl rfl rfl rfl (fun n33 w29 hq30 => ?_)
      obtain ⟨hn34, hI31, hF32⟩ := hq30
      by_cases hc35 : xbs n26 < xbs n33
      · have hc35u := hc35
        unfold xbs at hc35u
        have hn36 : n33 ≤ 40 := by omega
        refine xg_t (xg_icT (u := n26) (v := n33) rfl xnm0 xnm0 (xjs_ltT hc35)) ?_
        refine xg_t (xg_blq rfl) ?_
        refine xg_t (xg_const) ?_
        refine xg_t (xg_blq rfl) ?_
        exact xg_e ⟨0, w29, ⟨rfl, rfl⟩, by first | decide | omega, hI31, (((hF5.up (by decide)).tr (hF25.up (by decide))).tr (hF32.up (by decide)))⟩
      · have hc35u := hc35
        unfold xbs at hc35u
        have hn37 : n26 ≤ 2147483647 := by omega
        have hn38 : n33 ≤ 40 := by omega
        refine xg_t (xg_icF (u := n26) (v := n33) rfl xnm0 xnm0 (xjs_ltF hc35)) ?_
        refine xg_t (xg_blq rfl) ?_
        refine xg_t (xg_const) ?_
        refine xg_t (xg_goto) ?_
        refine xg_t (xg_blq rfl) ?_
        exact xg_e ⟨1, w29, ⟨rfl, rfl⟩, by first | decide | omega, hI31, (((hF5.up (by decide)).tr (hF25.up (by decide))).tr (hF32.up (by decide)))⟩
theorem scCost {cr co : Nat} (hI : xInv w) (hcr : cr ≤ 4294967295) (hco : co ≤ 4294967295) : xPi (d + 2) mX11_cost [(2, 0), (0, cr), (0, co)] w bd fc rr (fun n w' => (n ≤ 1) ∧ xInv w' ∧ xFr [15] w w') := by
  refine xPi.of ?_
  show xTo (d + 2) mX11_cost (0, [], [(0, (2, 0)), (1, (0, cr)), (2, (0, co))], [], (w, bd, fc, 0, 0, rr)) (fun φ => ∃ n w', xEnd 4 [(0, n)] (w', bd, fc, 0, 0, rr) φ ∧ (n ≤ 1) ∧ xInv w' ∧ xFr [15] w w')
  refine xg_t (xg_blq rfl) ?_
  refine xg_t (xg_aload (va := (2, 0)) rfl rfl) ?_
  have h0_1 := (xqc0 hI : cp0 (wget w 0))
  refine xg_t (xg_getf (va := (2, 1)) h0_1 rfl) ?_
  refine xoC1 (xqc1 hI : cp1 (wget w 1)) (fun f1_2 f1_4 f1_6 f1_8 f1_10 f1_12 h1_14 hb3 hb5 hb7 hb9 hb11 hb13 => ?_)
  refine xg_t (xg_getf (va := (2, 14)) h1_14 rfl) ?_
  refine xg_t (xg_iload (va := (0, cr)) rfl rfl) ?_
  obtain ⟨f14_15, h14_17, hb16⟩ := (xqc14 hI : cp14 (wget w 14))
  refine xg_t (xg_cVr mX5_has (vs := [(0, cr)]) (rest := []) (rs := [(0, if cr < f14_15 then 1 else 0)]) (cn1 := 0) (sl1 := 0) rfl (rhas_ok h14_17 (by decide) (by omega) (by omega)) rfl h14_17 rfl rfl rfl rfl rfl rfl rfl) ?_
  by_cases hc18 : cr < f14_15
  · refine xg_t (xg_ifF (u := (if cr < f14_15 then 1 else 0)) rfl xnm0 (xj_eqF (xite1 hc18))) ?_
    refine xg_t (xg_iload (va := (0, co)) rfl rfl) ?_
    refine xg_t (xg_const) ?_
    refine xg_t (xg_bip) ?_
    refine xg_t (xg_cSr mX11_isIn (vs := [(0, co), (0, 1), (0, 99)]) (rest := []) (rs := [(0, if 1 ≤ co ∧ co ≤ 99 then 1 else 0)]) (cn1 := 0) (sl1 := 0) rfl (isIn_ok (by omega) (by omega) (by omega)) rfl rfl rfl rfl rfl rfl rfl rfl) ?_
    by_cases hc19 : 1 ≤ co ∧ co ≤ 99
    · refine xg_t (xg_ifT (u := (if 1 ≤ co ∧ co ≤ 99 then 1 else 0)) rfl xnm0 (xj_neT (xite1 hc19))) ?_
      refine xg_t (xg_blq rfl) ?_
      refine xg_t (xg_aload (va := (2, 0)) rfl rfl) ?_
      refine xg_t (xg_getf (va := (2, 1)) h0_1 rfl) ?_
      refine xg_t (xg_getf (va := (2, 14)) h1_14 rfl) ?_
      refine xg_t (xg_iload (va := (0, cr)) rfl rfl) ?_
      refine xg_t (xg_const) ?_
      refine xg_t (xg_iload (va := (0, co)) rfl rfl) ?_
      refine xoI (xqc15 hI : cpI 200 6 4294967295 (wget w 15)) (fun g15_20 h15_21 hb22 => ?_)
      refine xg_cVv mX5_put (vs := [(0, cr), (0, 4), (0, co)]) (rest := []) (cn1 := 0) (sl1 := 0) rfl (rputI (lim := 40) (wd := 5) (B := 4294967295) h14_17 h15_21 (hb22) (by decide) (by omega) (by decide) (by decide) (by omega) (by omega) (by omega)) rfl h14_17 rfl rfl rfl rfl rfl rfl (fun w23 hq24 => ?_)
      obtain ⟨g25, hr26, hb27, hb28⟩ := hq24
      refine xg_t (xg_const) ?_
      exact xg_e ⟨1, w23, ⟨rfl, rfl⟩, by first | decide | omega, xInv.up (S := [15]) hI (xFr.of (S := [15]) hb28 (by decide)) (List.forall_mem_cons.mpr ⟨xqu15 (show cpI 200 6 4294967295 (wget w23 15) from ⟨_, hr26, hb27⟩), fun _ h => absurd h List.not_mem_nil⟩), (xFr.of (S := [15]) hb28 (by decide))⟩
    · refine xg_t (xg_ifF (u := (if 1 ≤ co ∧ co ≤ 99 then 1 else 0)) rfl xnm0 (xj_neF (xite0 hc19))) ?_
      refine xg_t (xg_blq rfl) ?_
      refine xg_t (xg_const) ?_
      exact xg_e ⟨0, w, ⟨rfl, rfl⟩, by first | decide | omega, hI, xFr.rf⟩
  · refine xg_t (xg_ifT (u := (if cr < f14_15 then 1 else 0)) rfl xnm0 (xj_eqT (xite0 hc18))) ?_
    refine xg_t (xg_blq rfl) ?_
    refine xg_t (xg_const) ?_
    exact xg_e ⟨0, w, ⟨rfl, rfl⟩, by first | decide | omega, hI, xFr.rf⟩
theorem scLasts {sh : Nat} (hI : xInv w) (hsh : sh ≤ 4294967295) : xPi (d + 4) mX11_lasts [(2, 0), (0, sh)] w bd fc rr (fun n w' => (n ≤ 4294967295) ∧ xInv w' ∧ xFr [68, 69] w w') := by
  refine xPi.of ?_
  show xTo (d + 4) mX11_lasts (0, [], [(0, (2, 0)), (1, (0, sh))], [], (w, bd, fc, 0, 0, rr)) (fun φ => ∃ n w', xEnd 1 [(0, n)] (w', bd, fc, 0, 0, rr) φ ∧ (n ≤ 4294967295) ∧ xInv w' ∧ xFr [68, 69] w w')
  refine xg_t (xg_blq rfl) ?_
  refine xg_t (xg_iload (va := (0, sh)) rfl rfl) ?_
  refine xg_t (xg_const) ?_
  refine xg_t (xg_const) ?_
  refine xg_t (xg_cSr mX11_isIn (vs := [(0, sh), (0, 0), (0, 5)]) (rest := []) (rs := [(0, if 0 ≤ sh ∧ sh ≤ 5 then 1 else 0)]) (cn1 := 0) (sl1 := 0) rfl (isIn_ok (by omega) (by omega) (by omega)) rfl rfl rfl rfl rfl rfl rfl rfl) ?_
  by_cases hc1 : 0 ≤ sh ∧ sh ≤ 5
  · refine xg_t (xg_ifF (u := (if 0 ≤ sh ∧ sh ≤ 5 then 1 else 0)) rfl xnm0 (xj_eqF (xite1 hc1))) ?_
    refine xg_t (xg_aload (va := (2, 0)) rfl rfl) ?_
    have h0_2 := (xqc0 hI : cp0 (wget w 0))
    refine xg_t (xg_getf (va := (2, 1)) h0_2 rfl) ?_
    refine xoC1 (xqc1 hI : cp1 (wget w 1)) (fun f1_3 f1_5 f1_7 f1_9 f1_11 f1_13 h1_15 hb4 hb6 hb8 hb10 hb12 hb14 => ?_)
    refine xg_t (xg_getf (va := (2, 16)) h1_15 rfl) ?_
    obtain ⟨f16_16, h16_18, hb17⟩ := (xqc16 hI : cp16 (wget w 16))
    refine xg_t (xg_getf (va := (0, f16_16)) h16_18 rfl) ?_
    by_cases hc19 : f16_16 = 0
    · refine xg_t (xg_ifF (u := f16_16) rfl xnm0 (xj_neF hc19)) ?_
      refine xg_t (xg_blq rfl) ?_
      refine xg_t (xg_const) ?_
      exact xg_e ⟨4294967295, w, ⟨rfl, rfl⟩, by first | decide | omega, hI, xFr.rf⟩
    · refine xg_t (xg_ifT (u := f16_16) rfl xnm0 (xj_neT hc19)) ?_
      refine xg_t (xg_blq rfl) ?_
      refine xg_t (xg_aload (va := (2, 0)) rfl rfl) ?_
      refine xg_t (xg_getf (va := (2, 68)) h0_2 rfl) ?_
      refine xoC68 (xqc68 hI : cp68 (wget w 68)) (fun f68_20 f68_22 h68_24 hb21 hb23 => ?_)
      refine xg_cVv mX3_refreshAges (vs := []) (rest := []) (cn1 := 0) (sl1 := 0) rfl (lmRefreshAges (hI)) rfl h68_24 rfl rfl rfl rfl rfl rfl (fun w25 hq26 => ?_)
      obtain ⟨hI27, hF28⟩ := hq26
      refine xg_t (xg_aload (va := (2, 0)) rfl rfl) ?_
      refine xg_t (xg_getf (va := (2, 68)) (hF28.get (by decide) h0_2) rfl) ?_
      refine xg_t (xg_iload (va := (0, sh)) rfl rfl) ?_
      refine xoC68 (xqc68 hI27 : cp68 (wget w25 68)) (fun f68_29 f68_31 h68_33 hb30 hb32 => ?_)
      refine xg_cVi mX3_roundsWith (vs := [(0, sh)]) (rest := []) (cn1 := 0) (sl1 := 0) rfl (lmRoundsWith (hI27) (by omega)) rfl h68_33 rfl rfl rfl rfl rfl rfl (fun n38 w34 hq35 => ?_)
      obtain ⟨hn39, hI36, hF37⟩ := hq35
      exact xg_e ⟨n38, w34, ⟨rfl, rfl⟩, by omega, hI36, ((hF28.up (by decide)).tr (hF37.up (by decide)))⟩
  · refine xg_t (xg_ifT (u := (if 0 ≤ sh ∧ sh ≤ 5 then 1 else 0)) rfl xnm0 (xj_eqT (xite0 hc1))) ?_
    refine xg_t (xg_blq rfl) ?_
    refine xg_t (xg_const) ?_
    exact xg_e ⟨4294967295, w, ⟨rfl, rfl⟩, by first | decide | omega, hI, xFr.rf⟩
end XSC
end
