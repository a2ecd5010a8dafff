/-! the model: laws and tests, to the last number -/
noncomputable def mT (w : List (List xE)) (j : Nat) : Nat := rwv w 83 (970 + j)
theorem mT_eq {w w' : List (List xE)} (h : wget w' 83 = wget w 83) : mT w' = mT w := funext fun _ => rwv_eq h
theorem tsV.fm {w w' : List (List xE)} (h : tsV (mT w) (rwv w 83 901)) (h1 : wget w' 83 = wget w 83) : tsV (mT w') (rwv w' 83 901) := by
  rw [mT_eq h1, rwv_eq h1]
  exact h
theorem tU_mon {la sp k : Nat} (hk : k ≤ la / 60) (h9 : sp ≤ 9) : (la % 60 + 1) * (10 - sp) ^ k ≤ tU la sp := Nat.mul_le_mul_left _ (Nat.pow_le_pow_right (by omega) hk)
section XTM
variable {d : Nat} {w : List (List xE)} {bd : List (Nat × Nat)} {fc : List (Nat × Nat × Bool)} {rr : Nat × Nat}
theorem mLawAtX {la sp : Nat} (hI : xMnv w) (hla : la ≤ 239) (h1 : 1 ≤ sp) (h9 : sp ≤ 9) : xPi d mX12_lawAt [(0, la), (0, sp)] w bd fc rr (fun n w' => (n = tU la sp ∧ n ≤ 43740) ∧ xMnv w' ∧ xFr [] w w') := by
  refine xPi.of ?_
  show xTo d mX12_lawAt (0, [], [(0, (0, la)), (1, (0, sp))], [], (w, bd, fc, 0, 0, rr)) (fun φ => ∃ n w', xEnd 1 [(0, n)] (w', bd, fc, 0, 0, rr) φ ∧ (n = tU la sp ∧ n ≤ 43740) ∧ xMnv w' ∧ xFr [] w w')
  refine xg_t (xg_blk (b := [(0, 1, 2, 0, 0, 0), (1, 2, 4, 60, 0, 0), (3, 1, 21, 0, 0, 0), (4, 1, 3, 1, 0, 0), (5, 1, 11, 0, 0, 0), (6, 1, 15, 2, 0, 0), (7, 1, 3, 0, 0, 0), (8, 1, 15, 3, 0, 0)]) rfl) ?_
  refine xg_t (xg_iload (va := (0, la)) rfl rfl) ?_
  refine xg_t (xg_bip) ?_
  refine xg_t (xg_irem (u := la) (v := 60) (z := la % 60) xnm0 xnm0 (by omega) (by decide) (by decide) (rfl)) ?_
  refine xg_t (xg_const) ?_
  refine xg_t (xg_iadd (u := la % 60) (v := 1) (z := (la % 60) + 1) xnm0 xnm0 (by omega)) ?_
  refine xg_t (xg_istore (l1 := [(0, (0, la)), (1, (0, sp))]) rfl rfl rfl) ?_
  refine xg_t (xg_const) ?_
  refine xg_t (xg_istore (l1 := [(2, (0, (la % 60) + 1)), (0, (0, la)), (1, (0, sp))]) rfl rfl rfl) ?_
  refine xg_t (xg_drop (l1 := [(0, (0, la)), (1, (0, sp)), (2, (0, (la % 60) + 1)), (3, (0, 0))]) (List.forall_mem_cons.mpr ⟨List.mem_cons_of_mem _ (List.mem_cons_of_mem _ (List.mem_cons_self)), List.forall_mem_cons.mpr ⟨List.mem_cons_of_mem _ (List.mem_cons_of_mem _ (List.mem_cons_of_mem _ (List.mem_cons_self))), List.forall_mem_cons.mpr ⟨List.mem_cons_of_mem _ (List.mem_cons_self), List.forall_mem_cons.mpr ⟨List.mem_cons_self, fun _ h => absurd h List.not_mem_nil⟩⟩⟩⟩)) ?_
  have key1 : ∀ (m3 : Nat) (vv ki : Nat) (w4 : List (List xE)), 4 - ki < m3 → vv ≤ 43740 → ki ≤ 4 → xMnv w4 → xFr [] w w4 → vv = (la % 60 + 1) * (10 - sp) ^ ki ∧ ki ≤ la / 60 → xTo d mX12_lawAt (9, [], [(0, (0, la)), (1, (0, sp)), (2, (0, vv)), (3, (0, ki))], [], (w4, bd, fc, 0, 0, rr)) (fun φ => ∃ n w', xEnd 1 [(0, n)] (w', bd, fc, 0, 0, rr) φ ∧ (n = tU la sp ∧ n ≤ 43740) ∧ xMnv w' ∧ xFr [] w w') := by
    intro m3
    induction m3 with
    | zero => intro vv ki w4 hz; exact absurd hz (Nat.not_lt_zero _)
    | succ m3 ih2 =>
      intro vv ki w4 hm10 hn7 hn8 hI5 hF6 he9
      obtain ⟨he11, he12⟩ := he9
      refine xg_t (xg_blk (b := [(9, 1, 2, 3, 0, 0), (10, 1, 2, 0, 0, 0), (11, 2, 4, 60, 0, 0), (13, 1, 20, 0, 0, 0), (14, 3, 6, 30, 3, 0), (17, 1, 2, 2, 0, 0), (18, 2, 4, 10, 0, 0), (20, 1, 2, 1, 0, 0), (21, 1, 18, 0, 0, 0), (22, 1, 16, 0, 0, 0), (23, 1, 15, 2, 0, 0), (24, 3, 9, 3, 1, 0), (27, 3, 8, 9, 0, 0)]) rfl) ?_
      refine xg_t (xg_iload (va := (0, ki)) rfl rfl) ?_
      refine xg_t (xg_iload (va := (0, la)) rfl rfl) ?_
      refine xg_t (xg_bip) ?_
      refine xg_t (xg_idiv (u := la) (v := 60) (z := la / 60) xnm0 xnm0 (by omega) (by decide) (by decide) (rfl)) ?_
      by_cases hc13 : ki < (la / 60)
      · refine xg_t (xg_icF (u := ki) (v := la / 60) rfl xnm0 xnm0 (xj_geF hc13 (by omega))) ?_
        refine xg_t (xg_iload (va := (0, vv)) rfl rfl) ?_
        refine xg_t (xg_bip) ?_
        refine xg_t (xg_iload (va := (0, sp)) rfl rfl) ?_
        refine xg_t (xg_isub (u := 10) (v := sp) (z := 10 - sp) xnm0 xnm0 (by omega)) ?_
        have hs14 := tU_up he11
        have hs15 := tU_mon (la := la) (sp := sp) (k := ki + 1) (by omega) h9
        obtain ⟨hs16, hs17⟩ := tU_le hla h1 h9
        refine xg_t (xg_imul (u := vv) (v := 10 - sp) (z := vv * (10 - sp)) xnm0 xnm0 (Nat.mod_eq_of_lt (by omega))) ?_
        refine xg_t (xg_istore (l1 := [(0, (0, la)), (1, (0, sp)), (3, (0, ki))]) rfl rfl rfl) ?_
        refine xg_t (xg_iinc (u := ki) (z := ki + 1) (l1 := [(2, (0, vv * (10 - sp))), (0, (0, la)), (1, (0, sp))]) rfl rfl (by omega) rfl) ?_
        refine xg_t (xg_goto) ?_
        refine xg_t (xg_drop (l1 := [(0, (0, la)), (1, (0, sp)), (2, (0, vv * (10 - sp))), (3, (0, ki + 1))]) (List.forall_mem_cons.mpr ⟨List.mem_cons_of_mem _ (List.mem_cons_of_mem _ (List.mem_cons_self)), List.forall_mem_cons.mpr ⟨List.mem_cons_of_mem _ (List.mem_cons_of_mem _ (List.mem_cons_of_mem _ (List.mem_cons_self))), List.forall_mem_cons.mpr ⟨List.mem_cons_of_mem _ (List.mem_cons_self), List.forall_mem_cons.mpr ⟨List.mem_cons_self, fun _ h => absurd h List.not_mem_nil⟩⟩⟩⟩)) ?_
        exact ih2 (vv * (10 - sp)) (ki + 1) w4 (by omega) (by omega) (by omega) (hI5) (hF6) (⟨hs14, by omega⟩)
      · refine xg_t (xg_icT (u := ki) (v := la / 60) rfl xnm0 xnm0 (xj_geT (by omega) (by omega))) ?_
        refine xg_t (xg_blk (b := [(30, 1, 2, 2, 0, 0), (31, 1, 12, 0, 1, 0)]) rfl) ?_
        refine xg_t (xg_iload (va := (0, vv)) rfl rfl) ?_
        exact xg_e ⟨vv, w4, ⟨rfl, rfl⟩, ⟨by rw [he11, show ki = la / 60 by omega]; rfl, by omega⟩, hI5, hF6⟩
  exact key1 _ ((la % 60) + 1) 0 w (Nat.lt_succ_self _) (by omega) (by omega) (hI) (xFr.rf) (⟨(Nat.mul_one _).symm, Nat.zero_le _⟩)
theorem mKeepsX (hI : xMnv w) (hV : tsV (mT w) (rwv w 83 901)) : xPq (d + 1) mX12_keeps [(2, 82)] w bd fc rr [] (fun w' => xMnv w' ∧ xFr [111] w w' ∧ (∀ i, i < 240 → rwv w' 111 i = tM (mT w) i (rwv w 83 901))) := by
  refine xPq.of ?_
  show xTo (d + 1) mX12_keeps (0, [], [(0, (2, 82))], [], (w, bd, fc, 0, 0, rr)) (fun φ => ∃ w', xEnd 0 [] (w', bd, fc, 0, 0, rr) φ ∧ xMnv w' ∧ xFr [111] w w' ∧ (∀ i, i < 240 → rwv w' 111 i = tM (mT w) i (rwv w 83 901)))
  obtain ⟨f82_1, f82_3, f82_5, f82_7, f82_9, f82_11, f82_13, f82_15, f82_17, f82_19, f82_21, f82_22, f82_23, f82_25, f82_27, f82_29, h82_31, hb2, hb4, hb6, hb8, hb10, hb12, hb14, hb16, hb18, hb20, hb24, hb26, hb28, hb30, hb32⟩ := (hI 82 (by decide) (by decide) : cp82 (wget w 82))
  obtain ⟨g83_33, h83_34, hb35, hx36⟩ := (hI 83 (by decide) (by decide) : cpx83 (wget w 83))
  have h83_34 : xRow w 83 5360 50 g83_33 := h83_34
  obtain ⟨hv1, hv2⟩ := hV
  refine xg_t (xg_blk (b := [(0, 1, 3, 0, 0, 0), (1, 1, 15, 1, 0, 0)]) rfl) ?_
  refine xg_t (xg_const) ?_
  refine xg_t (xg_istore (l1 := [(0, (2, 82))]) rfl rfl rfl) ?_
  refine xg_t (xg_drop (l1 := [(0, (2, 82)), (1, (0, 0))]) (List.forall_mem_cons.mpr ⟨List.mem_cons_of_mem _ (List.mem_cons_self), List.forall_mem_cons.mpr ⟨List.mem_cons_self, fun _ h => absurd h List.not_mem_nil⟩⟩)) ?_
  have key37 : ∀ (m39 : Nat) (li : Nat) (w40 : List (List xE)), 240 - li < m39 → li ≤ 240 → xMnv w40 → xFr [111] w w40 → (∀ i, i < li → rwv w40 111 i = tM (mT w) i (rwv w 83 901)) → xTo (d + 1) mX12_keeps (2, [], [(0, (2, 82)), (1, (0, li))], [], (w40, bd, fc, 0, 0, rr)) (fun φ => ∃ w', xEnd 0 [] (w', bd, fc, 0, 0, rr) φ ∧ xMnv w' ∧ xFr [111] w w' ∧ (∀ i, i < 240 → rwv w' 111 i = tM (mT w) i (rwv w 83 901))) := by
    intro m39
    induction m39 with
    | zero => intro li w40 hz; exact absurd hz (Nat.not_lt_zero _)
    | succ m39 ih38 =>
      intro li w40 hm45 hn43 hI41 hF42 he44
      obtain ⟨g111_46, h111_47, hb48⟩ := (hI41 111 (by decide) (by decide) : cpI 240 78 4294967295 (wget w40 111))
      have h111_47 : xRow w40 111 240 78 g111_46 := h111_47
      refine xg_t (xg_blk (b := [(2, 1, 2, 1, 0, 0), (3, 3, 5, 240, 0, 0), (6, 3, 6, 148, 3, 0), (9, 1, 0, 0, 0, 0), (10, 3, 1, 12, 44, 96), (13, 1, 2, 1, 0, 0), (14, 1, 3, 0, 0, 0), (15, 1, 17, 0, 0, 0), (16, 1, 3, 0, 0, 0), (17, 1, 15, 2, 0, 0)]) rfl) ?_
      refine xg_t (xg_iload (va := (0, li)) rfl rfl) ?_
      refine xg_t (xg_sip) ?_
      by_cases hc49 : li < 240
      · refine xg_t (xg_icF (u := li) (v := 240) rfl xnm0 xnm0 (xj_geF hc49 (by omega))) ?_
        refine xg_t (xg_aload (va := (2, 82)) rfl rfl) ?_
        refine xg_t (xg_getf (va := (2, 111)) (hF42.get (by decide) h82_31) rfl) ?_
        refine xg_t (xg_iload (va := (0, li)) rfl rfl) ?_
        refine xg_t (xg_const) ?_
        refine xg_iastK (n := li) (u := 0) h111_47 xnm0 xnm0 rfl (by omega) (fun w50 hr51 hb52 => ?_)
        refine xg_t (xg_const) ?_
        refine xg_t (xg_istore (l1 := [(0, (2, 82)), (1, (0, li))]) rfl rfl rfl) ?_
        refine xg_t (xg_drop (l1 := [(0, (2, 82)), (1, (0, li)), (2, (0, 0))]) (List.forall_mem_cons.mpr ⟨List.mem_cons_of_mem _ (List.mem_cons_self), List.forall_mem_cons.mpr ⟨List.mem_cons_of_mem _ (List.mem_cons_of_mem _ (List.mem_cons_self)), List.forall_mem_cons.mpr ⟨List.mem_cons_self, fun _ h => absurd h List.not_mem_nil⟩⟩⟩)) ?_
        have hq59 : (∀ i, i < li → rwv w50 111 i = tM (mT w) i (rwv w 83 901)) := fun i hi => by
          rw [rwv_of hr51 (by omega)]
          exact (if_neg (by omega)).trans ((rwv_of h111_47 (by omega)).symm.trans (he44 i hi))
        have key53 : ∀ (m55 : Nat) (ki : Nat) (w56 : List (List xE)), 12 - ki < m55 → ki ≤ 12 → xMnv w56 → xFr [111] w w56 → ((∀ i, i < li → rwv w56 111 i = tM (mT w) i (rwv w 83 901)) ∧ rwv w56 111 li = tM (mT w) li ki ∧ ki ≤ rwv w 83 901) → xTo (d + 1) mX12_keeps (18, [], [(0, (2, 82)), (1, (0, li)), (2, (0, ki))], [], (w56, bd, fc, 0, 0, rr)) (fun φ => ∃ w', xEnd 0 [] (w', bd, fc, 0, 0, rr) φ ∧ xMnv w' ∧ xFr [111] w w' ∧ (∀ i, i < 240 → rwv w' 111 i = tM (mT w) i (rwv w 83 901))) := by
          intro m55
          induction m55 with
          | zero => intro ki w56 hz; exact absurd hz (Nat.not_lt_zero _)
          | succ m55 ih54 =>
            intro ki w56 hm62 hn60 hI57 hF58 he61
            obtain ⟨g111_63, h111_64, hb65⟩ := (hI57 111 (by decide) (by decide) : cpI 240 78 4294967295 (wget w56 111))
            have h111_64 : xRow w56 111 240 78 g111_63 := h111_64
            obtain ⟨he66, he67, he68⟩ := he61
            refine xg_t (xg_blk (b := [(18, 1, 2, 2, 0, 0), (19, 1, 0, 0, 0, 0), (20, 3, 1, 12, 0, 7), (23, 3, 5, 901, 0, 0), (26, 1, 10, 0, 0, 0), (27, 3, 6, 142, 3, 0), (30, 3, 5, 970, 0, 0), (33, 1, 3, 4, 0, 0), (34, 1, 2, 2, 0, 0), (35, 1, 16, 0, 0, 0), (36, 1, 11, 0, 0, 0), (37, 1, 15, 3, 0, 0), (38, 1, 2, 1, 0, 0), (39, 1, 0, 0, 0, 0), (40, 3, 1, 12, 0, 7), (43, 1, 2, 3, 0, 0), (44, 1, 10, 0, 0, 0), (45, 3, 13, 179, 98, 397), (48, 2, 15, 4, 0, 0), (50, 1, 0, 0, 0, 0), (51, 3, 1, 12, 0, 7), (54, 1, 2, 3, 0, 0), (55, 1, 3, 3, 0, 0), (56, 1, 11, 0, 0, 0), (57, 1, 10, 0, 0, 0), (58, 3, 7, 77, 0, 0), (61, 1, 0, 0, 0, 0), (62, 3, 1, 12, 0, 7), (65, 1, 2, 3, 0, 0), (66, 1, 3, 1, 0, 0), (67, 1, 11, 0, 0, 0), (68, 1, 10, 0, 0, 0), (69, 2, 4, 8, 0, 0), (71, 2, 2, 4, 0, 0), (73, 1, 16, 0, 0, 0), (74, 3, 6, 116, 2, 0)]) rfl) ?_
            refine xg_t (xg_iload (va := (0, ki)) rfl rfl) ?_
            refine xg_t (xg_aload (va := (2, 82)) rfl rfl) ?_
            refine xg_t (xg_getf (va := (2, 83)) (hF58.get (by decide) h82_31) rfl) ?_
            refine xg_t (xg_sip) ?_
            refine xg_ialdB (n := 901) (B := 4294967295) (h83_34.fr hF58 (by decide)) (hb35) xnm0 (by omega) (fun u69 hu70 he71 => ?_)
            have hl72 : u69 ≤ 12 := by rw [← he71]; exact hx36.l901
            have hq73 : rwv w 83 901 = u69 := (rwv_of h83_34 (by omega)).trans he71
            by_cases hc74 : ki < u69
            · refine xg_t (xg_icF (u := ki) (v := u69) rfl xnm0 xnm0 (xj_geF hc74 (by omega))) ?_
              have hv75 := hv2 ki (by omega)
              refine xg_t (xg_sip) ?_
              refine xg_t (xg_const) ?_
              refine xg_t (xg_iload (va := (0, ki)) rfl rfl) ?_
              refine xg_t (xg_imul (u := 4) (v := ki) (z := 4 * ki) xnm0 xnm0 (by omega)) ?_
              refine xg_t (xg_iadd (u := 970) (v := 4 * ki) (z := 970 + (4 * ki)) xnm0 xnm0 (by omega)) ?_
              refine xg_t (xg_istore (l1 := [(0, (2, 82)), (1, (0, li)), (2, (0, ki))]) rfl rfl rfl) ?_
              refine xg_t (xg_iload (va := (0, li)) rfl rfl) ?_
              refine xg_t (xg_aload (va := (2, 82)) rfl rfl) ?_
              refine xg_t (xg_getf (va := (2, 83)) (hF58.get (by decide) h82_31) rfl) ?_
              refine xg_t (xg_iload (va := (0, 970 + (4 * ki))) rfl rfl) ?_
              refine xg_ialdB (n := 970 + (4 * ki)) (B := 4294967295) (h83_34.fr hF58 (by decide)) (hb35) xnm0 (by omega) (fun u76 hu77 he78 => ?_)
              have ht79 : mT w (4 * ki) = u76 := (rwv_of h83_34 (by omega)).trans (by rw [show 970 + (4 * ki) = 970 + (4 * ki) by omega]; exact he78)
              have ht80 : 1 ≤ u76 ∧ u76 ≤ 9 := by omega
              refine xg_cSi mX12_lawAt (vs := [(0, li), (0, u76)]) (rest := []) (cn1 := 0) (sl1 := 0) rfl (mLawAtX (hI57) (by omega) (by omega) (by omega)) rfl rfl rfl rfl rfl rfl rfl (fun n85 w81 hq82 => ?_)
              obtain ⟨hn86, hI83, hF84⟩ := hq82
              obtain ⟨hu87, hu88⟩ := hn86
              refine xg_t (xg_istore (l1 := [(3, (0, 970 + (4 * ki))), (0, (2, 82)), (1, (0, li)), (2, (0, ki))]) rfl rfl rfl) ?_
              refine xg_t (xg_aload (va := (2, 82)) rfl rfl) ?_
              refine xg_t (xg_getf (va := (2, 83)) (hF84.get (by decide) (hF58.get (by decide) h82_31)) rfl) ?_
              refine xg_t (xg_iload (va := (0, 970 + (4 * ki))) rfl rfl) ?_
              refine xg_t (xg_const) ?_
              refine xg_t (xg_iadd (u := 970 + (4 * ki)) (v := 3) (z := (970 + (4 * ki)) + 3) xnm0 xnm0 (by omega)) ?_
              refine xg_ialdB (n := (970 + (4 * ki)) + 3) (B := 4294967295) ((h83_34.fr hF58 (by decide)).fr hF84 (by decide)) (hb35) xnm0 (by omega) (fun u89 hu90 he91 => ?_)
              have ht92 : mT w (4 * ki + 3) = u89 := (rwv_of h83_34 (by omega)).trans (by rw [show 970 + (4 * ki + 3) = (970 + (4 * ki)) + 3 by omega]; exact he91)
              have ht93 : u89 ≤ 99 := by omega
              by_cases hc94 : u89 = 0
              · refine xg_t (xg_ifT (u := u89) rfl xnm0 (xj_eqT hc94)) ?_
                refine xg_t (xg_blk (b := [(77, 1, 0, 0, 0, 0), (78, 3, 1, 12, 0, 7), (81, 1, 2, 3, 0, 0), (82, 1, 3, 3, 0, 0), (83, 1, 11, 0, 0, 0), (84, 1, 10, 0, 0, 0), (85, 1, 0, 0, 0, 0), (86, 3, 1, 12, 0, 7), (89, 1, 2, 3, 0, 0), (90, 1, 3, 2, 0, 0), (91, 1, 11, 0, 0, 0), (92, 1, 10, 0, 0, 0), (93, 3, 6, 112, 0, 0), (96, 1, 0, 0, 0, 0), (97, 3, 1, 12, 0, 7), (100, 1, 2, 3, 0, 0), (101, 1, 3, 1, 0, 0), (102, 1, 11, 0, 0, 0), (103, 1, 10, 0, 0, 0), (104, 2, 4, 12, 0, 0), (106, 2, 2, 4, 0, 0), (108, 1, 16, 0, 0, 0), (109, 3, 6, 116, 3, 0)]) rfl) ?_
                refine xg_t (xg_aload (va := (2, 82)) rfl rfl) ?_
                refine xg_t (xg_getf (va := (2, 83)) (hF84.get (by decide) (hF58.get (by decide) h82_31)) rfl) ?_
                refine xg_t (xg_iload (va := (0, 970 + (4 * ki))) rfl rfl) ?_
                refine xg_t (xg_const) ?_
                refine xg_t (xg_iadd (u := 970 + (4 * ki)) (v := 3) (z := (970 + (4 * ki)) + 3) xnm0 xnm0 (by omega)) ?_
                refine xg_ialdB (n := (970 + (4 * ki)) + 3) (B := 4294967295) ((h83_34.fr hF58 (by decide)).fr hF84 (by decide)) (hb35) xnm0 (by omega) (fun u95 hu96 he97 => ?_)
                have ht98 : mT w (4 * ki + 3) = u95 := (rwv_of h83_34 (by omega)).trans (by rw [show 970 + (4 * ki + 3) = (970 + (4 * ki)) + 3 by omega]; exact he97)
                have ht99 : u95 ≤ 99 := by omega
                refine xg_t (xg_aload (va := (2, 82)) rfl rfl) ?_
                refine xg_t (xg_getf (va := (2, 83)) (hF84.get (by decide) (hF58.get (by decide) h82_31)) rfl) ?_
                refine xg_t (xg_iload (va := (0, 970 + (4 * ki))) rfl rfl) ?_
                refine xg_t (xg_const) ?_
                refine xg_t (xg_iadd (u := 970 + (4 * ki)) (v := 2) (z := (970 + (4 * ki)) + 2) xnm0 xnm0 (by omega)) ?_
                refine xg_ialdB (n := (970 + (4 * ki)) + 2) (B := 4294967295) ((h83_34.fr hF58 (by decide)).fr hF84 (by decide)) (hb35) xnm0 (by omega) (fun u100 hu101 he102 => ?_)
                have ht103 : mT w (4 * ki + 2) = u100 := (rwv_of h83_34 (by omega)).trans (by rw [show 970 + (4 * ki + 2) = (970 + (4 * ki)) + 2 by omega]; exact he102)
                have ht104 : u100 ≤ 99 := by omega
                by_cases hc105 : u95 = u100
                · refine xg_t (xg_icT (u := u95) (v := u100) rfl xnm0 xnm0 (xj_eqT hc105)) ?_
                  refine xg_t (xg_blk (b := [(112, 1, 3, 1, 0, 0), (113, 3, 8, 117, 0, 0)]) rfl) ?_
                  refine xg_t (xg_const) ?_
                  refine xg_t (xg_goto) ?_
                  refine xg_t (xg_blk (b := [(117, 2, 15, 5, 0, 0), (119, 2, 2, 5, 0, 0), (121, 3, 7, 136, 0, 0), (124, 1, 0, 0, 0, 0), (125, 3, 1, 12, 44, 96), (128, 1, 2, 1, 0, 0), (129, 1, 39, 0, 0, 0), (130, 1, 10, 0, 0, 0), (131, 1, 3, 1, 0, 0), (132, 1, 2, 2, 0, 0), (133, 1, 26, 0, 0, 0), (134, 1, 38, 0, 0, 0), (135, 1, 17, 0, 0, 0)]) rfl) ?_
                  refine xg_t (xg_istore (l1 := [(4, (0, n85)), (3, (0, 970 + (4 * ki))), (0, (2, 82)), (1, (0, li)), (2, (0, ki))]) rfl rfl rfl) ?_
                  refine xg_t (xg_iload (va := (0, 1)) rfl rfl) ?_
                  refine xg_t (xg_ifF (u := 1) rfl xnm0 (by decide)) ?_
                  refine xg_t (xg_aload (va := (2, 82)) rfl rfl) ?_
                  refine xg_t (xg_getf (va := (2, 111)) (hF84.get (by decide) (hF58.get (by decide) h82_31)) rfl) ?_
                  refine xg_t (xg_iload (va := (0, li)) rfl rfl) ?_
                  refine xg_t (xg_dup2 rfl) ?_
                  refine xg_ialdB (n := li) (B := 4294967295) (h111_64.fr hF84 (by decide)) (hb65) xnm0 (by omega) (fun u106 hu107 he108 => ?_)
                  refine xg_t (xg_const) ?_
                  refine xg_t (xg_iload (va := (0, ki)) rfl rfl) ?_
                  have hz109 : 2 ^ ki ≤ 2048 := by
                    have k : ∀ n, n ≤ 11 → 2 ^ n ≤ 2048 := by decide
                    exact k _ (by omega)
                  have hz110 : 1 ≤ 2 ^ ki := Nat.one_le_two_pow
                  refine xg_t (xg_ishl (u := 1) (v := ki) (z := 2 ^ ki) xnm0 xnm0 (by omega) (by rw [Nat.one_mul]; exact Nat.mod_eq_of_lt (by omega))) ?_
                  have hb111 : tB (mT w) ki li = false := tB_f ht79 rfl ht103 ht98 (by omega)
                  have hq114 : u106 = tM (mT w) li ki := he108.symm.trans ((rwv_of h111_64 (by omega)).symm.trans he67)
                  have hl112 := tM_lt (t := mT w) (la := li) (ki + 1)
                  rw [tM_y hb111] at hl112
                  have hl113 : 2 ^ (ki + 1) ≤ 4096 := by
                    have k : ∀ n, n ≤ 12 → 2 ^ n ≤ 4096 := by decide
                    exact k _ (by omega)
                  refine xg_t (xg_ior (u := u106) (v := 2 ^ ki) (z := u106 + 2 ^ ki) xnm0 xnm0 (by rw [hq114]; exact tM_or)) ?_
                  have hq115 : u106 + 2 ^ ki = tM (mT w) li ki + 2 ^ ki := by rw [hq114]
                  have hl116 : u106 + 2 ^ ki ≤ 4095 := by omega
                  refine xg_iastK (n := li) (u := u106 + 2 ^ ki) (h111_64.fr hF84 (by decide)) xnm0 xnm0 rfl (by omega) (fun w117 hr118 hb119 => ?_)
                  refine xg_t (xg_blk (b := [(136, 3, 9, 2, 1, 0), (139, 3, 8, 18, 0, 0)]) rfl) ?_
                  refine xg_t (xg_iinc (u := ki) (z := ki + 1) (l1 := [(5, (0, 1)), (4, (0, n85)), (3, (0, 970 + (4 * ki))), (0, (2, 82)), (1, (0, li))]) rfl rfl (by omega) rfl) ?_
                  refine xg_t (xg_goto) ?_
                  refine xg_t (xg_drop (l1 := [(0, (2, 82)), (1, (0, li)), (2, (0, ki + 1))]) (List.forall_mem_cons.mpr ⟨List.mem_cons_of_mem _ (List.mem_cons_of_mem _ (List.mem_cons_of_mem _ (List.mem_cons_of_mem _ (List.mem_cons_self)))), List.forall_mem_cons.mpr ⟨List.mem_cons_of_mem _ (List.mem_cons_of_mem _ (List.mem_cons_of_mem _ (List.mem_cons_of_mem _ (List.mem_cons_of_mem _ (List.mem_cons_self))))), List.forall_mem_cons.mpr ⟨List.mem_cons_self, fun _ h => absurd h List.not_mem_nil⟩⟩⟩)) ?_
                  have hq121 : rwv w117 111 li = tM (mT w) li (ki + 1) := by
                    rw [rwv_of hr118 (by omega), tM_y hb111]
                    exact (if_pos rfl).trans hq115
                  have hq120 : (∀ i, i < li → rwv w117 111 i = tM (mT w) i (rwv w 83 901)) := fun i hi => by
                    rw [rwv_of hr118 (by omega)]
                    exact (if_neg (by omega)).trans ((rwv_of h111_64 (by omega)).symm.trans (he66 i hi))
                  exact ih54 (ki + 1) w117 (by omega) (by omega) (xMnv.up (S := [111]) hI83 (xFr.of (S := [111]) hb119 (by decide)) (List.forall_mem_cons.mpr ⟨(show cpI 240 78 4294967295 (wget w117 111) from ⟨_, hr118, xrb (by omega) (hb65)⟩), fun _ h => absurd h List.not_mem_nil⟩)) (((hF58.tr (hF84.up (by decide))).tr (xFr.of (S := [111]) hb119 (by decide)))) (⟨hq120, hq121, by omega⟩)
                · refine xg_t (xg_icF (u := u95) (v := u100) rfl xnm0 xnm0 (xj_eqF hc105)) ?_
                  refine xg_t (xg_aload (va := (2, 82)) rfl rfl) ?_
                  refine xg_t (xg_getf (va := (2, 83)) (hF84.get (by decide) (hF58.get (by decide) h82_31)) rfl) ?_
                  refine xg_t (xg_iload (va := (0, 970 + (4 * ki))) rfl rfl) ?_
                  refine xg_t (xg_const) ?_
                  refine xg_t (xg_iadd (u := 970 + (4 * ki)) (v := 1) (z := (970 + (4 * ki)) + 1) xnm0 xnm0 (by omega)) ?_
                  refine xg_ialdB (n := (970 + (4 * ki)) + 1) (B := 4294967295) ((h83_34.fr hF58 (by decide)).fr hF84 (by decide)) (hb35) xnm0 (by omega) (fun u123 hu124 he125 => ?_)
                  have ht126 : mT w (4 * ki + 1) = u123 := (rwv_of h83_34 (by omega)).trans (by rw [show 970 + (4 * ki + 1) = (970 + (4 * ki)) + 1 by omega]; exact he125)
                  have ht127 : u123 ≤ 999999 := by omega
                  refine xg_t (xg_bip) ?_
                  refine xg_t (xg_iload (va := (0, n85)) rfl rfl) ?_
                  refine xg_t (xg_imul (u := 12) (v := n85) (z := 12 * n85) xnm0 xnm0 (by omega)) ?_
                  by_cases hc128 : u123 < (12 * n85)
                  · refine xg_t (xg_icF (u := u123) (v := 12 * n85) rfl xnm0 xnm0 (xj_geF hc128 (by omega))) ?_
                    refine xg_t (xg_blk (b := [(112, 1, 3, 1, 0, 0), (113, 3, 8, 117, 0, 0)]) rfl) ?_
                    refine xg_t (xg_const) ?_
                    refine xg_t (xg_goto) ?_
                    refine xg_t (xg_blk (b := [(117, 2, 15, 5, 0, 0), (119, 2, 2, 5, 0, 0), (121, 3, 7, 136, 0, 0), (124, 1, 0, 0, 0, 0), (125, 3, 1, 12, 44, 96), (128, 1, 2, 1, 0, 0), (129, 1, 39, 0, 0, 0), (130, 1, 10, 0, 0, 0), (131, 1, 3, 1, 0, 0), (132, 1, 2, 2, 0, 0), (133, 1, 26, 0, 0, 0), (134, 1, 38, 0, 0, 0), (135, 1, 17, 0, 0, 0)]) rfl) ?_
                    refine xg_t (xg_istore (l1 := [(4, (0, n85)), (3, (0, 970 + (4 * ki))), (0, (2, 82)), (1, (0, li)), (2, (0, ki))]) rfl rfl rfl) ?_
                    refine xg_t (xg_iload (va := (0, 1)) rfl rfl) ?_
                    refine xg_t (xg_ifF (u := 1) rfl xnm0 (by decide)) ?_
                    refine xg_t (xg_aload (va := (2, 82)) rfl rfl) ?_
                    refine xg_t (xg_getf (va := (2, 111)) (hF84.get (by decide) (hF58.get (by decide) h82_31)) rfl) ?_
                    refine xg_t (xg_iload (va := (0, li)) rfl rfl) ?_
                    refine xg_t (xg_dup2 rfl) ?_
                    refine xg_ialdB (n := li) (B := 4294967295) (h111_64.fr hF84 (by decide)) (hb65) xnm0 (by omega) (fun u129 hu130 he131 => ?_)
                    refine xg_t (xg_const) ?_
                    refine xg_t (xg_iload (va := (0, ki)) rfl rfl) ?_
                    have hz132 : 2 ^ ki ≤ 2048 := by
                      have k : ∀ n, n ≤ 11 → 2 ^ n ≤ 2048 := by decide
                      exact k _ (by omega)
                    have hz133 : 1 ≤ 2 ^ ki := Nat.one_le_two_pow
                    refine xg_t (xg_ishl (u := 1) (v := ki) (z := 2 ^ ki) xnm0 xnm0 (by omega) (by rw [Nat.one_mul]; exact Nat.mod_eq_of_lt (by omega))) ?_
                    have hb134 : tB (mT w) ki li = false := tB_f ht79 ht126 ht103 ht98 (by omega)
                    have hq137 : u129 = tM (mT w) li ki := he131.symm.trans ((rwv_of h111_64 (by omega)).symm.trans he67)
                    have hl135 := tM_lt (t := mT w) (la := li) (ki + 1)
                    rw [tM_y hb134] at hl135
                    have hl136 : 2 ^ (ki + 1) ≤ 4096 := by
                      have k : ∀ n, n ≤ 12 → 2 ^ n ≤ 4096 := by decide
                      exact k _ (by omega)
                    refine xg_t (xg_ior (u := u129) (v := 2 ^ ki) (z := u129 + 2 ^ ki) xnm0 xnm0 (by rw [hq137]; exact tM_or)) ?_
                    have hq138 : u129 + 2 ^ ki = tM (mT w) li ki + 2 ^ ki := by rw [hq137]
                    have hl139 : u129 + 2 ^ ki ≤ 4095 := by omega
                    refine xg_iastK (n := li) (u := u129 + 2 ^ ki) (h111_64.fr hF84 (by decide)) xnm0 xnm0 rfl (by omega) (fun w140 hr141 hb142 => ?_)
                    refine xg_t (xg_blk (b := [(136, 3, 9, 2, 1, 0), (139, 3, 8, 18, 0, 0)]) rfl) ?_
                    refine xg_t (xg_iinc (u := ki) (z := ki + 1) (l1 := [(5, (0, 1)), (4, (0, n85)), (3, (0, 970 + (4 * ki))), (0, (2, 82)), (1, (0, li))]) rfl rfl (by omega) rfl) ?_
                    refine xg_t (xg_goto) ?_
                    refine xg_t (xg_drop (l1 := [(0, (2, 82)), (1, (0, li)), (2, (0, ki + 1))]) (List.forall_mem_cons.mpr ⟨List.mem_cons_of_mem _ (List.mem_cons_of_mem _ (List.mem_cons_of_mem _ (List.mem_cons_of_mem _ (List.mem_cons_self)))), List.forall_mem_cons.mpr ⟨List.mem_cons_of_mem _ (List.mem_cons_of_mem _ (List.mem_cons_of_mem _ (List.mem_cons_of_mem _ (List.mem_cons_of_mem _ (List.mem_cons_self))))), List.forall_mem_cons.mpr ⟨List.mem_cons_self, fun _ h => absurd h List.not_mem_nil⟩⟩⟩)) ?_
                    have hq144 : rwv w140 111 li = tM (mT w) li (ki + 1) := by
                      rw [rwv_of hr141 (by omega), tM_y hb134]
                      exact (if_pos rfl).trans hq138
                    have hq143 : (∀ i, i < li → rwv w140 111 i = tM (mT w) i (rwv w 83 901)) := fun i hi => by
                      rw [rwv_of hr141 (by omega)]
                      exact (if_neg (by omega)).trans ((rwv_of h111_64 (by omega)).symm.trans (he66 i hi))
                    exact ih54 (ki + 1) w140 (by omega) (by omega) (xMnv.up (S := [111]) hI83 (xFr.of (S := [111]) hb142 (by decide)) (List.forall_mem_cons.mpr ⟨(show cpI 240 78 4294967295 (wget w140 111) from ⟨_, hr141, xrb (by omega) (hb65)⟩), fun _ h => absurd h List.not_mem_nil⟩)) (((hF58.tr (hF84.up (by decide))).tr (xFr.of (S := [111]) hb142 (by decide)))) (⟨hq143, hq144, by omega⟩)
                  · refine xg_t (xg_icT (u := u123) (v := 12 * n85) rfl xnm0 xnm0 (xj_geT (by omega) (by omega))) ?_
                    refine xg_t (xg_blk (b := [(116, 1, 3, 0, 0, 0)]) rfl) ?_
                    refine xg_t (xg_const) ?_
                    refine xg_t (xg_blk (b := [(117, 2, 15, 5, 0, 0), (119, 2, 2, 5, 0, 0), (121, 3, 7, 136, 0, 0), (124, 1, 0, 0, 0, 0), (125, 3, 1, 12, 44, 96), (128, 1, 2, 1, 0, 0), (129, 1, 39, 0, 0, 0), (130, 1, 10, 0, 0, 0), (131, 1, 3, 1, 0, 0), (132, 1, 2, 2, 0, 0), (133, 1, 26, 0, 0, 0), (134, 1, 38, 0, 0, 0), (135, 1, 17, 0, 0, 0)]) rfl) ?_
                    refine xg_t (xg_istore (l1 := [(4, (0, n85)), (3, (0, 970 + (4 * ki))), (0, (2, 82)), (1, (0, li)), (2, (0, ki))]) rfl rfl rfl) ?_
                    refine xg_t (xg_iload (va := (0, 0)) rfl rfl) ?_
                    refine xg_t (xg_ifT (u := 0) rfl xnm0 (by decide)) ?_
                    refine xg_t (xg_blk (b := [(136, 3, 9, 2, 1, 0), (139, 3, 8, 18, 0, 0)]) rfl) ?_
                    refine xg_t (xg_iinc (u := ki) (z := ki + 1) (l1 := [(5, (0, 0)), (4, (0, n85)), (3, (0, 970 + (4 * ki))), (0, (2, 82)), (1, (0, li))]) rfl rfl (by omega) rfl) ?_
                    refine xg_t (xg_goto) ?_
                    refine xg_t (xg_drop (l1 := [(0, (2, 82)), (1, (0, li)), (2, (0, ki + 1))]) (List.forall_mem_cons.mpr ⟨List.mem_cons_of_mem _ (List.mem_cons_of_mem _ (List.mem_cons_of_mem _ (List.mem_cons_of_mem _ (List.mem_cons_self)))), List.forall_mem_cons.mpr ⟨List.mem_cons_of_mem _ (List.mem_cons_of_mem _ (List.mem_cons_of_mem _ (List.mem_cons_of_mem _ (List.mem_cons_of_mem _ (List.mem_cons_self))))), List.forall_mem_cons.mpr ⟨List.mem_cons_self, fun _ h => absurd h List.not_mem_nil⟩⟩⟩)) ?_
                    have hb148 : tB (mT w) ki li = true := tB_t ht79 ht126 ht103 ht98 (by omega)
                    have hq147 : rwv w81 111 li = tM (mT w) li (ki + 1) := by
                      rw [tM_n hb148, rwv_of (h111_64.fr hF84 (by decide)) (by omega), ← rwv_of h111_64 (by omega)]; exact he67
                    have hq146 : (∀ i, i < li → rwv w81 111 i = tM (mT w) i (rwv w 83 901)) := fun i hi => by
                      rw [rwv_of (h111_64.fr hF84 (by decide)) (by omega), ← rwv_of h111_64 (by omega)]; exact he66 i hi
                    exact ih54 (ki + 1) w81 (by omega) (by omega) (hI83) ((hF58.tr (hF84.up (by decide)))) (⟨hq146, hq147, by omega⟩)
              · refine xg_t (xg_ifF (u := u89) rfl xnm0 (xj_eqF hc94)) ?_
                refine xg_t (xg_aload (va := (2, 82)) rfl rfl) ?_
                refine xg_t (xg_getf (va := (2, 83)) (hF84.get (by decide) (hF58.get (by decide) h82_31)) rfl) ?_
                refine xg_t (xg_iload (va := (0, 970 + (4 * ki))) rfl rfl) ?_
                refine xg_t (xg_const) ?_
                refine xg_t (xg_iadd (u := 970 + (4 * ki)) (v := 1) (z := (970 + (4 * ki)) + 1) xnm0 xnm0 (by omega)) ?_
                refine xg_ialdB (n := (970 + (4 * ki)) + 1) (B := 4294967295) ((h83_34.fr hF58 (by decide)).fr hF84 (by decide)) (hb35) xnm0 (by omega) (fun u149 hu150 he151 => ?_)
                have ht152 : mT w (4 * ki + 1) = u149 := (rwv_of h83_34 (by omega)).trans (by rw [show 970 + (4 * ki + 1) = (970 + (4 * ki)) + 1 by omega]; exact he151)
                have ht153 : u149 ≤ 999999 := by omega
                refine xg_t (xg_bip) ?_
                refine xg_t (xg_iload (va := (0, n85)) rfl rfl) ?_
                refine xg_t (xg_imul (u := 8) (v := n85) (z := 8 * n85) xnm0 xnm0 (by omega)) ?_
                by_cases hc154 : u149 < (8 * n85)
                · refine xg_t (xg_icT (u := u149) (v := 8 * n85) rfl xnm0 xnm0 (xj_ltT hc154 (by omega))) ?_
                  refine xg_t (xg_blk (b := [(116, 1, 3, 0, 0, 0)]) rfl) ?_
                  refine xg_t (xg_const) ?_
                  refine xg_t (xg_blk (b := [(117, 2, 15, 5, 0, 0), (119, 2, 2, 5, 0, 0), (121, 3, 7, 136, 0, 0), (124, 1, 0, 0, 0, 0), (125, 3, 1, 12, 44, 96), (128, 1, 2, 1, 0, 0), (129, 1, 39, 0, 0, 0), (130, 1, 10, 0, 0, 0), (131, 1, 3, 1, 0, 0), (132, 1, 2, 2, 0, 0), (133, 1, 26, 0, 0, 0), (134, 1, 38, 0, 0, 0), (135, 1, 17, 0, 0, 0)]) rfl) ?_
                  refine xg_t (xg_istore (l1 := [(4, (0, n85)), (3, (0, 970 + (4 * ki))), (0, (2, 82)), (1, (0, li)), (2, (0, ki))]) rfl rfl rfl) ?_
                  refine xg_t (xg_iload (va := (0, 0)) rfl rfl) ?_
                  refine xg_t (xg_ifT (u := 0) rfl xnm0 (by decide)) ?_
                  refine xg_t (xg_blk (b := [(136, 3, 9, 2, 1, 0), (139, 3, 8, 18, 0, 0)]) rfl) ?_
                  refine xg_t (xg_iinc (u := ki) (z := ki + 1) (l1 := [(5, (0, 0)), (4, (0, n85)), (3, (0, 970 + (4 * ki))), (0, (2, 82)), (1, (0, li))]) rfl rfl (by omega) rfl) ?_
                  refine xg_t (xg_goto) ?_
                  refine xg_t (xg_drop (l1 := [(0, (2, 82)), (1, (0, li)), (2, (0, ki + 1))]) (List.forall_mem_cons.mpr ⟨List.mem_cons_of_mem _ (List.mem_cons_of_mem _ (List.mem_cons_of_mem _ (List.mem_cons_of_mem _ (List.mem_cons_self)))), List.forall_mem_cons.mpr ⟨List.mem_cons_of_mem _ (List.mem_cons_of_mem _ (List.mem_cons_of_mem _ (List.mem_cons_of_mem _ (List.mem_cons_of_mem _ (List.mem_cons_self))))), List.forall_mem_cons.mpr ⟨List.mem_cons_self, fun _ h => absurd h List.not_mem_nil⟩⟩⟩)) ?_
                  have hb157 : tB (mT w) ki li = true := tB_t ht79 ht152 rfl ht92 (by omega)
                  have hq156 : rwv w81 111 li = tM (mT w) li (ki + 1) := by
                    rw [tM_n hb157, rwv_of (h111_64.fr hF84 (by decide)) (by omega), ← rwv_of h111_64 (by omega)]; exact he67
                  have hq155 : (∀ i, i < li → rwv w81 111 i = tM (mT w) i (rwv w 83 901)) := fun i hi => by
                    rw [rwv_of (h111_64.fr hF84 (by decide)) (by omega), ← rwv_of h111_64 (by omega)]; exact he66 i hi
                  exact ih54 (ki + 1) w81 (by omega) (by omega) (hI83) ((hF58.tr (hF84.up (by decide)))) (⟨hq155, hq156, by omega⟩)
                · refine xg_t (xg_icF (u := u149) (v := 8 * n85) rfl xnm0 xnm0 (xj_ltF (by omega) (by omega))) ?_
                  refine xg_t (xg_blk (b := [(77, 1, 0, 0, 0, 0), (78, 3, 1, 12, 0, 7), (81, 1, 2, 3, 0, 0), (82, 1, 3, 3, 0, 0), (83, 1, 11, 0, 0, 0), (84, 1, 10, 0, 0, 0), (85, 1, 0, 0, 0, 0), (86, 3, 1, 12, 0, 7), (89, 1, 2, 3, 0, 0), (90, 1, 3, 2, 0, 0), (91, 1, 11, 0, 0, 0), (92, 1, 10, 0, 0, 0), (93, 3, 6, 112, 0, 0), (96, 1, 0, 0, 0, 0), (97, 3, 1, 12, 0, 7), (100, 1, 2, 3, 0, 0), (101, 1, 3, 1, 0, 0), (102, 1, 11, 0, 0, 0), (103, 1, 10, 0, 0, 0), (104, 2, 4, 12, 0, 0), (106, 2, 2, 4, 0, 0), (108, 1, 16, 0, 0, 0), (109, 3, 6, 116, 3, 0)]) rfl) ?_
                  refine xg_t (xg_aload (va := (2, 82)) rfl rfl) ?_
                  refine xg_t (xg_getf (va := (2, 83)) (hF84.get (by decide) (hF58.get (by decide) h82_31)) rfl) ?_
                  refine xg_t (xg_iload (va := (0, 970 + (4 * ki))) rfl rfl) ?_
                  refine xg_t (xg_const) ?_
                  refine xg_t (xg_iadd (u := 970 + (4 * ki)) (v := 3) (z := (970 + (4 * ki)) + 3) xnm0 xnm0 (by omega)) ?_
                  refine xg_ialdB (n := (970 + (4 * ki)) + 3) (B := 4294967295) ((h83_34.fr hF58 (by decide)).fr hF84 (by decide)) (hb35) xnm0 (by omega) (fun u158 hu159 he160 => ?_)
                  have ht161 : mT w (4 * ki + 3) = u158 := (rwv_of h83_34 (by omega)).trans (by rw [show 970 + (4 * ki + 3) = (970 + (4 * ki)) + 3 by omega]; exact he160)
                  have ht162 : u158 ≤ 99 := by omega
                  refine xg_t (xg_aload (va := (2, 82)) rfl rfl) ?_
                  refine xg_t (xg_getf (va := (2, 83)) (hF84.get (by decide) (hF58.get (by decide) h82_31)) rfl) ?_
                  refine xg_t (xg_iload (va := (0, 970 + (4 * ki))) rfl rfl) ?_
                  refine xg_t (xg_const) ?_
                  refine xg_t (xg_iadd (u := 970 + (4 * ki)) (v := 2) (z := (970 + (4 * ki)) + 2) xnm0 xnm0 (by omega)) ?_
                  refine xg_ialdB (n := (970 + (4 * ki)) + 2) (B := 4294967295) ((h83_34.fr hF58 (by decide)).fr hF84 (by decide)) (hb35) xnm0 (by omega) (fun u163 hu164 he165 => ?_)
                  have ht166 : mT w (4 * ki + 2) = u163 := (rwv_of h83_34 (by omega)).trans (by rw [show 970 + (4 * ki + 2) = (970 + (4 * ki)) + 2 by omega]; exact he165)
                  have ht167 : u163 ≤ 99 := by omega
                  by_cases hc168 : u158 = u163
                  · refine xg_t (xg_icT (u := u158) (v := u163) rfl xnm0 xnm0 (xj_eqT hc168)) ?_
                    refine xg_t (xg_blk (b := [(112, 1, 3, 1, 0, 0), (113, 3, 8, 117, 0, 0)]) rfl) ?_
                    refine xg_t (xg_const) ?_
                    refine xg_t (xg_goto) ?_
                    refine xg_t (xg_blk (b := [(117, 2, 15, 5, 0, 0), (119, 2, 2, 5, 0, 0), (121, 3, 7, 136, 0, 0), (124, 1, 0, 0, 0, 0), (125, 3, 1, 12, 44, 96), (128, 1, 2, 1, 0, 0), (129, 1, 39, 0, 0, 0), (130, 1, 10, 0, 0, 0), (131, 1, 3, 1, 0, 0), (132, 1, 2, 2, 0, 0), (133, 1, 26, 0, 0, 0), (134, 1, 38, 0, 0, 0), (135, 1, 17, 0, 0, 0)]) rfl) ?_
                    refine xg_t (xg_istore (l1 := [(4, (0, n85)), (3, (0, 970 + (4 * ki))), (0, (2, 82)), (1, (0, li)), (2, (0, ki))]) rfl rfl rfl) ?_
                    refine xg_t (xg_iload (va := (0, 1)) rfl rfl) ?_
                    refine xg_t (xg_ifF (u := 1) rfl xnm0 (by decide)) ?_
                    refine xg_t (xg_aload (va := (2, 82)) rfl rfl) ?_
                    refine xg_t (xg_getf (va := (2, 111)) (hF84.get (by decide) (hF58.get (by decide) h82_31)) rfl) ?_
                    refine xg_t (xg_iload (va := (0, li)) rfl rfl) ?_
                    refine xg_t (xg_dup2 rfl) ?_
                    refine xg_ialdB (n := li) (B := 4294967295) (h111_64.fr hF84 (by decide)) (hb65) xnm0 (by omega) (fun u169 hu170 he171 => ?_)
                    refine xg_t (xg_const) ?_
                    refine xg_t (xg_iload (va := (0, ki)) rfl rfl) ?_
                    have hz172 : 2 ^ ki ≤ 2048 := by
                      have k : ∀ n, n ≤ 11 → 2 ^ n ≤ 2048 := by decide
                      exact k _ (by omega)
                    have hz173 : 1 ≤ 2 ^ ki := Nat.one_le_two_pow
                    refine xg_t (xg_ishl (u := 1) (v := ki) (z := 2 ^ ki) xnm0 xnm0 (by omega) (by rw [Nat.one_mul]; exact Nat.mod_eq_of_lt (by omega))) ?_
                    have hb174 : tB (mT w) ki li = false := tB_f ht79 ht152 ht166 ht161 (by omega)
                    have hq177 : u169 = tM (mT w) li ki := he171.symm.trans ((rwv_of h111_64 (by omega)).symm.trans he67)
                    have hl175 := tM_lt (t := mT w) (la := li) (ki + 1)
                    rw [tM_y hb174] at hl175
                    have hl176 : 2 ^ (ki + 1) ≤ 4096 := by
                      have k : ∀ n, n ≤ 12 → 2 ^ n ≤ 4096 := by decide
                      exact k _ (by omega)
                    refine xg_t (xg_ior (u := u169) (v := 2 ^ ki) (z := u169 + 2 ^ ki) xnm0 xnm0 (by rw [hq177]; exact tM_or)) ?_
                    have hq178 : u169 + 2 ^ ki = tM (mT w) li ki + 2 ^ ki := by rw [hq177]
                    have hl179 : u169 + 2 ^ ki ≤ 4095 := by omega
                    refine xg_iastK (n := li) (u := u169 + 2 ^ ki) (h111_64.fr hF84 (by decide)) xnm0 xnm0 rfl (by omega) (fun w180 hr181 hb182 => ?_)
                    refine xg_t (xg_blk (b := [(136, 3, 9, 2, 1, 0), (139, 3, 8, 18, 0, 0)]) rfl) ?_
                    refine xg_t (xg_iinc (u := ki) (z := ki + 1) (l1 := [(5, (0, 1)), (4, (0, n85)), (3, (0, 970 + (4 * ki))), (0, (2, 82)), (1, (0, li))]) rfl rfl (by omega) rfl) ?_
                    refine xg_t (xg_goto) ?_
                    refine xg_t (xg_drop (l1 := [(0, (2, 82)), (1, (0, li)), (2, (0, ki + 1))]) (List.forall_mem_cons.mpr ⟨List.mem_cons_of_mem _ (List.mem_cons_of_mem _ (List.mem_cons_of_mem _ (List.mem_cons_of_mem _ (List.mem_cons_self)))), List.forall_mem_cons.mpr ⟨List.mem_cons_of_mem _ (List.mem_cons_of_mem _ (List.mem_cons_of_mem _ (List.mem_cons_of_mem _ (List.mem_cons_of_mem _ (List.mem_cons_self))))), List.forall_mem_cons.mpr ⟨List.mem_cons_self, fun _ h => absurd h List.not_mem_nil⟩⟩⟩)) ?_
                    have hq184 : rwv w180 111 li = tM (mT w) li (ki + 1) := by
                      rw [rwv_of hr181 (by omega), tM_y hb174]
                      exact (if_pos rfl).trans hq178
                    have hq183 : (∀ i, i < li → rwv w180 111 i = tM (mT w) i (rwv w 83 901)) := fun i hi => by
                      rw [rwv_of hr181 (by omega)]
                      exact (if_neg (by omega)).trans ((rwv_of h111_64 (by omega)).symm.trans (he66 i hi))
                    exact ih54 (ki + 1) w180 (by omega) (by omega) (xMnv.up (S := [111]) hI83 (xFr.of (S := [111]) hb182 (by decide)) (List.forall_mem_cons.mpr ⟨(show cpI 240 78 4294967295 (wget w180 111) from ⟨_, hr181, xrb (by omega) (hb65)⟩), fun _ h => absurd h List.not_mem_nil⟩)) (((hF58.tr (hF84.up (by decide))).tr (xFr.of (S := [111]) hb182 (by decide)))) (⟨hq183, hq184, by omega⟩)
                  · refine xg_t (xg_icF (u := u158) (v := u163) rfl xnm0 xnm0 (xj_eqF hc168)) ?_
                    refine xg_t (xg_aload (va := (2, 82)) rfl rfl) ?_
                    refine xg_t (xg_getf (va := (2, 83)) (hF84.get (by decide) (hF58.get (by decide) h82_31)) rfl) ?_
                    refine xg_t (xg_iload (va := (0, 970 + (4 * ki))) rfl rfl) ?_
                    refine xg_t (xg_const) ?_
                    refine xg_t (xg_iadd (u := 970 + (4 * ki)) (v := 1) (z := (970 + (4 * ki)) + 1) xnm0 xnm0 (by omega)) ?_
                    refine xg_ialdB (n := (970 + (4 * ki)) + 1) (B := 4294967295) ((h83_34.fr hF58 (by decide)).fr hF84 (by decide)) (hb35) xnm0 (by omega) (fun u186 hu187 he188 => ?_)
                    have ht189 : mT w (4 * ki + 1) = u186 := (rwv_of h83_34 (by omega)).trans (by rw [show 970 + (4 * ki + 1) = (970 + (4 * ki)) + 1 by omega]; exact he188)
                    have ht190 : u186 ≤ 999999 := by omega
                    refine xg_t (xg_bip) ?_
                    refine xg_t (xg_iload (va := (0, n85)) rfl rfl) ?_
                    refine xg_t (xg_imul (u := 12) (v := n85) (z := 12 * n85) xnm0 xnm0 (by omega)) ?_
                    by_cases hc191 : u186 < (12 * n85)
                    · refine xg_t (xg_icF (u := u186) (v := 12 * n85) rfl xnm0 xnm0 (xj_geF hc191 (by omega))) ?_
                      refine xg_t (xg_blk (b := [(112, 1, 3, 1, 0, 0), (113, 3, 8, 117, 0, 0)]) rfl) ?_
                      refine xg_t (xg_const) ?_
                      refine xg_t (xg_goto) ?_
                      refine xg_t (xg_blk (b := [(117, 2, 15, 5, 0, 0), (119, 2, 2, 5, 0, 0), (121, 3, 7, 136, 0, 0), (124, 1, 0, 0, 0, 0), (125, 3, 1, 12, 44, 96), (128, 1, 2, 1, 0, 0), (129, 1, 39, 0, 0, 0), (130, 1, 10, 0, 0, 0), (131, 1, 3, 1, 0, 0), (132, 1, 2, 2, 0, 0), (133, 1, 26, 0, 0, 0), (134, 1, 38, 0, 0, 0), (135, 1, 17, 0, 0, 0)]) rfl) ?_
                      refine xg_t (xg_istore (l1 := [(4, (0, n85)), (3, (0, 970 + (4 * ki))), (0, (2, 82)), (1, (0, li)), (2, (0, ki))]) rfl rfl rfl) ?_
                      refine xg_t (xg_iload (va := (0, 1)) rfl rfl) ?_
                      refine xg_t (xg_ifF (u := 1) rfl xnm0 (by decide)) ?_
                      refine xg_t (xg_aload (va := (2, 82)) rfl rfl) ?_
                      refine xg_t (xg_getf (va := (2, 111)) (hF84.get (by decide) (hF58.get (by decide) h82_31)) rfl) ?_
                      refine xg_t (xg_iload (va := (0, li)) rfl rfl) ?_
                      refine xg_t (xg_dup2 rfl) ?_
                      refine xg_ialdB (n := li) (B := 4294967295) (h111_64.fr hF84 (by decide)) (hb65) xnm0 (by omega) (fun u192 hu193 he194 => ?_)
                      refine xg_t (xg_const) ?_
                      refine xg_t (xg_iload (va := (0, ki)) rfl rfl) ?_
                      have hz195 : 2 ^ ki ≤ 2048 := by
                        have k : ∀ n, n ≤ 11 → 2 ^ n ≤ 2048 := by decide
                        exact k _ (by omega)
                      have hz196 : 1 ≤ 2 ^ ki := Nat.one_le_two_pow
                      refine xg_t (xg_ishl (u := 1) (v := ki) (z := 2 ^ ki) xnm0 xnm0 (by omega) (by rw [Nat.one_mul]; exact Nat.mod_eq_of_lt (by omega))) ?_
                      have hb197 : tB (mT w) ki li = false := tB_f ht79 ht189 ht166 ht161 (by omega)
                      have hq200 : u192 = tM (mT w) li ki := he194.symm.trans ((rwv_of h111_64 (by omega)).symm.trans he67)
                      have hl198 := tM_lt (t := mT w) (la := li) (ki + 1)
                      rw [tM_y hb197] at hl198
                      have hl199 : 2 ^ (ki + 1) ≤ 4096 := by
                        have k : ∀ n, n ≤ 12 → 2 ^ n ≤ 4096 := by decide
                        exact k _ (by omega)
                      refine xg_t (xg_ior (u := u192) (v := 2 ^ ki) (z := u192 + 2 ^ ki) xnm0 xnm0 (by rw [hq200]; exact tM_or)) ?_
                      have hq201 : u192 + 2 ^ ki = tM (mT w) li ki + 2 ^ ki := by rw [hq200]
                      have hl202 : u192 + 2 ^ ki ≤ 4095 := by omega
                      refine xg_iastK (n := li) (u := u192 + 2 ^ ki) (h111_64.fr hF84 (by decide)) xnm0 xnm0 rfl (by omega) (fun w203 hr204 hb205 => ?_)
                      refine xg_t (xg_blk (b := [(136, 3, 9, 2, 1, 0), (139, 3, 8, 18, 0, 0)]) rfl) ?_
                      refine xg_t (xg_iinc (u := ki) (z := ki + 1) (l1 := [(5, (0, 1)), (4, (0, n85)), (3, (0, 970 + (4 * ki))), (0, (2, 82)), (1, (0, li))]) rfl rfl (by omega) rfl) ?_
                      refine xg_t (xg_goto) ?_
                      refine xg_t (xg_drop (l1 := [(0, (2, 82)), (1, (0, li)), (2, (0, ki + 1))]) (List.forall_mem_cons.mpr ⟨List.mem_cons_of_mem _ (List.mem_cons_of_mem _ (List.mem_cons_of_mem _ (List.mem_cons_of_mem _ (List.mem_cons_self)))), List.forall_mem_cons.mpr ⟨List.mem_cons_of_mem _ (List.mem_cons_of_mem _ (List.mem_cons_of_mem _ (List.mem_cons_of_mem _ (List.mem_cons_of_mem _ (List.mem_cons_self))))), List.forall_mem_cons.mpr ⟨List.mem_cons_self, fun _ h => absurd h List.not_mem_nil⟩⟩⟩)) ?_
                      have hq207 : rwv w203 111 li = tM (mT w) li (ki + 1) := by
                        rw [rwv_of hr204 (by omega), tM_y hb197]
                        exact (if_pos rfl).trans hq201
                      have hq206 : (∀ i, i < li → rwv w203 111 i = tM (mT w) i (rwv w 83 901)) := fun i hi => by
                        rw [rwv_of hr204 (by omega)]
                        exact (if_neg (by omega)).trans ((rwv_of h111_64 (by omega)).symm.trans (he66 i hi))
                      exact ih54 (ki + 1) w203 (by omega) (by omega) (xMnv.up (S := [111]) hI83 (xFr.of (S := [111]) hb205 (by decide)) (List.forall_mem_cons.mpr ⟨(show cpI 240 78 4294967295 (wget w203 111) from ⟨_, hr204, xrb (by omega) (hb65)⟩), fun _ h => absurd h List.not_mem_nil⟩)) (((hF58.tr (hF84.up (by decide))).tr (xFr.of (S := [111]) hb205 (by decide)))) (⟨hq206, hq207, by omega⟩)
                    · refine xg_t (xg_icT (u := u186) (v := 12 * n85) rfl xnm0 xnm0 (xj_geT (by omega) (by omega))) ?_
                      refine xg_t (xg_blk (b := [(116, 1, 3, 0, 0, 0)]) rfl) ?_
                      refine xg_t (xg_const) ?_
                      refine xg_t (xg_blk (b := [(117, 2, 15, 5, 0, 0), (119, 2, 2, 5, 0, 0), (121, 3, 7, 136, 0, 0), (124, 1, 0, 0, 0, 0), (125, 3, 1, 12, 44, 96), (128, 1, 2, 1, 0, 0), (129, 1, 39, 0, 0, 0), (130, 1, 10, 0, 0, 0), (131, 1, 3, 1, 0, 0), (132, 1, 2, 2, 0, 0), (133, 1, 26, 0, 0, 0), (134, 1, 38, 0, 0, 0), (135, 1, 17, 0, 0, 0)]) rfl) ?_
                      refine xg_t (xg_istore (l1 := [(4, (0, n85)), (3, (0, 970 + (4 * ki))), (0, (2, 82)), (1, (0, li)), (2, (0, ki))]) rfl rfl rfl) ?_
                      refine xg_t (xg_iload (va := (0, 0)) rfl rfl) ?_
                      refine xg_t (xg_ifT (u := 0) rfl xnm0 (by decide)) ?_
                      refine xg_t (xg_blk (b := [(136, 3, 9, 2, 1, 0), (139, 3, 8, 18, 0, 0)]) rfl) ?_
                      refine xg_t (xg_iinc (u := ki) (z := ki + 1) (l1 := [(5, (0, 0)), (4, (0, n85)), (3, (0, 970 + (4 * ki))), (0, (2, 82)), (1, (0, li))]) rfl rfl (by omega) rfl) ?_
                      refine xg_t (xg_goto) ?_
                      refine xg_t (xg_drop (l1 := [(0, (2, 82)), (1, (0, li)), (2, (0, ki + 1))]) (List.forall_mem_cons.mpr ⟨List.mem_cons_of_mem _ (List.mem_cons_of_mem _ (List.mem_cons_of_mem _ (List.mem_cons_of_mem _ (List.mem_cons_self)))), List.forall_mem_cons.mpr ⟨List.mem_cons_of_mem _ (List.mem_cons_of_mem _ (List.mem_cons_of_mem _ (List.mem_cons_of_mem _ (List.mem_cons_of_mem _ (List.mem_cons_self))))), List.forall_mem_cons.mpr ⟨List.mem_cons_self, fun _ h => absurd h List.not_mem_nil⟩⟩⟩)) ?_
                      have hb211 : tB (mT w) ki li = true := tB_t ht79 ht189 ht166 ht161 (by omega)
                      have hq210 : rwv w81 111 li = tM (mT w) li (ki + 1) := by
                        rw [tM_n hb211, rwv_of (h111_64.fr hF84 (by decide)) (by omega), ← rwv_of h111_64 (by omega)]; exact he67
                      have hq209 : (∀ i, i < li → rwv w81 111 i = tM (mT w) i (rwv w 83 901)) := fun i hi => by
                        rw [rwv_of (h111_64.fr hF84 (by decide)) (by omega), ← rwv_of h111_64 (by omega)]; exact he66 i hi
                      exact ih54 (ki + 1) w81 (by omega) (by omega) (hI83) ((hF58.tr (hF84.up (by decide)))) (⟨hq209, hq210, by omega⟩)
            · refine xg_t (xg_icT (u := ki) (v := u69) rfl xnm0 xnm0 (xj_geT (by omega) (by omega))) ?_
              refine xg_t (xg_blk (b := [(142, 3, 9, 1, 1, 0), (145, 3, 8, 2, 0, 0)]) rfl) ?_
              refine xg_t (xg_iinc (u := li) (z := li + 1) (l1 := [(0, (2, 82)), (2, (0, ki))]) rfl rfl (by omega) rfl) ?_
              refine xg_t (xg_goto) ?_
              refine xg_t (xg_drop (l1 := [(0, (2, 82)), (1, (0, li + 1))]) (List.forall_mem_cons.mpr ⟨List.mem_cons_of_mem _ (List.mem_cons_self), List.forall_mem_cons.mpr ⟨List.mem_cons_self, fun _ h => absurd h List.not_mem_nil⟩⟩)) ?_
              have hq212 : ∀ i, i < li + 1 → rwv w56 111 i = tM (mT w) i (rwv w 83 901) := fun i hi => by
                by_cases e : i = li
                · rw [e, he67, show ki = rwv w 83 901 by omega]
                · exact he66 i (by omega)
              exact ih38 (li + 1) w56 (by omega) (by omega) (hI57) (hF58) (hq212)
        exact key53 _ 0 w50 (Nat.lt_succ_self _) (by omega) (xMnv.up (S := [111]) hI41 (xFr.of (S := [111]) hb52 (by decide)) (List.forall_mem_cons.mpr ⟨(show cpI 240 78 4294967295 (wget w50 111) from ⟨_, hr51, xrb (by omega) (hb48)⟩), fun _ h => absurd h List.not_mem_nil⟩)) ((hF42.tr (xFr.of (S := [111]) hb52 (by decide)))) (⟨hq59, (rwv_of hr51 (by omega)).trans (if_pos rfl), Nat.zero_le _⟩)
      · refine xg_t (xg_icT (u := li) (v := 240) rfl xnm0 xnm0 (xj_geT (by omega) (by omega))) ?_
        refine xg_t (xg_blk (b := [(148, 1, 12, 0, 0, 0)]) rfl) ?_
        exact xg_e ⟨w40, ⟨rfl, rfl⟩, hI41, hF42, fun i hi => he44 i (by omega)⟩
  exact key37 _ 0 w (Nat.lt_succ_self _) (by omega) (hI) (xFr.rf) (fun i hi => absurd hi (Nat.not_lt_zero _))
theorem mAllTestsX (hI : xMnv w) (hV : tsV (mT w) (rwv w 83 901)) : xPi d mX12_allTests [(2, 82)] w bd fc rr (fun n w' => (n = 2 ^ (rwv w 83 901) - 1 ∧ n ≤ 4095) ∧ xMnv w' ∧ xFr [] w w') := by
  refine xPi.of ?_
  show xTo d mX12_allTests (0, [], [(0, (2, 82))], [], (w, bd, fc, 0, 0, rr)) (fun φ => ∃ n w', xEnd 1 [(0, n)] (w', bd, fc, 0, 0, rr) φ ∧ (n = 2 ^ (rwv w 83 901) - 1 ∧ n ≤ 4095) ∧ xMnv w' ∧ xFr [] w w')
  obtain ⟨f82_1, f82_3, f82_5, f82_7, f82_9, f82_11, f82_13, f82_15, f82_17, f82_19, f82_21, f82_22, f82_23, f82_25, f82_27, f82_29, h82_31, hb2, hb4, hb6, hb8, hb10, hb12, hb14, hb16, hb18, hb20, hb24, hb26, hb28, hb30, hb32⟩ := (hI 82 (by decide) (by decide) : cp82 (wget w 82))
  obtain ⟨g83_33, h83_34, hb35, hx36⟩ := (hI 83 (by decide) (by decide) : cpx83 (wget w 83))
  have h83_34 : xRow w 83 5360 50 g83_33 := h83_34
  obtain ⟨hv1, hv2⟩ := hV
  refine xg_t (xg_blk (b := [(0, 1, 3, 1, 0, 0), (1, 1, 0, 0, 0, 0), (2, 3, 1, 12, 0, 7), (5, 3, 5, 901, 0, 0), (8, 1, 10, 0, 0, 0), (9, 1, 26, 0, 0, 0), (10, 1, 3, 1, 0, 0), (11, 1, 18, 0, 0, 0), (12, 1, 12, 0, 1, 0)]) rfl) ?_
  refine xg_t (xg_const) ?_
  refine xg_t (xg_aload (va := (2, 82)) rfl rfl) ?_
  refine xg_t (xg_getf (va := (2, 83)) h82_31 rfl) ?_
  refine xg_t (xg_sip) ?_
  refine xg_ialdB (n := 901) (B := 4294967295) h83_34 (hb35) xnm0 (by omega) (fun u37 hu38 he39 => ?_)
  have hl40 : u37 ≤ 12 := by rw [← he39]; exact hx36.l901
  have hq41 : rwv w 83 901 = u37 := (rwv_of h83_34 (by omega)).trans he39
  have hz42 : 2 ^ u37 ≤ 4096 := by
    have k : ∀ n, n ≤ 12 → 2 ^ n ≤ 4096 := by decide
    exact k _ (by omega)
  have hz43 : 1 ≤ 2 ^ u37 := Nat.one_le_two_pow
  refine xg_t (xg_ishl (u := 1) (v := u37) (z := 2 ^ u37) xnm0 xnm0 (by omega) (by rw [Nat.one_mul]; exact Nat.mod_eq_of_lt (by omega))) ?_
  refine xg_t (xg_const) ?_
  refine xg_t (xg_isub (u := 2 ^ u37) (v := 1) (z := (2 ^ u37) - 1) xnm0 xnm0 (by omega)) ?_
  exact xg_e ⟨(2 ^ u37) - 1, w, ⟨rfl, rfl⟩, ⟨by rw [show rwv w 83 901 = u37 by omega], by omega⟩, hI, xFr.rf⟩
theorem mIsLawX {la : Nat} (hI : xMnv w) (hla : la ≤ 239) (hV : tsV (mT w) (rwv w 83 901)) : xPi (d + 1) mX12_isLaw [(2, 82), (0, la)] w bd fc rr (fun n w' => ((n = 1 ∧ rwv w 111 la = 2 ^ (rwv w 83 901) - 1) ∨ (n = 0 ∧ ¬ rwv w 111 la = 2 ^ (rwv w 83 901) - 1)) ∧ xMnv w' ∧ xFr [] w w') := by
  refine xPi.of ?_
  show xTo (d + 1) mX12_isLaw (0, [], [(0, (2, 82)), (1, (0, la))], [], (w, bd, fc, 0, 0, rr)) (fun φ => ∃ n w', xEnd 4 [(0, n)] (w', bd, fc, 0, 0, rr) φ ∧ ((n = 1 ∧ rwv w 111 la = 2 ^ (rwv w 83 901) - 1) ∨ (n = 0 ∧ ¬ rwv w 111 la = 2 ^ (rwv w 83 901) - 1)) ∧ xMnv w' ∧ xFr [] w w')
  obtain ⟨f82_1, f82_3, f82_5, f82_7, f82_9, f82_11, f82_13, f82_15, f82_17, f82_19, f82_21, f82_22, f82_23, f82_25, f82_27, f82_29, h82_31, hb2, hb4, hb6, hb8, hb10, hb12, hb14, hb16, hb18, hb20, hb24, hb26, hb28, hb30, hb32⟩ := (hI 82 (by decide) (by decide) : cp82 (wget w 82))
  obtain ⟨g111_33, h111_34, hb35⟩ := (hI 111 (by decide) (by decide) : cpI 240 78 4294967295 (wget w 111))
  have h111_34 : xRow w 111 240 78 g111_33 := h111_34
  obtain ⟨g83_36, h83_37, hb38, hx39⟩ := (hI 83 (by decide) (by decide) : cpx83 (wget w 83))
  have h83_37 : xRow w 83 5360 50 g83_36 := h83_37
  refine xg_t (xg_blk (b := [(0, 1, 0, 0, 0, 0), (1, 3, 1, 12, 44, 96), (4, 1, 2, 1, 0, 0), (5, 1, 10, 0, 0, 0), (6, 1, 0, 0, 0, 0), (7, 3, 13, 114, 96, 400), (10, 3, 6, 17, 1, 0), (13, 1, 3, 1, 0, 0), (14, 3, 8, 18, 0, 0)]) rfl) ?_
  refine xg_t (xg_aload (va := (2, 82)) rfl rfl) ?_
  refine xg_t (xg_getf (va := (2, 111)) h82_31 rfl) ?_
  refine xg_t (xg_iload (va := (0, la)) rfl rfl) ?_
  refine xg_ialdB (n := la) (B := 4294967295) h111_34 (hb35) xnm0 (by omega) (fun u40 hu41 he42 => ?_)
  have hq43 : rwv w 111 la = u40 := (rwv_of h111_34 (by omega)).trans he42
  refine xg_t (xg_aload (va := (2, 82)) rfl rfl) ?_
  refine xg_cVi mX12_allTests (vs := []) (rest := [(0, u40)]) (cn1 := 0) (sl1 := 0) rfl (mAllTestsX (hI) (hV.fm (xFr.rf.1 83 (by decide)))) rfl h82_31 rfl rfl rfl rfl rfl rfl (fun n48 w44 hq45 => ?_)
  obtain ⟨hn49, hI46, hF47⟩ := hq45
  by_cases hc50 : u40 = n48
  · refine xg_t (xg_icF (u := u40) (v := n48) rfl xnm0 xnm0 (xj_neF hc50)) ?_
    refine xg_t (xg_const) ?_
    refine xg_t (xg_goto) ?_
    refine xg_t (xg_blk (b := [(18, 1, 12, 0, 1, 0)]) rfl) ?_
    exact xg_e ⟨1, w44, ⟨rfl, rfl⟩, by omega, hI46, (hF47.up (by decide))⟩
  · refine xg_t (xg_icT (u := u40) (v := n48) rfl xnm0 xnm0 (xj_neT hc50)) ?_
    refine xg_t (xg_blk (b := [(17, 1, 3, 0, 0, 0)]) rfl) ?_
    refine xg_t (xg_const) ?_
    refine xg_t (xg_blk (b := [(18, 1, 12, 0, 1, 0)]) rfl) ?_
    exact xg_e ⟨0, w44, ⟨rfl, rfl⟩, by omega, hI46, (hF47.up (by decide))⟩
theorem mManyKeptX (hI : xMnv w) (hV : tsV (mT w) (rwv w 83 901)) : xPi (d + 2) mX12_manyKept [(2, 82)] w bd fc rr (fun n w' => (n = tK (mT w) (rwv w 83 901) 240 ∧ n ≤ 240) ∧ xMnv w' ∧ xFr [111] w w') := by
  refine xPi.of ?_
  show xTo (d + 2) mX12_manyKept (0, [], [(0, (2, 82))], [], (w, bd, fc, 0, 0, rr)) (fun φ => ∃ n w', xEnd 1 [(0, n)] (w', bd, fc, 0, 0, rr) φ ∧ (n = tK (mT w) (rwv w 83 901) 240 ∧ n ≤ 240) ∧ xMnv w' ∧ xFr [111] w w')
  obtain ⟨f82_1, f82_3, f82_5, f82_7, f82_9, f82_11, f82_13, f82_15, f82_17, f82_19, f82_21, f82_22, f82_23, f82_25, f82_27, f82_29, h82_31, hb2, hb4, hb6, hb8, hb10, hb12, hb14, hb16, hb18, hb20, hb24, hb26, hb28, hb30, hb32⟩ := (hI 82 (by decide) (by decide) : cp82 (wget w 82))
  obtain ⟨g83_33, h83_34, hb35, hx36⟩ := (hI 83 (by decide) (by decide) : cpx83 (wget w 83))
  have h83_34 : xRow w 83 5360 50 g83_33 := h83_34
  refine xg_t (xg_blk (b := [(0, 1, 0, 0, 0, 0), (1, 3, 13, 174, 96, 403), (4, 1, 3, 0, 0, 0), (5, 1, 15, 1, 0, 0), (6, 1, 3, 0, 0, 0), (7, 1, 15, 2, 0, 0)]) rfl) ?_
  refine xg_t (xg_aload (va := (2, 82)) rfl rfl) ?_
  refine xg_cVv mX12_keeps (vs := []) (rest := []) (cn1 := 0) (sl1 := 0) rfl (mKeepsX (hI) hV) rfl h82_31 rfl rfl rfl rfl rfl rfl (fun w37 hq38 => ?_)
  obtain ⟨hI39, hF40, hx41⟩ := hq38
  refine xg_t (xg_const) ?_
  refine xg_t (xg_istore (l1 := [(0, (2, 82))]) rfl rfl rfl) ?_
  refine xg_t (xg_const) ?_
  refine xg_t (xg_istore (l1 := [(1, (0, 0)), (0, (2, 82))]) rfl rfl rfl) ?_
  refine xg_t (xg_drop (l1 := [(0, (2, 82)), (1, (0, 0)), (2, (0, 0))]) (List.forall_mem_cons.mpr ⟨List.mem_cons_of_mem _ (List.mem_cons_of_mem _ (List.mem_cons_self)), List.forall_mem_cons.mpr ⟨List.mem_cons_of_mem _ (List.mem_cons_self), List.forall_mem_cons.mpr ⟨List.mem_cons_self, fun _ h => absurd h List.not_mem_nil⟩⟩⟩)) ?_
  have key42 : ∀ (m44 : Nat) (nn li : Nat) (w45 : List (List xE)), 240 - li < m44 → nn ≤ 240 → li ≤ 240 → xMnv w45 → xFr [111] w w45 → ∀ i, i < 240 → rwv w45 111 i = tM (mT w) i (rwv w 83 901) → (nn = tK (mT w) (rwv w 83 901) li ∧ nn ≤ li) → xTo (d + 2) mX12_manyKept (8, [], [(0, (2, 82)), (1, (0, nn)), (2, (0, li))], [], (w45, bd, fc, 0, 0, rr)) (fun φ => ∃ n w', xEnd 1 [(0, n)] (w', bd, fc, 0, 0, rr) φ ∧ (n = tK (mT w) (rwv w 83 901) 240 ∧ n ≤ 240) ∧ xMnv w' ∧ xFr [111] w w') := by
    intro m44
    induction m44 with
    | zero => intro nn li w45 hz; exact absurd hz (Nat.not_lt_zero _)
    | succ m44 ih43 =>
      intro nn li w45 hm52 hn48 hn49 hI46 hF47 he50 he51
      obtain ⟨he53, he54⟩ := he51
      refine xg_t (xg_blk (b := [(8, 1, 2, 2, 0, 0), (9, 3, 5, 240, 0, 0), (12, 3, 6, 37, 3, 0), (15, 1, 2, 1, 0, 0), (16, 1, 0, 0, 0, 0), (17, 1, 2, 2, 0, 0), (18, 3, 13, 164, 96, 406), (21, 3, 7, 28, 0, 0), (24, 1, 3, 1, 0, 0), (25, 3, 8, 29, 0, 0)]) rfl) ?_
      refine xg_t (xg_iload (va := (0, li)) rfl rfl) ?_
      refine xg_t (xg_sip) ?_
      by_cases hc55 : li < 240
      · refine xg_t (xg_icF (u := li) (v := 240) rfl xnm0 xnm0 (xj_geF hc55 (by omega))) ?_
        refine xg_t (xg_iload (va := (0, nn)) rfl rfl) ?_
        refine xg_t (xg_aload (va := (2, 82)) rfl rfl) ?_
        refine xg_t (xg_iload (va := (0, li)) rfl rfl) ?_
        refine xg_cVi mX12_isLaw (vs := [(0, li)]) (rest := [(0, nn)]) (cn1 := 0) (sl1 := 0) rfl (mIsLawX (hI46) (by omega) (hV.fm (hF47.1 83 (by decide)))) rfl (hF47.get (by decide) h82_31) rfl rfl rfl rfl rfl rfl (fun n60 w56 hq57 => ?_)
        obtain ⟨hn61, hI58, hF59⟩ := hq57
        rw [rwv_eq (c := 83) (hF47.1 83 (by decide)), he50 li (by omega)] at hn61
        rw [tM_all] at hn61
        by_cases hc63 : n60 = 0
        · refine xg_t (xg_ifT (u := n60) rfl xnm0 (xj_eqT hc63)) ?_
          refine xg_t (xg_blk (b := [(28, 1, 3, 0, 0, 0)]) rfl) ?_
          refine xg_t (xg_const) ?_
          refine xg_t (xg_blk (b := [(29, 1, 11, 0, 0, 0), (30, 1, 15, 1, 0, 0), (31, 3, 9, 2, 1, 0), (34, 3, 8, 8, 0, 0)]) rfl) ?_
          refine xg_t (xg_iadd (u := nn) (v := 0) (z := nn + 0) xnm0 xnm0 (by omega)) ?_
          refine xg_t (xg_istore (l1 := [(0, (2, 82)), (2, (0, li))]) rfl rfl rfl) ?_
          refine xg_t (xg_iinc (u := li) (z := li + 1) (l1 := [(1, (0, nn + 0)), (0, (2, 82))]) rfl rfl (by omega) rfl) ?_
          refine xg_t (xg_goto) ?_
          refine xg_t (xg_drop (l1 := [(0, (2, 82)), (1, (0, nn + 0)), (2, (0, li + 1))]) (List.forall_mem_cons.mpr ⟨List.mem_cons_of_mem _ (List.mem_cons_of_mem _ (List.mem_cons_self)), List.forall_mem_cons.mpr ⟨List.mem_cons_of_mem _ (List.mem_cons_self), List.forall_mem_cons.mpr ⟨List.mem_cons_self, fun _ h => absurd h List.not_mem_nil⟩⟩⟩)) ?_
          have hy64 : tK (mT w) (rwv w 83 901) (li + 1) = tK (mT w) (rwv w 83 901) li + 0 := by
            exact tK_n (by rcases hn61 with z | z; exact absurd z.1 (by omega); exact z.2)
          exact ih43 (nn + 0) (li + 1) w56 (by omega) (by omega) (by omega) (hI58) ((hF47.tr (hF59.up (by decide)))) (fun i hi => (rwv_fr hF59 (by decide)).trans (he50 i hi)) (⟨by omega, by omega⟩)
        · refine xg_t (xg_ifF (u := n60) rfl xnm0 (xj_eqF hc63)) ?_
          refine xg_t (xg_const) ?_
          refine xg_t (xg_goto) ?_
          refine xg_t (xg_blk (b := [(29, 1, 11, 0, 0, 0), (30, 1, 15, 1, 0, 0), (31, 3, 9, 2, 1, 0), (34, 3, 8, 8, 0, 0)]) rfl) ?_
          refine xg_t (xg_iadd (u := nn) (v := 1) (z := nn + 1) xnm0 xnm0 (by omega)) ?_
          refine xg_t (xg_istore (l1 := [(0, (2, 82)), (2, (0, li))]) rfl rfl rfl) ?_
          refine xg_t (xg_iinc (u := li) (z := li + 1) (l1 := [(1, (0, nn + 1)), (0, (2, 82))]) rfl rfl (by omega) rfl) ?_
          refine xg_t (xg_goto) ?_
          refine xg_t (xg_drop (l1 := [(0, (2, 82)), (1, (0, nn + 1)), (2, (0, li + 1))]) (List.forall_mem_cons.mpr ⟨List.mem_cons_of_mem _ (List.mem_cons_of_mem _ (List.mem_cons_self)), List.forall_mem_cons.mpr ⟨List.mem_cons_of_mem _ (List.mem_cons_self), List.forall_mem_cons.mpr ⟨List.mem_cons_self, fun _ h => absurd h List.not_mem_nil⟩⟩⟩)) ?_
          have hy65 : tK (mT w) (rwv w 83 901) (li + 1) = tK (mT w) (rwv w 83 901) li + 1 := by
            exact tK_y (by rcases hn61 with z | z; exact z.2; exact absurd z.1 (by omega))
          exact ih43 (nn + 1) (li + 1) w56 (by omega) (by omega) (by omega) (hI58) ((hF47.tr (hF59.up (by decide)))) (fun i hi => (rwv_fr hF59 (by decide)).trans (he50 i hi)) (⟨by omega, by omega⟩)
      · refine xg_t (xg_icT (u := li) (v := 240) rfl xnm0 xnm0 (xj_geT (by omega) (by omega))) ?_
        refine xg_t (xg_blk (b := [(37, 1, 2, 1, 0, 0), (38, 1, 12, 0, 1, 0)]) rfl) ?_
        refine xg_t (xg_iload (va := (0, nn)) rfl rfl) ?_
        exact xg_e ⟨nn, w45, ⟨rfl, rfl⟩, ⟨by rw [he53, show li = 240 by omega], by omega⟩, hI46, hF47⟩
  exact key42 _ 0 0 w37 (Nat.lt_succ_self _) (by omega) (by omega) (hI39) ((hF40.up (by decide))) (hx41) (⟨rfl, Nat.le_refl _⟩)
theorem mKeptX (hI : xMnv w) (hV : tsV (mT w) (rwv w 83 901)) : xPi (d + 3) mX12_kept [(2, 82)] w bd fc rr (fun n w' => (n = tK (mT w) (rwv w 83 901) 240) ∧ xMnv w' ∧ xFr [111] w w') := by
  refine xPi.of ?_
  show xTo (d + 3) mX12_kept (0, [], [(0, (2, 82))], [], (w, bd, fc, 0, 0, rr)) (fun φ => ∃ n w', xEnd 1 [(0, n)] (w', bd, fc, 0, 0, rr) φ ∧ (n = tK (mT w) (rwv w 83 901) 240) ∧ xMnv w' ∧ xFr [111] w w')
  obtain ⟨f82_1, f82_3, f82_5, f82_7, f82_9, f82_11, f82_13, f82_15, f82_17, f82_19, f82_21, f82_22, f82_23, f82_25, f82_27, f82_29, h82_31, hb2, hb4, hb6, hb8, hb10, hb12, hb14, hb16, hb18, hb20, hb24, hb26, hb28, hb30, hb32⟩ := (hI 82 (by decide) (by decide) : cp82 (wget w 82))
  obtain ⟨g83_33, h83_34, hb35, hx36⟩ := (hI 83 (by decide) (by decide) : cpx83 (wget w 83))
  have h83_34 : xRow w 83 5360 50 g83_33 := h83_34
  refine xg_t (xg_blk (b := [(0, 1, 0, 0, 0, 0), (1, 3, 13, 190, 96, 409), (4, 1, 12, 0, 1, 0)]) rfl) ?_
  refine xg_t (xg_aload (va := (2, 82)) rfl rfl) ?_
  refine xg_cVi mX12_manyKept (vs := []) (rest := []) (cn1 := 0) (sl1 := 0) rfl (mManyKeptX (hI) hV) rfl h82_31 rfl rfl rfl rfl rfl rfl (fun n41 w37 hq38 => ?_)
  obtain ⟨hn42, hI39, hF40⟩ := hq38
  exact xg_e ⟨n41, w37, ⟨rfl, rfl⟩, hn42.1, hI39, (hF40.up (by decide))⟩
theorem mLawX {kk : Nat} (hI : xMnv w) (hkk : kk ≤ 4294967295) (hV : tsV (mT w) (rwv w 83 901)) : xPi (d + 2) mX12_law [(2, 82), (0, kk)] w bd fc rr (fun n w' => (n = tL (mT w) (rwv w 83 901) kk 240 0 0) ∧ xMnv w' ∧ xFr [111] w w') := by
  refine xPi.of ?_
  show xTo (d + 2) mX12_law (0, [], [(0, (2, 82)), (1, (0, kk))], [], (w, bd, fc, 0, 0, rr)) (fun φ => ∃ n w', xEnd 1 [(0, n)] (w', bd, fc, 0, 0, rr) φ ∧ (n = tL (mT w) (rwv w 83 901) kk 240 0 0) ∧ xMnv w' ∧ xFr [111] w w')
  obtain ⟨f82_1, f82_3, f82_5, f82_7, f82_9, f82_11, f82_13, f82_15, f82_17, f82_19, f82_21, f82_22, f82_23, f82_25, f82_27, f82_29, h82_31, hb2, hb4, hb6, hb8, hb10, hb12, hb14, hb16, hb18, hb20, hb24, hb26, hb28, hb30, hb32⟩ := (hI 82 (by decide) (by decide) : cp82 (wget w 82))
  obtain ⟨g83_33, h83_34, hb35, hx36⟩ := (hI 83 (by decide) (by decide) : cpx83 (wget w 83))
  have h83_34 : xRow w 83 5360 50 g83_33 := h83_34
  refine xg_t (xg_blk (b := [(0, 1, 0, 0, 0, 0), (1, 3, 13, 174, 96, 403), (4, 1, 3, 0, 0, 0), (5, 1, 15, 2, 0, 0), (6, 1, 3, 0, 0, 0), (7, 1, 15, 3, 0, 0)]) rfl) ?_
  refine xg_t (xg_aload (va := (2, 82)) rfl rfl) ?_
  refine xg_cVv mX12_keeps (vs := []) (rest := []) (cn1 := 0) (sl1 := 0) rfl (mKeepsX (hI) hV) rfl h82_31 rfl rfl rfl rfl rfl rfl (fun w37 hq38 => ?_)
  obtain ⟨hI39, hF40, hx41⟩ := hq38
  refine xg_t (xg_const) ?_
  refine xg_t (xg_istore (l1 := [(0, (2, 82)), (1, (0, kk))]) rfl rfl rfl) ?_
  refine xg_t (xg_const) ?_
  refine xg_t (xg_istore (l1 := [(2, (0, 0)), (0, (2, 82)), (1, (0, kk))]) rfl rfl rfl) ?_
  refine xg_t (xg_drop (l1 := [(0, (2, 82)), (1, (0, kk)), (2, (0, 0)), (3, (0, 0))]) (List.forall_mem_cons.mpr ⟨List.mem_cons_of_mem _ (List.mem_cons_of_mem _ (List.mem_cons_self)), List.forall_mem_cons.mpr ⟨List.mem_cons_of_mem _ (List.mem_cons_of_mem _ (List.mem_cons_of_mem _ (List.mem_cons_self))), List.forall_mem_cons.mpr ⟨List.mem_cons_of_mem _ (List.mem_cons_self), List.forall_mem_cons.mpr ⟨List.mem_cons_self, fun _ h => absurd h List.not_mem_nil⟩⟩⟩⟩)) ?_
  have key42 : ∀ (m44 : Nat) (nn li : Nat) (w45 : List (List xE)), 240 - li < m44 → nn ≤ 240 → li ≤ 240 → xMnv w45 → xFr [111] w w45 → ∀ i, i < 240 → rwv w45 111 i = tM (mT w) i (rwv w 83 901) → tL (mT w) (rwv w 83 901) kk (240 - li) li nn = tL (mT w) (rwv w 83 901) kk 240 0 0 ∧ nn ≤ li → xTo (d + 2) mX12_law (8, [], [(0, (2, 82)), (1, (0, kk)), (2, (0, nn)), (3, (0, li))], [], (w45, bd, fc, 0, 0, rr)) (fun φ => ∃ n w', xEnd 1 [(0, n)] (w', bd, fc, 0, 0, rr) φ ∧ (n = tL (mT w) (rwv w 83 901) kk 240 0 0) ∧ xMnv w' ∧ xFr [111] w w') := by
    intro m44
    induction m44 with
    | zero => intro nn li w45 hz; exact absurd hz (Nat.not_lt_zero _)
    | succ m44 ih43 =>
      intro nn li w45 hm52 hn48 hn49 hI46 hF47 he50 he51
      obtain ⟨he53, he54⟩ := he51
      refine xg_t (xg_blk (b := [(8, 1, 2, 3, 0, 0), (9, 3, 5, 240, 0, 0), (12, 3, 6, 55, 3, 0), (15, 1, 0, 0, 0, 0), (16, 1, 2, 3, 0, 0), (17, 3, 13, 164, 96, 406), (20, 3, 7, 26, 1, 0), (23, 3, 8, 49, 0, 0)]) rfl) ?_
      refine xg_t (xg_iload (va := (0, li)) rfl rfl) ?_
      refine xg_t (xg_sip) ?_
      by_cases hc55 : li < 240
      · refine xg_t (xg_icF (u := li) (v := 240) rfl xnm0 xnm0 (xj_geF hc55 (by omega))) ?_
        refine xg_t (xg_aload (va := (2, 82)) rfl rfl) ?_
        refine xg_t (xg_iload (va := (0, li)) rfl rfl) ?_
        refine xg_cVi mX12_isLaw (vs := [(0, li)]) (rest := []) (cn1 := 0) (sl1 := 0) rfl (mIsLawX (hI46) (by omega) (hV.fm (hF47.1 83 (by decide)))) rfl (hF47.get (by decide) h82_31) rfl rfl rfl rfl rfl rfl (fun n60 w56 hq57 => ?_)
        obtain ⟨hn61, hI58, hF59⟩ := hq57
        rw [rwv_eq (c := 83) (hF47.1 83 (by decide)), he50 li (by omega)] at hn61
        rw [tM_all] at hn61
        by_cases hc63 : n60 = 0
        · refine xg_t (xg_ifF (u := n60) rfl xnm0 (xj_neF hc63)) ?_
          refine xg_t (xg_goto) ?_
          refine xg_t (xg_blk (b := [(49, 3, 9, 3, 1, 0), (52, 3, 8, 8, 0, 0)]) rfl) ?_
          refine xg_t (xg_iinc (u := li) (z := li + 1) (l1 := [(0, (2, 82)), (1, (0, kk)), (2, (0, nn))]) rfl rfl (by omega) rfl) ?_
          refine xg_t (xg_goto) ?_
          refine xg_t (xg_drop (l1 := [(0, (2, 82)), (1, (0, kk)), (2, (0, nn)), (3, (0, li + 1))]) (List.forall_mem_cons.mpr ⟨List.mem_cons_of_mem _ (List.mem_cons_self), List.forall_mem_cons.mpr ⟨List.mem_cons_of_mem _ (List.mem_cons_of_mem _ (List.mem_cons_self)), List.forall_mem_cons.mpr ⟨List.mem_cons_of_mem _ (List.mem_cons_of_mem _ (List.mem_cons_of_mem _ (List.mem_cons_self))), List.forall_mem_cons.mpr ⟨List.mem_cons_self, fun _ h => absurd h List.not_mem_nil⟩⟩⟩⟩)) ?_
          have hG65 : ¬ tG (mT w) li (rwv w 83 901) = true := by
            rcases hn61 with z | z
            · exact absurd z.1 (by omega)
            · exact z.2
          have hy64 := tL_n (k := kk) (p := nn) hG65 (by omega)
          exact ih43 nn (li + 1) w56 (by omega) (by omega) (by omega) (hI58) ((hF47.tr (hF59.up (by decide)))) (fun i hi => (rwv_fr hF59 (by decide)).trans (he50 i hi)) (⟨by omega, by omega⟩)
        · refine xg_t (xg_ifT (u := n60) rfl xnm0 (xj_neT hc63)) ?_
          refine xg_t (xg_blk (b := [(26, 1, 2, 2, 0, 0), (27, 1, 2, 1, 0, 0), (28, 3, 6, 46, 1, 0), (31, 2, 4, 100, 0, 0), (33, 1, 2, 3, 0, 0), (34, 2, 4, 60, 0, 0), (36, 1, 20, 0, 0, 0), (37, 1, 16, 0, 0, 0), (38, 1, 2, 3, 0, 0), (39, 2, 4, 60, 0, 0), (41, 1, 21, 0, 0, 0), (42, 1, 11, 0, 0, 0), (43, 1, 3, 1, 0, 0), (44, 1, 11, 0, 0, 0), (45, 1, 12, 0, 1, 0)]) rfl) ?_
          have hG66 : tG (mT w) li (rwv w 83 901) = true := by
            rcases hn61 with z | z
            · exact z.2
            · exact absurd z.1 (by omega)
          refine xg_t (xg_iload (va := (0, nn)) rfl rfl) ?_
          refine xg_t (xg_iload (va := (0, kk)) rfl rfl) ?_
          by_cases hc67 : nn = kk
          · refine xg_t (xg_icF (u := nn) (v := kk) rfl xnm0 xnm0 (xj_neF hc67)) ?_
            refine xg_t (xg_bip) ?_
            refine xg_t (xg_iload (va := (0, li)) rfl rfl) ?_
            refine xg_t (xg_bip) ?_
            refine xg_t (xg_idiv (u := li) (v := 60) (z := li / 60) xnm0 xnm0 (by omega) (by decide) (by decide) (rfl)) ?_
            refine xg_t (xg_imul (u := 100) (v := li / 60) (z := 100 * (li / 60)) xnm0 xnm0 (by omega)) ?_
            refine xg_t (xg_iload (va := (0, li)) rfl rfl) ?_
            refine xg_t (xg_bip) ?_
            refine xg_t (xg_irem (u := li) (v := 60) (z := li % 60) xnm0 xnm0 (by omega) (by decide) (by decide) (rfl)) ?_
            refine xg_t (xg_iadd (u := 100 * (li / 60)) (v := li % 60) (z := (100 * (li / 60)) + (li % 60)) xnm0 xnm0 (by omega)) ?_
            refine xg_t (xg_const) ?_
            refine xg_t (xg_iadd (u := (100 * (li / 60)) + (li % 60)) (v := 1) (z := ((100 * (li / 60)) + (li % 60)) + 1) xnm0 xnm0 (by omega)) ?_
            have hy68 := tL_k (k := kk) (p := nn) hG66 (by omega) (by omega)
            exact xg_e ⟨((100 * (li / 60)) + (li % 60)) + 1, w56, ⟨rfl, rfl⟩, by omega, hI58, (hF47.tr (hF59.up (by decide)))⟩
          · refine xg_t (xg_icT (u := nn) (v := kk) rfl xnm0 xnm0 (xj_neT hc67)) ?_
            refine xg_t (xg_blk (b := [(46, 3, 9, 2, 1, 0)]) rfl) ?_
            refine xg_t (xg_iinc (u := nn) (z := nn + 1) (l1 := [(0, (2, 82)), (1, (0, kk)), (3, (0, li))]) rfl rfl (by omega) rfl) ?_
            refine xg_t (xg_blk (b := [(49, 3, 9, 3, 1, 0), (52, 3, 8, 8, 0, 0)]) rfl) ?_
            refine xg_t (xg_iinc (u := li) (z := li + 1) (l1 := [(2, (0, nn + 1)), (0, (2, 82)), (1, (0, kk))]) rfl rfl (by omega) rfl) ?_
            refine xg_t (xg_goto) ?_
            refine xg_t (xg_drop (l1 := [(0, (2, 82)), (1, (0, kk)), (2, (0, nn + 1)), (3, (0, li + 1))]) (List.forall_mem_cons.mpr ⟨List.mem_cons_of_mem _ (List.mem_cons_of_mem _ (List.mem_cons_self)), List.forall_mem_cons.mpr ⟨List.mem_cons_of_mem _ (List.mem_cons_of_mem _ (List.mem_cons_of_mem _ (List.mem_cons_self))), List.forall_mem_cons.mpr ⟨List.mem_cons_of_mem _ (List.mem_cons_self), List.forall_mem_cons.mpr ⟨List.mem_cons_self, fun _ h => absurd h List.not_mem_nil⟩⟩⟩⟩)) ?_
            have hy69 := tL_y (k := kk) hG66 (by omega) (show nn ≠ kk by omega)
            exact ih43 (nn + 1) (li + 1) w56 (by omega) (by omega) (by omega) (hI58) ((hF47.tr (hF59.up (by decide)))) (fun i hi => (rwv_fr hF59 (by decide)).trans (he50 i hi)) (⟨by omega, by omega⟩)
      · refine xg_t (xg_icT (u := li) (v := 240) rfl xnm0 xnm0 (xj_geT (by omega) (by omega))) ?_
        refine xg_t (xg_blk (b := [(55, 1, 3, 4294967295, 0, 0), (56, 1, 12, 0, 1, 0)]) rfl) ?_
        refine xg_t (xg_const) ?_
        have hy := tL_e (t := mT w) (n := rwv w 83 901) (k := kk) (p := nn) (show 240 ≤ li by omega)
        exact xg_e ⟨4294967295, w45, ⟨rfl, rfl⟩, by omega, hI46, hF47⟩
  exact key42 _ 0 0 w37 (Nat.lt_succ_self _) (by omega) (by omega) (hI39) ((hF40.up (by decide))) (hx41) (⟨rfl, Nat.le_refl _⟩)
theorem mSpanX {sp mo : Nat} (hI : xMnv w) (hsp : sp ≤ 4294967295) (hmo : mo ≤ 1) (hV : tsV (mT w) (rwv w 83 901)) : xPi (d + 2) mX12_span [(2, 82), (0, sp), (0, mo)] w bd fc rr (fun n w' => (((1 ≤ sp ∧ sp ≤ 9) ∧ tK (mT w) (rwv w 83 901) 240 ≠ 0 ∧ ((mo = 0 ∧ n = tMn (mT w) (rwv w 83 901) sp 240) ∨ (mo ≠ 0 ∧ n = tMx (mT w) (rwv w 83 901) sp 240))) ∨ (¬ ((1 ≤ sp ∧ sp ≤ 9) ∧ tK (mT w) (rwv w 83 901) 240 ≠ 0) ∧ n = 4294967295)) ∧ xMnv w' ∧ xFr [111] w w') := by
  refine xPi.of ?_
  show xTo (d + 2) mX12_span (0, [], [(0, (2, 82)), (1, (0, sp)), (2, (0, mo))], [], (w, bd, fc, 0, 0, rr)) (fun φ => ∃ n w', xEnd 1 [(0, n)] (w', bd, fc, 0, 0, rr) φ ∧ (((1 ≤ sp ∧ sp ≤ 9) ∧ tK (mT w) (rwv w 83 901) 240 ≠ 0 ∧ ((mo = 0 ∧ n = tMn (mT w) (rwv w 83 901) sp 240) ∨ (mo ≠ 0 ∧ n = tMx (mT w) (rwv w 83 901) sp 240))) ∨ (¬ ((1 ≤ sp ∧ sp ≤ 9) ∧ tK (mT w) (rwv w 83 901) 240 ≠ 0) ∧ n = 4294967295)) ∧ xMnv w' ∧ xFr [111] w w')
  obtain ⟨f82_1, f82_3, f82_5, f82_7, f82_9, f82_11, f82_13, f82_15, f82_17, f82_19, f82_21, f82_22, f82_23, f82_25, f82_27, f82_29, h82_31, hb2, hb4, hb6, hb8, hb10, hb12, hb14, hb16, hb18, hb20, hb24, hb26, hb28, hb30, hb32⟩ := (hI 82 (by decide) (by decide) : cp82 (wget w 82))
  obtain ⟨g83_33, h83_34, hb35, hx36⟩ := (hI 83 (by decide) (by decide) : cpx83 (wget w 83))
  have h83_34 : xRow w 83 5360 50 g83_33 := h83_34
  refine xg_t (xg_blk (b := [(0, 1, 2, 1, 0, 0), (1, 1, 3, 1, 0, 0), (2, 2, 4, 9, 0, 0), (4, 3, 13, 161, 98, 105), (7, 3, 7, 12, 1, 0), (10, 1, 3, 4294967295, 0, 0), (11, 1, 12, 0, 1, 0)]) rfl) ?_
  refine xg_t (xg_iload (va := (0, sp)) rfl rfl) ?_
  refine xg_t (xg_const) ?_
  refine xg_t (xg_bip) ?_
  refine xg_t (xg_cSr mX12_isIn (vs := [(0, sp), (0, 1), (0, 9)]) (rest := []) (rs := [(0, if 1 ≤ sp ∧ sp ≤ 9 then 1 else 0)]) (cn1 := 0) (sl1 := 0) rfl (mIsIn (by omega) (by omega) (by omega)) rfl rfl rfl rfl rfl rfl rfl rfl) ?_
  by_cases hc37 : 1 ≤ sp ∧ sp ≤ 9
  · refine xg_t (xg_ifT (u := (if 1 ≤ sp ∧ sp ≤ 9 then 1 else 0)) rfl xnm0 (xj_neT (xite1 hc37))) ?_
    refine xg_t (xg_blk (b := [(12, 1, 0, 0, 0, 0), (13, 3, 13, 174, 96, 403), (16, 1, 3, 4294967295, 0, 0), (17, 1, 15, 3, 0, 0), (18, 1, 3, 0, 0, 0), (19, 2, 15, 4, 0, 0)]) rfl) ?_
    have h1 : 1 ≤ sp := by omega
    have h9 : sp ≤ 9 := by omega
    refine xg_t (xg_aload (va := (2, 82)) rfl rfl) ?_
    refine xg_cVv mX12_keeps (vs := []) (rest := []) (cn1 := 0) (sl1 := 0) rfl (mKeepsX (hI) hV) rfl h82_31 rfl rfl rfl rfl rfl rfl (fun w38 hq39 => ?_)
    obtain ⟨hI40, hF41, hx42⟩ := hq39
    refine xg_t (xg_const) ?_
    refine xg_t (xg_istore (l1 := [(0, (2, 82)), (1, (0, sp)), (2, (0, mo))]) rfl rfl rfl) ?_
    refine xg_t (xg_const) ?_
    refine xg_t (xg_istore (l1 := [(3, (0, 4294967295)), (0, (2, 82)), (1, (0, sp)), (2, (0, mo))]) rfl rfl rfl) ?_
    refine xg_t (xg_drop (l1 := [(0, (2, 82)), (1, (0, sp)), (2, (0, mo)), (3, (0, 4294967295)), (4, (0, 0))]) (List.forall_mem_cons.mpr ⟨List.mem_cons_of_mem _ (List.mem_cons_of_mem _ (List.mem_cons_self)), List.forall_mem_cons.mpr ⟨List.mem_cons_of_mem _ (List.mem_cons_of_mem _ (List.mem_cons_of_mem _ (List.mem_cons_self))), List.forall_mem_cons.mpr ⟨List.mem_cons_of_mem _ (List.mem_cons_of_mem _ (List.mem_cons_of_mem _ (List.mem_cons_of_mem _ (List.mem_cons_self)))), List.forall_mem_cons.mpr ⟨List.mem_cons_of_mem _ (List.mem_cons_self), List.forall_mem_cons.mpr ⟨List.mem_cons_self, fun _ h => absurd h List.not_mem_nil⟩⟩⟩⟩⟩)) ?_
    have key43 : ∀ (m45 : Nat) (vv li : Nat) (w46 : List (List xE)), 240 - li < m45 → vv ≤ 4294967295 → li ≤ 240 → xMnv w46 → xFr [111] w w46 → ∀ i, i < 240 → rwv w46 111 i = tM (mT w) i (rwv w 83 901) → ((tK (mT w) (rwv w 83 901) li = 0 ∧ vv = 4294967295) ∨ (tK (mT w) (rwv w 83 901) li ≠ 0 ∧ ((mo = 0 ∧ vv = tMn (mT w) (rwv w 83 901) sp li) ∨ (mo ≠ 0 ∧ vv = tMx (mT w) (rwv w 83 901) sp li)))) → xTo (d + 2) mX12_span (21, [], [(0, (2, 82)), (1, (0, sp)), (2, (0, mo)), (3, (0, vv)), (4, (0, li))], [], (w46, bd, fc, 0, 0, rr)) (fun φ => ∃ n w', xEnd 1 [(0, n)] (w', bd, fc, 0, 0, rr) φ ∧ (((1 ≤ sp ∧ sp ≤ 9) ∧ tK (mT w) (rwv w 83 901) 240 ≠ 0 ∧ ((mo = 0 ∧ n = tMn (mT w) (rwv w 83 901) sp 240) ∨ (mo ≠ 0 ∧ n = tMx (mT w) (rwv w 83 901) sp 240))) ∨ (¬ ((1 ≤ sp ∧ sp ≤ 9) ∧ tK (mT w) (rwv w 83 901) 240 ≠ 0) ∧ n = 4294967295)) ∧ xMnv w' ∧ xFr [111] w w') := by
      intro m45
      induction m45 with
      | zero => intro vv li w46 hz; exact absurd hz (Nat.not_lt_zero _)
      | succ m45 ih44 =>
        intro vv li w46 hm53 hn49 hn50 hI47 hF48 he51 he52
        refine xg_t (xg_blk (b := [(21, 2, 2, 4, 0, 0), (23, 3, 5, 240, 0, 0), (26, 3, 6, 93, 3, 0), (29, 1, 0, 0, 0, 0), (30, 2, 2, 4, 0, 0), (32, 3, 13, 164, 96, 406), (35, 3, 7, 41, 1, 0), (38, 3, 8, 87, 0, 0)]) rfl) ?_
        refine xg_t (xg_iload (va := (0, li)) rfl rfl) ?_
        refine xg_t (xg_sip) ?_
        by_cases hc54 : li < 240
        · refine xg_t (xg_icF (u := li) (v := 240) rfl xnm0 xnm0 (xj_geF hc54 (by omega))) ?_
          refine xg_t (xg_aload (va := (2, 82)) rfl rfl) ?_
          refine xg_t (xg_iload (va := (0, li)) rfl rfl) ?_
          refine xg_cVi mX12_isLaw (vs := [(0, li)]) (rest := []) (cn1 := 0) (sl1 := 0) rfl (mIsLawX (hI47) (by omega) (hV.fm (hF48.1 83 (by decide)))) rfl (hF48.get (by decide) h82_31) rfl rfl rfl rfl rfl rfl (fun n59 w55 hq56 => ?_)
          obtain ⟨hn60, hI57, hF58⟩ := hq56
          rw [rwv_eq (c := 83) (hF48.1 83 (by decide)), he51 li (by omega)] at hn60
          rw [tM_all] at hn60
          by_cases hc62 : n59 = 0
          · refine xg_t (xg_ifF (u := n59) rfl xnm0 (xj_neF hc62)) ?_
            refine xg_t (xg_goto) ?_
            refine xg_t (xg_blk (b := [(87, 3, 9, 4, 1, 0), (90, 3, 8, 21, 0, 0)]) rfl) ?_
            refine xg_t (xg_iinc (u := li) (z := li + 1) (l1 := [(0, (2, 82)), (1, (0, sp)), (2, (0, mo)), (3, (0, vv))]) rfl rfl (by omega) rfl) ?_
            refine xg_t (xg_goto) ?_
            refine xg_t (xg_drop (l1 := [(0, (2, 82)), (1, (0, sp)), (2, (0, mo)), (3, (0, vv)), (4, (0, li + 1))]) (List.forall_mem_cons.mpr ⟨List.mem_cons_of_mem _ (List.mem_cons_self), List.forall_mem_cons.mpr ⟨List.mem_cons_of_mem _ (List.mem_cons_of_mem _ (List.mem_cons_self)), List.forall_mem_cons.mpr ⟨List.mem_cons_of_mem _ (List.mem_cons_of_mem _ (List.mem_cons_of_mem _ (List.mem_cons_self))), List.forall_mem_cons.mpr ⟨List.mem_cons_of_mem _ (List.mem_cons_of_mem _ (List.mem_cons_of_mem _ (List.mem_cons_of_mem _ (List.mem_cons_self)))), List.forall_mem_cons.mpr ⟨List.mem_cons_self, fun _ h => absurd h List.not_mem_nil⟩⟩⟩⟩⟩)) ?_
            have hG63 : ¬ tG (mT w) li (rwv w 83 901) = true := by
              rcases hn60 with z | z
              · exact absurd z.1 (by omega)
              · exact z.2
            have hy64 := tK_n (m := li) hG63
            have hy65 := tMn_n (sp := sp) hG63
            have hy66 := tMx_n (sp := sp) hG63
            exact ih44 vv (li + 1) w55 (by omega) (by omega) (by omega) (hI57) ((hF48.tr (hF58.up (by decide)))) (fun i hi => (rwv_fr hF58 (by decide)).trans (he51 i hi)) (by omega)
          · refine xg_t (xg_ifT (u := n59) rfl xnm0 (xj_neT hc62)) ?_
            refine xg_t (xg_blk (b := [(41, 1, 2, 2, 0, 0), (42, 3, 7, 50, 0, 0), (45, 2, 4, 12, 0, 0), (47, 3, 8, 52, 0, 0)]) rfl) ?_
            have hG67 : tG (mT w) li (rwv w 83 901) = true := by
              rcases hn60 with z | z
              · exact z.2
              · exact absurd z.1 (by omega)
            refine xg_t (xg_iload (va := (0, mo)) rfl rfl) ?_
            by_cases hc68 : mo = 0
            · refine xg_t (xg_ifT (u := mo) rfl xnm0 (xj_eqT hc68)) ?_
              refine xg_t (xg_blk (b := [(50, 2, 4, 8, 0, 0)]) rfl) ?_
              refine xg_t (xg_bip) ?_
              refine xg_t (xg_blk (b := [(52, 2, 2, 4, 0, 0), (54, 1, 2, 1, 0, 0), (55, 3, 13, 179, 98, 397), (58, 1, 16, 0, 0, 0), (59, 2, 15, 5, 0, 0), (61, 1, 2, 3, 0, 0), (62, 3, 7, 84, 2, 0), (65, 1, 2, 2, 0, 0), (66, 3, 7, 78, 0, 0), (69, 2, 2, 5, 0, 0), (71, 1, 2, 3, 0, 0), (72, 3, 6, 87, 5, 0), (75, 3, 8, 84, 0, 0)]) rfl) ?_
              refine xg_t (xg_iload (va := (0, li)) rfl rfl) ?_
              refine xg_t (xg_iload (va := (0, sp)) rfl rfl) ?_
              refine xg_cSi mX12_lawAt (vs := [(0, li), (0, sp)]) (rest := [(0, 8)]) (cn1 := 0) (sl1 := 0) rfl (mLawAtX (hI57) (by omega) (by omega) (by omega)) rfl rfl rfl rfl rfl rfl rfl (fun n73 w69 hq70 => ?_)
              obtain ⟨hn74, hI71, hF72⟩ := hq70
              obtain ⟨hu75, hu76⟩ := hn74
              refine xg_t (xg_imul (u := 8) (v := n73) (z := 8 * n73) xnm0 xnm0 (by omega)) ?_
              refine xg_t (xg_istore (l1 := [(0, (2, 82)), (1, (0, sp)), (2, (0, mo)), (3, (0, vv)), (4, (0, li))]) rfl rfl rfl) ?_
              refine xg_t (xg_iload (va := (0, vv)) rfl rfl) ?_
              by_cases hc77 : vv < 2147483648
              · refine xg_t (xg_ifF (u := vv) rfl xnm0 (xjz_ltF hc77)) ?_
                refine xg_t (xg_iload (va := (0, mo)) rfl rfl) ?_
                by_cases hc78 : mo = 0
                · refine xg_t (xg_ifT (u := mo) rfl xnm0 (xj_eqT hc78)) ?_
                  refine xg_t (xg_blk (b := [(78, 2, 2, 5, 0, 0), (80, 1, 2, 3, 0, 0), (81, 3, 6, 87, 3, 0)]) rfl) ?_
                  refine xg_t (xg_iload (va := (0, 8 * n73)) rfl rfl) ?_
                  refine xg_t (xg_iload (va := (0, vv)) rfl rfl) ?_
                  by_cases hc79 : (8 * n73) < vv
                  · refine xg_t (xg_icF (u := 8 * n73) (v := vv) rfl xnm0 xnm0 (xj_geF hc79 (by omega))) ?_
                    refine xg_t (xg_blk (b := [(84, 2, 2, 5, 0, 0), (86, 1, 15, 3, 0, 0)]) rfl) ?_
                    refine xg_t (xg_iload (va := (0, 8 * n73)) rfl rfl) ?_
                    refine xg_t (xg_istore (l1 := [(5, (0, 8 * n73)), (0, (2, 82)), (1, (0, sp)), (2, (0, mo)), (4, (0, li))]) rfl rfl rfl) ?_
                    refine xg_t (xg_blk (b := [(87, 3, 9, 4, 1, 0), (90, 3, 8, 21, 0, 0)]) rfl) ?_
                    refine xg_t (xg_iinc (u := li) (z := li + 1) (l1 := [(3, (0, 8 * n73)), (5, (0, 8 * n73)), (0, (2, 82)), (1, (0, sp)), (2, (0, mo))]) rfl rfl (by omega) rfl) ?_
                    refine xg_t (xg_goto) ?_
                    refine xg_t (xg_drop (l1 := [(0, (2, 82)), (1, (0, sp)), (2, (0, mo)), (3, (0, 8 * n73)), (4, (0, li + 1))]) (List.forall_mem_cons.mpr ⟨List.mem_cons_of_mem _ (List.mem_cons_of_mem _ (List.mem_cons_of_mem _ (List.mem_cons_self))), List.forall_mem_cons.mpr ⟨List.mem_cons_of_mem _ (List.mem_cons_of_mem _ (List.mem_cons_of_mem _ (List.mem_cons_of_mem _ (List.mem_cons_self)))), List.forall_mem_cons.mpr ⟨List.mem_cons_of_mem _ (List.mem_cons_of_mem _ (List.mem_cons_of_mem _ (List.mem_cons_of_mem _ (List.mem_cons_of_mem _ (List.mem_cons_self))))), List.forall_mem_cons.mpr ⟨List.mem_cons_of_mem _ (List.mem_cons_self), List.forall_mem_cons.mpr ⟨List.mem_cons_self, fun _ h => absurd h List.not_mem_nil⟩⟩⟩⟩⟩)) ?_
                    have hy80 := tK_y (m := li) hG67
                    have hy81 := tMn_y (sp := sp) hG67
                    have hy82 := tMx_y (sp := sp) hG67
                    have hy83 := tMn_0 (t := mT w) (n := rwv w 83 901) (sp := sp) li
                    have hy84 := tMn_le (t := mT w) (n := rwv w 83 901) h1 h9 li (by omega)
                    exact ih44 (8 * n73) (li + 1) w69 (by omega) (by omega) (by omega) (hI71) (((hF48.tr (hF58.up (by decide))).tr (hF72.up (by decide)))) (fun i hi => ((rwv_fr hF72 (by decide)).trans (rwv_fr hF58 (by decide))).trans (he51 i hi)) (by omega)
                  · refine xg_t (xg_icT (u := 8 * n73) (v := vv) rfl xnm0 xnm0 (xj_geT (by omega) (by omega))) ?_
                    refine xg_t (xg_blk (b := [(87, 3, 9, 4, 1, 0), (90, 3, 8, 21, 0, 0)]) rfl) ?_
                    refine xg_t (xg_iinc (u := li) (z := li + 1) (l1 := [(5, (0, 8 * n73)), (0, (2, 82)), (1, (0, sp)), (2, (0, mo)), (3, (0, vv))]) rfl rfl (by omega) rfl) ?_
                    refine xg_t (xg_goto) ?_
                    refine xg_t (xg_drop (l1 := [(0, (2, 82)), (1, (0, sp)), (2, (0, mo)), (3, (0, vv)), (4, (0, li + 1))]) (List.forall_mem_cons.mpr ⟨List.mem_cons_of_mem _ (List.mem_cons_of_mem _ (List.mem_cons_self)), List.forall_mem_cons.mpr ⟨List.mem_cons_of_mem _ (List.mem_cons_of_mem _ (List.mem_cons_of_mem _ (List.mem_cons_self))), List.forall_mem_cons.mpr ⟨List.mem_cons_of_mem _ (List.mem_cons_of_mem _ (List.mem_cons_of_mem _ (List.mem_cons_of_mem _ (List.mem_cons_self)))), List.forall_mem_cons.mpr ⟨List.mem_cons_of_mem _ (List.mem_cons_of_mem _ (List.mem_cons_of_mem _ (List.mem_cons_of_mem _ (List.mem_cons_of_mem _ (List.mem_cons_self))))), List.forall_mem_cons.mpr ⟨List.mem_cons_self, fun _ h => absurd h List.not_mem_nil⟩⟩⟩⟩⟩)) ?_
                    have hy85 := tK_y (m := li) hG67
                    have hy86 := tMn_y (sp := sp) hG67
                    have hy87 := tMx_y (sp := sp) hG67
                    have hy88 := tMn_0 (t := mT w) (n := rwv w 83 901) (sp := sp) li
                    have hy89 := tMn_le (t := mT w) (n := rwv w 83 901) h1 h9 li (by omega)
                    exact ih44 vv (li + 1) w69 (by omega) (by omega) (by omega) (hI71) (((hF48.tr (hF58.up (by decide))).tr (hF72.up (by decide)))) (fun i hi => ((rwv_fr hF72 (by decide)).trans (rwv_fr hF58 (by decide))).trans (he51 i hi)) (by omega)
                · refine xg_t (xg_ifF (u := mo) rfl xnm0 (xj_eqF hc78)) ?_
                  refine xg_t (xg_iload (va := (0, 8 * n73)) rfl rfl) ?_
                  refine xg_t (xg_iload (va := (0, vv)) rfl rfl) ?_
                  by_cases hc90 : vv < (8 * n73)
                  · refine xg_t (xg_icF (u := 8 * n73) (v := vv) rfl xnm0 xnm0 (xj_leF hc90 (by omega))) ?_
                    refine xg_t (xg_goto) ?_
                    refine xg_t (xg_blk (b := [(84, 2, 2, 5, 0, 0), (86, 1, 15, 3, 0, 0)]) rfl) ?_
                    refine xg_t (xg_iload (va := (0, 8 * n73)) rfl rfl) ?_
                    refine xg_t (xg_istore (l1 := [(5, (0, 8 * n73)), (0, (2, 82)), (1, (0, sp)), (2, (0, mo)), (4, (0, li))]) rfl rfl rfl) ?_
                    refine xg_t (xg_blk (b := [(87, 3, 9, 4, 1, 0), (90, 3, 8, 21, 0, 0)]) rfl) ?_
                    refine xg_t (xg_iinc (u := li) (z := li + 1) (l1 := [(3, (0, 8 * n73)), (5, (0, 8 * n73)), (0, (2, 82)), (1, (0, sp)), (2, (0, mo))]) rfl rfl (by omega) rfl) ?_
                    refine xg_t (xg_goto) ?_
                    refine xg_t (xg_drop (l1 := [(0, (2, 82)), (1, (0, sp)), (2, (0, mo)), (3, (0, 8 * n73)), (4, (0, li + 1))]) (List.forall_mem_cons.mpr ⟨List.mem_cons_of_mem _ (List.mem_cons_of_mem _ (List.mem_cons_of_mem _ (List.mem_cons_self))), List.forall_mem_cons.mpr ⟨List.mem_cons_of_mem _ (List.mem_cons_of_mem _ (List.mem_cons_of_mem _ (List.mem_cons_of_mem _ (List.mem_cons_self)))), List.forall_mem_cons.mpr ⟨List.mem_cons_of_mem _ (List.mem_cons_of_mem _ (List.mem_cons_of_mem _ (List.mem_cons_of_mem _ (List.mem_cons_of_mem _ (List.mem_cons_self))))), List.forall_mem_cons.mpr ⟨List.mem_cons_of_mem _ (List.mem_cons_self), List.forall_mem_cons.mpr ⟨List.mem_cons_self, fun _ h => absurd h List.not_mem_nil⟩⟩⟩⟩⟩)) ?_
                    have hy91 := tK_y (m := li) hG67
                    have hy92 := tMn_y (sp := sp) hG67
                    have hy93 := tMx_y (sp := sp) hG67
                    have hy94 := tMn_0 (t := mT w) (n := rwv w 83 901) (sp := sp) li
                    have hy95 := tMn_le (t := mT w) (n := rwv w 83 901) h1 h9 li (by omega)
                    exact ih44 (8 * n73) (li + 1) w69 (by omega) (by omega) (by omega) (hI71) (((hF48.tr (hF58.up (by decide))).tr (hF72.up (by decide)))) (fun i hi => ((rwv_fr hF72 (by decide)).trans (rwv_fr hF58 (by decide))).trans (he51 i hi)) (by omega)
                  · refine xg_t (xg_icT (u := 8 * n73) (v := vv) rfl xnm0 xnm0 (xj_leT (by omega) (by omega))) ?_
                    refine xg_t (xg_blk (b := [(87, 3, 9, 4, 1, 0), (90, 3, 8, 21, 0, 0)]) rfl) ?_
                    refine xg_t (xg_iinc (u := li) (z := li + 1) (l1 := [(5, (0, 8 * n73)), (0, (2, 82)), (1, (0, sp)), (2, (0, mo)), (3, (0, vv))]) rfl rfl (by omega) rfl) ?_
                    refine xg_t (xg_goto) ?_
                    refine xg_t (xg_drop (l1 := [(0, (2, 82)), (1, (0, sp)), (2, (0, mo)), (3, (0, vv)), (4, (0, li + 1))]) (List.forall_mem_cons.mpr ⟨List.mem_cons_of_mem _ (List.mem_cons_of_mem _ (List.mem_cons_self)), List.forall_mem_cons.mpr ⟨List.mem_cons_of_mem _ (List.mem_cons_of_mem _ (List.mem_cons_of_mem _ (List.mem_cons_self))), List.forall_mem_cons.mpr ⟨List.mem_cons_of_mem _ (List.mem_cons_of_mem _ (List.mem_cons_of_mem _ (List.mem_cons_of_mem _ (List.mem_cons_self)))), List.forall_mem_cons.mpr ⟨List.mem_cons_of_mem _ (List.mem_cons_of_mem _ (List.mem_cons_of_mem _ (List.mem_cons_of_mem _ (List.mem_cons_of_mem _ (List.mem_cons_self))))), List.forall_mem_cons.mpr ⟨List.mem_cons_self, fun _ h => absurd h List.not_mem_nil⟩⟩⟩⟩⟩)) ?_
                    have hy96 := tK_y (m := li) hG67
                    have hy97 := tMn_y (sp := sp) hG67
                    have hy98 := tMx_y (sp := sp) hG67
                    have hy99 := tMn_0 (t := mT w) (n := rwv w 83 901) (sp := sp) li
                    have hy100 := tMn_le (t := mT w) (n := rwv w 83 901) h1 h9 li (by omega)
                    exact ih44 vv (li + 1) w69 (by omega) (by omega) (by omega) (hI71) (((hF48.tr (hF58.up (by decide))).tr (hF72.up (by decide)))) (fun i hi => ((rwv_fr hF72 (by decide)).trans (rwv_fr hF58 (by decide))).trans (he51 i hi)) (by omega)
              · refine xg_t (xg_ifT (u := vv) rfl xnm0 (xjz_ltT (by omega) (by omega))) ?_
                refine xg_t (xg_blk (b := [(84, 2, 2, 5, 0, 0), (86, 1, 15, 3, 0, 0)]) rfl) ?_
                refine xg_t (xg_iload (va := (0, 8 * n73)) rfl rfl) ?_
                refine xg_t (xg_istore (l1 := [(5, (0, 8 * n73)), (0, (2, 82)), (1, (0, sp)), (2, (0, mo)), (4, (0, li))]) rfl rfl rfl) ?_
                refine xg_t (xg_blk (b := [(87, 3, 9, 4, 1, 0), (90, 3, 8, 21, 0, 0)]) rfl) ?_
                refine xg_t (xg_iinc (u := li) (z := li + 1) (l1 := [(3, (0, 8 * n73)), (5, (0, 8 * n73)), (0, (2, 82)), (1, (0, sp)), (2, (0, mo))]) rfl rfl (by omega) rfl) ?_
                refine xg_t (xg_goto) ?_
                refine xg_t (xg_drop (l1 := [(0, (2, 82)), (1, (0, sp)), (2, (0, mo)), (3, (0, 8 * n73)), (4, (0, li + 1))]) (List.forall_mem_cons.mpr ⟨List.mem_cons_of_mem _ (List.mem_cons_of_mem _ (List.mem_cons_of_mem _ (List.mem_cons_self))), List.forall_mem_cons.mpr ⟨List.mem_cons_of_mem _ (List.mem_cons_of_mem _ (List.mem_cons_of_mem _ (List.mem_cons_of_mem _ (List.mem_cons_self)))), List.forall_mem_cons.mpr ⟨List.mem_cons_of_mem _ (List.mem_cons_of_mem _ (List.mem_cons_of_mem _ (List.mem_cons_of_mem _ (List.mem_cons_of_mem _ (List.mem_cons_self))))), List.forall_mem_cons.mpr ⟨List.mem_cons_of_mem _ (List.mem_cons_self), List.forall_mem_cons.mpr ⟨List.mem_cons_self, fun _ h => absurd h List.not_mem_nil⟩⟩⟩⟩⟩)) ?_
                have hy101 := tK_y (m := li) hG67
                have hy102 := tMn_y (sp := sp) hG67
                have hy103 := tMx_y (sp := sp) hG67
                have hy104 := tMn_0 (t := mT w) (n := rwv w 83 901) (sp := sp) li
                have hy105 := tMn_le (t := mT w) (n := rwv w 83 901) h1 h9 li (by omega)
                exact ih44 (8 * n73) (li + 1) w69 (by omega) (by omega) (by omega) (hI71) (((hF48.tr (hF58.up (by decide))).tr (hF72.up (by decide)))) (fun i hi => ((rwv_fr hF72 (by decide)).trans (rwv_fr hF58 (by decide))).trans (he51 i hi)) (by omega)
            · refine xg_t (xg_ifF (u := mo) rfl xnm0 (xj_eqF hc68)) ?_
              refine xg_t (xg_bip) ?_
              refine xg_t (xg_goto) ?_
              refine xg_t (xg_blk (b := [(52, 2, 2, 4, 0, 0), (54, 1, 2, 1, 0, 0), (55, 3, 13, 179, 98, 397), (58, 1, 16, 0, 0, 0), (59, 2, 15, 5, 0, 0), (61, 1, 2, 3, 0, 0), (62, 3, 7, 84, 2, 0), (65, 1, 2, 2, 0, 0), (66, 3, 7, 78, 0, 0), (69, 2, 2, 5, 0, 0), (71, 1, 2, 3, 0, 0), (72, 3, 6, 87, 5, 0), (75, 3, 8, 84, 0, 0)]) rfl) ?_
              refine xg_t (xg_iload (va := (0, li)) rfl rfl) ?_
              refine xg_t (xg_iload (va := (0, sp)) rfl rfl) ?_
              refine xg_cSi mX12_lawAt (vs := [(0, li), (0, sp)]) (rest := [(0, 12)]) (cn1 := 0) (sl1 := 0) rfl (mLawAtX (hI57) (by omega) (by omega) (by omega)) rfl rfl rfl rfl rfl rfl rfl (fun n110 w106 hq107 => ?_)
              obtain ⟨hn111, hI108, hF109⟩ := hq107
              obtain ⟨hu112, hu113⟩ := hn111
              refine xg_t (xg_imul (u := 12) (v := n110) (z := 12 * n110) xnm0 xnm0 (by omega)) ?_
              refine xg_t (xg_istore (l1 := [(0, (2, 82)), (1, (0, sp)), (2, (0, mo)), (3, (0, vv)), (4, (0, li))]) rfl rfl rfl) ?_
              refine xg_t (xg_iload (va := (0, vv)) rfl rfl) ?_
              by_cases hc114 : vv < 2147483648
              · refine xg_t (xg_ifF (u := vv) rfl xnm0 (xjz_ltF hc114)) ?_
                refine xg_t (xg_iload (va := (0, mo)) rfl rfl) ?_
                refine xg_t (xg_ifF (u := mo) rfl xnm0 (xj_eqF (by omega))) ?_
                refine xg_t (xg_iload (va := (0, 12 * n110)) rfl rfl) ?_
                refine xg_t (xg_iload (va := (0, vv)) rfl rfl) ?_
                by_cases hc115 : vv < (12 * n110)
                · refine xg_t (xg_icF (u := 12 * n110) (v := vv) rfl xnm0 xnm0 (xj_leF hc115 (by omega))) ?_
                  refine xg_t (xg_goto) ?_
                  refine xg_t (xg_blk (b := [(84, 2, 2, 5, 0, 0), (86, 1, 15, 3, 0, 0)]) rfl) ?_
                  refine xg_t (xg_iload (va := (0, 12 * n110)) rfl rfl) ?_
                  refine xg_t (xg_istore (l1 := [(5, (0, 12 * n110)), (0, (2, 82)), (1, (0, sp)), (2, (0, mo)), (4, (0, li))]) rfl rfl rfl) ?_
                  refine xg_t (xg_blk (b := [(87, 3, 9, 4, 1, 0), (90, 3, 8, 21, 0, 0)]) rfl) ?_
                  refine xg_t (xg_iinc (u := li) (z := li + 1) (l1 := [(3, (0, 12 * n110)), (5, (0, 12 * n110)), (0, (2, 82)), (1, (0, sp)), (2, (0, mo))]) rfl rfl (by omega) rfl) ?_
                  refine xg_t (xg_goto) ?_
                  refine xg_t (xg_drop (l1 := [(0, (2, 82)), (1, (0, sp)), (2, (0, mo)), (3, (0, 12 * n110)), (4, (0, li + 1))]) (List.forall_mem_cons.mpr ⟨List.mem_cons_of_mem _ (List.mem_cons_of_mem _ (List.mem_cons_of_mem _ (List.mem_cons_self))), List.forall_mem_cons.mpr ⟨List.mem_cons_of_mem _ (List.mem_cons_of_mem _ (List.mem_cons_of_mem _ (List.mem_cons_of_mem _ (List.mem_cons_self)))), List.forall_mem_cons.mpr ⟨List.mem_cons_of_mem _ (List.mem_cons_of_mem _ (List.mem_cons_of_mem _ (List.mem_cons_of_mem _ (List.mem_cons_of_mem _ (List.mem_cons_self))))), List.forall_mem_cons.mpr ⟨List.mem_cons_of_mem _ (List.mem_cons_self), List.forall_mem_cons.mpr ⟨List.mem_cons_self, fun _ h => absurd h List.not_mem_nil⟩⟩⟩⟩⟩)) ?_
                  have hy116 := tK_y (m := li) hG67
                  have hy117 := tMn_y (sp := sp) hG67
                  have hy118 := tMx_y (sp := sp) hG67
                  have hy119 := tMn_0 (t := mT w) (n := rwv w 83 901) (sp := sp) li
                  have hy120 := tMn_le (t := mT w) (n := rwv w 83 901) h1 h9 li (by omega)
                  exact ih44 (12 * n110) (li + 1) w106 (by omega) (by omega) (by omega) (hI108) (((hF48.tr (hF58.up (by decide))).tr (hF109.up (by decide)))) (fun i hi => ((rwv_fr hF109 (by decide)).trans (rwv_fr hF58 (by decide))).trans (he51 i hi)) (by omega)
                · refine xg_t (xg_icT (u := 12 * n110) (v := vv) rfl xnm0 xnm0 (xj_leT (by omega) (by omega))) ?_
                  refine xg_t (xg_blk (b := [(87, 3, 9, 4, 1, 0), (90, 3, 8, 21, 0, 0)]) rfl) ?_
                  refine xg_t (xg_iinc (u := li) (z := li + 1) (l1 := [(5, (0, 12 * n110)), (0, (2, 82)), (1, (0, sp)), (2, (0, mo)), (3, (0, vv))]) rfl rfl (by omega) rfl) ?_
                  refine xg_t (xg_goto) ?_
                  refine xg_t (xg_drop (l1 := [(0, (2, 82)), (1, (0, sp)), (2, (0, mo)), (3, (0, vv)), (4, (0, li + 1))]) (List.forall_mem_cons.mpr ⟨List.mem_cons_of_mem _ (List.mem_cons_of_mem _ (List.mem_cons_self)), List.forall_mem_cons.mpr ⟨List.mem_cons_of_mem _ (List.mem_cons_of_mem _ (List.mem_cons_of_mem _ (List.mem_cons_self))), List.forall_mem_cons.mpr ⟨List.mem_cons_of_mem _ (List.mem_cons_of_mem _ (List.mem_cons_of_mem _ (List.mem_cons_of_mem _ (List.mem_cons_self)))), List.forall_mem_cons.mpr ⟨List.mem_cons_of_mem _ (List.mem_cons_of_mem _ (List.mem_cons_of_mem _ (List.mem_cons_of_mem _ (List.mem_cons_of_mem _ (List.mem_cons_self))))), List.forall_mem_cons.mpr ⟨List.mem_cons_self, fun _ h => absurd h List.not_mem_nil⟩⟩⟩⟩⟩)) ?_
                  have hy121 := tK_y (m := li) hG67
                  have hy122 := tMn_y (sp := sp) hG67
                  have hy123 := tMx_y (sp := sp) hG67
                  have hy124 := tMn_0 (t := mT w) (n := rwv w 83 901) (sp := sp) li
                  have hy125 := tMn_le (t := mT w) (n := rwv w 83 901) h1 h9 li (by omega)
                  exact ih44 vv (li + 1) w106 (by omega) (by omega) (by omega) (hI108) (((hF48.tr (hF58.up (by decide))).tr (hF109.up (by decide)))) (fun i hi => ((rwv_fr hF109 (by decide)).trans (rwv_fr hF58 (by decide))).trans (he51 i hi)) (by omega)
              · refine xg_t (xg_ifT (u := vv) rfl xnm0 (xjz_ltT (by omega) (by omega))) ?_
                refine xg_t (xg_blk (b := [(84, 2, 2, 5, 0, 0), (86, 1, 15, 3, 0, 0)]) rfl) ?_
                refine xg_t (xg_iload (va := (0, 12 * n110)) rfl rfl) ?_
                refine xg_t (xg_istore (l1 := [(5, (0, 12 * n110)), (0, (2, 82)), (1, (0, sp)), (2, (0, mo)), (4, (0, li))]) rfl rfl rfl) ?_
                refine xg_t (xg_blk (b := [(87, 3, 9, 4, 1, 0), (90, 3, 8, 21, 0, 0)]) rfl) ?_
                refine xg_t (xg_iinc (u := li) (z := li + 1) (l1 := [(3, (0, 12 * n110)), (5, (0, 12 * n110)), (0, (2, 82)), (1, (0, sp)), (2, (0, mo))]) rfl rfl (by omega) rfl) ?_
                refine xg_t (xg_goto) ?_
                refine xg_t (xg_drop (l1 := [(0, (2, 82)), (1, (0, sp)), (2, (0, mo)), (3, (0, 12 * n110)), (4, (0, li + 1))]) (List.forall_mem_cons.mpr ⟨List.mem_cons_of_mem _ (List.mem_cons_of_mem _ (List.mem_cons_of_mem _ (List.mem_cons_self))), List.forall_mem_cons.mpr ⟨List.mem_cons_of_mem _ (List.mem_cons_of_mem _ (List.mem_cons_of_mem _ (List.mem_cons_of_mem _ (List.mem_cons_self)))), List.forall_mem_cons.mpr ⟨List.mem_cons_of_mem _ (List.mem_cons_of_mem _ (List.mem_cons_of_mem _ (List.mem_cons_of_mem _ (List.mem_cons_of_mem _ (List.mem_cons_self))))), List.forall_mem_cons.mpr ⟨List.mem_cons_of_mem _ (List.mem_cons_self), List.forall_mem_cons.mpr ⟨List.mem_cons_self, fun _ h => absurd h List.not_mem_nil⟩⟩⟩⟩⟩)) ?_
                have hy126 := tK_y (m := li) hG67
                have hy127 := tMn_y (sp := sp) hG67
                have hy128 := tMx_y (sp := sp) hG67
                have hy129 := tMn_0 (t := mT w) (n := rwv w 83 901) (sp := sp) li
                have hy130 := tMn_le (t := mT w) (n := rwv w 83 901) h1 h9 li (by omega)
                exact ih44 (12 * n110) (li + 1) w106 (by omega) (by omega) (by omega) (hI108) (((hF48.tr (hF58.up (by decide))).tr (hF109.up (by decide)))) (fun i hi => ((rwv_fr hF109 (by decide)).trans (rwv_fr hF58 (by decide))).trans (he51 i hi)) (by omega)
        · refine xg_t (xg_icT (u := li) (v := 240) rfl xnm0 xnm0 (xj_geT (by omega) (by omega))) ?_
          refine xg_t (xg_blk (b := [(93, 1, 2, 3, 0, 0), (94, 1, 12, 0, 1, 0)]) rfl) ?_
          refine xg_t (xg_iload (va := (0, vv)) rfl rfl) ?_
          have e240 : li = 240 := by omega
          rw [e240] at he52
          exact xg_e ⟨vv, w46, ⟨rfl, rfl⟩, by omega, hI47, hF48⟩
    exact key43 _ 4294967295 0 w38 (Nat.lt_succ_self _) (by omega) (by omega) (hI40) ((hF41.up (by decide))) (hx42) (Or.inl ⟨rfl, rfl⟩)
  · refine xg_t (xg_ifF (u := (if 1 ≤ sp ∧ sp ≤ 9 then 1 else 0)) rfl xnm0 (xj_neF (xite0 hc37))) ?_
    refine xg_t (xg_const) ?_
    exact xg_e ⟨4294967295, w, ⟨rfl, rfl⟩, by omega, hI, xFr.rf⟩
theorem mNextX {wh : Nat} (hI : xMnv w) (hwh : wh ≤ 4294967295) (hV : tsV (mT w) (rwv w 83 901)) : xPi (d + 2) mX12_next [(2, 82), (0, wh)] w bd fc rr (fun n w' => ((wh = 0 ∧ n = (tX (mT w) (rwv w 83 901) 135).2.1) ∨ (wh = 1 ∧ n = (tX (mT w) (rwv w 83 901) 135).2.2) ∨ (wh = 2 ∧ n = (tX (mT w) (rwv w 83 901) 135).1) ∨ (¬ wh ≤ 2 ∧ n = 4294967295)) ∧ xMnv w' ∧ xFr [111] w w') := by
  refine xPi.of ?_
  show xTo (d + 2) mX12_next (0, [], [(0, (2, 82)), (1, (0, wh))], [], (w, bd, fc, 0, 0, rr)) (fun φ => ∃ n w', xEnd 1 [(0, n)] (w', bd, fc, 0, 0, rr) φ ∧ ((wh = 0 ∧ n = (tX (mT w) (rwv w 83 901) 135).2.1) ∨ (wh = 1 ∧ n = (tX (mT w) (rwv w 83 901) 135).2.2) ∨ (wh = 2 ∧ n = (tX (mT w) (rwv w 83 901) 135).1) ∨ (¬ wh ≤ 2 ∧ n = 4294967295)) ∧ xMnv w' ∧ xFr [111] w w')
  obtain ⟨f82_1, f82_3, f82_5, f82_7, f82_9, f82_11, f82_13, f82_15, f82_17, f82_19, f82_21, f82_22, f82_23, f82_25, f82_27, f82_29, h82_31, hb2, hb4, hb6, hb8, hb10, hb12, hb14, hb16, hb18, hb20, hb24, hb26, hb28, hb30, hb32⟩ := (hI 82 (by decide) (by decide) : cp82 (wget w 82))
  obtain ⟨g83_33, h83_34, hb35, hx36⟩ := (hI 83 (by decide) (by decide) : cpx83 (wget w 83))
  have h83_34 : xRow w 83 5360 50 g83_33 := h83_34
  refine xg_t (xg_blk (b := [(0, 1, 2, 1, 0, 0), (1, 1, 3, 0, 0, 0), (2, 1, 3, 2, 0, 0), (3, 3, 13, 161, 98, 105), (6, 3, 7, 11, 1, 0), (9, 1, 3, 4294967295, 0, 0), (10, 1, 12, 0, 1, 0)]) rfl) ?_
  refine xg_t (xg_iload (va := (0, wh)) rfl rfl) ?_
  refine xg_t (xg_const) ?_
  refine xg_t (xg_const) ?_
  refine xg_t (xg_cSr mX12_isIn (vs := [(0, wh), (0, 0), (0, 2)]) (rest := []) (rs := [(0, if 0 ≤ wh ∧ wh ≤ 2 then 1 else 0)]) (cn1 := 0) (sl1 := 0) rfl (mIsIn (by omega) (by omega) (by omega)) rfl rfl rfl rfl rfl rfl rfl rfl) ?_
  by_cases hc37 : 0 ≤ wh ∧ wh ≤ 2
  · refine xg_t (xg_ifT (u := (if 0 ≤ wh ∧ wh ≤ 2 then 1 else 0)) rfl xnm0 (xj_neT (xite1 hc37))) ?_
    refine xg_t (xg_blk (b := [(11, 1, 0, 0, 0, 0), (12, 3, 13, 174, 96, 403), (15, 1, 3, 0, 0, 0), (16, 1, 15, 2, 0, 0), (17, 1, 3, 0, 0, 0), (18, 1, 15, 3, 0, 0), (19, 3, 5, 1000, 0, 0), (22, 2, 15, 4, 0, 0), (24, 1, 3, 0, 0, 0), (25, 2, 15, 5, 0, 0)]) rfl) ?_
    refine xg_t (xg_aload (va := (2, 82)) rfl rfl) ?_
    refine xg_cVv mX12_keeps (vs := []) (rest := []) (cn1 := 0) (sl1 := 0) rfl (mKeepsX (hI) hV) rfl h82_31 rfl rfl rfl rfl rfl rfl (fun w38 hq39 => ?_)
    obtain ⟨hI40, hF41, hx42⟩ := hq39
    refine xg_t (xg_const) ?_
    refine xg_t (xg_istore (l1 := [(0, (2, 82)), (1, (0, wh))]) rfl rfl rfl) ?_
    refine xg_t (xg_const) ?_
    refine xg_t (xg_istore (l1 := [(2, (0, 0)), (0, (2, 82)), (1, (0, wh))]) rfl rfl rfl) ?_
    refine xg_t (xg_sip) ?_
    refine xg_t (xg_istore (l1 := [(3, (0, 0)), (2, (0, 0)), (0, (2, 82)), (1, (0, wh))]) rfl rfl rfl) ?_
    refine xg_t (xg_const) ?_
    refine xg_t (xg_istore (l1 := [(4, (0, 1000)), (3, (0, 0)), (2, (0, 0)), (0, (2, 82)), (1, (0, wh))]) rfl rfl rfl) ?_
    refine xg_t (xg_drop (l1 := [(0, (2, 82)), (1, (0, wh)), (2, (0, 0)), (3, (0, 0)), (4, (0, 1000)), (5, (0, 0))]) (List.forall_mem_cons.mpr ⟨List.mem_cons_of_mem _ (List.mem_cons_of_mem _ (List.mem_cons_of_mem _ (List.mem_cons_of_mem _ (List.mem_cons_self)))), List.forall_mem_cons.mpr ⟨List.mem_cons_of_mem _ (List.mem_cons_of_mem _ (List.mem_cons_of_mem _ (List.mem_cons_of_mem _ (List.mem_cons_of_mem _ (List.mem_cons_self))))), List.forall_mem_cons.mpr ⟨List.mem_cons_of_mem _ (List.mem_cons_of_mem _ (List.mem_cons_of_mem _ (List.mem_cons_self))), List.forall_mem_cons.mpr ⟨List.mem_cons_of_mem _ (List.mem_cons_of_mem _ (List.mem_cons_self)), List.forall_mem_cons.mpr ⟨List.mem_cons_of_mem _ (List.mem_cons_self), List.forall_mem_cons.mpr ⟨List.mem_cons_self, fun _ h => absurd h List.not_mem_nil⟩⟩⟩⟩⟩⟩)) ?_
    have key43 : ∀ (m45 : Nat) (s1 f1 l1 ki : Nat) (w46 : List (List xE)), 135 - ki < m45 → s1 ≤ 4294967295 → f1 ≤ 4294967295 → l1 ≤ 1000 → ki ≤ 135 → xMnv w46 → xFr [111] w w46 → ∀ i, i < 240 → rwv w46 111 i = tM (mT w) i (rwv w 83 901) → ((ki = 0 ∧ l1 = 1000) ∨ (ki ≠ 0 ∧ l1 = (tX (mT w) (rwv w 83 901) ki).1 ∧ s1 = (tX (mT w) (rwv w 83 901) ki).2.1 ∧ f1 = (tX (mT w) (rwv w 83 901) ki).2.2)) → xTo (d + 2) mX12_next (27, [], [(0, (2, 82)), (1, (0, wh)), (2, (0, s1)), (3, (0, f1)), (4, (0, l1)), (5, (0, ki))], [], (w46, bd, fc, 0, 0, rr)) (fun φ => ∃ n w', xEnd 1 [(0, n)] (w', bd, fc, 0, 0, rr) φ ∧ ((wh = 0 ∧ n = (tX (mT w) (rwv w 83 901) 135).2.1) ∨ (wh = 1 ∧ n = (tX (mT w) (rwv w 83 901) 135).2.2) ∨ (wh = 2 ∧ n = (tX (mT w) (rwv w 83 901) 135).1) ∨ (¬ wh ≤ 2 ∧ n = 4294967295)) ∧ xMnv w' ∧ xFr [111] w w') := by
      intro m45
      induction m45 with
      | zero => intro s1 f1 l1 ki w46 hz; exact absurd hz (Nat.not_lt_zero _)
      | succ m45 ih44 =>
        intro s1 f1 l1 ki w46 hm55 hn49 hn50 hn51 hn52 hI47 hF48 he53 he54
        refine xg_t (xg_blk (b := [(27, 2, 2, 5, 0, 0), (29, 3, 5, 135, 0, 0), (32, 3, 6, 181, 3, 0), (35, 2, 2, 5, 0, 0), (37, 2, 4, 15, 0, 0), (39, 1, 20, 0, 0, 0), (40, 1, 3, 1, 0, 0), (41, 1, 11, 0, 0, 0), (42, 2, 15, 6, 0, 0), (44, 2, 4, 10, 0, 0), (46, 2, 2, 5, 0, 0), (48, 2, 4, 15, 0, 0), (50, 1, 21, 0, 0, 0), (51, 1, 26, 0, 0, 0), (52, 2, 15, 7, 0, 0), (54, 1, 3, 0, 0, 0), (55, 2, 15, 8, 0, 0), (57, 1, 3, 0, 0, 0), (58, 2, 15, 9, 0, 0), (60, 1, 3, 0, 0, 0), (61, 2, 15, 10, 0, 0)]) rfl) ?_
        refine xg_t (xg_iload (va := (0, ki)) rfl rfl) ?_
        refine xg_t (xg_sip) ?_
        by_cases hc56 : ki < 135
        · refine xg_t (xg_icF (u := ki) (v := 135) rfl xnm0 xnm0 (xj_geF hc56 (by omega))) ?_
          refine xg_t (xg_iload (va := (0, ki)) rfl rfl) ?_
          refine xg_t (xg_bip) ?_
          refine xg_t (xg_idiv (u := ki) (v := 15) (z := ki / 15) xnm0 xnm0 (by omega) (by decide) (by decide) (rfl)) ?_
          refine xg_t (xg_const) ?_
          refine xg_t (xg_iadd (u := ki / 15) (v := 1) (z := (ki / 15) + 1) xnm0 xnm0 (by omega)) ?_
          refine xg_t (xg_istore (l1 := [(0, (2, 82)), (1, (0, wh)), (2, (0, s1)), (3, (0, f1)), (4, (0, l1)), (5, (0, ki))]) rfl rfl rfl) ?_
          refine xg_t (xg_bip) ?_
          refine xg_t (xg_iload (va := (0, ki)) rfl rfl) ?_
          refine xg_t (xg_bip) ?_
          refine xg_t (xg_irem (u := ki) (v := 15) (z := ki % 15) xnm0 xnm0 (by omega) (by decide) (by decide) (rfl)) ?_
          have hz57 : 10 ≤ 10 * 2 ^ (ki % 15) ∧ 10 * 2 ^ (ki % 15) ≤ 163840 := by
            have k : ∀ n, n ≤ 14 → 10 ≤ 10 * 2 ^ n ∧ 10 * 2 ^ n ≤ 163840 := by decide
            exact k _ (by omega)
          refine xg_t (xg_ishl (u := 10) (v := ki % 15) (z := 10 * 2 ^ (ki % 15)) xnm0 xnm0 (by omega) (Nat.mod_eq_of_lt (by omega))) ?_
          refine xg_t (xg_istore (l1 := [(6, (0, (ki / 15) + 1)), (0, (2, 82)), (1, (0, wh)), (2, (0, s1)), (3, (0, f1)), (4, (0, l1)), (5, (0, ki))]) rfl rfl rfl) ?_
          refine xg_t (xg_const) ?_
          refine xg_t (xg_istore (l1 := [(7, (0, 10 * 2 ^ (ki % 15))), (6, (0, (ki / 15) + 1)), (0, (2, 82)), (1, (0, wh)), (2, (0, s1)), (3, (0, f1)), (4, (0, l1)), (5, (0, ki))]) rfl rfl rfl) ?_
          refine xg_t (xg_const) ?_
          refine xg_t (xg_istore (l1 := [(8, (0, 0)), (7, (0, 10 * 2 ^ (ki % 15))), (6, (0, (ki / 15) + 1)), (0, (2, 82)), (1, (0, wh)), (2, (0, s1)), (3, (0, f1)), (4, (0, l1)), (5, (0, ki))]) rfl rfl rfl) ?_
          refine xg_t (xg_const) ?_
          refine xg_t (xg_istore (l1 := [(9, (0, 0)), (8, (0, 0)), (7, (0, 10 * 2 ^ (ki % 15))), (6, (0, (ki / 15) + 1)), (0, (2, 82)), (1, (0, wh)), (2, (0, s1)), (3, (0, f1)), (4, (0, l1)), (5, (0, ki))]) rfl rfl rfl) ?_
          refine xg_t (xg_drop (l1 := [(0, (2, 82)), (1, (0, wh)), (2, (0, s1)), (3, (0, f1)), (4, (0, l1)), (5, (0, ki)), (6, (0, (ki / 15) + 1)), (7, (0, 10 * 2 ^ (ki % 15))), (8, (0, 0)), (9, (0, 0)), (10, (0, 0))]) (List.forall_mem_cons.mpr ⟨List.mem_cons_of_mem _ (List.mem_cons_of_mem _ (List.mem_cons_of_mem _ (List.mem_cons_of_mem _ (List.mem_cons_of_mem _ (List.mem_cons_self))))), List.forall_mem_cons.mpr ⟨List.mem_cons_of_mem _ (List.mem_cons_of_mem _ (List.mem_cons_of_mem _ (List.mem_cons_of_mem _ (List.mem_cons_of_mem _ (List.mem_cons_of_mem _ (List.mem_cons_self)))))), List.forall_mem_cons.mpr ⟨List.mem_cons_of_mem _ (List.mem_cons_of_mem _ (List.mem_cons_of_mem _ (List.mem_cons_of_mem _ (List.mem_cons_of_mem _ (List.mem_cons_of_mem _ (List.mem_cons_of_mem _ (List.mem_cons_self))))))), List.forall_mem_cons.mpr ⟨List.mem_cons_of_mem _ (List.mem_cons_of_mem _ (List.mem_cons_of_mem _ (List.mem_cons_of_mem _ (List.mem_cons_of_mem _ (List.mem_cons_of_mem _ (List.mem_cons_of_mem _ (List.mem_cons_of_mem _ (List.mem_cons_self)))))))), List.forall_mem_cons.mpr ⟨List.mem_cons_of_mem _ (List.mem_cons_of_mem _ (List.mem_cons_of_mem _ (List.mem_cons_of_mem _ (List.mem_cons_of_mem _ (List.mem_cons_of_mem _ (List.mem_cons_of_mem _ (List.mem_cons_of_mem _ (List.mem_cons_of_mem _ (List.mem_cons_self))))))))), List.forall_mem_cons.mpr ⟨List.mem_cons_of_mem _ (List.mem_cons_of_mem _ (List.mem_cons_of_mem _ (List.mem_cons_of_mem _ (List.mem_cons_of_mem _ (List.mem_cons_of_mem _ (List.mem_cons_of_mem _ (List.mem_cons_of_mem _ (List.mem_cons_of_mem _ (List.mem_cons_of_mem _ (List.mem_cons_self)))))))))), List.forall_mem_cons.mpr ⟨List.mem_cons_of_mem _ (List.mem_cons_of_mem _ (List.mem_cons_of_mem _ (List.mem_cons_of_mem _ (List.mem_cons_self)))), List.forall_mem_cons.mpr ⟨List.mem_cons_of_mem _ (List.mem_cons_of_mem _ (List.mem_cons_of_mem _ (List.mem_cons_self))), List.forall_mem_cons.mpr ⟨List.mem_cons_of_mem _ (List.mem_cons_of_mem _ (List.mem_cons_self)), List.forall_mem_cons.mpr ⟨List.mem_cons_of_mem _ (List.mem_cons_self), List.forall_mem_cons.mpr ⟨List.mem_cons_self, fun _ h => absurd h List.not_mem_nil⟩⟩⟩⟩⟩⟩⟩⟩⟩⟩⟩)) ?_
          have key58 : ∀ (m60 : Nat) (y1 n1 li : Nat) (w61 : List (List xE)), 240 - li < m60 → y1 ≤ 240 → n1 ≤ 240 → li ≤ 240 → xMnv w61 → xFr [111] w w61 → ∀ i, i < 240 → rwv w61 111 i = tM (mT w) i (rwv w 83 901) → (y1 = tY (mT w) (rwv w 83 901) (ki / 15 + 1) (10 * 2 ^ (ki % 15)) li ∧ n1 = tN (mT w) (rwv w 83 901) (ki / 15 + 1) (10 * 2 ^ (ki % 15)) li ∧ y1 ≤ li ∧ n1 ≤ li) → xTo (d + 2) mX12_next (63, [], [(0, (2, 82)), (1, (0, wh)), (2, (0, s1)), (3, (0, f1)), (4, (0, l1)), (5, (0, ki)), (6, (0, (ki / 15) + 1)), (7, (0, 10 * 2 ^ (ki % 15))), (8, (0, y1)), (9, (0, n1)), (10, (0, li))], [], (w61, bd, fc, 0, 0, rr)) (fun φ => ∃ n w', xEnd 1 [(0, n)] (w', bd, fc, 0, 0, rr) φ ∧ ((wh = 0 ∧ n = (tX (mT w) (rwv w 83 901) 135).2.1) ∨ (wh = 1 ∧ n = (tX (mT w) (rwv w 83 901) 135).2.2) ∨ (wh = 2 ∧ n = (tX (mT w) (rwv w 83 901) 135).1) ∨ (¬ wh ≤ 2 ∧ n = 4294967295)) ∧ xMnv w' ∧ xFr [111] w w') := by
            intro m60
            induction m60 with
            | zero => intro y1 n1 li w61 hz; exact absurd hz (Nat.not_lt_zero _)
            | succ m60 ih59 =>
              intro y1 n1 li w61 hm69 hn64 hn65 hn66 hI62 hF63 he67 he68
              obtain ⟨he70, he71, he72, he73⟩ := he68
              refine xg_t (xg_blk (b := [(63, 2, 2, 10, 0, 0), (65, 3, 5, 240, 0, 0), (68, 3, 6, 139, 3, 0), (71, 1, 0, 0, 0, 0), (72, 2, 2, 10, 0, 0), (74, 3, 13, 164, 96, 406), (77, 3, 7, 83, 1, 0), (80, 3, 8, 133, 0, 0)]) rfl) ?_
              refine xg_t (xg_iload (va := (0, li)) rfl rfl) ?_
              refine xg_t (xg_sip) ?_
              by_cases hc74 : li < 240
              · refine xg_t (xg_icF (u := li) (v := 240) rfl xnm0 xnm0 (xj_geF hc74 (by omega))) ?_
                refine xg_t (xg_aload (va := (2, 82)) rfl rfl) ?_
                refine xg_t (xg_iload (va := (0, li)) rfl rfl) ?_
                refine xg_cVi mX12_isLaw (vs := [(0, li)]) (rest := []) (cn1 := 0) (sl1 := 0) rfl (mIsLawX (hI62) (by omega) (hV.fm (hF63.1 83 (by decide)))) rfl (hF63.get (by decide) h82_31) rfl rfl rfl rfl rfl rfl (fun n79 w75 hq76 => ?_)
                obtain ⟨hn80, hI77, hF78⟩ := hq76
                rw [rwv_eq (c := 83) (hF63.1 83 (by decide)), he67 li (by omega)] at hn80
                rw [tM_all] at hn80
                by_cases hc82 : n79 = 0
                · refine xg_t (xg_ifF (u := n79) rfl xnm0 (xj_neF hc82)) ?_
                  refine xg_t (xg_goto) ?_
                  refine xg_t (xg_blk (b := [(133, 3, 9, 10, 1, 0), (136, 3, 8, 63, 0, 0)]) rfl) ?_
                  refine xg_t (xg_iinc (u := li) (z := li + 1) (l1 := [(0, (2, 82)), (1, (0, wh)), (2, (0, s1)), (3, (0, f1)), (4, (0, l1)), (5, (0, ki)), (6, (0, (ki / 15) + 1)), (7, (0, 10 * 2 ^ (ki % 15))), (8, (0, y1)), (9, (0, n1))]) rfl rfl (by omega) rfl) ?_
                  refine xg_t (xg_goto) ?_
                  refine xg_t (xg_drop (l1 := [(0, (2, 82)), (1, (0, wh)), (2, (0, s1)), (3, (0, f1)), (4, (0, l1)), (5, (0, ki)), (6, (0, (ki / 15) + 1)), (7, (0, 10 * 2 ^ (ki % 15))), (8, (0, y1)), (9, (0, n1)), (10, (0, li + 1))]) (List.forall_mem_cons.mpr ⟨List.mem_cons_of_mem _ (List.mem_cons_self), List.forall_mem_cons.mpr ⟨List.mem_cons_of_mem _ (List.mem_cons_of_mem _ (List.mem_cons_self)), List.forall_mem_cons.mpr ⟨List.mem_cons_of_mem _ (List.mem_cons_of_mem _ (List.mem_cons_of_mem _ (List.mem_cons_self))), List.forall_mem_cons.mpr ⟨List.mem_cons_of_mem _ (List.mem_cons_of_mem _ (List.mem_cons_of_mem _ (List.mem_cons_of_mem _ (List.mem_cons_self)))), List.forall_mem_cons.mpr ⟨List.mem_cons_of_mem _ (List.mem_cons_of_mem _ (List.mem_cons_of_mem _ (List.mem_cons_of_mem _ (List.mem_cons_of_mem _ (List.mem_cons_self))))), List.forall_mem_cons.mpr ⟨List.mem_cons_of_mem _ (List.mem_cons_of_mem _ (List.mem_cons_of_mem _ (List.mem_cons_of_mem _ (List.mem_cons_of_mem _ (List.mem_cons_of_mem _ (List.mem_cons_self)))))), List.forall_mem_cons.mpr ⟨List.mem_cons_of_mem _ (List.mem_cons_of_mem _ (List.mem_cons_of_mem _ (List.mem_cons_of_mem _ (List.mem_cons_of_mem _ (List.mem_cons_of_mem _ (List.mem_cons_of_mem _ (List.mem_cons_self))))))), List.forall_mem_cons.mpr ⟨List.mem_cons_of_mem _ (List.mem_cons_of_mem _ (List.mem_cons_of_mem _ (List.mem_cons_of_mem _ (List.mem_cons_of_mem _ (List.mem_cons_of_mem _ (List.mem_cons_of_mem _ (List.mem_cons_of_mem _ (List.mem_cons_self)))))))), List.forall_mem_cons.mpr ⟨List.mem_cons_of_mem _ (List.mem_cons_of_mem _ (List.mem_cons_of_mem _ (List.mem_cons_of_mem _ (List.mem_cons_of_mem _ (List.mem_cons_of_mem _ (List.mem_cons_of_mem _ (List.mem_cons_of_mem _ (List.mem_cons_of_mem _ (List.mem_cons_self))))))))), List.forall_mem_cons.mpr ⟨List.mem_cons_of_mem _ (List.mem_cons_of_mem _ (List.mem_cons_of_mem _ (List.mem_cons_of_mem _ (List.mem_cons_of_mem _ (List.mem_cons_of_mem _ (List.mem_cons_of_mem _ (List.mem_cons_of_mem _ (List.mem_cons_of_mem _ (List.mem_cons_of_mem _ (List.mem_cons_self)))))))))), List.forall_mem_cons.mpr ⟨List.mem_cons_self, fun _ h => absurd h List.not_mem_nil⟩⟩⟩⟩⟩⟩⟩⟩⟩⟩⟩)) ?_
                  have hG83 : ¬ tG (mT w) li (rwv w 83 901) = true := by
                    rcases hn80 with z | z
                    · exact absurd z.1 (by omega)
                    · exact z.2
                  exact ih59 y1 n1 (li + 1) w75 (by omega) (by omega) (by omega) (by omega) (hI77) ((hF63.tr (hF78.up (by decide)))) (fun i hi => (rwv_fr hF78 (by decide)).trans (he67 i hi)) (⟨by rw [tY_n hG83]; omega, by rw [tN_n hG83]; omega, by omega, by omega⟩)
                · refine xg_t (xg_ifT (u := n79) rfl xnm0 (xj_neT hc82)) ?_
                  refine xg_t (xg_blk (b := [(83, 2, 2, 8, 0, 0), (85, 2, 2, 7, 0, 0), (87, 2, 4, 8, 0, 0), (89, 2, 2, 10, 0, 0), (91, 2, 2, 6, 0, 0), (93, 3, 13, 179, 98, 397), (96, 1, 16, 0, 0, 0), (97, 3, 6, 104, 2, 0), (100, 1, 3, 1, 0, 0), (101, 3, 8, 105, 0, 0)]) rfl) ?_
                  have hG84 : tG (mT w) li (rwv w 83 901) = true := by
                    rcases hn80 with z | z
                    · exact z.2
                    · exact absurd z.1 (by omega)
                  refine xg_t (xg_iload (va := (0, y1)) rfl rfl) ?_
                  refine xg_t (xg_iload (va := (0, 10 * 2 ^ (ki % 15))) rfl rfl) ?_
                  refine xg_t (xg_bip) ?_
                  refine xg_t (xg_iload (va := (0, li)) rfl rfl) ?_
                  refine xg_t (xg_iload (va := (0, (ki / 15) + 1)) rfl rfl) ?_
                  refine xg_cSi mX12_lawAt (vs := [(0, li), (0, (ki / 15) + 1)]) (rest := [(0, 8), (0, 10 * 2 ^ (ki % 15)), (0, y1)]) (cn1 := 0) (sl1 := 0) rfl (mLawAtX (hI77) (by omega) (by omega) (by omega)) rfl rfl rfl rfl rfl rfl rfl (fun n89 w85 hq86 => ?_)
                  obtain ⟨hn90, hI87, hF88⟩ := hq86
                  obtain ⟨hu91, hu92⟩ := hn90
                  refine xg_t (xg_imul (u := 8) (v := n89) (z := 8 * n89) xnm0 xnm0 (by omega)) ?_
                  by_cases hc93 : (10 * 2 ^ (ki % 15)) < (8 * n89)
                  · refine xg_t (xg_icT (u := 10 * 2 ^ (ki % 15)) (v := 8 * n89) rfl xnm0 xnm0 (xj_ltT hc93 (by omega))) ?_
                    refine xg_t (xg_blk (b := [(104, 1, 3, 0, 0, 0)]) rfl) ?_
                    refine xg_t (xg_const) ?_
                    refine xg_t (xg_blk (b := [(105, 1, 11, 0, 0, 0), (106, 2, 15, 8, 0, 0), (108, 2, 2, 9, 0, 0), (110, 2, 2, 7, 0, 0), (112, 2, 4, 12, 0, 0), (114, 2, 2, 10, 0, 0), (116, 2, 2, 6, 0, 0), (118, 3, 13, 179, 98, 397), (121, 1, 16, 0, 0, 0), (122, 3, 6, 129, 3, 0), (125, 1, 3, 1, 0, 0), (126, 3, 8, 130, 0, 0)]) rfl) ?_
                    refine xg_t (xg_iadd (u := y1) (v := 0) (z := y1 + 0) xnm0 xnm0 (by omega)) ?_
                    refine xg_t (xg_istore (l1 := [(0, (2, 82)), (1, (0, wh)), (2, (0, s1)), (3, (0, f1)), (4, (0, l1)), (5, (0, ki)), (6, (0, (ki / 15) + 1)), (7, (0, 10 * 2 ^ (ki % 15))), (9, (0, n1)), (10, (0, li))]) rfl rfl rfl) ?_
                    refine xg_t (xg_iload (va := (0, n1)) rfl rfl) ?_
                    refine xg_t (xg_iload (va := (0, 10 * 2 ^ (ki % 15))) rfl rfl) ?_
                    refine xg_t (xg_bip) ?_
                    refine xg_t (xg_iload (va := (0, li)) rfl rfl) ?_
                    refine xg_t (xg_iload (va := (0, (ki / 15) + 1)) rfl rfl) ?_
                    refine xg_cSi mX12_lawAt (vs := [(0, li), (0, (ki / 15) + 1)]) (rest := [(0, 12), (0, 10 * 2 ^ (ki % 15)), (0, n1)]) (cn1 := 0) (sl1 := 0) rfl (mLawAtX (hI87) (by omega) (by omega) (by omega)) rfl rfl rfl rfl rfl rfl rfl (fun n98 w94 hq95 => ?_)
                    obtain ⟨hn99, hI96, hF97⟩ := hq95
                    obtain ⟨hu100, hu101⟩ := hn99
                    refine xg_t (xg_imul (u := 12) (v := n98) (z := 12 * n98) xnm0 xnm0 (by omega)) ?_
                    by_cases hc102 : (10 * 2 ^ (ki % 15)) < (12 * n98)
                    · refine xg_t (xg_icF (u := 10 * 2 ^ (ki % 15)) (v := 12 * n98) rfl xnm0 xnm0 (xj_geF hc102 (by omega))) ?_
                      refine xg_t (xg_const) ?_
                      refine xg_t (xg_goto) ?_
                      refine xg_t (xg_blk (b := [(130, 1, 11, 0, 0, 0), (131, 2, 15, 9, 0, 0)]) rfl) ?_
                      refine xg_t (xg_iadd (u := n1) (v := 1) (z := n1 + 1) xnm0 xnm0 (by omega)) ?_
                      refine xg_t (xg_istore (l1 := [(8, (0, y1 + 0)), (0, (2, 82)), (1, (0, wh)), (2, (0, s1)), (3, (0, f1)), (4, (0, l1)), (5, (0, ki)), (6, (0, (ki / 15) + 1)), (7, (0, 10 * 2 ^ (ki % 15))), (10, (0, li))]) rfl rfl rfl) ?_
                      refine xg_t (xg_blk (b := [(133, 3, 9, 10, 1, 0), (136, 3, 8, 63, 0, 0)]) rfl) ?_
                      refine xg_t (xg_iinc (u := li) (z := li + 1) (l1 := [(9, (0, n1 + 1)), (8, (0, y1 + 0)), (0, (2, 82)), (1, (0, wh)), (2, (0, s1)), (3, (0, f1)), (4, (0, l1)), (5, (0, ki)), (6, (0, (ki / 15) + 1)), (7, (0, 10 * 2 ^ (ki % 15)))]) rfl rfl (by omega) rfl) ?_
                      refine xg_t (xg_goto) ?_
                      refine xg_t (xg_drop (l1 := [(0, (2, 82)), (1, (0, wh)), (2, (0, s1)), (3, (0, f1)), (4, (0, l1)), (5, (0, ki)), (6, (0, (ki / 15) + 1)), (7, (0, 10 * 2 ^ (ki % 15))), (8, (0, y1 + 0)), (9, (0, n1 + 1)), (10, (0, li + 1))]) (List.forall_mem_cons.mpr ⟨List.mem_cons_of_mem _ (List.mem_cons_of_mem _ (List.mem_cons_of_mem _ (List.mem_cons_self))), List.forall_mem_cons.mpr ⟨List.mem_cons_of_mem _ (List.mem_cons_of_mem _ (List.mem_cons_of_mem _ (List.mem_cons_of_mem _ (List.mem_cons_self)))), List.forall_mem_cons.mpr ⟨List.mem_cons_of_mem _ (List.mem_cons_of_mem _ (List.mem_cons_of_mem _ (List.mem_cons_of_mem _ (List.mem_cons_of_mem _ (List.mem_cons_self))))), List.forall_mem_cons.mpr ⟨List.mem_cons_of_mem _ (List.mem_cons_of_mem _ (List.mem_cons_of_mem _ (List.mem_cons_of_mem _ (List.mem_cons_of_mem _ (List.mem_cons_of_mem _ (List.mem_cons_self)))))), List.forall_mem_cons.mpr ⟨List.mem_cons_of_mem _ (List.mem_cons_of_mem _ (List.mem_cons_of_mem _ (List.mem_cons_of_mem _ (List.mem_cons_of_mem _ (List.mem_cons_of_mem _ (List.mem_cons_of_mem _ (List.mem_cons_self))))))), List.forall_mem_cons.mpr ⟨List.mem_cons_of_mem _ (List.mem_cons_of_mem _ (List.mem_cons_of_mem _ (List.mem_cons_of_mem _ (List.mem_cons_of_mem _ (List.mem_cons_of_mem _ (List.mem_cons_of_mem _ (List.mem_cons_of_mem _ (List.mem_cons_self)))))))), List.forall_mem_cons.mpr ⟨List.mem_cons_of_mem _ (List.mem_cons_of_mem _ (List.mem_cons_of_mem _ (List.mem_cons_of_mem _ (List.mem_cons_of_mem _ (List.mem_cons_of_mem _ (List.mem_cons_of_mem _ (List.mem_cons_of_mem _ (List.mem_cons_of_mem _ (List.mem_cons_self))))))))), List.forall_mem_cons.mpr ⟨List.mem_cons_of_mem _ (List.mem_cons_of_mem _ (List.mem_cons_of_mem _ (List.mem_cons_of_mem _ (List.mem_cons_of_mem _ (List.mem_cons_of_mem _ (List.mem_cons_of_mem _ (List.mem_cons_of_mem _ (List.mem_cons_of_mem _ (List.mem_cons_of_mem _ (List.mem_cons_self)))))))))), List.forall_mem_cons.mpr ⟨List.mem_cons_of_mem _ (List.mem_cons_of_mem _ (List.mem_cons_self)), List.forall_mem_cons.mpr ⟨List.mem_cons_of_mem _ (List.mem_cons_self), List.forall_mem_cons.mpr ⟨List.mem_cons_self, fun _ h => absurd h List.not_mem_nil⟩⟩⟩⟩⟩⟩⟩⟩⟩⟩⟩)) ?_
                      have hy103 := tY_g (v := (ki / 15 + 1)) (r := (10 * 2 ^ (ki % 15))) hG84
                      have hy104 := tN_g (v := (ki / 15 + 1)) (r := (10 * 2 ^ (ki % 15))) hG84
                      exact ih59 (y1 + 0) (n1 + 1) (li + 1) w94 (by omega) (by omega) (by omega) (by omega) (hI96) ((((hF63.tr (hF78.up (by decide))).tr (hF88.up (by decide))).tr (hF97.up (by decide)))) (fun i hi => ((rwv_fr hF97 (by decide)).trans ((rwv_fr hF88 (by decide)).trans (rwv_fr hF78 (by decide)))).trans (he67 i hi)) (⟨by rw [hy103]; split <;> omega, by rw [hy104]; split <;> omega, by omega, by omega⟩)
                    · refine xg_t (xg_icT (u := 10 * 2 ^ (ki % 15)) (v := 12 * n98) rfl xnm0 xnm0 (xj_geT (by omega) (by omega))) ?_
                      refine xg_t (xg_blk (b := [(129, 1, 3, 0, 0, 0)]) rfl) ?_
                      refine xg_t (xg_const) ?_
                      refine xg_t (xg_blk (b := [(130, 1, 11, 0, 0, 0), (131, 2, 15, 9, 0, 0)]) rfl) ?_
                      refine xg_t (xg_iadd (u := n1) (v := 0) (z := n1 + 0) xnm0 xnm0 (by omega)) ?_
                      refine xg_t (xg_istore (l1 := [(8, (0, y1 + 0)), (0, (2, 82)), (1, (0, wh)), (2, (0, s1)), (3, (0, f1)), (4, (0, l1)), (5, (0, ki)), (6, (0, (ki / 15) + 1)), (7, (0, 10 * 2 ^ (ki % 15))), (10, (0, li))]) rfl rfl rfl) ?_
                      refine xg_t (xg_blk (b := [(133, 3, 9, 10, 1, 0), (136, 3, 8, 63, 0, 0)]) rfl) ?_
                      refine xg_t (xg_iinc (u := li) (z := li + 1) (l1 := [(9, (0, n1 + 0)), (8, (0, y1 + 0)), (0, (2, 82)), (1, (0, wh)), (2, (0, s1)), (3, (0, f1)), (4, (0, l1)), (5, (0, ki)), (6, (0, (ki / 15) + 1)), (7, (0, 10 * 2 ^ (ki % 15)))]) rfl rfl (by omega) rfl) ?_
                      refine xg_t (xg_goto) ?_
                      refine xg_t (xg_drop (l1 := [(0, (2, 82)), (1, (0, wh)), (2, (0, s1)), (3, (0, f1)), (4, (0, l1)), (5, (0, ki)), (6, (0, (ki / 15) + 1)), (7, (0, 10 * 2 ^ (ki % 15))), (8, (0, y1 + 0)), (9, (0, n1 + 0)), (10, (0, li + 1))]) (List.forall_mem_cons.mpr ⟨List.mem_cons_of_mem _ (List.mem_cons_of_mem _ (List.mem_cons_of_mem _ (List.mem_cons_self))), List.forall_mem_cons.mpr ⟨List.mem_cons_of_mem _ (List.mem_cons_of_mem _ (List.mem_cons_of_mem _ (List.mem_cons_of_mem _ (List.mem_cons_self)))), List.forall_mem_cons.mpr ⟨List.mem_cons_of_mem _ (List.mem_cons_of_mem _ (List.mem_cons_of_mem _ (List.mem_cons_of_mem _ (List.mem_cons_of_mem _ (List.mem_cons_self))))), List.forall_mem_cons.mpr ⟨List.mem_cons_of_mem _ (List.mem_cons_of_mem _ (List.mem_cons_of_mem _ (List.mem_cons_of_mem _ (List.mem_cons_of_mem _ (List.mem_cons_of_mem _ (List.mem_cons_self)))))), List.forall_mem_cons.mpr ⟨List.mem_cons_of_mem _ (List.mem_cons_of_mem _ (List.mem_cons_of_mem _ (List.mem_cons_of_mem _ (List.mem_cons_of_mem _ (List.mem_cons_of_mem _ (List.mem_cons_of_mem _ (List.mem_cons_self))))))), List.forall_mem_cons.mpr ⟨List.mem_cons_of_mem _ (List.mem_cons_of_mem _ (List.mem_cons_of_mem _ (List.mem_cons_of_mem _ (List.mem_cons_of_mem _ (List.mem_cons_of_mem _ (List.mem_cons_of_mem _ (List.mem_cons_of_mem _ (List.mem_cons_self)))))))), List.forall_mem_cons.mpr ⟨List.mem_cons_of_mem _ (List.mem_cons_of_mem _ (List.mem_cons_of_mem _ (List.mem_cons_of_mem _ (List.mem_cons_of_mem _ (List.mem_cons_of_mem _ (List.mem_cons_of_mem _ (List.mem_cons_of_mem _ (List.mem_cons_of_mem _ (List.mem_cons_self))))))))), List.forall_mem_cons.mpr ⟨List.mem_cons_of_mem _ (List.mem_cons_of_mem _ (List.mem_cons_of_mem _ (List.mem_cons_of_mem _ (List.mem_cons_of_mem _ (List.mem_cons_of_mem _ (List.mem_cons_of_mem _ (List.mem_cons_of_mem _ (List.mem_cons_of_mem _ (List.mem_cons_of_mem _ (List.mem_cons_self)))))))))), List.forall_mem_cons.mpr ⟨List.mem_cons_of_mem _ (List.mem_cons_of_mem _ (List.mem_cons_self)), List.forall_mem_cons.mpr ⟨List.mem_cons_of_mem _ (List.mem_cons_self), List.forall_mem_cons.mpr ⟨List.mem_cons_self, fun _ h => absurd h List.not_mem_nil⟩⟩⟩⟩⟩⟩⟩⟩⟩⟩⟩)) ?_
                      have hy105 := tY_g (v := (ki / 15 + 1)) (r := (10 * 2 ^ (ki % 15))) hG84
                      have hy106 := tN_g (v := (ki / 15 + 1)) (r := (10 * 2 ^ (ki % 15))) hG84
                      exact ih59 (y1 + 0) (n1 + 0) (li + 1) w94 (by omega) (by omega) (by omega) (by omega) (hI96) ((((hF63.tr (hF78.up (by decide))).tr (hF88.up (by decide))).tr (hF97.up (by decide)))) (fun i hi => ((rwv_fr hF97 (by decide)).trans ((rwv_fr hF88 (by decide)).trans (rwv_fr hF78 (by decide)))).trans (he67 i hi)) (⟨by rw [hy105]; split <;> omega, by rw [hy106]; split <;> omega, by omega, by omega⟩)
                  · refine xg_t (xg_icF (u := 10 * 2 ^ (ki % 15)) (v := 8 * n89) rfl xnm0 xnm0 (xj_ltF (by omega) (by omega))) ?_
                    refine xg_t (xg_const) ?_
                    refine xg_t (xg_goto) ?_
                    refine xg_t (xg_blk (b := [(105, 1, 11, 0, 0, 0), (106, 2, 15, 8, 0, 0), (108, 2, 2, 9, 0, 0), (110, 2, 2, 7, 0, 0), (112, 2, 4, 12, 0, 0), (114, 2, 2, 10, 0, 0), (116, 2, 2, 6, 0, 0), (118, 3, 13, 179, 98, 397), (121, 1, 16, 0, 0, 0), (122, 3, 6, 129, 3, 0), (125, 1, 3, 1, 0, 0), (126, 3, 8, 130, 0, 0)]) rfl) ?_
                    refine xg_t (xg_iadd (u := y1) (v := 1) (z := y1 + 1) xnm0 xnm0 (by omega)) ?_
                    refine xg_t (xg_istore (l1 := [(0, (2, 82)), (1, (0, wh)), (2, (0, s1)), (3, (0, f1)), (4, (0, l1)), (5, (0, ki)), (6, (0, (ki / 15) + 1)), (7, (0, 10 * 2 ^ (ki % 15))), (9, (0, n1)), (10, (0, li))]) rfl rfl rfl) ?_
                    refine xg_t (xg_iload (va := (0, n1)) rfl rfl) ?_
                    refine xg_t (xg_iload (va := (0, 10 * 2 ^ (ki % 15))) rfl rfl) ?_
                    refine xg_t (xg_bip) ?_
                    refine xg_t (xg_iload (va := (0, li)) rfl rfl) ?_
                    refine xg_t (xg_iload (va := (0, (ki / 15) + 1)) rfl rfl) ?_
                    refine xg_cSi mX12_lawAt (vs := [(0, li), (0, (ki / 15) + 1)]) (rest := [(0, 12), (0, 10 * 2 ^ (ki % 15)), (0, n1)]) (cn1 := 0) (sl1 := 0) rfl (mLawAtX (hI87) (by omega) (by omega) (by omega)) rfl rfl rfl rfl rfl rfl rfl (fun n111 w107 hq108 => ?_)
                    obtain ⟨hn112, hI109, hF110⟩ := hq108
                    obtain ⟨hu113, hu114⟩ := hn112
                    refine xg_t (xg_imul (u := 12) (v := n111) (z := 12 * n111) xnm0 xnm0 (by omega)) ?_
                    by_cases hc115 : (10 * 2 ^ (ki % 15)) < (12 * n111)
                    · refine xg_t (xg_icF (u := 10 * 2 ^ (ki % 15)) (v := 12 * n111) rfl xnm0 xnm0 (xj_geF hc115 (by omega))) ?_
                      refine xg_t (xg_const) ?_
                      refine xg_t (xg_goto) ?_
                      refine xg_t (xg_blk (b := [(130, 1, 11, 0, 0, 0), (131, 2, 15, 9, 0, 0)]) rfl) ?_
                      refine xg_t (xg_iadd (u := n1) (v := 1) (z := n1 + 1) xnm0 xnm0 (by omega)) ?_
                      refine xg_t (xg_istore (l1 := [(8, (0, y1 + 1)), (0, (2, 82)), (1, (0, wh)), (2, (0, s1)), (3, (0, f1)), (4, (0, l1)), (5, (0, ki)), (6, (0, (ki / 15) + 1)), (7, (0, 10 * 2 ^ (ki % 15))), (10, (0, li))]) rfl rfl rfl) ?_
                      refine xg_t (xg_blk (b := [(133, 3, 9, 10, 1, 0), (136, 3, 8, 63, 0, 0)]) rfl) ?_
                      refine xg_t (xg_iinc (u := li) (z := li + 1) (l1 := [(9, (0, n1 + 1)), (8, (0, y1 + 1)), (0, (2, 82)), (1, (0, wh)), (2, (0, s1)), (3, (0, f1)), (4, (0, l1)), (5, (0, ki)), (6, (0, (ki / 15) + 1)), (7, (0, 10 * 2 ^ (ki % 15)))]) rfl rfl (by omega) rfl) ?_
                      refine xg_t (xg_goto) ?_
                      refine xg_t (xg_drop (l1 := [(0, (2, 82)), (1, (0, wh)), (2, (0, s1)), (3, (0, f1)), (4, (0, l1)), (5, (0, ki)), (6, (0, (ki / 15) + 1)), (7, (0, 10 * 2 ^ (ki % 15))), (8, (0, y1 + 1)), (9, (0, n1 + 1)), (10, (0, li + 1))]) (List.forall_mem_cons.mpr ⟨List.mem_cons_of_mem _ (List.mem_cons_of_mem _ (List.mem_cons_of_mem _ (List.mem_cons_self))), List.forall_mem_cons.mpr ⟨List.mem_cons_of_mem _ (List.mem_cons_of_mem _ (List.mem_cons_of_mem _ (List.mem_cons_of_mem _ (List.mem_cons_self)))), List.forall_mem_cons.mpr ⟨List.mem_cons_of_mem _ (List.mem_cons_of_mem _ (List.mem_cons_of_mem _ (List.mem_cons_of_mem _ (List.mem_cons_of_mem _ (List.mem_cons_self))))), List.forall_mem_cons.mpr ⟨List.mem_cons_of_mem _ (List.mem_cons_of_mem _ (List.mem_cons_of_mem _ (List.mem_cons_of_mem _ (List.mem_cons_of_mem _ (List.mem_cons_of_mem _ (List.mem_cons_self)))))), List.forall_mem_cons.mpr ⟨List.mem_cons_of_mem _ (List.mem_cons_of_mem _ (List.mem_cons_of_mem _ (List.mem_cons_of_mem _ (List.mem_cons_of_mem _ (List.mem_cons_of_mem _ (List.mem_cons_of_mem _ (List.mem_cons_self))))))), List.forall_mem_cons.mpr ⟨List.mem_cons_of_mem _ (List.mem_cons_of_mem _ (List.mem_cons_of_mem _ (List.mem_cons_of_mem _ (List.mem_cons_of_mem _ (List.mem_cons_of_mem _ (List.mem_cons_of_mem _ (List.mem_cons_of_mem _ (List.mem_cons_self)))))))), List.forall_mem_cons.mpr ⟨List.mem_cons_of_mem _ (List.mem_cons_of_mem _ (List.mem_cons_of_mem _ (List.mem_cons_of_mem _ (List.mem_cons_of_mem _ (List.mem_cons_of_mem _ (List.mem_cons_of_mem _ (List.mem_cons_of_mem _ (List.mem_cons_of_mem _ (List.mem_cons_self))))))))), List.forall_mem_cons.mpr ⟨List.mem_cons_of_mem _ (List.mem_cons_of_mem _ (List.mem_cons_of_mem _ (List.mem_cons_of_mem _ (List.mem_cons_of_mem _ (List.mem_cons_of_mem _ (List.mem_cons_of_mem _ (List.mem_cons_of_mem _ (List.mem_cons_of_mem _ (List.mem_cons_of_mem _ (List.mem_cons_self)))))))))), List.forall_mem_cons.mpr ⟨List.mem_cons_of_mem _ (List.mem_cons_of_mem _ (List.mem_cons_self)), List.forall_mem_cons.mpr ⟨List.mem_cons_of_mem _ (List.mem_cons_self), List.forall_mem_cons.mpr ⟨List.mem_cons_self, fun _ h => absurd h List.not_mem_nil⟩⟩⟩⟩⟩⟩⟩⟩⟩⟩⟩)) ?_
                      have hy116 := tY_g (v := (ki / 15 + 1)) (r := (10 * 2 ^ (ki % 15))) hG84
                      have hy117 := tN_g (v := (ki / 15 + 1)) (r := (10 * 2 ^ (ki % 15))) hG84
                      exact ih59 (y1 + 1) (n1 + 1) (li + 1) w107 (by omega) (by omega) (by omega) (by omega) (hI109) ((((hF63.tr (hF78.up (by decide))).tr (hF88.up (by decide))).tr (hF110.up (by decide)))) (fun i hi => ((rwv_fr hF110 (by decide)).trans ((rwv_fr hF88 (by decide)).trans (rwv_fr hF78 (by decide)))).trans (he67 i hi)) (⟨by rw [hy116]; split <;> omega, by rw [hy117]; split <;> omega, by omega, by omega⟩)
                    · refine xg_t (xg_icT (u := 10 * 2 ^ (ki % 15)) (v := 12 * n111) rfl xnm0 xnm0 (xj_geT (by omega) (by omega))) ?_
                      refine xg_t (xg_blk (b := [(129, 1, 3, 0, 0, 0)]) rfl) ?_
                      refine xg_t (xg_const) ?_
                      refine xg_t (xg_blk (b := [(130, 1, 11, 0, 0, 0), (131, 2, 15, 9, 0, 0)]) rfl) ?_
                      refine xg_t (xg_iadd (u := n1) (v := 0) (z := n1 + 0) xnm0 xnm0 (by omega)) ?_
                      refine xg_t (xg_istore (l1 := [(8, (0, y1 + 1)), (0, (2, 82)), (1, (0, wh)), (2, (0, s1)), (3, (0, f1)), (4, (0, l1)), (5, (0, ki)), (6, (0, (ki / 15) + 1)), (7, (0, 10 * 2 ^ (ki % 15))), (10, (0, li))]) rfl rfl rfl) ?_
                      refine xg_t (xg_blk (b := [(133, 3, 9, 10, 1, 0), (136, 3, 8, 63, 0, 0)]) rfl) ?_
                      refine xg_t (xg_iinc (u := li) (z := li + 1) (l1 := [(9, (0, n1 + 0)), (8, (0, y1 + 1)), (0, (2, 82)), (1, (0, wh)), (2, (0, s1)), (3, (0, f1)), (4, (0, l1)), (5, (0, ki)), (6, (0, (ki / 15) + 1)), (7, (0, 10 * 2 ^ (ki % 15)))]) rfl rfl (by omega) rfl) ?_
                      refine xg_t (xg_goto) ?_
                      refine xg_t (xg_drop (l1 := [(0, (2, 82)), (1, (0, wh)), (2, (0, s1)), (3, (0, f1)), (4, (0, l1)), (5, (0, ki)), (6, (0, (ki / 15) + 1)), (7, (0, 10 * 2 ^ (ki % 15))), (8, (0, y1 + 1)), (9, (0, n1 + 0)), (10, (0, li + 1))]) (List.forall_mem_cons.mpr ⟨List.mem_cons_of_mem _ (List.mem_cons_of_mem _ (List.mem_cons_of_mem _ (List.mem_cons_self))), List.forall_mem_cons.mpr ⟨List.mem_cons_of_mem _ (List.mem_cons_of_mem _ (List.mem_cons_of_mem _ (List.mem_cons_of_mem _ (List.mem_cons_self)))), List.forall_mem_cons.mpr ⟨List.mem_cons_of_mem _ (List.mem_cons_of_mem _ (List.mem_cons_of_mem _ (List.mem_cons_of_mem _ (List.mem_cons_of_mem _ (List.mem_cons_self))))), List.forall_mem_cons.mpr ⟨List.mem_cons_of_mem _ (List.mem_cons_of_mem _ (List.mem_cons_of_mem _ (List.mem_cons_of_mem _ (List.mem_cons_of_mem _ (List.mem_cons_of_mem _ (List.mem_cons_self)))))), List.forall_mem_cons.mpr ⟨List.mem_cons_of_mem _ (List.mem_cons_of_mem _ (List.mem_cons_of_mem _ (List.mem_cons_of_mem _ (List.mem_cons_of_mem _ (List.mem_cons_of_mem _ (List.mem_cons_of_mem _ (List.mem_cons_self))))))), List.forall_mem_cons.mpr ⟨List.mem_cons_of_mem _ (List.mem_cons_of_mem _ (List.mem_cons_of_mem _ (List.mem_cons_of_mem _ (List.mem_cons_of_mem _ (List.mem_cons_of_mem _ (List.mem_cons_of_mem _ (List.mem_cons_of_mem _ (List.mem_cons_self)))))))), List.forall_mem_cons.mpr ⟨List.mem_cons_of_mem _ (List.mem_cons_of_mem _ (List.mem_cons_of_mem _ (List.mem_cons_of_mem _ (List.mem_cons_of_mem _ (List.mem_cons_of_mem _ (List.mem_cons_of_mem _ (List.mem_cons_of_mem _ (List.mem_cons_of_mem _ (List.mem_cons_self))))))))), List.forall_mem_cons.mpr ⟨List.mem_cons_of_mem _ (List.mem_cons_of_mem _ (List.mem_cons_of_mem _ (List.mem_cons_of_mem _ (List.mem_cons_of_mem _ (List.mem_cons_of_mem _ (List.mem_cons_of_mem _ (List.mem_cons_of_mem _ (List.mem_cons_of_mem _ (List.mem_cons_of_mem _ (List.mem_cons_self)))))))))), List.forall_mem_cons.mpr ⟨List.mem_cons_of_mem _ (List.mem_cons_of_mem _ (List.mem_cons_self)), List.forall_mem_cons.mpr ⟨List.mem_cons_of_mem _ (List.mem_cons_self), List.forall_mem_cons.mpr ⟨List.mem_cons_self, fun _ h => absurd h List.not_mem_nil⟩⟩⟩⟩⟩⟩⟩⟩⟩⟩⟩)) ?_
                      have hy118 := tY_g (v := (ki / 15 + 1)) (r := (10 * 2 ^ (ki % 15))) hG84
                      have hy119 := tN_g (v := (ki / 15 + 1)) (r := (10 * 2 ^ (ki % 15))) hG84
                      exact ih59 (y1 + 1) (n1 + 0) (li + 1) w107 (by omega) (by omega) (by omega) (by omega) (hI109) ((((hF63.tr (hF78.up (by decide))).tr (hF88.up (by decide))).tr (hF110.up (by decide)))) (fun i hi => ((rwv_fr hF110 (by decide)).trans ((rwv_fr hF88 (by decide)).trans (rwv_fr hF78 (by decide)))).trans (he67 i hi)) (⟨by rw [hy118]; split <;> omega, by rw [hy119]; split <;> omega, by omega, by omega⟩)
              · refine xg_t (xg_icT (u := li) (v := 240) rfl xnm0 xnm0 (xj_geT (by omega) (by omega))) ?_
                refine xg_t (xg_blk (b := [(139, 2, 2, 8, 0, 0), (141, 2, 2, 9, 0, 0), (143, 3, 6, 151, 5, 0), (146, 2, 2, 8, 0, 0), (148, 3, 8, 153, 0, 0)]) rfl) ?_
                refine xg_t (xg_iload (va := (0, y1)) rfl rfl) ?_
                refine xg_t (xg_iload (va := (0, n1)) rfl rfl) ?_
                by_cases hc120 : n1 < y1
                · refine xg_t (xg_icF (u := y1) (v := n1) rfl xnm0 xnm0 (xj_leF hc120 (by omega))) ?_
                  refine xg_t (xg_iload (va := (0, y1)) rfl rfl) ?_
                  refine xg_t (xg_goto) ?_
                  refine xg_t (xg_blk (b := [(153, 2, 15, 10, 0, 0), (155, 2, 2, 10, 0, 0), (157, 2, 2, 4, 0, 0), (159, 3, 6, 165, 2, 0), (162, 3, 8, 175, 0, 0)]) rfl) ?_
                  refine xg_t (xg_istore (l1 := [(0, (2, 82)), (1, (0, wh)), (2, (0, s1)), (3, (0, f1)), (4, (0, l1)), (5, (0, ki)), (6, (0, (ki / 15) + 1)), (7, (0, 10 * 2 ^ (ki % 15))), (8, (0, y1)), (9, (0, n1))]) rfl rfl rfl) ?_
                  refine xg_t (xg_iload (va := (0, y1)) rfl rfl) ?_
                  refine xg_t (xg_iload (va := (0, l1)) rfl rfl) ?_
                  by_cases hc121 : y1 < l1
                  · refine xg_t (xg_icT (u := y1) (v := l1) rfl xnm0 xnm0 (xj_ltT hc121 (by omega))) ?_
                    refine xg_t (xg_blk (b := [(165, 2, 2, 10, 0, 0), (167, 2, 15, 4, 0, 0), (169, 2, 2, 6, 0, 0), (171, 1, 15, 2, 0, 0), (172, 2, 2, 7, 0, 0), (174, 1, 15, 3, 0, 0)]) rfl) ?_
                    refine xg_t (xg_iload (va := (0, y1)) rfl rfl) ?_
                    refine xg_t (xg_istore (l1 := [(10, (0, y1)), (0, (2, 82)), (1, (0, wh)), (2, (0, s1)), (3, (0, f1)), (5, (0, ki)), (6, (0, (ki / 15) + 1)), (7, (0, 10 * 2 ^ (ki % 15))), (8, (0, y1)), (9, (0, n1))]) rfl rfl rfl) ?_
                    refine xg_t (xg_iload (va := (0, (ki / 15) + 1)) rfl rfl) ?_
                    refine xg_t (xg_istore (l1 := [(4, (0, y1)), (10, (0, y1)), (0, (2, 82)), (1, (0, wh)), (3, (0, f1)), (5, (0, ki)), (6, (0, (ki / 15) + 1)), (7, (0, 10 * 2 ^ (ki % 15))), (8, (0, y1)), (9, (0, n1))]) rfl rfl rfl) ?_
                    refine xg_t (xg_iload (va := (0, 10 * 2 ^ (ki % 15))) rfl rfl) ?_
                    refine xg_t (xg_istore (l1 := [(2, (0, (ki / 15) + 1)), (4, (0, y1)), (10, (0, y1)), (0, (2, 82)), (1, (0, wh)), (5, (0, ki)), (6, (0, (ki / 15) + 1)), (7, (0, 10 * 2 ^ (ki % 15))), (8, (0, y1)), (9, (0, n1))]) rfl rfl rfl) ?_
                    refine xg_t (xg_blk (b := [(175, 3, 9, 5, 1, 0), (178, 3, 8, 27, 0, 0)]) rfl) ?_
                    refine xg_t (xg_iinc (u := ki) (z := ki + 1) (l1 := [(3, (0, 10 * 2 ^ (ki % 15))), (2, (0, (ki / 15) + 1)), (4, (0, y1)), (10, (0, y1)), (0, (2, 82)), (1, (0, wh)), (6, (0, (ki / 15) + 1)), (7, (0, 10 * 2 ^ (ki % 15))), (8, (0, y1)), (9, (0, n1))]) rfl rfl (by omega) rfl) ?_
                    refine xg_t (xg_goto) ?_
                    refine xg_t (xg_drop (l1 := [(0, (2, 82)), (1, (0, wh)), (2, (0, (ki / 15) + 1)), (3, (0, 10 * 2 ^ (ki % 15))), (4, (0, y1)), (5, (0, ki + 1))]) (List.forall_mem_cons.mpr ⟨List.mem_cons_of_mem _ (List.mem_cons_of_mem _ (List.mem_cons_of_mem _ (List.mem_cons_of_mem _ (List.mem_cons_of_mem _ (List.mem_cons_self))))), List.forall_mem_cons.mpr ⟨List.mem_cons_of_mem _ (List.mem_cons_of_mem _ (List.mem_cons_of_mem _ (List.mem_cons_of_mem _ (List.mem_cons_of_mem _ (List.mem_cons_of_mem _ (List.mem_cons_self)))))), List.forall_mem_cons.mpr ⟨List.mem_cons_of_mem _ (List.mem_cons_of_mem _ (List.mem_cons_self)), List.forall_mem_cons.mpr ⟨List.mem_cons_of_mem _ (List.mem_cons_self), List.forall_mem_cons.mpr ⟨List.mem_cons_of_mem _ (List.mem_cons_of_mem _ (List.mem_cons_of_mem _ (List.mem_cons_self))), List.forall_mem_cons.mpr ⟨List.mem_cons_self, fun _ h => absurd h List.not_mem_nil⟩⟩⟩⟩⟩⟩)) ?_
                    have hq124 : li = 240 := by omega
                    rw [hq124] at he70 he71
                    have hw122 : y1 = tW (mT w) (rwv w 83 901) ki := tW_eq rfl rfl he70 he71 (by omega)
                    have hl125 := tW_le (t := mT w) (n := rwv w 83 901) (k := ki)
                    have hq126 : (tX (mT w) (rwv w 83 901) 0).1 = 241 := rfl
                    have hq127 : (tX (mT w) (rwv w 83 901) ki).1 = 241 ∧ ki = 0 ∧ l1 = 1000 ∨ ki ≠ 0 ∧ l1 = (tX (mT w) (rwv w 83 901) ki).1 := by
                      rcases he54 with ⟨z1, z2⟩ | ⟨z1, z2, -⟩
                      · exact Or.inl ⟨by rw [z1], z1, z2⟩
                      · exact Or.inr ⟨z1, z2⟩
                    have hx123 := tX_y (t := mT w) (n := rwv w 83 901) (k := ki) (by omega)
                    exact ih44 ((ki / 15) + 1) (10 * 2 ^ (ki % 15)) y1 (ki + 1) w61 (by omega) (by omega) (by omega) (by omega) (by omega) (hI62) (hF63) (he67) (Or.inr ⟨by omega, by rw [hx123]; exact hw122, by rw [hx123], by rw [hx123]⟩)
                  · refine xg_t (xg_icF (u := y1) (v := l1) rfl xnm0 xnm0 (xj_ltF (by omega) (by omega))) ?_
                    refine xg_t (xg_goto) ?_
                    refine xg_t (xg_blk (b := [(175, 3, 9, 5, 1, 0), (178, 3, 8, 27, 0, 0)]) rfl) ?_
                    refine xg_t (xg_iinc (u := ki) (z := ki + 1) (l1 := [(10, (0, y1)), (0, (2, 82)), (1, (0, wh)), (2, (0, s1)), (3, (0, f1)), (4, (0, l1)), (6, (0, (ki / 15) + 1)), (7, (0, 10 * 2 ^ (ki % 15))), (8, (0, y1)), (9, (0, n1))]) rfl rfl (by omega) rfl) ?_
                    refine xg_t (xg_goto) ?_
                    refine xg_t (xg_drop (l1 := [(0, (2, 82)), (1, (0, wh)), (2, (0, s1)), (3, (0, f1)), (4, (0, l1)), (5, (0, ki + 1))]) (List.forall_mem_cons.mpr ⟨List.mem_cons_of_mem _ (List.mem_cons_of_mem _ (List.mem_cons_self)), List.forall_mem_cons.mpr ⟨List.mem_cons_of_mem _ (List.mem_cons_of_mem _ (List.mem_cons_of_mem _ (List.mem_cons_self))), List.forall_mem_cons.mpr ⟨List.mem_cons_of_mem _ (List.mem_cons_of_mem _ (List.mem_cons_of_mem _ (List.mem_cons_of_mem _ (List.mem_cons_self)))), List.forall_mem_cons.mpr ⟨List.mem_cons_of_mem _ (List.mem_cons_of_mem _ (List.mem_cons_of_mem _ (List.mem_cons_of_mem _ (List.mem_cons_of_mem _ (List.mem_cons_self))))), List.forall_mem_cons.mpr ⟨List.mem_cons_of_mem _ (List.mem_cons_of_mem _ (List.mem_cons_of_mem _ (List.mem_cons_of_mem _ (List.mem_cons_of_mem _ (List.mem_cons_of_mem _ (List.mem_cons_self)))))), List.forall_mem_cons.mpr ⟨List.mem_cons_self, fun _ h => absurd h List.not_mem_nil⟩⟩⟩⟩⟩⟩)) ?_
                    have hq130 : li = 240 := by omega
                    rw [hq130] at he70 he71
                    have hw128 : y1 = tW (mT w) (rwv w 83 901) ki := tW_eq rfl rfl he70 he71 (by omega)
                    have hl131 := tW_le (t := mT w) (n := rwv w 83 901) (k := ki)
                    have hq132 : (tX (mT w) (rwv w 83 901) 0).1 = 241 := rfl
                    have hq133 : (tX (mT w) (rwv w 83 901) ki).1 = 241 ∧ ki = 0 ∧ l1 = 1000 ∨ ki ≠ 0 ∧ l1 = (tX (mT w) (rwv w 83 901) ki).1 := by
                      rcases he54 with ⟨z1, z2⟩ | ⟨z1, z2, -⟩
                      · exact Or.inl ⟨by rw [z1], z1, z2⟩
                      · exact Or.inr ⟨z1, z2⟩
                    have hx129 := tX_n (t := mT w) (n := rwv w 83 901) (k := ki) (by omega)
                    exact ih44 s1 f1 l1 (ki + 1) w61 (by omega) (by omega) (by omega) (by omega) (by omega) (hI62) (hF63) (he67) (Or.inr ⟨by omega, by rw [hx129]; omega, by rw [hx129]; omega, by rw [hx129]; omega⟩)
                · refine xg_t (xg_icT (u := y1) (v := n1) rfl xnm0 xnm0 (xj_leT (by omega) (by omega))) ?_
                  refine xg_t (xg_blk (b := [(151, 2, 2, 9, 0, 0)]) rfl) ?_
                  refine xg_t (xg_iload (va := (0, n1)) rfl rfl) ?_
                  refine xg_t (xg_blk (b := [(153, 2, 15, 10, 0, 0), (155, 2, 2, 10, 0, 0), (157, 2, 2, 4, 0, 0), (159, 3, 6, 165, 2, 0), (162, 3, 8, 175, 0, 0)]) rfl) ?_
                  refine xg_t (xg_istore (l1 := [(0, (2, 82)), (1, (0, wh)), (2, (0, s1)), (3, (0, f1)), (4, (0, l1)), (5, (0, ki)), (6, (0, (ki / 15) + 1)), (7, (0, 10 * 2 ^ (ki % 15))), (8, (0, y1)), (9, (0, n1))]) rfl rfl rfl) ?_
                  refine xg_t (xg_iload (va := (0, n1)) rfl rfl) ?_
                  refine xg_t (xg_iload (va := (0, l1)) rfl rfl) ?_
                  by_cases hc134 : n1 < l1
                  · refine xg_t (xg_icT (u := n1) (v := l1) rfl xnm0 xnm0 (xj_ltT hc134 (by omega))) ?_
                    refine xg_t (xg_blk (b := [(165, 2, 2, 10, 0, 0), (167, 2, 15, 4, 0, 0), (169, 2, 2, 6, 0, 0), (171, 1, 15, 2, 0, 0), (172, 2, 2, 7, 0, 0), (174, 1, 15, 3, 0, 0)]) rfl) ?_
                    refine xg_t (xg_iload (va := (0, n1)) rfl rfl) ?_
                    refine xg_t (xg_istore (l1 := [(10, (0, n1)), (0, (2, 82)), (1, (0, wh)), (2, (0, s1)), (3, (0, f1)), (5, (0, ki)), (6, (0, (ki / 15) + 1)), (7, (0, 10 * 2 ^ (ki % 15))), (8, (0, y1)), (9, (0, n1))]) rfl rfl rfl) ?_
                    refine xg_t (xg_iload (va := (0, (ki / 15) + 1)) rfl rfl) ?_
                    refine xg_t (xg_istore (l1 := [(4, (0, n1)), (10, (0, n1)), (0, (2, 82)), (1, (0, wh)), (3, (0, f1)), (5, (0, ki)), (6, (0, (ki / 15) + 1)), (7, (0, 10 * 2 ^ (ki % 15))), (8, (0, y1)), (9, (0, n1))]) rfl rfl rfl) ?_
                    refine xg_t (xg_iload (va := (0, 10 * 2 ^ (ki % 15))) rfl rfl) ?_
                    refine xg_t (xg_istore (l1 := [(2, (0, (ki / 15) + 1)), (4, (0, n1)), (10, (0, n1)), (0, (2, 82)), (1, (0, wh)), (5, (0, ki)), (6, (0, (ki / 15) + 1)), (7, (0, 10 * 2 ^ (ki % 15))), (8, (0, y1)), (9, (0, n1))]) rfl rfl rfl) ?_
                    refine xg_t (xg_blk (b := [(175, 3, 9, 5, 1, 0), (178, 3, 8, 27, 0, 0)]) rfl) ?_
                    refine xg_t (xg_iinc (u := ki) (z := ki + 1) (l1 := [(3, (0, 10 * 2 ^ (ki % 15))), (2, (0, (ki / 15) + 1)), (4, (0, n1)), (10, (0, n1)), (0, (2, 82)), (1, (0, wh)), (6, (0, (ki / 15) + 1)), (7, (0, 10 * 2 ^ (ki % 15))), (8, (0, y1)), (9, (0, n1))]) rfl rfl (by omega) rfl) ?_
                    refine xg_t (xg_goto) ?_
                    refine xg_t (xg_drop (l1 := [(0, (2, 82)), (1, (0, wh)), (2, (0, (ki / 15) + 1)), (3, (0, 10 * 2 ^ (ki % 15))), (4, (0, n1)), (5, (0, ki + 1))]) (List.forall_mem_cons.mpr ⟨List.mem_cons_of_mem _ (List.mem_cons_of_mem _ (List.mem_cons_of_mem _ (List.mem_cons_of_mem _ (List.mem_cons_of_mem _ (List.mem_cons_self))))), List.forall_mem_cons.mpr ⟨List.mem_cons_of_mem _ (List.mem_cons_of_mem _ (List.mem_cons_of_mem _ (List.mem_cons_of_mem _ (List.mem_cons_of_mem _ (List.mem_cons_of_mem _ (List.mem_cons_self)))))), List.forall_mem_cons.mpr ⟨List.mem_cons_of_mem _ (List.mem_cons_of_mem _ (List.mem_cons_self)), List.forall_mem_cons.mpr ⟨List.mem_cons_of_mem _ (List.mem_cons_self), List.forall_mem_cons.mpr ⟨List.mem_cons_of_mem _ (List.mem_cons_of_mem _ (List.mem_cons_of_mem _ (List.mem_cons_self))), List.forall_mem_cons.mpr ⟨List.mem_cons_self, fun _ h => absurd h List.not_mem_nil⟩⟩⟩⟩⟩⟩)) ?_
                    have hq137 : li = 240 := by omega
                    rw [hq137] at he70 he71
                    have hw135 : n1 = tW (mT w) (rwv w 83 901) ki := tW_eq rfl rfl he70 he71 (by omega)
                    have hl138 := tW_le (t := mT w) (n := rwv w 83 901) (k := ki)
                    have hq139 : (tX (mT w) (rwv w 83 901) 0).1 = 241 := rfl
                    have hq140 : (tX (mT w) (rwv w 83 901) ki).1 = 241 ∧ ki = 0 ∧ l1 = 1000 ∨ ki ≠ 0 ∧ l1 = (tX (mT w) (rwv w 83 901) ki).1 := by
                      rcases he54 with ⟨z1, z2⟩ | ⟨z1, z2, -⟩
                      · exact Or.inl ⟨by rw [z1], z1, z2⟩
                      · exact Or.inr ⟨z1, z2⟩
                    have hx136 := tX_y (t := mT w) (n := rwv w 83 901) (k := ki) (by omega)
                    exact ih44 ((ki / 15) + 1) (10 * 2 ^ (ki % 15)) n1 (ki + 1) w61 (by omega) (by omega) (by omega) (by omega) (by omega) (hI62) (hF63) (he67) (Or.inr ⟨by omega, by rw [hx136]; exact hw135, by rw [hx136], by rw [hx136]⟩)
                  · refine xg_t (xg_icF (u := n1) (v := l1) rfl xnm0 xnm0 (xj_ltF (by omega) (by omega))) ?_
                    refine xg_t (xg_goto) ?_
                    refine xg_t (xg_blk (b := [(175, 3, 9, 5, 1, 0), (178, 3, 8, 27, 0, 0)]) rfl) ?_
                    refine xg_t (xg_iinc (u := ki) (z := ki + 1) (l1 := [(10, (0, n1)), (0, (2, 82)), (1, (0, wh)), (2, (0, s1)), (3, (0, f1)), (4, (0, l1)), (6, (0, (ki / 15) + 1)), (7, (0, 10 * 2 ^ (ki % 15))), (8, (0, y1)), (9, (0, n1))]) rfl rfl (by omega) rfl) ?_
                    refine xg_t (xg_goto) ?_
                    refine xg_t (xg_drop (l1 := [(0, (2, 82)), (1, (0, wh)), (2, (0, s1)), (3, (0, f1)), (4, (0, l1)), (5, (0, ki + 1))]) (List.forall_mem_cons.mpr ⟨List.mem_cons_of_mem _ (List.mem_cons_of_mem _ (List.mem_cons_self)), List.forall_mem_cons.mpr ⟨List.mem_cons_of_mem _ (List.mem_cons_of_mem _ (List.mem_cons_of_mem _ (List.mem_cons_self))), List.forall_mem_cons.mpr ⟨List.mem_cons_of_mem _ (List.mem_cons_of_mem _ (List.mem_cons_of_mem _ (List.mem_cons_of_mem _ (List.mem_cons_self)))), List.forall_mem_cons.mpr ⟨List.mem_cons_of_mem _ (List.mem_cons_of_mem _ (List.mem_cons_of_mem _ (List.mem_cons_of_mem _ (List.mem_cons_of_mem _ (List.mem_cons_self))))), List.forall_mem_cons.mpr ⟨List.mem_cons_of_mem _ (List.mem_cons_of_mem _ (List.mem_cons_of_mem _ (List.mem_cons_of_mem _ (List.mem_cons_of_mem _ (List.mem_cons_of_mem _ (List.mem_cons_self)))))), List.forall_mem_cons.mpr ⟨List.mem_cons_self, fun _ h => absurd h List.not_mem_nil⟩⟩⟩⟩⟩⟩)) ?_
                    have hq143 : li = 240 := by omega
                    rw [hq143] at he70 he71
                    have hw141 : n1 = tW (mT w) (rwv w 83 901) ki := tW_eq rfl rfl he70 he71 (by omega)
                    have hl144 := tW_le (t := mT w) (n := rwv w 83 901) (k := ki)
                    have hq145 : (tX (mT w) (rwv w 83 901) 0).1 = 241 := rfl
                    have hq146 : (tX (mT w) (rwv w 83 901) ki).1 = 241 ∧ ki = 0 ∧ l1 = 1000 ∨ ki ≠ 0 ∧ l1 = (tX (mT w) (rwv w 83 901) ki).1 := by
                      rcases he54 with ⟨z1, z2⟩ | ⟨z1, z2, -⟩
                      · exact Or.inl ⟨by rw [z1], z1, z2⟩
                      · exact Or.inr ⟨z1, z2⟩
                    have hx142 := tX_n (t := mT w) (n := rwv w 83 901) (k := ki) (by omega)
                    exact ih44 s1 f1 l1 (ki + 1) w61 (by omega) (by omega) (by omega) (by omega) (by omega) (hI62) (hF63) (he67) (Or.inr ⟨by omega, by rw [hx142]; omega, by rw [hx142]; omega, by rw [hx142]; omega⟩)
          exact key58 _ 0 0 0 w46 (Nat.lt_succ_self _) (by omega) (by omega) (by omega) (hI47) (hF48) (he53) (⟨rfl, rfl, Nat.le_refl _, Nat.le_refl _⟩)
        · refine xg_t (xg_icT (u := ki) (v := 135) rfl xnm0 xnm0 (xj_geT (by omega) (by omega))) ?_
          refine xg_t (xg_blk (b := [(181, 1, 2, 1, 0, 0), (182, 3, 7, 189, 1, 0), (185, 1, 2, 2, 0, 0), (186, 3, 8, 200, 0, 0)]) rfl) ?_
          refine xg_t (xg_iload (va := (0, wh)) rfl rfl) ?_
          by_cases hc147 : wh = 0
          · refine xg_t (xg_ifF (u := wh) rfl xnm0 (xj_neF hc147)) ?_
            refine xg_t (xg_iload (va := (0, s1)) rfl rfl) ?_
            refine xg_t (xg_goto) ?_
            refine xg_t (xg_blk (b := [(200, 1, 12, 0, 1, 0)]) rfl) ?_
            have e135 : ki = 135 := by omega
            rw [e135] at he54
            exact xg_e ⟨s1, w46, ⟨rfl, rfl⟩, by omega, hI47, hF48⟩
          · refine xg_t (xg_ifT (u := wh) rfl xnm0 (xj_neT hc147)) ?_
            refine xg_t (xg_blk (b := [(189, 1, 2, 1, 0, 0), (190, 1, 3, 1, 0, 0), (191, 3, 6, 198, 1, 0), (194, 1, 2, 3, 0, 0), (195, 3, 8, 200, 0, 0)]) rfl) ?_
            refine xg_t (xg_iload (va := (0, wh)) rfl rfl) ?_
            refine xg_t (xg_const) ?_
            by_cases hc148 : wh = 1
            · refine xg_t (xg_icF (u := wh) (v := 1) rfl xnm0 xnm0 (xj_neF hc148)) ?_
              refine xg_t (xg_iload (va := (0, f1)) rfl rfl) ?_
              refine xg_t (xg_goto) ?_
              refine xg_t (xg_blk (b := [(200, 1, 12, 0, 1, 0)]) rfl) ?_
              have e135 : ki = 135 := by omega
              rw [e135] at he54
              exact xg_e ⟨f1, w46, ⟨rfl, rfl⟩, by omega, hI47, hF48⟩
            · refine xg_t (xg_icT (u := wh) (v := 1) rfl xnm0 xnm0 (xj_neT hc148)) ?_
              refine xg_t (xg_blk (b := [(198, 2, 2, 4, 0, 0)]) rfl) ?_
              refine xg_t (xg_iload (va := (0, l1)) rfl rfl) ?_
              refine xg_t (xg_blk (b := [(200, 1, 12, 0, 1, 0)]) rfl) ?_
              have e135 : ki = 135 := by omega
              rw [e135] at he54
              exact xg_e ⟨l1, w46, ⟨rfl, rfl⟩, by omega, hI47, hF48⟩
    exact key43 _ 0 0 1000 0 w38 (Nat.lt_succ_self _) (by omega) (by omega) (by omega) (by omega) (hI40) ((hF41.up (by decide))) (hx42) (Or.inl ⟨rfl, rfl⟩)
  · refine xg_t (xg_ifF (u := (if 0 ≤ wh ∧ wh ≤ 2 then 1 else 0)) rfl xnm0 (xj_neF (xite0 hc37))) ?_
    refine xg_t (xg_const) ?_
    exact xg_e ⟨4294967295, w, ⟨rfl, rfl⟩, by omega, hI, xFr.rf⟩
end XTM
