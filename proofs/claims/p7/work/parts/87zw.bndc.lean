/-! the class: layers laid -/
section XBC
variable {d : Nat} {w : List (List xE)} {bd : List (Nat × Nat)} {fc : List (Nat × Nat × Bool)} {rr : Nat × Nat}
set_option maxHeartbeats 60000000 in
theorem bdLayX (hI : xInv w) (hb : ∀ q, q < fld w 4 3 → rwv w 50 q < fld w 4 3 ∧ bT (rwv w 5) (rwv w 50) q ≤ 99 ∧ bS (rwv w 5) (rwv w 50) q ≤ 99) : xPq (d + 2) mX0_lay [(2, 49)] w bd fc rr [] (fun w' => xInv w' ∧ xFr [51, 52, 53, 54, 55] w w' ∧ (∀ q, q < fld w 4 3 → rwv w' 52 q = bfs (rwv w 5) q ∧ rwv w' 51 q = bhg (rwv w 5) (rwv w 50) q ∧ rwk w' 53 (bfs (rwv w 5) q) = bO (rwv w 5) (rwv w 50) (fld w 4 3) q ∧ rwk w' 54 (bfs (rwv w 5) q) = bU (rwv w 5) (rwv w 50) (fld w 4 3) q ∧ lN (rwk w' 55 q) = bfr (rwv w 5) (rwv w 50) (fld w 4 3) q)) := by
  refine xPq.of ?_
  show xTo (d + 2) mX0_lay (0, [], [(0, (2, 49))], [], (w, bd, fc, 0, 0, rr)) (fun φ => ∃ w', xEnd 0 [] (w', bd, fc, 0, 0, rr) φ ∧ xInv w' ∧ xFr [51, 52, 53, 54, 55] w w' ∧ (∀ q, q < fld w 4 3 → rwv w' 52 q = bfs (rwv w 5) q ∧ rwv w' 51 q = bhg (rwv w 5) (rwv w 50) q ∧ rwk w' 53 (bfs (rwv w 5) q) = bO (rwv w 5) (rwv w 50) (fld w 4 3) q ∧ rwk w' 54 (bfs (rwv w 5) q) = bU (rwv w 5) (rwv w 50) (fld w 4 3) q ∧ lN (rwk w' 55 q) = bfr (rwv w 5) (rwv w 50) (fld w 4 3) q))
  obtain ⟨f49_1, f49_3, h49_5, hb2, hb4⟩ := (hI 49 (by decide) : cp49 (wget w 49))
  obtain ⟨f3_6, f3_8, f3_10, f3_12, f3_14, h3_16, hb7, hb9, hb11, hb13, hb15⟩ := (hI 3 (by decide) : cp3 (wget w 3))
  obtain ⟨f4_17, h4_19, hb18⟩ := (hI 4 (by decide) : cp4 (wget w 4))
  obtain ⟨g5_20, h5_21, hb22⟩ := (hI 5 (by decide) : cpI 24 1 4294967295 (wget w 5))
  have h5_21 : xRow w 5 24 1 g5_20 := h5_21
  obtain ⟨g50_23, h50_24, hb25⟩ := (hI 50 (by decide) : cpI 6 23 4294967295 (wget w 50))
  have h50_24 : xRow w 50 6 23 g50_23 := h50_24
  have q43 : fld w 4 3 = f4_17 := fld_of h4_19
  rw [q43] at hb
  refine xg_t (xg_blk (b := [(0, 1, 0, 0, 0, 0), (1, 3, 1, 0, 0, 39), (4, 3, 1, 1, 0, 50), (7, 3, 1, 5, 3, 54), (10, 1, 15, 1, 0, 0), (11, 1, 3, 0, 0, 0), (12, 1, 15, 2, 0, 0), (13, 1, 3, 0, 0, 0), (14, 1, 15, 3, 0, 0), (15, 1, 3, 0, 0, 0), (16, 2, 15, 4, 0, 0)]) rfl) ?_
  refine xg_t (xg_aload (va := (2, 49)) rfl rfl) ?_
  refine xg_t (xg_getf (va := (2, 3)) h49_5 rfl) ?_
  refine xg_t (xg_getf (va := (2, 4)) h3_16 rfl) ?_
  refine xg_t (xg_getf (va := (0, f4_17)) h4_19 rfl) ?_
  refine xg_t (xg_istore (l1 := [(0, (2, 49))]) rfl rfl rfl) ?_
  refine xg_t (xg_const) ?_
  refine xg_t (xg_istore (l1 := [(1, (0, f4_17)), (0, (2, 49))]) rfl rfl rfl) ?_
  refine xg_t (xg_const) ?_
  refine xg_t (xg_istore (l1 := [(2, (0, 0)), (1, (0, f4_17)), (0, (2, 49))]) rfl rfl rfl) ?_
  refine xg_t (xg_const) ?_
  refine xg_t (xg_istore (l1 := [(3, (0, 0)), (2, (0, 0)), (1, (0, f4_17)), (0, (2, 49))]) rfl rfl rfl) ?_
  refine xg_t (xg_drop (l1 := [(0, (2, 49)), (1, (0, f4_17)), (2, (0, 0)), (3, (0, 0)), (4, (0, 0))]) (List.forall_mem_cons.mpr ⟨List.mem_cons_of_mem _ (List.mem_cons_of_mem _ (List.mem_cons_of_mem _ (List.mem_cons_of_mem _ (List.mem_cons_self)))), List.forall_mem_cons.mpr ⟨List.mem_cons_of_mem _ (List.mem_cons_of_mem _ (List.mem_cons_of_mem _ (List.mem_cons_self))), List.forall_mem_cons.mpr ⟨List.mem_cons_of_mem _ (List.mem_cons_of_mem _ (List.mem_cons_self)), List.forall_mem_cons.mpr ⟨List.mem_cons_of_mem _ (List.mem_cons_self), List.forall_mem_cons.mpr ⟨List.mem_cons_self, fun _ h => absurd h List.not_mem_nil⟩⟩⟩⟩⟩)) ?_
  have key26 : ∀ (m28 : Nat) (he sa pl : Nat) (w29 : List (List xE)), 6 - pl < m28 → he ≤ 594 → sa ≤ 5 → pl ≤ 6 → xInv w29 → xFr [51, 52, 53, 54, 55] w w29 → (∀ q, q < pl → rwv w29 52 q = bfs (rwv w 5) q ∧ rwv w29 51 q = bhg (rwv w 5) (rwv w 50) q ∧ rwk w29 53 (bfs (rwv w 5) q) = bA (rwv w 5) (bt1 (rwv w 5) (rwv w 50)) pl (bfs (rwv w 5) q) ∧ rwk w29 54 (bfs (rwv w 5) q) = bA (rwv w 5) (bt2 (rwv w 5) (rwv w 50)) pl (bfs (rwv w 5) q)) ∧ (he = bhg (rwv w 5) (rwv w 50) pl ∧ he ≤ 99 * pl) ∧ (pl ≠ 0 → sa = bfs (rwv w 5) (pl - 1)) ∧ pl ≤ f4_17 → xTo (d + 2) mX0_lay (18, [], [(0, (2, 49)), (1, (0, f4_17)), (2, (0, he)), (3, (0, sa)), (4, (0, pl))], [], (w29, bd, fc, 0, 0, rr)) (fun φ => ∃ w', xEnd 0 [] (w', bd, fc, 0, 0, rr) φ ∧ xInv w' ∧ xFr [51, 52, 53, 54, 55] w w' ∧ (∀ q, q < fld w 4 3 → rwv w' 52 q = bfs (rwv w 5) q ∧ rwv w' 51 q = bhg (rwv w 5) (rwv w 50) q ∧ rwk w' 53 (bfs (rwv w 5) q) = bO (rwv w 5) (rwv w 50) (fld w 4 3) q ∧ rwk w' 54 (bfs (rwv w 5) q) = bU (rwv w 5) (rwv w 50) (fld w 4 3) q ∧ lN (rwk w' 55 q) = bfr (rwv w 5) (rwv w 50) (fld w 4 3) q)) := by
    intro m28
    induction m28 with
    | zero => intro he sa pl w29 hz; exact absurd hz (Nat.not_lt_zero _)
    | succ m28 ih27 =>
      intro he sa pl w29 hm36 hn32 hn33 hn34 hI30 hF31 he35
      obtain ⟨hq37, ⟨hh38, hl39⟩, hs40, hn41⟩ := he35
      obtain ⟨g51_42, h51_43, hb44⟩ := (hI30 51 (by decide) : cpI 6 24 4294967295 (wget w29 51))
      have h51_43 : xRow w29 51 6 24 g51_42 := h51_43
      obtain ⟨g52_45, h52_46, hb47⟩ := (hI30 52 (by decide) : cpI 6 25 5 (wget w29 52))
      have h52_46 : xRow w29 52 6 25 g52_45 := h52_46
      obtain ⟨g53_48, h53_49⟩ := (hI30 53 (by decide) : cpJ 6 26 (wget w29 53))
      have h53_49 : xRk 3 4 w29 53 6 26 g53_48 := h53_49
      obtain ⟨g54_51, h54_52⟩ := (hI30 54 (by decide) : cpJ 6 27 (wget w29 54))
      have h54_52 : xRk 3 4 w29 54 6 27 g54_51 := h54_52
      refine xg_t (xg_blk (b := [(18, 2, 2, 4, 0, 0), (20, 1, 2, 1, 0, 0), (21, 3, 6, 171, 3, 0), (24, 2, 2, 4, 0, 0), (26, 3, 7, 48, 0, 0), (29, 1, 0, 0, 0, 0), (30, 3, 1, 0, 0, 39), (33, 3, 1, 1, 0, 50), (36, 2, 2, 4, 0, 0), (38, 1, 3, 1, 0, 0), (39, 1, 18, 0, 0, 0), (40, 1, 3, 3, 0, 0), (41, 3, 13, 285, 40, 60), (44, 1, 3, 1, 0, 0), (45, 3, 6, 65, 1, 0)]) rfl) ?_
      refine xg_t (xg_iload (va := (0, pl)) rfl rfl) ?_
      refine xg_t (xg_iload (va := (0, f4_17)) rfl rfl) ?_
      by_cases hc54 : pl < f4_17
      · refine xg_t (xg_icF (u := pl) (v := f4_17) rfl xnm0 xnm0 (xj_geF hc54 (by omega))) ?_
        refine xg_t (xg_iload (va := (0, pl)) rfl rfl) ?_
        by_cases hc55 : pl = 0
        · refine xg_t (xg_ifT (u := pl) rfl xnm0 (xj_eqT hc55)) ?_
          refine xg_t (xg_blk (b := [(48, 2, 2, 4, 0, 0), (50, 1, 15, 3, 0, 0), (51, 1, 0, 0, 0, 0), (52, 3, 1, 0, 4, 23), (55, 1, 2, 3, 0, 0), (56, 1, 51, 0, 0, 0), (57, 1, 65, 0, 0, 0), (58, 1, 0, 0, 0, 0), (59, 3, 1, 0, 5, 27), (62, 1, 2, 3, 0, 0), (63, 1, 51, 0, 0, 0), (64, 1, 65, 0, 0, 0)]) rfl) ?_
          refine xg_t (xg_iload (va := (0, pl)) rfl rfl) ?_
          refine xg_t (xg_istore (l1 := [(0, (2, 49)), (1, (0, f4_17)), (2, (0, he)), (4, (0, pl))]) rfl rfl rfl) ?_
          refine xg_t (xg_aload (va := (2, 49)) rfl rfl) ?_
          refine xg_t (xg_getf (va := (2, 53)) (hF31.get (by decide) h49_5) rfl) ?_
          refine xg_t (xg_iload (va := (0, pl)) rfl rfl) ?_
          refine xg_t (xg_lconst) ?_
          refine xg_last (n := pl) (u := 0) h53_49 xnm0 (by omega) (fun w56 hr57 hb58 => ?_)
          obtain ⟨g59, hg60⟩ : ∃ g : Nat → Nat, g = (fun j => if j = pl then 0 else g53_48 j) := ⟨_, rfl⟩
          rw [← hg60] at hr57
          have he61 : g59 pl = 0 := by rw [hg60]; exact if_pos rfl
          have hk62 : ∀ j, j ≠ pl → g59 j = g53_48 j := fun j hj => by rw [hg60]; exact if_neg hj
          refine xg_t (xg_aload (va := (2, 49)) rfl rfl) ?_
          refine xg_t (xg_getf (va := (2, 54)) (hb58.get (by decide) (hF31.get (by decide) h49_5)) rfl) ?_
          refine xg_t (xg_iload (va := (0, pl)) rfl rfl) ?_
          refine xg_t (xg_lconst) ?_
          refine xg_last (n := pl) (u := 0) (h54_52.but hb58 (by decide)) xnm0 (by omega) (fun w63 hr64 hb65 => ?_)
          obtain ⟨g66, hg67⟩ : ∃ g : Nat → Nat, g = (fun j => if j = pl then 0 else g54_51 j) := ⟨_, rfl⟩
          rw [← hg67] at hr64
          have he68 : g66 pl = 0 := by rw [hg67]; exact if_pos rfl
          have hk69 : ∀ j, j ≠ pl → g66 j = g54_51 j := fun j hj => by rw [hg67]; exact if_neg hj
          refine xg_t (xg_blk (b := [(65, 1, 0, 0, 0, 0), (66, 3, 1, 0, 0, 39), (69, 3, 1, 1, 0, 50), (72, 1, 0, 0, 0, 0), (73, 3, 1, 0, 1, 11), (76, 2, 2, 4, 0, 0), (78, 1, 10, 0, 0, 0), (79, 1, 3, 0, 0, 0), (80, 3, 13, 285, 40, 60), (83, 2, 15, 5, 0, 0), (85, 2, 2, 5, 0, 0), (87, 1, 49, 0, 0, 0), (88, 1, 0, 0, 0, 0), (89, 3, 1, 0, 0, 39), (92, 3, 1, 1, 0, 50), (95, 1, 0, 0, 0, 0), (96, 3, 1, 0, 1, 11), (99, 2, 2, 4, 0, 0), (101, 1, 10, 0, 0, 0), (102, 1, 3, 1, 0, 0), (103, 3, 13, 285, 40, 60), (106, 1, 49, 0, 0, 0), (107, 1, 55, 0, 0, 0), (108, 2, 54, 6, 0, 0), (110, 1, 0, 0, 0, 0), (111, 3, 1, 0, 4, 23), (114, 1, 2, 3, 0, 0), (115, 1, 39, 0, 0, 0), (116, 1, 64, 0, 0, 0), (117, 2, 53, 6, 0, 0), (119, 1, 3, 2, 0, 0), (120, 1, 2, 2, 0, 0), (121, 1, 16, 0, 0, 0), (122, 2, 2, 5, 0, 0), (124, 1, 11, 0, 0, 0), (125, 1, 49, 0, 0, 0), (126, 1, 55, 0, 0, 0), (127, 1, 56, 0, 0, 0), (128, 1, 65, 0, 0, 0), (129, 1, 0, 0, 0, 0), (130, 3, 1, 0, 5, 27), (133, 1, 2, 3, 0, 0), (134, 1, 39, 0, 0, 0), (135, 1, 64, 0, 0, 0), (136, 3, 52, 2, 0, 64), (139, 2, 53, 6, 0, 0), (141, 1, 55, 0, 0, 0), (142, 1, 56, 0, 0, 0), (143, 1, 65, 0, 0, 0), (144, 1, 0, 0, 0, 0), (145, 3, 1, 0, 3, 20), (148, 2, 2, 4, 0, 0), (150, 1, 2, 3, 0, 0), (151, 1, 17, 0, 0, 0), (152, 1, 0, 0, 0, 0), (153, 3, 1, 0, 2, 17), (156, 2, 2, 4, 0, 0), (158, 1, 2, 2, 0, 0), (159, 1, 17, 0, 0, 0), (160, 1, 2, 2, 0, 0), (161, 2, 2, 5, 0, 0), (163, 1, 11, 0, 0, 0), (164, 1, 15, 2, 0, 0), (165, 3, 9, 4, 1, 0), (168, 3, 8, 18, 0, 0)]) rfl) ?_
          refine xg_t (xg_aload (va := (2, 49)) rfl rfl) ?_
          refine xg_t (xg_getf (va := (2, 3)) (hb65.get (by decide) (hb58.get (by decide) (hF31.get (by decide) h49_5))) rfl) ?_
          refine xg_t (xg_getf (va := (2, 4)) (hb65.get (by decide) (hb58.get (by decide) (hF31.get (by decide) h3_16))) rfl) ?_
          refine xg_t (xg_aload (va := (2, 49)) rfl rfl) ?_
          refine xg_t (xg_getf (va := (2, 50)) (hb65.get (by decide) (hb58.get (by decide) (hF31.get (by decide) h49_5))) rfl) ?_
          refine xg_t (xg_iload (va := (0, pl)) rfl rfl) ?_
          refine xg_ialdB (n := pl) (B := 4294967295) (((h50_24.fr hF31 (by decide)).but hb58 (by decide)).but hb65 (by decide)) (hb25) xnm0 (by omega) (fun u70 hu71 he72 => ?_)
          have hu73 : rwv w 50 pl = u70 := (rwv_of h50_24 (by omega)).trans he72
          have hl74 : u70 < f4_17 := by have q := (hb pl (by omega)).1; omega
          refine xg_t (xg_const) ?_
          refine xg_kE (xg_cVr mX5_get (vs := [(0, u70), (0, 0)]) (rest := []) (rs := [(0, g5_20 (u70 * 4 + 0))]) (cn1 := 0) (sl1 := 0) rfl (rgetX (lim := 6) (wd := 4) (sz := f4_17) (hb65.get (by decide) (hb58.get (by decide) (hF31.get (by decide) h4_19))) (((h5_21.fr hF31 (by decide)).but hb58 (by decide)).but hb65 (by decide)) (by decide) (by omega) (by decide) (by decide) (by omega) (by decide)) rfl (hb65.get (by decide) (hb58.get (by decide) (hF31.get (by decide) h4_19))) rfl rfl rfl rfl rfl rfl rfl) (Nat.lt_succ_of_le ((hb22) _)) (fun z75 hz76 he77 => ?_)
          have hT78 : bT (rwv w 5) (rwv w 50) pl = z75 := by
            show rwv w 5 (4 * rwv w 50 pl) = z75
            rw [hu73, rwv_of (j := 4 * u70) h5_21 (by omega), show 4 * u70 = u70 * 4 + 0 by omega]
            exact he77
          have hl79 : z75 ≤ 99 := by have q := (hb pl (by omega)).2.1; omega
          refine xg_t (xg_istore (l1 := [(3, (0, pl)), (0, (2, 49)), (1, (0, f4_17)), (2, (0, he)), (4, (0, pl))]) rfl rfl rfl) ?_
          refine xg_t (xg_iload (va := (0, z75)) rfl rfl) ?_
          refine xg_t (xg_i2l (u := z75) xnm0) ?_
          refine xg_t (xg_lre (b := z75) (by rw [xlp_eq]; exact nI_l (by omega))) ?_
          refine xg_t (xg_aload (va := (2, 49)) rfl rfl) ?_
          refine xg_t (xg_getf (va := (2, 3)) (hb65.get (by decide) (hb58.get (by decide) (hF31.get (by decide) h49_5))) rfl) ?_
          refine xg_t (xg_getf (va := (2, 4)) (hb65.get (by decide) (hb58.get (by decide) (hF31.get (by decide) h3_16))) rfl) ?_
          refine xg_t (xg_aload (va := (2, 49)) rfl rfl) ?_
          refine xg_t (xg_getf (va := (2, 50)) (hb65.get (by decide) (hb58.get (by decide) (hF31.get (by decide) h49_5))) rfl) ?_
          refine xg_t (xg_iload (va := (0, pl)) rfl rfl) ?_
          refine xg_ialdB (n := pl) (B := 4294967295) (((h50_24.fr hF31 (by decide)).but hb58 (by decide)).but hb65 (by decide)) (hb25) xnm0 (by omega) (fun u80 hu81 he82 => ?_)
          have hu83 : rwv w 50 pl = u80 := (rwv_of h50_24 (by omega)).trans he82
          have hl84 : u80 < f4_17 := by have q := (hb pl (by omega)).1; omega
          refine xg_t (xg_const) ?_
          refine xg_kE (xg_cVr mX5_get (vs := [(0, u80), (0, 1)]) (rest := [(4, z75)]) (rs := [(0, g5_20 (u80 * 4 + 1)), (4, z75)]) (cn1 := 0) (sl1 := 0) rfl (rgetX (lim := 6) (wd := 4) (sz := f4_17) (hb65.get (by decide) (hb58.get (by decide) (hF31.get (by decide) h4_19))) (((h5_21.fr hF31 (by decide)).but hb58 (by decide)).but hb65 (by decide)) (by decide) (by omega) (by decide) (by decide) (by omega) (by decide)) rfl (hb65.get (by decide) (hb58.get (by decide) (hF31.get (by decide) h4_19))) rfl rfl rfl rfl rfl rfl rfl) (Nat.lt_succ_of_le ((hb22) _)) (fun z85 hz86 he87 => ?_)
          have hT88 : bS (rwv w 5) (rwv w 50) pl = z85 := by
            show rwv w 5 (4 * rwv w 50 pl + 1) = z85
            rw [hu83, rwv_of (j := 4 * u80 + 1) h5_21 (by omega), show 4 * u80 + 1 = u80 * 4 + 1 by omega]
            exact he87
          have hl89 : z85 ≤ 99 := by have q := (hb pl (by omega)).2.2; omega
          refine xg_t (xg_i2l (u := z85) xnm0) ?_
          refine xg_t (xg_lre (b := z85) (by rw [xlp_eq]; exact nI_l (by omega))) ?_
          refine xg_t (xg_lmul (u := z75) (v := z85)) ?_
          refine xg_t (xg_lre (b := z75 * z85) (by rw [xlp_eq]; exact lN_mul _ _)) ?_
          refine xg_t (xg_lstore (l1 := [(5, (0, z75)), (3, (0, pl)), (0, (2, 49)), (1, (0, f4_17)), (2, (0, he)), (4, (0, pl))]) rfl rfl) ?_
          refine xg_t (xg_aload (va := (2, 49)) rfl rfl) ?_
          refine xg_t (xg_getf (va := (2, 53)) (hb65.get (by decide) (hb58.get (by decide) (hF31.get (by decide) h49_5))) rfl) ?_
          refine xg_t (xg_iload (va := (0, pl)) rfl rfl) ?_
          refine xg_t (xg_dup2 rfl) ?_
          obtain ⟨l90, hz91⟩ : ∃ z, g59 pl = z := ⟨_, rfl⟩
          refine xg_t (xg_lald (n := pl) (hr57.but hb65 (by decide)) xnm0 (by omega) hz91) ?_
          refine xg_t (xg_lload (u := z75 * z85) rfl) ?_
          refine xg_t (xg_const) ?_
          refine xg_t (xg_iload (va := (0, he)) rfl rfl) ?_
          refine xg_t (xg_imul (u := 2) (v := he) (z := 2 * he) xnm0 xnm0 (by omega)) ?_
          refine xg_t (xg_iload (va := (0, z75)) rfl rfl) ?_
          refine xg_t (xg_iadd (u := 2 * he) (v := z75) (z := (2 * he) + z75) xnm0 xnm0 (by omega)) ?_
          refine xg_t (xg_i2l (u := (2 * he) + z75) xnm0) ?_
          refine xg_t (xg_lre (b := (2 * he) + z75) (by rw [xlp_eq]; exact nI_l (by omega))) ?_
          refine xg_t (xg_lmul (u := z75 * z85) (v := (2 * he) + z75)) ?_
          refine xg_t (xg_lre (b := (z75 * z85) * ((2 * he) + z75)) (by rw [xlp_eq]; exact lN_mul _ _)) ?_
          refine xg_t (xg_ladd (u := l90) (v := (z75 * z85) * ((2 * he) + z75))) ?_
          refine xg_t (xg_lre (b := l90 + ((z75 * z85) * ((2 * he) + z75))) (by rw [xlp_eq]; exact lN_add _ _)) ?_
          refine xg_last (n := pl) (u := l90 + ((z75 * z85) * ((2 * he) + z75))) (hr57.but hb65 (by decide)) xnm0 (by omega) (fun w92 hr93 hb94 => ?_)
          obtain ⟨g95, hg96⟩ : ∃ g : Nat → Nat, g = (fun j => if j = pl then l90 + ((z75 * z85) * ((2 * he) + z75)) else g59 j) := ⟨_, rfl⟩
          rw [← hg96] at hr93
          have he97 : g95 pl = l90 + ((z75 * z85) * ((2 * he) + z75)) := by rw [hg96]; exact if_pos rfl
          have hk98 : ∀ j, j ≠ pl → g95 j = g59 j := fun j hj => by rw [hg96]; exact if_neg hj
          refine xg_t (xg_aload (va := (2, 49)) rfl rfl) ?_
          refine xg_t (xg_getf (va := (2, 54)) (hb94.get (by decide) (hb65.get (by decide) (hb58.get (by decide) (hF31.get (by decide) h49_5)))) rfl) ?_
          refine xg_t (xg_iload (va := (0, pl)) rfl rfl) ?_
          refine xg_t (xg_dup2 rfl) ?_
          obtain ⟨l99, hz100⟩ : ∃ z, g66 pl = z := ⟨_, rfl⟩
          refine xg_t (xg_lald (n := pl) (hr64.but hb94 (by decide)) xnm0 (by omega) hz100) ?_
          refine xg_t (xg_ldc2) ?_
          refine xg_t (xg_lload (u := z75 * z85) rfl) ?_
          refine xg_t (xg_lmul (u := 2) (v := z75 * z85)) ?_
          refine xg_t (xg_lre (b := 2 * (z75 * z85)) (by rw [xlp_eq]; exact lN_mul _ _)) ?_
          refine xg_t (xg_ladd (u := l99) (v := 2 * (z75 * z85))) ?_
          refine xg_t (xg_lre (b := l99 + (2 * (z75 * z85))) (by rw [xlp_eq]; exact lN_add _ _)) ?_
          refine xg_last (n := pl) (u := l99 + (2 * (z75 * z85))) (hr64.but hb94 (by decide)) xnm0 (by omega) (fun w101 hr102 hb103 => ?_)
          obtain ⟨g104, hg105⟩ : ∃ g : Nat → Nat, g = (fun j => if j = pl then l99 + (2 * (z75 * z85)) else g66 j) := ⟨_, rfl⟩
          rw [← hg105] at hr102
          have he106 : g104 pl = l99 + (2 * (z75 * z85)) := by rw [hg105]; exact if_pos rfl
          have hk107 : ∀ j, j ≠ pl → g104 j = g66 j := fun j hj => by rw [hg105]; exact if_neg hj
          refine xg_t (xg_aload (va := (2, 49)) rfl rfl) ?_
          refine xg_t (xg_getf (va := (2, 52)) (hb103.get (by decide) (hb94.get (by decide) (hb65.get (by decide) (hb58.get (by decide) (hF31.get (by decide) h49_5))))) rfl) ?_
          refine xg_t (xg_iload (va := (0, pl)) rfl rfl) ?_
          refine xg_t (xg_iload (va := (0, pl)) rfl rfl) ?_
          refine xg_iastK (n := pl) (u := pl) ((((h52_46.but hb58 (by decide)).but hb65 (by decide)).but hb94 (by decide)).but hb103 (by decide)) xnm0 xnm0 rfl (by omega) (fun w108 hr109 hb110 => ?_)
          obtain ⟨g111, hg112⟩ : ∃ g : Nat → Nat, g = (fun j => if j = pl then pl else g52_45 j) := ⟨_, rfl⟩
          rw [← hg112] at hr109
          have he113 : g111 pl = pl := by rw [hg112]; exact if_pos rfl
          have hk114 : ∀ j, j ≠ pl → g111 j = g52_45 j := fun j hj => by rw [hg112]; exact if_neg hj
          have hb115 : ∀ j, g111 j ≤ 5 := fun j => by rw [hg112]; exact xrb (by omega) (hb47) j
          refine xg_t (xg_aload (va := (2, 49)) rfl rfl) ?_
          refine xg_t (xg_getf (va := (2, 51)) (hb110.get (by decide) (hb103.get (by decide) (hb94.get (by decide) (hb65.get (by decide) (hb58.get (by decide) (hF31.get (by decide) h49_5)))))) rfl) ?_
          refine xg_t (xg_iload (va := (0, pl)) rfl rfl) ?_
          refine xg_t (xg_iload (va := (0, he)) rfl rfl) ?_
          refine xg_iastK (n := pl) (u := he) (((((h51_43.but hb58 (by decide)).but hb65 (by decide)).but hb94 (by decide)).but hb103 (by decide)).but hb110 (by decide)) xnm0 xnm0 rfl (by omega) (fun w116 hr117 hb118 => ?_)
          obtain ⟨g119, hg120⟩ : ∃ g : Nat → Nat, g = (fun j => if j = pl then he else g51_42 j) := ⟨_, rfl⟩
          rw [← hg120] at hr117
          have he121 : g119 pl = he := by rw [hg120]; exact if_pos rfl
          have hk122 : ∀ j, j ≠ pl → g119 j = g51_42 j := fun j hj => by rw [hg120]; exact if_neg hj
          have hb123 : ∀ j, g119 j ≤ 4294967295 := fun j => by rw [hg120]; exact xrb (by omega) (hb44) j
          refine xg_t (xg_iload (va := (0, he)) rfl rfl) ?_
          refine xg_t (xg_iload (va := (0, z75)) rfl rfl) ?_
          refine xg_t (xg_iadd (u := he) (v := z75) (z := he + z75) xnm0 xnm0 (by omega)) ?_
          refine xg_t (xg_istore (l1 := [(6, (4, z75 * z85)), (5, (0, z75)), (3, (0, pl)), (0, (2, 49)), (1, (0, f4_17)), (4, (0, pl))]) rfl rfl rfl) ?_
          refine xg_t (xg_iinc (u := pl) (z := pl + 1) (l1 := [(2, (0, he + z75)), (6, (4, z75 * z85)), (5, (0, z75)), (3, (0, pl)), (0, (2, 49)), (1, (0, f4_17))]) rfl rfl (by omega) rfl) ?_
          refine xg_t (xg_goto) ?_
          refine xg_t (xg_drop (l1 := [(0, (2, 49)), (1, (0, f4_17)), (2, (0, he + z75)), (3, (0, pl)), (4, (0, pl + 1))]) (List.forall_mem_cons.mpr ⟨List.mem_cons_of_mem _ (List.mem_cons_of_mem _ (List.mem_cons_of_mem _ (List.mem_cons_of_mem _ (List.mem_cons_of_mem _ (List.mem_cons_self))))), List.forall_mem_cons.mpr ⟨List.mem_cons_of_mem _ (List.mem_cons_of_mem _ (List.mem_cons_of_mem _ (List.mem_cons_of_mem _ (List.mem_cons_of_mem _ (List.mem_cons_of_mem _ (List.mem_cons_self)))))), List.forall_mem_cons.mpr ⟨List.mem_cons_of_mem _ (List.mem_cons_self), List.forall_mem_cons.mpr ⟨List.mem_cons_of_mem _ (List.mem_cons_of_mem _ (List.mem_cons_of_mem _ (List.mem_cons_of_mem _ (List.mem_cons_self)))), List.forall_mem_cons.mpr ⟨List.mem_cons_self, fun _ h => absurd h List.not_mem_nil⟩⟩⟩⟩⟩)) ?_
          have ht124 : (z75 * z85) * ((2 * he) + z75) = bt1 (rwv w 5) (rwv w 50) pl := by
            unfold bt1
            rw [hT78, hT88, ← hh38]
          have ht125 : 2 * (z75 * z85) = bt2 (rwv w 5) (rwv w 50) pl := by
            unfold bt2
            rw [hT78, hT88]
          have hz126 : l90 = 0 := hz91.symm.trans he61
          have hz127 : l99 = 0 := hz100.symm.trans he68
          have hbs129 := bs_0 (r := (rwv w 5)) (f := (bt1 (rwv w 5) (rwv w 50))) (p := pl) (z := l90) (t := (z75 * z85) * ((2 * he) + z75)) (by omega) hz126 ht124
          have hbs130 := bs_0 (r := (rwv w 5)) (f := (bt2 (rwv w 5) (rwv w 50))) (p := pl) (z := l99) (t := 2 * (z75 * z85)) (by omega) hz127 ht125
          have hfs128 : bfs (rwv w 5) pl = pl := by rw [show pl = 0 by omega]; rfl
          have hst131 := bd_step (r := (rwv w 5)) (o := (rwv w 50)) (p := pl) (F := rwv w29 52) (H := rwv w29 51) (O := rwk w29 53) (U := rwk w29 54) (F' := rwv w116 52) (H' := rwv w116 51) (O' := rwk w116 53) (U' := rwk w116 54) hq37 ((rwv_of (hr109.but hb118 (by decide)) (by omega)).trans (he113.trans hfs128.symm)) (fun q hq => by rw [rwv_of (j := q) (hr109.but hb118 (by decide)) (by omega), hk114 q (by omega), ← rwv_of (j := q) h52_46 (by omega)]) ((rwv_of hr117 (by omega)).trans (he121.trans hh38)) (fun q hq => by rw [rwv_of (j := q) hr117 (by omega), hk122 q (by omega), ← rwv_of (j := q) h51_43 (by omega)]) (by rw [hfs128]; exact (rwk_of (((hr93.but hb103 (by decide)).but hb110 (by decide)).but hb118 (by decide)) (by omega)).trans (he97.trans hbs129)) (fun s hs hn => by rw [hfs128] at hn; rw [rwk_of (j := s) (((hr93.but hb103 (by decide)).but hb110 (by decide)).but hb118 (by decide)) (by omega), hk98 s hn, hk62 s hn, ← rwk_of (j := s) h53_49 (by omega)]) (by rw [hfs128]; exact (rwk_of ((hr102.but hb110 (by decide)).but hb118 (by decide)) (by omega)).trans (he106.trans hbs130)) (fun s hs hn => by rw [hfs128] at hn; rw [rwk_of (j := s) ((hr102.but hb110 (by decide)).but hb118 (by decide)) (by omega), hk107 s hn, hk69 s hn, ← rwk_of (j := s) h54_52 (by omega)])
          have hp132 : bhg (rwv w 5) (rwv w 50) (pl + 1) = bhg (rwv w 5) (rwv w 50) pl + bT (rwv w 5) (rwv w 50) pl := rfl
          exact ih27 (he + z75) pl (pl + 1) w116 (by omega) (by omega) (by omega) (by omega) (xInv.up (S := [53, 54, 52, 51]) hI30 ((((((xFr.of (S := [53, 54, 52, 51]) hb58 (by decide)).tr (xFr.of (S := [53, 54, 52, 51]) hb65 (by decide))).tr (xFr.of (S := [53, 54, 52, 51]) hb94 (by decide))).tr (xFr.of (S := [53, 54, 52, 51]) hb103 (by decide))).tr (xFr.of (S := [53, 54, 52, 51]) hb110 (by decide))).tr (xFr.of (S := [53, 54, 52, 51]) hb118 (by decide))) (List.forall_mem_cons.mpr ⟨(show cpJ 6 26 (wget w116 53) from ⟨_, (((hr93.but hb103 (by decide)).but hb110 (by decide)).but hb118 (by decide))⟩), List.forall_mem_cons.mpr ⟨(show cpJ 6 27 (wget w116 54) from ⟨_, ((hr102.but hb110 (by decide)).but hb118 (by decide))⟩), List.forall_mem_cons.mpr ⟨(show cpI 6 25 5 (wget w116 52) from ⟨_, (hr109.but hb118 (by decide)), hb115⟩), List.forall_mem_cons.mpr ⟨(show cpI 6 24 4294967295 (wget w116 51) from ⟨_, hr117, hb123⟩), fun _ h => absurd h List.not_mem_nil⟩⟩⟩⟩)) ((hF31.tr ((((((xFr.of (S := [51, 52, 53, 54, 55]) hb58 (by decide)).tr (xFr.of (S := [51, 52, 53, 54, 55]) hb65 (by decide))).tr (xFr.of (S := [51, 52, 53, 54, 55]) hb94 (by decide))).tr (xFr.of (S := [51, 52, 53, 54, 55]) hb103 (by decide))).tr (xFr.of (S := [51, 52, 53, 54, 55]) hb110 (by decide))).tr (xFr.of (S := [51, 52, 53, 54, 55]) hb118 (by decide))))) (⟨hst131, ⟨by omega, by omega⟩, fun _ => hfs128.symm, by omega⟩)
        · refine xg_t (xg_ifF (u := pl) rfl xnm0 (xj_eqF hc55)) ?_
          refine xg_t (xg_aload (va := (2, 49)) rfl rfl) ?_
          refine xg_t (xg_getf (va := (2, 3)) (hF31.get (by decide) h49_5) rfl) ?_
          refine xg_t (xg_getf (va := (2, 4)) (hF31.get (by decide) h3_16) rfl) ?_
          refine xg_t (xg_iload (va := (0, pl)) rfl rfl) ?_
          refine xg_t (xg_const) ?_
          refine xg_t (xg_isub (u := pl) (v := 1) (z := pl - 1) xnm0 xnm0 (by omega)) ?_
          refine xg_t (xg_const) ?_
          refine xg_kE (xg_cVr mX5_get (vs := [(0, pl - 1), (0, 3)]) (rest := []) (rs := [(0, g5_20 ((pl - 1) * 4 + 3))]) (cn1 := 0) (sl1 := 0) rfl (rgetX (lim := 6) (wd := 4) (sz := f4_17) (hF31.get (by decide) h4_19) (h5_21.fr hF31 (by decide)) (by decide) (by omega) (by decide) (by decide) (by omega) (by decide)) rfl (hF31.get (by decide) h4_19) rfl rfl rfl rfl rfl rfl rfl) (Nat.lt_succ_of_le ((hb22) _)) (fun z133 hz134 he135 => ?_)
          have hT136 : rwv w 5 (4 * (pl - 1) + 3) = z133 := by
            rw [rwv_of (j := 4 * (pl - 1) + 3) h5_21 (by omega), show 4 * (pl - 1) + 3 = (pl - 1) * 4 + 3 by omega]
            exact he135
          refine xg_t (xg_const) ?_
          by_cases hc137 : z133 = 1
          · refine xg_t (xg_icF (u := z133) (v := 1) rfl xnm0 xnm0 (xj_neF hc137)) ?_
            refine xg_t (xg_blk (b := [(48, 2, 2, 4, 0, 0), (50, 1, 15, 3, 0, 0), (51, 1, 0, 0, 0, 0), (52, 3, 1, 0, 4, 23), (55, 1, 2, 3, 0, 0), (56, 1, 51, 0, 0, 0), (57, 1, 65, 0, 0, 0), (58, 1, 0, 0, 0, 0), (59, 3, 1, 0, 5, 27), (62, 1, 2, 3, 0, 0), (63, 1, 51, 0, 0, 0), (64, 1, 65, 0, 0, 0)]) rfl) ?_
            refine xg_t (xg_iload (va := (0, pl)) rfl rfl) ?_
            refine xg_t (xg_istore (l1 := [(0, (2, 49)), (1, (0, f4_17)), (2, (0, he)), (4, (0, pl))]) rfl rfl rfl) ?_
            refine xg_t (xg_aload (va := (2, 49)) rfl rfl) ?_
            refine xg_t (xg_getf (va := (2, 53)) (hF31.get (by decide) h49_5) rfl) ?_
            refine xg_t (xg_iload (va := (0, pl)) rfl rfl) ?_
            refine xg_t (xg_lconst) ?_
            refine xg_last (n := pl) (u := 0) h53_49 xnm0 (by omega) (fun w138 hr139 hb140 => ?_)
            obtain ⟨g141, hg142⟩ : ∃ g : Nat → Nat, g = (fun j => if j = pl then 0 else g53_48 j) := ⟨_, rfl⟩
            rw [← hg142] at hr139
            have he143 : g141 pl = 0 := by rw [hg142]; exact if_pos rfl
            have hk144 : ∀ j, j ≠ pl → g141 j = g53_48 j := fun j hj => by rw [hg142]; exact if_neg hj
            refine xg_t (xg_aload (va := (2, 49)) rfl rfl) ?_
            refine xg_t (xg_getf (va := (2, 54)) (hb140.get (by decide) (hF31.get (by decide) h49_5)) rfl) ?_
            refine xg_t (xg_iload (va := (0, pl)) rfl rfl) ?_
            refine xg_t (xg_lconst) ?_
            refine xg_last (n := pl) (u := 0) (h54_52.but hb140 (by decide)) xnm0 (by omega) (fun w145 hr146 hb147 => ?_)
            obtain ⟨g148, hg149⟩ : ∃ g : Nat → Nat, g = (fun j => if j = pl then 0 else g54_51 j) := ⟨_, rfl⟩
            rw [← hg149] at hr146
            have he150 : g148 pl = 0 := by rw [hg149]; exact if_pos rfl
            have hk151 : ∀ j, j ≠ pl → g148 j = g54_51 j := fun j hj => by rw [hg149]; exact if_neg hj
            refine xg_t (xg_blk (b := [(65, 1, 0, 0, 0, 0), (66, 3, 1, 0, 0, 39), (69, 3, 1, 1, 0, 50), (72, 1, 0, 0, 0, 0), (73, 3, 1, 0, 1, 11), (76, 2, 2, 4, 0, 0), (78, 1, 10, 0, 0, 0), (79, 1, 3, 0, 0, 0), (80, 3, 13, 285, 40, 60), (83, 2, 15, 5, 0, 0), (85, 2, 2, 5, 0, 0), (87, 1, 49, 0, 0, 0), (88, 1, 0, 0, 0, 0), (89, 3, 1, 0, 0, 39), (92, 3, 1, 1, 0, 50), (95, 1, 0, 0, 0, 0), (96, 3, 1, 0, 1, 11), (99, 2, 2, 4, 0, 0), (101, 1, 10, 0, 0, 0), (102, 1, 3, 1, 0, 0), (103, 3, 13, 285, 40, 60), (106, 1, 49, 0, 0, 0), (107, 1, 55, 0, 0, 0), (108, 2, 54, 6, 0, 0), (110, 1, 0, 0, 0, 0), (111, 3, 1, 0, 4, 23), (114, 1, 2, 3, 0, 0), (115, 1, 39, 0, 0, 0), (116, 1, 64, 0, 0, 0), (117, 2, 53, 6, 0, 0), (119, 1, 3, 2, 0, 0), (120, 1, 2, 2, 0, 0), (121, 1, 16, 0, 0, 0), (122, 2, 2, 5, 0, 0), (124, 1, 11, 0, 0, 0), (125, 1, 49, 0, 0, 0), (126, 1, 55, 0, 0, 0), (127, 1, 56, 0, 0, 0), (128, 1, 65, 0, 0, 0), (129, 1, 0, 0, 0, 0), (130, 3, 1, 0, 5, 27), (133, 1, 2, 3, 0, 0), (134, 1, 39, 0, 0, 0), (135, 1, 64, 0, 0, 0), (136, 3, 52, 2, 0, 64), (139, 2, 53, 6, 0, 0), (141, 1, 55, 0, 0, 0), (142, 1, 56, 0, 0, 0), (143, 1, 65, 0, 0, 0), (144, 1, 0, 0, 0, 0), (145, 3, 1, 0, 3, 20), (148, 2, 2, 4, 0, 0), (150, 1, 2, 3, 0, 0), (151, 1, 17, 0, 0, 0), (152, 1, 0, 0, 0, 0), (153, 3, 1, 0, 2, 17), (156, 2, 2, 4, 0, 0), (158, 1, 2, 2, 0, 0), (159, 1, 17, 0, 0, 0), (160, 1, 2, 2, 0, 0), (161, 2, 2, 5, 0, 0), (163, 1, 11, 0, 0, 0), (164, 1, 15, 2, 0, 0), (165, 3, 9, 4, 1, 0), (168, 3, 8, 18, 0, 0)]) rfl) ?_
            refine xg_t (xg_aload (va := (2, 49)) rfl rfl) ?_
            refine xg_t (xg_getf (va := (2, 3)) (hb147.get (by decide) (hb140.get (by decide) (hF31.get (by decide) h49_5))) rfl) ?_
            refine xg_t (xg_getf (va := (2, 4)) (hb147.get (by decide) (hb140.get (by decide) (hF31.get (by decide) h3_16))) rfl) ?_
            refine xg_t (xg_aload (va := (2, 49)) rfl rfl) ?_
            refine xg_t (xg_getf (va := (2, 50)) (hb147.get (by decide) (hb140.get (by decide) (hF31.get (by decide) h49_5))) rfl) ?_
            refine xg_t (xg_iload (va := (0, pl)) rfl rfl) ?_
            refine xg_ialdB (n := pl) (B := 4294967295) (((h50_24.fr hF31 (by decide)).but hb140 (by decide)).but hb147 (by decide)) (hb25) xnm0 (by omega) (fun u152 hu153 he154 => ?_)
            have hu155 : rwv w 50 pl = u152 := (rwv_of h50_24 (by omega)).trans he154
            have hl156 : u152 < f4_17 := by have q := (hb pl (by omega)).1; omega
            refine xg_t (xg_const) ?_
            refine xg_kE (xg_cVr mX5_get (vs := [(0, u152), (0, 0)]) (rest := []) (rs := [(0, g5_20 (u152 * 4 + 0))]) (cn1 := 0) (sl1 := 0) rfl (rgetX (lim := 6) (wd := 4) (sz := f4_17) (hb147.get (by decide) (hb140.get (by decide) (hF31.get (by decide) h4_19))) (((h5_21.fr hF31 (by decide)).but hb140 (by decide)).but hb147 (by decide)) (by decide) (by omega) (by decide) (by decide) (by omega) (by decide)) rfl (hb147.get (by decide) (hb140.get (by decide) (hF31.get (by decide) h4_19))) rfl rfl rfl rfl rfl rfl rfl) (Nat.lt_succ_of_le ((hb22) _)) (fun z157 hz158 he159 => ?_)
            have hT160 : bT (rwv w 5) (rwv w 50) pl = z157 := by
              show rwv w 5 (4 * rwv w 50 pl) = z157
              rw [hu155, rwv_of (j := 4 * u152) h5_21 (by omega), show 4 * u152 = u152 * 4 + 0 by omega]
              exact he159
            have hl161 : z157 ≤ 99 := by have q := (hb pl (by omega)).2.1; omega
            refine xg_t (xg_istore (l1 := [(3, (0, pl)), (0, (2, 49)), (1, (0, f4_17)), (2, (0, he)), (4, (0, pl))]) rfl rfl rfl) ?_
            refine xg_t (xg_iload (va := (0, z157)) rfl rfl) ?_
            refine xg_t (xg_i2l (u := z157) xnm0) ?_
            refine xg_t (xg_lre (b := z157) (by rw [xlp_eq]; exact nI_l (by omega))) ?_
            refine xg_t (xg_aload (va := (2, 49)) rfl rfl) ?_
            refine xg_t (xg_getf (va := (2, 3)) (hb147.get (by decide) (hb140.get (by decide) (hF31.get (by decide) h49_5))) rfl) ?_
            refine xg_t (xg_getf (va := (2, 4)) (hb147.get (by decide) (hb140.get (by decide) (hF31.get (by decide) h3_16))) rfl) ?_
            refine xg_t (xg_aload (va := (2, 49)) rfl rfl) ?_
            refine xg_t (xg_getf (va := (2, 50)) (hb147.get (by decide) (hb140.get (by decide) (hF31.get (by decide) h49_5))) rfl) ?_
            refine xg_t (xg_iload (va := (0, pl)) rfl rfl) ?_
            refine xg_ialdB (n := pl) (B := 4294967295) (((h50_24.fr hF31 (by decide)).but hb140 (by decide)).but hb147 (by decide)) (hb25) xnm0 (by omega) (fun u162 hu163 he164 => ?_)
            have hu165 : rwv w 50 pl = u162 := (rwv_of h50_24 (by omega)).trans he164
            have hl166 : u162 < f4_17 := by have q := (hb pl (by omega)).1; omega
            refine xg_t (xg_const) ?_
            refine xg_kE (xg_cVr mX5_get (vs := [(0, u162), (0, 1)]) (rest := [(4, z157)]) (rs := [(0, g5_20 (u162 * 4 + 1)), (4, z157)]) (cn1 := 0) (sl1 := 0) rfl (rgetX (lim := 6) (wd := 4) (sz := f4_17) (hb147.get (by decide) (hb140.get (by decide) (hF31.get (by decide) h4_19))) (((h5_21.fr hF31 (by decide)).but hb140 (by decide)).but hb147 (by decide)) (by decide) (by omega) (by decide) (by decide) (by omega) (by decide)) rfl (hb147.get (by decide) (hb140.get (by decide) (hF31.get (by decide) h4_19))) rfl rfl rfl rfl rfl rfl rfl) (Nat.lt_succ_of_le ((hb22) _)) (fun z167 hz168 he169 => ?_)
            have hT170 : bS (rwv w 5) (rwv w 50) pl = z167 := by
              show rwv w 5 (4 * rwv w 50 pl + 1) = z167
              rw [hu165, rwv_of (j := 4 * u162 + 1) h5_21 (by omega), show 4 * u162 + 1 = u162 * 4 + 1 by omega]
              exact he169
            have hl171 : z167 ≤ 99 := by have q := (hb pl (by omega)).2.2; omega
            refine xg_t (xg_i2l (u := z167) xnm0) ?_
            refine xg_t (xg_lre (b := z167) (by rw [xlp_eq]; exact nI_l (by omega))) ?_
            refine xg_t (xg_lmul (u := z157) (v := z167)) ?_
            refine xg_t (xg_lre (b := z157 * z167) (by rw [xlp_eq]; exact lN_mul _ _)) ?_
            refine xg_t (xg_lstore (l1 := [(5, (0, z157)), (3, (0, pl)), (0, (2, 49)), (1, (0, f4_17)), (2, (0, he)), (4, (0, pl))]) rfl rfl) ?_
            refine xg_t (xg_aload (va := (2, 49)) rfl rfl) ?_
            refine xg_t (xg_getf (va := (2, 53)) (hb147.get (by decide) (hb140.get (by decide) (hF31.get (by decide) h49_5))) rfl) ?_
            refine xg_t (xg_iload (va := (0, pl)) rfl rfl) ?_
            refine xg_t (xg_dup2 rfl) ?_
            obtain ⟨l172, hz173⟩ : ∃ z, g141 pl = z := ⟨_, rfl⟩
            refine xg_t (xg_lald (n := pl) (hr139.but hb147 (by decide)) xnm0 (by omega) hz173) ?_
            refine xg_t (xg_lload (u := z157 * z167) rfl) ?_
            refine xg_t (xg_const) ?_
            refine xg_t (xg_iload (va := (0, he)) rfl rfl) ?_
            refine xg_t (xg_imul (u := 2) (v := he) (z := 2 * he) xnm0 xnm0 (by omega)) ?_
            refine xg_t (xg_iload (va := (0, z157)) rfl rfl) ?_
            refine xg_t (xg_iadd (u := 2 * he) (v := z157) (z := (2 * he) + z157) xnm0 xnm0 (by omega)) ?_
            refine xg_t (xg_i2l (u := (2 * he) + z157) xnm0) ?_
            refine xg_t (xg_lre (b := (2 * he) + z157) (by rw [xlp_eq]; exact nI_l (by omega))) ?_
            refine xg_t (xg_lmul (u := z157 * z167) (v := (2 * he) + z157)) ?_
            refine xg_t (xg_lre (b := (z157 * z167) * ((2 * he) + z157)) (by rw [xlp_eq]; exact lN_mul _ _)) ?_
            refine xg_t (xg_ladd (u := l172) (v := (z157 * z167) * ((2 * he) + z157))) ?_
            refine xg_t (xg_lre (b := l172 + ((z157 * z167) * ((2 * he) + z157))) (by rw [xlp_eq]; exact lN_add _ _)) ?_
            refine xg_last (n := pl) (u := l172 + ((z157 * z167) * ((2 * he) + z157))) (hr139.but hb147 (by decide)) xnm0 (by omega) (fun w174 hr175 hb176 => ?_)
            obtain ⟨g177, hg178⟩ : ∃ g : Nat → Nat, g = (fun j => if j = pl then l172 + ((z157 * z167) * ((2 * he) + z157)) else g141 j) := ⟨_, rfl⟩
            rw [← hg178] at hr175
            have he179 : g177 pl = l172 + ((z157 * z167) * ((2 * he) + z157)) := by rw [hg178]; exact if_pos rfl
            have hk180 : ∀ j, j ≠ pl → g177 j = g141 j := fun j hj => by rw [hg178]; exact if_neg hj
            refine xg_t (xg_aload (va := (2, 49)) rfl rfl) ?_
            refine xg_t (xg_getf (va := (2, 54)) (hb176.get (by decide) (hb147.get (by decide) (hb140.get (by decide) (hF31.get (by decide) h49_5)))) rfl) ?_
            refine xg_t (xg_iload (va := (0, pl)) rfl rfl) ?_
            refine xg_t (xg_dup2 rfl) ?_
            obtain ⟨l181, hz182⟩ : ∃ z, g148 pl = z := ⟨_, rfl⟩
            refine xg_t (xg_lald (n := pl) (hr146.but hb176 (by decide)) xnm0 (by omega) hz182) ?_
            refine xg_t (xg_ldc2) ?_
            refine xg_t (xg_lload (u := z157 * z167) rfl) ?_
            refine xg_t (xg_lmul (u := 2) (v := z157 * z167)) ?_
            refine xg_t (xg_lre (b := 2 * (z157 * z167)) (by rw [xlp_eq]; exact lN_mul _ _)) ?_
            refine xg_t (xg_ladd (u := l181) (v := 2 * (z157 * z167))) ?_
            refine xg_t (xg_lre (b := l181 + (2 * (z157 * z167))) (by rw [xlp_eq]; exact lN_add _ _)) ?_
            refine xg_last (n := pl) (u := l181 + (2 * (z157 * z167))) (hr146.but hb176 (by decide)) xnm0 (by omega) (fun w183 hr184 hb185 => ?_)
            obtain ⟨g186, hg187⟩ : ∃ g : Nat → Nat, g = (fun j => if j = pl then l181 + (2 * (z157 * z167)) else g148 j) := ⟨_, rfl⟩
            rw [← hg187] at hr184
            have he188 : g186 pl = l181 + (2 * (z157 * z167)) := by rw [hg187]; exact if_pos rfl
            have hk189 : ∀ j, j ≠ pl → g186 j = g148 j := fun j hj => by rw [hg187]; exact if_neg hj
            refine xg_t (xg_aload (va := (2, 49)) rfl rfl) ?_
            refine xg_t (xg_getf (va := (2, 52)) (hb185.get (by decide) (hb176.get (by decide) (hb147.get (by decide) (hb140.get (by decide) (hF31.get (by decide) h49_5))))) rfl) ?_
            refine xg_t (xg_iload (va := (0, pl)) rfl rfl) ?_
            refine xg_t (xg_iload (va := (0, pl)) rfl rfl) ?_
            refine xg_iastK (n := pl) (u := pl) ((((h52_46.but hb140 (by decide)).but hb147 (by decide)).but hb176 (by decide)).but hb185 (by decide)) xnm0 xnm0 rfl (by omega) (fun w190 hr191 hb192 => ?_)
            obtain ⟨g193, hg194⟩ : ∃ g : Nat → Nat, g = (fun j => if j = pl then pl else g52_45 j) := ⟨_, rfl⟩
            rw [← hg194] at hr191
            have he195 : g193 pl = pl := by rw [hg194]; exact if_pos rfl
            have hk196 : ∀ j, j ≠ pl → g193 j = g52_45 j := fun j hj => by rw [hg194]; exact if_neg hj
            have hb197 : ∀ j, g193 j ≤ 5 := fun j => by rw [hg194]; exact xrb (by omega) (hb47) j
            refine xg_t (xg_aload (va := (2, 49)) rfl rfl) ?_
            refine xg_t (xg_getf (va := (2, 51)) (hb192.get (by decide) (hb185.get (by decide) (hb176.get (by decide) (hb147.get (by decide) (hb140.get (by decide) (hF31.get (by decide) h49_5)))))) rfl) ?_
            refine xg_t (xg_iload (va := (0, pl)) rfl rfl) ?_
            refine xg_t (xg_iload (va := (0, he)) rfl rfl) ?_
            refine xg_iastK (n := pl) (u := he) (((((h51_43.but hb140 (by decide)).but hb147 (by decide)).but hb176 (by decide)).but hb185 (by decide)).but hb192 (by decide)) xnm0 xnm0 rfl (by omega) (fun w198 hr199 hb200 => ?_)
            obtain ⟨g201, hg202⟩ : ∃ g : Nat → Nat, g = (fun j => if j = pl then he else g51_42 j) := ⟨_, rfl⟩
            rw [← hg202] at hr199
            have he203 : g201 pl = he := by rw [hg202]; exact if_pos rfl
            have hk204 : ∀ j, j ≠ pl → g201 j = g51_42 j := fun j hj => by rw [hg202]; exact if_neg hj
            have hb205 : ∀ j, g201 j ≤ 4294967295 := fun j => by rw [hg202]; exact xrb (by omega) (hb44) j
            refine xg_t (xg_iload (va := (0, he)) rfl rfl) ?_
            refine xg_t (xg_iload (va := (0, z157)) rfl rfl) ?_
            refine xg_t (xg_iadd (u := he) (v := z157) (z := he + z157) xnm0 xnm0 (by omega)) ?_
            refine xg_t (xg_istore (l1 := [(6, (4, z157 * z167)), (5, (0, z157)), (3, (0, pl)), (0, (2, 49)), (1, (0, f4_17)), (4, (0, pl))]) rfl rfl rfl) ?_
            refine xg_t (xg_iinc (u := pl) (z := pl + 1) (l1 := [(2, (0, he + z157)), (6, (4, z157 * z167)), (5, (0, z157)), (3, (0, pl)), (0, (2, 49)), (1, (0, f4_17))]) rfl rfl (by omega) rfl) ?_
            refine xg_t (xg_goto) ?_
            refine xg_t (xg_drop (l1 := [(0, (2, 49)), (1, (0, f4_17)), (2, (0, he + z157)), (3, (0, pl)), (4, (0, pl + 1))]) (List.forall_mem_cons.mpr ⟨List.mem_cons_of_mem _ (List.mem_cons_of_mem _ (List.mem_cons_of_mem _ (List.mem_cons_of_mem _ (List.mem_cons_of_mem _ (List.mem_cons_self))))), List.forall_mem_cons.mpr ⟨List.mem_cons_of_mem _ (List.mem_cons_of_mem _ (List.mem_cons_of_mem _ (List.mem_cons_of_mem _ (List.mem_cons_of_mem _ (List.mem_cons_of_mem _ (List.mem_cons_self)))))), List.forall_mem_cons.mpr ⟨List.mem_cons_of_mem _ (List.mem_cons_self), List.forall_mem_cons.mpr ⟨List.mem_cons_of_mem _ (List.mem_cons_of_mem _ (List.mem_cons_of_mem _ (List.mem_cons_of_mem _ (List.mem_cons_self)))), List.forall_mem_cons.mpr ⟨List.mem_cons_self, fun _ h => absurd h List.not_mem_nil⟩⟩⟩⟩⟩)) ?_
            have ht206 : (z157 * z167) * ((2 * he) + z157) = bt1 (rwv w 5) (rwv w 50) pl := by
              unfold bt1
              rw [hT160, hT170, ← hh38]
            have ht207 : 2 * (z157 * z167) = bt2 (rwv w 5) (rwv w 50) pl := by
              unfold bt2
              rw [hT160, hT170]
            have hz208 : l172 = 0 := hz173.symm.trans he143
            have hz209 : l181 = 0 := hz182.symm.trans he150
            have hbs211 := bs_y (r := (rwv w 5)) (f := (bt1 (rwv w 5) (rwv w 50))) (p := pl) (z := l172) (t := (z157 * z167) * ((2 * he) + z157)) (by omega) (by rw [hT136]; omega) hz208 ht206
            have hbs212 := bs_y (r := (rwv w 5)) (f := (bt2 (rwv w 5) (rwv w 50))) (p := pl) (z := l181) (t := 2 * (z157 * z167)) (by omega) (by rw [hT136]; omega) hz209 ht207
            have hfs210 : bfs (rwv w 5) pl = pl := hbs211.2
            have hst213 := bd_step (r := (rwv w 5)) (o := (rwv w 50)) (p := pl) (F := rwv w29 52) (H := rwv w29 51) (O := rwk w29 53) (U := rwk w29 54) (F' := rwv w198 52) (H' := rwv w198 51) (O' := rwk w198 53) (U' := rwk w198 54) hq37 ((rwv_of (hr191.but hb200 (by decide)) (by omega)).trans (he195.trans hfs210.symm)) (fun q hq => by rw [rwv_of (j := q) (hr191.but hb200 (by decide)) (by omega), hk196 q (by omega), ← rwv_of (j := q) h52_46 (by omega)]) ((rwv_of hr199 (by omega)).trans (he203.trans hh38)) (fun q hq => by rw [rwv_of (j := q) hr199 (by omega), hk204 q (by omega), ← rwv_of (j := q) h51_43 (by omega)]) (by rw [hfs210]; exact (rwk_of (((hr175.but hb185 (by decide)).but hb192 (by decide)).but hb200 (by decide)) (by omega)).trans (he179.trans hbs211.1)) (fun s hs hn => by rw [hfs210] at hn; rw [rwk_of (j := s) (((hr175.but hb185 (by decide)).but hb192 (by decide)).but hb200 (by decide)) (by omega), hk180 s hn, hk144 s hn, ← rwk_of (j := s) h53_49 (by omega)]) (by rw [hfs210]; exact (rwk_of ((hr184.but hb192 (by decide)).but hb200 (by decide)) (by omega)).trans (he188.trans hbs212.1)) (fun s hs hn => by rw [hfs210] at hn; rw [rwk_of (j := s) ((hr184.but hb192 (by decide)).but hb200 (by decide)) (by omega), hk189 s hn, hk151 s hn, ← rwk_of (j := s) h54_52 (by omega)])
            have hp214 : bhg (rwv w 5) (rwv w 50) (pl + 1) = bhg (rwv w 5) (rwv w 50) pl + bT (rwv w 5) (rwv w 50) pl := rfl
            exact ih27 (he + z157) pl (pl + 1) w198 (by omega) (by omega) (by omega) (by omega) (xInv.up (S := [53, 54, 52, 51]) hI30 ((((((xFr.of (S := [53, 54, 52, 51]) hb140 (by decide)).tr (xFr.of (S := [53, 54, 52, 51]) hb147 (by decide))).tr (xFr.of (S := [53, 54, 52, 51]) hb176 (by decide))).tr (xFr.of (S := [53, 54, 52, 51]) hb185 (by decide))).tr (xFr.of (S := [53, 54, 52, 51]) hb192 (by decide))).tr (xFr.of (S := [53, 54, 52, 51]) hb200 (by decide))) (List.forall_mem_cons.mpr ⟨(show cpJ 6 26 (wget w198 53) from ⟨_, (((hr175.but hb185 (by decide)).but hb192 (by decide)).but hb200 (by decide))⟩), List.forall_mem_cons.mpr ⟨(show cpJ 6 27 (wget w198 54) from ⟨_, ((hr184.but hb192 (by decide)).but hb200 (by decide))⟩), List.forall_mem_cons.mpr ⟨(show cpI 6 25 5 (wget w198 52) from ⟨_, (hr191.but hb200 (by decide)), hb197⟩), List.forall_mem_cons.mpr ⟨(show cpI 6 24 4294967295 (wget w198 51) from ⟨_, hr199, hb205⟩), fun _ h => absurd h List.not_mem_nil⟩⟩⟩⟩)) ((hF31.tr ((((((xFr.of (S := [51, 52, 53, 54, 55]) hb140 (by decide)).tr (xFr.of (S := [51, 52, 53, 54, 55]) hb147 (by decide))).tr (xFr.of (S := [51, 52, 53, 54, 55]) hb176 (by decide))).tr (xFr.of (S := [51, 52, 53, 54, 55]) hb185 (by decide))).tr (xFr.of (S := [51, 52, 53, 54, 55]) hb192 (by decide))).tr (xFr.of (S := [51, 52, 53, 54, 55]) hb200 (by decide))))) (⟨hst213, ⟨by omega, by omega⟩, fun _ => hfs210.symm, by omega⟩)
          · refine xg_t (xg_icT (u := z133) (v := 1) rfl xnm0 xnm0 (xj_neT hc137)) ?_
            refine xg_t (xg_blk (b := [(65, 1, 0, 0, 0, 0), (66, 3, 1, 0, 0, 39), (69, 3, 1, 1, 0, 50), (72, 1, 0, 0, 0, 0), (73, 3, 1, 0, 1, 11), (76, 2, 2, 4, 0, 0), (78, 1, 10, 0, 0, 0), (79, 1, 3, 0, 0, 0), (80, 3, 13, 285, 40, 60), (83, 2, 15, 5, 0, 0), (85, 2, 2, 5, 0, 0), (87, 1, 49, 0, 0, 0), (88, 1, 0, 0, 0, 0), (89, 3, 1, 0, 0, 39), (92, 3, 1, 1, 0, 50), (95, 1, 0, 0, 0, 0), (96, 3, 1, 0, 1, 11), (99, 2, 2, 4, 0, 0), (101, 1, 10, 0, 0, 0), (102, 1, 3, 1, 0, 0), (103, 3, 13, 285, 40, 60), (106, 1, 49, 0, 0, 0), (107, 1, 55, 0, 0, 0), (108, 2, 54, 6, 0, 0), (110, 1, 0, 0, 0, 0), (111, 3, 1, 0, 4, 23), (114, 1, 2, 3, 0, 0), (115, 1, 39, 0, 0, 0), (116, 1, 64, 0, 0, 0), (117, 2, 53, 6, 0, 0), (119, 1, 3, 2, 0, 0), (120, 1, 2, 2, 0, 0), (121, 1, 16, 0, 0, 0), (122, 2, 2, 5, 0, 0), (124, 1, 11, 0, 0, 0), (125, 1, 49, 0, 0, 0), (126, 1, 55, 0, 0, 0), (127, 1, 56, 0, 0, 0), (128, 1, 65, 0, 0, 0), (129, 1, 0, 0, 0, 0), (130, 3, 1, 0, 5, 27), (133, 1, 2, 3, 0, 0), (134, 1, 39, 0, 0, 0), (135, 1, 64, 0, 0, 0), (136, 3, 52, 2, 0, 64), (139, 2, 53, 6, 0, 0), (141, 1, 55, 0, 0, 0), (142, 1, 56, 0, 0, 0), (143, 1, 65, 0, 0, 0), (144, 1, 0, 0, 0, 0), (145, 3, 1, 0, 3, 20), (148, 2, 2, 4, 0, 0), (150, 1, 2, 3, 0, 0), (151, 1, 17, 0, 0, 0), (152, 1, 0, 0, 0, 0), (153, 3, 1, 0, 2, 17), (156, 2, 2, 4, 0, 0), (158, 1, 2, 2, 0, 0), (159, 1, 17, 0, 0, 0), (160, 1, 2, 2, 0, 0), (161, 2, 2, 5, 0, 0), (163, 1, 11, 0, 0, 0), (164, 1, 15, 2, 0, 0), (165, 3, 9, 4, 1, 0), (168, 3, 8, 18, 0, 0)]) rfl) ?_
            refine xg_t (xg_aload (va := (2, 49)) rfl rfl) ?_
            refine xg_t (xg_getf (va := (2, 3)) (hF31.get (by decide) h49_5) rfl) ?_
            refine xg_t (xg_getf (va := (2, 4)) (hF31.get (by decide) h3_16) rfl) ?_
            refine xg_t (xg_aload (va := (2, 49)) rfl rfl) ?_
            refine xg_t (xg_getf (va := (2, 50)) (hF31.get (by decide) h49_5) rfl) ?_
            refine xg_t (xg_iload (va := (0, pl)) rfl rfl) ?_
            refine xg_ialdB (n := pl) (B := 4294967295) (h50_24.fr hF31 (by decide)) (hb25) xnm0 (by omega) (fun u215 hu216 he217 => ?_)
            have hu218 : rwv w 50 pl = u215 := (rwv_of h50_24 (by omega)).trans he217
            have hl219 : u215 < f4_17 := by have q := (hb pl (by omega)).1; omega
            refine xg_t (xg_const) ?_
            refine xg_kE (xg_cVr mX5_get (vs := [(0, u215), (0, 0)]) (rest := []) (rs := [(0, g5_20 (u215 * 4 + 0))]) (cn1 := 0) (sl1 := 0) rfl (rgetX (lim := 6) (wd := 4) (sz := f4_17) (hF31.get (by decide) h4_19) (h5_21.fr hF31 (by decide)) (by decide) (by omega) (by decide) (by decide) (by omega) (by decide)) rfl (hF31.get (by decide) h4_19) rfl rfl rfl rfl rfl rfl rfl) (Nat.lt_succ_of_le ((hb22) _)) (fun z220 hz221 he222 => ?_)
            have hT223 : bT (rwv w 5) (rwv w 50) pl = z220 := by
              show rwv w 5 (4 * rwv w 50 pl) = z220
              rw [hu218, rwv_of (j := 4 * u215) h5_21 (by omega), show 4 * u215 = u215 * 4 + 0 by omega]
              exact he222
            have hl224 : z220 ≤ 99 := by have q := (hb pl (by omega)).2.1; omega
            refine xg_t (xg_istore (l1 := [(0, (2, 49)), (1, (0, f4_17)), (2, (0, he)), (3, (0, sa)), (4, (0, pl))]) rfl rfl rfl) ?_
            refine xg_t (xg_iload (va := (0, z220)) rfl rfl) ?_
            refine xg_t (xg_i2l (u := z220) xnm0) ?_
            refine xg_t (xg_lre (b := z220) (by rw [xlp_eq]; exact nI_l (by omega))) ?_
            refine xg_t (xg_aload (va := (2, 49)) rfl rfl) ?_
            refine xg_t (xg_getf (va := (2, 3)) (hF31.get (by decide) h49_5) rfl) ?_
            refine xg_t (xg_getf (va := (2, 4)) (hF31.get (by decide) h3_16) rfl) ?_
            refine xg_t (xg_aload (va := (2, 49)) rfl rfl) ?_
            refine xg_t (xg_getf (va := (2, 50)) (hF31.get (by decide) h49_5) rfl) ?_
            refine xg_t (xg_iload (va := (0, pl)) rfl rfl) ?_
            refine xg_ialdB (n := pl) (B := 4294967295) (h50_24.fr hF31 (by decide)) (hb25) xnm0 (by omega) (fun u225 hu226 he227 => ?_)
            have hu228 : rwv w 50 pl = u225 := (rwv_of h50_24 (by omega)).trans he227
            have hl229 : u225 < f4_17 := by have q := (hb pl (by omega)).1; omega
            refine xg_t (xg_const) ?_
            refine xg_kE (xg_cVr mX5_get (vs := [(0, u225), (0, 1)]) (rest := [(4, z220)]) (rs := [(0, g5_20 (u225 * 4 + 1)), (4, z220)]) (cn1 := 0) (sl1 := 0) rfl (rgetX (lim := 6) (wd := 4) (sz := f4_17) (hF31.get (by decide) h4_19) (h5_21.fr hF31 (by decide)) (by decide) (by omega) (by decide) (by decide) (by omega) (by decide)) rfl (hF31.get (by decide) h4_19) rfl rfl rfl rfl rfl rfl rfl) (Nat.lt_succ_of_le ((hb22) _)) (fun z230 hz231 he232 => ?_)
            have hT233 : bS (rwv w 5) (rwv w 50) pl = z230 := by
              show rwv w 5 (4 * rwv w 50 pl + 1) = z230
              rw [hu228, rwv_of (j := 4 * u225 + 1) h5_21 (by omega), show 4 * u225 + 1 = u225 * 4 + 1 by omega]
              exact he232
            have hl234 : z230 ≤ 99 := by have q := (hb pl (by omega)).2.2; omega
            refine xg_t (xg_i2l (u := z230) xnm0) ?_
            refine xg_t (xg_lre (b := z230) (by rw [xlp_eq]; exact nI_l (by omega))) ?_
            refine xg_t (xg_lmul (u := z220) (v := z230)) ?_
            refine xg_t (xg_lre (b := z220 * z230) (by rw [xlp_eq]; exact lN_mul _ _)) ?_
            refine xg_t (xg_lstore (l1 := [(5, (0, z220)), (0, (2, 49)), (1, (0, f4_17)), (2, (0, he)), (3, (0, sa)), (4, (0, pl))]) rfl rfl) ?_
            refine xg_t (xg_aload (va := (2, 49)) rfl rfl) ?_
            refine xg_t (xg_getf (va := (2, 53)) (hF31.get (by decide) h49_5) rfl) ?_
            refine xg_t (xg_iload (va := (0, sa)) rfl rfl) ?_
            refine xg_t (xg_dup2 rfl) ?_
            obtain ⟨l235, hz236⟩ : ∃ z, g53_48 sa = z := ⟨_, rfl⟩
            refine xg_t (xg_lald (n := sa) h53_49 xnm0 (by omega) hz236) ?_
            refine xg_t (xg_lload (u := z220 * z230) rfl) ?_
            refine xg_t (xg_const) ?_
            refine xg_t (xg_iload (va := (0, he)) rfl rfl) ?_
            refine xg_t (xg_imul (u := 2) (v := he) (z := 2 * he) xnm0 xnm0 (by omega)) ?_
            refine xg_t (xg_iload (va := (0, z220)) rfl rfl) ?_
            refine xg_t (xg_iadd (u := 2 * he) (v := z220) (z := (2 * he) + z220) xnm0 xnm0 (by omega)) ?_
            refine xg_t (xg_i2l (u := (2 * he) + z220) xnm0) ?_
            refine xg_t (xg_lre (b := (2 * he) + z220) (by rw [xlp_eq]; exact nI_l (by omega))) ?_
            refine xg_t (xg_lmul (u := z220 * z230) (v := (2 * he) + z220)) ?_
            refine xg_t (xg_lre (b := (z220 * z230) * ((2 * he) + z220)) (by rw [xlp_eq]; exact lN_mul _ _)) ?_
            refine xg_t (xg_ladd (u := l235) (v := (z220 * z230) * ((2 * he) + z220))) ?_
            refine xg_t (xg_lre (b := l235 + ((z220 * z230) * ((2 * he) + z220))) (by rw [xlp_eq]; exact lN_add _ _)) ?_
            refine xg_last (n := sa) (u := l235 + ((z220 * z230) * ((2 * he) + z220))) h53_49 xnm0 (by omega) (fun w237 hr238 hb239 => ?_)
            obtain ⟨g240, hg241⟩ : ∃ g : Nat → Nat, g = (fun j => if j = sa then l235 + ((z220 * z230) * ((2 * he) + z220)) else g53_48 j) := ⟨_, rfl⟩
            rw [← hg241] at hr238
            have he242 : g240 sa = l235 + ((z220 * z230) * ((2 * he) + z220)) := by rw [hg241]; exact if_pos rfl
            have hk243 : ∀ j, j ≠ sa → g240 j = g53_48 j := fun j hj => by rw [hg241]; exact if_neg hj
            refine xg_t (xg_aload (va := (2, 49)) rfl rfl) ?_
            refine xg_t (xg_getf (va := (2, 54)) (hb239.get (by decide) (hF31.get (by decide) h49_5)) rfl) ?_
            refine xg_t (xg_iload (va := (0, sa)) rfl rfl) ?_
            refine xg_t (xg_dup2 rfl) ?_
            obtain ⟨l244, hz245⟩ : ∃ z, g54_51 sa = z := ⟨_, rfl⟩
            refine xg_t (xg_lald (n := sa) (h54_52.but hb239 (by decide)) xnm0 (by omega) hz245) ?_
            refine xg_t (xg_ldc2) ?_
            refine xg_t (xg_lload (u := z220 * z230) rfl) ?_
            refine xg_t (xg_lmul (u := 2) (v := z220 * z230)) ?_
            refine xg_t (xg_lre (b := 2 * (z220 * z230)) (by rw [xlp_eq]; exact lN_mul _ _)) ?_
            refine xg_t (xg_ladd (u := l244) (v := 2 * (z220 * z230))) ?_
            refine xg_t (xg_lre (b := l244 + (2 * (z220 * z230))) (by rw [xlp_eq]; exact lN_add _ _)) ?_
            refine xg_last (n := sa) (u := l244 + (2 * (z220 * z230))) (h54_52.but hb239 (by decide)) xnm0 (by omega) (fun w246 hr247 hb248 => ?_)
            obtain ⟨g249, hg250⟩ : ∃ g : Nat → Nat, g = (fun j => if j = sa then l244 + (2 * (z220 * z230)) else g54_51 j) := ⟨_, rfl⟩
            rw [← hg250] at hr247
            have he251 : g249 sa = l244 + (2 * (z220 * z230)) := by rw [hg250]; exact if_pos rfl
            have hk252 : ∀ j, j ≠ sa → g249 j = g54_51 j := fun j hj => by rw [hg250]; exact if_neg hj
            refine xg_t (xg_aload (va := (2, 49)) rfl rfl) ?_
            refine xg_t (xg_getf (va := (2, 52)) (hb248.get (by decide) (hb239.get (by decide) (hF31.get (by decide) h49_5))) rfl) ?_
            refine xg_t (xg_iload (va := (0, pl)) rfl rfl) ?_
            refine xg_t (xg_iload (va := (0, sa)) rfl rfl) ?_
            refine xg_iastK (n := pl) (u := sa) ((h52_46.but hb239 (by decide)).but hb248 (by decide)) xnm0 xnm0 rfl (by omega) (fun w253 hr254 hb255 => ?_)
            obtain ⟨g256, hg257⟩ : ∃ g : Nat → Nat, g = (fun j => if j = pl then sa else g52_45 j) := ⟨_, rfl⟩
            rw [← hg257] at hr254
            have he258 : g256 pl = sa := by rw [hg257]; exact if_pos rfl
            have hk259 : ∀ j, j ≠ pl → g256 j = g52_45 j := fun j hj => by rw [hg257]; exact if_neg hj
            have hb260 : ∀ j, g256 j ≤ 5 := fun j => by rw [hg257]; exact xrb (by omega) (hb47) j
            refine xg_t (xg_aload (va := (2, 49)) rfl rfl) ?_
            refine xg_t (xg_getf (va := (2, 51)) (hb255.get (by decide) (hb248.get (by decide) (hb239.get (by decide) (hF31.get (by decide) h49_5)))) rfl) ?_
            refine xg_t (xg_iload (va := (0, pl)) rfl rfl) ?_
            refine xg_t (xg_iload (va := (0, he)) rfl rfl) ?_
            refine xg_iastK (n := pl) (u := he) (((h51_43.but hb239 (by decide)).but hb248 (by decide)).but hb255 (by decide)) xnm0 xnm0 rfl (by omega) (fun w261 hr262 hb263 => ?_)
            obtain ⟨g264, hg265⟩ : ∃ g : Nat → Nat, g = (fun j => if j = pl then he else g51_42 j) := ⟨_, rfl⟩
            rw [← hg265] at hr262
            have he266 : g264 pl = he := by rw [hg265]; exact if_pos rfl
            have hk267 : ∀ j, j ≠ pl → g264 j = g51_42 j := fun j hj => by rw [hg265]; exact if_neg hj
            have hb268 : ∀ j, g264 j ≤ 4294967295 := fun j => by rw [hg265]; exact xrb (by omega) (hb44) j
            refine xg_t (xg_iload (va := (0, he)) rfl rfl) ?_
            refine xg_t (xg_iload (va := (0, z220)) rfl rfl) ?_
            refine xg_t (xg_iadd (u := he) (v := z220) (z := he + z220) xnm0 xnm0 (by omega)) ?_
            refine xg_t (xg_istore (l1 := [(6, (4, z220 * z230)), (5, (0, z220)), (0, (2, 49)), (1, (0, f4_17)), (3, (0, sa)), (4, (0, pl))]) rfl rfl rfl) ?_
            refine xg_t (xg_iinc (u := pl) (z := pl + 1) (l1 := [(2, (0, he + z220)), (6, (4, z220 * z230)), (5, (0, z220)), (0, (2, 49)), (1, (0, f4_17)), (3, (0, sa))]) rfl rfl (by omega) rfl) ?_
            refine xg_t (xg_goto) ?_
            refine xg_t (xg_drop (l1 := [(0, (2, 49)), (1, (0, f4_17)), (2, (0, he + z220)), (3, (0, sa)), (4, (0, pl + 1))]) (List.forall_mem_cons.mpr ⟨List.mem_cons_of_mem _ (List.mem_cons_of_mem _ (List.mem_cons_of_mem _ (List.mem_cons_of_mem _ (List.mem_cons_self)))), List.forall_mem_cons.mpr ⟨List.mem_cons_of_mem _ (List.mem_cons_of_mem _ (List.mem_cons_of_mem _ (List.mem_cons_of_mem _ (List.mem_cons_of_mem _ (List.mem_cons_self))))), List.forall_mem_cons.mpr ⟨List.mem_cons_of_mem _ (List.mem_cons_self), List.forall_mem_cons.mpr ⟨List.mem_cons_of_mem _ (List.mem_cons_of_mem _ (List.mem_cons_of_mem _ (List.mem_cons_of_mem _ (List.mem_cons_of_mem _ (List.mem_cons_of_mem _ (List.mem_cons_self)))))), List.forall_mem_cons.mpr ⟨List.mem_cons_self, fun _ h => absurd h List.not_mem_nil⟩⟩⟩⟩⟩)) ?_
            have ht269 : (z220 * z230) * ((2 * he) + z220) = bt1 (rwv w 5) (rwv w 50) pl := by
              unfold bt1
              rw [hT223, hT233, ← hh38]
            have ht270 : 2 * (z220 * z230) = bt2 (rwv w 5) (rwv w 50) pl := by
              unfold bt2
              rw [hT223, hT233]
            have hsa271 : sa = bfs (rwv w 5) (pl - 1) := hs40 (by omega)
            have hz272 : l235 = bA (rwv w 5) (bt1 (rwv w 5) (rwv w 50)) pl (bfs (rwv w 5) (pl - 1)) := by
              have q := (hq37 (pl - 1) (by omega)).2.2.1
              rw [← hsa271] at q ⊢
              exact hz236.symm.trans ((rwk_of h53_49 (by omega)).symm.trans q)
            have hz273 : l244 = bA (rwv w 5) (bt2 (rwv w 5) (rwv w 50)) pl (bfs (rwv w 5) (pl - 1)) := by
              have q := (hq37 (pl - 1) (by omega)).2.2.2
              rw [← hsa271] at q ⊢
              exact hz245.symm.trans ((rwk_of h54_52 (by omega)).symm.trans q)
            have hbs275 := bs_n (r := (rwv w 5)) (f := (bt1 (rwv w 5) (rwv w 50))) (p := pl) (z := l235) (t := (z220 * z230) * ((2 * he) + z220)) (by omega) (by rw [hT136]; omega) hz272 ht269
            have hbs276 := bs_n (r := (rwv w 5)) (f := (bt2 (rwv w 5) (rwv w 50))) (p := pl) (z := l244) (t := 2 * (z220 * z230)) (by omega) (by rw [hT136]; omega) hz273 ht270
            have hfs274 : bfs (rwv w 5) pl = sa := hbs275.2.trans hsa271.symm
            have hst277 := bd_step (r := (rwv w 5)) (o := (rwv w 50)) (p := pl) (F := rwv w29 52) (H := rwv w29 51) (O := rwk w29 53) (U := rwk w29 54) (F' := rwv w261 52) (H' := rwv w261 51) (O' := rwk w261 53) (U' := rwk w261 54) hq37 ((rwv_of (hr254.but hb263 (by decide)) (by omega)).trans (he258.trans hfs274.symm)) (fun q hq => by rw [rwv_of (j := q) (hr254.but hb263 (by decide)) (by omega), hk259 q (by omega), ← rwv_of (j := q) h52_46 (by omega)]) ((rwv_of hr262 (by omega)).trans (he266.trans hh38)) (fun q hq => by rw [rwv_of (j := q) hr262 (by omega), hk267 q (by omega), ← rwv_of (j := q) h51_43 (by omega)]) (by rw [hfs274]; exact (rwk_of (((hr238.but hb248 (by decide)).but hb255 (by decide)).but hb263 (by decide)) (by omega)).trans (he242.trans hbs275.1)) (fun s hs hn => by rw [hfs274] at hn; rw [rwk_of (j := s) (((hr238.but hb248 (by decide)).but hb255 (by decide)).but hb263 (by decide)) (by omega), hk243 s hn, ← rwk_of (j := s) h53_49 (by omega)]) (by rw [hfs274]; exact (rwk_of ((hr247.but hb255 (by decide)).but hb263 (by decide)) (by omega)).trans (he251.trans hbs276.1)) (fun s hs hn => by rw [hfs274] at hn; rw [rwk_of (j := s) ((hr247.but hb255 (by decide)).but hb263 (by decide)) (by omega), hk252 s hn, ← rwk_of (j := s) h54_52 (by omega)])
            have hp278 : bhg (rwv w 5) (rwv w 50) (pl + 1) = bhg (rwv w 5) (rwv w 50) pl + bT (rwv w 5) (rwv w 50) pl := rfl
            exact ih27 (he + z220) sa (pl + 1) w261 (by omega) (by omega) (by omega) (by omega) (xInv.up (S := [53, 54, 52, 51]) hI30 ((((xFr.of (S := [53, 54, 52, 51]) hb239 (by decide)).tr (xFr.of (S := [53, 54, 52, 51]) hb248 (by decide))).tr (xFr.of (S := [53, 54, 52, 51]) hb255 (by decide))).tr (xFr.of (S := [53, 54, 52, 51]) hb263 (by decide))) (List.forall_mem_cons.mpr ⟨(show cpJ 6 26 (wget w261 53) from ⟨_, (((hr238.but hb248 (by decide)).but hb255 (by decide)).but hb263 (by decide))⟩), List.forall_mem_cons.mpr ⟨(show cpJ 6 27 (wget w261 54) from ⟨_, ((hr247.but hb255 (by decide)).but hb263 (by decide))⟩), List.forall_mem_cons.mpr ⟨(show cpI 6 25 5 (wget w261 52) from ⟨_, (hr254.but hb263 (by decide)), hb260⟩), List.forall_mem_cons.mpr ⟨(show cpI 6 24 4294967295 (wget w261 51) from ⟨_, hr262, hb268⟩), fun _ h => absurd h List.not_mem_nil⟩⟩⟩⟩)) ((hF31.tr ((((xFr.of (S := [51, 52, 53, 54, 55]) hb239 (by decide)).tr (xFr.of (S := [51, 52, 53, 54, 55]) hb248 (by decide))).tr (xFr.of (S := [51, 52, 53, 54, 55]) hb255 (by decide))).tr (xFr.of (S := [51, 52, 53, 54, 55]) hb263 (by decide))))) (⟨hst277, ⟨by omega, by omega⟩, fun _ => hfs274.symm, by omega⟩)
      · refine xg_t (xg_icT (u := pl) (v := f4_17) rfl xnm0 xnm0 (xj_geT (by omega) (by omega))) ?_
        refine xg_t (xg_blk (b := [(171, 1, 3, 0, 0, 0), (172, 2, 15, 4, 0, 0)]) rfl) ?_
        refine xg_t (xg_const) ?_
        refine xg_t (xg_istore (l1 := [(0, (2, 49)), (1, (0, f4_17)), (2, (0, he)), (3, (0, sa))]) rfl rfl rfl) ?_
        refine xg_t (xg_drop (l1 := [(0, (2, 49)), (1, (0, f4_17)), (2, (0, he)), (3, (0, sa)), (4, (0, 0))]) (List.forall_mem_cons.mpr ⟨List.mem_cons_of_mem _ (List.mem_cons_self), List.forall_mem_cons.mpr ⟨List.mem_cons_of_mem _ (List.mem_cons_of_mem _ (List.mem_cons_self)), List.forall_mem_cons.mpr ⟨List.mem_cons_of_mem _ (List.mem_cons_of_mem _ (List.mem_cons_of_mem _ (List.mem_cons_self))), List.forall_mem_cons.mpr ⟨List.mem_cons_of_mem _ (List.mem_cons_of_mem _ (List.mem_cons_of_mem _ (List.mem_cons_of_mem _ (List.mem_cons_self)))), List.forall_mem_cons.mpr ⟨List.mem_cons_self, fun _ h => absurd h List.not_mem_nil⟩⟩⟩⟩⟩)) ?_
        have hpn285 : pl = f4_17 := by omega
        have hq286 := hq37
        rw [hpn285] at hq286
        have key279 : ∀ (m281 : Nat) (pm : Nat) (w282 : List (List xE)), 6 - pm < m281 → pm ≤ 6 → xInv w282 → xFr [51, 52, 53, 54, 55] w w282 → (∀ q, q < f4_17 → rwv w282 52 q = bfs (rwv w 5) q ∧ rwv w282 51 q = bhg (rwv w 5) (rwv w 50) q ∧ rwk w282 53 (bfs (rwv w 5) q) = bA (rwv w 5) (bt1 (rwv w 5) (rwv w 50)) f4_17 (bfs (rwv w 5) q) ∧ rwk w282 54 (bfs (rwv w 5) q) = bA (rwv w 5) (bt2 (rwv w 5) (rwv w 50)) f4_17 (bfs (rwv w 5) q)) ∧ (∀ q, q < pm → lN (rwk w282 55 q) = bfr (rwv w 5) (rwv w 50) f4_17 q) ∧ pm ≤ f4_17 → xTo (d + 2) mX0_lay (174, [], [(0, (2, 49)), (1, (0, f4_17)), (2, (0, he)), (3, (0, sa)), (4, (0, pm))], [], (w282, bd, fc, 0, 0, rr)) (fun φ => ∃ w', xEnd 0 [] (w', bd, fc, 0, 0, rr) φ ∧ xInv w' ∧ xFr [51, 52, 53, 54, 55] w w' ∧ (∀ q, q < fld w 4 3 → rwv w' 52 q = bfs (rwv w 5) q ∧ rwv w' 51 q = bhg (rwv w 5) (rwv w 50) q ∧ rwk w' 53 (bfs (rwv w 5) q) = bO (rwv w 5) (rwv w 50) (fld w 4 3) q ∧ rwk w' 54 (bfs (rwv w 5) q) = bU (rwv w 5) (rwv w 50) (fld w 4 3) q ∧ lN (rwk w' 55 q) = bfr (rwv w 5) (rwv w 50) (fld w 4 3) q)) := by
          intro m281
          induction m281 with
          | zero => intro pm w282 hz; exact absurd hz (Nat.not_lt_zero _)
          | succ m281 ih280 =>
            intro pm w282 hm289 hn287 hI283 hF284 he288
            obtain ⟨hq290, hf291, hn292⟩ := he288
            obtain ⟨g51_293, h51_294, hb295⟩ := (hI283 51 (by decide) : cpI 6 24 4294967295 (wget w282 51))
            have h51_294 : xRow w282 51 6 24 g51_293 := h51_294
            obtain ⟨g52_296, h52_297, hb298⟩ := (hI283 52 (by decide) : cpI 6 25 5 (wget w282 52))
            have h52_297 : xRow w282 52 6 25 g52_296 := h52_297
            obtain ⟨g53_299, h53_300⟩ := (hI283 53 (by decide) : cpJ 6 26 (wget w282 53))
            have h53_300 : xRk 3 4 w282 53 6 26 g53_299 := h53_300
            obtain ⟨g54_302, h54_303⟩ := (hI283 54 (by decide) : cpJ 6 27 (wget w282 54))
            have h54_303 : xRk 3 4 w282 54 6 27 g54_302 := h54_303
            obtain ⟨g55_305, h55_306⟩ := (hI283 55 (by decide) : cpJ 6 28 (wget w282 55))
            have h55_306 : xRk 3 4 w282 55 6 28 g55_305 := h55_306
            refine xg_t (xg_blk (b := [(174, 2, 2, 4, 0, 0), (176, 1, 2, 1, 0, 0), (177, 3, 6, 287, 3, 0), (180, 1, 0, 0, 0, 0), (181, 3, 1, 0, 2, 17), (184, 2, 2, 4, 0, 0), (186, 1, 10, 0, 0, 0), (187, 1, 49, 0, 0, 0), (188, 1, 0, 0, 0, 0), (189, 3, 1, 0, 5, 27), (192, 1, 0, 0, 0, 0), (193, 3, 1, 0, 3, 20), (196, 2, 2, 4, 0, 0), (198, 1, 10, 0, 0, 0), (199, 1, 64, 0, 0, 0), (200, 1, 55, 0, 0, 0), (201, 1, 0, 0, 0, 0), (202, 3, 1, 0, 4, 23), (205, 1, 0, 0, 0, 0), (206, 3, 1, 0, 3, 20), (209, 2, 2, 4, 0, 0), (211, 1, 10, 0, 0, 0), (212, 1, 64, 0, 0, 0), (213, 1, 66, 0, 0, 0), (214, 2, 54, 5, 0, 0), (216, 2, 53, 5, 0, 0), (218, 1, 0, 0, 0, 0), (219, 3, 1, 0, 0, 39), (222, 3, 1, 1, 0, 50), (225, 1, 0, 0, 0, 0), (226, 3, 1, 0, 1, 11), (229, 2, 2, 4, 0, 0), (231, 1, 10, 0, 0, 0), (232, 1, 3, 0, 0, 0), (233, 3, 13, 285, 40, 60), (236, 1, 49, 0, 0, 0), (237, 1, 0, 0, 0, 0), (238, 3, 1, 0, 5, 27), (241, 1, 0, 0, 0, 0), (242, 3, 1, 0, 3, 20), (245, 2, 2, 4, 0, 0), (247, 1, 10, 0, 0, 0), (248, 1, 64, 0, 0, 0), (249, 1, 55, 0, 0, 0), (250, 1, 56, 0, 0, 0), (251, 2, 54, 7, 0, 0), (253, 1, 0, 0, 0, 0), (254, 3, 1, 0, 6, 30), (257, 2, 2, 4, 0, 0), (259, 2, 53, 7, 0, 0), (261, 3, 75, 0, 0, 66), (264, 2, 53, 5, 0, 0), (266, 3, 75, 0, 0, 66), (269, 1, 57, 0, 0, 0), (270, 3, 7, 278, 2, 0), (273, 2, 53, 7, 0, 0), (275, 3, 8, 280, 0, 0)]) rfl) ?_
            refine xg_t (xg_iload (va := (0, pm)) rfl rfl) ?_
            refine xg_t (xg_iload (va := (0, f4_17)) rfl rfl) ?_
            by_cases hc308 : pm < f4_17
            · refine xg_t (xg_icF (u := pm) (v := f4_17) rfl xnm0 xnm0 (xj_geF hc308 (by omega))) ?_
              refine xg_t (xg_aload (va := (2, 49)) rfl rfl) ?_
              refine xg_t (xg_getf (va := (2, 51)) (hF284.get (by decide) h49_5) rfl) ?_
              refine xg_t (xg_iload (va := (0, pm)) rfl rfl) ?_
              refine xg_ialdB (n := pm) (B := 4294967295) h51_294 (hb295) xnm0 (by omega) (fun u309 hu310 he311 => ?_)
              have hB312 : bhg (rwv w 5) (rwv w 50) pm = u309 := (hq290 pm (by omega)).2.1.symm.trans ((rwv_of h51_294 (by omega)).trans he311)
              have hl313 : u309 ≤ 594 := by have q := bhg_le (r := (rwv w 5)) (o := (rwv w 50)) (p := pm) (fun q h => (hb q (by omega)).2.1); omega
              refine xg_t (xg_i2l (u := u309) xnm0) ?_
              refine xg_t (xg_lre (b := u309) (by rw [xlp_eq]; exact nI_l (by omega))) ?_
              refine xg_t (xg_aload (va := (2, 49)) rfl rfl) ?_
              refine xg_t (xg_getf (va := (2, 54)) (hF284.get (by decide) h49_5) rfl) ?_
              refine xg_t (xg_aload (va := (2, 49)) rfl rfl) ?_
              refine xg_t (xg_getf (va := (2, 52)) (hF284.get (by decide) h49_5) rfl) ?_
              refine xg_t (xg_iload (va := (0, pm)) rfl rfl) ?_
              refine xg_ialdB (n := pm) (B := 5) h52_297 (hb298) xnm0 (by omega) (fun u314 hu315 he316 => ?_)
              have hf317 : bfs (rwv w 5) pm = u314 := (hq290 pm (by omega)).1.symm.trans ((rwv_of h52_297 (by omega)).trans he316)
              obtain ⟨l318, hz319⟩ : ∃ z, g54_302 u314 = z := ⟨_, rfl⟩
              refine xg_t (xg_lald (n := u314) h54_303 xnm0 (by omega) hz319) ?_
              have hU320 : bU (rwv w 5) (rwv w 50) f4_17 pm = l318 := by
                have q := (hq290 pm (by omega)).2.2.2
                rw [hf317, rwk_of (j := u314) h54_303 (by omega), hz319] at q
                unfold bU
                rw [hf317]
                exact q.symm
              refine xg_t (xg_lmul (u := u309) (v := l318)) ?_
              refine xg_t (xg_lre (b := u309 * l318) (by rw [xlp_eq]; exact lN_mul _ _)) ?_
              refine xg_t (xg_aload (va := (2, 49)) rfl rfl) ?_
              refine xg_t (xg_getf (va := (2, 53)) (hF284.get (by decide) h49_5) rfl) ?_
              refine xg_t (xg_aload (va := (2, 49)) rfl rfl) ?_
              refine xg_t (xg_getf (va := (2, 52)) (hF284.get (by decide) h49_5) rfl) ?_
              refine xg_t (xg_iload (va := (0, pm)) rfl rfl) ?_
              refine xg_ialdB (n := pm) (B := 5) h52_297 (hb298) xnm0 (by omega) (fun u321 hu322 he323 => ?_)
              have hf324 : bfs (rwv w 5) pm = u321 := (hq290 pm (by omega)).1.symm.trans ((rwv_of h52_297 (by omega)).trans he323)
              obtain ⟨l325, hz326⟩ : ∃ z, g53_299 u321 = z := ⟨_, rfl⟩
              refine xg_t (xg_lald (n := u321) h53_300 xnm0 (by omega) hz326) ?_
              have hU327 : bO (rwv w 5) (rwv w 50) f4_17 pm = l325 := by
                have q := (hq290 pm (by omega)).2.2.1
                rw [hf324, rwk_of (j := u321) h53_300 (by omega), hz326] at q
                unfold bO
                rw [hf324]
                exact q.symm
              refine xg_klE (xg_lsub (u := u309 * l318) (v := l325)) (fun l328 hz329 => ?_)
              refine xg_t (xg_lstore (l1 := [(0, (2, 49)), (1, (0, f4_17)), (2, (0, he)), (3, (0, sa)), (4, (0, pm))]) rfl rfl) ?_
              refine xg_t (xg_lload (u := l328) rfl) ?_
              refine xg_t (xg_aload (va := (2, 49)) rfl rfl) ?_
              refine xg_t (xg_getf (va := (2, 3)) (hF284.get (by decide) h49_5) rfl) ?_
              refine xg_t (xg_getf (va := (2, 4)) (hF284.get (by decide) h3_16) rfl) ?_
              refine xg_t (xg_aload (va := (2, 49)) rfl rfl) ?_
              refine xg_t (xg_getf (va := (2, 50)) (hF284.get (by decide) h49_5) rfl) ?_
              refine xg_t (xg_iload (va := (0, pm)) rfl rfl) ?_
              refine xg_ialdB (n := pm) (B := 4294967295) (h50_24.fr hF284 (by decide)) (hb25) xnm0 (by omega) (fun u330 hu331 he332 => ?_)
              have hu333 : rwv w 50 pm = u330 := (rwv_of h50_24 (by omega)).trans he332
              have hl334 : u330 < f4_17 := by have q := (hb pm (by omega)).1; omega
              refine xg_t (xg_const) ?_
              refine xg_kE (xg_cVr mX5_get (vs := [(0, u330), (0, 0)]) (rest := [(4, l328)]) (rs := [(0, g5_20 (u330 * 4 + 0)), (4, l328)]) (cn1 := 0) (sl1 := 0) rfl (rgetX (lim := 6) (wd := 4) (sz := f4_17) (hF284.get (by decide) h4_19) (h5_21.fr hF284 (by decide)) (by decide) (by omega) (by decide) (by decide) (by omega) (by decide)) rfl (hF284.get (by decide) h4_19) rfl rfl rfl rfl rfl rfl rfl) (Nat.lt_succ_of_le ((hb22) _)) (fun z335 hz336 he337 => ?_)
              have hT338 : bT (rwv w 5) (rwv w 50) pm = z335 := by
                show rwv w 5 (4 * rwv w 50 pm) = z335
                rw [hu333, rwv_of (j := 4 * u330) h5_21 (by omega), show 4 * u330 = u330 * 4 + 0 by omega]
                exact he337
              have hl339 : z335 ≤ 99 := by have q := (hb pm (by omega)).2.1; omega
              refine xg_t (xg_i2l (u := z335) xnm0) ?_
              refine xg_t (xg_lre (b := z335) (by rw [xlp_eq]; exact nI_l (by omega))) ?_
              refine xg_t (xg_aload (va := (2, 49)) rfl rfl) ?_
              refine xg_t (xg_getf (va := (2, 54)) (hF284.get (by decide) h49_5) rfl) ?_
              refine xg_t (xg_aload (va := (2, 49)) rfl rfl) ?_
              refine xg_t (xg_getf (va := (2, 52)) (hF284.get (by decide) h49_5) rfl) ?_
              refine xg_t (xg_iload (va := (0, pm)) rfl rfl) ?_
              refine xg_ialdB (n := pm) (B := 5) h52_297 (hb298) xnm0 (by omega) (fun u340 hu341 he342 => ?_)
              have hf343 : bfs (rwv w 5) pm = u340 := (hq290 pm (by omega)).1.symm.trans ((rwv_of h52_297 (by omega)).trans he342)
              obtain ⟨l344, hz345⟩ : ∃ z, g54_302 u340 = z := ⟨_, rfl⟩
              refine xg_t (xg_lald (n := u340) h54_303 xnm0 (by omega) hz345) ?_
              have hU346 : bU (rwv w 5) (rwv w 50) f4_17 pm = l344 := by
                have q := (hq290 pm (by omega)).2.2.2
                rw [hf343, rwk_of (j := u340) h54_303 (by omega), hz345] at q
                unfold bU
                rw [hf343]
                exact q.symm
              refine xg_t (xg_lmul (u := z335) (v := l344)) ?_
              refine xg_t (xg_lre (b := z335 * l344) (by rw [xlp_eq]; exact lN_mul _ _)) ?_
              refine xg_klE (xg_ladd (u := l328) (v := z335 * l344)) (fun l347 hz348 => ?_)
              refine xg_t (xg_lstore (l1 := [(5, (4, l328)), (0, (2, 49)), (1, (0, f4_17)), (2, (0, he)), (3, (0, sa)), (4, (0, pm))]) rfl rfl) ?_
              refine xg_t (xg_aload (va := (2, 49)) rfl rfl) ?_
              refine xg_t (xg_getf (va := (2, 55)) (hF284.get (by decide) h49_5) rfl) ?_
              refine xg_t (xg_iload (va := (0, pm)) rfl rfl) ?_
              refine xg_t (xg_lload (u := l347) rfl) ?_
              refine xg_klE (xg_labs (u := l347) (Nat.zero_le _) (Nat.zero_le _) (Nat.le_of_ble_eq_true rfl)) (fun l349 hz350 => ?_)
              refine xg_t (xg_lload (u := l328) rfl) ?_
              refine xg_klE (xg_labs (u := l328) (Nat.zero_le _) (Nat.zero_le _) (Nat.le_of_ble_eq_true rfl)) (fun l351 hz352 => ?_)
              refine xg_t (xg_lcmp (u := l349) (v := l351)) ?_
              by_cases hc353 : lN l349 < lN l351
              · refine xg_t (xg_ifT (u := xpt (lg_cmp (lN l349) (lN l351))) rfl xnm0 (xlj_ltT hc353)) ?_
                refine xg_t (xg_blk (b := [(278, 2, 53, 5, 0, 0)]) rfl) ?_
                refine xg_t (xg_lload (u := l328) rfl) ?_
                refine xg_t (xg_blk (b := [(280, 1, 65, 0, 0, 0), (281, 3, 9, 4, 1, 0), (284, 3, 8, 174, 0, 0)]) rfl) ?_
                refine xg_last (n := pm) (u := l328) h55_306 xnm0 (by omega) (fun w354 hr355 hb356 => ?_)
                obtain ⟨g357, hg358⟩ : ∃ g : Nat → Nat, g = (fun j => if j = pm then l328 else g55_305 j) := ⟨_, rfl⟩
                rw [← hg358] at hr355
                have he359 : g357 pm = l328 := by rw [hg358]; exact if_pos rfl
                have hk360 : ∀ j, j ≠ pm → g357 j = g55_305 j := fun j hj => by rw [hg358]; exact if_neg hj
                refine xg_t (xg_iinc (u := pm) (z := pm + 1) (l1 := [(7, (4, l347)), (5, (4, l328)), (0, (2, 49)), (1, (0, f4_17)), (2, (0, he)), (3, (0, sa))]) rfl rfl (by omega) rfl) ?_
                refine xg_t (xg_goto) ?_
                refine xg_t (xg_drop (l1 := [(0, (2, 49)), (1, (0, f4_17)), (2, (0, he)), (3, (0, sa)), (4, (0, pm + 1))]) (List.forall_mem_cons.mpr ⟨List.mem_cons_of_mem _ (List.mem_cons_of_mem _ (List.mem_cons_of_mem _ (List.mem_cons_self))), List.forall_mem_cons.mpr ⟨List.mem_cons_of_mem _ (List.mem_cons_of_mem _ (List.mem_cons_of_mem _ (List.mem_cons_of_mem _ (List.mem_cons_self)))), List.forall_mem_cons.mpr ⟨List.mem_cons_of_mem _ (List.mem_cons_of_mem _ (List.mem_cons_of_mem _ (List.mem_cons_of_mem _ (List.mem_cons_of_mem _ (List.mem_cons_self))))), List.forall_mem_cons.mpr ⟨List.mem_cons_of_mem _ (List.mem_cons_of_mem _ (List.mem_cons_of_mem _ (List.mem_cons_of_mem _ (List.mem_cons_of_mem _ (List.mem_cons_of_mem _ (List.mem_cons_self)))))), List.forall_mem_cons.mpr ⟨List.mem_cons_self, fun _ h => absurd h List.not_mem_nil⟩⟩⟩⟩⟩)) ?_
                have hx361 : lN l328 = blo (rwv w 5) (rwv w 50) f4_17 pm := by
                  unfold blo
                  rw [hB312, hU320, hU327]
                  exact hz329
                have hx362 : lN l347 = bhi (rwv w 5) (rwv w 50) f4_17 pm := by
                  unfold bhi
                  rw [← hx361, hT338, hU346]
                  exact hz348
                have hx363 : lN l328 = bfr (rwv w 5) (rwv w 50) f4_17 pm := by
                  unfold bfr
                  rw [← hx362, ← hx361]
                  have q1 : lN l349 = iab (lN l347) := hz350
                  have q2 : lN l351 = iab (lN l328) := hz352
                  rw [← q1, ← q2, if_pos hc353]
                have hk364 : ∀ q, q < f4_17 → rwv w354 52 q = bfs (rwv w 5) q ∧ rwv w354 51 q = bhg (rwv w 5) (rwv w 50) q ∧ rwk w354 53 (bfs (rwv w 5) q) = bA (rwv w 5) (bt1 (rwv w 5) (rwv w 50)) f4_17 (bfs (rwv w 5) q) ∧ rwk w354 54 (bfs (rwv w 5) q) = bA (rwv w 5) (bt2 (rwv w 5) (rwv w 50)) f4_17 (bfs (rwv w 5) q) := fun q hq => by
                  rw [rwv_eq (hb356.1 52 (by decide)), rwv_eq (hb356.1 51 (by decide)), rwk_eq (hb356.1 53 (by decide)), rwk_eq (hb356.1 54 (by decide))]
                  exact hq290 q hq
                have hm365 : ∀ q, q < pm + 1 → lN (rwk w354 55 q) = bfr (rwv w 5) (rwv w 50) f4_17 q := fun q hq => by
                  by_cases e : q = pm
                  · rw [e, rwk_of (j := pm) hr355 (by omega), he359]
                    exact hx363
                  · rw [rwk_of (j := q) hr355 (by omega), hk360 q e, ← rwk_of (j := q) h55_306 (by omega)]
                    exact hf291 q (by omega)
                exact ih280 (pm + 1) w354 (by omega) (by omega) (xInv.up (S := [55]) hI283 (xFr.of (S := [55]) hb356 (by decide)) (List.forall_mem_cons.mpr ⟨(show cpJ 6 28 (wget w354 55) from ⟨_, hr355⟩), fun _ h => absurd h List.not_mem_nil⟩)) ((hF284.tr (xFr.of (S := [51, 52, 53, 54, 55]) hb356 (by decide)))) (⟨hk364, hm365, by omega⟩)
              · refine xg_t (xg_ifF (u := xpt (lg_cmp (lN l349) (lN l351))) rfl xnm0 (xlj_ltF hc353)) ?_
                refine xg_t (xg_lload (u := l347) rfl) ?_
                refine xg_t (xg_goto) ?_
                refine xg_t (xg_blk (b := [(280, 1, 65, 0, 0, 0), (281, 3, 9, 4, 1, 0), (284, 3, 8, 174, 0, 0)]) rfl) ?_
                refine xg_last (n := pm) (u := l347) h55_306 xnm0 (by omega) (fun w366 hr367 hb368 => ?_)
                obtain ⟨g369, hg370⟩ : ∃ g : Nat → Nat, g = (fun j => if j = pm then l347 else g55_305 j) := ⟨_, rfl⟩
                rw [← hg370] at hr367
                have he371 : g369 pm = l347 := by rw [hg370]; exact if_pos rfl
                have hk372 : ∀ j, j ≠ pm → g369 j = g55_305 j := fun j hj => by rw [hg370]; exact if_neg hj
                refine xg_t (xg_iinc (u := pm) (z := pm + 1) (l1 := [(7, (4, l347)), (5, (4, l328)), (0, (2, 49)), (1, (0, f4_17)), (2, (0, he)), (3, (0, sa))]) rfl rfl (by omega) rfl) ?_
                refine xg_t (xg_goto) ?_
                refine xg_t (xg_drop (l1 := [(0, (2, 49)), (1, (0, f4_17)), (2, (0, he)), (3, (0, sa)), (4, (0, pm + 1))]) (List.forall_mem_cons.mpr ⟨List.mem_cons_of_mem _ (List.mem_cons_of_mem _ (List.mem_cons_of_mem _ (List.mem_cons_self))), List.forall_mem_cons.mpr ⟨List.mem_cons_of_mem _ (List.mem_cons_of_mem _ (List.mem_cons_of_mem _ (List.mem_cons_of_mem _ (List.mem_cons_self)))), List.forall_mem_cons.mpr ⟨List.mem_cons_of_mem _ (List.mem_cons_of_mem _ (List.mem_cons_of_mem _ (List.mem_cons_of_mem _ (List.mem_cons_of_mem _ (List.mem_cons_self))))), List.forall_mem_cons.mpr ⟨List.mem_cons_of_mem _ (List.mem_cons_of_mem _ (List.mem_cons_of_mem _ (List.mem_cons_of_mem _ (List.mem_cons_of_mem _ (List.mem_cons_of_mem _ (List.mem_cons_self)))))), List.forall_mem_cons.mpr ⟨List.mem_cons_self, fun _ h => absurd h List.not_mem_nil⟩⟩⟩⟩⟩)) ?_
                have hx373 : lN l328 = blo (rwv w 5) (rwv w 50) f4_17 pm := by
                  unfold blo
                  rw [hB312, hU320, hU327]
                  exact hz329
                have hx374 : lN l347 = bhi (rwv w 5) (rwv w 50) f4_17 pm := by
                  unfold bhi
                  rw [← hx373, hT338, hU346]
                  exact hz348
                have hx375 : lN l347 = bfr (rwv w 5) (rwv w 50) f4_17 pm := by
                  unfold bfr
                  rw [← hx374, ← hx373]
                  have q1 : lN l349 = iab (lN l347) := hz350
                  have q2 : lN l351 = iab (lN l328) := hz352
                  rw [← q1, ← q2, if_neg hc353]
                have hk376 : ∀ q, q < f4_17 → rwv w366 52 q = bfs (rwv w 5) q ∧ rwv w366 51 q = bhg (rwv w 5) (rwv w 50) q ∧ rwk w366 53 (bfs (rwv w 5) q) = bA (rwv w 5) (bt1 (rwv w 5) (rwv w 50)) f4_17 (bfs (rwv w 5) q) ∧ rwk w366 54 (bfs (rwv w 5) q) = bA (rwv w 5) (bt2 (rwv w 5) (rwv w 50)) f4_17 (bfs (rwv w 5) q) := fun q hq => by
                  rw [rwv_eq (hb368.1 52 (by decide)), rwv_eq (hb368.1 51 (by decide)), rwk_eq (hb368.1 53 (by decide)), rwk_eq (hb368.1 54 (by decide))]
                  exact hq290 q hq
                have hm377 : ∀ q, q < pm + 1 → lN (rwk w366 55 q) = bfr (rwv w 5) (rwv w 50) f4_17 q := fun q hq => by
                  by_cases e : q = pm
                  · rw [e, rwk_of (j := pm) hr367 (by omega), he371]
                    exact hx375
                  · rw [rwk_of (j := q) hr367 (by omega), hk372 q e, ← rwk_of (j := q) h55_306 (by omega)]
                    exact hf291 q (by omega)
                exact ih280 (pm + 1) w366 (by omega) (by omega) (xInv.up (S := [55]) hI283 (xFr.of (S := [55]) hb368 (by decide)) (List.forall_mem_cons.mpr ⟨(show cpJ 6 28 (wget w366 55) from ⟨_, hr367⟩), fun _ h => absurd h List.not_mem_nil⟩)) ((hF284.tr (xFr.of (S := [51, 52, 53, 54, 55]) hb368 (by decide)))) (⟨hk376, hm377, by omega⟩)
            · refine xg_t (xg_icT (u := pm) (v := f4_17) rfl xnm0 xnm0 (xj_geT (by omega) (by omega))) ?_
              refine xg_t (xg_blk (b := [(287, 1, 12, 0, 0, 0)]) rfl) ?_
              have hk378 : ∀ q, q < fld w 4 3 → rwv w282 52 q = bfs (rwv w 5) q ∧ rwv w282 51 q = bhg (rwv w 5) (rwv w 50) q ∧ rwk w282 53 (bfs (rwv w 5) q) = bO (rwv w 5) (rwv w 50) (fld w 4 3) q ∧ rwk w282 54 (bfs (rwv w 5) q) = bU (rwv w 5) (rwv w 50) (fld w 4 3) q ∧ lN (rwk w282 55 q) = bfr (rwv w 5) (rwv w 50) (fld w 4 3) q := fun q hq => by
                rw [q43] at hq ⊢
                have a := hq290 q hq
                exact ⟨a.1, a.2.1, a.2.2.1, a.2.2.2, hf291 q (by omega)⟩
              exact xg_e ⟨w282, ⟨rfl, rfl⟩, hI283, hF284, hk378⟩
        exact key279 _ 0 w29 (Nat.lt_succ_self _) (by omega) (hI30) (hF31) (⟨hq286, fun q hq => absurd hq (Nat.not_lt_zero _), Nat.zero_le _⟩)
  exact key26 _ 0 0 0 w (Nat.lt_succ_self _) (by omega) (by omega) (by omega) (hI) (xFr.rf) (⟨fun q hq => absurd hq (Nat.not_lt_zero _), ⟨rfl, by omega⟩, fun h => absurd rfl h, by omega⟩)
theorem bdToldX (hI : xInv w) (ht : ∀ k i, k < fld w 4 3 → i < 3 → 1 ≤ rwv w 5 (4 * k + i) ∧ rwv w 5 (4 * k + i) ≤ 99) : xPq (d + 3) mX0_layAsTold [(2, 49)] w bd fc rr [] (fun w' => xInv w' ∧ xFr [50, 51, 52, 53, 54, 55] w w' ∧ ((∀ q, q < fld w 4 3 → rwv w' 52 q = bfs (rwv w 5) q ∧ rwv w' 51 q = bhg (rwv w 5) (fun q => q) q ∧ rwk w' 53 (bfs (rwv w 5) q) = bO (rwv w 5) (fun q => q) (fld w 4 3) q ∧ rwk w' 54 (bfs (rwv w 5) q) = bU (rwv w 5) (fun q => q) (fld w 4 3) q ∧ lN (rwk w' 55 q) = bfr (rwv w 5) (fun q => q) (fld w 4 3) q) ∧ ∀ q, q < 6 → rwv w' 50 q = q)) := by
  refine xPq.of ?_
  show xTo (d + 3) mX0_layAsTold (0, [], [(0, (2, 49))], [], (w, bd, fc, 0, 0, rr)) (fun φ => ∃ w', xEnd 0 [] (w', bd, fc, 0, 0, rr) φ ∧ xInv w' ∧ xFr [50, 51, 52, 53, 54, 55] w w' ∧ ((∀ q, q < fld w 4 3 → rwv w' 52 q = bfs (rwv w 5) q ∧ rwv w' 51 q = bhg (rwv w 5) (fun q => q) q ∧ rwk w' 53 (bfs (rwv w 5) q) = bO (rwv w 5) (fun q => q) (fld w 4 3) q ∧ rwk w' 54 (bfs (rwv w 5) q) = bU (rwv w 5) (fun q => q) (fld w 4 3) q ∧ lN (rwk w' 55 q) = bfr (rwv w 5) (fun q => q) (fld w 4 3) q) ∧ ∀ q, q < 6 → rwv w' 50 q = q))
  obtain ⟨f49_1, f49_3, h49_5, hb2, hb4⟩ := (hI 49 (by decide) : cp49 (wget w 49))
  obtain ⟨f3_6, f3_8, f3_10, f3_12, f3_14, h3_16, hb7, hb9, hb11, hb13, hb15⟩ := (hI 3 (by decide) : cp3 (wget w 3))
  obtain ⟨f4_17, h4_19, hb18⟩ := (hI 4 (by decide) : cp4 (wget w 4))
  obtain ⟨g5_20, h5_21, hb22⟩ := (hI 5 (by decide) : cpI 24 1 4294967295 (wget w 5))
  have h5_21 : xRow w 5 24 1 g5_20 := h5_21
  have q43 : fld w 4 3 = f4_17 := fld_of h4_19
  refine xg_t (xg_blk (b := [(0, 1, 3, 0, 0, 0), (1, 1, 15, 1, 0, 0)]) rfl) ?_
  refine xg_t (xg_const) ?_
  refine xg_t (xg_istore (l1 := [(0, (2, 49))]) rfl rfl rfl) ?_
  refine xg_t (xg_drop (l1 := [(0, (2, 49)), (1, (0, 0))]) (List.forall_mem_cons.mpr ⟨List.mem_cons_of_mem _ (List.mem_cons_self), List.forall_mem_cons.mpr ⟨List.mem_cons_self, fun _ h => absurd h List.not_mem_nil⟩⟩)) ?_
  have key23 : ∀ (m25 : Nat) (pl : Nat) (w26 : List (List xE)), 6 - pl < m25 → pl ≤ 6 → xInv w26 → xFr [50, 51, 52, 53, 54, 55] w w26 → (∀ q, q < pl → rwv w26 50 q = q) → xTo (d + 3) mX0_layAsTold (2, [], [(0, (2, 49)), (1, (0, pl))], [], (w26, bd, fc, 0, 0, rr)) (fun φ => ∃ w', xEnd 0 [] (w', bd, fc, 0, 0, rr) φ ∧ xInv w' ∧ xFr [50, 51, 52, 53, 54, 55] w w' ∧ ((∀ q, q < fld w 4 3 → rwv w' 52 q = bfs (rwv w 5) q ∧ rwv w' 51 q = bhg (rwv w 5) (fun q => q) q ∧ rwk w' 53 (bfs (rwv w 5) q) = bO (rwv w 5) (fun q => q) (fld w 4 3) q ∧ rwk w' 54 (bfs (rwv w 5) q) = bU (rwv w 5) (fun q => q) (fld w 4 3) q ∧ lN (rwk w' 55 q) = bfr (rwv w 5) (fun q => q) (fld w 4 3) q) ∧ ∀ q, q < 6 → rwv w' 50 q = q)) := by
    intro m25
    induction m25 with
    | zero => intro pl w26 hz; exact absurd hz (Nat.not_lt_zero _)
    | succ m25 ih24 =>
      intro pl w26 hm31 hn29 hI27 hF28 he30
      obtain ⟨g50_32, h50_33, hb34⟩ := (hI27 50 (by decide) : cpI 6 23 4294967295 (wget w26 50))
      have h50_33 : xRow w26 50 6 23 g50_32 := h50_33
      refine xg_t (xg_blk (b := [(2, 1, 2, 1, 0, 0), (3, 1, 0, 0, 0, 0), (4, 3, 1, 0, 1, 11), (7, 1, 31, 0, 0, 0), (8, 3, 6, 24, 3, 0), (11, 1, 0, 0, 0, 0), (12, 3, 1, 0, 1, 11), (15, 1, 2, 1, 0, 0), (16, 1, 2, 1, 0, 0), (17, 1, 17, 0, 0, 0), (18, 3, 9, 1, 1, 0), (21, 3, 8, 2, 0, 0)]) rfl) ?_
      refine xg_t (xg_iload (va := (0, pl)) rfl rfl) ?_
      refine xg_t (xg_aload (va := (2, 49)) rfl rfl) ?_
      refine xg_t (xg_getf (va := (2, 50)) (hF28.get (by decide) h49_5) rfl) ?_
      obtain ⟨us35, ha36, ha37⟩ := id h50_33
      refine xg_t (xg_alen ha36) ?_
      by_cases hc38 : pl < 6
      · refine xg_t (xg_icF (u := pl) (v := 6) rfl xnm0 xnm0 (xj_geF hc38 (by omega))) ?_
        refine xg_t (xg_aload (va := (2, 49)) rfl rfl) ?_
        refine xg_t (xg_getf (va := (2, 50)) (hF28.get (by decide) h49_5) rfl) ?_
        refine xg_t (xg_iload (va := (0, pl)) rfl rfl) ?_
        refine xg_t (xg_iload (va := (0, pl)) rfl rfl) ?_
        refine xg_iastK (n := pl) (u := pl) h50_33 xnm0 xnm0 rfl (by omega) (fun w39 hr40 hb41 => ?_)
        obtain ⟨g42, hg43⟩ : ∃ g : Nat → Nat, g = (fun j => if j = pl then pl else g50_32 j) := ⟨_, rfl⟩
        rw [← hg43] at hr40
        have he44 : g42 pl = pl := by rw [hg43]; exact if_pos rfl
        have hk45 : ∀ j, j ≠ pl → g42 j = g50_32 j := fun j hj => by rw [hg43]; exact if_neg hj
        have hb46 : ∀ j, g42 j ≤ 4294967295 := fun j => by rw [hg43]; exact xrb (by omega) (hb34) j
        refine xg_t (xg_iinc (u := pl) (z := pl + 1) (l1 := [(0, (2, 49))]) rfl rfl (by omega) rfl) ?_
        refine xg_t (xg_goto) ?_
        refine xg_t (xg_drop (l1 := [(0, (2, 49)), (1, (0, pl + 1))]) (List.forall_mem_cons.mpr ⟨List.mem_cons_of_mem _ (List.mem_cons_self), List.forall_mem_cons.mpr ⟨List.mem_cons_self, fun _ h => absurd h List.not_mem_nil⟩⟩)) ?_
        have hk47 : ∀ q, q < pl + 1 → rwv w39 50 q = q := fun q hq => by
          by_cases e : q = pl
          · rw [e, rwv_of (j := pl) hr40 (by omega)]
            exact he44
          · rw [rwv_of (j := q) hr40 (by omega), hk45 q e, ← rwv_of (j := q) h50_33 (by omega)]
            exact he30 q (by omega)
        exact ih24 (pl + 1) w39 (by omega) (by omega) (xInv.up (S := [50]) hI27 (xFr.of (S := [50]) hb41 (by decide)) (List.forall_mem_cons.mpr ⟨(show cpI 6 23 4294967295 (wget w39 50) from ⟨_, hr40, hb46⟩), fun _ h => absurd h List.not_mem_nil⟩)) ((hF28.tr (xFr.of (S := [50, 51, 52, 53, 54, 55]) hb41 (by decide)))) (hk47)
      · refine xg_t (xg_icT (u := pl) (v := 6) rfl xnm0 xnm0 (xj_geT (by omega) (by omega))) ?_
        refine xg_t (xg_blk (b := [(24, 1, 0, 0, 0, 0), (25, 3, 13, 11, 0, 47), (28, 1, 12, 0, 0, 0)]) rfl) ?_
        refine xg_t (xg_aload (va := (2, 49)) rfl rfl) ?_
        have e448 : fld w26 4 3 = fld w 4 3 := fld_fr hF28 (by decide)
        have e549 : rwv w26 5 = rwv w 5 := rwf_eq (hF28.1 5 (by decide))
        have hb50 : ∀ q, q < fld w26 4 3 → rwv w26 50 q < fld w26 4 3 ∧ bT (rwv w26 5) (rwv w26 50) q ≤ 99 ∧ bS (rwv w26 5) (rwv w26 50) q ≤ 99 := fun q hq => by
          rw [e448] at hq ⊢
          have q1 := ht q 0 hq (by decide)
          have q2 := ht q 1 hq (by decide)
          unfold bT bS
          rw [e549, he30 q (by omega)]
          exact ⟨hq, q1.2, q2.2⟩
        refine xg_cVv mX0_lay (vs := []) (rest := []) (cn1 := 0) (sl1 := 0) rfl (bdLayX (hI27) hb50) rfl (hF28.get (by decide) h49_5) rfl rfl rfl rfl rfl rfl (fun w51 hq52 => ?_)
        obtain ⟨hI53, hF54, hx55⟩ := hq52
        have hk56 : ∀ q, q < fld w 4 3 → rwv w51 52 q = bfs (rwv w 5) q ∧ rwv w51 51 q = bhg (rwv w 5) (fun q => q) q ∧ rwk w51 53 (bfs (rwv w 5) q) = bO (rwv w 5) (fun q => q) (fld w 4 3) q ∧ rwk w51 54 (bfs (rwv w 5) q) = bU (rwv w 5) (fun q => q) (fld w 4 3) q ∧ lN (rwk w51 55 q) = bfr (rwv w 5) (fun q => q) (fld w 4 3) q := fun q hq => by
          have a := hx55 q (by rw [e448]; exact hq)
          rw [e448, e549] at a
          have z : bEq (rwv w 5) (fun q => q) (rwv w 5) (rwv w26 50) (fld w 4 3) := ⟨fun _ _ => rfl, fun q hq => ⟨he30 q (by omega), hq⟩⟩
          rw [bhg_cg z (by omega), (bOU_cg z hq).1, (bOU_cg z hq).2, bfr_cg z hq] at a
          exact a
        have hk57 : ∀ q, q < 6 → rwv w51 50 q = q := fun q hq => (rwv_fr hF54 (by decide)).trans (he30 q (by omega))
        exact xg_e ⟨w51, ⟨rfl, rfl⟩, hI53, (hF28.tr (hF54.up (by decide))), ⟨hk56, hk57⟩⟩
  exact key23 _ 0 w (Nat.lt_succ_self _) (by omega) (hI) (xFr.rf) (fun q hq => absurd hq (Nat.not_lt_zero _))
theorem dvDivideX {ov un : Nat} (hI : xInv w)  : xPj d mX11_divide [(4, ov), (4, un)] w bd fc rr (fun n w' => (lN n = dvl (lN ov) (lN un)) ∧ xInv w' ∧ xFr [] w w') := by
  refine xPj.of ?_
  show xTo d mX11_divide (0, [], [(0, (4, ov)), (2, (4, un))], [], (w, bd, fc, 0, 0, rr)) (fun φ => ∃ n w', xEnd 2 [(4, n)] (w', bd, fc, 0, 0, rr) φ ∧ (lN n = dvl (lN ov) (lN un)) ∧ xInv w' ∧ xFr [] w w')
  refine xg_t (xg_blk (b := [(0, 1, 53, 2, 0, 0), (1, 1, 51, 0, 0, 0), (2, 1, 57, 0, 0, 0), (3, 3, 7, 10, 1, 0), (6, 1, 51, 0, 0, 0), (7, 3, 8, 13, 0, 0)]) rfl) ?_
  refine xg_t (xg_lload (u := un) rfl) ?_
  refine xg_t (xg_lconst) ?_
  refine xg_t (xg_lcmp (u := un) (v := 0)) ?_
  by_cases hc1 : lN un = lN 0
  · refine xg_t (xg_ifF (u := xpt (lg_cmp (lN un) (lN 0))) rfl xnm0 (xlj_neF hc1)) ?_
    refine xg_t (xg_lconst) ?_
    refine xg_t (xg_goto) ?_
    refine xg_t (xg_blk (b := [(13, 1, 12, 0, 2, 0)]) rfl) ?_
    exact xg_e ⟨0, w, ⟨rfl, rfl⟩, (show lN 0 = dvl (lN ov) (lN un) from (if_pos hc1).symm), hI, xFr.rf⟩
  · refine xg_t (xg_ifT (u := xpt (lg_cmp (lN un) (lN 0))) rfl xnm0 (xlj_neT hc1)) ?_
    refine xg_t (xg_blk (b := [(10, 1, 53, 0, 0, 0), (11, 1, 53, 2, 0, 0), (12, 1, 67, 0, 0, 0)]) rfl) ?_
    refine xg_t (xg_lload (u := ov) rfl) ?_
    refine xg_t (xg_lload (u := un) rfl) ?_
    refine xg_klE (xg_ldiv (u := ov) (v := un) (hc1)) (fun l2 hz3 => ?_)
    refine xg_t (xg_blk (b := [(13, 1, 12, 0, 2, 0)]) rfl) ?_
    exact xg_e ⟨l2, w, ⟨rfl, rfl⟩, hz3.trans (if_neg hc1).symm, hI, xFr.rf⟩
theorem bdNeutralX {R0 O0 : Nat → Nat} {nn : Nat} {pl : Nat} (hI : xInv w) (h1 : pl ≤ 5) (hbd : bdw w R0 O0 nn) (hp : pl < nn) : xPi (d + 1) mX0_neutralThousandths [(2, 49), (0, pl)] w bd fc rr (fun n w' => (n = xpt (dvl (lN (1000 * bO R0 O0 nn pl)) (lN (bU R0 O0 nn pl))).toInt32) ∧ xInv w' ∧ xFr [] w w') := by
  refine xPi.of ?_
  show xTo (d + 1) mX0_neutralThousandths (0, [], [(0, (2, 49)), (1, (0, pl))], [], (w, bd, fc, 0, 0, rr)) (fun φ => ∃ n w', xEnd 1 [(0, n)] (w', bd, fc, 0, 0, rr) φ ∧ (n = xpt (dvl (lN (1000 * bO R0 O0 nn pl)) (lN (bU R0 O0 nn pl))).toInt32) ∧ xInv w' ∧ xFr [] w w')
  obtain ⟨g52_1, h52_2, hb3⟩ := (hI 52 (by decide) : cpI 6 25 5 (wget w 52))
  have h52_2 : xRow w 52 6 25 g52_1 := h52_2
  obtain ⟨g53_4, h53_5⟩ := (hI 53 (by decide) : cpJ 6 26 (wget w 53))
  have h53_5 : xRk 3 4 w 53 6 26 g53_4 := h53_5
  obtain ⟨g54_7, h54_8⟩ := (hI 54 (by decide) : cpJ 6 27 (wget w 54))
  have h54_8 : xRk 3 4 w 54 6 27 g54_7 := h54_8
  obtain ⟨g55_10, h55_11⟩ := (hI 55 (by decide) : cpJ 6 28 (wget w 55))
  have h55_11 : xRk 3 4 w 55 6 28 g55_10 := h55_11
  refine xg_t (xg_blk (b := [(0, 3, 52, 1000, 0, 72), (3, 1, 0, 0, 0, 0), (4, 3, 1, 0, 4, 23), (7, 1, 0, 0, 0, 0), (8, 3, 1, 0, 3, 20), (11, 1, 2, 1, 0, 0), (12, 1, 10, 0, 0, 0), (13, 1, 64, 0, 0, 0), (14, 1, 55, 0, 0, 0), (15, 1, 0, 0, 0, 0), (16, 3, 1, 0, 5, 27), (19, 1, 0, 0, 0, 0), (20, 3, 1, 0, 3, 20), (23, 1, 2, 1, 0, 0), (24, 1, 10, 0, 0, 0), (25, 1, 64, 0, 0, 0), (26, 3, 13, 55, 91, 74), (29, 1, 50, 0, 0, 0), (30, 1, 12, 0, 1, 0)]) rfl) ?_
  refine xg_t (xg_ldc2) ?_
  refine xg_t (xg_aload (va := (2, 49)) rfl rfl) ?_
  obtain ⟨f49_13, f49_15, h49_17, hb14, hb16⟩ := (hI 49 (by decide) : cp49 (wget w 49))
  refine xg_t (xg_getf (va := (2, 53)) h49_17 rfl) ?_
  refine xg_t (xg_aload (va := (2, 49)) rfl rfl) ?_
  refine xg_t (xg_getf (va := (2, 52)) h49_17 rfl) ?_
  refine xg_t (xg_iload (va := (0, pl)) rfl rfl) ?_
  refine xg_ialdB (n := pl) (B := 5) h52_2 (hb3) xnm0 (by omega) (fun u18 hu19 he20 => ?_)
  have hf21 : bfs R0 pl = u18 := (hbd pl (by omega)).1.symm.trans ((rwv_of h52_2 (by omega)).trans he20)
  obtain ⟨l22, hz23⟩ : ∃ z, g53_4 u18 = z := ⟨_, rfl⟩
  refine xg_t (xg_lald (n := u18) h53_5 xnm0 (by omega) hz23) ?_
  have hU24 : bO R0 O0 nn pl = l22 := by
    have q := (hbd pl (by omega)).2.2.1
    rw [hf21, rwk_of (j := u18) h53_5 (by omega), hz23] at q
    exact q.symm
  refine xg_t (xg_lmul (u := 1000) (v := l22)) ?_
  refine xg_t (xg_lre (b := 1000 * l22) (by rw [xlp_eq]; exact lN_mul _ _)) ?_
  refine xg_t (xg_aload (va := (2, 49)) rfl rfl) ?_
  refine xg_t (xg_getf (va := (2, 54)) h49_17 rfl) ?_
  refine xg_t (xg_aload (va := (2, 49)) rfl rfl) ?_
  refine xg_t (xg_getf (va := (2, 52)) h49_17 rfl) ?_
  refine xg_t (xg_iload (va := (0, pl)) rfl rfl) ?_
  refine xg_ialdB (n := pl) (B := 5) h52_2 (hb3) xnm0 (by omega) (fun u25 hu26 he27 => ?_)
  have hf28 : bfs R0 pl = u25 := (hbd pl (by omega)).1.symm.trans ((rwv_of h52_2 (by omega)).trans he27)
  obtain ⟨l29, hz30⟩ : ∃ z, g54_7 u25 = z := ⟨_, rfl⟩
  refine xg_t (xg_lald (n := u25) h54_8 xnm0 (by omega) hz30) ?_
  have hU31 : bU R0 O0 nn pl = l29 := by
    have q := (hbd pl (by omega)).2.2.2.1
    rw [hf28, rwk_of (j := u25) h54_8 (by omega), hz30] at q
    exact q.symm
  refine xg_cNj mX11_divide (vs := [(4, 1000 * l22), (4, l29)]) (rest := []) (cn1 := 0) (sl1 := 0) rfl (dvDivideX (hI)) rfl rfl rfl rfl rfl rfl rfl (fun l36 w32 hq33 => ?_)
  obtain ⟨hn37, hI34, hF35⟩ := hq33
  refine xg_kE (xg_l2i (u := l36)) (xpt_lt _) (fun z38 hz39 he40 => ?_)
  have hk41 : z38 = xpt (dvl (lN (1000 * bO R0 O0 nn pl)) (lN (bU R0 O0 nn pl))).toInt32 := by
    rw [hU24, hU31, ← hn37]
    exact he40.symm
  exact xg_e ⟨z38, w32, ⟨rfl, rfl⟩, hk41, hI34, (hF35.up (by decide))⟩
theorem bdStretchX {R0 O0 : Nat → Nat} {nn : Nat} {pl ro : Nat} (hI : xInv w) (h1 : pl ≤ 5) (h2 : ro ≤ 9999) (hbd : bdw w R0 O0 nn) (hp : pl < nn) : xPi (d + 1) mX0_stretchMillionths [(2, 49), (0, pl), (0, ro)] w bd fc rr (fun n w' => (n = xpt (dvl (lN 1000000 * bfr R0 O0 nn pl) (lN (ro * bU R0 O0 nn pl))).toInt32) ∧ xInv w' ∧ xFr [] w w') := by
  refine xPi.of ?_
  show xTo (d + 1) mX0_stretchMillionths (0, [], [(0, (2, 49)), (1, (0, pl)), (2, (0, ro))], [], (w, bd, fc, 0, 0, rr)) (fun φ => ∃ n w', xEnd 1 [(0, n)] (w', bd, fc, 0, 0, rr) φ ∧ (n = xpt (dvl (lN 1000000 * bfr R0 O0 nn pl) (lN (ro * bU R0 O0 nn pl))).toInt32) ∧ xInv w' ∧ xFr [] w w')
  obtain ⟨g52_1, h52_2, hb3⟩ := (hI 52 (by decide) : cpI 6 25 5 (wget w 52))
  have h52_2 : xRow w 52 6 25 g52_1 := h52_2
  obtain ⟨g53_4, h53_5⟩ := (hI 53 (by decide) : cpJ 6 26 (wget w 53))
  have h53_5 : xRk 3 4 w 53 6 26 g53_4 := h53_5
  obtain ⟨g54_7, h54_8⟩ := (hI 54 (by decide) : cpJ 6 27 (wget w 54))
  have h54_8 : xRk 3 4 w 54 6 27 g54_7 := h54_8
  obtain ⟨g55_10, h55_11⟩ := (hI 55 (by decide) : cpJ 6 28 (wget w 55))
  have h55_11 : xRk 3 4 w 55 6 28 g55_10 := h55_11
  refine xg_t (xg_blk (b := [(0, 3, 52, 1000000, 0, 78), (3, 1, 0, 0, 0, 0), (4, 3, 1, 0, 6, 30), (7, 1, 2, 1, 0, 0), (8, 1, 64, 0, 0, 0), (9, 1, 55, 0, 0, 0), (10, 1, 2, 2, 0, 0), (11, 1, 49, 0, 0, 0), (12, 1, 0, 0, 0, 0), (13, 3, 1, 0, 5, 27), (16, 1, 0, 0, 0, 0), (17, 3, 1, 0, 3, 20), (20, 1, 2, 1, 0, 0), (21, 1, 10, 0, 0, 0), (22, 1, 64, 0, 0, 0), (23, 1, 55, 0, 0, 0), (24, 3, 13, 55, 91, 74), (27, 1, 50, 0, 0, 0), (28, 1, 12, 0, 1, 0)]) rfl) ?_
  refine xg_t (xg_ldc2) ?_
  refine xg_t (xg_aload (va := (2, 49)) rfl rfl) ?_
  obtain ⟨f49_13, f49_15, h49_17, hb14, hb16⟩ := (hI 49 (by decide) : cp49 (wget w 49))
  refine xg_t (xg_getf (va := (2, 55)) h49_17 rfl) ?_
  refine xg_t (xg_iload (va := (0, pl)) rfl rfl) ?_
  obtain ⟨l18, hz19⟩ : ∃ z, g55_10 pl = z := ⟨_, rfl⟩
  refine xg_t (xg_lald (n := pl) h55_11 xnm0 (by omega) hz19) ?_
  have hF20 : lN l18 = bfr R0 O0 nn pl := by
    rw [← hz19, ← rwk_of (j := pl) h55_11 (by omega)]
    exact (hbd pl (by omega)).2.2.2.2
  refine xg_klE (xg_lmul (u := 1000000) (v := l18)) (fun l21 hz22 => ?_)
  refine xg_t (xg_iload (va := (0, ro)) rfl rfl) ?_
  refine xg_t (xg_i2l (u := ro) xnm0) ?_
  refine xg_t (xg_lre (b := ro) (by rw [xlp_eq]; exact nI_l (by omega))) ?_
  refine xg_t (xg_aload (va := (2, 49)) rfl rfl) ?_
  refine xg_t (xg_getf (va := (2, 54)) h49_17 rfl) ?_
  refine xg_t (xg_aload (va := (2, 49)) rfl rfl) ?_
  refine xg_t (xg_getf (va := (2, 52)) h49_17 rfl) ?_
  refine xg_t (xg_iload (va := (0, pl)) rfl rfl) ?_
  refine xg_ialdB (n := pl) (B := 5) h52_2 (hb3) xnm0 (by omega) (fun u23 hu24 he25 => ?_)
  have hf26 : bfs R0 pl = u23 := (hbd pl (by omega)).1.symm.trans ((rwv_of h52_2 (by omega)).trans he25)
  obtain ⟨l27, hz28⟩ : ∃ z, g54_7 u23 = z := ⟨_, rfl⟩
  refine xg_t (xg_lald (n := u23) h54_8 xnm0 (by omega) hz28) ?_
  have hU29 : bU R0 O0 nn pl = l27 := by
    have q := (hbd pl (by omega)).2.2.2.1
    rw [hf26, rwk_of (j := u23) h54_8 (by omega), hz28] at q
    exact q.symm
  refine xg_t (xg_lmul (u := ro) (v := l27)) ?_
  refine xg_t (xg_lre (b := ro * l27) (by rw [xlp_eq]; exact lN_mul _ _)) ?_
  refine xg_cNj mX11_divide (vs := [(4, l21), (4, ro * l27)]) (rest := []) (cn1 := 0) (sl1 := 0) rfl (dvDivideX (hI)) rfl rfl rfl rfl rfl rfl rfl (fun l34 w30 hq31 => ?_)
  obtain ⟨hn35, hI32, hF33⟩ := hq31
  refine xg_kE (xg_l2i (u := l34)) (xpt_lt _) (fun z36 hz37 he38 => ?_)
  have hk39 : z36 = xpt (dvl (lN 1000000 * bfr R0 O0 nn pl) (lN (ro * bU R0 O0 nn pl))).toInt32 := by
    rw [← hF20, hU29, ← hz22, ← hn35]
    exact he38.symm
  exact xg_e ⟨z36, w30, ⟨rfl, rfl⟩, hk39, hI32, (hF33.up (by decide))⟩
theorem bdBorneX {R0 O0 : Nat → Nat} {nn : Nat} {pl : Nat} (hI : xInv w) (h1 : pl ≤ 5) (hbd : bdw w R0 O0 nn) (hp : pl < nn) (hm : ∀ q, q < nn → rwv w 50 q < fld w 4 3 ∧ bM (rwv w 5) (rwv w 50) q ≤ 99) : xPj (d + 1) mX0_borneBy [(2, 49), (0, pl)] w bd fc rr (fun n w' => (n = bM (rwv w 5) (rwv w 50) pl * bU R0 O0 nn pl) ∧ xInv w' ∧ xFr [] w w') := by
  refine xPj.of ?_
  show xTo (d + 1) mX0_borneBy (0, [], [(0, (2, 49)), (1, (0, pl))], [], (w, bd, fc, 0, 0, rr)) (fun φ => ∃ n w', xEnd 2 [(4, n)] (w', bd, fc, 0, 0, rr) φ ∧ (n = bM (rwv w 5) (rwv w 50) pl * bU R0 O0 nn pl) ∧ xInv w' ∧ xFr [] w w')
  obtain ⟨f49_1, f49_3, h49_5, hb2, hb4⟩ := (hI 49 (by decide) : cp49 (wget w 49))
  obtain ⟨f3_6, f3_8, f3_10, f3_12, f3_14, h3_16, hb7, hb9, hb11, hb13, hb15⟩ := (hI 3 (by decide) : cp3 (wget w 3))
  obtain ⟨f4_17, h4_19, hb18⟩ := (hI 4 (by decide) : cp4 (wget w 4))
  obtain ⟨g5_20, h5_21, hb22⟩ := (hI 5 (by decide) : cpI 24 1 4294967295 (wget w 5))
  have h5_21 : xRow w 5 24 1 g5_20 := h5_21
  obtain ⟨g50_23, h50_24, hb25⟩ := (hI 50 (by decide) : cpI 6 23 4294967295 (wget w 50))
  have h50_24 : xRow w 50 6 23 g50_23 := h50_24
  obtain ⟨g52_26, h52_27, hb28⟩ := (hI 52 (by decide) : cpI 6 25 5 (wget w 52))
  have h52_27 : xRow w 52 6 25 g52_26 := h52_27
  obtain ⟨g53_29, h53_30⟩ := (hI 53 (by decide) : cpJ 6 26 (wget w 53))
  have h53_30 : xRk 3 4 w 53 6 26 g53_29 := h53_30
  obtain ⟨g54_32, h54_33⟩ := (hI 54 (by decide) : cpJ 6 27 (wget w 54))
  have h54_33 : xRk 3 4 w 54 6 27 g54_32 := h54_33
  obtain ⟨g55_35, h55_36⟩ := (hI 55 (by decide) : cpJ 6 28 (wget w 55))
  have h55_36 : xRk 3 4 w 55 6 28 g55_35 := h55_36
  have q43 : fld w 4 3 = f4_17 := fld_of h4_19
  rw [q43] at hm
  refine xg_t (xg_blk (b := [(0, 1, 0, 0, 0, 0), (1, 3, 1, 0, 0, 39), (4, 3, 1, 1, 0, 50), (7, 1, 0, 0, 0, 0), (8, 3, 1, 0, 1, 11), (11, 1, 2, 1, 0, 0), (12, 1, 10, 0, 0, 0), (13, 1, 3, 2, 0, 0), (14, 3, 13, 285, 40, 60), (17, 1, 49, 0, 0, 0), (18, 1, 0, 0, 0, 0), (19, 3, 1, 0, 5, 27), (22, 1, 0, 0, 0, 0), (23, 3, 1, 0, 3, 20), (26, 1, 2, 1, 0, 0), (27, 1, 10, 0, 0, 0), (28, 1, 64, 0, 0, 0), (29, 1, 55, 0, 0, 0), (30, 1, 12, 0, 2, 0)]) rfl) ?_
  refine xg_t (xg_aload (va := (2, 49)) rfl rfl) ?_
  refine xg_t (xg_getf (va := (2, 3)) h49_5 rfl) ?_
  refine xg_t (xg_getf (va := (2, 4)) h3_16 rfl) ?_
  refine xg_t (xg_aload (va := (2, 49)) rfl rfl) ?_
  refine xg_t (xg_getf (va := (2, 50)) h49_5 rfl) ?_
  refine xg_t (xg_iload (va := (0, pl)) rfl rfl) ?_
  refine xg_ialdB (n := pl) (B := 4294967295) h50_24 (hb25) xnm0 (by omega) (fun u38 hu39 he40 => ?_)
  have hu41 : rwv w 50 pl = u38 := (rwv_of h50_24 (by omega)).trans he40
  have hl42 : u38 < f4_17 := by have q := (hm pl (by omega)).1; omega
  refine xg_t (xg_const) ?_
  refine xg_kE (xg_cVr mX5_get (vs := [(0, u38), (0, 2)]) (rest := []) (rs := [(0, g5_20 (u38 * 4 + 2))]) (cn1 := 0) (sl1 := 0) rfl (rgetX (lim := 6) (wd := 4) (sz := f4_17) h4_19 h5_21 (by decide) (by omega) (by decide) (by decide) (by omega) (by decide)) rfl h4_19 rfl rfl rfl rfl rfl rfl rfl) (Nat.lt_succ_of_le ((hb22) _)) (fun z43 hz44 he45 => ?_)
  have hM46 : bM (rwv w 5) (rwv w 50) pl = z43 := by
    show rwv w 5 (4 * rwv w 50 pl + 2) = z43
    rw [hu41, rwv_of (j := 4 * u38 + 2) h5_21 (by omega), show 4 * u38 + 2 = u38 * 4 + 2 by omega]
    exact he45
  have hl47 : z43 ≤ 99 := by have q := (hm pl (by omega)).2; omega
  refine xg_t (xg_i2l (u := z43) xnm0) ?_
  refine xg_t (xg_lre (b := z43) (by rw [xlp_eq]; exact nI_l (by omega))) ?_
  refine xg_t (xg_aload (va := (2, 49)) rfl rfl) ?_
  refine xg_t (xg_getf (va := (2, 54)) h49_5 rfl) ?_
  refine xg_t (xg_aload (va := (2, 49)) rfl rfl) ?_
  refine xg_t (xg_getf (va := (2, 52)) h49_5 rfl) ?_
  refine xg_t (xg_iload (va := (0, pl)) rfl rfl) ?_
  refine xg_ialdB (n := pl) (B := 5) h52_27 (hb28) xnm0 (by omega) (fun u48 hu49 he50 => ?_)
  have hf51 : bfs R0 pl = u48 := (hbd pl (by omega)).1.symm.trans ((rwv_of h52_27 (by omega)).trans he50)
  obtain ⟨l52, hz53⟩ : ∃ z, g54_32 u48 = z := ⟨_, rfl⟩
  refine xg_t (xg_lald (n := u48) h54_33 xnm0 (by omega) hz53) ?_
  have hU54 : bU R0 O0 nn pl = l52 := by
    have q := (hbd pl (by omega)).2.2.2.1
    rw [hf51, rwk_of (j := u48) h54_33 (by omega), hz53] at q
    exact q.symm
  refine xg_t (xg_lmul (u := z43) (v := l52)) ?_
  refine xg_t (xg_lre (b := z43 * l52) (by rw [xlp_eq]; exact lN_mul _ _)) ?_
  have hk55 : z43 * l52 = bM (rwv w 5) (rwv w 50) pl * bU R0 O0 nn pl := by rw [hM46, hU54]
  exact xg_e ⟨z43 * l52, w, ⟨rfl, rfl⟩, hk55, hI, xFr.rf⟩
theorem bdCanBearX {R0 O0 : Nat → Nat} {nn : Nat} {pl ro : Nat} (hI : xInv w) (h1 : pl ≤ 5) (h2 : ro ≤ 9999) (hbd : bdw w R0 O0 nn) (hp : pl < nn) (hm : ∀ q, q < nn → rwv w 50 q < fld w 4 3 ∧ bM (rwv w 5) (rwv w 50) q ≤ 99) : xPi (d + 2) mX0_canBear [(2, 49), (0, pl), (0, ro)] w bd fc rr (fun n w' => ((n = 1 ∧ ¬ (lN (ro * (bM (rwv w 5) (rwv w 50) pl * bU R0 O0 nn pl)) < lN 1000 * iab (bfr R0 O0 nn pl))) ∨ (n = 0 ∧ lN (ro * (bM (rwv w 5) (rwv w 50) pl * bU R0 O0 nn pl)) < lN 1000 * iab (bfr R0 O0 nn pl))) ∧ xInv w' ∧ xFr [] w w') := by
  refine xPi.of ?_
  show xTo (d + 2) mX0_canBear (0, [], [(0, (2, 49)), (1, (0, pl)), (2, (0, ro))], [], (w, bd, fc, 0, 0, rr)) (fun φ => ∃ n w', xEnd 4 [(0, n)] (w', bd, fc, 0, 0, rr) φ ∧ ((n = 1 ∧ ¬ (lN (ro * (bM (rwv w 5) (rwv w 50) pl * bU R0 O0 nn pl)) < lN 1000 * iab (bfr R0 O0 nn pl))) ∨ (n = 0 ∧ lN (ro * (bM (rwv w 5) (rwv w 50) pl * bU R0 O0 nn pl)) < lN 1000 * iab (bfr R0 O0 nn pl))) ∧ xInv w' ∧ xFr [] w w')
  obtain ⟨g52_1, h52_2, hb3⟩ := (hI 52 (by decide) : cpI 6 25 5 (wget w 52))
  have h52_2 : xRow w 52 6 25 g52_1 := h52_2
  obtain ⟨g53_4, h53_5⟩ := (hI 53 (by decide) : cpJ 6 26 (wget w 53))
  have h53_5 : xRk 3 4 w 53 6 26 g53_4 := h53_5
  obtain ⟨g54_7, h54_8⟩ := (hI 54 (by decide) : cpJ 6 27 (wget w 54))
  have h54_8 : xRk 3 4 w 54 6 27 g54_7 := h54_8
  obtain ⟨g55_10, h55_11⟩ := (hI 55 (by decide) : cpJ 6 28 (wget w 55))
  have h55_11 : xRk 3 4 w 55 6 28 g55_10 := h55_11
  refine xg_t (xg_blk (b := [(0, 3, 52, 1000, 0, 72), (3, 1, 0, 0, 0, 0), (4, 3, 1, 0, 6, 30), (7, 1, 2, 1, 0, 0), (8, 1, 64, 0, 0, 0), (9, 3, 75, 0, 0, 66), (12, 1, 55, 0, 0, 0), (13, 1, 2, 2, 0, 0), (14, 1, 49, 0, 0, 0), (15, 1, 0, 0, 0, 0), (16, 1, 2, 1, 0, 0), (17, 3, 13, 3, 0, 80), (20, 1, 55, 0, 0, 0), (21, 1, 57, 0, 0, 0), (22, 3, 7, 29, 4, 0), (25, 1, 3, 1, 0, 0), (26, 3, 8, 30, 0, 0)]) rfl) ?_
  refine xg_t (xg_ldc2) ?_
  refine xg_t (xg_aload (va := (2, 49)) rfl rfl) ?_
  obtain ⟨f49_13, f49_15, h49_17, hb14, hb16⟩ := (hI 49 (by decide) : cp49 (wget w 49))
  refine xg_t (xg_getf (va := (2, 55)) h49_17 rfl) ?_
  refine xg_t (xg_iload (va := (0, pl)) rfl rfl) ?_
  obtain ⟨l18, hz19⟩ : ∃ z, g55_10 pl = z := ⟨_, rfl⟩
  refine xg_t (xg_lald (n := pl) h55_11 xnm0 (by omega) hz19) ?_
  have hF20 : lN l18 = bfr R0 O0 nn pl := by
    rw [← hz19, ← rwk_of (j := pl) h55_11 (by omega)]
    exact (hbd pl (by omega)).2.2.2.2
  refine xg_klE (xg_labs (u := l18) (Nat.zero_le _) (Nat.zero_le _) (Nat.le_of_ble_eq_true rfl)) (fun l21 hz22 => ?_)
  refine xg_klE (xg_lmul (u := 1000) (v := l21)) (fun l23 hz24 => ?_)
  refine xg_t (xg_iload (va := (0, ro)) rfl rfl) ?_
  refine xg_t (xg_i2l (u := ro) xnm0) ?_
  refine xg_t (xg_lre (b := ro) (by rw [xlp_eq]; exact nI_l (by omega))) ?_
  refine xg_t (xg_aload (va := (2, 49)) rfl rfl) ?_
  refine xg_t (xg_iload (va := (0, pl)) rfl rfl) ?_
  refine xg_cVj mX0_borneBy (vs := [(0, pl)]) (rest := [(4, ro), (4, l23)]) (cn1 := 0) (sl1 := 0) rfl (bdBorneX (hI) (by omega) hbd (by omega) hm) rfl h49_17 rfl rfl rfl rfl rfl rfl (fun l29 w25 hq26 => ?_)
  obtain ⟨hn30, hI27, hF28⟩ := hq26
  refine xg_t (xg_lmul (u := ro) (v := l29)) ?_
  refine xg_t (xg_lre (b := ro * l29) (by rw [xlp_eq]; exact lN_mul _ _)) ?_
  refine xg_t (xg_lcmp (u := l23) (v := ro * l29)) ?_
  by_cases hc31 : lN (ro * l29) < lN l23
  · have hP32 : lN (ro * (bM (rwv w 5) (rwv w 50) pl * bU R0 O0 nn pl)) < lN 1000 * iab (bfr R0 O0 nn pl) := by
      rw [← hn30, ← hF20]
      have q : lN l23 = lN 1000 * iab (lN l18) := by
        rw [show iab (lN l18) = lN l21 from (hz22).symm]
        exact hz24
      rw [← q]
      exact hc31
    refine xg_t (xg_ifT (u := xpt (lg_cmp (lN l23) (lN (ro * l29)))) rfl xnm0 (xlj_gtT hc31)) ?_
    refine xg_t (xg_blk (b := [(29, 1, 3, 0, 0, 0)]) rfl) ?_
    refine xg_t (xg_const) ?_
    refine xg_t (xg_blk (b := [(30, 1, 12, 0, 1, 0)]) rfl) ?_
    exact xg_e ⟨0, w25, ⟨rfl, rfl⟩, Or.inr ⟨rfl, hP32⟩, hI27, (hF28.up (by decide))⟩
  · have hP33 : ¬ (lN (ro * (bM (rwv w 5) (rwv w 50) pl * bU R0 O0 nn pl)) < lN 1000 * iab (bfr R0 O0 nn pl)) := by
      rw [← hn30, ← hF20]
      have q : lN l23 = lN 1000 * iab (lN l18) := by
        rw [show iab (lN l18) = lN l21 from (hz22).symm]
        exact hz24
      rw [← q]
      exact hc31
    refine xg_t (xg_ifF (u := xpt (lg_cmp (lN l23) (lN (ro * l29)))) rfl xnm0 (xlj_gtF hc31)) ?_
    refine xg_t (xg_const) ?_
    refine xg_t (xg_goto) ?_
    refine xg_t (xg_blk (b := [(30, 1, 12, 0, 1, 0)]) rfl) ?_
    exact xg_e ⟨1, w25, ⟨rfl, rfl⟩, Or.inl ⟨rfl, hP33⟩, hI27, (hF28.up (by decide))⟩
theorem bdLeastX {R0 O0 : Nat → Nat} {nn : Nat} (hI : xInv w) (hbd : bdw w R0 O0 nn) (hm : ∀ q, q < nn → rwv w 50 q < fld w 4 3 ∧ bM (rwv w 5) (rwv w 50) q ≤ 99) (hn : fld w 4 3 = nn) : xPi (d + 2) mX0_leastRound [(2, 49)] w bd fc rr (fun n w' => (n = bce (bM (rwv w 5) (rwv w 50)) (bU R0 O0 nn) (bfr R0 O0 nn) nn) ∧ xInv w' ∧ xFr [] w w') := by
  refine xPi.of ?_
  show xTo (d + 2) mX0_leastRound (0, [], [(0, (2, 49))], [], (w, bd, fc, 0, 0, rr)) (fun φ => ∃ n w', xEnd 1 [(0, n)] (w', bd, fc, 0, 0, rr) φ ∧ (n = bce (bM (rwv w 5) (rwv w 50)) (bU R0 O0 nn) (bfr R0 O0 nn) nn) ∧ xInv w' ∧ xFr [] w w')
  obtain ⟨f49_1, f49_3, h49_5, hb2, hb4⟩ := (hI 49 (by decide) : cp49 (wget w 49))
  obtain ⟨f3_6, f3_8, f3_10, f3_12, f3_14, h3_16, hb7, hb9, hb11, hb13, hb15⟩ := (hI 3 (by decide) : cp3 (wget w 3))
  obtain ⟨f4_17, h4_19, hb18⟩ := (hI 4 (by decide) : cp4 (wget w 4))
  obtain ⟨g5_20, h5_21, hb22⟩ := (hI 5 (by decide) : cpI 24 1 4294967295 (wget w 5))
  have h5_21 : xRow w 5 24 1 g5_20 := h5_21
  obtain ⟨g52_23, h52_24, hb25⟩ := (hI 52 (by decide) : cpI 6 25 5 (wget w 52))
  have h52_24 : xRow w 52 6 25 g52_23 := h52_24
  obtain ⟨g53_26, h53_27⟩ := (hI 53 (by decide) : cpJ 6 26 (wget w 53))
  have h53_27 : xRk 3 4 w 53 6 26 g53_26 := h53_27
  obtain ⟨g54_29, h54_30⟩ := (hI 54 (by decide) : cpJ 6 27 (wget w 54))
  have h54_30 : xRk 3 4 w 54 6 27 g54_29 := h54_30
  obtain ⟨g55_32, h55_33⟩ := (hI 55 (by decide) : cpJ 6 28 (wget w 55))
  have h55_33 : xRk 3 4 w 55 6 28 g55_32 := h55_33
  have q43 : fld w 4 3 = f4_17 := fld_of h4_19
  refine xg_t (xg_blk (b := [(0, 1, 51, 1, 0, 0), (1, 1, 54, 1, 0, 0), (2, 1, 3, 0, 0, 0), (3, 1, 15, 3, 0, 0)]) rfl) ?_
  refine xg_t (xg_lconst) ?_
  refine xg_t (xg_lstore (l1 := [(0, (2, 49))]) rfl rfl) ?_
  refine xg_t (xg_const) ?_
  refine xg_t (xg_istore (l1 := [(1, (4, 1)), (0, (2, 49))]) rfl rfl rfl) ?_
  refine xg_t (xg_drop (l1 := [(0, (2, 49)), (1, (4, 1)), (3, (0, 0))]) (List.forall_mem_cons.mpr ⟨List.mem_cons_of_mem _ (List.mem_cons_of_mem _ (List.mem_cons_self)), List.forall_mem_cons.mpr ⟨List.mem_cons_of_mem _ (List.mem_cons_self), List.forall_mem_cons.mpr ⟨List.mem_cons_self, fun _ h => absurd h List.not_mem_nil⟩⟩⟩)) ?_
  have key35 : ∀ (m37 : Nat) (le pl : Nat) (w38 : List (List xE)), 6 - pl < m37 → le = le → pl ≤ 6 → xInv w38 → xFr [] w w38 → lN le = bcl (bM (rwv w 5) (rwv w 50)) (bU R0 O0 nn) (bfr R0 O0 nn) pl ∧ pl ≤ nn → xTo (d + 2) mX0_leastRound (4, [], [(0, (2, 49)), (1, (4, le)), (3, (0, pl))], [], (w38, bd, fc, 0, 0, rr)) (fun φ => ∃ n w', xEnd 1 [(0, n)] (w', bd, fc, 0, 0, rr) φ ∧ (n = bce (bM (rwv w 5) (rwv w 50)) (bU R0 O0 nn) (bfr R0 O0 nn) nn) ∧ xInv w' ∧ xFr [] w w') := by
    intro m37
    induction m37 with
    | zero => intro le pl w38 hz; exact absurd hz (Nat.not_lt_zero _)
    | succ m37 ih36 =>
      intro le pl w38 hm44 hn41 hn42 hI39 hF40 he43
      obtain ⟨hc45, hn46⟩ := he43
      refine xg_t (xg_blk (b := [(4, 1, 2, 3, 0, 0), (5, 1, 0, 0, 0, 0), (6, 3, 1, 0, 0, 39), (9, 3, 1, 1, 0, 50), (12, 3, 1, 5, 3, 54), (15, 3, 6, 59, 3, 0), (18, 1, 0, 0, 0, 0), (19, 1, 2, 3, 0, 0), (20, 3, 13, 3, 0, 80), (23, 2, 54, 4, 0, 0), (25, 1, 53, 1, 0, 0), (26, 3, 52, 1000, 0, 72), (29, 1, 0, 0, 0, 0), (30, 3, 1, 0, 6, 30), (33, 1, 2, 3, 0, 0), (34, 1, 64, 0, 0, 0), (35, 3, 75, 0, 0, 66), (38, 1, 55, 0, 0, 0), (39, 2, 53, 4, 0, 0), (41, 1, 56, 0, 0, 0), (42, 1, 51, 1, 0, 0), (43, 1, 66, 0, 0, 0), (44, 2, 53, 4, 0, 0), (46, 3, 13, 55, 91, 74), (49, 3, 76, 0, 0, 84), (52, 1, 54, 1, 0, 0), (53, 3, 9, 3, 1, 0), (56, 3, 8, 4, 0, 0)]) rfl) ?_
      refine xg_t (xg_iload (va := (0, pl)) rfl rfl) ?_
      refine xg_t (xg_aload (va := (2, 49)) rfl rfl) ?_
      refine xg_t (xg_getf (va := (2, 3)) (hF40.get (by decide) h49_5) rfl) ?_
      refine xg_t (xg_getf (va := (2, 4)) (hF40.get (by decide) h3_16) rfl) ?_
      refine xg_t (xg_getf (va := (0, f4_17)) (hF40.get (by decide) h4_19) rfl) ?_
      by_cases hc47 : pl < f4_17
      · refine xg_t (xg_icF (u := pl) (v := f4_17) rfl xnm0 xnm0 (xj_geF hc47 (by omega))) ?_
        refine xg_t (xg_aload (va := (2, 49)) rfl rfl) ?_
        refine xg_t (xg_iload (va := (0, pl)) rfl rfl) ?_
        have hb48 : bdw w38 R0 O0 nn := bdw.kp hbd (fun c _ _ => (hF40).1 c List.not_mem_nil)
        have e5050 : rwv w38 50 = rwv w 50 := rwf_eq ((hF40).1 50 (by decide))
        have e551 : rwv w38 5 = rwv w 5 := rwf_eq ((hF40).1 5 (by decide))
        have e452 : fld w38 4 3 = fld w 4 3 := fld_fr hF40 (by decide)
        have hm49 : ∀ q, q < nn → rwv w38 50 q < fld w38 4 3 ∧ bM (rwv w38 5) (rwv w38 50) q ≤ 99 := by
          rw [e5050, e551, e452]
          exact hm
        refine xg_cVj mX0_borneBy (vs := [(0, pl)]) (rest := []) (cn1 := 0) (sl1 := 0) rfl (bdBorneX (hI39) (by omega) hb48 (by omega) hm49) rfl (hF40.get (by decide) h49_5) rfl rfl rfl rfl rfl rfl (fun l57 w53 hq54 => ?_)
        obtain ⟨hn58, hI55, hF56⟩ := hq54
        rw [e5050, e551] at hn58
        refine xg_t (xg_lstore (l1 := [(0, (2, 49)), (1, (4, le)), (3, (0, pl))]) rfl rfl) ?_
        refine xg_t (xg_lload (u := le) rfl) ?_
        refine xg_t (xg_ldc2) ?_
        refine xg_t (xg_aload (va := (2, 49)) rfl rfl) ?_
        refine xg_t (xg_getf (va := (2, 55)) (hF56.get (by decide) (hF40.get (by decide) h49_5)) rfl) ?_
        refine xg_t (xg_iload (va := (0, pl)) rfl rfl) ?_
        obtain ⟨l59, hz60⟩ : ∃ z, g55_32 pl = z := ⟨_, rfl⟩
        refine xg_t (xg_lald (n := pl) ((h55_33.fr hF40 (by decide)).fr hF56 (by decide)) xnm0 (by omega) hz60) ?_
        have hF61 : lN l59 = bfr R0 O0 nn pl := by
          rw [← hz60, ← rwk_of (j := pl) h55_33 (by omega)]
          exact (hbd pl (by omega)).2.2.2.2
        refine xg_klE (xg_labs (u := l59) (Nat.zero_le _) (Nat.zero_le _) (Nat.le_of_ble_eq_true rfl)) (fun l62 hz63 => ?_)
        refine xg_klE (xg_lmul (u := 1000) (v := l62)) (fun l64 hz65 => ?_)
        refine xg_t (xg_lload (u := l57) rfl) ?_
        refine xg_klE (xg_ladd (u := l64) (v := l57)) (fun l66 hz67 => ?_)
        refine xg_t (xg_lconst) ?_
        refine xg_klE (xg_lsub (u := l66) (v := 1)) (fun l68 hz69 => ?_)
        refine xg_t (xg_lload (u := l57) rfl) ?_
        refine xg_cNj mX11_divide (vs := [(4, l68), (4, l57)]) (rest := [(4, le)]) (cn1 := 0) (sl1 := 0) rfl (dvDivideX (hI55)) rfl rfl rfl rfl rfl rfl rfl (fun l74 w70 hq71 => ?_)
        obtain ⟨hn75, hI72, hF73⟩ := hq71
        refine xg_klE (xg_lmax (u := le) (v := l74) (Nat.zero_le _) (Nat.zero_le _) (Nat.le_of_ble_eq_true rfl)) (fun l76 hz77 => ?_)
        refine xg_t (xg_lstore (l1 := [(4, (4, l57)), (0, (2, 49)), (3, (0, pl))]) rfl rfl) ?_
        refine xg_t (xg_iinc (u := pl) (z := pl + 1) (l1 := [(1, (4, l76)), (4, (4, l57)), (0, (2, 49))]) rfl rfl (by omega) rfl) ?_
        refine xg_t (xg_goto) ?_
        refine xg_t (xg_drop (l1 := [(0, (2, 49)), (1, (4, l76)), (3, (0, pl + 1))]) (List.forall_mem_cons.mpr ⟨List.mem_cons_of_mem _ (List.mem_cons_of_mem _ (List.mem_cons_of_mem _ (List.mem_cons_self))), List.forall_mem_cons.mpr ⟨List.mem_cons_of_mem _ (List.mem_cons_self), List.forall_mem_cons.mpr ⟨List.mem_cons_self, fun _ h => absurd h List.not_mem_nil⟩⟩⟩)) ?_
        have hr78 : lN l74 = brn (bM (rwv w 5) (rwv w 50)) (bU R0 O0 nn) (bfr R0 O0 nn) pl := by
          unfold brn
          rw [← hn58, ← hF61]
          have q1 : lN l64 = lN 1000 * iab (lN l59) := by
            rw [show iab (lN l59) = lN l62 from (hz63).symm]
            exact hz65
          rw [← q1, ← hz67, ← hz69]
          exact hn75
        have hk79 : lN l76 = bcl (bM (rwv w 5) (rwv w 50)) (bU R0 O0 nn) (bfr R0 O0 nn) (pl + 1) := by
          show lN l76 = if brn (bM (rwv w 5) (rwv w 50)) (bU R0 O0 nn) (bfr R0 O0 nn) pl < bcl (bM (rwv w 5) (rwv w 50)) (bU R0 O0 nn) (bfr R0 O0 nn) pl then bcl (bM (rwv w 5) (rwv w 50)) (bU R0 O0 nn) (bfr R0 O0 nn) pl else brn (bM (rwv w 5) (rwv w 50)) (bU R0 O0 nn) (bfr R0 O0 nn) pl
          rw [← hr78, ← hc45]
          exact hz77
        exact ih36 l76 (pl + 1) w70 (by omega) (by omega) (by omega) (hI72) (((hF40.tr (hF56.up (by decide))).tr (hF73.up (by decide)))) (⟨hk79, by omega⟩)
      · refine xg_t (xg_icT (u := pl) (v := f4_17) rfl xnm0 xnm0 (xj_geT (by omega) (by omega))) ?_
        refine xg_t (xg_blk (b := [(59, 1, 53, 1, 0, 0), (60, 3, 52, 10000, 0, 87), (63, 3, 77, 0, 0, 89), (66, 1, 50, 0, 0, 0), (67, 1, 12, 0, 1, 0)]) rfl) ?_
        refine xg_t (xg_lload (u := le) rfl) ?_
        refine xg_t (xg_ldc2) ?_
        refine xg_klE (xg_lmin (u := le) (v := 10000) (Nat.zero_le _) (Nat.zero_le _) (Nat.le_of_ble_eq_true rfl)) (fun l80 hz81 => ?_)
        refine xg_kE (xg_l2i (u := l80)) (xpt_lt _) (fun z82 hz83 he84 => ?_)
        have hk85 : z82 = bce (bM (rwv w 5) (rwv w 50)) (bU R0 O0 nn) (bfr R0 O0 nn) nn := by
          unfold bce
          have e : pl = nn := by omega
          have c := hc45
          rw [e] at c
          rw [← c, ← hz81]
          exact he84.symm
        exact xg_e ⟨z82, w38, ⟨rfl, rfl⟩, hk85, hI39, hF40⟩
  exact key35 _ 1 0 w (Nat.lt_succ_self _) (by omega) (by omega) (hI) (xFr.rf) (⟨rfl, Nat.zero_le _⟩)
theorem bdWorstX {R0 O0 : Nat → Nat} {nn : Nat} (hI : xInv w) (hbd : bdw w R0 O0 nn) (hm : ∀ q, q < nn → rwv w 50 q < fld w 4 3 ∧ bM (rwv w 5) (rwv w 50) q ≤ 99) (hn : fld w 4 3 = nn) (h0 : 0 < nn) : xPi (d + 2) mX0_worstPlace [(2, 49)] w bd fc rr (fun n w' => (n = bwo (bM (rwv w 5) (rwv w 50)) (bU R0 O0 nn) (bfr R0 O0 nn) (nn - 1)) ∧ xInv w' ∧ xFr [] w w') := by
  refine xPi.of ?_
  show xTo (d + 2) mX0_worstPlace (0, [], [(0, (2, 49))], [], (w, bd, fc, 0, 0, rr)) (fun φ => ∃ n w', xEnd 1 [(0, n)] (w', bd, fc, 0, 0, rr) φ ∧ (n = bwo (bM (rwv w 5) (rwv w 50)) (bU R0 O0 nn) (bfr R0 O0 nn) (nn - 1)) ∧ xInv w' ∧ xFr [] w w')
  obtain ⟨f49_1, f49_3, h49_5, hb2, hb4⟩ := (hI 49 (by decide) : cp49 (wget w 49))
  obtain ⟨f3_6, f3_8, f3_10, f3_12, f3_14, h3_16, hb7, hb9, hb11, hb13, hb15⟩ := (hI 3 (by decide) : cp3 (wget w 3))
  obtain ⟨f4_17, h4_19, hb18⟩ := (hI 4 (by decide) : cp4 (wget w 4))
  obtain ⟨g5_20, h5_21, hb22⟩ := (hI 5 (by decide) : cpI 24 1 4294967295 (wget w 5))
  have h5_21 : xRow w 5 24 1 g5_20 := h5_21
  obtain ⟨g52_23, h52_24, hb25⟩ := (hI 52 (by decide) : cpI 6 25 5 (wget w 52))
  have h52_24 : xRow w 52 6 25 g52_23 := h52_24
  obtain ⟨g53_26, h53_27⟩ := (hI 53 (by decide) : cpJ 6 26 (wget w 53))
  have h53_27 : xRk 3 4 w 53 6 26 g53_26 := h53_27
  obtain ⟨g54_29, h54_30⟩ := (hI 54 (by decide) : cpJ 6 27 (wget w 54))
  have h54_30 : xRk 3 4 w 54 6 27 g54_29 := h54_30
  obtain ⟨g55_32, h55_33⟩ := (hI 55 (by decide) : cpJ 6 28 (wget w 55))
  have h55_33 : xRk 3 4 w 55 6 28 g55_32 := h55_33
  have q43 : fld w 4 3 = f4_17 := fld_of h4_19
  refine xg_t (xg_blk (b := [(0, 1, 3, 0, 0, 0), (1, 1, 15, 1, 0, 0), (2, 1, 3, 1, 0, 0), (3, 1, 15, 2, 0, 0)]) rfl) ?_
  refine xg_t (xg_const) ?_
  refine xg_t (xg_istore (l1 := [(0, (2, 49))]) rfl rfl rfl) ?_
  refine xg_t (xg_const) ?_
  refine xg_t (xg_istore (l1 := [(1, (0, 0)), (0, (2, 49))]) rfl rfl rfl) ?_
  refine xg_t (xg_drop (l1 := [(0, (2, 49)), (1, (0, 0)), (2, (0, 1))]) (List.forall_mem_cons.mpr ⟨List.mem_cons_of_mem _ (List.mem_cons_of_mem _ (List.mem_cons_self)), List.forall_mem_cons.mpr ⟨List.mem_cons_of_mem _ (List.mem_cons_self), List.forall_mem_cons.mpr ⟨List.mem_cons_self, fun _ h => absurd h List.not_mem_nil⟩⟩⟩)) ?_
  have key35 : ∀ (m37 : Nat) (wo pl : Nat) (w38 : List (List xE)), 6 - pl < m37 → wo ≤ 5 → pl ≤ 6 → xInv w38 → xFr [] w w38 → wo = bwo (bM (rwv w 5) (rwv w 50)) (bU R0 O0 nn) (bfr R0 O0 nn) (pl - 1) ∧ (1 ≤ pl ∧ pl ≤ nn) ∧ wo < nn → xTo (d + 2) mX0_worstPlace (4, [], [(0, (2, 49)), (1, (0, wo)), (2, (0, pl))], [], (w38, bd, fc, 0, 0, rr)) (fun φ => ∃ n w', xEnd 1 [(0, n)] (w', bd, fc, 0, 0, rr) φ ∧ (n = bwo (bM (rwv w 5) (rwv w 50)) (bU R0 O0 nn) (bfr R0 O0 nn) (nn - 1)) ∧ xInv w' ∧ xFr [] w w') := by
    intro m37
    induction m37 with
    | zero => intro wo pl w38 hz; exact absurd hz (Nat.not_lt_zero _)
    | succ m37 ih36 =>
      intro wo pl w38 hm44 hn41 hn42 hI39 hF40 he43
      obtain ⟨hc45, hn46⟩ := he43
      obtain ⟨⟨hp1, hp2⟩, hwn⟩ := hn46
      refine xg_t (xg_blk (b := [(4, 1, 2, 2, 0, 0), (5, 1, 0, 0, 0, 0), (6, 3, 1, 0, 0, 39), (9, 3, 1, 1, 0, 50), (12, 3, 1, 5, 3, 54), (15, 3, 6, 60, 3, 0), (18, 1, 0, 0, 0, 0), (19, 3, 1, 0, 6, 30), (22, 1, 2, 2, 0, 0), (23, 1, 64, 0, 0, 0), (24, 3, 75, 0, 0, 66), (27, 1, 0, 0, 0, 0), (28, 1, 2, 1, 0, 0), (29, 3, 13, 3, 0, 80), (32, 1, 55, 0, 0, 0), (33, 1, 0, 0, 0, 0), (34, 3, 1, 0, 6, 30), (37, 1, 2, 1, 0, 0), (38, 1, 64, 0, 0, 0), (39, 3, 75, 0, 0, 66), (42, 1, 0, 0, 0, 0), (43, 1, 2, 2, 0, 0), (44, 3, 13, 3, 0, 80), (47, 1, 55, 0, 0, 0), (48, 1, 57, 0, 0, 0), (49, 3, 7, 54, 5, 0), (52, 1, 2, 2, 0, 0), (53, 1, 15, 1, 0, 0)]) rfl) ?_
      refine xg_t (xg_iload (va := (0, pl)) rfl rfl) ?_
      refine xg_t (xg_aload (va := (2, 49)) rfl rfl) ?_
      refine xg_t (xg_getf (va := (2, 3)) (hF40.get (by decide) h49_5) rfl) ?_
      refine xg_t (xg_getf (va := (2, 4)) (hF40.get (by decide) h3_16) rfl) ?_
      refine xg_t (xg_getf (va := (0, f4_17)) (hF40.get (by decide) h4_19) rfl) ?_
      by_cases hc47 : pl < f4_17
      · refine xg_t (xg_icF (u := pl) (v := f4_17) rfl xnm0 xnm0 (xj_geF hc47 (by omega))) ?_
        refine xg_t (xg_aload (va := (2, 49)) rfl rfl) ?_
        refine xg_t (xg_getf (va := (2, 55)) (hF40.get (by decide) h49_5) rfl) ?_
        refine xg_t (xg_iload (va := (0, pl)) rfl rfl) ?_
        obtain ⟨l48, hz49⟩ : ∃ z, g55_32 pl = z := ⟨_, rfl⟩
        refine xg_t (xg_lald (n := pl) (h55_33.fr hF40 (by decide)) xnm0 (by omega) hz49) ?_
        have hF50 : lN l48 = bfr R0 O0 nn pl := by
          rw [← hz49, ← rwk_of (j := pl) h55_33 (by omega)]
          exact (hbd pl (by omega)).2.2.2.2
        refine xg_klE (xg_labs (u := l48) (Nat.zero_le _) (Nat.zero_le _) (Nat.le_of_ble_eq_true rfl)) (fun l51 hz52 => ?_)
        refine xg_t (xg_aload (va := (2, 49)) rfl rfl) ?_
        refine xg_t (xg_iload (va := (0, wo)) rfl rfl) ?_
        have hb53 : bdw w38 R0 O0 nn := bdw.kp hbd (fun c _ _ => (hF40).1 c List.not_mem_nil)
        have e5055 : rwv w38 50 = rwv w 50 := rwf_eq ((hF40).1 50 (by decide))
        have e556 : rwv w38 5 = rwv w 5 := rwf_eq ((hF40).1 5 (by decide))
        have e457 : fld w38 4 3 = fld w 4 3 := fld_fr hF40 (by decide)
        have hm54 : ∀ q, q < nn → rwv w38 50 q < fld w38 4 3 ∧ bM (rwv w38 5) (rwv w38 50) q ≤ 99 := by
          rw [e5055, e556, e457]
          exact hm
        refine xg_cVj mX0_borneBy (vs := [(0, wo)]) (rest := [(4, l51)]) (cn1 := 0) (sl1 := 0) rfl (bdBorneX (hI39) (by omega) hb53 (by omega) hm54) rfl (hF40.get (by decide) h49_5) rfl rfl rfl rfl rfl rfl (fun l62 w58 hq59 => ?_)
        obtain ⟨hn63, hI60, hF61⟩ := hq59
        rw [e5055, e556] at hn63
        refine xg_klE (xg_lmul (u := l51) (v := l62)) (fun l64 hz65 => ?_)
        refine xg_t (xg_aload (va := (2, 49)) rfl rfl) ?_
        refine xg_t (xg_getf (va := (2, 55)) (hF61.get (by decide) (hF40.get (by decide) h49_5)) rfl) ?_
        refine xg_t (xg_iload (va := (0, wo)) rfl rfl) ?_
        obtain ⟨l66, hz67⟩ : ∃ z, g55_32 wo = z := ⟨_, rfl⟩
        refine xg_t (xg_lald (n := wo) ((h55_33.fr hF40 (by decide)).fr hF61 (by decide)) xnm0 (by omega) hz67) ?_
        have hF68 : lN l66 = bfr R0 O0 nn wo := by
          rw [← hz67, ← rwk_of (j := wo) h55_33 (by omega)]
          exact (hbd wo (by omega)).2.2.2.2
        refine xg_klE (xg_labs (u := l66) (Nat.zero_le _) (Nat.zero_le _) (Nat.le_of_ble_eq_true rfl)) (fun l69 hz70 => ?_)
        refine xg_t (xg_aload (va := (2, 49)) rfl rfl) ?_
        refine xg_t (xg_iload (va := (0, pl)) rfl rfl) ?_
        have hb71 : bdw w58 R0 O0 nn := bdw.kp hbd (fun c _ _ => ((hF40.tr (hF61.up (by decide)))).1 c List.not_mem_nil)
        have e5073 : rwv w58 50 = rwv w 50 := rwf_eq (((hF40.tr (hF61.up (by decide)))).1 50 (by decide))
        have e574 : rwv w58 5 = rwv w 5 := rwf_eq (((hF40.tr (hF61.up (by decide)))).1 5 (by decide))
        have e475 : fld w58 4 3 = fld w 4 3 := fld_fr (hF40.tr (hF61.up (by decide))) (by decide)
        have hm72 : ∀ q, q < nn → rwv w58 50 q < fld w58 4 3 ∧ bM (rwv w58 5) (rwv w58 50) q ≤ 99 := by
          rw [e5073, e574, e475]
          exact hm
        refine xg_cVj mX0_borneBy (vs := [(0, pl)]) (rest := [(4, l69), (4, l64)]) (cn1 := 0) (sl1 := 0) rfl (bdBorneX (hI60) (by omega) hb71 (by omega) hm72) rfl (hF61.get (by decide) (hF40.get (by decide) h49_5)) rfl rfl rfl rfl rfl rfl (fun l80 w76 hq77 => ?_)
        obtain ⟨hn81, hI78, hF79⟩ := hq77
        rw [e5073, e574] at hn81
        refine xg_klE (xg_lmul (u := l69) (v := l80)) (fun l82 hz83 => ?_)
        refine xg_t (xg_lcmp (u := l64) (v := l82)) ?_
        by_cases hc84 : lN l82 < lN l64
        · have hP85 : iab (bfr R0 O0 nn wo) * lN (bM (rwv w 5) (rwv w 50) pl * bU R0 O0 nn pl) < iab (bfr R0 O0 nn pl) * lN (bM (rwv w 5) (rwv w 50) wo * bU R0 O0 nn wo) := by
            rw [← hF50, ← hF68, ← hn63, ← hn81]
            have q1 : lN l51 = iab (lN l48) := hz52
            have q2 : lN l69 = iab (lN l66) := hz70
            rw [← q1, ← q2, ← hz65, ← hz83]
            exact hc84
          have hw86 : bwo (bM (rwv w 5) (rwv w 50)) (bU R0 O0 nn) (bfr R0 O0 nn) pl = pl := by
            obtain ⟨k, rfl⟩ : ∃ k, pl = k + 1 := ⟨pl - 1, by omega⟩
            rw [Nat.add_sub_cancel] at hc45
            rw [hc45] at hP85
            rw [bwo_y hP85]
          refine xg_t (xg_ifF (u := xpt (lg_cmp (lN l64) (lN l82))) rfl xnm0 (xlj_leF hc84)) ?_
          refine xg_t (xg_iload (va := (0, pl)) rfl rfl) ?_
          refine xg_t (xg_istore (l1 := [(0, (2, 49)), (2, (0, pl))]) rfl rfl rfl) ?_
          refine xg_t (xg_blk (b := [(54, 3, 9, 2, 1, 0), (57, 3, 8, 4, 0, 0)]) rfl) ?_
          refine xg_t (xg_iinc (u := pl) (z := pl + 1) (l1 := [(1, (0, pl)), (0, (2, 49))]) rfl rfl (by omega) rfl) ?_
          refine xg_t (xg_goto) ?_
          refine xg_t (xg_drop (l1 := [(0, (2, 49)), (1, (0, pl)), (2, (0, pl + 1))]) (List.forall_mem_cons.mpr ⟨List.mem_cons_of_mem _ (List.mem_cons_of_mem _ (List.mem_cons_self)), List.forall_mem_cons.mpr ⟨List.mem_cons_of_mem _ (List.mem_cons_self), List.forall_mem_cons.mpr ⟨List.mem_cons_self, fun _ h => absurd h List.not_mem_nil⟩⟩⟩)) ?_
          exact ih36 pl (pl + 1) w76 (by omega) (by omega) (by omega) (hI78) (((hF40.tr (hF61.up (by decide))).tr (hF79.up (by decide)))) (⟨by rw [Nat.add_sub_cancel]; exact hw86.symm, ⟨by omega, by omega⟩, by omega⟩)
        · have hP87 : ¬ (iab (bfr R0 O0 nn wo) * lN (bM (rwv w 5) (rwv w 50) pl * bU R0 O0 nn pl) < iab (bfr R0 O0 nn pl) * lN (bM (rwv w 5) (rwv w 50) wo * bU R0 O0 nn wo)) := by
            rw [← hF50, ← hF68, ← hn63, ← hn81]
            have q1 : lN l51 = iab (lN l48) := hz52
            have q2 : lN l69 = iab (lN l66) := hz70
            rw [← q1, ← q2, ← hz65, ← hz83]
            exact hc84
          have hw88 : bwo (bM (rwv w 5) (rwv w 50)) (bU R0 O0 nn) (bfr R0 O0 nn) pl = wo := by
            obtain ⟨k, rfl⟩ : ∃ k, pl = k + 1 := ⟨pl - 1, by omega⟩
            rw [Nat.add_sub_cancel] at hc45
            rw [hc45] at hP87
            rw [bwo_n hP87]
            exact hc45.symm
          refine xg_t (xg_ifT (u := xpt (lg_cmp (lN l64) (lN l82))) rfl xnm0 (xlj_leT hc84)) ?_
          refine xg_t (xg_blk (b := [(54, 3, 9, 2, 1, 0), (57, 3, 8, 4, 0, 0)]) rfl) ?_
          refine xg_t (xg_iinc (u := pl) (z := pl + 1) (l1 := [(0, (2, 49)), (1, (0, wo))]) rfl rfl (by omega) rfl) ?_
          refine xg_t (xg_goto) ?_
          refine xg_t (xg_drop (l1 := [(0, (2, 49)), (1, (0, wo)), (2, (0, pl + 1))]) (List.forall_mem_cons.mpr ⟨List.mem_cons_of_mem _ (List.mem_cons_self), List.forall_mem_cons.mpr ⟨List.mem_cons_of_mem _ (List.mem_cons_of_mem _ (List.mem_cons_self)), List.forall_mem_cons.mpr ⟨List.mem_cons_self, fun _ h => absurd h List.not_mem_nil⟩⟩⟩)) ?_
          exact ih36 wo (pl + 1) w76 (by omega) (by omega) (by omega) (hI78) (((hF40.tr (hF61.up (by decide))).tr (hF79.up (by decide)))) (⟨by rw [Nat.add_sub_cancel]; exact hw88.symm, ⟨by omega, by omega⟩, by omega⟩)
      · refine xg_t (xg_icT (u := pl) (v := f4_17) rfl xnm0 xnm0 (xj_geT (by omega) (by omega))) ?_
        refine xg_t (xg_blk (b := [(60, 1, 2, 1, 0, 0), (61, 1, 12, 0, 1, 0)]) rfl) ?_
        refine xg_t (xg_iload (va := (0, wo)) rfl rfl) ?_
        exact xg_e ⟨wo, w38, ⟨rfl, rfl⟩, (hc45.trans (congrArg (bwo (bM (rwv w 5) (rwv w 50)) (bU R0 O0 nn) (bfr R0 O0 nn)) (show pl - 1 = nn - 1 by omega))), hI39, hF40⟩
  exact key35 _ 0 1 w (Nat.lt_succ_self _) (by omega) (by omega) (hI) (xFr.rf) (⟨rfl, ⟨by omega, by omega⟩, by omega⟩)
end XBC
