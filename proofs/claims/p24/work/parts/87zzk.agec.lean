/-! the class: ages of lamps -/
section XAG
variable {d : Nat} {w : List (List xE)} {bd : List (Nat × Nat)} {fc : List (Nat × Nat × Bool)} {rr : Nat × Nat}
theorem lmAddX {kk : Nat} (hI : xInv w) (hk1 : kk < fld w 16 3) (hq : ∀ p, p < fld w 16 3 → (∀ t, t < 4 → rwv w 17 (5 * p + t) ≤ 5) ∧ rwv w 17 (5 * p + 4) ≤ 8991) (hA : ∀ k, k < 36 → rwv w 69 k ≤ 98901) : xPq (d + 2) mX3_addPicture [(2, 68), (0, kk)] w bd fc rr [] (fun w' => xInv w' ∧ xFr [69] w w' ∧ (∀ k, k < 36 → rwv w' 69 k = rwv w 69 k + agp (rwv w 17) kk k)) := by
  refine xPq.of ?_
  show xTo (d + 2) mX3_addPicture (0, [], [(0, (2, 68)), (1, (0, kk))], [], (w, bd, fc, 0, 0, rr)) (fun φ => ∃ w', xEnd 0 [] (w', bd, fc, 0, 0, rr) φ ∧ xInv w' ∧ xFr [69] w w' ∧ (∀ k, k < 36 → rwv w' 69 k = rwv w 69 k + agp (rwv w 17) kk k))
  obtain ⟨f68_1, f68_3, h68_5, hb2, hb4⟩ := (hI 68 (by decide) : cp68 (wget w 68))
  obtain ⟨f1_6, f1_8, f1_10, f1_12, f1_14, f1_16, h1_18, hb7, hb9, hb11, hb13, hb15, hb17⟩ := (hI 1 (by decide) : cp1 (wget w 1))
  obtain ⟨f16_19, h16_21, hb20⟩ := (hI 16 (by decide) : cp16 (wget w 16))
  obtain ⟨g17_22, h17_23, hb24⟩ := (hI 17 (by decide) : cpI 60 7 4294967295 (wget w 17))
  have h17_23 : xRow w 17 60 7 g17_22 := h17_23
  obtain ⟨g69_25, h69_26, hb27⟩ := (hI 69 (by decide) : cpI 36 40 4294967295 (wget w 69))
  have h69_26 : xRow w 69 36 40 g69_25 := h69_26
  have q16 : fld w 16 3 = f16_19 := fld_of h16_21
  refine xg_t (xg_blk (b := [(0, 1, 0, 0, 0, 0), (1, 3, 1, 3, 0, 21), (4, 3, 1, 9, 8, 38), (7, 1, 2, 1, 0, 0), (8, 1, 3, 1, 0, 0), (9, 3, 13, 285, 40, 54), (12, 1, 3, 5, 0, 0), (13, 3, 63, 0, 0, 58), (16, 1, 15, 2, 0, 0), (17, 1, 0, 0, 0, 0), (18, 3, 1, 3, 0, 21), (21, 3, 1, 9, 8, 38), (24, 1, 2, 1, 0, 0), (25, 1, 3, 3, 0, 0), (26, 3, 13, 285, 40, 54), (29, 1, 3, 5, 0, 0), (30, 3, 63, 0, 0, 58), (33, 1, 15, 3, 0, 0), (34, 1, 0, 0, 0, 0), (35, 3, 1, 3, 0, 21), (38, 3, 1, 9, 8, 38), (41, 1, 2, 1, 0, 0), (42, 1, 3, 4, 0, 0), (43, 3, 13, 285, 40, 54), (46, 2, 15, 4, 0, 0), (48, 1, 0, 0, 0, 0), (49, 3, 1, 3, 0, 21), (52, 3, 1, 9, 8, 38), (55, 1, 2, 1, 0, 0), (56, 1, 3, 0, 0, 0), (57, 3, 13, 285, 40, 54), (60, 1, 3, 0, 0, 0), (61, 3, 62, 0, 0, 63), (64, 2, 15, 5, 0, 0)]) rfl) ?_
  refine xg_t (xg_aload (va := (2, 68)) rfl rfl) ?_
  refine xg_t (xg_getf (va := (2, 1)) h68_5 rfl) ?_
  refine xg_t (xg_getf (va := (2, 16)) h1_18 rfl) ?_
  refine xg_t (xg_iload (va := (0, kk)) rfl rfl) ?_
  refine xg_t (xg_const) ?_
  refine xg_kE (xg_cVr mX5_get (vs := [(0, kk), (0, 1)]) (rest := []) (rs := [(0, g17_22 (kk * 5 + 1))]) (cn1 := 0) (sl1 := 0) rfl (rgetX (lim := 12) (wd := 5) (sz := f16_19) h16_21 h17_23 (by decide) (by omega) (by decide) (by decide) (by omega) (by decide)) rfl h16_21 rfl rfl rfl rfl rfl rfl rfl) (Nat.lt_succ_of_le ((hb24) _)) (fun z28 hz29 he30 => ?_)
  have hP31 : rwv w 17 (5 * kk + 1) = z28 := by
    rw [rwv_of (j := 5 * kk + 1) h17_23 (by omega), show 5 * kk + 1 = kk * 5 + 1 by omega]
    exact he30
  have hl32 : z28 ≤ 5 := by have q := (hq kk (by omega)).1 1 (by decide); omega
  refine xg_t (xg_const) ?_
  refine xg_minK (u := z28) (v := 5) xnm0 xnm0 xmx_ok (by omega) (by omega) (fun z33 hz34 hz35 hz36 hz37 => ?_)
  unfold xbs at hz35 hz36
  have hm38 : z28 = z33 := by omega
  subst hm38
  refine xg_t (xg_istore (l1 := [(0, (2, 68)), (1, (0, kk))]) rfl rfl rfl) ?_
  refine xg_t (xg_aload (va := (2, 68)) rfl rfl) ?_
  refine xg_t (xg_getf (va := (2, 1)) h68_5 rfl) ?_
  refine xg_t (xg_getf (va := (2, 16)) h1_18 rfl) ?_
  refine xg_t (xg_iload (va := (0, kk)) rfl rfl) ?_
  refine xg_t (xg_const) ?_
  refine xg_kE (xg_cVr mX5_get (vs := [(0, kk), (0, 3)]) (rest := []) (rs := [(0, g17_22 (kk * 5 + 3))]) (cn1 := 0) (sl1 := 0) rfl (rgetX (lim := 12) (wd := 5) (sz := f16_19) h16_21 h17_23 (by decide) (by omega) (by decide) (by decide) (by omega) (by decide)) rfl h16_21 rfl rfl rfl rfl rfl rfl rfl) (Nat.lt_succ_of_le ((hb24) _)) (fun z39 hz40 he41 => ?_)
  have hP42 : rwv w 17 (5 * kk + 3) = z39 := by
    rw [rwv_of (j := 5 * kk + 3) h17_23 (by omega), show 5 * kk + 3 = kk * 5 + 3 by omega]
    exact he41
  have hl43 : z39 ≤ 5 := by have q := (hq kk (by omega)).1 3 (by decide); omega
  refine xg_t (xg_const) ?_
  refine xg_minK (u := z39) (v := 5) xnm0 xnm0 xmx_ok (by omega) (by omega) (fun z44 hz45 hz46 hz47 hz48 => ?_)
  unfold xbs at hz46 hz47
  have hm49 : z39 = z44 := by omega
  subst hm49
  refine xg_t (xg_istore (l1 := [(2, (0, z28)), (0, (2, 68)), (1, (0, kk))]) rfl rfl rfl) ?_
  refine xg_t (xg_aload (va := (2, 68)) rfl rfl) ?_
  refine xg_t (xg_getf (va := (2, 1)) h68_5 rfl) ?_
  refine xg_t (xg_getf (va := (2, 16)) h1_18 rfl) ?_
  refine xg_t (xg_iload (va := (0, kk)) rfl rfl) ?_
  refine xg_t (xg_const) ?_
  refine xg_kE (xg_cVr mX5_get (vs := [(0, kk), (0, 4)]) (rest := []) (rs := [(0, g17_22 (kk * 5 + 4))]) (cn1 := 0) (sl1 := 0) rfl (rgetX (lim := 12) (wd := 5) (sz := f16_19) h16_21 h17_23 (by decide) (by omega) (by decide) (by decide) (by omega) (by decide)) rfl h16_21 rfl rfl rfl rfl rfl rfl rfl) (Nat.lt_succ_of_le ((hb24) _)) (fun z50 hz51 he52 => ?_)
  have hP53 : rwv w 17 (5 * kk + 4) = z50 := by
    rw [rwv_of (j := 5 * kk + 4) h17_23 (by omega), show 5 * kk + 4 = kk * 5 + 4 by omega]
    exact he52
  have hl54 : z50 ≤ 8991 := by have q := (hq kk (by omega)).2; omega
  refine xg_t (xg_istore (l1 := [(3, (0, z39)), (2, (0, z28)), (0, (2, 68)), (1, (0, kk))]) rfl rfl rfl) ?_
  refine xg_t (xg_aload (va := (2, 68)) rfl rfl) ?_
  refine xg_t (xg_getf (va := (2, 1)) h68_5 rfl) ?_
  refine xg_t (xg_getf (va := (2, 16)) h1_18 rfl) ?_
  refine xg_t (xg_iload (va := (0, kk)) rfl rfl) ?_
  refine xg_t (xg_const) ?_
  refine xg_kE (xg_cVr mX5_get (vs := [(0, kk), (0, 0)]) (rest := []) (rs := [(0, g17_22 (kk * 5 + 0))]) (cn1 := 0) (sl1 := 0) rfl (rgetX (lim := 12) (wd := 5) (sz := f16_19) h16_21 h17_23 (by decide) (by omega) (by decide) (by decide) (by omega) (by decide)) rfl h16_21 rfl rfl rfl rfl rfl rfl rfl) (Nat.lt_succ_of_le ((hb24) _)) (fun z55 hz56 he57 => ?_)
  have hP58 : rwv w 17 (5 * kk) = z55 := by
    rw [rwv_of (j := 5 * kk) h17_23 (by omega), show 5 * kk = kk * 5 + 0 by omega]
    exact he57
  have hl59 : z55 ≤ 5 := by have q := (hq kk (by omega)).1 0 (by decide); rw [Nat.add_zero] at q; omega
  refine xg_t (xg_const) ?_
  refine xg_maxK (u := z55) (v := 0) xnm0 xnm0 xmx_ok (by omega) (by omega) (fun z60 hz61 hz62 hz63 hz64 => ?_)
  unfold xbs at hz62 hz63
  have hm65 : z55 = z60 := by omega
  subst hm65
  refine xg_t (xg_istore (l1 := [(4, (0, z50)), (3, (0, z39)), (2, (0, z28)), (0, (2, 68)), (1, (0, kk))]) rfl rfl rfl) ?_
  refine xg_t (xg_drop (l1 := [(0, (2, 68)), (1, (0, kk)), (2, (0, z28)), (3, (0, z39)), (4, (0, z50)), (5, (0, z55))]) (List.forall_mem_cons.mpr ⟨List.mem_cons_of_mem _ (List.mem_cons_of_mem _ (List.mem_cons_of_mem _ (List.mem_cons_of_mem _ (List.mem_cons_self)))), List.forall_mem_cons.mpr ⟨List.mem_cons_of_mem _ (List.mem_cons_of_mem _ (List.mem_cons_of_mem _ (List.mem_cons_of_mem _ (List.mem_cons_of_mem _ (List.mem_cons_self))))), List.forall_mem_cons.mpr ⟨List.mem_cons_of_mem _ (List.mem_cons_of_mem _ (List.mem_cons_of_mem _ (List.mem_cons_self))), List.forall_mem_cons.mpr ⟨List.mem_cons_of_mem _ (List.mem_cons_of_mem _ (List.mem_cons_self)), List.forall_mem_cons.mpr ⟨List.mem_cons_of_mem _ (List.mem_cons_self), List.forall_mem_cons.mpr ⟨List.mem_cons_self, fun _ h => absurd h List.not_mem_nil⟩⟩⟩⟩⟩⟩)) ?_
  have hgo0 : agi (rwv w 69) (rwv w 69) (rwv w 17 (5 * kk)) (rwv w 17 (5 * kk + 2)) (rwv w 17 (5 * kk + 3)) (rwv w 17 (5 * kk + 4)) z55 (rwv w 17 (5 * kk + 2)) := by rw [← hP58]; exact agi_0
  have key66 : ∀ (m68 : Nat) (ro : Nat) (w69 : List (List xE)), 6 - ro < m68 → ro ≤ 6 → xInv w69 → xFr [69] w w69 → agi (rwv w 69) (rwv w69 69) (rwv w 17 (5 * kk)) (rwv w 17 (5 * kk + 2)) (rwv w 17 (5 * kk + 3)) (rwv w 17 (5 * kk + 4)) ro (rwv w 17 (5 * kk + 2)) ∧ (rwv w 17 (5 * kk)) ≤ ro ∧ (ro ≤ (rwv w 17 (5 * kk + 1)) + 1 ∨ ro = (rwv w 17 (5 * kk))) → xTo (d + 2) mX3_addPicture (66, [], [(0, (2, 68)), (1, (0, kk)), (2, (0, z28)), (3, (0, z39)), (4, (0, z50)), (5, (0, ro))], [], (w69, bd, fc, 0, 0, rr)) (fun φ => ∃ w', xEnd 0 [] (w', bd, fc, 0, 0, rr) φ ∧ xInv w' ∧ xFr [69] w w' ∧ (∀ k, k < 36 → rwv w' 69 k = rwv w 69 k + agp (rwv w 17) kk k)) := by
    intro m68
    induction m68 with
    | zero => intro ro w69 hz; exact absurd hz (Nat.not_lt_zero _)
    | succ m68 ih67 =>
      intro ro w69 hm74 hn72 hI70 hF71 he73
      obtain ⟨hgo, hAr, hBr⟩ := he73
      refine xg_t (xg_blk (b := [(66, 2, 2, 5, 0, 0), (68, 1, 2, 2, 0, 0), (69, 3, 6, 126, 4, 0), (72, 1, 0, 0, 0, 0), (73, 3, 1, 3, 0, 21), (76, 3, 1, 9, 8, 38), (79, 1, 2, 1, 0, 0), (80, 1, 3, 2, 0, 0), (81, 3, 13, 285, 40, 54), (84, 1, 3, 0, 0, 0), (85, 3, 62, 0, 0, 63), (88, 2, 15, 6, 0, 0)]) rfl) ?_
      refine xg_t (xg_iload (va := (0, ro)) rfl rfl) ?_
      refine xg_t (xg_iload (va := (0, z28)) rfl rfl) ?_
      by_cases hc75 : z28 < ro
      · refine xg_t (xg_icT (u := ro) (v := z28) rfl xnm0 xnm0 (xj_gtT hc75 (by omega))) ?_
        refine xg_t (xg_blk (b := [(126, 1, 12, 0, 0, 0)]) rfl) ?_
        exact xg_e ⟨w69, ⟨rfl, rfl⟩, hI70, hF71, agi_e (p := kk) hgo (by omega)⟩
      · refine xg_t (xg_icF (u := ro) (v := z28) rfl xnm0 xnm0 (xj_gtF (by omega) (by omega))) ?_
        refine xg_t (xg_aload (va := (2, 68)) rfl rfl) ?_
        refine xg_t (xg_getf (va := (2, 1)) (hF71.get (by decide) h68_5) rfl) ?_
        refine xg_t (xg_getf (va := (2, 16)) (hF71.get (by decide) h1_18) rfl) ?_
        refine xg_t (xg_iload (va := (0, kk)) rfl rfl) ?_
        refine xg_t (xg_const) ?_
        refine xg_kE (xg_cVr mX5_get (vs := [(0, kk), (0, 2)]) (rest := []) (rs := [(0, g17_22 (kk * 5 + 2))]) (cn1 := 0) (sl1 := 0) rfl (rgetX (lim := 12) (wd := 5) (sz := f16_19) (hF71.get (by decide) h16_21) (h17_23.fr hF71 (by decide)) (by decide) (by omega) (by decide) (by decide) (by omega) (by decide)) rfl (hF71.get (by decide) h16_21) rfl rfl rfl rfl rfl rfl rfl) (Nat.lt_succ_of_le ((hb24) _)) (fun z76 hz77 he78 => ?_)
        have hP79 : rwv w 17 (5 * kk + 2) = z76 := by
          rw [rwv_of (j := 5 * kk + 2) h17_23 (by omega), show 5 * kk + 2 = kk * 5 + 2 by omega]
          exact he78
        have hl80 : z76 ≤ 5 := by have q := (hq kk (by omega)).1 2 (by decide); omega
        refine xg_t (xg_const) ?_
        refine xg_maxK (u := z76) (v := 0) xnm0 xnm0 xmx_ok (by omega) (by omega) (fun z81 hz82 hz83 hz84 hz85 => ?_)
        unfold xbs at hz83 hz84
        have hm86 : z76 = z81 := by omega
        subst hm86
        refine xg_t (xg_istore (l1 := [(0, (2, 68)), (1, (0, kk)), (2, (0, z28)), (3, (0, z39)), (4, (0, z50)), (5, (0, ro))]) rfl rfl rfl) ?_
        refine xg_t (xg_drop (l1 := [(0, (2, 68)), (1, (0, kk)), (2, (0, z28)), (3, (0, z39)), (4, (0, z50)), (5, (0, ro)), (6, (0, z76))]) (List.forall_mem_cons.mpr ⟨List.mem_cons_of_mem _ (List.mem_cons_self), List.forall_mem_cons.mpr ⟨List.mem_cons_of_mem _ (List.mem_cons_of_mem _ (List.mem_cons_self)), List.forall_mem_cons.mpr ⟨List.mem_cons_of_mem _ (List.mem_cons_of_mem _ (List.mem_cons_of_mem _ (List.mem_cons_self))), List.forall_mem_cons.mpr ⟨List.mem_cons_of_mem _ (List.mem_cons_of_mem _ (List.mem_cons_of_mem _ (List.mem_cons_of_mem _ (List.mem_cons_self)))), List.forall_mem_cons.mpr ⟨List.mem_cons_of_mem _ (List.mem_cons_of_mem _ (List.mem_cons_of_mem _ (List.mem_cons_of_mem _ (List.mem_cons_of_mem _ (List.mem_cons_self))))), List.forall_mem_cons.mpr ⟨List.mem_cons_of_mem _ (List.mem_cons_of_mem _ (List.mem_cons_of_mem _ (List.mem_cons_of_mem _ (List.mem_cons_of_mem _ (List.mem_cons_of_mem _ (List.mem_cons_self)))))), List.forall_mem_cons.mpr ⟨List.mem_cons_self, fun _ h => absurd h List.not_mem_nil⟩⟩⟩⟩⟩⟩⟩)) ?_
        have hgi0 : agi (rwv w 69) (rwv w69 69) (rwv w 17 (5 * kk)) (rwv w 17 (5 * kk + 2)) (rwv w 17 (5 * kk + 3)) (rwv w 17 (5 * kk + 4)) ro z76 := by rw [← hP79]; exact hgo
        have key87 : ∀ (m89 : Nat) (co : Nat) (w90 : List (List xE)), 6 - co < m89 → co ≤ 6 → xInv w90 → xFr [69] w w90 → agi (rwv w 69) (rwv w90 69) (rwv w 17 (5 * kk)) (rwv w 17 (5 * kk + 2)) (rwv w 17 (5 * kk + 3)) (rwv w 17 (5 * kk + 4)) ro co ∧ (rwv w 17 (5 * kk + 2)) ≤ co ∧ (co ≤ (rwv w 17 (5 * kk + 3)) + 1 ∨ co = (rwv w 17 (5 * kk + 2))) → xTo (d + 2) mX3_addPicture (90, [], [(0, (2, 68)), (1, (0, kk)), (2, (0, z28)), (3, (0, z39)), (4, (0, z50)), (5, (0, ro)), (6, (0, co))], [], (w90, bd, fc, 0, 0, rr)) (fun φ => ∃ w', xEnd 0 [] (w', bd, fc, 0, 0, rr) φ ∧ xInv w' ∧ xFr [69] w w' ∧ (∀ k, k < 36 → rwv w' 69 k = rwv w 69 k + agp (rwv w 17) kk k)) := by
          intro m89
          induction m89 with
          | zero => intro co w90 hz; exact absurd hz (Nat.not_lt_zero _)
          | succ m89 ih88 =>
            intro co w90 hm95 hn93 hI91 hF92 he94
            obtain ⟨hgi, hCc, hDc⟩ := he94
            obtain ⟨g69_96, h69_97, hb98⟩ := (hI91 69 (by decide) : cpI 36 40 4294967295 (wget w90 69))
            have h69_97 : xRow w90 69 36 40 g69_96 := h69_97
            refine xg_t (xg_blk (b := [(90, 2, 2, 6, 0, 0), (92, 1, 2, 3, 0, 0), (93, 3, 6, 120, 4, 0), (96, 1, 0, 0, 0, 0), (97, 3, 1, 3, 1, 9), (100, 2, 2, 5, 0, 0), (102, 2, 4, 6, 0, 0), (104, 1, 16, 0, 0, 0), (105, 2, 2, 6, 0, 0), (107, 1, 11, 0, 0, 0), (108, 1, 39, 0, 0, 0), (109, 1, 10, 0, 0, 0), (110, 2, 2, 4, 0, 0), (112, 1, 11, 0, 0, 0), (113, 1, 17, 0, 0, 0), (114, 3, 9, 6, 1, 0), (117, 3, 8, 90, 0, 0)]) rfl) ?_
            refine xg_t (xg_iload (va := (0, co)) rfl rfl) ?_
            refine xg_t (xg_iload (va := (0, z39)) rfl rfl) ?_
            by_cases hc99 : z39 < co
            · refine xg_t (xg_icT (u := co) (v := z39) rfl xnm0 xnm0 (xj_gtT hc99 (by omega))) ?_
              refine xg_t (xg_blk (b := [(120, 3, 9, 5, 1, 0), (123, 3, 8, 66, 0, 0)]) rfl) ?_
              refine xg_t (xg_iinc (u := ro) (z := ro + 1) (l1 := [(0, (2, 68)), (1, (0, kk)), (2, (0, z28)), (3, (0, z39)), (4, (0, z50)), (6, (0, co))]) rfl rfl (by omega) rfl) ?_
              refine xg_t (xg_goto) ?_
              refine xg_t (xg_drop (l1 := [(0, (2, 68)), (1, (0, kk)), (2, (0, z28)), (3, (0, z39)), (4, (0, z50)), (5, (0, ro + 1))]) (List.forall_mem_cons.mpr ⟨List.mem_cons_of_mem _ (List.mem_cons_self), List.forall_mem_cons.mpr ⟨List.mem_cons_of_mem _ (List.mem_cons_of_mem _ (List.mem_cons_self)), List.forall_mem_cons.mpr ⟨List.mem_cons_of_mem _ (List.mem_cons_of_mem _ (List.mem_cons_of_mem _ (List.mem_cons_self))), List.forall_mem_cons.mpr ⟨List.mem_cons_of_mem _ (List.mem_cons_of_mem _ (List.mem_cons_of_mem _ (List.mem_cons_of_mem _ (List.mem_cons_self)))), List.forall_mem_cons.mpr ⟨List.mem_cons_of_mem _ (List.mem_cons_of_mem _ (List.mem_cons_of_mem _ (List.mem_cons_of_mem _ (List.mem_cons_of_mem _ (List.mem_cons_self))))), List.forall_mem_cons.mpr ⟨List.mem_cons_self, fun _ h => absurd h List.not_mem_nil⟩⟩⟩⟩⟩⟩)) ?_
              exact ih67 (ro + 1) w90 (by omega) (by omega) (hI91) (hF92) (⟨agi_r hgi (by omega) (by omega), by omega, by omega⟩)
            · refine xg_t (xg_icF (u := co) (v := z39) rfl xnm0 xnm0 (xj_gtF (by omega) (by omega))) ?_
              refine xg_t (xg_aload (va := (2, 68)) rfl rfl) ?_
              refine xg_t (xg_getf (va := (2, 69)) (hF92.get (by decide) h68_5) rfl) ?_
              refine xg_t (xg_iload (va := (0, ro)) rfl rfl) ?_
              refine xg_t (xg_bip) ?_
              refine xg_t (xg_imul (u := ro) (v := 6) (z := ro * 6) xnm0 xnm0 (by omega)) ?_
              refine xg_t (xg_iload (va := (0, co)) rfl rfl) ?_
              refine xg_t (xg_iadd (u := ro * 6) (v := co) (z := (ro * 6) + co) xnm0 xnm0 (by omega)) ?_
              refine xg_t (xg_dup2 rfl) ?_
              refine xg_ialdB (n := (ro * 6) + co) (B := 4294967295) h69_97 (hb98) xnm0 (by omega) (fun u100 hu101 he102 => ?_)
              have hu103 : rwv w90 69 (6 * ro + co) = u100 := by
                rw [rwv_of (j := 6 * ro + co) h69_97 (by omega), show 6 * ro + co = (ro * 6) + co by omega]
                exact he102
              have hl104 : u100 ≤ 107892 := by
                have q1 := hgi (6 * ro + co) (by omega)
                have q2 := hA (6 * ro + co) (by omega)
                omega
              refine xg_t (xg_iload (va := (0, z50)) rfl rfl) ?_
              refine xg_t (xg_iadd (u := u100) (v := z50) (z := u100 + z50) xnm0 xnm0 (by omega)) ?_
              refine xg_iastK (n := (ro * 6) + co) (u := u100 + z50) h69_97 xnm0 xnm0 rfl (by omega) (fun w105 hr106 hb107 => ?_)
              obtain ⟨g108, hg109⟩ : ∃ g : Nat → Nat, g = (fun j => if j = (ro * 6) + co then u100 + z50 else g69_96 j) := ⟨_, rfl⟩
              rw [← hg109] at hr106
              have he110 : g108 ((ro * 6) + co) = u100 + z50 := by rw [hg109]; exact if_pos rfl
              have hk111 : ∀ j, j ≠ (ro * 6) + co → g108 j = g69_96 j := fun j hj => by rw [hg109]; exact if_neg hj
              have hb112 : ∀ j, g108 j ≤ 4294967295 := fun j => by rw [hg109]; exact xrb (by omega) (hb98) j
              refine xg_t (xg_iinc (u := co) (z := co + 1) (l1 := [(0, (2, 68)), (1, (0, kk)), (2, (0, z28)), (3, (0, z39)), (4, (0, z50)), (5, (0, ro))]) rfl rfl (by omega) rfl) ?_
              refine xg_t (xg_goto) ?_
              refine xg_t (xg_drop (l1 := [(0, (2, 68)), (1, (0, kk)), (2, (0, z28)), (3, (0, z39)), (4, (0, z50)), (5, (0, ro)), (6, (0, co + 1))]) (List.forall_mem_cons.mpr ⟨List.mem_cons_of_mem _ (List.mem_cons_self), List.forall_mem_cons.mpr ⟨List.mem_cons_of_mem _ (List.mem_cons_of_mem _ (List.mem_cons_self)), List.forall_mem_cons.mpr ⟨List.mem_cons_of_mem _ (List.mem_cons_of_mem _ (List.mem_cons_of_mem _ (List.mem_cons_self))), List.forall_mem_cons.mpr ⟨List.mem_cons_of_mem _ (List.mem_cons_of_mem _ (List.mem_cons_of_mem _ (List.mem_cons_of_mem _ (List.mem_cons_self)))), List.forall_mem_cons.mpr ⟨List.mem_cons_of_mem _ (List.mem_cons_of_mem _ (List.mem_cons_of_mem _ (List.mem_cons_of_mem _ (List.mem_cons_of_mem _ (List.mem_cons_self))))), List.forall_mem_cons.mpr ⟨List.mem_cons_of_mem _ (List.mem_cons_of_mem _ (List.mem_cons_of_mem _ (List.mem_cons_of_mem _ (List.mem_cons_of_mem _ (List.mem_cons_of_mem _ (List.mem_cons_self)))))), List.forall_mem_cons.mpr ⟨List.mem_cons_self, fun _ h => absurd h List.not_mem_nil⟩⟩⟩⟩⟩⟩⟩)) ?_
              have hk113 : agi (rwv w 69) (rwv w105 69) (rwv w 17 (5 * kk)) (rwv w 17 (5 * kk + 2)) (rwv w 17 (5 * kk + 3)) (rwv w 17 (5 * kk + 4)) ro (co + 1) := agi_s hgi (by omega) (by omega) (by omega) (by
                rw [hu103, hP53, rwv_of (j := 6 * ro + co) hr106 (by omega), show 6 * ro + co = (ro * 6) + co by omega, he110]) (fun k hk hne => by
                rw [rwv_of (j := k) hr106 (by omega), hk111 k (by omega), ← rwv_of (j := k) h69_97 (by omega)])
              exact ih88 (co + 1) w105 (by omega) (by omega) (xInv.up (S := [69]) hI91 (xFr.of (S := [69]) hb107 (by decide)) (List.forall_mem_cons.mpr ⟨(show cpI 36 40 4294967295 (wget w105 69) from ⟨_, hr106, hb112⟩), fun _ h => absurd h List.not_mem_nil⟩)) ((hF92.tr (xFr.of (S := [69]) hb107 (by decide)))) (⟨hk113, by omega, by omega⟩)
        exact key87 _ z76 w69 (Nat.lt_succ_self _) (by omega) (hI70) (hF71) (⟨hgi0, by omega, Or.inr (by omega)⟩)
  exact key66 _ z55 w (Nat.lt_succ_self _) (by omega) (hI) (xFr.rf) (⟨hgo0, by omega, Or.inr (by omega)⟩)
theorem lmRefreshAX (hI : xInv w) (hq : ∀ p, p < fld w 16 3 → (∀ t, t < 4 → rwv w 17 (5 * p + t) ≤ 5) ∧ rwv w 17 (5 * p + 4) ≤ 8991) (hfr : fld w 68 4 = 1 → ∀ k, k < 36 → rwv w 69 k = ag (rwv w 17) (fld w 16 3) k) : xPq (d + 3) mX3_refreshAges [(2, 68)] w bd fc rr [] (fun w' => xInv w' ∧ xFr [68, 69] w w' ∧ ((∀ k, k < 36 → rwv w' 69 k = ag (rwv w 17) (fld w 16 3) k) ∧ fld w' 68 4 = 1 ∧ fld w' 68 5 = fld w 68 5)) := by
  refine xPq.of ?_
  show xTo (d + 3) mX3_refreshAges (0, [], [(0, (2, 68))], [], (w, bd, fc, 0, 0, rr)) (fun φ => ∃ w', xEnd 0 [] (w', bd, fc, 0, 0, rr) φ ∧ xInv w' ∧ xFr [68, 69] w w' ∧ ((∀ k, k < 36 → rwv w' 69 k = ag (rwv w 17) (fld w 16 3) k) ∧ fld w' 68 4 = 1 ∧ fld w' 68 5 = fld w 68 5))
  obtain ⟨f68_1, f68_3, h68_5, hb2, hb4⟩ := (hI 68 (by decide) : cp68 (wget w 68))
  obtain ⟨f1_6, f1_8, f1_10, f1_12, f1_14, f1_16, h1_18, hb7, hb9, hb11, hb13, hb15, hb17⟩ := (hI 1 (by decide) : cp1 (wget w 1))
  obtain ⟨f16_19, h16_21, hb20⟩ := (hI 16 (by decide) : cp16 (wget w 16))
  obtain ⟨g17_22, h17_23, hb24⟩ := (hI 17 (by decide) : cpI 60 7 4294967295 (wget w 17))
  have h17_23 : xRow w 17 60 7 g17_22 := h17_23
  obtain ⟨g69_25, h69_26, hb27⟩ := (hI 69 (by decide) : cpI 36 40 4294967295 (wget w 69))
  have h69_26 : xRow w 69 36 40 g69_25 := h69_26
  have q16 : fld w 16 3 = f16_19 := fld_of h16_21
  have q684 : fld w 68 4 = f68_1 := fld_of h68_5
  have q685 : fld w 68 5 = f68_3 := fld_of h68_5
  refine xg_t (xg_blk (b := [(0, 1, 0, 0, 0, 0), (1, 3, 1, 3, 4, 25), (4, 3, 7, 8, 0, 0), (7, 1, 12, 0, 0, 0)]) rfl) ?_
  refine xg_t (xg_aload (va := (2, 68)) rfl rfl) ?_
  refine xg_t (xg_getf (va := (0, f68_1)) h68_5 rfl) ?_
  by_cases hc28 : f68_1 = 0
  · refine xg_t (xg_ifT (u := f68_1) rfl xnm0 (xj_eqT hc28)) ?_
    refine xg_t (xg_blk (b := [(8, 1, 0, 0, 0, 0), (9, 3, 1, 3, 1, 9), (12, 1, 3, 0, 0, 0), (13, 3, 13, 1, 2, 32), (16, 1, 3, 0, 0, 0), (17, 1, 15, 1, 0, 0)]) rfl) ?_
    refine xg_t (xg_aload (va := (2, 68)) rfl rfl) ?_
    refine xg_t (xg_getf (va := (2, 69)) h68_5 rfl) ?_
    refine xg_t (xg_const) ?_
    refine xg_cS mJ7_fill_53178 (vs := [(2, 69), (0, 0)]) (rest := []) (rs := []) (cn1 := 0) (sl1 := 0) rfl (fillI (v := 0) h69_26 (by decide)) rfl rfl rfl rfl rfl rfl rfl rfl (fun w29 hq30 => ?_)
    refine xg_t (xg_const) ?_
    refine xg_t (xg_istore (l1 := [(0, (2, 68))]) rfl rfl rfl) ?_
    refine xg_t (xg_drop (l1 := [(0, (2, 68)), (1, (0, 0))]) (List.forall_mem_cons.mpr ⟨List.mem_cons_of_mem _ (List.mem_cons_self), List.forall_mem_cons.mpr ⟨List.mem_cons_self, fun _ h => absurd h List.not_mem_nil⟩⟩)) ?_
    have key31 : ∀ (m33 : Nat) (ki : Nat) (w34 : List (List xE)), 12 - ki < m33 → ki ≤ 12 → xInv w34 → xFr [68, 69] w w34 → (∀ k, k < 36 → rwv w34 69 k = ag (rwv w 17) ki k) ∧ fld w34 68 5 = fld w 68 5 ∧ ki ≤ fld w 16 3 → xTo (d + 3) mX3_refreshAges (18, [], [(0, (2, 68)), (1, (0, ki))], [], (w34, bd, fc, 0, 0, rr)) (fun φ => ∃ w', xEnd 0 [] (w', bd, fc, 0, 0, rr) φ ∧ xInv w' ∧ xFr [68, 69] w w' ∧ ((∀ k, k < 36 → rwv w' 69 k = ag (rwv w 17) (fld w 16 3) k) ∧ fld w' 68 4 = 1 ∧ fld w' 68 5 = fld w 68 5)) := by
      intro m33
      induction m33 with
      | zero => intro ki w34 hz; exact absurd hz (Nat.not_lt_zero _)
      | succ m33 ih32 =>
        intro ki w34 hm39 hn37 hI35 hF36 he38
        obtain ⟨hag, h685, hkn⟩ := he38
        obtain ⟨f68_40, f68_42, h68_44, hb41, hb43⟩ := (hI35 68 (by decide) : cp68 (wget w34 68))
        have q685b : fld w34 68 5 = f68_42 := fld_of h68_44
        refine xg_t (xg_blk (b := [(18, 1, 2, 1, 0, 0), (19, 1, 0, 0, 0, 0), (20, 3, 1, 3, 0, 21), (23, 3, 1, 9, 8, 38), (26, 3, 1, 5, 3, 44), (29, 3, 6, 43, 3, 0), (32, 1, 0, 0, 0, 0), (33, 1, 2, 1, 0, 0), (34, 3, 13, 255, 24, 50), (37, 3, 9, 1, 1, 0), (40, 3, 8, 18, 0, 0)]) rfl) ?_
        refine xg_t (xg_iload (va := (0, ki)) rfl rfl) ?_
        refine xg_t (xg_aload (va := (2, 68)) rfl rfl) ?_
        refine xg_t (xg_getf (va := (2, 1)) h68_44 rfl) ?_
        refine xg_t (xg_getf (va := (2, 16)) (hF36.get (by decide) h1_18) rfl) ?_
        refine xg_t (xg_getf (va := (0, f16_19)) (hF36.get (by decide) h16_21) rfl) ?_
        by_cases hc45 : ki < f16_19
        · refine xg_t (xg_icF (u := ki) (v := f16_19) rfl xnm0 xnm0 (xj_geF hc45 (by omega))) ?_
          refine xg_t (xg_aload (va := (2, 68)) rfl rfl) ?_
          refine xg_t (xg_iload (va := (0, ki)) rfl rfl) ?_
          have hf46 : xFr [68, 69] w w34 := hF36
          have e1747 : rwv w34 17 = rwv w 17 := rwf_eq (hf46.1 17 (by decide))
          have e1648 : fld w34 16 3 = fld w 16 3 := fld_fr hf46 (by decide)
          have hA49 : ∀ k, k < 36 → rwv w34 69 k ≤ 98901 := fun k hk => by
            rw [hag k hk]
            have q := ag_le (P := rwv w 17) (n := ki) (k := k) (B := 8991) (fun p hp => (hq p (by omega)).2)
            omega
          refine xg_cVv mX3_addPicture (vs := [(0, ki)]) (rest := []) (cn1 := 0) (sl1 := 0) rfl (lmAddX (hI35) (by omega) (by rw [e1648, e1747]; exact hq) hA49) rfl h68_44 rfl rfl rfl rfl rfl rfl (fun w50 hq51 => ?_)
          obtain ⟨hI52, hF53, hx54⟩ := hq51
          rw [e1747] at hx54
          refine xg_t (xg_iinc (u := ki) (z := ki + 1) (l1 := [(0, (2, 68))]) rfl rfl (by omega) rfl) ?_
          refine xg_t (xg_goto) ?_
          refine xg_t (xg_drop (l1 := [(0, (2, 68)), (1, (0, ki + 1))]) (List.forall_mem_cons.mpr ⟨List.mem_cons_of_mem _ (List.mem_cons_self), List.forall_mem_cons.mpr ⟨List.mem_cons_self, fun _ h => absurd h List.not_mem_nil⟩⟩)) ?_
          have hk55 : ∀ k, k < 36 → rwv w50 69 k = ag (rwv w 17) (ki + 1) k := fun k hk => by
            rw [hx54 k hk, hag k hk]
            rfl
          exact ih32 (ki + 1) w50 (by omega) (by omega) (hI52) ((hF36.tr (hF53.up (by decide)))) (⟨hk55, (fld_of (hF53.get (by decide) h68_44)).trans (q685b.symm.trans h685), by omega⟩)
        · refine xg_t (xg_icT (u := ki) (v := f16_19) rfl xnm0 xnm0 (xj_geT (by omega) (by omega))) ?_
          refine xg_t (xg_blk (b := [(43, 1, 0, 0, 0, 0), (44, 1, 3, 1, 0, 0), (45, 3, 59, 3, 4, 25), (48, 1, 12, 0, 0, 0)]) rfl) ?_
          refine xg_t (xg_aload (va := (2, 68)) rfl rfl) ?_
          refine xg_t (xg_const) ?_
          refine xg_putZ (fl1 := [(2, 1), (2, 69), (2, 70), (2, 71), (0, 1), (0, f68_42)]) h68_44 rfl rfl rfl (fun w56 hk57 hb58 => ?_)
          obtain ⟨g69_59, h69_60, hb61⟩ := (hI35 69 (by decide) : cpI 36 40 4294967295 (wget w34 69))
          have h69_60 : xRow w34 69 36 40 g69_59 := h69_60
          have hk62 : ∀ k, k < 36 → rwv w56 69 k = ag (rwv w 17) (fld w 16 3) k := fun k hk => by
            rw [rwv_eq (hb58.1 69 (by decide)), hag k hk, show ki = fld w 16 3 by omega]
          exact xg_e ⟨w56, ⟨rfl, rfl⟩, xInv.up (S := [68]) hI35 (xFr.of (S := [68]) hb58 (by decide)) (List.forall_mem_cons.mpr ⟨(show cp68 (wget w56 68) from ⟨1, f68_42, hk57, by omega, by omega⟩), fun _ h => absurd h List.not_mem_nil⟩), (hF36.tr (xFr.of (S := [68, 69]) hb58 (by decide))), ⟨hk62, fld_of hk57, (fld_of hk57).trans (q685b.symm.trans h685)⟩⟩
    exact key31 _ 0 w29 (Nat.lt_succ_self _) (by omega) (xInv.up (S := [69]) hI (xFr.of (S := [69]) hq30.2 (by decide)) (List.forall_mem_cons.mpr ⟨(show cpI 36 40 4294967295 (wget w29 69) from ⟨_, hq30.1, fun _ => (by omega : 0 ≤ 4294967295)⟩), fun _ h => absurd h List.not_mem_nil⟩)) ((xFr.of (S := [68, 69]) hq30.2 (by decide))) (⟨fun k hk => (rwv_of hq30.1 (by omega)).trans rfl, (fld_of (hq30.2.get (by decide) h68_5)).trans q685.symm, Nat.zero_le _⟩)
  · refine xg_t (xg_ifF (u := f68_1) rfl xnm0 (xj_eqF hc28)) ?_
    exact xg_e ⟨w, ⟨rfl, rfl⟩, hI, xFr.rf, ⟨hfr (by omega), by omega, rfl⟩⟩
end XAG
