/-! the plan: a method that calls itself -/
section XPN
variable {d : Nat} {w : List (List xE)} {bd : List (Nat × Nat)} {fc : List (Nat × Nat × Bool)} {rr : Nat × Nat}
theorem shPlanPiece : ∀ (k : Nat) {w : List (List xE)} {xx yy wi hi dp : Nat}, xInv w → xx ≤ 4294967295 → yy ≤ 4294967295 → wi ≤ 4294967295 → hi ≤ 4294967295 → dp + k = 22 → xPq (d + k + 3) mX7_planPiece [(2, 72), (0, xx), (0, yy), (0, wi), (0, hi), (0, dp)] w bd fc rr [] (fun w' => xInv w' ∧ xFr [74, 75] w w') := by
  intro k
  induction k with
  | zero =>
    intro w xx yy wi hi dp hI h1 h2 h3 h4 h5
    refine xPq.of ?_
    show xTo (d + 0 + 3) mX7_planPiece (0, [], [(0, (2, 72)), (1, (0, xx)), (2, (0, yy)), (3, (0, wi)), (4, (0, hi)), (5, (0, dp))], [], (w, bd, fc, 0, 0, rr)) (fun φ => ∃ w', xEnd 0 [] (w', bd, fc, 0, 0, rr) φ ∧ xInv w' ∧ xFr [74, 75] w w')
    refine xg_t (xg_blk (b := [(0, 1, 0, 0, 0, 0), (1, 1, 2, 1, 0, 0), (2, 1, 2, 2, 0, 0), (3, 1, 2, 3, 0, 0), (4, 2, 2, 4, 0, 0), (6, 3, 13, 310, 56, 95), (9, 2, 15, 6, 0, 0), (11, 2, 2, 6, 0, 0), (13, 3, 7, 23, 0, 0), (16, 2, 2, 5, 0, 0), (18, 2, 4, 20, 0, 0), (20, 3, 6, 24, 5, 0)]) rfl) ?_
    refine xg_t (xg_aload (va := (2, 72)) rfl rfl) ?_
    refine xg_t (xg_iload (va := (0, xx)) rfl rfl) ?_
    refine xg_t (xg_iload (va := (0, yy)) rfl rfl) ?_
    refine xg_t (xg_iload (va := (0, wi)) rfl rfl) ?_
    refine xg_t (xg_iload (va := (0, hi)) rfl rfl) ?_
    obtain ⟨f72_1, f72_3, h72_5, hb2, hb4⟩ := (hI 72 (by decide) : cp72 (wget w 72))
    refine xg_cVi mX7_worthOf (vs := [(0, xx), (0, yy), (0, wi), (0, hi)]) (rest := []) (cn1 := 0) (sl1 := 0) rfl (shWorthOf (hI) (by omega) (by omega) (by omega) (by omega)) rfl h72_5 rfl rfl rfl rfl rfl rfl (fun n10 w6 hq7 => ?_)
    obtain ⟨hn11, hI8, hF9⟩ := hq7
    refine xg_t (xg_istore (l1 := [(0, (2, 72)), (1, (0, xx)), (2, (0, yy)), (3, (0, wi)), (4, (0, hi)), (5, (0, dp))]) rfl rfl rfl) ?_
    refine xg_t (xg_iload (va := (0, n10)) rfl rfl) ?_
    by_cases hc12 : n10 = 0
    · refine xg_t (xg_ifT (u := n10) rfl xnm0 (xj_eqT hc12)) ?_
      refine xg_t (xg_blk (b := [(23, 1, 12, 0, 0, 0)]) rfl) ?_
      exact xg_e ⟨w6, ⟨rfl, rfl⟩, hI8, (hF9.up (by decide))⟩
    · refine xg_t (xg_ifF (u := n10) rfl xnm0 (xj_eqF hc12)) ?_
      refine xg_t (xg_iload (va := (0, dp)) rfl rfl) ?_
      refine xg_t (xg_bip) ?_
      refine xg_t (xg_icF (u := dp) (v := 20) rfl xnm0 xnm0 (xj_leF (by omega) (by omega))) ?_
      refine xg_t (xg_blk (b := [(23, 1, 12, 0, 0, 0)]) rfl) ?_
      exact xg_e ⟨w6, ⟨rfl, rfl⟩, hI8, (hF9.up (by decide))⟩
  | succ k ih =>
    intro w xx yy wi hi dp hI h1 h2 h3 h4 h5
    refine xPq.of ?_
    show xTo (d + (k + 1) + 3) mX7_planPiece (0, [], [(0, (2, 72)), (1, (0, xx)), (2, (0, yy)), (3, (0, wi)), (4, (0, hi)), (5, (0, dp))], [], (w, bd, fc, 0, 0, rr)) (fun φ => ∃ w', xEnd 0 [] (w', bd, fc, 0, 0, rr) φ ∧ xInv w' ∧ xFr [74, 75] w w')
    refine xg_t (xg_blk (b := [(0, 1, 0, 0, 0, 0), (1, 1, 2, 1, 0, 0), (2, 1, 2, 2, 0, 0), (3, 1, 2, 3, 0, 0), (4, 2, 2, 4, 0, 0), (6, 3, 13, 310, 56, 95), (9, 2, 15, 6, 0, 0), (11, 2, 2, 6, 0, 0), (13, 3, 7, 23, 0, 0), (16, 2, 2, 5, 0, 0), (18, 2, 4, 20, 0, 0), (20, 3, 6, 24, 5, 0)]) rfl) ?_
    refine xg_t (xg_aload (va := (2, 72)) rfl rfl) ?_
    refine xg_t (xg_iload (va := (0, xx)) rfl rfl) ?_
    refine xg_t (xg_iload (va := (0, yy)) rfl rfl) ?_
    refine xg_t (xg_iload (va := (0, wi)) rfl rfl) ?_
    refine xg_t (xg_iload (va := (0, hi)) rfl rfl) ?_
    obtain ⟨f72_1, f72_3, h72_5, hb2, hb4⟩ := (hI 72 (by decide) : cp72 (wget w 72))
    refine xg_cVi mX7_worthOf (vs := [(0, xx), (0, yy), (0, wi), (0, hi)]) (rest := []) (cn1 := 0) (sl1 := 0) rfl (shWorthOf (hI) (by omega) (by omega) (by omega) (by omega)) rfl h72_5 rfl rfl rfl rfl rfl rfl (fun n10 w6 hq7 => ?_)
    obtain ⟨hn11, hI8, hF9⟩ := hq7
    refine xg_t (xg_istore (l1 := [(0, (2, 72)), (1, (0, xx)), (2, (0, yy)), (3, (0, wi)), (4, (0, hi)), (5, (0, dp))]) rfl rfl rfl) ?_
    refine xg_t (xg_iload (va := (0, n10)) rfl rfl) ?_
    by_cases hc12 : n10 = 0
    · refine xg_t (xg_ifT (u := n10) rfl xnm0 (xj_eqT hc12)) ?_
      refine xg_t (xg_blk (b := [(23, 1, 12, 0, 0, 0)]) rfl) ?_
      exact xg_e ⟨w6, ⟨rfl, rfl⟩, hI8, (hF9.up (by decide))⟩
    · refine xg_t (xg_ifF (u := n10) rfl xnm0 (xj_eqF hc12)) ?_
      refine xg_t (xg_iload (va := (0, dp)) rfl rfl) ?_
      refine xg_t (xg_bip) ?_
      by_cases hc13 : 20 < dp
      · refine xg_t (xg_icF (u := dp) (v := 20) rfl xnm0 xnm0 (xj_leF hc13 (by omega))) ?_
        refine xg_t (xg_blk (b := [(23, 1, 12, 0, 0, 0)]) rfl) ?_
        exact xg_e ⟨w6, ⟨rfl, rfl⟩, hI8, (hF9.up (by decide))⟩
      · refine xg_t (xg_icT (u := dp) (v := 20) rfl xnm0 xnm0 (xj_leT (by omega) (by omega))) ?_
        refine xg_t (xg_blk (b := [(24, 1, 0, 0, 0, 0), (25, 1, 2, 3, 0, 0), (26, 2, 2, 4, 0, 0), (28, 3, 13, 311, 56, 42), (31, 2, 2, 6, 0, 0), (33, 3, 6, 60, 1, 0), (36, 1, 0, 0, 0, 0), (37, 1, 2, 1, 0, 0), (38, 1, 2, 2, 0, 0), (39, 1, 2, 3, 0, 0), (40, 2, 2, 4, 0, 0), (42, 3, 13, 301, 56, 50), (45, 3, 7, 60, 1, 0), (48, 1, 0, 0, 0, 0), (49, 1, 2, 1, 0, 0), (50, 1, 2, 2, 0, 0), (51, 1, 2, 3, 0, 0), (52, 2, 2, 4, 0, 0), (54, 2, 2, 6, 0, 0), (56, 3, 13, 305, 56, 98), (59, 1, 12, 0, 0, 0)]) rfl) ?_
        refine xg_t (xg_aload (va := (2, 72)) rfl rfl) ?_
        refine xg_t (xg_iload (va := (0, wi)) rfl rfl) ?_
        refine xg_t (xg_iload (va := (0, hi)) rfl rfl) ?_
        refine xg_cVi mX7_worthOfSize (vs := [(0, wi), (0, hi)]) (rest := []) (cn1 := 0) (sl1 := 0) rfl (shWorthOfSize (hI8) (by omega) (by omega)) rfl (hF9.get (by decide) h72_5) rfl rfl rfl rfl rfl rfl (fun n18 w14 hq15 => ?_)
        obtain ⟨hn19, hI16, hF17⟩ := hq15
        refine xg_t (xg_iload (va := (0, n10)) rfl rfl) ?_
        by_cases hc20 : n18 = n10
        · refine xg_t (xg_icF (u := n18) (v := n10) rfl xnm0 xnm0 (xj_neF hc20)) ?_
          refine xg_t (xg_aload (va := (2, 72)) rfl rfl) ?_
          refine xg_t (xg_iload (va := (0, xx)) rfl rfl) ?_
          refine xg_t (xg_iload (va := (0, yy)) rfl rfl) ?_
          refine xg_t (xg_iload (va := (0, wi)) rfl rfl) ?_
          refine xg_t (xg_iload (va := (0, hi)) rfl rfl) ?_
          refine xg_cVi mX7_hasFlaw (vs := [(0, xx), (0, yy), (0, wi), (0, hi)]) (rest := []) (cn1 := 0) (sl1 := 0) rfl (shHasFlaw (hI16) (by omega) (by omega) (by omega) (by omega)) rfl (hF17.get (by decide) (hF9.get (by decide) h72_5)) rfl rfl rfl rfl rfl rfl (fun n25 w21 hq22 => ?_)
          obtain ⟨hn26, hI23, hF24⟩ := hq22
          by_cases hc27 : n25 = 0
          · refine xg_t (xg_ifF (u := n25) rfl xnm0 (xj_neF hc27)) ?_
            refine xg_t (xg_aload (va := (2, 72)) rfl rfl) ?_
            refine xg_t (xg_iload (va := (0, xx)) rfl rfl) ?_
            refine xg_t (xg_iload (va := (0, yy)) rfl rfl) ?_
            refine xg_t (xg_iload (va := (0, wi)) rfl rfl) ?_
            refine xg_t (xg_iload (va := (0, hi)) rfl rfl) ?_
            refine xg_t (xg_iload (va := (0, n10)) rfl rfl) ?_
            refine xg_cVv mX7_planPanel (vs := [(0, xx), (0, yy), (0, wi), (0, hi), (0, n10)]) (rest := []) (cn1 := 0) (sl1 := 0) rfl (shPlanPanel (hI23) (by omega) (by omega) (by omega) (by omega) (by omega)) rfl (hF24.get (by decide) (hF17.get (by decide) (hF9.get (by decide) h72_5))) rfl rfl rfl rfl rfl rfl (fun w28 hq29 => ?_)
            obtain ⟨hI30, hF31⟩ := hq29
            exact xg_e ⟨w28, ⟨rfl, rfl⟩, hI30, ((((hF9.up (by decide)).tr (hF17.up (by decide))).tr (hF24.up (by decide))).tr (hF31.up (by decide)))⟩
          · refine xg_t (xg_ifT (u := n25) rfl xnm0 (xj_neT hc27)) ?_
            refine xg_t (xg_blk (b := [(60, 1, 3, 1, 0, 0), (61, 2, 15, 7, 0, 0)]) rfl) ?_
            refine xg_t (xg_const) ?_
            refine xg_t (xg_istore (l1 := [(6, (0, n10)), (0, (2, 72)), (1, (0, xx)), (2, (0, yy)), (3, (0, wi)), (4, (0, hi)), (5, (0, dp))]) rfl rfl rfl) ?_
            refine xg_t (xg_drop (l1 := [(0, (2, 72)), (1, (0, xx)), (2, (0, yy)), (3, (0, wi)), (4, (0, hi)), (5, (0, dp)), (6, (0, n10)), (7, (0, 1))]) (List.forall_mem_cons.mpr ⟨List.mem_cons_of_mem _ (List.mem_cons_of_mem _ (List.mem_cons_self)), List.forall_mem_cons.mpr ⟨List.mem_cons_of_mem _ (List.mem_cons_of_mem _ (List.mem_cons_of_mem _ (List.mem_cons_self))), List.forall_mem_cons.mpr ⟨List.mem_cons_of_mem _ (List.mem_cons_of_mem _ (List.mem_cons_of_mem _ (List.mem_cons_of_mem _ (List.mem_cons_self)))), List.forall_mem_cons.mpr ⟨List.mem_cons_of_mem _ (List.mem_cons_of_mem _ (List.mem_cons_of_mem _ (List.mem_cons_of_mem _ (List.mem_cons_of_mem _ (List.mem_cons_self))))), List.forall_mem_cons.mpr ⟨List.mem_cons_of_mem _ (List.mem_cons_of_mem _ (List.mem_cons_of_mem _ (List.mem_cons_of_mem _ (List.mem_cons_of_mem _ (List.mem_cons_of_mem _ (List.mem_cons_self)))))), List.forall_mem_cons.mpr ⟨List.mem_cons_of_mem _ (List.mem_cons_of_mem _ (List.mem_cons_of_mem _ (List.mem_cons_of_mem _ (List.mem_cons_of_mem _ (List.mem_cons_of_mem _ (List.mem_cons_of_mem _ (List.mem_cons_self))))))), List.forall_mem_cons.mpr ⟨List.mem_cons_of_mem _ (List.mem_cons_self), List.forall_mem_cons.mpr ⟨List.mem_cons_self, fun _ h => absurd h List.not_mem_nil⟩⟩⟩⟩⟩⟩⟩⟩)) ?_
            have key32 : ∀ (m34 : Nat) (at1 : Nat) (w35 : List (List xE)), wi - at1 < m34 → at1 ≤ 2147483647 → xInv w35 → xFr [74, 75] w w35 → 1 ≤ at1 → xTo (d + (k + 1) + 3) mX7_planPiece (63, [], [(0, (2, 72)), (1, (0, xx)), (2, (0, yy)), (3, (0, wi)), (4, (0, hi)), (5, (0, dp)), (6, (0, n10)), (7, (0, at1))], [], (w35, bd, fc, 0, 0, rr)) (fun φ => ∃ w', xEnd 0 [] (w', bd, fc, 0, 0, rr) φ ∧ xInv w' ∧ xFr [74, 75] w w') := by
              intro m34
              induction m34 with
              | zero => intro at1 w35 hz; exact absurd hz (Nat.not_lt_zero _)
              | succ m34 ih33 =>
                intro at1 w35 hm40 hn38 hI36 hF37 he39
                refine xg_t (xg_blk (b := [(63, 2, 2, 7, 0, 0), (65, 1, 2, 3, 0, 0), (66, 3, 6, 140, 3, 0), (69, 1, 0, 0, 0, 0), (70, 1, 2, 1, 0, 0), (71, 1, 2, 2, 0, 0), (72, 2, 2, 7, 0, 0), (74, 2, 2, 4, 0, 0), (76, 3, 13, 310, 56, 95), (79, 1, 0, 0, 0, 0), (80, 1, 2, 1, 0, 0), (81, 2, 2, 7, 0, 0), (83, 1, 11, 0, 0, 0), (84, 1, 2, 2, 0, 0), (85, 1, 2, 3, 0, 0), (86, 2, 2, 7, 0, 0), (88, 1, 18, 0, 0, 0), (89, 2, 2, 4, 0, 0), (91, 3, 13, 310, 56, 95), (94, 1, 11, 0, 0, 0), (95, 2, 2, 6, 0, 0), (97, 3, 6, 134, 1, 0), (100, 1, 0, 0, 0, 0), (101, 1, 2, 1, 0, 0), (102, 1, 2, 2, 0, 0), (103, 2, 2, 7, 0, 0), (105, 2, 2, 4, 0, 0), (107, 2, 2, 5, 0, 0), (109, 1, 3, 1, 0, 0), (110, 1, 11, 0, 0, 0), (111, 3, 13, 306, 58, 91), (114, 1, 0, 0, 0, 0), (115, 1, 2, 1, 0, 0), (116, 2, 2, 7, 0, 0), (118, 1, 11, 0, 0, 0), (119, 1, 2, 2, 0, 0), (120, 1, 2, 3, 0, 0), (121, 2, 2, 7, 0, 0), (123, 1, 18, 0, 0, 0), (124, 2, 2, 4, 0, 0), (126, 2, 2, 5, 0, 0), (128, 1, 3, 1, 0, 0), (129, 1, 11, 0, 0, 0), (130, 3, 13, 306, 58, 91), (133, 1, 12, 0, 0, 0)]) rfl) ?_
                refine xg_t (xg_iload (va := (0, at1)) rfl rfl) ?_
                refine xg_t (xg_iload (va := (0, wi)) rfl rfl) ?_
                by_cases hc41 : xbs at1 < xbs wi
                · have hc41u := hc41
                  unfold xbs at hc41u
                  have hn42 : at1 ≤ 2147483646 := by omega
                  have hn43 : wi ≤ 2147483647 := by omega
                  refine xg_t (xg_icF (u := at1) (v := wi) rfl xnm0 xnm0 (xjs_geF hc41)) ?_
                  refine xg_t (xg_aload (va := (2, 72)) rfl rfl) ?_
                  refine xg_t (xg_iload (va := (0, xx)) rfl rfl) ?_
                  refine xg_t (xg_iload (va := (0, yy)) rfl rfl) ?_
                  refine xg_t (xg_iload (va := (0, at1)) rfl rfl) ?_
                  refine xg_t (xg_iload (va := (0, hi)) rfl rfl) ?_
                  refine xg_cVi mX7_worthOf (vs := [(0, xx), (0, yy), (0, at1), (0, hi)]) (rest := []) (cn1 := 0) (sl1 := 0) rfl (shWorthOf (hI36) (by omega) (by omega) (by omega) (by omega)) rfl (hF37.get (by decide) h72_5) rfl rfl rfl rfl rfl rfl (fun n48 w44 hq45 => ?_)
                  obtain ⟨hn49, hI46, hF47⟩ := hq45
                  refine xg_t (xg_aload (va := (2, 72)) rfl rfl) ?_
                  refine xg_t (xg_iload (va := (0, xx)) rfl rfl) ?_
                  refine xg_t (xg_iload (va := (0, at1)) rfl rfl) ?_
                  refine xg_k (xg_iadd (u := xx) (v := at1) (z := (xx + at1) % 4294967296) xnm0 xnm0 rfl) (Nat.mod_lt _ (by decide)) (fun z50 hz51 => ?_)
                  refine xg_t (xg_iload (va := (0, yy)) rfl rfl) ?_
                  refine xg_t (xg_iload (va := (0, wi)) rfl rfl) ?_
                  refine xg_t (xg_iload (va := (0, at1)) rfl rfl) ?_
                  refine xg_k (xg_isub (u := wi) (v := at1) (z := (wi + (4294967296 - at1)) % 4294967296) xnm0 xnm0 rfl) (Nat.mod_lt _ (by decide)) (fun z52 hz53 => ?_)
                  refine xg_t (xg_iload (va := (0, hi)) rfl rfl) ?_
                  refine xg_cVi mX7_worthOf (vs := [(0, z50), (0, yy), (0, z52), (0, hi)]) (rest := [(0, n48)]) (cn1 := 0) (sl1 := 0) rfl (shWorthOf (hI46) (by omega) (by omega) (by omega) (by omega)) rfl (hF47.get (by decide) (hF37.get (by decide) h72_5)) rfl rfl rfl rfl rfl rfl (fun n58 w54 hq55 => ?_)
                  obtain ⟨hn59, hI56, hF57⟩ := hq55
                  refine xg_k (xg_iadd (u := n48) (v := n58) (z := (n48 + n58) % 4294967296) xnm0 xnm0 rfl) (Nat.mod_lt _ (by decide)) (fun z60 hz61 => ?_)
                  refine xg_t (xg_iload (va := (0, n10)) rfl rfl) ?_
                  by_cases hc62 : z60 = n10
                  · refine xg_t (xg_icF (u := z60) (v := n10) rfl xnm0 xnm0 (xj_neF hc62)) ?_
                    refine xg_t (xg_aload (va := (2, 72)) rfl rfl) ?_
                    refine xg_t (xg_iload (va := (0, xx)) rfl rfl) ?_
                    refine xg_t (xg_iload (va := (0, yy)) rfl rfl) ?_
                    refine xg_t (xg_iload (va := (0, at1)) rfl rfl) ?_
                    refine xg_t (xg_iload (va := (0, hi)) rfl rfl) ?_
                    refine xg_t (xg_iload (va := (0, dp)) rfl rfl) ?_
                    refine xg_t (xg_const) ?_
                    refine xg_t (xg_iadd (u := dp) (v := 1) (z := dp + 1) xnm0 xnm0 (by omega)) ?_
                    refine xg_cSv mX7_planPiece (vs := [(2, 72), (0, xx), (0, yy), (0, at1), (0, hi), (0, dp + 1)]) (rest := []) (cn1 := 0) (sl1 := 0) rfl (ih (hI56) (by omega) (by omega) (by omega) (by omega) (by omega)) rfl rfl rfl rfl rfl rfl rfl (fun w63 hq64 => ?_)
                    obtain ⟨hI65, hF66⟩ := hq64
                    refine xg_t (xg_aload (va := (2, 72)) rfl rfl) ?_
                    refine xg_t (xg_iload (va := (0, xx)) rfl rfl) ?_
                    refine xg_t (xg_iload (va := (0, at1)) rfl rfl) ?_
                    refine xg_k (xg_iadd (u := xx) (v := at1) (z := (xx + at1) % 4294967296) xnm0 xnm0 rfl) (Nat.mod_lt _ (by decide)) (fun z67 hz68 => ?_)
                    refine xg_t (xg_iload (va := (0, yy)) rfl rfl) ?_
                    refine xg_t (xg_iload (va := (0, wi)) rfl rfl) ?_
                    refine xg_t (xg_iload (va := (0, at1)) rfl rfl) ?_
                    refine xg_k (xg_isub (u := wi) (v := at1) (z := (wi + (4294967296 - at1)) % 4294967296) xnm0 xnm0 rfl) (Nat.mod_lt _ (by decide)) (fun z69 hz70 => ?_)
                    refine xg_t (xg_iload (va := (0, hi)) rfl rfl) ?_
                    refine xg_t (xg_iload (va := (0, dp)) rfl rfl) ?_
                    refine xg_t (xg_const) ?_
                    refine xg_t (xg_iadd (u := dp) (v := 1) (z := dp + 1) xnm0 xnm0 (by omega)) ?_
                    refine xg_cSv mX7_planPiece (vs := [(2, 72), (0, z67), (0, yy), (0, z69), (0, hi), (0, dp + 1)]) (rest := []) (cn1 := 0) (sl1 := 0) rfl (ih (hI65) (by omega) (by omega) (by omega) (by omega) (by omega)) rfl rfl rfl rfl rfl rfl rfl (fun w71 hq72 => ?_)
                    obtain ⟨hI73, hF74⟩ := hq72
                    exact xg_e ⟨w71, ⟨rfl, rfl⟩, hI73, ((((hF37.tr (hF47.up (by decide))).tr (hF57.up (by decide))).tr (hF66.up (by decide))).tr (hF74.up (by decide)))⟩
                  · refine xg_t (xg_icT (u := z60) (v := n10) rfl xnm0 xnm0 (xj_neT hc62)) ?_
                    refine xg_t (xg_blk (b := [(134, 3, 9, 7, 1, 0), (137, 3, 8, 63, 0, 0)]) rfl) ?_
                    refine xg_t (xg_iinc (u := at1) (z := at1 + 1) (l1 := [(0, (2, 72)), (1, (0, xx)), (2, (0, yy)), (3, (0, wi)), (4, (0, hi)), (5, (0, dp)), (6, (0, n10))]) rfl rfl (by omega) rfl) ?_
                    refine xg_t (xg_goto) ?_
                    refine xg_t (xg_drop (l1 := [(0, (2, 72)), (1, (0, xx)), (2, (0, yy)), (3, (0, wi)), (4, (0, hi)), (5, (0, dp)), (6, (0, n10)), (7, (0, at1 + 1))]) (List.forall_mem_cons.mpr ⟨List.mem_cons_of_mem _ (List.mem_cons_self), List.forall_mem_cons.mpr ⟨List.mem_cons_of_mem _ (List.mem_cons_of_mem _ (List.mem_cons_self)), List.forall_mem_cons.mpr ⟨List.mem_cons_of_mem _ (List.mem_cons_of_mem _ (List.mem_cons_of_mem _ (List.mem_cons_self))), List.forall_mem_cons.mpr ⟨List.mem_cons_of_mem _ (List.mem_cons_of_mem _ (List.mem_cons_of_mem _ (List.mem_cons_of_mem _ (List.mem_cons_self)))), List.forall_mem_cons.mpr ⟨List.mem_cons_of_mem _ (List.mem_cons_of_mem _ (List.mem_cons_of_mem _ (List.mem_cons_of_mem _ (List.mem_cons_of_mem _ (List.mem_cons_self))))), List.forall_mem_cons.mpr ⟨List.mem_cons_of_mem _ (List.mem_cons_of_mem _ (List.mem_cons_of_mem _ (List.mem_cons_of_mem _ (List.mem_cons_of_mem _ (List.mem_cons_of_mem _ (List.mem_cons_self)))))), List.forall_mem_cons.mpr ⟨List.mem_cons_of_mem _ (List.mem_cons_of_mem _ (List.mem_cons_of_mem _ (List.mem_cons_of_mem _ (List.mem_cons_of_mem _ (List.mem_cons_of_mem _ (List.mem_cons_of_mem _ (List.mem_cons_self))))))), List.forall_mem_cons.mpr ⟨List.mem_cons_self, fun _ h => absurd h List.not_mem_nil⟩⟩⟩⟩⟩⟩⟩⟩)) ?_
                    exact ih33 (at1 + 1) w54 (by omega) (by omega) (hI56) (((hF37.tr (hF47.up (by decide))).tr (hF57.up (by decide)))) (by omega)
                · have hc41u := hc41
                  unfold xbs at hc41u
                  have hn75 : at1 ≤ 2147483647 := by omega
                  refine xg_t (xg_icT (u := at1) (v := wi) rfl xnm0 xnm0 (xjs_geT hc41)) ?_
                  refine xg_t (xg_blk (b := [(140, 1, 3, 1, 0, 0), (141, 2, 15, 7, 0, 0)]) rfl) ?_
                  refine xg_t (xg_const) ?_
                  refine xg_t (xg_istore (l1 := [(0, (2, 72)), (1, (0, xx)), (2, (0, yy)), (3, (0, wi)), (4, (0, hi)), (5, (0, dp)), (6, (0, n10))]) rfl rfl rfl) ?_
                  refine xg_t (xg_drop (l1 := [(0, (2, 72)), (1, (0, xx)), (2, (0, yy)), (3, (0, wi)), (4, (0, hi)), (5, (0, dp)), (6, (0, n10)), (7, (0, 1))]) (List.forall_mem_cons.mpr ⟨List.mem_cons_of_mem _ (List.mem_cons_self), List.forall_mem_cons.mpr ⟨List.mem_cons_of_mem _ (List.mem_cons_of_mem _ (List.mem_cons_self)), List.forall_mem_cons.mpr ⟨List.mem_cons_of_mem _ (List.mem_cons_of_mem _ (List.mem_cons_of_mem _ (List.mem_cons_self))), List.forall_mem_cons.mpr ⟨List.mem_cons_of_mem _ (List.mem_cons_of_mem _ (List.mem_cons_of_mem _ (List.mem_cons_of_mem _ (List.mem_cons_self)))), List.forall_mem_cons.mpr ⟨List.mem_cons_of_mem _ (List.mem_cons_of_mem _ (List.mem_cons_of_mem _ (List.mem_cons_of_mem _ (List.mem_cons_of_mem _ (List.mem_cons_self))))), List.forall_mem_cons.mpr ⟨List.mem_cons_of_mem _ (List.mem_cons_of_mem _ (List.mem_cons_of_mem _ (List.mem_cons_of_mem _ (List.mem_cons_of_mem _ (List.mem_cons_of_mem _ (List.mem_cons_self)))))), List.forall_mem_cons.mpr ⟨List.mem_cons_of_mem _ (List.mem_cons_of_mem _ (List.mem_cons_of_mem _ (List.mem_cons_of_mem _ (List.mem_cons_of_mem _ (List.mem_cons_of_mem _ (List.mem_cons_of_mem _ (List.mem_cons_self))))))), List.forall_mem_cons.mpr ⟨List.mem_cons_self, fun _ h => absurd h List.not_mem_nil⟩⟩⟩⟩⟩⟩⟩⟩)) ?_
                  have key76 : ∀ (m78 : Nat) (at2 : Nat) (w79 : List (List xE)), hi - at2 < m78 → at2 ≤ 2147483647 → xInv w79 → xFr [74, 75] w w79 → 1 ≤ at2 → xTo (d + (k + 1) + 3) mX7_planPiece (143, [], [(0, (2, 72)), (1, (0, xx)), (2, (0, yy)), (3, (0, wi)), (4, (0, hi)), (5, (0, dp)), (6, (0, n10)), (7, (0, at2))], [], (w79, bd, fc, 0, 0, rr)) (fun φ => ∃ w', xEnd 0 [] (w', bd, fc, 0, 0, rr) φ ∧ xInv w' ∧ xFr [74, 75] w w') := by
                    intro m78
                    induction m78 with
                    | zero => intro at2 w79 hz; exact absurd hz (Nat.not_lt_zero _)
                    | succ m78 ih77 =>
                      intro at2 w79 hm84 hn82 hI80 hF81 he83
                      refine xg_t (xg_blk (b := [(143, 2, 2, 7, 0, 0), (145, 2, 2, 4, 0, 0), (147, 3, 6, 219, 3, 0), (150, 1, 0, 0, 0, 0), (151, 1, 2, 1, 0, 0), (152, 1, 2, 2, 0, 0), (153, 1, 2, 3, 0, 0), (154, 2, 2, 7, 0, 0), (156, 3, 13, 310, 56, 95), (159, 1, 0, 0, 0, 0), (160, 1, 2, 1, 0, 0), (161, 1, 2, 2, 0, 0), (162, 2, 2, 7, 0, 0), (164, 1, 11, 0, 0, 0), (165, 1, 2, 3, 0, 0), (166, 2, 2, 4, 0, 0), (168, 2, 2, 7, 0, 0), (170, 1, 18, 0, 0, 0), (171, 3, 13, 310, 56, 95), (174, 1, 11, 0, 0, 0), (175, 2, 2, 6, 0, 0), (177, 3, 6, 213, 1, 0), (180, 1, 0, 0, 0, 0), (181, 1, 2, 1, 0, 0), (182, 1, 2, 2, 0, 0), (183, 1, 2, 3, 0, 0), (184, 2, 2, 7, 0, 0), (186, 2, 2, 5, 0, 0), (188, 1, 3, 1, 0, 0), (189, 1, 11, 0, 0, 0), (190, 3, 13, 306, 58, 91), (193, 1, 0, 0, 0, 0), (194, 1, 2, 1, 0, 0), (195, 1, 2, 2, 0, 0), (196, 2, 2, 7, 0, 0), (198, 1, 11, 0, 0, 0), (199, 1, 2, 3, 0, 0), (200, 2, 2, 4, 0, 0), (202, 2, 2, 7, 0, 0), (204, 1, 18, 0, 0, 0), (205, 2, 2, 5, 0, 0), (207, 1, 3, 1, 0, 0), (208, 1, 11, 0, 0, 0), (209, 3, 13, 306, 58, 91), (212, 1, 12, 0, 0, 0)]) rfl) ?_
                      refine xg_t (xg_iload (va := (0, at2)) rfl rfl) ?_
                      refine xg_t (xg_iload (va := (0, hi)) rfl rfl) ?_
                      by_cases hc85 : xbs at2 < xbs hi
                      · have hc85u := hc85
                        unfold xbs at hc85u
                        have hn86 : at2 ≤ 2147483646 := by omega
                        have hn87 : hi ≤ 2147483647 := by omega
                        refine xg_t (xg_icF (u := at2) (v := hi) rfl xnm0 xnm0 (xjs_geF hc85)) ?_
                        refine xg_t (xg_aload (va := (2, 72)) rfl rfl) ?_
                        refine xg_t (xg_iload (va := (0, xx)) rfl rfl) ?_
                        refine xg_t (xg_iload (va := (0, yy)) rfl rfl) ?_
                        refine xg_t (xg_iload (va := (0, wi)) rfl rfl) ?_
                        refine xg_t (xg_iload (va := (0, at2)) rfl rfl) ?_
                        refine xg_cVi mX7_worthOf (vs := [(0, xx), (0, yy), (0, wi), (0, at2)]) (rest := []) (cn1 := 0) (sl1 := 0) rfl (shWorthOf (hI80) (by omega) (by omega) (by omega) (by omega)) rfl (hF81.get (by decide) h72_5) rfl rfl rfl rfl rfl rfl (fun n92 w88 hq89 => ?_)
                        obtain ⟨hn93, hI90, hF91⟩ := hq89
                        refine xg_t (xg_aload (va := (2, 72)) rfl rfl) ?_
                        refine xg_t (xg_iload (va := (0, xx)) rfl rfl) ?_
                        refine xg_t (xg_iload (va := (0, yy)) rfl rfl) ?_
                        refine xg_t (xg_iload (va := (0, at2)) rfl rfl) ?_
                        refine xg_k (xg_iadd (u := yy) (v := at2) (z := (yy + at2) % 4294967296) xnm0 xnm0 rfl) (Nat.mod_lt _ (by decide)) (fun z94 hz95 => ?_)
                        refine xg_t (xg_iload (va := (0, wi)) rfl rfl) ?_
                        refine xg_t (xg_iload (va := (0, hi)) rfl rfl) ?_
                        refine xg_t (xg_iload (va := (0, at2)) rfl rfl) ?_
                        refine xg_k (xg_isub (u := hi) (v := at2) (z := (hi + (4294967296 - at2)) % 4294967296) xnm0 xnm0 rfl) (Nat.mod_lt _ (by decide)) (fun z96 hz97 => ?_)
                        refine xg_cVi mX7_worthOf (vs := [(0, xx), (0, z94), (0, wi), (0, z96)]) (rest := [(0, n92)]) (cn1 := 0) (sl1 := 0) rfl (shWorthOf (hI90) (by omega) (by omega) (by omega) (by omega)) rfl (hF91.get (by decide) (hF81.get (by decide) h72_5)) rfl rfl rfl rfl rfl rfl (fun n102 w98 hq99 => ?_)
                        obtain ⟨hn103, hI100, hF101⟩ := hq99
                        refine xg_k (xg_iadd (u := n92) (v := n102) (z := (n92 + n102) % 4294967296) xnm0 xnm0 rfl) (Nat.mod_lt _ (by decide)) (fun z104 hz105 => ?_)
                        refine xg_t (xg_iload (va := (0, n10)) rfl rfl) ?_
                        by_cases hc106 : z104 = n10
                        · refine xg_t (xg_icF (u := z104) (v := n10) rfl xnm0 xnm0 (xj_neF hc106)) ?_
                          refine xg_t (xg_aload (va := (2, 72)) rfl rfl) ?_
                          refine xg_t (xg_iload (va := (0, xx)) rfl rfl) ?_
                          refine xg_t (xg_iload (va := (0, yy)) rfl rfl) ?_
                          refine xg_t (xg_iload (va := (0, wi)) rfl rfl) ?_
                          refine xg_t (xg_iload (va := (0, at2)) rfl rfl) ?_
                          refine xg_t (xg_iload (va := (0, dp)) rfl rfl) ?_
                          refine xg_t (xg_const) ?_
                          refine xg_t (xg_iadd (u := dp) (v := 1) (z := dp + 1) xnm0 xnm0 (by omega)) ?_
                          refine xg_cSv mX7_planPiece (vs := [(2, 72), (0, xx), (0, yy), (0, wi), (0, at2), (0, dp + 1)]) (rest := []) (cn1 := 0) (sl1 := 0) rfl (ih (hI100) (by omega) (by omega) (by omega) (by omega) (by omega)) rfl rfl rfl rfl rfl rfl rfl (fun w107 hq108 => ?_)
                          obtain ⟨hI109, hF110⟩ := hq108
                          refine xg_t (xg_aload (va := (2, 72)) rfl rfl) ?_
                          refine xg_t (xg_iload (va := (0, xx)) rfl rfl) ?_
                          refine xg_t (xg_iload (va := (0, yy)) rfl rfl) ?_
                          refine xg_t (xg_iload (va := (0, at2)) rfl rfl) ?_
                          refine xg_k (xg_iadd (u := yy) (v := at2) (z := (yy + at2) % 4294967296) xnm0 xnm0 rfl) (Nat.mod_lt _ (by decide)) (fun z111 hz112 => ?_)
                          refine xg_t (xg_iload (va := (0, wi)) rfl rfl) ?_
                          refine xg_t (xg_iload (va := (0, hi)) rfl rfl) ?_
                          refine xg_t (xg_iload (va := (0, at2)) rfl rfl) ?_
                          refine xg_k (xg_isub (u := hi) (v := at2) (z := (hi + (4294967296 - at2)) % 4294967296) xnm0 xnm0 rfl) (Nat.mod_lt _ (by decide)) (fun z113 hz114 => ?_)
                          refine xg_t (xg_iload (va := (0, dp)) rfl rfl) ?_
                          refine xg_t (xg_const) ?_
                          refine xg_t (xg_iadd (u := dp) (v := 1) (z := dp + 1) xnm0 xnm0 (by omega)) ?_
                          refine xg_cSv mX7_planPiece (vs := [(2, 72), (0, xx), (0, z111), (0, wi), (0, z113), (0, dp + 1)]) (rest := []) (cn1 := 0) (sl1 := 0) rfl (ih (hI109) (by omega) (by omega) (by omega) (by omega) (by omega)) rfl rfl rfl rfl rfl rfl rfl (fun w115 hq116 => ?_)
                          obtain ⟨hI117, hF118⟩ := hq116
                          exact xg_e ⟨w115, ⟨rfl, rfl⟩, hI117, ((((hF81.tr (hF91.up (by decide))).tr (hF101.up (by decide))).tr (hF110.up (by decide))).tr (hF118.up (by decide)))⟩
                        · refine xg_t (xg_icT (u := z104) (v := n10) rfl xnm0 xnm0 (xj_neT hc106)) ?_
                          refine xg_t (xg_blk (b := [(213, 3, 9, 7, 1, 0), (216, 3, 8, 143, 0, 0)]) rfl) ?_
                          refine xg_t (xg_iinc (u := at2) (z := at2 + 1) (l1 := [(0, (2, 72)), (1, (0, xx)), (2, (0, yy)), (3, (0, wi)), (4, (0, hi)), (5, (0, dp)), (6, (0, n10))]) rfl rfl (by omega) rfl) ?_
                          refine xg_t (xg_goto) ?_
                          refine xg_t (xg_drop (l1 := [(0, (2, 72)), (1, (0, xx)), (2, (0, yy)), (3, (0, wi)), (4, (0, hi)), (5, (0, dp)), (6, (0, n10)), (7, (0, at2 + 1))]) (List.forall_mem_cons.mpr ⟨List.mem_cons_of_mem _ (List.mem_cons_self), List.forall_mem_cons.mpr ⟨List.mem_cons_of_mem _ (List.mem_cons_of_mem _ (List.mem_cons_self)), List.forall_mem_cons.mpr ⟨List.mem_cons_of_mem _ (List.mem_cons_of_mem _ (List.mem_cons_of_mem _ (List.mem_cons_self))), List.forall_mem_cons.mpr ⟨List.mem_cons_of_mem _ (List.mem_cons_of_mem _ (List.mem_cons_of_mem _ (List.mem_cons_of_mem _ (List.mem_cons_self)))), List.forall_mem_cons.mpr ⟨List.mem_cons_of_mem _ (List.mem_cons_of_mem _ (List.mem_cons_of_mem _ (List.mem_cons_of_mem _ (List.mem_cons_of_mem _ (List.mem_cons_self))))), List.forall_mem_cons.mpr ⟨List.mem_cons_of_mem _ (List.mem_cons_of_mem _ (List.mem_cons_of_mem _ (List.mem_cons_of_mem _ (List.mem_cons_of_mem _ (List.mem_cons_of_mem _ (List.mem_cons_self)))))), List.forall_mem_cons.mpr ⟨List.mem_cons_of_mem _ (List.mem_cons_of_mem _ (List.mem_cons_of_mem _ (List.mem_cons_of_mem _ (List.mem_cons_of_mem _ (List.mem_cons_of_mem _ (List.mem_cons_of_mem _ (List.mem_cons_self))))))), List.forall_mem_cons.mpr ⟨List.mem_cons_self, fun _ h => absurd h List.not_mem_nil⟩⟩⟩⟩⟩⟩⟩⟩)) ?_
                          exact ih77 (at2 + 1) w98 (by omega) (by omega) (hI100) (((hF81.tr (hF91.up (by decide))).tr (hF101.up (by decide)))) (by omega)
                      · have hc85u := hc85
                        unfold xbs at hc85u
                        have hn119 : at2 ≤ 2147483647 := by omega
                        refine xg_t (xg_icT (u := at2) (v := hi) rfl xnm0 xnm0 (xjs_geT hc85)) ?_
                        refine xg_t (xg_blk (b := [(219, 1, 12, 0, 0, 0)]) rfl) ?_
                        exact xg_e ⟨w79, ⟨rfl, rfl⟩, hI80, hF81⟩
                  exact key76 _ 1 w35 (Nat.lt_succ_self _) (by omega) (hI36) (hF37) (by omega)
            exact key32 _ 1 w21 (Nat.lt_succ_self _) (by omega) (hI23) ((((hF9.up (by decide)).tr (hF17.up (by decide))).tr (hF24.up (by decide)))) (by omega)
        · refine xg_t (xg_icT (u := n18) (v := n10) rfl xnm0 xnm0 (xj_neT hc20)) ?_
          refine xg_t (xg_blk (b := [(60, 1, 3, 1, 0, 0), (61, 2, 15, 7, 0, 0)]) rfl) ?_
          refine xg_t (xg_const) ?_
          refine xg_t (xg_istore (l1 := [(6, (0, n10)), (0, (2, 72)), (1, (0, xx)), (2, (0, yy)), (3, (0, wi)), (4, (0, hi)), (5, (0, dp))]) rfl rfl rfl) ?_
          refine xg_t (xg_drop (l1 := [(0, (2, 72)), (1, (0, xx)), (2, (0, yy)), (3, (0, wi)), (4, (0, hi)), (5, (0, dp)), (6, (0, n10)), (7, (0, 1))]) (List.forall_mem_cons.mpr ⟨List.mem_cons_of_mem _ (List.mem_cons_of_mem _ (List.mem_cons_self)), List.forall_mem_cons.mpr ⟨List.mem_cons_of_mem _ (List.mem_cons_of_mem _ (List.mem_cons_of_mem _ (List.mem_cons_self))), List.forall_mem_cons.mpr ⟨List.mem_cons_of_mem _ (List.mem_cons_of_mem _ (List.mem_cons_of_mem _ (List.mem_cons_of_mem _ (List.mem_cons_self)))), List.forall_mem_cons.mpr ⟨List.mem_cons_of_mem _ (List.mem_cons_of_mem _ (List.mem_cons_of_mem _ (List.mem_cons_of_mem _ (List.mem_cons_of_mem _ (List.mem_cons_self))))), List.forall_mem_cons.mpr ⟨List.mem_cons_of_mem _ (List.mem_cons_of_mem _ (List.mem_cons_of_mem _ (List.mem_cons_of_mem _ (List.mem_cons_of_mem _ (List.mem_cons_of_mem _ (List.mem_cons_self)))))), List.forall_mem_cons.mpr ⟨List.mem_cons_of_mem _ (List.mem_cons_of_mem _ (List.mem_cons_of_mem _ (List.mem_cons_of_mem _ (List.mem_cons_of_mem _ (List.mem_cons_of_mem _ (List.mem_cons_of_mem _ (List.mem_cons_self))))))), List.forall_mem_cons.mpr ⟨List.mem_cons_of_mem _ (List.mem_cons_self), List.forall_mem_cons.mpr ⟨List.mem_cons_self, fun _ h => absurd h List.not_mem_nil⟩⟩⟩⟩⟩⟩⟩⟩)) ?_
          have key120 : ∀ (m122 : Nat) (at1 : Nat) (w123 : List (List xE)), wi - at1 < m122 → at1 ≤ 2147483647 → xInv w123 → xFr [74, 75] w w123 → 1 ≤ at1 → xTo (d + (k + 1) + 3) mX7_planPiece (63, [], [(0, (2, 72)), (1, (0, xx)), (2, (0, yy)), (3, (0, wi)), (4, (0, hi)), (5, (0, dp)), (6, (0, n10)), (7, (0, at1))], [], (w123, bd, fc, 0, 0, rr)) (fun φ => ∃ w', xEnd 0 [] (w', bd, fc, 0, 0, rr) φ ∧ xInv w' ∧ xFr [74, 75] w w') := by
            intro m122
            induction m122 with
            | zero => intro at1 w123 hz; exact absurd hz (Nat.not_lt_zero _)
            | succ m122 ih121 =>
              intro at1 w123 hm128 hn126 hI124 hF125 he127
              refine xg_t (xg_blk (b := [(63, 2, 2, 7, 0, 0), (65, 1, 2, 3, 0, 0), (66, 3, 6, 140, 3, 0), (69, 1, 0, 0, 0, 0), (70, 1, 2, 1, 0, 0), (71, 1, 2, 2, 0, 0), (72, 2, 2, 7, 0, 0), (74, 2, 2, 4, 0, 0), (76, 3, 13, 310, 56, 95), (79, 1, 0, 0, 0, 0), (80, 1, 2, 1, 0, 0), (81, 2, 2, 7, 0, 0), (83, 1, 11, 0, 0, 0), (84, 1, 2, 2, 0, 0), (85, 1, 2, 3, 0, 0), (86, 2, 2, 7, 0, 0), (88, 1, 18, 0, 0, 0), (89, 2, 2, 4, 0, 0), (91, 3, 13, 310, 56, 95), (94, 1, 11, 0, 0, 0), (95, 2, 2, 6, 0, 0), (97, 3, 6, 134, 1, 0), (100, 1, 0, 0, 0, 0), (101, 1, 2, 1, 0, 0), (102, 1, 2, 2, 0, 0), (103, 2, 2, 7, 0, 0), (105, 2, 2, 4, 0, 0), (107, 2, 2, 5, 0, 0), (109, 1, 3, 1, 0, 0), (110, 1, 11, 0, 0, 0), (111, 3, 13, 306, 58, 91), (114, 1, 0, 0, 0, 0), (115, 1, 2, 1, 0, 0), (116, 2, 2, 7, 0, 0), (118, 1, 11, 0, 0, 0), (119, 1, 2, 2, 0, 0), (120, 1, 2, 3, 0, 0), (121, 2, 2, 7, 0, 0), (123, 1, 18, 0, 0, 0), (124, 2, 2, 4, 0, 0), (126, 2, 2, 5, 0, 0), (128, 1, 3, 1, 0, 0), (129, 1, 11, 0, 0, 0), (130, 3, 13, 306, 58, 91), (133, 1, 12, 0, 0, 0)]) rfl) ?_
              refine xg_t (xg_iload (va := (0, at1)) rfl rfl) ?_
              refine xg_t (xg_iload (va := (0, wi)) rfl rfl) ?_
              by_cases hc129 : xbs at1 < xbs wi
              · have hc129u := hc129
                unfold xbs at hc129u
                have hn130 : at1 ≤ 2147483646 := by omega
                have hn131 : wi ≤ 2147483647 := by omega
                refine xg_t (xg_icF (u := at1) (v := wi) rfl xnm0 xnm0 (xjs_geF hc129)) ?_
                refine xg_t (xg_aload (va := (2, 72)) rfl rfl) ?_
                refine xg_t (xg_iload (va := (0, xx)) rfl rfl) ?_
                refine xg_t (xg_iload (va := (0, yy)) rfl rfl) ?_
                refine xg_t (xg_iload (va := (0, at1)) rfl rfl) ?_
                refine xg_t (xg_iload (va := (0, hi)) rfl rfl) ?_
                refine xg_cVi mX7_worthOf (vs := [(0, xx), (0, yy), (0, at1), (0, hi)]) (rest := []) (cn1 := 0) (sl1 := 0) rfl (shWorthOf (hI124) (by omega) (by omega) (by omega) (by omega)) rfl (hF125.get (by decide) h72_5) rfl rfl rfl rfl rfl rfl (fun n136 w132 hq133 => ?_)
                obtain ⟨hn137, hI134, hF135⟩ := hq133
                refine xg_t (xg_aload (va := (2, 72)) rfl rfl) ?_
                refine xg_t (xg_iload (va := (0, xx)) rfl rfl) ?_
                refine xg_t (xg_iload (va := (0, at1)) rfl rfl) ?_
                refine xg_k (xg_iadd (u := xx) (v := at1) (z := (xx + at1) % 4294967296) xnm0 xnm0 rfl) (Nat.mod_lt _ (by decide)) (fun z138 hz139 => ?_)
                refine xg_t (xg_iload (va := (0, yy)) rfl rfl) ?_
                refine xg_t (xg_iload (va := (0, wi)) rfl rfl) ?_
                refine xg_t (xg_iload (va := (0, at1)) rfl rfl) ?_
                refine xg_k (xg_isub (u := wi) (v := at1) (z := (wi + (4294967296 - at1)) % 4294967296) xnm0 xnm0 rfl) (Nat.mod_lt _ (by decide)) (fun z140 hz141 => ?_)
                refine xg_t (xg_iload (va := (0, hi)) rfl rfl) ?_
                refine xg_cVi mX7_worthOf (vs := [(0, z138), (0, yy), (0, z140), (0, hi)]) (rest := [(0, n136)]) (cn1 := 0) (sl1 := 0) rfl (shWorthOf (hI134) (by omega) (by omega) (by omega) (by omega)) rfl (hF135.get (by decide) (hF125.get (by decide) h72_5)) rfl rfl rfl rfl rfl rfl (fun n146 w142 hq143 => ?_)
                obtain ⟨hn147, hI144, hF145⟩ := hq143
                refine xg_k (xg_iadd (u := n136) (v := n146) (z := (n136 + n146) % 4294967296) xnm0 xnm0 rfl) (Nat.mod_lt _ (by decide)) (fun z148 hz149 => ?_)
                refine xg_t (xg_iload (va := (0, n10)) rfl rfl) ?_
                by_cases hc150 : z148 = n10
                · refine xg_t (xg_icF (u := z148) (v := n10) rfl xnm0 xnm0 (xj_neF hc150)) ?_
                  refine xg_t (xg_aload (va := (2, 72)) rfl rfl) ?_
                  refine xg_t (xg_iload (va := (0, xx)) rfl rfl) ?_
                  refine xg_t (xg_iload (va := (0, yy)) rfl rfl) ?_
                  refine xg_t (xg_iload (va := (0, at1)) rfl rfl) ?_
                  refine xg_t (xg_iload (va := (0, hi)) rfl rfl) ?_
                  refine xg_t (xg_iload (va := (0, dp)) rfl rfl) ?_
                  refine xg_t (xg_const) ?_
                  refine xg_t (xg_iadd (u := dp) (v := 1) (z := dp + 1) xnm0 xnm0 (by omega)) ?_
                  refine xg_cSv mX7_planPiece (vs := [(2, 72), (0, xx), (0, yy), (0, at1), (0, hi), (0, dp + 1)]) (rest := []) (cn1 := 0) (sl1 := 0) rfl (ih (hI144) (by omega) (by omega) (by omega) (by omega) (by omega)) rfl rfl rfl rfl rfl rfl rfl (fun w151 hq152 => ?_)
                  obtain ⟨hI153, hF154⟩ := hq152
                  refine xg_t (xg_aload (va := (2, 72)) rfl rfl) ?_
                  refine xg_t (xg_iload (va := (0, xx)) rfl rfl) ?_
                  refine xg_t (xg_iload (va := (0, at1)) rfl rfl) ?_
                  refine xg_k (xg_iadd (u := xx) (v := at1) (z := (xx + at1) % 4294967296) xnm0 xnm0 rfl) (Nat.mod_lt _ (by decide)) (fun z155 hz156 => ?_)
                  refine xg_t (xg_iload (va := (0, yy)) rfl rfl) ?_
                  refine xg_t (xg_iload (va := (0, wi)) rfl rfl) ?_
                  refine xg_t (xg_iload (va := (0, at1)) rfl rfl) ?_
                  refine xg_k (xg_isub (u := wi) (v := at1) (z := (wi + (4294967296 - at1)) % 4294967296) xnm0 xnm0 rfl) (Nat.mod_lt _ (by decide)) (fun z157 hz158 => ?_)
                  refine xg_t (xg_iload (va := (0, hi)) rfl rfl) ?_
                  refine xg_t (xg_iload (va := (0, dp)) rfl rfl) ?_
                  refine xg_t (xg_const) ?_
                  refine xg_t (xg_iadd (u := dp) (v := 1) (z := dp + 1) xnm0 xnm0 (by omega)) ?_
                  refine xg_cSv mX7_planPiece (vs := [(2, 72), (0, z155), (0, yy), (0, z157), (0, hi), (0, dp + 1)]) (rest := []) (cn1 := 0) (sl1 := 0) rfl (ih (hI153) (by omega) (by omega) (by omega) (by omega) (by omega)) rfl rfl rfl rfl rfl rfl rfl (fun w159 hq160 => ?_)
                  obtain ⟨hI161, hF162⟩ := hq160
                  exact xg_e ⟨w159, ⟨rfl, rfl⟩, hI161, ((((hF125.tr (hF135.up (by decide))).tr (hF145.up (by decide))).tr (hF154.up (by decide))).tr (hF162.up (by decide)))⟩
                · refine xg_t (xg_icT (u := z148) (v := n10) rfl xnm0 xnm0 (xj_neT hc150)) ?_
                  refine xg_t (xg_blk (b := [(134, 3, 9, 7, 1, 0), (137, 3, 8, 63, 0, 0)]) rfl) ?_
                  refine xg_t (xg_iinc (u := at1) (z := at1 + 1) (l1 := [(0, (2, 72)), (1, (0, xx)), (2, (0, yy)), (3, (0, wi)), (4, (0, hi)), (5, (0, dp)), (6, (0, n10))]) rfl rfl (by omega) rfl) ?_
                  refine xg_t (xg_goto) ?_
                  refine xg_t (xg_drop (l1 := [(0, (2, 72)), (1, (0, xx)), (2, (0, yy)), (3, (0, wi)), (4, (0, hi)), (5, (0, dp)), (6, (0, n10)), (7, (0, at1 + 1))]) (List.forall_mem_cons.mpr ⟨List.mem_cons_of_mem _ (List.mem_cons_self), List.forall_mem_cons.mpr ⟨List.mem_cons_of_mem _ (List.mem_cons_of_mem _ (List.mem_cons_self)), List.forall_mem_cons.mpr ⟨List.mem_cons_of_mem _ (List.mem_cons_of_mem _ (List.mem_cons_of_mem _ (List.mem_cons_self))), List.forall_mem_cons.mpr ⟨List.mem_cons_of_mem _ (List.mem_cons_of_mem _ (List.mem_cons_of_mem _ (List.mem_cons_of_mem _ (List.mem_cons_self)))), List.forall_mem_cons.mpr ⟨List.mem_cons_of_mem _ (List.mem_cons_of_mem _ (List.mem_cons_of_mem _ (List.mem_cons_of_mem _ (List.mem_cons_of_mem _ (List.mem_cons_self))))), List.forall_mem_cons.mpr ⟨List.mem_cons_of_mem _ (List.mem_cons_of_mem _ (List.mem_cons_of_mem _ (List.mem_cons_of_mem _ (List.mem_cons_of_mem _ (List.mem_cons_of_mem _ (List.mem_cons_self)))))), List.forall_mem_cons.mpr ⟨List.mem_cons_of_mem _ (List.mem_cons_of_mem _ (List.mem_cons_of_mem _ (List.mem_cons_of_mem _ (List.mem_cons_of_mem _ (List.mem_cons_of_mem _ (List.mem_cons_of_mem _ (List.mem_cons_self))))))), List.forall_mem_cons.mpr ⟨List.mem_cons_self, fun _ h => absurd h List.not_mem_nil⟩⟩⟩⟩⟩⟩⟩⟩)) ?_
                  exact ih121 (at1 + 1) w142 (by omega) (by omega) (hI144) (((hF125.tr (hF135.up (by decide))).tr (hF145.up (by decide)))) (by omega)
              · have hc129u := hc129
                unfold xbs at hc129u
                have hn163 : at1 ≤ 2147483647 := by omega
                refine xg_t (xg_icT (u := at1) (v := wi) rfl xnm0 xnm0 (xjs_geT hc129)) ?_
                refine xg_t (xg_blk (b := [(140, 1, 3, 1, 0, 0), (141, 2, 15, 7, 0, 0)]) rfl) ?_
                refine xg_t (xg_const) ?_
                refine xg_t (xg_istore (l1 := [(0, (2, 72)), (1, (0, xx)), (2, (0, yy)), (3, (0, wi)), (4, (0, hi)), (5, (0, dp)), (6, (0, n10))]) rfl rfl rfl) ?_
                refine xg_t (xg_drop (l1 := [(0, (2, 72)), (1, (0, xx)), (2, (0, yy)), (3, (0, wi)), (4, (0, hi)), (5, (0, dp)), (6, (0, n10)), (7, (0, 1))]) (List.forall_mem_cons.mpr ⟨List.mem_cons_of_mem _ (List.mem_cons_self), List.forall_mem_cons.mpr ⟨List.mem_cons_of_mem _ (List.mem_cons_of_mem _ (List.mem_cons_self)), List.forall_mem_cons.mpr ⟨List.mem_cons_of_mem _ (List.mem_cons_of_mem _ (List.mem_cons_of_mem _ (List.mem_cons_self))), List.forall_mem_cons.mpr ⟨List.mem_cons_of_mem _ (List.mem_cons_of_mem _ (List.mem_cons_of_mem _ (List.mem_cons_of_mem _ (List.mem_cons_self)))), List.forall_mem_cons.mpr ⟨List.mem_cons_of_mem _ (List.mem_cons_of_mem _ (List.mem_cons_of_mem _ (List.mem_cons_of_mem _ (List.mem_cons_of_mem _ (List.mem_cons_self))))), List.forall_mem_cons.mpr ⟨List.mem_cons_of_mem _ (List.mem_cons_of_mem _ (List.mem_cons_of_mem _ (List.mem_cons_of_mem _ (List.mem_cons_of_mem _ (List.mem_cons_of_mem _ (List.mem_cons_self)))))), List.forall_mem_cons.mpr ⟨List.mem_cons_of_mem _ (List.mem_cons_of_mem _ (List.mem_cons_of_mem _ (List.mem_cons_of_mem _ (List.mem_cons_of_mem _ (List.mem_cons_of_mem _ (List.mem_cons_of_mem _ (List.mem_cons_self))))))), List.forall_mem_cons.mpr ⟨List.mem_cons_self, fun _ h => absurd h List.not_mem_nil⟩⟩⟩⟩⟩⟩⟩⟩)) ?_
                have key164 : ∀ (m166 : Nat) (at2 : Nat) (w167 : List (List xE)), hi - at2 < m166 → at2 ≤ 2147483647 → xInv w167 → xFr [74, 75] w w167 → 1 ≤ at2 → xTo (d + (k + 1) + 3) mX7_planPiece (143, [], [(0, (2, 72)), (1, (0, xx)), (2, (0, yy)), (3, (0, wi)), (4, (0, hi)), (5, (0, dp)), (6, (0, n10)), (7, (0, at2))], [], (w167, bd, fc, 0, 0, rr)) (fun φ => ∃ w', xEnd 0 [] (w', bd, fc, 0, 0, rr) φ ∧ xInv w' ∧ xFr [74, 75] w w') := by
                  intro m166
                  induction m166 with
                  | zero => intro at2 w167 hz; exact absurd hz (Nat.not_lt_zero _)
                  | succ m166 ih165 =>
                    intro at2 w167 hm172 hn170 hI168 hF169 he171
                    refine xg_t (xg_blk (b := [(143, 2, 2, 7, 0, 0), (145, 2, 2, 4, 0, 0), (147, 3, 6, 219, 3, 0), (150, 1, 0, 0, 0, 0), (151, 1, 2, 1, 0, 0), (152, 1, 2, 2, 0, 0), (153, 1, 2, 3, 0, 0), (154, 2, 2, 7, 0, 0), (156, 3, 13, 310, 56, 95), (159, 1, 0, 0, 0, 0), (160, 1, 2, 1, 0, 0), (161, 1, 2, 2, 0, 0), (162, 2, 2, 7, 0, 0), (164, 1, 11, 0, 0, 0), (165, 1, 2, 3, 0, 0), (166, 2, 2, 4, 0, 0), (168, 2, 2, 7, 0, 0), (170, 1, 18, 0, 0, 0), (171, 3, 13, 310, 56, 95), (174, 1, 11, 0, 0, 0), (175, 2, 2, 6, 0, 0), (177, 3, 6, 213, 1, 0), (180, 1, 0, 0, 0, 0), (181, 1, 2, 1, 0, 0), (182, 1, 2, 2, 0, 0), (183, 1, 2, 3, 0, 0), (184, 2, 2, 7, 0, 0), (186, 2, 2, 5, 0, 0), (188, 1, 3, 1, 0, 0), (189, 1, 11, 0, 0, 0), (190, 3, 13, 306, 58, 91), (193, 1, 0, 0, 0, 0), (194, 1, 2, 1, 0, 0), (195, 1, 2, 2, 0, 0), (196, 2, 2, 7, 0, 0), (198, 1, 11, 0, 0, 0), (199, 1, 2, 3, 0, 0), (200, 2, 2, 4, 0, 0), (202, 2, 2, 7, 0, 0), (204, 1, 18, 0, 0, 0), (205, 2, 2, 5, 0, 0), (207, 1, 3, 1, 0, 0), (208, 1, 11, 0, 0, 0), (209, 3, 13, 306, 58, 91), (212, 1, 12, 0, 0, 0)]) rfl) ?_
                    refine xg_t (xg_iload (va := (0, at2)) rfl rfl) ?_
                    refine xg_t (xg_iload (va := (0, hi)) rfl rfl) ?_
                    by_cases hc173 : xbs at2 < xbs hi
                    · have hc173u := hc173
                      unfold xbs at hc173u
                      have hn174 : at2 ≤ 2147483646 := by omega
                      have hn175 : hi ≤ 2147483647 := by omega
                      refine xg_t (xg_icF (u := at2) (v := hi) rfl xnm0 xnm0 (xjs_geF hc173)) ?_
                      refine xg_t (xg_aload (va := (2, 72)) rfl rfl) ?_
                      refine xg_t (xg_iload (va := (0, xx)) rfl rfl) ?_
                      refine xg_t (xg_iload (va := (0, yy)) rfl rfl) ?_
                      refine xg_t (xg_iload (va := (0, wi)) rfl rfl) ?_
                      refine xg_t (xg_iload (va := (0, at2)) rfl rfl) ?_
                      refine xg_cVi mX7_worthOf (vs := [(0, xx), (0, yy), (0, wi), (0, at2)]) (rest := []) (cn1 := 0) (sl1 := 0) rfl (shWorthOf (hI168) (by omega) (by omega) (by omega) (by omega)) rfl (hF169.get (by decide) h72_5) rfl rfl rfl rfl rfl rfl (fun n180 w176 hq177 => ?_)
                      obtain ⟨hn181, hI178, hF179⟩ := hq177
                      refine xg_t (xg_aload (va := (2, 72)) rfl rfl) ?_
                      refine xg_t (xg_iload (va := (0, xx)) rfl rfl) ?_
                      refine xg_t (xg_iload (va := (0, yy)) rfl rfl) ?_
                      refine xg_t (xg_iload (va := (0, at2)) rfl rfl) ?_
                      refine xg_k (xg_iadd (u := yy) (v := at2) (z := (yy + at2) % 4294967296) xnm0 xnm0 rfl) (Nat.mod_lt _ (by decide)) (fun z182 hz183 => ?_)
                      refine xg_t (xg_iload (va := (0, wi)) rfl rfl) ?_
                      refine xg_t (xg_iload (va := (0, hi)) rfl rfl) ?_
                      refine xg_t (xg_iload (va := (0, at2)) rfl rfl) ?_
                      refine xg_k (xg_isub (u := hi) (v := at2) (z := (hi + (4294967296 - at2)) % 4294967296) xnm0 xnm0 rfl) (Nat.mod_lt _ (by decide)) (fun z184 hz185 => ?_)
                      refine xg_cVi mX7_worthOf (vs := [(0, xx), (0, z182), (0, wi), (0, z184)]) (rest := [(0, n180)]) (cn1 := 0) (sl1 := 0) rfl (shWorthOf (hI178) (by omega) (by omega) (by omega) (by omega)) rfl (hF179.get (by decide) (hF169.get (by decide) h72_5)) rfl rfl rfl rfl rfl rfl (fun n190 w186 hq187 => ?_)
                      obtain ⟨hn191, hI188, hF189⟩ := hq187
                      refine xg_k (xg_iadd (u := n180) (v := n190) (z := (n180 + n190) % 4294967296) xnm0 xnm0 rfl) (Nat.mod_lt _ (by decide)) (fun z192 hz193 => ?_)
                      refine xg_t (xg_iload (va := (0, n10)) rfl rfl) ?_
                      by_cases hc194 : z192 = n10
                      · refine xg_t (xg_icF (u := z192) (v := n10) rfl xnm0 xnm0 (xj_neF hc194)) ?_
                        refine xg_t (xg_aload (va := (2, 72)) rfl rfl) ?_
                        refine xg_t (xg_iload (va := (0, xx)) rfl rfl) ?_
                        refine xg_t (xg_iload (va := (0, yy)) rfl rfl) ?_
                        refine xg_t (xg_iload (va := (0, wi)) rfl rfl) ?_
                        refine xg_t (xg_iload (va := (0, at2)) rfl rfl) ?_
                        refine xg_t (xg_iload (va := (0, dp)) rfl rfl) ?_
                        refine xg_t (xg_const) ?_
                        refine xg_t (xg_iadd (u := dp) (v := 1) (z := dp + 1) xnm0 xnm0 (by omega)) ?_
                        refine xg_cSv mX7_planPiece (vs := [(2, 72), (0, xx), (0, yy), (0, wi), (0, at2), (0, dp + 1)]) (rest := []) (cn1 := 0) (sl1 := 0) rfl (ih (hI188) (by omega) (by omega) (by omega) (by omega) (by omega)) rfl rfl rfl rfl rfl rfl rfl (fun w195 hq196 => ?_)
                        obtain ⟨hI197, hF198⟩ := hq196
                        refine xg_t (xg_aload (va := (2, 72)) rfl rfl) ?_
                        refine xg_t (xg_iload (va := (0, xx)) rfl rfl) ?_
                        refine xg_t (xg_iload (va := (0, yy)) rfl rfl) ?_
                        refine xg_t (xg_iload (va := (0, at2)) rfl rfl) ?_
                        refine xg_k (xg_iadd (u := yy) (v := at2) (z := (yy + at2) % 4294967296) xnm0 xnm0 rfl) (Nat.mod_lt _ (by decide)) (fun z199 hz200 => ?_)
                        refine xg_t (xg_iload (va := (0, wi)) rfl rfl) ?_
                        refine xg_t (xg_iload (va := (0, hi)) rfl rfl) ?_
                        refine xg_t (xg_iload (va := (0, at2)) rfl rfl) ?_
                        refine xg_k (xg_isub (u := hi) (v := at2) (z := (hi + (4294967296 - at2)) % 4294967296) xnm0 xnm0 rfl) (Nat.mod_lt _ (by decide)) (fun z201 hz202 => ?_)
                        refine xg_t (xg_iload (va := (0, dp)) rfl rfl) ?_
                        refine xg_t (xg_const) ?_
                        refine xg_t (xg_iadd (u := dp) (v := 1) (z := dp + 1) xnm0 xnm0 (by omega)) ?_
                        refine xg_cSv mX7_planPiece (vs := [(2, 72), (0, xx), (0, z199), (0, wi), (0, z201), (0, dp + 1)]) (rest := []) (cn1 := 0) (sl1 := 0) rfl (ih (hI197) (by omega) (by omega) (by omega) (by omega) (by omega)) rfl rfl rfl rfl rfl rfl rfl (fun w203 hq204 => ?_)
                        obtain ⟨hI205, hF206⟩ := hq204
                        exact xg_e ⟨w203, ⟨rfl, rfl⟩, hI205, ((((hF169.tr (hF179.up (by decide))).tr (hF189.up (by decide))).tr (hF198.up (by decide))).tr (hF206.up (by decide)))⟩
                      · refine xg_t (xg_icT (u := z192) (v := n10) rfl xnm0 xnm0 (xj_neT hc194)) ?_
                        refine xg_t (xg_blk (b := [(213, 3, 9, 7, 1, 0), (216, 3, 8, 143, 0, 0)]) rfl) ?_
                        refine xg_t (xg_iinc (u := at2) (z := at2 + 1) (l1 := [(0, (2, 72)), (1, (0, xx)), (2, (0, yy)), (3, (0, wi)), (4, (0, hi)), (5, (0, dp)), (6, (0, n10))]) rfl rfl (by omega) rfl) ?_
                        refine xg_t (xg_goto) ?_
                        refine xg_t (xg_drop (l1 := [(0, (2, 72)), (1, (0, xx)), (2, (0, yy)), (3, (0, wi)), (4, (0, hi)), (5, (0, dp)), (6, (0, n10)), (7, (0, at2 + 1))]) (List.forall_mem_cons.mpr ⟨List.mem_cons_of_mem _ (List.mem_cons_self), List.forall_mem_cons.mpr ⟨List.mem_cons_of_mem _ (List.mem_cons_of_mem _ (List.mem_cons_self)), List.forall_mem_cons.mpr ⟨List.mem_cons_of_mem _ (List.mem_cons_of_mem _ (List.mem_cons_of_mem _ (List.mem_cons_self))), List.forall_mem_cons.mpr ⟨List.mem_cons_of_mem _ (List.mem_cons_of_mem _ (List.mem_cons_of_mem _ (List.mem_cons_of_mem _ (List.mem_cons_self)))), List.forall_mem_cons.mpr ⟨List.mem_cons_of_mem _ (List.mem_cons_of_mem _ (List.mem_cons_of_mem _ (List.mem_cons_of_mem _ (List.mem_cons_of_mem _ (List.mem_cons_self))))), List.forall_mem_cons.mpr ⟨List.mem_cons_of_mem _ (List.mem_cons_of_mem _ (List.mem_cons_of_mem _ (List.mem_cons_of_mem _ (List.mem_cons_of_mem _ (List.mem_cons_of_mem _ (List.mem_cons_self)))))), List.forall_mem_cons.mpr ⟨List.mem_cons_of_mem _ (List.mem_cons_of_mem _ (List.mem_cons_of_mem _ (List.mem_cons_of_mem _ (List.mem_cons_of_mem _ (List.mem_cons_of_mem _ (List.mem_cons_of_mem _ (List.mem_cons_self))))))), List.forall_mem_cons.mpr ⟨List.mem_cons_self, fun _ h => absurd h List.not_mem_nil⟩⟩⟩⟩⟩⟩⟩⟩)) ?_
                        exact ih165 (at2 + 1) w186 (by omega) (by omega) (hI188) (((hF169.tr (hF179.up (by decide))).tr (hF189.up (by decide)))) (by omega)
                    · have hc173u := hc173
                      unfold xbs at hc173u
                      have hn207 : at2 ≤ 2147483647 := by omega
                      refine xg_t (xg_icT (u := at2) (v := hi) rfl xnm0 xnm0 (xjs_geT hc173)) ?_
                      refine xg_t (xg_blk (b := [(219, 1, 12, 0, 0, 0)]) rfl) ?_
                      exact xg_e ⟨w167, ⟨rfl, rfl⟩, hI168, hF169⟩
                exact key164 _ 1 w123 (Nat.lt_succ_self _) (by omega) (hI124) (hF125) (by omega)
          exact key120 _ 1 w14 (Nat.lt_succ_self _) (by omega) (hI16) (((hF9.up (by decide)).tr (hF17.up (by decide)))) (by omega)
theorem shRefreshPlan (hI : xInv w)  : xPq (d + 26) mX7_refreshPlan [(2, 72)] w bd fc rr [] (fun w' => xInv w' ∧ xFr [72, 73, 74, 75] w w') := by
  refine xPq.of ?_
  show xTo (d + 26) mX7_refreshPlan (0, [], [(0, (2, 72))], [], (w, bd, fc, 0, 0, rr)) (fun φ => ∃ w', xEnd 0 [] (w', bd, fc, 0, 0, rr) φ ∧ xInv w' ∧ xFr [72, 73, 74, 75] w w')
  obtain ⟨f3_1, f3_3, f3_5, f3_7, f3_9, h3_11, hb2, hb4, hb6, hb8, hb10⟩ := (hI 3 (by decide) : cp3 (wget w 3))
  refine xg_t (xg_blk (b := [(0, 1, 0, 0, 0, 0), (1, 3, 1, 7, 4, 30), (4, 3, 7, 8, 0, 0), (7, 1, 12, 0, 0, 0)]) rfl) ?_
  refine xg_t (xg_aload (va := (2, 72)) rfl rfl) ?_
  obtain ⟨f72_12, f72_14, h72_16, hb13, hb15⟩ := (hI 72 (by decide) : cp72 (wget w 72))
  refine xg_t (xg_getf (va := (0, f72_14)) h72_16 rfl) ?_
  by_cases hc17 : f72_14 = 0
  · refine xg_t (xg_ifT (u := f72_14) rfl xnm0 (xj_eqT hc17)) ?_
    refine xg_t (xg_blk (b := [(8, 1, 0, 0, 0, 0), (9, 3, 13, 308, 56, 85), (12, 1, 0, 0, 0, 0), (13, 3, 1, 7, 2, 18), (16, 3, 13, 283, 40, 88), (19, 1, 0, 0, 0, 0), (20, 1, 3, 0, 0, 0), (21, 1, 3, 0, 0, 0), (22, 1, 0, 0, 0, 0), (23, 3, 1, 7, 0, 22), (26, 3, 1, 1, 5, 33), (29, 1, 0, 0, 0, 0), (30, 3, 1, 7, 0, 22), (33, 3, 1, 1, 6, 39), (36, 1, 3, 0, 0, 0), (37, 3, 13, 306, 58, 91), (40, 1, 0, 0, 0, 0), (41, 1, 3, 1, 0, 0), (42, 3, 59, 7, 4, 30), (45, 1, 12, 0, 0, 0)]) rfl) ?_
    refine xg_t (xg_aload (va := (2, 72)) rfl rfl) ?_
    refine xg_cVv mX7_refreshWorth (vs := []) (rest := []) (cn1 := 0) (sl1 := 0) rfl (shRefreshWorth (hI)) rfl h72_16 rfl rfl rfl rfl rfl rfl (fun w18 hq19 => ?_)
    obtain ⟨hI20, hF21⟩ := hq19
    refine xg_t (xg_aload (va := (2, 72)) rfl rfl) ?_
    obtain ⟨f72_22, f72_24, h72_26, hb23, hb25⟩ := (hI20 72 (by decide) : cp72 (wget w18 72))
    refine xg_t (xg_getf (va := (2, 74)) h72_26 rfl) ?_
    obtain ⟨f74_27, h74_29, hb28⟩ := (hI20 74 (by decide) : cp74 (wget w18 74))
    refine xg_cV mX5_clear (vs := []) (rest := []) (rs := []) (cn1 := 0) (sl1 := 0) rfl (rclear_ok h74_29) rfl h74_29 rfl rfl rfl rfl rfl rfl rfl (fun w30 hq31 => ?_)
    refine xg_t (xg_aload (va := (2, 72)) rfl rfl) ?_
    refine xg_t (xg_const) ?_
    refine xg_t (xg_const) ?_
    refine xg_t (xg_aload (va := (2, 72)) rfl rfl) ?_
    refine xg_t (xg_getf (va := (2, 3)) (hq31.2.get (by decide) h72_26) rfl) ?_
    refine xg_t (xg_getf (va := (0, f3_1)) (hq31.2.get (by decide) (hF21.get (by decide) h3_11)) rfl) ?_
    refine xg_t (xg_aload (va := (2, 72)) rfl rfl) ?_
    refine xg_t (xg_getf (va := (2, 3)) (hq31.2.get (by decide) h72_26) rfl) ?_
    refine xg_t (xg_getf (va := (0, f3_3)) (hq31.2.get (by decide) (hF21.get (by decide) h3_11)) rfl) ?_
    refine xg_t (xg_const) ?_
    refine xg_cSv mX7_planPiece (vs := [(2, 72), (0, 0), (0, 0), (0, f3_1), (0, f3_3), (0, 0)]) (rest := []) (cn1 := 0) (sl1 := 0) rfl (shPlanPiece (d := d) 22 (xInv.up (S := [74]) hI20 (xFr.of (S := [74]) hq31.2 (by decide)) (List.forall_mem_cons.mpr ⟨(show cp74 (wget w30 74) from ⟨0, hq31.1, by omega⟩), fun _ h => absurd h List.not_mem_nil⟩)) (by omega) (by omega) (by omega) (by omega) rfl) rfl rfl rfl rfl rfl rfl rfl (fun w32 hq33 => ?_)
    obtain ⟨hI34, hF35⟩ := hq33
    refine xg_t (xg_aload (va := (2, 72)) rfl rfl) ?_
    refine xg_t (xg_const) ?_
    refine xg_putZ (fl1 := [(2, 3), (2, 73), (2, 74), (0, f72_22), (0, 1)]) (hF35.get (by decide) (hq31.2.get (by decide) h72_26)) rfl rfl rfl (fun w36 hk37 hb38 => ?_)
    exact xg_e ⟨w36, ⟨rfl, rfl⟩, xInv.up (S := [72]) hI34 (xFr.of (S := [72]) hb38 (by decide)) (List.forall_mem_cons.mpr ⟨(show cp72 (wget w36 72) from ⟨f72_22, 1, hk37, by omega, by omega⟩), fun _ h => absurd h List.not_mem_nil⟩), ((((hF21.up (by decide)).tr (xFr.of (S := [72, 73, 74, 75]) hq31.2 (by decide))).tr (hF35.up (by decide))).tr (xFr.of (S := [72, 73, 74, 75]) hb38 (by decide)))⟩
  · refine xg_t (xg_ifF (u := f72_14) rfl xnm0 (xj_eqF hc17)) ?_
    exact xg_e ⟨w, ⟨rfl, rfl⟩, hI, xFr.rf⟩
end XPN
