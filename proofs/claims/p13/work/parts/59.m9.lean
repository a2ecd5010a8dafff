/-! the model: orders -/
theorem swp {o : Nat → Nat} {a b u v : Nat} (h1 : o a = u) (h2 : o b = v) : (fun j => if j = b then u else (fun j => if j = a then v else o j) j) a = o b ∧ (fun j => if j = b then u else (fun j => if j = a then v else o j) j) b = o a ∧ ∀ j, j ≠ a → j ≠ b → (fun j => if j = b then u else (fun j => if j = a then v else o j) j) j = o j := by
  refine ⟨?_, ?_, fun j hj hk => ?_⟩
  · show (if a = b then u else if a = a then v else o a) = o b
    by_cases z : a = b
    · rw [if_pos z, ← z, h1]
    · rw [if_neg z, if_pos rfl, h2]
  · show (if b = b then u else _) = o a
    rw [if_pos rfl, h1]
  · show (if j = b then u else if j = a then v else o j) = o j
    rw [if_neg hk, if_neg hj]
section XM9
variable {d : Nat} {w : List (List xE)} {bd : List (Nat × Nat)} {fc : List (Nat × Nat × Bool)} {rr : Nat × Nat}
theorem mSwap {o0 : Nat → Nat} {aa bb : Nat} (hI : xMnv w) (haa : aa ≤ 5) (hbb : bb ≤ 5) (hR88 : xRow w 88 6 55 o0) (hob : ∀ j, o0 j ≤ 5) : xPq d mX12_swap [(2, 82), (0, aa), (0, bb)] w bd fc rr [] (fun w' => xMnv w' ∧ xFr [88] w w' ∧ (∃ o, xRow w' 88 6 55 o ∧ (∀ j, o j ≤ 5) ∧ o aa = o0 bb ∧ o bb = o0 aa ∧ ∀ j, j ≠ aa → j ≠ bb → o j = o0 j)) := by
  refine xPq.of ?_
  show xTo d mX12_swap (0, [], [(0, (2, 82)), (1, (0, aa)), (2, (0, bb))], [], (w, bd, fc, 0, 0, rr)) (fun φ => ∃ w', xEnd 0 [] (w', bd, fc, 0, 0, rr) φ ∧ xMnv w' ∧ xFr [88] w w' ∧ (∃ o, xRow w' 88 6 55 o ∧ (∀ j, o j ≤ 5) ∧ o aa = o0 bb ∧ o bb = o0 aa ∧ ∀ j, j ≠ aa → j ≠ bb → o j = o0 j))
  refine xoCh82 (hI 82 (by decide) (by decide) : cp82 (wget w 82)) (fun f82_1 f82_3 f82_5 f82_7 f82_9 f82_11 f82_13 f82_15 f82_17 f82_19 f82_21 f82_22 f82_23 f82_25 f82_27 f82_29 h82_31 hb2 hb4 hb6 hb8 hb10 hb12 hb14 hb16 hb18 hb20 hb24 hb26 hb28 hb30 hb32 => ?_)
  refine xg_t (xg_blk (b := [(0, 1, 0, 0, 0, 0), (1, 3, 1, 12, 15, 26), (4, 1, 2, 1, 0, 0), (5, 1, 10, 0, 0, 0), (6, 1, 15, 3, 0, 0), (7, 1, 0, 0, 0, 0), (8, 3, 1, 12, 15, 26), (11, 1, 2, 1, 0, 0), (12, 1, 0, 0, 0, 0), (13, 3, 1, 12, 15, 26), (16, 1, 2, 2, 0, 0), (17, 1, 10, 0, 0, 0), (18, 1, 17, 0, 0, 0), (19, 1, 0, 0, 0, 0), (20, 3, 1, 12, 15, 26), (23, 1, 2, 2, 0, 0), (24, 1, 2, 3, 0, 0), (25, 1, 17, 0, 0, 0), (26, 1, 12, 0, 0, 0)]) rfl) ?_
  refine xg_t (xg_aload (va := (2, 82)) rfl rfl) ?_
  refine xg_t (xg_getf (va := (2, 88)) h82_31 rfl) ?_
  refine xg_t (xg_iload (va := (0, aa)) rfl rfl) ?_
  refine xg_ialdB (n := aa) (B := 5) hR88 (hob) xnm0 (by omega) (fun u33 hu34 he35 => ?_)
  refine xg_t (xg_istore (l1 := [(0, (2, 82)), (1, (0, aa)), (2, (0, bb))]) rfl rfl rfl) ?_
  refine xg_t (xg_aload (va := (2, 82)) rfl rfl) ?_
  refine xg_t (xg_getf (va := (2, 88)) h82_31 rfl) ?_
  refine xg_t (xg_iload (va := (0, aa)) rfl rfl) ?_
  refine xg_t (xg_aload (va := (2, 82)) rfl rfl) ?_
  refine xg_t (xg_getf (va := (2, 88)) h82_31 rfl) ?_
  refine xg_t (xg_iload (va := (0, bb)) rfl rfl) ?_
  refine xg_ialdB (n := bb) (B := 5) hR88 (hob) xnm0 (by omega) (fun u36 hu37 he38 => ?_)
  refine xg_iastK (n := aa) (u := u36) hR88 xnm0 xnm0 rfl (by omega) (fun w39 hr40 hb41 => ?_)
  refine xg_t (xg_aload (va := (2, 82)) rfl rfl) ?_
  refine xg_t (xg_getf (va := (2, 88)) (hb41.get (by decide) h82_31) rfl) ?_
  refine xg_t (xg_iload (va := (0, bb)) rfl rfl) ?_
  refine xg_t (xg_iload (va := (0, u33)) rfl rfl) ?_
  refine xg_iastK (n := bb) (u := u33) hr40 xnm0 xnm0 rfl (by omega) (fun w42 hr43 hb44 => ?_)
  exact xg_e ⟨w42, ⟨rfl, rfl⟩, xMnv.up (S := [88]) hI ((xFr.of (S := [88]) hb41 (by decide)).tr (xFr.of (S := [88]) hb44 (by decide))) (List.forall_mem_cons.mpr ⟨(show cpI 6 55 5 (wget w42 88) from ⟨_, hr43, xrb (by omega) (xrb (by omega) (hob))⟩), fun _ h => absurd h List.not_mem_nil⟩), ((xFr.of (S := [88]) hb41 (by decide)).tr (xFr.of (S := [88]) hb44 (by decide))), ⟨_, hr43, xrb (by omega) (xrb (by omega) (hob)), swp he35 (he38)⟩⟩
theorem mReorders {o0 : Nat → Nat} {nn : Nat} (hI : xMnv w) (h1n : 1 ≤ nn) (hnn : nn ≤ 6) (hR88 : xRow w 88 6 55 o0) (hob : ∀ j, o0 j ≤ 5) (hperm : PERM o0 nn) : xPi (d + 1) mX12_reorders [(2, 82), (0, nn)] w bd fc rr (fun n w' => (((n = 0 ∧ LX w' = LX w) ∨ (n = 1 ∧ LX w < LX w')) ∧ ∃ o, xRow w' 88 6 55 o ∧ (∀ j, o j ≤ 5) ∧ PERM o nn) ∧ xMnv w' ∧ xFr [88] w w') := by
  refine xPi.of ?_
  show xTo (d + 1) mX12_reorders (0, [], [(0, (2, 82)), (1, (0, nn))], [], (w, bd, fc, 0, 0, rr)) (fun φ => ∃ n w', xEnd 4 [(0, n)] (w', bd, fc, 0, 0, rr) φ ∧ (((n = 0 ∧ LX w' = LX w) ∨ (n = 1 ∧ LX w < LX w')) ∧ ∃ o, xRow w' 88 6 55 o ∧ (∀ j, o j ≤ 5) ∧ PERM o nn) ∧ xMnv w' ∧ xFr [88] w w')
  refine xoCh82 (hI 82 (by decide) (by decide) : cp82 (wget w 82)) (fun f82_1 f82_3 f82_5 f82_7 f82_9 f82_11 f82_13 f82_15 f82_17 f82_19 f82_21 f82_22 f82_23 f82_25 f82_27 f82_29 h82_31 hb2 hb4 hb6 hb8 hb10 hb12 hb14 hb16 hb18 hb20 hb24 hb26 hb28 hb30 hb32 => ?_)
  refine xg_t (xg_blk (b := [(0, 1, 2, 1, 0, 0), (1, 1, 3, 2, 0, 0), (2, 1, 18, 0, 0, 0), (3, 1, 15, 2, 0, 0)]) rfl) ?_
  refine xg_t (xg_iload (va := (0, nn)) rfl rfl) ?_
  refine xg_t (xg_const) ?_
  by_cases hc33 : 2 ≤ nn
  · refine xg_t (xg_isub (u := nn) (v := 2) (z := nn - 2) xnm0 xnm0 (by omega)) ?_
    refine xg_t (xg_istore (l1 := [(0, (2, 82)), (1, (0, nn))]) rfl rfl rfl) ?_
    refine xg_t (xg_drop (l1 := [(0, (2, 82)), (1, (0, nn)), (2, (0, nn - 2))]) (List.forall_mem_cons.mpr ⟨List.mem_cons_of_mem _ (List.mem_cons_self), List.forall_mem_cons.mpr ⟨List.mem_cons_of_mem _ (List.mem_cons_of_mem _ (List.mem_cons_self)), List.forall_mem_cons.mpr ⟨List.mem_cons_self, fun _ h => absurd h List.not_mem_nil⟩⟩⟩)) ?_
    have key34 : ∀ (m36 : Nat) (ii : Nat), (ii + 1) % 4294967296 < m36 → ii ≤ 4294967295 → (ii = 4294967295 ∨ ii + 2 ≤ nn) → xTo (d + 1) mX12_reorders (4, [], [(0, (2, 82)), (1, (0, nn)), (2, (0, ii))], [], (w, bd, fc, 0, 0, rr)) (fun φ => ∃ n w', xEnd 4 [(0, n)] (w', bd, fc, 0, 0, rr) φ ∧ (((n = 0 ∧ LX w' = LX w) ∨ (n = 1 ∧ LX w < LX w')) ∧ ∃ o, xRow w' 88 6 55 o ∧ (∀ j, o j ≤ 5) ∧ PERM o nn) ∧ xMnv w' ∧ xFr [88] w w') := by
      intro m36
      induction m36 with
      | zero => intro ii hz; exact absurd hz (Nat.not_lt_zero _)
      | succ m36 ih35 =>
        intro ii hm42 hn40 he41
        refine xg_t (xg_blk (b := [(4, 1, 2, 2, 0, 0), (5, 3, 7, 31, 2, 0), (8, 1, 0, 0, 0, 0), (9, 3, 1, 12, 15, 26), (12, 1, 2, 2, 0, 0), (13, 1, 10, 0, 0, 0), (14, 1, 0, 0, 0, 0), (15, 3, 1, 12, 15, 26), (18, 1, 2, 2, 0, 0), (19, 1, 3, 1, 0, 0), (20, 1, 11, 0, 0, 0), (21, 1, 10, 0, 0, 0), (22, 3, 6, 31, 5, 0), (25, 3, 9, 2, 4294967295, 0), (28, 3, 8, 4, 0, 0)]) rfl) ?_
        refine xg_t (xg_iload (va := (0, ii)) rfl rfl) ?_
        by_cases hc43 : ii < 2147483648
        · have hn44 : ii ≤ 4 := by omega
          refine xg_t (xg_ifF (u := ii) rfl xnm0 (xjz_ltF hc43)) ?_
          refine xg_t (xg_aload (va := (2, 82)) rfl rfl) ?_
          refine xg_t (xg_getf (va := (2, 88)) h82_31 rfl) ?_
          refine xg_t (xg_iload (va := (0, ii)) rfl rfl) ?_
          refine xg_ialdB (n := ii) (B := 5) hR88 (hob) xnm0 (by omega) (fun u45 hu46 he47 => ?_)
          refine xg_t (xg_aload (va := (2, 82)) rfl rfl) ?_
          refine xg_t (xg_getf (va := (2, 88)) h82_31 rfl) ?_
          refine xg_t (xg_iload (va := (0, ii)) rfl rfl) ?_
          refine xg_t (xg_const) ?_
          refine xg_t (xg_iadd (u := ii) (v := 1) (z := ii + 1) xnm0 xnm0 (by omega)) ?_
          refine xg_ialdB (n := ii + 1) (B := 5) hR88 (hob) xnm0 (by omega) (fun u48 hu49 he50 => ?_)
          by_cases hc51 : u48 < u45
          · refine xg_t (xg_icF (u := u45) (v := u48) rfl xnm0 xnm0 (xj_leF hc51 (by omega))) ?_
            refine xg_t (xg_iinc (u := ii) (z := (ii + 4294967295) % 4294967296) (l1 := [(0, (2, 82)), (1, (0, nn))]) rfl rfl (rfl) rfl) ?_
            refine xg_t (xg_goto) ?_
            refine xg_t (xg_drop (l1 := [(0, (2, 82)), (1, (0, nn)), (2, (0, (ii + 4294967295) % 4294967296))]) (List.forall_mem_cons.mpr ⟨List.mem_cons_of_mem _ (List.mem_cons_self), List.forall_mem_cons.mpr ⟨List.mem_cons_of_mem _ (List.mem_cons_of_mem _ (List.mem_cons_self)), List.forall_mem_cons.mpr ⟨List.mem_cons_self, fun _ h => absurd h List.not_mem_nil⟩⟩⟩)) ?_
            exact ih35 ((ii + 4294967295) % 4294967296)  (by omega) (by omega) (by omega)
          · refine xg_t (xg_icT (u := u45) (v := u48) rfl xnm0 xnm0 (xj_leT (by omega) (by omega))) ?_
            refine xg_t (xg_blk (b := [(31, 1, 2, 2, 0, 0), (32, 3, 7, 37, 3, 0), (35, 1, 3, 0, 0, 0), (36, 1, 12, 0, 1, 0)]) rfl) ?_
            refine xg_t (xg_iload (va := (0, ii)) rfl rfl) ?_
            refine xg_t (xg_ifT (u := ii) rfl xnm0 (xj_geT (by omega) (by omega))) ?_
            refine xg_t (xg_blk (b := [(37, 1, 2, 1, 0, 0), (38, 1, 3, 1, 0, 0), (39, 1, 18, 0, 0, 0), (40, 1, 15, 3, 0, 0)]) rfl) ?_
            refine xg_t (xg_iload (va := (0, nn)) rfl rfl) ?_
            refine xg_t (xg_const) ?_
            refine xg_t (xg_isub (u := nn) (v := 1) (z := nn - 1) xnm0 xnm0 (by omega)) ?_
            refine xg_t (xg_istore (l1 := [(0, (2, 82)), (1, (0, nn)), (2, (0, ii))]) rfl rfl rfl) ?_
            refine xg_t (xg_drop (l1 := [(0, (2, 82)), (1, (0, nn)), (2, (0, ii)), (3, (0, nn - 1))]) (List.forall_mem_cons.mpr ⟨List.mem_cons_of_mem _ (List.mem_cons_self), List.forall_mem_cons.mpr ⟨List.mem_cons_of_mem _ (List.mem_cons_of_mem _ (List.mem_cons_self)), List.forall_mem_cons.mpr ⟨List.mem_cons_of_mem _ (List.mem_cons_of_mem _ (List.mem_cons_of_mem _ (List.mem_cons_self))), List.forall_mem_cons.mpr ⟨List.mem_cons_self, fun _ h => absurd h List.not_mem_nil⟩⟩⟩⟩)) ?_
            have key52 : ∀ (m54 : Nat) (jj : Nat), jj < m54 → jj ≤ 5 → (ii + 1 ≤ jj ∧ jj + 1 ≤ nn) → xTo (d + 1) mX12_reorders (41, [], [(0, (2, 82)), (1, (0, nn)), (2, (0, ii)), (3, (0, jj))], [], (w, bd, fc, 0, 0, rr)) (fun φ => ∃ n w', xEnd 4 [(0, n)] (w', bd, fc, 0, 0, rr) φ ∧ (((n = 0 ∧ LX w' = LX w) ∨ (n = 1 ∧ LX w < LX w')) ∧ ∃ o, xRow w' 88 6 55 o ∧ (∀ j, o j ≤ 5) ∧ PERM o nn) ∧ xMnv w' ∧ xFr [88] w w') := by
              intro m54
              induction m54 with
              | zero => intro jj hz; exact absurd hz (Nat.not_lt_zero _)
              | succ m54 ih53 =>
                intro jj hm60 hn58 he59
                refine xg_t (xg_blk (b := [(41, 1, 0, 0, 0, 0), (42, 3, 1, 12, 15, 26), (45, 1, 2, 3, 0, 0), (46, 1, 10, 0, 0, 0), (47, 1, 0, 0, 0, 0), (48, 3, 1, 12, 15, 26), (51, 1, 2, 2, 0, 0), (52, 1, 10, 0, 0, 0), (53, 3, 6, 62, 3, 0), (56, 3, 9, 3, 4294967295, 0), (59, 3, 8, 41, 0, 0)]) rfl) ?_
                refine xg_t (xg_aload (va := (2, 82)) rfl rfl) ?_
                refine xg_t (xg_getf (va := (2, 88)) h82_31 rfl) ?_
                refine xg_t (xg_iload (va := (0, jj)) rfl rfl) ?_
                refine xg_ialdB (n := jj) (B := 5) hR88 (hob) xnm0 (by omega) (fun u61 hu62 he63 => ?_)
                refine xg_t (xg_aload (va := (2, 82)) rfl rfl) ?_
                refine xg_t (xg_getf (va := (2, 88)) h82_31 rfl) ?_
                refine xg_t (xg_iload (va := (0, ii)) rfl rfl) ?_
                refine xg_ialdB (n := ii) (B := 5) hR88 (hob) xnm0 (by omega) (fun u64 hu65 he66 => ?_)
                by_cases hc67 : u61 < u64
                · refine xg_t (xg_icF (u := u61) (v := u64) rfl xnm0 xnm0 (xj_geF hc67 (by omega))) ?_
                  refine xg_t (xg_iinc (u := jj) (z := jj - 1) (l1 := [(0, (2, 82)), (1, (0, nn)), (2, (0, ii))]) rfl rfl (by omega) rfl) ?_
                  refine xg_t (xg_goto) ?_
                  refine xg_t (xg_drop (l1 := [(0, (2, 82)), (1, (0, nn)), (2, (0, ii)), (3, (0, jj - 1))]) (List.forall_mem_cons.mpr ⟨List.mem_cons_of_mem _ (List.mem_cons_self), List.forall_mem_cons.mpr ⟨List.mem_cons_of_mem _ (List.mem_cons_of_mem _ (List.mem_cons_self)), List.forall_mem_cons.mpr ⟨List.mem_cons_of_mem _ (List.mem_cons_of_mem _ (List.mem_cons_of_mem _ (List.mem_cons_self))), List.forall_mem_cons.mpr ⟨List.mem_cons_self, fun _ h => absurd h List.not_mem_nil⟩⟩⟩⟩)) ?_
                  have hne68 : jj ≠ ii + 1 := fun e => by have q := he63; rw [e] at q; omega
                  exact ih53 (jj - 1)  (by omega) (by omega) (by omega)
                · refine xg_t (xg_icT (u := u61) (v := u64) rfl xnm0 xnm0 (xj_geT (by omega) (by omega))) ?_
                  refine xg_t (xg_blk (b := [(62, 1, 0, 0, 0, 0), (63, 1, 2, 2, 0, 0), (64, 1, 2, 3, 0, 0), (65, 3, 13, 226, 96, 257), (68, 1, 2, 2, 0, 0), (69, 1, 3, 1, 0, 0), (70, 1, 11, 0, 0, 0), (71, 2, 15, 4, 0, 0), (73, 1, 2, 1, 0, 0), (74, 1, 3, 1, 0, 0), (75, 1, 18, 0, 0, 0), (76, 2, 15, 5, 0, 0)]) rfl) ?_
                  refine xg_t (xg_aload (va := (2, 82)) rfl rfl) ?_
                  refine xg_t (xg_iload (va := (0, ii)) rfl rfl) ?_
                  refine xg_t (xg_iload (va := (0, jj)) rfl rfl) ?_
                  refine xg_cVv mX12_swap (vs := [(0, ii), (0, jj)]) (rest := []) (cn1 := 0) (sl1 := 0) rfl (mSwap (hI) (by omega) (by omega) hR88 hob) rfl h82_31 rfl rfl rfl rfl rfl rfl (fun w69 hq70 => ?_)
                  obtain ⟨hI71, hF72, hx73⟩ := hq70
                  obtain ⟨o74, hs75, hs76, hs77, hs78, hs79⟩ := hx73
                  have hP80 := hperm.swap (by omega) (by omega) hs77 hs78 hs79
                  refine xg_t (xg_iload (va := (0, ii)) rfl rfl) ?_
                  refine xg_t (xg_const) ?_
                  refine xg_t (xg_iadd (u := ii) (v := 1) (z := ii + 1) xnm0 xnm0 (by omega)) ?_
                  refine xg_t (xg_istore (l1 := [(0, (2, 82)), (1, (0, nn)), (2, (0, ii)), (3, (0, jj))]) rfl rfl rfl) ?_
                  refine xg_t (xg_iload (va := (0, nn)) rfl rfl) ?_
                  refine xg_t (xg_const) ?_
                  refine xg_t (xg_isub (u := nn) (v := 1) (z := nn - 1) xnm0 xnm0 (by omega)) ?_
                  refine xg_t (xg_istore (l1 := [(4, (0, ii + 1)), (0, (2, 82)), (1, (0, nn)), (2, (0, ii)), (3, (0, jj))]) rfl rfl rfl) ?_
                  refine xg_t (xg_drop (l1 := [(0, (2, 82)), (1, (0, nn)), (2, (0, ii)), (4, (0, ii + 1)), (5, (0, nn - 1))]) (List.forall_mem_cons.mpr ⟨List.mem_cons_of_mem _ (List.mem_cons_of_mem _ (List.mem_cons_self)), List.forall_mem_cons.mpr ⟨List.mem_cons_of_mem _ (List.mem_cons_of_mem _ (List.mem_cons_of_mem _ (List.mem_cons_self))), List.forall_mem_cons.mpr ⟨List.mem_cons_of_mem _ (List.mem_cons_of_mem _ (List.mem_cons_of_mem _ (List.mem_cons_of_mem _ (List.mem_cons_self)))), List.forall_mem_cons.mpr ⟨List.mem_cons_of_mem _ (List.mem_cons_self), List.forall_mem_cons.mpr ⟨List.mem_cons_self, fun _ h => absurd h List.not_mem_nil⟩⟩⟩⟩⟩)) ?_
                  have hg87 : o0 ii < o0 jj := by
                    have q := hperm.2 ii jj (by omega) (by omega)
                    omega
                  have key81 : ∀ (m83 : Nat) (aa bb : Nat) (w84 : List (List xE)), 6 + bb - aa < m83 → aa ≤ 6 → bb ≤ 5 → xMnv w84 → xFr [88] w w84 → (ii < aa ∧ bb < nn ∧ ∃ o, xRow w84 88 6 55 o ∧ (∀ j, o j ≤ 5) ∧ (∀ q, q < ii → o q = o0 q) ∧ o0 ii < o ii ∧ PERM o nn) → xTo (d + 1) mX12_reorders (78, [], [(0, (2, 82)), (1, (0, nn)), (2, (0, ii)), (4, (0, aa)), (5, (0, bb))], [], (w84, bd, fc, 0, 0, rr)) (fun φ => ∃ n w', xEnd 4 [(0, n)] (w', bd, fc, 0, 0, rr) φ ∧ (((n = 0 ∧ LX w' = LX w) ∨ (n = 1 ∧ LX w < LX w')) ∧ ∃ o, xRow w' 88 6 55 o ∧ (∀ j, o j ≤ 5) ∧ PERM o nn) ∧ xMnv w' ∧ xFr [88] w w') := by
                    intro m83
                    induction m83 with
                    | zero => intro aa bb w84 hz; exact absurd hz (Nat.not_lt_zero _)
                    | succ m83 ih82 =>
                      intro aa bb w84 hm91 hn88 hn89 hI85 hF86 he90
                      obtain ⟨hk92, hk93, o99, hk94, hk95, hk96, hk97, hk98⟩ := he90
                      refine xg_t (xg_blk (b := [(78, 2, 2, 4, 0, 0), (80, 2, 2, 5, 0, 0), (82, 3, 6, 102, 3, 0), (85, 1, 0, 0, 0, 0), (86, 2, 2, 4, 0, 0), (88, 2, 2, 5, 0, 0), (90, 3, 13, 226, 96, 257), (93, 3, 9, 4, 1, 0), (96, 3, 9, 5, 4294967295, 0), (99, 3, 8, 78, 0, 0)]) rfl) ?_
                      refine xg_t (xg_iload (va := (0, aa)) rfl rfl) ?_
                      refine xg_t (xg_iload (va := (0, bb)) rfl rfl) ?_
                      by_cases hc100 : aa < bb
                      · refine xg_t (xg_icF (u := aa) (v := bb) rfl xnm0 xnm0 (xj_geF hc100 (by omega))) ?_
                        refine xg_t (xg_aload (va := (2, 82)) rfl rfl) ?_
                        refine xg_t (xg_iload (va := (0, aa)) rfl rfl) ?_
                        refine xg_t (xg_iload (va := (0, bb)) rfl rfl) ?_
                        refine xg_cVv mX12_swap (vs := [(0, aa), (0, bb)]) (rest := []) (cn1 := 0) (sl1 := 0) rfl (mSwap (hI85) (by omega) (by omega) hk94 hk95) rfl (hF86.get (by decide) h82_31) rfl rfl rfl rfl rfl rfl (fun w101 hq102 => ?_)
                        obtain ⟨hI103, hF104, hx105⟩ := hq102
                        obtain ⟨o106, hs107, hs108, hs109, hs110, hs111⟩ := hx105
                        have hP112 := hk98.swap (by omega) (by omega) hs109 hs110 hs111
                        refine xg_t (xg_iinc (u := aa) (z := aa + 1) (l1 := [(0, (2, 82)), (1, (0, nn)), (2, (0, ii)), (5, (0, bb))]) rfl rfl (by omega) rfl) ?_
                        refine xg_t (xg_iinc (u := bb) (z := bb - 1) (l1 := [(4, (0, aa + 1)), (0, (2, 82)), (1, (0, nn)), (2, (0, ii))]) rfl rfl (by omega) rfl) ?_
                        refine xg_t (xg_goto) ?_
                        refine xg_t (xg_drop (l1 := [(0, (2, 82)), (1, (0, nn)), (2, (0, ii)), (4, (0, aa + 1)), (5, (0, bb - 1))]) (List.forall_mem_cons.mpr ⟨List.mem_cons_of_mem _ (List.mem_cons_of_mem _ (List.mem_cons_self)), List.forall_mem_cons.mpr ⟨List.mem_cons_of_mem _ (List.mem_cons_of_mem _ (List.mem_cons_of_mem _ (List.mem_cons_self))), List.forall_mem_cons.mpr ⟨List.mem_cons_of_mem _ (List.mem_cons_of_mem _ (List.mem_cons_of_mem _ (List.mem_cons_of_mem _ (List.mem_cons_self)))), List.forall_mem_cons.mpr ⟨List.mem_cons_of_mem _ (List.mem_cons_self), List.forall_mem_cons.mpr ⟨List.mem_cons_self, fun _ h => absurd h List.not_mem_nil⟩⟩⟩⟩⟩)) ?_
                        exact ih82 (aa + 1) (bb - 1) w101 (by omega) (by omega) (by omega) (hI103) ((hF86.tr (hF104.up (by decide)))) (⟨by omega, by omega, _, hs107, hs108, fun q hq => (hs111 q (by omega) (by omega)).trans (hk96 q hq), by rw [hs111 ii (by omega) (by omega)]; exact hk97, hP112⟩)
                      · refine xg_t (xg_icT (u := aa) (v := bb) rfl xnm0 xnm0 (xj_geT (by omega) (by omega))) ?_
                        refine xg_t (xg_blk (b := [(102, 1, 3, 1, 0, 0), (103, 1, 12, 0, 1, 0)]) rfl) ?_
                        refine xg_t (xg_const) ?_
                        exact xg_e ⟨1, w84, ⟨rfl, rfl⟩, ⟨Or.inr ⟨rfl, LX_lt hR88 hk94 hob (i := ii) (by omega) hk96 hk97⟩, _, hk94, hk95, hk98⟩, hI85, hF86⟩
                  exact key81 _ (ii + 1) (nn - 1) w69 (Nat.lt_succ_self _) (by omega) (by omega) (hI71) ((hF72.up (by decide))) (⟨by omega, by omega, _, hs75, hs76, fun q hq => hs79 q (by omega) (by omega), by rw [hs77]; exact hg87, hP80⟩)
            exact key52 _ (nn - 1)  (Nat.lt_succ_self _) (by omega) (by omega)
        · refine xg_t (xg_ifT (u := ii) rfl xnm0 (xjz_ltT (by omega) (by omega))) ?_
          refine xg_t (xg_blk (b := [(31, 1, 2, 2, 0, 0), (32, 3, 7, 37, 3, 0), (35, 1, 3, 0, 0, 0), (36, 1, 12, 0, 1, 0)]) rfl) ?_
          refine xg_t (xg_iload (va := (0, ii)) rfl rfl) ?_
          refine xg_t (xg_ifF (u := ii) rfl xnm0 (xjz_geF (by omega) (by omega))) ?_
          refine xg_t (xg_const) ?_
          exact xg_e ⟨0, w, ⟨rfl, rfl⟩, ⟨Or.inl ⟨rfl, rfl⟩, _, hR88, hob, hperm⟩, hI, xFr.rf⟩
    exact key34 _ (nn - 2)  (Nat.lt_succ_self _) (by omega) (by omega)
  · have hz115 : 4294967295 ≤ (nn + (4294967296 - 2)) % 4294967296 := by omega
    refine xg_t (xg_isub (u := nn) (v := 2) (z := (nn + (4294967296 - 2)) % 4294967296) xnm0 xnm0 rfl) ?_
    have hz114 : (nn + (4294967296 - 2)) % 4294967296 < 4294967296 := Nat.mod_lt _ (by decide)
    generalize (nn + (4294967296 - 2)) % 4294967296 = z113 at hz115 hz114 ⊢
    refine xg_t (xg_istore (l1 := [(0, (2, 82)), (1, (0, nn))]) rfl rfl rfl) ?_
    refine xg_t (xg_drop (l1 := [(0, (2, 82)), (1, (0, nn)), (2, (0, z113))]) (List.forall_mem_cons.mpr ⟨List.mem_cons_of_mem _ (List.mem_cons_self), List.forall_mem_cons.mpr ⟨List.mem_cons_of_mem _ (List.mem_cons_of_mem _ (List.mem_cons_self)), List.forall_mem_cons.mpr ⟨List.mem_cons_self, fun _ h => absurd h List.not_mem_nil⟩⟩⟩)) ?_
    have key116 : ∀ (m118 : Nat) (ii : Nat), (ii + 1) % 4294967296 < m118 → ii ≤ 4294967295 → (ii = 4294967295 ∨ ii + 2 ≤ nn) → xTo (d + 1) mX12_reorders (4, [], [(0, (2, 82)), (1, (0, nn)), (2, (0, ii))], [], (w, bd, fc, 0, 0, rr)) (fun φ => ∃ n w', xEnd 4 [(0, n)] (w', bd, fc, 0, 0, rr) φ ∧ (((n = 0 ∧ LX w' = LX w) ∨ (n = 1 ∧ LX w < LX w')) ∧ ∃ o, xRow w' 88 6 55 o ∧ (∀ j, o j ≤ 5) ∧ PERM o nn) ∧ xMnv w' ∧ xFr [88] w w') := by
      intro m118
      induction m118 with
      | zero => intro ii hz; exact absurd hz (Nat.not_lt_zero _)
      | succ m118 ih117 =>
        intro ii hm124 hn122 he123
        refine xg_t (xg_blk (b := [(4, 1, 2, 2, 0, 0), (5, 3, 7, 31, 2, 0), (8, 1, 0, 0, 0, 0), (9, 3, 1, 12, 15, 26), (12, 1, 2, 2, 0, 0), (13, 1, 10, 0, 0, 0), (14, 1, 0, 0, 0, 0), (15, 3, 1, 12, 15, 26), (18, 1, 2, 2, 0, 0), (19, 1, 3, 1, 0, 0), (20, 1, 11, 0, 0, 0), (21, 1, 10, 0, 0, 0), (22, 3, 6, 31, 5, 0), (25, 3, 9, 2, 4294967295, 0), (28, 3, 8, 4, 0, 0)]) rfl) ?_
        refine xg_t (xg_iload (va := (0, ii)) rfl rfl) ?_
        by_cases hc125 : ii < 2147483648
        · have hn126 : ii ≤ 4 := by omega
          refine xg_t (xg_ifF (u := ii) rfl xnm0 (xjz_ltF hc125)) ?_
          refine xg_t (xg_aload (va := (2, 82)) rfl rfl) ?_
          refine xg_t (xg_getf (va := (2, 88)) h82_31 rfl) ?_
          refine xg_t (xg_iload (va := (0, ii)) rfl rfl) ?_
          refine xg_ialdB (n := ii) (B := 5) hR88 (hob) xnm0 (by omega) (fun u127 hu128 he129 => ?_)
          refine xg_t (xg_aload (va := (2, 82)) rfl rfl) ?_
          refine xg_t (xg_getf (va := (2, 88)) h82_31 rfl) ?_
          refine xg_t (xg_iload (va := (0, ii)) rfl rfl) ?_
          refine xg_t (xg_const) ?_
          refine xg_t (xg_iadd (u := ii) (v := 1) (z := ii + 1) xnm0 xnm0 (by omega)) ?_
          refine xg_ialdB (n := ii + 1) (B := 5) hR88 (hob) xnm0 (by omega) (fun u130 hu131 he132 => ?_)
          by_cases hc133 : u130 < u127
          · refine xg_t (xg_icF (u := u127) (v := u130) rfl xnm0 xnm0 (xj_leF hc133 (by omega))) ?_
            refine xg_t (xg_iinc (u := ii) (z := (ii + 4294967295) % 4294967296) (l1 := [(0, (2, 82)), (1, (0, nn))]) rfl rfl (rfl) rfl) ?_
            refine xg_t (xg_goto) ?_
            refine xg_t (xg_drop (l1 := [(0, (2, 82)), (1, (0, nn)), (2, (0, (ii + 4294967295) % 4294967296))]) (List.forall_mem_cons.mpr ⟨List.mem_cons_of_mem _ (List.mem_cons_self), List.forall_mem_cons.mpr ⟨List.mem_cons_of_mem _ (List.mem_cons_of_mem _ (List.mem_cons_self)), List.forall_mem_cons.mpr ⟨List.mem_cons_self, fun _ h => absurd h List.not_mem_nil⟩⟩⟩)) ?_
            exact ih117 ((ii + 4294967295) % 4294967296)  (by omega) (by omega) (by omega)
          · refine xg_t (xg_icT (u := u127) (v := u130) rfl xnm0 xnm0 (xj_leT (by omega) (by omega))) ?_
            refine xg_t (xg_blk (b := [(31, 1, 2, 2, 0, 0), (32, 3, 7, 37, 3, 0), (35, 1, 3, 0, 0, 0), (36, 1, 12, 0, 1, 0)]) rfl) ?_
            refine xg_t (xg_iload (va := (0, ii)) rfl rfl) ?_
            refine xg_t (xg_ifT (u := ii) rfl xnm0 (xj_geT (by omega) (by omega))) ?_
            refine xg_t (xg_blk (b := [(37, 1, 2, 1, 0, 0), (38, 1, 3, 1, 0, 0), (39, 1, 18, 0, 0, 0), (40, 1, 15, 3, 0, 0)]) rfl) ?_
            refine xg_t (xg_iload (va := (0, nn)) rfl rfl) ?_
            refine xg_t (xg_const) ?_
            refine xg_t (xg_isub (u := nn) (v := 1) (z := nn - 1) xnm0 xnm0 (by omega)) ?_
            refine xg_t (xg_istore (l1 := [(0, (2, 82)), (1, (0, nn)), (2, (0, ii))]) rfl rfl rfl) ?_
            refine xg_t (xg_drop (l1 := [(0, (2, 82)), (1, (0, nn)), (2, (0, ii)), (3, (0, nn - 1))]) (List.forall_mem_cons.mpr ⟨List.mem_cons_of_mem _ (List.mem_cons_self), List.forall_mem_cons.mpr ⟨List.mem_cons_of_mem _ (List.mem_cons_of_mem _ (List.mem_cons_self)), List.forall_mem_cons.mpr ⟨List.mem_cons_of_mem _ (List.mem_cons_of_mem _ (List.mem_cons_of_mem _ (List.mem_cons_self))), List.forall_mem_cons.mpr ⟨List.mem_cons_self, fun _ h => absurd h List.not_mem_nil⟩⟩⟩⟩)) ?_
            have key134 : ∀ (m136 : Nat) (jj : Nat), jj < m136 → jj ≤ 5 → (ii + 1 ≤ jj ∧ jj + 1 ≤ nn) → xTo (d + 1) mX12_reorders (41, [], [(0, (2, 82)), (1, (0, nn)), (2, (0, ii)), (3, (0, jj))], [], (w, bd, fc, 0, 0, rr)) (fun φ => ∃ n w', xEnd 4 [(0, n)] (w', bd, fc, 0, 0, rr) φ ∧ (((n = 0 ∧ LX w' = LX w) ∨ (n = 1 ∧ LX w < LX w')) ∧ ∃ o, xRow w' 88 6 55 o ∧ (∀ j, o j ≤ 5) ∧ PERM o nn) ∧ xMnv w' ∧ xFr [88] w w') := by
              intro m136
              induction m136 with
              | zero => intro jj hz; exact absurd hz (Nat.not_lt_zero _)
              | succ m136 ih135 =>
                intro jj hm142 hn140 he141
                refine xg_t (xg_blk (b := [(41, 1, 0, 0, 0, 0), (42, 3, 1, 12, 15, 26), (45, 1, 2, 3, 0, 0), (46, 1, 10, 0, 0, 0), (47, 1, 0, 0, 0, 0), (48, 3, 1, 12, 15, 26), (51, 1, 2, 2, 0, 0), (52, 1, 10, 0, 0, 0), (53, 3, 6, 62, 3, 0), (56, 3, 9, 3, 4294967295, 0), (59, 3, 8, 41, 0, 0)]) rfl) ?_
                refine xg_t (xg_aload (va := (2, 82)) rfl rfl) ?_
                refine xg_t (xg_getf (va := (2, 88)) h82_31 rfl) ?_
                refine xg_t (xg_iload (va := (0, jj)) rfl rfl) ?_
                refine xg_ialdB (n := jj) (B := 5) hR88 (hob) xnm0 (by omega) (fun u143 hu144 he145 => ?_)
                refine xg_t (xg_aload (va := (2, 82)) rfl rfl) ?_
                refine xg_t (xg_getf (va := (2, 88)) h82_31 rfl) ?_
                refine xg_t (xg_iload (va := (0, ii)) rfl rfl) ?_
                refine xg_ialdB (n := ii) (B := 5) hR88 (hob) xnm0 (by omega) (fun u146 hu147 he148 => ?_)
                by_cases hc149 : u143 < u146
                · refine xg_t (xg_icF (u := u143) (v := u146) rfl xnm0 xnm0 (xj_geF hc149 (by omega))) ?_
                  refine xg_t (xg_iinc (u := jj) (z := jj - 1) (l1 := [(0, (2, 82)), (1, (0, nn)), (2, (0, ii))]) rfl rfl (by omega) rfl) ?_
                  refine xg_t (xg_goto) ?_
                  refine xg_t (xg_drop (l1 := [(0, (2, 82)), (1, (0, nn)), (2, (0, ii)), (3, (0, jj - 1))]) (List.forall_mem_cons.mpr ⟨List.mem_cons_of_mem _ (List.mem_cons_self), List.forall_mem_cons.mpr ⟨List.mem_cons_of_mem _ (List.mem_cons_of_mem _ (List.mem_cons_self)), List.forall_mem_cons.mpr ⟨List.mem_cons_of_mem _ (List.mem_cons_of_mem _ (List.mem_cons_of_mem _ (List.mem_cons_self))), List.forall_mem_cons.mpr ⟨List.mem_cons_self, fun _ h => absurd h List.not_mem_nil⟩⟩⟩⟩)) ?_
                  have hne150 : jj ≠ ii + 1 := fun e => by have q := he145; rw [e] at q; omega
                  exact ih135 (jj - 1)  (by omega) (by omega) (by omega)
                · refine xg_t (xg_icT (u := u143) (v := u146) rfl xnm0 xnm0 (xj_geT (by omega) (by omega))) ?_
                  refine xg_t (xg_blk (b := [(62, 1, 0, 0, 0, 0), (63, 1, 2, 2, 0, 0), (64, 1, 2, 3, 0, 0), (65, 3, 13, 226, 96, 257), (68, 1, 2, 2, 0, 0), (69, 1, 3, 1, 0, 0), (70, 1, 11, 0, 0, 0), (71, 2, 15, 4, 0, 0), (73, 1, 2, 1, 0, 0), (74, 1, 3, 1, 0, 0), (75, 1, 18, 0, 0, 0), (76, 2, 15, 5, 0, 0)]) rfl) ?_
                  refine xg_t (xg_aload (va := (2, 82)) rfl rfl) ?_
                  refine xg_t (xg_iload (va := (0, ii)) rfl rfl) ?_
                  refine xg_t (xg_iload (va := (0, jj)) rfl rfl) ?_
                  refine xg_cVv mX12_swap (vs := [(0, ii), (0, jj)]) (rest := []) (cn1 := 0) (sl1 := 0) rfl (mSwap (hI) (by omega) (by omega) hR88 hob) rfl h82_31 rfl rfl rfl rfl rfl rfl (fun w151 hq152 => ?_)
                  obtain ⟨hI153, hF154, hx155⟩ := hq152
                  obtain ⟨o156, hs157, hs158, hs159, hs160, hs161⟩ := hx155
                  have hP162 := hperm.swap (by omega) (by omega) hs159 hs160 hs161
                  refine xg_t (xg_iload (va := (0, ii)) rfl rfl) ?_
                  refine xg_t (xg_const) ?_
                  refine xg_t (xg_iadd (u := ii) (v := 1) (z := ii + 1) xnm0 xnm0 (by omega)) ?_
                  refine xg_t (xg_istore (l1 := [(0, (2, 82)), (1, (0, nn)), (2, (0, ii)), (3, (0, jj))]) rfl rfl rfl) ?_
                  refine xg_t (xg_iload (va := (0, nn)) rfl rfl) ?_
                  refine xg_t (xg_const) ?_
                  refine xg_t (xg_isub (u := nn) (v := 1) (z := nn - 1) xnm0 xnm0 (by omega)) ?_
                  refine xg_t (xg_istore (l1 := [(4, (0, ii + 1)), (0, (2, 82)), (1, (0, nn)), (2, (0, ii)), (3, (0, jj))]) rfl rfl rfl) ?_
                  refine xg_t (xg_drop (l1 := [(0, (2, 82)), (1, (0, nn)), (2, (0, ii)), (4, (0, ii + 1)), (5, (0, nn - 1))]) (List.forall_mem_cons.mpr ⟨List.mem_cons_of_mem _ (List.mem_cons_of_mem _ (List.mem_cons_self)), List.forall_mem_cons.mpr ⟨List.mem_cons_of_mem _ (List.mem_cons_of_mem _ (List.mem_cons_of_mem _ (List.mem_cons_self))), List.forall_mem_cons.mpr ⟨List.mem_cons_of_mem _ (List.mem_cons_of_mem _ (List.mem_cons_of_mem _ (List.mem_cons_of_mem _ (List.mem_cons_self)))), List.forall_mem_cons.mpr ⟨List.mem_cons_of_mem _ (List.mem_cons_self), List.forall_mem_cons.mpr ⟨List.mem_cons_self, fun _ h => absurd h List.not_mem_nil⟩⟩⟩⟩⟩)) ?_
                  have hg169 : o0 ii < o0 jj := by
                    have q := hperm.2 ii jj (by omega) (by omega)
                    omega
                  have key163 : ∀ (m165 : Nat) (aa bb : Nat) (w166 : List (List xE)), 6 + bb - aa < m165 → aa ≤ 6 → bb ≤ 5 → xMnv w166 → xFr [88] w w166 → (ii < aa ∧ bb < nn ∧ ∃ o, xRow w166 88 6 55 o ∧ (∀ j, o j ≤ 5) ∧ (∀ q, q < ii → o q = o0 q) ∧ o0 ii < o ii ∧ PERM o nn) → xTo (d + 1) mX12_reorders (78, [], [(0, (2, 82)), (1, (0, nn)), (2, (0, ii)), (4, (0, aa)), (5, (0, bb))], [], (w166, bd, fc, 0, 0, rr)) (fun φ => ∃ n w', xEnd 4 [(0, n)] (w', bd, fc, 0, 0, rr) φ ∧ (((n = 0 ∧ LX w' = LX w) ∨ (n = 1 ∧ LX w < LX w')) ∧ ∃ o, xRow w' 88 6 55 o ∧ (∀ j, o j ≤ 5) ∧ PERM o nn) ∧ xMnv w' ∧ xFr [88] w w') := by
                    intro m165
                    induction m165 with
                    | zero => intro aa bb w166 hz; exact absurd hz (Nat.not_lt_zero _)
                    | succ m165 ih164 =>
                      intro aa bb w166 hm173 hn170 hn171 hI167 hF168 he172
                      obtain ⟨hk174, hk175, o181, hk176, hk177, hk178, hk179, hk180⟩ := he172
                      refine xg_t (xg_blk (b := [(78, 2, 2, 4, 0, 0), (80, 2, 2, 5, 0, 0), (82, 3, 6, 102, 3, 0), (85, 1, 0, 0, 0, 0), (86, 2, 2, 4, 0, 0), (88, 2, 2, 5, 0, 0), (90, 3, 13, 226, 96, 257), (93, 3, 9, 4, 1, 0), (96, 3, 9, 5, 4294967295, 0), (99, 3, 8, 78, 0, 0)]) rfl) ?_
                      refine xg_t (xg_iload (va := (0, aa)) rfl rfl) ?_
                      refine xg_t (xg_iload (va := (0, bb)) rfl rfl) ?_
                      by_cases hc182 : aa < bb
                      · refine xg_t (xg_icF (u := aa) (v := bb) rfl xnm0 xnm0 (xj_geF hc182 (by omega))) ?_
                        refine xg_t (xg_aload (va := (2, 82)) rfl rfl) ?_
                        refine xg_t (xg_iload (va := (0, aa)) rfl rfl) ?_
                        refine xg_t (xg_iload (va := (0, bb)) rfl rfl) ?_
                        refine xg_cVv mX12_swap (vs := [(0, aa), (0, bb)]) (rest := []) (cn1 := 0) (sl1 := 0) rfl (mSwap (hI167) (by omega) (by omega) hk176 hk177) rfl (hF168.get (by decide) h82_31) rfl rfl rfl rfl rfl rfl (fun w183 hq184 => ?_)
                        obtain ⟨hI185, hF186, hx187⟩ := hq184
                        obtain ⟨o188, hs189, hs190, hs191, hs192, hs193⟩ := hx187
                        have hP194 := hk180.swap (by omega) (by omega) hs191 hs192 hs193
                        refine xg_t (xg_iinc (u := aa) (z := aa + 1) (l1 := [(0, (2, 82)), (1, (0, nn)), (2, (0, ii)), (5, (0, bb))]) rfl rfl (by omega) rfl) ?_
                        refine xg_t (xg_iinc (u := bb) (z := bb - 1) (l1 := [(4, (0, aa + 1)), (0, (2, 82)), (1, (0, nn)), (2, (0, ii))]) rfl rfl (by omega) rfl) ?_
                        refine xg_t (xg_goto) ?_
                        refine xg_t (xg_drop (l1 := [(0, (2, 82)), (1, (0, nn)), (2, (0, ii)), (4, (0, aa + 1)), (5, (0, bb - 1))]) (List.forall_mem_cons.mpr ⟨List.mem_cons_of_mem _ (List.mem_cons_of_mem _ (List.mem_cons_self)), List.forall_mem_cons.mpr ⟨List.mem_cons_of_mem _ (List.mem_cons_of_mem _ (List.mem_cons_of_mem _ (List.mem_cons_self))), List.forall_mem_cons.mpr ⟨List.mem_cons_of_mem _ (List.mem_cons_of_mem _ (List.mem_cons_of_mem _ (List.mem_cons_of_mem _ (List.mem_cons_self)))), List.forall_mem_cons.mpr ⟨List.mem_cons_of_mem _ (List.mem_cons_self), List.forall_mem_cons.mpr ⟨List.mem_cons_self, fun _ h => absurd h List.not_mem_nil⟩⟩⟩⟩⟩)) ?_
                        exact ih164 (aa + 1) (bb - 1) w183 (by omega) (by omega) (by omega) (hI185) ((hF168.tr (hF186.up (by decide)))) (⟨by omega, by omega, _, hs189, hs190, fun q hq => (hs193 q (by omega) (by omega)).trans (hk178 q hq), by rw [hs193 ii (by omega) (by omega)]; exact hk179, hP194⟩)
                      · refine xg_t (xg_icT (u := aa) (v := bb) rfl xnm0 xnm0 (xj_geT (by omega) (by omega))) ?_
                        refine xg_t (xg_blk (b := [(102, 1, 3, 1, 0, 0), (103, 1, 12, 0, 1, 0)]) rfl) ?_
                        refine xg_t (xg_const) ?_
                        exact xg_e ⟨1, w166, ⟨rfl, rfl⟩, ⟨Or.inr ⟨rfl, LX_lt hR88 hk176 hob (i := ii) (by omega) hk178 hk179⟩, _, hk176, hk177, hk180⟩, hI167, hF168⟩
                  exact key163 _ (ii + 1) (nn - 1) w151 (Nat.lt_succ_self _) (by omega) (by omega) (hI153) ((hF154.up (by decide))) (⟨by omega, by omega, _, hs157, hs158, fun q hq => hs161 q (by omega) (by omega), by rw [hs159]; exact hg169, hP162⟩)
            exact key134 _ (nn - 1)  (Nat.lt_succ_self _) (by omega) (by omega)
        · refine xg_t (xg_ifT (u := ii) rfl xnm0 (xjz_ltT (by omega) (by omega))) ?_
          refine xg_t (xg_blk (b := [(31, 1, 2, 2, 0, 0), (32, 3, 7, 37, 3, 0), (35, 1, 3, 0, 0, 0), (36, 1, 12, 0, 1, 0)]) rfl) ?_
          refine xg_t (xg_iload (va := (0, ii)) rfl rfl) ?_
          refine xg_t (xg_ifF (u := ii) rfl xnm0 (xjz_geF (by omega) (by omega))) ?_
          refine xg_t (xg_const) ?_
          exact xg_e ⟨0, w, ⟨rfl, rfl⟩, ⟨Or.inl ⟨rfl, rfl⟩, _, hR88, hob, hperm⟩, hI, xFr.rf⟩
    exact key116 _ z113  (Nat.lt_succ_self _) (by omega) (by omega)
theorem mOrder {wh : Nat} (hI : xMnv w) (hwh : wh ≤ 4294967295) : xPi (d + 2) mX12_order [(2, 82), (0, wh)] w bd fc rr (fun n w' => (n ≤ 4294967295) ∧ xMnv w' ∧ xFr [88, 89, 90, 91, 92, 93, 94] w w') := by
  refine xPi.of ?_
  show xTo (d + 2) mX12_order (0, [], [(0, (2, 82)), (1, (0, wh))], [], (w, bd, fc, 0, 0, rr)) (fun φ => ∃ n w', xEnd 1 [(0, n)] (w', bd, fc, 0, 0, rr) φ ∧ (n ≤ 4294967295) ∧ xMnv w' ∧ xFr [88, 89, 90, 91, 92, 93, 94] w w')
  refine xoCh82 (hI 82 (by decide) (by decide) : cp82 (wget w 82)) (fun f82_1 f82_3 f82_5 f82_7 f82_9 f82_11 f82_13 f82_15 f82_17 f82_19 f82_21 f82_22 f82_23 f82_25 f82_27 f82_29 h82_31 hb2 hb4 hb6 hb8 hb10 hb12 hb14 hb16 hb18 hb20 hb24 hb26 hb28 hb30 hb32 => ?_)
  refine xoX83 (hI 83 (by decide) (by decide) : cpx83 (wget w 83)) (fun g83_33 h83_34 hb35 hx36 => ?_)
  refine xg_t (xg_blk (b := [(0, 1, 0, 0, 0, 0), (1, 3, 1, 12, 0, 7), (4, 1, 3, 0, 0, 0), (5, 1, 10, 0, 0, 0), (6, 1, 15, 2, 0, 0), (7, 1, 2, 2, 0, 0), (8, 3, 7, 20, 0, 0), (11, 1, 2, 1, 0, 0), (12, 1, 3, 0, 0, 0), (13, 1, 2, 2, 0, 0), (14, 3, 13, 161, 98, 105), (17, 3, 7, 22, 1, 0)]) rfl) ?_
  refine xg_t (xg_aload (va := (2, 82)) rfl rfl) ?_
  refine xg_t (xg_getf (va := (2, 83)) h82_31 rfl) ?_
  refine xg_t (xg_const) ?_
  refine xg_ialdB (n := 0) (B := 4294967295) h83_34 (hb35) xnm0 (by first | decide | omega) (fun u37 hu38 he39 => ?_)
  have hl40 : u37 ≤ 6 := by rw [← he39]; exact hx36.l0
  refine xg_t (xg_istore (l1 := [(0, (2, 82)), (1, (0, wh))]) rfl rfl rfl) ?_
  refine xg_t (xg_iload (va := (0, u37)) rfl rfl) ?_
  by_cases hc41 : u37 = 0
  · refine xg_t (xg_ifT (u := u37) rfl xnm0 (xj_eqT hc41)) ?_
    refine xg_t (xg_blk (b := [(20, 1, 3, 4294967295, 0, 0), (21, 1, 12, 0, 1, 0)]) rfl) ?_
    refine xg_t (xg_const) ?_
    exact xg_e ⟨4294967295, w, ⟨rfl, rfl⟩, by first | decide | omega, hI, xFr.rf⟩
  · refine xg_t (xg_ifF (u := u37) rfl xnm0 (xj_eqF hc41)) ?_
    refine xg_t (xg_iload (va := (0, wh)) rfl rfl) ?_
    refine xg_t (xg_const) ?_
    refine xg_t (xg_iload (va := (0, u37)) rfl rfl) ?_
    refine xg_t (xg_cSr mX12_isIn (vs := [(0, wh), (0, 0), (0, u37)]) (rest := []) (rs := [(0, if 0 ≤ wh ∧ wh ≤ u37 then 1 else 0)]) (cn1 := 0) (sl1 := 0) rfl (mIsIn (by omega) (by omega) (by omega)) rfl rfl rfl rfl rfl rfl rfl rfl) ?_
    by_cases hc42 : 0 ≤ wh ∧ wh ≤ u37
    · refine xg_t (xg_ifT (u := (if 0 ≤ wh ∧ wh ≤ u37 then 1 else 0)) rfl xnm0 (xj_neT (xite1 hc42))) ?_
      refine xg_t (xg_blk (b := [(22, 1, 0, 0, 0, 0), (23, 3, 13, 155, 96, 235), (26, 3, 5, 20000, 0, 0), (29, 1, 15, 3, 0, 0), (30, 1, 3, 1, 0, 0), (31, 2, 15, 4, 0, 0)]) rfl) ?_
      refine xg_t (xg_aload (va := (2, 82)) rfl rfl) ?_
      refine xg_cVv mX12_inOrder (vs := []) (rest := []) (cn1 := 0) (sl1 := 0) rfl (mInOrder (hI)) rfl h82_31 rfl rfl rfl rfl rfl rfl (fun w43 hq44 => ?_)
      obtain ⟨hI45, hF46, hx47⟩ := hq44
      obtain ⟨o48, hr49, hb50, ho51⟩ := hx47
      refine xg_t (xg_sip) ?_
      refine xg_t (xg_istore (l1 := [(2, (0, u37)), (0, (2, 82)), (1, (0, wh))]) rfl rfl rfl) ?_
      refine xg_t (xg_const) ?_
      refine xg_t (xg_istore (l1 := [(3, (0, 20000)), (2, (0, u37)), (0, (2, 82)), (1, (0, wh))]) rfl rfl rfl) ?_
      refine xg_t (xg_drop (l1 := [(0, (2, 82)), (1, (0, wh)), (2, (0, u37)), (3, (0, 20000)), (4, (0, 1))]) (List.forall_mem_cons.mpr ⟨List.mem_cons_of_mem _ (List.mem_cons_of_mem _ (List.mem_cons_of_mem _ (List.mem_cons_self))), List.forall_mem_cons.mpr ⟨List.mem_cons_of_mem _ (List.mem_cons_of_mem _ (List.mem_cons_of_mem _ (List.mem_cons_of_mem _ (List.mem_cons_self)))), List.forall_mem_cons.mpr ⟨List.mem_cons_of_mem _ (List.mem_cons_of_mem _ (List.mem_cons_self)), List.forall_mem_cons.mpr ⟨List.mem_cons_of_mem _ (List.mem_cons_self), List.forall_mem_cons.mpr ⟨List.mem_cons_self, fun _ h => absurd h List.not_mem_nil⟩⟩⟩⟩⟩)) ?_
      have key52 : ∀ (m54 : Nat) (lo_ mo : Nat) (w55 : List (List xE)), 2 * (46656 - LX w55) + mo < m54 → lo_ ≤ 4294967295 → mo ≤ 1 → xMnv w55 → xFr [88, 89, 90, 91, 92, 93, 94] w w55 → (∃ o, xRow w55 88 6 55 o ∧ (∀ j, o j ≤ 5) ∧ PERM o u37) → xTo (d + 2) mX12_order (33, [], [(0, (2, 82)), (1, (0, wh)), (2, (0, u37)), (3, (0, lo_)), (4, (0, mo))], [], (w55, bd, fc, 0, 0, rr)) (fun φ => ∃ n w', xEnd 1 [(0, n)] (w', bd, fc, 0, 0, rr) φ ∧ (n ≤ 4294967295) ∧ xMnv w' ∧ xFr [88, 89, 90, 91, 92, 93, 94] w w') := by
        intro m54
        induction m54 with
        | zero => intro lo_ mo w55 hz; exact absurd hz (Nat.not_lt_zero _)
        | succ m54 ih53 =>
          intro lo_ mo w55 hm61 hn58 hn59 hI56 hF57 he60
          obtain ⟨o62, hk63, hk64, hk65⟩ := he60
          have hord66 : ∀ q, q < g83_33 0 → o62 q < g83_33 0 := fun q hq => by have z := hk65.1 q (by omega); omega
          refine xg_t (xg_blk (b := [(33, 2, 2, 4, 0, 0), (35, 3, 7, 97, 0, 0), (38, 1, 0, 0, 0, 0), (39, 3, 13, 122, 96, 238), (42, 1, 0, 0, 0, 0), (43, 3, 13, 185, 96, 253), (46, 2, 15, 5, 0, 0), (48, 2, 2, 5, 0, 0), (50, 1, 2, 3, 0, 0), (51, 3, 6, 87, 3, 0), (54, 2, 2, 5, 0, 0), (56, 1, 15, 3, 0, 0), (57, 1, 3, 0, 0, 0), (58, 2, 15, 6, 0, 0)]) rfl) ?_
          refine xg_t (xg_iload (va := (0, mo)) rfl rfl) ?_
          by_cases hc67 : mo = 0
          · refine xg_t (xg_ifT (u := mo) rfl xnm0 (xj_eqT hc67)) ?_
            refine xg_t (xg_blk (b := [(97, 1, 2, 1, 0, 0), (98, 3, 7, 105, 1, 0), (101, 1, 2, 3, 0, 0), (102, 3, 8, 113, 0, 0)]) rfl) ?_
            refine xg_t (xg_iload (va := (0, wh)) rfl rfl) ?_
            by_cases hc68 : wh = 0
            · refine xg_t (xg_ifF (u := wh) rfl xnm0 (xj_neF hc68)) ?_
              refine xg_t (xg_iload (va := (0, lo_)) rfl rfl) ?_
              refine xg_t (xg_goto) ?_
              refine xg_t (xg_blk (b := [(113, 1, 12, 0, 1, 0)]) rfl) ?_
              exact xg_e ⟨lo_, w55, ⟨rfl, rfl⟩, by omega, hI56, hF57⟩
            · refine xg_t (xg_ifT (u := wh) rfl xnm0 (xj_neT hc68)) ?_
              refine xg_t (xg_blk (b := [(105, 1, 0, 0, 0, 0), (106, 3, 1, 12, 16, 29), (109, 1, 2, 1, 0, 0), (110, 1, 3, 1, 0, 0), (111, 1, 18, 0, 0, 0), (112, 1, 10, 0, 0, 0)]) rfl) ?_
              refine xg_t (xg_aload (va := (2, 82)) rfl rfl) ?_
              refine xg_t (xg_getf (va := (2, 89)) (hF57.get (by decide) h82_31) rfl) ?_
              refine xg_t (xg_iload (va := (0, wh)) rfl rfl) ?_
              refine xg_t (xg_const) ?_
              refine xg_t (xg_isub (u := wh) (v := 1) (z := wh - 1) xnm0 xnm0 (by omega)) ?_
              refine xoI (hI56 89 (by decide) (by decide) : cpI 6 56 4294967295 (wget w55 89)) (fun g89_69 h89_70 hb71 => ?_)
              refine xg_ialdB (n := wh - 1) (B := 4294967295) h89_70 (hb71) xnm0 (by omega) (fun u72 hu73 he74 => ?_)
              refine xg_t (xg_blk (b := [(113, 1, 12, 0, 1, 0)]) rfl) ?_
              exact xg_e ⟨u72, w55, ⟨rfl, rfl⟩, by omega, hI56, hF57⟩
          · refine xg_t (xg_ifF (u := mo) rfl xnm0 (xj_eqF hc67)) ?_
            refine xg_t (xg_aload (va := (2, 82)) rfl rfl) ?_
            refine xg_cVv mX12_blocks (vs := []) (rest := []) (cn1 := 0) (sl1 := 0) rfl (mBlocks (hI56) hk63 hk64 (h83_34.fr hF57 (by decide)) hb35 hx36 hord66) rfl (hF57.get (by decide) h82_31) rfl rfl rfl rfl rfl rfl (fun w75 hq76 => ?_)
            obtain ⟨hI77, hF78, hx79⟩ := hq76
            obtain ⟨U80, hr81, hU82⟩ := hx79
            have hL83 := LX_fr hF78 (by decide)
            refine xg_t (xg_aload (va := (2, 82)) rfl rfl) ?_
            refine xg_cVi mX12_leastNow (vs := []) (rest := []) (cn1 := 0) (sl1 := 0) rfl (mLeastNow (hI77) (hk63.fr hF78 (by decide)) hk64 ((h83_34.fr hF57 (by decide)).fr hF78 (by decide)) hb35 hx36 hord66 hr81 hU82) rfl (hF78.get (by decide) (hF57.get (by decide) h82_31)) rfl rfl rfl rfl rfl rfl (fun n88 w84 hq85 => ?_)
            obtain ⟨hn89, hI86, hF87⟩ := hq85
            have hL90 := LX_fr hF87 (by decide)
            refine xg_t (xg_istore (l1 := [(0, (2, 82)), (1, (0, wh)), (2, (0, u37)), (3, (0, lo_)), (4, (0, mo))]) rfl rfl rfl) ?_
            refine xg_t (xg_iload (va := (0, n88)) rfl rfl) ?_
            refine xg_t (xg_iload (va := (0, lo_)) rfl rfl) ?_
            by_cases hc91 : xbs n88 < xbs lo_
            · have hc91u := hc91
              unfold xbs at hc91u
              refine xg_t (xg_icF (u := n88) (v := lo_) rfl xnm0 xnm0 (xjs_geF hc91)) ?_
              refine xg_t (xg_iload (va := (0, n88)) rfl rfl) ?_
              refine xg_t (xg_istore (l1 := [(5, (0, n88)), (0, (2, 82)), (1, (0, wh)), (2, (0, u37)), (4, (0, mo))]) rfl rfl rfl) ?_
              refine xg_t (xg_const) ?_
              refine xg_t (xg_istore (l1 := [(3, (0, n88)), (5, (0, n88)), (0, (2, 82)), (1, (0, wh)), (2, (0, u37)), (4, (0, mo))]) rfl rfl rfl) ?_
              refine xg_t (xg_drop (l1 := [(0, (2, 82)), (1, (0, wh)), (2, (0, u37)), (3, (0, n88)), (4, (0, mo)), (6, (0, 0))]) (List.forall_mem_cons.mpr ⟨List.mem_cons_of_mem _ (List.mem_cons_of_mem _ (List.mem_cons_of_mem _ (List.mem_cons_self))), List.forall_mem_cons.mpr ⟨List.mem_cons_of_mem _ (List.mem_cons_of_mem _ (List.mem_cons_of_mem _ (List.mem_cons_of_mem _ (List.mem_cons_self)))), List.forall_mem_cons.mpr ⟨List.mem_cons_of_mem _ (List.mem_cons_of_mem _ (List.mem_cons_of_mem _ (List.mem_cons_of_mem _ (List.mem_cons_of_mem _ (List.mem_cons_self))))), List.forall_mem_cons.mpr ⟨List.mem_cons_of_mem _ (List.mem_cons_self), List.forall_mem_cons.mpr ⟨List.mem_cons_of_mem _ (List.mem_cons_of_mem _ (List.mem_cons_of_mem _ (List.mem_cons_of_mem _ (List.mem_cons_of_mem _ (List.mem_cons_of_mem _ (List.mem_cons_self)))))), List.forall_mem_cons.mpr ⟨List.mem_cons_self, fun _ h => absurd h List.not_mem_nil⟩⟩⟩⟩⟩⟩)) ?_
              have key92 : ∀ (m94 : Nat) (pk : Nat) (w95 : List (List xE)), 6 - pk < m94 → pk ≤ 6 → xMnv w95 → xFr [88, 89, 90, 91, 92, 93, 94] w w95 → (LX w95 = LX w55 ∧ ∃ o, xRow w95 88 6 55 o ∧ (∀ j, o j ≤ 5) ∧ PERM o u37) → xTo (d + 2) mX12_order (60, [], [(0, (2, 82)), (1, (0, wh)), (2, (0, u37)), (3, (0, n88)), (4, (0, mo)), (6, (0, pk))], [], (w95, bd, fc, 0, 0, rr)) (fun φ => ∃ n w', xEnd 1 [(0, n)] (w', bd, fc, 0, 0, rr) φ ∧ (n ≤ 4294967295) ∧ xMnv w' ∧ xFr [88, 89, 90, 91, 92, 93, 94] w w') := by
                intro m94
                induction m94 with
                | zero => intro pk w95 hz; exact absurd hz (Nat.not_lt_zero _)
                | succ m94 ih93 =>
                  intro pk w95 hm100 hn98 hI96 hF97 he99
                  obtain ⟨hL101, hT102⟩ := he99
                  obtain ⟨o103, hk104, hk105, hk106⟩ := hT102
                  have hord107 : ∀ q, q < g83_33 0 → o103 q < g83_33 0 := fun q hq => by have z := hk106.1 q (by omega); omega
                  refine xg_t (xg_blk (b := [(60, 2, 2, 6, 0, 0), (62, 2, 4, 6, 0, 0), (64, 3, 6, 87, 3, 0), (67, 1, 0, 0, 0, 0), (68, 3, 1, 12, 16, 29), (71, 2, 2, 6, 0, 0), (73, 1, 0, 0, 0, 0), (74, 3, 1, 12, 15, 26), (77, 2, 2, 6, 0, 0), (79, 1, 10, 0, 0, 0), (80, 1, 17, 0, 0, 0), (81, 3, 9, 6, 1, 0), (84, 3, 8, 60, 0, 0)]) rfl) ?_
                  refine xg_t (xg_iload (va := (0, pk)) rfl rfl) ?_
                  refine xg_t (xg_bip) ?_
                  by_cases hc108 : pk < 6
                  · refine xg_t (xg_icF (u := pk) (v := 6) rfl xnm0 xnm0 (xj_geF hc108 (by omega))) ?_
                    refine xg_t (xg_aload (va := (2, 82)) rfl rfl) ?_
                    refine xg_t (xg_getf (va := (2, 89)) (hF97.get (by decide) h82_31) rfl) ?_
                    refine xg_t (xg_iload (va := (0, pk)) rfl rfl) ?_
                    refine xg_t (xg_aload (va := (2, 82)) rfl rfl) ?_
                    refine xg_t (xg_getf (va := (2, 88)) (hF97.get (by decide) h82_31) rfl) ?_
                    refine xg_t (xg_iload (va := (0, pk)) rfl rfl) ?_
                    refine xg_ialdB (n := pk) (B := 5) hk104 (hk105) xnm0 (by omega) (fun u109 hu110 he111 => ?_)
                    refine xoI (hI96 89 (by decide) (by decide) : cpI 6 56 4294967295 (wget w95 89)) (fun g89_112 h89_113 hb114 => ?_)
                    refine xg_iastK (n := pk) (u := u109) h89_113 xnm0 xnm0 rfl (by omega) (fun w115 hr116 hb117 => ?_)
                    refine xg_t (xg_iinc (u := pk) (z := pk + 1) (l1 := [(0, (2, 82)), (1, (0, wh)), (2, (0, u37)), (3, (0, n88)), (4, (0, mo))]) rfl rfl (by omega) rfl) ?_
                    refine xg_t (xg_goto) ?_
                    refine xg_t (xg_drop (l1 := [(0, (2, 82)), (1, (0, wh)), (2, (0, u37)), (3, (0, n88)), (4, (0, mo)), (6, (0, pk + 1))]) (List.forall_mem_cons.mpr ⟨List.mem_cons_of_mem _ (List.mem_cons_self), List.forall_mem_cons.mpr ⟨List.mem_cons_of_mem _ (List.mem_cons_of_mem _ (List.mem_cons_self)), List.forall_mem_cons.mpr ⟨List.mem_cons_of_mem _ (List.mem_cons_of_mem _ (List.mem_cons_of_mem _ (List.mem_cons_self))), List.forall_mem_cons.mpr ⟨List.mem_cons_of_mem _ (List.mem_cons_of_mem _ (List.mem_cons_of_mem _ (List.mem_cons_of_mem _ (List.mem_cons_self)))), List.forall_mem_cons.mpr ⟨List.mem_cons_of_mem _ (List.mem_cons_of_mem _ (List.mem_cons_of_mem _ (List.mem_cons_of_mem _ (List.mem_cons_of_mem _ (List.mem_cons_self))))), List.forall_mem_cons.mpr ⟨List.mem_cons_self, fun _ h => absurd h List.not_mem_nil⟩⟩⟩⟩⟩⟩)) ?_
                    have hL118 := LX_fr (S := [89]) (xFr.of hb117 (by decide)) (by decide)
                    exact ih93 (pk + 1) w115 (by omega) (by omega) (xMnv.up (S := [89]) hI96 (xFr.of (S := [89]) hb117 (by decide)) (List.forall_mem_cons.mpr ⟨(show cpI 6 56 4294967295 (wget w115 89) from ⟨_, hr116, xrb (by omega) (hb114)⟩), fun _ h => absurd h List.not_mem_nil⟩)) ((hF97.tr (xFr.of (S := [88, 89, 90, 91, 92, 93, 94]) hb117 (by decide)))) (⟨by omega, _, (hk104.but hb117 (by decide)), hk105, hk106⟩)
                  · refine xg_t (xg_icT (u := pk) (v := 6) rfl xnm0 xnm0 (xj_geT (by omega) (by omega))) ?_
                    refine xg_t (xg_blk (b := [(87, 1, 0, 0, 0, 0), (88, 1, 2, 2, 0, 0), (89, 3, 13, 213, 96, 260), (92, 2, 15, 4, 0, 0), (94, 3, 8, 33, 0, 0)]) rfl) ?_
                    refine xg_t (xg_aload (va := (2, 82)) rfl rfl) ?_
                    refine xg_t (xg_iload (va := (0, u37)) rfl rfl) ?_
                    refine xg_cVi mX12_reorders (vs := [(0, u37)]) (rest := []) (cn1 := 0) (sl1 := 0) rfl (mReorders (hI96) (by omega) (by omega) hk104 hk105 hk106) rfl (hF97.get (by decide) h82_31) rfl rfl rfl rfl rfl rfl (fun n123 w119 hq120 => ?_)
                    obtain ⟨hn124, hI121, hF122⟩ := hq120
                    obtain ⟨hL125, hT126⟩ := hn124
                    obtain ⟨o127, hk128, hk129, hk130⟩ := hT126
                    have hord131 : ∀ q, q < g83_33 0 → o127 q < g83_33 0 := fun q hq => by have z := hk130.1 q (by omega); omega
                    have hL132 := LX_le hk128 hk129
                    refine xg_t (xg_istore (l1 := [(0, (2, 82)), (1, (0, wh)), (2, (0, u37)), (3, (0, n88)), (6, (0, pk))]) rfl rfl rfl) ?_
                    refine xg_t (xg_goto) ?_
                    refine xg_t (xg_drop (l1 := [(0, (2, 82)), (1, (0, wh)), (2, (0, u37)), (3, (0, n88)), (4, (0, n123))]) (List.forall_mem_cons.mpr ⟨List.mem_cons_of_mem _ (List.mem_cons_self), List.forall_mem_cons.mpr ⟨List.mem_cons_of_mem _ (List.mem_cons_of_mem _ (List.mem_cons_self)), List.forall_mem_cons.mpr ⟨List.mem_cons_of_mem _ (List.mem_cons_of_mem _ (List.mem_cons_of_mem _ (List.mem_cons_self))), List.forall_mem_cons.mpr ⟨List.mem_cons_of_mem _ (List.mem_cons_of_mem _ (List.mem_cons_of_mem _ (List.mem_cons_of_mem _ (List.mem_cons_self)))), List.forall_mem_cons.mpr ⟨List.mem_cons_self, fun _ h => absurd h List.not_mem_nil⟩⟩⟩⟩⟩)) ?_
                    exact ih53 n88 n123 w119 (by omega) (by omega) (by omega) (hI121) ((hF97.tr (hF122.up (by decide)))) (⟨_, hk128, hk129, hk130⟩)
              exact key92 _ 0 w84 (Nat.lt_succ_self _) (by omega) (hI86) (((hF57.tr (hF78.up (by decide))).tr (hF87.up (by decide)))) (⟨by omega, _, ((hk63.fr hF78 (by decide)).fr hF87 (by decide)), hk64, hk65⟩)
            · have hc91u := hc91
              unfold xbs at hc91u
              refine xg_t (xg_icT (u := n88) (v := lo_) rfl xnm0 xnm0 (xjs_geT hc91)) ?_
              refine xg_t (xg_blk (b := [(87, 1, 0, 0, 0, 0), (88, 1, 2, 2, 0, 0), (89, 3, 13, 213, 96, 260), (92, 2, 15, 4, 0, 0), (94, 3, 8, 33, 0, 0)]) rfl) ?_
              refine xg_t (xg_aload (va := (2, 82)) rfl rfl) ?_
              refine xg_t (xg_iload (va := (0, u37)) rfl rfl) ?_
              refine xg_cVi mX12_reorders (vs := [(0, u37)]) (rest := []) (cn1 := 0) (sl1 := 0) rfl (mReorders (hI86) (by omega) (by omega) ((hk63.fr hF78 (by decide)).fr hF87 (by decide)) hk64 hk65) rfl (hF87.get (by decide) (hF78.get (by decide) (hF57.get (by decide) h82_31))) rfl rfl rfl rfl rfl rfl (fun n137 w133 hq134 => ?_)
              obtain ⟨hn138, hI135, hF136⟩ := hq134
              obtain ⟨hL139, hT140⟩ := hn138
              obtain ⟨o141, hk142, hk143, hk144⟩ := hT140
              have hord145 : ∀ q, q < g83_33 0 → o141 q < g83_33 0 := fun q hq => by have z := hk144.1 q (by omega); omega
              have hL146 := LX_le hk142 hk143
              refine xg_t (xg_istore (l1 := [(5, (0, n88)), (0, (2, 82)), (1, (0, wh)), (2, (0, u37)), (3, (0, lo_))]) rfl rfl rfl) ?_
              refine xg_t (xg_goto) ?_
              refine xg_t (xg_drop (l1 := [(0, (2, 82)), (1, (0, wh)), (2, (0, u37)), (3, (0, lo_)), (4, (0, n137))]) (List.forall_mem_cons.mpr ⟨List.mem_cons_of_mem _ (List.mem_cons_of_mem _ (List.mem_cons_self)), List.forall_mem_cons.mpr ⟨List.mem_cons_of_mem _ (List.mem_cons_of_mem _ (List.mem_cons_of_mem _ (List.mem_cons_self))), List.forall_mem_cons.mpr ⟨List.mem_cons_of_mem _ (List.mem_cons_of_mem _ (List.mem_cons_of_mem _ (List.mem_cons_of_mem _ (List.mem_cons_self)))), List.forall_mem_cons.mpr ⟨List.mem_cons_of_mem _ (List.mem_cons_of_mem _ (List.mem_cons_of_mem _ (List.mem_cons_of_mem _ (List.mem_cons_of_mem _ (List.mem_cons_self))))), List.forall_mem_cons.mpr ⟨List.mem_cons_self, fun _ h => absurd h List.not_mem_nil⟩⟩⟩⟩⟩)) ?_
              exact ih53 lo_ n137 w133 (by omega) (by omega) (by omega) (hI135) ((((hF57.tr (hF78.up (by decide))).tr (hF87.up (by decide))).tr (hF136.up (by decide)))) (⟨_, hk142, hk143, hk144⟩)
      exact key52 _ 20000 1 w43 (Nat.lt_succ_self _) (by omega) (by omega) (hI45) ((hF46.up (by decide))) (⟨_, hr49, hb50, PERM.id ho51 (by omega)⟩)
    · refine xg_t (xg_ifF (u := (if 0 ≤ wh ∧ wh ≤ u37 then 1 else 0)) rfl xnm0 (xj_neF (xite0 hc42))) ?_
      refine xg_t (xg_blk (b := [(20, 1, 3, 4294967295, 0, 0), (21, 1, 12, 0, 1, 0)]) rfl) ?_
      refine xg_t (xg_const) ?_
      exact xg_e ⟨4294967295, w, ⟨rfl, rfl⟩, by first | decide | omega, hI, xFr.rf⟩
end XM9
