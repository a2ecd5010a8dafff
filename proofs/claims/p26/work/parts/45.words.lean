/-! words; the texts of films -/
section XWD
variable {d : Nat} {w : List (List xE)} {bd : List (Nat × Nat)} {fc : List (Nat × Nat × Bool)} {rr : Nat × Nat}
theorem tkIsWord42 {i : Nat} {qb : List Nat} (hI : xInv w) (hi : xget xsbt i = some qb) : xPi (d + 4) mX8_isWord [(2, 42), (8, 100 + i)] w bd fc rr (fun n w' => (n ≤ 1) ∧ xInv w' ∧ xFr [] w w') := by
  refine xPi.of ?_
  show xTo (d + 4) mX8_isWord (0, [], [(0, (2, 42)), (1, (8, 100 + i))], [], (w, bd, fc, 0, 0, rr)) (fun φ => ∃ n w', xEnd 4 [(0, n)] (w', bd, fc, 0, 0, rr) φ ∧ (n ≤ 1) ∧ xInv w' ∧ xFr [] w w')
  obtain ⟨hl6, hq7⟩ := xsbt_ok hi
  obtain ⟨f42_1, f42_3, f42_5, f42_7, f42_9, h42_11, hb2, hb4, hb6, hb8, hb10, hb12⟩ := (hI 42 (by decide) : cp42 (wget w 42))
  obtain ⟨g2_13, h2_14, hb15⟩ := (hI 2 (by decide) : cpY 500 0 (wget w 2))
  have h2_14 : xRk 1 0 w 2 500 0 g2_13 := h2_14
  refine xg_t (xg_blk (b := [(0, 1, 0, 0, 0, 0), (1, 3, 1, 8, 2, 32), (4, 1, 3, 1, 0, 0), (5, 3, 6, 24, 1, 0), (8, 1, 0, 0, 0, 0), (9, 3, 1, 8, 4, 23), (12, 1, 0, 0, 0, 0), (13, 3, 1, 8, 3, 29), (16, 1, 18, 0, 0, 0), (17, 1, 0, 1, 0, 0), (18, 3, 73, 0, 0, 51), (21, 3, 6, 26, 0, 0)]) rfl) ?_
  refine xg_t (xg_aload (va := (2, 42)) rfl rfl) ?_
  refine xg_t (xg_getf (va := (0, f42_3)) h42_11 rfl) ?_
  refine xg_t (xg_const) ?_
  by_cases hc16 : f42_3 = 1
  · refine xg_t (xg_icF (u := f42_3) (v := 1) rfl xnm0 xnm0 (xj_neF hc16)) ?_
    refine xg_t (xg_aload (va := (2, 42)) rfl rfl) ?_
    refine xg_t (xg_getf (va := (0, f42_7)) h42_11 rfl) ?_
    refine xg_t (xg_aload (va := (2, 42)) rfl rfl) ?_
    refine xg_t (xg_getf (va := (0, f42_5)) h42_11 rfl) ?_
    by_cases hc17 : f42_5 ≤ f42_7
    · refine xg_t (xg_isub (u := f42_7) (v := f42_5) (z := f42_7 - f42_5) xnm0 xnm0 (by omega)) ?_
      refine xg_t (xg_aload (va := (8, 100 + i)) rfl rfl) ?_
      refine xg_t (xg_slen (i := i) (qb := qb) (Nat.zero_le _) (Nat.zero_le _) (Nat.le_of_ble_eq_true rfl) hi (by omega)) ?_
      by_cases hc18 : (f42_7 - f42_5) = qb.length
      · refine xg_t (xg_icT (u := f42_7 - f42_5) (v := qb.length) rfl xnm0 xnm0 (xj_eqT hc18)) ?_
        refine xg_t (xg_blk (b := [(26, 1, 3, 0, 0, 0), (27, 1, 15, 2, 0, 0)]) rfl) ?_
        refine xg_t (xg_const) ?_
        refine xg_t (xg_istore (l1 := [(0, (2, 42)), (1, (8, 100 + i))]) rfl rfl rfl) ?_
        refine xg_t (xg_drop (l1 := [(0, (2, 42)), (1, (8, 100 + i)), (2, (0, 0))]) (List.forall_mem_cons.mpr ⟨List.mem_cons_of_mem _ (List.mem_cons_self), List.forall_mem_cons.mpr ⟨List.mem_cons_of_mem _ (List.mem_cons_of_mem _ (List.mem_cons_self)), List.forall_mem_cons.mpr ⟨List.mem_cons_self, fun _ h => absurd h List.not_mem_nil⟩⟩⟩)) ?_
        have key19 : ∀ (m21 : Nat) (ki : Nat) (w22 : List (List xE)), qb.length - ki < m21 → ki ≤ 6 → xInv w22 → xFr [] w w22 → xTo (d + 4) mX8_isWord (28, [], [(0, (2, 42)), (1, (8, 100 + i)), (2, (0, ki))], [], (w22, bd, fc, 0, 0, rr)) (fun φ => ∃ n w', xEnd 4 [(0, n)] (w', bd, fc, 0, 0, rr) φ ∧ (n ≤ 1) ∧ xInv w' ∧ xFr [] w w') := by
          intro m21
          induction m21 with
          | zero => intro ki w22 hz; exact absurd hz (Nat.not_lt_zero _)
          | succ m21 ih20 =>
            intro ki w22 hm26 hn25 hI23 hF24
            refine xg_t (xg_blk (b := [(28, 1, 2, 2, 0, 0), (29, 1, 0, 1, 0, 0), (30, 3, 73, 0, 0, 51), (33, 3, 6, 63, 3, 0), (36, 1, 0, 0, 0, 0), (37, 3, 1, 8, 0, 7), (40, 1, 0, 0, 0, 0), (41, 3, 1, 8, 3, 29), (44, 1, 2, 2, 0, 0), (45, 1, 11, 0, 0, 0), (46, 1, 32, 0, 0, 0), (47, 1, 0, 1, 0, 0), (48, 1, 2, 2, 0, 0), (49, 3, 74, 0, 0, 56), (52, 3, 6, 57, 0, 0), (55, 1, 3, 0, 0, 0), (56, 1, 12, 0, 1, 0)]) rfl) ?_
            refine xg_t (xg_iload (va := (0, ki)) rfl rfl) ?_
            refine xg_t (xg_aload (va := (8, 100 + i)) rfl rfl) ?_
            refine xg_t (xg_slen (i := i) (qb := qb) (Nat.zero_le _) (Nat.zero_le _) (Nat.le_of_ble_eq_true rfl) hi (by omega)) ?_
            by_cases hc27 : ki < qb.length
            · refine xg_t (xg_icF (u := ki) (v := qb.length) rfl xnm0 xnm0 (xj_geF hc27 (by omega))) ?_
              refine xg_t (xg_aload (va := (2, 42)) rfl rfl) ?_
              refine xg_t (xg_getf (va := (2, 2)) (hF24.get (by decide) h42_11) rfl) ?_
              refine xg_t (xg_aload (va := (2, 42)) rfl rfl) ?_
              refine xg_t (xg_getf (va := (0, f42_5)) (hF24.get (by decide) h42_11) rfl) ?_
              refine xg_t (xg_iload (va := (0, ki)) rfl rfl) ?_
              refine xg_t (xg_iadd (u := f42_5) (v := ki) (z := f42_5 + ki) xnm0 xnm0 (by omega)) ?_
              refine xg_baldY (n := f42_5 + ki) (h2_14.fr hF24 (by decide)) (hb15) xnm0 (by omega) (fun u28 hu29 he30 => ?_)
              refine xg_t (xg_aload (va := (8, 100 + i)) rfl rfl) ?_
              refine xg_t (xg_iload (va := (0, ki)) rfl rfl) ?_
              refine xg_t (xg_char (i := i) (qb := qb) (n := ki) (Nat.zero_le _) (Nat.zero_le _) (Nat.le_of_ble_eq_true rfl) hi (by omega) xnm0 (by omega) (hq7 _)) ?_
              have hz32 := hq7 ki
              generalize qb.getD ki 0 = ch31 at hz32 ⊢
              by_cases hc33 : u28 = ch31
              · refine xg_t (xg_icT (u := u28) (v := ch31) rfl xnm0 xnm0 (xj_eqT hc33)) ?_
                refine xg_t (xg_blk (b := [(57, 3, 9, 2, 1, 0), (60, 3, 8, 28, 0, 0)]) rfl) ?_
                refine xg_t (xg_iinc (u := ki) (z := ki + 1) (l1 := [(0, (2, 42)), (1, (8, 100 + i))]) rfl rfl (by omega) rfl) ?_
                refine xg_t (xg_goto) ?_
                refine xg_t (xg_drop (l1 := [(0, (2, 42)), (1, (8, 100 + i)), (2, (0, ki + 1))]) (List.forall_mem_cons.mpr ⟨List.mem_cons_of_mem _ (List.mem_cons_self), List.forall_mem_cons.mpr ⟨List.mem_cons_of_mem _ (List.mem_cons_of_mem _ (List.mem_cons_self)), List.forall_mem_cons.mpr ⟨List.mem_cons_self, fun _ h => absurd h List.not_mem_nil⟩⟩⟩)) ?_
                exact ih20 (ki + 1) w22 (by omega) (by omega) (hI23) (hF24)
              · refine xg_t (xg_icF (u := u28) (v := ch31) rfl xnm0 xnm0 (xj_eqF hc33)) ?_
                refine xg_t (xg_const) ?_
                exact xg_e ⟨0, w22, ⟨rfl, rfl⟩, by omega, hI23, hF24⟩
            · refine xg_t (xg_icT (u := ki) (v := qb.length) rfl xnm0 xnm0 (xj_geT (by omega) (by omega))) ?_
              refine xg_t (xg_blk (b := [(63, 1, 3, 1, 0, 0), (64, 1, 12, 0, 1, 0)]) rfl) ?_
              refine xg_t (xg_const) ?_
              exact xg_e ⟨1, w22, ⟨rfl, rfl⟩, by omega, hI23, hF24⟩
        exact key19 _ 0 w (Nat.lt_succ_self _) (by omega) (hI) (xFr.rf)
      · refine xg_t (xg_icF (u := f42_7 - f42_5) (v := qb.length) rfl xnm0 xnm0 (xj_eqF hc18)) ?_
        refine xg_t (xg_blk (b := [(24, 1, 3, 0, 0, 0), (25, 1, 12, 0, 1, 0)]) rfl) ?_
        refine xg_t (xg_const) ?_
        exact xg_e ⟨0, w, ⟨rfl, rfl⟩, by omega, hI, xFr.rf⟩
    · have hz36 : 4294966796 ≤ (f42_7 + (4294967296 - f42_5)) % 4294967296 := by omega
      refine xg_t (xg_isub (u := f42_7) (v := f42_5) (z := (f42_7 + (4294967296 - f42_5)) % 4294967296) xnm0 xnm0 rfl) ?_
      have hz35 : (f42_7 + (4294967296 - f42_5)) % 4294967296 < 4294967296 := Nat.mod_lt _ (by decide)
      generalize (f42_7 + (4294967296 - f42_5)) % 4294967296 = z34 at hz36 hz35 ⊢
      refine xg_t (xg_aload (va := (8, 100 + i)) rfl rfl) ?_
      refine xg_t (xg_slen (i := i) (qb := qb) (Nat.zero_le _) (Nat.zero_le _) (Nat.le_of_ble_eq_true rfl) hi (by omega)) ?_
      refine xg_t (xg_icF (u := z34) (v := qb.length) rfl xnm0 xnm0 (xj_eqF (by omega))) ?_
      refine xg_t (xg_blk (b := [(24, 1, 3, 0, 0, 0), (25, 1, 12, 0, 1, 0)]) rfl) ?_
      refine xg_t (xg_const) ?_
      exact xg_e ⟨0, w, ⟨rfl, rfl⟩, by omega, hI, xFr.rf⟩
  · refine xg_t (xg_icT (u := f42_3) (v := 1) rfl xnm0 xnm0 (xj_neT hc16)) ?_
    refine xg_t (xg_blk (b := [(24, 1, 3, 0, 0, 0), (25, 1, 12, 0, 1, 0)]) rfl) ?_
    refine xg_t (xg_const) ?_
    exact xg_e ⟨0, w, ⟨rfl, rfl⟩, by omega, hI, xFr.rf⟩
theorem tkIsWord48 {i : Nat} {qb : List Nat} (hI : xInv w) (hi : xget xsbt i = some qb) : xPi (d + 4) mX8_isWord [(2, 48), (8, 100 + i)] w bd fc rr (fun n w' => (n ≤ 1) ∧ xInv w' ∧ xFr [] w w') := by
  refine xPi.of ?_
  show xTo (d + 4) mX8_isWord (0, [], [(0, (2, 48)), (1, (8, 100 + i))], [], (w, bd, fc, 0, 0, rr)) (fun φ => ∃ n w', xEnd 4 [(0, n)] (w', bd, fc, 0, 0, rr) φ ∧ (n ≤ 1) ∧ xInv w' ∧ xFr [] w w')
  obtain ⟨hl6, hq7⟩ := xsbt_ok hi
  obtain ⟨f48_1, f48_3, f48_5, f48_7, f48_9, h48_11, hb2, hb4, hb6, hb8, hb10, hb12⟩ := (hI 48 (by decide) : cp48 (wget w 48))
  obtain ⟨g2_13, h2_14, hb15⟩ := (hI 2 (by decide) : cpY 500 0 (wget w 2))
  have h2_14 : xRk 1 0 w 2 500 0 g2_13 := h2_14
  refine xg_t (xg_blk (b := [(0, 1, 0, 0, 0, 0), (1, 3, 1, 8, 2, 32), (4, 1, 3, 1, 0, 0), (5, 3, 6, 24, 1, 0), (8, 1, 0, 0, 0, 0), (9, 3, 1, 8, 4, 23), (12, 1, 0, 0, 0, 0), (13, 3, 1, 8, 3, 29), (16, 1, 18, 0, 0, 0), (17, 1, 0, 1, 0, 0), (18, 3, 73, 0, 0, 51), (21, 3, 6, 26, 0, 0)]) rfl) ?_
  refine xg_t (xg_aload (va := (2, 48)) rfl rfl) ?_
  refine xg_t (xg_getf (va := (0, f48_3)) h48_11 rfl) ?_
  refine xg_t (xg_const) ?_
  by_cases hc16 : f48_3 = 1
  · refine xg_t (xg_icF (u := f48_3) (v := 1) rfl xnm0 xnm0 (xj_neF hc16)) ?_
    refine xg_t (xg_aload (va := (2, 48)) rfl rfl) ?_
    refine xg_t (xg_getf (va := (0, f48_7)) h48_11 rfl) ?_
    refine xg_t (xg_aload (va := (2, 48)) rfl rfl) ?_
    refine xg_t (xg_getf (va := (0, f48_5)) h48_11 rfl) ?_
    by_cases hc17 : f48_5 ≤ f48_7
    · refine xg_t (xg_isub (u := f48_7) (v := f48_5) (z := f48_7 - f48_5) xnm0 xnm0 (by omega)) ?_
      refine xg_t (xg_aload (va := (8, 100 + i)) rfl rfl) ?_
      refine xg_t (xg_slen (i := i) (qb := qb) (Nat.zero_le _) (Nat.zero_le _) (Nat.le_of_ble_eq_true rfl) hi (by omega)) ?_
      by_cases hc18 : (f48_7 - f48_5) = qb.length
      · refine xg_t (xg_icT (u := f48_7 - f48_5) (v := qb.length) rfl xnm0 xnm0 (xj_eqT hc18)) ?_
        refine xg_t (xg_blk (b := [(26, 1, 3, 0, 0, 0), (27, 1, 15, 2, 0, 0)]) rfl) ?_
        refine xg_t (xg_const) ?_
        refine xg_t (xg_istore (l1 := [(0, (2, 48)), (1, (8, 100 + i))]) rfl rfl rfl) ?_
        refine xg_t (xg_drop (l1 := [(0, (2, 48)), (1, (8, 100 + i)), (2, (0, 0))]) (List.forall_mem_cons.mpr ⟨List.mem_cons_of_mem _ (List.mem_cons_self), List.forall_mem_cons.mpr ⟨List.mem_cons_of_mem _ (List.mem_cons_of_mem _ (List.mem_cons_self)), List.forall_mem_cons.mpr ⟨List.mem_cons_self, fun _ h => absurd h List.not_mem_nil⟩⟩⟩)) ?_
        have key19 : ∀ (m21 : Nat) (ki : Nat) (w22 : List (List xE)), qb.length - ki < m21 → ki ≤ 6 → xInv w22 → xFr [] w w22 → xTo (d + 4) mX8_isWord (28, [], [(0, (2, 48)), (1, (8, 100 + i)), (2, (0, ki))], [], (w22, bd, fc, 0, 0, rr)) (fun φ => ∃ n w', xEnd 4 [(0, n)] (w', bd, fc, 0, 0, rr) φ ∧ (n ≤ 1) ∧ xInv w' ∧ xFr [] w w') := by
          intro m21
          induction m21 with
          | zero => intro ki w22 hz; exact absurd hz (Nat.not_lt_zero _)
          | succ m21 ih20 =>
            intro ki w22 hm26 hn25 hI23 hF24
            refine xg_t (xg_blk (b := [(28, 1, 2, 2, 0, 0), (29, 1, 0, 1, 0, 0), (30, 3, 73, 0, 0, 51), (33, 3, 6, 63, 3, 0), (36, 1, 0, 0, 0, 0), (37, 3, 1, 8, 0, 7), (40, 1, 0, 0, 0, 0), (41, 3, 1, 8, 3, 29), (44, 1, 2, 2, 0, 0), (45, 1, 11, 0, 0, 0), (46, 1, 32, 0, 0, 0), (47, 1, 0, 1, 0, 0), (48, 1, 2, 2, 0, 0), (49, 3, 74, 0, 0, 56), (52, 3, 6, 57, 0, 0), (55, 1, 3, 0, 0, 0), (56, 1, 12, 0, 1, 0)]) rfl) ?_
            refine xg_t (xg_iload (va := (0, ki)) rfl rfl) ?_
            refine xg_t (xg_aload (va := (8, 100 + i)) rfl rfl) ?_
            refine xg_t (xg_slen (i := i) (qb := qb) (Nat.zero_le _) (Nat.zero_le _) (Nat.le_of_ble_eq_true rfl) hi (by omega)) ?_
            by_cases hc27 : ki < qb.length
            · refine xg_t (xg_icF (u := ki) (v := qb.length) rfl xnm0 xnm0 (xj_geF hc27 (by omega))) ?_
              refine xg_t (xg_aload (va := (2, 48)) rfl rfl) ?_
              refine xg_t (xg_getf (va := (2, 2)) (hF24.get (by decide) h48_11) rfl) ?_
              refine xg_t (xg_aload (va := (2, 48)) rfl rfl) ?_
              refine xg_t (xg_getf (va := (0, f48_5)) (hF24.get (by decide) h48_11) rfl) ?_
              refine xg_t (xg_iload (va := (0, ki)) rfl rfl) ?_
              refine xg_t (xg_iadd (u := f48_5) (v := ki) (z := f48_5 + ki) xnm0 xnm0 (by omega)) ?_
              refine xg_baldY (n := f48_5 + ki) (h2_14.fr hF24 (by decide)) (hb15) xnm0 (by omega) (fun u28 hu29 he30 => ?_)
              refine xg_t (xg_aload (va := (8, 100 + i)) rfl rfl) ?_
              refine xg_t (xg_iload (va := (0, ki)) rfl rfl) ?_
              refine xg_t (xg_char (i := i) (qb := qb) (n := ki) (Nat.zero_le _) (Nat.zero_le _) (Nat.le_of_ble_eq_true rfl) hi (by omega) xnm0 (by omega) (hq7 _)) ?_
              have hz32 := hq7 ki
              generalize qb.getD ki 0 = ch31 at hz32 ⊢
              by_cases hc33 : u28 = ch31
              · refine xg_t (xg_icT (u := u28) (v := ch31) rfl xnm0 xnm0 (xj_eqT hc33)) ?_
                refine xg_t (xg_blk (b := [(57, 3, 9, 2, 1, 0), (60, 3, 8, 28, 0, 0)]) rfl) ?_
                refine xg_t (xg_iinc (u := ki) (z := ki + 1) (l1 := [(0, (2, 48)), (1, (8, 100 + i))]) rfl rfl (by omega) rfl) ?_
                refine xg_t (xg_goto) ?_
                refine xg_t (xg_drop (l1 := [(0, (2, 48)), (1, (8, 100 + i)), (2, (0, ki + 1))]) (List.forall_mem_cons.mpr ⟨List.mem_cons_of_mem _ (List.mem_cons_self), List.forall_mem_cons.mpr ⟨List.mem_cons_of_mem _ (List.mem_cons_of_mem _ (List.mem_cons_self)), List.forall_mem_cons.mpr ⟨List.mem_cons_self, fun _ h => absurd h List.not_mem_nil⟩⟩⟩)) ?_
                exact ih20 (ki + 1) w22 (by omega) (by omega) (hI23) (hF24)
              · refine xg_t (xg_icF (u := u28) (v := ch31) rfl xnm0 xnm0 (xj_eqF hc33)) ?_
                refine xg_t (xg_const) ?_
                exact xg_e ⟨0, w22, ⟨rfl, rfl⟩, by omega, hI23, hF24⟩
            · refine xg_t (xg_icT (u := ki) (v := qb.length) rfl xnm0 xnm0 (xj_geT (by omega) (by omega))) ?_
              refine xg_t (xg_blk (b := [(63, 1, 3, 1, 0, 0), (64, 1, 12, 0, 1, 0)]) rfl) ?_
              refine xg_t (xg_const) ?_
              exact xg_e ⟨1, w22, ⟨rfl, rfl⟩, by omega, hI23, hF24⟩
        exact key19 _ 0 w (Nat.lt_succ_self _) (by omega) (hI) (xFr.rf)
      · refine xg_t (xg_icF (u := f48_7 - f48_5) (v := qb.length) rfl xnm0 xnm0 (xj_eqF hc18)) ?_
        refine xg_t (xg_blk (b := [(24, 1, 3, 0, 0, 0), (25, 1, 12, 0, 1, 0)]) rfl) ?_
        refine xg_t (xg_const) ?_
        exact xg_e ⟨0, w, ⟨rfl, rfl⟩, by omega, hI, xFr.rf⟩
    · have hz36 : 4294966796 ≤ (f48_7 + (4294967296 - f48_5)) % 4294967296 := by omega
      refine xg_t (xg_isub (u := f48_7) (v := f48_5) (z := (f48_7 + (4294967296 - f48_5)) % 4294967296) xnm0 xnm0 rfl) ?_
      have hz35 : (f48_7 + (4294967296 - f48_5)) % 4294967296 < 4294967296 := Nat.mod_lt _ (by decide)
      generalize (f48_7 + (4294967296 - f48_5)) % 4294967296 = z34 at hz36 hz35 ⊢
      refine xg_t (xg_aload (va := (8, 100 + i)) rfl rfl) ?_
      refine xg_t (xg_slen (i := i) (qb := qb) (Nat.zero_le _) (Nat.zero_le _) (Nat.le_of_ble_eq_true rfl) hi (by omega)) ?_
      refine xg_t (xg_icF (u := z34) (v := qb.length) rfl xnm0 xnm0 (xj_eqF (by omega))) ?_
      refine xg_t (xg_blk (b := [(24, 1, 3, 0, 0, 0), (25, 1, 12, 0, 1, 0)]) rfl) ?_
      refine xg_t (xg_const) ?_
      exact xg_e ⟨0, w, ⟨rfl, rfl⟩, by omega, hI, xFr.rf⟩
  · refine xg_t (xg_icT (u := f48_3) (v := 1) rfl xnm0 xnm0 (xj_neT hc16)) ?_
    refine xg_t (xg_blk (b := [(24, 1, 3, 0, 0, 0), (25, 1, 12, 0, 1, 0)]) rfl) ?_
    refine xg_t (xg_const) ?_
    exact xg_e ⟨0, w, ⟨rfl, rfl⟩, by omega, hI, xFr.rf⟩
theorem ftSort (hI : xInv w)  : xPi (d + 5) mX2_sortOfWord [(2, 27)] w bd fc rr (fun n w' => (n ≤ 6 ∨ n = 4294967295) ∧ xInv w' ∧ xFr [] w w') := by
  refine xPi.of ?_
  show xTo (d + 5) mX2_sortOfWord (0, [], [(0, (2, 27))], [], (w, bd, fc, 0, 0, rr)) (fun φ => ∃ n w', xEnd 1 [(0, n)] (w', bd, fc, 0, 0, rr) φ ∧ (n ≤ 6 ∨ n = 4294967295) ∧ xInv w' ∧ xFr [] w w')
  obtain ⟨f27_1, f27_3, f27_5, f27_7, f27_9, h27_11, hb2, hb4, hb6, hb8, hb10⟩ := (hI 27 (by decide) : cp27 (wget w 27))
  refine xg_t (xg_blk (b := [(0, 1, 0, 0, 0, 0), (1, 3, 1, 2, 1, 43), (4, 2, 72, 2, 0, 133), (6, 3, 13, 318, 64, 135), (9, 3, 7, 14, 0, 0), (12, 1, 3, 0, 0, 0), (13, 1, 12, 0, 1, 0)]) rfl) ?_
  refine xg_t (xg_aload (va := (2, 27)) rfl rfl) ?_
  refine xg_t (xg_getf (va := (2, 42)) h27_11 rfl) ?_
  refine xg_t (xg_ldcS) ?_
  obtain ⟨f42_12, f42_14, f42_16, f42_18, f42_20, h42_22, hb13, hb15, hb17, hb19, hb21, hb23⟩ := (hI 42 (by decide) : cp42 (wget w 42))
  refine xg_cVi mX8_isWord (vs := [(8, 102)]) (rest := []) (cn1 := 0) (sl1 := 0) rfl (tkIsWord42 (hI) (i := 2) rfl) rfl h42_22 rfl rfl rfl rfl rfl rfl (fun n28 w24 hq25 => ?_)
  obtain ⟨hn29, hI26, hF27⟩ := hq25
  by_cases hc30 : n28 = 0
  · refine xg_t (xg_ifT (u := n28) rfl xnm0 (xj_eqT hc30)) ?_
    refine xg_t (xg_blk (b := [(14, 1, 0, 0, 0, 0), (15, 3, 1, 2, 1, 43), (18, 2, 72, 3, 0, 139), (20, 3, 13, 318, 64, 135), (23, 3, 7, 28, 0, 0), (26, 1, 3, 1, 0, 0), (27, 1, 12, 0, 1, 0)]) rfl) ?_
    refine xg_t (xg_aload (va := (2, 27)) rfl rfl) ?_
    refine xg_t (xg_getf (va := (2, 42)) (hF27.get (by decide) h27_11) rfl) ?_
    refine xg_t (xg_ldcS) ?_
    refine xg_cVi mX8_isWord (vs := [(8, 103)]) (rest := []) (cn1 := 0) (sl1 := 0) rfl (tkIsWord42 (hI26) (i := 3) rfl) rfl (hF27.get (by decide) h42_22) rfl rfl rfl rfl rfl rfl (fun n35 w31 hq32 => ?_)
    obtain ⟨hn36, hI33, hF34⟩ := hq32
    by_cases hc37 : n35 = 0
    · refine xg_t (xg_ifT (u := n35) rfl xnm0 (xj_eqT hc37)) ?_
      refine xg_t (xg_blk (b := [(28, 1, 0, 0, 0, 0), (29, 3, 1, 2, 1, 43), (32, 2, 72, 4, 0, 141), (34, 3, 13, 318, 64, 135), (37, 3, 7, 42, 0, 0), (40, 1, 3, 2, 0, 0), (41, 1, 12, 0, 1, 0)]) rfl) ?_
      refine xg_t (xg_aload (va := (2, 27)) rfl rfl) ?_
      refine xg_t (xg_getf (va := (2, 42)) (hF34.get (by decide) (hF27.get (by decide) h27_11)) rfl) ?_
      refine xg_t (xg_ldcS) ?_
      refine xg_cVi mX8_isWord (vs := [(8, 104)]) (rest := []) (cn1 := 0) (sl1 := 0) rfl (tkIsWord42 (hI33) (i := 4) rfl) rfl (hF34.get (by decide) (hF27.get (by decide) h42_22)) rfl rfl rfl rfl rfl rfl (fun n42 w38 hq39 => ?_)
      obtain ⟨hn43, hI40, hF41⟩ := hq39
      by_cases hc44 : n42 = 0
      · refine xg_t (xg_ifT (u := n42) rfl xnm0 (xj_eqT hc44)) ?_
        refine xg_t (xg_blk (b := [(42, 1, 0, 0, 0, 0), (43, 3, 1, 2, 1, 43), (46, 2, 72, 5, 0, 143), (48, 3, 13, 318, 64, 135), (51, 3, 7, 56, 0, 0), (54, 1, 3, 3, 0, 0), (55, 1, 12, 0, 1, 0)]) rfl) ?_
        refine xg_t (xg_aload (va := (2, 27)) rfl rfl) ?_
        refine xg_t (xg_getf (va := (2, 42)) (hF41.get (by decide) (hF34.get (by decide) (hF27.get (by decide) h27_11))) rfl) ?_
        refine xg_t (xg_ldcS) ?_
        refine xg_cVi mX8_isWord (vs := [(8, 105)]) (rest := []) (cn1 := 0) (sl1 := 0) rfl (tkIsWord42 (hI40) (i := 5) rfl) rfl (hF41.get (by decide) (hF34.get (by decide) (hF27.get (by decide) h42_22))) rfl rfl rfl rfl rfl rfl (fun n49 w45 hq46 => ?_)
        obtain ⟨hn50, hI47, hF48⟩ := hq46
        by_cases hc51 : n49 = 0
        · refine xg_t (xg_ifT (u := n49) rfl xnm0 (xj_eqT hc51)) ?_
          refine xg_t (xg_blk (b := [(56, 1, 0, 0, 0, 0), (57, 3, 1, 2, 1, 43), (60, 2, 72, 6, 0, 145), (62, 3, 13, 318, 64, 135), (65, 3, 7, 70, 0, 0), (68, 1, 3, 4, 0, 0), (69, 1, 12, 0, 1, 0)]) rfl) ?_
          refine xg_t (xg_aload (va := (2, 27)) rfl rfl) ?_
          refine xg_t (xg_getf (va := (2, 42)) (hF48.get (by decide) (hF41.get (by decide) (hF34.get (by decide) (hF27.get (by decide) h27_11)))) rfl) ?_
          refine xg_t (xg_ldcS) ?_
          refine xg_cVi mX8_isWord (vs := [(8, 106)]) (rest := []) (cn1 := 0) (sl1 := 0) rfl (tkIsWord42 (hI47) (i := 6) rfl) rfl (hF48.get (by decide) (hF41.get (by decide) (hF34.get (by decide) (hF27.get (by decide) h42_22)))) rfl rfl rfl rfl rfl rfl (fun n56 w52 hq53 => ?_)
          obtain ⟨hn57, hI54, hF55⟩ := hq53
          by_cases hc58 : n56 = 0
          · refine xg_t (xg_ifT (u := n56) rfl xnm0 (xj_eqT hc58)) ?_
            refine xg_t (xg_blk (b := [(70, 1, 0, 0, 0, 0), (71, 3, 1, 2, 1, 43), (74, 2, 72, 7, 0, 147), (76, 3, 13, 318, 64, 135), (79, 3, 7, 84, 0, 0), (82, 1, 3, 5, 0, 0), (83, 1, 12, 0, 1, 0)]) rfl) ?_
            refine xg_t (xg_aload (va := (2, 27)) rfl rfl) ?_
            refine xg_t (xg_getf (va := (2, 42)) (hF55.get (by decide) (hF48.get (by decide) (hF41.get (by decide) (hF34.get (by decide) (hF27.get (by decide) h27_11))))) rfl) ?_
            refine xg_t (xg_ldcS) ?_
            refine xg_cVi mX8_isWord (vs := [(8, 107)]) (rest := []) (cn1 := 0) (sl1 := 0) rfl (tkIsWord42 (hI54) (i := 7) rfl) rfl (hF55.get (by decide) (hF48.get (by decide) (hF41.get (by decide) (hF34.get (by decide) (hF27.get (by decide) h42_22))))) rfl rfl rfl rfl rfl rfl (fun n63 w59 hq60 => ?_)
            obtain ⟨hn64, hI61, hF62⟩ := hq60
            by_cases hc65 : n63 = 0
            · refine xg_t (xg_ifT (u := n63) rfl xnm0 (xj_eqT hc65)) ?_
              refine xg_t (xg_blk (b := [(84, 1, 0, 0, 0, 0), (85, 3, 1, 2, 1, 43), (88, 2, 72, 8, 0, 149), (90, 3, 13, 318, 64, 135), (93, 3, 7, 101, 0, 0), (96, 2, 4, 6, 0, 0), (98, 3, 8, 102, 0, 0)]) rfl) ?_
              refine xg_t (xg_aload (va := (2, 27)) rfl rfl) ?_
              refine xg_t (xg_getf (va := (2, 42)) (hF62.get (by decide) (hF55.get (by decide) (hF48.get (by decide) (hF41.get (by decide) (hF34.get (by decide) (hF27.get (by decide) h27_11)))))) rfl) ?_
              refine xg_t (xg_ldcS) ?_
              refine xg_cVi mX8_isWord (vs := [(8, 108)]) (rest := []) (cn1 := 0) (sl1 := 0) rfl (tkIsWord42 (hI61) (i := 8) rfl) rfl (hF62.get (by decide) (hF55.get (by decide) (hF48.get (by decide) (hF41.get (by decide) (hF34.get (by decide) (hF27.get (by decide) h42_22)))))) rfl rfl rfl rfl rfl rfl (fun n70 w66 hq67 => ?_)
              obtain ⟨hn71, hI68, hF69⟩ := hq67
              by_cases hc72 : n70 = 0
              · refine xg_t (xg_ifT (u := n70) rfl xnm0 (xj_eqT hc72)) ?_
                refine xg_t (xg_blk (b := [(101, 1, 3, 4294967295, 0, 0)]) rfl) ?_
                refine xg_t (xg_const) ?_
                refine xg_t (xg_blk (b := [(102, 1, 12, 0, 1, 0)]) rfl) ?_
                exact xg_e ⟨4294967295, w66, ⟨rfl, rfl⟩, by omega, hI68, (((((((hF27.up (by decide)).tr (hF34.up (by decide))).tr (hF41.up (by decide))).tr (hF48.up (by decide))).tr (hF55.up (by decide))).tr (hF62.up (by decide))).tr (hF69.up (by decide)))⟩
              · refine xg_t (xg_ifF (u := n70) rfl xnm0 (xj_eqF hc72)) ?_
                refine xg_t (xg_bip) ?_
                refine xg_t (xg_goto) ?_
                refine xg_t (xg_blk (b := [(102, 1, 12, 0, 1, 0)]) rfl) ?_
                exact xg_e ⟨6, w66, ⟨rfl, rfl⟩, by omega, hI68, (((((((hF27.up (by decide)).tr (hF34.up (by decide))).tr (hF41.up (by decide))).tr (hF48.up (by decide))).tr (hF55.up (by decide))).tr (hF62.up (by decide))).tr (hF69.up (by decide)))⟩
            · refine xg_t (xg_ifF (u := n63) rfl xnm0 (xj_eqF hc65)) ?_
              refine xg_t (xg_const) ?_
              exact xg_e ⟨5, w59, ⟨rfl, rfl⟩, by omega, hI61, ((((((hF27.up (by decide)).tr (hF34.up (by decide))).tr (hF41.up (by decide))).tr (hF48.up (by decide))).tr (hF55.up (by decide))).tr (hF62.up (by decide)))⟩
          · refine xg_t (xg_ifF (u := n56) rfl xnm0 (xj_eqF hc58)) ?_
            refine xg_t (xg_const) ?_
            exact xg_e ⟨4, w52, ⟨rfl, rfl⟩, by omega, hI54, (((((hF27.up (by decide)).tr (hF34.up (by decide))).tr (hF41.up (by decide))).tr (hF48.up (by decide))).tr (hF55.up (by decide)))⟩
        · refine xg_t (xg_ifF (u := n49) rfl xnm0 (xj_eqF hc51)) ?_
          refine xg_t (xg_const) ?_
          exact xg_e ⟨3, w45, ⟨rfl, rfl⟩, by omega, hI47, ((((hF27.up (by decide)).tr (hF34.up (by decide))).tr (hF41.up (by decide))).tr (hF48.up (by decide)))⟩
      · refine xg_t (xg_ifF (u := n42) rfl xnm0 (xj_eqF hc44)) ?_
        refine xg_t (xg_const) ?_
        exact xg_e ⟨2, w38, ⟨rfl, rfl⟩, by omega, hI40, (((hF27.up (by decide)).tr (hF34.up (by decide))).tr (hF41.up (by decide)))⟩
    · refine xg_t (xg_ifF (u := n35) rfl xnm0 (xj_eqF hc37)) ?_
      refine xg_t (xg_const) ?_
      exact xg_e ⟨1, w31, ⟨rfl, rfl⟩, by omega, hI33, ((hF27.up (by decide)).tr (hF34.up (by decide)))⟩
  · refine xg_t (xg_ifF (u := n28) rfl xnm0 (xj_eqF hc30)) ?_
    refine xg_t (xg_const) ?_
    exact xg_e ⟨0, w24, ⟨rfl, rfl⟩, by omega, hI26, (hF27.up (by decide))⟩
theorem ftGlue (hI : xInv w)  : xPi (d + 5) mX2_readGlue [(2, 27)] w bd fc rr (fun n w' => (n ≤ 1) ∧ xInv w' ∧ xFr [27, 42] w w') := by
  refine xPi.of ?_
  show xTo (d + 5) mX2_readGlue (0, [], [(0, (2, 27))], [], (w, bd, fc, 0, 0, rr)) (fun φ => ∃ n w', xEnd 4 [(0, n)] (w', bd, fc, 0, 0, rr) φ ∧ (n ≤ 1) ∧ xInv w' ∧ xFr [27, 42] w w')
  obtain ⟨f27_1, f27_3, f27_5, f27_7, f27_9, h27_11, hb2, hb4, hb6, hb8, hb10⟩ := (hI 27 (by decide) : cp27 (wget w 27))
  refine xg_t (xg_blk (b := [(0, 1, 0, 0, 0, 0), (1, 1, 0, 0, 0, 0), (2, 3, 1, 2, 1, 43), (5, 2, 72, 0, 0, 151), (7, 3, 13, 318, 64, 135), (10, 3, 59, 2, 6, 153), (13, 1, 0, 0, 0, 0), (14, 3, 1, 2, 6, 153), (17, 3, 7, 34, 1, 0), (20, 1, 0, 0, 0, 0), (21, 3, 1, 2, 1, 43), (24, 2, 72, 1, 0, 156), (26, 3, 13, 318, 64, 135), (29, 3, 7, 34, 1, 0), (32, 1, 3, 0, 0, 0), (33, 1, 12, 0, 1, 0)]) rfl) ?_
  refine xg_t (xg_aload (va := (2, 27)) rfl rfl) ?_
  refine xg_t (xg_aload (va := (2, 27)) rfl rfl) ?_
  refine xg_t (xg_getf (va := (2, 42)) h27_11 rfl) ?_
  refine xg_t (xg_ldcS) ?_
  obtain ⟨f42_12, f42_14, f42_16, f42_18, f42_20, h42_22, hb13, hb15, hb17, hb19, hb21, hb23⟩ := (hI 42 (by decide) : cp42 (wget w 42))
  refine xg_cVi mX8_isWord (vs := [(8, 100)]) (rest := [(2, 27)]) (cn1 := 0) (sl1 := 0) rfl (tkIsWord42 (hI) (i := 0) rfl) rfl h42_22 rfl rfl rfl rfl rfl rfl (fun n28 w24 hq25 => ?_)
  obtain ⟨hn29, hI26, hF27⟩ := hq25
  refine xg_putZ (fl1 := [(2, 1), (2, 42), (2, 28), (2, 39), (2, 40), (2, 41), (0, n28), (0, f27_3), (0, f27_5), (0, f27_7), (0, f27_9)]) (hF27.get (by decide) h27_11) rfl rfl rfl (fun w30 hk31 hb32 => ?_)
  refine xg_t (xg_aload (va := (2, 27)) rfl rfl) ?_
  refine xg_t (xg_getf (va := (0, n28)) hk31 rfl) ?_
  by_cases hc33 : n28 = 0
  · refine xg_t (xg_ifF (u := n28) rfl xnm0 (xj_neF hc33)) ?_
    refine xg_t (xg_aload (va := (2, 27)) rfl rfl) ?_
    refine xg_t (xg_getf (va := (2, 42)) hk31 rfl) ?_
    refine xg_t (xg_ldcS) ?_
    refine xg_cVi mX8_isWord (vs := [(8, 101)]) (rest := []) (cn1 := 0) (sl1 := 0) rfl (tkIsWord42 (xInv.up (S := [27]) hI26 (xFr.of (S := [27]) hb32 (by decide)) (List.forall_mem_cons.mpr ⟨(show cp27 (wget w30 27) from ⟨n28, f27_3, f27_5, f27_7, f27_9, hk31, by omega, by omega, by omega, by omega, by omega⟩), fun _ h => absurd h List.not_mem_nil⟩)) (i := 1) rfl) rfl (hb32.get (by decide) (hF27.get (by decide) h42_22)) rfl rfl rfl rfl rfl rfl (fun n38 w34 hq35 => ?_)
    obtain ⟨hn39, hI36, hF37⟩ := hq35
    by_cases hc40 : n38 = 0
    · refine xg_t (xg_ifF (u := n38) rfl xnm0 (xj_neF hc40)) ?_
      refine xg_t (xg_const) ?_
      exact xg_e ⟨0, w34, ⟨rfl, rfl⟩, by omega, hI36, (((hF27.up (by decide)).tr (xFr.of (S := [27, 42]) hb32 (by decide))).tr (hF37.up (by decide)))⟩
    · refine xg_t (xg_ifT (u := n38) rfl xnm0 (xj_neT hc40)) ?_
      refine xg_t (xg_blk (b := [(34, 1, 0, 0, 0, 0), (35, 3, 1, 2, 1, 43), (38, 3, 13, 312, 64, 112), (41, 1, 3, 1, 0, 0), (42, 1, 12, 0, 1, 0)]) rfl) ?_
      refine xg_t (xg_aload (va := (2, 27)) rfl rfl) ?_
      refine xg_t (xg_getf (va := (2, 42)) (hF37.get (by decide) hk31) rfl) ?_
      refine xg_cVv mX8_advance (vs := []) (rest := []) (cn1 := 0) (sl1 := 0) rfl (tkAdvance42 (hI36)) rfl (hF37.get (by decide) (hb32.get (by decide) (hF27.get (by decide) h42_22))) rfl rfl rfl rfl rfl rfl (fun w41 hq42 => ?_)
      obtain ⟨hI43, hF44⟩ := hq42
      refine xg_t (xg_const) ?_
      exact xg_e ⟨1, w41, ⟨rfl, rfl⟩, by omega, hI43, ((((hF27.up (by decide)).tr (xFr.of (S := [27, 42]) hb32 (by decide))).tr (hF37.up (by decide))).tr (hF44.up (by decide)))⟩
  · refine xg_t (xg_ifT (u := n28) rfl xnm0 (xj_neT hc33)) ?_
    refine xg_t (xg_blk (b := [(34, 1, 0, 0, 0, 0), (35, 3, 1, 2, 1, 43), (38, 3, 13, 312, 64, 112), (41, 1, 3, 1, 0, 0), (42, 1, 12, 0, 1, 0)]) rfl) ?_
    refine xg_t (xg_aload (va := (2, 27)) rfl rfl) ?_
    refine xg_t (xg_getf (va := (2, 42)) hk31 rfl) ?_
    refine xg_cVv mX8_advance (vs := []) (rest := []) (cn1 := 0) (sl1 := 0) rfl (tkAdvance42 (xInv.up (S := [27]) hI26 (xFr.of (S := [27]) hb32 (by decide)) (List.forall_mem_cons.mpr ⟨(show cp27 (wget w30 27) from ⟨n28, f27_3, f27_5, f27_7, f27_9, hk31, by omega, by omega, by omega, by omega, by omega⟩), fun _ h => absurd h List.not_mem_nil⟩))) rfl (hb32.get (by decide) (hF27.get (by decide) h42_22)) rfl rfl rfl rfl rfl rfl (fun w45 hq46 => ?_)
    obtain ⟨hI47, hF48⟩ := hq46
    refine xg_t (xg_const) ?_
    exact xg_e ⟨1, w45, ⟨rfl, rfl⟩, by omega, hI47, (((hF27.up (by decide)).tr (xFr.of (S := [27, 42]) hb32 (by decide))).tr (hF48.up (by decide)))⟩
theorem ftFine0 {pc_ : Nat} (hI : xInv w) (h1 : pc_ ≤ 4294967295) : xPi (d + 3) mX2_isFine [(2, 27), (0, 0), (0, pc_)] w bd fc rr (fun n w' => (n ≤ 1) ∧ xInv w' ∧ xFr [27] w w') := by
  refine xPi.of ?_
  show xTo (d + 3) mX2_isFine (0, [], [(0, (2, 27)), (1, (0, 0)), (2, (0, pc_))], [], (w, bd, fc, 0, 0, rr)) (fun φ => ∃ n w', xEnd 4 [(0, n)] (w', bd, fc, 0, 0, rr) φ ∧ (n ≤ 1) ∧ xInv w' ∧ xFr [27] w w')
  obtain ⟨f27_1, f27_3, f27_5, f27_7, f27_9, h27_11, hb2, hb4, hb6, hb8, hb10⟩ := (hI 27 (by decide) : cp27 (wget w 27))
  obtain ⟨g39_12, h39_13, hb14⟩ := (hI 39 (by decide) : cpI 3 18 4294967295 (wget w 39))
  have h39_13 : xRow w 39 3 18 g39_12 := h39_13
  obtain ⟨g40_15, h40_16, hb17⟩ := (hI 40 (by decide) : cpI 3 19 4294967295 (wget w 40))
  have h40_16 : xRow w 40 3 19 g40_15 := h40_16
  refine xg_t (xg_blk (b := [(0, 1, 0, 0, 0, 0), (1, 1, 2, 1, 0, 0), (2, 3, 13, 249, 16, 158), (5, 3, 7, 20, 0, 0), (8, 1, 0, 0, 0, 0), (9, 1, 3, 3, 0, 0), (10, 3, 14, 2, 9, 57), (13, 1, 0, 0, 0, 0), (14, 1, 2, 2, 0, 0), (15, 3, 14, 2, 10, 88), (18, 1, 3, 0, 0, 0), (19, 1, 12, 0, 1, 0)]) rfl) ?_
  refine xg_t (xg_aload (va := (2, 27)) rfl rfl) ?_
  refine xg_t (xg_iload (va := (0, 0)) rfl rfl) ?_
  refine xg_cVi mX2_isTooMany (vs := [(0, 0)]) (rest := []) (cn1 := 0) (sl1 := 0) rfl (ftTooMany (hI) (by omega)) rfl h27_11 rfl rfl rfl rfl rfl rfl (fun n22 w18 hq19 => ?_)
  obtain ⟨hn23, hI20, hF21⟩ := hq19
  by_cases hc24 : n22 = 0
  · refine xg_t (xg_ifT (u := n22) rfl xnm0 (xj_eqT hc24)) ?_
    refine xg_t (xg_blk (b := [(20, 1, 2, 1, 0, 0), (21, 3, 7, 30, 2, 0), (24, 1, 2, 1, 0, 0), (25, 2, 4, 7, 0, 0), (27, 3, 6, 32, 2, 0)]) rfl) ?_
    refine xg_t (xg_iload (va := (0, 0)) rfl rfl) ?_
    refine xg_t (xg_ifF (u := 0) rfl xnm0 (by decide)) ?_
    refine xg_t (xg_iload (va := (0, 0)) rfl rfl) ?_
    refine xg_t (xg_bip) ?_
    refine xg_t (xg_icT (u := 0) (v := 7) rfl xnm0 xnm0 (by decide)) ?_
    refine xg_t (xg_blk (b := [(32, 1, 3, 0, 0, 0), (33, 1, 15, 3, 0, 0)]) rfl) ?_
    refine xg_t (xg_const) ?_
    refine xg_t (xg_istore (l1 := [(0, (2, 27)), (1, (0, 0)), (2, (0, pc_))]) rfl rfl rfl) ?_
    refine xg_t (xg_blk (b := [(34, 1, 2, 3, 0, 0), (35, 3, 37, 1, 0, 115), (38, 1, 2, 1, 0, 0), (39, 1, 10, 0, 0, 0), (40, 3, 6, 101, 3, 0), (43, 1, 2, 3, 0, 0), (44, 1, 3, 3, 0, 0), (45, 3, 6, 101, 3, 0), (48, 1, 0, 0, 0, 0), (49, 3, 1, 2, 3, 18), (52, 1, 2, 3, 0, 0), (53, 1, 10, 0, 0, 0), (54, 3, 37, 2, 0, 162), (57, 1, 2, 1, 0, 0), (58, 1, 3, 3, 0, 0), (59, 1, 16, 0, 0, 0), (60, 1, 2, 3, 0, 0), (61, 1, 11, 0, 0, 0), (62, 1, 10, 0, 0, 0), (63, 3, 37, 3, 0, 165), (66, 1, 2, 1, 0, 0), (67, 1, 3, 3, 0, 0), (68, 1, 16, 0, 0, 0), (69, 1, 2, 3, 0, 0), (70, 1, 11, 0, 0, 0), (71, 1, 10, 0, 0, 0), (72, 3, 13, 70, 91, 168), (75, 3, 7, 95, 1, 0), (78, 1, 0, 0, 0, 0), (79, 1, 3, 2, 0, 0), (80, 3, 14, 2, 9, 57), (83, 1, 0, 0, 0, 0), (84, 1, 0, 0, 0, 0), (85, 3, 1, 2, 4, 22), (88, 1, 2, 3, 0, 0), (89, 1, 10, 0, 0, 0), (90, 3, 14, 2, 10, 88), (93, 1, 3, 0, 0, 0), (94, 1, 12, 0, 1, 0)]) rfl) ?_
    refine xg_t (xg_iload (va := (0, 0)) rfl rfl) ?_
    refine xg_t (xg_gets) ?_
    refine xg_t (xg_iload (va := (0, 0)) rfl rfl) ?_
    refine xg_t (xg_ald8L (n := 0) (u := 3) xnm0 rfl rfl) ?_
    refine xg_t (xg_icF (u := 0) (v := 3) rfl xnm0 xnm0 (by decide)) ?_
    refine xg_t (xg_iload (va := (0, 0)) rfl rfl) ?_
    refine xg_t (xg_const) ?_
    refine xg_t (xg_icF (u := 0) (v := 3) rfl xnm0 xnm0 (by decide)) ?_
    refine xg_t (xg_aload (va := (2, 27)) rfl rfl) ?_
    refine xg_t (xg_getf (va := (2, 39)) (hF21.get (by decide) h27_11) rfl) ?_
    refine xg_t (xg_iload (va := (0, 0)) rfl rfl) ?_
    refine xg_ialdB (n := 0) (B := 4294967295) (h39_13.fr hF21 (by decide)) (hb14) xnm0 (by omega) (fun u25 hu26 he27 => ?_)
    refine xg_t (xg_gets) ?_
    refine xg_t (xg_iload (va := (0, 0)) rfl rfl) ?_
    refine xg_t (xg_const) ?_
    refine xg_t (xg_imul (u := 0) (v := 3) (z := 0) xnm0 xnm0 (by decide)) ?_
    refine xg_t (xg_iload (va := (0, 0)) rfl rfl) ?_
    refine xg_t (xg_iadd (u := 0) (v := 0) (z := 0) xnm0 xnm0 (by decide)) ?_
    refine xg_t (xg_ald8L (n := 0) (u := 1) xnm0 rfl rfl) ?_
    refine xg_t (xg_gets) ?_
    refine xg_t (xg_iload (va := (0, 0)) rfl rfl) ?_
    refine xg_t (xg_const) ?_
    refine xg_t (xg_imul (u := 0) (v := 3) (z := 0) xnm0 xnm0 (by decide)) ?_
    refine xg_t (xg_iload (va := (0, 0)) rfl rfl) ?_
    refine xg_t (xg_iadd (u := 0) (v := 0) (z := 0) xnm0 xnm0 (by decide)) ?_
    refine xg_t (xg_ald8L (n := 0) (u := 99) xnm0 rfl rfl) ?_
    refine xg_t (xg_cNr mX11_isIn (vs := [(0, u25), (0, 1), (0, 99)]) (rest := []) (rs := [(0, if 1 ≤ u25 ∧ u25 ≤ 99 then 1 else 0)]) (cn1 := 0) (sl1 := 0) rfl (isIn_ok (by omega) (by omega) (by omega)) rfl rfl rfl rfl rfl rfl rfl rfl) ?_
    by_cases hc28 : 1 ≤ u25 ∧ u25 ≤ 99
    · refine xg_t (xg_ifT (u := (if 1 ≤ u25 ∧ u25 ≤ 99 then 1 else 0)) rfl xnm0 (xj_neT (xite1 hc28))) ?_
      refine xg_t (xg_blk (b := [(95, 3, 9, 3, 1, 0), (98, 3, 8, 34, 0, 0)]) rfl) ?_
      refine xg_t (xg_iinc (u := 0) (z := 1) (l1 := [(0, (2, 27)), (1, (0, 0)), (2, (0, pc_))]) rfl rfl (by decide) rfl) ?_
      refine xg_t (xg_goto) ?_
      refine xg_t (xg_blk (b := [(34, 1, 2, 3, 0, 0), (35, 3, 37, 1, 0, 115), (38, 1, 2, 1, 0, 0), (39, 1, 10, 0, 0, 0), (40, 3, 6, 101, 3, 0), (43, 1, 2, 3, 0, 0), (44, 1, 3, 3, 0, 0), (45, 3, 6, 101, 3, 0), (48, 1, 0, 0, 0, 0), (49, 3, 1, 2, 3, 18), (52, 1, 2, 3, 0, 0), (53, 1, 10, 0, 0, 0), (54, 3, 37, 2, 0, 162), (57, 1, 2, 1, 0, 0), (58, 1, 3, 3, 0, 0), (59, 1, 16, 0, 0, 0), (60, 1, 2, 3, 0, 0), (61, 1, 11, 0, 0, 0), (62, 1, 10, 0, 0, 0), (63, 3, 37, 3, 0, 165), (66, 1, 2, 1, 0, 0), (67, 1, 3, 3, 0, 0), (68, 1, 16, 0, 0, 0), (69, 1, 2, 3, 0, 0), (70, 1, 11, 0, 0, 0), (71, 1, 10, 0, 0, 0), (72, 3, 13, 70, 91, 168), (75, 3, 7, 95, 1, 0), (78, 1, 0, 0, 0, 0), (79, 1, 3, 2, 0, 0), (80, 3, 14, 2, 9, 57), (83, 1, 0, 0, 0, 0), (84, 1, 0, 0, 0, 0), (85, 3, 1, 2, 4, 22), (88, 1, 2, 3, 0, 0), (89, 1, 10, 0, 0, 0), (90, 3, 14, 2, 10, 88), (93, 1, 3, 0, 0, 0), (94, 1, 12, 0, 1, 0)]) rfl) ?_
      refine xg_t (xg_iload (va := (0, 1)) rfl rfl) ?_
      refine xg_t (xg_gets) ?_
      refine xg_t (xg_iload (va := (0, 0)) rfl rfl) ?_
      refine xg_t (xg_ald8L (n := 0) (u := 3) xnm0 rfl rfl) ?_
      refine xg_t (xg_icF (u := 1) (v := 3) rfl xnm0 xnm0 (by decide)) ?_
      refine xg_t (xg_iload (va := (0, 1)) rfl rfl) ?_
      refine xg_t (xg_const) ?_
      refine xg_t (xg_icF (u := 1) (v := 3) rfl xnm0 xnm0 (by decide)) ?_
      refine xg_t (xg_aload (va := (2, 27)) rfl rfl) ?_
      refine xg_t (xg_getf (va := (2, 39)) (hF21.get (by decide) h27_11) rfl) ?_
      refine xg_t (xg_iload (va := (0, 1)) rfl rfl) ?_
      refine xg_ialdB (n := 1) (B := 4294967295) (h39_13.fr hF21 (by decide)) (hb14) xnm0 (by omega) (fun u29 hu30 he31 => ?_)
      refine xg_t (xg_gets) ?_
      refine xg_t (xg_iload (va := (0, 0)) rfl rfl) ?_
      refine xg_t (xg_const) ?_
      refine xg_t (xg_imul (u := 0) (v := 3) (z := 0) xnm0 xnm0 (by decide)) ?_
      refine xg_t (xg_iload (va := (0, 1)) rfl rfl) ?_
      refine xg_t (xg_iadd (u := 0) (v := 1) (z := 1) xnm0 xnm0 (by decide)) ?_
      refine xg_t (xg_ald8L (n := 1) (u := 1) xnm0 rfl rfl) ?_
      refine xg_t (xg_gets) ?_
      refine xg_t (xg_iload (va := (0, 0)) rfl rfl) ?_
      refine xg_t (xg_const) ?_
      refine xg_t (xg_imul (u := 0) (v := 3) (z := 0) xnm0 xnm0 (by decide)) ?_
      refine xg_t (xg_iload (va := (0, 1)) rfl rfl) ?_
      refine xg_t (xg_iadd (u := 0) (v := 1) (z := 1) xnm0 xnm0 (by decide)) ?_
      refine xg_t (xg_ald8L (n := 1) (u := 99) xnm0 rfl rfl) ?_
      refine xg_t (xg_cNr mX11_isIn (vs := [(0, u29), (0, 1), (0, 99)]) (rest := []) (rs := [(0, if 1 ≤ u29 ∧ u29 ≤ 99 then 1 else 0)]) (cn1 := 0) (sl1 := 0) rfl (isIn_ok (by omega) (by omega) (by omega)) rfl rfl rfl rfl rfl rfl rfl rfl) ?_
      by_cases hc32 : 1 ≤ u29 ∧ u29 ≤ 99
      · refine xg_t (xg_ifT (u := (if 1 ≤ u29 ∧ u29 ≤ 99 then 1 else 0)) rfl xnm0 (xj_neT (xite1 hc32))) ?_
        refine xg_t (xg_blk (b := [(95, 3, 9, 3, 1, 0), (98, 3, 8, 34, 0, 0)]) rfl) ?_
        refine xg_t (xg_iinc (u := 1) (z := 2) (l1 := [(0, (2, 27)), (1, (0, 0)), (2, (0, pc_))]) rfl rfl (by decide) rfl) ?_
        refine xg_t (xg_goto) ?_
        refine xg_t (xg_blk (b := [(34, 1, 2, 3, 0, 0), (35, 3, 37, 1, 0, 115), (38, 1, 2, 1, 0, 0), (39, 1, 10, 0, 0, 0), (40, 3, 6, 101, 3, 0), (43, 1, 2, 3, 0, 0), (44, 1, 3, 3, 0, 0), (45, 3, 6, 101, 3, 0), (48, 1, 0, 0, 0, 0), (49, 3, 1, 2, 3, 18), (52, 1, 2, 3, 0, 0), (53, 1, 10, 0, 0, 0), (54, 3, 37, 2, 0, 162), (57, 1, 2, 1, 0, 0), (58, 1, 3, 3, 0, 0), (59, 1, 16, 0, 0, 0), (60, 1, 2, 3, 0, 0), (61, 1, 11, 0, 0, 0), (62, 1, 10, 0, 0, 0), (63, 3, 37, 3, 0, 165), (66, 1, 2, 1, 0, 0), (67, 1, 3, 3, 0, 0), (68, 1, 16, 0, 0, 0), (69, 1, 2, 3, 0, 0), (70, 1, 11, 0, 0, 0), (71, 1, 10, 0, 0, 0), (72, 3, 13, 70, 91, 168), (75, 3, 7, 95, 1, 0), (78, 1, 0, 0, 0, 0), (79, 1, 3, 2, 0, 0), (80, 3, 14, 2, 9, 57), (83, 1, 0, 0, 0, 0), (84, 1, 0, 0, 0, 0), (85, 3, 1, 2, 4, 22), (88, 1, 2, 3, 0, 0), (89, 1, 10, 0, 0, 0), (90, 3, 14, 2, 10, 88), (93, 1, 3, 0, 0, 0), (94, 1, 12, 0, 1, 0)]) rfl) ?_
        refine xg_t (xg_iload (va := (0, 2)) rfl rfl) ?_
        refine xg_t (xg_gets) ?_
        refine xg_t (xg_iload (va := (0, 0)) rfl rfl) ?_
        refine xg_t (xg_ald8L (n := 0) (u := 3) xnm0 rfl rfl) ?_
        refine xg_t (xg_icF (u := 2) (v := 3) rfl xnm0 xnm0 (by decide)) ?_
        refine xg_t (xg_iload (va := (0, 2)) rfl rfl) ?_
        refine xg_t (xg_const) ?_
        refine xg_t (xg_icF (u := 2) (v := 3) rfl xnm0 xnm0 (by decide)) ?_
        refine xg_t (xg_aload (va := (2, 27)) rfl rfl) ?_
        refine xg_t (xg_getf (va := (2, 39)) (hF21.get (by decide) h27_11) rfl) ?_
        refine xg_t (xg_iload (va := (0, 2)) rfl rfl) ?_
        refine xg_ialdB (n := 2) (B := 4294967295) (h39_13.fr hF21 (by decide)) (hb14) xnm0 (by omega) (fun u33 hu34 he35 => ?_)
        refine xg_t (xg_gets) ?_
        refine xg_t (xg_iload (va := (0, 0)) rfl rfl) ?_
        refine xg_t (xg_const) ?_
        refine xg_t (xg_imul (u := 0) (v := 3) (z := 0) xnm0 xnm0 (by decide)) ?_
        refine xg_t (xg_iload (va := (0, 2)) rfl rfl) ?_
        refine xg_t (xg_iadd (u := 0) (v := 2) (z := 2) xnm0 xnm0 (by decide)) ?_
        refine xg_t (xg_ald8L (n := 2) (u := 1) xnm0 rfl rfl) ?_
        refine xg_t (xg_gets) ?_
        refine xg_t (xg_iload (va := (0, 0)) rfl rfl) ?_
        refine xg_t (xg_const) ?_
        refine xg_t (xg_imul (u := 0) (v := 3) (z := 0) xnm0 xnm0 (by decide)) ?_
        refine xg_t (xg_iload (va := (0, 2)) rfl rfl) ?_
        refine xg_t (xg_iadd (u := 0) (v := 2) (z := 2) xnm0 xnm0 (by decide)) ?_
        refine xg_t (xg_ald8L (n := 2) (u := 99) xnm0 rfl rfl) ?_
        refine xg_t (xg_cNr mX11_isIn (vs := [(0, u33), (0, 1), (0, 99)]) (rest := []) (rs := [(0, if 1 ≤ u33 ∧ u33 ≤ 99 then 1 else 0)]) (cn1 := 0) (sl1 := 0) rfl (isIn_ok (by omega) (by omega) (by omega)) rfl rfl rfl rfl rfl rfl rfl rfl) ?_
        by_cases hc36 : 1 ≤ u33 ∧ u33 ≤ 99
        · refine xg_t (xg_ifT (u := (if 1 ≤ u33 ∧ u33 ≤ 99 then 1 else 0)) rfl xnm0 (xj_neT (xite1 hc36))) ?_
          refine xg_t (xg_blk (b := [(95, 3, 9, 3, 1, 0), (98, 3, 8, 34, 0, 0)]) rfl) ?_
          refine xg_t (xg_iinc (u := 2) (z := 3) (l1 := [(0, (2, 27)), (1, (0, 0)), (2, (0, pc_))]) rfl rfl (by decide) rfl) ?_
          refine xg_t (xg_goto) ?_
          refine xg_t (xg_blk (b := [(34, 1, 2, 3, 0, 0), (35, 3, 37, 1, 0, 115), (38, 1, 2, 1, 0, 0), (39, 1, 10, 0, 0, 0), (40, 3, 6, 101, 3, 0), (43, 1, 2, 3, 0, 0), (44, 1, 3, 3, 0, 0), (45, 3, 6, 101, 3, 0), (48, 1, 0, 0, 0, 0), (49, 3, 1, 2, 3, 18), (52, 1, 2, 3, 0, 0), (53, 1, 10, 0, 0, 0), (54, 3, 37, 2, 0, 162), (57, 1, 2, 1, 0, 0), (58, 1, 3, 3, 0, 0), (59, 1, 16, 0, 0, 0), (60, 1, 2, 3, 0, 0), (61, 1, 11, 0, 0, 0), (62, 1, 10, 0, 0, 0), (63, 3, 37, 3, 0, 165), (66, 1, 2, 1, 0, 0), (67, 1, 3, 3, 0, 0), (68, 1, 16, 0, 0, 0), (69, 1, 2, 3, 0, 0), (70, 1, 11, 0, 0, 0), (71, 1, 10, 0, 0, 0), (72, 3, 13, 70, 91, 168), (75, 3, 7, 95, 1, 0), (78, 1, 0, 0, 0, 0), (79, 1, 3, 2, 0, 0), (80, 3, 14, 2, 9, 57), (83, 1, 0, 0, 0, 0), (84, 1, 0, 0, 0, 0), (85, 3, 1, 2, 4, 22), (88, 1, 2, 3, 0, 0), (89, 1, 10, 0, 0, 0), (90, 3, 14, 2, 10, 88), (93, 1, 3, 0, 0, 0), (94, 1, 12, 0, 1, 0)]) rfl) ?_
          refine xg_t (xg_iload (va := (0, 3)) rfl rfl) ?_
          refine xg_t (xg_gets) ?_
          refine xg_t (xg_iload (va := (0, 0)) rfl rfl) ?_
          refine xg_t (xg_ald8L (n := 0) (u := 3) xnm0 rfl rfl) ?_
          refine xg_t (xg_icT (u := 3) (v := 3) rfl xnm0 xnm0 (by decide)) ?_
          refine xg_t (xg_blk (b := [(101, 1, 3, 1, 0, 0), (102, 1, 12, 0, 1, 0)]) rfl) ?_
          refine xg_t (xg_const) ?_
          exact xg_e ⟨1, w18, ⟨rfl, rfl⟩, by omega, hI20, (hF21.up (by decide))⟩
        · refine xg_t (xg_ifF (u := (if 1 ≤ u33 ∧ u33 ≤ 99 then 1 else 0)) rfl xnm0 (xj_neF (xite0 hc36))) ?_
          refine xg_t (xg_aload (va := (2, 27)) rfl rfl) ?_
          refine xg_t (xg_const) ?_
          refine xg_putI (fl1 := [(2, 1), (2, 42), (2, 28), (2, 39), (2, 40), (2, 41), (0, f27_1), (0, f27_3), (0, f27_5), (0, 2), (0, f27_9)]) (hF21.get (by decide) h27_11) rfl rfl rfl (fun w37 hk38 hb39 => ?_)
          refine xg_t (xg_aload (va := (2, 27)) rfl rfl) ?_
          refine xg_t (xg_aload (va := (2, 27)) rfl rfl) ?_
          refine xg_t (xg_getf (va := (2, 40)) hk38 rfl) ?_
          refine xg_t (xg_iload (va := (0, 2)) rfl rfl) ?_
          refine xg_ialdB (n := 2) (B := 4294967295) ((h40_16.fr hF21 (by decide)).but hb39 (by decide)) (hb17) xnm0 (by omega) (fun u40 hu41 he42 => ?_)
          refine xg_putI (fl1 := [(2, 1), (2, 42), (2, 28), (2, 39), (2, 40), (2, 41), (0, f27_1), (0, f27_3), (0, f27_5), (0, 2), (0, u40)]) hk38 rfl rfl rfl (fun w43 hk44 hb45 => ?_)
          refine xg_t (xg_const) ?_
          exact xg_e ⟨0, w43, ⟨rfl, rfl⟩, by omega, xInv.up (S := [27]) hI20 ((xFr.of (S := [27]) hb39 (by decide)).tr (xFr.of (S := [27]) hb45 (by decide))) (List.forall_mem_cons.mpr ⟨(show cp27 (wget w43 27) from ⟨f27_1, f27_3, f27_5, 2, u40, hk44, by omega, by omega, by omega, by omega, by omega⟩), fun _ h => absurd h List.not_mem_nil⟩), ((hF21.up (by decide)).tr ((xFr.of (S := [27]) hb39 (by decide)).tr (xFr.of (S := [27]) hb45 (by decide))))⟩
      · refine xg_t (xg_ifF (u := (if 1 ≤ u29 ∧ u29 ≤ 99 then 1 else 0)) rfl xnm0 (xj_neF (xite0 hc32))) ?_
        refine xg_t (xg_aload (va := (2, 27)) rfl rfl) ?_
        refine xg_t (xg_const) ?_
        refine xg_putI (fl1 := [(2, 1), (2, 42), (2, 28), (2, 39), (2, 40), (2, 41), (0, f27_1), (0, f27_3), (0, f27_5), (0, 2), (0, f27_9)]) (hF21.get (by decide) h27_11) rfl rfl rfl (fun w46 hk47 hb48 => ?_)
        refine xg_t (xg_aload (va := (2, 27)) rfl rfl) ?_
        refine xg_t (xg_aload (va := (2, 27)) rfl rfl) ?_
        refine xg_t (xg_getf (va := (2, 40)) hk47 rfl) ?_
        refine xg_t (xg_iload (va := (0, 1)) rfl rfl) ?_
        refine xg_ialdB (n := 1) (B := 4294967295) ((h40_16.fr hF21 (by decide)).but hb48 (by decide)) (hb17) xnm0 (by omega) (fun u49 hu50 he51 => ?_)
        refine xg_putI (fl1 := [(2, 1), (2, 42), (2, 28), (2, 39), (2, 40), (2, 41), (0, f27_1), (0, f27_3), (0, f27_5), (0, 2), (0, u49)]) hk47 rfl rfl rfl (fun w52 hk53 hb54 => ?_)
        refine xg_t (xg_const) ?_
        exact xg_e ⟨0, w52, ⟨rfl, rfl⟩, by omega, xInv.up (S := [27]) hI20 ((xFr.of (S := [27]) hb48 (by decide)).tr (xFr.of (S := [27]) hb54 (by decide))) (List.forall_mem_cons.mpr ⟨(show cp27 (wget w52 27) from ⟨f27_1, f27_3, f27_5, 2, u49, hk53, by omega, by omega, by omega, by omega, by omega⟩), fun _ h => absurd h List.not_mem_nil⟩), ((hF21.up (by decide)).tr ((xFr.of (S := [27]) hb48 (by decide)).tr (xFr.of (S := [27]) hb54 (by decide))))⟩
    · refine xg_t (xg_ifF (u := (if 1 ≤ u25 ∧ u25 ≤ 99 then 1 else 0)) rfl xnm0 (xj_neF (xite0 hc28))) ?_
      refine xg_t (xg_aload (va := (2, 27)) rfl rfl) ?_
      refine xg_t (xg_const) ?_
      refine xg_putI (fl1 := [(2, 1), (2, 42), (2, 28), (2, 39), (2, 40), (2, 41), (0, f27_1), (0, f27_3), (0, f27_5), (0, 2), (0, f27_9)]) (hF21.get (by decide) h27_11) rfl rfl rfl (fun w55 hk56 hb57 => ?_)
      refine xg_t (xg_aload (va := (2, 27)) rfl rfl) ?_
      refine xg_t (xg_aload (va := (2, 27)) rfl rfl) ?_
      refine xg_t (xg_getf (va := (2, 40)) hk56 rfl) ?_
      refine xg_t (xg_iload (va := (0, 0)) rfl rfl) ?_
      refine xg_ialdB (n := 0) (B := 4294967295) ((h40_16.fr hF21 (by decide)).but hb57 (by decide)) (hb17) xnm0 (by omega) (fun u58 hu59 he60 => ?_)
      refine xg_putI (fl1 := [(2, 1), (2, 42), (2, 28), (2, 39), (2, 40), (2, 41), (0, f27_1), (0, f27_3), (0, f27_5), (0, 2), (0, u58)]) hk56 rfl rfl rfl (fun w61 hk62 hb63 => ?_)
      refine xg_t (xg_const) ?_
      exact xg_e ⟨0, w61, ⟨rfl, rfl⟩, by omega, xInv.up (S := [27]) hI20 ((xFr.of (S := [27]) hb57 (by decide)).tr (xFr.of (S := [27]) hb63 (by decide))) (List.forall_mem_cons.mpr ⟨(show cp27 (wget w61 27) from ⟨f27_1, f27_3, f27_5, 2, u58, hk62, by omega, by omega, by omega, by omega, by omega⟩), fun _ h => absurd h List.not_mem_nil⟩), ((hF21.up (by decide)).tr ((xFr.of (S := [27]) hb57 (by decide)).tr (xFr.of (S := [27]) hb63 (by decide))))⟩
  · refine xg_t (xg_ifF (u := n22) rfl xnm0 (xj_eqF hc24)) ?_
    refine xg_t (xg_aload (va := (2, 27)) rfl rfl) ?_
    refine xg_t (xg_const) ?_
    refine xg_putI (fl1 := [(2, 1), (2, 42), (2, 28), (2, 39), (2, 40), (2, 41), (0, f27_1), (0, f27_3), (0, f27_5), (0, 3), (0, f27_9)]) (hF21.get (by decide) h27_11) rfl rfl rfl (fun w64 hk65 hb66 => ?_)
    refine xg_t (xg_aload (va := (2, 27)) rfl rfl) ?_
    refine xg_t (xg_iload (va := (0, pc_)) rfl rfl) ?_
    refine xg_putI (fl1 := [(2, 1), (2, 42), (2, 28), (2, 39), (2, 40), (2, 41), (0, f27_1), (0, f27_3), (0, f27_5), (0, 3), (0, pc_)]) hk65 rfl rfl rfl (fun w67 hk68 hb69 => ?_)
    refine xg_t (xg_const) ?_
    exact xg_e ⟨0, w67, ⟨rfl, rfl⟩, by omega, xInv.up (S := [27]) hI20 ((xFr.of (S := [27]) hb66 (by decide)).tr (xFr.of (S := [27]) hb69 (by decide))) (List.forall_mem_cons.mpr ⟨(show cp27 (wget w67 27) from ⟨f27_1, f27_3, f27_5, 3, pc_, hk68, by omega, by omega, by omega, by omega, by omega⟩), fun _ h => absurd h List.not_mem_nil⟩), ((hF21.up (by decide)).tr ((xFr.of (S := [27]) hb66 (by decide)).tr (xFr.of (S := [27]) hb69 (by decide))))⟩
theorem ftTake0 {pc_ : Nat} (hI : xInv w) (h1 : pc_ ≤ 4294967295) : xPq (d + 2) mX2_take [(2, 27), (0, 0), (0, pc_)] w bd fc rr [] (fun w' => xInv w' ∧ xFr [29, 30, 31, 32, 33, 34, 35, 36, 37, 38, 41] w w') := by
  refine xPq.of ?_
  show xTo (d + 2) mX2_take (0, [], [(0, (2, 27)), (1, (0, 0)), (2, (0, pc_))], [], (w, bd, fc, 0, 0, rr)) (fun φ => ∃ w', xEnd 0 [] (w', bd, fc, 0, 0, rr) φ ∧ xInv w' ∧ xFr [29, 30, 31, 32, 33, 34, 35, 36, 37, 38, 41] w w')
  obtain ⟨f27_1, f27_3, f27_5, f27_7, f27_9, h27_11, hb2, hb4, hb6, hb8, hb10⟩ := (hI 27 (by decide) : cp27 (wget w 27))
  obtain ⟨g39_12, h39_13, hb14⟩ := (hI 39 (by decide) : cpI 3 18 4294967295 (wget w 39))
  have h39_13 : xRow w 39 3 18 g39_12 := h39_13
  obtain ⟨g41_15, h41_16, hb17⟩ := (hI 41 (by decide) : cpI 20 20 4294967295 (wget w 41))
  have h41_16 : xRow w 41 20 20 g41_15 := h41_16
  refine xg_t (xg_blk (b := [(0, 1, 2, 1, 0, 0), (1, 1, 3, 5, 0, 0), (2, 3, 6, 37, 1, 0), (5, 1, 0, 0, 0, 0), (6, 3, 1, 2, 2, 12), (9, 1, 0, 0, 0, 0), (10, 3, 1, 2, 3, 18), (13, 1, 3, 0, 0, 0), (14, 1, 10, 0, 0, 0), (15, 3, 14, 1, 5, 192), (18, 1, 0, 0, 0, 0), (19, 3, 1, 2, 2, 12), (22, 1, 0, 0, 0, 0), (23, 3, 1, 2, 3, 18), (26, 1, 3, 1, 0, 0), (27, 1, 10, 0, 0, 0), (28, 3, 14, 1, 6, 195), (31, 1, 0, 0, 0, 0), (32, 1, 3, 1, 0, 0), (33, 3, 59, 2, 7, 50), (36, 1, 12, 0, 0, 0)]) rfl) ?_
  refine xg_t (xg_iload (va := (0, 0)) rfl rfl) ?_
  refine xg_t (xg_const) ?_
  refine xg_t (xg_icT (u := 0) (v := 5) rfl xnm0 xnm0 (by decide)) ?_
  refine xg_t (xg_blk (b := [(37, 1, 2, 1, 0, 0), (38, 2, 4, 6, 0, 0), (40, 3, 6, 75, 1, 0), (43, 1, 0, 0, 0, 0), (44, 3, 1, 2, 2, 12), (47, 1, 0, 0, 0, 0), (48, 3, 1, 2, 3, 18), (51, 1, 3, 0, 0, 0), (52, 1, 10, 0, 0, 0), (53, 3, 14, 1, 7, 198), (56, 1, 0, 0, 0, 0), (57, 3, 1, 2, 2, 12), (60, 1, 0, 0, 0, 0), (61, 3, 1, 2, 3, 18), (64, 1, 3, 1, 0, 0), (65, 1, 10, 0, 0, 0), (66, 3, 14, 1, 8, 201), (69, 1, 0, 0, 0, 0), (70, 1, 3, 1, 0, 0), (71, 3, 59, 2, 8, 54), (74, 1, 12, 0, 0, 0)]) rfl) ?_
  refine xg_t (xg_iload (va := (0, 0)) rfl rfl) ?_
  refine xg_t (xg_bip) ?_
  refine xg_t (xg_icT (u := 0) (v := 6) rfl xnm0 xnm0 (by decide)) ?_
  refine xg_t (xg_blk (b := [(75, 1, 0, 0, 0, 0), (76, 3, 1, 2, 2, 12), (79, 1, 2, 1, 0, 0), (80, 3, 13, 243, 8, 172), (83, 1, 27, 3, 0, 0), (84, 1, 0, 3, 0, 0), (85, 3, 43, 95, 0, 0), (88, 1, 0, 3, 0, 0), (89, 3, 13, 289, 40, 176), (92, 3, 7, 96, 0, 0)]) rfl) ?_
  refine xg_t (xg_aload (va := (2, 27)) rfl rfl) ?_
  refine xg_t (xg_getf (va := (2, 28)) h27_11 rfl) ?_
  refine xg_t (xg_iload (va := (0, 0)) rfl rfl) ?_
  obtain ⟨v18, hv19, hp20⟩ := rowsOf28 (d := d + 1) (bd := bd) (fc := fc) (rr := rr) (so := 0) (hI) (by omega)
  rcases hv19 with rfl | rfl | rfl | rfl | rfl | rfl
  · obtain ⟨f28_21, f28_23, f28_25, f28_27, f28_29, h28_31, hb22, hb24, hb26, hb28, hb30⟩ := (hI 28 (by decide) : cp28 (wget w 28))
    refine xg_t (xg_cVr mX1_rowsOf (vs := [(0, 0)]) (rest := []) (rs := [(2, 29)]) (cn1 := 0) (sl1 := 0) rfl (hp20) rfl h28_31 rfl rfl rfl rfl rfl rfl rfl) ?_
    refine xg_t (xg_astore (l1 := [(0, (2, 27)), (1, (0, 0)), (2, (0, pc_))]) rfl rfl rfl) ?_
    refine xg_t (xg_aload (va := (2, 29)) rfl rfl) ?_
    refine xg_t (xg_ifnullF) ?_
    refine xg_t (xg_aload (va := (2, 29)) rfl rfl) ?_
    obtain ⟨f29_32, h29_34, hb33⟩ := (hI 29 (by decide) : cp29 (wget w 29))
    refine xg_t (xg_cVr mX5_isFull (vs := []) (rest := []) (rs := [(0, if 6 ≤ f29_32 then 1 else 0)]) (cn1 := 0) (sl1 := 0) rfl (rfull_ok h29_34 (by decide) (by omega)) rfl h29_34 rfl rfl rfl rfl rfl rfl rfl) ?_
    by_cases hc35 : 6 ≤ f29_32
    · refine xg_t (xg_ifF (u := (if 6 ≤ f29_32 then 1 else 0)) rfl xnm0 (xj_eqF (xite1 hc35))) ?_
      refine xg_t (xg_blk (b := [(95, 1, 12, 0, 0, 0)]) rfl) ?_
      exact xg_e ⟨w, ⟨rfl, rfl⟩, hI, xFr.rf⟩
    · refine xg_t (xg_ifT (u := (if 6 ≤ f29_32 then 1 else 0)) rfl xnm0 (xj_eqT (xite0 hc35))) ?_
      refine xg_t (xg_blk (b := [(96, 1, 0, 3, 0, 0), (97, 3, 13, 286, 40, 204), (100, 2, 15, 4, 0, 0), (102, 1, 3, 0, 0, 0), (103, 2, 15, 5, 0, 0)]) rfl) ?_
      refine xg_t (xg_aload (va := (2, 29)) rfl rfl) ?_
      refine xg_cVi mX5_grow (vs := []) (rest := []) (cn1 := 0) (sl1 := 0) rfl (rgrowI h29_34 (by decide) (by omega)) rfl h29_34 rfl rfl rfl rfl rfl rfl (fun n38 w36 hq37 => ?_)
      obtain ⟨hn39, s40, hs41, hk42, hb43⟩ := hq37
      refine xg_t (xg_istore (l1 := [(3, (2, 29)), (0, (2, 27)), (1, (0, 0)), (2, (0, pc_))]) rfl rfl rfl) ?_
      refine xg_t (xg_const) ?_
      refine xg_t (xg_istore (l1 := [(4, (0, n38)), (3, (2, 29)), (0, (2, 27)), (1, (0, 0)), (2, (0, pc_))]) rfl rfl rfl) ?_
      refine xg_t (xg_blk (b := [(105, 2, 2, 5, 0, 0), (107, 3, 37, 1, 0, 115), (110, 1, 2, 1, 0, 0), (111, 1, 10, 0, 0, 0), (112, 3, 6, 142, 3, 0), (115, 2, 2, 5, 0, 0), (117, 1, 3, 3, 0, 0), (118, 3, 6, 142, 3, 0), (121, 1, 0, 3, 0, 0), (122, 2, 2, 4, 0, 0), (124, 2, 2, 5, 0, 0), (126, 1, 0, 0, 0, 0), (127, 3, 1, 2, 3, 18), (130, 2, 2, 5, 0, 0), (132, 1, 10, 0, 0, 0), (133, 3, 13, 290, 40, 207), (136, 3, 9, 5, 1, 0), (139, 3, 8, 105, 0, 0)]) rfl) ?_
      refine xg_t (xg_iload (va := (0, 0)) rfl rfl) ?_
      refine xg_t (xg_gets) ?_
      refine xg_t (xg_iload (va := (0, 0)) rfl rfl) ?_
      refine xg_t (xg_ald8L (n := 0) (u := 3) xnm0 rfl rfl) ?_
      refine xg_t (xg_icF (u := 0) (v := 3) rfl xnm0 xnm0 (by decide)) ?_
      refine xg_t (xg_iload (va := (0, 0)) rfl rfl) ?_
      refine xg_t (xg_const) ?_
      refine xg_t (xg_icF (u := 0) (v := 3) rfl xnm0 xnm0 (by decide)) ?_
      refine xg_t (xg_aload (va := (2, 29)) rfl rfl) ?_
      refine xg_t (xg_iload (va := (0, n38)) rfl rfl) ?_
      refine xg_t (xg_iload (va := (0, 0)) rfl rfl) ?_
      refine xg_t (xg_aload (va := (2, 27)) rfl rfl) ?_
      refine xg_t (xg_getf (va := (2, 39)) (hb43.get (by decide) h27_11) rfl) ?_
      refine xg_t (xg_iload (va := (0, 0)) rfl rfl) ?_
      refine xg_ialdB (n := 0) (B := 4294967295) (h39_13.but hb43 (by decide)) (hb14) xnm0 (by omega) (fun u44 hu45 he46 => ?_)
      obtain ⟨g30_47, h30_48, hb49⟩ := (hI 30 (by decide) : cpI 24 13 4294967295 (wget w 30))
      have h30_48 : xRow w 30 24 13 g30_47 := h30_48
      refine xg_cVv mX5_put (vs := [(0, n38), (0, 0), (0, u44)]) (rest := []) (cn1 := 0) (sl1 := 0) rfl (rputI (lim := 6) (wd := 4) (B := 4294967295) hk42 (h30_48.but hb43 (by decide)) (hb49) (by decide) (by omega) (by decide) (by decide) (by omega) (by omega) (by omega)) rfl hk42 rfl rfl rfl rfl rfl rfl (fun w50 hq51 => ?_)
      obtain ⟨g52, hr53, hb54, hb55⟩ := hq51
      refine xg_t (xg_iinc (u := 0) (z := 1) (l1 := [(4, (0, n38)), (3, (2, 29)), (0, (2, 27)), (1, (0, 0)), (2, (0, pc_))]) rfl rfl (by decide) rfl) ?_
      refine xg_t (xg_goto) ?_
      refine xg_t (xg_blk (b := [(105, 2, 2, 5, 0, 0), (107, 3, 37, 1, 0, 115), (110, 1, 2, 1, 0, 0), (111, 1, 10, 0, 0, 0), (112, 3, 6, 142, 3, 0), (115, 2, 2, 5, 0, 0), (117, 1, 3, 3, 0, 0), (118, 3, 6, 142, 3, 0), (121, 1, 0, 3, 0, 0), (122, 2, 2, 4, 0, 0), (124, 2, 2, 5, 0, 0), (126, 1, 0, 0, 0, 0), (127, 3, 1, 2, 3, 18), (130, 2, 2, 5, 0, 0), (132, 1, 10, 0, 0, 0), (133, 3, 13, 290, 40, 207), (136, 3, 9, 5, 1, 0), (139, 3, 8, 105, 0, 0)]) rfl) ?_
      refine xg_t (xg_iload (va := (0, 1)) rfl rfl) ?_
      refine xg_t (xg_gets) ?_
      refine xg_t (xg_iload (va := (0, 0)) rfl rfl) ?_
      refine xg_t (xg_ald8L (n := 0) (u := 3) xnm0 rfl rfl) ?_
      refine xg_t (xg_icF (u := 1) (v := 3) rfl xnm0 xnm0 (by decide)) ?_
      refine xg_t (xg_iload (va := (0, 1)) rfl rfl) ?_
      refine xg_t (xg_const) ?_
      refine xg_t (xg_icF (u := 1) (v := 3) rfl xnm0 xnm0 (by decide)) ?_
      refine xg_t (xg_aload (va := (2, 29)) rfl rfl) ?_
      refine xg_t (xg_iload (va := (0, n38)) rfl rfl) ?_
      refine xg_t (xg_iload (va := (0, 1)) rfl rfl) ?_
      refine xg_t (xg_aload (va := (2, 27)) rfl rfl) ?_
      refine xg_t (xg_getf (va := (2, 39)) (hb55.get (by decide) (hb43.get (by decide) h27_11)) rfl) ?_
      refine xg_t (xg_iload (va := (0, 1)) rfl rfl) ?_
      refine xg_ialdB (n := 1) (B := 4294967295) ((h39_13.but hb43 (by decide)).but hb55 (by decide)) (hb14) xnm0 (by omega) (fun u56 hu57 he58 => ?_)
      refine xg_cVv mX5_put (vs := [(0, n38), (0, 1), (0, u56)]) (rest := []) (cn1 := 0) (sl1 := 0) rfl (rputI (lim := 6) (wd := 4) (B := 4294967295) (hb55.get (by decide) hk42) hr53 (hb54) (by decide) (by omega) (by decide) (by decide) (by omega) (by omega) (by omega)) rfl (hb55.get (by decide) hk42) rfl rfl rfl rfl rfl rfl (fun w59 hq60 => ?_)
      obtain ⟨g61, hr62, hb63, hb64⟩ := hq60
      refine xg_t (xg_iinc (u := 1) (z := 2) (l1 := [(4, (0, n38)), (3, (2, 29)), (0, (2, 27)), (1, (0, 0)), (2, (0, pc_))]) rfl rfl (by decide) rfl) ?_
      refine xg_t (xg_goto) ?_
      refine xg_t (xg_blk (b := [(105, 2, 2, 5, 0, 0), (107, 3, 37, 1, 0, 115), (110, 1, 2, 1, 0, 0), (111, 1, 10, 0, 0, 0), (112, 3, 6, 142, 3, 0), (115, 2, 2, 5, 0, 0), (117, 1, 3, 3, 0, 0), (118, 3, 6, 142, 3, 0), (121, 1, 0, 3, 0, 0), (122, 2, 2, 4, 0, 0), (124, 2, 2, 5, 0, 0), (126, 1, 0, 0, 0, 0), (127, 3, 1, 2, 3, 18), (130, 2, 2, 5, 0, 0), (132, 1, 10, 0, 0, 0), (133, 3, 13, 290, 40, 207), (136, 3, 9, 5, 1, 0), (139, 3, 8, 105, 0, 0)]) rfl) ?_
      refine xg_t (xg_iload (va := (0, 2)) rfl rfl) ?_
      refine xg_t (xg_gets) ?_
      refine xg_t (xg_iload (va := (0, 0)) rfl rfl) ?_
      refine xg_t (xg_ald8L (n := 0) (u := 3) xnm0 rfl rfl) ?_
      refine xg_t (xg_icF (u := 2) (v := 3) rfl xnm0 xnm0 (by decide)) ?_
      refine xg_t (xg_iload (va := (0, 2)) rfl rfl) ?_
      refine xg_t (xg_const) ?_
      refine xg_t (xg_icF (u := 2) (v := 3) rfl xnm0 xnm0 (by decide)) ?_
      refine xg_t (xg_aload (va := (2, 29)) rfl rfl) ?_
      refine xg_t (xg_iload (va := (0, n38)) rfl rfl) ?_
      refine xg_t (xg_iload (va := (0, 2)) rfl rfl) ?_
      refine xg_t (xg_aload (va := (2, 27)) rfl rfl) ?_
      refine xg_t (xg_getf (va := (2, 39)) (hb64.get (by decide) (hb55.get (by decide) (hb43.get (by decide) h27_11))) rfl) ?_
      refine xg_t (xg_iload (va := (0, 2)) rfl rfl) ?_
      refine xg_ialdB (n := 2) (B := 4294967295) (((h39_13.but hb43 (by decide)).but hb55 (by decide)).but hb64 (by decide)) (hb14) xnm0 (by omega) (fun u65 hu66 he67 => ?_)
      refine xg_cVv mX5_put (vs := [(0, n38), (0, 2), (0, u65)]) (rest := []) (cn1 := 0) (sl1 := 0) rfl (rputI (lim := 6) (wd := 4) (B := 4294967295) (hb64.get (by decide) (hb55.get (by decide) hk42)) hr62 (hb63) (by decide) (by omega) (by decide) (by decide) (by omega) (by omega) (by omega)) rfl (hb64.get (by decide) (hb55.get (by decide) hk42)) rfl rfl rfl rfl rfl rfl (fun w68 hq69 => ?_)
      obtain ⟨g70, hr71, hb72, hb73⟩ := hq69
      refine xg_t (xg_iinc (u := 2) (z := 3) (l1 := [(4, (0, n38)), (3, (2, 29)), (0, (2, 27)), (1, (0, 0)), (2, (0, pc_))]) rfl rfl (by decide) rfl) ?_
      refine xg_t (xg_goto) ?_
      refine xg_t (xg_blk (b := [(105, 2, 2, 5, 0, 0), (107, 3, 37, 1, 0, 115), (110, 1, 2, 1, 0, 0), (111, 1, 10, 0, 0, 0), (112, 3, 6, 142, 3, 0), (115, 2, 2, 5, 0, 0), (117, 1, 3, 3, 0, 0), (118, 3, 6, 142, 3, 0), (121, 1, 0, 3, 0, 0), (122, 2, 2, 4, 0, 0), (124, 2, 2, 5, 0, 0), (126, 1, 0, 0, 0, 0), (127, 3, 1, 2, 3, 18), (130, 2, 2, 5, 0, 0), (132, 1, 10, 0, 0, 0), (133, 3, 13, 290, 40, 207), (136, 3, 9, 5, 1, 0), (139, 3, 8, 105, 0, 0)]) rfl) ?_
      refine xg_t (xg_iload (va := (0, 3)) rfl rfl) ?_
      refine xg_t (xg_gets) ?_
      refine xg_t (xg_iload (va := (0, 0)) rfl rfl) ?_
      refine xg_t (xg_ald8L (n := 0) (u := 3) xnm0 rfl rfl) ?_
      refine xg_t (xg_icT (u := 3) (v := 3) rfl xnm0 xnm0 (by decide)) ?_
      refine xg_t (xg_blk (b := [(142, 1, 2, 1, 0, 0), (143, 3, 7, 165, 1, 0), (146, 1, 0, 3, 0, 0), (147, 2, 2, 4, 0, 0), (149, 1, 3, 3, 0, 0), (150, 1, 0, 0, 0, 0), (151, 3, 1, 2, 6, 153), (154, 3, 7, 161, 0, 0), (157, 1, 3, 1, 0, 0), (158, 3, 8, 162, 0, 0)]) rfl) ?_
      refine xg_t (xg_iload (va := (0, 0)) rfl rfl) ?_
      refine xg_t (xg_ifF (u := 0) rfl xnm0 (by decide)) ?_
      refine xg_t (xg_aload (va := (2, 29)) rfl rfl) ?_
      refine xg_t (xg_iload (va := (0, n38)) rfl rfl) ?_
      refine xg_t (xg_const) ?_
      refine xg_t (xg_aload (va := (2, 27)) rfl rfl) ?_
      refine xg_t (xg_getf (va := (0, f27_1)) (hb73.get (by decide) (hb64.get (by decide) (hb55.get (by decide) (hb43.get (by decide) h27_11)))) rfl) ?_
      by_cases hc74 : f27_1 = 0
      · refine xg_t (xg_ifT (u := f27_1) rfl xnm0 (xj_eqT hc74)) ?_
        refine xg_t (xg_blk (b := [(161, 1, 3, 0, 0, 0)]) rfl) ?_
        refine xg_t (xg_const) ?_
        refine xg_t (xg_blk (b := [(162, 3, 13, 290, 40, 207)]) rfl) ?_
        refine xg_cVv mX5_put (vs := [(0, n38), (0, 3), (0, 0)]) (rest := []) (cn1 := 0) (sl1 := 0) rfl (rputI (lim := 6) (wd := 4) (B := 4294967295) (hb73.get (by decide) (hb64.get (by decide) (hb55.get (by decide) hk42))) hr71 (hb72) (by decide) (by omega) (by decide) (by decide) (by omega) (by omega) (by omega)) rfl (hb73.get (by decide) (hb64.get (by decide) (hb55.get (by decide) hk42))) rfl rfl rfl rfl rfl rfl (fun w75 hq76 => ?_)
        obtain ⟨g77, hr78, hb79, hb80⟩ := hq76
        refine xg_t (xg_blk (b := [(165, 1, 2, 1, 0, 0), (166, 1, 3, 4, 0, 0), (167, 3, 6, 188, 1, 0), (170, 2, 2, 4, 0, 0), (172, 1, 0, 0, 0, 0), (173, 3, 1, 2, 5, 25), (176, 1, 31, 0, 0, 0), (177, 3, 6, 188, 3, 0), (180, 1, 0, 0, 0, 0), (181, 3, 1, 2, 5, 25), (184, 2, 2, 4, 0, 0), (186, 1, 2, 2, 0, 0), (187, 1, 17, 0, 0, 0)]) rfl) ?_
        refine xg_t (xg_iload (va := (0, 0)) rfl rfl) ?_
        refine xg_t (xg_const) ?_
        refine xg_t (xg_icT (u := 0) (v := 4) rfl xnm0 xnm0 (by decide)) ?_
        refine xg_t (xg_blk (b := [(188, 1, 12, 0, 0, 0)]) rfl) ?_
        exact xg_e ⟨w75, ⟨rfl, rfl⟩, xInv.up (S := [29, 30]) hI (((((xFr.of (S := [29, 30]) hb43 (by decide)).tr (xFr.of (S := [29, 30]) hb55 (by decide))).tr (xFr.of (S := [29, 30]) hb64 (by decide))).tr (xFr.of (S := [29, 30]) hb73 (by decide))).tr (xFr.of (S := [29, 30]) hb80 (by decide))) (List.forall_mem_cons.mpr ⟨(show cp29 (wget w75 29) from ⟨s40, (hb80.get (by decide) (hb73.get (by decide) (hb64.get (by decide) (hb55.get (by decide) hk42)))), by omega⟩), List.forall_mem_cons.mpr ⟨(show cpI 24 13 4294967295 (wget w75 30) from ⟨_, hr78, hb79⟩), fun _ h => absurd h List.not_mem_nil⟩⟩), (((((xFr.of (S := [29, 30, 31, 32, 33, 34, 35, 36, 37, 38, 41]) hb43 (by decide)).tr (xFr.of (S := [29, 30, 31, 32, 33, 34, 35, 36, 37, 38, 41]) hb55 (by decide))).tr (xFr.of (S := [29, 30, 31, 32, 33, 34, 35, 36, 37, 38, 41]) hb64 (by decide))).tr (xFr.of (S := [29, 30, 31, 32, 33, 34, 35, 36, 37, 38, 41]) hb73 (by decide))).tr (xFr.of (S := [29, 30, 31, 32, 33, 34, 35, 36, 37, 38, 41]) hb80 (by decide)))⟩
      · refine xg_t (xg_ifF (u := f27_1) rfl xnm0 (xj_eqF hc74)) ?_
        refine xg_t (xg_const) ?_
        refine xg_t (xg_goto) ?_
        refine xg_t (xg_blk (b := [(162, 3, 13, 290, 40, 207)]) rfl) ?_
        refine xg_cVv mX5_put (vs := [(0, n38), (0, 3), (0, 1)]) (rest := []) (cn1 := 0) (sl1 := 0) rfl (rputI (lim := 6) (wd := 4) (B := 4294967295) (hb73.get (by decide) (hb64.get (by decide) (hb55.get (by decide) hk42))) hr71 (hb72) (by decide) (by omega) (by decide) (by decide) (by omega) (by omega) (by omega)) rfl (hb73.get (by decide) (hb64.get (by decide) (hb55.get (by decide) hk42))) rfl rfl rfl rfl rfl rfl (fun w81 hq82 => ?_)
        obtain ⟨g83, hr84, hb85, hb86⟩ := hq82
        refine xg_t (xg_blk (b := [(165, 1, 2, 1, 0, 0), (166, 1, 3, 4, 0, 0), (167, 3, 6, 188, 1, 0), (170, 2, 2, 4, 0, 0), (172, 1, 0, 0, 0, 0), (173, 3, 1, 2, 5, 25), (176, 1, 31, 0, 0, 0), (177, 3, 6, 188, 3, 0), (180, 1, 0, 0, 0, 0), (181, 3, 1, 2, 5, 25), (184, 2, 2, 4, 0, 0), (186, 1, 2, 2, 0, 0), (187, 1, 17, 0, 0, 0)]) rfl) ?_
        refine xg_t (xg_iload (va := (0, 0)) rfl rfl) ?_
        refine xg_t (xg_const) ?_
        refine xg_t (xg_icT (u := 0) (v := 4) rfl xnm0 xnm0 (by decide)) ?_
        refine xg_t (xg_blk (b := [(188, 1, 12, 0, 0, 0)]) rfl) ?_
        exact xg_e ⟨w81, ⟨rfl, rfl⟩, xInv.up (S := [29, 30]) hI (((((xFr.of (S := [29, 30]) hb43 (by decide)).tr (xFr.of (S := [29, 30]) hb55 (by decide))).tr (xFr.of (S := [29, 30]) hb64 (by decide))).tr (xFr.of (S := [29, 30]) hb73 (by decide))).tr (xFr.of (S := [29, 30]) hb86 (by decide))) (List.forall_mem_cons.mpr ⟨(show cp29 (wget w81 29) from ⟨s40, (hb86.get (by decide) (hb73.get (by decide) (hb64.get (by decide) (hb55.get (by decide) hk42)))), by omega⟩), List.forall_mem_cons.mpr ⟨(show cpI 24 13 4294967295 (wget w81 30) from ⟨_, hr84, hb85⟩), fun _ h => absurd h List.not_mem_nil⟩⟩), (((((xFr.of (S := [29, 30, 31, 32, 33, 34, 35, 36, 37, 38, 41]) hb43 (by decide)).tr (xFr.of (S := [29, 30, 31, 32, 33, 34, 35, 36, 37, 38, 41]) hb55 (by decide))).tr (xFr.of (S := [29, 30, 31, 32, 33, 34, 35, 36, 37, 38, 41]) hb64 (by decide))).tr (xFr.of (S := [29, 30, 31, 32, 33, 34, 35, 36, 37, 38, 41]) hb73 (by decide))).tr (xFr.of (S := [29, 30, 31, 32, 33, 34, 35, 36, 37, 38, 41]) hb86 (by decide)))⟩
  · obtain ⟨f28_87, f28_89, f28_91, f28_93, f28_95, h28_97, hb88, hb90, hb92, hb94, hb96⟩ := (hI 28 (by decide) : cp28 (wget w 28))
    refine xg_t (xg_cVr mX1_rowsOf (vs := [(0, 0)]) (rest := []) (rs := [(2, 31)]) (cn1 := 0) (sl1 := 0) rfl (hp20) rfl h28_97 rfl rfl rfl rfl rfl rfl rfl) ?_
    refine xg_t (xg_astore (l1 := [(0, (2, 27)), (1, (0, 0)), (2, (0, pc_))]) rfl rfl rfl) ?_
    refine xg_t (xg_aload (va := (2, 31)) rfl rfl) ?_
    refine xg_t (xg_ifnullF) ?_
    refine xg_t (xg_aload (va := (2, 31)) rfl rfl) ?_
    obtain ⟨f31_98, h31_100, hb99⟩ := (hI 31 (by decide) : cp31 (wget w 31))
    refine xg_t (xg_cVr mX5_isFull (vs := []) (rest := []) (rs := [(0, if 4 ≤ f31_98 then 1 else 0)]) (cn1 := 0) (sl1 := 0) rfl (rfull_ok h31_100 (by decide) (by omega)) rfl h31_100 rfl rfl rfl rfl rfl rfl rfl) ?_
    by_cases hc101 : 4 ≤ f31_98
    · refine xg_t (xg_ifF (u := (if 4 ≤ f31_98 then 1 else 0)) rfl xnm0 (xj_eqF (xite1 hc101))) ?_
      refine xg_t (xg_blk (b := [(95, 1, 12, 0, 0, 0)]) rfl) ?_
      exact xg_e ⟨w, ⟨rfl, rfl⟩, hI, xFr.rf⟩
    · refine xg_t (xg_ifT (u := (if 4 ≤ f31_98 then 1 else 0)) rfl xnm0 (xj_eqT (xite0 hc101))) ?_
      refine xg_t (xg_blk (b := [(96, 1, 0, 3, 0, 0), (97, 3, 13, 286, 40, 204), (100, 2, 15, 4, 0, 0), (102, 1, 3, 0, 0, 0), (103, 2, 15, 5, 0, 0)]) rfl) ?_
      refine xg_t (xg_aload (va := (2, 31)) rfl rfl) ?_
      refine xg_cVi mX5_grow (vs := []) (rest := []) (cn1 := 0) (sl1 := 0) rfl (rgrowI h31_100 (by decide) (by omega)) rfl h31_100 rfl rfl rfl rfl rfl rfl (fun n104 w102 hq103 => ?_)
      obtain ⟨hn105, s106, hs107, hk108, hb109⟩ := hq103
      refine xg_t (xg_istore (l1 := [(3, (2, 31)), (0, (2, 27)), (1, (0, 0)), (2, (0, pc_))]) rfl rfl rfl) ?_
      refine xg_t (xg_const) ?_
      refine xg_t (xg_istore (l1 := [(4, (0, n104)), (3, (2, 31)), (0, (2, 27)), (1, (0, 0)), (2, (0, pc_))]) rfl rfl rfl) ?_
      refine xg_t (xg_blk (b := [(105, 2, 2, 5, 0, 0), (107, 3, 37, 1, 0, 115), (110, 1, 2, 1, 0, 0), (111, 1, 10, 0, 0, 0), (112, 3, 6, 142, 3, 0), (115, 2, 2, 5, 0, 0), (117, 1, 3, 3, 0, 0), (118, 3, 6, 142, 3, 0), (121, 1, 0, 3, 0, 0), (122, 2, 2, 4, 0, 0), (124, 2, 2, 5, 0, 0), (126, 1, 0, 0, 0, 0), (127, 3, 1, 2, 3, 18), (130, 2, 2, 5, 0, 0), (132, 1, 10, 0, 0, 0), (133, 3, 13, 290, 40, 207), (136, 3, 9, 5, 1, 0), (139, 3, 8, 105, 0, 0)]) rfl) ?_
      refine xg_t (xg_iload (va := (0, 0)) rfl rfl) ?_
      refine xg_t (xg_gets) ?_
      refine xg_t (xg_iload (va := (0, 0)) rfl rfl) ?_
      refine xg_t (xg_ald8L (n := 0) (u := 3) xnm0 rfl rfl) ?_
      refine xg_t (xg_icF (u := 0) (v := 3) rfl xnm0 xnm0 (by decide)) ?_
      refine xg_t (xg_iload (va := (0, 0)) rfl rfl) ?_
      refine xg_t (xg_const) ?_
      refine xg_t (xg_icF (u := 0) (v := 3) rfl xnm0 xnm0 (by decide)) ?_
      refine xg_t (xg_aload (va := (2, 31)) rfl rfl) ?_
      refine xg_t (xg_iload (va := (0, n104)) rfl rfl) ?_
      refine xg_t (xg_iload (va := (0, 0)) rfl rfl) ?_
      refine xg_t (xg_aload (va := (2, 27)) rfl rfl) ?_
      refine xg_t (xg_getf (va := (2, 39)) (hb109.get (by decide) h27_11) rfl) ?_
      refine xg_t (xg_iload (va := (0, 0)) rfl rfl) ?_
      refine xg_ialdB (n := 0) (B := 4294967295) (h39_13.but hb109 (by decide)) (hb14) xnm0 (by omega) (fun u110 hu111 he112 => ?_)
      obtain ⟨g32_113, h32_114, hb115⟩ := (hI 32 (by decide) : cpI 8 14 4294967295 (wget w 32))
      have h32_114 : xRow w 32 8 14 g32_113 := h32_114
      refine xg_cVv mX5_put (vs := [(0, n104), (0, 0), (0, u110)]) (rest := []) (cn1 := 0) (sl1 := 0) rfl (rputI (lim := 4) (wd := 2) (B := 4294967295) hk108 (h32_114.but hb109 (by decide)) (hb115) (by decide) (by omega) (by decide) (by decide) (by omega) (by omega) (by omega)) rfl hk108 rfl rfl rfl rfl rfl rfl (fun w116 hq117 => ?_)
      obtain ⟨g118, hr119, hb120, hb121⟩ := hq117
      refine xg_t (xg_iinc (u := 0) (z := 1) (l1 := [(4, (0, n104)), (3, (2, 31)), (0, (2, 27)), (1, (0, 0)), (2, (0, pc_))]) rfl rfl (by decide) rfl) ?_
      refine xg_t (xg_goto) ?_
      refine xg_t (xg_blk (b := [(105, 2, 2, 5, 0, 0), (107, 3, 37, 1, 0, 115), (110, 1, 2, 1, 0, 0), (111, 1, 10, 0, 0, 0), (112, 3, 6, 142, 3, 0), (115, 2, 2, 5, 0, 0), (117, 1, 3, 3, 0, 0), (118, 3, 6, 142, 3, 0), (121, 1, 0, 3, 0, 0), (122, 2, 2, 4, 0, 0), (124, 2, 2, 5, 0, 0), (126, 1, 0, 0, 0, 0), (127, 3, 1, 2, 3, 18), (130, 2, 2, 5, 0, 0), (132, 1, 10, 0, 0, 0), (133, 3, 13, 290, 40, 207), (136, 3, 9, 5, 1, 0), (139, 3, 8, 105, 0, 0)]) rfl) ?_
      refine xg_t (xg_iload (va := (0, 1)) rfl rfl) ?_
      refine xg_t (xg_gets) ?_
      refine xg_t (xg_iload (va := (0, 0)) rfl rfl) ?_
      refine xg_t (xg_ald8L (n := 0) (u := 3) xnm0 rfl rfl) ?_
      refine xg_t (xg_icF (u := 1) (v := 3) rfl xnm0 xnm0 (by decide)) ?_
      refine xg_t (xg_iload (va := (0, 1)) rfl rfl) ?_
      refine xg_t (xg_const) ?_
      refine xg_t (xg_icF (u := 1) (v := 3) rfl xnm0 xnm0 (by decide)) ?_
      refine xg_t (xg_aload (va := (2, 31)) rfl rfl) ?_
      refine xg_t (xg_iload (va := (0, n104)) rfl rfl) ?_
      refine xg_t (xg_iload (va := (0, 1)) rfl rfl) ?_
      refine xg_t (xg_aload (va := (2, 27)) rfl rfl) ?_
      refine xg_t (xg_getf (va := (2, 39)) (hb121.get (by decide) (hb109.get (by decide) h27_11)) rfl) ?_
      refine xg_t (xg_iload (va := (0, 1)) rfl rfl) ?_
      refine xg_ialdB (n := 1) (B := 4294967295) ((h39_13.but hb109 (by decide)).but hb121 (by decide)) (hb14) xnm0 (by omega) (fun u122 hu123 he124 => ?_)
      refine xg_cVv mX5_put (vs := [(0, n104), (0, 1), (0, u122)]) (rest := []) (cn1 := 0) (sl1 := 0) rfl (rputI (lim := 4) (wd := 2) (B := 4294967295) (hb121.get (by decide) hk108) hr119 (hb120) (by decide) (by omega) (by decide) (by decide) (by omega) (by omega) (by omega)) rfl (hb121.get (by decide) hk108) rfl rfl rfl rfl rfl rfl (fun w125 hq126 => ?_)
      obtain ⟨g127, hr128, hb129, hb130⟩ := hq126
      refine xg_t (xg_iinc (u := 1) (z := 2) (l1 := [(4, (0, n104)), (3, (2, 31)), (0, (2, 27)), (1, (0, 0)), (2, (0, pc_))]) rfl rfl (by decide) rfl) ?_
      refine xg_t (xg_goto) ?_
      refine xg_t (xg_blk (b := [(105, 2, 2, 5, 0, 0), (107, 3, 37, 1, 0, 115), (110, 1, 2, 1, 0, 0), (111, 1, 10, 0, 0, 0), (112, 3, 6, 142, 3, 0), (115, 2, 2, 5, 0, 0), (117, 1, 3, 3, 0, 0), (118, 3, 6, 142, 3, 0), (121, 1, 0, 3, 0, 0), (122, 2, 2, 4, 0, 0), (124, 2, 2, 5, 0, 0), (126, 1, 0, 0, 0, 0), (127, 3, 1, 2, 3, 18), (130, 2, 2, 5, 0, 0), (132, 1, 10, 0, 0, 0), (133, 3, 13, 290, 40, 207), (136, 3, 9, 5, 1, 0), (139, 3, 8, 105, 0, 0)]) rfl) ?_
      refine xg_t (xg_iload (va := (0, 2)) rfl rfl) ?_
      refine xg_t (xg_gets) ?_
      refine xg_t (xg_iload (va := (0, 0)) rfl rfl) ?_
      refine xg_t (xg_ald8L (n := 0) (u := 3) xnm0 rfl rfl) ?_
      refine xg_t (xg_icF (u := 2) (v := 3) rfl xnm0 xnm0 (by decide)) ?_
      refine xg_t (xg_iload (va := (0, 2)) rfl rfl) ?_
      refine xg_t (xg_const) ?_
      refine xg_t (xg_icF (u := 2) (v := 3) rfl xnm0 xnm0 (by decide)) ?_
      refine xg_t (xg_aload (va := (2, 31)) rfl rfl) ?_
      refine xg_t (xg_iload (va := (0, n104)) rfl rfl) ?_
      refine xg_t (xg_iload (va := (0, 2)) rfl rfl) ?_
      refine xg_t (xg_aload (va := (2, 27)) rfl rfl) ?_
      refine xg_t (xg_getf (va := (2, 39)) (hb130.get (by decide) (hb121.get (by decide) (hb109.get (by decide) h27_11))) rfl) ?_
      refine xg_t (xg_iload (va := (0, 2)) rfl rfl) ?_
      refine xg_ialdB (n := 2) (B := 4294967295) (((h39_13.but hb109 (by decide)).but hb121 (by decide)).but hb130 (by decide)) (hb14) xnm0 (by omega) (fun u131 hu132 he133 => ?_)
      refine xg_cVv mX5_put (vs := [(0, n104), (0, 2), (0, u131)]) (rest := []) (cn1 := 0) (sl1 := 0) rfl (rputI (lim := 4) (wd := 2) (B := 4294967295) (hb130.get (by decide) (hb121.get (by decide) hk108)) hr128 (hb129) (by decide) (by omega) (by decide) (by decide) (by omega) (by omega) (by omega)) rfl (hb130.get (by decide) (hb121.get (by decide) hk108)) rfl rfl rfl rfl rfl rfl (fun w134 hq135 => ?_)
      obtain ⟨g136, hr137, hb138, hb139⟩ := hq135
      refine xg_t (xg_iinc (u := 2) (z := 3) (l1 := [(4, (0, n104)), (3, (2, 31)), (0, (2, 27)), (1, (0, 0)), (2, (0, pc_))]) rfl rfl (by decide) rfl) ?_
      refine xg_t (xg_goto) ?_
      refine xg_t (xg_blk (b := [(105, 2, 2, 5, 0, 0), (107, 3, 37, 1, 0, 115), (110, 1, 2, 1, 0, 0), (111, 1, 10, 0, 0, 0), (112, 3, 6, 142, 3, 0), (115, 2, 2, 5, 0, 0), (117, 1, 3, 3, 0, 0), (118, 3, 6, 142, 3, 0), (121, 1, 0, 3, 0, 0), (122, 2, 2, 4, 0, 0), (124, 2, 2, 5, 0, 0), (126, 1, 0, 0, 0, 0), (127, 3, 1, 2, 3, 18), (130, 2, 2, 5, 0, 0), (132, 1, 10, 0, 0, 0), (133, 3, 13, 290, 40, 207), (136, 3, 9, 5, 1, 0), (139, 3, 8, 105, 0, 0)]) rfl) ?_
      refine xg_t (xg_iload (va := (0, 3)) rfl rfl) ?_
      refine xg_t (xg_gets) ?_
      refine xg_t (xg_iload (va := (0, 0)) rfl rfl) ?_
      refine xg_t (xg_ald8L (n := 0) (u := 3) xnm0 rfl rfl) ?_
      refine xg_t (xg_icT (u := 3) (v := 3) rfl xnm0 xnm0 (by decide)) ?_
      refine xg_t (xg_blk (b := [(142, 1, 2, 1, 0, 0), (143, 3, 7, 165, 1, 0), (146, 1, 0, 3, 0, 0), (147, 2, 2, 4, 0, 0), (149, 1, 3, 3, 0, 0), (150, 1, 0, 0, 0, 0), (151, 3, 1, 2, 6, 153), (154, 3, 7, 161, 0, 0), (157, 1, 3, 1, 0, 0), (158, 3, 8, 162, 0, 0)]) rfl) ?_
      refine xg_t (xg_iload (va := (0, 0)) rfl rfl) ?_
      refine xg_t (xg_ifF (u := 0) rfl xnm0 (by decide)) ?_
      refine xg_t (xg_aload (va := (2, 31)) rfl rfl) ?_
      refine xg_t (xg_iload (va := (0, n104)) rfl rfl) ?_
      refine xg_t (xg_const) ?_
      refine xg_t (xg_aload (va := (2, 27)) rfl rfl) ?_
      refine xg_t (xg_getf (va := (0, f27_1)) (hb139.get (by decide) (hb130.get (by decide) (hb121.get (by decide) (hb109.get (by decide) h27_11)))) rfl) ?_
      by_cases hc140 : f27_1 = 0
      · refine xg_t (xg_ifT (u := f27_1) rfl xnm0 (xj_eqT hc140)) ?_
        refine xg_t (xg_blk (b := [(161, 1, 3, 0, 0, 0)]) rfl) ?_
        refine xg_t (xg_const) ?_
        refine xg_t (xg_blk (b := [(162, 3, 13, 290, 40, 207)]) rfl) ?_
        refine xg_cVv mX5_put (vs := [(0, n104), (0, 3), (0, 0)]) (rest := []) (cn1 := 0) (sl1 := 0) rfl (rputI (lim := 4) (wd := 2) (B := 4294967295) (hb139.get (by decide) (hb130.get (by decide) (hb121.get (by decide) hk108))) hr137 (hb138) (by decide) (by omega) (by decide) (by decide) (by omega) (by omega) (by omega)) rfl (hb139.get (by decide) (hb130.get (by decide) (hb121.get (by decide) hk108))) rfl rfl rfl rfl rfl rfl (fun w141 hq142 => ?_)
        obtain ⟨g143, hr144, hb145, hb146⟩ := hq142
        refine xg_t (xg_blk (b := [(165, 1, 2, 1, 0, 0), (166, 1, 3, 4, 0, 0), (167, 3, 6, 188, 1, 0), (170, 2, 2, 4, 0, 0), (172, 1, 0, 0, 0, 0), (173, 3, 1, 2, 5, 25), (176, 1, 31, 0, 0, 0), (177, 3, 6, 188, 3, 0), (180, 1, 0, 0, 0, 0), (181, 3, 1, 2, 5, 25), (184, 2, 2, 4, 0, 0), (186, 1, 2, 2, 0, 0), (187, 1, 17, 0, 0, 0)]) rfl) ?_
        refine xg_t (xg_iload (va := (0, 0)) rfl rfl) ?_
        refine xg_t (xg_const) ?_
        refine xg_t (xg_icT (u := 0) (v := 4) rfl xnm0 xnm0 (by decide)) ?_
        refine xg_t (xg_blk (b := [(188, 1, 12, 0, 0, 0)]) rfl) ?_
        exact xg_e ⟨w141, ⟨rfl, rfl⟩, xInv.up (S := [31, 32]) hI (((((xFr.of (S := [31, 32]) hb109 (by decide)).tr (xFr.of (S := [31, 32]) hb121 (by decide))).tr (xFr.of (S := [31, 32]) hb130 (by decide))).tr (xFr.of (S := [31, 32]) hb139 (by decide))).tr (xFr.of (S := [31, 32]) hb146 (by decide))) (List.forall_mem_cons.mpr ⟨(show cp31 (wget w141 31) from ⟨s106, (hb146.get (by decide) (hb139.get (by decide) (hb130.get (by decide) (hb121.get (by decide) hk108)))), by omega⟩), List.forall_mem_cons.mpr ⟨(show cpI 8 14 4294967295 (wget w141 32) from ⟨_, hr144, hb145⟩), fun _ h => absurd h List.not_mem_nil⟩⟩), (((((xFr.of (S := [29, 30, 31, 32, 33, 34, 35, 36, 37, 38, 41]) hb109 (by decide)).tr (xFr.of (S := [29, 30, 31, 32, 33, 34, 35, 36, 37, 38, 41]) hb121 (by decide))).tr (xFr.of (S := [29, 30, 31, 32, 33, 34, 35, 36, 37, 38, 41]) hb130 (by decide))).tr (xFr.of (S := [29, 30, 31, 32, 33, 34, 35, 36, 37, 38, 41]) hb139 (by decide))).tr (xFr.of (S := [29, 30, 31, 32, 33, 34, 35, 36, 37, 38, 41]) hb146 (by decide)))⟩
      · refine xg_t (xg_ifF (u := f27_1) rfl xnm0 (xj_eqF hc140)) ?_
        refine xg_t (xg_const) ?_
        refine xg_t (xg_goto) ?_
        refine xg_t (xg_blk (b := [(162, 3, 13, 290, 40, 207)]) rfl) ?_
        refine xg_cVv mX5_put (vs := [(0, n104), (0, 3), (0, 1)]) (rest := []) (cn1 := 0) (sl1 := 0) rfl (rputI (lim := 4) (wd := 2) (B := 4294967295) (hb139.get (by decide) (hb130.get (by decide) (hb121.get (by decide) hk108))) hr137 (hb138) (by decide) (by omega) (by decide) (by decide) (by omega) (by omega) (by omega)) rfl (hb139.get (by decide) (hb130.get (by decide) (hb121.get (by decide) hk108))) rfl rfl rfl rfl rfl rfl (fun w147 hq148 => ?_)
        obtain ⟨g149, hr150, hb151, hb152⟩ := hq148
        refine xg_t (xg_blk (b := [(165, 1, 2, 1, 0, 0), (166, 1, 3, 4, 0, 0), (167, 3, 6, 188, 1, 0), (170, 2, 2, 4, 0, 0), (172, 1, 0, 0, 0, 0), (173, 3, 1, 2, 5, 25), (176, 1, 31, 0, 0, 0), (177, 3, 6, 188, 3, 0), (180, 1, 0, 0, 0, 0), (181, 3, 1, 2, 5, 25), (184, 2, 2, 4, 0, 0), (186, 1, 2, 2, 0, 0), (187, 1, 17, 0, 0, 0)]) rfl) ?_
        refine xg_t (xg_iload (va := (0, 0)) rfl rfl) ?_
        refine xg_t (xg_const) ?_
        refine xg_t (xg_icT (u := 0) (v := 4) rfl xnm0 xnm0 (by decide)) ?_
        refine xg_t (xg_blk (b := [(188, 1, 12, 0, 0, 0)]) rfl) ?_
        exact xg_e ⟨w147, ⟨rfl, rfl⟩, xInv.up (S := [31, 32]) hI (((((xFr.of (S := [31, 32]) hb109 (by decide)).tr (xFr.of (S := [31, 32]) hb121 (by decide))).tr (xFr.of (S := [31, 32]) hb130 (by decide))).tr (xFr.of (S := [31, 32]) hb139 (by decide))).tr (xFr.of (S := [31, 32]) hb152 (by decide))) (List.forall_mem_cons.mpr ⟨(show cp31 (wget w147 31) from ⟨s106, (hb152.get (by decide) (hb139.get (by decide) (hb130.get (by decide) (hb121.get (by decide) hk108)))), by omega⟩), List.forall_mem_cons.mpr ⟨(show cpI 8 14 4294967295 (wget w147 32) from ⟨_, hr150, hb151⟩), fun _ h => absurd h List.not_mem_nil⟩⟩), (((((xFr.of (S := [29, 30, 31, 32, 33, 34, 35, 36, 37, 38, 41]) hb109 (by decide)).tr (xFr.of (S := [29, 30, 31, 32, 33, 34, 35, 36, 37, 38, 41]) hb121 (by decide))).tr (xFr.of (S := [29, 30, 31, 32, 33, 34, 35, 36, 37, 38, 41]) hb130 (by decide))).tr (xFr.of (S := [29, 30, 31, 32, 33, 34, 35, 36, 37, 38, 41]) hb139 (by decide))).tr (xFr.of (S := [29, 30, 31, 32, 33, 34, 35, 36, 37, 38, 41]) hb152 (by decide)))⟩
  · obtain ⟨f28_153, f28_155, f28_157, f28_159, f28_161, h28_163, hb154, hb156, hb158, hb160, hb162⟩ := (hI 28 (by decide) : cp28 (wget w 28))
    refine xg_t (xg_cVr mX1_rowsOf (vs := [(0, 0)]) (rest := []) (rs := [(2, 33)]) (cn1 := 0) (sl1 := 0) rfl (hp20) rfl h28_163 rfl rfl rfl rfl rfl rfl rfl) ?_
    refine xg_t (xg_astore (l1 := [(0, (2, 27)), (1, (0, 0)), (2, (0, pc_))]) rfl rfl rfl) ?_
    refine xg_t (xg_aload (va := (2, 33)) rfl rfl) ?_
    refine xg_t (xg_ifnullF) ?_
    refine xg_t (xg_aload (va := (2, 33)) rfl rfl) ?_
    obtain ⟨f33_164, h33_166, hb165⟩ := (hI 33 (by decide) : cp33 (wget w 33))
    refine xg_t (xg_cVr mX5_isFull (vs := []) (rest := []) (rs := [(0, if 6 ≤ f33_164 then 1 else 0)]) (cn1 := 0) (sl1 := 0) rfl (rfull_ok h33_166 (by decide) (by omega)) rfl h33_166 rfl rfl rfl rfl rfl rfl rfl) ?_
    by_cases hc167 : 6 ≤ f33_164
    · refine xg_t (xg_ifF (u := (if 6 ≤ f33_164 then 1 else 0)) rfl xnm0 (xj_eqF (xite1 hc167))) ?_
      refine xg_t (xg_blk (b := [(95, 1, 12, 0, 0, 0)]) rfl) ?_
      exact xg_e ⟨w, ⟨rfl, rfl⟩, hI, xFr.rf⟩
    · refine xg_t (xg_ifT (u := (if 6 ≤ f33_164 then 1 else 0)) rfl xnm0 (xj_eqT (xite0 hc167))) ?_
      refine xg_t (xg_blk (b := [(96, 1, 0, 3, 0, 0), (97, 3, 13, 286, 40, 204), (100, 2, 15, 4, 0, 0), (102, 1, 3, 0, 0, 0), (103, 2, 15, 5, 0, 0)]) rfl) ?_
      refine xg_t (xg_aload (va := (2, 33)) rfl rfl) ?_
      refine xg_cVi mX5_grow (vs := []) (rest := []) (cn1 := 0) (sl1 := 0) rfl (rgrowI h33_166 (by decide) (by omega)) rfl h33_166 rfl rfl rfl rfl rfl rfl (fun n170 w168 hq169 => ?_)
      obtain ⟨hn171, s172, hs173, hk174, hb175⟩ := hq169
      refine xg_t (xg_istore (l1 := [(3, (2, 33)), (0, (2, 27)), (1, (0, 0)), (2, (0, pc_))]) rfl rfl rfl) ?_
      refine xg_t (xg_const) ?_
      refine xg_t (xg_istore (l1 := [(4, (0, n170)), (3, (2, 33)), (0, (2, 27)), (1, (0, 0)), (2, (0, pc_))]) rfl rfl rfl) ?_
      refine xg_t (xg_blk (b := [(105, 2, 2, 5, 0, 0), (107, 3, 37, 1, 0, 115), (110, 1, 2, 1, 0, 0), (111, 1, 10, 0, 0, 0), (112, 3, 6, 142, 3, 0), (115, 2, 2, 5, 0, 0), (117, 1, 3, 3, 0, 0), (118, 3, 6, 142, 3, 0), (121, 1, 0, 3, 0, 0), (122, 2, 2, 4, 0, 0), (124, 2, 2, 5, 0, 0), (126, 1, 0, 0, 0, 0), (127, 3, 1, 2, 3, 18), (130, 2, 2, 5, 0, 0), (132, 1, 10, 0, 0, 0), (133, 3, 13, 290, 40, 207), (136, 3, 9, 5, 1, 0), (139, 3, 8, 105, 0, 0)]) rfl) ?_
      refine xg_t (xg_iload (va := (0, 0)) rfl rfl) ?_
      refine xg_t (xg_gets) ?_
      refine xg_t (xg_iload (va := (0, 0)) rfl rfl) ?_
      refine xg_t (xg_ald8L (n := 0) (u := 3) xnm0 rfl rfl) ?_
      refine xg_t (xg_icF (u := 0) (v := 3) rfl xnm0 xnm0 (by decide)) ?_
      refine xg_t (xg_iload (va := (0, 0)) rfl rfl) ?_
      refine xg_t (xg_const) ?_
      refine xg_t (xg_icF (u := 0) (v := 3) rfl xnm0 xnm0 (by decide)) ?_
      refine xg_t (xg_aload (va := (2, 33)) rfl rfl) ?_
      refine xg_t (xg_iload (va := (0, n170)) rfl rfl) ?_
      refine xg_t (xg_iload (va := (0, 0)) rfl rfl) ?_
      refine xg_t (xg_aload (va := (2, 27)) rfl rfl) ?_
      refine xg_t (xg_getf (va := (2, 39)) (hb175.get (by decide) h27_11) rfl) ?_
      refine xg_t (xg_iload (va := (0, 0)) rfl rfl) ?_
      refine xg_ialdB (n := 0) (B := 4294967295) (h39_13.but hb175 (by decide)) (hb14) xnm0 (by omega) (fun u176 hu177 he178 => ?_)
      obtain ⟨g34_179, h34_180, hb181⟩ := (hI 34 (by decide) : cpI 12 15 4294967295 (wget w 34))
      have h34_180 : xRow w 34 12 15 g34_179 := h34_180
      refine xg_cVv mX5_put (vs := [(0, n170), (0, 0), (0, u176)]) (rest := []) (cn1 := 0) (sl1 := 0) rfl (rputI (lim := 6) (wd := 2) (B := 4294967295) hk174 (h34_180.but hb175 (by decide)) (hb181) (by decide) (by omega) (by decide) (by decide) (by omega) (by omega) (by omega)) rfl hk174 rfl rfl rfl rfl rfl rfl (fun w182 hq183 => ?_)
      obtain ⟨g184, hr185, hb186, hb187⟩ := hq183
      refine xg_t (xg_iinc (u := 0) (z := 1) (l1 := [(4, (0, n170)), (3, (2, 33)), (0, (2, 27)), (1, (0, 0)), (2, (0, pc_))]) rfl rfl (by decide) rfl) ?_
      refine xg_t (xg_goto) ?_
      refine xg_t (xg_blk (b := [(105, 2, 2, 5, 0, 0), (107, 3, 37, 1, 0, 115), (110, 1, 2, 1, 0, 0), (111, 1, 10, 0, 0, 0), (112, 3, 6, 142, 3, 0), (115, 2, 2, 5, 0, 0), (117, 1, 3, 3, 0, 0), (118, 3, 6, 142, 3, 0), (121, 1, 0, 3, 0, 0), (122, 2, 2, 4, 0, 0), (124, 2, 2, 5, 0, 0), (126, 1, 0, 0, 0, 0), (127, 3, 1, 2, 3, 18), (130, 2, 2, 5, 0, 0), (132, 1, 10, 0, 0, 0), (133, 3, 13, 290, 40, 207), (136, 3, 9, 5, 1, 0), (139, 3, 8, 105, 0, 0)]) rfl) ?_
      refine xg_t (xg_iload (va := (0, 1)) rfl rfl) ?_
      refine xg_t (xg_gets) ?_
      refine xg_t (xg_iload (va := (0, 0)) rfl rfl) ?_
      refine xg_t (xg_ald8L (n := 0) (u := 3) xnm0 rfl rfl) ?_
      refine xg_t (xg_icF (u := 1) (v := 3) rfl xnm0 xnm0 (by decide)) ?_
      refine xg_t (xg_iload (va := (0, 1)) rfl rfl) ?_
      refine xg_t (xg_const) ?_
      refine xg_t (xg_icF (u := 1) (v := 3) rfl xnm0 xnm0 (by decide)) ?_
      refine xg_t (xg_aload (va := (2, 33)) rfl rfl) ?_
      refine xg_t (xg_iload (va := (0, n170)) rfl rfl) ?_
      refine xg_t (xg_iload (va := (0, 1)) rfl rfl) ?_
      refine xg_t (xg_aload (va := (2, 27)) rfl rfl) ?_
      refine xg_t (xg_getf (va := (2, 39)) (hb187.get (by decide) (hb175.get (by decide) h27_11)) rfl) ?_
      refine xg_t (xg_iload (va := (0, 1)) rfl rfl) ?_
      refine xg_ialdB (n := 1) (B := 4294967295) ((h39_13.but hb175 (by decide)).but hb187 (by decide)) (hb14) xnm0 (by omega) (fun u188 hu189 he190 => ?_)
      refine xg_cVv mX5_put (vs := [(0, n170), (0, 1), (0, u188)]) (rest := []) (cn1 := 0) (sl1 := 0) rfl (rputI (lim := 6) (wd := 2) (B := 4294967295) (hb187.get (by decide) hk174) hr185 (hb186) (by decide) (by omega) (by decide) (by decide) (by omega) (by omega) (by omega)) rfl (hb187.get (by decide) hk174) rfl rfl rfl rfl rfl rfl (fun w191 hq192 => ?_)
      obtain ⟨g193, hr194, hb195, hb196⟩ := hq192
      refine xg_t (xg_iinc (u := 1) (z := 2) (l1 := [(4, (0, n170)), (3, (2, 33)), (0, (2, 27)), (1, (0, 0)), (2, (0, pc_))]) rfl rfl (by decide) rfl) ?_
      refine xg_t (xg_goto) ?_
      refine xg_t (xg_blk (b := [(105, 2, 2, 5, 0, 0), (107, 3, 37, 1, 0, 115), (110, 1, 2, 1, 0, 0), (111, 1, 10, 0, 0, 0), (112, 3, 6, 142, 3, 0), (115, 2, 2, 5, 0, 0), (117, 1, 3, 3, 0, 0), (118, 3, 6, 142, 3, 0), (121, 1, 0, 3, 0, 0), (122, 2, 2, 4, 0, 0), (124, 2, 2, 5, 0, 0), (126, 1, 0, 0, 0, 0), (127, 3, 1, 2, 3, 18), (130, 2, 2, 5, 0, 0), (132, 1, 10, 0, 0, 0), (133, 3, 13, 290, 40, 207), (136, 3, 9, 5, 1, 0), (139, 3, 8, 105, 0, 0)]) rfl) ?_
      refine xg_t (xg_iload (va := (0, 2)) rfl rfl) ?_
      refine xg_t (xg_gets) ?_
      refine xg_t (xg_iload (va := (0, 0)) rfl rfl) ?_
      refine xg_t (xg_ald8L (n := 0) (u := 3) xnm0 rfl rfl) ?_
      refine xg_t (xg_icF (u := 2) (v := 3) rfl xnm0 xnm0 (by decide)) ?_
      refine xg_t (xg_iload (va := (0, 2)) rfl rfl) ?_
      refine xg_t (xg_const) ?_
      refine xg_t (xg_icF (u := 2) (v := 3) rfl xnm0 xnm0 (by decide)) ?_
      refine xg_t (xg_aload (va := (2, 33)) rfl rfl) ?_
      refine xg_t (xg_iload (va := (0, n170)) rfl rfl) ?_
      refine xg_t (xg_iload (va := (0, 2)) rfl rfl) ?_
      refine xg_t (xg_aload (va := (2, 27)) rfl rfl) ?_
      refine xg_t (xg_getf (va := (2, 39)) (hb196.get (by decide) (hb187.get (by decide) (hb175.get (by decide) h27_11))) rfl) ?_
      refine xg_t (xg_iload (va := (0, 2)) rfl rfl) ?_
      refine xg_ialdB (n := 2) (B := 4294967295) (((h39_13.but hb175 (by decide)).but hb187 (by decide)).but hb196 (by decide)) (hb14) xnm0 (by omega) (fun u197 hu198 he199 => ?_)
      refine xg_cVv mX5_put (vs := [(0, n170), (0, 2), (0, u197)]) (rest := []) (cn1 := 0) (sl1 := 0) rfl (rputI (lim := 6) (wd := 2) (B := 4294967295) (hb196.get (by decide) (hb187.get (by decide) hk174)) hr194 (hb195) (by decide) (by omega) (by decide) (by decide) (by omega) (by omega) (by omega)) rfl (hb196.get (by decide) (hb187.get (by decide) hk174)) rfl rfl rfl rfl rfl rfl (fun w200 hq201 => ?_)
      obtain ⟨g202, hr203, hb204, hb205⟩ := hq201
      refine xg_t (xg_iinc (u := 2) (z := 3) (l1 := [(4, (0, n170)), (3, (2, 33)), (0, (2, 27)), (1, (0, 0)), (2, (0, pc_))]) rfl rfl (by decide) rfl) ?_
      refine xg_t (xg_goto) ?_
      refine xg_t (xg_blk (b := [(105, 2, 2, 5, 0, 0), (107, 3, 37, 1, 0, 115), (110, 1, 2, 1, 0, 0), (111, 1, 10, 0, 0, 0), (112, 3, 6, 142, 3, 0), (115, 2, 2, 5, 0, 0), (117, 1, 3, 3, 0, 0), (118, 3, 6, 142, 3, 0), (121, 1, 0, 3, 0, 0), (122, 2, 2, 4, 0, 0), (124, 2, 2, 5, 0, 0), (126, 1, 0, 0, 0, 0), (127, 3, 1, 2, 3, 18), (130, 2, 2, 5, 0, 0), (132, 1, 10, 0, 0, 0), (133, 3, 13, 290, 40, 207), (136, 3, 9, 5, 1, 0), (139, 3, 8, 105, 0, 0)]) rfl) ?_
      refine xg_t (xg_iload (va := (0, 3)) rfl rfl) ?_
      refine xg_t (xg_gets) ?_
      refine xg_t (xg_iload (va := (0, 0)) rfl rfl) ?_
      refine xg_t (xg_ald8L (n := 0) (u := 3) xnm0 rfl rfl) ?_
      refine xg_t (xg_icT (u := 3) (v := 3) rfl xnm0 xnm0 (by decide)) ?_
      refine xg_t (xg_blk (b := [(142, 1, 2, 1, 0, 0), (143, 3, 7, 165, 1, 0), (146, 1, 0, 3, 0, 0), (147, 2, 2, 4, 0, 0), (149, 1, 3, 3, 0, 0), (150, 1, 0, 0, 0, 0), (151, 3, 1, 2, 6, 153), (154, 3, 7, 161, 0, 0), (157, 1, 3, 1, 0, 0), (158, 3, 8, 162, 0, 0)]) rfl) ?_
      refine xg_t (xg_iload (va := (0, 0)) rfl rfl) ?_
      refine xg_t (xg_ifF (u := 0) rfl xnm0 (by decide)) ?_
      refine xg_t (xg_aload (va := (2, 33)) rfl rfl) ?_
      refine xg_t (xg_iload (va := (0, n170)) rfl rfl) ?_
      refine xg_t (xg_const) ?_
      refine xg_t (xg_aload (va := (2, 27)) rfl rfl) ?_
      refine xg_t (xg_getf (va := (0, f27_1)) (hb205.get (by decide) (hb196.get (by decide) (hb187.get (by decide) (hb175.get (by decide) h27_11)))) rfl) ?_
      by_cases hc206 : f27_1 = 0
      · refine xg_t (xg_ifT (u := f27_1) rfl xnm0 (xj_eqT hc206)) ?_
        refine xg_t (xg_blk (b := [(161, 1, 3, 0, 0, 0)]) rfl) ?_
        refine xg_t (xg_const) ?_
        refine xg_t (xg_blk (b := [(162, 3, 13, 290, 40, 207)]) rfl) ?_
        refine xg_cVv mX5_put (vs := [(0, n170), (0, 3), (0, 0)]) (rest := []) (cn1 := 0) (sl1 := 0) rfl (rputI (lim := 6) (wd := 2) (B := 4294967295) (hb205.get (by decide) (hb196.get (by decide) (hb187.get (by decide) hk174))) hr203 (hb204) (by decide) (by omega) (by decide) (by decide) (by omega) (by omega) (by omega)) rfl (hb205.get (by decide) (hb196.get (by decide) (hb187.get (by decide) hk174))) rfl rfl rfl rfl rfl rfl (fun w207 hq208 => ?_)
        obtain ⟨g209, hr210, hb211, hb212⟩ := hq208
        refine xg_t (xg_blk (b := [(165, 1, 2, 1, 0, 0), (166, 1, 3, 4, 0, 0), (167, 3, 6, 188, 1, 0), (170, 2, 2, 4, 0, 0), (172, 1, 0, 0, 0, 0), (173, 3, 1, 2, 5, 25), (176, 1, 31, 0, 0, 0), (177, 3, 6, 188, 3, 0), (180, 1, 0, 0, 0, 0), (181, 3, 1, 2, 5, 25), (184, 2, 2, 4, 0, 0), (186, 1, 2, 2, 0, 0), (187, 1, 17, 0, 0, 0)]) rfl) ?_
        refine xg_t (xg_iload (va := (0, 0)) rfl rfl) ?_
        refine xg_t (xg_const) ?_
        refine xg_t (xg_icT (u := 0) (v := 4) rfl xnm0 xnm0 (by decide)) ?_
        refine xg_t (xg_blk (b := [(188, 1, 12, 0, 0, 0)]) rfl) ?_
        exact xg_e ⟨w207, ⟨rfl, rfl⟩, xInv.up (S := [33, 34]) hI (((((xFr.of (S := [33, 34]) hb175 (by decide)).tr (xFr.of (S := [33, 34]) hb187 (by decide))).tr (xFr.of (S := [33, 34]) hb196 (by decide))).tr (xFr.of (S := [33, 34]) hb205 (by decide))).tr (xFr.of (S := [33, 34]) hb212 (by decide))) (List.forall_mem_cons.mpr ⟨(show cp33 (wget w207 33) from ⟨s172, (hb212.get (by decide) (hb205.get (by decide) (hb196.get (by decide) (hb187.get (by decide) hk174)))), by omega⟩), List.forall_mem_cons.mpr ⟨(show cpI 12 15 4294967295 (wget w207 34) from ⟨_, hr210, hb211⟩), fun _ h => absurd h List.not_mem_nil⟩⟩), (((((xFr.of (S := [29, 30, 31, 32, 33, 34, 35, 36, 37, 38, 41]) hb175 (by decide)).tr (xFr.of (S := [29, 30, 31, 32, 33, 34, 35, 36, 37, 38, 41]) hb187 (by decide))).tr (xFr.of (S := [29, 30, 31, 32, 33, 34, 35, 36, 37, 38, 41]) hb196 (by decide))).tr (xFr.of (S := [29, 30, 31, 32, 33, 34, 35, 36, 37, 38, 41]) hb205 (by decide))).tr (xFr.of (S := [29, 30, 31, 32, 33, 34, 35, 36, 37, 38, 41]) hb212 (by decide)))⟩
      · refine xg_t (xg_ifF (u := f27_1) rfl xnm0 (xj_eqF hc206)) ?_
        refine xg_t (xg_const) ?_
        refine xg_t (xg_goto) ?_
        refine xg_t (xg_blk (b := [(162, 3, 13, 290, 40, 207)]) rfl) ?_
        refine xg_cVv mX5_put (vs := [(0, n170), (0, 3), (0, 1)]) (rest := []) (cn1 := 0) (sl1 := 0) rfl (rputI (lim := 6) (wd := 2) (B := 4294967295) (hb205.get (by decide) (hb196.get (by decide) (hb187.get (by decide) hk174))) hr203 (hb204) (by decide) (by omega) (by decide) (by decide) (by omega) (by omega) (by omega)) rfl (hb205.get (by decide) (hb196.get (by decide) (hb187.get (by decide) hk174))) rfl rfl rfl rfl rfl rfl (fun w213 hq214 => ?_)
        obtain ⟨g215, hr216, hb217, hb218⟩ := hq214
        refine xg_t (xg_blk (b := [(165, 1, 2, 1, 0, 0), (166, 1, 3, 4, 0, 0), (167, 3, 6, 188, 1, 0), (170, 2, 2, 4, 0, 0), (172, 1, 0, 0, 0, 0), (173, 3, 1, 2, 5, 25), (176, 1, 31, 0, 0, 0), (177, 3, 6, 188, 3, 0), (180, 1, 0, 0, 0, 0), (181, 3, 1, 2, 5, 25), (184, 2, 2, 4, 0, 0), (186, 1, 2, 2, 0, 0), (187, 1, 17, 0, 0, 0)]) rfl) ?_
        refine xg_t (xg_iload (va := (0, 0)) rfl rfl) ?_
        refine xg_t (xg_const) ?_
        refine xg_t (xg_icT (u := 0) (v := 4) rfl xnm0 xnm0 (by decide)) ?_
        refine xg_t (xg_blk (b := [(188, 1, 12, 0, 0, 0)]) rfl) ?_
        exact xg_e ⟨w213, ⟨rfl, rfl⟩, xInv.up (S := [33, 34]) hI (((((xFr.of (S := [33, 34]) hb175 (by decide)).tr (xFr.of (S := [33, 34]) hb187 (by decide))).tr (xFr.of (S := [33, 34]) hb196 (by decide))).tr (xFr.of (S := [33, 34]) hb205 (by decide))).tr (xFr.of (S := [33, 34]) hb218 (by decide))) (List.forall_mem_cons.mpr ⟨(show cp33 (wget w213 33) from ⟨s172, (hb218.get (by decide) (hb205.get (by decide) (hb196.get (by decide) (hb187.get (by decide) hk174)))), by omega⟩), List.forall_mem_cons.mpr ⟨(show cpI 12 15 4294967295 (wget w213 34) from ⟨_, hr216, hb217⟩), fun _ h => absurd h List.not_mem_nil⟩⟩), (((((xFr.of (S := [29, 30, 31, 32, 33, 34, 35, 36, 37, 38, 41]) hb175 (by decide)).tr (xFr.of (S := [29, 30, 31, 32, 33, 34, 35, 36, 37, 38, 41]) hb187 (by decide))).tr (xFr.of (S := [29, 30, 31, 32, 33, 34, 35, 36, 37, 38, 41]) hb196 (by decide))).tr (xFr.of (S := [29, 30, 31, 32, 33, 34, 35, 36, 37, 38, 41]) hb205 (by decide))).tr (xFr.of (S := [29, 30, 31, 32, 33, 34, 35, 36, 37, 38, 41]) hb218 (by decide)))⟩
  · obtain ⟨f28_219, f28_221, f28_223, f28_225, f28_227, h28_229, hb220, hb222, hb224, hb226, hb228⟩ := (hI 28 (by decide) : cp28 (wget w 28))
    refine xg_t (xg_cVr mX1_rowsOf (vs := [(0, 0)]) (rest := []) (rs := [(2, 35)]) (cn1 := 0) (sl1 := 0) rfl (hp20) rfl h28_229 rfl rfl rfl rfl rfl rfl rfl) ?_
    refine xg_t (xg_astore (l1 := [(0, (2, 27)), (1, (0, 0)), (2, (0, pc_))]) rfl rfl rfl) ?_
    refine xg_t (xg_aload (va := (2, 35)) rfl rfl) ?_
    refine xg_t (xg_ifnullF) ?_
    refine xg_t (xg_aload (va := (2, 35)) rfl rfl) ?_
    obtain ⟨f35_230, h35_232, hb231⟩ := (hI 35 (by decide) : cp35 (wget w 35))
    refine xg_t (xg_cVr mX5_isFull (vs := []) (rest := []) (rs := [(0, if 4 ≤ f35_230 then 1 else 0)]) (cn1 := 0) (sl1 := 0) rfl (rfull_ok h35_232 (by decide) (by omega)) rfl h35_232 rfl rfl rfl rfl rfl rfl rfl) ?_
    by_cases hc233 : 4 ≤ f35_230
    · refine xg_t (xg_ifF (u := (if 4 ≤ f35_230 then 1 else 0)) rfl xnm0 (xj_eqF (xite1 hc233))) ?_
      refine xg_t (xg_blk (b := [(95, 1, 12, 0, 0, 0)]) rfl) ?_
      exact xg_e ⟨w, ⟨rfl, rfl⟩, hI, xFr.rf⟩
    · refine xg_t (xg_ifT (u := (if 4 ≤ f35_230 then 1 else 0)) rfl xnm0 (xj_eqT (xite0 hc233))) ?_
      refine xg_t (xg_blk (b := [(96, 1, 0, 3, 0, 0), (97, 3, 13, 286, 40, 204), (100, 2, 15, 4, 0, 0), (102, 1, 3, 0, 0, 0), (103, 2, 15, 5, 0, 0)]) rfl) ?_
      refine xg_t (xg_aload (va := (2, 35)) rfl rfl) ?_
      refine xg_cVi mX5_grow (vs := []) (rest := []) (cn1 := 0) (sl1 := 0) rfl (rgrowI h35_232 (by decide) (by omega)) rfl h35_232 rfl rfl rfl rfl rfl rfl (fun n236 w234 hq235 => ?_)
      obtain ⟨hn237, s238, hs239, hk240, hb241⟩ := hq235
      refine xg_t (xg_istore (l1 := [(3, (2, 35)), (0, (2, 27)), (1, (0, 0)), (2, (0, pc_))]) rfl rfl rfl) ?_
      refine xg_t (xg_const) ?_
      refine xg_t (xg_istore (l1 := [(4, (0, n236)), (3, (2, 35)), (0, (2, 27)), (1, (0, 0)), (2, (0, pc_))]) rfl rfl rfl) ?_
      refine xg_t (xg_blk (b := [(105, 2, 2, 5, 0, 0), (107, 3, 37, 1, 0, 115), (110, 1, 2, 1, 0, 0), (111, 1, 10, 0, 0, 0), (112, 3, 6, 142, 3, 0), (115, 2, 2, 5, 0, 0), (117, 1, 3, 3, 0, 0), (118, 3, 6, 142, 3, 0), (121, 1, 0, 3, 0, 0), (122, 2, 2, 4, 0, 0), (124, 2, 2, 5, 0, 0), (126, 1, 0, 0, 0, 0), (127, 3, 1, 2, 3, 18), (130, 2, 2, 5, 0, 0), (132, 1, 10, 0, 0, 0), (133, 3, 13, 290, 40, 207), (136, 3, 9, 5, 1, 0), (139, 3, 8, 105, 0, 0)]) rfl) ?_
      refine xg_t (xg_iload (va := (0, 0)) rfl rfl) ?_
      refine xg_t (xg_gets) ?_
      refine xg_t (xg_iload (va := (0, 0)) rfl rfl) ?_
      refine xg_t (xg_ald8L (n := 0) (u := 3) xnm0 rfl rfl) ?_
      refine xg_t (xg_icF (u := 0) (v := 3) rfl xnm0 xnm0 (by decide)) ?_
      refine xg_t (xg_iload (va := (0, 0)) rfl rfl) ?_
      refine xg_t (xg_const) ?_
      refine xg_t (xg_icF (u := 0) (v := 3) rfl xnm0 xnm0 (by decide)) ?_
      refine xg_t (xg_aload (va := (2, 35)) rfl rfl) ?_
      refine xg_t (xg_iload (va := (0, n236)) rfl rfl) ?_
      refine xg_t (xg_iload (va := (0, 0)) rfl rfl) ?_
      refine xg_t (xg_aload (va := (2, 27)) rfl rfl) ?_
      refine xg_t (xg_getf (va := (2, 39)) (hb241.get (by decide) h27_11) rfl) ?_
      refine xg_t (xg_iload (va := (0, 0)) rfl rfl) ?_
      refine xg_ialdB (n := 0) (B := 4294967295) (h39_13.but hb241 (by decide)) (hb14) xnm0 (by omega) (fun u242 hu243 he244 => ?_)
      obtain ⟨g36_245, h36_246, hb247⟩ := (hI 36 (by decide) : cpI 12 16 4294967295 (wget w 36))
      have h36_246 : xRow w 36 12 16 g36_245 := h36_246
      refine xg_cVv mX5_put (vs := [(0, n236), (0, 0), (0, u242)]) (rest := []) (cn1 := 0) (sl1 := 0) rfl (rputI (lim := 4) (wd := 3) (B := 4294967295) hk240 (h36_246.but hb241 (by decide)) (hb247) (by decide) (by omega) (by decide) (by decide) (by omega) (by omega) (by omega)) rfl hk240 rfl rfl rfl rfl rfl rfl (fun w248 hq249 => ?_)
      obtain ⟨g250, hr251, hb252, hb253⟩ := hq249
      refine xg_t (xg_iinc (u := 0) (z := 1) (l1 := [(4, (0, n236)), (3, (2, 35)), (0, (2, 27)), (1, (0, 0)), (2, (0, pc_))]) rfl rfl (by decide) rfl) ?_
      refine xg_t (xg_goto) ?_
      refine xg_t (xg_blk (b := [(105, 2, 2, 5, 0, 0), (107, 3, 37, 1, 0, 115), (110, 1, 2, 1, 0, 0), (111, 1, 10, 0, 0, 0), (112, 3, 6, 142, 3, 0), (115, 2, 2, 5, 0, 0), (117, 1, 3, 3, 0, 0), (118, 3, 6, 142, 3, 0), (121, 1, 0, 3, 0, 0), (122, 2, 2, 4, 0, 0), (124, 2, 2, 5, 0, 0), (126, 1, 0, 0, 0, 0), (127, 3, 1, 2, 3, 18), (130, 2, 2, 5, 0, 0), (132, 1, 10, 0, 0, 0), (133, 3, 13, 290, 40, 207), (136, 3, 9, 5, 1, 0), (139, 3, 8, 105, 0, 0)]) rfl) ?_
      refine xg_t (xg_iload (va := (0, 1)) rfl rfl) ?_
      refine xg_t (xg_gets) ?_
      refine xg_t (xg_iload (va := (0, 0)) rfl rfl) ?_
      refine xg_t (xg_ald8L (n := 0) (u := 3) xnm0 rfl rfl) ?_
      refine xg_t (xg_icF (u := 1) (v := 3) rfl xnm0 xnm0 (by decide)) ?_
      refine xg_t (xg_iload (va := (0, 1)) rfl rfl) ?_
      refine xg_t (xg_const) ?_
      refine xg_t (xg_icF (u := 1) (v := 3) rfl xnm0 xnm0 (by decide)) ?_
      refine xg_t (xg_aload (va := (2, 35)) rfl rfl) ?_
      refine xg_t (xg_iload (va := (0, n236)) rfl rfl) ?_
      refine xg_t (xg_iload (va := (0, 1)) rfl rfl) ?_
      refine xg_t (xg_aload (va := (2, 27)) rfl rfl) ?_
      refine xg_t (xg_getf (va := (2, 39)) (hb253.get (by decide) (hb241.get (by decide) h27_11)) rfl) ?_
      refine xg_t (xg_iload (va := (0, 1)) rfl rfl) ?_
      refine xg_ialdB (n := 1) (B := 4294967295) ((h39_13.but hb241 (by decide)).but hb253 (by decide)) (hb14) xnm0 (by omega) (fun u254 hu255 he256 => ?_)
      refine xg_cVv mX5_put (vs := [(0, n236), (0, 1), (0, u254)]) (rest := []) (cn1 := 0) (sl1 := 0) rfl (rputI (lim := 4) (wd := 3) (B := 4294967295) (hb253.get (by decide) hk240) hr251 (hb252) (by decide) (by omega) (by decide) (by decide) (by omega) (by omega) (by omega)) rfl (hb253.get (by decide) hk240) rfl rfl rfl rfl rfl rfl (fun w257 hq258 => ?_)
      obtain ⟨g259, hr260, hb261, hb262⟩ := hq258
      refine xg_t (xg_iinc (u := 1) (z := 2) (l1 := [(4, (0, n236)), (3, (2, 35)), (0, (2, 27)), (1, (0, 0)), (2, (0, pc_))]) rfl rfl (by decide) rfl) ?_
      refine xg_t (xg_goto) ?_
      refine xg_t (xg_blk (b := [(105, 2, 2, 5, 0, 0), (107, 3, 37, 1, 0, 115), (110, 1, 2, 1, 0, 0), (111, 1, 10, 0, 0, 0), (112, 3, 6, 142, 3, 0), (115, 2, 2, 5, 0, 0), (117, 1, 3, 3, 0, 0), (118, 3, 6, 142, 3, 0), (121, 1, 0, 3, 0, 0), (122, 2, 2, 4, 0, 0), (124, 2, 2, 5, 0, 0), (126, 1, 0, 0, 0, 0), (127, 3, 1, 2, 3, 18), (130, 2, 2, 5, 0, 0), (132, 1, 10, 0, 0, 0), (133, 3, 13, 290, 40, 207), (136, 3, 9, 5, 1, 0), (139, 3, 8, 105, 0, 0)]) rfl) ?_
      refine xg_t (xg_iload (va := (0, 2)) rfl rfl) ?_
      refine xg_t (xg_gets) ?_
      refine xg_t (xg_iload (va := (0, 0)) rfl rfl) ?_
      refine xg_t (xg_ald8L (n := 0) (u := 3) xnm0 rfl rfl) ?_
      refine xg_t (xg_icF (u := 2) (v := 3) rfl xnm0 xnm0 (by decide)) ?_
      refine xg_t (xg_iload (va := (0, 2)) rfl rfl) ?_
      refine xg_t (xg_const) ?_
      refine xg_t (xg_icF (u := 2) (v := 3) rfl xnm0 xnm0 (by decide)) ?_
      refine xg_t (xg_aload (va := (2, 35)) rfl rfl) ?_
      refine xg_t (xg_iload (va := (0, n236)) rfl rfl) ?_
      refine xg_t (xg_iload (va := (0, 2)) rfl rfl) ?_
      refine xg_t (xg_aload (va := (2, 27)) rfl rfl) ?_
      refine xg_t (xg_getf (va := (2, 39)) (hb262.get (by decide) (hb253.get (by decide) (hb241.get (by decide) h27_11))) rfl) ?_
      refine xg_t (xg_iload (va := (0, 2)) rfl rfl) ?_
      refine xg_ialdB (n := 2) (B := 4294967295) (((h39_13.but hb241 (by decide)).but hb253 (by decide)).but hb262 (by decide)) (hb14) xnm0 (by omega) (fun u263 hu264 he265 => ?_)
      refine xg_cVv mX5_put (vs := [(0, n236), (0, 2), (0, u263)]) (rest := []) (cn1 := 0) (sl1 := 0) rfl (rputI (lim := 4) (wd := 3) (B := 4294967295) (hb262.get (by decide) (hb253.get (by decide) hk240)) hr260 (hb261) (by decide) (by omega) (by decide) (by decide) (by omega) (by omega) (by omega)) rfl (hb262.get (by decide) (hb253.get (by decide) hk240)) rfl rfl rfl rfl rfl rfl (fun w266 hq267 => ?_)
      obtain ⟨g268, hr269, hb270, hb271⟩ := hq267
      refine xg_t (xg_iinc (u := 2) (z := 3) (l1 := [(4, (0, n236)), (3, (2, 35)), (0, (2, 27)), (1, (0, 0)), (2, (0, pc_))]) rfl rfl (by decide) rfl) ?_
      refine xg_t (xg_goto) ?_
      refine xg_t (xg_blk (b := [(105, 2, 2, 5, 0, 0), (107, 3, 37, 1, 0, 115), (110, 1, 2, 1, 0, 0), (111, 1, 10, 0, 0, 0), (112, 3, 6, 142, 3, 0), (115, 2, 2, 5, 0, 0), (117, 1, 3, 3, 0, 0), (118, 3, 6, 142, 3, 0), (121, 1, 0, 3, 0, 0), (122, 2, 2, 4, 0, 0), (124, 2, 2, 5, 0, 0), (126, 1, 0, 0, 0, 0), (127, 3, 1, 2, 3, 18), (130, 2, 2, 5, 0, 0), (132, 1, 10, 0, 0, 0), (133, 3, 13, 290, 40, 207), (136, 3, 9, 5, 1, 0), (139, 3, 8, 105, 0, 0)]) rfl) ?_
      refine xg_t (xg_iload (va := (0, 3)) rfl rfl) ?_
      refine xg_t (xg_gets) ?_
      refine xg_t (xg_iload (va := (0, 0)) rfl rfl) ?_
      refine xg_t (xg_ald8L (n := 0) (u := 3) xnm0 rfl rfl) ?_
      refine xg_t (xg_icT (u := 3) (v := 3) rfl xnm0 xnm0 (by decide)) ?_
      refine xg_t (xg_blk (b := [(142, 1, 2, 1, 0, 0), (143, 3, 7, 165, 1, 0), (146, 1, 0, 3, 0, 0), (147, 2, 2, 4, 0, 0), (149, 1, 3, 3, 0, 0), (150, 1, 0, 0, 0, 0), (151, 3, 1, 2, 6, 153), (154, 3, 7, 161, 0, 0), (157, 1, 3, 1, 0, 0), (158, 3, 8, 162, 0, 0)]) rfl) ?_
      refine xg_t (xg_iload (va := (0, 0)) rfl rfl) ?_
      refine xg_t (xg_ifF (u := 0) rfl xnm0 (by decide)) ?_
      refine xg_t (xg_aload (va := (2, 35)) rfl rfl) ?_
      refine xg_t (xg_iload (va := (0, n236)) rfl rfl) ?_
      refine xg_t (xg_const) ?_
      refine xg_t (xg_aload (va := (2, 27)) rfl rfl) ?_
      refine xg_t (xg_getf (va := (0, f27_1)) (hb271.get (by decide) (hb262.get (by decide) (hb253.get (by decide) (hb241.get (by decide) h27_11)))) rfl) ?_
      by_cases hc272 : f27_1 = 0
      · refine xg_t (xg_ifT (u := f27_1) rfl xnm0 (xj_eqT hc272)) ?_
        refine xg_t (xg_blk (b := [(161, 1, 3, 0, 0, 0)]) rfl) ?_
        refine xg_t (xg_const) ?_
        refine xg_t (xg_blk (b := [(162, 3, 13, 290, 40, 207)]) rfl) ?_
        refine xg_cVv mX5_put (vs := [(0, n236), (0, 3), (0, 0)]) (rest := []) (cn1 := 0) (sl1 := 0) rfl (rputI (lim := 4) (wd := 3) (B := 4294967295) (hb271.get (by decide) (hb262.get (by decide) (hb253.get (by decide) hk240))) hr269 (hb270) (by decide) (by omega) (by decide) (by decide) (by omega) (by omega) (by omega)) rfl (hb271.get (by decide) (hb262.get (by decide) (hb253.get (by decide) hk240))) rfl rfl rfl rfl rfl rfl (fun w273 hq274 => ?_)
        obtain ⟨g275, hr276, hb277, hb278⟩ := hq274
        refine xg_t (xg_blk (b := [(165, 1, 2, 1, 0, 0), (166, 1, 3, 4, 0, 0), (167, 3, 6, 188, 1, 0), (170, 2, 2, 4, 0, 0), (172, 1, 0, 0, 0, 0), (173, 3, 1, 2, 5, 25), (176, 1, 31, 0, 0, 0), (177, 3, 6, 188, 3, 0), (180, 1, 0, 0, 0, 0), (181, 3, 1, 2, 5, 25), (184, 2, 2, 4, 0, 0), (186, 1, 2, 2, 0, 0), (187, 1, 17, 0, 0, 0)]) rfl) ?_
        refine xg_t (xg_iload (va := (0, 0)) rfl rfl) ?_
        refine xg_t (xg_const) ?_
        refine xg_t (xg_icT (u := 0) (v := 4) rfl xnm0 xnm0 (by decide)) ?_
        refine xg_t (xg_blk (b := [(188, 1, 12, 0, 0, 0)]) rfl) ?_
        exact xg_e ⟨w273, ⟨rfl, rfl⟩, xInv.up (S := [35, 36]) hI (((((xFr.of (S := [35, 36]) hb241 (by decide)).tr (xFr.of (S := [35, 36]) hb253 (by decide))).tr (xFr.of (S := [35, 36]) hb262 (by decide))).tr (xFr.of (S := [35, 36]) hb271 (by decide))).tr (xFr.of (S := [35, 36]) hb278 (by decide))) (List.forall_mem_cons.mpr ⟨(show cp35 (wget w273 35) from ⟨s238, (hb278.get (by decide) (hb271.get (by decide) (hb262.get (by decide) (hb253.get (by decide) hk240)))), by omega⟩), List.forall_mem_cons.mpr ⟨(show cpI 12 16 4294967295 (wget w273 36) from ⟨_, hr276, hb277⟩), fun _ h => absurd h List.not_mem_nil⟩⟩), (((((xFr.of (S := [29, 30, 31, 32, 33, 34, 35, 36, 37, 38, 41]) hb241 (by decide)).tr (xFr.of (S := [29, 30, 31, 32, 33, 34, 35, 36, 37, 38, 41]) hb253 (by decide))).tr (xFr.of (S := [29, 30, 31, 32, 33, 34, 35, 36, 37, 38, 41]) hb262 (by decide))).tr (xFr.of (S := [29, 30, 31, 32, 33, 34, 35, 36, 37, 38, 41]) hb271 (by decide))).tr (xFr.of (S := [29, 30, 31, 32, 33, 34, 35, 36, 37, 38, 41]) hb278 (by decide)))⟩
      · refine xg_t (xg_ifF (u := f27_1) rfl xnm0 (xj_eqF hc272)) ?_
        refine xg_t (xg_const) ?_
        refine xg_t (xg_goto) ?_
        refine xg_t (xg_blk (b := [(162, 3, 13, 290, 40, 207)]) rfl) ?_
        refine xg_cVv mX5_put (vs := [(0, n236), (0, 3), (0, 1)]) (rest := []) (cn1 := 0) (sl1 := 0) rfl (rputI (lim := 4) (wd := 3) (B := 4294967295) (hb271.get (by decide) (hb262.get (by decide) (hb253.get (by decide) hk240))) hr269 (hb270) (by decide) (by omega) (by decide) (by decide) (by omega) (by omega) (by omega)) rfl (hb271.get (by decide) (hb262.get (by decide) (hb253.get (by decide) hk240))) rfl rfl rfl rfl rfl rfl (fun w279 hq280 => ?_)
        obtain ⟨g281, hr282, hb283, hb284⟩ := hq280
        refine xg_t (xg_blk (b := [(165, 1, 2, 1, 0, 0), (166, 1, 3, 4, 0, 0), (167, 3, 6, 188, 1, 0), (170, 2, 2, 4, 0, 0), (172, 1, 0, 0, 0, 0), (173, 3, 1, 2, 5, 25), (176, 1, 31, 0, 0, 0), (177, 3, 6, 188, 3, 0), (180, 1, 0, 0, 0, 0), (181, 3, 1, 2, 5, 25), (184, 2, 2, 4, 0, 0), (186, 1, 2, 2, 0, 0), (187, 1, 17, 0, 0, 0)]) rfl) ?_
        refine xg_t (xg_iload (va := (0, 0)) rfl rfl) ?_
        refine xg_t (xg_const) ?_
        refine xg_t (xg_icT (u := 0) (v := 4) rfl xnm0 xnm0 (by decide)) ?_
        refine xg_t (xg_blk (b := [(188, 1, 12, 0, 0, 0)]) rfl) ?_
        exact xg_e ⟨w279, ⟨rfl, rfl⟩, xInv.up (S := [35, 36]) hI (((((xFr.of (S := [35, 36]) hb241 (by decide)).tr (xFr.of (S := [35, 36]) hb253 (by decide))).tr (xFr.of (S := [35, 36]) hb262 (by decide))).tr (xFr.of (S := [35, 36]) hb271 (by decide))).tr (xFr.of (S := [35, 36]) hb284 (by decide))) (List.forall_mem_cons.mpr ⟨(show cp35 (wget w279 35) from ⟨s238, (hb284.get (by decide) (hb271.get (by decide) (hb262.get (by decide) (hb253.get (by decide) hk240)))), by omega⟩), List.forall_mem_cons.mpr ⟨(show cpI 12 16 4294967295 (wget w279 36) from ⟨_, hr282, hb283⟩), fun _ h => absurd h List.not_mem_nil⟩⟩), (((((xFr.of (S := [29, 30, 31, 32, 33, 34, 35, 36, 37, 38, 41]) hb241 (by decide)).tr (xFr.of (S := [29, 30, 31, 32, 33, 34, 35, 36, 37, 38, 41]) hb253 (by decide))).tr (xFr.of (S := [29, 30, 31, 32, 33, 34, 35, 36, 37, 38, 41]) hb262 (by decide))).tr (xFr.of (S := [29, 30, 31, 32, 33, 34, 35, 36, 37, 38, 41]) hb271 (by decide))).tr (xFr.of (S := [29, 30, 31, 32, 33, 34, 35, 36, 37, 38, 41]) hb284 (by decide)))⟩
  · obtain ⟨f28_285, f28_287, f28_289, f28_291, f28_293, h28_295, hb286, hb288, hb290, hb292, hb294⟩ := (hI 28 (by decide) : cp28 (wget w 28))
    refine xg_t (xg_cVr mX1_rowsOf (vs := [(0, 0)]) (rest := []) (rs := [(2, 37)]) (cn1 := 0) (sl1 := 0) rfl (hp20) rfl h28_295 rfl rfl rfl rfl rfl rfl rfl) ?_
    refine xg_t (xg_astore (l1 := [(0, (2, 27)), (1, (0, 0)), (2, (0, pc_))]) rfl rfl rfl) ?_
    refine xg_t (xg_aload (va := (2, 37)) rfl rfl) ?_
    refine xg_t (xg_ifnullF) ?_
    refine xg_t (xg_aload (va := (2, 37)) rfl rfl) ?_
    obtain ⟨f37_296, h37_298, hb297⟩ := (hI 37 (by decide) : cp37 (wget w 37))
    refine xg_t (xg_cVr mX5_isFull (vs := []) (rest := []) (rs := [(0, if 20 ≤ f37_296 then 1 else 0)]) (cn1 := 0) (sl1 := 0) rfl (rfull_ok h37_298 (by decide) (by omega)) rfl h37_298 rfl rfl rfl rfl rfl rfl rfl) ?_
    by_cases hc299 : 20 ≤ f37_296
    · refine xg_t (xg_ifF (u := (if 20 ≤ f37_296 then 1 else 0)) rfl xnm0 (xj_eqF (xite1 hc299))) ?_
      refine xg_t (xg_blk (b := [(95, 1, 12, 0, 0, 0)]) rfl) ?_
      exact xg_e ⟨w, ⟨rfl, rfl⟩, hI, xFr.rf⟩
    · refine xg_t (xg_ifT (u := (if 20 ≤ f37_296 then 1 else 0)) rfl xnm0 (xj_eqT (xite0 hc299))) ?_
      refine xg_t (xg_blk (b := [(96, 1, 0, 3, 0, 0), (97, 3, 13, 286, 40, 204), (100, 2, 15, 4, 0, 0), (102, 1, 3, 0, 0, 0), (103, 2, 15, 5, 0, 0)]) rfl) ?_
      refine xg_t (xg_aload (va := (2, 37)) rfl rfl) ?_
      refine xg_cVi mX5_grow (vs := []) (rest := []) (cn1 := 0) (sl1 := 0) rfl (rgrowI h37_298 (by decide) (by omega)) rfl h37_298 rfl rfl rfl rfl rfl rfl (fun n302 w300 hq301 => ?_)
      obtain ⟨hn303, s304, hs305, hk306, hb307⟩ := hq301
      refine xg_t (xg_istore (l1 := [(3, (2, 37)), (0, (2, 27)), (1, (0, 0)), (2, (0, pc_))]) rfl rfl rfl) ?_
      refine xg_t (xg_const) ?_
      refine xg_t (xg_istore (l1 := [(4, (0, n302)), (3, (2, 37)), (0, (2, 27)), (1, (0, 0)), (2, (0, pc_))]) rfl rfl rfl) ?_
      refine xg_t (xg_blk (b := [(105, 2, 2, 5, 0, 0), (107, 3, 37, 1, 0, 115), (110, 1, 2, 1, 0, 0), (111, 1, 10, 0, 0, 0), (112, 3, 6, 142, 3, 0), (115, 2, 2, 5, 0, 0), (117, 1, 3, 3, 0, 0), (118, 3, 6, 142, 3, 0), (121, 1, 0, 3, 0, 0), (122, 2, 2, 4, 0, 0), (124, 2, 2, 5, 0, 0), (126, 1, 0, 0, 0, 0), (127, 3, 1, 2, 3, 18), (130, 2, 2, 5, 0, 0), (132, 1, 10, 0, 0, 0), (133, 3, 13, 290, 40, 207), (136, 3, 9, 5, 1, 0), (139, 3, 8, 105, 0, 0)]) rfl) ?_
      refine xg_t (xg_iload (va := (0, 0)) rfl rfl) ?_
      refine xg_t (xg_gets) ?_
      refine xg_t (xg_iload (va := (0, 0)) rfl rfl) ?_
      refine xg_t (xg_ald8L (n := 0) (u := 3) xnm0 rfl rfl) ?_
      refine xg_t (xg_icF (u := 0) (v := 3) rfl xnm0 xnm0 (by decide)) ?_
      refine xg_t (xg_iload (va := (0, 0)) rfl rfl) ?_
      refine xg_t (xg_const) ?_
      refine xg_t (xg_icF (u := 0) (v := 3) rfl xnm0 xnm0 (by decide)) ?_
      refine xg_t (xg_aload (va := (2, 37)) rfl rfl) ?_
      refine xg_t (xg_iload (va := (0, n302)) rfl rfl) ?_
      refine xg_t (xg_iload (va := (0, 0)) rfl rfl) ?_
      refine xg_t (xg_aload (va := (2, 27)) rfl rfl) ?_
      refine xg_t (xg_getf (va := (2, 39)) (hb307.get (by decide) h27_11) rfl) ?_
      refine xg_t (xg_iload (va := (0, 0)) rfl rfl) ?_
      refine xg_ialdB (n := 0) (B := 4294967295) (h39_13.but hb307 (by decide)) (hb14) xnm0 (by omega) (fun u308 hu309 he310 => ?_)
      obtain ⟨g38_311, h38_312, hb313⟩ := (hI 38 (by decide) : cpI 40 17 4294967295 (wget w 38))
      have h38_312 : xRow w 38 40 17 g38_311 := h38_312
      refine xg_cVv mX5_put (vs := [(0, n302), (0, 0), (0, u308)]) (rest := []) (cn1 := 0) (sl1 := 0) rfl (rputI (lim := 20) (wd := 2) (B := 4294967295) hk306 (h38_312.but hb307 (by decide)) (hb313) (by decide) (by omega) (by decide) (by decide) (by omega) (by omega) (by omega)) rfl hk306 rfl rfl rfl rfl rfl rfl (fun w314 hq315 => ?_)
      obtain ⟨g316, hr317, hb318, hb319⟩ := hq315
      refine xg_t (xg_iinc (u := 0) (z := 1) (l1 := [(4, (0, n302)), (3, (2, 37)), (0, (2, 27)), (1, (0, 0)), (2, (0, pc_))]) rfl rfl (by decide) rfl) ?_
      refine xg_t (xg_goto) ?_
      refine xg_t (xg_blk (b := [(105, 2, 2, 5, 0, 0), (107, 3, 37, 1, 0, 115), (110, 1, 2, 1, 0, 0), (111, 1, 10, 0, 0, 0), (112, 3, 6, 142, 3, 0), (115, 2, 2, 5, 0, 0), (117, 1, 3, 3, 0, 0), (118, 3, 6, 142, 3, 0), (121, 1, 0, 3, 0, 0), (122, 2, 2, 4, 0, 0), (124, 2, 2, 5, 0, 0), (126, 1, 0, 0, 0, 0), (127, 3, 1, 2, 3, 18), (130, 2, 2, 5, 0, 0), (132, 1, 10, 0, 0, 0), (133, 3, 13, 290, 40, 207), (136, 3, 9, 5, 1, 0), (139, 3, 8, 105, 0, 0)]) rfl) ?_
      refine xg_t (xg_iload (va := (0, 1)) rfl rfl) ?_
      refine xg_t (xg_gets) ?_
      refine xg_t (xg_iload (va := (0, 0)) rfl rfl) ?_
      refine xg_t (xg_ald8L (n := 0) (u := 3) xnm0 rfl rfl) ?_
      refine xg_t (xg_icF (u := 1) (v := 3) rfl xnm0 xnm0 (by decide)) ?_
      refine xg_t (xg_iload (va := (0, 1)) rfl rfl) ?_
      refine xg_t (xg_const) ?_
      refine xg_t (xg_icF (u := 1) (v := 3) rfl xnm0 xnm0 (by decide)) ?_
      refine xg_t (xg_aload (va := (2, 37)) rfl rfl) ?_
      refine xg_t (xg_iload (va := (0, n302)) rfl rfl) ?_
      refine xg_t (xg_iload (va := (0, 1)) rfl rfl) ?_
      refine xg_t (xg_aload (va := (2, 27)) rfl rfl) ?_
      refine xg_t (xg_getf (va := (2, 39)) (hb319.get (by decide) (hb307.get (by decide) h27_11)) rfl) ?_
      refine xg_t (xg_iload (va := (0, 1)) rfl rfl) ?_
      refine xg_ialdB (n := 1) (B := 4294967295) ((h39_13.but hb307 (by decide)).but hb319 (by decide)) (hb14) xnm0 (by omega) (fun u320 hu321 he322 => ?_)
      refine xg_cVv mX5_put (vs := [(0, n302), (0, 1), (0, u320)]) (rest := []) (cn1 := 0) (sl1 := 0) rfl (rputI (lim := 20) (wd := 2) (B := 4294967295) (hb319.get (by decide) hk306) hr317 (hb318) (by decide) (by omega) (by decide) (by decide) (by omega) (by omega) (by omega)) rfl (hb319.get (by decide) hk306) rfl rfl rfl rfl rfl rfl (fun w323 hq324 => ?_)
      obtain ⟨g325, hr326, hb327, hb328⟩ := hq324
      refine xg_t (xg_iinc (u := 1) (z := 2) (l1 := [(4, (0, n302)), (3, (2, 37)), (0, (2, 27)), (1, (0, 0)), (2, (0, pc_))]) rfl rfl (by decide) rfl) ?_
      refine xg_t (xg_goto) ?_
      refine xg_t (xg_blk (b := [(105, 2, 2, 5, 0, 0), (107, 3, 37, 1, 0, 115), (110, 1, 2, 1, 0, 0), (111, 1, 10, 0, 0, 0), (112, 3, 6, 142, 3, 0), (115, 2, 2, 5, 0, 0), (117, 1, 3, 3, 0, 0), (118, 3, 6, 142, 3, 0), (121, 1, 0, 3, 0, 0), (122, 2, 2, 4, 0, 0), (124, 2, 2, 5, 0, 0), (126, 1, 0, 0, 0, 0), (127, 3, 1, 2, 3, 18), (130, 2, 2, 5, 0, 0), (132, 1, 10, 0, 0, 0), (133, 3, 13, 290, 40, 207), (136, 3, 9, 5, 1, 0), (139, 3, 8, 105, 0, 0)]) rfl) ?_
      refine xg_t (xg_iload (va := (0, 2)) rfl rfl) ?_
      refine xg_t (xg_gets) ?_
      refine xg_t (xg_iload (va := (0, 0)) rfl rfl) ?_
      refine xg_t (xg_ald8L (n := 0) (u := 3) xnm0 rfl rfl) ?_
      refine xg_t (xg_icF (u := 2) (v := 3) rfl xnm0 xnm0 (by decide)) ?_
      refine xg_t (xg_iload (va := (0, 2)) rfl rfl) ?_
      refine xg_t (xg_const) ?_
      refine xg_t (xg_icF (u := 2) (v := 3) rfl xnm0 xnm0 (by decide)) ?_
      refine xg_t (xg_aload (va := (2, 37)) rfl rfl) ?_
      refine xg_t (xg_iload (va := (0, n302)) rfl rfl) ?_
      refine xg_t (xg_iload (va := (0, 2)) rfl rfl) ?_
      refine xg_t (xg_aload (va := (2, 27)) rfl rfl) ?_
      refine xg_t (xg_getf (va := (2, 39)) (hb328.get (by decide) (hb319.get (by decide) (hb307.get (by decide) h27_11))) rfl) ?_
      refine xg_t (xg_iload (va := (0, 2)) rfl rfl) ?_
      refine xg_ialdB (n := 2) (B := 4294967295) (((h39_13.but hb307 (by decide)).but hb319 (by decide)).but hb328 (by decide)) (hb14) xnm0 (by omega) (fun u329 hu330 he331 => ?_)
      refine xg_cVv mX5_put (vs := [(0, n302), (0, 2), (0, u329)]) (rest := []) (cn1 := 0) (sl1 := 0) rfl (rputI (lim := 20) (wd := 2) (B := 4294967295) (hb328.get (by decide) (hb319.get (by decide) hk306)) hr326 (hb327) (by decide) (by omega) (by decide) (by decide) (by omega) (by omega) (by omega)) rfl (hb328.get (by decide) (hb319.get (by decide) hk306)) rfl rfl rfl rfl rfl rfl (fun w332 hq333 => ?_)
      obtain ⟨g334, hr335, hb336, hb337⟩ := hq333
      refine xg_t (xg_iinc (u := 2) (z := 3) (l1 := [(4, (0, n302)), (3, (2, 37)), (0, (2, 27)), (1, (0, 0)), (2, (0, pc_))]) rfl rfl (by decide) rfl) ?_
      refine xg_t (xg_goto) ?_
      refine xg_t (xg_blk (b := [(105, 2, 2, 5, 0, 0), (107, 3, 37, 1, 0, 115), (110, 1, 2, 1, 0, 0), (111, 1, 10, 0, 0, 0), (112, 3, 6, 142, 3, 0), (115, 2, 2, 5, 0, 0), (117, 1, 3, 3, 0, 0), (118, 3, 6, 142, 3, 0), (121, 1, 0, 3, 0, 0), (122, 2, 2, 4, 0, 0), (124, 2, 2, 5, 0, 0), (126, 1, 0, 0, 0, 0), (127, 3, 1, 2, 3, 18), (130, 2, 2, 5, 0, 0), (132, 1, 10, 0, 0, 0), (133, 3, 13, 290, 40, 207), (136, 3, 9, 5, 1, 0), (139, 3, 8, 105, 0, 0)]) rfl) ?_
      refine xg_t (xg_iload (va := (0, 3)) rfl rfl) ?_
      refine xg_t (xg_gets) ?_
      refine xg_t (xg_iload (va := (0, 0)) rfl rfl) ?_
      refine xg_t (xg_ald8L (n := 0) (u := 3) xnm0 rfl rfl) ?_
      refine xg_t (xg_icT (u := 3) (v := 3) rfl xnm0 xnm0 (by decide)) ?_
      refine xg_t (xg_blk (b := [(142, 1, 2, 1, 0, 0), (143, 3, 7, 165, 1, 0), (146, 1, 0, 3, 0, 0), (147, 2, 2, 4, 0, 0), (149, 1, 3, 3, 0, 0), (150, 1, 0, 0, 0, 0), (151, 3, 1, 2, 6, 153), (154, 3, 7, 161, 0, 0), (157, 1, 3, 1, 0, 0), (158, 3, 8, 162, 0, 0)]) rfl) ?_
      refine xg_t (xg_iload (va := (0, 0)) rfl rfl) ?_
      refine xg_t (xg_ifF (u := 0) rfl xnm0 (by decide)) ?_
      refine xg_t (xg_aload (va := (2, 37)) rfl rfl) ?_
      refine xg_t (xg_iload (va := (0, n302)) rfl rfl) ?_
      refine xg_t (xg_const) ?_
      refine xg_t (xg_aload (va := (2, 27)) rfl rfl) ?_
      refine xg_t (xg_getf (va := (0, f27_1)) (hb337.get (by decide) (hb328.get (by decide) (hb319.get (by decide) (hb307.get (by decide) h27_11)))) rfl) ?_
      by_cases hc338 : f27_1 = 0
      · refine xg_t (xg_ifT (u := f27_1) rfl xnm0 (xj_eqT hc338)) ?_
        refine xg_t (xg_blk (b := [(161, 1, 3, 0, 0, 0)]) rfl) ?_
        refine xg_t (xg_const) ?_
        refine xg_t (xg_blk (b := [(162, 3, 13, 290, 40, 207)]) rfl) ?_
        refine xg_cVv mX5_put (vs := [(0, n302), (0, 3), (0, 0)]) (rest := []) (cn1 := 0) (sl1 := 0) rfl (rputI (lim := 20) (wd := 2) (B := 4294967295) (hb337.get (by decide) (hb328.get (by decide) (hb319.get (by decide) hk306))) hr335 (hb336) (by decide) (by omega) (by decide) (by decide) (by omega) (by omega) (by omega)) rfl (hb337.get (by decide) (hb328.get (by decide) (hb319.get (by decide) hk306))) rfl rfl rfl rfl rfl rfl (fun w339 hq340 => ?_)
        obtain ⟨g341, hr342, hb343, hb344⟩ := hq340
        refine xg_t (xg_blk (b := [(165, 1, 2, 1, 0, 0), (166, 1, 3, 4, 0, 0), (167, 3, 6, 188, 1, 0), (170, 2, 2, 4, 0, 0), (172, 1, 0, 0, 0, 0), (173, 3, 1, 2, 5, 25), (176, 1, 31, 0, 0, 0), (177, 3, 6, 188, 3, 0), (180, 1, 0, 0, 0, 0), (181, 3, 1, 2, 5, 25), (184, 2, 2, 4, 0, 0), (186, 1, 2, 2, 0, 0), (187, 1, 17, 0, 0, 0)]) rfl) ?_
        refine xg_t (xg_iload (va := (0, 0)) rfl rfl) ?_
        refine xg_t (xg_const) ?_
        refine xg_t (xg_icT (u := 0) (v := 4) rfl xnm0 xnm0 (by decide)) ?_
        refine xg_t (xg_blk (b := [(188, 1, 12, 0, 0, 0)]) rfl) ?_
        exact xg_e ⟨w339, ⟨rfl, rfl⟩, xInv.up (S := [37, 38]) hI (((((xFr.of (S := [37, 38]) hb307 (by decide)).tr (xFr.of (S := [37, 38]) hb319 (by decide))).tr (xFr.of (S := [37, 38]) hb328 (by decide))).tr (xFr.of (S := [37, 38]) hb337 (by decide))).tr (xFr.of (S := [37, 38]) hb344 (by decide))) (List.forall_mem_cons.mpr ⟨(show cp37 (wget w339 37) from ⟨s304, (hb344.get (by decide) (hb337.get (by decide) (hb328.get (by decide) (hb319.get (by decide) hk306)))), by omega⟩), List.forall_mem_cons.mpr ⟨(show cpI 40 17 4294967295 (wget w339 38) from ⟨_, hr342, hb343⟩), fun _ h => absurd h List.not_mem_nil⟩⟩), (((((xFr.of (S := [29, 30, 31, 32, 33, 34, 35, 36, 37, 38, 41]) hb307 (by decide)).tr (xFr.of (S := [29, 30, 31, 32, 33, 34, 35, 36, 37, 38, 41]) hb319 (by decide))).tr (xFr.of (S := [29, 30, 31, 32, 33, 34, 35, 36, 37, 38, 41]) hb328 (by decide))).tr (xFr.of (S := [29, 30, 31, 32, 33, 34, 35, 36, 37, 38, 41]) hb337 (by decide))).tr (xFr.of (S := [29, 30, 31, 32, 33, 34, 35, 36, 37, 38, 41]) hb344 (by decide)))⟩
      · refine xg_t (xg_ifF (u := f27_1) rfl xnm0 (xj_eqF hc338)) ?_
        refine xg_t (xg_const) ?_
        refine xg_t (xg_goto) ?_
        refine xg_t (xg_blk (b := [(162, 3, 13, 290, 40, 207)]) rfl) ?_
        refine xg_cVv mX5_put (vs := [(0, n302), (0, 3), (0, 1)]) (rest := []) (cn1 := 0) (sl1 := 0) rfl (rputI (lim := 20) (wd := 2) (B := 4294967295) (hb337.get (by decide) (hb328.get (by decide) (hb319.get (by decide) hk306))) hr335 (hb336) (by decide) (by omega) (by decide) (by decide) (by omega) (by omega) (by omega)) rfl (hb337.get (by decide) (hb328.get (by decide) (hb319.get (by decide) hk306))) rfl rfl rfl rfl rfl rfl (fun w345 hq346 => ?_)
        obtain ⟨g347, hr348, hb349, hb350⟩ := hq346
        refine xg_t (xg_blk (b := [(165, 1, 2, 1, 0, 0), (166, 1, 3, 4, 0, 0), (167, 3, 6, 188, 1, 0), (170, 2, 2, 4, 0, 0), (172, 1, 0, 0, 0, 0), (173, 3, 1, 2, 5, 25), (176, 1, 31, 0, 0, 0), (177, 3, 6, 188, 3, 0), (180, 1, 0, 0, 0, 0), (181, 3, 1, 2, 5, 25), (184, 2, 2, 4, 0, 0), (186, 1, 2, 2, 0, 0), (187, 1, 17, 0, 0, 0)]) rfl) ?_
        refine xg_t (xg_iload (va := (0, 0)) rfl rfl) ?_
        refine xg_t (xg_const) ?_
        refine xg_t (xg_icT (u := 0) (v := 4) rfl xnm0 xnm0 (by decide)) ?_
        refine xg_t (xg_blk (b := [(188, 1, 12, 0, 0, 0)]) rfl) ?_
        exact xg_e ⟨w345, ⟨rfl, rfl⟩, xInv.up (S := [37, 38]) hI (((((xFr.of (S := [37, 38]) hb307 (by decide)).tr (xFr.of (S := [37, 38]) hb319 (by decide))).tr (xFr.of (S := [37, 38]) hb328 (by decide))).tr (xFr.of (S := [37, 38]) hb337 (by decide))).tr (xFr.of (S := [37, 38]) hb350 (by decide))) (List.forall_mem_cons.mpr ⟨(show cp37 (wget w345 37) from ⟨s304, (hb350.get (by decide) (hb337.get (by decide) (hb328.get (by decide) (hb319.get (by decide) hk306)))), by omega⟩), List.forall_mem_cons.mpr ⟨(show cpI 40 17 4294967295 (wget w345 38) from ⟨_, hr348, hb349⟩), fun _ h => absurd h List.not_mem_nil⟩⟩), (((((xFr.of (S := [29, 30, 31, 32, 33, 34, 35, 36, 37, 38, 41]) hb307 (by decide)).tr (xFr.of (S := [29, 30, 31, 32, 33, 34, 35, 36, 37, 38, 41]) hb319 (by decide))).tr (xFr.of (S := [29, 30, 31, 32, 33, 34, 35, 36, 37, 38, 41]) hb328 (by decide))).tr (xFr.of (S := [29, 30, 31, 32, 33, 34, 35, 36, 37, 38, 41]) hb337 (by decide))).tr (xFr.of (S := [29, 30, 31, 32, 33, 34, 35, 36, 37, 38, 41]) hb350 (by decide)))⟩
  · obtain ⟨f28_351, f28_353, f28_355, f28_357, f28_359, h28_361, hb352, hb354, hb356, hb358, hb360⟩ := (hI 28 (by decide) : cp28 (wget w 28))
    refine xg_t (xg_cVr mX1_rowsOf (vs := [(0, 0)]) (rest := []) (rs := [(3, 0)]) (cn1 := 0) (sl1 := 0) rfl (hp20) rfl h28_361 rfl rfl rfl rfl rfl rfl rfl) ?_
    refine xg_t (xg_astore (l1 := [(0, (2, 27)), (1, (0, 0)), (2, (0, pc_))]) rfl rfl rfl) ?_
    refine xg_t (xg_aload (va := (3, 0)) rfl rfl) ?_
    refine xg_t (xg_ifnullT) ?_
    refine xg_t (xg_blk (b := [(95, 1, 12, 0, 0, 0)]) rfl) ?_
    exact xg_e ⟨w, ⟨rfl, rfl⟩, hI, xFr.rf⟩
theorem ftFine1 {pc_ : Nat} (hI : xInv w) (h1 : pc_ ≤ 4294967295) : xPi (d + 3) mX2_isFine [(2, 27), (0, 1), (0, pc_)] w bd fc rr (fun n w' => (n ≤ 1) ∧ xInv w' ∧ xFr [27] w w') := by
  refine xPi.of ?_
  show xTo (d + 3) mX2_isFine (0, [], [(0, (2, 27)), (1, (0, 1)), (2, (0, pc_))], [], (w, bd, fc, 0, 0, rr)) (fun φ => ∃ n w', xEnd 4 [(0, n)] (w', bd, fc, 0, 0, rr) φ ∧ (n ≤ 1) ∧ xInv w' ∧ xFr [27] w w')
  obtain ⟨f27_1, f27_3, f27_5, f27_7, f27_9, h27_11, hb2, hb4, hb6, hb8, hb10⟩ := (hI 27 (by decide) : cp27 (wget w 27))
  obtain ⟨g39_12, h39_13, hb14⟩ := (hI 39 (by decide) : cpI 3 18 4294967295 (wget w 39))
  have h39_13 : xRow w 39 3 18 g39_12 := h39_13
  obtain ⟨g40_15, h40_16, hb17⟩ := (hI 40 (by decide) : cpI 3 19 4294967295 (wget w 40))
  have h40_16 : xRow w 40 3 19 g40_15 := h40_16
  refine xg_t (xg_blk (b := [(0, 1, 0, 0, 0, 0), (1, 1, 2, 1, 0, 0), (2, 3, 13, 249, 16, 158), (5, 3, 7, 20, 0, 0), (8, 1, 0, 0, 0, 0), (9, 1, 3, 3, 0, 0), (10, 3, 14, 2, 9, 57), (13, 1, 0, 0, 0, 0), (14, 1, 2, 2, 0, 0), (15, 3, 14, 2, 10, 88), (18, 1, 3, 0, 0, 0), (19, 1, 12, 0, 1, 0)]) rfl) ?_
  refine xg_t (xg_aload (va := (2, 27)) rfl rfl) ?_
  refine xg_t (xg_iload (va := (0, 1)) rfl rfl) ?_
  refine xg_cVi mX2_isTooMany (vs := [(0, 1)]) (rest := []) (cn1 := 0) (sl1 := 0) rfl (ftTooMany (hI) (by omega)) rfl h27_11 rfl rfl rfl rfl rfl rfl (fun n22 w18 hq19 => ?_)
  obtain ⟨hn23, hI20, hF21⟩ := hq19
  by_cases hc24 : n22 = 0
  · refine xg_t (xg_ifT (u := n22) rfl xnm0 (xj_eqT hc24)) ?_
    refine xg_t (xg_blk (b := [(20, 1, 2, 1, 0, 0), (21, 3, 7, 30, 2, 0), (24, 1, 2, 1, 0, 0), (25, 2, 4, 7, 0, 0), (27, 3, 6, 32, 2, 0)]) rfl) ?_
    refine xg_t (xg_iload (va := (0, 1)) rfl rfl) ?_
    refine xg_t (xg_ifF (u := 1) rfl xnm0 (by decide)) ?_
    refine xg_t (xg_iload (va := (0, 1)) rfl rfl) ?_
    refine xg_t (xg_bip) ?_
    refine xg_t (xg_icT (u := 1) (v := 7) rfl xnm0 xnm0 (by decide)) ?_
    refine xg_t (xg_blk (b := [(32, 1, 3, 0, 0, 0), (33, 1, 15, 3, 0, 0)]) rfl) ?_
    refine xg_t (xg_const) ?_
    refine xg_t (xg_istore (l1 := [(0, (2, 27)), (1, (0, 1)), (2, (0, pc_))]) rfl rfl rfl) ?_
    refine xg_t (xg_blk (b := [(34, 1, 2, 3, 0, 0), (35, 3, 37, 1, 0, 115), (38, 1, 2, 1, 0, 0), (39, 1, 10, 0, 0, 0), (40, 3, 6, 101, 3, 0), (43, 1, 2, 3, 0, 0), (44, 1, 3, 3, 0, 0), (45, 3, 6, 101, 3, 0), (48, 1, 0, 0, 0, 0), (49, 3, 1, 2, 3, 18), (52, 1, 2, 3, 0, 0), (53, 1, 10, 0, 0, 0), (54, 3, 37, 2, 0, 162), (57, 1, 2, 1, 0, 0), (58, 1, 3, 3, 0, 0), (59, 1, 16, 0, 0, 0), (60, 1, 2, 3, 0, 0), (61, 1, 11, 0, 0, 0), (62, 1, 10, 0, 0, 0), (63, 3, 37, 3, 0, 165), (66, 1, 2, 1, 0, 0), (67, 1, 3, 3, 0, 0), (68, 1, 16, 0, 0, 0), (69, 1, 2, 3, 0, 0), (70, 1, 11, 0, 0, 0), (71, 1, 10, 0, 0, 0), (72, 3, 13, 70, 91, 168), (75, 3, 7, 95, 1, 0), (78, 1, 0, 0, 0, 0), (79, 1, 3, 2, 0, 0), (80, 3, 14, 2, 9, 57), (83, 1, 0, 0, 0, 0), (84, 1, 0, 0, 0, 0), (85, 3, 1, 2, 4, 22), (88, 1, 2, 3, 0, 0), (89, 1, 10, 0, 0, 0), (90, 3, 14, 2, 10, 88), (93, 1, 3, 0, 0, 0), (94, 1, 12, 0, 1, 0)]) rfl) ?_
    refine xg_t (xg_iload (va := (0, 0)) rfl rfl) ?_
    refine xg_t (xg_gets) ?_
    refine xg_t (xg_iload (va := (0, 1)) rfl rfl) ?_
    refine xg_t (xg_ald8L (n := 1) (u := 2) xnm0 rfl rfl) ?_
    refine xg_t (xg_icF (u := 0) (v := 2) rfl xnm0 xnm0 (by decide)) ?_
    refine xg_t (xg_iload (va := (0, 0)) rfl rfl) ?_
    refine xg_t (xg_const) ?_
    refine xg_t (xg_icF (u := 0) (v := 3) rfl xnm0 xnm0 (by decide)) ?_
    refine xg_t (xg_aload (va := (2, 27)) rfl rfl) ?_
    refine xg_t (xg_getf (va := (2, 39)) (hF21.get (by decide) h27_11) rfl) ?_
    refine xg_t (xg_iload (va := (0, 0)) rfl rfl) ?_
    refine xg_ialdB (n := 0) (B := 4294967295) (h39_13.fr hF21 (by decide)) (hb14) xnm0 (by omega) (fun u25 hu26 he27 => ?_)
    refine xg_t (xg_gets) ?_
    refine xg_t (xg_iload (va := (0, 1)) rfl rfl) ?_
    refine xg_t (xg_const) ?_
    refine xg_t (xg_imul (u := 1) (v := 3) (z := 3) xnm0 xnm0 (by decide)) ?_
    refine xg_t (xg_iload (va := (0, 0)) rfl rfl) ?_
    refine xg_t (xg_iadd (u := 3) (v := 0) (z := 3) xnm0 xnm0 (by decide)) ?_
    refine xg_t (xg_ald8L (n := 3) (u := 0) xnm0 rfl rfl) ?_
    refine xg_t (xg_gets) ?_
    refine xg_t (xg_iload (va := (0, 1)) rfl rfl) ?_
    refine xg_t (xg_const) ?_
    refine xg_t (xg_imul (u := 1) (v := 3) (z := 3) xnm0 xnm0 (by decide)) ?_
    refine xg_t (xg_iload (va := (0, 0)) rfl rfl) ?_
    refine xg_t (xg_iadd (u := 3) (v := 0) (z := 3) xnm0 xnm0 (by decide)) ?_
    refine xg_t (xg_ald8L (n := 3) (u := 99) xnm0 rfl rfl) ?_
    refine xg_t (xg_cNr mX11_isIn (vs := [(0, u25), (0, 0), (0, 99)]) (rest := []) (rs := [(0, if 0 ≤ u25 ∧ u25 ≤ 99 then 1 else 0)]) (cn1 := 0) (sl1 := 0) rfl (isIn_ok (by omega) (by omega) (by omega)) rfl rfl rfl rfl rfl rfl rfl rfl) ?_
    by_cases hc28 : 0 ≤ u25 ∧ u25 ≤ 99
    · refine xg_t (xg_ifT (u := (if 0 ≤ u25 ∧ u25 ≤ 99 then 1 else 0)) rfl xnm0 (xj_neT (xite1 hc28))) ?_
      refine xg_t (xg_blk (b := [(95, 3, 9, 3, 1, 0), (98, 3, 8, 34, 0, 0)]) rfl) ?_
      refine xg_t (xg_iinc (u := 0) (z := 1) (l1 := [(0, (2, 27)), (1, (0, 1)), (2, (0, pc_))]) rfl rfl (by decide) rfl) ?_
      refine xg_t (xg_goto) ?_
      refine xg_t (xg_blk (b := [(34, 1, 2, 3, 0, 0), (35, 3, 37, 1, 0, 115), (38, 1, 2, 1, 0, 0), (39, 1, 10, 0, 0, 0), (40, 3, 6, 101, 3, 0), (43, 1, 2, 3, 0, 0), (44, 1, 3, 3, 0, 0), (45, 3, 6, 101, 3, 0), (48, 1, 0, 0, 0, 0), (49, 3, 1, 2, 3, 18), (52, 1, 2, 3, 0, 0), (53, 1, 10, 0, 0, 0), (54, 3, 37, 2, 0, 162), (57, 1, 2, 1, 0, 0), (58, 1, 3, 3, 0, 0), (59, 1, 16, 0, 0, 0), (60, 1, 2, 3, 0, 0), (61, 1, 11, 0, 0, 0), (62, 1, 10, 0, 0, 0), (63, 3, 37, 3, 0, 165), (66, 1, 2, 1, 0, 0), (67, 1, 3, 3, 0, 0), (68, 1, 16, 0, 0, 0), (69, 1, 2, 3, 0, 0), (70, 1, 11, 0, 0, 0), (71, 1, 10, 0, 0, 0), (72, 3, 13, 70, 91, 168), (75, 3, 7, 95, 1, 0), (78, 1, 0, 0, 0, 0), (79, 1, 3, 2, 0, 0), (80, 3, 14, 2, 9, 57), (83, 1, 0, 0, 0, 0), (84, 1, 0, 0, 0, 0), (85, 3, 1, 2, 4, 22), (88, 1, 2, 3, 0, 0), (89, 1, 10, 0, 0, 0), (90, 3, 14, 2, 10, 88), (93, 1, 3, 0, 0, 0), (94, 1, 12, 0, 1, 0)]) rfl) ?_
      refine xg_t (xg_iload (va := (0, 1)) rfl rfl) ?_
      refine xg_t (xg_gets) ?_
      refine xg_t (xg_iload (va := (0, 1)) rfl rfl) ?_
      refine xg_t (xg_ald8L (n := 1) (u := 2) xnm0 rfl rfl) ?_
      refine xg_t (xg_icF (u := 1) (v := 2) rfl xnm0 xnm0 (by decide)) ?_
      refine xg_t (xg_iload (va := (0, 1)) rfl rfl) ?_
      refine xg_t (xg_const) ?_
      refine xg_t (xg_icF (u := 1) (v := 3) rfl xnm0 xnm0 (by decide)) ?_
      refine xg_t (xg_aload (va := (2, 27)) rfl rfl) ?_
      refine xg_t (xg_getf (va := (2, 39)) (hF21.get (by decide) h27_11) rfl) ?_
      refine xg_t (xg_iload (va := (0, 1)) rfl rfl) ?_
      refine xg_ialdB (n := 1) (B := 4294967295) (h39_13.fr hF21 (by decide)) (hb14) xnm0 (by omega) (fun u29 hu30 he31 => ?_)
      refine xg_t (xg_gets) ?_
      refine xg_t (xg_iload (va := (0, 1)) rfl rfl) ?_
      refine xg_t (xg_const) ?_
      refine xg_t (xg_imul (u := 1) (v := 3) (z := 3) xnm0 xnm0 (by decide)) ?_
      refine xg_t (xg_iload (va := (0, 1)) rfl rfl) ?_
      refine xg_t (xg_iadd (u := 3) (v := 1) (z := 4) xnm0 xnm0 (by decide)) ?_
      refine xg_t (xg_ald8L (n := 4) (u := 1) xnm0 rfl rfl) ?_
      refine xg_t (xg_gets) ?_
      refine xg_t (xg_iload (va := (0, 1)) rfl rfl) ?_
      refine xg_t (xg_const) ?_
      refine xg_t (xg_imul (u := 1) (v := 3) (z := 3) xnm0 xnm0 (by decide)) ?_
      refine xg_t (xg_iload (va := (0, 1)) rfl rfl) ?_
      refine xg_t (xg_iadd (u := 3) (v := 1) (z := 4) xnm0 xnm0 (by decide)) ?_
      refine xg_t (xg_ald8L (n := 4) (u := 999) xnm0 rfl rfl) ?_
      refine xg_t (xg_cNr mX11_isIn (vs := [(0, u29), (0, 1), (0, 999)]) (rest := []) (rs := [(0, if 1 ≤ u29 ∧ u29 ≤ 999 then 1 else 0)]) (cn1 := 0) (sl1 := 0) rfl (isIn_ok (by omega) (by omega) (by omega)) rfl rfl rfl rfl rfl rfl rfl rfl) ?_
      by_cases hc32 : 1 ≤ u29 ∧ u29 ≤ 999
      · refine xg_t (xg_ifT (u := (if 1 ≤ u29 ∧ u29 ≤ 999 then 1 else 0)) rfl xnm0 (xj_neT (xite1 hc32))) ?_
        refine xg_t (xg_blk (b := [(95, 3, 9, 3, 1, 0), (98, 3, 8, 34, 0, 0)]) rfl) ?_
        refine xg_t (xg_iinc (u := 1) (z := 2) (l1 := [(0, (2, 27)), (1, (0, 1)), (2, (0, pc_))]) rfl rfl (by decide) rfl) ?_
        refine xg_t (xg_goto) ?_
        refine xg_t (xg_blk (b := [(34, 1, 2, 3, 0, 0), (35, 3, 37, 1, 0, 115), (38, 1, 2, 1, 0, 0), (39, 1, 10, 0, 0, 0), (40, 3, 6, 101, 3, 0), (43, 1, 2, 3, 0, 0), (44, 1, 3, 3, 0, 0), (45, 3, 6, 101, 3, 0), (48, 1, 0, 0, 0, 0), (49, 3, 1, 2, 3, 18), (52, 1, 2, 3, 0, 0), (53, 1, 10, 0, 0, 0), (54, 3, 37, 2, 0, 162), (57, 1, 2, 1, 0, 0), (58, 1, 3, 3, 0, 0), (59, 1, 16, 0, 0, 0), (60, 1, 2, 3, 0, 0), (61, 1, 11, 0, 0, 0), (62, 1, 10, 0, 0, 0), (63, 3, 37, 3, 0, 165), (66, 1, 2, 1, 0, 0), (67, 1, 3, 3, 0, 0), (68, 1, 16, 0, 0, 0), (69, 1, 2, 3, 0, 0), (70, 1, 11, 0, 0, 0), (71, 1, 10, 0, 0, 0), (72, 3, 13, 70, 91, 168), (75, 3, 7, 95, 1, 0), (78, 1, 0, 0, 0, 0), (79, 1, 3, 2, 0, 0), (80, 3, 14, 2, 9, 57), (83, 1, 0, 0, 0, 0), (84, 1, 0, 0, 0, 0), (85, 3, 1, 2, 4, 22), (88, 1, 2, 3, 0, 0), (89, 1, 10, 0, 0, 0), (90, 3, 14, 2, 10, 88), (93, 1, 3, 0, 0, 0), (94, 1, 12, 0, 1, 0)]) rfl) ?_
        refine xg_t (xg_iload (va := (0, 2)) rfl rfl) ?_
        refine xg_t (xg_gets) ?_
        refine xg_t (xg_iload (va := (0, 1)) rfl rfl) ?_
        refine xg_t (xg_ald8L (n := 1) (u := 2) xnm0 rfl rfl) ?_
        refine xg_t (xg_icT (u := 2) (v := 2) rfl xnm0 xnm0 (by decide)) ?_
        refine xg_t (xg_blk (b := [(101, 1, 3, 1, 0, 0), (102, 1, 12, 0, 1, 0)]) rfl) ?_
        refine xg_t (xg_const) ?_
        exact xg_e ⟨1, w18, ⟨rfl, rfl⟩, by omega, hI20, (hF21.up (by decide))⟩
      · refine xg_t (xg_ifF (u := (if 1 ≤ u29 ∧ u29 ≤ 999 then 1 else 0)) rfl xnm0 (xj_neF (xite0 hc32))) ?_
        refine xg_t (xg_aload (va := (2, 27)) rfl rfl) ?_
        refine xg_t (xg_const) ?_
        refine xg_putI (fl1 := [(2, 1), (2, 42), (2, 28), (2, 39), (2, 40), (2, 41), (0, f27_1), (0, f27_3), (0, f27_5), (0, 2), (0, f27_9)]) (hF21.get (by decide) h27_11) rfl rfl rfl (fun w33 hk34 hb35 => ?_)
        refine xg_t (xg_aload (va := (2, 27)) rfl rfl) ?_
        refine xg_t (xg_aload (va := (2, 27)) rfl rfl) ?_
        refine xg_t (xg_getf (va := (2, 40)) hk34 rfl) ?_
        refine xg_t (xg_iload (va := (0, 1)) rfl rfl) ?_
        refine xg_ialdB (n := 1) (B := 4294967295) ((h40_16.fr hF21 (by decide)).but hb35 (by decide)) (hb17) xnm0 (by omega) (fun u36 hu37 he38 => ?_)
        refine xg_putI (fl1 := [(2, 1), (2, 42), (2, 28), (2, 39), (2, 40), (2, 41), (0, f27_1), (0, f27_3), (0, f27_5), (0, 2), (0, u36)]) hk34 rfl rfl rfl (fun w39 hk40 hb41 => ?_)
        refine xg_t (xg_const) ?_
        exact xg_e ⟨0, w39, ⟨rfl, rfl⟩, by omega, xInv.up (S := [27]) hI20 ((xFr.of (S := [27]) hb35 (by decide)).tr (xFr.of (S := [27]) hb41 (by decide))) (List.forall_mem_cons.mpr ⟨(show cp27 (wget w39 27) from ⟨f27_1, f27_3, f27_5, 2, u36, hk40, by omega, by omega, by omega, by omega, by omega⟩), fun _ h => absurd h List.not_mem_nil⟩), ((hF21.up (by decide)).tr ((xFr.of (S := [27]) hb35 (by decide)).tr (xFr.of (S := [27]) hb41 (by decide))))⟩
    · refine xg_t (xg_ifF (u := (if 0 ≤ u25 ∧ u25 ≤ 99 then 1 else 0)) rfl xnm0 (xj_neF (xite0 hc28))) ?_
      refine xg_t (xg_aload (va := (2, 27)) rfl rfl) ?_
      refine xg_t (xg_const) ?_
      refine xg_putI (fl1 := [(2, 1), (2, 42), (2, 28), (2, 39), (2, 40), (2, 41), (0, f27_1), (0, f27_3), (0, f27_5), (0, 2), (0, f27_9)]) (hF21.get (by decide) h27_11) rfl rfl rfl (fun w42 hk43 hb44 => ?_)
      refine xg_t (xg_aload (va := (2, 27)) rfl rfl) ?_
      refine xg_t (xg_aload (va := (2, 27)) rfl rfl) ?_
      refine xg_t (xg_getf (va := (2, 40)) hk43 rfl) ?_
      refine xg_t (xg_iload (va := (0, 0)) rfl rfl) ?_
      refine xg_ialdB (n := 0) (B := 4294967295) ((h40_16.fr hF21 (by decide)).but hb44 (by decide)) (hb17) xnm0 (by omega) (fun u45 hu46 he47 => ?_)
      refine xg_putI (fl1 := [(2, 1), (2, 42), (2, 28), (2, 39), (2, 40), (2, 41), (0, f27_1), (0, f27_3), (0, f27_5), (0, 2), (0, u45)]) hk43 rfl rfl rfl (fun w48 hk49 hb50 => ?_)
      refine xg_t (xg_const) ?_
      exact xg_e ⟨0, w48, ⟨rfl, rfl⟩, by omega, xInv.up (S := [27]) hI20 ((xFr.of (S := [27]) hb44 (by decide)).tr (xFr.of (S := [27]) hb50 (by decide))) (List.forall_mem_cons.mpr ⟨(show cp27 (wget w48 27) from ⟨f27_1, f27_3, f27_5, 2, u45, hk49, by omega, by omega, by omega, by omega, by omega⟩), fun _ h => absurd h List.not_mem_nil⟩), ((hF21.up (by decide)).tr ((xFr.of (S := [27]) hb44 (by decide)).tr (xFr.of (S := [27]) hb50 (by decide))))⟩
  · refine xg_t (xg_ifF (u := n22) rfl xnm0 (xj_eqF hc24)) ?_
    refine xg_t (xg_aload (va := (2, 27)) rfl rfl) ?_
    refine xg_t (xg_const) ?_
    refine xg_putI (fl1 := [(2, 1), (2, 42), (2, 28), (2, 39), (2, 40), (2, 41), (0, f27_1), (0, f27_3), (0, f27_5), (0, 3), (0, f27_9)]) (hF21.get (by decide) h27_11) rfl rfl rfl (fun w51 hk52 hb53 => ?_)
    refine xg_t (xg_aload (va := (2, 27)) rfl rfl) ?_
    refine xg_t (xg_iload (va := (0, pc_)) rfl rfl) ?_
    refine xg_putI (fl1 := [(2, 1), (2, 42), (2, 28), (2, 39), (2, 40), (2, 41), (0, f27_1), (0, f27_3), (0, f27_5), (0, 3), (0, pc_)]) hk52 rfl rfl rfl (fun w54 hk55 hb56 => ?_)
    refine xg_t (xg_const) ?_
    exact xg_e ⟨0, w54, ⟨rfl, rfl⟩, by omega, xInv.up (S := [27]) hI20 ((xFr.of (S := [27]) hb53 (by decide)).tr (xFr.of (S := [27]) hb56 (by decide))) (List.forall_mem_cons.mpr ⟨(show cp27 (wget w54 27) from ⟨f27_1, f27_3, f27_5, 3, pc_, hk55, by omega, by omega, by omega, by omega, by omega⟩), fun _ h => absurd h List.not_mem_nil⟩), ((hF21.up (by decide)).tr ((xFr.of (S := [27]) hb53 (by decide)).tr (xFr.of (S := [27]) hb56 (by decide))))⟩
theorem ftTake1 {pc_ : Nat} (hI : xInv w) (h1 : pc_ ≤ 4294967295) : xPq (d + 2) mX2_take [(2, 27), (0, 1), (0, pc_)] w bd fc rr [] (fun w' => xInv w' ∧ xFr [29, 30, 31, 32, 33, 34, 35, 36, 37, 38, 41] w w') := by
  refine xPq.of ?_
  show xTo (d + 2) mX2_take (0, [], [(0, (2, 27)), (1, (0, 1)), (2, (0, pc_))], [], (w, bd, fc, 0, 0, rr)) (fun φ => ∃ w', xEnd 0 [] (w', bd, fc, 0, 0, rr) φ ∧ xInv w' ∧ xFr [29, 30, 31, 32, 33, 34, 35, 36, 37, 38, 41] w w')
  obtain ⟨f27_1, f27_3, f27_5, f27_7, f27_9, h27_11, hb2, hb4, hb6, hb8, hb10⟩ := (hI 27 (by decide) : cp27 (wget w 27))
  obtain ⟨g39_12, h39_13, hb14⟩ := (hI 39 (by decide) : cpI 3 18 4294967295 (wget w 39))
  have h39_13 : xRow w 39 3 18 g39_12 := h39_13
  obtain ⟨g41_15, h41_16, hb17⟩ := (hI 41 (by decide) : cpI 20 20 4294967295 (wget w 41))
  have h41_16 : xRow w 41 20 20 g41_15 := h41_16
  refine xg_t (xg_blk (b := [(0, 1, 2, 1, 0, 0), (1, 1, 3, 5, 0, 0), (2, 3, 6, 37, 1, 0), (5, 1, 0, 0, 0, 0), (6, 3, 1, 2, 2, 12), (9, 1, 0, 0, 0, 0), (10, 3, 1, 2, 3, 18), (13, 1, 3, 0, 0, 0), (14, 1, 10, 0, 0, 0), (15, 3, 14, 1, 5, 192), (18, 1, 0, 0, 0, 0), (19, 3, 1, 2, 2, 12), (22, 1, 0, 0, 0, 0), (23, 3, 1, 2, 3, 18), (26, 1, 3, 1, 0, 0), (27, 1, 10, 0, 0, 0), (28, 3, 14, 1, 6, 195), (31, 1, 0, 0, 0, 0), (32, 1, 3, 1, 0, 0), (33, 3, 59, 2, 7, 50), (36, 1, 12, 0, 0, 0)]) rfl) ?_
  refine xg_t (xg_iload (va := (0, 1)) rfl rfl) ?_
  refine xg_t (xg_const) ?_
  refine xg_t (xg_icT (u := 1) (v := 5) rfl xnm0 xnm0 (by decide)) ?_
  refine xg_t (xg_blk (b := [(37, 1, 2, 1, 0, 0), (38, 2, 4, 6, 0, 0), (40, 3, 6, 75, 1, 0), (43, 1, 0, 0, 0, 0), (44, 3, 1, 2, 2, 12), (47, 1, 0, 0, 0, 0), (48, 3, 1, 2, 3, 18), (51, 1, 3, 0, 0, 0), (52, 1, 10, 0, 0, 0), (53, 3, 14, 1, 7, 198), (56, 1, 0, 0, 0, 0), (57, 3, 1, 2, 2, 12), (60, 1, 0, 0, 0, 0), (61, 3, 1, 2, 3, 18), (64, 1, 3, 1, 0, 0), (65, 1, 10, 0, 0, 0), (66, 3, 14, 1, 8, 201), (69, 1, 0, 0, 0, 0), (70, 1, 3, 1, 0, 0), (71, 3, 59, 2, 8, 54), (74, 1, 12, 0, 0, 0)]) rfl) ?_
  refine xg_t (xg_iload (va := (0, 1)) rfl rfl) ?_
  refine xg_t (xg_bip) ?_
  refine xg_t (xg_icT (u := 1) (v := 6) rfl xnm0 xnm0 (by decide)) ?_
  refine xg_t (xg_blk (b := [(75, 1, 0, 0, 0, 0), (76, 3, 1, 2, 2, 12), (79, 1, 2, 1, 0, 0), (80, 3, 13, 243, 8, 172), (83, 1, 27, 3, 0, 0), (84, 1, 0, 3, 0, 0), (85, 3, 43, 95, 0, 0), (88, 1, 0, 3, 0, 0), (89, 3, 13, 289, 40, 176), (92, 3, 7, 96, 0, 0)]) rfl) ?_
  refine xg_t (xg_aload (va := (2, 27)) rfl rfl) ?_
  refine xg_t (xg_getf (va := (2, 28)) h27_11 rfl) ?_
  refine xg_t (xg_iload (va := (0, 1)) rfl rfl) ?_
  obtain ⟨v18, hv19, hp20⟩ := rowsOf28 (d := d + 1) (bd := bd) (fc := fc) (rr := rr) (so := 1) (hI) (by omega)
  rcases hv19 with rfl | rfl | rfl | rfl | rfl | rfl
  · obtain ⟨f28_21, f28_23, f28_25, f28_27, f28_29, h28_31, hb22, hb24, hb26, hb28, hb30⟩ := (hI 28 (by decide) : cp28 (wget w 28))
    refine xg_t (xg_cVr mX1_rowsOf (vs := [(0, 1)]) (rest := []) (rs := [(2, 29)]) (cn1 := 0) (sl1 := 0) rfl (hp20) rfl h28_31 rfl rfl rfl rfl rfl rfl rfl) ?_
    refine xg_t (xg_astore (l1 := [(0, (2, 27)), (1, (0, 1)), (2, (0, pc_))]) rfl rfl rfl) ?_
    refine xg_t (xg_aload (va := (2, 29)) rfl rfl) ?_
    refine xg_t (xg_ifnullF) ?_
    refine xg_t (xg_aload (va := (2, 29)) rfl rfl) ?_
    obtain ⟨f29_32, h29_34, hb33⟩ := (hI 29 (by decide) : cp29 (wget w 29))
    refine xg_t (xg_cVr mX5_isFull (vs := []) (rest := []) (rs := [(0, if 6 ≤ f29_32 then 1 else 0)]) (cn1 := 0) (sl1 := 0) rfl (rfull_ok h29_34 (by decide) (by omega)) rfl h29_34 rfl rfl rfl rfl rfl rfl rfl) ?_
    by_cases hc35 : 6 ≤ f29_32
    · refine xg_t (xg_ifF (u := (if 6 ≤ f29_32 then 1 else 0)) rfl xnm0 (xj_eqF (xite1 hc35))) ?_
      refine xg_t (xg_blk (b := [(95, 1, 12, 0, 0, 0)]) rfl) ?_
      exact xg_e ⟨w, ⟨rfl, rfl⟩, hI, xFr.rf⟩
    · refine xg_t (xg_ifT (u := (if 6 ≤ f29_32 then 1 else 0)) rfl xnm0 (xj_eqT (xite0 hc35))) ?_
      refine xg_t (xg_blk (b := [(96, 1, 0, 3, 0, 0), (97, 3, 13, 286, 40, 204), (100, 2, 15, 4, 0, 0), (102, 1, 3, 0, 0, 0), (103, 2, 15, 5, 0, 0)]) rfl) ?_
      refine xg_t (xg_aload (va := (2, 29)) rfl rfl) ?_
      refine xg_cVi mX5_grow (vs := []) (rest := []) (cn1 := 0) (sl1 := 0) rfl (rgrowI h29_34 (by decide) (by omega)) rfl h29_34 rfl rfl rfl rfl rfl rfl (fun n38 w36 hq37 => ?_)
      obtain ⟨hn39, s40, hs41, hk42, hb43⟩ := hq37
      refine xg_t (xg_istore (l1 := [(3, (2, 29)), (0, (2, 27)), (1, (0, 1)), (2, (0, pc_))]) rfl rfl rfl) ?_
      refine xg_t (xg_const) ?_
      refine xg_t (xg_istore (l1 := [(4, (0, n38)), (3, (2, 29)), (0, (2, 27)), (1, (0, 1)), (2, (0, pc_))]) rfl rfl rfl) ?_
      refine xg_t (xg_blk (b := [(105, 2, 2, 5, 0, 0), (107, 3, 37, 1, 0, 115), (110, 1, 2, 1, 0, 0), (111, 1, 10, 0, 0, 0), (112, 3, 6, 142, 3, 0), (115, 2, 2, 5, 0, 0), (117, 1, 3, 3, 0, 0), (118, 3, 6, 142, 3, 0), (121, 1, 0, 3, 0, 0), (122, 2, 2, 4, 0, 0), (124, 2, 2, 5, 0, 0), (126, 1, 0, 0, 0, 0), (127, 3, 1, 2, 3, 18), (130, 2, 2, 5, 0, 0), (132, 1, 10, 0, 0, 0), (133, 3, 13, 290, 40, 207), (136, 3, 9, 5, 1, 0), (139, 3, 8, 105, 0, 0)]) rfl) ?_
      refine xg_t (xg_iload (va := (0, 0)) rfl rfl) ?_
      refine xg_t (xg_gets) ?_
      refine xg_t (xg_iload (va := (0, 1)) rfl rfl) ?_
      refine xg_t (xg_ald8L (n := 1) (u := 2) xnm0 rfl rfl) ?_
      refine xg_t (xg_icF (u := 0) (v := 2) rfl xnm0 xnm0 (by decide)) ?_
      refine xg_t (xg_iload (va := (0, 0)) rfl rfl) ?_
      refine xg_t (xg_const) ?_
      refine xg_t (xg_icF (u := 0) (v := 3) rfl xnm0 xnm0 (by decide)) ?_
      refine xg_t (xg_aload (va := (2, 29)) rfl rfl) ?_
      refine xg_t (xg_iload (va := (0, n38)) rfl rfl) ?_
      refine xg_t (xg_iload (va := (0, 0)) rfl rfl) ?_
      refine xg_t (xg_aload (va := (2, 27)) rfl rfl) ?_
      refine xg_t (xg_getf (va := (2, 39)) (hb43.get (by decide) h27_11) rfl) ?_
      refine xg_t (xg_iload (va := (0, 0)) rfl rfl) ?_
      refine xg_ialdB (n := 0) (B := 4294967295) (h39_13.but hb43 (by decide)) (hb14) xnm0 (by omega) (fun u44 hu45 he46 => ?_)
      obtain ⟨g30_47, h30_48, hb49⟩ := (hI 30 (by decide) : cpI 24 13 4294967295 (wget w 30))
      have h30_48 : xRow w 30 24 13 g30_47 := h30_48
      refine xg_cVv mX5_put (vs := [(0, n38), (0, 0), (0, u44)]) (rest := []) (cn1 := 0) (sl1 := 0) rfl (rputI (lim := 6) (wd := 4) (B := 4294967295) hk42 (h30_48.but hb43 (by decide)) (hb49) (by decide) (by omega) (by decide) (by decide) (by omega) (by omega) (by omega)) rfl hk42 rfl rfl rfl rfl rfl rfl (fun w50 hq51 => ?_)
      obtain ⟨g52, hr53, hb54, hb55⟩ := hq51
      refine xg_t (xg_iinc (u := 0) (z := 1) (l1 := [(4, (0, n38)), (3, (2, 29)), (0, (2, 27)), (1, (0, 1)), (2, (0, pc_))]) rfl rfl (by decide) rfl) ?_
      refine xg_t (xg_goto) ?_
      refine xg_t (xg_blk (b := [(105, 2, 2, 5, 0, 0), (107, 3, 37, 1, 0, 115), (110, 1, 2, 1, 0, 0), (111, 1, 10, 0, 0, 0), (112, 3, 6, 142, 3, 0), (115, 2, 2, 5, 0, 0), (117, 1, 3, 3, 0, 0), (118, 3, 6, 142, 3, 0), (121, 1, 0, 3, 0, 0), (122, 2, 2, 4, 0, 0), (124, 2, 2, 5, 0, 0), (126, 1, 0, 0, 0, 0), (127, 3, 1, 2, 3, 18), (130, 2, 2, 5, 0, 0), (132, 1, 10, 0, 0, 0), (133, 3, 13, 290, 40, 207), (136, 3, 9, 5, 1, 0), (139, 3, 8, 105, 0, 0)]) rfl) ?_
      refine xg_t (xg_iload (va := (0, 1)) rfl rfl) ?_
      refine xg_t (xg_gets) ?_
      refine xg_t (xg_iload (va := (0, 1)) rfl rfl) ?_
      refine xg_t (xg_ald8L (n := 1) (u := 2) xnm0 rfl rfl) ?_
      refine xg_t (xg_icF (u := 1) (v := 2) rfl xnm0 xnm0 (by decide)) ?_
      refine xg_t (xg_iload (va := (0, 1)) rfl rfl) ?_
      refine xg_t (xg_const) ?_
      refine xg_t (xg_icF (u := 1) (v := 3) rfl xnm0 xnm0 (by decide)) ?_
      refine xg_t (xg_aload (va := (2, 29)) rfl rfl) ?_
      refine xg_t (xg_iload (va := (0, n38)) rfl rfl) ?_
      refine xg_t (xg_iload (va := (0, 1)) rfl rfl) ?_
      refine xg_t (xg_aload (va := (2, 27)) rfl rfl) ?_
      refine xg_t (xg_getf (va := (2, 39)) (hb55.get (by decide) (hb43.get (by decide) h27_11)) rfl) ?_
      refine xg_t (xg_iload (va := (0, 1)) rfl rfl) ?_
      refine xg_ialdB (n := 1) (B := 4294967295) ((h39_13.but hb43 (by decide)).but hb55 (by decide)) (hb14) xnm0 (by omega) (fun u56 hu57 he58 => ?_)
      refine xg_cVv mX5_put (vs := [(0, n38), (0, 1), (0, u56)]) (rest := []) (cn1 := 0) (sl1 := 0) rfl (rputI (lim := 6) (wd := 4) (B := 4294967295) (hb55.get (by decide) hk42) hr53 (hb54) (by decide) (by omega) (by decide) (by decide) (by omega) (by omega) (by omega)) rfl (hb55.get (by decide) hk42) rfl rfl rfl rfl rfl rfl (fun w59 hq60 => ?_)
      obtain ⟨g61, hr62, hb63, hb64⟩ := hq60
      refine xg_t (xg_iinc (u := 1) (z := 2) (l1 := [(4, (0, n38)), (3, (2, 29)), (0, (2, 27)), (1, (0, 1)), (2, (0, pc_))]) rfl rfl (by decide) rfl) ?_
      refine xg_t (xg_goto) ?_
      refine xg_t (xg_blk (b := [(105, 2, 2, 5, 0, 0), (107, 3, 37, 1, 0, 115), (110, 1, 2, 1, 0, 0), (111, 1, 10, 0, 0, 0), (112, 3, 6, 142, 3, 0), (115, 2, 2, 5, 0, 0), (117, 1, 3, 3, 0, 0), (118, 3, 6, 142, 3, 0), (121, 1, 0, 3, 0, 0), (122, 2, 2, 4, 0, 0), (124, 2, 2, 5, 0, 0), (126, 1, 0, 0, 0, 0), (127, 3, 1, 2, 3, 18), (130, 2, 2, 5, 0, 0), (132, 1, 10, 0, 0, 0), (133, 3, 13, 290, 40, 207), (136, 3, 9, 5, 1, 0), (139, 3, 8, 105, 0, 0)]) rfl) ?_
      refine xg_t (xg_iload (va := (0, 2)) rfl rfl) ?_
      refine xg_t (xg_gets) ?_
      refine xg_t (xg_iload (va := (0, 1)) rfl rfl) ?_
      refine xg_t (xg_ald8L (n := 1) (u := 2) xnm0 rfl rfl) ?_
      refine xg_t (xg_icT (u := 2) (v := 2) rfl xnm0 xnm0 (by decide)) ?_
      refine xg_t (xg_blk (b := [(142, 1, 2, 1, 0, 0), (143, 3, 7, 165, 1, 0), (146, 1, 0, 3, 0, 0), (147, 2, 2, 4, 0, 0), (149, 1, 3, 3, 0, 0), (150, 1, 0, 0, 0, 0), (151, 3, 1, 2, 6, 153), (154, 3, 7, 161, 0, 0), (157, 1, 3, 1, 0, 0), (158, 3, 8, 162, 0, 0)]) rfl) ?_
      refine xg_t (xg_iload (va := (0, 1)) rfl rfl) ?_
      refine xg_t (xg_ifT (u := 1) rfl xnm0 (by decide)) ?_
      refine xg_t (xg_blk (b := [(165, 1, 2, 1, 0, 0), (166, 1, 3, 4, 0, 0), (167, 3, 6, 188, 1, 0), (170, 2, 2, 4, 0, 0), (172, 1, 0, 0, 0, 0), (173, 3, 1, 2, 5, 25), (176, 1, 31, 0, 0, 0), (177, 3, 6, 188, 3, 0), (180, 1, 0, 0, 0, 0), (181, 3, 1, 2, 5, 25), (184, 2, 2, 4, 0, 0), (186, 1, 2, 2, 0, 0), (187, 1, 17, 0, 0, 0)]) rfl) ?_
      refine xg_t (xg_iload (va := (0, 1)) rfl rfl) ?_
      refine xg_t (xg_const) ?_
      refine xg_t (xg_icT (u := 1) (v := 4) rfl xnm0 xnm0 (by decide)) ?_
      refine xg_t (xg_blk (b := [(188, 1, 12, 0, 0, 0)]) rfl) ?_
      exact xg_e ⟨w59, ⟨rfl, rfl⟩, xInv.up (S := [29, 30]) hI (((xFr.of (S := [29, 30]) hb43 (by decide)).tr (xFr.of (S := [29, 30]) hb55 (by decide))).tr (xFr.of (S := [29, 30]) hb64 (by decide))) (List.forall_mem_cons.mpr ⟨(show cp29 (wget w59 29) from ⟨s40, (hb64.get (by decide) (hb55.get (by decide) hk42)), by omega⟩), List.forall_mem_cons.mpr ⟨(show cpI 24 13 4294967295 (wget w59 30) from ⟨_, hr62, hb63⟩), fun _ h => absurd h List.not_mem_nil⟩⟩), (((xFr.of (S := [29, 30, 31, 32, 33, 34, 35, 36, 37, 38, 41]) hb43 (by decide)).tr (xFr.of (S := [29, 30, 31, 32, 33, 34, 35, 36, 37, 38, 41]) hb55 (by decide))).tr (xFr.of (S := [29, 30, 31, 32, 33, 34, 35, 36, 37, 38, 41]) hb64 (by decide)))⟩
  · obtain ⟨f28_65, f28_67, f28_69, f28_71, f28_73, h28_75, hb66, hb68, hb70, hb72, hb74⟩ := (hI 28 (by decide) : cp28 (wget w 28))
    refine xg_t (xg_cVr mX1_rowsOf (vs := [(0, 1)]) (rest := []) (rs := [(2, 31)]) (cn1 := 0) (sl1 := 0) rfl (hp20) rfl h28_75 rfl rfl rfl rfl rfl rfl rfl) ?_
    refine xg_t (xg_astore (l1 := [(0, (2, 27)), (1, (0, 1)), (2, (0, pc_))]) rfl rfl rfl) ?_
    refine xg_t (xg_aload (va := (2, 31)) rfl rfl) ?_
    refine xg_t (xg_ifnullF) ?_
    refine xg_t (xg_aload (va := (2, 31)) rfl rfl) ?_
    obtain ⟨f31_76, h31_78, hb77⟩ := (hI 31 (by decide) : cp31 (wget w 31))
    refine xg_t (xg_cVr mX5_isFull (vs := []) (rest := []) (rs := [(0, if 4 ≤ f31_76 then 1 else 0)]) (cn1 := 0) (sl1 := 0) rfl (rfull_ok h31_78 (by decide) (by omega)) rfl h31_78 rfl rfl rfl rfl rfl rfl rfl) ?_
    by_cases hc79 : 4 ≤ f31_76
    · refine xg_t (xg_ifF (u := (if 4 ≤ f31_76 then 1 else 0)) rfl xnm0 (xj_eqF (xite1 hc79))) ?_
      refine xg_t (xg_blk (b := [(95, 1, 12, 0, 0, 0)]) rfl) ?_
      exact xg_e ⟨w, ⟨rfl, rfl⟩, hI, xFr.rf⟩
    · refine xg_t (xg_ifT (u := (if 4 ≤ f31_76 then 1 else 0)) rfl xnm0 (xj_eqT (xite0 hc79))) ?_
      refine xg_t (xg_blk (b := [(96, 1, 0, 3, 0, 0), (97, 3, 13, 286, 40, 204), (100, 2, 15, 4, 0, 0), (102, 1, 3, 0, 0, 0), (103, 2, 15, 5, 0, 0)]) rfl) ?_
      refine xg_t (xg_aload (va := (2, 31)) rfl rfl) ?_
      refine xg_cVi mX5_grow (vs := []) (rest := []) (cn1 := 0) (sl1 := 0) rfl (rgrowI h31_78 (by decide) (by omega)) rfl h31_78 rfl rfl rfl rfl rfl rfl (fun n82 w80 hq81 => ?_)
      obtain ⟨hn83, s84, hs85, hk86, hb87⟩ := hq81
      refine xg_t (xg_istore (l1 := [(3, (2, 31)), (0, (2, 27)), (1, (0, 1)), (2, (0, pc_))]) rfl rfl rfl) ?_
      refine xg_t (xg_const) ?_
      refine xg_t (xg_istore (l1 := [(4, (0, n82)), (3, (2, 31)), (0, (2, 27)), (1, (0, 1)), (2, (0, pc_))]) rfl rfl rfl) ?_
      refine xg_t (xg_blk (b := [(105, 2, 2, 5, 0, 0), (107, 3, 37, 1, 0, 115), (110, 1, 2, 1, 0, 0), (111, 1, 10, 0, 0, 0), (112, 3, 6, 142, 3, 0), (115, 2, 2, 5, 0, 0), (117, 1, 3, 3, 0, 0), (118, 3, 6, 142, 3, 0), (121, 1, 0, 3, 0, 0), (122, 2, 2, 4, 0, 0), (124, 2, 2, 5, 0, 0), (126, 1, 0, 0, 0, 0), (127, 3, 1, 2, 3, 18), (130, 2, 2, 5, 0, 0), (132, 1, 10, 0, 0, 0), (133, 3, 13, 290, 40, 207), (136, 3, 9, 5, 1, 0), (139, 3, 8, 105, 0, 0)]) rfl) ?_
      refine xg_t (xg_iload (va := (0, 0)) rfl rfl) ?_
      refine xg_t (xg_gets) ?_
      refine xg_t (xg_iload (va := (0, 1)) rfl rfl) ?_
      refine xg_t (xg_ald8L (n := 1) (u := 2) xnm0 rfl rfl) ?_
      refine xg_t (xg_icF (u := 0) (v := 2) rfl xnm0 xnm0 (by decide)) ?_
      refine xg_t (xg_iload (va := (0, 0)) rfl rfl) ?_
      refine xg_t (xg_const) ?_
      refine xg_t (xg_icF (u := 0) (v := 3) rfl xnm0 xnm0 (by decide)) ?_
      refine xg_t (xg_aload (va := (2, 31)) rfl rfl) ?_
      refine xg_t (xg_iload (va := (0, n82)) rfl rfl) ?_
      refine xg_t (xg_iload (va := (0, 0)) rfl rfl) ?_
      refine xg_t (xg_aload (va := (2, 27)) rfl rfl) ?_
      refine xg_t (xg_getf (va := (2, 39)) (hb87.get (by decide) h27_11) rfl) ?_
      refine xg_t (xg_iload (va := (0, 0)) rfl rfl) ?_
      refine xg_ialdB (n := 0) (B := 4294967295) (h39_13.but hb87 (by decide)) (hb14) xnm0 (by omega) (fun u88 hu89 he90 => ?_)
      obtain ⟨g32_91, h32_92, hb93⟩ := (hI 32 (by decide) : cpI 8 14 4294967295 (wget w 32))
      have h32_92 : xRow w 32 8 14 g32_91 := h32_92
      refine xg_cVv mX5_put (vs := [(0, n82), (0, 0), (0, u88)]) (rest := []) (cn1 := 0) (sl1 := 0) rfl (rputI (lim := 4) (wd := 2) (B := 4294967295) hk86 (h32_92.but hb87 (by decide)) (hb93) (by decide) (by omega) (by decide) (by decide) (by omega) (by omega) (by omega)) rfl hk86 rfl rfl rfl rfl rfl rfl (fun w94 hq95 => ?_)
      obtain ⟨g96, hr97, hb98, hb99⟩ := hq95
      refine xg_t (xg_iinc (u := 0) (z := 1) (l1 := [(4, (0, n82)), (3, (2, 31)), (0, (2, 27)), (1, (0, 1)), (2, (0, pc_))]) rfl rfl (by decide) rfl) ?_
      refine xg_t (xg_goto) ?_
      refine xg_t (xg_blk (b := [(105, 2, 2, 5, 0, 0), (107, 3, 37, 1, 0, 115), (110, 1, 2, 1, 0, 0), (111, 1, 10, 0, 0, 0), (112, 3, 6, 142, 3, 0), (115, 2, 2, 5, 0, 0), (117, 1, 3, 3, 0, 0), (118, 3, 6, 142, 3, 0), (121, 1, 0, 3, 0, 0), (122, 2, 2, 4, 0, 0), (124, 2, 2, 5, 0, 0), (126, 1, 0, 0, 0, 0), (127, 3, 1, 2, 3, 18), (130, 2, 2, 5, 0, 0), (132, 1, 10, 0, 0, 0), (133, 3, 13, 290, 40, 207), (136, 3, 9, 5, 1, 0), (139, 3, 8, 105, 0, 0)]) rfl) ?_
      refine xg_t (xg_iload (va := (0, 1)) rfl rfl) ?_
      refine xg_t (xg_gets) ?_
      refine xg_t (xg_iload (va := (0, 1)) rfl rfl) ?_
      refine xg_t (xg_ald8L (n := 1) (u := 2) xnm0 rfl rfl) ?_
      refine xg_t (xg_icF (u := 1) (v := 2) rfl xnm0 xnm0 (by decide)) ?_
      refine xg_t (xg_iload (va := (0, 1)) rfl rfl) ?_
      refine xg_t (xg_const) ?_
      refine xg_t (xg_icF (u := 1) (v := 3) rfl xnm0 xnm0 (by decide)) ?_
      refine xg_t (xg_aload (va := (2, 31)) rfl rfl) ?_
      refine xg_t (xg_iload (va := (0, n82)) rfl rfl) ?_
      refine xg_t (xg_iload (va := (0, 1)) rfl rfl) ?_
      refine xg_t (xg_aload (va := (2, 27)) rfl rfl) ?_
      refine xg_t (xg_getf (va := (2, 39)) (hb99.get (by decide) (hb87.get (by decide) h27_11)) rfl) ?_
      refine xg_t (xg_iload (va := (0, 1)) rfl rfl) ?_
      refine xg_ialdB (n := 1) (B := 4294967295) ((h39_13.but hb87 (by decide)).but hb99 (by decide)) (hb14) xnm0 (by omega) (fun u100 hu101 he102 => ?_)
      refine xg_cVv mX5_put (vs := [(0, n82), (0, 1), (0, u100)]) (rest := []) (cn1 := 0) (sl1 := 0) rfl (rputI (lim := 4) (wd := 2) (B := 4294967295) (hb99.get (by decide) hk86) hr97 (hb98) (by decide) (by omega) (by decide) (by decide) (by omega) (by omega) (by omega)) rfl (hb99.get (by decide) hk86) rfl rfl rfl rfl rfl rfl (fun w103 hq104 => ?_)
      obtain ⟨g105, hr106, hb107, hb108⟩ := hq104
      refine xg_t (xg_iinc (u := 1) (z := 2) (l1 := [(4, (0, n82)), (3, (2, 31)), (0, (2, 27)), (1, (0, 1)), (2, (0, pc_))]) rfl rfl (by decide) rfl) ?_
      refine xg_t (xg_goto) ?_
      refine xg_t (xg_blk (b := [(105, 2, 2, 5, 0, 0), (107, 3, 37, 1, 0, 115), (110, 1, 2, 1, 0, 0), (111, 1, 10, 0, 0, 0), (112, 3, 6, 142, 3, 0), (115, 2, 2, 5, 0, 0), (117, 1, 3, 3, 0, 0), (118, 3, 6, 142, 3, 0), (121, 1, 0, 3, 0, 0), (122, 2, 2, 4, 0, 0), (124, 2, 2, 5, 0, 0), (126, 1, 0, 0, 0, 0), (127, 3, 1, 2, 3, 18), (130, 2, 2, 5, 0, 0), (132, 1, 10, 0, 0, 0), (133, 3, 13, 290, 40, 207), (136, 3, 9, 5, 1, 0), (139, 3, 8, 105, 0, 0)]) rfl) ?_
      refine xg_t (xg_iload (va := (0, 2)) rfl rfl) ?_
      refine xg_t (xg_gets) ?_
      refine xg_t (xg_iload (va := (0, 1)) rfl rfl) ?_
      refine xg_t (xg_ald8L (n := 1) (u := 2) xnm0 rfl rfl) ?_
      refine xg_t (xg_icT (u := 2) (v := 2) rfl xnm0 xnm0 (by decide)) ?_
      refine xg_t (xg_blk (b := [(142, 1, 2, 1, 0, 0), (143, 3, 7, 165, 1, 0), (146, 1, 0, 3, 0, 0), (147, 2, 2, 4, 0, 0), (149, 1, 3, 3, 0, 0), (150, 1, 0, 0, 0, 0), (151, 3, 1, 2, 6, 153), (154, 3, 7, 161, 0, 0), (157, 1, 3, 1, 0, 0), (158, 3, 8, 162, 0, 0)]) rfl) ?_
      refine xg_t (xg_iload (va := (0, 1)) rfl rfl) ?_
      refine xg_t (xg_ifT (u := 1) rfl xnm0 (by decide)) ?_
      refine xg_t (xg_blk (b := [(165, 1, 2, 1, 0, 0), (166, 1, 3, 4, 0, 0), (167, 3, 6, 188, 1, 0), (170, 2, 2, 4, 0, 0), (172, 1, 0, 0, 0, 0), (173, 3, 1, 2, 5, 25), (176, 1, 31, 0, 0, 0), (177, 3, 6, 188, 3, 0), (180, 1, 0, 0, 0, 0), (181, 3, 1, 2, 5, 25), (184, 2, 2, 4, 0, 0), (186, 1, 2, 2, 0, 0), (187, 1, 17, 0, 0, 0)]) rfl) ?_
      refine xg_t (xg_iload (va := (0, 1)) rfl rfl) ?_
      refine xg_t (xg_const) ?_
      refine xg_t (xg_icT (u := 1) (v := 4) rfl xnm0 xnm0 (by decide)) ?_
      refine xg_t (xg_blk (b := [(188, 1, 12, 0, 0, 0)]) rfl) ?_
      exact xg_e ⟨w103, ⟨rfl, rfl⟩, xInv.up (S := [31, 32]) hI (((xFr.of (S := [31, 32]) hb87 (by decide)).tr (xFr.of (S := [31, 32]) hb99 (by decide))).tr (xFr.of (S := [31, 32]) hb108 (by decide))) (List.forall_mem_cons.mpr ⟨(show cp31 (wget w103 31) from ⟨s84, (hb108.get (by decide) (hb99.get (by decide) hk86)), by omega⟩), List.forall_mem_cons.mpr ⟨(show cpI 8 14 4294967295 (wget w103 32) from ⟨_, hr106, hb107⟩), fun _ h => absurd h List.not_mem_nil⟩⟩), (((xFr.of (S := [29, 30, 31, 32, 33, 34, 35, 36, 37, 38, 41]) hb87 (by decide)).tr (xFr.of (S := [29, 30, 31, 32, 33, 34, 35, 36, 37, 38, 41]) hb99 (by decide))).tr (xFr.of (S := [29, 30, 31, 32, 33, 34, 35, 36, 37, 38, 41]) hb108 (by decide)))⟩
  · obtain ⟨f28_109, f28_111, f28_113, f28_115, f28_117, h28_119, hb110, hb112, hb114, hb116, hb118⟩ := (hI 28 (by decide) : cp28 (wget w 28))
    refine xg_t (xg_cVr mX1_rowsOf (vs := [(0, 1)]) (rest := []) (rs := [(2, 33)]) (cn1 := 0) (sl1 := 0) rfl (hp20) rfl h28_119 rfl rfl rfl rfl rfl rfl rfl) ?_
    refine xg_t (xg_astore (l1 := [(0, (2, 27)), (1, (0, 1)), (2, (0, pc_))]) rfl rfl rfl) ?_
    refine xg_t (xg_aload (va := (2, 33)) rfl rfl) ?_
    refine xg_t (xg_ifnullF) ?_
    refine xg_t (xg_aload (va := (2, 33)) rfl rfl) ?_
    obtain ⟨f33_120, h33_122, hb121⟩ := (hI 33 (by decide) : cp33 (wget w 33))
    refine xg_t (xg_cVr mX5_isFull (vs := []) (rest := []) (rs := [(0, if 6 ≤ f33_120 then 1 else 0)]) (cn1 := 0) (sl1 := 0) rfl (rfull_ok h33_122 (by decide) (by omega)) rfl h33_122 rfl rfl rfl rfl rfl rfl rfl) ?_
    by_cases hc123 : 6 ≤ f33_120
    · refine xg_t (xg_ifF (u := (if 6 ≤ f33_120 then 1 else 0)) rfl xnm0 (xj_eqF (xite1 hc123))) ?_
      refine xg_t (xg_blk (b := [(95, 1, 12, 0, 0, 0)]) rfl) ?_
      exact xg_e ⟨w, ⟨rfl, rfl⟩, hI, xFr.rf⟩
    · refine xg_t (xg_ifT (u := (if 6 ≤ f33_120 then 1 else 0)) rfl xnm0 (xj_eqT (xite0 hc123))) ?_
      refine xg_t (xg_blk (b := [(96, 1, 0, 3, 0, 0), (97, 3, 13, 286, 40, 204), (100, 2, 15, 4, 0, 0), (102, 1, 3, 0, 0, 0), (103, 2, 15, 5, 0, 0)]) rfl) ?_
      refine xg_t (xg_aload (va := (2, 33)) rfl rfl) ?_
      refine xg_cVi mX5_grow (vs := []) (rest := []) (cn1 := 0) (sl1 := 0) rfl (rgrowI h33_122 (by decide) (by omega)) rfl h33_122 rfl rfl rfl rfl rfl rfl (fun n126 w124 hq125 => ?_)
      obtain ⟨hn127, s128, hs129, hk130, hb131⟩ := hq125
      refine xg_t (xg_istore (l1 := [(3, (2, 33)), (0, (2, 27)), (1, (0, 1)), (2, (0, pc_))]) rfl rfl rfl) ?_
      refine xg_t (xg_const) ?_
      refine xg_t (xg_istore (l1 := [(4, (0, n126)), (3, (2, 33)), (0, (2, 27)), (1, (0, 1)), (2, (0, pc_))]) rfl rfl rfl) ?_
      refine xg_t (xg_blk (b := [(105, 2, 2, 5, 0, 0), (107, 3, 37, 1, 0, 115), (110, 1, 2, 1, 0, 0), (111, 1, 10, 0, 0, 0), (112, 3, 6, 142, 3, 0), (115, 2, 2, 5, 0, 0), (117, 1, 3, 3, 0, 0), (118, 3, 6, 142, 3, 0), (121, 1, 0, 3, 0, 0), (122, 2, 2, 4, 0, 0), (124, 2, 2, 5, 0, 0), (126, 1, 0, 0, 0, 0), (127, 3, 1, 2, 3, 18), (130, 2, 2, 5, 0, 0), (132, 1, 10, 0, 0, 0), (133, 3, 13, 290, 40, 207), (136, 3, 9, 5, 1, 0), (139, 3, 8, 105, 0, 0)]) rfl) ?_
      refine xg_t (xg_iload (va := (0, 0)) rfl rfl) ?_
      refine xg_t (xg_gets) ?_
      refine xg_t (xg_iload (va := (0, 1)) rfl rfl) ?_
      refine xg_t (xg_ald8L (n := 1) (u := 2) xnm0 rfl rfl) ?_
      refine xg_t (xg_icF (u := 0) (v := 2) rfl xnm0 xnm0 (by decide)) ?_
      refine xg_t (xg_iload (va := (0, 0)) rfl rfl) ?_
      refine xg_t (xg_const) ?_
      refine xg_t (xg_icF (u := 0) (v := 3) rfl xnm0 xnm0 (by decide)) ?_
      refine xg_t (xg_aload (va := (2, 33)) rfl rfl) ?_
      refine xg_t (xg_iload (va := (0, n126)) rfl rfl) ?_
      refine xg_t (xg_iload (va := (0, 0)) rfl rfl) ?_
      refine xg_t (xg_aload (va := (2, 27)) rfl rfl) ?_
      refine xg_t (xg_getf (va := (2, 39)) (hb131.get (by decide) h27_11) rfl) ?_
      refine xg_t (xg_iload (va := (0, 0)) rfl rfl) ?_
      refine xg_ialdB (n := 0) (B := 4294967295) (h39_13.but hb131 (by decide)) (hb14) xnm0 (by omega) (fun u132 hu133 he134 => ?_)
      obtain ⟨g34_135, h34_136, hb137⟩ := (hI 34 (by decide) : cpI 12 15 4294967295 (wget w 34))
      have h34_136 : xRow w 34 12 15 g34_135 := h34_136
      refine xg_cVv mX5_put (vs := [(0, n126), (0, 0), (0, u132)]) (rest := []) (cn1 := 0) (sl1 := 0) rfl (rputI (lim := 6) (wd := 2) (B := 4294967295) hk130 (h34_136.but hb131 (by decide)) (hb137) (by decide) (by omega) (by decide) (by decide) (by omega) (by omega) (by omega)) rfl hk130 rfl rfl rfl rfl rfl rfl (fun w138 hq139 => ?_)
      obtain ⟨g140, hr141, hb142, hb143⟩ := hq139
      refine xg_t (xg_iinc (u := 0) (z := 1) (l1 := [(4, (0, n126)), (3, (2, 33)), (0, (2, 27)), (1, (0, 1)), (2, (0, pc_))]) rfl rfl (by decide) rfl) ?_
      refine xg_t (xg_goto) ?_
      refine xg_t (xg_blk (b := [(105, 2, 2, 5, 0, 0), (107, 3, 37, 1, 0, 115), (110, 1, 2, 1, 0, 0), (111, 1, 10, 0, 0, 0), (112, 3, 6, 142, 3, 0), (115, 2, 2, 5, 0, 0), (117, 1, 3, 3, 0, 0), (118, 3, 6, 142, 3, 0), (121, 1, 0, 3, 0, 0), (122, 2, 2, 4, 0, 0), (124, 2, 2, 5, 0, 0), (126, 1, 0, 0, 0, 0), (127, 3, 1, 2, 3, 18), (130, 2, 2, 5, 0, 0), (132, 1, 10, 0, 0, 0), (133, 3, 13, 290, 40, 207), (136, 3, 9, 5, 1, 0), (139, 3, 8, 105, 0, 0)]) rfl) ?_
      refine xg_t (xg_iload (va := (0, 1)) rfl rfl) ?_
      refine xg_t (xg_gets) ?_
      refine xg_t (xg_iload (va := (0, 1)) rfl rfl) ?_
      refine xg_t (xg_ald8L (n := 1) (u := 2) xnm0 rfl rfl) ?_
      refine xg_t (xg_icF (u := 1) (v := 2) rfl xnm0 xnm0 (by decide)) ?_
      refine xg_t (xg_iload (va := (0, 1)) rfl rfl) ?_
      refine xg_t (xg_const) ?_
      refine xg_t (xg_icF (u := 1) (v := 3) rfl xnm0 xnm0 (by decide)) ?_
      refine xg_t (xg_aload (va := (2, 33)) rfl rfl) ?_
      refine xg_t (xg_iload (va := (0, n126)) rfl rfl) ?_
      refine xg_t (xg_iload (va := (0, 1)) rfl rfl) ?_
      refine xg_t (xg_aload (va := (2, 27)) rfl rfl) ?_
      refine xg_t (xg_getf (va := (2, 39)) (hb143.get (by decide) (hb131.get (by decide) h27_11)) rfl) ?_
      refine xg_t (xg_iload (va := (0, 1)) rfl rfl) ?_
      refine xg_ialdB (n := 1) (B := 4294967295) ((h39_13.but hb131 (by decide)).but hb143 (by decide)) (hb14) xnm0 (by omega) (fun u144 hu145 he146 => ?_)
      refine xg_cVv mX5_put (vs := [(0, n126), (0, 1), (0, u144)]) (rest := []) (cn1 := 0) (sl1 := 0) rfl (rputI (lim := 6) (wd := 2) (B := 4294967295) (hb143.get (by decide) hk130) hr141 (hb142) (by decide) (by omega) (by decide) (by decide) (by omega) (by omega) (by omega)) rfl (hb143.get (by decide) hk130) rfl rfl rfl rfl rfl rfl (fun w147 hq148 => ?_)
      obtain ⟨g149, hr150, hb151, hb152⟩ := hq148
      refine xg_t (xg_iinc (u := 1) (z := 2) (l1 := [(4, (0, n126)), (3, (2, 33)), (0, (2, 27)), (1, (0, 1)), (2, (0, pc_))]) rfl rfl (by decide) rfl) ?_
      refine xg_t (xg_goto) ?_
      refine xg_t (xg_blk (b := [(105, 2, 2, 5, 0, 0), (107, 3, 37, 1, 0, 115), (110, 1, 2, 1, 0, 0), (111, 1, 10, 0, 0, 0), (112, 3, 6, 142, 3, 0), (115, 2, 2, 5, 0, 0), (117, 1, 3, 3, 0, 0), (118, 3, 6, 142, 3, 0), (121, 1, 0, 3, 0, 0), (122, 2, 2, 4, 0, 0), (124, 2, 2, 5, 0, 0), (126, 1, 0, 0, 0, 0), (127, 3, 1, 2, 3, 18), (130, 2, 2, 5, 0, 0), (132, 1, 10, 0, 0, 0), (133, 3, 13, 290, 40, 207), (136, 3, 9, 5, 1, 0), (139, 3, 8, 105, 0, 0)]) rfl) ?_
      refine xg_t (xg_iload (va := (0, 2)) rfl rfl) ?_
      refine xg_t (xg_gets) ?_
      refine xg_t (xg_iload (va := (0, 1)) rfl rfl) ?_
      refine xg_t (xg_ald8L (n := 1) (u := 2) xnm0 rfl rfl) ?_
      refine xg_t (xg_icT (u := 2) (v := 2) rfl xnm0 xnm0 (by decide)) ?_
      refine xg_t (xg_blk (b := [(142, 1, 2, 1, 0, 0), (143, 3, 7, 165, 1, 0), (146, 1, 0, 3, 0, 0), (147, 2, 2, 4, 0, 0), (149, 1, 3, 3, 0, 0), (150, 1, 0, 0, 0, 0), (151, 3, 1, 2, 6, 153), (154, 3, 7, 161, 0, 0), (157, 1, 3, 1, 0, 0), (158, 3, 8, 162, 0, 0)]) rfl) ?_
      refine xg_t (xg_iload (va := (0, 1)) rfl rfl) ?_
      refine xg_t (xg_ifT (u := 1) rfl xnm0 (by decide)) ?_
      refine xg_t (xg_blk (b := [(165, 1, 2, 1, 0, 0), (166, 1, 3, 4, 0, 0), (167, 3, 6, 188, 1, 0), (170, 2, 2, 4, 0, 0), (172, 1, 0, 0, 0, 0), (173, 3, 1, 2, 5, 25), (176, 1, 31, 0, 0, 0), (177, 3, 6, 188, 3, 0), (180, 1, 0, 0, 0, 0), (181, 3, 1, 2, 5, 25), (184, 2, 2, 4, 0, 0), (186, 1, 2, 2, 0, 0), (187, 1, 17, 0, 0, 0)]) rfl) ?_
      refine xg_t (xg_iload (va := (0, 1)) rfl rfl) ?_
      refine xg_t (xg_const) ?_
      refine xg_t (xg_icT (u := 1) (v := 4) rfl xnm0 xnm0 (by decide)) ?_
      refine xg_t (xg_blk (b := [(188, 1, 12, 0, 0, 0)]) rfl) ?_
      exact xg_e ⟨w147, ⟨rfl, rfl⟩, xInv.up (S := [33, 34]) hI (((xFr.of (S := [33, 34]) hb131 (by decide)).tr (xFr.of (S := [33, 34]) hb143 (by decide))).tr (xFr.of (S := [33, 34]) hb152 (by decide))) (List.forall_mem_cons.mpr ⟨(show cp33 (wget w147 33) from ⟨s128, (hb152.get (by decide) (hb143.get (by decide) hk130)), by omega⟩), List.forall_mem_cons.mpr ⟨(show cpI 12 15 4294967295 (wget w147 34) from ⟨_, hr150, hb151⟩), fun _ h => absurd h List.not_mem_nil⟩⟩), (((xFr.of (S := [29, 30, 31, 32, 33, 34, 35, 36, 37, 38, 41]) hb131 (by decide)).tr (xFr.of (S := [29, 30, 31, 32, 33, 34, 35, 36, 37, 38, 41]) hb143 (by decide))).tr (xFr.of (S := [29, 30, 31, 32, 33, 34, 35, 36, 37, 38, 41]) hb152 (by decide)))⟩
  · obtain ⟨f28_153, f28_155, f28_157, f28_159, f28_161, h28_163, hb154, hb156, hb158, hb160, hb162⟩ := (hI 28 (by decide) : cp28 (wget w 28))
    refine xg_t (xg_cVr mX1_rowsOf (vs := [(0, 1)]) (rest := []) (rs := [(2, 35)]) (cn1 := 0) (sl1 := 0) rfl (hp20) rfl h28_163 rfl rfl rfl rfl rfl rfl rfl) ?_
    refine xg_t (xg_astore (l1 := [(0, (2, 27)), (1, (0, 1)), (2, (0, pc_))]) rfl rfl rfl) ?_
    refine xg_t (xg_aload (va := (2, 35)) rfl rfl) ?_
    refine xg_t (xg_ifnullF) ?_
    refine xg_t (xg_aload (va := (2, 35)) rfl rfl) ?_
    obtain ⟨f35_164, h35_166, hb165⟩ := (hI 35 (by decide) : cp35 (wget w 35))
    refine xg_t (xg_cVr mX5_isFull (vs := []) (rest := []) (rs := [(0, if 4 ≤ f35_164 then 1 else 0)]) (cn1 := 0) (sl1 := 0) rfl (rfull_ok h35_166 (by decide) (by omega)) rfl h35_166 rfl rfl rfl rfl rfl rfl rfl) ?_
    by_cases hc167 : 4 ≤ f35_164
    · refine xg_t (xg_ifF (u := (if 4 ≤ f35_164 then 1 else 0)) rfl xnm0 (xj_eqF (xite1 hc167))) ?_
      refine xg_t (xg_blk (b := [(95, 1, 12, 0, 0, 0)]) rfl) ?_
      exact xg_e ⟨w, ⟨rfl, rfl⟩, hI, xFr.rf⟩
    · refine xg_t (xg_ifT (u := (if 4 ≤ f35_164 then 1 else 0)) rfl xnm0 (xj_eqT (xite0 hc167))) ?_
      refine xg_t (xg_blk (b := [(96, 1, 0, 3, 0, 0), (97, 3, 13, 286, 40, 204), (100, 2, 15, 4, 0, 0), (102, 1, 3, 0, 0, 0), (103, 2, 15, 5, 0, 0)]) rfl) ?_
      refine xg_t (xg_aload (va := (2, 35)) rfl rfl) ?_
      refine xg_cVi mX5_grow (vs := []) (rest := []) (cn1 := 0) (sl1 := 0) rfl (rgrowI h35_166 (by decide) (by omega)) rfl h35_166 rfl rfl rfl rfl rfl rfl (fun n170 w168 hq169 => ?_)
      obtain ⟨hn171, s172, hs173, hk174, hb175⟩ := hq169
      refine xg_t (xg_istore (l1 := [(3, (2, 35)), (0, (2, 27)), (1, (0, 1)), (2, (0, pc_))]) rfl rfl rfl) ?_
      refine xg_t (xg_const) ?_
      refine xg_t (xg_istore (l1 := [(4, (0, n170)), (3, (2, 35)), (0, (2, 27)), (1, (0, 1)), (2, (0, pc_))]) rfl rfl rfl) ?_
      refine xg_t (xg_blk (b := [(105, 2, 2, 5, 0, 0), (107, 3, 37, 1, 0, 115), (110, 1, 2, 1, 0, 0), (111, 1, 10, 0, 0, 0), (112, 3, 6, 142, 3, 0), (115, 2, 2, 5, 0, 0), (117, 1, 3, 3, 0, 0), (118, 3, 6, 142, 3, 0), (121, 1, 0, 3, 0, 0), (122, 2, 2, 4, 0, 0), (124, 2, 2, 5, 0, 0), (126, 1, 0, 0, 0, 0), (127, 3, 1, 2, 3, 18), (130, 2, 2, 5, 0, 0), (132, 1, 10, 0, 0, 0), (133, 3, 13, 290, 40, 207), (136, 3, 9, 5, 1, 0), (139, 3, 8, 105, 0, 0)]) rfl) ?_
      refine xg_t (xg_iload (va := (0, 0)) rfl rfl) ?_
      refine xg_t (xg_gets) ?_
      refine xg_t (xg_iload (va := (0, 1)) rfl rfl) ?_
      refine xg_t (xg_ald8L (n := 1) (u := 2) xnm0 rfl rfl) ?_
      refine xg_t (xg_icF (u := 0) (v := 2) rfl xnm0 xnm0 (by decide)) ?_
      refine xg_t (xg_iload (va := (0, 0)) rfl rfl) ?_
      refine xg_t (xg_const) ?_
      refine xg_t (xg_icF (u := 0) (v := 3) rfl xnm0 xnm0 (by decide)) ?_
      refine xg_t (xg_aload (va := (2, 35)) rfl rfl) ?_
      refine xg_t (xg_iload (va := (0, n170)) rfl rfl) ?_
      refine xg_t (xg_iload (va := (0, 0)) rfl rfl) ?_
      refine xg_t (xg_aload (va := (2, 27)) rfl rfl) ?_
      refine xg_t (xg_getf (va := (2, 39)) (hb175.get (by decide) h27_11) rfl) ?_
      refine xg_t (xg_iload (va := (0, 0)) rfl rfl) ?_
      refine xg_ialdB (n := 0) (B := 4294967295) (h39_13.but hb175 (by decide)) (hb14) xnm0 (by omega) (fun u176 hu177 he178 => ?_)
      obtain ⟨g36_179, h36_180, hb181⟩ := (hI 36 (by decide) : cpI 12 16 4294967295 (wget w 36))
      have h36_180 : xRow w 36 12 16 g36_179 := h36_180
      refine xg_cVv mX5_put (vs := [(0, n170), (0, 0), (0, u176)]) (rest := []) (cn1 := 0) (sl1 := 0) rfl (rputI (lim := 4) (wd := 3) (B := 4294967295) hk174 (h36_180.but hb175 (by decide)) (hb181) (by decide) (by omega) (by decide) (by decide) (by omega) (by omega) (by omega)) rfl hk174 rfl rfl rfl rfl rfl rfl (fun w182 hq183 => ?_)
      obtain ⟨g184, hr185, hb186, hb187⟩ := hq183
      refine xg_t (xg_iinc (u := 0) (z := 1) (l1 := [(4, (0, n170)), (3, (2, 35)), (0, (2, 27)), (1, (0, 1)), (2, (0, pc_))]) rfl rfl (by decide) rfl) ?_
      refine xg_t (xg_goto) ?_
      refine xg_t (xg_blk (b := [(105, 2, 2, 5, 0, 0), (107, 3, 37, 1, 0, 115), (110, 1, 2, 1, 0, 0), (111, 1, 10, 0, 0, 0), (112, 3, 6, 142, 3, 0), (115, 2, 2, 5, 0, 0), (117, 1, 3, 3, 0, 0), (118, 3, 6, 142, 3, 0), (121, 1, 0, 3, 0, 0), (122, 2, 2, 4, 0, 0), (124, 2, 2, 5, 0, 0), (126, 1, 0, 0, 0, 0), (127, 3, 1, 2, 3, 18), (130, 2, 2, 5, 0, 0), (132, 1, 10, 0, 0, 0), (133, 3, 13, 290, 40, 207), (136, 3, 9, 5, 1, 0), (139, 3, 8, 105, 0, 0)]) rfl) ?_
      refine xg_t (xg_iload (va := (0, 1)) rfl rfl) ?_
      refine xg_t (xg_gets) ?_
      refine xg_t (xg_iload (va := (0, 1)) rfl rfl) ?_
      refine xg_t (xg_ald8L (n := 1) (u := 2) xnm0 rfl rfl) ?_
      refine xg_t (xg_icF (u := 1) (v := 2) rfl xnm0 xnm0 (by decide)) ?_
      refine xg_t (xg_iload (va := (0, 1)) rfl rfl) ?_
      refine xg_t (xg_const) ?_
      refine xg_t (xg_icF (u := 1) (v := 3) rfl xnm0 xnm0 (by decide)) ?_
      refine xg_t (xg_aload (va := (2, 35)) rfl rfl) ?_
      refine xg_t (xg_iload (va := (0, n170)) rfl rfl) ?_
      refine xg_t (xg_iload (va := (0, 1)) rfl rfl) ?_
      refine xg_t (xg_aload (va := (2, 27)) rfl rfl) ?_
      refine xg_t (xg_getf (va := (2, 39)) (hb187.get (by decide) (hb175.get (by decide) h27_11)) rfl) ?_
      refine xg_t (xg_iload (va := (0, 1)) rfl rfl) ?_
      refine xg_ialdB (n := 1) (B := 4294967295) ((h39_13.but hb175 (by decide)).but hb187 (by decide)) (hb14) xnm0 (by omega) (fun u188 hu189 he190 => ?_)
      refine xg_cVv mX5_put (vs := [(0, n170), (0, 1), (0, u188)]) (rest := []) (cn1 := 0) (sl1 := 0) rfl (rputI (lim := 4) (wd := 3) (B := 4294967295) (hb187.get (by decide) hk174) hr185 (hb186) (by decide) (by omega) (by decide) (by decide) (by omega) (by omega) (by omega)) rfl (hb187.get (by decide) hk174) rfl rfl rfl rfl rfl rfl (fun w191 hq192 => ?_)
      obtain ⟨g193, hr194, hb195, hb196⟩ := hq192
      refine xg_t (xg_iinc (u := 1) (z := 2) (l1 := [(4, (0, n170)), (3, (2, 35)), (0, (2, 27)), (1, (0, 1)), (2, (0, pc_))]) rfl rfl (by decide) rfl) ?_
      refine xg_t (xg_goto) ?_
      refine xg_t (xg_blk (b := [(105, 2, 2, 5, 0, 0), (107, 3, 37, 1, 0, 115), (110, 1, 2, 1, 0, 0), (111, 1, 10, 0, 0, 0), (112, 3, 6, 142, 3, 0), (115, 2, 2, 5, 0, 0), (117, 1, 3, 3, 0, 0), (118, 3, 6, 142, 3, 0), (121, 1, 0, 3, 0, 0), (122, 2, 2, 4, 0, 0), (124, 2, 2, 5, 0, 0), (126, 1, 0, 0, 0, 0), (127, 3, 1, 2, 3, 18), (130, 2, 2, 5, 0, 0), (132, 1, 10, 0, 0, 0), (133, 3, 13, 290, 40, 207), (136, 3, 9, 5, 1, 0), (139, 3, 8, 105, 0, 0)]) rfl) ?_
      refine xg_t (xg_iload (va := (0, 2)) rfl rfl) ?_
      refine xg_t (xg_gets) ?_
      refine xg_t (xg_iload (va := (0, 1)) rfl rfl) ?_
      refine xg_t (xg_ald8L (n := 1) (u := 2) xnm0 rfl rfl) ?_
      refine xg_t (xg_icT (u := 2) (v := 2) rfl xnm0 xnm0 (by decide)) ?_
      refine xg_t (xg_blk (b := [(142, 1, 2, 1, 0, 0), (143, 3, 7, 165, 1, 0), (146, 1, 0, 3, 0, 0), (147, 2, 2, 4, 0, 0), (149, 1, 3, 3, 0, 0), (150, 1, 0, 0, 0, 0), (151, 3, 1, 2, 6, 153), (154, 3, 7, 161, 0, 0), (157, 1, 3, 1, 0, 0), (158, 3, 8, 162, 0, 0)]) rfl) ?_
      refine xg_t (xg_iload (va := (0, 1)) rfl rfl) ?_
      refine xg_t (xg_ifT (u := 1) rfl xnm0 (by decide)) ?_
      refine xg_t (xg_blk (b := [(165, 1, 2, 1, 0, 0), (166, 1, 3, 4, 0, 0), (167, 3, 6, 188, 1, 0), (170, 2, 2, 4, 0, 0), (172, 1, 0, 0, 0, 0), (173, 3, 1, 2, 5, 25), (176, 1, 31, 0, 0, 0), (177, 3, 6, 188, 3, 0), (180, 1, 0, 0, 0, 0), (181, 3, 1, 2, 5, 25), (184, 2, 2, 4, 0, 0), (186, 1, 2, 2, 0, 0), (187, 1, 17, 0, 0, 0)]) rfl) ?_
      refine xg_t (xg_iload (va := (0, 1)) rfl rfl) ?_
      refine xg_t (xg_const) ?_
      refine xg_t (xg_icT (u := 1) (v := 4) rfl xnm0 xnm0 (by decide)) ?_
      refine xg_t (xg_blk (b := [(188, 1, 12, 0, 0, 0)]) rfl) ?_
      exact xg_e ⟨w191, ⟨rfl, rfl⟩, xInv.up (S := [35, 36]) hI (((xFr.of (S := [35, 36]) hb175 (by decide)).tr (xFr.of (S := [35, 36]) hb187 (by decide))).tr (xFr.of (S := [35, 36]) hb196 (by decide))) (List.forall_mem_cons.mpr ⟨(show cp35 (wget w191 35) from ⟨s172, (hb196.get (by decide) (hb187.get (by decide) hk174)), by omega⟩), List.forall_mem_cons.mpr ⟨(show cpI 12 16 4294967295 (wget w191 36) from ⟨_, hr194, hb195⟩), fun _ h => absurd h List.not_mem_nil⟩⟩), (((xFr.of (S := [29, 30, 31, 32, 33, 34, 35, 36, 37, 38, 41]) hb175 (by decide)).tr (xFr.of (S := [29, 30, 31, 32, 33, 34, 35, 36, 37, 38, 41]) hb187 (by decide))).tr (xFr.of (S := [29, 30, 31, 32, 33, 34, 35, 36, 37, 38, 41]) hb196 (by decide)))⟩
  · obtain ⟨f28_197, f28_199, f28_201, f28_203, f28_205, h28_207, hb198, hb200, hb202, hb204, hb206⟩ := (hI 28 (by decide) : cp28 (wget w 28))
    refine xg_t (xg_cVr mX1_rowsOf (vs := [(0, 1)]) (rest := []) (rs := [(2, 37)]) (cn1 := 0) (sl1 := 0) rfl (hp20) rfl h28_207 rfl rfl rfl rfl rfl rfl rfl) ?_
    refine xg_t (xg_astore (l1 := [(0, (2, 27)), (1, (0, 1)), (2, (0, pc_))]) rfl rfl rfl) ?_
    refine xg_t (xg_aload (va := (2, 37)) rfl rfl) ?_
    refine xg_t (xg_ifnullF) ?_
    refine xg_t (xg_aload (va := (2, 37)) rfl rfl) ?_
    obtain ⟨f37_208, h37_210, hb209⟩ := (hI 37 (by decide) : cp37 (wget w 37))
    refine xg_t (xg_cVr mX5_isFull (vs := []) (rest := []) (rs := [(0, if 20 ≤ f37_208 then 1 else 0)]) (cn1 := 0) (sl1 := 0) rfl (rfull_ok h37_210 (by decide) (by omega)) rfl h37_210 rfl rfl rfl rfl rfl rfl rfl) ?_
    by_cases hc211 : 20 ≤ f37_208
    · refine xg_t (xg_ifF (u := (if 20 ≤ f37_208 then 1 else 0)) rfl xnm0 (xj_eqF (xite1 hc211))) ?_
      refine xg_t (xg_blk (b := [(95, 1, 12, 0, 0, 0)]) rfl) ?_
      exact xg_e ⟨w, ⟨rfl, rfl⟩, hI, xFr.rf⟩
    · refine xg_t (xg_ifT (u := (if 20 ≤ f37_208 then 1 else 0)) rfl xnm0 (xj_eqT (xite0 hc211))) ?_
      refine xg_t (xg_blk (b := [(96, 1, 0, 3, 0, 0), (97, 3, 13, 286, 40, 204), (100, 2, 15, 4, 0, 0), (102, 1, 3, 0, 0, 0), (103, 2, 15, 5, 0, 0)]) rfl) ?_
      refine xg_t (xg_aload (va := (2, 37)) rfl rfl) ?_
      refine xg_cVi mX5_grow (vs := []) (rest := []) (cn1 := 0) (sl1 := 0) rfl (rgrowI h37_210 (by decide) (by omega)) rfl h37_210 rfl rfl rfl rfl rfl rfl (fun n214 w212 hq213 => ?_)
      obtain ⟨hn215, s216, hs217, hk218, hb219⟩ := hq213
      refine xg_t (xg_istore (l1 := [(3, (2, 37)), (0, (2, 27)), (1, (0, 1)), (2, (0, pc_))]) rfl rfl rfl) ?_
      refine xg_t (xg_const) ?_
      refine xg_t (xg_istore (l1 := [(4, (0, n214)), (3, (2, 37)), (0, (2, 27)), (1, (0, 1)), (2, (0, pc_))]) rfl rfl rfl) ?_
      refine xg_t (xg_blk (b := [(105, 2, 2, 5, 0, 0), (107, 3, 37, 1, 0, 115), (110, 1, 2, 1, 0, 0), (111, 1, 10, 0, 0, 0), (112, 3, 6, 142, 3, 0), (115, 2, 2, 5, 0, 0), (117, 1, 3, 3, 0, 0), (118, 3, 6, 142, 3, 0), (121, 1, 0, 3, 0, 0), (122, 2, 2, 4, 0, 0), (124, 2, 2, 5, 0, 0), (126, 1, 0, 0, 0, 0), (127, 3, 1, 2, 3, 18), (130, 2, 2, 5, 0, 0), (132, 1, 10, 0, 0, 0), (133, 3, 13, 290, 40, 207), (136, 3, 9, 5, 1, 0), (139, 3, 8, 105, 0, 0)]) rfl) ?_
      refine xg_t (xg_iload (va := (0, 0)) rfl rfl) ?_
      refine xg_t (xg_gets) ?_
      refine xg_t (xg_iload (va := (0, 1)) rfl rfl) ?_
      refine xg_t (xg_ald8L (n := 1) (u := 2) xnm0 rfl rfl) ?_
      refine xg_t (xg_icF (u := 0) (v := 2) rfl xnm0 xnm0 (by decide)) ?_
      refine xg_t (xg_iload (va := (0, 0)) rfl rfl) ?_
      refine xg_t (xg_const) ?_
      refine xg_t (xg_icF (u := 0) (v := 3) rfl xnm0 xnm0 (by decide)) ?_
      refine xg_t (xg_aload (va := (2, 37)) rfl rfl) ?_
      refine xg_t (xg_iload (va := (0, n214)) rfl rfl) ?_
      refine xg_t (xg_iload (va := (0, 0)) rfl rfl) ?_
      refine xg_t (xg_aload (va := (2, 27)) rfl rfl) ?_
      refine xg_t (xg_getf (va := (2, 39)) (hb219.get (by decide) h27_11) rfl) ?_
      refine xg_t (xg_iload (va := (0, 0)) rfl rfl) ?_
      refine xg_ialdB (n := 0) (B := 4294967295) (h39_13.but hb219 (by decide)) (hb14) xnm0 (by omega) (fun u220 hu221 he222 => ?_)
      obtain ⟨g38_223, h38_224, hb225⟩ := (hI 38 (by decide) : cpI 40 17 4294967295 (wget w 38))
      have h38_224 : xRow w 38 40 17 g38_223 := h38_224
      refine xg_cVv mX5_put (vs := [(0, n214), (0, 0), (0, u220)]) (rest := []) (cn1 := 0) (sl1 := 0) rfl (rputI (lim := 20) (wd := 2) (B := 4294967295) hk218 (h38_224.but hb219 (by decide)) (hb225) (by decide) (by omega) (by decide) (by decide) (by omega) (by omega) (by omega)) rfl hk218 rfl rfl rfl rfl rfl rfl (fun w226 hq227 => ?_)
      obtain ⟨g228, hr229, hb230, hb231⟩ := hq227
      refine xg_t (xg_iinc (u := 0) (z := 1) (l1 := [(4, (0, n214)), (3, (2, 37)), (0, (2, 27)), (1, (0, 1)), (2, (0, pc_))]) rfl rfl (by decide) rfl) ?_
      refine xg_t (xg_goto) ?_
      refine xg_t (xg_blk (b := [(105, 2, 2, 5, 0, 0), (107, 3, 37, 1, 0, 115), (110, 1, 2, 1, 0, 0), (111, 1, 10, 0, 0, 0), (112, 3, 6, 142, 3, 0), (115, 2, 2, 5, 0, 0), (117, 1, 3, 3, 0, 0), (118, 3, 6, 142, 3, 0), (121, 1, 0, 3, 0, 0), (122, 2, 2, 4, 0, 0), (124, 2, 2, 5, 0, 0), (126, 1, 0, 0, 0, 0), (127, 3, 1, 2, 3, 18), (130, 2, 2, 5, 0, 0), (132, 1, 10, 0, 0, 0), (133, 3, 13, 290, 40, 207), (136, 3, 9, 5, 1, 0), (139, 3, 8, 105, 0, 0)]) rfl) ?_
      refine xg_t (xg_iload (va := (0, 1)) rfl rfl) ?_
      refine xg_t (xg_gets) ?_
      refine xg_t (xg_iload (va := (0, 1)) rfl rfl) ?_
      refine xg_t (xg_ald8L (n := 1) (u := 2) xnm0 rfl rfl) ?_
      refine xg_t (xg_icF (u := 1) (v := 2) rfl xnm0 xnm0 (by decide)) ?_
      refine xg_t (xg_iload (va := (0, 1)) rfl rfl) ?_
      refine xg_t (xg_const) ?_
      refine xg_t (xg_icF (u := 1) (v := 3) rfl xnm0 xnm0 (by decide)) ?_
      refine xg_t (xg_aload (va := (2, 37)) rfl rfl) ?_
      refine xg_t (xg_iload (va := (0, n214)) rfl rfl) ?_
      refine xg_t (xg_iload (va := (0, 1)) rfl rfl) ?_
      refine xg_t (xg_aload (va := (2, 27)) rfl rfl) ?_
      refine xg_t (xg_getf (va := (2, 39)) (hb231.get (by decide) (hb219.get (by decide) h27_11)) rfl) ?_
      refine xg_t (xg_iload (va := (0, 1)) rfl rfl) ?_
      refine xg_ialdB (n := 1) (B := 4294967295) ((h39_13.but hb219 (by decide)).but hb231 (by decide)) (hb14) xnm0 (by omega) (fun u232 hu233 he234 => ?_)
      refine xg_cVv mX5_put (vs := [(0, n214), (0, 1), (0, u232)]) (rest := []) (cn1 := 0) (sl1 := 0) rfl (rputI (lim := 20) (wd := 2) (B := 4294967295) (hb231.get (by decide) hk218) hr229 (hb230) (by decide) (by omega) (by decide) (by decide) (by omega) (by omega) (by omega)) rfl (hb231.get (by decide) hk218) rfl rfl rfl rfl rfl rfl (fun w235 hq236 => ?_)
      obtain ⟨g237, hr238, hb239, hb240⟩ := hq236
      refine xg_t (xg_iinc (u := 1) (z := 2) (l1 := [(4, (0, n214)), (3, (2, 37)), (0, (2, 27)), (1, (0, 1)), (2, (0, pc_))]) rfl rfl (by decide) rfl) ?_
      refine xg_t (xg_goto) ?_
      refine xg_t (xg_blk (b := [(105, 2, 2, 5, 0, 0), (107, 3, 37, 1, 0, 115), (110, 1, 2, 1, 0, 0), (111, 1, 10, 0, 0, 0), (112, 3, 6, 142, 3, 0), (115, 2, 2, 5, 0, 0), (117, 1, 3, 3, 0, 0), (118, 3, 6, 142, 3, 0), (121, 1, 0, 3, 0, 0), (122, 2, 2, 4, 0, 0), (124, 2, 2, 5, 0, 0), (126, 1, 0, 0, 0, 0), (127, 3, 1, 2, 3, 18), (130, 2, 2, 5, 0, 0), (132, 1, 10, 0, 0, 0), (133, 3, 13, 290, 40, 207), (136, 3, 9, 5, 1, 0), (139, 3, 8, 105, 0, 0)]) rfl) ?_
      refine xg_t (xg_iload (va := (0, 2)) rfl rfl) ?_
      refine xg_t (xg_gets) ?_
      refine xg_t (xg_iload (va := (0, 1)) rfl rfl) ?_
      refine xg_t (xg_ald8L (n := 1) (u := 2) xnm0 rfl rfl) ?_
      refine xg_t (xg_icT (u := 2) (v := 2) rfl xnm0 xnm0 (by decide)) ?_
      refine xg_t (xg_blk (b := [(142, 1, 2, 1, 0, 0), (143, 3, 7, 165, 1, 0), (146, 1, 0, 3, 0, 0), (147, 2, 2, 4, 0, 0), (149, 1, 3, 3, 0, 0), (150, 1, 0, 0, 0, 0), (151, 3, 1, 2, 6, 153), (154, 3, 7, 161, 0, 0), (157, 1, 3, 1, 0, 0), (158, 3, 8, 162, 0, 0)]) rfl) ?_
      refine xg_t (xg_iload (va := (0, 1)) rfl rfl) ?_
      refine xg_t (xg_ifT (u := 1) rfl xnm0 (by decide)) ?_
      refine xg_t (xg_blk (b := [(165, 1, 2, 1, 0, 0), (166, 1, 3, 4, 0, 0), (167, 3, 6, 188, 1, 0), (170, 2, 2, 4, 0, 0), (172, 1, 0, 0, 0, 0), (173, 3, 1, 2, 5, 25), (176, 1, 31, 0, 0, 0), (177, 3, 6, 188, 3, 0), (180, 1, 0, 0, 0, 0), (181, 3, 1, 2, 5, 25), (184, 2, 2, 4, 0, 0), (186, 1, 2, 2, 0, 0), (187, 1, 17, 0, 0, 0)]) rfl) ?_
      refine xg_t (xg_iload (va := (0, 1)) rfl rfl) ?_
      refine xg_t (xg_const) ?_
      refine xg_t (xg_icT (u := 1) (v := 4) rfl xnm0 xnm0 (by decide)) ?_
      refine xg_t (xg_blk (b := [(188, 1, 12, 0, 0, 0)]) rfl) ?_
      exact xg_e ⟨w235, ⟨rfl, rfl⟩, xInv.up (S := [37, 38]) hI (((xFr.of (S := [37, 38]) hb219 (by decide)).tr (xFr.of (S := [37, 38]) hb231 (by decide))).tr (xFr.of (S := [37, 38]) hb240 (by decide))) (List.forall_mem_cons.mpr ⟨(show cp37 (wget w235 37) from ⟨s216, (hb240.get (by decide) (hb231.get (by decide) hk218)), by omega⟩), List.forall_mem_cons.mpr ⟨(show cpI 40 17 4294967295 (wget w235 38) from ⟨_, hr238, hb239⟩), fun _ h => absurd h List.not_mem_nil⟩⟩), (((xFr.of (S := [29, 30, 31, 32, 33, 34, 35, 36, 37, 38, 41]) hb219 (by decide)).tr (xFr.of (S := [29, 30, 31, 32, 33, 34, 35, 36, 37, 38, 41]) hb231 (by decide))).tr (xFr.of (S := [29, 30, 31, 32, 33, 34, 35, 36, 37, 38, 41]) hb240 (by decide)))⟩
  · obtain ⟨f28_241, f28_243, f28_245, f28_247, f28_249, h28_251, hb242, hb244, hb246, hb248, hb250⟩ := (hI 28 (by decide) : cp28 (wget w 28))
    refine xg_t (xg_cVr mX1_rowsOf (vs := [(0, 1)]) (rest := []) (rs := [(3, 0)]) (cn1 := 0) (sl1 := 0) rfl (hp20) rfl h28_251 rfl rfl rfl rfl rfl rfl rfl) ?_
    refine xg_t (xg_astore (l1 := [(0, (2, 27)), (1, (0, 1)), (2, (0, pc_))]) rfl rfl rfl) ?_
    refine xg_t (xg_aload (va := (3, 0)) rfl rfl) ?_
    refine xg_t (xg_ifnullT) ?_
    refine xg_t (xg_blk (b := [(95, 1, 12, 0, 0, 0)]) rfl) ?_
    exact xg_e ⟨w, ⟨rfl, rfl⟩, hI, xFr.rf⟩
theorem ftFine2 {pc_ : Nat} (hI : xInv w) (h1 : pc_ ≤ 4294967295) : xPi (d + 3) mX2_isFine [(2, 27), (0, 2), (0, pc_)] w bd fc rr (fun n w' => (n ≤ 1) ∧ xInv w' ∧ xFr [27] w w') := by
  refine xPi.of ?_
  show xTo (d + 3) mX2_isFine (0, [], [(0, (2, 27)), (1, (0, 2)), (2, (0, pc_))], [], (w, bd, fc, 0, 0, rr)) (fun φ => ∃ n w', xEnd 4 [(0, n)] (w', bd, fc, 0, 0, rr) φ ∧ (n ≤ 1) ∧ xInv w' ∧ xFr [27] w w')
  obtain ⟨f27_1, f27_3, f27_5, f27_7, f27_9, h27_11, hb2, hb4, hb6, hb8, hb10⟩ := (hI 27 (by decide) : cp27 (wget w 27))
  obtain ⟨g39_12, h39_13, hb14⟩ := (hI 39 (by decide) : cpI 3 18 4294967295 (wget w 39))
  have h39_13 : xRow w 39 3 18 g39_12 := h39_13
  obtain ⟨g40_15, h40_16, hb17⟩ := (hI 40 (by decide) : cpI 3 19 4294967295 (wget w 40))
  have h40_16 : xRow w 40 3 19 g40_15 := h40_16
  refine xg_t (xg_blk (b := [(0, 1, 0, 0, 0, 0), (1, 1, 2, 1, 0, 0), (2, 3, 13, 249, 16, 158), (5, 3, 7, 20, 0, 0), (8, 1, 0, 0, 0, 0), (9, 1, 3, 3, 0, 0), (10, 3, 14, 2, 9, 57), (13, 1, 0, 0, 0, 0), (14, 1, 2, 2, 0, 0), (15, 3, 14, 2, 10, 88), (18, 1, 3, 0, 0, 0), (19, 1, 12, 0, 1, 0)]) rfl) ?_
  refine xg_t (xg_aload (va := (2, 27)) rfl rfl) ?_
  refine xg_t (xg_iload (va := (0, 2)) rfl rfl) ?_
  refine xg_cVi mX2_isTooMany (vs := [(0, 2)]) (rest := []) (cn1 := 0) (sl1 := 0) rfl (ftTooMany (hI) (by omega)) rfl h27_11 rfl rfl rfl rfl rfl rfl (fun n22 w18 hq19 => ?_)
  obtain ⟨hn23, hI20, hF21⟩ := hq19
  by_cases hc24 : n22 = 0
  · refine xg_t (xg_ifT (u := n22) rfl xnm0 (xj_eqT hc24)) ?_
    refine xg_t (xg_blk (b := [(20, 1, 2, 1, 0, 0), (21, 3, 7, 30, 2, 0), (24, 1, 2, 1, 0, 0), (25, 2, 4, 7, 0, 0), (27, 3, 6, 32, 2, 0)]) rfl) ?_
    refine xg_t (xg_iload (va := (0, 2)) rfl rfl) ?_
    refine xg_t (xg_ifF (u := 2) rfl xnm0 (by decide)) ?_
    refine xg_t (xg_iload (va := (0, 2)) rfl rfl) ?_
    refine xg_t (xg_bip) ?_
    refine xg_t (xg_icT (u := 2) (v := 7) rfl xnm0 xnm0 (by decide)) ?_
    refine xg_t (xg_blk (b := [(32, 1, 3, 0, 0, 0), (33, 1, 15, 3, 0, 0)]) rfl) ?_
    refine xg_t (xg_const) ?_
    refine xg_t (xg_istore (l1 := [(0, (2, 27)), (1, (0, 2)), (2, (0, pc_))]) rfl rfl rfl) ?_
    refine xg_t (xg_blk (b := [(34, 1, 2, 3, 0, 0), (35, 3, 37, 1, 0, 115), (38, 1, 2, 1, 0, 0), (39, 1, 10, 0, 0, 0), (40, 3, 6, 101, 3, 0), (43, 1, 2, 3, 0, 0), (44, 1, 3, 3, 0, 0), (45, 3, 6, 101, 3, 0), (48, 1, 0, 0, 0, 0), (49, 3, 1, 2, 3, 18), (52, 1, 2, 3, 0, 0), (53, 1, 10, 0, 0, 0), (54, 3, 37, 2, 0, 162), (57, 1, 2, 1, 0, 0), (58, 1, 3, 3, 0, 0), (59, 1, 16, 0, 0, 0), (60, 1, 2, 3, 0, 0), (61, 1, 11, 0, 0, 0), (62, 1, 10, 0, 0, 0), (63, 3, 37, 3, 0, 165), (66, 1, 2, 1, 0, 0), (67, 1, 3, 3, 0, 0), (68, 1, 16, 0, 0, 0), (69, 1, 2, 3, 0, 0), (70, 1, 11, 0, 0, 0), (71, 1, 10, 0, 0, 0), (72, 3, 13, 70, 91, 168), (75, 3, 7, 95, 1, 0), (78, 1, 0, 0, 0, 0), (79, 1, 3, 2, 0, 0), (80, 3, 14, 2, 9, 57), (83, 1, 0, 0, 0, 0), (84, 1, 0, 0, 0, 0), (85, 3, 1, 2, 4, 22), (88, 1, 2, 3, 0, 0), (89, 1, 10, 0, 0, 0), (90, 3, 14, 2, 10, 88), (93, 1, 3, 0, 0, 0), (94, 1, 12, 0, 1, 0)]) rfl) ?_
    refine xg_t (xg_iload (va := (0, 0)) rfl rfl) ?_
    refine xg_t (xg_gets) ?_
    refine xg_t (xg_iload (va := (0, 2)) rfl rfl) ?_
    refine xg_t (xg_ald8L (n := 2) (u := 2) xnm0 rfl rfl) ?_
    refine xg_t (xg_icF (u := 0) (v := 2) rfl xnm0 xnm0 (by decide)) ?_
    refine xg_t (xg_iload (va := (0, 0)) rfl rfl) ?_
    refine xg_t (xg_const) ?_
    refine xg_t (xg_icF (u := 0) (v := 3) rfl xnm0 xnm0 (by decide)) ?_
    refine xg_t (xg_aload (va := (2, 27)) rfl rfl) ?_
    refine xg_t (xg_getf (va := (2, 39)) (hF21.get (by decide) h27_11) rfl) ?_
    refine xg_t (xg_iload (va := (0, 0)) rfl rfl) ?_
    refine xg_ialdB (n := 0) (B := 4294967295) (h39_13.fr hF21 (by decide)) (hb14) xnm0 (by omega) (fun u25 hu26 he27 => ?_)
    refine xg_t (xg_gets) ?_
    refine xg_t (xg_iload (va := (0, 2)) rfl rfl) ?_
    refine xg_t (xg_const) ?_
    refine xg_t (xg_imul (u := 2) (v := 3) (z := 6) xnm0 xnm0 (by decide)) ?_
    refine xg_t (xg_iload (va := (0, 0)) rfl rfl) ?_
    refine xg_t (xg_iadd (u := 6) (v := 0) (z := 6) xnm0 xnm0 (by decide)) ?_
    refine xg_t (xg_ald8L (n := 6) (u := 1) xnm0 rfl rfl) ?_
    refine xg_t (xg_gets) ?_
    refine xg_t (xg_iload (va := (0, 2)) rfl rfl) ?_
    refine xg_t (xg_const) ?_
    refine xg_t (xg_imul (u := 2) (v := 3) (z := 6) xnm0 xnm0 (by decide)) ?_
    refine xg_t (xg_iload (va := (0, 0)) rfl rfl) ?_
    refine xg_t (xg_iadd (u := 6) (v := 0) (z := 6) xnm0 xnm0 (by decide)) ?_
    refine xg_t (xg_ald8L (n := 6) (u := 9999) xnm0 rfl rfl) ?_
    refine xg_t (xg_cNr mX11_isIn (vs := [(0, u25), (0, 1), (0, 9999)]) (rest := []) (rs := [(0, if 1 ≤ u25 ∧ u25 ≤ 9999 then 1 else 0)]) (cn1 := 0) (sl1 := 0) rfl (isIn_ok (by omega) (by omega) (by omega)) rfl rfl rfl rfl rfl rfl rfl rfl) ?_
    by_cases hc28 : 1 ≤ u25 ∧ u25 ≤ 9999
    · refine xg_t (xg_ifT (u := (if 1 ≤ u25 ∧ u25 ≤ 9999 then 1 else 0)) rfl xnm0 (xj_neT (xite1 hc28))) ?_
      refine xg_t (xg_blk (b := [(95, 3, 9, 3, 1, 0), (98, 3, 8, 34, 0, 0)]) rfl) ?_
      refine xg_t (xg_iinc (u := 0) (z := 1) (l1 := [(0, (2, 27)), (1, (0, 2)), (2, (0, pc_))]) rfl rfl (by decide) rfl) ?_
      refine xg_t (xg_goto) ?_
      refine xg_t (xg_blk (b := [(34, 1, 2, 3, 0, 0), (35, 3, 37, 1, 0, 115), (38, 1, 2, 1, 0, 0), (39, 1, 10, 0, 0, 0), (40, 3, 6, 101, 3, 0), (43, 1, 2, 3, 0, 0), (44, 1, 3, 3, 0, 0), (45, 3, 6, 101, 3, 0), (48, 1, 0, 0, 0, 0), (49, 3, 1, 2, 3, 18), (52, 1, 2, 3, 0, 0), (53, 1, 10, 0, 0, 0), (54, 3, 37, 2, 0, 162), (57, 1, 2, 1, 0, 0), (58, 1, 3, 3, 0, 0), (59, 1, 16, 0, 0, 0), (60, 1, 2, 3, 0, 0), (61, 1, 11, 0, 0, 0), (62, 1, 10, 0, 0, 0), (63, 3, 37, 3, 0, 165), (66, 1, 2, 1, 0, 0), (67, 1, 3, 3, 0, 0), (68, 1, 16, 0, 0, 0), (69, 1, 2, 3, 0, 0), (70, 1, 11, 0, 0, 0), (71, 1, 10, 0, 0, 0), (72, 3, 13, 70, 91, 168), (75, 3, 7, 95, 1, 0), (78, 1, 0, 0, 0, 0), (79, 1, 3, 2, 0, 0), (80, 3, 14, 2, 9, 57), (83, 1, 0, 0, 0, 0), (84, 1, 0, 0, 0, 0), (85, 3, 1, 2, 4, 22), (88, 1, 2, 3, 0, 0), (89, 1, 10, 0, 0, 0), (90, 3, 14, 2, 10, 88), (93, 1, 3, 0, 0, 0), (94, 1, 12, 0, 1, 0)]) rfl) ?_
      refine xg_t (xg_iload (va := (0, 1)) rfl rfl) ?_
      refine xg_t (xg_gets) ?_
      refine xg_t (xg_iload (va := (0, 2)) rfl rfl) ?_
      refine xg_t (xg_ald8L (n := 2) (u := 2) xnm0 rfl rfl) ?_
      refine xg_t (xg_icF (u := 1) (v := 2) rfl xnm0 xnm0 (by decide)) ?_
      refine xg_t (xg_iload (va := (0, 1)) rfl rfl) ?_
      refine xg_t (xg_const) ?_
      refine xg_t (xg_icF (u := 1) (v := 3) rfl xnm0 xnm0 (by decide)) ?_
      refine xg_t (xg_aload (va := (2, 27)) rfl rfl) ?_
      refine xg_t (xg_getf (va := (2, 39)) (hF21.get (by decide) h27_11) rfl) ?_
      refine xg_t (xg_iload (va := (0, 1)) rfl rfl) ?_
      refine xg_ialdB (n := 1) (B := 4294967295) (h39_13.fr hF21 (by decide)) (hb14) xnm0 (by omega) (fun u29 hu30 he31 => ?_)
      refine xg_t (xg_gets) ?_
      refine xg_t (xg_iload (va := (0, 2)) rfl rfl) ?_
      refine xg_t (xg_const) ?_
      refine xg_t (xg_imul (u := 2) (v := 3) (z := 6) xnm0 xnm0 (by decide)) ?_
      refine xg_t (xg_iload (va := (0, 1)) rfl rfl) ?_
      refine xg_t (xg_iadd (u := 6) (v := 1) (z := 7) xnm0 xnm0 (by decide)) ?_
      refine xg_t (xg_ald8L (n := 7) (u := 1) xnm0 rfl rfl) ?_
      refine xg_t (xg_gets) ?_
      refine xg_t (xg_iload (va := (0, 2)) rfl rfl) ?_
      refine xg_t (xg_const) ?_
      refine xg_t (xg_imul (u := 2) (v := 3) (z := 6) xnm0 xnm0 (by decide)) ?_
      refine xg_t (xg_iload (va := (0, 1)) rfl rfl) ?_
      refine xg_t (xg_iadd (u := 6) (v := 1) (z := 7) xnm0 xnm0 (by decide)) ?_
      refine xg_t (xg_ald8L (n := 7) (u := 9999) xnm0 rfl rfl) ?_
      refine xg_t (xg_cNr mX11_isIn (vs := [(0, u29), (0, 1), (0, 9999)]) (rest := []) (rs := [(0, if 1 ≤ u29 ∧ u29 ≤ 9999 then 1 else 0)]) (cn1 := 0) (sl1 := 0) rfl (isIn_ok (by omega) (by omega) (by omega)) rfl rfl rfl rfl rfl rfl rfl rfl) ?_
      by_cases hc32 : 1 ≤ u29 ∧ u29 ≤ 9999
      · refine xg_t (xg_ifT (u := (if 1 ≤ u29 ∧ u29 ≤ 9999 then 1 else 0)) rfl xnm0 (xj_neT (xite1 hc32))) ?_
        refine xg_t (xg_blk (b := [(95, 3, 9, 3, 1, 0), (98, 3, 8, 34, 0, 0)]) rfl) ?_
        refine xg_t (xg_iinc (u := 1) (z := 2) (l1 := [(0, (2, 27)), (1, (0, 2)), (2, (0, pc_))]) rfl rfl (by decide) rfl) ?_
        refine xg_t (xg_goto) ?_
        refine xg_t (xg_blk (b := [(34, 1, 2, 3, 0, 0), (35, 3, 37, 1, 0, 115), (38, 1, 2, 1, 0, 0), (39, 1, 10, 0, 0, 0), (40, 3, 6, 101, 3, 0), (43, 1, 2, 3, 0, 0), (44, 1, 3, 3, 0, 0), (45, 3, 6, 101, 3, 0), (48, 1, 0, 0, 0, 0), (49, 3, 1, 2, 3, 18), (52, 1, 2, 3, 0, 0), (53, 1, 10, 0, 0, 0), (54, 3, 37, 2, 0, 162), (57, 1, 2, 1, 0, 0), (58, 1, 3, 3, 0, 0), (59, 1, 16, 0, 0, 0), (60, 1, 2, 3, 0, 0), (61, 1, 11, 0, 0, 0), (62, 1, 10, 0, 0, 0), (63, 3, 37, 3, 0, 165), (66, 1, 2, 1, 0, 0), (67, 1, 3, 3, 0, 0), (68, 1, 16, 0, 0, 0), (69, 1, 2, 3, 0, 0), (70, 1, 11, 0, 0, 0), (71, 1, 10, 0, 0, 0), (72, 3, 13, 70, 91, 168), (75, 3, 7, 95, 1, 0), (78, 1, 0, 0, 0, 0), (79, 1, 3, 2, 0, 0), (80, 3, 14, 2, 9, 57), (83, 1, 0, 0, 0, 0), (84, 1, 0, 0, 0, 0), (85, 3, 1, 2, 4, 22), (88, 1, 2, 3, 0, 0), (89, 1, 10, 0, 0, 0), (90, 3, 14, 2, 10, 88), (93, 1, 3, 0, 0, 0), (94, 1, 12, 0, 1, 0)]) rfl) ?_
        refine xg_t (xg_iload (va := (0, 2)) rfl rfl) ?_
        refine xg_t (xg_gets) ?_
        refine xg_t (xg_iload (va := (0, 2)) rfl rfl) ?_
        refine xg_t (xg_ald8L (n := 2) (u := 2) xnm0 rfl rfl) ?_
        refine xg_t (xg_icT (u := 2) (v := 2) rfl xnm0 xnm0 (by decide)) ?_
        refine xg_t (xg_blk (b := [(101, 1, 3, 1, 0, 0), (102, 1, 12, 0, 1, 0)]) rfl) ?_
        refine xg_t (xg_const) ?_
        exact xg_e ⟨1, w18, ⟨rfl, rfl⟩, by omega, hI20, (hF21.up (by decide))⟩
      · refine xg_t (xg_ifF (u := (if 1 ≤ u29 ∧ u29 ≤ 9999 then 1 else 0)) rfl xnm0 (xj_neF (xite0 hc32))) ?_
        refine xg_t (xg_aload (va := (2, 27)) rfl rfl) ?_
        refine xg_t (xg_const) ?_
        refine xg_putI (fl1 := [(2, 1), (2, 42), (2, 28), (2, 39), (2, 40), (2, 41), (0, f27_1), (0, f27_3), (0, f27_5), (0, 2), (0, f27_9)]) (hF21.get (by decide) h27_11) rfl rfl rfl (fun w33 hk34 hb35 => ?_)
        refine xg_t (xg_aload (va := (2, 27)) rfl rfl) ?_
        refine xg_t (xg_aload (va := (2, 27)) rfl rfl) ?_
        refine xg_t (xg_getf (va := (2, 40)) hk34 rfl) ?_
        refine xg_t (xg_iload (va := (0, 1)) rfl rfl) ?_
        refine xg_ialdB (n := 1) (B := 4294967295) ((h40_16.fr hF21 (by decide)).but hb35 (by decide)) (hb17) xnm0 (by omega) (fun u36 hu37 he38 => ?_)
        refine xg_putI (fl1 := [(2, 1), (2, 42), (2, 28), (2, 39), (2, 40), (2, 41), (0, f27_1), (0, f27_3), (0, f27_5), (0, 2), (0, u36)]) hk34 rfl rfl rfl (fun w39 hk40 hb41 => ?_)
        refine xg_t (xg_const) ?_
        exact xg_e ⟨0, w39, ⟨rfl, rfl⟩, by omega, xInv.up (S := [27]) hI20 ((xFr.of (S := [27]) hb35 (by decide)).tr (xFr.of (S := [27]) hb41 (by decide))) (List.forall_mem_cons.mpr ⟨(show cp27 (wget w39 27) from ⟨f27_1, f27_3, f27_5, 2, u36, hk40, by omega, by omega, by omega, by omega, by omega⟩), fun _ h => absurd h List.not_mem_nil⟩), ((hF21.up (by decide)).tr ((xFr.of (S := [27]) hb35 (by decide)).tr (xFr.of (S := [27]) hb41 (by decide))))⟩
    · refine xg_t (xg_ifF (u := (if 1 ≤ u25 ∧ u25 ≤ 9999 then 1 else 0)) rfl xnm0 (xj_neF (xite0 hc28))) ?_
      refine xg_t (xg_aload (va := (2, 27)) rfl rfl) ?_
      refine xg_t (xg_const) ?_
      refine xg_putI (fl1 := [(2, 1), (2, 42), (2, 28), (2, 39), (2, 40), (2, 41), (0, f27_1), (0, f27_3), (0, f27_5), (0, 2), (0, f27_9)]) (hF21.get (by decide) h27_11) rfl rfl rfl (fun w42 hk43 hb44 => ?_)
      refine xg_t (xg_aload (va := (2, 27)) rfl rfl) ?_
      refine xg_t (xg_aload (va := (2, 27)) rfl rfl) ?_
      refine xg_t (xg_getf (va := (2, 40)) hk43 rfl) ?_
      refine xg_t (xg_iload (va := (0, 0)) rfl rfl) ?_
      refine xg_ialdB (n := 0) (B := 4294967295) ((h40_16.fr hF21 (by decide)).but hb44 (by decide)) (hb17) xnm0 (by omega) (fun u45 hu46 he47 => ?_)
      refine xg_putI (fl1 := [(2, 1), (2, 42), (2, 28), (2, 39), (2, 40), (2, 41), (0, f27_1), (0, f27_3), (0, f27_5), (0, 2), (0, u45)]) hk43 rfl rfl rfl (fun w48 hk49 hb50 => ?_)
      refine xg_t (xg_const) ?_
      exact xg_e ⟨0, w48, ⟨rfl, rfl⟩, by omega, xInv.up (S := [27]) hI20 ((xFr.of (S := [27]) hb44 (by decide)).tr (xFr.of (S := [27]) hb50 (by decide))) (List.forall_mem_cons.mpr ⟨(show cp27 (wget w48 27) from ⟨f27_1, f27_3, f27_5, 2, u45, hk49, by omega, by omega, by omega, by omega, by omega⟩), fun _ h => absurd h List.not_mem_nil⟩), ((hF21.up (by decide)).tr ((xFr.of (S := [27]) hb44 (by decide)).tr (xFr.of (S := [27]) hb50 (by decide))))⟩
  · refine xg_t (xg_ifF (u := n22) rfl xnm0 (xj_eqF hc24)) ?_
    refine xg_t (xg_aload (va := (2, 27)) rfl rfl) ?_
    refine xg_t (xg_const) ?_
    refine xg_putI (fl1 := [(2, 1), (2, 42), (2, 28), (2, 39), (2, 40), (2, 41), (0, f27_1), (0, f27_3), (0, f27_5), (0, 3), (0, f27_9)]) (hF21.get (by decide) h27_11) rfl rfl rfl (fun w51 hk52 hb53 => ?_)
    refine xg_t (xg_aload (va := (2, 27)) rfl rfl) ?_
    refine xg_t (xg_iload (va := (0, pc_)) rfl rfl) ?_
    refine xg_putI (fl1 := [(2, 1), (2, 42), (2, 28), (2, 39), (2, 40), (2, 41), (0, f27_1), (0, f27_3), (0, f27_5), (0, 3), (0, pc_)]) hk52 rfl rfl rfl (fun w54 hk55 hb56 => ?_)
    refine xg_t (xg_const) ?_
    exact xg_e ⟨0, w54, ⟨rfl, rfl⟩, by omega, xInv.up (S := [27]) hI20 ((xFr.of (S := [27]) hb53 (by decide)).tr (xFr.of (S := [27]) hb56 (by decide))) (List.forall_mem_cons.mpr ⟨(show cp27 (wget w54 27) from ⟨f27_1, f27_3, f27_5, 3, pc_, hk55, by omega, by omega, by omega, by omega, by omega⟩), fun _ h => absurd h List.not_mem_nil⟩), ((hF21.up (by decide)).tr ((xFr.of (S := [27]) hb53 (by decide)).tr (xFr.of (S := [27]) hb56 (by decide))))⟩
theorem ftTake2 {pc_ : Nat} (hI : xInv w) (h1 : pc_ ≤ 4294967295) : xPq (d + 2) mX2_take [(2, 27), (0, 2), (0, pc_)] w bd fc rr [] (fun w' => xInv w' ∧ xFr [29, 30, 31, 32, 33, 34, 35, 36, 37, 38, 41] w w') := by
  refine xPq.of ?_
  show xTo (d + 2) mX2_take (0, [], [(0, (2, 27)), (1, (0, 2)), (2, (0, pc_))], [], (w, bd, fc, 0, 0, rr)) (fun φ => ∃ w', xEnd 0 [] (w', bd, fc, 0, 0, rr) φ ∧ xInv w' ∧ xFr [29, 30, 31, 32, 33, 34, 35, 36, 37, 38, 41] w w')
  obtain ⟨f27_1, f27_3, f27_5, f27_7, f27_9, h27_11, hb2, hb4, hb6, hb8, hb10⟩ := (hI 27 (by decide) : cp27 (wget w 27))
  obtain ⟨g39_12, h39_13, hb14⟩ := (hI 39 (by decide) : cpI 3 18 4294967295 (wget w 39))
  have h39_13 : xRow w 39 3 18 g39_12 := h39_13
  obtain ⟨g41_15, h41_16, hb17⟩ := (hI 41 (by decide) : cpI 20 20 4294967295 (wget w 41))
  have h41_16 : xRow w 41 20 20 g41_15 := h41_16
  refine xg_t (xg_blk (b := [(0, 1, 2, 1, 0, 0), (1, 1, 3, 5, 0, 0), (2, 3, 6, 37, 1, 0), (5, 1, 0, 0, 0, 0), (6, 3, 1, 2, 2, 12), (9, 1, 0, 0, 0, 0), (10, 3, 1, 2, 3, 18), (13, 1, 3, 0, 0, 0), (14, 1, 10, 0, 0, 0), (15, 3, 14, 1, 5, 192), (18, 1, 0, 0, 0, 0), (19, 3, 1, 2, 2, 12), (22, 1, 0, 0, 0, 0), (23, 3, 1, 2, 3, 18), (26, 1, 3, 1, 0, 0), (27, 1, 10, 0, 0, 0), (28, 3, 14, 1, 6, 195), (31, 1, 0, 0, 0, 0), (32, 1, 3, 1, 0, 0), (33, 3, 59, 2, 7, 50), (36, 1, 12, 0, 0, 0)]) rfl) ?_
  refine xg_t (xg_iload (va := (0, 2)) rfl rfl) ?_
  refine xg_t (xg_const) ?_
  refine xg_t (xg_icT (u := 2) (v := 5) rfl xnm0 xnm0 (by decide)) ?_
  refine xg_t (xg_blk (b := [(37, 1, 2, 1, 0, 0), (38, 2, 4, 6, 0, 0), (40, 3, 6, 75, 1, 0), (43, 1, 0, 0, 0, 0), (44, 3, 1, 2, 2, 12), (47, 1, 0, 0, 0, 0), (48, 3, 1, 2, 3, 18), (51, 1, 3, 0, 0, 0), (52, 1, 10, 0, 0, 0), (53, 3, 14, 1, 7, 198), (56, 1, 0, 0, 0, 0), (57, 3, 1, 2, 2, 12), (60, 1, 0, 0, 0, 0), (61, 3, 1, 2, 3, 18), (64, 1, 3, 1, 0, 0), (65, 1, 10, 0, 0, 0), (66, 3, 14, 1, 8, 201), (69, 1, 0, 0, 0, 0), (70, 1, 3, 1, 0, 0), (71, 3, 59, 2, 8, 54), (74, 1, 12, 0, 0, 0)]) rfl) ?_
  refine xg_t (xg_iload (va := (0, 2)) rfl rfl) ?_
  refine xg_t (xg_bip) ?_
  refine xg_t (xg_icT (u := 2) (v := 6) rfl xnm0 xnm0 (by decide)) ?_
  refine xg_t (xg_blk (b := [(75, 1, 0, 0, 0, 0), (76, 3, 1, 2, 2, 12), (79, 1, 2, 1, 0, 0), (80, 3, 13, 243, 8, 172), (83, 1, 27, 3, 0, 0), (84, 1, 0, 3, 0, 0), (85, 3, 43, 95, 0, 0), (88, 1, 0, 3, 0, 0), (89, 3, 13, 289, 40, 176), (92, 3, 7, 96, 0, 0)]) rfl) ?_
  refine xg_t (xg_aload (va := (2, 27)) rfl rfl) ?_
  refine xg_t (xg_getf (va := (2, 28)) h27_11 rfl) ?_
  refine xg_t (xg_iload (va := (0, 2)) rfl rfl) ?_
  obtain ⟨v18, hv19, hp20⟩ := rowsOf28 (d := d + 1) (bd := bd) (fc := fc) (rr := rr) (so := 2) (hI) (by omega)
  rcases hv19 with rfl | rfl | rfl | rfl | rfl | rfl
  · obtain ⟨f28_21, f28_23, f28_25, f28_27, f28_29, h28_31, hb22, hb24, hb26, hb28, hb30⟩ := (hI 28 (by decide) : cp28 (wget w 28))
    refine xg_t (xg_cVr mX1_rowsOf (vs := [(0, 2)]) (rest := []) (rs := [(2, 29)]) (cn1 := 0) (sl1 := 0) rfl (hp20) rfl h28_31 rfl rfl rfl rfl rfl rfl rfl) ?_
    refine xg_t (xg_astore (l1 := [(0, (2, 27)), (1, (0, 2)), (2, (0, pc_))]) rfl rfl rfl) ?_
    refine xg_t (xg_aload (va := (2, 29)) rfl rfl) ?_
    refine xg_t (xg_ifnullF) ?_
    refine xg_t (xg_aload (va := (2, 29)) rfl rfl) ?_
    obtain ⟨f29_32, h29_34, hb33⟩ := (hI 29 (by decide) : cp29 (wget w 29))
    refine xg_t (xg_cVr mX5_isFull (vs := []) (rest := []) (rs := [(0, if 6 ≤ f29_32 then 1 else 0)]) (cn1 := 0) (sl1 := 0) rfl (rfull_ok h29_34 (by decide) (by omega)) rfl h29_34 rfl rfl rfl rfl rfl rfl rfl) ?_
    by_cases hc35 : 6 ≤ f29_32
    · refine xg_t (xg_ifF (u := (if 6 ≤ f29_32 then 1 else 0)) rfl xnm0 (xj_eqF (xite1 hc35))) ?_
      refine xg_t (xg_blk (b := [(95, 1, 12, 0, 0, 0)]) rfl) ?_
      exact xg_e ⟨w, ⟨rfl, rfl⟩, hI, xFr.rf⟩
    · refine xg_t (xg_ifT (u := (if 6 ≤ f29_32 then 1 else 0)) rfl xnm0 (xj_eqT (xite0 hc35))) ?_
      refine xg_t (xg_blk (b := [(96, 1, 0, 3, 0, 0), (97, 3, 13, 286, 40, 204), (100, 2, 15, 4, 0, 0), (102, 1, 3, 0, 0, 0), (103, 2, 15, 5, 0, 0)]) rfl) ?_
      refine xg_t (xg_aload (va := (2, 29)) rfl rfl) ?_
      refine xg_cVi mX5_grow (vs := []) (rest := []) (cn1 := 0) (sl1 := 0) rfl (rgrowI h29_34 (by decide) (by omega)) rfl h29_34 rfl rfl rfl rfl rfl rfl (fun n38 w36 hq37 => ?_)
      obtain ⟨hn39, s40, hs41, hk42, hb43⟩ := hq37
      refine xg_t (xg_istore (l1 := [(3, (2, 29)), (0, (2, 27)), (1, (0, 2)), (2, (0, pc_))]) rfl rfl rfl) ?_
      refine xg_t (xg_const) ?_
      refine xg_t (xg_istore (l1 := [(4, (0, n38)), (3, (2, 29)), (0, (2, 27)), (1, (0, 2)), (2, (0, pc_))]) rfl rfl rfl) ?_
      refine xg_t (xg_blk (b := [(105, 2, 2, 5, 0, 0), (107, 3, 37, 1, 0, 115), (110, 1, 2, 1, 0, 0), (111, 1, 10, 0, 0, 0), (112, 3, 6, 142, 3, 0), (115, 2, 2, 5, 0, 0), (117, 1, 3, 3, 0, 0), (118, 3, 6, 142, 3, 0), (121, 1, 0, 3, 0, 0), (122, 2, 2, 4, 0, 0), (124, 2, 2, 5, 0, 0), (126, 1, 0, 0, 0, 0), (127, 3, 1, 2, 3, 18), (130, 2, 2, 5, 0, 0), (132, 1, 10, 0, 0, 0), (133, 3, 13, 290, 40, 207), (136, 3, 9, 5, 1, 0), (139, 3, 8, 105, 0, 0)]) rfl) ?_
      refine xg_t (xg_iload (va := (0, 0)) rfl rfl) ?_
      refine xg_t (xg_gets) ?_
      refine xg_t (xg_iload (va := (0, 2)) rfl rfl) ?_
      refine xg_t (xg_ald8L (n := 2) (u := 2) xnm0 rfl rfl) ?_
      refine xg_t (xg_icF (u := 0) (v := 2) rfl xnm0 xnm0 (by decide)) ?_
      refine xg_t (xg_iload (va := (0, 0)) rfl rfl) ?_
      refine xg_t (xg_const) ?_
      refine xg_t (xg_icF (u := 0) (v := 3) rfl xnm0 xnm0 (by decide)) ?_
      refine xg_t (xg_aload (va := (2, 29)) rfl rfl) ?_
      refine xg_t (xg_iload (va := (0, n38)) rfl rfl) ?_
      refine xg_t (xg_iload (va := (0, 0)) rfl rfl) ?_
      refine xg_t (xg_aload (va := (2, 27)) rfl rfl) ?_
      refine xg_t (xg_getf (va := (2, 39)) (hb43.get (by decide) h27_11) rfl) ?_
      refine xg_t (xg_iload (va := (0, 0)) rfl rfl) ?_
      refine xg_ialdB (n := 0) (B := 4294967295) (h39_13.but hb43 (by decide)) (hb14) xnm0 (by omega) (fun u44 hu45 he46 => ?_)
      obtain ⟨g30_47, h30_48, hb49⟩ := (hI 30 (by decide) : cpI 24 13 4294967295 (wget w 30))
      have h30_48 : xRow w 30 24 13 g30_47 := h30_48
      refine xg_cVv mX5_put (vs := [(0, n38), (0, 0), (0, u44)]) (rest := []) (cn1 := 0) (sl1 := 0) rfl (rputI (lim := 6) (wd := 4) (B := 4294967295) hk42 (h30_48.but hb43 (by decide)) (hb49) (by decide) (by omega) (by decide) (by decide) (by omega) (by omega) (by omega)) rfl hk42 rfl rfl rfl rfl rfl rfl (fun w50 hq51 => ?_)
      obtain ⟨g52, hr53, hb54, hb55⟩ := hq51
      refine xg_t (xg_iinc (u := 0) (z := 1) (l1 := [(4, (0, n38)), (3, (2, 29)), (0, (2, 27)), (1, (0, 2)), (2, (0, pc_))]) rfl rfl (by decide) rfl) ?_
      refine xg_t (xg_goto) ?_
      refine xg_t (xg_blk (b := [(105, 2, 2, 5, 0, 0), (107, 3, 37, 1, 0, 115), (110, 1, 2, 1, 0, 0), (111, 1, 10, 0, 0, 0), (112, 3, 6, 142, 3, 0), (115, 2, 2, 5, 0, 0), (117, 1, 3, 3, 0, 0), (118, 3, 6, 142, 3, 0), (121, 1, 0, 3, 0, 0), (122, 2, 2, 4, 0, 0), (124, 2, 2, 5, 0, 0), (126, 1, 0, 0, 0, 0), (127, 3, 1, 2, 3, 18), (130, 2, 2, 5, 0, 0), (132, 1, 10, 0, 0, 0), (133, 3, 13, 290, 40, 207), (136, 3, 9, 5, 1, 0), (139, 3, 8, 105, 0, 0)]) rfl) ?_
      refine xg_t (xg_iload (va := (0, 1)) rfl rfl) ?_
      refine xg_t (xg_gets) ?_
      refine xg_t (xg_iload (va := (0, 2)) rfl rfl) ?_
      refine xg_t (xg_ald8L (n := 2) (u := 2) xnm0 rfl rfl) ?_
      refine xg_t (xg_icF (u := 1) (v := 2) rfl xnm0 xnm0 (by decide)) ?_
      refine xg_t (xg_iload (va := (0, 1)) rfl rfl) ?_
      refine xg_t (xg_const) ?_
      refine xg_t (xg_icF (u := 1) (v := 3) rfl xnm0 xnm0 (by decide)) ?_
      refine xg_t (xg_aload (va := (2, 29)) rfl rfl) ?_
      refine xg_t (xg_iload (va := (0, n38)) rfl rfl) ?_
      refine xg_t (xg_iload (va := (0, 1)) rfl rfl) ?_
      refine xg_t (xg_aload (va := (2, 27)) rfl rfl) ?_
      refine xg_t (xg_getf (va := (2, 39)) (hb55.get (by decide) (hb43.get (by decide) h27_11)) rfl) ?_
      refine xg_t (xg_iload (va := (0, 1)) rfl rfl) ?_
      refine xg_ialdB (n := 1) (B := 4294967295) ((h39_13.but hb43 (by decide)).but hb55 (by decide)) (hb14) xnm0 (by omega) (fun u56 hu57 he58 => ?_)
      refine xg_cVv mX5_put (vs := [(0, n38), (0, 1), (0, u56)]) (rest := []) (cn1 := 0) (sl1 := 0) rfl (rputI (lim := 6) (wd := 4) (B := 4294967295) (hb55.get (by decide) hk42) hr53 (hb54) (by decide) (by omega) (by decide) (by decide) (by omega) (by omega) (by omega)) rfl (hb55.get (by decide) hk42) rfl rfl rfl rfl rfl rfl (fun w59 hq60 => ?_)
      obtain ⟨g61, hr62, hb63, hb64⟩ := hq60
      refine xg_t (xg_iinc (u := 1) (z := 2) (l1 := [(4, (0, n38)), (3, (2, 29)), (0, (2, 27)), (1, (0, 2)), (2, (0, pc_))]) rfl rfl (by decide) rfl) ?_
      refine xg_t (xg_goto) ?_
      refine xg_t (xg_blk (b := [(105, 2, 2, 5, 0, 0), (107, 3, 37, 1, 0, 115), (110, 1, 2, 1, 0, 0), (111, 1, 10, 0, 0, 0), (112, 3, 6, 142, 3, 0), (115, 2, 2, 5, 0, 0), (117, 1, 3, 3, 0, 0), (118, 3, 6, 142, 3, 0), (121, 1, 0, 3, 0, 0), (122, 2, 2, 4, 0, 0), (124, 2, 2, 5, 0, 0), (126, 1, 0, 0, 0, 0), (127, 3, 1, 2, 3, 18), (130, 2, 2, 5, 0, 0), (132, 1, 10, 0, 0, 0), (133, 3, 13, 290, 40, 207), (136, 3, 9, 5, 1, 0), (139, 3, 8, 105, 0, 0)]) rfl) ?_
      refine xg_t (xg_iload (va := (0, 2)) rfl rfl) ?_
      refine xg_t (xg_gets) ?_
      refine xg_t (xg_iload (va := (0, 2)) rfl rfl) ?_
      refine xg_t (xg_ald8L (n := 2) (u := 2) xnm0 rfl rfl) ?_
      refine xg_t (xg_icT (u := 2) (v := 2) rfl xnm0 xnm0 (by decide)) ?_
      refine xg_t (xg_blk (b := [(142, 1, 2, 1, 0, 0), (143, 3, 7, 165, 1, 0), (146, 1, 0, 3, 0, 0), (147, 2, 2, 4, 0, 0), (149, 1, 3, 3, 0, 0), (150, 1, 0, 0, 0, 0), (151, 3, 1, 2, 6, 153), (154, 3, 7, 161, 0, 0), (157, 1, 3, 1, 0, 0), (158, 3, 8, 162, 0, 0)]) rfl) ?_
      refine xg_t (xg_iload (va := (0, 2)) rfl rfl) ?_
      refine xg_t (xg_ifT (u := 2) rfl xnm0 (by decide)) ?_
      refine xg_t (xg_blk (b := [(165, 1, 2, 1, 0, 0), (166, 1, 3, 4, 0, 0), (167, 3, 6, 188, 1, 0), (170, 2, 2, 4, 0, 0), (172, 1, 0, 0, 0, 0), (173, 3, 1, 2, 5, 25), (176, 1, 31, 0, 0, 0), (177, 3, 6, 188, 3, 0), (180, 1, 0, 0, 0, 0), (181, 3, 1, 2, 5, 25), (184, 2, 2, 4, 0, 0), (186, 1, 2, 2, 0, 0), (187, 1, 17, 0, 0, 0)]) rfl) ?_
      refine xg_t (xg_iload (va := (0, 2)) rfl rfl) ?_
      refine xg_t (xg_const) ?_
      refine xg_t (xg_icT (u := 2) (v := 4) rfl xnm0 xnm0 (by decide)) ?_
      refine xg_t (xg_blk (b := [(188, 1, 12, 0, 0, 0)]) rfl) ?_
      exact xg_e ⟨w59, ⟨rfl, rfl⟩, xInv.up (S := [29, 30]) hI (((xFr.of (S := [29, 30]) hb43 (by decide)).tr (xFr.of (S := [29, 30]) hb55 (by decide))).tr (xFr.of (S := [29, 30]) hb64 (by decide))) (List.forall_mem_cons.mpr ⟨(show cp29 (wget w59 29) from ⟨s40, (hb64.get (by decide) (hb55.get (by decide) hk42)), by omega⟩), List.forall_mem_cons.mpr ⟨(show cpI 24 13 4294967295 (wget w59 30) from ⟨_, hr62, hb63⟩), fun _ h => absurd h List.not_mem_nil⟩⟩), (((xFr.of (S := [29, 30, 31, 32, 33, 34, 35, 36, 37, 38, 41]) hb43 (by decide)).tr (xFr.of (S := [29, 30, 31, 32, 33, 34, 35, 36, 37, 38, 41]) hb55 (by decide))).tr (xFr.of (S := [29, 30, 31, 32, 33, 34, 35, 36, 37, 38, 41]) hb64 (by decide)))⟩
  · obtain ⟨f28_65, f28_67, f28_69, f28_71, f28_73, h28_75, hb66, hb68, hb70, hb72, hb74⟩ := (hI 28 (by decide) : cp28 (wget w 28))
    refine xg_t (xg_cVr mX1_rowsOf (vs := [(0, 2)]) (rest := []) (rs := [(2, 31)]) (cn1 := 0) (sl1 := 0) rfl (hp20) rfl h28_75 rfl rfl rfl rfl rfl rfl rfl) ?_
    refine xg_t (xg_astore (l1 := [(0, (2, 27)), (1, (0, 2)), (2, (0, pc_))]) rfl rfl rfl) ?_
    refine xg_t (xg_aload (va := (2, 31)) rfl rfl) ?_
    refine xg_t (xg_ifnullF) ?_
    refine xg_t (xg_aload (va := (2, 31)) rfl rfl) ?_
    obtain ⟨f31_76, h31_78, hb77⟩ := (hI 31 (by decide) : cp31 (wget w 31))
    refine xg_t (xg_cVr mX5_isFull (vs := []) (rest := []) (rs := [(0, if 4 ≤ f31_76 then 1 else 0)]) (cn1 := 0) (sl1 := 0) rfl (rfull_ok h31_78 (by decide) (by omega)) rfl h31_78 rfl rfl rfl rfl rfl rfl rfl) ?_
    by_cases hc79 : 4 ≤ f31_76
    · refine xg_t (xg_ifF (u := (if 4 ≤ f31_76 then 1 else 0)) rfl xnm0 (xj_eqF (xite1 hc79))) ?_
      refine xg_t (xg_blk (b := [(95, 1, 12, 0, 0, 0)]) rfl) ?_
      exact xg_e ⟨w, ⟨rfl, rfl⟩, hI, xFr.rf⟩
    · refine xg_t (xg_ifT (u := (if 4 ≤ f31_76 then 1 else 0)) rfl xnm0 (xj_eqT (xite0 hc79))) ?_
      refine xg_t (xg_blk (b := [(96, 1, 0, 3, 0, 0), (97, 3, 13, 286, 40, 204), (100, 2, 15, 4, 0, 0), (102, 1, 3, 0, 0, 0), (103, 2, 15, 5, 0, 0)]) rfl) ?_
      refine xg_t (xg_aload (va := (2, 31)) rfl rfl) ?_
      refine xg_cVi mX5_grow (vs := []) (rest := []) (cn1 := 0) (sl1 := 0) rfl (rgrowI h31_78 (by decide) (by omega)) rfl h31_78 rfl rfl rfl rfl rfl rfl (fun n82 w80 hq81 => ?_)
      obtain ⟨hn83, s84, hs85, hk86, hb87⟩ := hq81
      refine xg_t (xg_istore (l1 := [(3, (2, 31)), (0, (2, 27)), (1, (0, 2)), (2, (0, pc_))]) rfl rfl rfl) ?_
      refine xg_t (xg_const) ?_
      refine xg_t (xg_istore (l1 := [(4, (0, n82)), (3, (2, 31)), (0, (2, 27)), (1, (0, 2)), (2, (0, pc_))]) rfl rfl rfl) ?_
      refine xg_t (xg_blk (b := [(105, 2, 2, 5, 0, 0), (107, 3, 37, 1, 0, 115), (110, 1, 2, 1, 0, 0), (111, 1, 10, 0, 0, 0), (112, 3, 6, 142, 3, 0), (115, 2, 2, 5, 0, 0), (117, 1, 3, 3, 0, 0), (118, 3, 6, 142, 3, 0), (121, 1, 0, 3, 0, 0), (122, 2, 2, 4, 0, 0), (124, 2, 2, 5, 0, 0), (126, 1, 0, 0, 0, 0), (127, 3, 1, 2, 3, 18), (130, 2, 2, 5, 0, 0), (132, 1, 10, 0, 0, 0), (133, 3, 13, 290, 40, 207), (136, 3, 9, 5, 1, 0), (139, 3, 8, 105, 0, 0)]) rfl) ?_
      refine xg_t (xg_iload (va := (0, 0)) rfl rfl) ?_
      refine xg_t (xg_gets) ?_
      refine xg_t (xg_iload (va := (0, 2)) rfl rfl) ?_
      refine xg_t (xg_ald8L (n := 2) (u := 2) xnm0 rfl rfl) ?_
      refine xg_t (xg_icF (u := 0) (v := 2) rfl xnm0 xnm0 (by decide)) ?_
      refine xg_t (xg_iload (va := (0, 0)) rfl rfl) ?_
      refine xg_t (xg_const) ?_
      refine xg_t (xg_icF (u := 0) (v := 3) rfl xnm0 xnm0 (by decide)) ?_
      refine xg_t (xg_aload (va := (2, 31)) rfl rfl) ?_
      refine xg_t (xg_iload (va := (0, n82)) rfl rfl) ?_
      refine xg_t (xg_iload (va := (0, 0)) rfl rfl) ?_
      refine xg_t (xg_aload (va := (2, 27)) rfl rfl) ?_
      refine xg_t (xg_getf (va := (2, 39)) (hb87.get (by decide) h27_11) rfl) ?_
      refine xg_t (xg_iload (va := (0, 0)) rfl rfl) ?_
      refine xg_ialdB (n := 0) (B := 4294967295) (h39_13.but hb87 (by decide)) (hb14) xnm0 (by omega) (fun u88 hu89 he90 => ?_)
      obtain ⟨g32_91, h32_92, hb93⟩ := (hI 32 (by decide) : cpI 8 14 4294967295 (wget w 32))
      have h32_92 : xRow w 32 8 14 g32_91 := h32_92
      refine xg_cVv mX5_put (vs := [(0, n82), (0, 0), (0, u88)]) (rest := []) (cn1 := 0) (sl1 := 0) rfl (rputI (lim := 4) (wd := 2) (B := 4294967295) hk86 (h32_92.but hb87 (by decide)) (hb93) (by decide) (by omega) (by decide) (by decide) (by omega) (by omega) (by omega)) rfl hk86 rfl rfl rfl rfl rfl rfl (fun w94 hq95 => ?_)
      obtain ⟨g96, hr97, hb98, hb99⟩ := hq95
      refine xg_t (xg_iinc (u := 0) (z := 1) (l1 := [(4, (0, n82)), (3, (2, 31)), (0, (2, 27)), (1, (0, 2)), (2, (0, pc_))]) rfl rfl (by decide) rfl) ?_
      refine xg_t (xg_goto) ?_
      refine xg_t (xg_blk (b := [(105, 2, 2, 5, 0, 0), (107, 3, 37, 1, 0, 115), (110, 1, 2, 1, 0, 0), (111, 1, 10, 0, 0, 0), (112, 3, 6, 142, 3, 0), (115, 2, 2, 5, 0, 0), (117, 1, 3, 3, 0, 0), (118, 3, 6, 142, 3, 0), (121, 1, 0, 3, 0, 0), (122, 2, 2, 4, 0, 0), (124, 2, 2, 5, 0, 0), (126, 1, 0, 0, 0, 0), (127, 3, 1, 2, 3, 18), (130, 2, 2, 5, 0, 0), (132, 1, 10, 0, 0, 0), (133, 3, 13, 290, 40, 207), (136, 3, 9, 5, 1, 0), (139, 3, 8, 105, 0, 0)]) rfl) ?_
      refine xg_t (xg_iload (va := (0, 1)) rfl rfl) ?_
      refine xg_t (xg_gets) ?_
      refine xg_t (xg_iload (va := (0, 2)) rfl rfl) ?_
      refine xg_t (xg_ald8L (n := 2) (u := 2) xnm0 rfl rfl) ?_
      refine xg_t (xg_icF (u := 1) (v := 2) rfl xnm0 xnm0 (by decide)) ?_
      refine xg_t (xg_iload (va := (0, 1)) rfl rfl) ?_
      refine xg_t (xg_const) ?_
      refine xg_t (xg_icF (u := 1) (v := 3) rfl xnm0 xnm0 (by decide)) ?_
      refine xg_t (xg_aload (va := (2, 31)) rfl rfl) ?_
      refine xg_t (xg_iload (va := (0, n82)) rfl rfl) ?_
      refine xg_t (xg_iload (va := (0, 1)) rfl rfl) ?_
      refine xg_t (xg_aload (va := (2, 27)) rfl rfl) ?_
      refine xg_t (xg_getf (va := (2, 39)) (hb99.get (by decide) (hb87.get (by decide) h27_11)) rfl) ?_
      refine xg_t (xg_iload (va := (0, 1)) rfl rfl) ?_
      refine xg_ialdB (n := 1) (B := 4294967295) ((h39_13.but hb87 (by decide)).but hb99 (by decide)) (hb14) xnm0 (by omega) (fun u100 hu101 he102 => ?_)
      refine xg_cVv mX5_put (vs := [(0, n82), (0, 1), (0, u100)]) (rest := []) (cn1 := 0) (sl1 := 0) rfl (rputI (lim := 4) (wd := 2) (B := 4294967295) (hb99.get (by decide) hk86) hr97 (hb98) (by decide) (by omega) (by decide) (by decide) (by omega) (by omega) (by omega)) rfl (hb99.get (by decide) hk86) rfl rfl rfl rfl rfl rfl (fun w103 hq104 => ?_)
      obtain ⟨g105, hr106, hb107, hb108⟩ := hq104
      refine xg_t (xg_iinc (u := 1) (z := 2) (l1 := [(4, (0, n82)), (3, (2, 31)), (0, (2, 27)), (1, (0, 2)), (2, (0, pc_))]) rfl rfl (by decide) rfl) ?_
      refine xg_t (xg_goto) ?_
      refine xg_t (xg_blk (b := [(105, 2, 2, 5, 0, 0), (107, 3, 37, 1, 0, 115), (110, 1, 2, 1, 0, 0), (111, 1, 10, 0, 0, 0), (112, 3, 6, 142, 3, 0), (115, 2, 2, 5, 0, 0), (117, 1, 3, 3, 0, 0), (118, 3, 6, 142, 3, 0), (121, 1, 0, 3, 0, 0), (122, 2, 2, 4, 0, 0), (124, 2, 2, 5, 0, 0), (126, 1, 0, 0, 0, 0), (127, 3, 1, 2, 3, 18), (130, 2, 2, 5, 0, 0), (132, 1, 10, 0, 0, 0), (133, 3, 13, 290, 40, 207), (136, 3, 9, 5, 1, 0), (139, 3, 8, 105, 0, 0)]) rfl) ?_
      refine xg_t (xg_iload (va := (0, 2)) rfl rfl) ?_
      refine xg_t (xg_gets) ?_
      refine xg_t (xg_iload (va := (0, 2)) rfl rfl) ?_
      refine xg_t (xg_ald8L (n := 2) (u := 2) xnm0 rfl rfl) ?_
      refine xg_t (xg_icT (u := 2) (v := 2) rfl xnm0 xnm0 (by decide)) ?_
      refine xg_t (xg_blk (b := [(142, 1, 2, 1, 0, 0), (143, 3, 7, 165, 1, 0), (146, 1, 0, 3, 0, 0), (147, 2, 2, 4, 0, 0), (149, 1, 3, 3, 0, 0), (150, 1, 0, 0, 0, 0), (151, 3, 1, 2, 6, 153), (154, 3, 7, 161, 0, 0), (157, 1, 3, 1, 0, 0), (158, 3, 8, 162, 0, 0)]) rfl) ?_
      refine xg_t (xg_iload (va := (0, 2)) rfl rfl) ?_
      refine xg_t (xg_ifT (u := 2) rfl xnm0 (by decide)) ?_
      refine xg_t (xg_blk (b := [(165, 1, 2, 1, 0, 0), (166, 1, 3, 4, 0, 0), (167, 3, 6, 188, 1, 0), (170, 2, 2, 4, 0, 0), (172, 1, 0, 0, 0, 0), (173, 3, 1, 2, 5, 25), (176, 1, 31, 0, 0, 0), (177, 3, 6, 188, 3, 0), (180, 1, 0, 0, 0, 0), (181, 3, 1, 2, 5, 25), (184, 2, 2, 4, 0, 0), (186, 1, 2, 2, 0, 0), (187, 1, 17, 0, 0, 0)]) rfl) ?_
      refine xg_t (xg_iload (va := (0, 2)) rfl rfl) ?_
      refine xg_t (xg_const) ?_
      refine xg_t (xg_icT (u := 2) (v := 4) rfl xnm0 xnm0 (by decide)) ?_
      refine xg_t (xg_blk (b := [(188, 1, 12, 0, 0, 0)]) rfl) ?_
      exact xg_e ⟨w103, ⟨rfl, rfl⟩, xInv.up (S := [31, 32]) hI (((xFr.of (S := [31, 32]) hb87 (by decide)).tr (xFr.of (S := [31, 32]) hb99 (by decide))).tr (xFr.of (S := [31, 32]) hb108 (by decide))) (List.forall_mem_cons.mpr ⟨(show cp31 (wget w103 31) from ⟨s84, (hb108.get (by decide) (hb99.get (by decide) hk86)), by omega⟩), List.forall_mem_cons.mpr ⟨(show cpI 8 14 4294967295 (wget w103 32) from ⟨_, hr106, hb107⟩), fun _ h => absurd h List.not_mem_nil⟩⟩), (((xFr.of (S := [29, 30, 31, 32, 33, 34, 35, 36, 37, 38, 41]) hb87 (by decide)).tr (xFr.of (S := [29, 30, 31, 32, 33, 34, 35, 36, 37, 38, 41]) hb99 (by decide))).tr (xFr.of (S := [29, 30, 31, 32, 33, 34, 35, 36, 37, 38, 41]) hb108 (by decide)))⟩
  · obtain ⟨f28_109, f28_111, f28_113, f28_115, f28_117, h28_119, hb110, hb112, hb114, hb116, hb118⟩ := (hI 28 (by decide) : cp28 (wget w 28))
    refine xg_t (xg_cVr mX1_rowsOf (vs := [(0, 2)]) (rest := []) (rs := [(2, 33)]) (cn1 := 0) (sl1 := 0) rfl (hp20) rfl h28_119 rfl rfl rfl rfl rfl rfl rfl) ?_
    refine xg_t (xg_astore (l1 := [(0, (2, 27)), (1, (0, 2)), (2, (0, pc_))]) rfl rfl rfl) ?_
    refine xg_t (xg_aload (va := (2, 33)) rfl rfl) ?_
    refine xg_t (xg_ifnullF) ?_
    refine xg_t (xg_aload (va := (2, 33)) rfl rfl) ?_
    obtain ⟨f33_120, h33_122, hb121⟩ := (hI 33 (by decide) : cp33 (wget w 33))
    refine xg_t (xg_cVr mX5_isFull (vs := []) (rest := []) (rs := [(0, if 6 ≤ f33_120 then 1 else 0)]) (cn1 := 0) (sl1 := 0) rfl (rfull_ok h33_122 (by decide) (by omega)) rfl h33_122 rfl rfl rfl rfl rfl rfl rfl) ?_
    by_cases hc123 : 6 ≤ f33_120
    · refine xg_t (xg_ifF (u := (if 6 ≤ f33_120 then 1 else 0)) rfl xnm0 (xj_eqF (xite1 hc123))) ?_
      refine xg_t (xg_blk (b := [(95, 1, 12, 0, 0, 0)]) rfl) ?_
      exact xg_e ⟨w, ⟨rfl, rfl⟩, hI, xFr.rf⟩
    · refine xg_t (xg_ifT (u := (if 6 ≤ f33_120 then 1 else 0)) rfl xnm0 (xj_eqT (xite0 hc123))) ?_
      refine xg_t (xg_blk (b := [(96, 1, 0, 3, 0, 0), (97, 3, 13, 286, 40, 204), (100, 2, 15, 4, 0, 0), (102, 1, 3, 0, 0, 0), (103, 2, 15, 5, 0, 0)]) rfl) ?_
      refine xg_t (xg_aload (va := (2, 33)) rfl rfl) ?_
      refine xg_cVi mX5_grow (vs := []) (rest := []) (cn1 := 0) (sl1 := 0) rfl (rgrowI h33_122 (by decide) (by omega)) rfl h33_122 rfl rfl rfl rfl rfl rfl (fun n126 w124 hq125 => ?_)
      obtain ⟨hn127, s128, hs129, hk130, hb131⟩ := hq125
      refine xg_t (xg_istore (l1 := [(3, (2, 33)), (0, (2, 27)), (1, (0, 2)), (2, (0, pc_))]) rfl rfl rfl) ?_
      refine xg_t (xg_const) ?_
      refine xg_t (xg_istore (l1 := [(4, (0, n126)), (3, (2, 33)), (0, (2, 27)), (1, (0, 2)), (2, (0, pc_))]) rfl rfl rfl) ?_
      refine xg_t (xg_blk (b := [(105, 2, 2, 5, 0, 0), (107, 3, 37, 1, 0, 115), (110, 1, 2, 1, 0, 0), (111, 1, 10, 0, 0, 0), (112, 3, 6, 142, 3, 0), (115, 2, 2, 5, 0, 0), (117, 1, 3, 3, 0, 0), (118, 3, 6, 142, 3, 0), (121, 1, 0, 3, 0, 0), (122, 2, 2, 4, 0, 0), (124, 2, 2, 5, 0, 0), (126, 1, 0, 0, 0, 0), (127, 3, 1, 2, 3, 18), (130, 2, 2, 5, 0, 0), (132, 1, 10, 0, 0, 0), (133, 3, 13, 290, 40, 207), (136, 3, 9, 5, 1, 0), (139, 3, 8, 105, 0, 0)]) rfl) ?_
      refine xg_t (xg_iload (va := (0, 0)) rfl rfl) ?_
      refine xg_t (xg_gets) ?_
      refine xg_t (xg_iload (va := (0, 2)) rfl rfl) ?_
      refine xg_t (xg_ald8L (n := 2) (u := 2) xnm0 rfl rfl) ?_
      refine xg_t (xg_icF (u := 0) (v := 2) rfl xnm0 xnm0 (by decide)) ?_
      refine xg_t (xg_iload (va := (0, 0)) rfl rfl) ?_
      refine xg_t (xg_const) ?_
      refine xg_t (xg_icF (u := 0) (v := 3) rfl xnm0 xnm0 (by decide)) ?_
      refine xg_t (xg_aload (va := (2, 33)) rfl rfl) ?_
      refine xg_t (xg_iload (va := (0, n126)) rfl rfl) ?_
      refine xg_t (xg_iload (va := (0, 0)) rfl rfl) ?_
      refine xg_t (xg_aload (va := (2, 27)) rfl rfl) ?_
      refine xg_t (xg_getf (va := (2, 39)) (hb131.get (by decide) h27_11) rfl) ?_
      refine xg_t (xg_iload (va := (0, 0)) rfl rfl) ?_
      refine xg_ialdB (n := 0) (B := 4294967295) (h39_13.but hb131 (by decide)) (hb14) xnm0 (by omega) (fun u132 hu133 he134 => ?_)
      obtain ⟨g34_135, h34_136, hb137⟩ := (hI 34 (by decide) : cpI 12 15 4294967295 (wget w 34))
      have h34_136 : xRow w 34 12 15 g34_135 := h34_136
      refine xg_cVv mX5_put (vs := [(0, n126), (0, 0), (0, u132)]) (rest := []) (cn1 := 0) (sl1 := 0) rfl (rputI (lim := 6) (wd := 2) (B := 4294967295) hk130 (h34_136.but hb131 (by decide)) (hb137) (by decide) (by omega) (by decide) (by decide) (by omega) (by omega) (by omega)) rfl hk130 rfl rfl rfl rfl rfl rfl (fun w138 hq139 => ?_)
      obtain ⟨g140, hr141, hb142, hb143⟩ := hq139
      refine xg_t (xg_iinc (u := 0) (z := 1) (l1 := [(4, (0, n126)), (3, (2, 33)), (0, (2, 27)), (1, (0, 2)), (2, (0, pc_))]) rfl rfl (by decide) rfl) ?_
      refine xg_t (xg_goto) ?_
      refine xg_t (xg_blk (b := [(105, 2, 2, 5, 0, 0), (107, 3, 37, 1, 0, 115), (110, 1, 2, 1, 0, 0), (111, 1, 10, 0, 0, 0), (112, 3, 6, 142, 3, 0), (115, 2, 2, 5, 0, 0), (117, 1, 3, 3, 0, 0), (118, 3, 6, 142, 3, 0), (121, 1, 0, 3, 0, 0), (122, 2, 2, 4, 0, 0), (124, 2, 2, 5, 0, 0), (126, 1, 0, 0, 0, 0), (127, 3, 1, 2, 3, 18), (130, 2, 2, 5, 0, 0), (132, 1, 10, 0, 0, 0), (133, 3, 13, 290, 40, 207), (136, 3, 9, 5, 1, 0), (139, 3, 8, 105, 0, 0)]) rfl) ?_
      refine xg_t (xg_iload (va := (0, 1)) rfl rfl) ?_
      refine xg_t (xg_gets) ?_
      refine xg_t (xg_iload (va := (0, 2)) rfl rfl) ?_
      refine xg_t (xg_ald8L (n := 2) (u := 2) xnm0 rfl rfl) ?_
      refine xg_t (xg_icF (u := 1) (v := 2) rfl xnm0 xnm0 (by decide)) ?_
      refine xg_t (xg_iload (va := (0, 1)) rfl rfl) ?_
      refine xg_t (xg_const) ?_
      refine xg_t (xg_icF (u := 1) (v := 3) rfl xnm0 xnm0 (by decide)) ?_
      refine xg_t (xg_aload (va := (2, 33)) rfl rfl) ?_
      refine xg_t (xg_iload (va := (0, n126)) rfl rfl) ?_
      refine xg_t (xg_iload (va := (0, 1)) rfl rfl) ?_
      refine xg_t (xg_aload (va := (2, 27)) rfl rfl) ?_
      refine xg_t (xg_getf (va := (2, 39)) (hb143.get (by decide) (hb131.get (by decide) h27_11)) rfl) ?_
      refine xg_t (xg_iload (va := (0, 1)) rfl rfl) ?_
      refine xg_ialdB (n := 1) (B := 4294967295) ((h39_13.but hb131 (by decide)).but hb143 (by decide)) (hb14) xnm0 (by omega) (fun u144 hu145 he146 => ?_)
      refine xg_cVv mX5_put (vs := [(0, n126), (0, 1), (0, u144)]) (rest := []) (cn1 := 0) (sl1 := 0) rfl (rputI (lim := 6) (wd := 2) (B := 4294967295) (hb143.get (by decide) hk130) hr141 (hb142) (by decide) (by omega) (by decide) (by decide) (by omega) (by omega) (by omega)) rfl (hb143.get (by decide) hk130) rfl rfl rfl rfl rfl rfl (fun w147 hq148 => ?_)
      obtain ⟨g149, hr150, hb151, hb152⟩ := hq148
      refine xg_t (xg_iinc (u := 1) (z := 2) (l1 := [(4, (0, n126)), (3, (2, 33)), (0, (2, 27)), (1, (0, 2)), (2, (0, pc_))]) rfl rfl (by decide) rfl) ?_
      refine xg_t (xg_goto) ?_
      refine xg_t (xg_blk (b := [(105, 2, 2, 5, 0, 0), (107, 3, 37, 1, 0, 115), (110, 1, 2, 1, 0, 0), (111, 1, 10, 0, 0, 0), (112, 3, 6, 142, 3, 0), (115, 2, 2, 5, 0, 0), (117, 1, 3, 3, 0, 0), (118, 3, 6, 142, 3, 0), (121, 1, 0, 3, 0, 0), (122, 2, 2, 4, 0, 0), (124, 2, 2, 5, 0, 0), (126, 1, 0, 0, 0, 0), (127, 3, 1, 2, 3, 18), (130, 2, 2, 5, 0, 0), (132, 1, 10, 0, 0, 0), (133, 3, 13, 290, 40, 207), (136, 3, 9, 5, 1, 0), (139, 3, 8, 105, 0, 0)]) rfl) ?_
      refine xg_t (xg_iload (va := (0, 2)) rfl rfl) ?_
      refine xg_t (xg_gets) ?_
      refine xg_t (xg_iload (va := (0, 2)) rfl rfl) ?_
      refine xg_t (xg_ald8L (n := 2) (u := 2) xnm0 rfl rfl) ?_
      refine xg_t (xg_icT (u := 2) (v := 2) rfl xnm0 xnm0 (by decide)) ?_
      refine xg_t (xg_blk (b := [(142, 1, 2, 1, 0, 0), (143, 3, 7, 165, 1, 0), (146, 1, 0, 3, 0, 0), (147, 2, 2, 4, 0, 0), (149, 1, 3, 3, 0, 0), (150, 1, 0, 0, 0, 0), (151, 3, 1, 2, 6, 153), (154, 3, 7, 161, 0, 0), (157, 1, 3, 1, 0, 0), (158, 3, 8, 162, 0, 0)]) rfl) ?_
      refine xg_t (xg_iload (va := (0, 2)) rfl rfl) ?_
      refine xg_t (xg_ifT (u := 2) rfl xnm0 (by decide)) ?_
      refine xg_t (xg_blk (b := [(165, 1, 2, 1, 0, 0), (166, 1, 3, 4, 0, 0), (167, 3, 6, 188, 1, 0), (170, 2, 2, 4, 0, 0), (172, 1, 0, 0, 0, 0), (173, 3, 1, 2, 5, 25), (176, 1, 31, 0, 0, 0), (177, 3, 6, 188, 3, 0), (180, 1, 0, 0, 0, 0), (181, 3, 1, 2, 5, 25), (184, 2, 2, 4, 0, 0), (186, 1, 2, 2, 0, 0), (187, 1, 17, 0, 0, 0)]) rfl) ?_
      refine xg_t (xg_iload (va := (0, 2)) rfl rfl) ?_
      refine xg_t (xg_const) ?_
      refine xg_t (xg_icT (u := 2) (v := 4) rfl xnm0 xnm0 (by decide)) ?_
      refine xg_t (xg_blk (b := [(188, 1, 12, 0, 0, 0)]) rfl) ?_
      exact xg_e ⟨w147, ⟨rfl, rfl⟩, xInv.up (S := [33, 34]) hI (((xFr.of (S := [33, 34]) hb131 (by decide)).tr (xFr.of (S := [33, 34]) hb143 (by decide))).tr (xFr.of (S := [33, 34]) hb152 (by decide))) (List.forall_mem_cons.mpr ⟨(show cp33 (wget w147 33) from ⟨s128, (hb152.get (by decide) (hb143.get (by decide) hk130)), by omega⟩), List.forall_mem_cons.mpr ⟨(show cpI 12 15 4294967295 (wget w147 34) from ⟨_, hr150, hb151⟩), fun _ h => absurd h List.not_mem_nil⟩⟩), (((xFr.of (S := [29, 30, 31, 32, 33, 34, 35, 36, 37, 38, 41]) hb131 (by decide)).tr (xFr.of (S := [29, 30, 31, 32, 33, 34, 35, 36, 37, 38, 41]) hb143 (by decide))).tr (xFr.of (S := [29, 30, 31, 32, 33, 34, 35, 36, 37, 38, 41]) hb152 (by decide)))⟩
  · obtain ⟨f28_153, f28_155, f28_157, f28_159, f28_161, h28_163, hb154, hb156, hb158, hb160, hb162⟩ := (hI 28 (by decide) : cp28 (wget w 28))
    refine xg_t (xg_cVr mX1_rowsOf (vs := [(0, 2)]) (rest := []) (rs := [(2, 35)]) (cn1 := 0) (sl1 := 0) rfl (hp20) rfl h28_163 rfl rfl rfl rfl rfl rfl rfl) ?_
    refine xg_t (xg_astore (l1 := [(0, (2, 27)), (1, (0, 2)), (2, (0, pc_))]) rfl rfl rfl) ?_
    refine xg_t (xg_aload (va := (2, 35)) rfl rfl) ?_
    refine xg_t (xg_ifnullF) ?_
    refine xg_t (xg_aload (va := (2, 35)) rfl rfl) ?_
    obtain ⟨f35_164, h35_166, hb165⟩ := (hI 35 (by decide) : cp35 (wget w 35))
    refine xg_t (xg_cVr mX5_isFull (vs := []) (rest := []) (rs := [(0, if 4 ≤ f35_164 then 1 else 0)]) (cn1 := 0) (sl1 := 0) rfl (rfull_ok h35_166 (by decide) (by omega)) rfl h35_166 rfl rfl rfl rfl rfl rfl rfl) ?_
    by_cases hc167 : 4 ≤ f35_164
    · refine xg_t (xg_ifF (u := (if 4 ≤ f35_164 then 1 else 0)) rfl xnm0 (xj_eqF (xite1 hc167))) ?_
      refine xg_t (xg_blk (b := [(95, 1, 12, 0, 0, 0)]) rfl) ?_
      exact xg_e ⟨w, ⟨rfl, rfl⟩, hI, xFr.rf⟩
    · refine xg_t (xg_ifT (u := (if 4 ≤ f35_164 then 1 else 0)) rfl xnm0 (xj_eqT (xite0 hc167))) ?_
      refine xg_t (xg_blk (b := [(96, 1, 0, 3, 0, 0), (97, 3, 13, 286, 40, 204), (100, 2, 15, 4, 0, 0), (102, 1, 3, 0, 0, 0), (103, 2, 15, 5, 0, 0)]) rfl) ?_
      refine xg_t (xg_aload (va := (2, 35)) rfl rfl) ?_
      refine xg_cVi mX5_grow (vs := []) (rest := []) (cn1 := 0) (sl1 := 0) rfl (rgrowI h35_166 (by decide) (by omega)) rfl h35_166 rfl rfl rfl rfl rfl rfl (fun n170 w168 hq169 => ?_)
      obtain ⟨hn171, s172, hs173, hk174, hb175⟩ := hq169
      refine xg_t (xg_istore (l1 := [(3, (2, 35)), (0, (2, 27)), (1, (0, 2)), (2, (0, pc_))]) rfl rfl rfl) ?_
      refine xg_t (xg_const) ?_
      refine xg_t (xg_istore (l1 := [(4, (0, n170)), (3, (2, 35)), (0, (2, 27)), (1, (0, 2)), (2, (0, pc_))]) rfl rfl rfl) ?_
      refine xg_t (xg_blk (b := [(105, 2, 2, 5, 0, 0), (107, 3, 37, 1, 0, 115), (110, 1, 2, 1, 0, 0), (111, 1, 10, 0, 0, 0), (112, 3, 6, 142, 3, 0), (115, 2, 2, 5, 0, 0), (117, 1, 3, 3, 0, 0), (118, 3, 6, 142, 3, 0), (121, 1, 0, 3, 0, 0), (122, 2, 2, 4, 0, 0), (124, 2, 2, 5, 0, 0), (126, 1, 0, 0, 0, 0), (127, 3, 1, 2, 3, 18), (130, 2, 2, 5, 0, 0), (132, 1, 10, 0, 0, 0), (133, 3, 13, 290, 40, 207), (136, 3, 9, 5, 1, 0), (139, 3, 8, 105, 0, 0)]) rfl) ?_
      refine xg_t (xg_iload (va := (0, 0)) rfl rfl) ?_
      refine xg_t (xg_gets) ?_
      refine xg_t (xg_iload (va := (0, 2)) rfl rfl) ?_
      refine xg_t (xg_ald8L (n := 2) (u := 2) xnm0 rfl rfl) ?_
      refine xg_t (xg_icF (u := 0) (v := 2) rfl xnm0 xnm0 (by decide)) ?_
      refine xg_t (xg_iload (va := (0, 0)) rfl rfl) ?_
      refine xg_t (xg_const) ?_
      refine xg_t (xg_icF (u := 0) (v := 3) rfl xnm0 xnm0 (by decide)) ?_
      refine xg_t (xg_aload (va := (2, 35)) rfl rfl) ?_
      refine xg_t (xg_iload (va := (0, n170)) rfl rfl) ?_
      refine xg_t (xg_iload (va := (0, 0)) rfl rfl) ?_
      refine xg_t (xg_aload (va := (2, 27)) rfl rfl) ?_
      refine xg_t (xg_getf (va := (2, 39)) (hb175.get (by decide) h27_11) rfl) ?_
      refine xg_t (xg_iload (va := (0, 0)) rfl rfl) ?_
      refine xg_ialdB (n := 0) (B := 4294967295) (h39_13.but hb175 (by decide)) (hb14) xnm0 (by omega) (fun u176 hu177 he178 => ?_)
      obtain ⟨g36_179, h36_180, hb181⟩ := (hI 36 (by decide) : cpI 12 16 4294967295 (wget w 36))
      have h36_180 : xRow w 36 12 16 g36_179 := h36_180
      refine xg_cVv mX5_put (vs := [(0, n170), (0, 0), (0, u176)]) (rest := []) (cn1 := 0) (sl1 := 0) rfl (rputI (lim := 4) (wd := 3) (B := 4294967295) hk174 (h36_180.but hb175 (by decide)) (hb181) (by decide) (by omega) (by decide) (by decide) (by omega) (by omega) (by omega)) rfl hk174 rfl rfl rfl rfl rfl rfl (fun w182 hq183 => ?_)
      obtain ⟨g184, hr185, hb186, hb187⟩ := hq183
      refine xg_t (xg_iinc (u := 0) (z := 1) (l1 := [(4, (0, n170)), (3, (2, 35)), (0, (2, 27)), (1, (0, 2)), (2, (0, pc_))]) rfl rfl (by decide) rfl) ?_
      refine xg_t (xg_goto) ?_
      refine xg_t (xg_blk (b := [(105, 2, 2, 5, 0, 0), (107, 3, 37, 1, 0, 115), (110, 1, 2, 1, 0, 0), (111, 1, 10, 0, 0, 0), (112, 3, 6, 142, 3, 0), (115, 2, 2, 5, 0, 0), (117, 1, 3, 3, 0, 0), (118, 3, 6, 142, 3, 0), (121, 1, 0, 3, 0, 0), (122, 2, 2, 4, 0, 0), (124, 2, 2, 5, 0, 0), (126, 1, 0, 0, 0, 0), (127, 3, 1, 2, 3, 18), (130, 2, 2, 5, 0, 0), (132, 1, 10, 0, 0, 0), (133, 3, 13, 290, 40, 207), (136, 3, 9, 5, 1, 0), (139, 3, 8, 105, 0, 0)]) rfl) ?_
      refine xg_t (xg_iload (va := (0, 1)) rfl rfl) ?_
      refine xg_t (xg_gets) ?_
      refine xg_t (xg_iload (va := (0, 2)) rfl rfl) ?_
      refine xg_t (xg_ald8L (n := 2) (u := 2) xnm0 rfl rfl) ?_
      refine xg_t (xg_icF (u := 1) (v := 2) rfl xnm0 xnm0 (by decide)) ?_
      refine xg_t (xg_iload (va := (0, 1)) rfl rfl) ?_
      refine xg_t (xg_const) ?_
      refine xg_t (xg_icF (u := 1) (v := 3) rfl xnm0 xnm0 (by decide)) ?_
      refine xg_t (xg_aload (va := (2, 35)) rfl rfl) ?_
      refine xg_t (xg_iload (va := (0, n170)) rfl rfl) ?_
      refine xg_t (xg_iload (va := (0, 1)) rfl rfl) ?_
      refine xg_t (xg_aload (va := (2, 27)) rfl rfl) ?_
      refine xg_t (xg_getf (va := (2, 39)) (hb187.get (by decide) (hb175.get (by decide) h27_11)) rfl) ?_
      refine xg_t (xg_iload (va := (0, 1)) rfl rfl) ?_
      refine xg_ialdB (n := 1) (B := 4294967295) ((h39_13.but hb175 (by decide)).but hb187 (by decide)) (hb14) xnm0 (by omega) (fun u188 hu189 he190 => ?_)
      refine xg_cVv mX5_put (vs := [(0, n170), (0, 1), (0, u188)]) (rest := []) (cn1 := 0) (sl1 := 0) rfl (rputI (lim := 4) (wd := 3) (B := 4294967295) (hb187.get (by decide) hk174) hr185 (hb186) (by decide) (by omega) (by decide) (by decide) (by omega) (by omega) (by omega)) rfl (hb187.get (by decide) hk174) rfl rfl rfl rfl rfl rfl (fun w191 hq192 => ?_)
      obtain ⟨g193, hr194, hb195, hb196⟩ := hq192
      refine xg_t (xg_iinc (u := 1) (z := 2) (l1 := [(4, (0, n170)), (3, (2, 35)), (0, (2, 27)), (1, (0, 2)), (2, (0, pc_))]) rfl rfl (by decide) rfl) ?_
      refine xg_t (xg_goto) ?_
      refine xg_t (xg_blk (b := [(105, 2, 2, 5, 0, 0), (107, 3, 37, 1, 0, 115), (110, 1, 2, 1, 0, 0), (111, 1, 10, 0, 0, 0), (112, 3, 6, 142, 3, 0), (115, 2, 2, 5, 0, 0), (117, 1, 3, 3, 0, 0), (118, 3, 6, 142, 3, 0), (121, 1, 0, 3, 0, 0), (122, 2, 2, 4, 0, 0), (124, 2, 2, 5, 0, 0), (126, 1, 0, 0, 0, 0), (127, 3, 1, 2, 3, 18), (130, 2, 2, 5, 0, 0), (132, 1, 10, 0, 0, 0), (133, 3, 13, 290, 40, 207), (136, 3, 9, 5, 1, 0), (139, 3, 8, 105, 0, 0)]) rfl) ?_
      refine xg_t (xg_iload (va := (0, 2)) rfl rfl) ?_
      refine xg_t (xg_gets) ?_
      refine xg_t (xg_iload (va := (0, 2)) rfl rfl) ?_
      refine xg_t (xg_ald8L (n := 2) (u := 2) xnm0 rfl rfl) ?_
      refine xg_t (xg_icT (u := 2) (v := 2) rfl xnm0 xnm0 (by decide)) ?_
      refine xg_t (xg_blk (b := [(142, 1, 2, 1, 0, 0), (143, 3, 7, 165, 1, 0), (146, 1, 0, 3, 0, 0), (147, 2, 2, 4, 0, 0), (149, 1, 3, 3, 0, 0), (150, 1, 0, 0, 0, 0), (151, 3, 1, 2, 6, 153), (154, 3, 7, 161, 0, 0), (157, 1, 3, 1, 0, 0), (158, 3, 8, 162, 0, 0)]) rfl) ?_
      refine xg_t (xg_iload (va := (0, 2)) rfl rfl) ?_
      refine xg_t (xg_ifT (u := 2) rfl xnm0 (by decide)) ?_
      refine xg_t (xg_blk (b := [(165, 1, 2, 1, 0, 0), (166, 1, 3, 4, 0, 0), (167, 3, 6, 188, 1, 0), (170, 2, 2, 4, 0, 0), (172, 1, 0, 0, 0, 0), (173, 3, 1, 2, 5, 25), (176, 1, 31, 0, 0, 0), (177, 3, 6, 188, 3, 0), (180, 1, 0, 0, 0, 0), (181, 3, 1, 2, 5, 25), (184, 2, 2, 4, 0, 0), (186, 1, 2, 2, 0, 0), (187, 1, 17, 0, 0, 0)]) rfl) ?_
      refine xg_t (xg_iload (va := (0, 2)) rfl rfl) ?_
      refine xg_t (xg_const) ?_
      refine xg_t (xg_icT (u := 2) (v := 4) rfl xnm0 xnm0 (by decide)) ?_
      refine xg_t (xg_blk (b := [(188, 1, 12, 0, 0, 0)]) rfl) ?_
      exact xg_e ⟨w191, ⟨rfl, rfl⟩, xInv.up (S := [35, 36]) hI (((xFr.of (S := [35, 36]) hb175 (by decide)).tr (xFr.of (S := [35, 36]) hb187 (by decide))).tr (xFr.of (S := [35, 36]) hb196 (by decide))) (List.forall_mem_cons.mpr ⟨(show cp35 (wget w191 35) from ⟨s172, (hb196.get (by decide) (hb187.get (by decide) hk174)), by omega⟩), List.forall_mem_cons.mpr ⟨(show cpI 12 16 4294967295 (wget w191 36) from ⟨_, hr194, hb195⟩), fun _ h => absurd h List.not_mem_nil⟩⟩), (((xFr.of (S := [29, 30, 31, 32, 33, 34, 35, 36, 37, 38, 41]) hb175 (by decide)).tr (xFr.of (S := [29, 30, 31, 32, 33, 34, 35, 36, 37, 38, 41]) hb187 (by decide))).tr (xFr.of (S := [29, 30, 31, 32, 33, 34, 35, 36, 37, 38, 41]) hb196 (by decide)))⟩
  · obtain ⟨f28_197, f28_199, f28_201, f28_203, f28_205, h28_207, hb198, hb200, hb202, hb204, hb206⟩ := (hI 28 (by decide) : cp28 (wget w 28))
    refine xg_t (xg_cVr mX1_rowsOf (vs := [(0, 2)]) (rest := []) (rs := [(2, 37)]) (cn1 := 0) (sl1 := 0) rfl (hp20) rfl h28_207 rfl rfl rfl rfl rfl rfl rfl) ?_
    refine xg_t (xg_astore (l1 := [(0, (2, 27)), (1, (0, 2)), (2, (0, pc_))]) rfl rfl rfl) ?_
    refine xg_t (xg_aload (va := (2, 37)) rfl rfl) ?_
    refine xg_t (xg_ifnullF) ?_
    refine xg_t (xg_aload (va := (2, 37)) rfl rfl) ?_
    obtain ⟨f37_208, h37_210, hb209⟩ := (hI 37 (by decide) : cp37 (wget w 37))
    refine xg_t (xg_cVr mX5_isFull (vs := []) (rest := []) (rs := [(0, if 20 ≤ f37_208 then 1 else 0)]) (cn1 := 0) (sl1 := 0) rfl (rfull_ok h37_210 (by decide) (by omega)) rfl h37_210 rfl rfl rfl rfl rfl rfl rfl) ?_
    by_cases hc211 : 20 ≤ f37_208
    · refine xg_t (xg_ifF (u := (if 20 ≤ f37_208 then 1 else 0)) rfl xnm0 (xj_eqF (xite1 hc211))) ?_
      refine xg_t (xg_blk (b := [(95, 1, 12, 0, 0, 0)]) rfl) ?_
      exact xg_e ⟨w, ⟨rfl, rfl⟩, hI, xFr.rf⟩
    · refine xg_t (xg_ifT (u := (if 20 ≤ f37_208 then 1 else 0)) rfl xnm0 (xj_eqT (xite0 hc211))) ?_
      refine xg_t (xg_blk (b := [(96, 1, 0, 3, 0, 0), (97, 3, 13, 286, 40, 204), (100, 2, 15, 4, 0, 0), (102, 1, 3, 0, 0, 0), (103, 2, 15, 5, 0, 0)]) rfl) ?_
      refine xg_t (xg_aload (va := (2, 37)) rfl rfl) ?_
      refine xg_cVi mX5_grow (vs := []) (rest := []) (cn1 := 0) (sl1 := 0) rfl (rgrowI h37_210 (by decide) (by omega)) rfl h37_210 rfl rfl rfl rfl rfl rfl (fun n214 w212 hq213 => ?_)
      obtain ⟨hn215, s216, hs217, hk218, hb219⟩ := hq213
      refine xg_t (xg_istore (l1 := [(3, (2, 37)), (0, (2, 27)), (1, (0, 2)), (2, (0, pc_))]) rfl rfl rfl) ?_
      refine xg_t (xg_const) ?_
      refine xg_t (xg_istore (l1 := [(4, (0, n214)), (3, (2, 37)), (0, (2, 27)), (1, (0, 2)), (2, (0, pc_))]) rfl rfl rfl) ?_
      refine xg_t (xg_blk (b := [(105, 2, 2, 5, 0, 0), (107, 3, 37, 1, 0, 115), (110, 1, 2, 1, 0, 0), (111, 1, 10, 0, 0, 0), (112, 3, 6, 142, 3, 0), (115, 2, 2, 5, 0, 0), (117, 1, 3, 3, 0, 0), (118, 3, 6, 142, 3, 0), (121, 1, 0, 3, 0, 0), (122, 2, 2, 4, 0, 0), (124, 2, 2, 5, 0, 0), (126, 1, 0, 0, 0, 0), (127, 3, 1, 2, 3, 18), (130, 2, 2, 5, 0, 0), (132, 1, 10, 0, 0, 0), (133, 3, 13, 290, 40, 207), (136, 3, 9, 5, 1, 0), (139, 3, 8, 105, 0, 0)]) rfl) ?_
      refine xg_t (xg_iload (va := (0, 0)) rfl rfl) ?_
      refine xg_t (xg_gets) ?_
      refine xg_t (xg_iload (va := (0, 2)) rfl rfl) ?_
      refine xg_t (xg_ald8L (n := 2) (u := 2) xnm0 rfl rfl) ?_
      refine xg_t (xg_icF (u := 0) (v := 2) rfl xnm0 xnm0 (by decide)) ?_
      refine xg_t (xg_iload (va := (0, 0)) rfl rfl) ?_
      refine xg_t (xg_const) ?_
      refine xg_t (xg_icF (u := 0) (v := 3) rfl xnm0 xnm0 (by decide)) ?_
      refine xg_t (xg_aload (va := (2, 37)) rfl rfl) ?_
      refine xg_t (xg_iload (va := (0, n214)) rfl rfl) ?_
      refine xg_t (xg_iload (va := (0, 0)) rfl rfl) ?_
      refine xg_t (xg_aload (va := (2, 27)) rfl rfl) ?_
      refine xg_t (xg_getf (va := (2, 39)) (hb219.get (by decide) h27_11) rfl) ?_
      refine xg_t (xg_iload (va := (0, 0)) rfl rfl) ?_
      refine xg_ialdB (n := 0) (B := 4294967295) (h39_13.but hb219 (by decide)) (hb14) xnm0 (by omega) (fun u220 hu221 he222 => ?_)
      obtain ⟨g38_223, h38_224, hb225⟩ := (hI 38 (by decide) : cpI 40 17 4294967295 (wget w 38))
      have h38_224 : xRow w 38 40 17 g38_223 := h38_224
      refine xg_cVv mX5_put (vs := [(0, n214), (0, 0), (0, u220)]) (rest := []) (cn1 := 0) (sl1 := 0) rfl (rputI (lim := 20) (wd := 2) (B := 4294967295) hk218 (h38_224.but hb219 (by decide)) (hb225) (by decide) (by omega) (by decide) (by decide) (by omega) (by omega) (by omega)) rfl hk218 rfl rfl rfl rfl rfl rfl (fun w226 hq227 => ?_)
      obtain ⟨g228, hr229, hb230, hb231⟩ := hq227
      refine xg_t (xg_iinc (u := 0) (z := 1) (l1 := [(4, (0, n214)), (3, (2, 37)), (0, (2, 27)), (1, (0, 2)), (2, (0, pc_))]) rfl rfl (by decide) rfl) ?_
      refine xg_t (xg_goto) ?_
      refine xg_t (xg_blk (b := [(105, 2, 2, 5, 0, 0), (107, 3, 37, 1, 0, 115), (110, 1, 2, 1, 0, 0), (111, 1, 10, 0, 0, 0), (112, 3, 6, 142, 3, 0), (115, 2, 2, 5, 0, 0), (117, 1, 3, 3, 0, 0), (118, 3, 6, 142, 3, 0), (121, 1, 0, 3, 0, 0), (122, 2, 2, 4, 0, 0), (124, 2, 2, 5, 0, 0), (126, 1, 0, 0, 0, 0), (127, 3, 1, 2, 3, 18), (130, 2, 2, 5, 0, 0), (132, 1, 10, 0, 0, 0), (133, 3, 13, 290, 40, 207), (136, 3, 9, 5, 1, 0), (139, 3, 8, 105, 0, 0)]) rfl) ?_
      refine xg_t (xg_iload (va := (0, 1)) rfl rfl) ?_
      refine xg_t (xg_gets) ?_
      refine xg_t (xg_iload (va := (0, 2)) rfl rfl) ?_
      refine xg_t (xg_ald8L (n := 2) (u := 2) xnm0 rfl rfl) ?_
      refine xg_t (xg_icF (u := 1) (v := 2) rfl xnm0 xnm0 (by decide)) ?_
      refine xg_t (xg_iload (va := (0, 1)) rfl rfl) ?_
      refine xg_t (xg_const) ?_
      refine xg_t (xg_icF (u := 1) (v := 3) rfl xnm0 xnm0 (by decide)) ?_
      refine xg_t (xg_aload (va := (2, 37)) rfl rfl) ?_
      refine xg_t (xg_iload (va := (0, n214)) rfl rfl) ?_
      refine xg_t (xg_iload (va := (0, 1)) rfl rfl) ?_
      refine xg_t (xg_aload (va := (2, 27)) rfl rfl) ?_
      refine xg_t (xg_getf (va := (2, 39)) (hb231.get (by decide) (hb219.get (by decide) h27_11)) rfl) ?_
      refine xg_t (xg_iload (va := (0, 1)) rfl rfl) ?_
      refine xg_ialdB (n := 1) (B := 4294967295) ((h39_13.but hb219 (by decide)).but hb231 (by decide)) (hb14) xnm0 (by omega) (fun u232 hu233 he234 => ?_)
      refine xg_cVv mX5_put (vs := [(0, n214), (0, 1), (0, u232)]) (rest := []) (cn1 := 0) (sl1 := 0) rfl (rputI (lim := 20) (wd := 2) (B := 4294967295) (hb231.get (by decide) hk218) hr229 (hb230) (by decide) (by omega) (by decide) (by decide) (by omega) (by omega) (by omega)) rfl (hb231.get (by decide) hk218) rfl rfl rfl rfl rfl rfl (fun w235 hq236 => ?_)
      obtain ⟨g237, hr238, hb239, hb240⟩ := hq236
      refine xg_t (xg_iinc (u := 1) (z := 2) (l1 := [(4, (0, n214)), (3, (2, 37)), (0, (2, 27)), (1, (0, 2)), (2, (0, pc_))]) rfl rfl (by decide) rfl) ?_
      refine xg_t (xg_goto) ?_
      refine xg_t (xg_blk (b := [(105, 2, 2, 5, 0, 0), (107, 3, 37, 1, 0, 115), (110, 1, 2, 1, 0, 0), (111, 1, 10, 0, 0, 0), (112, 3, 6, 142, 3, 0), (115, 2, 2, 5, 0, 0), (117, 1, 3, 3, 0, 0), (118, 3, 6, 142, 3, 0), (121, 1, 0, 3, 0, 0), (122, 2, 2, 4, 0, 0), (124, 2, 2, 5, 0, 0), (126, 1, 0, 0, 0, 0), (127, 3, 1, 2, 3, 18), (130, 2, 2, 5, 0, 0), (132, 1, 10, 0, 0, 0), (133, 3, 13, 290, 40, 207), (136, 3, 9, 5, 1, 0), (139, 3, 8, 105, 0, 0)]) rfl) ?_
      refine xg_t (xg_iload (va := (0, 2)) rfl rfl) ?_
      refine xg_t (xg_gets) ?_
      refine xg_t (xg_iload (va := (0, 2)) rfl rfl) ?_
      refine xg_t (xg_ald8L (n := 2) (u := 2) xnm0 rfl rfl) ?_
      refine xg_t (xg_icT (u := 2) (v := 2) rfl xnm0 xnm0 (by decide)) ?_
      refine xg_t (xg_blk (b := [(142, 1, 2, 1, 0, 0), (143, 3, 7, 165, 1, 0), (146, 1, 0, 3, 0, 0), (147, 2, 2, 4, 0, 0), (149, 1, 3, 3, 0, 0), (150, 1, 0, 0, 0, 0), (151, 3, 1, 2, 6, 153), (154, 3, 7, 161, 0, 0), (157, 1, 3, 1, 0, 0), (158, 3, 8, 162, 0, 0)]) rfl) ?_
      refine xg_t (xg_iload (va := (0, 2)) rfl rfl) ?_
      refine xg_t (xg_ifT (u := 2) rfl xnm0 (by decide)) ?_
      refine xg_t (xg_blk (b := [(165, 1, 2, 1, 0, 0), (166, 1, 3, 4, 0, 0), (167, 3, 6, 188, 1, 0), (170, 2, 2, 4, 0, 0), (172, 1, 0, 0, 0, 0), (173, 3, 1, 2, 5, 25), (176, 1, 31, 0, 0, 0), (177, 3, 6, 188, 3, 0), (180, 1, 0, 0, 0, 0), (181, 3, 1, 2, 5, 25), (184, 2, 2, 4, 0, 0), (186, 1, 2, 2, 0, 0), (187, 1, 17, 0, 0, 0)]) rfl) ?_
      refine xg_t (xg_iload (va := (0, 2)) rfl rfl) ?_
      refine xg_t (xg_const) ?_
      refine xg_t (xg_icT (u := 2) (v := 4) rfl xnm0 xnm0 (by decide)) ?_
      refine xg_t (xg_blk (b := [(188, 1, 12, 0, 0, 0)]) rfl) ?_
      exact xg_e ⟨w235, ⟨rfl, rfl⟩, xInv.up (S := [37, 38]) hI (((xFr.of (S := [37, 38]) hb219 (by decide)).tr (xFr.of (S := [37, 38]) hb231 (by decide))).tr (xFr.of (S := [37, 38]) hb240 (by decide))) (List.forall_mem_cons.mpr ⟨(show cp37 (wget w235 37) from ⟨s216, (hb240.get (by decide) (hb231.get (by decide) hk218)), by omega⟩), List.forall_mem_cons.mpr ⟨(show cpI 40 17 4294967295 (wget w235 38) from ⟨_, hr238, hb239⟩), fun _ h => absurd h List.not_mem_nil⟩⟩), (((xFr.of (S := [29, 30, 31, 32, 33, 34, 35, 36, 37, 38, 41]) hb219 (by decide)).tr (xFr.of (S := [29, 30, 31, 32, 33, 34, 35, 36, 37, 38, 41]) hb231 (by decide))).tr (xFr.of (S := [29, 30, 31, 32, 33, 34, 35, 36, 37, 38, 41]) hb240 (by decide)))⟩
  · obtain ⟨f28_241, f28_243, f28_245, f28_247, f28_249, h28_251, hb242, hb244, hb246, hb248, hb250⟩ := (hI 28 (by decide) : cp28 (wget w 28))
    refine xg_t (xg_cVr mX1_rowsOf (vs := [(0, 2)]) (rest := []) (rs := [(3, 0)]) (cn1 := 0) (sl1 := 0) rfl (hp20) rfl h28_251 rfl rfl rfl rfl rfl rfl rfl) ?_
    refine xg_t (xg_astore (l1 := [(0, (2, 27)), (1, (0, 2)), (2, (0, pc_))]) rfl rfl rfl) ?_
    refine xg_t (xg_aload (va := (3, 0)) rfl rfl) ?_
    refine xg_t (xg_ifnullT) ?_
    refine xg_t (xg_blk (b := [(95, 1, 12, 0, 0, 0)]) rfl) ?_
    exact xg_e ⟨w, ⟨rfl, rfl⟩, hI, xFr.rf⟩
theorem ftFine3 {pc_ : Nat} (hI : xInv w) (h1 : pc_ ≤ 4294967295) : xPi (d + 3) mX2_isFine [(2, 27), (0, 3), (0, pc_)] w bd fc rr (fun n w' => (n ≤ 1) ∧ xInv w' ∧ xFr [27] w w') := by
  refine xPi.of ?_
  show xTo (d + 3) mX2_isFine (0, [], [(0, (2, 27)), (1, (0, 3)), (2, (0, pc_))], [], (w, bd, fc, 0, 0, rr)) (fun φ => ∃ n w', xEnd 4 [(0, n)] (w', bd, fc, 0, 0, rr) φ ∧ (n ≤ 1) ∧ xInv w' ∧ xFr [27] w w')
  obtain ⟨f27_1, f27_3, f27_5, f27_7, f27_9, h27_11, hb2, hb4, hb6, hb8, hb10⟩ := (hI 27 (by decide) : cp27 (wget w 27))
  obtain ⟨g39_12, h39_13, hb14⟩ := (hI 39 (by decide) : cpI 3 18 4294967295 (wget w 39))
  have h39_13 : xRow w 39 3 18 g39_12 := h39_13
  obtain ⟨g40_15, h40_16, hb17⟩ := (hI 40 (by decide) : cpI 3 19 4294967295 (wget w 40))
  have h40_16 : xRow w 40 3 19 g40_15 := h40_16
  refine xg_t (xg_blk (b := [(0, 1, 0, 0, 0, 0), (1, 1, 2, 1, 0, 0), (2, 3, 13, 249, 16, 158), (5, 3, 7, 20, 0, 0), (8, 1, 0, 0, 0, 0), (9, 1, 3, 3, 0, 0), (10, 3, 14, 2, 9, 57), (13, 1, 0, 0, 0, 0), (14, 1, 2, 2, 0, 0), (15, 3, 14, 2, 10, 88), (18, 1, 3, 0, 0, 0), (19, 1, 12, 0, 1, 0)]) rfl) ?_
  refine xg_t (xg_aload (va := (2, 27)) rfl rfl) ?_
  refine xg_t (xg_iload (va := (0, 3)) rfl rfl) ?_
  refine xg_cVi mX2_isTooMany (vs := [(0, 3)]) (rest := []) (cn1 := 0) (sl1 := 0) rfl (ftTooMany (hI) (by omega)) rfl h27_11 rfl rfl rfl rfl rfl rfl (fun n22 w18 hq19 => ?_)
  obtain ⟨hn23, hI20, hF21⟩ := hq19
  by_cases hc24 : n22 = 0
  · refine xg_t (xg_ifT (u := n22) rfl xnm0 (xj_eqT hc24)) ?_
    refine xg_t (xg_blk (b := [(20, 1, 2, 1, 0, 0), (21, 3, 7, 30, 2, 0), (24, 1, 2, 1, 0, 0), (25, 2, 4, 7, 0, 0), (27, 3, 6, 32, 2, 0)]) rfl) ?_
    refine xg_t (xg_iload (va := (0, 3)) rfl rfl) ?_
    refine xg_t (xg_ifF (u := 3) rfl xnm0 (by decide)) ?_
    refine xg_t (xg_iload (va := (0, 3)) rfl rfl) ?_
    refine xg_t (xg_bip) ?_
    refine xg_t (xg_icT (u := 3) (v := 7) rfl xnm0 xnm0 (by decide)) ?_
    refine xg_t (xg_blk (b := [(32, 1, 3, 0, 0, 0), (33, 1, 15, 3, 0, 0)]) rfl) ?_
    refine xg_t (xg_const) ?_
    refine xg_t (xg_istore (l1 := [(0, (2, 27)), (1, (0, 3)), (2, (0, pc_))]) rfl rfl rfl) ?_
    refine xg_t (xg_blk (b := [(34, 1, 2, 3, 0, 0), (35, 3, 37, 1, 0, 115), (38, 1, 2, 1, 0, 0), (39, 1, 10, 0, 0, 0), (40, 3, 6, 101, 3, 0), (43, 1, 2, 3, 0, 0), (44, 1, 3, 3, 0, 0), (45, 3, 6, 101, 3, 0), (48, 1, 0, 0, 0, 0), (49, 3, 1, 2, 3, 18), (52, 1, 2, 3, 0, 0), (53, 1, 10, 0, 0, 0), (54, 3, 37, 2, 0, 162), (57, 1, 2, 1, 0, 0), (58, 1, 3, 3, 0, 0), (59, 1, 16, 0, 0, 0), (60, 1, 2, 3, 0, 0), (61, 1, 11, 0, 0, 0), (62, 1, 10, 0, 0, 0), (63, 3, 37, 3, 0, 165), (66, 1, 2, 1, 0, 0), (67, 1, 3, 3, 0, 0), (68, 1, 16, 0, 0, 0), (69, 1, 2, 3, 0, 0), (70, 1, 11, 0, 0, 0), (71, 1, 10, 0, 0, 0), (72, 3, 13, 70, 91, 168), (75, 3, 7, 95, 1, 0), (78, 1, 0, 0, 0, 0), (79, 1, 3, 2, 0, 0), (80, 3, 14, 2, 9, 57), (83, 1, 0, 0, 0, 0), (84, 1, 0, 0, 0, 0), (85, 3, 1, 2, 4, 22), (88, 1, 2, 3, 0, 0), (89, 1, 10, 0, 0, 0), (90, 3, 14, 2, 10, 88), (93, 1, 3, 0, 0, 0), (94, 1, 12, 0, 1, 0)]) rfl) ?_
    refine xg_t (xg_iload (va := (0, 0)) rfl rfl) ?_
    refine xg_t (xg_gets) ?_
    refine xg_t (xg_iload (va := (0, 3)) rfl rfl) ?_
    refine xg_t (xg_ald8L (n := 3) (u := 3) xnm0 rfl rfl) ?_
    refine xg_t (xg_icF (u := 0) (v := 3) rfl xnm0 xnm0 (by decide)) ?_
    refine xg_t (xg_iload (va := (0, 0)) rfl rfl) ?_
    refine xg_t (xg_const) ?_
    refine xg_t (xg_icF (u := 0) (v := 3) rfl xnm0 xnm0 (by decide)) ?_
    refine xg_t (xg_aload (va := (2, 27)) rfl rfl) ?_
    refine xg_t (xg_getf (va := (2, 39)) (hF21.get (by decide) h27_11) rfl) ?_
    refine xg_t (xg_iload (va := (0, 0)) rfl rfl) ?_
    refine xg_ialdB (n := 0) (B := 4294967295) (h39_13.fr hF21 (by decide)) (hb14) xnm0 (by omega) (fun u25 hu26 he27 => ?_)
    refine xg_t (xg_gets) ?_
    refine xg_t (xg_iload (va := (0, 3)) rfl rfl) ?_
    refine xg_t (xg_const) ?_
    refine xg_t (xg_imul (u := 3) (v := 3) (z := 9) xnm0 xnm0 (by decide)) ?_
    refine xg_t (xg_iload (va := (0, 0)) rfl rfl) ?_
    refine xg_t (xg_iadd (u := 9) (v := 0) (z := 9) xnm0 xnm0 (by decide)) ?_
    refine xg_t (xg_ald8L (n := 9) (u := 1) xnm0 rfl rfl) ?_
    refine xg_t (xg_gets) ?_
    refine xg_t (xg_iload (va := (0, 3)) rfl rfl) ?_
    refine xg_t (xg_const) ?_
    refine xg_t (xg_imul (u := 3) (v := 3) (z := 9) xnm0 xnm0 (by decide)) ?_
    refine xg_t (xg_iload (va := (0, 0)) rfl rfl) ?_
    refine xg_t (xg_iadd (u := 9) (v := 0) (z := 9) xnm0 xnm0 (by decide)) ?_
    refine xg_t (xg_ald8L (n := 9) (u := 10) xnm0 rfl rfl) ?_
    refine xg_t (xg_cNr mX11_isIn (vs := [(0, u25), (0, 1), (0, 10)]) (rest := []) (rs := [(0, if 1 ≤ u25 ∧ u25 ≤ 10 then 1 else 0)]) (cn1 := 0) (sl1 := 0) rfl (isIn_ok (by omega) (by omega) (by omega)) rfl rfl rfl rfl rfl rfl rfl rfl) ?_
    by_cases hc28 : 1 ≤ u25 ∧ u25 ≤ 10
    · refine xg_t (xg_ifT (u := (if 1 ≤ u25 ∧ u25 ≤ 10 then 1 else 0)) rfl xnm0 (xj_neT (xite1 hc28))) ?_
      refine xg_t (xg_blk (b := [(95, 3, 9, 3, 1, 0), (98, 3, 8, 34, 0, 0)]) rfl) ?_
      refine xg_t (xg_iinc (u := 0) (z := 1) (l1 := [(0, (2, 27)), (1, (0, 3)), (2, (0, pc_))]) rfl rfl (by decide) rfl) ?_
      refine xg_t (xg_goto) ?_
      refine xg_t (xg_blk (b := [(34, 1, 2, 3, 0, 0), (35, 3, 37, 1, 0, 115), (38, 1, 2, 1, 0, 0), (39, 1, 10, 0, 0, 0), (40, 3, 6, 101, 3, 0), (43, 1, 2, 3, 0, 0), (44, 1, 3, 3, 0, 0), (45, 3, 6, 101, 3, 0), (48, 1, 0, 0, 0, 0), (49, 3, 1, 2, 3, 18), (52, 1, 2, 3, 0, 0), (53, 1, 10, 0, 0, 0), (54, 3, 37, 2, 0, 162), (57, 1, 2, 1, 0, 0), (58, 1, 3, 3, 0, 0), (59, 1, 16, 0, 0, 0), (60, 1, 2, 3, 0, 0), (61, 1, 11, 0, 0, 0), (62, 1, 10, 0, 0, 0), (63, 3, 37, 3, 0, 165), (66, 1, 2, 1, 0, 0), (67, 1, 3, 3, 0, 0), (68, 1, 16, 0, 0, 0), (69, 1, 2, 3, 0, 0), (70, 1, 11, 0, 0, 0), (71, 1, 10, 0, 0, 0), (72, 3, 13, 70, 91, 168), (75, 3, 7, 95, 1, 0), (78, 1, 0, 0, 0, 0), (79, 1, 3, 2, 0, 0), (80, 3, 14, 2, 9, 57), (83, 1, 0, 0, 0, 0), (84, 1, 0, 0, 0, 0), (85, 3, 1, 2, 4, 22), (88, 1, 2, 3, 0, 0), (89, 1, 10, 0, 0, 0), (90, 3, 14, 2, 10, 88), (93, 1, 3, 0, 0, 0), (94, 1, 12, 0, 1, 0)]) rfl) ?_
      refine xg_t (xg_iload (va := (0, 1)) rfl rfl) ?_
      refine xg_t (xg_gets) ?_
      refine xg_t (xg_iload (va := (0, 3)) rfl rfl) ?_
      refine xg_t (xg_ald8L (n := 3) (u := 3) xnm0 rfl rfl) ?_
      refine xg_t (xg_icF (u := 1) (v := 3) rfl xnm0 xnm0 (by decide)) ?_
      refine xg_t (xg_iload (va := (0, 1)) rfl rfl) ?_
      refine xg_t (xg_const) ?_
      refine xg_t (xg_icF (u := 1) (v := 3) rfl xnm0 xnm0 (by decide)) ?_
      refine xg_t (xg_aload (va := (2, 27)) rfl rfl) ?_
      refine xg_t (xg_getf (va := (2, 39)) (hF21.get (by decide) h27_11) rfl) ?_
      refine xg_t (xg_iload (va := (0, 1)) rfl rfl) ?_
      refine xg_ialdB (n := 1) (B := 4294967295) (h39_13.fr hF21 (by decide)) (hb14) xnm0 (by omega) (fun u29 hu30 he31 => ?_)
      refine xg_t (xg_gets) ?_
      refine xg_t (xg_iload (va := (0, 3)) rfl rfl) ?_
      refine xg_t (xg_const) ?_
      refine xg_t (xg_imul (u := 3) (v := 3) (z := 9) xnm0 xnm0 (by decide)) ?_
      refine xg_t (xg_iload (va := (0, 1)) rfl rfl) ?_
      refine xg_t (xg_iadd (u := 9) (v := 1) (z := 10) xnm0 xnm0 (by decide)) ?_
      refine xg_t (xg_ald8L (n := 10) (u := 1) xnm0 rfl rfl) ?_
      refine xg_t (xg_gets) ?_
      refine xg_t (xg_iload (va := (0, 3)) rfl rfl) ?_
      refine xg_t (xg_const) ?_
      refine xg_t (xg_imul (u := 3) (v := 3) (z := 9) xnm0 xnm0 (by decide)) ?_
      refine xg_t (xg_iload (va := (0, 1)) rfl rfl) ?_
      refine xg_t (xg_iadd (u := 9) (v := 1) (z := 10) xnm0 xnm0 (by decide)) ?_
      refine xg_t (xg_ald8L (n := 10) (u := 10) xnm0 rfl rfl) ?_
      refine xg_t (xg_cNr mX11_isIn (vs := [(0, u29), (0, 1), (0, 10)]) (rest := []) (rs := [(0, if 1 ≤ u29 ∧ u29 ≤ 10 then 1 else 0)]) (cn1 := 0) (sl1 := 0) rfl (isIn_ok (by omega) (by omega) (by omega)) rfl rfl rfl rfl rfl rfl rfl rfl) ?_
      by_cases hc32 : 1 ≤ u29 ∧ u29 ≤ 10
      · refine xg_t (xg_ifT (u := (if 1 ≤ u29 ∧ u29 ≤ 10 then 1 else 0)) rfl xnm0 (xj_neT (xite1 hc32))) ?_
        refine xg_t (xg_blk (b := [(95, 3, 9, 3, 1, 0), (98, 3, 8, 34, 0, 0)]) rfl) ?_
        refine xg_t (xg_iinc (u := 1) (z := 2) (l1 := [(0, (2, 27)), (1, (0, 3)), (2, (0, pc_))]) rfl rfl (by decide) rfl) ?_
        refine xg_t (xg_goto) ?_
        refine xg_t (xg_blk (b := [(34, 1, 2, 3, 0, 0), (35, 3, 37, 1, 0, 115), (38, 1, 2, 1, 0, 0), (39, 1, 10, 0, 0, 0), (40, 3, 6, 101, 3, 0), (43, 1, 2, 3, 0, 0), (44, 1, 3, 3, 0, 0), (45, 3, 6, 101, 3, 0), (48, 1, 0, 0, 0, 0), (49, 3, 1, 2, 3, 18), (52, 1, 2, 3, 0, 0), (53, 1, 10, 0, 0, 0), (54, 3, 37, 2, 0, 162), (57, 1, 2, 1, 0, 0), (58, 1, 3, 3, 0, 0), (59, 1, 16, 0, 0, 0), (60, 1, 2, 3, 0, 0), (61, 1, 11, 0, 0, 0), (62, 1, 10, 0, 0, 0), (63, 3, 37, 3, 0, 165), (66, 1, 2, 1, 0, 0), (67, 1, 3, 3, 0, 0), (68, 1, 16, 0, 0, 0), (69, 1, 2, 3, 0, 0), (70, 1, 11, 0, 0, 0), (71, 1, 10, 0, 0, 0), (72, 3, 13, 70, 91, 168), (75, 3, 7, 95, 1, 0), (78, 1, 0, 0, 0, 0), (79, 1, 3, 2, 0, 0), (80, 3, 14, 2, 9, 57), (83, 1, 0, 0, 0, 0), (84, 1, 0, 0, 0, 0), (85, 3, 1, 2, 4, 22), (88, 1, 2, 3, 0, 0), (89, 1, 10, 0, 0, 0), (90, 3, 14, 2, 10, 88), (93, 1, 3, 0, 0, 0), (94, 1, 12, 0, 1, 0)]) rfl) ?_
        refine xg_t (xg_iload (va := (0, 2)) rfl rfl) ?_
        refine xg_t (xg_gets) ?_
        refine xg_t (xg_iload (va := (0, 3)) rfl rfl) ?_
        refine xg_t (xg_ald8L (n := 3) (u := 3) xnm0 rfl rfl) ?_
        refine xg_t (xg_icF (u := 2) (v := 3) rfl xnm0 xnm0 (by decide)) ?_
        refine xg_t (xg_iload (va := (0, 2)) rfl rfl) ?_
        refine xg_t (xg_const) ?_
        refine xg_t (xg_icF (u := 2) (v := 3) rfl xnm0 xnm0 (by decide)) ?_
        refine xg_t (xg_aload (va := (2, 27)) rfl rfl) ?_
        refine xg_t (xg_getf (va := (2, 39)) (hF21.get (by decide) h27_11) rfl) ?_
        refine xg_t (xg_iload (va := (0, 2)) rfl rfl) ?_
        refine xg_ialdB (n := 2) (B := 4294967295) (h39_13.fr hF21 (by decide)) (hb14) xnm0 (by omega) (fun u33 hu34 he35 => ?_)
        refine xg_t (xg_gets) ?_
        refine xg_t (xg_iload (va := (0, 3)) rfl rfl) ?_
        refine xg_t (xg_const) ?_
        refine xg_t (xg_imul (u := 3) (v := 3) (z := 9) xnm0 xnm0 (by decide)) ?_
        refine xg_t (xg_iload (va := (0, 2)) rfl rfl) ?_
        refine xg_t (xg_iadd (u := 9) (v := 2) (z := 11) xnm0 xnm0 (by decide)) ?_
        refine xg_t (xg_ald8L (n := 11) (u := 1) xnm0 rfl rfl) ?_
        refine xg_t (xg_gets) ?_
        refine xg_t (xg_iload (va := (0, 3)) rfl rfl) ?_
        refine xg_t (xg_const) ?_
        refine xg_t (xg_imul (u := 3) (v := 3) (z := 9) xnm0 xnm0 (by decide)) ?_
        refine xg_t (xg_iload (va := (0, 2)) rfl rfl) ?_
        refine xg_t (xg_iadd (u := 9) (v := 2) (z := 11) xnm0 xnm0 (by decide)) ?_
        refine xg_t (xg_ald8L (n := 11) (u := 999) xnm0 rfl rfl) ?_
        refine xg_t (xg_cNr mX11_isIn (vs := [(0, u33), (0, 1), (0, 999)]) (rest := []) (rs := [(0, if 1 ≤ u33 ∧ u33 ≤ 999 then 1 else 0)]) (cn1 := 0) (sl1 := 0) rfl (isIn_ok (by omega) (by omega) (by omega)) rfl rfl rfl rfl rfl rfl rfl rfl) ?_
        by_cases hc36 : 1 ≤ u33 ∧ u33 ≤ 999
        · refine xg_t (xg_ifT (u := (if 1 ≤ u33 ∧ u33 ≤ 999 then 1 else 0)) rfl xnm0 (xj_neT (xite1 hc36))) ?_
          refine xg_t (xg_blk (b := [(95, 3, 9, 3, 1, 0), (98, 3, 8, 34, 0, 0)]) rfl) ?_
          refine xg_t (xg_iinc (u := 2) (z := 3) (l1 := [(0, (2, 27)), (1, (0, 3)), (2, (0, pc_))]) rfl rfl (by decide) rfl) ?_
          refine xg_t (xg_goto) ?_
          refine xg_t (xg_blk (b := [(34, 1, 2, 3, 0, 0), (35, 3, 37, 1, 0, 115), (38, 1, 2, 1, 0, 0), (39, 1, 10, 0, 0, 0), (40, 3, 6, 101, 3, 0), (43, 1, 2, 3, 0, 0), (44, 1, 3, 3, 0, 0), (45, 3, 6, 101, 3, 0), (48, 1, 0, 0, 0, 0), (49, 3, 1, 2, 3, 18), (52, 1, 2, 3, 0, 0), (53, 1, 10, 0, 0, 0), (54, 3, 37, 2, 0, 162), (57, 1, 2, 1, 0, 0), (58, 1, 3, 3, 0, 0), (59, 1, 16, 0, 0, 0), (60, 1, 2, 3, 0, 0), (61, 1, 11, 0, 0, 0), (62, 1, 10, 0, 0, 0), (63, 3, 37, 3, 0, 165), (66, 1, 2, 1, 0, 0), (67, 1, 3, 3, 0, 0), (68, 1, 16, 0, 0, 0), (69, 1, 2, 3, 0, 0), (70, 1, 11, 0, 0, 0), (71, 1, 10, 0, 0, 0), (72, 3, 13, 70, 91, 168), (75, 3, 7, 95, 1, 0), (78, 1, 0, 0, 0, 0), (79, 1, 3, 2, 0, 0), (80, 3, 14, 2, 9, 57), (83, 1, 0, 0, 0, 0), (84, 1, 0, 0, 0, 0), (85, 3, 1, 2, 4, 22), (88, 1, 2, 3, 0, 0), (89, 1, 10, 0, 0, 0), (90, 3, 14, 2, 10, 88), (93, 1, 3, 0, 0, 0), (94, 1, 12, 0, 1, 0)]) rfl) ?_
          refine xg_t (xg_iload (va := (0, 3)) rfl rfl) ?_
          refine xg_t (xg_gets) ?_
          refine xg_t (xg_iload (va := (0, 3)) rfl rfl) ?_
          refine xg_t (xg_ald8L (n := 3) (u := 3) xnm0 rfl rfl) ?_
          refine xg_t (xg_icT (u := 3) (v := 3) rfl xnm0 xnm0 (by decide)) ?_
          refine xg_t (xg_blk (b := [(101, 1, 3, 1, 0, 0), (102, 1, 12, 0, 1, 0)]) rfl) ?_
          refine xg_t (xg_const) ?_
          exact xg_e ⟨1, w18, ⟨rfl, rfl⟩, by omega, hI20, (hF21.up (by decide))⟩
        · refine xg_t (xg_ifF (u := (if 1 ≤ u33 ∧ u33 ≤ 999 then 1 else 0)) rfl xnm0 (xj_neF (xite0 hc36))) ?_
          refine xg_t (xg_aload (va := (2, 27)) rfl rfl) ?_
          refine xg_t (xg_const) ?_
          refine xg_putI (fl1 := [(2, 1), (2, 42), (2, 28), (2, 39), (2, 40), (2, 41), (0, f27_1), (0, f27_3), (0, f27_5), (0, 2), (0, f27_9)]) (hF21.get (by decide) h27_11) rfl rfl rfl (fun w37 hk38 hb39 => ?_)
          refine xg_t (xg_aload (va := (2, 27)) rfl rfl) ?_
          refine xg_t (xg_aload (va := (2, 27)) rfl rfl) ?_
          refine xg_t (xg_getf (va := (2, 40)) hk38 rfl) ?_
          refine xg_t (xg_iload (va := (0, 2)) rfl rfl) ?_
          refine xg_ialdB (n := 2) (B := 4294967295) ((h40_16.fr hF21 (by decide)).but hb39 (by decide)) (hb17) xnm0 (by omega) (fun u40 hu41 he42 => ?_)
          refine xg_putI (fl1 := [(2, 1), (2, 42), (2, 28), (2, 39), (2, 40), (2, 41), (0, f27_1), (0, f27_3), (0, f27_5), (0, 2), (0, u40)]) hk38 rfl rfl rfl (fun w43 hk44 hb45 => ?_)
          refine xg_t (xg_const) ?_
          exact xg_e ⟨0, w43, ⟨rfl, rfl⟩, by omega, xInv.up (S := [27]) hI20 ((xFr.of (S := [27]) hb39 (by decide)).tr (xFr.of (S := [27]) hb45 (by decide))) (List.forall_mem_cons.mpr ⟨(show cp27 (wget w43 27) from ⟨f27_1, f27_3, f27_5, 2, u40, hk44, by omega, by omega, by omega, by omega, by omega⟩), fun _ h => absurd h List.not_mem_nil⟩), ((hF21.up (by decide)).tr ((xFr.of (S := [27]) hb39 (by decide)).tr (xFr.of (S := [27]) hb45 (by decide))))⟩
      · refine xg_t (xg_ifF (u := (if 1 ≤ u29 ∧ u29 ≤ 10 then 1 else 0)) rfl xnm0 (xj_neF (xite0 hc32))) ?_
        refine xg_t (xg_aload (va := (2, 27)) rfl rfl) ?_
        refine xg_t (xg_const) ?_
        refine xg_putI (fl1 := [(2, 1), (2, 42), (2, 28), (2, 39), (2, 40), (2, 41), (0, f27_1), (0, f27_3), (0, f27_5), (0, 2), (0, f27_9)]) (hF21.get (by decide) h27_11) rfl rfl rfl (fun w46 hk47 hb48 => ?_)
        refine xg_t (xg_aload (va := (2, 27)) rfl rfl) ?_
        refine xg_t (xg_aload (va := (2, 27)) rfl rfl) ?_
        refine xg_t (xg_getf (va := (2, 40)) hk47 rfl) ?_
        refine xg_t (xg_iload (va := (0, 1)) rfl rfl) ?_
        refine xg_ialdB (n := 1) (B := 4294967295) ((h40_16.fr hF21 (by decide)).but hb48 (by decide)) (hb17) xnm0 (by omega) (fun u49 hu50 he51 => ?_)
        refine xg_putI (fl1 := [(2, 1), (2, 42), (2, 28), (2, 39), (2, 40), (2, 41), (0, f27_1), (0, f27_3), (0, f27_5), (0, 2), (0, u49)]) hk47 rfl rfl rfl (fun w52 hk53 hb54 => ?_)
        refine xg_t (xg_const) ?_
        exact xg_e ⟨0, w52, ⟨rfl, rfl⟩, by omega, xInv.up (S := [27]) hI20 ((xFr.of (S := [27]) hb48 (by decide)).tr (xFr.of (S := [27]) hb54 (by decide))) (List.forall_mem_cons.mpr ⟨(show cp27 (wget w52 27) from ⟨f27_1, f27_3, f27_5, 2, u49, hk53, by omega, by omega, by omega, by omega, by omega⟩), fun _ h => absurd h List.not_mem_nil⟩), ((hF21.up (by decide)).tr ((xFr.of (S := [27]) hb48 (by decide)).tr (xFr.of (S := [27]) hb54 (by decide))))⟩
    · refine xg_t (xg_ifF (u := (if 1 ≤ u25 ∧ u25 ≤ 10 then 1 else 0)) rfl xnm0 (xj_neF (xite0 hc28))) ?_
      refine xg_t (xg_aload (va := (2, 27)) rfl rfl) ?_
      refine xg_t (xg_const) ?_
      refine xg_putI (fl1 := [(2, 1), (2, 42), (2, 28), (2, 39), (2, 40), (2, 41), (0, f27_1), (0, f27_3), (0, f27_5), (0, 2), (0, f27_9)]) (hF21.get (by decide) h27_11) rfl rfl rfl (fun w55 hk56 hb57 => ?_)
      refine xg_t (xg_aload (va := (2, 27)) rfl rfl) ?_
      refine xg_t (xg_aload (va := (2, 27)) rfl rfl) ?_
      refine xg_t (xg_getf (va := (2, 40)) hk56 rfl) ?_
      refine xg_t (xg_iload (va := (0, 0)) rfl rfl) ?_
      refine xg_ialdB (n := 0) (B := 4294967295) ((h40_16.fr hF21 (by decide)).but hb57 (by decide)) (hb17) xnm0 (by omega) (fun u58 hu59 he60 => ?_)
      refine xg_putI (fl1 := [(2, 1), (2, 42), (2, 28), (2, 39), (2, 40), (2, 41), (0, f27_1), (0, f27_3), (0, f27_5), (0, 2), (0, u58)]) hk56 rfl rfl rfl (fun w61 hk62 hb63 => ?_)
      refine xg_t (xg_const) ?_
      exact xg_e ⟨0, w61, ⟨rfl, rfl⟩, by omega, xInv.up (S := [27]) hI20 ((xFr.of (S := [27]) hb57 (by decide)).tr (xFr.of (S := [27]) hb63 (by decide))) (List.forall_mem_cons.mpr ⟨(show cp27 (wget w61 27) from ⟨f27_1, f27_3, f27_5, 2, u58, hk62, by omega, by omega, by omega, by omega, by omega⟩), fun _ h => absurd h List.not_mem_nil⟩), ((hF21.up (by decide)).tr ((xFr.of (S := [27]) hb57 (by decide)).tr (xFr.of (S := [27]) hb63 (by decide))))⟩
  · refine xg_t (xg_ifF (u := n22) rfl xnm0 (xj_eqF hc24)) ?_
    refine xg_t (xg_aload (va := (2, 27)) rfl rfl) ?_
    refine xg_t (xg_const) ?_
    refine xg_putI (fl1 := [(2, 1), (2, 42), (2, 28), (2, 39), (2, 40), (2, 41), (0, f27_1), (0, f27_3), (0, f27_5), (0, 3), (0, f27_9)]) (hF21.get (by decide) h27_11) rfl rfl rfl (fun w64 hk65 hb66 => ?_)
    refine xg_t (xg_aload (va := (2, 27)) rfl rfl) ?_
    refine xg_t (xg_iload (va := (0, pc_)) rfl rfl) ?_
    refine xg_putI (fl1 := [(2, 1), (2, 42), (2, 28), (2, 39), (2, 40), (2, 41), (0, f27_1), (0, f27_3), (0, f27_5), (0, 3), (0, pc_)]) hk65 rfl rfl rfl (fun w67 hk68 hb69 => ?_)
    refine xg_t (xg_const) ?_
    exact xg_e ⟨0, w67, ⟨rfl, rfl⟩, by omega, xInv.up (S := [27]) hI20 ((xFr.of (S := [27]) hb66 (by decide)).tr (xFr.of (S := [27]) hb69 (by decide))) (List.forall_mem_cons.mpr ⟨(show cp27 (wget w67 27) from ⟨f27_1, f27_3, f27_5, 3, pc_, hk68, by omega, by omega, by omega, by omega, by omega⟩), fun _ h => absurd h List.not_mem_nil⟩), ((hF21.up (by decide)).tr ((xFr.of (S := [27]) hb66 (by decide)).tr (xFr.of (S := [27]) hb69 (by decide))))⟩
theorem ftTake3 {pc_ : Nat} (hI : xInv w) (h1 : pc_ ≤ 4294967295) : xPq (d + 2) mX2_take [(2, 27), (0, 3), (0, pc_)] w bd fc rr [] (fun w' => xInv w' ∧ xFr [29, 30, 31, 32, 33, 34, 35, 36, 37, 38, 41] w w') := by
  refine xPq.of ?_
  show xTo (d + 2) mX2_take (0, [], [(0, (2, 27)), (1, (0, 3)), (2, (0, pc_))], [], (w, bd, fc, 0, 0, rr)) (fun φ => ∃ w', xEnd 0 [] (w', bd, fc, 0, 0, rr) φ ∧ xInv w' ∧ xFr [29, 30, 31, 32, 33, 34, 35, 36, 37, 38, 41] w w')
  obtain ⟨f27_1, f27_3, f27_5, f27_7, f27_9, h27_11, hb2, hb4, hb6, hb8, hb10⟩ := (hI 27 (by decide) : cp27 (wget w 27))
  obtain ⟨g39_12, h39_13, hb14⟩ := (hI 39 (by decide) : cpI 3 18 4294967295 (wget w 39))
  have h39_13 : xRow w 39 3 18 g39_12 := h39_13
  obtain ⟨g41_15, h41_16, hb17⟩ := (hI 41 (by decide) : cpI 20 20 4294967295 (wget w 41))
  have h41_16 : xRow w 41 20 20 g41_15 := h41_16
  refine xg_t (xg_blk (b := [(0, 1, 2, 1, 0, 0), (1, 1, 3, 5, 0, 0), (2, 3, 6, 37, 1, 0), (5, 1, 0, 0, 0, 0), (6, 3, 1, 2, 2, 12), (9, 1, 0, 0, 0, 0), (10, 3, 1, 2, 3, 18), (13, 1, 3, 0, 0, 0), (14, 1, 10, 0, 0, 0), (15, 3, 14, 1, 5, 192), (18, 1, 0, 0, 0, 0), (19, 3, 1, 2, 2, 12), (22, 1, 0, 0, 0, 0), (23, 3, 1, 2, 3, 18), (26, 1, 3, 1, 0, 0), (27, 1, 10, 0, 0, 0), (28, 3, 14, 1, 6, 195), (31, 1, 0, 0, 0, 0), (32, 1, 3, 1, 0, 0), (33, 3, 59, 2, 7, 50), (36, 1, 12, 0, 0, 0)]) rfl) ?_
  refine xg_t (xg_iload (va := (0, 3)) rfl rfl) ?_
  refine xg_t (xg_const) ?_
  refine xg_t (xg_icT (u := 3) (v := 5) rfl xnm0 xnm0 (by decide)) ?_
  refine xg_t (xg_blk (b := [(37, 1, 2, 1, 0, 0), (38, 2, 4, 6, 0, 0), (40, 3, 6, 75, 1, 0), (43, 1, 0, 0, 0, 0), (44, 3, 1, 2, 2, 12), (47, 1, 0, 0, 0, 0), (48, 3, 1, 2, 3, 18), (51, 1, 3, 0, 0, 0), (52, 1, 10, 0, 0, 0), (53, 3, 14, 1, 7, 198), (56, 1, 0, 0, 0, 0), (57, 3, 1, 2, 2, 12), (60, 1, 0, 0, 0, 0), (61, 3, 1, 2, 3, 18), (64, 1, 3, 1, 0, 0), (65, 1, 10, 0, 0, 0), (66, 3, 14, 1, 8, 201), (69, 1, 0, 0, 0, 0), (70, 1, 3, 1, 0, 0), (71, 3, 59, 2, 8, 54), (74, 1, 12, 0, 0, 0)]) rfl) ?_
  refine xg_t (xg_iload (va := (0, 3)) rfl rfl) ?_
  refine xg_t (xg_bip) ?_
  refine xg_t (xg_icT (u := 3) (v := 6) rfl xnm0 xnm0 (by decide)) ?_
  refine xg_t (xg_blk (b := [(75, 1, 0, 0, 0, 0), (76, 3, 1, 2, 2, 12), (79, 1, 2, 1, 0, 0), (80, 3, 13, 243, 8, 172), (83, 1, 27, 3, 0, 0), (84, 1, 0, 3, 0, 0), (85, 3, 43, 95, 0, 0), (88, 1, 0, 3, 0, 0), (89, 3, 13, 289, 40, 176), (92, 3, 7, 96, 0, 0)]) rfl) ?_
  refine xg_t (xg_aload (va := (2, 27)) rfl rfl) ?_
  refine xg_t (xg_getf (va := (2, 28)) h27_11 rfl) ?_
  refine xg_t (xg_iload (va := (0, 3)) rfl rfl) ?_
  obtain ⟨v18, hv19, hp20⟩ := rowsOf28 (d := d + 1) (bd := bd) (fc := fc) (rr := rr) (so := 3) (hI) (by omega)
  rcases hv19 with rfl | rfl | rfl | rfl | rfl | rfl
  · obtain ⟨f28_21, f28_23, f28_25, f28_27, f28_29, h28_31, hb22, hb24, hb26, hb28, hb30⟩ := (hI 28 (by decide) : cp28 (wget w 28))
    refine xg_t (xg_cVr mX1_rowsOf (vs := [(0, 3)]) (rest := []) (rs := [(2, 29)]) (cn1 := 0) (sl1 := 0) rfl (hp20) rfl h28_31 rfl rfl rfl rfl rfl rfl rfl) ?_
    refine xg_t (xg_astore (l1 := [(0, (2, 27)), (1, (0, 3)), (2, (0, pc_))]) rfl rfl rfl) ?_
    refine xg_t (xg_aload (va := (2, 29)) rfl rfl) ?_
    refine xg_t (xg_ifnullF) ?_
    refine xg_t (xg_aload (va := (2, 29)) rfl rfl) ?_
    obtain ⟨f29_32, h29_34, hb33⟩ := (hI 29 (by decide) : cp29 (wget w 29))
    refine xg_t (xg_cVr mX5_isFull (vs := []) (rest := []) (rs := [(0, if 6 ≤ f29_32 then 1 else 0)]) (cn1 := 0) (sl1 := 0) rfl (rfull_ok h29_34 (by decide) (by omega)) rfl h29_34 rfl rfl rfl rfl rfl rfl rfl) ?_
    by_cases hc35 : 6 ≤ f29_32
    · refine xg_t (xg_ifF (u := (if 6 ≤ f29_32 then 1 else 0)) rfl xnm0 (xj_eqF (xite1 hc35))) ?_
      refine xg_t (xg_blk (b := [(95, 1, 12, 0, 0, 0)]) rfl) ?_
      exact xg_e ⟨w, ⟨rfl, rfl⟩, hI, xFr.rf⟩
    · refine xg_t (xg_ifT (u := (if 6 ≤ f29_32 then 1 else 0)) rfl xnm0 (xj_eqT (xite0 hc35))) ?_
      refine xg_t (xg_blk (b := [(96, 1, 0, 3, 0, 0), (97, 3, 13, 286, 40, 204), (100, 2, 15, 4, 0, 0), (102, 1, 3, 0, 0, 0), (103, 2, 15, 5, 0, 0)]) rfl) ?_
      refine xg_t (xg_aload (va := (2, 29)) rfl rfl) ?_
      refine xg_cVi mX5_grow (vs := []) (rest := []) (cn1 := 0) (sl1 := 0) rfl (rgrowI h29_34 (by decide) (by omega)) rfl h29_34 rfl rfl rfl rfl rfl rfl (fun n38 w36 hq37 => ?_)
      obtain ⟨hn39, s40, hs41, hk42, hb43⟩ := hq37
      refine xg_t (xg_istore (l1 := [(3, (2, 29)), (0, (2, 27)), (1, (0, 3)), (2, (0, pc_))]) rfl rfl rfl) ?_
      refine xg_t (xg_const) ?_
      refine xg_t (xg_istore (l1 := [(4, (0, n38)), (3, (2, 29)), (0, (2, 27)), (1, (0, 3)), (2, (0, pc_))]) rfl rfl rfl) ?_
      refine xg_t (xg_blk (b := [(105, 2, 2, 5, 0, 0), (107, 3, 37, 1, 0, 115), (110, 1, 2, 1, 0, 0), (111, 1, 10, 0, 0, 0), (112, 3, 6, 142, 3, 0), (115, 2, 2, 5, 0, 0), (117, 1, 3, 3, 0, 0), (118, 3, 6, 142, 3, 0), (121, 1, 0, 3, 0, 0), (122, 2, 2, 4, 0, 0), (124, 2, 2, 5, 0, 0), (126, 1, 0, 0, 0, 0), (127, 3, 1, 2, 3, 18), (130, 2, 2, 5, 0, 0), (132, 1, 10, 0, 0, 0), (133, 3, 13, 290, 40, 207), (136, 3, 9, 5, 1, 0), (139, 3, 8, 105, 0, 0)]) rfl) ?_
      refine xg_t (xg_iload (va := (0, 0)) rfl rfl) ?_
      refine xg_t (xg_gets) ?_
      refine xg_t (xg_iload (va := (0, 3)) rfl rfl) ?_
      refine xg_t (xg_ald8L (n := 3) (u := 3) xnm0 rfl rfl) ?_
      refine xg_t (xg_icF (u := 0) (v := 3) rfl xnm0 xnm0 (by decide)) ?_
      refine xg_t (xg_iload (va := (0, 0)) rfl rfl) ?_
      refine xg_t (xg_const) ?_
      refine xg_t (xg_icF (u := 0) (v := 3) rfl xnm0 xnm0 (by decide)) ?_
      refine xg_t (xg_aload (va := (2, 29)) rfl rfl) ?_
      refine xg_t (xg_iload (va := (0, n38)) rfl rfl) ?_
      refine xg_t (xg_iload (va := (0, 0)) rfl rfl) ?_
      refine xg_t (xg_aload (va := (2, 27)) rfl rfl) ?_
      refine xg_t (xg_getf (va := (2, 39)) (hb43.get (by decide) h27_11) rfl) ?_
      refine xg_t (xg_iload (va := (0, 0)) rfl rfl) ?_
      refine xg_ialdB (n := 0) (B := 4294967295) (h39_13.but hb43 (by decide)) (hb14) xnm0 (by omega) (fun u44 hu45 he46 => ?_)
      obtain ⟨g30_47, h30_48, hb49⟩ := (hI 30 (by decide) : cpI 24 13 4294967295 (wget w 30))
      have h30_48 : xRow w 30 24 13 g30_47 := h30_48
      refine xg_cVv mX5_put (vs := [(0, n38), (0, 0), (0, u44)]) (rest := []) (cn1 := 0) (sl1 := 0) rfl (rputI (lim := 6) (wd := 4) (B := 4294967295) hk42 (h30_48.but hb43 (by decide)) (hb49) (by decide) (by omega) (by decide) (by decide) (by omega) (by omega) (by omega)) rfl hk42 rfl rfl rfl rfl rfl rfl (fun w50 hq51 => ?_)
      obtain ⟨g52, hr53, hb54, hb55⟩ := hq51
      refine xg_t (xg_iinc (u := 0) (z := 1) (l1 := [(4, (0, n38)), (3, (2, 29)), (0, (2, 27)), (1, (0, 3)), (2, (0, pc_))]) rfl rfl (by decide) rfl) ?_
      refine xg_t (xg_goto) ?_
      refine xg_t (xg_blk (b := [(105, 2, 2, 5, 0, 0), (107, 3, 37, 1, 0, 115), (110, 1, 2, 1, 0, 0), (111, 1, 10, 0, 0, 0), (112, 3, 6, 142, 3, 0), (115, 2, 2, 5, 0, 0), (117, 1, 3, 3, 0, 0), (118, 3, 6, 142, 3, 0), (121, 1, 0, 3, 0, 0), (122, 2, 2, 4, 0, 0), (124, 2, 2, 5, 0, 0), (126, 1, 0, 0, 0, 0), (127, 3, 1, 2, 3, 18), (130, 2, 2, 5, 0, 0), (132, 1, 10, 0, 0, 0), (133, 3, 13, 290, 40, 207), (136, 3, 9, 5, 1, 0), (139, 3, 8, 105, 0, 0)]) rfl) ?_
      refine xg_t (xg_iload (va := (0, 1)) rfl rfl) ?_
      refine xg_t (xg_gets) ?_
      refine xg_t (xg_iload (va := (0, 3)) rfl rfl) ?_
      refine xg_t (xg_ald8L (n := 3) (u := 3) xnm0 rfl rfl) ?_
      refine xg_t (xg_icF (u := 1) (v := 3) rfl xnm0 xnm0 (by decide)) ?_
      refine xg_t (xg_iload (va := (0, 1)) rfl rfl) ?_
      refine xg_t (xg_const) ?_
      refine xg_t (xg_icF (u := 1) (v := 3) rfl xnm0 xnm0 (by decide)) ?_
      refine xg_t (xg_aload (va := (2, 29)) rfl rfl) ?_
      refine xg_t (xg_iload (va := (0, n38)) rfl rfl) ?_
      refine xg_t (xg_iload (va := (0, 1)) rfl rfl) ?_
      refine xg_t (xg_aload (va := (2, 27)) rfl rfl) ?_
      refine xg_t (xg_getf (va := (2, 39)) (hb55.get (by decide) (hb43.get (by decide) h27_11)) rfl) ?_
      refine xg_t (xg_iload (va := (0, 1)) rfl rfl) ?_
      refine xg_ialdB (n := 1) (B := 4294967295) ((h39_13.but hb43 (by decide)).but hb55 (by decide)) (hb14) xnm0 (by omega) (fun u56 hu57 he58 => ?_)
      refine xg_cVv mX5_put (vs := [(0, n38), (0, 1), (0, u56)]) (rest := []) (cn1 := 0) (sl1 := 0) rfl (rputI (lim := 6) (wd := 4) (B := 4294967295) (hb55.get (by decide) hk42) hr53 (hb54) (by decide) (by omega) (by decide) (by decide) (by omega) (by omega) (by omega)) rfl (hb55.get (by decide) hk42) rfl rfl rfl rfl rfl rfl (fun w59 hq60 => ?_)
      obtain ⟨g61, hr62, hb63, hb64⟩ := hq60
      refine xg_t (xg_iinc (u := 1) (z := 2) (l1 := [(4, (0, n38)), (3, (2, 29)), (0, (2, 27)), (1, (0, 3)), (2, (0, pc_))]) rfl rfl (by decide) rfl) ?_
      refine xg_t (xg_goto) ?_
      refine xg_t (xg_blk (b := [(105, 2, 2, 5, 0, 0), (107, 3, 37, 1, 0, 115), (110, 1, 2, 1, 0, 0), (111, 1, 10, 0, 0, 0), (112, 3, 6, 142, 3, 0), (115, 2, 2, 5, 0, 0), (117, 1, 3, 3, 0, 0), (118, 3, 6, 142, 3, 0), (121, 1, 0, 3, 0, 0), (122, 2, 2, 4, 0, 0), (124, 2, 2, 5, 0, 0), (126, 1, 0, 0, 0, 0), (127, 3, 1, 2, 3, 18), (130, 2, 2, 5, 0, 0), (132, 1, 10, 0, 0, 0), (133, 3, 13, 290, 40, 207), (136, 3, 9, 5, 1, 0), (139, 3, 8, 105, 0, 0)]) rfl) ?_
      refine xg_t (xg_iload (va := (0, 2)) rfl rfl) ?_
      refine xg_t (xg_gets) ?_
      refine xg_t (xg_iload (va := (0, 3)) rfl rfl) ?_
      refine xg_t (xg_ald8L (n := 3) (u := 3) xnm0 rfl rfl) ?_
      refine xg_t (xg_icF (u := 2) (v := 3) rfl xnm0 xnm0 (by decide)) ?_
      refine xg_t (xg_iload (va := (0, 2)) rfl rfl) ?_
      refine xg_t (xg_const) ?_
      refine xg_t (xg_icF (u := 2) (v := 3) rfl xnm0 xnm0 (by decide)) ?_
      refine xg_t (xg_aload (va := (2, 29)) rfl rfl) ?_
      refine xg_t (xg_iload (va := (0, n38)) rfl rfl) ?_
      refine xg_t (xg_iload (va := (0, 2)) rfl rfl) ?_
      refine xg_t (xg_aload (va := (2, 27)) rfl rfl) ?_
      refine xg_t (xg_getf (va := (2, 39)) (hb64.get (by decide) (hb55.get (by decide) (hb43.get (by decide) h27_11))) rfl) ?_
      refine xg_t (xg_iload (va := (0, 2)) rfl rfl) ?_
      refine xg_ialdB (n := 2) (B := 4294967295) (((h39_13.but hb43 (by decide)).but hb55 (by decide)).but hb64 (by decide)) (hb14) xnm0 (by omega) (fun u65 hu66 he67 => ?_)
      refine xg_cVv mX5_put (vs := [(0, n38), (0, 2), (0, u65)]) (rest := []) (cn1 := 0) (sl1 := 0) rfl (rputI (lim := 6) (wd := 4) (B := 4294967295) (hb64.get (by decide) (hb55.get (by decide) hk42)) hr62 (hb63) (by decide) (by omega) (by decide) (by decide) (by omega) (by omega) (by omega)) rfl (hb64.get (by decide) (hb55.get (by decide) hk42)) rfl rfl rfl rfl rfl rfl (fun w68 hq69 => ?_)
      obtain ⟨g70, hr71, hb72, hb73⟩ := hq69
      refine xg_t (xg_iinc (u := 2) (z := 3) (l1 := [(4, (0, n38)), (3, (2, 29)), (0, (2, 27)), (1, (0, 3)), (2, (0, pc_))]) rfl rfl (by decide) rfl) ?_
      refine xg_t (xg_goto) ?_
      refine xg_t (xg_blk (b := [(105, 2, 2, 5, 0, 0), (107, 3, 37, 1, 0, 115), (110, 1, 2, 1, 0, 0), (111, 1, 10, 0, 0, 0), (112, 3, 6, 142, 3, 0), (115, 2, 2, 5, 0, 0), (117, 1, 3, 3, 0, 0), (118, 3, 6, 142, 3, 0), (121, 1, 0, 3, 0, 0), (122, 2, 2, 4, 0, 0), (124, 2, 2, 5, 0, 0), (126, 1, 0, 0, 0, 0), (127, 3, 1, 2, 3, 18), (130, 2, 2, 5, 0, 0), (132, 1, 10, 0, 0, 0), (133, 3, 13, 290, 40, 207), (136, 3, 9, 5, 1, 0), (139, 3, 8, 105, 0, 0)]) rfl) ?_
      refine xg_t (xg_iload (va := (0, 3)) rfl rfl) ?_
      refine xg_t (xg_gets) ?_
      refine xg_t (xg_iload (va := (0, 3)) rfl rfl) ?_
      refine xg_t (xg_ald8L (n := 3) (u := 3) xnm0 rfl rfl) ?_
      refine xg_t (xg_icT (u := 3) (v := 3) rfl xnm0 xnm0 (by decide)) ?_
      refine xg_t (xg_blk (b := [(142, 1, 2, 1, 0, 0), (143, 3, 7, 165, 1, 0), (146, 1, 0, 3, 0, 0), (147, 2, 2, 4, 0, 0), (149, 1, 3, 3, 0, 0), (150, 1, 0, 0, 0, 0), (151, 3, 1, 2, 6, 153), (154, 3, 7, 161, 0, 0), (157, 1, 3, 1, 0, 0), (158, 3, 8, 162, 0, 0)]) rfl) ?_
      refine xg_t (xg_iload (va := (0, 3)) rfl rfl) ?_
      refine xg_t (xg_ifT (u := 3) rfl xnm0 (by decide)) ?_
      refine xg_t (xg_blk (b := [(165, 1, 2, 1, 0, 0), (166, 1, 3, 4, 0, 0), (167, 3, 6, 188, 1, 0), (170, 2, 2, 4, 0, 0), (172, 1, 0, 0, 0, 0), (173, 3, 1, 2, 5, 25), (176, 1, 31, 0, 0, 0), (177, 3, 6, 188, 3, 0), (180, 1, 0, 0, 0, 0), (181, 3, 1, 2, 5, 25), (184, 2, 2, 4, 0, 0), (186, 1, 2, 2, 0, 0), (187, 1, 17, 0, 0, 0)]) rfl) ?_
      refine xg_t (xg_iload (va := (0, 3)) rfl rfl) ?_
      refine xg_t (xg_const) ?_
      refine xg_t (xg_icT (u := 3) (v := 4) rfl xnm0 xnm0 (by decide)) ?_
      refine xg_t (xg_blk (b := [(188, 1, 12, 0, 0, 0)]) rfl) ?_
      exact xg_e ⟨w68, ⟨rfl, rfl⟩, xInv.up (S := [29, 30]) hI ((((xFr.of (S := [29, 30]) hb43 (by decide)).tr (xFr.of (S := [29, 30]) hb55 (by decide))).tr (xFr.of (S := [29, 30]) hb64 (by decide))).tr (xFr.of (S := [29, 30]) hb73 (by decide))) (List.forall_mem_cons.mpr ⟨(show cp29 (wget w68 29) from ⟨s40, (hb73.get (by decide) (hb64.get (by decide) (hb55.get (by decide) hk42))), by omega⟩), List.forall_mem_cons.mpr ⟨(show cpI 24 13 4294967295 (wget w68 30) from ⟨_, hr71, hb72⟩), fun _ h => absurd h List.not_mem_nil⟩⟩), ((((xFr.of (S := [29, 30, 31, 32, 33, 34, 35, 36, 37, 38, 41]) hb43 (by decide)).tr (xFr.of (S := [29, 30, 31, 32, 33, 34, 35, 36, 37, 38, 41]) hb55 (by decide))).tr (xFr.of (S := [29, 30, 31, 32, 33, 34, 35, 36, 37, 38, 41]) hb64 (by decide))).tr (xFr.of (S := [29, 30, 31, 32, 33, 34, 35, 36, 37, 38, 41]) hb73 (by decide)))⟩
  · obtain ⟨f28_74, f28_76, f28_78, f28_80, f28_82, h28_84, hb75, hb77, hb79, hb81, hb83⟩ := (hI 28 (by decide) : cp28 (wget w 28))
    refine xg_t (xg_cVr mX1_rowsOf (vs := [(0, 3)]) (rest := []) (rs := [(2, 31)]) (cn1 := 0) (sl1 := 0) rfl (hp20) rfl h28_84 rfl rfl rfl rfl rfl rfl rfl) ?_
    refine xg_t (xg_astore (l1 := [(0, (2, 27)), (1, (0, 3)), (2, (0, pc_))]) rfl rfl rfl) ?_
    refine xg_t (xg_aload (va := (2, 31)) rfl rfl) ?_
    refine xg_t (xg_ifnullF) ?_
    refine xg_t (xg_aload (va := (2, 31)) rfl rfl) ?_
    obtain ⟨f31_85, h31_87, hb86⟩ := (hI 31 (by decide) : cp31 (wget w 31))
    refine xg_t (xg_cVr mX5_isFull (vs := []) (rest := []) (rs := [(0, if 4 ≤ f31_85 then 1 else 0)]) (cn1 := 0) (sl1 := 0) rfl (rfull_ok h31_87 (by decide) (by omega)) rfl h31_87 rfl rfl rfl rfl rfl rfl rfl) ?_
    by_cases hc88 : 4 ≤ f31_85
    · refine xg_t (xg_ifF (u := (if 4 ≤ f31_85 then 1 else 0)) rfl xnm0 (xj_eqF (xite1 hc88))) ?_
      refine xg_t (xg_blk (b := [(95, 1, 12, 0, 0, 0)]) rfl) ?_
      exact xg_e ⟨w, ⟨rfl, rfl⟩, hI, xFr.rf⟩
    · refine xg_t (xg_ifT (u := (if 4 ≤ f31_85 then 1 else 0)) rfl xnm0 (xj_eqT (xite0 hc88))) ?_
      refine xg_t (xg_blk (b := [(96, 1, 0, 3, 0, 0), (97, 3, 13, 286, 40, 204), (100, 2, 15, 4, 0, 0), (102, 1, 3, 0, 0, 0), (103, 2, 15, 5, 0, 0)]) rfl) ?_
      refine xg_t (xg_aload (va := (2, 31)) rfl rfl) ?_
      refine xg_cVi mX5_grow (vs := []) (rest := []) (cn1 := 0) (sl1 := 0) rfl (rgrowI h31_87 (by decide) (by omega)) rfl h31_87 rfl rfl rfl rfl rfl rfl (fun n91 w89 hq90 => ?_)
      obtain ⟨hn92, s93, hs94, hk95, hb96⟩ := hq90
      refine xg_t (xg_istore (l1 := [(3, (2, 31)), (0, (2, 27)), (1, (0, 3)), (2, (0, pc_))]) rfl rfl rfl) ?_
      refine xg_t (xg_const) ?_
      refine xg_t (xg_istore (l1 := [(4, (0, n91)), (3, (2, 31)), (0, (2, 27)), (1, (0, 3)), (2, (0, pc_))]) rfl rfl rfl) ?_
      refine xg_t (xg_blk (b := [(105, 2, 2, 5, 0, 0), (107, 3, 37, 1, 0, 115), (110, 1, 2, 1, 0, 0), (111, 1, 10, 0, 0, 0), (112, 3, 6, 142, 3, 0), (115, 2, 2, 5, 0, 0), (117, 1, 3, 3, 0, 0), (118, 3, 6, 142, 3, 0), (121, 1, 0, 3, 0, 0), (122, 2, 2, 4, 0, 0), (124, 2, 2, 5, 0, 0), (126, 1, 0, 0, 0, 0), (127, 3, 1, 2, 3, 18), (130, 2, 2, 5, 0, 0), (132, 1, 10, 0, 0, 0), (133, 3, 13, 290, 40, 207), (136, 3, 9, 5, 1, 0), (139, 3, 8, 105, 0, 0)]) rfl) ?_
      refine xg_t (xg_iload (va := (0, 0)) rfl rfl) ?_
      refine xg_t (xg_gets) ?_
      refine xg_t (xg_iload (va := (0, 3)) rfl rfl) ?_
      refine xg_t (xg_ald8L (n := 3) (u := 3) xnm0 rfl rfl) ?_
      refine xg_t (xg_icF (u := 0) (v := 3) rfl xnm0 xnm0 (by decide)) ?_
      refine xg_t (xg_iload (va := (0, 0)) rfl rfl) ?_
      refine xg_t (xg_const) ?_
      refine xg_t (xg_icF (u := 0) (v := 3) rfl xnm0 xnm0 (by decide)) ?_
      refine xg_t (xg_aload (va := (2, 31)) rfl rfl) ?_
      refine xg_t (xg_iload (va := (0, n91)) rfl rfl) ?_
      refine xg_t (xg_iload (va := (0, 0)) rfl rfl) ?_
      refine xg_t (xg_aload (va := (2, 27)) rfl rfl) ?_
      refine xg_t (xg_getf (va := (2, 39)) (hb96.get (by decide) h27_11) rfl) ?_
      refine xg_t (xg_iload (va := (0, 0)) rfl rfl) ?_
      refine xg_ialdB (n := 0) (B := 4294967295) (h39_13.but hb96 (by decide)) (hb14) xnm0 (by omega) (fun u97 hu98 he99 => ?_)
      obtain ⟨g32_100, h32_101, hb102⟩ := (hI 32 (by decide) : cpI 8 14 4294967295 (wget w 32))
      have h32_101 : xRow w 32 8 14 g32_100 := h32_101
      refine xg_cVv mX5_put (vs := [(0, n91), (0, 0), (0, u97)]) (rest := []) (cn1 := 0) (sl1 := 0) rfl (rputI (lim := 4) (wd := 2) (B := 4294967295) hk95 (h32_101.but hb96 (by decide)) (hb102) (by decide) (by omega) (by decide) (by decide) (by omega) (by omega) (by omega)) rfl hk95 rfl rfl rfl rfl rfl rfl (fun w103 hq104 => ?_)
      obtain ⟨g105, hr106, hb107, hb108⟩ := hq104
      refine xg_t (xg_iinc (u := 0) (z := 1) (l1 := [(4, (0, n91)), (3, (2, 31)), (0, (2, 27)), (1, (0, 3)), (2, (0, pc_))]) rfl rfl (by decide) rfl) ?_
      refine xg_t (xg_goto) ?_
      refine xg_t (xg_blk (b := [(105, 2, 2, 5, 0, 0), (107, 3, 37, 1, 0, 115), (110, 1, 2, 1, 0, 0), (111, 1, 10, 0, 0, 0), (112, 3, 6, 142, 3, 0), (115, 2, 2, 5, 0, 0), (117, 1, 3, 3, 0, 0), (118, 3, 6, 142, 3, 0), (121, 1, 0, 3, 0, 0), (122, 2, 2, 4, 0, 0), (124, 2, 2, 5, 0, 0), (126, 1, 0, 0, 0, 0), (127, 3, 1, 2, 3, 18), (130, 2, 2, 5, 0, 0), (132, 1, 10, 0, 0, 0), (133, 3, 13, 290, 40, 207), (136, 3, 9, 5, 1, 0), (139, 3, 8, 105, 0, 0)]) rfl) ?_
      refine xg_t (xg_iload (va := (0, 1)) rfl rfl) ?_
      refine xg_t (xg_gets) ?_
      refine xg_t (xg_iload (va := (0, 3)) rfl rfl) ?_
      refine xg_t (xg_ald8L (n := 3) (u := 3) xnm0 rfl rfl) ?_
      refine xg_t (xg_icF (u := 1) (v := 3) rfl xnm0 xnm0 (by decide)) ?_
      refine xg_t (xg_iload (va := (0, 1)) rfl rfl) ?_
      refine xg_t (xg_const) ?_
      refine xg_t (xg_icF (u := 1) (v := 3) rfl xnm0 xnm0 (by decide)) ?_
      refine xg_t (xg_aload (va := (2, 31)) rfl rfl) ?_
      refine xg_t (xg_iload (va := (0, n91)) rfl rfl) ?_
      refine xg_t (xg_iload (va := (0, 1)) rfl rfl) ?_
      refine xg_t (xg_aload (va := (2, 27)) rfl rfl) ?_
      refine xg_t (xg_getf (va := (2, 39)) (hb108.get (by decide) (hb96.get (by decide) h27_11)) rfl) ?_
      refine xg_t (xg_iload (va := (0, 1)) rfl rfl) ?_
      refine xg_ialdB (n := 1) (B := 4294967295) ((h39_13.but hb96 (by decide)).but hb108 (by decide)) (hb14) xnm0 (by omega) (fun u109 hu110 he111 => ?_)
      refine xg_cVv mX5_put (vs := [(0, n91), (0, 1), (0, u109)]) (rest := []) (cn1 := 0) (sl1 := 0) rfl (rputI (lim := 4) (wd := 2) (B := 4294967295) (hb108.get (by decide) hk95) hr106 (hb107) (by decide) (by omega) (by decide) (by decide) (by omega) (by omega) (by omega)) rfl (hb108.get (by decide) hk95) rfl rfl rfl rfl rfl rfl (fun w112 hq113 => ?_)
      obtain ⟨g114, hr115, hb116, hb117⟩ := hq113
      refine xg_t (xg_iinc (u := 1) (z := 2) (l1 := [(4, (0, n91)), (3, (2, 31)), (0, (2, 27)), (1, (0, 3)), (2, (0, pc_))]) rfl rfl (by decide) rfl) ?_
      refine xg_t (xg_goto) ?_
      refine xg_t (xg_blk (b := [(105, 2, 2, 5, 0, 0), (107, 3, 37, 1, 0, 115), (110, 1, 2, 1, 0, 0), (111, 1, 10, 0, 0, 0), (112, 3, 6, 142, 3, 0), (115, 2, 2, 5, 0, 0), (117, 1, 3, 3, 0, 0), (118, 3, 6, 142, 3, 0), (121, 1, 0, 3, 0, 0), (122, 2, 2, 4, 0, 0), (124, 2, 2, 5, 0, 0), (126, 1, 0, 0, 0, 0), (127, 3, 1, 2, 3, 18), (130, 2, 2, 5, 0, 0), (132, 1, 10, 0, 0, 0), (133, 3, 13, 290, 40, 207), (136, 3, 9, 5, 1, 0), (139, 3, 8, 105, 0, 0)]) rfl) ?_
      refine xg_t (xg_iload (va := (0, 2)) rfl rfl) ?_
      refine xg_t (xg_gets) ?_
      refine xg_t (xg_iload (va := (0, 3)) rfl rfl) ?_
      refine xg_t (xg_ald8L (n := 3) (u := 3) xnm0 rfl rfl) ?_
      refine xg_t (xg_icF (u := 2) (v := 3) rfl xnm0 xnm0 (by decide)) ?_
      refine xg_t (xg_iload (va := (0, 2)) rfl rfl) ?_
      refine xg_t (xg_const) ?_
      refine xg_t (xg_icF (u := 2) (v := 3) rfl xnm0 xnm0 (by decide)) ?_
      refine xg_t (xg_aload (va := (2, 31)) rfl rfl) ?_
      refine xg_t (xg_iload (va := (0, n91)) rfl rfl) ?_
      refine xg_t (xg_iload (va := (0, 2)) rfl rfl) ?_
      refine xg_t (xg_aload (va := (2, 27)) rfl rfl) ?_
      refine xg_t (xg_getf (va := (2, 39)) (hb117.get (by decide) (hb108.get (by decide) (hb96.get (by decide) h27_11))) rfl) ?_
      refine xg_t (xg_iload (va := (0, 2)) rfl rfl) ?_
      refine xg_ialdB (n := 2) (B := 4294967295) (((h39_13.but hb96 (by decide)).but hb108 (by decide)).but hb117 (by decide)) (hb14) xnm0 (by omega) (fun u118 hu119 he120 => ?_)
      refine xg_cVv mX5_put (vs := [(0, n91), (0, 2), (0, u118)]) (rest := []) (cn1 := 0) (sl1 := 0) rfl (rputI (lim := 4) (wd := 2) (B := 4294967295) (hb117.get (by decide) (hb108.get (by decide) hk95)) hr115 (hb116) (by decide) (by omega) (by decide) (by decide) (by omega) (by omega) (by omega)) rfl (hb117.get (by decide) (hb108.get (by decide) hk95)) rfl rfl rfl rfl rfl rfl (fun w121 hq122 => ?_)
      obtain ⟨g123, hr124, hb125, hb126⟩ := hq122
      refine xg_t (xg_iinc (u := 2) (z := 3) (l1 := [(4, (0, n91)), (3, (2, 31)), (0, (2, 27)), (1, (0, 3)), (2, (0, pc_))]) rfl rfl (by decide) rfl) ?_
      refine xg_t (xg_goto) ?_
      refine xg_t (xg_blk (b := [(105, 2, 2, 5, 0, 0), (107, 3, 37, 1, 0, 115), (110, 1, 2, 1, 0, 0), (111, 1, 10, 0, 0, 0), (112, 3, 6, 142, 3, 0), (115, 2, 2, 5, 0, 0), (117, 1, 3, 3, 0, 0), (118, 3, 6, 142, 3, 0), (121, 1, 0, 3, 0, 0), (122, 2, 2, 4, 0, 0), (124, 2, 2, 5, 0, 0), (126, 1, 0, 0, 0, 0), (127, 3, 1, 2, 3, 18), (130, 2, 2, 5, 0, 0), (132, 1, 10, 0, 0, 0), (133, 3, 13, 290, 40, 207), (136, 3, 9, 5, 1, 0), (139, 3, 8, 105, 0, 0)]) rfl) ?_
      refine xg_t (xg_iload (va := (0, 3)) rfl rfl) ?_
      refine xg_t (xg_gets) ?_
      refine xg_t (xg_iload (va := (0, 3)) rfl rfl) ?_
      refine xg_t (xg_ald8L (n := 3) (u := 3) xnm0 rfl rfl) ?_
      refine xg_t (xg_icT (u := 3) (v := 3) rfl xnm0 xnm0 (by decide)) ?_
      refine xg_t (xg_blk (b := [(142, 1, 2, 1, 0, 0), (143, 3, 7, 165, 1, 0), (146, 1, 0, 3, 0, 0), (147, 2, 2, 4, 0, 0), (149, 1, 3, 3, 0, 0), (150, 1, 0, 0, 0, 0), (151, 3, 1, 2, 6, 153), (154, 3, 7, 161, 0, 0), (157, 1, 3, 1, 0, 0), (158, 3, 8, 162, 0, 0)]) rfl) ?_
      refine xg_t (xg_iload (va := (0, 3)) rfl rfl) ?_
      refine xg_t (xg_ifT (u := 3) rfl xnm0 (by decide)) ?_
      refine xg_t (xg_blk (b := [(165, 1, 2, 1, 0, 0), (166, 1, 3, 4, 0, 0), (167, 3, 6, 188, 1, 0), (170, 2, 2, 4, 0, 0), (172, 1, 0, 0, 0, 0), (173, 3, 1, 2, 5, 25), (176, 1, 31, 0, 0, 0), (177, 3, 6, 188, 3, 0), (180, 1, 0, 0, 0, 0), (181, 3, 1, 2, 5, 25), (184, 2, 2, 4, 0, 0), (186, 1, 2, 2, 0, 0), (187, 1, 17, 0, 0, 0)]) rfl) ?_
      refine xg_t (xg_iload (va := (0, 3)) rfl rfl) ?_
      refine xg_t (xg_const) ?_
      refine xg_t (xg_icT (u := 3) (v := 4) rfl xnm0 xnm0 (by decide)) ?_
      refine xg_t (xg_blk (b := [(188, 1, 12, 0, 0, 0)]) rfl) ?_
      exact xg_e ⟨w121, ⟨rfl, rfl⟩, xInv.up (S := [31, 32]) hI ((((xFr.of (S := [31, 32]) hb96 (by decide)).tr (xFr.of (S := [31, 32]) hb108 (by decide))).tr (xFr.of (S := [31, 32]) hb117 (by decide))).tr (xFr.of (S := [31, 32]) hb126 (by decide))) (List.forall_mem_cons.mpr ⟨(show cp31 (wget w121 31) from ⟨s93, (hb126.get (by decide) (hb117.get (by decide) (hb108.get (by decide) hk95))), by omega⟩), List.forall_mem_cons.mpr ⟨(show cpI 8 14 4294967295 (wget w121 32) from ⟨_, hr124, hb125⟩), fun _ h => absurd h List.not_mem_nil⟩⟩), ((((xFr.of (S := [29, 30, 31, 32, 33, 34, 35, 36, 37, 38, 41]) hb96 (by decide)).tr (xFr.of (S := [29, 30, 31, 32, 33, 34, 35, 36, 37, 38, 41]) hb108 (by decide))).tr (xFr.of (S := [29, 30, 31, 32, 33, 34, 35, 36, 37, 38, 41]) hb117 (by decide))).tr (xFr.of (S := [29, 30, 31, 32, 33, 34, 35, 36, 37, 38, 41]) hb126 (by decide)))⟩
  · obtain ⟨f28_127, f28_129, f28_131, f28_133, f28_135, h28_137, hb128, hb130, hb132, hb134, hb136⟩ := (hI 28 (by decide) : cp28 (wget w 28))
    refine xg_t (xg_cVr mX1_rowsOf (vs := [(0, 3)]) (rest := []) (rs := [(2, 33)]) (cn1 := 0) (sl1 := 0) rfl (hp20) rfl h28_137 rfl rfl rfl rfl rfl rfl rfl) ?_
    refine xg_t (xg_astore (l1 := [(0, (2, 27)), (1, (0, 3)), (2, (0, pc_))]) rfl rfl rfl) ?_
    refine xg_t (xg_aload (va := (2, 33)) rfl rfl) ?_
    refine xg_t (xg_ifnullF) ?_
    refine xg_t (xg_aload (va := (2, 33)) rfl rfl) ?_
    obtain ⟨f33_138, h33_140, hb139⟩ := (hI 33 (by decide) : cp33 (wget w 33))
    refine xg_t (xg_cVr mX5_isFull (vs := []) (rest := []) (rs := [(0, if 6 ≤ f33_138 then 1 else 0)]) (cn1 := 0) (sl1 := 0) rfl (rfull_ok h33_140 (by decide) (by omega)) rfl h33_140 rfl rfl rfl rfl rfl rfl rfl) ?_
    by_cases hc141 : 6 ≤ f33_138
    · refine xg_t (xg_ifF (u := (if 6 ≤ f33_138 then 1 else 0)) rfl xnm0 (xj_eqF (xite1 hc141))) ?_
      refine xg_t (xg_blk (b := [(95, 1, 12, 0, 0, 0)]) rfl) ?_
      exact xg_e ⟨w, ⟨rfl, rfl⟩, hI, xFr.rf⟩
    · refine xg_t (xg_ifT (u := (if 6 ≤ f33_138 then 1 else 0)) rfl xnm0 (xj_eqT (xite0 hc141))) ?_
      refine xg_t (xg_blk (b := [(96, 1, 0, 3, 0, 0), (97, 3, 13, 286, 40, 204), (100, 2, 15, 4, 0, 0), (102, 1, 3, 0, 0, 0), (103, 2, 15, 5, 0, 0)]) rfl) ?_
      refine xg_t (xg_aload (va := (2, 33)) rfl rfl) ?_
      refine xg_cVi mX5_grow (vs := []) (rest := []) (cn1 := 0) (sl1 := 0) rfl (rgrowI h33_140 (by decide) (by omega)) rfl h33_140 rfl rfl rfl rfl rfl rfl (fun n144 w142 hq143 => ?_)
      obtain ⟨hn145, s146, hs147, hk148, hb149⟩ := hq143
      refine xg_t (xg_istore (l1 := [(3, (2, 33)), (0, (2, 27)), (1, (0, 3)), (2, (0, pc_))]) rfl rfl rfl) ?_
      refine xg_t (xg_const) ?_
      refine xg_t (xg_istore (l1 := [(4, (0, n144)), (3, (2, 33)), (0, (2, 27)), (1, (0, 3)), (2, (0, pc_))]) rfl rfl rfl) ?_
      refine xg_t (xg_blk (b := [(105, 2, 2, 5, 0, 0), (107, 3, 37, 1, 0, 115), (110, 1, 2, 1, 0, 0), (111, 1, 10, 0, 0, 0), (112, 3, 6, 142, 3, 0), (115, 2, 2, 5, 0, 0), (117, 1, 3, 3, 0, 0), (118, 3, 6, 142, 3, 0), (121, 1, 0, 3, 0, 0), (122, 2, 2, 4, 0, 0), (124, 2, 2, 5, 0, 0), (126, 1, 0, 0, 0, 0), (127, 3, 1, 2, 3, 18), (130, 2, 2, 5, 0, 0), (132, 1, 10, 0, 0, 0), (133, 3, 13, 290, 40, 207), (136, 3, 9, 5, 1, 0), (139, 3, 8, 105, 0, 0)]) rfl) ?_
      refine xg_t (xg_iload (va := (0, 0)) rfl rfl) ?_
      refine xg_t (xg_gets) ?_
      refine xg_t (xg_iload (va := (0, 3)) rfl rfl) ?_
      refine xg_t (xg_ald8L (n := 3) (u := 3) xnm0 rfl rfl) ?_
      refine xg_t (xg_icF (u := 0) (v := 3) rfl xnm0 xnm0 (by decide)) ?_
      refine xg_t (xg_iload (va := (0, 0)) rfl rfl) ?_
      refine xg_t (xg_const) ?_
      refine xg_t (xg_icF (u := 0) (v := 3) rfl xnm0 xnm0 (by decide)) ?_
      refine xg_t (xg_aload (va := (2, 33)) rfl rfl) ?_
      refine xg_t (xg_iload (va := (0, n144)) rfl rfl) ?_
      refine xg_t (xg_iload (va := (0, 0)) rfl rfl) ?_
      refine xg_t (xg_aload (va := (2, 27)) rfl rfl) ?_
      refine xg_t (xg_getf (va := (2, 39)) (hb149.get (by decide) h27_11) rfl) ?_
      refine xg_t (xg_iload (va := (0, 0)) rfl rfl) ?_
      refine xg_ialdB (n := 0) (B := 4294967295) (h39_13.but hb149 (by decide)) (hb14) xnm0 (by omega) (fun u150 hu151 he152 => ?_)
      obtain ⟨g34_153, h34_154, hb155⟩ := (hI 34 (by decide) : cpI 12 15 4294967295 (wget w 34))
      have h34_154 : xRow w 34 12 15 g34_153 := h34_154
      refine xg_cVv mX5_put (vs := [(0, n144), (0, 0), (0, u150)]) (rest := []) (cn1 := 0) (sl1 := 0) rfl (rputI (lim := 6) (wd := 2) (B := 4294967295) hk148 (h34_154.but hb149 (by decide)) (hb155) (by decide) (by omega) (by decide) (by decide) (by omega) (by omega) (by omega)) rfl hk148 rfl rfl rfl rfl rfl rfl (fun w156 hq157 => ?_)
      obtain ⟨g158, hr159, hb160, hb161⟩ := hq157
      refine xg_t (xg_iinc (u := 0) (z := 1) (l1 := [(4, (0, n144)), (3, (2, 33)), (0, (2, 27)), (1, (0, 3)), (2, (0, pc_))]) rfl rfl (by decide) rfl) ?_
      refine xg_t (xg_goto) ?_
      refine xg_t (xg_blk (b := [(105, 2, 2, 5, 0, 0), (107, 3, 37, 1, 0, 115), (110, 1, 2, 1, 0, 0), (111, 1, 10, 0, 0, 0), (112, 3, 6, 142, 3, 0), (115, 2, 2, 5, 0, 0), (117, 1, 3, 3, 0, 0), (118, 3, 6, 142, 3, 0), (121, 1, 0, 3, 0, 0), (122, 2, 2, 4, 0, 0), (124, 2, 2, 5, 0, 0), (126, 1, 0, 0, 0, 0), (127, 3, 1, 2, 3, 18), (130, 2, 2, 5, 0, 0), (132, 1, 10, 0, 0, 0), (133, 3, 13, 290, 40, 207), (136, 3, 9, 5, 1, 0), (139, 3, 8, 105, 0, 0)]) rfl) ?_
      refine xg_t (xg_iload (va := (0, 1)) rfl rfl) ?_
      refine xg_t (xg_gets) ?_
      refine xg_t (xg_iload (va := (0, 3)) rfl rfl) ?_
      refine xg_t (xg_ald8L (n := 3) (u := 3) xnm0 rfl rfl) ?_
      refine xg_t (xg_icF (u := 1) (v := 3) rfl xnm0 xnm0 (by decide)) ?_
      refine xg_t (xg_iload (va := (0, 1)) rfl rfl) ?_
      refine xg_t (xg_const) ?_
      refine xg_t (xg_icF (u := 1) (v := 3) rfl xnm0 xnm0 (by decide)) ?_
      refine xg_t (xg_aload (va := (2, 33)) rfl rfl) ?_
      refine xg_t (xg_iload (va := (0, n144)) rfl rfl) ?_
      refine xg_t (xg_iload (va := (0, 1)) rfl rfl) ?_
      refine xg_t (xg_aload (va := (2, 27)) rfl rfl) ?_
      refine xg_t (xg_getf (va := (2, 39)) (hb161.get (by decide) (hb149.get (by decide) h27_11)) rfl) ?_
      refine xg_t (xg_iload (va := (0, 1)) rfl rfl) ?_
      refine xg_ialdB (n := 1) (B := 4294967295) ((h39_13.but hb149 (by decide)).but hb161 (by decide)) (hb14) xnm0 (by omega) (fun u162 hu163 he164 => ?_)
      refine xg_cVv mX5_put (vs := [(0, n144), (0, 1), (0, u162)]) (rest := []) (cn1 := 0) (sl1 := 0) rfl (rputI (lim := 6) (wd := 2) (B := 4294967295) (hb161.get (by decide) hk148) hr159 (hb160) (by decide) (by omega) (by decide) (by decide) (by omega) (by omega) (by omega)) rfl (hb161.get (by decide) hk148) rfl rfl rfl rfl rfl rfl (fun w165 hq166 => ?_)
      obtain ⟨g167, hr168, hb169, hb170⟩ := hq166
      refine xg_t (xg_iinc (u := 1) (z := 2) (l1 := [(4, (0, n144)), (3, (2, 33)), (0, (2, 27)), (1, (0, 3)), (2, (0, pc_))]) rfl rfl (by decide) rfl) ?_
      refine xg_t (xg_goto) ?_
      refine xg_t (xg_blk (b := [(105, 2, 2, 5, 0, 0), (107, 3, 37, 1, 0, 115), (110, 1, 2, 1, 0, 0), (111, 1, 10, 0, 0, 0), (112, 3, 6, 142, 3, 0), (115, 2, 2, 5, 0, 0), (117, 1, 3, 3, 0, 0), (118, 3, 6, 142, 3, 0), (121, 1, 0, 3, 0, 0), (122, 2, 2, 4, 0, 0), (124, 2, 2, 5, 0, 0), (126, 1, 0, 0, 0, 0), (127, 3, 1, 2, 3, 18), (130, 2, 2, 5, 0, 0), (132, 1, 10, 0, 0, 0), (133, 3, 13, 290, 40, 207), (136, 3, 9, 5, 1, 0), (139, 3, 8, 105, 0, 0)]) rfl) ?_
      refine xg_t (xg_iload (va := (0, 2)) rfl rfl) ?_
      refine xg_t (xg_gets) ?_
      refine xg_t (xg_iload (va := (0, 3)) rfl rfl) ?_
      refine xg_t (xg_ald8L (n := 3) (u := 3) xnm0 rfl rfl) ?_
      refine xg_t (xg_icF (u := 2) (v := 3) rfl xnm0 xnm0 (by decide)) ?_
      refine xg_t (xg_iload (va := (0, 2)) rfl rfl) ?_
      refine xg_t (xg_const) ?_
      refine xg_t (xg_icF (u := 2) (v := 3) rfl xnm0 xnm0 (by decide)) ?_
      refine xg_t (xg_aload (va := (2, 33)) rfl rfl) ?_
      refine xg_t (xg_iload (va := (0, n144)) rfl rfl) ?_
      refine xg_t (xg_iload (va := (0, 2)) rfl rfl) ?_
      refine xg_t (xg_aload (va := (2, 27)) rfl rfl) ?_
      refine xg_t (xg_getf (va := (2, 39)) (hb170.get (by decide) (hb161.get (by decide) (hb149.get (by decide) h27_11))) rfl) ?_
      refine xg_t (xg_iload (va := (0, 2)) rfl rfl) ?_
      refine xg_ialdB (n := 2) (B := 4294967295) (((h39_13.but hb149 (by decide)).but hb161 (by decide)).but hb170 (by decide)) (hb14) xnm0 (by omega) (fun u171 hu172 he173 => ?_)
      refine xg_cVv mX5_put (vs := [(0, n144), (0, 2), (0, u171)]) (rest := []) (cn1 := 0) (sl1 := 0) rfl (rputI (lim := 6) (wd := 2) (B := 4294967295) (hb170.get (by decide) (hb161.get (by decide) hk148)) hr168 (hb169) (by decide) (by omega) (by decide) (by decide) (by omega) (by omega) (by omega)) rfl (hb170.get (by decide) (hb161.get (by decide) hk148)) rfl rfl rfl rfl rfl rfl (fun w174 hq175 => ?_)
      obtain ⟨g176, hr177, hb178, hb179⟩ := hq175
      refine xg_t (xg_iinc (u := 2) (z := 3) (l1 := [(4, (0, n144)), (3, (2, 33)), (0, (2, 27)), (1, (0, 3)), (2, (0, pc_))]) rfl rfl (by decide) rfl) ?_
      refine xg_t (xg_goto) ?_
      refine xg_t (xg_blk (b := [(105, 2, 2, 5, 0, 0), (107, 3, 37, 1, 0, 115), (110, 1, 2, 1, 0, 0), (111, 1, 10, 0, 0, 0), (112, 3, 6, 142, 3, 0), (115, 2, 2, 5, 0, 0), (117, 1, 3, 3, 0, 0), (118, 3, 6, 142, 3, 0), (121, 1, 0, 3, 0, 0), (122, 2, 2, 4, 0, 0), (124, 2, 2, 5, 0, 0), (126, 1, 0, 0, 0, 0), (127, 3, 1, 2, 3, 18), (130, 2, 2, 5, 0, 0), (132, 1, 10, 0, 0, 0), (133, 3, 13, 290, 40, 207), (136, 3, 9, 5, 1, 0), (139, 3, 8, 105, 0, 0)]) rfl) ?_
      refine xg_t (xg_iload (va := (0, 3)) rfl rfl) ?_
      refine xg_t (xg_gets) ?_
      refine xg_t (xg_iload (va := (0, 3)) rfl rfl) ?_
      refine xg_t (xg_ald8L (n := 3) (u := 3) xnm0 rfl rfl) ?_
      refine xg_t (xg_icT (u := 3) (v := 3) rfl xnm0 xnm0 (by decide)) ?_
      refine xg_t (xg_blk (b := [(142, 1, 2, 1, 0, 0), (143, 3, 7, 165, 1, 0), (146, 1, 0, 3, 0, 0), (147, 2, 2, 4, 0, 0), (149, 1, 3, 3, 0, 0), (150, 1, 0, 0, 0, 0), (151, 3, 1, 2, 6, 153), (154, 3, 7, 161, 0, 0), (157, 1, 3, 1, 0, 0), (158, 3, 8, 162, 0, 0)]) rfl) ?_
      refine xg_t (xg_iload (va := (0, 3)) rfl rfl) ?_
      refine xg_t (xg_ifT (u := 3) rfl xnm0 (by decide)) ?_
      refine xg_t (xg_blk (b := [(165, 1, 2, 1, 0, 0), (166, 1, 3, 4, 0, 0), (167, 3, 6, 188, 1, 0), (170, 2, 2, 4, 0, 0), (172, 1, 0, 0, 0, 0), (173, 3, 1, 2, 5, 25), (176, 1, 31, 0, 0, 0), (177, 3, 6, 188, 3, 0), (180, 1, 0, 0, 0, 0), (181, 3, 1, 2, 5, 25), (184, 2, 2, 4, 0, 0), (186, 1, 2, 2, 0, 0), (187, 1, 17, 0, 0, 0)]) rfl) ?_
      refine xg_t (xg_iload (va := (0, 3)) rfl rfl) ?_
      refine xg_t (xg_const) ?_
      refine xg_t (xg_icT (u := 3) (v := 4) rfl xnm0 xnm0 (by decide)) ?_
      refine xg_t (xg_blk (b := [(188, 1, 12, 0, 0, 0)]) rfl) ?_
      exact xg_e ⟨w174, ⟨rfl, rfl⟩, xInv.up (S := [33, 34]) hI ((((xFr.of (S := [33, 34]) hb149 (by decide)).tr (xFr.of (S := [33, 34]) hb161 (by decide))).tr (xFr.of (S := [33, 34]) hb170 (by decide))).tr (xFr.of (S := [33, 34]) hb179 (by decide))) (List.forall_mem_cons.mpr ⟨(show cp33 (wget w174 33) from ⟨s146, (hb179.get (by decide) (hb170.get (by decide) (hb161.get (by decide) hk148))), by omega⟩), List.forall_mem_cons.mpr ⟨(show cpI 12 15 4294967295 (wget w174 34) from ⟨_, hr177, hb178⟩), fun _ h => absurd h List.not_mem_nil⟩⟩), ((((xFr.of (S := [29, 30, 31, 32, 33, 34, 35, 36, 37, 38, 41]) hb149 (by decide)).tr (xFr.of (S := [29, 30, 31, 32, 33, 34, 35, 36, 37, 38, 41]) hb161 (by decide))).tr (xFr.of (S := [29, 30, 31, 32, 33, 34, 35, 36, 37, 38, 41]) hb170 (by decide))).tr (xFr.of (S := [29, 30, 31, 32, 33, 34, 35, 36, 37, 38, 41]) hb179 (by decide)))⟩
  · obtain ⟨f28_180, f28_182, f28_184, f28_186, f28_188, h28_190, hb181, hb183, hb185, hb187, hb189⟩ := (hI 28 (by decide) : cp28 (wget w 28))
    refine xg_t (xg_cVr mX1_rowsOf (vs := [(0, 3)]) (rest := []) (rs := [(2, 35)]) (cn1 := 0) (sl1 := 0) rfl (hp20) rfl h28_190 rfl rfl rfl rfl rfl rfl rfl) ?_
    refine xg_t (xg_astore (l1 := [(0, (2, 27)), (1, (0, 3)), (2, (0, pc_))]) rfl rfl rfl) ?_
    refine xg_t (xg_aload (va := (2, 35)) rfl rfl) ?_
    refine xg_t (xg_ifnullF) ?_
    refine xg_t (xg_aload (va := (2, 35)) rfl rfl) ?_
    obtain ⟨f35_191, h35_193, hb192⟩ := (hI 35 (by decide) : cp35 (wget w 35))
    refine xg_t (xg_cVr mX5_isFull (vs := []) (rest := []) (rs := [(0, if 4 ≤ f35_191 then 1 else 0)]) (cn1 := 0) (sl1 := 0) rfl (rfull_ok h35_193 (by decide) (by omega)) rfl h35_193 rfl rfl rfl rfl rfl rfl rfl) ?_
    by_cases hc194 : 4 ≤ f35_191
    · refine xg_t (xg_ifF (u := (if 4 ≤ f35_191 then 1 else 0)) rfl xnm0 (xj_eqF (xite1 hc194))) ?_
      refine xg_t (xg_blk (b := [(95, 1, 12, 0, 0, 0)]) rfl) ?_
      exact xg_e ⟨w, ⟨rfl, rfl⟩, hI, xFr.rf⟩
    · refine xg_t (xg_ifT (u := (if 4 ≤ f35_191 then 1 else 0)) rfl xnm0 (xj_eqT (xite0 hc194))) ?_
      refine xg_t (xg_blk (b := [(96, 1, 0, 3, 0, 0), (97, 3, 13, 286, 40, 204), (100, 2, 15, 4, 0, 0), (102, 1, 3, 0, 0, 0), (103, 2, 15, 5, 0, 0)]) rfl) ?_
      refine xg_t (xg_aload (va := (2, 35)) rfl rfl) ?_
      refine xg_cVi mX5_grow (vs := []) (rest := []) (cn1 := 0) (sl1 := 0) rfl (rgrowI h35_193 (by decide) (by omega)) rfl h35_193 rfl rfl rfl rfl rfl rfl (fun n197 w195 hq196 => ?_)
      obtain ⟨hn198, s199, hs200, hk201, hb202⟩ := hq196
      refine xg_t (xg_istore (l1 := [(3, (2, 35)), (0, (2, 27)), (1, (0, 3)), (2, (0, pc_))]) rfl rfl rfl) ?_
      refine xg_t (xg_const) ?_
      refine xg_t (xg_istore (l1 := [(4, (0, n197)), (3, (2, 35)), (0, (2, 27)), (1, (0, 3)), (2, (0, pc_))]) rfl rfl rfl) ?_
      refine xg_t (xg_blk (b := [(105, 2, 2, 5, 0, 0), (107, 3, 37, 1, 0, 115), (110, 1, 2, 1, 0, 0), (111, 1, 10, 0, 0, 0), (112, 3, 6, 142, 3, 0), (115, 2, 2, 5, 0, 0), (117, 1, 3, 3, 0, 0), (118, 3, 6, 142, 3, 0), (121, 1, 0, 3, 0, 0), (122, 2, 2, 4, 0, 0), (124, 2, 2, 5, 0, 0), (126, 1, 0, 0, 0, 0), (127, 3, 1, 2, 3, 18), (130, 2, 2, 5, 0, 0), (132, 1, 10, 0, 0, 0), (133, 3, 13, 290, 40, 207), (136, 3, 9, 5, 1, 0), (139, 3, 8, 105, 0, 0)]) rfl) ?_
      refine xg_t (xg_iload (va := (0, 0)) rfl rfl) ?_
      refine xg_t (xg_gets) ?_
      refine xg_t (xg_iload (va := (0, 3)) rfl rfl) ?_
      refine xg_t (xg_ald8L (n := 3) (u := 3) xnm0 rfl rfl) ?_
      refine xg_t (xg_icF (u := 0) (v := 3) rfl xnm0 xnm0 (by decide)) ?_
      refine xg_t (xg_iload (va := (0, 0)) rfl rfl) ?_
      refine xg_t (xg_const) ?_
      refine xg_t (xg_icF (u := 0) (v := 3) rfl xnm0 xnm0 (by decide)) ?_
      refine xg_t (xg_aload (va := (2, 35)) rfl rfl) ?_
      refine xg_t (xg_iload (va := (0, n197)) rfl rfl) ?_
      refine xg_t (xg_iload (va := (0, 0)) rfl rfl) ?_
      refine xg_t (xg_aload (va := (2, 27)) rfl rfl) ?_
      refine xg_t (xg_getf (va := (2, 39)) (hb202.get (by decide) h27_11) rfl) ?_
      refine xg_t (xg_iload (va := (0, 0)) rfl rfl) ?_
      refine xg_ialdB (n := 0) (B := 4294967295) (h39_13.but hb202 (by decide)) (hb14) xnm0 (by omega) (fun u203 hu204 he205 => ?_)
      obtain ⟨g36_206, h36_207, hb208⟩ := (hI 36 (by decide) : cpI 12 16 4294967295 (wget w 36))
      have h36_207 : xRow w 36 12 16 g36_206 := h36_207
      refine xg_cVv mX5_put (vs := [(0, n197), (0, 0), (0, u203)]) (rest := []) (cn1 := 0) (sl1 := 0) rfl (rputI (lim := 4) (wd := 3) (B := 4294967295) hk201 (h36_207.but hb202 (by decide)) (hb208) (by decide) (by omega) (by decide) (by decide) (by omega) (by omega) (by omega)) rfl hk201 rfl rfl rfl rfl rfl rfl (fun w209 hq210 => ?_)
      obtain ⟨g211, hr212, hb213, hb214⟩ := hq210
      refine xg_t (xg_iinc (u := 0) (z := 1) (l1 := [(4, (0, n197)), (3, (2, 35)), (0, (2, 27)), (1, (0, 3)), (2, (0, pc_))]) rfl rfl (by decide) rfl) ?_
      refine xg_t (xg_goto) ?_
      refine xg_t (xg_blk (b := [(105, 2, 2, 5, 0, 0), (107, 3, 37, 1, 0, 115), (110, 1, 2, 1, 0, 0), (111, 1, 10, 0, 0, 0), (112, 3, 6, 142, 3, 0), (115, 2, 2, 5, 0, 0), (117, 1, 3, 3, 0, 0), (118, 3, 6, 142, 3, 0), (121, 1, 0, 3, 0, 0), (122, 2, 2, 4, 0, 0), (124, 2, 2, 5, 0, 0), (126, 1, 0, 0, 0, 0), (127, 3, 1, 2, 3, 18), (130, 2, 2, 5, 0, 0), (132, 1, 10, 0, 0, 0), (133, 3, 13, 290, 40, 207), (136, 3, 9, 5, 1, 0), (139, 3, 8, 105, 0, 0)]) rfl) ?_
      refine xg_t (xg_iload (va := (0, 1)) rfl rfl) ?_
      refine xg_t (xg_gets) ?_
      refine xg_t (xg_iload (va := (0, 3)) rfl rfl) ?_
      refine xg_t (xg_ald8L (n := 3) (u := 3) xnm0 rfl rfl) ?_
      refine xg_t (xg_icF (u := 1) (v := 3) rfl xnm0 xnm0 (by decide)) ?_
      refine xg_t (xg_iload (va := (0, 1)) rfl rfl) ?_
      refine xg_t (xg_const) ?_
      refine xg_t (xg_icF (u := 1) (v := 3) rfl xnm0 xnm0 (by decide)) ?_
      refine xg_t (xg_aload (va := (2, 35)) rfl rfl) ?_
      refine xg_t (xg_iload (va := (0, n197)) rfl rfl) ?_
      refine xg_t (xg_iload (va := (0, 1)) rfl rfl) ?_
      refine xg_t (xg_aload (va := (2, 27)) rfl rfl) ?_
      refine xg_t (xg_getf (va := (2, 39)) (hb214.get (by decide) (hb202.get (by decide) h27_11)) rfl) ?_
      refine xg_t (xg_iload (va := (0, 1)) rfl rfl) ?_
      refine xg_ialdB (n := 1) (B := 4294967295) ((h39_13.but hb202 (by decide)).but hb214 (by decide)) (hb14) xnm0 (by omega) (fun u215 hu216 he217 => ?_)
      refine xg_cVv mX5_put (vs := [(0, n197), (0, 1), (0, u215)]) (rest := []) (cn1 := 0) (sl1 := 0) rfl (rputI (lim := 4) (wd := 3) (B := 4294967295) (hb214.get (by decide) hk201) hr212 (hb213) (by decide) (by omega) (by decide) (by decide) (by omega) (by omega) (by omega)) rfl (hb214.get (by decide) hk201) rfl rfl rfl rfl rfl rfl (fun w218 hq219 => ?_)
      obtain ⟨g220, hr221, hb222, hb223⟩ := hq219
      refine xg_t (xg_iinc (u := 1) (z := 2) (l1 := [(4, (0, n197)), (3, (2, 35)), (0, (2, 27)), (1, (0, 3)), (2, (0, pc_))]) rfl rfl (by decide) rfl) ?_
      refine xg_t (xg_goto) ?_
      refine xg_t (xg_blk (b := [(105, 2, 2, 5, 0, 0), (107, 3, 37, 1, 0, 115), (110, 1, 2, 1, 0, 0), (111, 1, 10, 0, 0, 0), (112, 3, 6, 142, 3, 0), (115, 2, 2, 5, 0, 0), (117, 1, 3, 3, 0, 0), (118, 3, 6, 142, 3, 0), (121, 1, 0, 3, 0, 0), (122, 2, 2, 4, 0, 0), (124, 2, 2, 5, 0, 0), (126, 1, 0, 0, 0, 0), (127, 3, 1, 2, 3, 18), (130, 2, 2, 5, 0, 0), (132, 1, 10, 0, 0, 0), (133, 3, 13, 290, 40, 207), (136, 3, 9, 5, 1, 0), (139, 3, 8, 105, 0, 0)]) rfl) ?_
      refine xg_t (xg_iload (va := (0, 2)) rfl rfl) ?_
      refine xg_t (xg_gets) ?_
      refine xg_t (xg_iload (va := (0, 3)) rfl rfl) ?_
      refine xg_t (xg_ald8L (n := 3) (u := 3) xnm0 rfl rfl) ?_
      refine xg_t (xg_icF (u := 2) (v := 3) rfl xnm0 xnm0 (by decide)) ?_
      refine xg_t (xg_iload (va := (0, 2)) rfl rfl) ?_
      refine xg_t (xg_const) ?_
      refine xg_t (xg_icF (u := 2) (v := 3) rfl xnm0 xnm0 (by decide)) ?_
      refine xg_t (xg_aload (va := (2, 35)) rfl rfl) ?_
      refine xg_t (xg_iload (va := (0, n197)) rfl rfl) ?_
      refine xg_t (xg_iload (va := (0, 2)) rfl rfl) ?_
      refine xg_t (xg_aload (va := (2, 27)) rfl rfl) ?_
      refine xg_t (xg_getf (va := (2, 39)) (hb223.get (by decide) (hb214.get (by decide) (hb202.get (by decide) h27_11))) rfl) ?_
      refine xg_t (xg_iload (va := (0, 2)) rfl rfl) ?_
      refine xg_ialdB (n := 2) (B := 4294967295) (((h39_13.but hb202 (by decide)).but hb214 (by decide)).but hb223 (by decide)) (hb14) xnm0 (by omega) (fun u224 hu225 he226 => ?_)
      refine xg_cVv mX5_put (vs := [(0, n197), (0, 2), (0, u224)]) (rest := []) (cn1 := 0) (sl1 := 0) rfl (rputI (lim := 4) (wd := 3) (B := 4294967295) (hb223.get (by decide) (hb214.get (by decide) hk201)) hr221 (hb222) (by decide) (by omega) (by decide) (by decide) (by omega) (by omega) (by omega)) rfl (hb223.get (by decide) (hb214.get (by decide) hk201)) rfl rfl rfl rfl rfl rfl (fun w227 hq228 => ?_)
      obtain ⟨g229, hr230, hb231, hb232⟩ := hq228
      refine xg_t (xg_iinc (u := 2) (z := 3) (l1 := [(4, (0, n197)), (3, (2, 35)), (0, (2, 27)), (1, (0, 3)), (2, (0, pc_))]) rfl rfl (by decide) rfl) ?_
      refine xg_t (xg_goto) ?_
      refine xg_t (xg_blk (b := [(105, 2, 2, 5, 0, 0), (107, 3, 37, 1, 0, 115), (110, 1, 2, 1, 0, 0), (111, 1, 10, 0, 0, 0), (112, 3, 6, 142, 3, 0), (115, 2, 2, 5, 0, 0), (117, 1, 3, 3, 0, 0), (118, 3, 6, 142, 3, 0), (121, 1, 0, 3, 0, 0), (122, 2, 2, 4, 0, 0), (124, 2, 2, 5, 0, 0), (126, 1, 0, 0, 0, 0), (127, 3, 1, 2, 3, 18), (130, 2, 2, 5, 0, 0), (132, 1, 10, 0, 0, 0), (133, 3, 13, 290, 40, 207), (136, 3, 9, 5, 1, 0), (139, 3, 8, 105, 0, 0)]) rfl) ?_
      refine xg_t (xg_iload (va := (0, 3)) rfl rfl) ?_
      refine xg_t (xg_gets) ?_
      refine xg_t (xg_iload (va := (0, 3)) rfl rfl) ?_
      refine xg_t (xg_ald8L (n := 3) (u := 3) xnm0 rfl rfl) ?_
      refine xg_t (xg_icT (u := 3) (v := 3) rfl xnm0 xnm0 (by decide)) ?_
      refine xg_t (xg_blk (b := [(142, 1, 2, 1, 0, 0), (143, 3, 7, 165, 1, 0), (146, 1, 0, 3, 0, 0), (147, 2, 2, 4, 0, 0), (149, 1, 3, 3, 0, 0), (150, 1, 0, 0, 0, 0), (151, 3, 1, 2, 6, 153), (154, 3, 7, 161, 0, 0), (157, 1, 3, 1, 0, 0), (158, 3, 8, 162, 0, 0)]) rfl) ?_
      refine xg_t (xg_iload (va := (0, 3)) rfl rfl) ?_
      refine xg_t (xg_ifT (u := 3) rfl xnm0 (by decide)) ?_
      refine xg_t (xg_blk (b := [(165, 1, 2, 1, 0, 0), (166, 1, 3, 4, 0, 0), (167, 3, 6, 188, 1, 0), (170, 2, 2, 4, 0, 0), (172, 1, 0, 0, 0, 0), (173, 3, 1, 2, 5, 25), (176, 1, 31, 0, 0, 0), (177, 3, 6, 188, 3, 0), (180, 1, 0, 0, 0, 0), (181, 3, 1, 2, 5, 25), (184, 2, 2, 4, 0, 0), (186, 1, 2, 2, 0, 0), (187, 1, 17, 0, 0, 0)]) rfl) ?_
      refine xg_t (xg_iload (va := (0, 3)) rfl rfl) ?_
      refine xg_t (xg_const) ?_
      refine xg_t (xg_icT (u := 3) (v := 4) rfl xnm0 xnm0 (by decide)) ?_
      refine xg_t (xg_blk (b := [(188, 1, 12, 0, 0, 0)]) rfl) ?_
      exact xg_e ⟨w227, ⟨rfl, rfl⟩, xInv.up (S := [35, 36]) hI ((((xFr.of (S := [35, 36]) hb202 (by decide)).tr (xFr.of (S := [35, 36]) hb214 (by decide))).tr (xFr.of (S := [35, 36]) hb223 (by decide))).tr (xFr.of (S := [35, 36]) hb232 (by decide))) (List.forall_mem_cons.mpr ⟨(show cp35 (wget w227 35) from ⟨s199, (hb232.get (by decide) (hb223.get (by decide) (hb214.get (by decide) hk201))), by omega⟩), List.forall_mem_cons.mpr ⟨(show cpI 12 16 4294967295 (wget w227 36) from ⟨_, hr230, hb231⟩), fun _ h => absurd h List.not_mem_nil⟩⟩), ((((xFr.of (S := [29, 30, 31, 32, 33, 34, 35, 36, 37, 38, 41]) hb202 (by decide)).tr (xFr.of (S := [29, 30, 31, 32, 33, 34, 35, 36, 37, 38, 41]) hb214 (by decide))).tr (xFr.of (S := [29, 30, 31, 32, 33, 34, 35, 36, 37, 38, 41]) hb223 (by decide))).tr (xFr.of (S := [29, 30, 31, 32, 33, 34, 35, 36, 37, 38, 41]) hb232 (by decide)))⟩
  · obtain ⟨f28_233, f28_235, f28_237, f28_239, f28_241, h28_243, hb234, hb236, hb238, hb240, hb242⟩ := (hI 28 (by decide) : cp28 (wget w 28))
    refine xg_t (xg_cVr mX1_rowsOf (vs := [(0, 3)]) (rest := []) (rs := [(2, 37)]) (cn1 := 0) (sl1 := 0) rfl (hp20) rfl h28_243 rfl rfl rfl rfl rfl rfl rfl) ?_
    refine xg_t (xg_astore (l1 := [(0, (2, 27)), (1, (0, 3)), (2, (0, pc_))]) rfl rfl rfl) ?_
    refine xg_t (xg_aload (va := (2, 37)) rfl rfl) ?_
    refine xg_t (xg_ifnullF) ?_
    refine xg_t (xg_aload (va := (2, 37)) rfl rfl) ?_
    obtain ⟨f37_244, h37_246, hb245⟩ := (hI 37 (by decide) : cp37 (wget w 37))
    refine xg_t (xg_cVr mX5_isFull (vs := []) (rest := []) (rs := [(0, if 20 ≤ f37_244 then 1 else 0)]) (cn1 := 0) (sl1 := 0) rfl (rfull_ok h37_246 (by decide) (by omega)) rfl h37_246 rfl rfl rfl rfl rfl rfl rfl) ?_
    by_cases hc247 : 20 ≤ f37_244
    · refine xg_t (xg_ifF (u := (if 20 ≤ f37_244 then 1 else 0)) rfl xnm0 (xj_eqF (xite1 hc247))) ?_
      refine xg_t (xg_blk (b := [(95, 1, 12, 0, 0, 0)]) rfl) ?_
      exact xg_e ⟨w, ⟨rfl, rfl⟩, hI, xFr.rf⟩
    · refine xg_t (xg_ifT (u := (if 20 ≤ f37_244 then 1 else 0)) rfl xnm0 (xj_eqT (xite0 hc247))) ?_
      refine xg_t (xg_blk (b := [(96, 1, 0, 3, 0, 0), (97, 3, 13, 286, 40, 204), (100, 2, 15, 4, 0, 0), (102, 1, 3, 0, 0, 0), (103, 2, 15, 5, 0, 0)]) rfl) ?_
      refine xg_t (xg_aload (va := (2, 37)) rfl rfl) ?_
      refine xg_cVi mX5_grow (vs := []) (rest := []) (cn1 := 0) (sl1 := 0) rfl (rgrowI h37_246 (by decide) (by omega)) rfl h37_246 rfl rfl rfl rfl rfl rfl (fun n250 w248 hq249 => ?_)
      obtain ⟨hn251, s252, hs253, hk254, hb255⟩ := hq249
      refine xg_t (xg_istore (l1 := [(3, (2, 37)), (0, (2, 27)), (1, (0, 3)), (2, (0, pc_))]) rfl rfl rfl) ?_
      refine xg_t (xg_const) ?_
      refine xg_t (xg_istore (l1 := [(4, (0, n250)), (3, (2, 37)), (0, (2, 27)), (1, (0, 3)), (2, (0, pc_))]) rfl rfl rfl) ?_
      refine xg_t (xg_blk (b := [(105, 2, 2, 5, 0, 0), (107, 3, 37, 1, 0, 115), (110, 1, 2, 1, 0, 0), (111, 1, 10, 0, 0, 0), (112, 3, 6, 142, 3, 0), (115, 2, 2, 5, 0, 0), (117, 1, 3, 3, 0, 0), (118, 3, 6, 142, 3, 0), (121, 1, 0, 3, 0, 0), (122, 2, 2, 4, 0, 0), (124, 2, 2, 5, 0, 0), (126, 1, 0, 0, 0, 0), (127, 3, 1, 2, 3, 18), (130, 2, 2, 5, 0, 0), (132, 1, 10, 0, 0, 0), (133, 3, 13, 290, 40, 207), (136, 3, 9, 5, 1, 0), (139, 3, 8, 105, 0, 0)]) rfl) ?_
      refine xg_t (xg_iload (va := (0, 0)) rfl rfl) ?_
      refine xg_t (xg_gets) ?_
      refine xg_t (xg_iload (va := (0, 3)) rfl rfl) ?_
      refine xg_t (xg_ald8L (n := 3) (u := 3) xnm0 rfl rfl) ?_
      refine xg_t (xg_icF (u := 0) (v := 3) rfl xnm0 xnm0 (by decide)) ?_
      refine xg_t (xg_iload (va := (0, 0)) rfl rfl) ?_
      refine xg_t (xg_const) ?_
      refine xg_t (xg_icF (u := 0) (v := 3) rfl xnm0 xnm0 (by decide)) ?_
      refine xg_t (xg_aload (va := (2, 37)) rfl rfl) ?_
      refine xg_t (xg_iload (va := (0, n250)) rfl rfl) ?_
      refine xg_t (xg_iload (va := (0, 0)) rfl rfl) ?_
      refine xg_t (xg_aload (va := (2, 27)) rfl rfl) ?_
      refine xg_t (xg_getf (va := (2, 39)) (hb255.get (by decide) h27_11) rfl) ?_
      refine xg_t (xg_iload (va := (0, 0)) rfl rfl) ?_
      refine xg_ialdB (n := 0) (B := 4294967295) (h39_13.but hb255 (by decide)) (hb14) xnm0 (by omega) (fun u256 hu257 he258 => ?_)
      obtain ⟨g38_259, h38_260, hb261⟩ := (hI 38 (by decide) : cpI 40 17 4294967295 (wget w 38))
      have h38_260 : xRow w 38 40 17 g38_259 := h38_260
      refine xg_cVv mX5_put (vs := [(0, n250), (0, 0), (0, u256)]) (rest := []) (cn1 := 0) (sl1 := 0) rfl (rputI (lim := 20) (wd := 2) (B := 4294967295) hk254 (h38_260.but hb255 (by decide)) (hb261) (by decide) (by omega) (by decide) (by decide) (by omega) (by omega) (by omega)) rfl hk254 rfl rfl rfl rfl rfl rfl (fun w262 hq263 => ?_)
      obtain ⟨g264, hr265, hb266, hb267⟩ := hq263
      refine xg_t (xg_iinc (u := 0) (z := 1) (l1 := [(4, (0, n250)), (3, (2, 37)), (0, (2, 27)), (1, (0, 3)), (2, (0, pc_))]) rfl rfl (by decide) rfl) ?_
      refine xg_t (xg_goto) ?_
      refine xg_t (xg_blk (b := [(105, 2, 2, 5, 0, 0), (107, 3, 37, 1, 0, 115), (110, 1, 2, 1, 0, 0), (111, 1, 10, 0, 0, 0), (112, 3, 6, 142, 3, 0), (115, 2, 2, 5, 0, 0), (117, 1, 3, 3, 0, 0), (118, 3, 6, 142, 3, 0), (121, 1, 0, 3, 0, 0), (122, 2, 2, 4, 0, 0), (124, 2, 2, 5, 0, 0), (126, 1, 0, 0, 0, 0), (127, 3, 1, 2, 3, 18), (130, 2, 2, 5, 0, 0), (132, 1, 10, 0, 0, 0), (133, 3, 13, 290, 40, 207), (136, 3, 9, 5, 1, 0), (139, 3, 8, 105, 0, 0)]) rfl) ?_
      refine xg_t (xg_iload (va := (0, 1)) rfl rfl) ?_
      refine xg_t (xg_gets) ?_
      refine xg_t (xg_iload (va := (0, 3)) rfl rfl) ?_
      refine xg_t (xg_ald8L (n := 3) (u := 3) xnm0 rfl rfl) ?_
      refine xg_t (xg_icF (u := 1) (v := 3) rfl xnm0 xnm0 (by decide)) ?_
      refine xg_t (xg_iload (va := (0, 1)) rfl rfl) ?_
      refine xg_t (xg_const) ?_
      refine xg_t (xg_icF (u := 1) (v := 3) rfl xnm0 xnm0 (by decide)) ?_
      refine xg_t (xg_aload (va := (2, 37)) rfl rfl) ?_
      refine xg_t (xg_iload (va := (0, n250)) rfl rfl) ?_
      refine xg_t (xg_iload (va := (0, 1)) rfl rfl) ?_
      refine xg_t (xg_aload (va := (2, 27)) rfl rfl) ?_
      refine xg_t (xg_getf (va := (2, 39)) (hb267.get (by decide) (hb255.get (by decide) h27_11)) rfl) ?_
      refine xg_t (xg_iload (va := (0, 1)) rfl rfl) ?_
      refine xg_ialdB (n := 1) (B := 4294967295) ((h39_13.but hb255 (by decide)).but hb267 (by decide)) (hb14) xnm0 (by omega) (fun u268 hu269 he270 => ?_)
      refine xg_cVv mX5_put (vs := [(0, n250), (0, 1), (0, u268)]) (rest := []) (cn1 := 0) (sl1 := 0) rfl (rputI (lim := 20) (wd := 2) (B := 4294967295) (hb267.get (by decide) hk254) hr265 (hb266) (by decide) (by omega) (by decide) (by decide) (by omega) (by omega) (by omega)) rfl (hb267.get (by decide) hk254) rfl rfl rfl rfl rfl rfl (fun w271 hq272 => ?_)
      obtain ⟨g273, hr274, hb275, hb276⟩ := hq272
      refine xg_t (xg_iinc (u := 1) (z := 2) (l1 := [(4, (0, n250)), (3, (2, 37)), (0, (2, 27)), (1, (0, 3)), (2, (0, pc_))]) rfl rfl (by decide) rfl) ?_
      refine xg_t (xg_goto) ?_
      refine xg_t (xg_blk (b := [(105, 2, 2, 5, 0, 0), (107, 3, 37, 1, 0, 115), (110, 1, 2, 1, 0, 0), (111, 1, 10, 0, 0, 0), (112, 3, 6, 142, 3, 0), (115, 2, 2, 5, 0, 0), (117, 1, 3, 3, 0, 0), (118, 3, 6, 142, 3, 0), (121, 1, 0, 3, 0, 0), (122, 2, 2, 4, 0, 0), (124, 2, 2, 5, 0, 0), (126, 1, 0, 0, 0, 0), (127, 3, 1, 2, 3, 18), (130, 2, 2, 5, 0, 0), (132, 1, 10, 0, 0, 0), (133, 3, 13, 290, 40, 207), (136, 3, 9, 5, 1, 0), (139, 3, 8, 105, 0, 0)]) rfl) ?_
      refine xg_t (xg_iload (va := (0, 2)) rfl rfl) ?_
      refine xg_t (xg_gets) ?_
      refine xg_t (xg_iload (va := (0, 3)) rfl rfl) ?_
      refine xg_t (xg_ald8L (n := 3) (u := 3) xnm0 rfl rfl) ?_
      refine xg_t (xg_icF (u := 2) (v := 3) rfl xnm0 xnm0 (by decide)) ?_
      refine xg_t (xg_iload (va := (0, 2)) rfl rfl) ?_
      refine xg_t (xg_const) ?_
      refine xg_t (xg_icF (u := 2) (v := 3) rfl xnm0 xnm0 (by decide)) ?_
      refine xg_t (xg_aload (va := (2, 37)) rfl rfl) ?_
      refine xg_t (xg_iload (va := (0, n250)) rfl rfl) ?_
      refine xg_t (xg_iload (va := (0, 2)) rfl rfl) ?_
      refine xg_t (xg_aload (va := (2, 27)) rfl rfl) ?_
      refine xg_t (xg_getf (va := (2, 39)) (hb276.get (by decide) (hb267.get (by decide) (hb255.get (by decide) h27_11))) rfl) ?_
      refine xg_t (xg_iload (va := (0, 2)) rfl rfl) ?_
      refine xg_ialdB (n := 2) (B := 4294967295) (((h39_13.but hb255 (by decide)).but hb267 (by decide)).but hb276 (by decide)) (hb14) xnm0 (by omega) (fun u277 hu278 he279 => ?_)
      refine xg_cVv mX5_put (vs := [(0, n250), (0, 2), (0, u277)]) (rest := []) (cn1 := 0) (sl1 := 0) rfl (rputI (lim := 20) (wd := 2) (B := 4294967295) (hb276.get (by decide) (hb267.get (by decide) hk254)) hr274 (hb275) (by decide) (by omega) (by decide) (by decide) (by omega) (by omega) (by omega)) rfl (hb276.get (by decide) (hb267.get (by decide) hk254)) rfl rfl rfl rfl rfl rfl (fun w280 hq281 => ?_)
      obtain ⟨g282, hr283, hb284, hb285⟩ := hq281
      refine xg_t (xg_iinc (u := 2) (z := 3) (l1 := [(4, (0, n250)), (3, (2, 37)), (0, (2, 27)), (1, (0, 3)), (2, (0, pc_))]) rfl rfl (by decide) rfl) ?_
      refine xg_t (xg_goto) ?_
      refine xg_t (xg_blk (b := [(105, 2, 2, 5, 0, 0), (107, 3, 37, 1, 0, 115), (110, 1, 2, 1, 0, 0), (111, 1, 10, 0, 0, 0), (112, 3, 6, 142, 3, 0), (115, 2, 2, 5, 0, 0), (117, 1, 3, 3, 0, 0), (118, 3, 6, 142, 3, 0), (121, 1, 0, 3, 0, 0), (122, 2, 2, 4, 0, 0), (124, 2, 2, 5, 0, 0), (126, 1, 0, 0, 0, 0), (127, 3, 1, 2, 3, 18), (130, 2, 2, 5, 0, 0), (132, 1, 10, 0, 0, 0), (133, 3, 13, 290, 40, 207), (136, 3, 9, 5, 1, 0), (139, 3, 8, 105, 0, 0)]) rfl) ?_
      refine xg_t (xg_iload (va := (0, 3)) rfl rfl) ?_
      refine xg_t (xg_gets) ?_
      refine xg_t (xg_iload (va := (0, 3)) rfl rfl) ?_
      refine xg_t (xg_ald8L (n := 3) (u := 3) xnm0 rfl rfl) ?_
      refine xg_t (xg_icT (u := 3) (v := 3) rfl xnm0 xnm0 (by decide)) ?_
      refine xg_t (xg_blk (b := [(142, 1, 2, 1, 0, 0), (143, 3, 7, 165, 1, 0), (146, 1, 0, 3, 0, 0), (147, 2, 2, 4, 0, 0), (149, 1, 3, 3, 0, 0), (150, 1, 0, 0, 0, 0), (151, 3, 1, 2, 6, 153), (154, 3, 7, 161, 0, 0), (157, 1, 3, 1, 0, 0), (158, 3, 8, 162, 0, 0)]) rfl) ?_
      refine xg_t (xg_iload (va := (0, 3)) rfl rfl) ?_
      refine xg_t (xg_ifT (u := 3) rfl xnm0 (by decide)) ?_
      refine xg_t (xg_blk (b := [(165, 1, 2, 1, 0, 0), (166, 1, 3, 4, 0, 0), (167, 3, 6, 188, 1, 0), (170, 2, 2, 4, 0, 0), (172, 1, 0, 0, 0, 0), (173, 3, 1, 2, 5, 25), (176, 1, 31, 0, 0, 0), (177, 3, 6, 188, 3, 0), (180, 1, 0, 0, 0, 0), (181, 3, 1, 2, 5, 25), (184, 2, 2, 4, 0, 0), (186, 1, 2, 2, 0, 0), (187, 1, 17, 0, 0, 0)]) rfl) ?_
      refine xg_t (xg_iload (va := (0, 3)) rfl rfl) ?_
      refine xg_t (xg_const) ?_
      refine xg_t (xg_icT (u := 3) (v := 4) rfl xnm0 xnm0 (by decide)) ?_
      refine xg_t (xg_blk (b := [(188, 1, 12, 0, 0, 0)]) rfl) ?_
      exact xg_e ⟨w280, ⟨rfl, rfl⟩, xInv.up (S := [37, 38]) hI ((((xFr.of (S := [37, 38]) hb255 (by decide)).tr (xFr.of (S := [37, 38]) hb267 (by decide))).tr (xFr.of (S := [37, 38]) hb276 (by decide))).tr (xFr.of (S := [37, 38]) hb285 (by decide))) (List.forall_mem_cons.mpr ⟨(show cp37 (wget w280 37) from ⟨s252, (hb285.get (by decide) (hb276.get (by decide) (hb267.get (by decide) hk254))), by omega⟩), List.forall_mem_cons.mpr ⟨(show cpI 40 17 4294967295 (wget w280 38) from ⟨_, hr283, hb284⟩), fun _ h => absurd h List.not_mem_nil⟩⟩), ((((xFr.of (S := [29, 30, 31, 32, 33, 34, 35, 36, 37, 38, 41]) hb255 (by decide)).tr (xFr.of (S := [29, 30, 31, 32, 33, 34, 35, 36, 37, 38, 41]) hb267 (by decide))).tr (xFr.of (S := [29, 30, 31, 32, 33, 34, 35, 36, 37, 38, 41]) hb276 (by decide))).tr (xFr.of (S := [29, 30, 31, 32, 33, 34, 35, 36, 37, 38, 41]) hb285 (by decide)))⟩
  · obtain ⟨f28_286, f28_288, f28_290, f28_292, f28_294, h28_296, hb287, hb289, hb291, hb293, hb295⟩ := (hI 28 (by decide) : cp28 (wget w 28))
    refine xg_t (xg_cVr mX1_rowsOf (vs := [(0, 3)]) (rest := []) (rs := [(3, 0)]) (cn1 := 0) (sl1 := 0) rfl (hp20) rfl h28_296 rfl rfl rfl rfl rfl rfl rfl) ?_
    refine xg_t (xg_astore (l1 := [(0, (2, 27)), (1, (0, 3)), (2, (0, pc_))]) rfl rfl rfl) ?_
    refine xg_t (xg_aload (va := (3, 0)) rfl rfl) ?_
    refine xg_t (xg_ifnullT) ?_
    refine xg_t (xg_blk (b := [(95, 1, 12, 0, 0, 0)]) rfl) ?_
    exact xg_e ⟨w, ⟨rfl, rfl⟩, hI, xFr.rf⟩
theorem ftFine4 {pc_ : Nat} (hI : xInv w) (h1 : pc_ ≤ 4294967295) : xPi (d + 3) mX2_isFine [(2, 27), (0, 4), (0, pc_)] w bd fc rr (fun n w' => (n ≤ 1) ∧ xInv w' ∧ xFr [27] w w') := by
  refine xPi.of ?_
  show xTo (d + 3) mX2_isFine (0, [], [(0, (2, 27)), (1, (0, 4)), (2, (0, pc_))], [], (w, bd, fc, 0, 0, rr)) (fun φ => ∃ n w', xEnd 4 [(0, n)] (w', bd, fc, 0, 0, rr) φ ∧ (n ≤ 1) ∧ xInv w' ∧ xFr [27] w w')
  obtain ⟨f27_1, f27_3, f27_5, f27_7, f27_9, h27_11, hb2, hb4, hb6, hb8, hb10⟩ := (hI 27 (by decide) : cp27 (wget w 27))
  obtain ⟨g39_12, h39_13, hb14⟩ := (hI 39 (by decide) : cpI 3 18 4294967295 (wget w 39))
  have h39_13 : xRow w 39 3 18 g39_12 := h39_13
  obtain ⟨g40_15, h40_16, hb17⟩ := (hI 40 (by decide) : cpI 3 19 4294967295 (wget w 40))
  have h40_16 : xRow w 40 3 19 g40_15 := h40_16
  refine xg_t (xg_blk (b := [(0, 1, 0, 0, 0, 0), (1, 1, 2, 1, 0, 0), (2, 3, 13, 249, 16, 158), (5, 3, 7, 20, 0, 0), (8, 1, 0, 0, 0, 0), (9, 1, 3, 3, 0, 0), (10, 3, 14, 2, 9, 57), (13, 1, 0, 0, 0, 0), (14, 1, 2, 2, 0, 0), (15, 3, 14, 2, 10, 88), (18, 1, 3, 0, 0, 0), (19, 1, 12, 0, 1, 0)]) rfl) ?_
  refine xg_t (xg_aload (va := (2, 27)) rfl rfl) ?_
  refine xg_t (xg_iload (va := (0, 4)) rfl rfl) ?_
  refine xg_cVi mX2_isTooMany (vs := [(0, 4)]) (rest := []) (cn1 := 0) (sl1 := 0) rfl (ftTooMany (hI) (by omega)) rfl h27_11 rfl rfl rfl rfl rfl rfl (fun n22 w18 hq19 => ?_)
  obtain ⟨hn23, hI20, hF21⟩ := hq19
  by_cases hc24 : n22 = 0
  · refine xg_t (xg_ifT (u := n22) rfl xnm0 (xj_eqT hc24)) ?_
    refine xg_t (xg_blk (b := [(20, 1, 2, 1, 0, 0), (21, 3, 7, 30, 2, 0), (24, 1, 2, 1, 0, 0), (25, 2, 4, 7, 0, 0), (27, 3, 6, 32, 2, 0)]) rfl) ?_
    refine xg_t (xg_iload (va := (0, 4)) rfl rfl) ?_
    refine xg_t (xg_ifF (u := 4) rfl xnm0 (by decide)) ?_
    refine xg_t (xg_iload (va := (0, 4)) rfl rfl) ?_
    refine xg_t (xg_bip) ?_
    refine xg_t (xg_icT (u := 4) (v := 7) rfl xnm0 xnm0 (by decide)) ?_
    refine xg_t (xg_blk (b := [(32, 1, 3, 0, 0, 0), (33, 1, 15, 3, 0, 0)]) rfl) ?_
    refine xg_t (xg_const) ?_
    refine xg_t (xg_istore (l1 := [(0, (2, 27)), (1, (0, 4)), (2, (0, pc_))]) rfl rfl rfl) ?_
    refine xg_t (xg_blk (b := [(34, 1, 2, 3, 0, 0), (35, 3, 37, 1, 0, 115), (38, 1, 2, 1, 0, 0), (39, 1, 10, 0, 0, 0), (40, 3, 6, 101, 3, 0), (43, 1, 2, 3, 0, 0), (44, 1, 3, 3, 0, 0), (45, 3, 6, 101, 3, 0), (48, 1, 0, 0, 0, 0), (49, 3, 1, 2, 3, 18), (52, 1, 2, 3, 0, 0), (53, 1, 10, 0, 0, 0), (54, 3, 37, 2, 0, 162), (57, 1, 2, 1, 0, 0), (58, 1, 3, 3, 0, 0), (59, 1, 16, 0, 0, 0), (60, 1, 2, 3, 0, 0), (61, 1, 11, 0, 0, 0), (62, 1, 10, 0, 0, 0), (63, 3, 37, 3, 0, 165), (66, 1, 2, 1, 0, 0), (67, 1, 3, 3, 0, 0), (68, 1, 16, 0, 0, 0), (69, 1, 2, 3, 0, 0), (70, 1, 11, 0, 0, 0), (71, 1, 10, 0, 0, 0), (72, 3, 13, 70, 91, 168), (75, 3, 7, 95, 1, 0), (78, 1, 0, 0, 0, 0), (79, 1, 3, 2, 0, 0), (80, 3, 14, 2, 9, 57), (83, 1, 0, 0, 0, 0), (84, 1, 0, 0, 0, 0), (85, 3, 1, 2, 4, 22), (88, 1, 2, 3, 0, 0), (89, 1, 10, 0, 0, 0), (90, 3, 14, 2, 10, 88), (93, 1, 3, 0, 0, 0), (94, 1, 12, 0, 1, 0)]) rfl) ?_
    refine xg_t (xg_iload (va := (0, 0)) rfl rfl) ?_
    refine xg_t (xg_gets) ?_
    refine xg_t (xg_iload (va := (0, 4)) rfl rfl) ?_
    refine xg_t (xg_ald8L (n := 4) (u := 2) xnm0 rfl rfl) ?_
    refine xg_t (xg_icF (u := 0) (v := 2) rfl xnm0 xnm0 (by decide)) ?_
    refine xg_t (xg_iload (va := (0, 0)) rfl rfl) ?_
    refine xg_t (xg_const) ?_
    refine xg_t (xg_icF (u := 0) (v := 3) rfl xnm0 xnm0 (by decide)) ?_
    refine xg_t (xg_aload (va := (2, 27)) rfl rfl) ?_
    refine xg_t (xg_getf (va := (2, 39)) (hF21.get (by decide) h27_11) rfl) ?_
    refine xg_t (xg_iload (va := (0, 0)) rfl rfl) ?_
    refine xg_ialdB (n := 0) (B := 4294967295) (h39_13.fr hF21 (by decide)) (hb14) xnm0 (by omega) (fun u25 hu26 he27 => ?_)
    refine xg_t (xg_gets) ?_
    refine xg_t (xg_iload (va := (0, 4)) rfl rfl) ?_
    refine xg_t (xg_const) ?_
    refine xg_t (xg_imul (u := 4) (v := 3) (z := 12) xnm0 xnm0 (by decide)) ?_
    refine xg_t (xg_iload (va := (0, 0)) rfl rfl) ?_
    refine xg_t (xg_iadd (u := 12) (v := 0) (z := 12) xnm0 xnm0 (by decide)) ?_
    refine xg_t (xg_ald8L (n := 12) (u := 0) xnm0 rfl rfl) ?_
    refine xg_t (xg_gets) ?_
    refine xg_t (xg_iload (va := (0, 4)) rfl rfl) ?_
    refine xg_t (xg_const) ?_
    refine xg_t (xg_imul (u := 4) (v := 3) (z := 12) xnm0 xnm0 (by decide)) ?_
    refine xg_t (xg_iload (va := (0, 0)) rfl rfl) ?_
    refine xg_t (xg_iadd (u := 12) (v := 0) (z := 12) xnm0 xnm0 (by decide)) ?_
    refine xg_t (xg_ald8L (n := 12) (u := 9) xnm0 rfl rfl) ?_
    refine xg_t (xg_cNr mX11_isIn (vs := [(0, u25), (0, 0), (0, 9)]) (rest := []) (rs := [(0, if 0 ≤ u25 ∧ u25 ≤ 9 then 1 else 0)]) (cn1 := 0) (sl1 := 0) rfl (isIn_ok (by omega) (by omega) (by omega)) rfl rfl rfl rfl rfl rfl rfl rfl) ?_
    by_cases hc28 : 0 ≤ u25 ∧ u25 ≤ 9
    · refine xg_t (xg_ifT (u := (if 0 ≤ u25 ∧ u25 ≤ 9 then 1 else 0)) rfl xnm0 (xj_neT (xite1 hc28))) ?_
      refine xg_t (xg_blk (b := [(95, 3, 9, 3, 1, 0), (98, 3, 8, 34, 0, 0)]) rfl) ?_
      refine xg_t (xg_iinc (u := 0) (z := 1) (l1 := [(0, (2, 27)), (1, (0, 4)), (2, (0, pc_))]) rfl rfl (by decide) rfl) ?_
      refine xg_t (xg_goto) ?_
      refine xg_t (xg_blk (b := [(34, 1, 2, 3, 0, 0), (35, 3, 37, 1, 0, 115), (38, 1, 2, 1, 0, 0), (39, 1, 10, 0, 0, 0), (40, 3, 6, 101, 3, 0), (43, 1, 2, 3, 0, 0), (44, 1, 3, 3, 0, 0), (45, 3, 6, 101, 3, 0), (48, 1, 0, 0, 0, 0), (49, 3, 1, 2, 3, 18), (52, 1, 2, 3, 0, 0), (53, 1, 10, 0, 0, 0), (54, 3, 37, 2, 0, 162), (57, 1, 2, 1, 0, 0), (58, 1, 3, 3, 0, 0), (59, 1, 16, 0, 0, 0), (60, 1, 2, 3, 0, 0), (61, 1, 11, 0, 0, 0), (62, 1, 10, 0, 0, 0), (63, 3, 37, 3, 0, 165), (66, 1, 2, 1, 0, 0), (67, 1, 3, 3, 0, 0), (68, 1, 16, 0, 0, 0), (69, 1, 2, 3, 0, 0), (70, 1, 11, 0, 0, 0), (71, 1, 10, 0, 0, 0), (72, 3, 13, 70, 91, 168), (75, 3, 7, 95, 1, 0), (78, 1, 0, 0, 0, 0), (79, 1, 3, 2, 0, 0), (80, 3, 14, 2, 9, 57), (83, 1, 0, 0, 0, 0), (84, 1, 0, 0, 0, 0), (85, 3, 1, 2, 4, 22), (88, 1, 2, 3, 0, 0), (89, 1, 10, 0, 0, 0), (90, 3, 14, 2, 10, 88), (93, 1, 3, 0, 0, 0), (94, 1, 12, 0, 1, 0)]) rfl) ?_
      refine xg_t (xg_iload (va := (0, 1)) rfl rfl) ?_
      refine xg_t (xg_gets) ?_
      refine xg_t (xg_iload (va := (0, 4)) rfl rfl) ?_
      refine xg_t (xg_ald8L (n := 4) (u := 2) xnm0 rfl rfl) ?_
      refine xg_t (xg_icF (u := 1) (v := 2) rfl xnm0 xnm0 (by decide)) ?_
      refine xg_t (xg_iload (va := (0, 1)) rfl rfl) ?_
      refine xg_t (xg_const) ?_
      refine xg_t (xg_icF (u := 1) (v := 3) rfl xnm0 xnm0 (by decide)) ?_
      refine xg_t (xg_aload (va := (2, 27)) rfl rfl) ?_
      refine xg_t (xg_getf (va := (2, 39)) (hF21.get (by decide) h27_11) rfl) ?_
      refine xg_t (xg_iload (va := (0, 1)) rfl rfl) ?_
      refine xg_ialdB (n := 1) (B := 4294967295) (h39_13.fr hF21 (by decide)) (hb14) xnm0 (by omega) (fun u29 hu30 he31 => ?_)
      refine xg_t (xg_gets) ?_
      refine xg_t (xg_iload (va := (0, 4)) rfl rfl) ?_
      refine xg_t (xg_const) ?_
      refine xg_t (xg_imul (u := 4) (v := 3) (z := 12) xnm0 xnm0 (by decide)) ?_
      refine xg_t (xg_iload (va := (0, 1)) rfl rfl) ?_
      refine xg_t (xg_iadd (u := 12) (v := 1) (z := 13) xnm0 xnm0 (by decide)) ?_
      refine xg_t (xg_ald8L (n := 13) (u := 0) xnm0 rfl rfl) ?_
      refine xg_t (xg_gets) ?_
      refine xg_t (xg_iload (va := (0, 4)) rfl rfl) ?_
      refine xg_t (xg_const) ?_
      refine xg_t (xg_imul (u := 4) (v := 3) (z := 12) xnm0 xnm0 (by decide)) ?_
      refine xg_t (xg_iload (va := (0, 1)) rfl rfl) ?_
      refine xg_t (xg_iadd (u := 12) (v := 1) (z := 13) xnm0 xnm0 (by decide)) ?_
      refine xg_t (xg_ald8L (n := 13) (u := 9) xnm0 rfl rfl) ?_
      refine xg_t (xg_cNr mX11_isIn (vs := [(0, u29), (0, 0), (0, 9)]) (rest := []) (rs := [(0, if 0 ≤ u29 ∧ u29 ≤ 9 then 1 else 0)]) (cn1 := 0) (sl1 := 0) rfl (isIn_ok (by omega) (by omega) (by omega)) rfl rfl rfl rfl rfl rfl rfl rfl) ?_
      by_cases hc32 : 0 ≤ u29 ∧ u29 ≤ 9
      · refine xg_t (xg_ifT (u := (if 0 ≤ u29 ∧ u29 ≤ 9 then 1 else 0)) rfl xnm0 (xj_neT (xite1 hc32))) ?_
        refine xg_t (xg_blk (b := [(95, 3, 9, 3, 1, 0), (98, 3, 8, 34, 0, 0)]) rfl) ?_
        refine xg_t (xg_iinc (u := 1) (z := 2) (l1 := [(0, (2, 27)), (1, (0, 4)), (2, (0, pc_))]) rfl rfl (by decide) rfl) ?_
        refine xg_t (xg_goto) ?_
        refine xg_t (xg_blk (b := [(34, 1, 2, 3, 0, 0), (35, 3, 37, 1, 0, 115), (38, 1, 2, 1, 0, 0), (39, 1, 10, 0, 0, 0), (40, 3, 6, 101, 3, 0), (43, 1, 2, 3, 0, 0), (44, 1, 3, 3, 0, 0), (45, 3, 6, 101, 3, 0), (48, 1, 0, 0, 0, 0), (49, 3, 1, 2, 3, 18), (52, 1, 2, 3, 0, 0), (53, 1, 10, 0, 0, 0), (54, 3, 37, 2, 0, 162), (57, 1, 2, 1, 0, 0), (58, 1, 3, 3, 0, 0), (59, 1, 16, 0, 0, 0), (60, 1, 2, 3, 0, 0), (61, 1, 11, 0, 0, 0), (62, 1, 10, 0, 0, 0), (63, 3, 37, 3, 0, 165), (66, 1, 2, 1, 0, 0), (67, 1, 3, 3, 0, 0), (68, 1, 16, 0, 0, 0), (69, 1, 2, 3, 0, 0), (70, 1, 11, 0, 0, 0), (71, 1, 10, 0, 0, 0), (72, 3, 13, 70, 91, 168), (75, 3, 7, 95, 1, 0), (78, 1, 0, 0, 0, 0), (79, 1, 3, 2, 0, 0), (80, 3, 14, 2, 9, 57), (83, 1, 0, 0, 0, 0), (84, 1, 0, 0, 0, 0), (85, 3, 1, 2, 4, 22), (88, 1, 2, 3, 0, 0), (89, 1, 10, 0, 0, 0), (90, 3, 14, 2, 10, 88), (93, 1, 3, 0, 0, 0), (94, 1, 12, 0, 1, 0)]) rfl) ?_
        refine xg_t (xg_iload (va := (0, 2)) rfl rfl) ?_
        refine xg_t (xg_gets) ?_
        refine xg_t (xg_iload (va := (0, 4)) rfl rfl) ?_
        refine xg_t (xg_ald8L (n := 4) (u := 2) xnm0 rfl rfl) ?_
        refine xg_t (xg_icT (u := 2) (v := 2) rfl xnm0 xnm0 (by decide)) ?_
        refine xg_t (xg_blk (b := [(101, 1, 3, 1, 0, 0), (102, 1, 12, 0, 1, 0)]) rfl) ?_
        refine xg_t (xg_const) ?_
        exact xg_e ⟨1, w18, ⟨rfl, rfl⟩, by omega, hI20, (hF21.up (by decide))⟩
      · refine xg_t (xg_ifF (u := (if 0 ≤ u29 ∧ u29 ≤ 9 then 1 else 0)) rfl xnm0 (xj_neF (xite0 hc32))) ?_
        refine xg_t (xg_aload (va := (2, 27)) rfl rfl) ?_
        refine xg_t (xg_const) ?_
        refine xg_putI (fl1 := [(2, 1), (2, 42), (2, 28), (2, 39), (2, 40), (2, 41), (0, f27_1), (0, f27_3), (0, f27_5), (0, 2), (0, f27_9)]) (hF21.get (by decide) h27_11) rfl rfl rfl (fun w33 hk34 hb35 => ?_)
        refine xg_t (xg_aload (va := (2, 27)) rfl rfl) ?_
        refine xg_t (xg_aload (va := (2, 27)) rfl rfl) ?_
        refine xg_t (xg_getf (va := (2, 40)) hk34 rfl) ?_
        refine xg_t (xg_iload (va := (0, 1)) rfl rfl) ?_
        refine xg_ialdB (n := 1) (B := 4294967295) ((h40_16.fr hF21 (by decide)).but hb35 (by decide)) (hb17) xnm0 (by omega) (fun u36 hu37 he38 => ?_)
        refine xg_putI (fl1 := [(2, 1), (2, 42), (2, 28), (2, 39), (2, 40), (2, 41), (0, f27_1), (0, f27_3), (0, f27_5), (0, 2), (0, u36)]) hk34 rfl rfl rfl (fun w39 hk40 hb41 => ?_)
        refine xg_t (xg_const) ?_
        exact xg_e ⟨0, w39, ⟨rfl, rfl⟩, by omega, xInv.up (S := [27]) hI20 ((xFr.of (S := [27]) hb35 (by decide)).tr (xFr.of (S := [27]) hb41 (by decide))) (List.forall_mem_cons.mpr ⟨(show cp27 (wget w39 27) from ⟨f27_1, f27_3, f27_5, 2, u36, hk40, by omega, by omega, by omega, by omega, by omega⟩), fun _ h => absurd h List.not_mem_nil⟩), ((hF21.up (by decide)).tr ((xFr.of (S := [27]) hb35 (by decide)).tr (xFr.of (S := [27]) hb41 (by decide))))⟩
    · refine xg_t (xg_ifF (u := (if 0 ≤ u25 ∧ u25 ≤ 9 then 1 else 0)) rfl xnm0 (xj_neF (xite0 hc28))) ?_
      refine xg_t (xg_aload (va := (2, 27)) rfl rfl) ?_
      refine xg_t (xg_const) ?_
      refine xg_putI (fl1 := [(2, 1), (2, 42), (2, 28), (2, 39), (2, 40), (2, 41), (0, f27_1), (0, f27_3), (0, f27_5), (0, 2), (0, f27_9)]) (hF21.get (by decide) h27_11) rfl rfl rfl (fun w42 hk43 hb44 => ?_)
      refine xg_t (xg_aload (va := (2, 27)) rfl rfl) ?_
      refine xg_t (xg_aload (va := (2, 27)) rfl rfl) ?_
      refine xg_t (xg_getf (va := (2, 40)) hk43 rfl) ?_
      refine xg_t (xg_iload (va := (0, 0)) rfl rfl) ?_
      refine xg_ialdB (n := 0) (B := 4294967295) ((h40_16.fr hF21 (by decide)).but hb44 (by decide)) (hb17) xnm0 (by omega) (fun u45 hu46 he47 => ?_)
      refine xg_putI (fl1 := [(2, 1), (2, 42), (2, 28), (2, 39), (2, 40), (2, 41), (0, f27_1), (0, f27_3), (0, f27_5), (0, 2), (0, u45)]) hk43 rfl rfl rfl (fun w48 hk49 hb50 => ?_)
      refine xg_t (xg_const) ?_
      exact xg_e ⟨0, w48, ⟨rfl, rfl⟩, by omega, xInv.up (S := [27]) hI20 ((xFr.of (S := [27]) hb44 (by decide)).tr (xFr.of (S := [27]) hb50 (by decide))) (List.forall_mem_cons.mpr ⟨(show cp27 (wget w48 27) from ⟨f27_1, f27_3, f27_5, 2, u45, hk49, by omega, by omega, by omega, by omega, by omega⟩), fun _ h => absurd h List.not_mem_nil⟩), ((hF21.up (by decide)).tr ((xFr.of (S := [27]) hb44 (by decide)).tr (xFr.of (S := [27]) hb50 (by decide))))⟩
  · refine xg_t (xg_ifF (u := n22) rfl xnm0 (xj_eqF hc24)) ?_
    refine xg_t (xg_aload (va := (2, 27)) rfl rfl) ?_
    refine xg_t (xg_const) ?_
    refine xg_putI (fl1 := [(2, 1), (2, 42), (2, 28), (2, 39), (2, 40), (2, 41), (0, f27_1), (0, f27_3), (0, f27_5), (0, 3), (0, f27_9)]) (hF21.get (by decide) h27_11) rfl rfl rfl (fun w51 hk52 hb53 => ?_)
    refine xg_t (xg_aload (va := (2, 27)) rfl rfl) ?_
    refine xg_t (xg_iload (va := (0, pc_)) rfl rfl) ?_
    refine xg_putI (fl1 := [(2, 1), (2, 42), (2, 28), (2, 39), (2, 40), (2, 41), (0, f27_1), (0, f27_3), (0, f27_5), (0, 3), (0, pc_)]) hk52 rfl rfl rfl (fun w54 hk55 hb56 => ?_)
    refine xg_t (xg_const) ?_
    exact xg_e ⟨0, w54, ⟨rfl, rfl⟩, by omega, xInv.up (S := [27]) hI20 ((xFr.of (S := [27]) hb53 (by decide)).tr (xFr.of (S := [27]) hb56 (by decide))) (List.forall_mem_cons.mpr ⟨(show cp27 (wget w54 27) from ⟨f27_1, f27_3, f27_5, 3, pc_, hk55, by omega, by omega, by omega, by omega, by omega⟩), fun _ h => absurd h List.not_mem_nil⟩), ((hF21.up (by decide)).tr ((xFr.of (S := [27]) hb53 (by decide)).tr (xFr.of (S := [27]) hb56 (by decide))))⟩
theorem ftTake4 {pc_ : Nat} (hI : xInv w) (h1 : pc_ ≤ 4294967295) : xPq (d + 2) mX2_take [(2, 27), (0, 4), (0, pc_)] w bd fc rr [] (fun w' => xInv w' ∧ xFr [29, 30, 31, 32, 33, 34, 35, 36, 37, 38, 41] w w') := by
  refine xPq.of ?_
  show xTo (d + 2) mX2_take (0, [], [(0, (2, 27)), (1, (0, 4)), (2, (0, pc_))], [], (w, bd, fc, 0, 0, rr)) (fun φ => ∃ w', xEnd 0 [] (w', bd, fc, 0, 0, rr) φ ∧ xInv w' ∧ xFr [29, 30, 31, 32, 33, 34, 35, 36, 37, 38, 41] w w')
  obtain ⟨f27_1, f27_3, f27_5, f27_7, f27_9, h27_11, hb2, hb4, hb6, hb8, hb10⟩ := (hI 27 (by decide) : cp27 (wget w 27))
  obtain ⟨g39_12, h39_13, hb14⟩ := (hI 39 (by decide) : cpI 3 18 4294967295 (wget w 39))
  have h39_13 : xRow w 39 3 18 g39_12 := h39_13
  obtain ⟨g41_15, h41_16, hb17⟩ := (hI 41 (by decide) : cpI 20 20 4294967295 (wget w 41))
  have h41_16 : xRow w 41 20 20 g41_15 := h41_16
  refine xg_t (xg_blk (b := [(0, 1, 2, 1, 0, 0), (1, 1, 3, 5, 0, 0), (2, 3, 6, 37, 1, 0), (5, 1, 0, 0, 0, 0), (6, 3, 1, 2, 2, 12), (9, 1, 0, 0, 0, 0), (10, 3, 1, 2, 3, 18), (13, 1, 3, 0, 0, 0), (14, 1, 10, 0, 0, 0), (15, 3, 14, 1, 5, 192), (18, 1, 0, 0, 0, 0), (19, 3, 1, 2, 2, 12), (22, 1, 0, 0, 0, 0), (23, 3, 1, 2, 3, 18), (26, 1, 3, 1, 0, 0), (27, 1, 10, 0, 0, 0), (28, 3, 14, 1, 6, 195), (31, 1, 0, 0, 0, 0), (32, 1, 3, 1, 0, 0), (33, 3, 59, 2, 7, 50), (36, 1, 12, 0, 0, 0)]) rfl) ?_
  refine xg_t (xg_iload (va := (0, 4)) rfl rfl) ?_
  refine xg_t (xg_const) ?_
  refine xg_t (xg_icT (u := 4) (v := 5) rfl xnm0 xnm0 (by decide)) ?_
  refine xg_t (xg_blk (b := [(37, 1, 2, 1, 0, 0), (38, 2, 4, 6, 0, 0), (40, 3, 6, 75, 1, 0), (43, 1, 0, 0, 0, 0), (44, 3, 1, 2, 2, 12), (47, 1, 0, 0, 0, 0), (48, 3, 1, 2, 3, 18), (51, 1, 3, 0, 0, 0), (52, 1, 10, 0, 0, 0), (53, 3, 14, 1, 7, 198), (56, 1, 0, 0, 0, 0), (57, 3, 1, 2, 2, 12), (60, 1, 0, 0, 0, 0), (61, 3, 1, 2, 3, 18), (64, 1, 3, 1, 0, 0), (65, 1, 10, 0, 0, 0), (66, 3, 14, 1, 8, 201), (69, 1, 0, 0, 0, 0), (70, 1, 3, 1, 0, 0), (71, 3, 59, 2, 8, 54), (74, 1, 12, 0, 0, 0)]) rfl) ?_
  refine xg_t (xg_iload (va := (0, 4)) rfl rfl) ?_
  refine xg_t (xg_bip) ?_
  refine xg_t (xg_icT (u := 4) (v := 6) rfl xnm0 xnm0 (by decide)) ?_
  refine xg_t (xg_blk (b := [(75, 1, 0, 0, 0, 0), (76, 3, 1, 2, 2, 12), (79, 1, 2, 1, 0, 0), (80, 3, 13, 243, 8, 172), (83, 1, 27, 3, 0, 0), (84, 1, 0, 3, 0, 0), (85, 3, 43, 95, 0, 0), (88, 1, 0, 3, 0, 0), (89, 3, 13, 289, 40, 176), (92, 3, 7, 96, 0, 0)]) rfl) ?_
  refine xg_t (xg_aload (va := (2, 27)) rfl rfl) ?_
  refine xg_t (xg_getf (va := (2, 28)) h27_11 rfl) ?_
  refine xg_t (xg_iload (va := (0, 4)) rfl rfl) ?_
  obtain ⟨v18, hv19, hp20⟩ := rowsOf28 (d := d + 1) (bd := bd) (fc := fc) (rr := rr) (so := 4) (hI) (by omega)
  rcases hv19 with rfl | rfl | rfl | rfl | rfl | rfl
  · obtain ⟨f28_21, f28_23, f28_25, f28_27, f28_29, h28_31, hb22, hb24, hb26, hb28, hb30⟩ := (hI 28 (by decide) : cp28 (wget w 28))
    refine xg_t (xg_cVr mX1_rowsOf (vs := [(0, 4)]) (rest := []) (rs := [(2, 29)]) (cn1 := 0) (sl1 := 0) rfl (hp20) rfl h28_31 rfl rfl rfl rfl rfl rfl rfl) ?_
    refine xg_t (xg_astore (l1 := [(0, (2, 27)), (1, (0, 4)), (2, (0, pc_))]) rfl rfl rfl) ?_
    refine xg_t (xg_aload (va := (2, 29)) rfl rfl) ?_
    refine xg_t (xg_ifnullF) ?_
    refine xg_t (xg_aload (va := (2, 29)) rfl rfl) ?_
    obtain ⟨f29_32, h29_34, hb33⟩ := (hI 29 (by decide) : cp29 (wget w 29))
    refine xg_t (xg_cVr mX5_isFull (vs := []) (rest := []) (rs := [(0, if 6 ≤ f29_32 then 1 else 0)]) (cn1 := 0) (sl1 := 0) rfl (rfull_ok h29_34 (by decide) (by omega)) rfl h29_34 rfl rfl rfl rfl rfl rfl rfl) ?_
    by_cases hc35 : 6 ≤ f29_32
    · refine xg_t (xg_ifF (u := (if 6 ≤ f29_32 then 1 else 0)) rfl xnm0 (xj_eqF (xite1 hc35))) ?_
      refine xg_t (xg_blk (b := [(95, 1, 12, 0, 0, 0)]) rfl) ?_
      exact xg_e ⟨w, ⟨rfl, rfl⟩, hI, xFr.rf⟩
    · refine xg_t (xg_ifT (u := (if 6 ≤ f29_32 then 1 else 0)) rfl xnm0 (xj_eqT (xite0 hc35))) ?_
      refine xg_t (xg_blk (b := [(96, 1, 0, 3, 0, 0), (97, 3, 13, 286, 40, 204), (100, 2, 15, 4, 0, 0), (102, 1, 3, 0, 0, 0), (103, 2, 15, 5, 0, 0)]) rfl) ?_
      refine xg_t (xg_aload (va := (2, 29)) rfl rfl) ?_
      refine xg_cVi mX5_grow (vs := []) (rest := []) (cn1 := 0) (sl1 := 0) rfl (rgrowI h29_34 (by decide) (by omega)) rfl h29_34 rfl rfl rfl rfl rfl rfl (fun n38 w36 hq37 => ?_)
      obtain ⟨hn39, s40, hs41, hk42, hb43⟩ := hq37
      refine xg_t (xg_istore (l1 := [(3, (2, 29)), (0, (2, 27)), (1, (0, 4)), (2, (0, pc_))]) rfl rfl rfl) ?_
      refine xg_t (xg_const) ?_
      refine xg_t (xg_istore (l1 := [(4, (0, n38)), (3, (2, 29)), (0, (2, 27)), (1, (0, 4)), (2, (0, pc_))]) rfl rfl rfl) ?_
      refine xg_t (xg_blk (b := [(105, 2, 2, 5, 0, 0), (107, 3, 37, 1, 0, 115), (110, 1, 2, 1, 0, 0), (111, 1, 10, 0, 0, 0), (112, 3, 6, 142, 3, 0), (115, 2, 2, 5, 0, 0), (117, 1, 3, 3, 0, 0), (118, 3, 6, 142, 3, 0), (121, 1, 0, 3, 0, 0), (122, 2, 2, 4, 0, 0), (124, 2, 2, 5, 0, 0), (126, 1, 0, 0, 0, 0), (127, 3, 1, 2, 3, 18), (130, 2, 2, 5, 0, 0), (132, 1, 10, 0, 0, 0), (133, 3, 13, 290, 40, 207), (136, 3, 9, 5, 1, 0), (139, 3, 8, 105, 0, 0)]) rfl) ?_
      refine xg_t (xg_iload (va := (0, 0)) rfl rfl) ?_
      refine xg_t (xg_gets) ?_
      refine xg_t (xg_iload (va := (0, 4)) rfl rfl) ?_
      refine xg_t (xg_ald8L (n := 4) (u := 2) xnm0 rfl rfl) ?_
      refine xg_t (xg_icF (u := 0) (v := 2) rfl xnm0 xnm0 (by decide)) ?_
      refine xg_t (xg_iload (va := (0, 0)) rfl rfl) ?_
      refine xg_t (xg_const) ?_
      refine xg_t (xg_icF (u := 0) (v := 3) rfl xnm0 xnm0 (by decide)) ?_
      refine xg_t (xg_aload (va := (2, 29)) rfl rfl) ?_
      refine xg_t (xg_iload (va := (0, n38)) rfl rfl) ?_
      refine xg_t (xg_iload (va := (0, 0)) rfl rfl) ?_
      refine xg_t (xg_aload (va := (2, 27)) rfl rfl) ?_
      refine xg_t (xg_getf (va := (2, 39)) (hb43.get (by decide) h27_11) rfl) ?_
      refine xg_t (xg_iload (va := (0, 0)) rfl rfl) ?_
      refine xg_ialdB (n := 0) (B := 4294967295) (h39_13.but hb43 (by decide)) (hb14) xnm0 (by omega) (fun u44 hu45 he46 => ?_)
      obtain ⟨g30_47, h30_48, hb49⟩ := (hI 30 (by decide) : cpI 24 13 4294967295 (wget w 30))
      have h30_48 : xRow w 30 24 13 g30_47 := h30_48
      refine xg_cVv mX5_put (vs := [(0, n38), (0, 0), (0, u44)]) (rest := []) (cn1 := 0) (sl1 := 0) rfl (rputI (lim := 6) (wd := 4) (B := 4294967295) hk42 (h30_48.but hb43 (by decide)) (hb49) (by decide) (by omega) (by decide) (by decide) (by omega) (by omega) (by omega)) rfl hk42 rfl rfl rfl rfl rfl rfl (fun w50 hq51 => ?_)
      obtain ⟨g52, hr53, hb54, hb55⟩ := hq51
      refine xg_t (xg_iinc (u := 0) (z := 1) (l1 := [(4, (0, n38)), (3, (2, 29)), (0, (2, 27)), (1, (0, 4)), (2, (0, pc_))]) rfl rfl (by decide) rfl) ?_
      refine xg_t (xg_goto) ?_
      refine xg_t (xg_blk (b := [(105, 2, 2, 5, 0, 0), (107, 3, 37, 1, 0, 115), (110, 1, 2, 1, 0, 0), (111, 1, 10, 0, 0, 0), (112, 3, 6, 142, 3, 0), (115, 2, 2, 5, 0, 0), (117, 1, 3, 3, 0, 0), (118, 3, 6, 142, 3, 0), (121, 1, 0, 3, 0, 0), (122, 2, 2, 4, 0, 0), (124, 2, 2, 5, 0, 0), (126, 1, 0, 0, 0, 0), (127, 3, 1, 2, 3, 18), (130, 2, 2, 5, 0, 0), (132, 1, 10, 0, 0, 0), (133, 3, 13, 290, 40, 207), (136, 3, 9, 5, 1, 0), (139, 3, 8, 105, 0, 0)]) rfl) ?_
      refine xg_t (xg_iload (va := (0, 1)) rfl rfl) ?_
      refine xg_t (xg_gets) ?_
      refine xg_t (xg_iload (va := (0, 4)) rfl rfl) ?_
      refine xg_t (xg_ald8L (n := 4) (u := 2) xnm0 rfl rfl) ?_
      refine xg_t (xg_icF (u := 1) (v := 2) rfl xnm0 xnm0 (by decide)) ?_
      refine xg_t (xg_iload (va := (0, 1)) rfl rfl) ?_
      refine xg_t (xg_const) ?_
      refine xg_t (xg_icF (u := 1) (v := 3) rfl xnm0 xnm0 (by decide)) ?_
      refine xg_t (xg_aload (va := (2, 29)) rfl rfl) ?_
      refine xg_t (xg_iload (va := (0, n38)) rfl rfl) ?_
      refine xg_t (xg_iload (va := (0, 1)) rfl rfl) ?_
      refine xg_t (xg_aload (va := (2, 27)) rfl rfl) ?_
      refine xg_t (xg_getf (va := (2, 39)) (hb55.get (by decide) (hb43.get (by decide) h27_11)) rfl) ?_
      refine xg_t (xg_iload (va := (0, 1)) rfl rfl) ?_
      refine xg_ialdB (n := 1) (B := 4294967295) ((h39_13.but hb43 (by decide)).but hb55 (by decide)) (hb14) xnm0 (by omega) (fun u56 hu57 he58 => ?_)
      refine xg_cVv mX5_put (vs := [(0, n38), (0, 1), (0, u56)]) (rest := []) (cn1 := 0) (sl1 := 0) rfl (rputI (lim := 6) (wd := 4) (B := 4294967295) (hb55.get (by decide) hk42) hr53 (hb54) (by decide) (by omega) (by decide) (by decide) (by omega) (by omega) (by omega)) rfl (hb55.get (by decide) hk42) rfl rfl rfl rfl rfl rfl (fun w59 hq60 => ?_)
      obtain ⟨g61, hr62, hb63, hb64⟩ := hq60
      refine xg_t (xg_iinc (u := 1) (z := 2) (l1 := [(4, (0, n38)), (3, (2, 29)), (0, (2, 27)), (1, (0, 4)), (2, (0, pc_))]) rfl rfl (by decide) rfl) ?_
      refine xg_t (xg_goto) ?_
      refine xg_t (xg_blk (b := [(105, 2, 2, 5, 0, 0), (107, 3, 37, 1, 0, 115), (110, 1, 2, 1, 0, 0), (111, 1, 10, 0, 0, 0), (112, 3, 6, 142, 3, 0), (115, 2, 2, 5, 0, 0), (117, 1, 3, 3, 0, 0), (118, 3, 6, 142, 3, 0), (121, 1, 0, 3, 0, 0), (122, 2, 2, 4, 0, 0), (124, 2, 2, 5, 0, 0), (126, 1, 0, 0, 0, 0), (127, 3, 1, 2, 3, 18), (130, 2, 2, 5, 0, 0), (132, 1, 10, 0, 0, 0), (133, 3, 13, 290, 40, 207), (136, 3, 9, 5, 1, 0), (139, 3, 8, 105, 0, 0)]) rfl) ?_
      refine xg_t (xg_iload (va := (0, 2)) rfl rfl) ?_
      refine xg_t (xg_gets) ?_
      refine xg_t (xg_iload (va := (0, 4)) rfl rfl) ?_
      refine xg_t (xg_ald8L (n := 4) (u := 2) xnm0 rfl rfl) ?_
      refine xg_t (xg_icT (u := 2) (v := 2) rfl xnm0 xnm0 (by decide)) ?_
      refine xg_t (xg_blk (b := [(142, 1, 2, 1, 0, 0), (143, 3, 7, 165, 1, 0), (146, 1, 0, 3, 0, 0), (147, 2, 2, 4, 0, 0), (149, 1, 3, 3, 0, 0), (150, 1, 0, 0, 0, 0), (151, 3, 1, 2, 6, 153), (154, 3, 7, 161, 0, 0), (157, 1, 3, 1, 0, 0), (158, 3, 8, 162, 0, 0)]) rfl) ?_
      refine xg_t (xg_iload (va := (0, 4)) rfl rfl) ?_
      refine xg_t (xg_ifT (u := 4) rfl xnm0 (by decide)) ?_
      refine xg_t (xg_blk (b := [(165, 1, 2, 1, 0, 0), (166, 1, 3, 4, 0, 0), (167, 3, 6, 188, 1, 0), (170, 2, 2, 4, 0, 0), (172, 1, 0, 0, 0, 0), (173, 3, 1, 2, 5, 25), (176, 1, 31, 0, 0, 0), (177, 3, 6, 188, 3, 0), (180, 1, 0, 0, 0, 0), (181, 3, 1, 2, 5, 25), (184, 2, 2, 4, 0, 0), (186, 1, 2, 2, 0, 0), (187, 1, 17, 0, 0, 0)]) rfl) ?_
      refine xg_t (xg_iload (va := (0, 4)) rfl rfl) ?_
      refine xg_t (xg_const) ?_
      refine xg_t (xg_icF (u := 4) (v := 4) rfl xnm0 xnm0 (by decide)) ?_
      refine xg_t (xg_iload (va := (0, n38)) rfl rfl) ?_
      refine xg_t (xg_aload (va := (2, 27)) rfl rfl) ?_
      refine xg_t (xg_getf (va := (2, 41)) (hb64.get (by decide) (hb55.get (by decide) (hb43.get (by decide) h27_11))) rfl) ?_
      obtain ⟨us65, ha66, ha67⟩ := id (((h41_16.but hb43 (by decide)).but hb55 (by decide)).but hb64 (by decide))
      refine xg_t (xg_alen ha66) ?_
      by_cases hc68 : xbs n38 < xbs 20
      · have hc68u := hc68
        unfold xbs at hc68u
        refine xg_t (xg_icF (u := n38) (v := 20) rfl xnm0 xnm0 (xjs_geF hc68)) ?_
        refine xg_t (xg_aload (va := (2, 27)) rfl rfl) ?_
        refine xg_t (xg_getf (va := (2, 41)) (hb64.get (by decide) (hb55.get (by decide) (hb43.get (by decide) h27_11))) rfl) ?_
        refine xg_t (xg_iload (va := (0, n38)) rfl rfl) ?_
        refine xg_t (xg_iload (va := (0, pc_)) rfl rfl) ?_
        refine xg_iastK (n := n38) (u := pc_) (((h41_16.but hb43 (by decide)).but hb55 (by decide)).but hb64 (by decide)) xnm0 xnm0 rfl (by omega) (fun w69 hr70 hb71 => ?_)
        refine xg_t (xg_blk (b := [(188, 1, 12, 0, 0, 0)]) rfl) ?_
        exact xg_e ⟨w69, ⟨rfl, rfl⟩, xInv.up (S := [29, 30, 41]) hI ((((xFr.of (S := [29, 30, 41]) hb43 (by decide)).tr (xFr.of (S := [29, 30, 41]) hb55 (by decide))).tr (xFr.of (S := [29, 30, 41]) hb64 (by decide))).tr (xFr.of (S := [29, 30, 41]) hb71 (by decide))) (List.forall_mem_cons.mpr ⟨(show cp29 (wget w69 29) from ⟨s40, (hb71.get (by decide) (hb64.get (by decide) (hb55.get (by decide) hk42))), by omega⟩), List.forall_mem_cons.mpr ⟨(show cpI 24 13 4294967295 (wget w69 30) from ⟨_, (hr62.but hb71 (by decide)), hb63⟩), List.forall_mem_cons.mpr ⟨(show cpI 20 20 4294967295 (wget w69 41) from ⟨_, hr70, xrb (by omega) (hb17)⟩), fun _ h => absurd h List.not_mem_nil⟩⟩⟩), ((((xFr.of (S := [29, 30, 31, 32, 33, 34, 35, 36, 37, 38, 41]) hb43 (by decide)).tr (xFr.of (S := [29, 30, 31, 32, 33, 34, 35, 36, 37, 38, 41]) hb55 (by decide))).tr (xFr.of (S := [29, 30, 31, 32, 33, 34, 35, 36, 37, 38, 41]) hb64 (by decide))).tr (xFr.of (S := [29, 30, 31, 32, 33, 34, 35, 36, 37, 38, 41]) hb71 (by decide)))⟩
      · have hc68u := hc68
        unfold xbs at hc68u
        have hn72 : n38 ≤ 2147483647 := by omega
        refine xg_t (xg_icT (u := n38) (v := 20) rfl xnm0 xnm0 (xjs_geT hc68)) ?_
        refine xg_t (xg_blk (b := [(188, 1, 12, 0, 0, 0)]) rfl) ?_
        exact xg_e ⟨w59, ⟨rfl, rfl⟩, xInv.up (S := [29, 30]) hI (((xFr.of (S := [29, 30]) hb43 (by decide)).tr (xFr.of (S := [29, 30]) hb55 (by decide))).tr (xFr.of (S := [29, 30]) hb64 (by decide))) (List.forall_mem_cons.mpr ⟨(show cp29 (wget w59 29) from ⟨s40, (hb64.get (by decide) (hb55.get (by decide) hk42)), by omega⟩), List.forall_mem_cons.mpr ⟨(show cpI 24 13 4294967295 (wget w59 30) from ⟨_, hr62, hb63⟩), fun _ h => absurd h List.not_mem_nil⟩⟩), (((xFr.of (S := [29, 30, 31, 32, 33, 34, 35, 36, 37, 38, 41]) hb43 (by decide)).tr (xFr.of (S := [29, 30, 31, 32, 33, 34, 35, 36, 37, 38, 41]) hb55 (by decide))).tr (xFr.of (S := [29, 30, 31, 32, 33, 34, 35, 36, 37, 38, 41]) hb64 (by decide)))⟩
  · obtain ⟨f28_73, f28_75, f28_77, f28_79, f28_81, h28_83, hb74, hb76, hb78, hb80, hb82⟩ := (hI 28 (by decide) : cp28 (wget w 28))
    refine xg_t (xg_cVr mX1_rowsOf (vs := [(0, 4)]) (rest := []) (rs := [(2, 31)]) (cn1 := 0) (sl1 := 0) rfl (hp20) rfl h28_83 rfl rfl rfl rfl rfl rfl rfl) ?_
    refine xg_t (xg_astore (l1 := [(0, (2, 27)), (1, (0, 4)), (2, (0, pc_))]) rfl rfl rfl) ?_
    refine xg_t (xg_aload (va := (2, 31)) rfl rfl) ?_
    refine xg_t (xg_ifnullF) ?_
    refine xg_t (xg_aload (va := (2, 31)) rfl rfl) ?_
    obtain ⟨f31_84, h31_86, hb85⟩ := (hI 31 (by decide) : cp31 (wget w 31))
    refine xg_t (xg_cVr mX5_isFull (vs := []) (rest := []) (rs := [(0, if 4 ≤ f31_84 then 1 else 0)]) (cn1 := 0) (sl1 := 0) rfl (rfull_ok h31_86 (by decide) (by omega)) rfl h31_86 rfl rfl rfl rfl rfl rfl rfl) ?_
    by_cases hc87 : 4 ≤ f31_84
    · refine xg_t (xg_ifF (u := (if 4 ≤ f31_84 then 1 else 0)) rfl xnm0 (xj_eqF (xite1 hc87))) ?_
      refine xg_t (xg_blk (b := [(95, 1, 12, 0, 0, 0)]) rfl) ?_
      exact xg_e ⟨w, ⟨rfl, rfl⟩, hI, xFr.rf⟩
    · refine xg_t (xg_ifT (u := (if 4 ≤ f31_84 then 1 else 0)) rfl xnm0 (xj_eqT (xite0 hc87))) ?_
      refine xg_t (xg_blk (b := [(96, 1, 0, 3, 0, 0), (97, 3, 13, 286, 40, 204), (100, 2, 15, 4, 0, 0), (102, 1, 3, 0, 0, 0), (103, 2, 15, 5, 0, 0)]) rfl) ?_
      refine xg_t (xg_aload (va := (2, 31)) rfl rfl) ?_
      refine xg_cVi mX5_grow (vs := []) (rest := []) (cn1 := 0) (sl1 := 0) rfl (rgrowI h31_86 (by decide) (by omega)) rfl h31_86 rfl rfl rfl rfl rfl rfl (fun n90 w88 hq89 => ?_)
      obtain ⟨hn91, s92, hs93, hk94, hb95⟩ := hq89
      refine xg_t (xg_istore (l1 := [(3, (2, 31)), (0, (2, 27)), (1, (0, 4)), (2, (0, pc_))]) rfl rfl rfl) ?_
      refine xg_t (xg_const) ?_
      refine xg_t (xg_istore (l1 := [(4, (0, n90)), (3, (2, 31)), (0, (2, 27)), (1, (0, 4)), (2, (0, pc_))]) rfl rfl rfl) ?_
      refine xg_t (xg_blk (b := [(105, 2, 2, 5, 0, 0), (107, 3, 37, 1, 0, 115), (110, 1, 2, 1, 0, 0), (111, 1, 10, 0, 0, 0), (112, 3, 6, 142, 3, 0), (115, 2, 2, 5, 0, 0), (117, 1, 3, 3, 0, 0), (118, 3, 6, 142, 3, 0), (121, 1, 0, 3, 0, 0), (122, 2, 2, 4, 0, 0), (124, 2, 2, 5, 0, 0), (126, 1, 0, 0, 0, 0), (127, 3, 1, 2, 3, 18), (130, 2, 2, 5, 0, 0), (132, 1, 10, 0, 0, 0), (133, 3, 13, 290, 40, 207), (136, 3, 9, 5, 1, 0), (139, 3, 8, 105, 0, 0)]) rfl) ?_
      refine xg_t (xg_iload (va := (0, 0)) rfl rfl) ?_
      refine xg_t (xg_gets) ?_
      refine xg_t (xg_iload (va := (0, 4)) rfl rfl) ?_
      refine xg_t (xg_ald8L (n := 4) (u := 2) xnm0 rfl rfl) ?_
      refine xg_t (xg_icF (u := 0) (v := 2) rfl xnm0 xnm0 (by decide)) ?_
      refine xg_t (xg_iload (va := (0, 0)) rfl rfl) ?_
      refine xg_t (xg_const) ?_
      refine xg_t (xg_icF (u := 0) (v := 3) rfl xnm0 xnm0 (by decide)) ?_
      refine xg_t (xg_aload (va := (2, 31)) rfl rfl) ?_
      refine xg_t (xg_iload (va := (0, n90)) rfl rfl) ?_
      refine xg_t (xg_iload (va := (0, 0)) rfl rfl) ?_
      refine xg_t (xg_aload (va := (2, 27)) rfl rfl) ?_
      refine xg_t (xg_getf (va := (2, 39)) (hb95.get (by decide) h27_11) rfl) ?_
      refine xg_t (xg_iload (va := (0, 0)) rfl rfl) ?_
      refine xg_ialdB (n := 0) (B := 4294967295) (h39_13.but hb95 (by decide)) (hb14) xnm0 (by omega) (fun u96 hu97 he98 => ?_)
      obtain ⟨g32_99, h32_100, hb101⟩ := (hI 32 (by decide) : cpI 8 14 4294967295 (wget w 32))
      have h32_100 : xRow w 32 8 14 g32_99 := h32_100
      refine xg_cVv mX5_put (vs := [(0, n90), (0, 0), (0, u96)]) (rest := []) (cn1 := 0) (sl1 := 0) rfl (rputI (lim := 4) (wd := 2) (B := 4294967295) hk94 (h32_100.but hb95 (by decide)) (hb101) (by decide) (by omega) (by decide) (by decide) (by omega) (by omega) (by omega)) rfl hk94 rfl rfl rfl rfl rfl rfl (fun w102 hq103 => ?_)
      obtain ⟨g104, hr105, hb106, hb107⟩ := hq103
      refine xg_t (xg_iinc (u := 0) (z := 1) (l1 := [(4, (0, n90)), (3, (2, 31)), (0, (2, 27)), (1, (0, 4)), (2, (0, pc_))]) rfl rfl (by decide) rfl) ?_
      refine xg_t (xg_goto) ?_
      refine xg_t (xg_blk (b := [(105, 2, 2, 5, 0, 0), (107, 3, 37, 1, 0, 115), (110, 1, 2, 1, 0, 0), (111, 1, 10, 0, 0, 0), (112, 3, 6, 142, 3, 0), (115, 2, 2, 5, 0, 0), (117, 1, 3, 3, 0, 0), (118, 3, 6, 142, 3, 0), (121, 1, 0, 3, 0, 0), (122, 2, 2, 4, 0, 0), (124, 2, 2, 5, 0, 0), (126, 1, 0, 0, 0, 0), (127, 3, 1, 2, 3, 18), (130, 2, 2, 5, 0, 0), (132, 1, 10, 0, 0, 0), (133, 3, 13, 290, 40, 207), (136, 3, 9, 5, 1, 0), (139, 3, 8, 105, 0, 0)]) rfl) ?_
      refine xg_t (xg_iload (va := (0, 1)) rfl rfl) ?_
      refine xg_t (xg_gets) ?_
      refine xg_t (xg_iload (va := (0, 4)) rfl rfl) ?_
      refine xg_t (xg_ald8L (n := 4) (u := 2) xnm0 rfl rfl) ?_
      refine xg_t (xg_icF (u := 1) (v := 2) rfl xnm0 xnm0 (by decide)) ?_
      refine xg_t (xg_iload (va := (0, 1)) rfl rfl) ?_
      refine xg_t (xg_const) ?_
      refine xg_t (xg_icF (u := 1) (v := 3) rfl xnm0 xnm0 (by decide)) ?_
      refine xg_t (xg_aload (va := (2, 31)) rfl rfl) ?_
      refine xg_t (xg_iload (va := (0, n90)) rfl rfl) ?_
      refine xg_t (xg_iload (va := (0, 1)) rfl rfl) ?_
      refine xg_t (xg_aload (va := (2, 27)) rfl rfl) ?_
      refine xg_t (xg_getf (va := (2, 39)) (hb107.get (by decide) (hb95.get (by decide) h27_11)) rfl) ?_
      refine xg_t (xg_iload (va := (0, 1)) rfl rfl) ?_
      refine xg_ialdB (n := 1) (B := 4294967295) ((h39_13.but hb95 (by decide)).but hb107 (by decide)) (hb14) xnm0 (by omega) (fun u108 hu109 he110 => ?_)
      refine xg_cVv mX5_put (vs := [(0, n90), (0, 1), (0, u108)]) (rest := []) (cn1 := 0) (sl1 := 0) rfl (rputI (lim := 4) (wd := 2) (B := 4294967295) (hb107.get (by decide) hk94) hr105 (hb106) (by decide) (by omega) (by decide) (by decide) (by omega) (by omega) (by omega)) rfl (hb107.get (by decide) hk94) rfl rfl rfl rfl rfl rfl (fun w111 hq112 => ?_)
      obtain ⟨g113, hr114, hb115, hb116⟩ := hq112
      refine xg_t (xg_iinc (u := 1) (z := 2) (l1 := [(4, (0, n90)), (3, (2, 31)), (0, (2, 27)), (1, (0, 4)), (2, (0, pc_))]) rfl rfl (by decide) rfl) ?_
      refine xg_t (xg_goto) ?_
      refine xg_t (xg_blk (b := [(105, 2, 2, 5, 0, 0), (107, 3, 37, 1, 0, 115), (110, 1, 2, 1, 0, 0), (111, 1, 10, 0, 0, 0), (112, 3, 6, 142, 3, 0), (115, 2, 2, 5, 0, 0), (117, 1, 3, 3, 0, 0), (118, 3, 6, 142, 3, 0), (121, 1, 0, 3, 0, 0), (122, 2, 2, 4, 0, 0), (124, 2, 2, 5, 0, 0), (126, 1, 0, 0, 0, 0), (127, 3, 1, 2, 3, 18), (130, 2, 2, 5, 0, 0), (132, 1, 10, 0, 0, 0), (133, 3, 13, 290, 40, 207), (136, 3, 9, 5, 1, 0), (139, 3, 8, 105, 0, 0)]) rfl) ?_
      refine xg_t (xg_iload (va := (0, 2)) rfl rfl) ?_
      refine xg_t (xg_gets) ?_
      refine xg_t (xg_iload (va := (0, 4)) rfl rfl) ?_
      refine xg_t (xg_ald8L (n := 4) (u := 2) xnm0 rfl rfl) ?_
      refine xg_t (xg_icT (u := 2) (v := 2) rfl xnm0 xnm0 (by decide)) ?_
      refine xg_t (xg_blk (b := [(142, 1, 2, 1, 0, 0), (143, 3, 7, 165, 1, 0), (146, 1, 0, 3, 0, 0), (147, 2, 2, 4, 0, 0), (149, 1, 3, 3, 0, 0), (150, 1, 0, 0, 0, 0), (151, 3, 1, 2, 6, 153), (154, 3, 7, 161, 0, 0), (157, 1, 3, 1, 0, 0), (158, 3, 8, 162, 0, 0)]) rfl) ?_
      refine xg_t (xg_iload (va := (0, 4)) rfl rfl) ?_
      refine xg_t (xg_ifT (u := 4) rfl xnm0 (by decide)) ?_
      refine xg_t (xg_blk (b := [(165, 1, 2, 1, 0, 0), (166, 1, 3, 4, 0, 0), (167, 3, 6, 188, 1, 0), (170, 2, 2, 4, 0, 0), (172, 1, 0, 0, 0, 0), (173, 3, 1, 2, 5, 25), (176, 1, 31, 0, 0, 0), (177, 3, 6, 188, 3, 0), (180, 1, 0, 0, 0, 0), (181, 3, 1, 2, 5, 25), (184, 2, 2, 4, 0, 0), (186, 1, 2, 2, 0, 0), (187, 1, 17, 0, 0, 0)]) rfl) ?_
      refine xg_t (xg_iload (va := (0, 4)) rfl rfl) ?_
      refine xg_t (xg_const) ?_
      refine xg_t (xg_icF (u := 4) (v := 4) rfl xnm0 xnm0 (by decide)) ?_
      refine xg_t (xg_iload (va := (0, n90)) rfl rfl) ?_
      refine xg_t (xg_aload (va := (2, 27)) rfl rfl) ?_
      refine xg_t (xg_getf (va := (2, 41)) (hb116.get (by decide) (hb107.get (by decide) (hb95.get (by decide) h27_11))) rfl) ?_
      obtain ⟨us117, ha118, ha119⟩ := id (((h41_16.but hb95 (by decide)).but hb107 (by decide)).but hb116 (by decide))
      refine xg_t (xg_alen ha118) ?_
      by_cases hc120 : xbs n90 < xbs 20
      · have hc120u := hc120
        unfold xbs at hc120u
        refine xg_t (xg_icF (u := n90) (v := 20) rfl xnm0 xnm0 (xjs_geF hc120)) ?_
        refine xg_t (xg_aload (va := (2, 27)) rfl rfl) ?_
        refine xg_t (xg_getf (va := (2, 41)) (hb116.get (by decide) (hb107.get (by decide) (hb95.get (by decide) h27_11))) rfl) ?_
        refine xg_t (xg_iload (va := (0, n90)) rfl rfl) ?_
        refine xg_t (xg_iload (va := (0, pc_)) rfl rfl) ?_
        refine xg_iastK (n := n90) (u := pc_) (((h41_16.but hb95 (by decide)).but hb107 (by decide)).but hb116 (by decide)) xnm0 xnm0 rfl (by omega) (fun w121 hr122 hb123 => ?_)
        refine xg_t (xg_blk (b := [(188, 1, 12, 0, 0, 0)]) rfl) ?_
        exact xg_e ⟨w121, ⟨rfl, rfl⟩, xInv.up (S := [31, 32, 41]) hI ((((xFr.of (S := [31, 32, 41]) hb95 (by decide)).tr (xFr.of (S := [31, 32, 41]) hb107 (by decide))).tr (xFr.of (S := [31, 32, 41]) hb116 (by decide))).tr (xFr.of (S := [31, 32, 41]) hb123 (by decide))) (List.forall_mem_cons.mpr ⟨(show cp31 (wget w121 31) from ⟨s92, (hb123.get (by decide) (hb116.get (by decide) (hb107.get (by decide) hk94))), by omega⟩), List.forall_mem_cons.mpr ⟨(show cpI 8 14 4294967295 (wget w121 32) from ⟨_, (hr114.but hb123 (by decide)), hb115⟩), List.forall_mem_cons.mpr ⟨(show cpI 20 20 4294967295 (wget w121 41) from ⟨_, hr122, xrb (by omega) (hb17)⟩), fun _ h => absurd h List.not_mem_nil⟩⟩⟩), ((((xFr.of (S := [29, 30, 31, 32, 33, 34, 35, 36, 37, 38, 41]) hb95 (by decide)).tr (xFr.of (S := [29, 30, 31, 32, 33, 34, 35, 36, 37, 38, 41]) hb107 (by decide))).tr (xFr.of (S := [29, 30, 31, 32, 33, 34, 35, 36, 37, 38, 41]) hb116 (by decide))).tr (xFr.of (S := [29, 30, 31, 32, 33, 34, 35, 36, 37, 38, 41]) hb123 (by decide)))⟩
      · have hc120u := hc120
        unfold xbs at hc120u
        have hn124 : n90 ≤ 2147483647 := by omega
        refine xg_t (xg_icT (u := n90) (v := 20) rfl xnm0 xnm0 (xjs_geT hc120)) ?_
        refine xg_t (xg_blk (b := [(188, 1, 12, 0, 0, 0)]) rfl) ?_
        exact xg_e ⟨w111, ⟨rfl, rfl⟩, xInv.up (S := [31, 32]) hI (((xFr.of (S := [31, 32]) hb95 (by decide)).tr (xFr.of (S := [31, 32]) hb107 (by decide))).tr (xFr.of (S := [31, 32]) hb116 (by decide))) (List.forall_mem_cons.mpr ⟨(show cp31 (wget w111 31) from ⟨s92, (hb116.get (by decide) (hb107.get (by decide) hk94)), by omega⟩), List.forall_mem_cons.mpr ⟨(show cpI 8 14 4294967295 (wget w111 32) from ⟨_, hr114, hb115⟩), fun _ h => absurd h List.not_mem_nil⟩⟩), (((xFr.of (S := [29, 30, 31, 32, 33, 34, 35, 36, 37, 38, 41]) hb95 (by decide)).tr (xFr.of (S := [29, 30, 31, 32, 33, 34, 35, 36, 37, 38, 41]) hb107 (by decide))).tr (xFr.of (S := [29, 30, 31, 32, 33, 34, 35, 36, 37, 38, 41]) hb116 (by decide)))⟩
  · obtain ⟨f28_125, f28_127, f28_129, f28_131, f28_133, h28_135, hb126, hb128, hb130, hb132, hb134⟩ := (hI 28 (by decide) : cp28 (wget w 28))
    refine xg_t (xg_cVr mX1_rowsOf (vs := [(0, 4)]) (rest := []) (rs := [(2, 33)]) (cn1 := 0) (sl1 := 0) rfl (hp20) rfl h28_135 rfl rfl rfl rfl rfl rfl rfl) ?_
    refine xg_t (xg_astore (l1 := [(0, (2, 27)), (1, (0, 4)), (2, (0, pc_))]) rfl rfl rfl) ?_
    refine xg_t (xg_aload (va := (2, 33)) rfl rfl) ?_
    refine xg_t (xg_ifnullF) ?_
    refine xg_t (xg_aload (va := (2, 33)) rfl rfl) ?_
    obtain ⟨f33_136, h33_138, hb137⟩ := (hI 33 (by decide) : cp33 (wget w 33))
    refine xg_t (xg_cVr mX5_isFull (vs := []) (rest := []) (rs := [(0, if 6 ≤ f33_136 then 1 else 0)]) (cn1 := 0) (sl1 := 0) rfl (rfull_ok h33_138 (by decide) (by omega)) rfl h33_138 rfl rfl rfl rfl rfl rfl rfl) ?_
    by_cases hc139 : 6 ≤ f33_136
    · refine xg_t (xg_ifF (u := (if 6 ≤ f33_136 then 1 else 0)) rfl xnm0 (xj_eqF (xite1 hc139))) ?_
      refine xg_t (xg_blk (b := [(95, 1, 12, 0, 0, 0)]) rfl) ?_
      exact xg_e ⟨w, ⟨rfl, rfl⟩, hI, xFr.rf⟩
    · refine xg_t (xg_ifT (u := (if 6 ≤ f33_136 then 1 else 0)) rfl xnm0 (xj_eqT (xite0 hc139))) ?_
      refine xg_t (xg_blk (b := [(96, 1, 0, 3, 0, 0), (97, 3, 13, 286, 40, 204), (100, 2, 15, 4, 0, 0), (102, 1, 3, 0, 0, 0), (103, 2, 15, 5, 0, 0)]) rfl) ?_
      refine xg_t (xg_aload (va := (2, 33)) rfl rfl) ?_
      refine xg_cVi mX5_grow (vs := []) (rest := []) (cn1 := 0) (sl1 := 0) rfl (rgrowI h33_138 (by decide) (by omega)) rfl h33_138 rfl rfl rfl rfl rfl rfl (fun n142 w140 hq141 => ?_)
      obtain ⟨hn143, s144, hs145, hk146, hb147⟩ := hq141
      refine xg_t (xg_istore (l1 := [(3, (2, 33)), (0, (2, 27)), (1, (0, 4)), (2, (0, pc_))]) rfl rfl rfl) ?_
      refine xg_t (xg_const) ?_
      refine xg_t (xg_istore (l1 := [(4, (0, n142)), (3, (2, 33)), (0, (2, 27)), (1, (0, 4)), (2, (0, pc_))]) rfl rfl rfl) ?_
      refine xg_t (xg_blk (b := [(105, 2, 2, 5, 0, 0), (107, 3, 37, 1, 0, 115), (110, 1, 2, 1, 0, 0), (111, 1, 10, 0, 0, 0), (112, 3, 6, 142, 3, 0), (115, 2, 2, 5, 0, 0), (117, 1, 3, 3, 0, 0), (118, 3, 6, 142, 3, 0), (121, 1, 0, 3, 0, 0), (122, 2, 2, 4, 0, 0), (124, 2, 2, 5, 0, 0), (126, 1, 0, 0, 0, 0), (127, 3, 1, 2, 3, 18), (130, 2, 2, 5, 0, 0), (132, 1, 10, 0, 0, 0), (133, 3, 13, 290, 40, 207), (136, 3, 9, 5, 1, 0), (139, 3, 8, 105, 0, 0)]) rfl) ?_
      refine xg_t (xg_iload (va := (0, 0)) rfl rfl) ?_
      refine xg_t (xg_gets) ?_
      refine xg_t (xg_iload (va := (0, 4)) rfl rfl) ?_
      refine xg_t (xg_ald8L (n := 4) (u := 2) xnm0 rfl rfl) ?_
      refine xg_t (xg_icF (u := 0) (v := 2) rfl xnm0 xnm0 (by decide)) ?_
      refine xg_t (xg_iload (va := (0, 0)) rfl rfl) ?_
      refine xg_t (xg_const) ?_
      refine xg_t (xg_icF (u := 0) (v := 3) rfl xnm0 xnm0 (by decide)) ?_
      refine xg_t (xg_aload (va := (2, 33)) rfl rfl) ?_
      refine xg_t (xg_iload (va := (0, n142)) rfl rfl) ?_
      refine xg_t (xg_iload (va := (0, 0)) rfl rfl) ?_
      refine xg_t (xg_aload (va := (2, 27)) rfl rfl) ?_
      refine xg_t (xg_getf (va := (2, 39)) (hb147.get (by decide) h27_11) rfl) ?_
      refine xg_t (xg_iload (va := (0, 0)) rfl rfl) ?_
      refine xg_ialdB (n := 0) (B := 4294967295) (h39_13.but hb147 (by decide)) (hb14) xnm0 (by omega) (fun u148 hu149 he150 => ?_)
      obtain ⟨g34_151, h34_152, hb153⟩ := (hI 34 (by decide) : cpI 12 15 4294967295 (wget w 34))
      have h34_152 : xRow w 34 12 15 g34_151 := h34_152
      refine xg_cVv mX5_put (vs := [(0, n142), (0, 0), (0, u148)]) (rest := []) (cn1 := 0) (sl1 := 0) rfl (rputI (lim := 6) (wd := 2) (B := 4294967295) hk146 (h34_152.but hb147 (by decide)) (hb153) (by decide) (by omega) (by decide) (by decide) (by omega) (by omega) (by omega)) rfl hk146 rfl rfl rfl rfl rfl rfl (fun w154 hq155 => ?_)
      obtain ⟨g156, hr157, hb158, hb159⟩ := hq155
      refine xg_t (xg_iinc (u := 0) (z := 1) (l1 := [(4, (0, n142)), (3, (2, 33)), (0, (2, 27)), (1, (0, 4)), (2, (0, pc_))]) rfl rfl (by decide) rfl) ?_
      refine xg_t (xg_goto) ?_
      refine xg_t (xg_blk (b := [(105, 2, 2, 5, 0, 0), (107, 3, 37, 1, 0, 115), (110, 1, 2, 1, 0, 0), (111, 1, 10, 0, 0, 0), (112, 3, 6, 142, 3, 0), (115, 2, 2, 5, 0, 0), (117, 1, 3, 3, 0, 0), (118, 3, 6, 142, 3, 0), (121, 1, 0, 3, 0, 0), (122, 2, 2, 4, 0, 0), (124, 2, 2, 5, 0, 0), (126, 1, 0, 0, 0, 0), (127, 3, 1, 2, 3, 18), (130, 2, 2, 5, 0, 0), (132, 1, 10, 0, 0, 0), (133, 3, 13, 290, 40, 207), (136, 3, 9, 5, 1, 0), (139, 3, 8, 105, 0, 0)]) rfl) ?_
      refine xg_t (xg_iload (va := (0, 1)) rfl rfl) ?_
      refine xg_t (xg_gets) ?_
      refine xg_t (xg_iload (va := (0, 4)) rfl rfl) ?_
      refine xg_t (xg_ald8L (n := 4) (u := 2) xnm0 rfl rfl) ?_
      refine xg_t (xg_icF (u := 1) (v := 2) rfl xnm0 xnm0 (by decide)) ?_
      refine xg_t (xg_iload (va := (0, 1)) rfl rfl) ?_
      refine xg_t (xg_const) ?_
      refine xg_t (xg_icF (u := 1) (v := 3) rfl xnm0 xnm0 (by decide)) ?_
      refine xg_t (xg_aload (va := (2, 33)) rfl rfl) ?_
      refine xg_t (xg_iload (va := (0, n142)) rfl rfl) ?_
      refine xg_t (xg_iload (va := (0, 1)) rfl rfl) ?_
      refine xg_t (xg_aload (va := (2, 27)) rfl rfl) ?_
      refine xg_t (xg_getf (va := (2, 39)) (hb159.get (by decide) (hb147.get (by decide) h27_11)) rfl) ?_
      refine xg_t (xg_iload (va := (0, 1)) rfl rfl) ?_
      refine xg_ialdB (n := 1) (B := 4294967295) ((h39_13.but hb147 (by decide)).but hb159 (by decide)) (hb14) xnm0 (by omega) (fun u160 hu161 he162 => ?_)
      refine xg_cVv mX5_put (vs := [(0, n142), (0, 1), (0, u160)]) (rest := []) (cn1 := 0) (sl1 := 0) rfl (rputI (lim := 6) (wd := 2) (B := 4294967295) (hb159.get (by decide) hk146) hr157 (hb158) (by decide) (by omega) (by decide) (by decide) (by omega) (by omega) (by omega)) rfl (hb159.get (by decide) hk146) rfl rfl rfl rfl rfl rfl (fun w163 hq164 => ?_)
      obtain ⟨g165, hr166, hb167, hb168⟩ := hq164
      refine xg_t (xg_iinc (u := 1) (z := 2) (l1 := [(4, (0, n142)), (3, (2, 33)), (0, (2, 27)), (1, (0, 4)), (2, (0, pc_))]) rfl rfl (by decide) rfl) ?_
      refine xg_t (xg_goto) ?_
      refine xg_t (xg_blk (b := [(105, 2, 2, 5, 0, 0), (107, 3, 37, 1, 0, 115), (110, 1, 2, 1, 0, 0), (111, 1, 10, 0, 0, 0), (112, 3, 6, 142, 3, 0), (115, 2, 2, 5, 0, 0), (117, 1, 3, 3, 0, 0), (118, 3, 6, 142, 3, 0), (121, 1, 0, 3, 0, 0), (122, 2, 2, 4, 0, 0), (124, 2, 2, 5, 0, 0), (126, 1, 0, 0, 0, 0), (127, 3, 1, 2, 3, 18), (130, 2, 2, 5, 0, 0), (132, 1, 10, 0, 0, 0), (133, 3, 13, 290, 40, 207), (136, 3, 9, 5, 1, 0), (139, 3, 8, 105, 0, 0)]) rfl) ?_
      refine xg_t (xg_iload (va := (0, 2)) rfl rfl) ?_
      refine xg_t (xg_gets) ?_
      refine xg_t (xg_iload (va := (0, 4)) rfl rfl) ?_
      refine xg_t (xg_ald8L (n := 4) (u := 2) xnm0 rfl rfl) ?_
      refine xg_t (xg_icT (u := 2) (v := 2) rfl xnm0 xnm0 (by decide)) ?_
      refine xg_t (xg_blk (b := [(142, 1, 2, 1, 0, 0), (143, 3, 7, 165, 1, 0), (146, 1, 0, 3, 0, 0), (147, 2, 2, 4, 0, 0), (149, 1, 3, 3, 0, 0), (150, 1, 0, 0, 0, 0), (151, 3, 1, 2, 6, 153), (154, 3, 7, 161, 0, 0), (157, 1, 3, 1, 0, 0), (158, 3, 8, 162, 0, 0)]) rfl) ?_
      refine xg_t (xg_iload (va := (0, 4)) rfl rfl) ?_
      refine xg_t (xg_ifT (u := 4) rfl xnm0 (by decide)) ?_
      refine xg_t (xg_blk (b := [(165, 1, 2, 1, 0, 0), (166, 1, 3, 4, 0, 0), (167, 3, 6, 188, 1, 0), (170, 2, 2, 4, 0, 0), (172, 1, 0, 0, 0, 0), (173, 3, 1, 2, 5, 25), (176, 1, 31, 0, 0, 0), (177, 3, 6, 188, 3, 0), (180, 1, 0, 0, 0, 0), (181, 3, 1, 2, 5, 25), (184, 2, 2, 4, 0, 0), (186, 1, 2, 2, 0, 0), (187, 1, 17, 0, 0, 0)]) rfl) ?_
      refine xg_t (xg_iload (va := (0, 4)) rfl rfl) ?_
      refine xg_t (xg_const) ?_
      refine xg_t (xg_icF (u := 4) (v := 4) rfl xnm0 xnm0 (by decide)) ?_
      refine xg_t (xg_iload (va := (0, n142)) rfl rfl) ?_
      refine xg_t (xg_aload (va := (2, 27)) rfl rfl) ?_
      refine xg_t (xg_getf (va := (2, 41)) (hb168.get (by decide) (hb159.get (by decide) (hb147.get (by decide) h27_11))) rfl) ?_
      obtain ⟨us169, ha170, ha171⟩ := id (((h41_16.but hb147 (by decide)).but hb159 (by decide)).but hb168 (by decide))
      refine xg_t (xg_alen ha170) ?_
      by_cases hc172 : xbs n142 < xbs 20
      · have hc172u := hc172
        unfold xbs at hc172u
        refine xg_t (xg_icF (u := n142) (v := 20) rfl xnm0 xnm0 (xjs_geF hc172)) ?_
        refine xg_t (xg_aload (va := (2, 27)) rfl rfl) ?_
        refine xg_t (xg_getf (va := (2, 41)) (hb168.get (by decide) (hb159.get (by decide) (hb147.get (by decide) h27_11))) rfl) ?_
        refine xg_t (xg_iload (va := (0, n142)) rfl rfl) ?_
        refine xg_t (xg_iload (va := (0, pc_)) rfl rfl) ?_
        refine xg_iastK (n := n142) (u := pc_) (((h41_16.but hb147 (by decide)).but hb159 (by decide)).but hb168 (by decide)) xnm0 xnm0 rfl (by omega) (fun w173 hr174 hb175 => ?_)
        refine xg_t (xg_blk (b := [(188, 1, 12, 0, 0, 0)]) rfl) ?_
        exact xg_e ⟨w173, ⟨rfl, rfl⟩, xInv.up (S := [33, 34, 41]) hI ((((xFr.of (S := [33, 34, 41]) hb147 (by decide)).tr (xFr.of (S := [33, 34, 41]) hb159 (by decide))).tr (xFr.of (S := [33, 34, 41]) hb168 (by decide))).tr (xFr.of (S := [33, 34, 41]) hb175 (by decide))) (List.forall_mem_cons.mpr ⟨(show cp33 (wget w173 33) from ⟨s144, (hb175.get (by decide) (hb168.get (by decide) (hb159.get (by decide) hk146))), by omega⟩), List.forall_mem_cons.mpr ⟨(show cpI 12 15 4294967295 (wget w173 34) from ⟨_, (hr166.but hb175 (by decide)), hb167⟩), List.forall_mem_cons.mpr ⟨(show cpI 20 20 4294967295 (wget w173 41) from ⟨_, hr174, xrb (by omega) (hb17)⟩), fun _ h => absurd h List.not_mem_nil⟩⟩⟩), ((((xFr.of (S := [29, 30, 31, 32, 33, 34, 35, 36, 37, 38, 41]) hb147 (by decide)).tr (xFr.of (S := [29, 30, 31, 32, 33, 34, 35, 36, 37, 38, 41]) hb159 (by decide))).tr (xFr.of (S := [29, 30, 31, 32, 33, 34, 35, 36, 37, 38, 41]) hb168 (by decide))).tr (xFr.of (S := [29, 30, 31, 32, 33, 34, 35, 36, 37, 38, 41]) hb175 (by decide)))⟩
      · have hc172u := hc172
        unfold xbs at hc172u
        have hn176 : n142 ≤ 2147483647 := by omega
        refine xg_t (xg_icT (u := n142) (v := 20) rfl xnm0 xnm0 (xjs_geT hc172)) ?_
        refine xg_t (xg_blk (b := [(188, 1, 12, 0, 0, 0)]) rfl) ?_
        exact xg_e ⟨w163, ⟨rfl, rfl⟩, xInv.up (S := [33, 34]) hI (((xFr.of (S := [33, 34]) hb147 (by decide)).tr (xFr.of (S := [33, 34]) hb159 (by decide))).tr (xFr.of (S := [33, 34]) hb168 (by decide))) (List.forall_mem_cons.mpr ⟨(show cp33 (wget w163 33) from ⟨s144, (hb168.get (by decide) (hb159.get (by decide) hk146)), by omega⟩), List.forall_mem_cons.mpr ⟨(show cpI 12 15 4294967295 (wget w163 34) from ⟨_, hr166, hb167⟩), fun _ h => absurd h List.not_mem_nil⟩⟩), (((xFr.of (S := [29, 30, 31, 32, 33, 34, 35, 36, 37, 38, 41]) hb147 (by decide)).tr (xFr.of (S := [29, 30, 31, 32, 33, 34, 35, 36, 37, 38, 41]) hb159 (by decide))).tr (xFr.of (S := [29, 30, 31, 32, 33, 34, 35, 36, 37, 38, 41]) hb168 (by decide)))⟩
  · obtain ⟨f28_177, f28_179, f28_181, f28_183, f28_185, h28_187, hb178, hb180, hb182, hb184, hb186⟩ := (hI 28 (by decide) : cp28 (wget w 28))
    refine xg_t (xg_cVr mX1_rowsOf (vs := [(0, 4)]) (rest := []) (rs := [(2, 35)]) (cn1 := 0) (sl1 := 0) rfl (hp20) rfl h28_187 rfl rfl rfl rfl rfl rfl rfl) ?_
    refine xg_t (xg_astore (l1 := [(0, (2, 27)), (1, (0, 4)), (2, (0, pc_))]) rfl rfl rfl) ?_
    refine xg_t (xg_aload (va := (2, 35)) rfl rfl) ?_
    refine xg_t (xg_ifnullF) ?_
    refine xg_t (xg_aload (va := (2, 35)) rfl rfl) ?_
    obtain ⟨f35_188, h35_190, hb189⟩ := (hI 35 (by decide) : cp35 (wget w 35))
    refine xg_t (xg_cVr mX5_isFull (vs := []) (rest := []) (rs := [(0, if 4 ≤ f35_188 then 1 else 0)]) (cn1 := 0) (sl1 := 0) rfl (rfull_ok h35_190 (by decide) (by omega)) rfl h35_190 rfl rfl rfl rfl rfl rfl rfl) ?_
    by_cases hc191 : 4 ≤ f35_188
    · refine xg_t (xg_ifF (u := (if 4 ≤ f35_188 then 1 else 0)) rfl xnm0 (xj_eqF (xite1 hc191))) ?_
      refine xg_t (xg_blk (b := [(95, 1, 12, 0, 0, 0)]) rfl) ?_
      exact xg_e ⟨w, ⟨rfl, rfl⟩, hI, xFr.rf⟩
    · refine xg_t (xg_ifT (u := (if 4 ≤ f35_188 then 1 else 0)) rfl xnm0 (xj_eqT (xite0 hc191))) ?_
      refine xg_t (xg_blk (b := [(96, 1, 0, 3, 0, 0), (97, 3, 13, 286, 40, 204), (100, 2, 15, 4, 0, 0), (102, 1, 3, 0, 0, 0), (103, 2, 15, 5, 0, 0)]) rfl) ?_
      refine xg_t (xg_aload (va := (2, 35)) rfl rfl) ?_
      refine xg_cVi mX5_grow (vs := []) (rest := []) (cn1 := 0) (sl1 := 0) rfl (rgrowI h35_190 (by decide) (by omega)) rfl h35_190 rfl rfl rfl rfl rfl rfl (fun n194 w192 hq193 => ?_)
      obtain ⟨hn195, s196, hs197, hk198, hb199⟩ := hq193
      refine xg_t (xg_istore (l1 := [(3, (2, 35)), (0, (2, 27)), (1, (0, 4)), (2, (0, pc_))]) rfl rfl rfl) ?_
      refine xg_t (xg_const) ?_
      refine xg_t (xg_istore (l1 := [(4, (0, n194)), (3, (2, 35)), (0, (2, 27)), (1, (0, 4)), (2, (0, pc_))]) rfl rfl rfl) ?_
      refine xg_t (xg_blk (b := [(105, 2, 2, 5, 0, 0), (107, 3, 37, 1, 0, 115), (110, 1, 2, 1, 0, 0), (111, 1, 10, 0, 0, 0), (112, 3, 6, 142, 3, 0), (115, 2, 2, 5, 0, 0), (117, 1, 3, 3, 0, 0), (118, 3, 6, 142, 3, 0), (121, 1, 0, 3, 0, 0), (122, 2, 2, 4, 0, 0), (124, 2, 2, 5, 0, 0), (126, 1, 0, 0, 0, 0), (127, 3, 1, 2, 3, 18), (130, 2, 2, 5, 0, 0), (132, 1, 10, 0, 0, 0), (133, 3, 13, 290, 40, 207), (136, 3, 9, 5, 1, 0), (139, 3, 8, 105, 0, 0)]) rfl) ?_
      refine xg_t (xg_iload (va := (0, 0)) rfl rfl) ?_
      refine xg_t (xg_gets) ?_
      refine xg_t (xg_iload (va := (0, 4)) rfl rfl) ?_
      refine xg_t (xg_ald8L (n := 4) (u := 2) xnm0 rfl rfl) ?_
      refine xg_t (xg_icF (u := 0) (v := 2) rfl xnm0 xnm0 (by decide)) ?_
      refine xg_t (xg_iload (va := (0, 0)) rfl rfl) ?_
      refine xg_t (xg_const) ?_
      refine xg_t (xg_icF (u := 0) (v := 3) rfl xnm0 xnm0 (by decide)) ?_
      refine xg_t (xg_aload (va := (2, 35)) rfl rfl) ?_
      refine xg_t (xg_iload (va := (0, n194)) rfl rfl) ?_
      refine xg_t (xg_iload (va := (0, 0)) rfl rfl) ?_
      refine xg_t (xg_aload (va := (2, 27)) rfl rfl) ?_
      refine xg_t (xg_getf (va := (2, 39)) (hb199.get (by decide) h27_11) rfl) ?_
      refine xg_t (xg_iload (va := (0, 0)) rfl rfl) ?_
      refine xg_ialdB (n := 0) (B := 4294967295) (h39_13.but hb199 (by decide)) (hb14) xnm0 (by omega) (fun u200 hu201 he202 => ?_)
      obtain ⟨g36_203, h36_204, hb205⟩ := (hI 36 (by decide) : cpI 12 16 4294967295 (wget w 36))
      have h36_204 : xRow w 36 12 16 g36_203 := h36_204
      refine xg_cVv mX5_put (vs := [(0, n194), (0, 0), (0, u200)]) (rest := []) (cn1 := 0) (sl1 := 0) rfl (rputI (lim := 4) (wd := 3) (B := 4294967295) hk198 (h36_204.but hb199 (by decide)) (hb205) (by decide) (by omega) (by decide) (by decide) (by omega) (by omega) (by omega)) rfl hk198 rfl rfl rfl rfl rfl rfl (fun w206 hq207 => ?_)
      obtain ⟨g208, hr209, hb210, hb211⟩ := hq207
      refine xg_t (xg_iinc (u := 0) (z := 1) (l1 := [(4, (0, n194)), (3, (2, 35)), (0, (2, 27)), (1, (0, 4)), (2, (0, pc_))]) rfl rfl (by decide) rfl) ?_
      refine xg_t (xg_goto) ?_
      refine xg_t (xg_blk (b := [(105, 2, 2, 5, 0, 0), (107, 3, 37, 1, 0, 115), (110, 1, 2, 1, 0, 0), (111, 1, 10, 0, 0, 0), (112, 3, 6, 142, 3, 0), (115, 2, 2, 5, 0, 0), (117, 1, 3, 3, 0, 0), (118, 3, 6, 142, 3, 0), (121, 1, 0, 3, 0, 0), (122, 2, 2, 4, 0, 0), (124, 2, 2, 5, 0, 0), (126, 1, 0, 0, 0, 0), (127, 3, 1, 2, 3, 18), (130, 2, 2, 5, 0, 0), (132, 1, 10, 0, 0, 0), (133, 3, 13, 290, 40, 207), (136, 3, 9, 5, 1, 0), (139, 3, 8, 105, 0, 0)]) rfl) ?_
      refine xg_t (xg_iload (va := (0, 1)) rfl rfl) ?_
      refine xg_t (xg_gets) ?_
      refine xg_t (xg_iload (va := (0, 4)) rfl rfl) ?_
      refine xg_t (xg_ald8L (n := 4) (u := 2) xnm0 rfl rfl) ?_
      refine xg_t (xg_icF (u := 1) (v := 2) rfl xnm0 xnm0 (by decide)) ?_
      refine xg_t (xg_iload (va := (0, 1)) rfl rfl) ?_
      refine xg_t (xg_const) ?_
      refine xg_t (xg_icF (u := 1) (v := 3) rfl xnm0 xnm0 (by decide)) ?_
      refine xg_t (xg_aload (va := (2, 35)) rfl rfl) ?_
      refine xg_t (xg_iload (va := (0, n194)) rfl rfl) ?_
      refine xg_t (xg_iload (va := (0, 1)) rfl rfl) ?_
      refine xg_t (xg_aload (va := (2, 27)) rfl rfl) ?_
      refine xg_t (xg_getf (va := (2, 39)) (hb211.get (by decide) (hb199.get (by decide) h27_11)) rfl) ?_
      refine xg_t (xg_iload (va := (0, 1)) rfl rfl) ?_
      refine xg_ialdB (n := 1) (B := 4294967295) ((h39_13.but hb199 (by decide)).but hb211 (by decide)) (hb14) xnm0 (by omega) (fun u212 hu213 he214 => ?_)
      refine xg_cVv mX5_put (vs := [(0, n194), (0, 1), (0, u212)]) (rest := []) (cn1 := 0) (sl1 := 0) rfl (rputI (lim := 4) (wd := 3) (B := 4294967295) (hb211.get (by decide) hk198) hr209 (hb210) (by decide) (by omega) (by decide) (by decide) (by omega) (by omega) (by omega)) rfl (hb211.get (by decide) hk198) rfl rfl rfl rfl rfl rfl (fun w215 hq216 => ?_)
      obtain ⟨g217, hr218, hb219, hb220⟩ := hq216
      refine xg_t (xg_iinc (u := 1) (z := 2) (l1 := [(4, (0, n194)), (3, (2, 35)), (0, (2, 27)), (1, (0, 4)), (2, (0, pc_))]) rfl rfl (by decide) rfl) ?_
      refine xg_t (xg_goto) ?_
      refine xg_t (xg_blk (b := [(105, 2, 2, 5, 0, 0), (107, 3, 37, 1, 0, 115), (110, 1, 2, 1, 0, 0), (111, 1, 10, 0, 0, 0), (112, 3, 6, 142, 3, 0), (115, 2, 2, 5, 0, 0), (117, 1, 3, 3, 0, 0), (118, 3, 6, 142, 3, 0), (121, 1, 0, 3, 0, 0), (122, 2, 2, 4, 0, 0), (124, 2, 2, 5, 0, 0), (126, 1, 0, 0, 0, 0), (127, 3, 1, 2, 3, 18), (130, 2, 2, 5, 0, 0), (132, 1, 10, 0, 0, 0), (133, 3, 13, 290, 40, 207), (136, 3, 9, 5, 1, 0), (139, 3, 8, 105, 0, 0)]) rfl) ?_
      refine xg_t (xg_iload (va := (0, 2)) rfl rfl) ?_
      refine xg_t (xg_gets) ?_
      refine xg_t (xg_iload (va := (0, 4)) rfl rfl) ?_
      refine xg_t (xg_ald8L (n := 4) (u := 2) xnm0 rfl rfl) ?_
      refine xg_t (xg_icT (u := 2) (v := 2) rfl xnm0 xnm0 (by decide)) ?_
      refine xg_t (xg_blk (b := [(142, 1, 2, 1, 0, 0), (143, 3, 7, 165, 1, 0), (146, 1, 0, 3, 0, 0), (147, 2, 2, 4, 0, 0), (149, 1, 3, 3, 0, 0), (150, 1, 0, 0, 0, 0), (151, 3, 1, 2, 6, 153), (154, 3, 7, 161, 0, 0), (157, 1, 3, 1, 0, 0), (158, 3, 8, 162, 0, 0)]) rfl) ?_
      refine xg_t (xg_iload (va := (0, 4)) rfl rfl) ?_
      refine xg_t (xg_ifT (u := 4) rfl xnm0 (by decide)) ?_
      refine xg_t (xg_blk (b := [(165, 1, 2, 1, 0, 0), (166, 1, 3, 4, 0, 0), (167, 3, 6, 188, 1, 0), (170, 2, 2, 4, 0, 0), (172, 1, 0, 0, 0, 0), (173, 3, 1, 2, 5, 25), (176, 1, 31, 0, 0, 0), (177, 3, 6, 188, 3, 0), (180, 1, 0, 0, 0, 0), (181, 3, 1, 2, 5, 25), (184, 2, 2, 4, 0, 0), (186, 1, 2, 2, 0, 0), (187, 1, 17, 0, 0, 0)]) rfl) ?_
      refine xg_t (xg_iload (va := (0, 4)) rfl rfl) ?_
      refine xg_t (xg_const) ?_
      refine xg_t (xg_icF (u := 4) (v := 4) rfl xnm0 xnm0 (by decide)) ?_
      refine xg_t (xg_iload (va := (0, n194)) rfl rfl) ?_
      refine xg_t (xg_aload (va := (2, 27)) rfl rfl) ?_
      refine xg_t (xg_getf (va := (2, 41)) (hb220.get (by decide) (hb211.get (by decide) (hb199.get (by decide) h27_11))) rfl) ?_
      obtain ⟨us221, ha222, ha223⟩ := id (((h41_16.but hb199 (by decide)).but hb211 (by decide)).but hb220 (by decide))
      refine xg_t (xg_alen ha222) ?_
      by_cases hc224 : xbs n194 < xbs 20
      · have hc224u := hc224
        unfold xbs at hc224u
        refine xg_t (xg_icF (u := n194) (v := 20) rfl xnm0 xnm0 (xjs_geF hc224)) ?_
        refine xg_t (xg_aload (va := (2, 27)) rfl rfl) ?_
        refine xg_t (xg_getf (va := (2, 41)) (hb220.get (by decide) (hb211.get (by decide) (hb199.get (by decide) h27_11))) rfl) ?_
        refine xg_t (xg_iload (va := (0, n194)) rfl rfl) ?_
        refine xg_t (xg_iload (va := (0, pc_)) rfl rfl) ?_
        refine xg_iastK (n := n194) (u := pc_) (((h41_16.but hb199 (by decide)).but hb211 (by decide)).but hb220 (by decide)) xnm0 xnm0 rfl (by omega) (fun w225 hr226 hb227 => ?_)
        refine xg_t (xg_blk (b := [(188, 1, 12, 0, 0, 0)]) rfl) ?_
        exact xg_e ⟨w225, ⟨rfl, rfl⟩, xInv.up (S := [35, 36, 41]) hI ((((xFr.of (S := [35, 36, 41]) hb199 (by decide)).tr (xFr.of (S := [35, 36, 41]) hb211 (by decide))).tr (xFr.of (S := [35, 36, 41]) hb220 (by decide))).tr (xFr.of (S := [35, 36, 41]) hb227 (by decide))) (List.forall_mem_cons.mpr ⟨(show cp35 (wget w225 35) from ⟨s196, (hb227.get (by decide) (hb220.get (by decide) (hb211.get (by decide) hk198))), by omega⟩), List.forall_mem_cons.mpr ⟨(show cpI 12 16 4294967295 (wget w225 36) from ⟨_, (hr218.but hb227 (by decide)), hb219⟩), List.forall_mem_cons.mpr ⟨(show cpI 20 20 4294967295 (wget w225 41) from ⟨_, hr226, xrb (by omega) (hb17)⟩), fun _ h => absurd h List.not_mem_nil⟩⟩⟩), ((((xFr.of (S := [29, 30, 31, 32, 33, 34, 35, 36, 37, 38, 41]) hb199 (by decide)).tr (xFr.of (S := [29, 30, 31, 32, 33, 34, 35, 36, 37, 38, 41]) hb211 (by decide))).tr (xFr.of (S := [29, 30, 31, 32, 33, 34, 35, 36, 37, 38, 41]) hb220 (by decide))).tr (xFr.of (S := [29, 30, 31, 32, 33, 34, 35, 36, 37, 38, 41]) hb227 (by decide)))⟩
      · have hc224u := hc224
        unfold xbs at hc224u
        have hn228 : n194 ≤ 2147483647 := by omega
        refine xg_t (xg_icT (u := n194) (v := 20) rfl xnm0 xnm0 (xjs_geT hc224)) ?_
        refine xg_t (xg_blk (b := [(188, 1, 12, 0, 0, 0)]) rfl) ?_
        exact xg_e ⟨w215, ⟨rfl, rfl⟩, xInv.up (S := [35, 36]) hI (((xFr.of (S := [35, 36]) hb199 (by decide)).tr (xFr.of (S := [35, 36]) hb211 (by decide))).tr (xFr.of (S := [35, 36]) hb220 (by decide))) (List.forall_mem_cons.mpr ⟨(show cp35 (wget w215 35) from ⟨s196, (hb220.get (by decide) (hb211.get (by decide) hk198)), by omega⟩), List.forall_mem_cons.mpr ⟨(show cpI 12 16 4294967295 (wget w215 36) from ⟨_, hr218, hb219⟩), fun _ h => absurd h List.not_mem_nil⟩⟩), (((xFr.of (S := [29, 30, 31, 32, 33, 34, 35, 36, 37, 38, 41]) hb199 (by decide)).tr (xFr.of (S := [29, 30, 31, 32, 33, 34, 35, 36, 37, 38, 41]) hb211 (by decide))).tr (xFr.of (S := [29, 30, 31, 32, 33, 34, 35, 36, 37, 38, 41]) hb220 (by decide)))⟩
  · obtain ⟨f28_229, f28_231, f28_233, f28_235, f28_237, h28_239, hb230, hb232, hb234, hb236, hb238⟩ := (hI 28 (by decide) : cp28 (wget w 28))
    refine xg_t (xg_cVr mX1_rowsOf (vs := [(0, 4)]) (rest := []) (rs := [(2, 37)]) (cn1 := 0) (sl1 := 0) rfl (hp20) rfl h28_239 rfl rfl rfl rfl rfl rfl rfl) ?_
    refine xg_t (xg_astore (l1 := [(0, (2, 27)), (1, (0, 4)), (2, (0, pc_))]) rfl rfl rfl) ?_
    refine xg_t (xg_aload (va := (2, 37)) rfl rfl) ?_
    refine xg_t (xg_ifnullF) ?_
    refine xg_t (xg_aload (va := (2, 37)) rfl rfl) ?_
    obtain ⟨f37_240, h37_242, hb241⟩ := (hI 37 (by decide) : cp37 (wget w 37))
    refine xg_t (xg_cVr mX5_isFull (vs := []) (rest := []) (rs := [(0, if 20 ≤ f37_240 then 1 else 0)]) (cn1 := 0) (sl1 := 0) rfl (rfull_ok h37_242 (by decide) (by omega)) rfl h37_242 rfl rfl rfl rfl rfl rfl rfl) ?_
    by_cases hc243 : 20 ≤ f37_240
    · refine xg_t (xg_ifF (u := (if 20 ≤ f37_240 then 1 else 0)) rfl xnm0 (xj_eqF (xite1 hc243))) ?_
      refine xg_t (xg_blk (b := [(95, 1, 12, 0, 0, 0)]) rfl) ?_
      exact xg_e ⟨w, ⟨rfl, rfl⟩, hI, xFr.rf⟩
    · refine xg_t (xg_ifT (u := (if 20 ≤ f37_240 then 1 else 0)) rfl xnm0 (xj_eqT (xite0 hc243))) ?_
      refine xg_t (xg_blk (b := [(96, 1, 0, 3, 0, 0), (97, 3, 13, 286, 40, 204), (100, 2, 15, 4, 0, 0), (102, 1, 3, 0, 0, 0), (103, 2, 15, 5, 0, 0)]) rfl) ?_
      refine xg_t (xg_aload (va := (2, 37)) rfl rfl) ?_
      refine xg_cVi mX5_grow (vs := []) (rest := []) (cn1 := 0) (sl1 := 0) rfl (rgrowI h37_242 (by decide) (by omega)) rfl h37_242 rfl rfl rfl rfl rfl rfl (fun n246 w244 hq245 => ?_)
      obtain ⟨hn247, s248, hs249, hk250, hb251⟩ := hq245
      refine xg_t (xg_istore (l1 := [(3, (2, 37)), (0, (2, 27)), (1, (0, 4)), (2, (0, pc_))]) rfl rfl rfl) ?_
      refine xg_t (xg_const) ?_
      refine xg_t (xg_istore (l1 := [(4, (0, n246)), (3, (2, 37)), (0, (2, 27)), (1, (0, 4)), (2, (0, pc_))]) rfl rfl rfl) ?_
      refine xg_t (xg_blk (b := [(105, 2, 2, 5, 0, 0), (107, 3, 37, 1, 0, 115), (110, 1, 2, 1, 0, 0), (111, 1, 10, 0, 0, 0), (112, 3, 6, 142, 3, 0), (115, 2, 2, 5, 0, 0), (117, 1, 3, 3, 0, 0), (118, 3, 6, 142, 3, 0), (121, 1, 0, 3, 0, 0), (122, 2, 2, 4, 0, 0), (124, 2, 2, 5, 0, 0), (126, 1, 0, 0, 0, 0), (127, 3, 1, 2, 3, 18), (130, 2, 2, 5, 0, 0), (132, 1, 10, 0, 0, 0), (133, 3, 13, 290, 40, 207), (136, 3, 9, 5, 1, 0), (139, 3, 8, 105, 0, 0)]) rfl) ?_
      refine xg_t (xg_iload (va := (0, 0)) rfl rfl) ?_
      refine xg_t (xg_gets) ?_
      refine xg_t (xg_iload (va := (0, 4)) rfl rfl) ?_
      refine xg_t (xg_ald8L (n := 4) (u := 2) xnm0 rfl rfl) ?_
      refine xg_t (xg_icF (u := 0) (v := 2) rfl xnm0 xnm0 (by decide)) ?_
      refine xg_t (xg_iload (va := (0, 0)) rfl rfl) ?_
      refine xg_t (xg_const) ?_
      refine xg_t (xg_icF (u := 0) (v := 3) rfl xnm0 xnm0 (by decide)) ?_
      refine xg_t (xg_aload (va := (2, 37)) rfl rfl) ?_
      refine xg_t (xg_iload (va := (0, n246)) rfl rfl) ?_
      refine xg_t (xg_iload (va := (0, 0)) rfl rfl) ?_
      refine xg_t (xg_aload (va := (2, 27)) rfl rfl) ?_
      refine xg_t (xg_getf (va := (2, 39)) (hb251.get (by decide) h27_11) rfl) ?_
      refine xg_t (xg_iload (va := (0, 0)) rfl rfl) ?_
      refine xg_ialdB (n := 0) (B := 4294967295) (h39_13.but hb251 (by decide)) (hb14) xnm0 (by omega) (fun u252 hu253 he254 => ?_)
      obtain ⟨g38_255, h38_256, hb257⟩ := (hI 38 (by decide) : cpI 40 17 4294967295 (wget w 38))
      have h38_256 : xRow w 38 40 17 g38_255 := h38_256
      refine xg_cVv mX5_put (vs := [(0, n246), (0, 0), (0, u252)]) (rest := []) (cn1 := 0) (sl1 := 0) rfl (rputI (lim := 20) (wd := 2) (B := 4294967295) hk250 (h38_256.but hb251 (by decide)) (hb257) (by decide) (by omega) (by decide) (by decide) (by omega) (by omega) (by omega)) rfl hk250 rfl rfl rfl rfl rfl rfl (fun w258 hq259 => ?_)
      obtain ⟨g260, hr261, hb262, hb263⟩ := hq259
      refine xg_t (xg_iinc (u := 0) (z := 1) (l1 := [(4, (0, n246)), (3, (2, 37)), (0, (2, 27)), (1, (0, 4)), (2, (0, pc_))]) rfl rfl (by decide) rfl) ?_
      refine xg_t (xg_goto) ?_
      refine xg_t (xg_blk (b := [(105, 2, 2, 5, 0, 0), (107, 3, 37, 1, 0, 115), (110, 1, 2, 1, 0, 0), (111, 1, 10, 0, 0, 0), (112, 3, 6, 142, 3, 0), (115, 2, 2, 5, 0, 0), (117, 1, 3, 3, 0, 0), (118, 3, 6, 142, 3, 0), (121, 1, 0, 3, 0, 0), (122, 2, 2, 4, 0, 0), (124, 2, 2, 5, 0, 0), (126, 1, 0, 0, 0, 0), (127, 3, 1, 2, 3, 18), (130, 2, 2, 5, 0, 0), (132, 1, 10, 0, 0, 0), (133, 3, 13, 290, 40, 207), (136, 3, 9, 5, 1, 0), (139, 3, 8, 105, 0, 0)]) rfl) ?_
      refine xg_t (xg_iload (va := (0, 1)) rfl rfl) ?_
      refine xg_t (xg_gets) ?_
      refine xg_t (xg_iload (va := (0, 4)) rfl rfl) ?_
      refine xg_t (xg_ald8L (n := 4) (u := 2) xnm0 rfl rfl) ?_
      refine xg_t (xg_icF (u := 1) (v := 2) rfl xnm0 xnm0 (by decide)) ?_
      refine xg_t (xg_iload (va := (0, 1)) rfl rfl) ?_
      refine xg_t (xg_const) ?_
      refine xg_t (xg_icF (u := 1) (v := 3) rfl xnm0 xnm0 (by decide)) ?_
      refine xg_t (xg_aload (va := (2, 37)) rfl rfl) ?_
      refine xg_t (xg_iload (va := (0, n246)) rfl rfl) ?_
      refine xg_t (xg_iload (va := (0, 1)) rfl rfl) ?_
      refine xg_t (xg_aload (va := (2, 27)) rfl rfl) ?_
      refine xg_t (xg_getf (va := (2, 39)) (hb263.get (by decide) (hb251.get (by decide) h27_11)) rfl) ?_
      refine xg_t (xg_iload (va := (0, 1)) rfl rfl) ?_
      refine xg_ialdB (n := 1) (B := 4294967295) ((h39_13.but hb251 (by decide)).but hb263 (by decide)) (hb14) xnm0 (by omega) (fun u264 hu265 he266 => ?_)
      refine xg_cVv mX5_put (vs := [(0, n246), (0, 1), (0, u264)]) (rest := []) (cn1 := 0) (sl1 := 0) rfl (rputI (lim := 20) (wd := 2) (B := 4294967295) (hb263.get (by decide) hk250) hr261 (hb262) (by decide) (by omega) (by decide) (by decide) (by omega) (by omega) (by omega)) rfl (hb263.get (by decide) hk250) rfl rfl rfl rfl rfl rfl (fun w267 hq268 => ?_)
      obtain ⟨g269, hr270, hb271, hb272⟩ := hq268
      refine xg_t (xg_iinc (u := 1) (z := 2) (l1 := [(4, (0, n246)), (3, (2, 37)), (0, (2, 27)), (1, (0, 4)), (2, (0, pc_))]) rfl rfl (by decide) rfl) ?_
      refine xg_t (xg_goto) ?_
      refine xg_t (xg_blk (b := [(105, 2, 2, 5, 0, 0), (107, 3, 37, 1, 0, 115), (110, 1, 2, 1, 0, 0), (111, 1, 10, 0, 0, 0), (112, 3, 6, 142, 3, 0), (115, 2, 2, 5, 0, 0), (117, 1, 3, 3, 0, 0), (118, 3, 6, 142, 3, 0), (121, 1, 0, 3, 0, 0), (122, 2, 2, 4, 0, 0), (124, 2, 2, 5, 0, 0), (126, 1, 0, 0, 0, 0), (127, 3, 1, 2, 3, 18), (130, 2, 2, 5, 0, 0), (132, 1, 10, 0, 0, 0), (133, 3, 13, 290, 40, 207), (136, 3, 9, 5, 1, 0), (139, 3, 8, 105, 0, 0)]) rfl) ?_
      refine xg_t (xg_iload (va := (0, 2)) rfl rfl) ?_
      refine xg_t (xg_gets) ?_
      refine xg_t (xg_iload (va := (0, 4)) rfl rfl) ?_
      refine xg_t (xg_ald8L (n := 4) (u := 2) xnm0 rfl rfl) ?_
      refine xg_t (xg_icT (u := 2) (v := 2) rfl xnm0 xnm0 (by decide)) ?_
      refine xg_t (xg_blk (b := [(142, 1, 2, 1, 0, 0), (143, 3, 7, 165, 1, 0), (146, 1, 0, 3, 0, 0), (147, 2, 2, 4, 0, 0), (149, 1, 3, 3, 0, 0), (150, 1, 0, 0, 0, 0), (151, 3, 1, 2, 6, 153), (154, 3, 7, 161, 0, 0), (157, 1, 3, 1, 0, 0), (158, 3, 8, 162, 0, 0)]) rfl) ?_
      refine xg_t (xg_iload (va := (0, 4)) rfl rfl) ?_
      refine xg_t (xg_ifT (u := 4) rfl xnm0 (by decide)) ?_
      refine xg_t (xg_blk (b := [(165, 1, 2, 1, 0, 0), (166, 1, 3, 4, 0, 0), (167, 3, 6, 188, 1, 0), (170, 2, 2, 4, 0, 0), (172, 1, 0, 0, 0, 0), (173, 3, 1, 2, 5, 25), (176, 1, 31, 0, 0, 0), (177, 3, 6, 188, 3, 0), (180, 1, 0, 0, 0, 0), (181, 3, 1, 2, 5, 25), (184, 2, 2, 4, 0, 0), (186, 1, 2, 2, 0, 0), (187, 1, 17, 0, 0, 0)]) rfl) ?_
      refine xg_t (xg_iload (va := (0, 4)) rfl rfl) ?_
      refine xg_t (xg_const) ?_
      refine xg_t (xg_icF (u := 4) (v := 4) rfl xnm0 xnm0 (by decide)) ?_
      refine xg_t (xg_iload (va := (0, n246)) rfl rfl) ?_
      refine xg_t (xg_aload (va := (2, 27)) rfl rfl) ?_
      refine xg_t (xg_getf (va := (2, 41)) (hb272.get (by decide) (hb263.get (by decide) (hb251.get (by decide) h27_11))) rfl) ?_
      obtain ⟨us273, ha274, ha275⟩ := id (((h41_16.but hb251 (by decide)).but hb263 (by decide)).but hb272 (by decide))
      refine xg_t (xg_alen ha274) ?_
      by_cases hc276 : xbs n246 < xbs 20
      · have hc276u := hc276
        unfold xbs at hc276u
        refine xg_t (xg_icF (u := n246) (v := 20) rfl xnm0 xnm0 (xjs_geF hc276)) ?_
        refine xg_t (xg_aload (va := (2, 27)) rfl rfl) ?_
        refine xg_t (xg_getf (va := (2, 41)) (hb272.get (by decide) (hb263.get (by decide) (hb251.get (by decide) h27_11))) rfl) ?_
        refine xg_t (xg_iload (va := (0, n246)) rfl rfl) ?_
        refine xg_t (xg_iload (va := (0, pc_)) rfl rfl) ?_
        refine xg_iastK (n := n246) (u := pc_) (((h41_16.but hb251 (by decide)).but hb263 (by decide)).but hb272 (by decide)) xnm0 xnm0 rfl (by omega) (fun w277 hr278 hb279 => ?_)
        refine xg_t (xg_blk (b := [(188, 1, 12, 0, 0, 0)]) rfl) ?_
        exact xg_e ⟨w277, ⟨rfl, rfl⟩, xInv.up (S := [37, 38, 41]) hI ((((xFr.of (S := [37, 38, 41]) hb251 (by decide)).tr (xFr.of (S := [37, 38, 41]) hb263 (by decide))).tr (xFr.of (S := [37, 38, 41]) hb272 (by decide))).tr (xFr.of (S := [37, 38, 41]) hb279 (by decide))) (List.forall_mem_cons.mpr ⟨(show cp37 (wget w277 37) from ⟨s248, (hb279.get (by decide) (hb272.get (by decide) (hb263.get (by decide) hk250))), by omega⟩), List.forall_mem_cons.mpr ⟨(show cpI 40 17 4294967295 (wget w277 38) from ⟨_, (hr270.but hb279 (by decide)), hb271⟩), List.forall_mem_cons.mpr ⟨(show cpI 20 20 4294967295 (wget w277 41) from ⟨_, hr278, xrb (by omega) (hb17)⟩), fun _ h => absurd h List.not_mem_nil⟩⟩⟩), ((((xFr.of (S := [29, 30, 31, 32, 33, 34, 35, 36, 37, 38, 41]) hb251 (by decide)).tr (xFr.of (S := [29, 30, 31, 32, 33, 34, 35, 36, 37, 38, 41]) hb263 (by decide))).tr (xFr.of (S := [29, 30, 31, 32, 33, 34, 35, 36, 37, 38, 41]) hb272 (by decide))).tr (xFr.of (S := [29, 30, 31, 32, 33, 34, 35, 36, 37, 38, 41]) hb279 (by decide)))⟩
      · have hc276u := hc276
        unfold xbs at hc276u
        have hn280 : n246 ≤ 2147483647 := by omega
        refine xg_t (xg_icT (u := n246) (v := 20) rfl xnm0 xnm0 (xjs_geT hc276)) ?_
        refine xg_t (xg_blk (b := [(188, 1, 12, 0, 0, 0)]) rfl) ?_
        exact xg_e ⟨w267, ⟨rfl, rfl⟩, xInv.up (S := [37, 38]) hI (((xFr.of (S := [37, 38]) hb251 (by decide)).tr (xFr.of (S := [37, 38]) hb263 (by decide))).tr (xFr.of (S := [37, 38]) hb272 (by decide))) (List.forall_mem_cons.mpr ⟨(show cp37 (wget w267 37) from ⟨s248, (hb272.get (by decide) (hb263.get (by decide) hk250)), by omega⟩), List.forall_mem_cons.mpr ⟨(show cpI 40 17 4294967295 (wget w267 38) from ⟨_, hr270, hb271⟩), fun _ h => absurd h List.not_mem_nil⟩⟩), (((xFr.of (S := [29, 30, 31, 32, 33, 34, 35, 36, 37, 38, 41]) hb251 (by decide)).tr (xFr.of (S := [29, 30, 31, 32, 33, 34, 35, 36, 37, 38, 41]) hb263 (by decide))).tr (xFr.of (S := [29, 30, 31, 32, 33, 34, 35, 36, 37, 38, 41]) hb272 (by decide)))⟩
  · obtain ⟨f28_281, f28_283, f28_285, f28_287, f28_289, h28_291, hb282, hb284, hb286, hb288, hb290⟩ := (hI 28 (by decide) : cp28 (wget w 28))
    refine xg_t (xg_cVr mX1_rowsOf (vs := [(0, 4)]) (rest := []) (rs := [(3, 0)]) (cn1 := 0) (sl1 := 0) rfl (hp20) rfl h28_291 rfl rfl rfl rfl rfl rfl rfl) ?_
    refine xg_t (xg_astore (l1 := [(0, (2, 27)), (1, (0, 4)), (2, (0, pc_))]) rfl rfl rfl) ?_
    refine xg_t (xg_aload (va := (3, 0)) rfl rfl) ?_
    refine xg_t (xg_ifnullT) ?_
    refine xg_t (xg_blk (b := [(95, 1, 12, 0, 0, 0)]) rfl) ?_
    exact xg_e ⟨w, ⟨rfl, rfl⟩, hI, xFr.rf⟩
theorem ftFine5 {pc_ : Nat} (hI : xInv w) (h1 : pc_ ≤ 4294967295) : xPi (d + 3) mX2_isFine [(2, 27), (0, 5), (0, pc_)] w bd fc rr (fun n w' => (n = 0 ∨ (n = 1 ∧ ∃ f : Nat → Nat, xRow w' 39 3 18 f ∧ (∀ j, f j ≤ 4294967295) ∧ f 0 ≤ 10 ∧ f 1 ≤ 10)) ∧ xInv w' ∧ xFr [27] w w') := by
  refine xPi.of ?_
  show xTo (d + 3) mX2_isFine (0, [], [(0, (2, 27)), (1, (0, 5)), (2, (0, pc_))], [], (w, bd, fc, 0, 0, rr)) (fun φ => ∃ n w', xEnd 4 [(0, n)] (w', bd, fc, 0, 0, rr) φ ∧ (n = 0 ∨ (n = 1 ∧ ∃ f : Nat → Nat, xRow w' 39 3 18 f ∧ (∀ j, f j ≤ 4294967295) ∧ f 0 ≤ 10 ∧ f 1 ≤ 10)) ∧ xInv w' ∧ xFr [27] w w')
  obtain ⟨f27_1, f27_3, f27_5, f27_7, f27_9, h27_11, hb2, hb4, hb6, hb8, hb10⟩ := (hI 27 (by decide) : cp27 (wget w 27))
  obtain ⟨g39_12, h39_13, hb14⟩ := (hI 39 (by decide) : cpI 3 18 4294967295 (wget w 39))
  have h39_13 : xRow w 39 3 18 g39_12 := h39_13
  obtain ⟨g40_15, h40_16, hb17⟩ := (hI 40 (by decide) : cpI 3 19 4294967295 (wget w 40))
  have h40_16 : xRow w 40 3 19 g40_15 := h40_16
  refine xg_t (xg_blk (b := [(0, 1, 0, 0, 0, 0), (1, 1, 2, 1, 0, 0), (2, 3, 13, 249, 16, 158), (5, 3, 7, 20, 0, 0), (8, 1, 0, 0, 0, 0), (9, 1, 3, 3, 0, 0), (10, 3, 14, 2, 9, 57), (13, 1, 0, 0, 0, 0), (14, 1, 2, 2, 0, 0), (15, 3, 14, 2, 10, 88), (18, 1, 3, 0, 0, 0), (19, 1, 12, 0, 1, 0)]) rfl) ?_
  refine xg_t (xg_aload (va := (2, 27)) rfl rfl) ?_
  refine xg_t (xg_iload (va := (0, 5)) rfl rfl) ?_
  refine xg_cVi mX2_isTooMany (vs := [(0, 5)]) (rest := []) (cn1 := 0) (sl1 := 0) rfl (ftTooMany (hI) (by omega)) rfl h27_11 rfl rfl rfl rfl rfl rfl (fun n22 w18 hq19 => ?_)
  obtain ⟨hn23, hI20, hF21⟩ := hq19
  by_cases hc24 : n22 = 0
  · refine xg_t (xg_ifT (u := n22) rfl xnm0 (xj_eqT hc24)) ?_
    refine xg_t (xg_blk (b := [(20, 1, 2, 1, 0, 0), (21, 3, 7, 30, 2, 0), (24, 1, 2, 1, 0, 0), (25, 2, 4, 7, 0, 0), (27, 3, 6, 32, 2, 0)]) rfl) ?_
    refine xg_t (xg_iload (va := (0, 5)) rfl rfl) ?_
    refine xg_t (xg_ifF (u := 5) rfl xnm0 (by decide)) ?_
    refine xg_t (xg_iload (va := (0, 5)) rfl rfl) ?_
    refine xg_t (xg_bip) ?_
    refine xg_t (xg_icT (u := 5) (v := 7) rfl xnm0 xnm0 (by decide)) ?_
    refine xg_t (xg_blk (b := [(32, 1, 3, 0, 0, 0), (33, 1, 15, 3, 0, 0)]) rfl) ?_
    refine xg_t (xg_const) ?_
    refine xg_t (xg_istore (l1 := [(0, (2, 27)), (1, (0, 5)), (2, (0, pc_))]) rfl rfl rfl) ?_
    refine xg_t (xg_blk (b := [(34, 1, 2, 3, 0, 0), (35, 3, 37, 1, 0, 115), (38, 1, 2, 1, 0, 0), (39, 1, 10, 0, 0, 0), (40, 3, 6, 101, 3, 0), (43, 1, 2, 3, 0, 0), (44, 1, 3, 3, 0, 0), (45, 3, 6, 101, 3, 0), (48, 1, 0, 0, 0, 0), (49, 3, 1, 2, 3, 18), (52, 1, 2, 3, 0, 0), (53, 1, 10, 0, 0, 0), (54, 3, 37, 2, 0, 162), (57, 1, 2, 1, 0, 0), (58, 1, 3, 3, 0, 0), (59, 1, 16, 0, 0, 0), (60, 1, 2, 3, 0, 0), (61, 1, 11, 0, 0, 0), (62, 1, 10, 0, 0, 0), (63, 3, 37, 3, 0, 165), (66, 1, 2, 1, 0, 0), (67, 1, 3, 3, 0, 0), (68, 1, 16, 0, 0, 0), (69, 1, 2, 3, 0, 0), (70, 1, 11, 0, 0, 0), (71, 1, 10, 0, 0, 0), (72, 3, 13, 70, 91, 168), (75, 3, 7, 95, 1, 0), (78, 1, 0, 0, 0, 0), (79, 1, 3, 2, 0, 0), (80, 3, 14, 2, 9, 57), (83, 1, 0, 0, 0, 0), (84, 1, 0, 0, 0, 0), (85, 3, 1, 2, 4, 22), (88, 1, 2, 3, 0, 0), (89, 1, 10, 0, 0, 0), (90, 3, 14, 2, 10, 88), (93, 1, 3, 0, 0, 0), (94, 1, 12, 0, 1, 0)]) rfl) ?_
    refine xg_t (xg_iload (va := (0, 0)) rfl rfl) ?_
    refine xg_t (xg_gets) ?_
    refine xg_t (xg_iload (va := (0, 5)) rfl rfl) ?_
    refine xg_t (xg_ald8L (n := 5) (u := 2) xnm0 rfl rfl) ?_
    refine xg_t (xg_icF (u := 0) (v := 2) rfl xnm0 xnm0 (by decide)) ?_
    refine xg_t (xg_iload (va := (0, 0)) rfl rfl) ?_
    refine xg_t (xg_const) ?_
    refine xg_t (xg_icF (u := 0) (v := 3) rfl xnm0 xnm0 (by decide)) ?_
    refine xg_t (xg_aload (va := (2, 27)) rfl rfl) ?_
    refine xg_t (xg_getf (va := (2, 39)) (hF21.get (by decide) h27_11) rfl) ?_
    refine xg_t (xg_iload (va := (0, 0)) rfl rfl) ?_
    refine xg_ialdB (n := 0) (B := 4294967295) (h39_13.fr hF21 (by decide)) (hb14) xnm0 (by omega) (fun u25 hu26 he27 => ?_)
    refine xg_t (xg_gets) ?_
    refine xg_t (xg_iload (va := (0, 5)) rfl rfl) ?_
    refine xg_t (xg_const) ?_
    refine xg_t (xg_imul (u := 5) (v := 3) (z := 15) xnm0 xnm0 (by decide)) ?_
    refine xg_t (xg_iload (va := (0, 0)) rfl rfl) ?_
    refine xg_t (xg_iadd (u := 15) (v := 0) (z := 15) xnm0 xnm0 (by decide)) ?_
    refine xg_t (xg_ald8L (n := 15) (u := 1) xnm0 rfl rfl) ?_
    refine xg_t (xg_gets) ?_
    refine xg_t (xg_iload (va := (0, 5)) rfl rfl) ?_
    refine xg_t (xg_const) ?_
    refine xg_t (xg_imul (u := 5) (v := 3) (z := 15) xnm0 xnm0 (by decide)) ?_
    refine xg_t (xg_iload (va := (0, 0)) rfl rfl) ?_
    refine xg_t (xg_iadd (u := 15) (v := 0) (z := 15) xnm0 xnm0 (by decide)) ?_
    refine xg_t (xg_ald8L (n := 15) (u := 10) xnm0 rfl rfl) ?_
    refine xg_t (xg_cNr mX11_isIn (vs := [(0, u25), (0, 1), (0, 10)]) (rest := []) (rs := [(0, if 1 ≤ u25 ∧ u25 ≤ 10 then 1 else 0)]) (cn1 := 0) (sl1 := 0) rfl (isIn_ok (by omega) (by omega) (by omega)) rfl rfl rfl rfl rfl rfl rfl rfl) ?_
    by_cases hc28 : 1 ≤ u25 ∧ u25 ≤ 10
    · refine xg_t (xg_ifT (u := (if 1 ≤ u25 ∧ u25 ≤ 10 then 1 else 0)) rfl xnm0 (xj_neT (xite1 hc28))) ?_
      refine xg_t (xg_blk (b := [(95, 3, 9, 3, 1, 0), (98, 3, 8, 34, 0, 0)]) rfl) ?_
      refine xg_t (xg_iinc (u := 0) (z := 1) (l1 := [(0, (2, 27)), (1, (0, 5)), (2, (0, pc_))]) rfl rfl (by decide) rfl) ?_
      refine xg_t (xg_goto) ?_
      refine xg_t (xg_blk (b := [(34, 1, 2, 3, 0, 0), (35, 3, 37, 1, 0, 115), (38, 1, 2, 1, 0, 0), (39, 1, 10, 0, 0, 0), (40, 3, 6, 101, 3, 0), (43, 1, 2, 3, 0, 0), (44, 1, 3, 3, 0, 0), (45, 3, 6, 101, 3, 0), (48, 1, 0, 0, 0, 0), (49, 3, 1, 2, 3, 18), (52, 1, 2, 3, 0, 0), (53, 1, 10, 0, 0, 0), (54, 3, 37, 2, 0, 162), (57, 1, 2, 1, 0, 0), (58, 1, 3, 3, 0, 0), (59, 1, 16, 0, 0, 0), (60, 1, 2, 3, 0, 0), (61, 1, 11, 0, 0, 0), (62, 1, 10, 0, 0, 0), (63, 3, 37, 3, 0, 165), (66, 1, 2, 1, 0, 0), (67, 1, 3, 3, 0, 0), (68, 1, 16, 0, 0, 0), (69, 1, 2, 3, 0, 0), (70, 1, 11, 0, 0, 0), (71, 1, 10, 0, 0, 0), (72, 3, 13, 70, 91, 168), (75, 3, 7, 95, 1, 0), (78, 1, 0, 0, 0, 0), (79, 1, 3, 2, 0, 0), (80, 3, 14, 2, 9, 57), (83, 1, 0, 0, 0, 0), (84, 1, 0, 0, 0, 0), (85, 3, 1, 2, 4, 22), (88, 1, 2, 3, 0, 0), (89, 1, 10, 0, 0, 0), (90, 3, 14, 2, 10, 88), (93, 1, 3, 0, 0, 0), (94, 1, 12, 0, 1, 0)]) rfl) ?_
      refine xg_t (xg_iload (va := (0, 1)) rfl rfl) ?_
      refine xg_t (xg_gets) ?_
      refine xg_t (xg_iload (va := (0, 5)) rfl rfl) ?_
      refine xg_t (xg_ald8L (n := 5) (u := 2) xnm0 rfl rfl) ?_
      refine xg_t (xg_icF (u := 1) (v := 2) rfl xnm0 xnm0 (by decide)) ?_
      refine xg_t (xg_iload (va := (0, 1)) rfl rfl) ?_
      refine xg_t (xg_const) ?_
      refine xg_t (xg_icF (u := 1) (v := 3) rfl xnm0 xnm0 (by decide)) ?_
      refine xg_t (xg_aload (va := (2, 27)) rfl rfl) ?_
      refine xg_t (xg_getf (va := (2, 39)) (hF21.get (by decide) h27_11) rfl) ?_
      refine xg_t (xg_iload (va := (0, 1)) rfl rfl) ?_
      refine xg_ialdB (n := 1) (B := 4294967295) (h39_13.fr hF21 (by decide)) (hb14) xnm0 (by omega) (fun u29 hu30 he31 => ?_)
      refine xg_t (xg_gets) ?_
      refine xg_t (xg_iload (va := (0, 5)) rfl rfl) ?_
      refine xg_t (xg_const) ?_
      refine xg_t (xg_imul (u := 5) (v := 3) (z := 15) xnm0 xnm0 (by decide)) ?_
      refine xg_t (xg_iload (va := (0, 1)) rfl rfl) ?_
      refine xg_t (xg_iadd (u := 15) (v := 1) (z := 16) xnm0 xnm0 (by decide)) ?_
      refine xg_t (xg_ald8L (n := 16) (u := 1) xnm0 rfl rfl) ?_
      refine xg_t (xg_gets) ?_
      refine xg_t (xg_iload (va := (0, 5)) rfl rfl) ?_
      refine xg_t (xg_const) ?_
      refine xg_t (xg_imul (u := 5) (v := 3) (z := 15) xnm0 xnm0 (by decide)) ?_
      refine xg_t (xg_iload (va := (0, 1)) rfl rfl) ?_
      refine xg_t (xg_iadd (u := 15) (v := 1) (z := 16) xnm0 xnm0 (by decide)) ?_
      refine xg_t (xg_ald8L (n := 16) (u := 10) xnm0 rfl rfl) ?_
      refine xg_t (xg_cNr mX11_isIn (vs := [(0, u29), (0, 1), (0, 10)]) (rest := []) (rs := [(0, if 1 ≤ u29 ∧ u29 ≤ 10 then 1 else 0)]) (cn1 := 0) (sl1 := 0) rfl (isIn_ok (by omega) (by omega) (by omega)) rfl rfl rfl rfl rfl rfl rfl rfl) ?_
      by_cases hc32 : 1 ≤ u29 ∧ u29 ≤ 10
      · refine xg_t (xg_ifT (u := (if 1 ≤ u29 ∧ u29 ≤ 10 then 1 else 0)) rfl xnm0 (xj_neT (xite1 hc32))) ?_
        refine xg_t (xg_blk (b := [(95, 3, 9, 3, 1, 0), (98, 3, 8, 34, 0, 0)]) rfl) ?_
        refine xg_t (xg_iinc (u := 1) (z := 2) (l1 := [(0, (2, 27)), (1, (0, 5)), (2, (0, pc_))]) rfl rfl (by decide) rfl) ?_
        refine xg_t (xg_goto) ?_
        refine xg_t (xg_blk (b := [(34, 1, 2, 3, 0, 0), (35, 3, 37, 1, 0, 115), (38, 1, 2, 1, 0, 0), (39, 1, 10, 0, 0, 0), (40, 3, 6, 101, 3, 0), (43, 1, 2, 3, 0, 0), (44, 1, 3, 3, 0, 0), (45, 3, 6, 101, 3, 0), (48, 1, 0, 0, 0, 0), (49, 3, 1, 2, 3, 18), (52, 1, 2, 3, 0, 0), (53, 1, 10, 0, 0, 0), (54, 3, 37, 2, 0, 162), (57, 1, 2, 1, 0, 0), (58, 1, 3, 3, 0, 0), (59, 1, 16, 0, 0, 0), (60, 1, 2, 3, 0, 0), (61, 1, 11, 0, 0, 0), (62, 1, 10, 0, 0, 0), (63, 3, 37, 3, 0, 165), (66, 1, 2, 1, 0, 0), (67, 1, 3, 3, 0, 0), (68, 1, 16, 0, 0, 0), (69, 1, 2, 3, 0, 0), (70, 1, 11, 0, 0, 0), (71, 1, 10, 0, 0, 0), (72, 3, 13, 70, 91, 168), (75, 3, 7, 95, 1, 0), (78, 1, 0, 0, 0, 0), (79, 1, 3, 2, 0, 0), (80, 3, 14, 2, 9, 57), (83, 1, 0, 0, 0, 0), (84, 1, 0, 0, 0, 0), (85, 3, 1, 2, 4, 22), (88, 1, 2, 3, 0, 0), (89, 1, 10, 0, 0, 0), (90, 3, 14, 2, 10, 88), (93, 1, 3, 0, 0, 0), (94, 1, 12, 0, 1, 0)]) rfl) ?_
        refine xg_t (xg_iload (va := (0, 2)) rfl rfl) ?_
        refine xg_t (xg_gets) ?_
        refine xg_t (xg_iload (va := (0, 5)) rfl rfl) ?_
        refine xg_t (xg_ald8L (n := 5) (u := 2) xnm0 rfl rfl) ?_
        refine xg_t (xg_icT (u := 2) (v := 2) rfl xnm0 xnm0 (by decide)) ?_
        refine xg_t (xg_blk (b := [(101, 1, 3, 1, 0, 0), (102, 1, 12, 0, 1, 0)]) rfl) ?_
        refine xg_t (xg_const) ?_
        exact xg_e ⟨1, w18, ⟨rfl, rfl⟩, Or.inr ⟨rfl, _, (h39_13.fr hF21 (by decide)), hb14, by omega, by omega⟩, hI20, (hF21.up (by decide))⟩
      · refine xg_t (xg_ifF (u := (if 1 ≤ u29 ∧ u29 ≤ 10 then 1 else 0)) rfl xnm0 (xj_neF (xite0 hc32))) ?_
        refine xg_t (xg_aload (va := (2, 27)) rfl rfl) ?_
        refine xg_t (xg_const) ?_
        refine xg_putI (fl1 := [(2, 1), (2, 42), (2, 28), (2, 39), (2, 40), (2, 41), (0, f27_1), (0, f27_3), (0, f27_5), (0, 2), (0, f27_9)]) (hF21.get (by decide) h27_11) rfl rfl rfl (fun w33 hk34 hb35 => ?_)
        refine xg_t (xg_aload (va := (2, 27)) rfl rfl) ?_
        refine xg_t (xg_aload (va := (2, 27)) rfl rfl) ?_
        refine xg_t (xg_getf (va := (2, 40)) hk34 rfl) ?_
        refine xg_t (xg_iload (va := (0, 1)) rfl rfl) ?_
        refine xg_ialdB (n := 1) (B := 4294967295) ((h40_16.fr hF21 (by decide)).but hb35 (by decide)) (hb17) xnm0 (by omega) (fun u36 hu37 he38 => ?_)
        refine xg_putI (fl1 := [(2, 1), (2, 42), (2, 28), (2, 39), (2, 40), (2, 41), (0, f27_1), (0, f27_3), (0, f27_5), (0, 2), (0, u36)]) hk34 rfl rfl rfl (fun w39 hk40 hb41 => ?_)
        refine xg_t (xg_const) ?_
        exact xg_e ⟨0, w39, ⟨rfl, rfl⟩, Or.inl rfl, xInv.up (S := [27]) hI20 ((xFr.of (S := [27]) hb35 (by decide)).tr (xFr.of (S := [27]) hb41 (by decide))) (List.forall_mem_cons.mpr ⟨(show cp27 (wget w39 27) from ⟨f27_1, f27_3, f27_5, 2, u36, hk40, by omega, by omega, by omega, by omega, by omega⟩), fun _ h => absurd h List.not_mem_nil⟩), ((hF21.up (by decide)).tr ((xFr.of (S := [27]) hb35 (by decide)).tr (xFr.of (S := [27]) hb41 (by decide))))⟩
    · refine xg_t (xg_ifF (u := (if 1 ≤ u25 ∧ u25 ≤ 10 then 1 else 0)) rfl xnm0 (xj_neF (xite0 hc28))) ?_
      refine xg_t (xg_aload (va := (2, 27)) rfl rfl) ?_
      refine xg_t (xg_const) ?_
      refine xg_putI (fl1 := [(2, 1), (2, 42), (2, 28), (2, 39), (2, 40), (2, 41), (0, f27_1), (0, f27_3), (0, f27_5), (0, 2), (0, f27_9)]) (hF21.get (by decide) h27_11) rfl rfl rfl (fun w42 hk43 hb44 => ?_)
      refine xg_t (xg_aload (va := (2, 27)) rfl rfl) ?_
      refine xg_t (xg_aload (va := (2, 27)) rfl rfl) ?_
      refine xg_t (xg_getf (va := (2, 40)) hk43 rfl) ?_
      refine xg_t (xg_iload (va := (0, 0)) rfl rfl) ?_
      refine xg_ialdB (n := 0) (B := 4294967295) ((h40_16.fr hF21 (by decide)).but hb44 (by decide)) (hb17) xnm0 (by omega) (fun u45 hu46 he47 => ?_)
      refine xg_putI (fl1 := [(2, 1), (2, 42), (2, 28), (2, 39), (2, 40), (2, 41), (0, f27_1), (0, f27_3), (0, f27_5), (0, 2), (0, u45)]) hk43 rfl rfl rfl (fun w48 hk49 hb50 => ?_)
      refine xg_t (xg_const) ?_
      exact xg_e ⟨0, w48, ⟨rfl, rfl⟩, Or.inl rfl, xInv.up (S := [27]) hI20 ((xFr.of (S := [27]) hb44 (by decide)).tr (xFr.of (S := [27]) hb50 (by decide))) (List.forall_mem_cons.mpr ⟨(show cp27 (wget w48 27) from ⟨f27_1, f27_3, f27_5, 2, u45, hk49, by omega, by omega, by omega, by omega, by omega⟩), fun _ h => absurd h List.not_mem_nil⟩), ((hF21.up (by decide)).tr ((xFr.of (S := [27]) hb44 (by decide)).tr (xFr.of (S := [27]) hb50 (by decide))))⟩
  · refine xg_t (xg_ifF (u := n22) rfl xnm0 (xj_eqF hc24)) ?_
    refine xg_t (xg_aload (va := (2, 27)) rfl rfl) ?_
    refine xg_t (xg_const) ?_
    refine xg_putI (fl1 := [(2, 1), (2, 42), (2, 28), (2, 39), (2, 40), (2, 41), (0, f27_1), (0, f27_3), (0, f27_5), (0, 3), (0, f27_9)]) (hF21.get (by decide) h27_11) rfl rfl rfl (fun w51 hk52 hb53 => ?_)
    refine xg_t (xg_aload (va := (2, 27)) rfl rfl) ?_
    refine xg_t (xg_iload (va := (0, pc_)) rfl rfl) ?_
    refine xg_putI (fl1 := [(2, 1), (2, 42), (2, 28), (2, 39), (2, 40), (2, 41), (0, f27_1), (0, f27_3), (0, f27_5), (0, 3), (0, pc_)]) hk52 rfl rfl rfl (fun w54 hk55 hb56 => ?_)
    refine xg_t (xg_const) ?_
    exact xg_e ⟨0, w54, ⟨rfl, rfl⟩, Or.inl rfl, xInv.up (S := [27]) hI20 ((xFr.of (S := [27]) hb53 (by decide)).tr (xFr.of (S := [27]) hb56 (by decide))) (List.forall_mem_cons.mpr ⟨(show cp27 (wget w54 27) from ⟨f27_1, f27_3, f27_5, 3, pc_, hk55, by omega, by omega, by omega, by omega, by omega⟩), fun _ h => absurd h List.not_mem_nil⟩), ((hF21.up (by decide)).tr ((xFr.of (S := [27]) hb53 (by decide)).tr (xFr.of (S := [27]) hb56 (by decide))))⟩
theorem ftTake5 {a5 a6 a7 a8 l0 : Nat} {nf : Nat → Nat} {pc_ : Nat} (hI : xInv w) (h1 : pc_ ≤ 4294967295) (hc0 : wget w 28 = some (.inl (1, [(2, 29), (2, 31), (2, 33), (2, 35), (2, 37), (0, a5), (0, a6), (0, a7), (0, a8), (0, l0)]))) (hb5 : a5 ≤ 10) (hb6 : a6 ≤ 10) (hb7 : a7 ≤ 6) (hb8 : a8 ≤ 6) (hbl : l0 ≤ 500) (hr39 : xRow w 39 3 18 nf) (hrb : ∀ j, nf j ≤ 4294967295) (hb0 : nf 0 ≤ 10) (hb1 : nf 1 ≤ 10) : xPq (d + 1) mX2_take [(2, 27), (0, 5), (0, pc_)] w bd fc rr [] (fun w' => xInv w' ∧ xFr [27, 28] w w' ∧ (∃ a b : Nat, wget w' 28 = some (.inl (1, [(2, 29), (2, 31), (2, 33), (2, 35), (2, 37), (0, a), (0, b), (0, a7), (0, a8), (0, l0)])) ∧ a ≤ 10 ∧ b ≤ 10)) := by
  refine xPq.of ?_
  show xTo (d + 1) mX2_take (0, [], [(0, (2, 27)), (1, (0, 5)), (2, (0, pc_))], [], (w, bd, fc, 0, 0, rr)) (fun φ => ∃ w', xEnd 0 [] (w', bd, fc, 0, 0, rr) φ ∧ xInv w' ∧ xFr [27, 28] w w' ∧ (∃ a b : Nat, wget w' 28 = some (.inl (1, [(2, 29), (2, 31), (2, 33), (2, 35), (2, 37), (0, a), (0, b), (0, a7), (0, a8), (0, l0)])) ∧ a ≤ 10 ∧ b ≤ 10))
  obtain ⟨f27_1, f27_3, f27_5, f27_7, f27_9, h27_11, hb2, hb4, hb6, hb8, hb10⟩ := (hI 27 (by decide) : cp27 (wget w 27))
  refine xg_t (xg_blk (b := [(0, 1, 2, 1, 0, 0), (1, 1, 3, 5, 0, 0), (2, 3, 6, 37, 1, 0), (5, 1, 0, 0, 0, 0), (6, 3, 1, 2, 2, 12), (9, 1, 0, 0, 0, 0), (10, 3, 1, 2, 3, 18), (13, 1, 3, 0, 0, 0), (14, 1, 10, 0, 0, 0), (15, 3, 14, 1, 5, 192), (18, 1, 0, 0, 0, 0), (19, 3, 1, 2, 2, 12), (22, 1, 0, 0, 0, 0), (23, 3, 1, 2, 3, 18), (26, 1, 3, 1, 0, 0), (27, 1, 10, 0, 0, 0), (28, 3, 14, 1, 6, 195), (31, 1, 0, 0, 0, 0), (32, 1, 3, 1, 0, 0), (33, 3, 59, 2, 7, 50), (36, 1, 12, 0, 0, 0)]) rfl) ?_
  refine xg_t (xg_iload (va := (0, 5)) rfl rfl) ?_
  refine xg_t (xg_const) ?_
  refine xg_t (xg_icF (u := 5) (v := 5) rfl xnm0 xnm0 (by decide)) ?_
  refine xg_t (xg_aload (va := (2, 27)) rfl rfl) ?_
  refine xg_t (xg_getf (va := (2, 28)) h27_11 rfl) ?_
  refine xg_t (xg_aload (va := (2, 27)) rfl rfl) ?_
  refine xg_t (xg_getf (va := (2, 39)) h27_11 rfl) ?_
  refine xg_t (xg_const) ?_
  refine xg_ialdB (n := 0) (B := 4294967295) hr39 (hrb) xnm0 (by omega) (fun u12 hu13 he14 => ?_)
  refine xg_putI (fl1 := [(2, 29), (2, 31), (2, 33), (2, 35), (2, 37), (0, u12), (0, a6), (0, a7), (0, a8), (0, l0)]) hc0 rfl rfl rfl (fun w15 hk16 hb17 => ?_)
  refine xg_t (xg_aload (va := (2, 27)) rfl rfl) ?_
  refine xg_t (xg_getf (va := (2, 28)) (hb17.get (by decide) h27_11) rfl) ?_
  refine xg_t (xg_aload (va := (2, 27)) rfl rfl) ?_
  refine xg_t (xg_getf (va := (2, 39)) (hb17.get (by decide) h27_11) rfl) ?_
  refine xg_t (xg_const) ?_
  refine xg_ialdB (n := 1) (B := 4294967295) (hr39.but hb17 (by decide)) (hrb) xnm0 (by omega) (fun u18 hu19 he20 => ?_)
  refine xg_putI (fl1 := [(2, 29), (2, 31), (2, 33), (2, 35), (2, 37), (0, u12), (0, u18), (0, a7), (0, a8), (0, l0)]) hk16 rfl rfl rfl (fun w21 hk22 hb23 => ?_)
  refine xg_t (xg_aload (va := (2, 27)) rfl rfl) ?_
  refine xg_t (xg_const) ?_
  refine xg_putZ (fl1 := [(2, 1), (2, 42), (2, 28), (2, 39), (2, 40), (2, 41), (0, f27_1), (0, 1), (0, f27_5), (0, f27_7), (0, f27_9)]) (hb23.get (by decide) (hb17.get (by decide) h27_11)) rfl rfl rfl (fun w24 hk25 hb26 => ?_)
  exact xg_e ⟨w24, ⟨rfl, rfl⟩, xInv.up (S := [28, 27]) hI (((xFr.of (S := [28, 27]) hb17 (by decide)).tr (xFr.of (S := [28, 27]) hb23 (by decide))).tr (xFr.of (S := [28, 27]) hb26 (by decide))) (List.forall_mem_cons.mpr ⟨(show cp28 (wget w24 28) from ⟨u12, u18, a7, a8, l0, (hb26.get (by decide) hk22), by omega, by omega, by omega, by omega, by omega⟩), List.forall_mem_cons.mpr ⟨(show cp27 (wget w24 27) from ⟨f27_1, 1, f27_5, f27_7, f27_9, hk25, by omega, by omega, by omega, by omega, by omega⟩), fun _ h => absurd h List.not_mem_nil⟩⟩), (((xFr.of (S := [27, 28]) hb17 (by decide)).tr (xFr.of (S := [27, 28]) hb23 (by decide))).tr (xFr.of (S := [27, 28]) hb26 (by decide))), ⟨_, _, (hb26.get (by decide) hk22), by omega, by omega⟩⟩
theorem ftFine6 {pc_ : Nat} (hI : xInv w) (h1 : pc_ ≤ 4294967295) : xPi (d + 3) mX2_isFine [(2, 27), (0, 6), (0, pc_)] w bd fc rr (fun n w' => (n = 0 ∨ (n = 1 ∧ ∃ f : Nat → Nat, xRow w' 39 3 18 f ∧ (∀ j, f j ≤ 4294967295) ∧ f 0 ≤ 6 ∧ f 1 ≤ 6)) ∧ xInv w' ∧ xFr [27] w w') := by
  refine xPi.of ?_
  show xTo (d + 3) mX2_isFine (0, [], [(0, (2, 27)), (1, (0, 6)), (2, (0, pc_))], [], (w, bd, fc, 0, 0, rr)) (fun φ => ∃ n w', xEnd 4 [(0, n)] (w', bd, fc, 0, 0, rr) φ ∧ (n = 0 ∨ (n = 1 ∧ ∃ f : Nat → Nat, xRow w' 39 3 18 f ∧ (∀ j, f j ≤ 4294967295) ∧ f 0 ≤ 6 ∧ f 1 ≤ 6)) ∧ xInv w' ∧ xFr [27] w w')
  obtain ⟨f27_1, f27_3, f27_5, f27_7, f27_9, h27_11, hb2, hb4, hb6, hb8, hb10⟩ := (hI 27 (by decide) : cp27 (wget w 27))
  obtain ⟨g39_12, h39_13, hb14⟩ := (hI 39 (by decide) : cpI 3 18 4294967295 (wget w 39))
  have h39_13 : xRow w 39 3 18 g39_12 := h39_13
  obtain ⟨g40_15, h40_16, hb17⟩ := (hI 40 (by decide) : cpI 3 19 4294967295 (wget w 40))
  have h40_16 : xRow w 40 3 19 g40_15 := h40_16
  refine xg_t (xg_blk (b := [(0, 1, 0, 0, 0, 0), (1, 1, 2, 1, 0, 0), (2, 3, 13, 249, 16, 158), (5, 3, 7, 20, 0, 0), (8, 1, 0, 0, 0, 0), (9, 1, 3, 3, 0, 0), (10, 3, 14, 2, 9, 57), (13, 1, 0, 0, 0, 0), (14, 1, 2, 2, 0, 0), (15, 3, 14, 2, 10, 88), (18, 1, 3, 0, 0, 0), (19, 1, 12, 0, 1, 0)]) rfl) ?_
  refine xg_t (xg_aload (va := (2, 27)) rfl rfl) ?_
  refine xg_t (xg_iload (va := (0, 6)) rfl rfl) ?_
  refine xg_cVi mX2_isTooMany (vs := [(0, 6)]) (rest := []) (cn1 := 0) (sl1 := 0) rfl (ftTooMany (hI) (by omega)) rfl h27_11 rfl rfl rfl rfl rfl rfl (fun n22 w18 hq19 => ?_)
  obtain ⟨hn23, hI20, hF21⟩ := hq19
  by_cases hc24 : n22 = 0
  · refine xg_t (xg_ifT (u := n22) rfl xnm0 (xj_eqT hc24)) ?_
    refine xg_t (xg_blk (b := [(20, 1, 2, 1, 0, 0), (21, 3, 7, 30, 2, 0), (24, 1, 2, 1, 0, 0), (25, 2, 4, 7, 0, 0), (27, 3, 6, 32, 2, 0)]) rfl) ?_
    refine xg_t (xg_iload (va := (0, 6)) rfl rfl) ?_
    refine xg_t (xg_ifF (u := 6) rfl xnm0 (by decide)) ?_
    refine xg_t (xg_iload (va := (0, 6)) rfl rfl) ?_
    refine xg_t (xg_bip) ?_
    refine xg_t (xg_icT (u := 6) (v := 7) rfl xnm0 xnm0 (by decide)) ?_
    refine xg_t (xg_blk (b := [(32, 1, 3, 0, 0, 0), (33, 1, 15, 3, 0, 0)]) rfl) ?_
    refine xg_t (xg_const) ?_
    refine xg_t (xg_istore (l1 := [(0, (2, 27)), (1, (0, 6)), (2, (0, pc_))]) rfl rfl rfl) ?_
    refine xg_t (xg_blk (b := [(34, 1, 2, 3, 0, 0), (35, 3, 37, 1, 0, 115), (38, 1, 2, 1, 0, 0), (39, 1, 10, 0, 0, 0), (40, 3, 6, 101, 3, 0), (43, 1, 2, 3, 0, 0), (44, 1, 3, 3, 0, 0), (45, 3, 6, 101, 3, 0), (48, 1, 0, 0, 0, 0), (49, 3, 1, 2, 3, 18), (52, 1, 2, 3, 0, 0), (53, 1, 10, 0, 0, 0), (54, 3, 37, 2, 0, 162), (57, 1, 2, 1, 0, 0), (58, 1, 3, 3, 0, 0), (59, 1, 16, 0, 0, 0), (60, 1, 2, 3, 0, 0), (61, 1, 11, 0, 0, 0), (62, 1, 10, 0, 0, 0), (63, 3, 37, 3, 0, 165), (66, 1, 2, 1, 0, 0), (67, 1, 3, 3, 0, 0), (68, 1, 16, 0, 0, 0), (69, 1, 2, 3, 0, 0), (70, 1, 11, 0, 0, 0), (71, 1, 10, 0, 0, 0), (72, 3, 13, 70, 91, 168), (75, 3, 7, 95, 1, 0), (78, 1, 0, 0, 0, 0), (79, 1, 3, 2, 0, 0), (80, 3, 14, 2, 9, 57), (83, 1, 0, 0, 0, 0), (84, 1, 0, 0, 0, 0), (85, 3, 1, 2, 4, 22), (88, 1, 2, 3, 0, 0), (89, 1, 10, 0, 0, 0), (90, 3, 14, 2, 10, 88), (93, 1, 3, 0, 0, 0), (94, 1, 12, 0, 1, 0)]) rfl) ?_
    refine xg_t (xg_iload (va := (0, 0)) rfl rfl) ?_
    refine xg_t (xg_gets) ?_
    refine xg_t (xg_iload (va := (0, 6)) rfl rfl) ?_
    refine xg_t (xg_ald8L (n := 6) (u := 2) xnm0 rfl rfl) ?_
    refine xg_t (xg_icF (u := 0) (v := 2) rfl xnm0 xnm0 (by decide)) ?_
    refine xg_t (xg_iload (va := (0, 0)) rfl rfl) ?_
    refine xg_t (xg_const) ?_
    refine xg_t (xg_icF (u := 0) (v := 3) rfl xnm0 xnm0 (by decide)) ?_
    refine xg_t (xg_aload (va := (2, 27)) rfl rfl) ?_
    refine xg_t (xg_getf (va := (2, 39)) (hF21.get (by decide) h27_11) rfl) ?_
    refine xg_t (xg_iload (va := (0, 0)) rfl rfl) ?_
    refine xg_ialdB (n := 0) (B := 4294967295) (h39_13.fr hF21 (by decide)) (hb14) xnm0 (by omega) (fun u25 hu26 he27 => ?_)
    refine xg_t (xg_gets) ?_
    refine xg_t (xg_iload (va := (0, 6)) rfl rfl) ?_
    refine xg_t (xg_const) ?_
    refine xg_t (xg_imul (u := 6) (v := 3) (z := 18) xnm0 xnm0 (by decide)) ?_
    refine xg_t (xg_iload (va := (0, 0)) rfl rfl) ?_
    refine xg_t (xg_iadd (u := 18) (v := 0) (z := 18) xnm0 xnm0 (by decide)) ?_
    refine xg_t (xg_ald8L (n := 18) (u := 1) xnm0 rfl rfl) ?_
    refine xg_t (xg_gets) ?_
    refine xg_t (xg_iload (va := (0, 6)) rfl rfl) ?_
    refine xg_t (xg_const) ?_
    refine xg_t (xg_imul (u := 6) (v := 3) (z := 18) xnm0 xnm0 (by decide)) ?_
    refine xg_t (xg_iload (va := (0, 0)) rfl rfl) ?_
    refine xg_t (xg_iadd (u := 18) (v := 0) (z := 18) xnm0 xnm0 (by decide)) ?_
    refine xg_t (xg_ald8L (n := 18) (u := 6) xnm0 rfl rfl) ?_
    refine xg_t (xg_cNr mX11_isIn (vs := [(0, u25), (0, 1), (0, 6)]) (rest := []) (rs := [(0, if 1 ≤ u25 ∧ u25 ≤ 6 then 1 else 0)]) (cn1 := 0) (sl1 := 0) rfl (isIn_ok (by omega) (by omega) (by omega)) rfl rfl rfl rfl rfl rfl rfl rfl) ?_
    by_cases hc28 : 1 ≤ u25 ∧ u25 ≤ 6
    · refine xg_t (xg_ifT (u := (if 1 ≤ u25 ∧ u25 ≤ 6 then 1 else 0)) rfl xnm0 (xj_neT (xite1 hc28))) ?_
      refine xg_t (xg_blk (b := [(95, 3, 9, 3, 1, 0), (98, 3, 8, 34, 0, 0)]) rfl) ?_
      refine xg_t (xg_iinc (u := 0) (z := 1) (l1 := [(0, (2, 27)), (1, (0, 6)), (2, (0, pc_))]) rfl rfl (by decide) rfl) ?_
      refine xg_t (xg_goto) ?_
      refine xg_t (xg_blk (b := [(34, 1, 2, 3, 0, 0), (35, 3, 37, 1, 0, 115), (38, 1, 2, 1, 0, 0), (39, 1, 10, 0, 0, 0), (40, 3, 6, 101, 3, 0), (43, 1, 2, 3, 0, 0), (44, 1, 3, 3, 0, 0), (45, 3, 6, 101, 3, 0), (48, 1, 0, 0, 0, 0), (49, 3, 1, 2, 3, 18), (52, 1, 2, 3, 0, 0), (53, 1, 10, 0, 0, 0), (54, 3, 37, 2, 0, 162), (57, 1, 2, 1, 0, 0), (58, 1, 3, 3, 0, 0), (59, 1, 16, 0, 0, 0), (60, 1, 2, 3, 0, 0), (61, 1, 11, 0, 0, 0), (62, 1, 10, 0, 0, 0), (63, 3, 37, 3, 0, 165), (66, 1, 2, 1, 0, 0), (67, 1, 3, 3, 0, 0), (68, 1, 16, 0, 0, 0), (69, 1, 2, 3, 0, 0), (70, 1, 11, 0, 0, 0), (71, 1, 10, 0, 0, 0), (72, 3, 13, 70, 91, 168), (75, 3, 7, 95, 1, 0), (78, 1, 0, 0, 0, 0), (79, 1, 3, 2, 0, 0), (80, 3, 14, 2, 9, 57), (83, 1, 0, 0, 0, 0), (84, 1, 0, 0, 0, 0), (85, 3, 1, 2, 4, 22), (88, 1, 2, 3, 0, 0), (89, 1, 10, 0, 0, 0), (90, 3, 14, 2, 10, 88), (93, 1, 3, 0, 0, 0), (94, 1, 12, 0, 1, 0)]) rfl) ?_
      refine xg_t (xg_iload (va := (0, 1)) rfl rfl) ?_
      refine xg_t (xg_gets) ?_
      refine xg_t (xg_iload (va := (0, 6)) rfl rfl) ?_
      refine xg_t (xg_ald8L (n := 6) (u := 2) xnm0 rfl rfl) ?_
      refine xg_t (xg_icF (u := 1) (v := 2) rfl xnm0 xnm0 (by decide)) ?_
      refine xg_t (xg_iload (va := (0, 1)) rfl rfl) ?_
      refine xg_t (xg_const) ?_
      refine xg_t (xg_icF (u := 1) (v := 3) rfl xnm0 xnm0 (by decide)) ?_
      refine xg_t (xg_aload (va := (2, 27)) rfl rfl) ?_
      refine xg_t (xg_getf (va := (2, 39)) (hF21.get (by decide) h27_11) rfl) ?_
      refine xg_t (xg_iload (va := (0, 1)) rfl rfl) ?_
      refine xg_ialdB (n := 1) (B := 4294967295) (h39_13.fr hF21 (by decide)) (hb14) xnm0 (by omega) (fun u29 hu30 he31 => ?_)
      refine xg_t (xg_gets) ?_
      refine xg_t (xg_iload (va := (0, 6)) rfl rfl) ?_
      refine xg_t (xg_const) ?_
      refine xg_t (xg_imul (u := 6) (v := 3) (z := 18) xnm0 xnm0 (by decide)) ?_
      refine xg_t (xg_iload (va := (0, 1)) rfl rfl) ?_
      refine xg_t (xg_iadd (u := 18) (v := 1) (z := 19) xnm0 xnm0 (by decide)) ?_
      refine xg_t (xg_ald8L (n := 19) (u := 1) xnm0 rfl rfl) ?_
      refine xg_t (xg_gets) ?_
      refine xg_t (xg_iload (va := (0, 6)) rfl rfl) ?_
      refine xg_t (xg_const) ?_
      refine xg_t (xg_imul (u := 6) (v := 3) (z := 18) xnm0 xnm0 (by decide)) ?_
      refine xg_t (xg_iload (va := (0, 1)) rfl rfl) ?_
      refine xg_t (xg_iadd (u := 18) (v := 1) (z := 19) xnm0 xnm0 (by decide)) ?_
      refine xg_t (xg_ald8L (n := 19) (u := 6) xnm0 rfl rfl) ?_
      refine xg_t (xg_cNr mX11_isIn (vs := [(0, u29), (0, 1), (0, 6)]) (rest := []) (rs := [(0, if 1 ≤ u29 ∧ u29 ≤ 6 then 1 else 0)]) (cn1 := 0) (sl1 := 0) rfl (isIn_ok (by omega) (by omega) (by omega)) rfl rfl rfl rfl rfl rfl rfl rfl) ?_
      by_cases hc32 : 1 ≤ u29 ∧ u29 ≤ 6
      · refine xg_t (xg_ifT (u := (if 1 ≤ u29 ∧ u29 ≤ 6 then 1 else 0)) rfl xnm0 (xj_neT (xite1 hc32))) ?_
        refine xg_t (xg_blk (b := [(95, 3, 9, 3, 1, 0), (98, 3, 8, 34, 0, 0)]) rfl) ?_
        refine xg_t (xg_iinc (u := 1) (z := 2) (l1 := [(0, (2, 27)), (1, (0, 6)), (2, (0, pc_))]) rfl rfl (by decide) rfl) ?_
        refine xg_t (xg_goto) ?_
        refine xg_t (xg_blk (b := [(34, 1, 2, 3, 0, 0), (35, 3, 37, 1, 0, 115), (38, 1, 2, 1, 0, 0), (39, 1, 10, 0, 0, 0), (40, 3, 6, 101, 3, 0), (43, 1, 2, 3, 0, 0), (44, 1, 3, 3, 0, 0), (45, 3, 6, 101, 3, 0), (48, 1, 0, 0, 0, 0), (49, 3, 1, 2, 3, 18), (52, 1, 2, 3, 0, 0), (53, 1, 10, 0, 0, 0), (54, 3, 37, 2, 0, 162), (57, 1, 2, 1, 0, 0), (58, 1, 3, 3, 0, 0), (59, 1, 16, 0, 0, 0), (60, 1, 2, 3, 0, 0), (61, 1, 11, 0, 0, 0), (62, 1, 10, 0, 0, 0), (63, 3, 37, 3, 0, 165), (66, 1, 2, 1, 0, 0), (67, 1, 3, 3, 0, 0), (68, 1, 16, 0, 0, 0), (69, 1, 2, 3, 0, 0), (70, 1, 11, 0, 0, 0), (71, 1, 10, 0, 0, 0), (72, 3, 13, 70, 91, 168), (75, 3, 7, 95, 1, 0), (78, 1, 0, 0, 0, 0), (79, 1, 3, 2, 0, 0), (80, 3, 14, 2, 9, 57), (83, 1, 0, 0, 0, 0), (84, 1, 0, 0, 0, 0), (85, 3, 1, 2, 4, 22), (88, 1, 2, 3, 0, 0), (89, 1, 10, 0, 0, 0), (90, 3, 14, 2, 10, 88), (93, 1, 3, 0, 0, 0), (94, 1, 12, 0, 1, 0)]) rfl) ?_
        refine xg_t (xg_iload (va := (0, 2)) rfl rfl) ?_
        refine xg_t (xg_gets) ?_
        refine xg_t (xg_iload (va := (0, 6)) rfl rfl) ?_
        refine xg_t (xg_ald8L (n := 6) (u := 2) xnm0 rfl rfl) ?_
        refine xg_t (xg_icT (u := 2) (v := 2) rfl xnm0 xnm0 (by decide)) ?_
        refine xg_t (xg_blk (b := [(101, 1, 3, 1, 0, 0), (102, 1, 12, 0, 1, 0)]) rfl) ?_
        refine xg_t (xg_const) ?_
        exact xg_e ⟨1, w18, ⟨rfl, rfl⟩, Or.inr ⟨rfl, _, (h39_13.fr hF21 (by decide)), hb14, by omega, by omega⟩, hI20, (hF21.up (by decide))⟩
      · refine xg_t (xg_ifF (u := (if 1 ≤ u29 ∧ u29 ≤ 6 then 1 else 0)) rfl xnm0 (xj_neF (xite0 hc32))) ?_
        refine xg_t (xg_aload (va := (2, 27)) rfl rfl) ?_
        refine xg_t (xg_const) ?_
        refine xg_putI (fl1 := [(2, 1), (2, 42), (2, 28), (2, 39), (2, 40), (2, 41), (0, f27_1), (0, f27_3), (0, f27_5), (0, 2), (0, f27_9)]) (hF21.get (by decide) h27_11) rfl rfl rfl (fun w33 hk34 hb35 => ?_)
        refine xg_t (xg_aload (va := (2, 27)) rfl rfl) ?_
        refine xg_t (xg_aload (va := (2, 27)) rfl rfl) ?_
        refine xg_t (xg_getf (va := (2, 40)) hk34 rfl) ?_
        refine xg_t (xg_iload (va := (0, 1)) rfl rfl) ?_
        refine xg_ialdB (n := 1) (B := 4294967295) ((h40_16.fr hF21 (by decide)).but hb35 (by decide)) (hb17) xnm0 (by omega) (fun u36 hu37 he38 => ?_)
        refine xg_putI (fl1 := [(2, 1), (2, 42), (2, 28), (2, 39), (2, 40), (2, 41), (0, f27_1), (0, f27_3), (0, f27_5), (0, 2), (0, u36)]) hk34 rfl rfl rfl (fun w39 hk40 hb41 => ?_)
        refine xg_t (xg_const) ?_
        exact xg_e ⟨0, w39, ⟨rfl, rfl⟩, Or.inl rfl, xInv.up (S := [27]) hI20 ((xFr.of (S := [27]) hb35 (by decide)).tr (xFr.of (S := [27]) hb41 (by decide))) (List.forall_mem_cons.mpr ⟨(show cp27 (wget w39 27) from ⟨f27_1, f27_3, f27_5, 2, u36, hk40, by omega, by omega, by omega, by omega, by omega⟩), fun _ h => absurd h List.not_mem_nil⟩), ((hF21.up (by decide)).tr ((xFr.of (S := [27]) hb35 (by decide)).tr (xFr.of (S := [27]) hb41 (by decide))))⟩
    · refine xg_t (xg_ifF (u := (if 1 ≤ u25 ∧ u25 ≤ 6 then 1 else 0)) rfl xnm0 (xj_neF (xite0 hc28))) ?_
      refine xg_t (xg_aload (va := (2, 27)) rfl rfl) ?_
      refine xg_t (xg_const) ?_
      refine xg_putI (fl1 := [(2, 1), (2, 42), (2, 28), (2, 39), (2, 40), (2, 41), (0, f27_1), (0, f27_3), (0, f27_5), (0, 2), (0, f27_9)]) (hF21.get (by decide) h27_11) rfl rfl rfl (fun w42 hk43 hb44 => ?_)
      refine xg_t (xg_aload (va := (2, 27)) rfl rfl) ?_
      refine xg_t (xg_aload (va := (2, 27)) rfl rfl) ?_
      refine xg_t (xg_getf (va := (2, 40)) hk43 rfl) ?_
      refine xg_t (xg_iload (va := (0, 0)) rfl rfl) ?_
      refine xg_ialdB (n := 0) (B := 4294967295) ((h40_16.fr hF21 (by decide)).but hb44 (by decide)) (hb17) xnm0 (by omega) (fun u45 hu46 he47 => ?_)
      refine xg_putI (fl1 := [(2, 1), (2, 42), (2, 28), (2, 39), (2, 40), (2, 41), (0, f27_1), (0, f27_3), (0, f27_5), (0, 2), (0, u45)]) hk43 rfl rfl rfl (fun w48 hk49 hb50 => ?_)
      refine xg_t (xg_const) ?_
      exact xg_e ⟨0, w48, ⟨rfl, rfl⟩, Or.inl rfl, xInv.up (S := [27]) hI20 ((xFr.of (S := [27]) hb44 (by decide)).tr (xFr.of (S := [27]) hb50 (by decide))) (List.forall_mem_cons.mpr ⟨(show cp27 (wget w48 27) from ⟨f27_1, f27_3, f27_5, 2, u45, hk49, by omega, by omega, by omega, by omega, by omega⟩), fun _ h => absurd h List.not_mem_nil⟩), ((hF21.up (by decide)).tr ((xFr.of (S := [27]) hb44 (by decide)).tr (xFr.of (S := [27]) hb50 (by decide))))⟩
  · refine xg_t (xg_ifF (u := n22) rfl xnm0 (xj_eqF hc24)) ?_
    refine xg_t (xg_aload (va := (2, 27)) rfl rfl) ?_
    refine xg_t (xg_const) ?_
    refine xg_putI (fl1 := [(2, 1), (2, 42), (2, 28), (2, 39), (2, 40), (2, 41), (0, f27_1), (0, f27_3), (0, f27_5), (0, 3), (0, f27_9)]) (hF21.get (by decide) h27_11) rfl rfl rfl (fun w51 hk52 hb53 => ?_)
    refine xg_t (xg_aload (va := (2, 27)) rfl rfl) ?_
    refine xg_t (xg_iload (va := (0, pc_)) rfl rfl) ?_
    refine xg_putI (fl1 := [(2, 1), (2, 42), (2, 28), (2, 39), (2, 40), (2, 41), (0, f27_1), (0, f27_3), (0, f27_5), (0, 3), (0, pc_)]) hk52 rfl rfl rfl (fun w54 hk55 hb56 => ?_)
    refine xg_t (xg_const) ?_
    exact xg_e ⟨0, w54, ⟨rfl, rfl⟩, Or.inl rfl, xInv.up (S := [27]) hI20 ((xFr.of (S := [27]) hb53 (by decide)).tr (xFr.of (S := [27]) hb56 (by decide))) (List.forall_mem_cons.mpr ⟨(show cp27 (wget w54 27) from ⟨f27_1, f27_3, f27_5, 3, pc_, hk55, by omega, by omega, by omega, by omega, by omega⟩), fun _ h => absurd h List.not_mem_nil⟩), ((hF21.up (by decide)).tr ((xFr.of (S := [27]) hb53 (by decide)).tr (xFr.of (S := [27]) hb56 (by decide))))⟩
theorem ftTake6 {a5 a6 a7 a8 l0 : Nat} {nf : Nat → Nat} {pc_ : Nat} (hI : xInv w) (h1 : pc_ ≤ 4294967295) (hc0 : wget w 28 = some (.inl (1, [(2, 29), (2, 31), (2, 33), (2, 35), (2, 37), (0, a5), (0, a6), (0, a7), (0, a8), (0, l0)]))) (hb5 : a5 ≤ 10) (hb6 : a6 ≤ 10) (hb7 : a7 ≤ 6) (hb8 : a8 ≤ 6) (hbl : l0 ≤ 500) (hr39 : xRow w 39 3 18 nf) (hrb : ∀ j, nf j ≤ 4294967295) (hb0 : nf 0 ≤ 6) (hb1 : nf 1 ≤ 6) : xPq (d + 1) mX2_take [(2, 27), (0, 6), (0, pc_)] w bd fc rr [] (fun w' => xInv w' ∧ xFr [27, 28] w w' ∧ (∃ a b : Nat, wget w' 28 = some (.inl (1, [(2, 29), (2, 31), (2, 33), (2, 35), (2, 37), (0, a5), (0, a6), (0, a), (0, b), (0, l0)])) ∧ a ≤ 6 ∧ b ≤ 6)) := by
  refine xPq.of ?_
  show xTo (d + 1) mX2_take (0, [], [(0, (2, 27)), (1, (0, 6)), (2, (0, pc_))], [], (w, bd, fc, 0, 0, rr)) (fun φ => ∃ w', xEnd 0 [] (w', bd, fc, 0, 0, rr) φ ∧ xInv w' ∧ xFr [27, 28] w w' ∧ (∃ a b : Nat, wget w' 28 = some (.inl (1, [(2, 29), (2, 31), (2, 33), (2, 35), (2, 37), (0, a5), (0, a6), (0, a), (0, b), (0, l0)])) ∧ a ≤ 6 ∧ b ≤ 6))
  obtain ⟨f27_1, f27_3, f27_5, f27_7, f27_9, h27_11, hb2, hb4, hb6, hb8, hb10⟩ := (hI 27 (by decide) : cp27 (wget w 27))
  refine xg_t (xg_blk (b := [(0, 1, 2, 1, 0, 0), (1, 1, 3, 5, 0, 0), (2, 3, 6, 37, 1, 0), (5, 1, 0, 0, 0, 0), (6, 3, 1, 2, 2, 12), (9, 1, 0, 0, 0, 0), (10, 3, 1, 2, 3, 18), (13, 1, 3, 0, 0, 0), (14, 1, 10, 0, 0, 0), (15, 3, 14, 1, 5, 192), (18, 1, 0, 0, 0, 0), (19, 3, 1, 2, 2, 12), (22, 1, 0, 0, 0, 0), (23, 3, 1, 2, 3, 18), (26, 1, 3, 1, 0, 0), (27, 1, 10, 0, 0, 0), (28, 3, 14, 1, 6, 195), (31, 1, 0, 0, 0, 0), (32, 1, 3, 1, 0, 0), (33, 3, 59, 2, 7, 50), (36, 1, 12, 0, 0, 0)]) rfl) ?_
  refine xg_t (xg_iload (va := (0, 6)) rfl rfl) ?_
  refine xg_t (xg_const) ?_
  refine xg_t (xg_icT (u := 6) (v := 5) rfl xnm0 xnm0 (by decide)) ?_
  refine xg_t (xg_blk (b := [(37, 1, 2, 1, 0, 0), (38, 2, 4, 6, 0, 0), (40, 3, 6, 75, 1, 0), (43, 1, 0, 0, 0, 0), (44, 3, 1, 2, 2, 12), (47, 1, 0, 0, 0, 0), (48, 3, 1, 2, 3, 18), (51, 1, 3, 0, 0, 0), (52, 1, 10, 0, 0, 0), (53, 3, 14, 1, 7, 198), (56, 1, 0, 0, 0, 0), (57, 3, 1, 2, 2, 12), (60, 1, 0, 0, 0, 0), (61, 3, 1, 2, 3, 18), (64, 1, 3, 1, 0, 0), (65, 1, 10, 0, 0, 0), (66, 3, 14, 1, 8, 201), (69, 1, 0, 0, 0, 0), (70, 1, 3, 1, 0, 0), (71, 3, 59, 2, 8, 54), (74, 1, 12, 0, 0, 0)]) rfl) ?_
  refine xg_t (xg_iload (va := (0, 6)) rfl rfl) ?_
  refine xg_t (xg_bip) ?_
  refine xg_t (xg_icF (u := 6) (v := 6) rfl xnm0 xnm0 (by decide)) ?_
  refine xg_t (xg_aload (va := (2, 27)) rfl rfl) ?_
  refine xg_t (xg_getf (va := (2, 28)) h27_11 rfl) ?_
  refine xg_t (xg_aload (va := (2, 27)) rfl rfl) ?_
  refine xg_t (xg_getf (va := (2, 39)) h27_11 rfl) ?_
  refine xg_t (xg_const) ?_
  refine xg_ialdB (n := 0) (B := 4294967295) hr39 (hrb) xnm0 (by omega) (fun u12 hu13 he14 => ?_)
  refine xg_putI (fl1 := [(2, 29), (2, 31), (2, 33), (2, 35), (2, 37), (0, a5), (0, a6), (0, u12), (0, a8), (0, l0)]) hc0 rfl rfl rfl (fun w15 hk16 hb17 => ?_)
  refine xg_t (xg_aload (va := (2, 27)) rfl rfl) ?_
  refine xg_t (xg_getf (va := (2, 28)) (hb17.get (by decide) h27_11) rfl) ?_
  refine xg_t (xg_aload (va := (2, 27)) rfl rfl) ?_
  refine xg_t (xg_getf (va := (2, 39)) (hb17.get (by decide) h27_11) rfl) ?_
  refine xg_t (xg_const) ?_
  refine xg_ialdB (n := 1) (B := 4294967295) (hr39.but hb17 (by decide)) (hrb) xnm0 (by omega) (fun u18 hu19 he20 => ?_)
  refine xg_putI (fl1 := [(2, 29), (2, 31), (2, 33), (2, 35), (2, 37), (0, a5), (0, a6), (0, u12), (0, u18), (0, l0)]) hk16 rfl rfl rfl (fun w21 hk22 hb23 => ?_)
  refine xg_t (xg_aload (va := (2, 27)) rfl rfl) ?_
  refine xg_t (xg_const) ?_
  refine xg_putZ (fl1 := [(2, 1), (2, 42), (2, 28), (2, 39), (2, 40), (2, 41), (0, f27_1), (0, f27_3), (0, 1), (0, f27_7), (0, f27_9)]) (hb23.get (by decide) (hb17.get (by decide) h27_11)) rfl rfl rfl (fun w24 hk25 hb26 => ?_)
  exact xg_e ⟨w24, ⟨rfl, rfl⟩, xInv.up (S := [28, 27]) hI (((xFr.of (S := [28, 27]) hb17 (by decide)).tr (xFr.of (S := [28, 27]) hb23 (by decide))).tr (xFr.of (S := [28, 27]) hb26 (by decide))) (List.forall_mem_cons.mpr ⟨(show cp28 (wget w24 28) from ⟨a5, a6, u12, u18, l0, (hb26.get (by decide) hk22), by omega, by omega, by omega, by omega, by omega⟩), List.forall_mem_cons.mpr ⟨(show cp27 (wget w24 27) from ⟨f27_1, f27_3, 1, f27_7, f27_9, hk25, by omega, by omega, by omega, by omega, by omega⟩), fun _ h => absurd h List.not_mem_nil⟩⟩), (((xFr.of (S := [27, 28]) hb17 (by decide)).tr (xFr.of (S := [27, 28]) hb23 (by decide))).tr (xFr.of (S := [27, 28]) hb26 (by decide))), ⟨_, _, (hb26.get (by decide) hk22), by omega, by omega⟩⟩
end XWD
