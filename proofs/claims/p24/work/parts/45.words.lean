/-! words; the texts of films -/
section XWD
variable {d : Nat} {w : List (List xE)} {bd : List (Nat × Nat)} {fc : List (Nat × Nat × Bool)} {rr : Nat × Nat}
theorem tkIsWord48 {i : Nat} {qb : List Nat} (hI : xInv w) (hi : xget xsbt i = some qb) : xPi (d + 4) mX8_isWord [(2, 48), (8, 100 + i)] w bd fc rr (fun n w' => (n ≤ 1) ∧ xInv w' ∧ xFr [] w w') := by
  refine xPi.of ?_
  show xTo (d + 4) mX8_isWord (0, [], [(0, (2, 48)), (1, (8, 100 + i))], [], (w, bd, fc, 0, 0, rr)) (fun φ => ∃ n w', xEnd 4 [(0, n)] (w', bd, fc, 0, 0, rr) φ ∧ (n ≤ 1) ∧ xInv w' ∧ xFr [] w w')
  obtain ⟨hl6, hq7⟩ := xsbt_ok hi
  obtain ⟨f48_1, f48_3, f48_5, f48_7, f48_9, h48_11, hb2, hb4, hb6, hb8, hb10, hb12⟩ := (hI 48 (by decide) : cp48 (wget w 48))
  obtain ⟨g2_13, h2_14, hb15⟩ := (hI 2 (by decide) : cpY 500 0 (wget w 2))
  have h2_14 : xRk 1 0 w 2 500 0 g2_13 := h2_14
  refine xg_t (xg_blk (b := [(0, 1, 0, 0, 0, 0), (1, 3, 1, 8, 2, 32), (4, 1, 3, 1, 0, 0), (5, 3, 6, 24, 1, 0), (8, 1, 0, 0, 0, 0), (9, 3, 1, 8, 4, 23), (12, 1, 0, 0, 0, 0), (13, 3, 1, 8, 3, 29), (16, 1, 18, 0, 0, 0), (17, 1, 0, 1, 0, 0), (18, 3, 73, 0, 0, 51), (21, 3, 6, 26, 0, 0)]) rfl) ?_
  refine xg_t (xg_aload (va := (2, 48)) rfl rfl) ?_
  refine xg_t (xg_getf (va := (0, f48_3)) h48_11 rfl) ?_
  refine xg_t (xg_const) ?_
  by_cases hc16 : f48_3 = 1
  · refine xg_t (xg_icF (u := f48_3) (v := 1) rfl xnm0 xnm0 (xj_neF hc16)) ?_
    refine xg_t (xg_aload (va := (2, 48)) rfl rfl) ?_
    refine xg_t (xg_getf (va := (0, f48_7)) h48_11 rfl) ?_
    refine xg_t (xg_aload (va := (2, 48)) rfl rfl) ?_
    refine xg_t (xg_getf (va := (0, f48_5)) h48_11 rfl) ?_
    by_cases hc17 : f48_5 ≤ f48_7
    · refine xg_t (xg_isub (u := f48_7) (v := f48_5) (z := f48_7 - f48_5) xnm0 xnm0 (by omega)) ?_
      refine xg_t (xg_aload (va := (8, 100 + i)) rfl rfl) ?_
      refine xg_t (xg_slen (i := i) (qb := qb) (Nat.zero_le _) (Nat.zero_le _) (Nat.le_of_ble_eq_true rfl) hi (by omega)) ?_
      by_cases hc18 : (f48_7 - f48_5) = qb.length
      · refine xg_t (xg_icT (u := f48_7 - f48_5) (v := qb.length) rfl xnm0 xnm0 (xj_eqT hc18)) ?_
        refine xg_t (xg_blk (b := [(26, 1, 3, 0, 0, 0), (27, 1, 15, 2, 0, 0)]) rfl) ?_
        refine xg_t (xg_const) ?_
        refine xg_t (xg_istore (l1 := [(0, (2, 48)), (1, (8, 100 + i))]) rfl rfl rfl) ?_
        refine xg_t (xg_drop (l1 := [(0, (2, 48)), (1, (8, 100 + i)), (2, (0, 0))]) (List.forall_mem_cons.mpr ⟨List.mem_cons_of_mem _ (List.mem_cons_self), List.forall_mem_cons.mpr ⟨List.mem_cons_of_mem _ (List.mem_cons_of_mem _ (List.mem_cons_self)), List.forall_mem_cons.mpr ⟨List.mem_cons_self, fun _ h => absurd h List.not_mem_nil⟩⟩⟩)) ?_
        have key19 : ∀ (m21 : Nat) (ki : Nat) (w22 : List (List xE)), qb.length - ki < m21 → ki ≤ 6 → xInv w22 → xFr [] w w22 → xTo (d + 4) mX8_isWord (28, [], [(0, (2, 48)), (1, (8, 100 + i)), (2, (0, ki))], [], (w22, bd, fc, 0, 0, rr)) (fun φ => ∃ n w', xEnd 4 [(0, n)] (w', bd, fc, 0, 0, rr) φ ∧ (n ≤ 1) ∧ xInv w' ∧ xFr [] w w') := by
          intro m21
          induction m21 with
          | zero => intro ki w22 hz; exact absurd hz (Nat.not_lt_zero _)
          | succ m21 ih20 =>
            intro ki w22 hm26 hn25 hI23 hF24
            refine xg_t (xg_blk (b := [(28, 1, 2, 2, 0, 0), (29, 1, 0, 1, 0, 0), (30, 3, 73, 0, 0, 51), (33, 3, 6, 63, 3, 0), (36, 1, 0, 0, 0, 0), (37, 3, 1, 8, 0, 7), (40, 1, 0, 0, 0, 0), (41, 3, 1, 8, 3, 29), (44, 1, 2, 2, 0, 0), (45, 1, 11, 0, 0, 0), (46, 1, 32, 0, 0, 0), (47, 1, 0, 1, 0, 0), (48, 1, 2, 2, 0, 0), (49, 3, 74, 0, 0, 56), (52, 3, 6, 57, 0, 0), (55, 1, 3, 0, 0, 0), (56, 1, 12, 0, 1, 0)]) rfl) ?_
            refine xg_t (xg_iload (va := (0, ki)) rfl rfl) ?_
            refine xg_t (xg_aload (va := (8, 100 + i)) rfl rfl) ?_
            refine xg_t (xg_slen (i := i) (qb := qb) (Nat.zero_le _) (Nat.zero_le _) (Nat.le_of_ble_eq_true rfl) hi (by omega)) ?_
            by_cases hc27 : ki < qb.length
            · refine xg_t (xg_icF (u := ki) (v := qb.length) rfl xnm0 xnm0 (xj_geF hc27 (by omega))) ?_
              refine xg_t (xg_aload (va := (2, 48)) rfl rfl) ?_
              refine xg_t (xg_getf (va := (2, 2)) (hF24.get (by decide) h48_11) rfl) ?_
              refine xg_t (xg_aload (va := (2, 48)) rfl rfl) ?_
              refine xg_t (xg_getf (va := (0, f48_5)) (hF24.get (by decide) h48_11) rfl) ?_
              refine xg_t (xg_iload (va := (0, ki)) rfl rfl) ?_
              refine xg_t (xg_iadd (u := f48_5) (v := ki) (z := f48_5 + ki) xnm0 xnm0 (by omega)) ?_
              refine xg_baldY (n := f48_5 + ki) (h2_14.fr hF24 (by decide)) (hb15) xnm0 (by omega) (fun u28 hu29 he30 => ?_)
              refine xg_t (xg_aload (va := (8, 100 + i)) rfl rfl) ?_
              refine xg_t (xg_iload (va := (0, ki)) rfl rfl) ?_
              refine xg_t (xg_char (i := i) (qb := qb) (n := ki) (Nat.zero_le _) (Nat.zero_le _) (Nat.le_of_ble_eq_true rfl) hi (by omega) xnm0 (by omega) (hq7 _)) ?_
              have hz32 := hq7 ki
              generalize qb.getD ki 0 = ch31 at hz32 ⊢
              by_cases hc33 : u28 = ch31
              · refine xg_t (xg_icT (u := u28) (v := ch31) rfl xnm0 xnm0 (xj_eqT hc33)) ?_
                refine xg_t (xg_blk (b := [(57, 3, 9, 2, 1, 0), (60, 3, 8, 28, 0, 0)]) rfl) ?_
                refine xg_t (xg_iinc (u := ki) (z := ki + 1) (l1 := [(0, (2, 48)), (1, (8, 100 + i))]) rfl rfl (by omega) rfl) ?_
                refine xg_t (xg_goto) ?_
                refine xg_t (xg_drop (l1 := [(0, (2, 48)), (1, (8, 100 + i)), (2, (0, ki + 1))]) (List.forall_mem_cons.mpr ⟨List.mem_cons_of_mem _ (List.mem_cons_self), List.forall_mem_cons.mpr ⟨List.mem_cons_of_mem _ (List.mem_cons_of_mem _ (List.mem_cons_self)), List.forall_mem_cons.mpr ⟨List.mem_cons_self, fun _ h => absurd h List.not_mem_nil⟩⟩⟩)) ?_
                exact ih20 (ki + 1) w22 (by omega) (by omega) (hI23) (hF24)
              · refine xg_t (xg_icF (u := u28) (v := ch31) rfl xnm0 xnm0 (xj_eqF hc33)) ?_
                refine xg_t (xg_const) ?_
                exact xg_e ⟨0, w22, ⟨rfl, rfl⟩, by omega, hI23, hF24⟩
            · refine xg_t (xg_icT (u := ki) (v := qb.length) rfl xnm0 xnm0 (xj_geT (by omega) (by omega))) ?_
              refine xg_t (xg_blk (b := [(63, 1, 3, 1, 0, 0), (64, 1, 12, 0, 1, 0)]) rfl) ?_
              refine xg_t (xg_const) ?_
              exact xg_e ⟨1, w22, ⟨rfl, rfl⟩, by omega, hI23, hF24⟩
        exact key19 _ 0 w (Nat.lt_succ_self _) (by omega) (hI) (xFr.rf)
      · refine xg_t (xg_icF (u := f48_7 - f48_5) (v := qb.length) rfl xnm0 xnm0 (xj_eqF hc18)) ?_
        refine xg_t (xg_blk (b := [(24, 1, 3, 0, 0, 0), (25, 1, 12, 0, 1, 0)]) rfl) ?_
        refine xg_t (xg_const) ?_
        exact xg_e ⟨0, w, ⟨rfl, rfl⟩, by omega, hI, xFr.rf⟩
    · have hz36 : 4294966796 ≤ (f48_7 + (4294967296 - f48_5)) % 4294967296 := by omega
      refine xg_t (xg_isub (u := f48_7) (v := f48_5) (z := (f48_7 + (4294967296 - f48_5)) % 4294967296) xnm0 xnm0 rfl) ?_
      have hz35 : (f48_7 + (4294967296 - f48_5)) % 4294967296 < 4294967296 := Nat.mod_lt _ (by decide)
      generalize (f48_7 + (4294967296 - f48_5)) % 4294967296 = z34 at hz36 hz35 ⊢
      refine xg_t (xg_aload (va := (8, 100 + i)) rfl rfl) ?_
      refine xg_t (xg_slen (i := i) (qb := qb) (Nat.zero_le _) (Nat.zero_le _) (Nat.le_of_ble_eq_true rfl) hi (by omega)) ?_
      refine xg_t (xg_icF (u := z34) (v := qb.length) rfl xnm0 xnm0 (xj_eqF (by omega))) ?_
      refine xg_t (xg_blk (b := [(24, 1, 3, 0, 0, 0), (25, 1, 12, 0, 1, 0)]) rfl) ?_
      refine xg_t (xg_const) ?_
      exact xg_e ⟨0, w, ⟨rfl, rfl⟩, by omega, hI, xFr.rf⟩
  · refine xg_t (xg_icT (u := f48_3) (v := 1) rfl xnm0 xnm0 (xj_neT hc16)) ?_
    refine xg_t (xg_blk (b := [(24, 1, 3, 0, 0, 0), (25, 1, 12, 0, 1, 0)]) rfl) ?_
    refine xg_t (xg_const) ?_
    exact xg_e ⟨0, w, ⟨rfl, rfl⟩, by omega, hI, xFr.rf⟩
end XWD
