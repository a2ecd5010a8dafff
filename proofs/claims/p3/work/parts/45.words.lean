/-! words; the texts of films -/
section XWD
variable {d : Nat} {w : List (List xE)} {bd : List (Nat × Nat)} {fc : List (Nat × Nat × Bool)} {rr : Nat × Nat}
theorem tkIsWord42 {i : Nat} {qb : List Nat} (hI : xInv w) (hi : xget xsbt i = some qb) : xPi (d + 4) mX8_isWord [(2, 42), (8, 100 + i)] w bd fc rr (fun n w' => (n ≤ 1) ∧ xInv w' ∧ xFr [] w w') := by
  refine xPi.of ?_
  show xTo (d + 4) mX8_isWord (0, [], [(0, (2, 42)), (1, (8, 100 + i))], [], (w, bd, fc, 0, 0, rr)) (fun φ => ∃ n w', xEnd 4 [(0, n)] (w', bd, fc, 0, 0, rr) φ ∧ (n ≤ 1) ∧ xInv w' ∧ xFr [] w w')
  obtain ⟨hl6, hq7⟩ := xsbt_ok hi
  refine xoC42 (xqc42 hI : cp42 (wget w 42)) (fun f42_1 f42_3 f42_5 f42_7 f42_9 h42_11 hb2 hb4 hb6 hb8 hb10 hb12 => ?_)
  obtain ⟨g2_13, h2_14, hb15⟩ := (xqc2 hI : cpY 500 0 (wget w 2))
  have h2_14 : xRk 1 0 w 2 500 0 g2_13 := h2_14
  refine xg_t (xg_blq rfl) ?_
  refine xg_t (xg_aload (va := (2, 42)) rfl rfl) ?_
  refine xg_t (xg_getf (va := (0, f42_3)) h42_11 rfl) ?_
  refine xg_t (xg_const) ?_
  by_cases hc16 : f42_3 = 1
  · refine xg_t (xg_icF (u := f42_3) (v := 1) rfl xnm0 xnm0 (xj_neF hc16)) ?_
    refine xg_t (xg_aload (va := (2, 42)) rfl rfl) ?_
    refine xg_t (xg_getf (va := (0, f42_7)) h42_11 rfl) ?_
    refine xg_t (xg_aload (va := (2, 42)) rfl rfl) ?_
    refine xg_t (xg_getf (va := (0, f42_5)) h42_11 rfl) ?_
    by_cases hc17 : f42_5 ≤ f42_7
    · refine xg_t (xg_isub (u := f42_7) (v := f42_5) (z := f42_7 - f42_5) xnm0 xnm0 (by omega)) ?_
      refine xg_t (xg_aload (va := (8, 100 + i)) rfl rfl) ?_
      refine xg_t (xg_slen (i := i) (qb := qb) (Nat.zero_le _) (Nat.zero_le _) (Nat.le_of_ble_eq_true rfl) hi (by omega)) ?_
      by_cases hc18 : (f42_7 - f42_5) = qb.length
      · refine xg_t (xg_icT (u := f42_7 - f42_5) (v := qb.length) rfl xnm0 xnm0 (xj_eqT hc18)) ?_
        refine xg_t (xg_blq rfl) ?_
        refine xg_t (xg_const) ?_
        refine xg_t (xg_istore (l1 := [(0, (2, 42)), (1, (8, 100 + i))]) rfl rfl rfl) ?_
        refine xg_t (xg_drop (l1 := [(0, (2, 42)), (1, (8, 100 + i)), (2, (0, 0))]) (List.forall_mem_cons.mpr ⟨List.mem_cons_of_mem _ (List.mem_cons_self), List.forall_mem_cons.mpr ⟨List.mem_cons_of_mem _ (List.mem_cons_of_mem _ (List.mem_cons_self)), List.forall_mem_cons.mpr ⟨List.mem_cons_self, fun _ h => absurd h List.not_mem_nil⟩⟩⟩)) ?_
        have key19 : ∀ (m21 : Nat) (ki : Nat) (w22 : List (List xE)), qb.length - ki < m21 → ki ≤ 6 → xInv w22 → xFr [] w w22 → xTo (d + 4) mX8_isWord (28, [], [(0, (2, 42)), (1, (8, 100 + i)), (2, (0, ki))], [], (w22, bd, fc, 0, 0, rr)) (fun φ => ∃ n w', xEnd 4 [(0, n)] (w', bd, fc, 0, 0, rr) φ ∧ (n ≤ 1) ∧ xInv w' ∧ xFr [] w w') := by
          intro m21
          induction m21 with
          | zero => intro ki w22 hz; exact absurd hz (Nat.not_lt_zero _)
          | succ m21 ih20 =>
            intro ki w22 hm26 hn25 hI23 hF24
            refine xg_t (xg_blq rfl) ?_
            refine xg_t (xg_iload (va := (0, ki)) rfl rfl) ?_
            refine xg_t (xg_aload (va := (8, 100 + i)) rfl rfl) ?_
            refine xg_t (xg_slen (i := i) (qb := qb) (Nat.zero_le _) (Nat.zero_le _) (Nat.le_of_ble_eq_true rfl) hi (by omega)) ?_
            by_cases hc27 : ki < qb.length
            · refine xg_t (xg_icF (u := ki) (v := qb.length) rfl xnm0 xnm0 (xj_geF hc27 (by omega))) ?_
              refine xg_t (xg_aload (va := (2, 42)) rfl rfl) ?_
              refine xg_t (xg_getf (va := (2, 2)) (hF24.get (by decide) h42_11) rfl) ?_
              refine xg_t (xg_aload (va := (2, 42)) rfl rfl) ?_
              refine xg_t (xg_getf (va := (0, f42_5)) (hF24.get (by decide) h42_11) rfl) ?_
              refine xg_t (xg_iload (va := (0, ki)) rfl rfl) ?_
              refine xg_t (xg_iadd (u := f42_5) (v := ki) (z := f42_5 + ki) xnm0 xnm0 (by omega)) ?_
              refine xg_baldY (n := f42_5 + ki) (h2_14.fr hF24 (by decide)) (hb15) xnm0 (by omega) (fun u28 hu29 he30 => ?_)
              refine xg_t (xg_aload (va := (8, 100 + i)) rfl rfl) ?_
              refine xg_t (xg_iload (va := (0, ki)) rfl rfl) ?_
              refine xg_t (xg_char (i := i) (qb := qb) (n := ki) (Nat.zero_le _) (Nat.zero_le _) (Nat.le_of_ble_eq_true rfl) hi (by omega) xnm0 (by omega) (hq7 _)) ?_
              have hz32 := hq7 ki
              generalize qb.getD ki 0 = ch31 at hz32 ⊢
              by_cases hc33 : u28 = ch31
              · refine xg_t (xg_icT (u := u28) (v := ch31) rfl xnm0 xnm0 (xj_eqT hc33)) ?_
                refine xg_t (xg_blq rfl) ?_
                refine xg_t (xg_iinc (u := ki) (z := ki + 1) (l1 := [(0, (2, 42)), (1, (8, 100 + i))]) rfl rfl (by omega) rfl) ?_
                refine xg_t (xg_goto) ?_
                refine xg_t (xg_drop (l1 := [(0, (2, 42)), (1, (8, 100 + i)), (2, (0, ki + 1))]) (List.forall_mem_cons.mpr ⟨List.mem_cons_of_mem _ (List.mem_cons_self), List.forall_mem_cons.mpr ⟨List.mem_cons_of_mem _ (List.mem_cons_of_mem _ (List.mem_cons_self)), List.forall_mem_cons.mpr ⟨List.mem_cons_self, fun _ h => absurd h List.not_mem_nil⟩⟩⟩)) ?_
                exact ih20 (ki + 1) w22 (by omega) (by omega) (hI23) (hF24)
              · refine xg_t (xg_icF (u := u28) (v := ch31) rfl xnm0 xnm0 (xj_eqF hc33)) ?_
                refine xg_t (xg_const) ?_
                exact xg_e ⟨0, w22, ⟨rfl, rfl⟩, by first | decide | omega, hI23, hF24⟩
            · refine xg_t (xg_icT (u := ki) (v := qb.length) rfl xnm0 xnm0 (xj_geT (by omega) (by omega))) ?_
              refine xg_t (xg_blq rfl) ?_
              refine xg_t (xg_const) ?_
              exact xg_e ⟨1, w22, ⟨rfl, rfl⟩, by first | decide | omega, hI23, hF24⟩
        exact key19 _ 0 w (Nat.lt_succ_self _) (by omega) (hI) (xFr.rf)
      · refine xg_t (xg_icF (u := f42_7 - f42_5) (v := qb.length) rfl xnm0 xnm0 (xj_eqF hc18)) ?_
        refine xg_t (xg_blq rfl) ?_
        refine xg_t (xg_const) ?_
        exact xg_e ⟨0, w, ⟨rfl, rfl⟩, by first | decide | omega, hI, xFr.rf⟩
    · have hz36 : 4294966796 ≤ (f42_7 + (4294967296 - f42_5)) % 4294967296 := by omega
      refine xg_t (xg_isub (u := f42_7) (v := f42_5) (z := (f42_7 + (4294967296 - f42_5)) % 4294967296) xnm0 xnm0 rfl) ?_
      have hz35 : (f42_7 + (4294967296 - f42_5)) % 4294967296 < 4294967296 := Nat.mod_lt _ (by decide)
      generalize (f42_7 + (4294967296 - f42_5)) % 4294967296 = z34 at hz36 hz35 ⊢
      refine xg_t (xg_aload (va := (8, 100 + i)) rfl rfl) ?_
      refine xg_t (xg_slen (i := i) (qb := qb) (Nat.zero_le _) (Nat.zero_le _) (Nat.le_of_ble_eq_true rfl) hi (by omega)) ?_
      refine xg_t (xg_icF (u := z34) (v := qb.length) rfl xnm0 xnm0 (xj_eqF (by omega))) ?_
      refine xg_t (xg_blq rfl) ?_
      refine xg_t (xg_const) ?_
      exact xg_e ⟨0, w, ⟨rfl, rfl⟩, by first | decide | omega, hI, xFr.rf⟩
  · refine xg_t (xg_icT (u := f42_3) (v := 1) rfl xnm0 xnm0 (xj_neT hc16)) ?_
    refine xg_t (xg_blq rfl) ?_
    refine xg_t (xg_const) ?_
    exact xg_e ⟨0, w, ⟨rfl, rfl⟩, by first | decide | omega, hI, xFr.rf⟩
theorem tkIsWord48 {i : Nat} {qb : List Nat} (hI : xInv w) (hi : xget xsbt i = some qb) : xPi (d + 4) mX8_isWord [(2, 48), (8, 100 + i)] w bd fc rr (fun n w' => (n ≤ 1) ∧ xInv w' ∧ xFr [] w w') := by
  refine xPi.of ?_
  show xTo (d + 4) mX8_isWord (0, [], [(0, (2, 48)), (1, (8, 100 + i))], [], (w, bd, fc, 0, 0, rr)) (fun φ => ∃ n w', xEnd 4 [(0, n)] (w', bd, fc, 0, 0, rr) φ ∧ (n ≤ 1) ∧ xInv w' ∧ xFr [] w w')
  obtain ⟨hl6, hq7⟩ := xsbt_ok hi
  refine xoC48 (xqc48 hI : cp48 (wget w 48)) (fun f48_1 f48_3 f48_5 f48_7 f48_9 h48_11 hb2 hb4 hb6 hb8 hb10 hb12 => ?_)
  obtain ⟨g2_13, h2_14, hb15⟩ := (xqc2 hI : cpY 500 0 (wget w 2))
  have h2_14 : xRk 1 0 w 2 500 0 g2_13 := h2_14
  refine xg_t (xg_blq rfl) ?_
  refine xg_t (xg_aload (va := (2, 48)) rfl rfl) ?_
  refine xg_t (xg_getf (va := (0, f48_3)) h48_11 rfl) ?_
  refine xg_t (xg_const) ?_
  by_cases hc16 : f48_3 = 1
  · refine xg_t (xg_icF (u := f48_3) (v := 1) rfl xnm0 xnm0 (xj_neF hc16)) ?_
    refine xg_t (xg_aload (va := (2, 48)) rfl rfl) ?_
    refine xg_t (xg_getf (va := (0, f48_7)) h48_11 rfl) ?_
    refine xg_t (xg_aload (va := (2, 48)) rfl rfl) ?_
    refine xg_t (xg_getf (va := (0, f48_5)) h48_11 rfl) ?_
    by_cases hc17 : f48_5 ≤ f48_7
    · refine xg_t (xg_isub (u := f48_7) (v := f48_5) (z := f48_7 - f48_5) xnm0 xnm0 (by omega)) ?_
      refine xg_t (xg_aload (va := (8, 100 + i)) rfl rfl) ?_
      refine xg_t (xg_slen (i := i) (qb := qb) (Nat.zero_le _) (Nat.zero_le _) (Nat.le_of_ble_eq_true rfl) hi (by omega)) ?_
      by_cases hc18 : (f48_7 - f48_5) = qb.length
      · refine xg_t (xg_icT (u := f48_7 - f48_5) (v := qb.length) rfl xnm0 xnm0 (xj_eqT hc18)) ?_
        refine xg_t (xg_blq rfl) ?_
        refine xg_t (xg_const) ?_
        refine xg_t (xg_istore (l1 := [(0, (2, 48)), (1, (8, 100 + i))]) rfl rfl rfl) ?_
        refine xg_t (xg_drop (l1 := [(0, (2, 48)), (1, (8, 100 + i)), (2, (0, 0))]) (List.forall_mem_cons.mpr ⟨List.mem_cons_of_mem _ (List.mem_cons_self), List.forall_mem_cons.mpr ⟨List.mem_cons_of_mem _ (List.mem_cons_of_mem _ (List.mem_cons_self)), List.forall_mem_cons.mpr ⟨List.mem_cons_self, fun _ h => absurd h List.not_mem_nil⟩⟩⟩)) ?_
        have key19 : ∀ (m21 : Nat) (ki : Nat) (w22 : List (List xE)), qb.length - ki < m21 → ki ≤ 6 → xInv w22 → xFr [] w w22 → xTo (d + 4) mX8_isWord (28, [], [(0, (2, 48)), (1, (8, 100 + i)), (2, (0, ki))], [], (w22, bd, fc, 0, 0, rr)) (fun φ => ∃ n w', xEnd 4 [(0, n)] (w', bd, fc, 0, 0, rr) φ ∧ (n ≤ 1) ∧ xInv w' ∧ xFr [] w w') := by
          intro m21
          induction m21 with
          | zero => intro ki w22 hz; exact absurd hz (Nat.not_lt_zero _)
          | succ m21 ih20 =>
            intro ki w22 hm26 hn25 hI23 hF24
            refine xg_t (xg_blq rfl) ?_
            refine xg_t (xg_iload (va := (0, ki)) rfl rfl) ?_
            refine xg_t (xg_aload (va := (8, 100 + i)) rfl rfl) ?_
            refine xg_t (xg_slen (i := i) (qb := qb) (Nat.zero_le _) (Nat.zero_le _) (Nat.le_of_ble_eq_true rfl) hi (by omega)) ?_
            by_cases hc27 : ki < qb.length
            · refine xg_t (xg_icF (u := ki) (v := qb.length) rfl xnm0 xnm0 (xj_geF hc27 (by omega))) ?_
              refine xg_t (xg_aload (va := (2, 48)) rfl rfl) ?_
              refine xg_t (xg_getf (va := (2, 2)) (hF24.get (by decide) h48_11) rfl) ?_
              refine xg_t (xg_aload (va := (2, 48)) rfl rfl) ?_
              refine xg_t (xg_getf (va := (0, f48_5)) (hF24.get (by decide) h48_11) rfl) ?_
              refine xg_t (xg_iload (va := (0, ki)) rfl rfl) ?_
              refine xg_t (xg_iadd (u := f48_5) (v := ki) (z := f48_5 + ki) xnm0 xnm0 (by omega)) ?_
              refine xg_baldY (n := f48_5 + ki) (h2_14.fr hF24 (by decide)) (hb15) xnm0 (by omega) (fun u28 hu29 he30 => ?_)
              refine xg_t (xg_aload (va := (8, 100 + i)) rfl rfl) ?_
              refine xg_t (xg_iload (va := (0, ki)) rfl rfl) ?_
              refine xg_t (xg_char (i := i) (qb := qb) (n := ki) (Nat.zero_le _) (Nat.zero_le _) (Nat.le_of_ble_eq_true rfl) hi (by omega) xnm0 (by omega) (hq7 _)) ?_
              have hz32 := hq7 ki
              generalize qb.getD ki 0 = ch31 at hz32 ⊢
              by_cases hc33 : u28 = ch31
              · refine xg_t (xg_icT (u := u28) (v := ch31) rfl xnm0 xnm0 (xj_eqT hc33)) ?_
                refine xg_t (xg_blq rfl) ?_
                refine xg_t (xg_iinc (u := ki) (z := ki + 1) (l1 := [(0, (2, 48)), (1, (8, 100 + i))]) rfl rfl (by omega) rfl) ?_
                refine xg_t (xg_goto) ?_
                refine xg_t (xg_drop (l1 := [(0, (2, 48)), (1, (8, 100 + i)), (2, (0, ki + 1))]) (List.forall_mem_cons.mpr ⟨List.mem_cons_of_mem _ (List.mem_cons_self), List.forall_mem_cons.mpr ⟨List.mem_cons_of_mem _ (List.mem_cons_of_mem _ (List.mem_cons_self)), List.forall_mem_cons.mpr ⟨List.mem_cons_self, fun _ h => absurd h List.not_mem_nil⟩⟩⟩)) ?_
                exact ih20 (ki + 1) w22 (by omega) (by omega) (hI23) (hF24)
              · refine xg_t (xg_icF (u := u28) (v := ch31) rfl xnm0 xnm0 (xj_eqF hc33)) ?_
                refine xg_t (xg_const) ?_
                exact xg_e ⟨0, w22, ⟨rfl, rfl⟩, by first | decide | omega, hI23, hF24⟩
            · refine xg_t (xg_icT (u := ki) (v := qb.length) rfl xnm0 xnm0 (xj_geT (by omega) (by omega))) ?_
              refine xg_t (xg_blq rfl) ?_
              refine xg_t (xg_const) ?_
              exact xg_e ⟨1, w22, ⟨rfl, rfl⟩, by first | decide | omega, hI23, hF24⟩
        exact key19 _ 0 w (Nat.lt_succ_self _) (by omega) (hI) (xFr.rf)
      · refine xg_t (xg_icF (u := f48_7 - f48_5) (v := qb.length) rfl xnm0 xnm0 (xj_eqF hc18)) ?_
        refine xg_t (xg_blq rfl) ?_
        refine xg_t (xg_const) ?_
        exact xg_e ⟨0, w, ⟨rfl, rfl⟩, by first | decide | omega, hI, xFr.rf⟩
    · have hz36 : 4294966796 ≤ (f48_7 + (4294967296 - f48_5)) % 4294967296 := by omega
      refine xg_t (xg_isub (u := f48_7) (v := f48_5) (z := (f48_7 + (4294967296 - f48_5)) % 4294967296) xnm0 xnm0 rfl) ?_
      have hz35 : (f48_7 + (4294967296 - f48_5)) % 4294967296 < 4294967296 := Nat.mod_lt _ (by decide)
      generalize (f48_7 + (4294967296 - f48_5)) % 4294967296 = z34 at hz36 hz35 ⊢
      refine xg_t (xg_aload (va := (8, 100 + i)) rfl rfl) ?_
      refine xg_t (xg_slen (i := i) (qb := qb) (Nat.zero_le _) (Nat.zero_le _) (Nat.le_of_ble_eq_true rfl) hi (by omega)) ?_
      refine xg_t (xg_icF (u := z34) (v := qb.length) rfl xnm0 xnm0 (xj_eqF (by omega))) ?_
      refine xg_t (xg_blq rfl) ?_
      refine xg_t (xg_const) ?_
      exact xg_e ⟨0, w, ⟨rfl, rfl⟩, by first | decide | omega, hI, xFr.rf⟩
  · refine xg_t (xg_icT (u := f48_3) (v := 1) rfl xnm0 xnm0 (xj_neT hc16)) ?_
    refine xg_t (xg_blq rfl) ?_
    refine xg_t (xg_const) ?_
    exact xg_e ⟨0, w, ⟨rfl, rfl⟩, by first | decide | omega, hI, xFr.rf⟩
theorem ftSort (hI : xInv w)  : xPi (d + 5) mX2_sortOfWord [(2, 27)] w bd fc rr (fun n w' => (n ≤ 6 ∨ n = 4294967295) ∧ xInv w' ∧ xFr [] w w') := by
  refine xPi.of ?_
  show xTo (d + 5) mX2_sortOfWord (0, [], [(0, (2, 27))], [], (w, bd, fc, 0, 0, rr)) (fun φ => ∃ n w', xEnd 1 [(0, n)] (w', bd, fc, 0, 0, rr) φ ∧ (n ≤ 6 ∨ n = 4294967295) ∧ xInv w' ∧ xFr [] w w')
  refine xoC27 (xqc27 hI : cp27 (wget w 27)) (fun f27_1 f27_3 f27_5 f27_7 f27_9 h27_11 hb2 hb4 hb6 hb8 hb10 => ?_)
  refine xg_t (xg_blq rfl) ?_
  refine xg_t (xg_aload (va := (2, 27)) rfl rfl) ?_
  refine xg_t (xg_getf (va := (2, 42)) h27_11 rfl) ?_
  refine xg_t (xg_ldcS) ?_
  refine xoC42 (xqc42 hI : cp42 (wget w 42)) (fun f42_12 f42_14 f42_16 f42_18 f42_20 h42_22 hb13 hb15 hb17 hb19 hb21 hb23 => ?_)
  refine xg_cVi mX8_isWord (vs := [(8, 102)]) (rest := []) (cn1 := 0) (sl1 := 0) rfl (tkIsWord42 (hI) (i := 2) rfl) rfl h42_22 rfl rfl rfl rfl rfl rfl (fun n28 w24 hq25 => ?_)
  obtain ⟨hn29, hI26, hF27⟩ := hq25
  by_cases hc30 : n28 = 0
  · refine xg_t (xg_ifT (u := n28) rfl xnm0 (xj_eqT hc30)) ?_
    refine xg_t (xg_blq rfl) ?_
    refine xg_t (xg_aload (va := (2, 27)) rfl rfl) ?_
    refine xg_t (xg_getf (va := (2, 42)) (hF27.get (by decide) h27_11) rfl) ?_
    refine xg_t (xg_ldcS) ?_
    refine xg_cVi mX8_isWord (vs := [(8, 103)]) (rest := []) (cn1 := 0) (sl1 := 0) rfl (tkIsWord42 (hI26) (i := 3) rfl) rfl (hF27.get (by decide) h42_22) rfl rfl rfl rfl rfl rfl (fun n35 w31 hq32 => ?_)
    obtain ⟨hn36, hI33, hF34⟩ := hq32
    by_cases hc37 : n35 = 0
    · refine xg_t (xg_ifT (u := n35) rfl xnm0 (xj_eqT hc37)) ?_
      refine xg_t (xg_blq rfl) ?_
      refine xg_t (xg_aload (va := (2, 27)) rfl rfl) ?_
      refine xg_t (xg_getf (va := (2, 42)) (hF34.get (by decide) (hF27.get (by decide) h27_11)) rfl) ?_
      refine xg_t (xg_ldcS) ?_
      refine xg_cVi mX8_isWord (vs := [(8, 104)]) (rest := []) (cn1 := 0) (sl1 := 0) rfl (tkIsWord42 (hI33) (i := 4) rfl) rfl (hF34.get (by decide) (hF27.get (by decide) h42_22)) rfl rfl rfl rfl rfl rfl (fun n42 w38 hq39 => ?_)
      obtain ⟨hn43, hI40, hF41⟩ := hq39
      by_cases hc44 : n42 = 0
      · refine xg_t (xg_ifT (u := n42) rfl xnm0 (xj_eqT hc44)) ?_
        refine xg_t (xg_blq rfl) ?_
        refine xg_t (xg_aload (va := (2, 27)) rfl rfl) ?_
        refine xg_t (xg_getf (va := (2, 42)) (hF41.get (by decide) (hF34.get (by decide) (hF27.get (by decide) h27_11))) rfl) ?_
        refine xg_t (xg_ldcS) ?_
        refine xg_cVi mX8_isWord (vs := [(8, 105)]) (rest := []) (cn1 := 0) (sl1 := 0) rfl (tkIsWord42 (hI40) (i := 5) rfl) rfl (hF41.get (by decide) (hF34.get (by decide) (hF27.get (by decide) h42_22))) rfl rfl rfl rfl rfl rfl (fun n49 w45 hq46 => ?_)
        obtain ⟨hn50, hI47, hF48⟩ := hq46
        by_cases hc51 : n49 = 0
        · refine xg_t (xg_ifT (u := n49) rfl xnm0 (xj_eqT hc51)) ?_
          refine xg_t (xg_blq rfl) ?_
          refine xg_t (xg_aload (va := (2, 27)) rfl rfl) ?_
          refine xg_t (xg_getf (va := (2, 42)) (hF48.get (by decide) (hF41.get (by decide) (hF34.get (by decide) (hF27.get (by decide) h27_11)))) rfl) ?_
          refine xg_t (xg_ldcS) ?_
          refine xg_cVi mX8_isWord (vs := [(8, 106)]) (rest := []) (cn1 := 0) (sl1 := 0) rfl (tkIsWord42 (hI47) (i := 6) rfl) rfl (hF48.get (by decide) (hF41.get (by decide) (hF34.get (by decide) (hF27.get (by decide) h42_22)))) rfl rfl rfl rfl rfl rfl (fun n56 w52 hq53 => ?_)
          obtain ⟨hn57, hI54, hF55⟩ := hq53
          by_cases hc58 : n56 = 0
          · refine xg_t (xg_ifT (u := n56) rfl xnm0 (xj_eqT hc58)) ?_
            refine xg_t (xg_blq rfl) ?_
            refine xg_t (xg_aload (va := (2, 27)) rfl rfl) ?_
            refine xg_t (xg_getf (va := (2, 42)) (hF55.get (by decide) (hF48.get (by decide) (hF41.get (by decide) (hF34.get (by decide) (hF27.get (by decide) h27_11))))) rfl) ?_
            refine xg_t (xg_ldcS) ?_
            refine xg_cVi mX8_isWord (vs := [(8, 107)]) (rest := []) (cn1 := 0) (sl1 := 0) rfl (tkIsWord42 (hI54) (i := 7) rfl) rfl (hF55.get (by decide) (hF48.get (by decide) (hF41.get (by decide) (hF34.get (by decide) (hF27.get (by decide) h42_22))))) rfl rfl rfl rfl rfl rfl (fun n63 w59 hq60 => ?_)
            obtain ⟨hn64, hI61, hF62⟩ := hq60
            by_cases hc65 : n63 = 0
            · refine xg_t (xg_ifT (u := n63) rfl xnm0 (xj_eqT hc65)) ?_
              refine xg_t (xg_blq rfl) ?_
              refine xg_t (xg_aload (va := (2, 27)) rfl rfl) ?_
              refine xg_t (xg_getf (va := (2, 42)) (hF62.get (by decide) (hF55.get (by decide) (hF48.get (by decide) (hF41.get (by decide) (hF34.get (by decide) (hF27.get (by decide) h27_11)))))) rfl) ?_
              refine xg_t (xg_ldcS) ?_
              refine xg_cVi mX8_isWord (vs := [(8, 108)]) (rest := []) (cn1 := 0) (sl1 := 0) rfl (tkIsWord42 (hI61) (i := 8) rfl) rfl (hF62.get (by decide) (hF55.get (by decide) (hF48.get (by decide) (hF41.get (by decide) (hF34.get (by decide) (hF27.get (by decide) h42_22)))))) rfl rfl rfl rfl rfl rfl (fun n70 w66 hq67 => ?_)
              obtain ⟨hn71, hI68, hF69⟩ := hq67
              by_cases hc72 : n70 = 0
              · refine xg_t (xg_ifT (u := n70) rfl xnm0 (xj_eqT hc72)) ?_
                refine xg_t (xg_blq rfl) ?_
                refine xg_t (xg_const) ?_
                refine xg_t (xg_blq rfl) ?_
                exact xg_e ⟨4294967295, w66, ⟨rfl, rfl⟩, by first | decide | omega, hI68, (((((((hF27.up (by decide)).tr (hF34.up (by decide))).tr (hF41.up (by decide))).tr (hF48.up (by decide))).tr (hF55.up (by decide))).tr (hF62.up (by decide))).tr (hF69.up (by decide)))⟩
              · refine xg_t (xg_ifF (u := n70) rfl xnm0 (xj_eqF hc72)) ?_
                refine xg_t (xg_bip) ?_
                refine xg_t (xg_goto) ?_
                refine xg_t (xg_blq rfl) ?_
                exact xg_e ⟨6, w66, ⟨rfl, rfl⟩, by first | decide | omega, hI68, (((((((hF27.up (by decide)).tr (hF34.up (by decide))).tr (hF41.up (by decide))).tr (hF48.up (by decide))).tr (hF55.up (by decide))).tr (hF62.up (by decide))).tr (hF69.up (by decide)))⟩
            · refine xg_t (xg_ifF (u := n63) rfl xnm0 (xj_eqF hc65)) ?_
              refine xg_t (xg_const) ?_
              exact xg_e ⟨5, w59, ⟨rfl, rfl⟩, by first | decide | omega, hI61, ((((((hF27.up (by decide)).tr (hF34.up (by decide))).tr (hF41.up (by decide))).tr (hF48.up (by decide))).tr (hF55.up (by decide))).tr (hF62.up (by decide)))⟩
          · refine xg_t (xg_ifF (u := n56) rfl xnm0 (xj_eqF hc58)) ?_
            refine xg_t (xg_const) ?_
            exact xg_e ⟨4, w52, ⟨rfl, rfl⟩, by first | decide | omega, hI54, (((((hF27.up (by decide)).tr (hF34.up (by decide))).tr (hF41.up (by decide))).tr (hF48.up (by decide))).tr (hF55.up (by decide)))⟩
        · refine xg_t (xg_ifF (u := n49) rfl xnm0 (xj_eqF hc51)) ?_
          refine xg_t (xg_const) ?_
          exact xg_e ⟨3, w45, ⟨rfl, rfl⟩, by first | decide | omega, hI47, ((((hF27.up (by decide)).tr (hF34.up (by decide))).tr (hF41.up (by decide))).tr (hF48.up (by decide)))⟩
      · refine xg_t (xg_ifF (u := n42) rfl xnm0 (xj_eqF hc44)) ?_
        refine xg_t (xg_const) ?_
        exact xg_e ⟨2, w38, ⟨rfl, rfl⟩, by first | decide | omega, hI40, (((hF27.up (by decide)).tr (hF34.up (by decide))).tr (hF41.up (by decide)))⟩
    · refine xg_t (xg_ifF (u := n35) rfl xnm0 (xj_eqF hc37)) ?_
      refine xg_t (xg_const) ?_
      exact xg_e ⟨1, w31, ⟨rfl, rfl⟩, by first | decide | omega, hI33, ((hF27.up (by decide)).tr (hF34.up (by decide)))⟩
  · refine xg_t (xg_ifF (u := n28) rfl xnm0 (xj_eqF hc30)) ?_
    refine xg_t (xg_const) ?_
    exact xg_e ⟨0, w24, ⟨rfl, rfl⟩, by first | decide | omega, hI26, (hF27.up (by decide))⟩
theorem ftGlue (hI : xInv w)  : xPi (d + 5) mX2_readGlue [(2, 27)] w bd fc rr (fun n w' => (n ≤ 1) ∧ xInv w' ∧ xFr [27, 42] w w') := by
  refine xPi.of ?_
  show xTo (d + 5) mX2_readGlue (0, [], [(0, (2, 27))], [], (w, bd, fc, 0, 0, rr)) (fun φ => ∃ n w', xEnd 4 [(0, n)] (w', bd, fc, 0, 0, rr) φ ∧ (n ≤ 1) ∧ xInv w' ∧ xFr [27, 42] w w')
  refine xoC27 (xqc27 hI : cp27 (wget w 27)) (fun f27_1 f27_3 f27_5 f27_7 f27_9 h27_11 hb2 hb4 hb6 hb8 hb10 => ?_)
  refine xg_t (xg_blq rfl) ?_
  refine xg_t (xg_aload (va := (2, 27)) rfl rfl) ?_
  refine xg_t (xg_aload (va := (2, 27)) rfl rfl) ?_
  refine xg_t (xg_getf (va := (2, 42)) h27_11 rfl) ?_
  refine xg_t (xg_ldcS) ?_
  refine xoC42 (xqc42 hI : cp42 (wget w 42)) (fun f42_12 f42_14 f42_16 f42_18 f42_20 h42_22 hb13 hb15 hb17 hb19 hb21 hb23 => ?_)
  refine xg_cVi mX8_isWord (vs := [(8, 100)]) (rest := [(2, 27)]) (cn1 := 0) (sl1 := 0) rfl (tkIsWord42 (hI) (i := 0) rfl) rfl h42_22 rfl rfl rfl rfl rfl rfl (fun n28 w24 hq25 => ?_)
  obtain ⟨hn29, hI26, hF27⟩ := hq25
  rcases (show n28 = 0 ∨ n28 = 1 by omega) with rfl | rfl
  · refine xg_putZ (fl1 := [(2, 1), (2, 42), (2, 28), (2, 39), (2, 40), (2, 41), (0, 0), (0, f27_3), (0, f27_5), (0, f27_7), (0, f27_9)]) (hF27.get (by decide) h27_11) rfl rfl rfl (fun w30 hk31 hb32 => ?_)
    refine xg_t (xg_aload (va := (2, 27)) rfl rfl) ?_
    refine xg_t (xg_getf (va := (0, 0)) hk31 rfl) ?_
    refine xg_t (xg_ifF (u := 0) rfl xnm0 (by decide)) ?_
    refine xg_t (xg_aload (va := (2, 27)) rfl rfl) ?_
    refine xg_t (xg_getf (va := (2, 42)) hk31 rfl) ?_
    refine xg_t (xg_ldcS) ?_
    refine xg_cVi mX8_isWord (vs := [(8, 101)]) (rest := []) (cn1 := 0) (sl1 := 0) rfl (tkIsWord42 (xInv.up (S := [27]) hI26 (xFr.of (S := [27]) hb32 (by decide)) (List.forall_mem_cons.mpr ⟨xqu27 (show cp27 (wget w30 27) from xmC27 0 f27_3 f27_5 f27_7 f27_9 hk31 (by decide) hb4 hb6 hb8 hb10), fun _ h => absurd h List.not_mem_nil⟩)) (i := 1) rfl) rfl (hb32.get (by decide) (hF27.get (by decide) h42_22)) rfl rfl rfl rfl rfl rfl (fun n37 w33 hq34 => ?_)
    obtain ⟨hn38, hI35, hF36⟩ := hq34
    by_cases hc39 : n37 = 0
    · refine xg_t (xg_ifF (u := n37) rfl xnm0 (xj_neF hc39)) ?_
      refine xg_t (xg_const) ?_
      exact xg_e ⟨0, w33, ⟨rfl, rfl⟩, by first | decide | omega, hI35, (((hF27.up (by decide)).tr (xFr.of (S := [27, 42]) hb32 (by decide))).tr (hF36.up (by decide)))⟩
    · refine xg_t (xg_ifT (u := n37) rfl xnm0 (xj_neT hc39)) ?_
      refine xg_t (xg_blq rfl) ?_
      refine xg_t (xg_aload (va := (2, 27)) rfl rfl) ?_
      refine xg_t (xg_getf (va := (2, 42)) (hF36.get (by decide) hk31) rfl) ?_
      refine xg_cVv mX8_advance (vs := []) (rest := []) (cn1 := 0) (sl1 := 0) rfl (tkAdvance42 (hI35)) rfl (hF36.get (by decide) (hb32.get (by decide) (hF27.get (by decide) h42_22))) rfl rfl rfl rfl rfl rfl (fun w40 hq41 => ?_)
      obtain ⟨hI42, hF43⟩ := hq41
      refine xg_t (xg_const) ?_
      exact xg_e ⟨1, w40, ⟨rfl, rfl⟩, by first | decide | omega, hI42, ((((hF27.up (by decide)).tr (xFr.of (S := [27, 42]) hb32 (by decide))).tr (hF36.up (by decide))).tr (hF43.up (by decide)))⟩
  · refine xg_putZ (fl1 := [(2, 1), (2, 42), (2, 28), (2, 39), (2, 40), (2, 41), (0, 1), (0, f27_3), (0, f27_5), (0, f27_7), (0, f27_9)]) (hF27.get (by decide) h27_11) rfl rfl rfl (fun w44 hk45 hb46 => ?_)
    refine xg_t (xg_aload (va := (2, 27)) rfl rfl) ?_
    refine xg_t (xg_getf (va := (0, 1)) hk45 rfl) ?_
    refine xg_t (xg_ifT (u := 1) rfl xnm0 (by decide)) ?_
    refine xg_t (xg_blq rfl) ?_
    refine xg_t (xg_aload (va := (2, 27)) rfl rfl) ?_
    refine xg_t (xg_getf (va := (2, 42)) hk45 rfl) ?_
    refine xg_cVv mX8_advance (vs := []) (rest := []) (cn1 := 0) (sl1 := 0) rfl (tkAdvance42 (xInv.up (S := [27]) hI26 (xFr.of (S := [27]) hb46 (by decide)) (List.forall_mem_cons.mpr ⟨xqu27 (show cp27 (wget w44 27) from xmC27 1 f27_3 f27_5 f27_7 f27_9 hk45 (by decide) hb4 hb6 hb8 hb10), fun _ h => absurd h List.not_mem_nil⟩))) rfl (hb46.get (by decide) (hF27.get (by decide) h42_22)) rfl rfl rfl rfl rfl rfl (fun w47 hq48 => ?_)
    obtain ⟨hI49, hF50⟩ := hq48
    refine xg_t (xg_const) ?_
    exact xg_e ⟨1, w47, ⟨rfl, rfl⟩, by first | decide | omega, hI49, (((hF27.up (by decide)).tr (xFr.of (S := [27, 42]) hb46 (by decide))).tr (hF50.up (by decide)))⟩
theorem ftFine0 {pc_ : Nat} (hI : xInv w) (h1 : pc_ ≤ 4294967295) : xPi (d + 3) mX2_isFine [(2, 27), (0, 0), (0, pc_)] w bd fc rr (fun n w' => (n ≤ 1) ∧ xInv w' ∧ xFr [27] w w') := by
  refine xPi.of ?_
  show xTo (d + 3) mX2_isFine (0, [], [(0, (2, 27)), (1, (0, 0)), (2, (0, pc_))], [], (w, bd, fc, 0, 0, rr)) (fun φ => ∃ n w', xEnd 4 [(0, n)] (w', bd, fc, 0, 0, rr) φ ∧ (n ≤ 1) ∧ xInv w' ∧ xFr [27] w w')
  refine xoC27 (xqc27 hI : cp27 (wget w 27)) (fun f27_1 f27_3 f27_5 f27_7 f27_9 h27_11 hb2 hb4 hb6 hb8 hb10 => ?_)
  refine xoI (xqc39 hI : cpI 3 18 4294967295 (wget w 39)) (fun g39_12 h39_13 hb14 => ?_)
  refine xoI (xqc40 hI : cpI 3 19 4294967295 (wget w 40)) (fun g40_15 h40_16 hb17 => ?_)
  refine xg_t (xg_blq rfl) ?_
  refine xg_t (xg_aload (va := (2, 27)) rfl rfl) ?_
  refine xg_t (xg_iload (va := (0, 0)) rfl rfl) ?_
  refine xg_cVi mX2_isTooMany (vs := [(0, 0)]) (rest := []) (cn1 := 0) (sl1 := 0) rfl (ftTooMany (hI) (by omega)) rfl h27_11 rfl rfl rfl rfl rfl rfl (fun n22 w18 hq19 => ?_)
  obtain ⟨hn23, hI20, hF21⟩ := hq19
  by_cases hc24 : n22 = 0
  · refine xg_t (xg_ifT (u := n22) rfl xnm0 (xj_eqT hc24)) ?_
    refine xg_t (xg_blq rfl) ?_
    refine xg_t (xg_iload (va := (0, 0)) rfl rfl) ?_
    refine xg_t (xg_ifF (u := 0) rfl xnm0 (by decide)) ?_
    refine xg_t (xg_iload (va := (0, 0)) rfl rfl) ?_
    refine xg_t (xg_bip) ?_
    refine xg_t (xg_icT (u := 0) (v := 7) rfl xnm0 xnm0 (by decide)) ?_
    refine xg_t (xg_blq rfl) ?_
    refine xg_t (xg_const) ?_
    refine xg_t (xg_istore (l1 := [(0, (2, 27)), (1, (0, 0)), (2, (0, pc_))]) rfl rfl rfl) ?_
    refine xg_t (xg_blq rfl) ?_
    refine xg_t (xg_iload (va := (0, 0)) rfl rfl) ?_
    refine xg_t (xg_gets) ?_
    refine xg_t (xg_iload (va := (0, 0)) rfl rfl) ?_
    refine xg_t (xg_ald8L (n := 0) (u := 3) xnm0 rfl rfl) ?_
    refine xg_t (xg_icF (u := 0) (v := 3) rfl xnm0 xnm0 (by decide)) ?_
    refine xg_t (xg_iload (va := (0, 0)) rfl rfl) ?_
    refine xg_t (xg_const) ?_
    refine xg_t (xg_icF (u := 0) (v := 3) rfl xnm0 xnm0 (by decide)) ?_
    refine xg_t (xg_aload (va := (2, 27)) rfl rfl) ?_
    refine xg_t (xg_getf (va := (2, 39)) (hF21.get (by decide) h27_11) rfl) ?_
    refine xg_t (xg_iload (va := (0, 0)) rfl rfl) ?_
    refine xg_ialdB (n := 0) (B := 4294967295) (h39_13.fr hF21 (by decide)) (hb14) xnm0 (by first | decide | omega) (fun u25 hu26 he27 => ?_)
    refine xg_t (xg_gets) ?_
    refine xg_t (xg_iload (va := (0, 0)) rfl rfl) ?_
    refine xg_t (xg_const) ?_
    refine xg_t (xg_imul (u := 0) (v := 3) (z := 0) xnm0 xnm0 (by decide)) ?_
    refine xg_t (xg_iload (va := (0, 0)) rfl rfl) ?_
    refine xg_t (xg_iadd (u := 0) (v := 0) (z := 0) xnm0 xnm0 (by decide)) ?_
    refine xg_t (xg_ald8L (n := 0) (u := 1) xnm0 rfl rfl) ?_
    refine xg_t (xg_gets) ?_
    refine xg_t (xg_iload (va := (0, 0)) rfl rfl) ?_
    refine xg_t (xg_const) ?_
    refine xg_t (xg_imul (u := 0) (v := 3) (z := 0) xnm0 xnm0 (by decide)) ?_
    refine xg_t (xg_iload (va := (0, 0)) rfl rfl) ?_
    refine xg_t (xg_iadd (u := 0) (v := 0) (z := 0) xnm0 xnm0 (by decide)) ?_
    refine xg_t (xg_ald8L (n := 0) (u := 99) xnm0 rfl rfl) ?_
    refine xg_t (xg_cNr mX11_isIn (vs := [(0, u25), (0, 1), (0, 99)]) (rest := []) (rs := [(0, if 1 ≤ u25 ∧ u25 ≤ 99 then 1 else 0)]) (cn1 := 0) (sl1 := 0) rfl (isIn_ok (by omega) (by omega) (by omega)) rfl rfl rfl rfl rfl rfl rfl rfl) ?_
    by_cases hc28 : 1 ≤ u25 ∧ u25 ≤ 99
    · refine xg_t (xg_ifT (u := (if 1 ≤ u25 ∧ u25 ≤ 99 then 1 else 0)) rfl xnm0 (xj_neT (xite1 hc28))) ?_
      refine xg_t (xg_blq rfl) ?_
      refine xg_t (xg_iinc (u := 0) (z := 1) (l1 := [(0, (2, 27)), (1, (0, 0)), (2, (0, pc_))]) rfl rfl (by decide) rfl) ?_
      refine xg_t (xg_goto) ?_
      refine xg_t (xg_blq rfl) ?_
      refine xg_t (xg_iload (va := (0, 1)) rfl rfl) ?_
      refine xg_t (xg_gets) ?_
      refine xg_t (xg_iload (va := (0, 0)) rfl rfl) ?_
      refine xg_t (xg_ald8L (n := 0) (u := 3) xnm0 rfl rfl) ?_
      refine xg_t (xg_icF (u := 1) (v := 3) rfl xnm0 xnm0 (by decide)) ?_
      refine xg_t (xg_iload (va := (0, 1)) rfl rfl) ?_
      refine xg_t (xg_const) ?_
      refine xg_t (xg_icF (u := 1) (v := 3) rfl xnm0 xnm0 (by decide)) ?_
      refine xg_t (xg_aload (va := (2, 27)) rfl rfl) ?_
      refine xg_t (xg_getf (va := (2, 39)) (hF21.get (by decide) h27_11) rfl) ?_
      refine xg_t (xg_iload (va := (0, 1)) rfl rfl) ?_
      refine xg_ialdB (n := 1) (B := 4294967295) (h39_13.fr hF21 (by decide)) (hb14) xnm0 (by first | decide | omega) (fun u29 hu30 he31 => ?_)
      refine xg_t (xg_gets) ?_
      refine xg_t (xg_iload (va := (0, 0)) rfl rfl) ?_
      refine xg_t (xg_const) ?_
      refine xg_t (xg_imul (u := 0) (v := 3) (z := 0) xnm0 xnm0 (by decide)) ?_
      refine xg_t (xg_iload (va := (0, 1)) rfl rfl) ?_
      refine xg_t (xg_iadd (u := 0) (v := 1) (z := 1) xnm0 xnm0 (by decide)) ?_
      refine xg_t (xg_ald8L (n := 1) (u := 1) xnm0 rfl rfl) ?_
      refine xg_t (xg_gets) ?_
      refine xg_t (xg_iload (va := (0, 0)) rfl rfl) ?_
      refine xg_t (xg_const) ?_
      refine xg_t (xg_imul (u := 0) (v := 3) (z := 0) xnm0 xnm0 (by decide)) ?_
      refine xg_t (xg_iload (va := (0, 1)) rfl rfl) ?_
      refine xg_t (xg_iadd (u := 0) (v := 1) (z := 1) xnm0 xnm0 (by decide)) ?_
      refine xg_t (xg_ald8L (n := 1) (u := 99) xnm0 rfl rfl) ?_
      refine xg_t (xg_cNr mX11_isIn (vs := [(0, u29), (0, 1), (0, 99)]) (rest := []) (rs := [(0, if 1 ≤ u29 ∧ u29 ≤ 99 then 1 else 0)]) (cn1 := 0) (sl1 := 0) rfl (isIn_ok (by omega) (by omega) (by omega)) rfl rfl rfl rfl rfl rfl rfl rfl) ?_
      by_cases hc32 : 1 ≤ u29 ∧ u29 ≤ 99
      · refine xg_t (xg_ifT (u := (if 1 ≤ u29 ∧ u29 ≤ 99 then 1 else 0)) rfl xnm0 (xj_neT (xite1 hc32))) ?_
        refine xg_t (xg_blq rfl) ?_
        refine xg_t (xg_iinc (u := 1) (z := 2) (l1 := [(0, (2, 27)), (1, (0, 0)), (2, (0, pc_))]) rfl rfl (by decide) rfl) ?_
        refine xg_t (xg_goto) ?_
        refine xg_t (xg_blq rfl) ?_
        refine xg_t (xg_iload (va := (0, 2)) rfl rfl) ?_
        refine xg_t (xg_gets) ?_
        refine xg_t (xg_iload (va := (0, 0)) rfl rfl) ?_
        refine xg_t (xg_ald8L (n := 0) (u := 3) xnm0 rfl rfl) ?_
        refine xg_t (xg_icF (u := 2) (v := 3) rfl xnm0 xnm0 (by decide)) ?_
        refine xg_t (xg_iload (va := (0, 2)) rfl rfl) ?_
        refine xg_t (xg_const) ?_
        refine xg_t (xg_icF (u := 2) (v := 3) rfl xnm0 xnm0 (by decide)) ?_
        refine xg_t (xg_aload (va := (2, 27)) rfl rfl) ?_
        refine xg_t (xg_getf (va := (2, 39)) (hF21.get (by decide) h27_11) rfl) ?_
        refine xg_t (xg_iload (va := (0, 2)) rfl rfl) ?_
        refine xg_ialdB (n := 2) (B := 4294967295) (h39_13.fr hF21 (by decide)) (hb14) xnm0 (by first | decide | omega) (fun u33 hu34 he35 => ?_)
        refine xg_t (xg_gets) ?_
        refine xg_t (xg_iload (va := (0, 0)) rfl rfl) ?_
        refine xg_t (xg_const) ?_
        refine xg_t (xg_imul (u := 0) (v := 3) (z := 0) xnm0 xnm0 (by decide)) ?_
        refine xg_t (xg_iload (va := (0, 2)) rfl rfl) ?_
        refine xg_t (xg_iadd (u := 0) (v := 2) (z := 2) xnm0 xnm0 (by decide)) ?_
        refine xg_t (xg_ald8L (n := 2) (u := 1) xnm0 rfl rfl) ?_
        refine xg_t (xg_gets) ?_
        refine xg_t (xg_iload (va := (0, 0)) rfl rfl) ?_
        refine xg_t (xg_const) ?_
        refine xg_t (xg_imul (u := 0) (v := 3) (z := 0) xnm0 xnm0 (by decide)) ?_
        refine xg_t (xg_iload (va := (0, 2)) rfl rfl) ?_
        refine xg_t (xg_iadd (u := 0) (v := 2) (z := 2) xnm0 xnm0 (by decide)) ?_
        refine xg_t (xg_ald8L (n := 2) (u := 99) xnm0 rfl rfl) ?_
        refine xg_t (xg_cNr mX11_isIn (vs := [(0, u33), (0, 1), (0, 99)]) (rest := []) (rs := [(0, if 1 ≤ u33 ∧ u33 ≤ 99 then 1 else 0)]) (cn1 := 0) (sl1 := 0) rfl (isIn_ok (by omega) (by omega) (by omega)) rfl rfl rfl rfl rfl rfl rfl rfl) ?_
        by_cases hc36 : 1 ≤ u33 ∧ u33 ≤ 99
        · refine xg_t (xg_ifT (u := (if 1 ≤ u33 ∧ u33 ≤ 99 then 1 else 0)) rfl xnm0 (xj_neT (xite1 hc36))) ?_
          refine xg_t (xg_blq rfl) ?_
          refine xg_t (xg_iinc (u := 2) (z := 3) (l1 := [(0, (2, 27)), (1, (0, 0)), (2, (0, pc_))]) rfl rfl (by decide) rfl) ?_
          refine xg_t (xg_goto) ?_
          refine xg_t (xg_blq rfl) ?_
          refine xg_t (xg_iload (va := (0, 3)) rfl rfl) ?_
          refine xg_t (xg_gets) ?_
          refine xg_t (xg_iload (va := (0, 0)) rfl rfl) ?_
          refine xg_t (xg_ald8L (n := 0) (u := 3) xnm0 rfl rfl) ?_
          refine xg_t (xg_icT (u := 3) (v := 3) rfl xnm0 xnm0 (by decide)) ?_
          refine xg_t (xg_blq rfl) ?_
          refine xg_t (xg_const) ?_
          exact xg_e ⟨1, w18, ⟨rfl, rfl⟩, by first | decide | omega, hI20, (hF21.up (by decide))⟩
        · refine xg_t (xg_ifF (u := (if 1 ≤ u33 ∧ u33 ≤ 99 then 1 else 0)) rfl xnm0 (xj_neF (xite0 hc36))) ?_
          refine xg_t (xg_aload (va := (2, 27)) rfl rfl) ?_
          refine xg_t (xg_const) ?_
          refine xg_putI (fl1 := [(2, 1), (2, 42), (2, 28), (2, 39), (2, 40), (2, 41), (0, f27_1), (0, f27_3), (0, f27_5), (0, 2), (0, f27_9)]) (hF21.get (by decide) h27_11) rfl rfl rfl (fun w37 hk38 hb39 => ?_)
          refine xg_t (xg_aload (va := (2, 27)) rfl rfl) ?_
          refine xg_t (xg_aload (va := (2, 27)) rfl rfl) ?_
          refine xg_t (xg_getf (va := (2, 40)) hk38 rfl) ?_
          refine xg_t (xg_iload (va := (0, 2)) rfl rfl) ?_
          refine xg_ialdB (n := 2) (B := 4294967295) ((h40_16.fr hF21 (by decide)).but hb39 (by decide)) (hb17) xnm0 (by first | decide | omega) (fun u40 hu41 he42 => ?_)
          refine xg_putI (fl1 := [(2, 1), (2, 42), (2, 28), (2, 39), (2, 40), (2, 41), (0, f27_1), (0, f27_3), (0, f27_5), (0, 2), (0, u40)]) hk38 rfl rfl rfl (fun w43 hk44 hb45 => ?_)
          refine xg_t (xg_const) ?_
          exact xg_e ⟨0, w43, ⟨rfl, rfl⟩, by first | decide | omega, xInv.up (S := [27]) hI20 ((xFr.of (S := [27]) hb39 (by decide)).tr (xFr.of (S := [27]) hb45 (by decide))) (List.forall_mem_cons.mpr ⟨xqu27 (show cp27 (wget w43 27) from xmC27 f27_1 f27_3 f27_5 2 u40 hk44 hb2 hb4 hb6 (by decide) (by omega)), fun _ h => absurd h List.not_mem_nil⟩), ((hF21.up (by decide)).tr ((xFr.of (S := [27]) hb39 (by decide)).tr (xFr.of (S := [27]) hb45 (by decide))))⟩
      · refine xg_t (xg_ifF (u := (if 1 ≤ u29 ∧ u29 ≤ 99 then 1 else 0)) rfl xnm0 (xj_neF (xite0 hc32))) ?_
        refine xg_t (xg_aload (va := (2, 27)) rfl rfl) ?_
        refine xg_t (xg_const) ?_
        refine xg_putI (fl1 := [(2, 1), (2, 42), (2, 28), (2, 39), (2, 40), (2, 41), (0, f27_1), (0, f27_3), (0, f27_5), (0, 2), (0, f27_9)]) (hF21.get (by decide) h27_11) rfl rfl rfl (fun w46 hk47 hb48 => ?_)
        refine xg_t (xg_aload (va := (2, 27)) rfl rfl) ?_
        refine xg_t (xg_aload (va := (2, 27)) rfl rfl) ?_
        refine xg_t (xg_getf (va := (2, 40)) hk47 rfl) ?_
        refine xg_t (xg_iload (va := (0, 1)) rfl rfl) ?_
        refine xg_ialdB (n := 1) (B := 4294967295) ((h40_16.fr hF21 (by decide)).but hb48 (by decide)) (hb17) xnm0 (by first | decide | omega) (fun u49 hu50 he51 => ?_)
        refine xg_putI (fl1 := [(2, 1), (2, 42), (2, 28), (2, 39), (2, 40), (2, 41), (0, f27_1), (0, f27_3), (0, f27_5), (0, 2), (0, u49)]) hk47 rfl rfl rfl (fun w52 hk53 hb54 => ?_)
        refine xg_t (xg_const) ?_
        exact xg_e ⟨0, w52, ⟨rfl, rfl⟩, by first | decide | omega, xInv.up (S := [27]) hI20 ((xFr.of (S := [27]) hb48 (by decide)).tr (xFr.of (S := [27]) hb54 (by decide))) (List.forall_mem_cons.mpr ⟨xqu27 (show cp27 (wget w52 27) from xmC27 f27_1 f27_3 f27_5 2 u49 hk53 hb2 hb4 hb6 (by decide) (by omega)), fun _ h => absurd h List.not_mem_nil⟩), ((hF21.up (by decide)).tr ((xFr.of (S := [27]) hb48 (by decide)).tr (xFr.of (S := [27]) hb54 (by decide))))⟩
    · refine xg_t (xg_ifF (u := (if 1 ≤ u25 ∧ u25 ≤ 99 then 1 else 0)) rfl xnm0 (xj_neF (xite0 hc28))) ?_
      refine xg_t (xg_aload (va := (2, 27)) rfl rfl) ?_
      refine xg_t (xg_const) ?_
      refine xg_putI (fl1 := [(2, 1), (2, 42), (2, 28), (2, 39), (2, 40), (2, 41), (0, f27_1), (0, f27_3), (0, f27_5), (0, 2), (0, f27_9)]) (hF21.get (by decide) h27_11) rfl rfl rfl (fun w55 hk56 hb57 => ?_)
      refine xg_t (xg_aload (va := (2, 27)) rfl rfl) ?_
      refine xg_t (xg_aload (va := (2, 27)) rfl rfl) ?_
      refine xg_t (xg_getf (va := (2, 40)) hk56 rfl) ?_
      refine xg_t (xg_iload (va := (0, 0)) rfl rfl) ?_
      refine xg_ialdB (n := 0) (B := 4294967295) ((h40_16.fr hF21 (by decide)).but hb57 (by decide)) (hb17) xnm0 (by first | decide | omega) (fun u58 hu59 he60 => ?_)
      refine xg_putI (fl1 := [(2, 1), (2, 42), (2, 28), (2, 39), (2, 40), (2, 41), (0, f27_1), (0, f27_3), (0, f27_5), (0, 2), (0, u58)]) hk56 rfl rfl rfl (fun w61 hk62 hb63 => ?_)
      refine xg_t (xg_const) ?_
      exact xg_e ⟨0, w61, ⟨rfl, rfl⟩, by first | decide | omega, xInv.up (S := [27]) hI20 ((xFr.of (S := [27]) hb57 (by decide)).tr (xFr.of (S := [27]) hb63 (by decide))) (List.forall_mem_cons.mpr ⟨xqu27 (show cp27 (wget w61 27) from xmC27 f27_1 f27_3 f27_5 2 u58 hk62 hb2 hb4 hb6 (by decide) (by omega)), fun _ h => absurd h List.not_mem_nil⟩), ((hF21.up (by decide)).tr ((xFr.of (S := [27]) hb57 (by decide)).tr (xFr.of (S := [27]) hb63 (by decide))))⟩
  · refine xg_t (xg_ifF (u := n22) rfl xnm0 (xj_eqF hc24)) ?_
    refine xg_t (xg_aload (va := (2, 27)) rfl rfl) ?_
    refine xg_t (xg_const) ?_
    refine xg_putI (fl1 := [(2, 1), (2, 42), (2, 28), (2, 39), (2, 40), (2, 41), (0, f27_1), (0, f27_3), (0, f27_5), (0, 3), (0, f27_9)]) (hF21.get (by decide) h27_11) rfl rfl rfl (fun w64 hk65 hb66 => ?_)
    refine xg_t (xg_aload (va := (2, 27)) rfl rfl) ?_
    refine xg_t (xg_iload (va := (0, pc_)) rfl rfl) ?_
    refine xg_putI (fl1 := [(2, 1), (2, 42), (2, 28), (2, 39), (2, 40), (2, 41), (0, f27_1), (0, f27_3), (0, f27_5), (0, 3), (0, pc_)]) hk65 rfl rfl rfl (fun w67 hk68 hb69 => ?_)
    refine xg_t (xg_const) ?_
    exact xg_e ⟨0, w67, ⟨rfl, rfl⟩, by first | decide | omega, xInv.up (S := [27]) hI20 ((xFr.of (S := [27]) hb66 (by decide)).tr (xFr.of (S := [27]) hb69 (by decide))) (List.forall_mem_cons.mpr ⟨xqu27 (show cp27 (wget w67 27) from xmC27 f27_1 f27_3 f27_5 3 pc_ hk68 hb2 hb4 hb6 (by decide) (by omega)), fun _ h => absurd h List.not_mem_nil⟩), ((hF21.up (by decide)).tr ((xFr.of (S := [27]) hb66 (by decide)).tr (xFr.of (S := [27]) hb69 (by decide))))⟩
theorem ftTake0 {pc_ : Nat} (hI : xInv w) (h1 : pc_ ≤ 4294967295) : xPq (d + 2) mX2_take [(2, 27), (0, 0), (0, pc_)] w bd fc rr [] (fun w' => xInv w' ∧ xFr [29, 30, 31, 32, 33, 34, 35, 36, 37, 38, 41] w w') := by
  refine xPq.of ?_
  show xTo (d + 2) mX2_take (0, [], [(0, (2, 27)), (1, (0, 0)), (2, (0, pc_))], [], (w, bd, fc, 0, 0, rr)) (fun φ => ∃ w', xEnd 0 [] (w', bd, fc, 0, 0, rr) φ ∧ xInv w' ∧ xFr [29, 30, 31, 32, 33, 34, 35, 36, 37, 38, 41] w w')
  refine xoC27 (xqc27 hI : cp27 (wget w 27)) (fun f27_1 f27_3 f27_5 f27_7 f27_9 h27_11 hb2 hb4 hb6 hb8 hb10 => ?_)
  refine xoI (xqc39 hI : cpI 3 18 4294967295 (wget w 39)) (fun g39_12 h39_13 hb14 => ?_)
  refine xoI (xqc41 hI : cpI 20 20 4294967295 (wget w 41)) (fun g41_15 h41_16 hb17 => ?_)
  refine xg_t (xg_blq rfl) ?_
  refine xg_t (xg_iload (va := (0, 0)) rfl rfl) ?_
  refine xg_t (xg_const) ?_
  refine xg_t (xg_icT (u := 0) (v := 5) rfl xnm0 xnm0 (by decide)) ?_
  refine xg_t (xg_blq rfl) ?_
  refine xg_t (xg_iload (va := (0, 0)) rfl rfl) ?_
  refine xg_t (xg_bip) ?_
  refine xg_t (xg_icT (u := 0) (v := 6) rfl xnm0 xnm0 (by decide)) ?_
  refine xg_t (xg_blq rfl) ?_
  refine xg_t (xg_aload (va := (2, 27)) rfl rfl) ?_
  refine xg_t (xg_getf (va := (2, 28)) h27_11 rfl) ?_
  refine xg_t (xg_iload (va := (0, 0)) rfl rfl) ?_
  obtain ⟨v18, hv19, hp20⟩ := rowsOf28 (d := d + 1) (bd := bd) (fc := fc) (rr := rr) (so := 0) (hI) (by omega)
  rcases hv19 with rfl | rfl | rfl | rfl | rfl | rfl
  · refine xoC28 (xqc28 hI : cp28 (wget w 28)) (fun f28_21 f28_23 f28_25 f28_27 f28_29 h28_31 hb22 hb24 hb26 hb28 hb30 => ?_)
    refine xg_t (xg_cVr mX1_rowsOf (vs := [(0, 0)]) (rest := []) (rs := [(2, 29)]) (cn1 := 0) (sl1 := 0) rfl (hp20) rfl h28_31 rfl rfl rfl rfl rfl rfl rfl) ?_
    refine xg_t (xg_astore (l1 := [(0, (2, 27)), (1, (0, 0)), (2, (0, pc_))]) rfl rfl rfl) ?_
    refine xg_t (xg_aload (va := (2, 29)) rfl rfl) ?_
    refine xg_t (xg_ifnullF) ?_
    refine xg_t (xg_aload (va := (2, 29)) rfl rfl) ?_
    obtain ⟨f29_32, h29_34, hb33⟩ := (xqc29 hI : cp29 (wget w 29))
    refine xg_t (xg_cVr mX5_isFull (vs := []) (rest := []) (rs := [(0, if 6 ≤ f29_32 then 1 else 0)]) (cn1 := 0) (sl1 := 0) rfl (rfull_ok h29_34 (by decide) (by omega)) rfl h29_34 rfl rfl rfl rfl rfl rfl rfl) ?_
    by_cases hc35 : 6 ≤ f29_32
    · refine xg_t (xg_ifF (u := (if 6 ≤ f29_32 then 1 else 0)) rfl xnm0 (xj_eqF (xite1 hc35))) ?_
      refine xg_t (xg_blq rfl) ?_
      exact xg_e ⟨w, ⟨rfl, rfl⟩, hI, xFr.rf⟩
    · refine xg_t (xg_ifT (u := (if 6 ≤ f29_32 then 1 else 0)) rfl xnm0 (xj_eqT (xite0 hc35))) ?_
      refine xg_t (xg_blq rfl) ?_
      refine xg_t (xg_aload (va := (2, 29)) rfl rfl) ?_
      have hl38 : f29_32 < 6 := by omega
      refine xg_cV mX5_grow (vs := []) (rest := []) (rs := [(0, if f29_32 < 6 then f29_32 else 4294967295)]) (cn1 := 0) (sl1 := 0) rfl (rgrow_ok h29_34 (by decide) (by omega)) rfl h29_34 rfl rfl rfl rfl rfl rfl rfl (fun w36 hq37 => ?_)
      rw [if_pos hl38] at hq37 ⊢
      refine xg_t (xg_istore (l1 := [(3, (2, 29)), (0, (2, 27)), (1, (0, 0)), (2, (0, pc_))]) rfl rfl rfl) ?_
      refine xg_t (xg_const) ?_
      refine xg_t (xg_istore (l1 := [(4, (0, f29_32)), (3, (2, 29)), (0, (2, 27)), (1, (0, 0)), (2, (0, pc_))]) rfl rfl rfl) ?_
      refine xg_t (xg_blq rfl) ?_
      refine xg_t (xg_iload (va := (0, 0)) rfl rfl) ?_
      refine xg_t (xg_gets) ?_
      refine xg_t (xg_iload (va := (0, 0)) rfl rfl) ?_
      refine xg_t (xg_ald8L (n := 0) (u := 3) xnm0 rfl rfl) ?_
      refine xg_t (xg_icF (u := 0) (v := 3) rfl xnm0 xnm0 (by decide)) ?_
      refine xg_t (xg_iload (va := (0, 0)) rfl rfl) ?_
      refine xg_t (xg_const) ?_
      refine xg_t (xg_icF (u := 0) (v := 3) rfl xnm0 xnm0 (by decide)) ?_
      refine xg_t (xg_aload (va := (2, 29)) rfl rfl) ?_
      refine xg_t (xg_iload (va := (0, f29_32)) rfl rfl) ?_
      refine xg_t (xg_iload (va := (0, 0)) rfl rfl) ?_
      refine xg_t (xg_aload (va := (2, 27)) rfl rfl) ?_
      refine xg_t (xg_getf (va := (2, 39)) (hq37.2.get (by decide) h27_11) rfl) ?_
      refine xg_t (xg_iload (va := (0, 0)) rfl rfl) ?_
      refine xg_ialdB (n := 0) (B := 4294967295) (h39_13.but hq37.2 (by decide)) (hb14) xnm0 (by first | decide | omega) (fun u39 hu40 he41 => ?_)
      refine xoI (xqc30 hI : cpI 24 13 4294967295 (wget w 30)) (fun g30_42 h30_43 hb44 => ?_)
      refine xg_cVv mX5_put (vs := [(0, f29_32), (0, 0), (0, u39)]) (rest := []) (cn1 := 0) (sl1 := 0) rfl (rputI (lim := 6) (wd := 4) (B := 4294967295) hq37.1 (h30_43.but hq37.2 (by decide)) (hb44) (by decide) (by omega) (by decide) (by decide) (by omega) (by omega) (by omega)) rfl hq37.1 rfl rfl rfl rfl rfl rfl (fun w45 hq46 => ?_)
      obtain ⟨g47, hr48, hb49, hb50⟩ := hq46
      refine xg_t (xg_iinc (u := 0) (z := 1) (l1 := [(4, (0, f29_32)), (3, (2, 29)), (0, (2, 27)), (1, (0, 0)), (2, (0, pc_))]) rfl rfl (by decide) rfl) ?_
      refine xg_t (xg_goto) ?_
      refine xg_t (xg_blq rfl) ?_
      refine xg_t (xg_iload (va := (0, 1)) rfl rfl) ?_
      refine xg_t (xg_gets) ?_
      refine xg_t (xg_iload (va := (0, 0)) rfl rfl) ?_
      refine xg_t (xg_ald8L (n := 0) (u := 3) xnm0 rfl rfl) ?_
      refine xg_t (xg_icF (u := 1) (v := 3) rfl xnm0 xnm0 (by decide)) ?_
      refine xg_t (xg_iload (va := (0, 1)) rfl rfl) ?_
      refine xg_t (xg_const) ?_
      refine xg_t (xg_icF (u := 1) (v := 3) rfl xnm0 xnm0 (by decide)) ?_
      refine xg_t (xg_aload (va := (2, 29)) rfl rfl) ?_
      refine xg_t (xg_iload (va := (0, f29_32)) rfl rfl) ?_
      refine xg_t (xg_iload (va := (0, 1)) rfl rfl) ?_
      refine xg_t (xg_aload (va := (2, 27)) rfl rfl) ?_
      refine xg_t (xg_getf (va := (2, 39)) (hb50.get (by decide) (hq37.2.get (by decide) h27_11)) rfl) ?_
      refine xg_t (xg_iload (va := (0, 1)) rfl rfl) ?_
      refine xg_ialdB (n := 1) (B := 4294967295) ((h39_13.but hq37.2 (by decide)).but hb50 (by decide)) (hb14) xnm0 (by first | decide | omega) (fun u51 hu52 he53 => ?_)
      refine xg_cVv mX5_put (vs := [(0, f29_32), (0, 1), (0, u51)]) (rest := []) (cn1 := 0) (sl1 := 0) rfl (rputI (lim := 6) (wd := 4) (B := 4294967295) (hb50.get (by decide) hq37.1) hr48 (hb49) (by decide) (by omega) (by decide) (by decide) (by omega) (by omega) (by omega)) rfl (hb50.get (by decide) hq37.1) rfl rfl rfl rfl rfl rfl (fun w54 hq55 => ?_)
      obtain ⟨g56, hr57, hb58, hb59⟩ := hq55
      refine xg_t (xg_iinc (u := 1) (z := 2) (l1 := [(4, (0, f29_32)), (3, (2, 29)), (0, (2, 27)), (1, (0, 0)), (2, (0, pc_))]) rfl rfl (by decide) rfl) ?_
      refine xg_t (xg_goto) ?_
      refine xg_t (xg_blq rfl) ?_
      refine xg_t (xg_iload (va := (0, 2)) rfl rfl) ?_
      refine xg_t (xg_gets) ?_
      refine xg_t (xg_iload (va := (0, 0)) rfl rfl) ?_
      refine xg_t (xg_ald8L (n := 0) (u := 3) xnm0 rfl rfl) ?_
      refine xg_t (xg_icF (u := 2) (v := 3) rfl xnm0 xnm0 (by decide)) ?_
      refine xg_t (xg_iload (va := (0, 2)) rfl rfl) ?_
      refine xg_t (xg_const) ?_
      refine xg_t (xg_icF (u := 2) (v := 3) rfl xnm0 xnm0 (by decide)) ?_
      refine xg_t (xg_aload (va := (2, 29)) rfl rfl) ?_
      refine xg_t (xg_iload (va := (0, f29_32)) rfl rfl) ?_
      refine xg_t (xg_iload (va := (0, 2)) rfl rfl) ?_
      refine xg_t (xg_aload (va := (2, 27)) rfl rfl) ?_
      refine xg_t (xg_getf (va := (2, 39)) (hb59.get (by decide) (hb50.get (by decide) (hq37.2.get (by decide) h27_11))) rfl) ?_
      refine xg_t (xg_iload (va := (0, 2)) rfl rfl) ?_
      refine xg_ialdB (n := 2) (B := 4294967295) (((h39_13.but hq37.2 (by decide)).but hb50 (by decide)).but hb59 (by decide)) (hb14) xnm0 (by first | decide | omega) (fun u60 hu61 he62 => ?_)
      refine xg_cVv mX5_put (vs := [(0, f29_32), (0, 2), (0, u60)]) (rest := []) (cn1 := 0) (sl1 := 0) rfl (rputI (lim := 6) (wd := 4) (B := 4294967295) (hb59.get (by decide) (hb50.get (by decide) hq37.1)) hr57 (hb58) (by decide) (by omega) (by decide) (by decide) (by omega) (by omega) (by omega)) rfl (hb59.get (by decide) (hb50.get (by decide) hq37.1)) rfl rfl rfl rfl rfl rfl (fun w63 hq64 => ?_)
      obtain ⟨g65, hr66, hb67, hb68⟩ := hq64
      refine xg_t (xg_iinc (u := 2) (z := 3) (l1 := [(4, (0, f29_32)), (3, (2, 29)), (0, (2, 27)), (1, (0, 0)), (2, (0, pc_))]) rfl rfl (by decide) rfl) ?_
      refine xg_t (xg_goto) ?_
      refine xg_t (xg_blq rfl) ?_
      refine xg_t (xg_iload (va := (0, 3)) rfl rfl) ?_
      refine xg_t (xg_gets) ?_
      refine xg_t (xg_iload (va := (0, 0)) rfl rfl) ?_
      refine xg_t (xg_ald8L (n := 0) (u := 3) xnm0 rfl rfl) ?_
      refine xg_t (xg_icT (u := 3) (v := 3) rfl xnm0 xnm0 (by decide)) ?_
      refine xg_t (xg_blq rfl) ?_
      refine xg_t (xg_iload (va := (0, 0)) rfl rfl) ?_
      refine xg_t (xg_ifF (u := 0) rfl xnm0 (by decide)) ?_
      refine xg_t (xg_aload (va := (2, 29)) rfl rfl) ?_
      refine xg_t (xg_iload (va := (0, f29_32)) rfl rfl) ?_
      refine xg_t (xg_const) ?_
      refine xg_t (xg_aload (va := (2, 27)) rfl rfl) ?_
      refine xg_t (xg_getf (va := (0, f27_1)) (hb68.get (by decide) (hb59.get (by decide) (hb50.get (by decide) (hq37.2.get (by decide) h27_11)))) rfl) ?_
      by_cases hc69 : f27_1 = 0
      · refine xg_t (xg_ifT (u := f27_1) rfl xnm0 (xj_eqT hc69)) ?_
        refine xg_t (xg_blq rfl) ?_
        refine xg_t (xg_const) ?_
        refine xg_t (xg_blq rfl) ?_
        refine xg_cVv mX5_put (vs := [(0, f29_32), (0, 3), (0, 0)]) (rest := []) (cn1 := 0) (sl1 := 0) rfl (rputI (lim := 6) (wd := 4) (B := 4294967295) (hb68.get (by decide) (hb59.get (by decide) (hb50.get (by decide) hq37.1))) hr66 (hb67) (by decide) (by omega) (by decide) (by decide) (by omega) (by omega) (by omega)) rfl (hb68.get (by decide) (hb59.get (by decide) (hb50.get (by decide) hq37.1))) rfl rfl rfl rfl rfl rfl (fun w70 hq71 => ?_)
        obtain ⟨g72, hr73, hb74, hb75⟩ := hq71
        refine xg_t (xg_blq rfl) ?_
        refine xg_t (xg_iload (va := (0, 0)) rfl rfl) ?_
        refine xg_t (xg_const) ?_
        refine xg_t (xg_icT (u := 0) (v := 4) rfl xnm0 xnm0 (by decide)) ?_
        refine xg_t (xg_blq rfl) ?_
        exact xg_e ⟨w70, ⟨rfl, rfl⟩, xInv.up (S := [29, 30]) hI (((((xFr.of (S := [29, 30]) hq37.2 (by decide)).tr (xFr.of (S := [29, 30]) hb50 (by decide))).tr (xFr.of (S := [29, 30]) hb59 (by decide))).tr (xFr.of (S := [29, 30]) hb68 (by decide))).tr (xFr.of (S := [29, 30]) hb75 (by decide))) (List.forall_mem_cons.mpr ⟨xqu29 (show cp29 (wget w70 29) from ⟨f29_32 + 1, (hb75.get (by decide) (hb68.get (by decide) (hb59.get (by decide) (hb50.get (by decide) hq37.1)))), by omega⟩), List.forall_mem_cons.mpr ⟨xqu30 (show cpI 24 13 4294967295 (wget w70 30) from ⟨_, hr73, hb74⟩), fun _ h => absurd h List.not_mem_nil⟩⟩), (((((xFr.of (S := [29, 30, 31, 32, 33, 34, 35, 36, 37, 38, 41]) hq37.2 (by decide)).tr (xFr.of (S := [29, 30, 31, 32, 33, 34, 35, 36, 37, 38, 41]) hb50 (by decide))).tr (xFr.of (S := [29, 30, 31, 32, 33, 34, 35, 36, 37, 38, 41]) hb59 (by decide))).tr (xFr.of (S := [29, 30, 31, 32, 33, 34, 35, 36, 37, 38, 41]) hb68 (by decide))).tr (xFr.of (S := [29, 30, 31, 32, 33, 34, 35, 36, 37, 38, 41]) hb75 (by decide)))⟩
      · refine xg_t (xg_ifF (u := f27_1) rfl xnm0 (xj_eqF hc69)) ?_
        refine xg_t (xg_const) ?_
        refine xg_t (xg_goto) ?_
        refine xg_t (xg_blq rfl) ?_
        refine xg_cVv mX5_put (vs := [(0, f29_32), (0, 3), (0, 1)]) (rest := []) (cn1 := 0) (sl1 := 0) rfl (rputI (lim := 6) (wd := 4) (B := 4294967295) (hb68.get (by decide) (hb59.get (by decide) (hb50.get (by decide) hq37.1))) hr66 (hb67) (by decide) (by omega) (by decide) (by decide) (by omega) (by omega) (by omega)) rfl (hb68.get (by decide) (hb59.get (by decide) (hb50.get (by decide) hq37.1))) rfl rfl rfl rfl rfl rfl (fun w76 hq77 => ?_)
        obtain ⟨g78, hr79, hb80, hb81⟩ := hq77
        refine xg_t (xg_blq rfl) ?_
        refine xg_t (xg_iload (va := (0, 0)) rfl rfl) ?_
        refine xg_t (xg_const) ?_
        refine xg_t (xg_icT (u := 0) (v := 4) rfl xnm0 xnm0 (by decide)) ?_
        refine xg_t (xg_blq rfl) ?_
        exact xg_e ⟨w76, ⟨rfl, rfl⟩, xInv.up (S := [29, 30]) hI (((((xFr.of (S := [29, 30]) hq37.2 (by decide)).tr (xFr.of (S := [29, 30]) hb50 (by decide))).tr (xFr.of (S := [29, 30]) hb59 (by decide))).tr (xFr.of (S := [29, 30]) hb68 (by decide))).tr (xFr.of (S := [29, 30]) hb81 (by decide))) (List.forall_mem_cons.mpr ⟨xqu29 (show cp29 (wget w76 29) from ⟨f29_32 + 1, (hb81.get (by decide) (hb68.get (by decide) (hb59.get (by decide) (hb50.get (by decide) hq37.1)))), by omega⟩), List.forall_mem_cons.mpr ⟨xqu30 (show cpI 24 13 4294967295 (wget w76 30) from ⟨_, hr79, hb80⟩), fun _ h => absurd h List.not_mem_nil⟩⟩), (((((xFr.of (S := [29, 30, 31, 32, 33, 34, 35, 36, 37, 38, 41]) hq37.2 (by decide)).tr (xFr.of (S := [29, 30, 31, 32, 33, 34, 35, 36, 37, 38, 41]) hb50 (by decide))).tr (xFr.of (S := [29, 30, 31, 32, 33, 34, 35, 36, 37, 38, 41]) hb59 (by decide))).tr (xFr.of (S := [29, 30, 31, 32, 33, 34, 35, 36, 37, 38, 41]) hb68 (by decide))).tr (xFr.of (S := [29, 30, 31, 32, 33, 34, 35, 36, 37, 38, 41]) hb81 (by decide)))⟩
  · refine xoC28 (xqc28 hI : cp28 (wget w 28)) (fun f28_82 f28_84 f28_86 f28_88 f28_90 h28_92 hb83 hb85 hb87 hb89 hb91 => ?_)
    refine xg_t (xg_cVr mX1_rowsOf (vs := [(0, 0)]) (rest := []) (rs := [(2, 31)]) (cn1 := 0) (sl1 := 0) rfl (hp20) rfl h28_92 rfl rfl rfl rfl rfl rfl rfl) ?_
    refine xg_t (xg_astore (l1 := [(0, (2, 27)), (1, (0, 0)), (2, (0, pc_))]) rfl rfl rfl) ?_
    refine xg_t (xg_aload (va := (2, 31)) rfl rfl) ?_
    refine xg_t (xg_ifnullF) ?_
    refine xg_t (xg_aload (va := (2, 31)) rfl rfl) ?_
    obtain ⟨f31_93, h31_95, hb94⟩ := (xqc31 hI : cp31 (wget w 31))
    refine xg_t (xg_cVr mX5_isFull (vs := []) (rest := []) (rs := [(0, if 4 ≤ f31_93 then 1 else 0)]) (cn1 := 0) (sl1 := 0) rfl (rfull_ok h31_95 (by decide) (by omega)) rfl h31_95 rfl rfl rfl rfl rfl rfl rfl) ?_
    by_cases hc96 : 4 ≤ f31_93
    · refine xg_t (xg_ifF (u := (if 4 ≤ f31_93 then 1 else 0)) rfl xnm0 (xj_eqF (xite1 hc96))) ?_
      refine xg_t (xg_blq rfl) ?_
      exact xg_e ⟨w, ⟨rfl, rfl⟩, hI, xFr.rf⟩
    · refine xg_t (xg_ifT (u := (if 4 ≤ f31_93 then 1 else 0)) rfl xnm0 (xj_eqT (xite0 hc96))) ?_
      refine xg_t (xg_blq rfl) ?_
      refine xg_t (xg_aload (va := (2, 31)) rfl rfl) ?_
      have hl99 : f31_93 < 4 := by omega
      refine xg_cV mX5_grow (vs := []) (rest := []) (rs := [(0, if f31_93 < 4 then f31_93 else 4294967295)]) (cn1 := 0) (sl1 := 0) rfl (rgrow_ok h31_95 (by decide) (by omega)) rfl h31_95 rfl rfl rfl rfl rfl rfl rfl (fun w97 hq98 => ?_)
      rw [if_pos hl99] at hq98 ⊢
      refine xg_t (xg_istore (l1 := [(3, (2, 31)), (0, (2, 27)), (1, (0, 0)), (2, (0, pc_))]) rfl rfl rfl) ?_
      refine xg_t (xg_const) ?_
      refine xg_t (xg_istore (l1 := [(4, (0, f31_93)), (3, (2, 31)), (0, (2, 27)), (1, (0, 0)), (2, (0, pc_))]) rfl rfl rfl) ?_
      refine xg_t (xg_blq rfl) ?_
      refine xg_t (xg_iload (va := (0, 0)) rfl rfl) ?_
      refine xg_t (xg_gets) ?_
      refine xg_t (xg_iload (va := (0, 0)) rfl rfl) ?_
      refine xg_t (xg_ald8L (n := 0) (u := 3) xnm0 rfl rfl) ?_
      refine xg_t (xg_icF (u := 0) (v := 3) rfl xnm0 xnm0 (by decide)) ?_
      refine xg_t (xg_iload (va := (0, 0)) rfl rfl) ?_
      refine xg_t (xg_const) ?_
      refine xg_t (xg_icF (u := 0) (v := 3) rfl xnm0 xnm0 (by decide)) ?_
      refine xg_t (xg_aload (va := (2, 31)) rfl rfl) ?_
      refine xg_t (xg_iload (va := (0, f31_93)) rfl rfl) ?_
      refine xg_t (xg_iload (va := (0, 0)) rfl rfl) ?_
      refine xg_t (xg_aload (va := (2, 27)) rfl rfl) ?_
      refine xg_t (xg_getf (va := (2, 39)) (hq98.2.get (by decide) h27_11) rfl) ?_
      refine xg_t (xg_iload (va := (0, 0)) rfl rfl) ?_
      refine xg_ialdB (n := 0) (B := 4294967295) (h39_13.but hq98.2 (by decide)) (hb14) xnm0 (by first | decide | omega) (fun u100 hu101 he102 => ?_)
      refine xoI (xqc32 hI : cpI 8 14 4294967295 (wget w 32)) (fun g32_103 h32_104 hb105 => ?_)
      refine xg_cVv mX5_put (vs := [(0, f31_93), (0, 0), (0, u100)]) (rest := []) (cn1 := 0) (sl1 := 0) rfl (rputI (lim := 4) (wd := 2) (B := 4294967295) hq98.1 (h32_104.but hq98.2 (by decide)) (hb105) (by decide) (by omega) (by decide) (by decide) (by omega) (by omega) (by omega)) rfl hq98.1 rfl rfl rfl rfl rfl rfl (fun w106 hq107 => ?_)
      obtain ⟨g108, hr109, hb110, hb111⟩ := hq107
      refine xg_t (xg_iinc (u := 0) (z := 1) (l1 := [(4, (0, f31_93)), (3, (2, 31)), (0, (2, 27)), (1, (0, 0)), (2, (0, pc_))]) rfl rfl (by decide) rfl) ?_
      refine xg_t (xg_goto) ?_
      refine xg_t (xg_blq rfl) ?_
      refine xg_t (xg_iload (va := (0, 1)) rfl rfl) ?_
      refine xg_t (xg_gets) ?_
      refine xg_t (xg_iload (va := (0, 0)) rfl rfl) ?_
      refine xg_t (xg_ald8L (n := 0) (u := 3) xnm0 rfl rfl) ?_
      refine xg_t (xg_icF (u := 1) (v := 3) rfl xnm0 xnm0 (by decide)) ?_
      refine xg_t (xg_iload (va := (0, 1)) rfl rfl) ?_
      refine xg_t (xg_const) ?_
      refine xg_t (xg_icF (u := 1) (v := 3) rfl xnm0 xnm0 (by decide)) ?_
      refine xg_t (xg_aload (va := (2, 31)) rfl rfl) ?_
      refine xg_t (xg_iload (va := (0, f31_93)) rfl rfl) ?_
      refine xg_t (xg_iload (va := (0, 1)) rfl rfl) ?_
      refine xg_t (xg_aload (va := (2, 27)) rfl rfl) ?_
      refine xg_t (xg_getf (va := (2, 39)) (hb111.get (by decide) (hq98.2.get (by decide) h27_11)) rfl) ?_
      refine xg_t (xg_iload (va := (0, 1)) rfl rfl) ?_
      refine xg_ialdB (n := 1) (B := 4294967295) ((h39_13.but hq98.2 (by decide)).but hb111 (by decide)) (hb14) xnm0 (by first | decide | omega) (fun u112 hu113 he114 => ?_)
      refine xg_cVv mX5_put (vs := [(0, f31_93), (0, 1), (0, u112)]) (rest := []) (cn1 := 0) (sl1 := 0) rfl (rputI (lim := 4) (wd := 2) (B := 4294967295) (hb111.get (by decide) hq98.1) hr109 (hb110) (by decide) (by omega) (by decide) (by decide) (by omega) (by omega) (by omega)) rfl (hb111.get (by decide) hq98.1) rfl rfl rfl rfl rfl rfl (fun w115 hq116 => ?_)
      obtain ⟨g117, hr118, hb119, hb120⟩ := hq116
      refine xg_t (xg_iinc (u := 1) (z := 2) (l1 := [(4, (0, f31_93)), (3, (2, 31)), (0, (2, 27)), (1, (0, 0)), (2, (0, pc_))]) rfl rfl (by decide) rfl) ?_
      refine xg_t (xg_goto) ?_
      refine xg_t (xg_blq rfl) ?_
      refine xg_t (xg_iload (va := (0, 2)) rfl rfl) ?_
      refine xg_t (xg_gets) ?_
      refine xg_t (xg_iload (va := (0, 0)) rfl rfl) ?_
      refine xg_t (xg_ald8L (n := 0) (u := 3) xnm0 rfl rfl) ?_
      refine xg_t (xg_icF (u := 2) (v := 3) rfl xnm0 xnm0 (by decide)) ?_
      refine xg_t (xg_iload (va := (0, 2)) rfl rfl) ?_
      refine xg_t (xg_const) ?_
      refine xg_t (xg_icF (u := 2) (v := 3) rfl xnm0 xnm0 (by decide)) ?_
      refine xg_t (xg_aload (va := (2, 31)) rfl rfl) ?_
      refine xg_t (xg_iload (va := (0, f31_93)) rfl rfl) ?_
      refine xg_t (xg_iload (va := (0, 2)) rfl rfl) ?_
      refine xg_t (xg_aload (va := (2, 27)) rfl rfl) ?_
      refine xg_t (xg_getf (va := (2, 39)) (hb120.get (by decide) (hb111.get (by decide) (hq98.2.get (by decide) h27_11))) rfl) ?_
      refine xg_t (xg_iload (va := (0, 2)) rfl rfl) ?_
      refine xg_ialdB (n := 2) (B := 4294967295) (((h39_13.but hq98.2 (by decide)).but hb111 (by decide)).but hb120 (by decide)) (hb14) xnm0 (by first | decide | omega) (fun u121 hu122 he123 => ?_)
      refine xg_cVv mX5_put (vs := [(0, f31_93), (0, 2), (0, u121)]) (rest := []) (cn1 := 0) (sl1 := 0) rfl (rputI (lim := 4) (wd := 2) (B := 4294967295) (hb120.get (by decide) (hb111.get (by decide) hq98.1)) hr118 (hb119) (by decide) (by omega) (by decide) (by decide) (by omega) (by omega) (by omega)) rfl (hb120.get (by decide) (hb111.get (by decide) hq98.1)) rfl rfl rfl rfl rfl rfl (fun w124 hq125 => ?_)
      obtain ⟨g126, hr127, hb128, hb129⟩ := hq125
      refine xg_t (xg_iinc (u := 2) (z := 3) (l1 := [(4, (0, f31_93)), (3, (2, 31)), (0, (2, 27)), (1, (0, 0)), (2, (0, pc_))]) rfl rfl (by decide) rfl) ?_
      refine xg_t (xg_goto) ?_
      refine xg_t (xg_blq rfl) ?_
      refine xg_t (xg_iload (va := (0, 3)) rfl rfl) ?_
      refine xg_t (xg_gets) ?_
      refine xg_t (xg_iload (va := (0, 0)) rfl rfl) ?_
      refine xg_t (xg_ald8L (n := 0) (u := 3) xnm0 rfl rfl) ?_
      refine xg_t (xg_icT (u := 3) (v := 3) rfl xnm0 xnm0 (by decide)) ?_
      refine xg_t (xg_blq rfl) ?_
      refine xg_t (xg_iload (va := (0, 0)) rfl rfl) ?_
      refine xg_t (xg_ifF (u := 0) rfl xnm0 (by decide)) ?_
      refine xg_t (xg_aload (va := (2, 31)) rfl rfl) ?_
      refine xg_t (xg_iload (va := (0, f31_93)) rfl rfl) ?_
      refine xg_t (xg_const) ?_
      refine xg_t (xg_aload (va := (2, 27)) rfl rfl) ?_
      refine xg_t (xg_getf (va := (0, f27_1)) (hb129.get (by decide) (hb120.get (by decide) (hb111.get (by decide) (hq98.2.get (by decide) h27_11)))) rfl) ?_
      by_cases hc130 : f27_1 = 0
      · refine xg_t (xg_ifT (u := f27_1) rfl xnm0 (xj_eqT hc130)) ?_
        refine xg_t (xg_blq rfl) ?_
        refine xg_t (xg_const) ?_
        refine xg_t (xg_blq rfl) ?_
        refine xg_cVv mX5_put (vs := [(0, f31_93), (0, 3), (0, 0)]) (rest := []) (cn1 := 0) (sl1 := 0) rfl (rputI (lim := 4) (wd := 2) (B := 4294967295) (hb129.get (by decide) (hb120.get (by decide) (hb111.get (by decide) hq98.1))) hr127 (hb128) (by decide) (by omega) (by decide) (by decide) (by omega) (by omega) (by omega)) rfl (hb129.get (by decide) (hb120.get (by decide) (hb111.get (by decide) hq98.1))) rfl rfl rfl rfl rfl rfl (fun w131 hq132 => ?_)
        obtain ⟨g133, hr134, hb135, hb136⟩ := hq132
        refine xg_t (xg_blq rfl) ?_
        refine xg_t (xg_iload (va := (0, 0)) rfl rfl) ?_
        refine xg_t (xg_const) ?_
        refine xg_t (xg_icT (u := 0) (v := 4) rfl xnm0 xnm0 (by decide)) ?_
        refine xg_t (xg_blq rfl) ?_
        exact xg_e ⟨w131, ⟨rfl, rfl⟩, xInv.up (S := [31, 32]) hI (((((xFr.of (S := [31, 32]) hq98.2 (by decide)).tr (xFr.of (S := [31, 32]) hb111 (by decide))).tr (xFr.of (S := [31, 32]) hb120 (by decide))).tr (xFr.of (S := [31, 32]) hb129 (by decide))).tr (xFr.of (S := [31, 32]) hb136 (by decide))) (List.forall_mem_cons.mpr ⟨xqu31 (show cp31 (wget w131 31) from ⟨f31_93 + 1, (hb136.get (by decide) (hb129.get (by decide) (hb120.get (by decide) (hb111.get (by decide) hq98.1)))), by omega⟩), List.forall_mem_cons.mpr ⟨xqu32 (show cpI 8 14 4294967295 (wget w131 32) from ⟨_, hr134, hb135⟩), fun _ h => absurd h List.not_mem_nil⟩⟩), (((((xFr.of (S := [29, 30, 31, 32, 33, 34, 35, 36, 37, 38, 41]) hq98.2 (by decide)).tr (xFr.of (S := [29, 30, 31, 32, 33, 34, 35, 36, 37, 38, 41]) hb111 (by decide))).tr (xFr.of (S := [29, 30, 31, 32, 33, 34, 35, 36, 37, 38, 41]) hb120 (by decide))).tr (xFr.of (S := [29, 30, 31, 32, 33, 34, 35, 36, 37, 38, 41]) hb129 (by decide))).tr (xFr.of (S := [29, 30, 31, 32, 33, 34, 35, 36, 37, 38, 41]) hb136 (by decide)))⟩
      · refine xg_t (xg_ifF (u := f27_1) rfl xnm0 (xj_eqF hc130)) ?_
        refine xg_t (xg_const) ?_
        refine xg_t (xg_goto) ?_
        refine xg_t (xg_blq rfl) ?_
        refine xg_cVv mX5_put (vs := [(0, f31_93), (0, 3), (0, 1)]) (rest := []) (cn1 := 0) (sl1 := 0) rfl (rputI (lim := 4) (wd := 2) (B := 4294967295) (hb129.get (by decide) (hb120.get (by decide) (hb111.get (by decide) hq98.1))) hr127 (hb128) (by decide) (by omega) (by decide) (by decide) (by omega) (by omega) (by omega)) rfl (hb129.get (by decide) (hb120.get (by decide) (hb111.get (by decide) hq98.1))) rfl rfl rfl rfl rfl rfl (fun w137 hq138 => ?_)
        obtain ⟨g139, hr140, hb141, hb142⟩ := hq138
        refine xg_t (xg_blq rfl) ?_
        refine xg_t (xg_iload (va := (0, 0)) rfl rfl) ?_
        refine xg_t (xg_const) ?_
        refine xg_t (xg_icT (u := 0) (v := 4) rfl xnm0 xnm0 (by decide)) ?_
        refine xg_t (xg_blq rfl) ?_
        exact xg_e ⟨w137, ⟨rfl, rfl⟩, xInv.up (S := [31, 32]) hI (((((xFr.of (S := [31, 32]) hq98.2 (by decide)).tr (xFr.of (S := [31, 32]) hb111 (by decide))).tr (xFr.of (S := [31, 32]) hb120 (by decide))).tr (xFr.of (S := [31, 32]) hb129 (by decide))).tr (xFr.of (S := [31, 32]) hb142 (by decide))) (List.forall_mem_cons.mpr ⟨xqu31 (show cp31 (wget w137 31) from ⟨f31_93 + 1, (hb142.get (by decide) (hb129.get (by decide) (hb120.get (by decide) (hb111.get (by decide) hq98.1)))), by omega⟩), List.forall_mem_cons.mpr ⟨xqu32 (show cpI 8 14 4294967295 (wget w137 32) from ⟨_, hr140, hb141⟩), fun _ h => absurd h List.not_mem_nil⟩⟩), (((((xFr.of (S := [29, 30, 31, 32, 33, 34, 35, 36, 37, 38, 41]) hq98.2 (by decide)).tr (xFr.of (S := [29, 30, 31, 32, 33, 34, 35, 36, 37, 38, 41]) hb111 (by decide))).tr (xFr.of (S := [29, 30, 31, 32, 33, 34, 35, 36, 37, 38, 41]) hb120 (by decide))).tr (xFr.of (S := [29, 30, 31, 32, 33, 34, 35, 36, 37, 38, 41]) hb129 (by decide))).tr (xFr.of (S := [29, 30, 31, 32, 33, 34, 35, 36, 37, 38, 41]) hb142 (by decide)))⟩
  · refine xoC28 (xqc28 hI : cp28 (wget w 28)) (fun f28_143 f28_145 f28_147 f28_149 f28_151 h28_153 hb144 hb146 hb148 hb150 hb152 => ?_)
    refine xg_t (xg_cVr mX1_rowsOf (vs := [(0, 0)]) (rest := []) (rs := [(2, 33)]) (cn1 := 0) (sl1 := 0) rfl (hp20) rfl h28_153 rfl rfl rfl rfl rfl rfl rfl) ?_
    refine xg_t (xg_astore (l1 := [(0, (2, 27)), (1, (0, 0)), (2, (0, pc_))]) rfl rfl rfl) ?_
    refine xg_t (xg_aload (va := (2, 33)) rfl rfl) ?_
    refine xg_t (xg_ifnullF) ?_
    refine xg_t (xg_aload (va := (2, 33)) rfl rfl) ?_
    obtain ⟨f33_154, h33_156, hb155⟩ := (xqc33 hI : cp33 (wget w 33))
    refine xg_t (xg_cVr mX5_isFull (vs := []) (rest := []) (rs := [(0, if 6 ≤ f33_154 then 1 else 0)]) (cn1 := 0) (sl1 := 0) rfl (rfull_ok h33_156 (by decide) (by omega)) rfl h33_156 rfl rfl rfl rfl rfl rfl rfl) ?_
    by_cases hc157 : 6 ≤ f33_154
    · refine xg_t (xg_ifF (u := (if 6 ≤ f33_154 then 1 else 0)) rfl xnm0 (xj_eqF (xite1 hc157))) ?_
      refine xg_t (xg_blq rfl) ?_
      exact xg_e ⟨w, ⟨rfl, rfl⟩, hI, xFr.rf⟩
    · refine xg_t (xg_ifT (u := (if 6 ≤ f33_154 then 1 else 0)) rfl xnm0 (xj_eqT (xite0 hc157))) ?_
      refine xg_t (xg_blq rfl) ?_
      refine xg_t (xg_aload (va := (2, 33)) rfl rfl) ?_
      have hl160 : f33_154 < 6 := by omega
      refine xg_cV mX5_grow (vs := []) (rest := []) (rs := [(0, if f33_154 < 6 then f33_154 else 4294967295)]) (cn1 := 0) (sl1 := 0) rfl (rgrow_ok h33_156 (by decide) (by omega)) rfl h33_156 rfl rfl rfl rfl rfl rfl rfl (fun w158 hq159 => ?_)
      rw [if_pos hl160] at hq159 ⊢
      refine xg_t (xg_istore (l1 := [(3, (2, 33)), (0, (2, 27)), (1, (0, 0)), (2, (0, pc_))]) rfl rfl rfl) ?_
      refine xg_t (xg_const) ?_
      refine xg_t (xg_istore (l1 := [(4, (0, f33_154)), (3, (2, 33)), (0, (2, 27)), (1, (0, 0)), (2, (0, pc_))]) rfl rfl rfl) ?_
      refine xg_t (xg_blq rfl) ?_
      refine xg_t (xg_iload (va := (0, 0)) rfl rfl) ?_
      refine xg_t (xg_gets) ?_
      refine xg_t (xg_iload (va := (0, 0)) rfl rfl) ?_
      refine xg_t (xg_ald8L (n := 0) (u := 3) xnm0 rfl rfl) ?_
      refine xg_t (xg_icF (u := 0) (v := 3) rfl xnm0 xnm0 (by decide)) ?_
      refine xg_t (xg_iload (va := (0, 0)) rfl rfl) ?_
      refine xg_t (xg_const) ?_
      refine xg_t (xg_icF (u := 0) (v := 3) rfl xnm0 xnm0 (by decide)) ?_
      refine xg_t (xg_aload (va := (2, 33)) rfl rfl) ?_
      refine xg_t (xg_iload (va := (0, f33_154)) rfl rfl) ?_
      refine xg_t (xg_iload (va := (0, 0)) rfl rfl) ?_
      refine xg_t (xg_aload (va := (2, 27)) rfl rfl) ?_
      refine xg_t (xg_getf (va := (2, 39)) (hq159.2.get (by decide) h27_11) rfl) ?_
      refine xg_t (xg_iload (va := (0, 0)) rfl rfl) ?_
      refine xg_ialdB (n := 0) (B := 4294967295) (h39_13.but hq159.2 (by decide)) (hb14) xnm0 (by first | decide | omega) (fun u161 hu162 he163 => ?_)
      refine xoI (xqc34 hI : cpI 12 15 4294967295 (wget w 34)) (fun g34_164 h34_165 hb166 => ?_)
      refine xg_cVv mX5_put (vs := [(0, f33_154), (0, 0), (0, u161)]) (rest := []) (cn1 := 0) (sl1 := 0) rfl (rputI (lim := 6) (wd := 2) (B := 4294967295) hq159.1 (h34_165.but hq159.2 (by decide)) (hb166) (by decide) (by omega) (by decide) (by decide) (by omega) (by omega) (by omega)) rfl hq159.1 rfl rfl rfl rfl rfl rfl (fun w167 hq168 => ?_)
      obtain ⟨g169, hr170, hb171, hb172⟩ := hq168
      refine xg_t (xg_iinc (u := 0) (z := 1) (l1 := [(4, (0, f33_154)), (3, (2, 33)), (0, (2, 27)), (1, (0, 0)), (2, (0, pc_))]) rfl rfl (by decide) rfl) ?_
      refine xg_t (xg_goto) ?_
      refine xg_t (xg_blq rfl) ?_
      refine xg_t (xg_iload (va := (0, 1)) rfl rfl) ?_
      refine xg_t (xg_gets) ?_
      refine xg_t (xg_iload (va := (0, 0)) rfl rfl) ?_
      refine xg_t (xg_ald8L (n := 0) (u := 3) xnm0 rfl rfl) ?_
      refine xg_t (xg_icF (u := 1) (v := 3) rfl xnm0 xnm0 (by decide)) ?_
      refine xg_t (xg_iload (va := (0, 1)) rfl rfl) ?_
      refine xg_t (xg_const) ?_
      refine xg_t (xg_icF (u := 1) (v := 3) rfl xnm0 xnm0 (by decide)) ?_
      refine xg_t (xg_aload (va := (2, 33)) rfl rfl) ?_
      refine xg_t (xg_iload (va := (0, f33_154)) rfl rfl) ?_
      refine xg_t (xg_iload (va := (0, 1)) rfl rfl) ?_
      refine xg_t (xg_aload (va := (2, 27)) rfl rfl) ?_
      refine xg_t (xg_getf (va := (2, 39)) (hb172.get (by decide) (hq159.2.get (by decide) h27_11)) rfl) ?_
      refine xg_t (xg_iload (va := (0, 1)) rfl rfl) ?_
      refine xg_ialdB (n := 1) (B := 4294967295) ((h39_13.but hq159.2 (by decide)).but hb172 (by decide)) (hb14) xnm0 (by first | decide | omega) (fun u173 hu174 he175 => ?_)
      refine xg_cVv mX5_put (vs := [(0, f33_154), (0, 1), (0, u173)]) (rest := []) (cn1 := 0) (sl1 := 0) rfl (rputI (lim := 6) (wd := 2) (B := 4294967295) (hb172.get (by decide) hq159.1) hr170 (hb171) (by decide) (by omega) (by decide) (by decide) (by omega) (by omega) (by omega)) rfl (hb172.get (by decide) hq159.1) rfl rfl rfl rfl rfl rfl (fun w176 hq177 => ?_)
      obtain ⟨g178, hr179, hb180, hb181⟩ := hq177
      refine xg_t (xg_iinc (u := 1) (z := 2) (l1 := [(4, (0, f33_154)), (3, (2, 33)), (0, (2, 27)), (1, (0, 0)), (2, (0, pc_))]) rfl rfl (by decide) rfl) ?_
      refine xg_t (xg_goto) ?_
      refine xg_t (xg_blq rfl) ?_
      refine xg_t (xg_iload (va := (0, 2)) rfl rfl) ?_
      refine xg_t (xg_gets) ?_
      refine xg_t (xg_iload (va := (0, 0)) rfl rfl) ?_
      refine xg_t (xg_ald8L (n := 0) (u := 3) xnm0 rfl rfl) ?_
      refine xg_t (xg_icF (u := 2) (v := 3) rfl xnm0 xnm0 (by decide)) ?_
      refine xg_t (xg_iload (va := (0, 2)) rfl rfl) ?_
      refine xg_t (xg_const) ?_
      refine xg_t (xg_icF (u := 2) (v := 3) rfl xnm0 xnm0 (by decide)) ?_
      refine xg_t (xg_aload (va := (2, 33)) rfl rfl) ?_
      refine xg_t (xg_iload (va := (0, f33_154)) rfl rfl) ?_
      refine xg_t (xg_iload (va := (0, 2)) rfl rfl) ?_
      refine xg_t (xg_aload (va := (2, 27)) rfl rfl) ?_
      refine xg_t (xg_getf (va := (2, 39)) (hb181.get (by decide) (hb172.get (by decide) (hq159.2.get (by decide) h27_11))) rfl) ?_
      refine xg_t (xg_iload (va := (0, 2)) rfl rfl) ?_
      refine xg_ialdB (n := 2) (B := 4294967295) (((h39_13.but hq159.2 (by decide)).but hb172 (by decide)).but hb181 (by decide)) (hb14) xnm0 (by first | decide | omega) (fun u182 hu183 he184 => ?_)
      refine xg_cVv mX5_put (vs := [(0, f33_154), (0, 2), (0, u182)]) (rest := []) (cn1 := 0) (sl1 := 0) rfl (rputI (lim := 6) (wd := 2) (B := 4294967295) (hb181.get (by decide) (hb172.get (by decide) hq159.1)) hr179 (hb180) (by decide) (by omega) (by decide) (by decide) (by omega) (by omega) (by omega)) rfl (hb181.get (by decide) (hb172.get (by decide) hq159.1)) rfl rfl rfl rfl rfl rfl (fun w185 hq186 => ?_)
      obtain ⟨g187, hr188, hb189, hb190⟩ := hq186
      refine xg_t (xg_iinc (u := 2) (z := 3) (l1 := [(4, (0, f33_154)), (3, (2, 33)), (0, (2, 27)), (1, (0, 0)), (2, (0, pc_))]) rfl rfl (by decide) rfl) ?_
      refine xg_t (xg_goto) ?_
      refine xg_t (xg_blq rfl) ?_
      refine xg_t (xg_iload (va := (0, 3)) rfl rfl) ?_
      refine xg_t (xg_gets) ?_
      refine xg_t (xg_iload (va := (0, 0)) rfl rfl) ?_
      refine xg_t (xg_ald8L (n := 0) (u := 3) xnm0 rfl rfl) ?_
      refine xg_t (xg_icT (u := 3) (v := 3) rfl xnm0 xnm0 (by decide)) ?_
      refine xg_t (xg_blq rfl) ?_
      refine xg_t (xg_iload (va := (0, 0)) rfl rfl) ?_
      refine xg_t (xg_ifF (u := 0) rfl xnm0 (by decide)) ?_
      refine xg_t (xg_aload (va := (2, 33)) rfl rfl) ?_
      refine xg_t (xg_iload (va := (0, f33_154)) rfl rfl) ?_
      refine xg_t (xg_const) ?_
      refine xg_t (xg_aload (va := (2, 27)) rfl rfl) ?_
      refine xg_t (xg_getf (va := (0, f27_1)) (hb190.get (by decide) (hb181.get (by decide) (hb172.get (by decide) (hq159.2.get (by decide) h27_11)))) rfl) ?_
      by_cases hc191 : f27_1 = 0
      · refine xg_t (xg_ifT (u := f27_1) rfl xnm0 (xj_eqT hc191)) ?_
        refine xg_t (xg_blq rfl) ?_
        refine xg_t (xg_const) ?_
        refine xg_t (xg_blq rfl) ?_
        refine xg_cVv mX5_put (vs := [(0, f33_154), (0, 3), (0, 0)]) (rest := []) (cn1 := 0) (sl1 := 0) rfl (rputI (lim := 6) (wd := 2) (B := 4294967295) (hb190.get (by decide) (hb181.get (by decide) (hb172.get (by decide) hq159.1))) hr188 (hb189) (by decide) (by omega) (by decide) (by decide) (by omega) (by omega) (by omega)) rfl (hb190.get (by decide) (hb181.get (by decide) (hb172.get (by decide) hq159.1))) rfl rfl rfl rfl rfl rfl (fun w192 hq193 => ?_)
        obtain ⟨g194, hr195, hb196, hb197⟩ := hq193
        refine xg_t (xg_blq rfl) ?_
        refine xg_t (xg_iload (va := (0, 0)) rfl rfl) ?_
        refine xg_t (xg_const) ?_
        refine xg_t (xg_icT (u := 0) (v := 4) rfl xnm0 xnm0 (by decide)) ?_
        refine xg_t (xg_blq rfl) ?_
        exact xg_e ⟨w192, ⟨rfl, rfl⟩, xInv.up (S := [33, 34]) hI (((((xFr.of (S := [33, 34]) hq159.2 (by decide)).tr (xFr.of (S := [33, 34]) hb172 (by decide))).tr (xFr.of (S := [33, 34]) hb181 (by decide))).tr (xFr.of (S := [33, 34]) hb190 (by decide))).tr (xFr.of (S := [33, 34]) hb197 (by decide))) (List.forall_mem_cons.mpr ⟨xqu33 (show cp33 (wget w192 33) from ⟨f33_154 + 1, (hb197.get (by decide) (hb190.get (by decide) (hb181.get (by decide) (hb172.get (by decide) hq159.1)))), by omega⟩), List.forall_mem_cons.mpr ⟨xqu34 (show cpI 12 15 4294967295 (wget w192 34) from ⟨_, hr195, hb196⟩), fun _ h => absurd h List.not_mem_nil⟩⟩), (((((xFr.of (S := [29, 30, 31, 32, 33, 34, 35, 36, 37, 38, 41]) hq159.2 (by decide)).tr (xFr.of (S := [29, 30, 31, 32, 33, 34, 35, 36, 37, 38, 41]) hb172 (by decide))).tr (xFr.of (S := [29, 30, 31, 32, 33, 34, 35, 36, 37, 38, 41]) hb181 (by decide))).tr (xFr.of (S := [29, 30, 31, 32, 33, 34, 35, 36, 37, 38, 41]) hb190 (by decide))).tr (xFr.of (S := [29, 30, 31, 32, 33, 34, 35, 36, 37, 38, 41]) hb197 (by decide)))⟩
      · refine xg_t (xg_ifF (u := f27_1) rfl xnm0 (xj_eqF hc191)) ?_
        refine xg_t (xg_const) ?_
        refine xg_t (xg_goto) ?_
        refine xg_t (xg_blq rfl) ?_
        refine xg_cVv mX5_put (vs := [(0, f33_154), (0, 3), (0, 1)]) (rest := []) (cn1 := 0) (sl1 := 0) rfl (rputI (lim := 6) (wd := 2) (B := 4294967295) (hb190.get (by decide) (hb181.get (by decide) (hb172.get (by decide) hq159.1))) hr188 (hb189) (by decide) (by omega) (by decide) (by decide) (by omega) (by omega) (by omega)) rfl (hb190.get (by decide) (hb181.get (by decide) (hb172.get (by decide) hq159.1))) rfl rfl rfl rfl rfl rfl (fun w198 hq199 => ?_)
        obtain ⟨g200, hr201, hb202, hb203⟩ := hq199
        refine xg_t (xg_blq rfl) ?_
        refine xg_t (xg_iload (va := (0, 0)) rfl rfl) ?_
        refine xg_t (xg_const) ?_
        refine xg_t (xg_icT (u := 0) (v := 4) rfl xnm0 xnm0 (by decide)) ?_
        refine xg_t (xg_blq rfl) ?_
        exact xg_e ⟨w198, ⟨rfl, rfl⟩, xInv.up (S := [33, 34]) hI (((((xFr.of (S := [33, 34]) hq159.2 (by decide)).tr (xFr.of (S := [33, 34]) hb172 (by decide))).tr (xFr.of (S := [33, 34]) hb181 (by decide))).tr (xFr.of (S := [33, 34]) hb190 (by decide))).tr (xFr.of (S := [33, 34]) hb203 (by decide))) (List.forall_mem_cons.mpr ⟨xqu33 (show cp33 (wget w198 33) from ⟨f33_154 + 1, (hb203.get (by decide) (hb190.get (by decide) (hb181.get (by decide) (hb172.get (by decide) hq159.1)))), by omega⟩), List.forall_mem_cons.mpr ⟨xqu34 (show cpI 12 15 4294967295 (wget w198 34) from ⟨_, hr201, hb202⟩), fun _ h => absurd h List.not_mem_nil⟩⟩), (((((xFr.of (S := [29, 30, 31, 32, 33, 34, 35, 36, 37, 38, 41]) hq159.2 (by decide)).tr (xFr.of (S := [29, 30, 31, 32, 33, 34, 35, 36, 37, 38, 41]) hb172 (by decide))).tr (xFr.of (S := [29, 30, 31, 32, 33, 34, 35, 36, 37, 38, 41]) hb181 (by decide))).tr (xFr.of (S := [29, 30, 31, 32, 33, 34, 35, 36, 37, 38, 41]) hb190 (by decide))).tr (xFr.of (S := [29, 30, 31, 32, 33, 34, 35, 36, 37, 38, 41]) hb203 (by decide)))⟩
  · refine xoC28 (xqc28 hI : cp28 (wget w 28)) (fun f28_204 f28_206 f28_208 f28_210 f28_212 h28_214 hb205 hb207 hb209 hb211 hb213 => ?_)
    refine xg_t (xg_cVr mX1_rowsOf (vs := [(0, 0)]) (rest := []) (rs := [(2, 35)]) (cn1 := 0) (sl1 := 0) rfl (hp20) rfl h28_214 rfl rfl rfl rfl rfl rfl rfl) ?_
    refine xg_t (xg_astore (l1 := [(0, (2, 27)), (1, (0, 0)), (2, (0, pc_))]) rfl rfl rfl) ?_
    refine xg_t (xg_aload (va := (2, 35)) rfl rfl) ?_
    refine xg_t (xg_ifnullF) ?_
    refine xg_t (xg_aload (va := (2, 35)) rfl rfl) ?_
    obtain ⟨f35_215, h35_217, hb216⟩ := (xqc35 hI : cp35 (wget w 35))
    refine xg_t (xg_cVr mX5_isFull (vs := []) (rest := []) (rs := [(0, if 4 ≤ f35_215 then 1 else 0)]) (cn1 := 0) (sl1 := 0) rfl (rfull_ok h35_217 (by decide) (by omega)) rfl h35_217 rfl rfl rfl rfl rfl rfl rfl) ?_
    by_cases hc218 : 4 ≤ f35_215
    · refine xg_t (xg_ifF (u := (if 4 ≤ f35_215 then 1 else 0)) rfl xnm0 (xj_eqF (xite1 hc218))) ?_
      refine xg_t (xg_blq rfl) ?_
      exact xg_e ⟨w, ⟨rfl, rfl⟩, hI, xFr.rf⟩
    · refine xg_t (xg_ifT (u := (if 4 ≤ f35_215 then 1 else 0)) rfl xnm0 (xj_eqT (xite0 hc218))) ?_
      refine xg_t (xg_blq rfl) ?_
      refine xg_t (xg_aload (va := (2, 35)) rfl rfl) ?_
      have hl221 : f35_215 < 4 := by omega
      refine xg_cV mX5_grow (vs := []) (rest := []) (rs := [(0, if f35_215 < 4 then f35_215 else 4294967295)]) (cn1 := 0) (sl1 := 0) rfl (rgrow_ok h35_217 (by decide) (by omega)) rfl h35_217 rfl rfl rfl rfl rfl rfl rfl (fun w219 hq220 => ?_)
      rw [if_pos hl221] at hq220 ⊢
      refine xg_t (xg_istore (l1 := [(3, (2, 35)), (0, (2, 27)), (1, (0, 0)), (2, (0, pc_))]) rfl rfl rfl) ?_
      refine xg_t (xg_const) ?_
      refine xg_t (xg_istore (l1 := [(4, (0, f35_215)), (3, (2, 35)), (0, (2, 27)), (1, (0, 0)), (2, (0, pc_))]) rfl rfl rfl) ?_
      refine xg_t (xg_blq rfl) ?_
      refine xg_t (xg_iload (va := (0, 0)) rfl rfl) ?_
      refine xg_t (xg_gets) ?_
      refine xg_t (xg_iload (va := (0, 0)) rfl rfl) ?_
      refine xg_t (xg_ald8L (n := 0) (u := 3) xnm0 rfl rfl) ?_
      refine xg_t (xg_icF (u := 0) (v := 3) rfl xnm0 xnm0 (by decide)) ?_
      refine xg_t (xg_iload (va := (0, 0)) rfl rfl) ?_
      refine xg_t (xg_const) ?_
      refine xg_t (xg_icF (u := 0) (v := 3) rfl xnm0 xnm0 (by decide)) ?_
      refine xg_t (xg_aload (va := (2, 35)) rfl rfl) ?_
      refine xg_t (xg_iload (va := (0, f35_215)) rfl rfl) ?_
      refine xg_t (xg_iload (va := (0, 0)) rfl rfl) ?_
      refine xg_t (xg_aload (va := (2, 27)) rfl rfl) ?_
      refine xg_t (xg_getf (va := (2, 39)) (hq220.2.get (by decide) h27_11) rfl) ?_
      refine xg_t (xg_iload (va := (0, 0)) rfl rfl) ?_
      refine xg_ialdB (n := 0) (B := 4294967295) (h39_13.but hq220.2 (by decide)) (hb14) xnm0 (by first | decide | omega) (fun u222 hu223 he224 => ?_)
      refine xoI (xqc36 hI : cpI 12 16 4294967295 (wget w 36)) (fun g36_225 h36_226 hb227 => ?_)
      refine xg_cVv mX5_put (vs := [(0, f35_215), (0, 0), (0, u222)]) (rest := []) (cn1 := 0) (sl1 := 0) rfl (rputI (lim := 4) (wd := 3) (B := 4294967295) hq220.1 (h36_226.but hq220.2 (by decide)) (hb227) (by decide) (by omega) (by decide) (by decide) (by omega) (by omega) (by omega)) rfl hq220.1 rfl rfl rfl rfl rfl rfl (fun w228 hq229 => ?_)
      obtain ⟨g230, hr231, hb232, hb233⟩ := hq229
      refine xg_t (xg_iinc (u := 0) (z := 1) (l1 := [(4, (0, f35_215)), (3, (2, 35)), (0, (2, 27)), (1, (0, 0)), (2, (0, pc_))]) rfl rfl (by decide) rfl) ?_
      refine xg_t (xg_goto) ?_
      refine xg_t (xg_blq rfl) ?_
      refine xg_t (xg_iload (va := (0, 1)) rfl rfl) ?_
      refine xg_t (xg_gets) ?_
      refine xg_t (xg_iload (va := (0, 0)) rfl rfl) ?_
      refine xg_t (xg_ald8L (n := 0) (u := 3) xnm0 rfl rfl) ?_
      refine xg_t (xg_icF (u := 1) (v := 3) rfl xnm0 xnm0 (by decide)) ?_
      refine xg_t (xg_iload (va := (0, 1)) rfl rfl) ?_
      refine xg_t (xg_const) ?_
      refine xg_t (xg_icF (u := 1) (v := 3) rfl xnm0 xnm0 (by decide)) ?_
      refine xg_t (xg_aload (va := (2, 35)) rfl rfl) ?_
      refine xg_t (xg_iload (va := (0, f35_215)) rfl rfl) ?_
      refine xg_t (xg_iload (va := (0, 1)) rfl rfl) ?_
      refine xg_t (xg_aload (va := (2, 27)) rfl rfl) ?_
      refine xg_t (xg_getf (va := (2, 39)) (hb233.get (by decide) (hq220.2.get (by decide) h27_11)) rfl) ?_
      refine xg_t (xg_iload (va := (0, 1)) rfl rfl) ?_
      refine xg_ialdB (n := 1) (B := 4294967295) ((h39_13.but hq220.2 (by decide)).but hb233 (by decide)) (hb14) xnm0 (by first | decide | omega) (fun u234 hu235 he236 => ?_)
      refine xg_cVv mX5_put (vs := [(0, f35_215), (0, 1), (0, u234)]) (rest := []) (cn1 := 0) (sl1 := 0) rfl (rputI (lim := 4) (wd := 3) (B := 4294967295) (hb233.get (by decide) hq220.1) hr231 (hb232) (by decide) (by omega) (by decide) (by decide) (by omega) (by omega) (by omega)) rfl (hb233.get (by decide) hq220.1) rfl rfl rfl rfl rfl rfl (fun w237 hq238 => ?_)
      obtain ⟨g239, hr240, hb241, hb242⟩ := hq238
      refine xg_t (xg_iinc (u := 1) (z := 2) (l1 := [(4, (0, f35_215)), (3, (2, 35)), (0, (2, 27)), (1, (0, 0)), (2, (0, pc_))]) rfl rfl (by decide) rfl) ?_
      refine xg_t (xg_goto) ?_
      refine xg_t (xg_blq rfl) ?_
      refine xg_t (xg_iload (va := (0, 2)) rfl rfl) ?_
      refine xg_t (xg_gets) ?_
      refine xg_t (xg_iload (va := (0, 0)) rfl rfl) ?_
      refine xg_t (xg_ald8L (n := 0) (u := 3) xnm0 rfl rfl) ?_
      refine xg_t (xg_icF (u := 2) (v := 3) rfl xnm0 xnm0 (by decide)) ?_
      refine xg_t (xg_iload (va := (0, 2)) rfl rfl) ?_
      refine xg_t (xg_const) ?_
      refine xg_t (xg_icF (u := 2) (v := 3) rfl xnm0 xnm0 (by decide)) ?_
      refine xg_t (xg_aload (va := (2, 35)) rfl rfl) ?_
      refine xg_t (xg_iload (va := (0, f35_215)) rfl rfl) ?_
      refine xg_t (xg_iload (va := (0, 2)) rfl rfl) ?_
      refine xg_t (xg_aload (va := (2, 27)) rfl rfl) ?_
      refine xg_t (xg_getf (va := (2, 39)) (hb242.get (by decide) (hb233.get (by decide) (hq220.2.get (by decide) h27_11))) rfl) ?_
      refine xg_t (xg_iload (va := (0, 2)) rfl rfl) ?_
      refine xg_ialdB (n := 2) (B := 4294967295) (((h39_13.but hq220.2 (by decide)).but hb233 (by decide)).but hb242 (by decide)) (hb14) xnm0 (by first | decide | omega) (fun u243 hu244 he245 => ?_)
      refine xg_cVv mX5_put (vs := [(0, f35_215), (0, 2), (0, u243)]) (rest := []) (cn1 := 0) (sl1 := 0) rfl (rputI (lim := 4) (wd := 3) (B := 4294967295) (hb242.get (by decide) (hb233.get (by decide) hq220.1)) hr240 (hb241) (by decide) (by omega) (by decide) (by decide) (by omega) (by omega) (by omega)) rfl (hb242.get (by decide) (hb233.get (by decide) hq220.1)) rfl rfl rfl rfl rfl rfl (fun w246 hq247 => ?_)
      obtain ⟨g248, hr249, hb250, hb251⟩ := hq247
      refine xg_t (xg_iinc (u := 2) (z := 3) (l1 := [(4, (0, f35_215)), (3, (2, 35)), (0, (2, 27)), (1, (0, 0)), (2, (0, pc_))]) rfl rfl (by decide) rfl) ?_
      refine xg_t (xg_goto) ?_
      refine xg_t (xg_blq rfl) ?_
      refine xg_t (xg_iload (va := (0, 3)) rfl rfl) ?_
      refine xg_t (xg_gets) ?_
      refine xg_t (xg_iload (va := (0, 0)) rfl rfl) ?_
      refine xg_t (xg_ald8L (n := 0) (u := 3) xnm0 rfl rfl) ?_
      refine xg_t (xg_icT (u := 3) (v := 3) rfl xnm0 xnm0 (by decide)) ?_
      refine xg_t (xg_blq rfl) ?_
      refine xg_t (xg_iload (va := (0, 0)) rfl rfl) ?_
      refine xg_t (xg_ifF (u := 0) rfl xnm0 (by decide)) ?_
      refine xg_t (xg_aload (va := (2, 35)) rfl rfl) ?_
      refine xg_t (xg_iload (va := (0, f35_215)) rfl rfl) ?_
      refine xg_t (xg_const) ?_
      refine xg_t (xg_aload (va := (2, 27)) rfl rfl) ?_
      refine xg_t (xg_getf (va := (0, f27_1)) (hb251.get (by decide) (hb242.get (by decide) (hb233.get (by decide) (hq220.2.get (by decide) h27_11)))) rfl) ?_
      by_cases hc252 : f27_1 = 0
      · refine xg_t (xg_ifT (u := f27_1) rfl xnm0 (xj_eqT hc252)) ?_
        refine xg_t (xg_blq rfl) ?_
        refine xg_t (xg_const) ?_
        refine xg_t (xg_blq rfl) ?_
        refine xg_cVv mX5_put (vs := [(0, f35_215), (0, 3), (0, 0)]) (rest := []) (cn1 := 0) (sl1 := 0) rfl (rputI (lim := 4) (wd := 3) (B := 4294967295) (hb251.get (by decide) (hb242.get (by decide) (hb233.get (by decide) hq220.1))) hr249 (hb250) (by decide) (by omega) (by decide) (by decide) (by omega) (by omega) (by omega)) rfl (hb251.get (by decide) (hb242.get (by decide) (hb233.get (by decide) hq220.1))) rfl rfl rfl rfl rfl rfl (fun w253 hq254 => ?_)
        obtain ⟨g255, hr256, hb257, hb258⟩ := hq254
        refine xg_t (xg_blq rfl) ?_
        refine xg_t (xg_iload (va := (0, 0)) rfl rfl) ?_
        refine xg_t (xg_const) ?_
        refine xg_t (xg_icT (u := 0) (v := 4) rfl xnm0 xnm0 (by decide)) ?_
        refine xg_t (xg_blq rfl) ?_
        exact xg_e ⟨w253, ⟨rfl, rfl⟩, xInv.up (S := [35, 36]) hI (((((xFr.of (S := [35, 36]) hq220.2 (by decide)).tr (xFr.of (S := [35, 36]) hb233 (by decide))).tr (xFr.of (S := [35, 36]) hb242 (by decide))).tr (xFr.of (S := [35, 36]) hb251 (by decide))).tr (xFr.of (S := [35, 36]) hb258 (by decide))) (List.forall_mem_cons.mpr ⟨xqu35 (show cp35 (wget w253 35) from ⟨f35_215 + 1, (hb258.get (by decide) (hb251.get (by decide) (hb242.get (by decide) (hb233.get (by decide) hq220.1)))), by omega⟩), List.forall_mem_cons.mpr ⟨xqu36 (show cpI 12 16 4294967295 (wget w253 36) from ⟨_, hr256, hb257⟩), fun _ h => absurd h List.not_mem_nil⟩⟩), (((((xFr.of (S := [29, 30, 31, 32, 33, 34, 35, 36, 37, 38, 41]) hq220.2 (by decide)).tr (xFr.of (S := [29, 30, 31, 32, 33, 34, 35, 36, 37, 38, 41]) hb233 (by decide))).tr (xFr.of (S := [29, 30, 31, 32, 33, 34, 35, 36, 37, 38, 41]) hb242 (by decide))).tr (xFr.of (S := [29, 30, 31, 32, 33, 34, 35, 36, 37, 38, 41]) hb251 (by decide))).tr (xFr.of (S := [29, 30, 31, 32, 33, 34, 35, 36, 37, 38, 41]) hb258 (by decide)))⟩
      · refine xg_t (xg_ifF (u := f27_1) rfl xnm0 (xj_eqF hc252)) ?_
        refine xg_t (xg_const) ?_
        refine xg_t (xg_goto) ?_
        refine xg_t (xg_blq rfl) ?_
        refine xg_cVv mX5_put (vs := [(0, f35_215), (0, 3), (0, 1)]) (rest := []) (cn1 := 0) (sl1 := 0) rfl (rputI (lim := 4) (wd := 3) (B := 4294967295) (hb251.get (by decide) (hb242.get (by decide) (hb233.get (by decide) hq220.1))) hr249 (hb250) (by decide) (by omega) (by decide) (by decide) (by omega) (by omega) (by omega)) rfl (hb251.get (by decide) (hb242.get (by decide) (hb233.get (by decide) hq220.1))) rfl rfl rfl rfl rfl rfl (fun w259 hq260 => ?_)
        obtain ⟨g261, hr262, hb263, hb264⟩ := hq260
        refine xg_t (xg_blq rfl) ?_
        refine xg_t (xg_iload (va := (0, 0)) rfl rfl) ?_
        refine xg_t (xg_const) ?_
        refine xg_t (xg_icT (u := 0) (v := 4) rfl xnm0 xnm0 (by decide)) ?_
        refine xg_t (xg_blq rfl) ?_
        exact xg_e ⟨w259, ⟨rfl, rfl⟩, xInv.up (S := [35, 36]) hI (((((xFr.of (S := [35, 36]) hq220.2 (by decide)).tr (xFr.of (S := [35, 36]) hb233 (by decide))).tr (xFr.of (S := [35, 36]) hb242 (by decide))).tr (xFr.of (S := [35, 36]) hb251 (by decide))).tr (xFr.of (S := [35, 36]) hb264 (by decide))) (List.forall_mem_cons.mpr ⟨xqu35 (show cp35 (wget w259 35) from ⟨f35_215 + 1, (hb264.get (by decide) (hb251.get (by decide) (hb242.get (by decide) (hb233.get (by decide) hq220.1)))), by omega⟩), List.forall_mem_cons.mpr ⟨xqu36 (show cpI 12 16 4294967295 (wget w259 36) from ⟨_, hr262, hb263⟩), fun _ h => absurd h List.not_mem_nil⟩⟩), (((((xFr.of (S := [29, 30, 31, 32, 33, 34, 35, 36, 37, 38, 41]) hq220.2 (by decide)).tr (xFr.of (S := [29, 30, 31, 32, 33, 34, 35, 36, 37, 38, 41]) hb233 (by decide))).tr (xFr.of (S := [29, 30, 31, 32, 33, 34, 35, 36, 37, 38, 41]) hb242 (by decide))).tr (xFr.of (S := [29, 30, 31, 32, 33, 34, 35, 36, 37, 38, 41]) hb251 (by decide))).tr (xFr.of (S := [29, 30, 31, 32, 33, 34, 35, 36, 37, 38, 41]) hb264 (by decide)))⟩
  · refine xoC28 (xqc28 hI : cp28 (wget w 28)) (fun f28_265 f28_267 f28_269 f28_271 f28_273 h28_275 hb266 hb268 hb270 hb272 hb274 => ?_)
    refine xg_t (xg_cVr mX1_rowsOf (vs := [(0, 0)]) (rest := []) (rs := [(2, 37)]) (cn1 := 0) (sl1 := 0) rfl (hp20) rfl h28_275 rfl rfl rfl rfl rfl rfl rfl) ?_
    refine xg_t (xg_astore (l1 := [(0, (2, 27)), (1, (0, 0)), (2, (0, pc_))]) rfl rfl rfl) ?_
    refine xg_t (xg_aload (va := (2, 37)) rfl rfl) ?_
    refine xg_t (xg_ifnullF) ?_
    refine xg_t (xg_aload (va := (2, 37)) rfl rfl) ?_
    obtain ⟨f37_276, h37_278, hb277⟩ := (xqc37 hI : cp37 (wget w 37))
    refine xg_t (xg_cVr mX5_isFull (vs := []) (rest := []) (rs := [(0, if 20 ≤ f37_276 then 1 else 0)]) (cn1 := 0) (sl1 := 0) rfl (rfull_ok h37_278 (by decide) (by omega)) rfl h37_278 rfl rfl rfl rfl rfl rfl rfl) ?_
    by_cases hc279 : 20 ≤ f37_276
    · refine xg_t (xg_ifF (u := (if 20 ≤ f37_276 then 1 else 0)) rfl xnm0 (xj_eqF (xite1 hc279))) ?_
      refine xg_t (xg_blq rfl) ?_
      exact xg_e ⟨w, ⟨rfl, rfl⟩, hI, xFr.rf⟩
    · refine xg_t (xg_ifT (u := (if 20 ≤ f37_276 then 1 else 0)) rfl xnm0 (xj_eqT (xite0 hc279))) ?_
      refine xg_t (xg_blq rfl) ?_
      refine xg_t (xg_aload (va := (2, 37)) rfl rfl) ?_
      have hl282 : f37_276 < 20 := by omega
      refine xg_cV mX5_grow (vs := []) (rest := []) (rs := [(0, if f37_276 < 20 then f37_276 else 4294967295)]) (cn1 := 0) (sl1 := 0) rfl (rgrow_ok h37_278 (by decide) (by omega)) rfl h37_278 rfl rfl rfl rfl rfl rfl rfl (fun w280 hq281 => ?_)
      rw [if_pos hl282] at hq281 ⊢
      refine xg_t (xg_istore (l1 := [(3, (2, 37)), (0, (2, 27)), (1, (0, 0)), (2, (0, pc_))]) rfl rfl rfl) ?_
      refine xg_t (xg_const) ?_
      refine xg_t (xg_istore (l1 := [(4, (0, f37_276)), (3, (2, 37)), (0, (2, 27)), (1, (0, 0)), (2, (0, pc_))]) rfl rfl rfl) ?_
      refine xg_t (xg_blq rfl) ?_
      refine xg_t (xg_iload (va := (0, 0)) rfl rfl) ?_
      refine xg_t (xg_gets) ?_
      refine xg_t (xg_iload (va := (0, 0)) rfl rfl) ?_
      refine xg_t (xg_ald8L (n := 0) (u := 3) xnm0 rfl rfl) ?_
      refine xg_t (xg_icF (u := 0) (v := 3) rfl xnm0 xnm0 (by decide)) ?_
      refine xg_t (xg_iload (va := (0, 0)) rfl rfl) ?_
      refine xg_t (xg_const) ?_
      refine xg_t (xg_icF (u := 0) (v := 3) rfl xnm0 xnm0 (by decide)) ?_
      refine xg_t (xg_aload (va := (2, 37)) rfl rfl) ?_
      refine xg_t (xg_iload (va := (0, f37_276)) rfl rfl) ?_
      refine xg_t (xg_iload (va := (0, 0)) rfl rfl) ?_
      refine xg_t (xg_aload (va := (2, 27)) rfl rfl) ?_
      refine xg_t (xg_getf (va := (2, 39)) (hq281.2.get (by decide) h27_11) rfl) ?_
      refine xg_t (xg_iload (va := (0, 0)) rfl rfl) ?_
      refine xg_ialdB (n := 0) (B := 4294967295) (h39_13.but hq281.2 (by decide)) (hb14) xnm0 (by first | decide | omega) (fun u283 hu284 he285 => ?_)
      refine xoI (xqc38 hI : cpI 40 17 4294967295 (wget w 38)) (fun g38_286 h38_287 hb288 => ?_)
      refine xg_cVv mX5_put (vs := [(0, f37_276), (0, 0), (0, u283)]) (rest := []) (cn1 := 0) (sl1 := 0) rfl (rputI (lim := 20) (wd := 2) (B := 4294967295) hq281.1 (h38_287.but hq281.2 (by decide)) (hb288) (by decide) (by omega) (by decide) (by decide) (by omega) (by omega) (by omega)) rfl hq281.1 rfl rfl rfl rfl rfl rfl (fun w289 hq290 => ?_)
      obtain ⟨g291, hr292, hb293, hb294⟩ := hq290
      refine xg_t (xg_iinc (u := 0) (z := 1) (l1 := [(4, (0, f37_276)), (3, (2, 37)), (0, (2, 27)), (1, (0, 0)), (2, (0, pc_))]) rfl rfl (by decide) rfl) ?_
      refine xg_t (xg_goto) ?_
      refine xg_t (xg_blq rfl) ?_
      refine xg_t (xg_iload (va := (0, 1)) rfl rfl) ?_
      refine xg_t (xg_gets) ?_
      refine xg_t (xg_iload (va := (0, 0)) rfl rfl) ?_
      refine xg_t (xg_ald8L (n := 0) (u := 3) xnm0 rfl rfl) ?_
      refine xg_t (xg_icF (u := 1) (v := 3) rfl xnm0 xnm0 (by decide)) ?_
      refine xg_t (xg_iload (va := (0, 1)) rfl rfl) ?_
      refine xg_t (xg_const) ?_
      refine xg_t (xg_icF (u := 1) (v := 3) rfl xnm0 xnm0 (by decide)) ?_
      refine xg_t (xg_aload (va := (2, 37)) rfl rfl) ?_
      refine xg_t (xg_iload (va := (0, f37_276)) rfl rfl) ?_
      refine xg_t (xg_iload (va := (0, 1)) rfl rfl) ?_
      refine xg_t (xg_aload (va := (2, 27)) rfl rfl) ?_
      refine xg_t (xg_getf (va := (2, 39)) (hb294.get (by decide) (hq281.2.get (by decide) h27_11)) rfl) ?_
      refine xg_t (xg_iload (va := (0, 1)) rfl rfl) ?_
      refine xg_ialdB (n := 1) (B := 4294967295) ((h39_13.but hq281.2 (by decide)).but hb294 (by decide)) (hb14) xnm0 (by first | decide | omega) (fun u295 hu296 he297 => ?_)
      refine xg_cVv mX5_put (vs := [(0, f37_276), (0, 1), (0, u295)]) (rest := []) (cn1 := 0) (sl1 := 0) rfl (rputI (lim := 20) (wd := 2) (B := 4294967295) (hb294.get (by decide) hq281.1) hr292 (hb293) (by decide) (by omega) (by decide) (by decide) (by omega) (by omega) (by omega)) rfl (hb294.get (by decide) hq281.1) rfl rfl rfl rfl rfl rfl (fun w298 hq299 => ?_)
      obtain ⟨g300, hr301, hb302, hb303⟩ := hq299
      refine xg_t (xg_iinc (u := 1) (z := 2) (l1 := [(4, (0, f37_276)), (3, (2, 37)), (0, (2, 27)), (1, (0, 0)), (2, (0, pc_))]) rfl rfl (by decide) rfl) ?_
      refine xg_t (xg_goto) ?_
      refine xg_t (xg_blq rfl) ?_
      refine xg_t (xg_iload (va := (0, 2)) rfl rfl) ?_
      refine xg_t (xg_gets) ?_
      refine xg_t (xg_iload (va := (0, 0)) rfl rfl) ?_
      refine xg_t (xg_ald8L (n := 0) (u := 3) xnm0 rfl rfl) ?_
      refine xg_t (xg_icF (u := 2) (v := 3) rfl xnm0 xnm0 (by decide)) ?_
      refine xg_t (xg_iload (va := (0, 2)) rfl rfl) ?_
      refine xg_t (xg_const) ?_
      refine xg_t (xg_icF (u := 2) (v := 3) rfl xnm0 xnm0 (by decide)) ?_
      refine xg_t (xg_aload (va := (2, 37)) rfl rfl) ?_
      refine xg_t (xg_iload (va := (0, f37_276)) rfl rfl) ?_
      refine xg_t (xg_iload (va := (0, 2)) rfl rfl) ?_
      refine xg_t (xg_aload (va := (2, 27)) rfl rfl) ?_
      refine xg_t (xg_getf (va := (2, 39)) (hb303.get (by decide) (hb294.get (by decide) (hq281.2.get (by decide) h27_11))) rfl) ?_
      refine xg_t (xg_iload (va := (0, 2)) rfl rfl) ?_
      refine xg_ialdB (n := 2) (B := 4294967295) (((h39_13.but hq281.2 (by decide)).but hb294 (by decide)).but hb303 (by decide)) (hb14) xnm0 (by first | decide | omega) (fun u304 hu305 he306 => ?_)
      refine xg_cVv mX5_put (vs := [(0, f37_276), (0, 2), (0, u304)]) (rest := []) (cn1 := 0) (sl1 := 0) rfl (rputI (lim := 20) (wd := 2) (B := 4294967295) (hb303.get (by decide) (hb294.get (by decide) hq281.1)) hr301 (hb302) (by decide) (by omega) (by decide) (by decide) (by omega) (by omega) (by omega)) rfl (hb303.get (by decide) (hb294.get (by decide) hq281.1)) rfl rfl rfl rfl rfl rfl (fun w307 hq308 => ?_)
      obtain ⟨g309, hr310, hb311, hb312⟩ := hq308
      refine xg_t (xg_iinc (u := 2) (z := 3) (l1 := [(4, (0, f37_276)), (3, (2, 37)), (0, (2, 27)), (1, (0, 0)), (2, (0, pc_))]) rfl rfl (by decide) rfl) ?_
      refine xg_t (xg_goto) ?_
      refine xg_t (xg_blq rfl) ?_
      refine xg_t (xg_iload (va := (0, 3)) rfl rfl) ?_
      refine xg_t (xg_gets) ?_
      refine xg_t (xg_iload (va := (0, 0)) rfl rfl) ?_
      refine xg_t (xg_ald8L (n := 0) (u := 3) xnm0 rfl rfl) ?_
      refine xg_t (xg_icT (u := 3) (v := 3) rfl xnm0 xnm0 (by decide)) ?_
      refine xg_t (xg_blq rfl) ?_
      refine xg_t (xg_iload (va := (0, 0)) rfl rfl) ?_
      refine xg_t (xg_ifF (u := 0) rfl xnm0 (by decide)) ?_
      refine xg_t (xg_aload (va := (2, 37)) rfl rfl) ?_
      refine xg_t (xg_iload (va := (0, f37_276)) rfl rfl) ?_
      refine xg_t (xg_const) ?_
      refine xg_t (xg_aload (va := (2, 27)) rfl rfl) ?_
      refine xg_t (xg_getf (va := (0, f27_1)) (hb312.get (by decide) (hb303.get (by decide) (hb294.get (by decide) (hq281.2.get (by decide) h27_11)))) rfl) ?_
      by_cases hc313 : f27_1 = 0
      · refine xg_t (xg_ifT (u := f27_1) rfl xnm0 (xj_eqT hc313)) ?_
        refine xg_t (xg_blq rfl) ?_
        refine xg_t (xg_const) ?_
        refine xg_t (xg_blq rfl) ?_
        refine xg_cVv mX5_put (vs := [(0, f37_276), (0, 3), (0, 0)]) (rest := []) (cn1 := 0) (sl1 := 0) rfl (rputI (lim := 20) (wd := 2) (B := 4294967295) (hb312.get (by decide) (hb303.get (by decide) (hb294.get (by decide) hq281.1))) hr310 (hb311) (by decide) (by omega) (by decide) (by decide) (by omega) (by omega) (by omega)) rfl (hb312.get (by decide) (hb303.get (by decide) (hb294.get (by decide) hq281.1))) rfl rfl rfl rfl rfl rfl (fun w314 hq315 => ?_)
        obtain ⟨g316, hr317, hb318, hb319⟩ := hq315
        refine xg_t (xg_blq rfl) ?_
        refine xg_t (xg_iload (va := (0, 0)) rfl rfl) ?_
        refine xg_t (xg_const) ?_
        refine xg_t (xg_icT (u := 0) (v := 4) rfl xnm0 xnm0 (by decide)) ?_
        refine xg_t (xg_blq rfl) ?_
        exact xg_e ⟨w314, ⟨rfl, rfl⟩, xInv.up (S := [37, 38]) hI (((((xFr.of (S := [37, 38]) hq281.2 (by decide)).tr (xFr.of (S := [37, 38]) hb294 (by decide))).tr (xFr.of (S := [37, 38]) hb303 (by decide))).tr (xFr.of (S := [37, 38]) hb312 (by decide))).tr (xFr.of (S := [37, 38]) hb319 (by decide))) (List.forall_mem_cons.mpr ⟨xqu37 (show cp37 (wget w314 37) from ⟨f37_276 + 1, (hb319.get (by decide) (hb312.get (by decide) (hb303.get (by decide) (hb294.get (by decide) hq281.1)))), by omega⟩), List.forall_mem_cons.mpr ⟨xqu38 (show cpI 40 17 4294967295 (wget w314 38) from ⟨_, hr317, hb318⟩), fun _ h => absurd h List.not_mem_nil⟩⟩), (((((xFr.of (S := [29, 30, 31, 32, 33, 34, 35, 36, 37, 38, 41]) hq281.2 (by decide)).tr (xFr.of (S := [29, 30, 31, 32, 33, 34, 35, 36, 37, 38, 41]) hb294 (by decide))).tr (xFr.of (S := [29, 30, 31, 32, 33, 34, 35, 36, 37, 38, 41]) hb303 (by decide))).tr (xFr.of (S := [29, 30, 31, 32, 33, 34, 35, 36, 37, 38, 41]) hb312 (by decide))).tr (xFr.of (S := [29, 30, 31, 32, 33, 34, 35, 36, 37, 38, 41]) hb319 (by decide)))⟩
      · refine xg_t (xg_ifF (u := f27_1) rfl xnm0 (xj_eqF hc313)) ?_
        refine xg_t (xg_const) ?_
        refine xg_t (xg_goto) ?_
        refine xg_t (xg_blq rfl) ?_
        refine xg_cVv mX5_put (vs := [(0, f37_276), (0, 3), (0, 1)]) (rest := []) (cn1 := 0) (sl1 := 0) rfl (rputI (lim := 20) (wd := 2) (B := 4294967295) (hb312.get (by decide) (hb303.get (by decide) (hb294.get (by decide) hq281.1))) hr310 (hb311) (by decide) (by omega) (by decide) (by decide) (by omega) (by omega) (by omega)) rfl (hb312.get (by decide) (hb303.get (by decide) (hb294.get (by decide) hq281.1))) rfl rfl rfl rfl rfl rfl (fun w320 hq321 => ?_)
        obtain ⟨g322, hr323, hb324, hb325⟩ := hq321
        refine xg_t (xg_blq rfl) ?_
        refine xg_t (xg_iload (va := (0, 0)) rfl rfl) ?_
        refine xg_t (xg_const) ?_
        refine xg_t (xg_icT (u := 0) (v := 4) rfl xnm0 xnm0 (by decide)) ?_
        refine xg_t (xg_blq rfl) ?_
        exact xg_e ⟨w320, ⟨rfl, rfl⟩, xInv.up (S := [37, 38]) hI (((((xFr.of (S := [37, 38]) hq281.2 (by decide)).tr (xFr.of (S := [37, 38]) hb294 (by decide))).tr (xFr.of (S := [37, 38]) hb303 (by decide))).tr (xFr.of (S := [37, 38]) hb312 (by decide))).tr (xFr.of (S := [37, 38]) hb325 (by decide))) (List.forall_mem_cons.mpr ⟨xqu37 (show cp37 (wget w320 37) from ⟨f37_276 + 1, (hb325.get (by decide) (hb312.get (by decide) (hb303.get (by decide) (hb294.get (by decide) hq281.1)))), by omega⟩), List.forall_mem_cons.mpr ⟨xqu38 (show cpI 40 17 4294967295 (wget w320 38) from ⟨_, hr323, hb324⟩), fun _ h => absurd h List.not_mem_nil⟩⟩), (((((xFr.of (S := [29, 30, 31, 32, 33, 34, 35, 36, 37, 38, 41]) hq281.2 (by decide)).tr (xFr.of (S := [29, 30, 31, 32, 33, 34, 35, 36, 37, 38, 41]) hb294 (by decide))).tr (xFr.of (S := [29, 30, 31, 32, 33, 34, 35, 36, 37, 38, 41]) hb303 (by decide))).tr (xFr.of (S := [29, 30, 31, 32, 33, 34, 35, 36, 37, 38, 41]) hb312 (by decide))).tr (xFr.of (S := [29, 30, 31, 32, 33, 34, 35, 36, 37, 38, 41]) hb325 (by decide)))⟩
  · refine xoC28 (xqc28 hI : cp28 (wget w 28)) (fun f28_326 f28_328 f28_330 f28_332 f28_334 h28_336 hb327 hb329 hb331 hb333 hb335 => ?_)
    refine xg_t (xg_cVr mX1_rowsOf (vs := [(0, 0)]) (rest := []) (rs := [(3, 0)]) (cn1 := 0) (sl1 := 0) rfl (hp20) rfl h28_336 rfl rfl rfl rfl rfl rfl rfl) ?_
    refine xg_t (xg_astore (l1 := [(0, (2, 27)), (1, (0, 0)), (2, (0, pc_))]) rfl rfl rfl) ?_
    refine xg_t (xg_aload (va := (3, 0)) rfl rfl) ?_
    refine xg_t (xg_ifnullT) ?_
    refine xg_t (xg_blq rfl) ?_
    exact xg_e ⟨w, ⟨rfl, rfl⟩, hI, xFr.rf⟩
theorem ftFine1 {pc_ : Nat} (hI : xInv w) (h1 : pc_ ≤ 4294967295) : xPi (d + 3) mX2_isFine [(2, 27), (0, 1), (0, pc_)] w bd fc rr (fun n w' => (n ≤ 1) ∧ xInv w' ∧ xFr [27] w w') := by
  refine xPi.of ?_
  show xTo (d + 3) mX2_isFine (0, [], [(0, (2, 27)), (1, (0, 1)), (2, (0, pc_))], [], (w, bd, fc, 0, 0, rr)) (fun φ => ∃ n w', xEnd 4 [(0, n)] (w', bd, fc, 0, 0, rr) φ ∧ (n ≤ 1) ∧ xInv w' ∧ xFr [27] w w')
  refine xoC27 (xqc27 hI : cp27 (wget w 27)) (fun f27_1 f27_3 f27_5 f27_7 f27_9 h27_11 hb2 hb4 hb6 hb8 hb10 => ?_)
  refine xoI (xqc39 hI : cpI 3 18 4294967295 (wget w 39)) (fun g39_12 h39_13 hb14 => ?_)
  refine xoI (xqc40 hI : cpI 3 19 4294967295 (wget w 40)) (fun g40_15 h40_16 hb17 => ?_)
  refine xg_t (xg_blq rfl) ?_
  refine xg_t (xg_aload (va := (2, 27)) rfl rfl) ?_
  refine xg_t (xg_iload (va := (0, 1)) rfl rfl) ?_
  refine xg_cVi mX2_isTooMany (vs := [(0, 1)]) (rest := []) (cn1 := 0) (sl1 := 0) rfl (ftTooMany (hI) (by omega)) rfl h27_11 rfl rfl rfl rfl rfl rfl (fun n22 w18 hq19 => ?_)
  obtain ⟨hn23, hI20, hF21⟩ := hq19
  by_cases hc24 : n22 = 0
  · refine xg_t (xg_ifT (u := n22) rfl xnm0 (xj_eqT hc24)) ?_
    refine xg_t (xg_blq rfl) ?_
    refine xg_t (xg_iload (va := (0, 1)) rfl rfl) ?_
    refine xg_t (xg_ifF (u := 1) rfl xnm0 (by decide)) ?_
    refine xg_t (xg_iload (va := (0, 1)) rfl rfl) ?_
    refine xg_t (xg_bip) ?_
    refine xg_t (xg_icT (u := 1) (v := 7) rfl xnm0 xnm0 (by decide)) ?_
    refine xg_t (xg_blq rfl) ?_
    refine xg_t (xg_const) ?_
    refine xg_t (xg_istore (l1 := [(0, (2, 27)), (1, (0, 1)), (2, (0, pc_))]) rfl rfl rfl) ?_
    refine xg_t (xg_blq rfl) ?_
    refine xg_t (xg_iload (va := (0, 0)) rfl rfl) ?_
    refine xg_t (xg_gets) ?_
    refine xg_t (xg_iload (va := (0, 1)) rfl rfl) ?_
    refine xg_t (xg_ald8L (n := 1) (u := 2) xnm0 rfl rfl) ?_
    refine xg_t (xg_icF (u := 0) (v := 2) rfl xnm0 xnm0 (by decide)) ?_
    refine xg_t (xg_iload (va := (0, 0)) rfl rfl) ?_
    refine xg_t (xg_const) ?_
    refine xg_t (xg_icF (u := 0) (v := 3) rfl xnm0 xnm0 (by decide)) ?_
    refine xg_t (xg_aload (va := (2, 27)) rfl rfl) ?_
    refine xg_t (xg_getf (va := (2, 39)) (hF21.get (by decide) h27_11) rfl) ?_
    refine xg_t (xg_iload (va := (0, 0)) rfl rfl) ?_
    refine xg_ialdB (n := 0) (B := 4294967295) (h39_13.fr hF21 (by decide)) (hb14) xnm0 (by first | decide | omega) (fun u25 hu26 he27 => ?_)
    refine xg_t (xg_gets) ?_
    refine xg_t (xg_iload (va := (0, 1)) rfl rfl) ?_
    refine xg_t (xg_const) ?_
    refine xg_t (xg_imul (u := 1) (v := 3) (z := 3) xnm0 xnm0 (by decide)) ?_
    refine xg_t (xg_iload (va := (0, 0)) rfl rfl) ?_
    refine xg_t (xg_iadd (u := 3) (v := 0) (z := 3) xnm0 xnm0 (by decide)) ?_
    refine xg_t (xg_ald8L (n := 3) (u := 0) xnm0 rfl rfl) ?_
    refine xg_t (xg_gets) ?_
    refine xg_t (xg_iload (va := (0, 1)) rfl rfl) ?_
    refine xg_t (xg_const) ?_
    refine xg_t (xg_imul (u := 1) (v := 3) (z := 3) xnm0 xnm0 (by decide)) ?_
    refine xg_t (xg_iload (va := (0, 0)) rfl rfl) ?_
    refine xg_t (xg_iadd (u := 3) (v := 0) (z := 3) xnm0 xnm0 (by decide)) ?_
    refine xg_t (xg_ald8L (n := 3) (u := 99) xnm0 rfl rfl) ?_
    refine xg_t (xg_cNr mX11_isIn (vs := [(0, u25), (0, 0), (0, 99)]) (rest := []) (rs := [(0, if 0 ≤ u25 ∧ u25 ≤ 99 then 1 else 0)]) (cn1 := 0) (sl1 := 0) rfl (isIn_ok (by omega) (by omega) (by omega)) rfl rfl rfl rfl rfl rfl rfl rfl) ?_
    by_cases hc28 : 0 ≤ u25 ∧ u25 ≤ 99
    · refine xg_t (xg_ifT (u := (if 0 ≤ u25 ∧ u25 ≤ 99 then 1 else 0)) rfl xnm0 (xj_neT (xite1 hc28))) ?_
      refine xg_t (xg_blq rfl) ?_
      refine xg_t (xg_iinc (u := 0) (z := 1) (l1 := [(0, (2, 27)), (1, (0, 1)), (2, (0, pc_))]) rfl rfl (by decide) rfl) ?_
      refine xg_t (xg_goto) ?_
      refine xg_t (xg_blq rfl) ?_
      refine xg_t (xg_iload (va := (0, 1)) rfl rfl) ?_
      refine xg_t (xg_gets) ?_
      refine xg_t (xg_iload (va := (0, 1)) rfl rfl) ?_
      refine xg_t (xg_ald8L (n := 1) (u := 2) xnm0 rfl rfl) ?_
      refine xg_t (xg_icF (u := 1) (v := 2) rfl xnm0 xnm0 (by decide)) ?_
      refine xg_t (xg_iload (va := (0, 1)) rfl rfl) ?_
      refine xg_t (xg_const) ?_
      refine xg_t (xg_icF (u := 1) (v := 3) rfl xnm0 xnm0 (by decide)) ?_
      refine xg_t (xg_aload (va := (2, 27)) rfl rfl) ?_
      refine xg_t (xg_getf (va := (2, 39)) (hF21.get (by decide) h27_11) rfl) ?_
      refine xg_t (xg_iload (va := (0, 1)) rfl rfl) ?_
      refine xg_ialdB (n := 1) (B := 4294967295) (h39_13.fr hF21 (by decide)) (hb14) xnm0 (by first | decide | omega) (fun u29 hu30 he31 => ?_)
      refine xg_t (xg_gets) ?_
      refine xg_t (xg_iload (va := (0, 1)) rfl rfl) ?_
      refine xg_t (xg_const) ?_
      refine xg_t (xg_imul (u := 1) (v := 3) (z := 3) xnm0 xnm0 (by decide)) ?_
      refine xg_t (xg_iload (va := (0, 1)) rfl rfl) ?_
      refine xg_t (xg_iadd (u := 3) (v := 1) (z := 4) xnm0 xnm0 (by decide)) ?_
      refine xg_t (xg_ald8L (n := 4) (u := 1) xnm0 rfl rfl) ?_
      refine xg_t (xg_gets) ?_
      refine xg_t (xg_iload (va := (0, 1)) rfl rfl) ?_
      refine xg_t (xg_const) ?_
      refine xg_t (xg_imul (u := 1) (v := 3) (z := 3) xnm0 xnm0 (by decide)) ?_
      refine xg_t (xg_iload (va := (0, 1)) rfl rfl) ?_
      refine xg_t (xg_iadd (u := 3) (v := 1) (z := 4) xnm0 xnm0 (by decide)) ?_
      refine xg_t (xg_ald8L (n := 4) (u := 999) xnm0 rfl rfl) ?_
      refine xg_t (xg_cNr mX11_isIn (vs := [(0, u29), (0, 1), (0, 999)]) (rest := []) (rs := [(0, if 1 ≤ u29 ∧ u29 ≤ 999 then 1 else 0)]) (cn1 := 0) (sl1 := 0) rfl (isIn_ok (by omega) (by omega) (by omega)) rfl rfl rfl rfl rfl rfl rfl rfl) ?_
      by_cases hc32 : 1 ≤ u29 ∧ u29 ≤ 999
      · refine xg_t (xg_ifT (u := (if 1 ≤ u29 ∧ u29 ≤ 999 then 1 else 0)) rfl xnm0 (xj_neT (xite1 hc32))) ?_
        refine xg_t (xg_blq rfl) ?_
        refine xg_t (xg_iinc (u := 1) (z := 2) (l1 := [(0, (2, 27)), (1, (0, 1)), (2, (0, pc_))]) rfl rfl (by decide) rfl) ?_
        refine xg_t (xg_goto) ?_
        refine xg_t (xg_blq rfl) ?_
        refine xg_t (xg_iload (va := (0, 2)) rfl rfl) ?_
        refine xg_t (xg_gets) ?_
        refine xg_t (xg_iload (va := (0, 1)) rfl rfl) ?_
        refine xg_t (xg_ald8L (n := 1) (u := 2) xnm0 rfl rfl) ?_
        refine xg_t (xg_icT (u := 2) (v := 2) rfl xnm0 xnm0 (by decide)) ?_
        refine xg_t (xg_blq rfl) ?_
        refine xg_t (xg_const) ?_
        exact xg_e ⟨1, w18, ⟨rfl, rfl⟩, by first | decide | omega, hI20, (hF21.up (by decide))⟩
      · refine xg_t (xg_ifF (u := (if 1 ≤ u29 ∧ u29 ≤ 999 then 1 else 0)) rfl xnm0 (xj_neF (xite0 hc32))) ?_
        refine xg_t (xg_aload (va := (2, 27)) rfl rfl) ?_
        refine xg_t (xg_const) ?_
        refine xg_putI (fl1 := [(2, 1), (2, 42), (2, 28), (2, 39), (2, 40), (2, 41), (0, f27_1), (0, f27_3), (0, f27_5), (0, 2), (0, f27_9)]) (hF21.get (by decide) h27_11) rfl rfl rfl (fun w33 hk34 hb35 => ?_)
        refine xg_t (xg_aload (va := (2, 27)) rfl rfl) ?_
        refine xg_t (xg_aload (va := (2, 27)) rfl rfl) ?_
        refine xg_t (xg_getf (va := (2, 40)) hk34 rfl) ?_
        refine xg_t (xg_iload (va := (0, 1)) rfl rfl) ?_
        refine xg_ialdB (n := 1) (B := 4294967295) ((h40_16.fr hF21 (by decide)).but hb35 (by decide)) (hb17) xnm0 (by first | decide | omega) (fun u36 hu37 he38 => ?_)
        refine xg_putI (fl1 := [(2, 1), (2, 42), (2, 28), (2, 39), (2, 40), (2, 41), (0, f27_1), (0, f27_3), (0, f27_5), (0, 2), (0, u36)]) hk34 rfl rfl rfl (fun w39 hk40 hb41 => ?_)
        refine xg_t (xg_const) ?_
        exact xg_e ⟨0, w39, ⟨rfl, rfl⟩, by first | decide | omega, xInv.up (S := [27]) hI20 ((xFr.of (S := [27]) hb35 (by decide)).tr (xFr.of (S := [27]) hb41 (by decide))) (List.forall_mem_cons.mpr ⟨xqu27 (show cp27 (wget w39 27) from xmC27 f27_1 f27_3 f27_5 2 u36 hk40 hb2 hb4 hb6 (by decide) (by omega)), fun _ h => absurd h List.not_mem_nil⟩), ((hF21.up (by decide)).tr ((xFr.of (S := [27]) hb35 (by decide)).tr (xFr.of (S := [27]) hb41 (by decide))))⟩
    · refine xg_t (xg_ifF (u := (if 0 ≤ u25 ∧ u25 ≤ 99 then 1 else 0)) rfl xnm0 (xj_neF (xite0 hc28))) ?_
      refine xg_t (xg_aload (va := (2, 27)) rfl rfl) ?_
      refine xg_t (xg_const) ?_
      refine xg_putI (fl1 := [(2, 1), (2, 42), (2, 28), (2, 39), (2, 40), (2, 41), (0, f27_1), (0, f27_3), (0, f27_5), (0, 2), (0, f27_9)]) (hF21.get (by decide) h27_11) rfl rfl rfl (fun w42 hk43 hb44 => ?_)
      refine xg_t (xg_aload (va := (2, 27)) rfl rfl) ?_
      refine xg_t (xg_aload (va := (2, 27)) rfl rfl) ?_
      refine xg_t (xg_getf (va := (2, 40)) hk43 rfl) ?_
      refine xg_t (xg_iload (va := (0, 0)) rfl rfl) ?_
      refine xg_ialdB (n := 0) (B := 4294967295) ((h40_16.fr hF21 (by decide)).but hb44 (by decide)) (hb17) xnm0 (by first | decide | omega) (fun u45 hu46 he47 => ?_)
      refine xg_putI (fl1 := [(2, 1), (2, 42), (2, 28), (2, 39), (2, 40), (2, 41), (0, f27_1), (0, f27_3), (0, f27_5), (0, 2), (0, u45)]) hk43 rfl rfl rfl (fun w48 hk49 hb50 => ?_)
      refine xg_t (xg_const) ?_
      exact xg_e ⟨0, w48, ⟨rfl, rfl⟩, by first | decide | omega, xInv.up (S := [27]) hI20 ((xFr.of (S := [27]) hb44 (by decide)).tr (xFr.of (S := [27]) hb50 (by decide))) (List.forall_mem_cons.mpr ⟨xqu27 (show cp27 (wget w48 27) from xmC27 f27_1 f27_3 f27_5 2 u45 hk49 hb2 hb4 hb6 (by decide) (by omega)), fun _ h => absurd h List.not_mem_nil⟩), ((hF21.up (by decide)).tr ((xFr.of (S := [27]) hb44 (by decide)).tr (xFr.of (S := [27]) hb50 (by decide))))⟩
  · refine xg_t (xg_ifF (u := n22) rfl xnm0 (xj_eqF hc24)) ?_
    refine xg_t (xg_aload (va := (2, 27)) rfl rfl) ?_
    refine xg_t (xg_const) ?_
    refine xg_putI (fl1 := [(2, 1), (2, 42), (2, 28), (2, 39), (2, 40), (2, 41), (0, f27_1), (0, f27_3), (0, f27_5), (0, 3), (0, f27_9)]) (hF21.get (by decide) h27_11) rfl rfl rfl (fun w51 hk52 hb53 => ?_)
    refine xg_t (xg_aload (va := (2, 27)) rfl rfl) ?_
    refine xg_t (xg_iload (va := (0, pc_)) rfl rfl) ?_
    refine xg_putI (fl1 := [(2, 1), (2, 42), (2, 28), (2, 39), (2, 40), (2, 41), (0, f27_1), (0, f27_3), (0, f27_5), (0, 3), (0, pc_)]) hk52 rfl rfl rfl (fun w54 hk55 hb56 => ?_)
    refine xg_t (xg_const) ?_
    exact xg_e ⟨0, w54, ⟨rfl, rfl⟩, by first | decide | omega, xInv.up (S := [27]) hI20 ((xFr.of (S := [27]) hb53 (by decide)).tr (xFr.of (S := [27]) hb56 (by decide))) (List.forall_mem_cons.mpr ⟨xqu27 (show cp27 (wget w54 27) from xmC27 f27_1 f27_3 f27_5 3 pc_ hk55 hb2 hb4 hb6 (by decide) (by omega)), fun _ h => absurd h List.not_mem_nil⟩), ((hF21.up (by decide)).tr ((xFr.of (S := [27]) hb53 (by decide)).tr (xFr.of (S := [27]) hb56 (by decide))))⟩
theorem ftTake1 {pc_ : Nat} (hI : xInv w) (h1 : pc_ ≤ 4294967295) : xPq (d + 2) mX2_take [(2, 27), (0, 1), (0, pc_)] w bd fc rr [] (fun w' => xInv w' ∧ xFr [29, 30, 31, 32, 33, 34, 35, 36, 37, 38, 41] w w') := by
  refine xPq.of ?_
  show xTo (d + 2) mX2_take (0, [], [(0, (2, 27)), (1, (0, 1)), (2, (0, pc_))], [], (w, bd, fc, 0, 0, rr)) (fun φ => ∃ w', xEnd 0 [] (w', bd, fc, 0, 0, rr) φ ∧ xInv w' ∧ xFr [29, 30, 31, 32, 33, 34, 35, 36, 37, 38, 41] w w')
  refine xoC27 (xqc27 hI : cp27 (wget w 27)) (fun f27_1 f27_3 f27_5 f27_7 f27_9 h27_11 hb2 hb4 hb6 hb8 hb10 => ?_)
  refine xoI (xqc39 hI : cpI 3 18 4294967295 (wget w 39)) (fun g39_12 h39_13 hb14 => ?_)
  refine xoI (xqc41 hI : cpI 20 20 4294967295 (wget w 41)) (fun g41_15 h41_16 hb17 => ?_)
  refine xg_t (xg_blq rfl) ?_
  refine xg_t (xg_iload (va := (0, 1)) rfl rfl) ?_
  refine xg_t (xg_const) ?_
  refine xg_t (xg_icT (u := 1) (v := 5) rfl xnm0 xnm0 (by decide)) ?_
  refine xg_t (xg_blq rfl) ?_
  refine xg_t (xg_iload (va := (0, 1)) rfl rfl) ?_
  refine xg_t (xg_bip) ?_
  refine xg_t (xg_icT (u := 1) (v := 6) rfl xnm0 xnm0 (by decide)) ?_
  refine xg_t (xg_blq rfl) ?_
  refine xg_t (xg_aload (va := (2, 27)) rfl rfl) ?_
  refine xg_t (xg_getf (va := (2, 28)) h27_11 rfl) ?_
  refine xg_t (xg_iload (va := (0, 1)) rfl rfl) ?_
  obtain ⟨v18, hv19, hp20⟩ := rowsOf28 (d := d + 1) (bd := bd) (fc := fc) (rr := rr) (so := 1) (hI) (by omega)
  rcases hv19 with rfl | rfl | rfl | rfl | rfl | rfl
  · refine xoC28 (xqc28 hI : cp28 (wget w 28)) (fun f28_21 f28_23 f28_25 f28_27 f28_29 h28_31 hb22 hb24 hb26 hb28 hb30 => ?_)
    refine xg_t (xg_cVr mX1_rowsOf (vs := [(0, 1)]) (rest := []) (rs := [(2, 29)]) (cn1 := 0) (sl1 := 0) rfl (hp20) rfl h28_31 rfl rfl rfl rfl rfl rfl rfl) ?_
    refine xg_t (xg_astore (l1 := [(0, (2, 27)), (1, (0, 1)), (2, (0, pc_))]) rfl rfl rfl) ?_
    refine xg_t (xg_aload (va := (2, 29)) rfl rfl) ?_
    refine xg_t (xg_ifnullF) ?_
    refine xg_t (xg_aload (va := (2, 29)) rfl rfl) ?_
    obtain ⟨f29_32, h29_34, hb33⟩ := (xqc29 hI : cp29 (wget w 29))
    refine xg_t (xg_cVr mX5_isFull (vs := []) (rest := []) (rs := [(0, if 6 ≤ f29_32 then 1 else 0)]) (cn1 := 0) (sl1 := 0) rfl (rfull_ok h29_34 (by decide) (by omega)) rfl h29_34 rfl rfl rfl rfl rfl rfl rfl) ?_
    by_cases hc35 : 6 ≤ f29_32
    · refine xg_t (xg_ifF (u := (if 6 ≤ f29_32 then 1 else 0)) rfl xnm0 (xj_eqF (xite1 hc35))) ?_
      refine xg_t (xg_blq rfl) ?_
      exact xg_e ⟨w, ⟨rfl, rfl⟩, hI, xFr.rf⟩
    · refine xg_t (xg_ifT (u := (if 6 ≤ f29_32 then 1 else 0)) rfl xnm0 (xj_eqT (xite0 hc35))) ?_
      refine xg_t (xg_blq rfl) ?_
      refine xg_t (xg_aload (va := (2, 29)) rfl rfl) ?_
      have hl38 : f29_32 < 6 := by omega
      refine xg_cV mX5_grow (vs := []) (rest := []) (rs := [(0, if f29_32 < 6 then f29_32 else 4294967295)]) (cn1 := 0) (sl1 := 0) rfl (rgrow_ok h29_34 (by decide) (by omega)) rfl h29_34 rfl rfl rfl rfl rfl rfl rfl (fun w36 hq37 => ?_)
      rw [if_pos hl38] at hq37 ⊢
      refine xg_t (xg_istore (l1 := [(3, (2, 29)), (0, (2, 27)), (1, (0, 1)), (2, (0, pc_))]) rfl rfl rfl) ?_
      refine xg_t (xg_const) ?_
      refine xg_t (xg_istore (l1 := [(4, (0, f29_32)), (3, (2, 29)), (0, (2, 27)), (1, (0, 1)), (2, (0, pc_))]) rfl rfl rfl) ?_
      refine xg_t (xg_blq rfl) ?_
      refine xg_t (xg_iload (va := (0, 0)) rfl rfl) ?_
      refine xg_t (xg_gets) ?_
      refine xg_t (xg_iload (va := (0, 1)) rfl rfl) ?_
      refine xg_t (xg_ald8L (n := 1) (u := 2) xnm0 rfl rfl) ?_
      refine xg_t (xg_icF (u := 0) (v := 2) rfl xnm0 xnm0 (by decide)) ?_
      refine xg_t (xg_iload (va := (0, 0)) rfl rfl) ?_
      refine xg_t (xg_const) ?_
      refine xg_t (xg_icF (u := 0) (v := 3) rfl xnm0 xnm0 (by decide)) ?_
      refine xg_t (xg_aload (va := (2, 29)) rfl rfl) ?_
      refine xg_t (xg_iload (va := (0, f29_32)) rfl rfl) ?_
      refine xg_t (xg_iload (va := (0, 0)) rfl rfl) ?_
      refine xg_t (xg_aload (va := (2, 27)) rfl rfl) ?_
      refine xg_t (xg_getf (va := (2, 39)) (hq37.2.get (by decide) h27_11) rfl) ?_
      refine xg_t (xg_iload (va := (0, 0)) rfl rfl) ?_
      refine xg_ialdB (n := 0) (B := 4294967295) (h39_13.but hq37.2 (by decide)) (hb14) xnm0 (by first | decide | omega) (fun u39 hu40 he41 => ?_)
      refine xoI (xqc30 hI : cpI 24 13 4294967295 (wget w 30)) (fun g30_42 h30_43 hb44 => ?_)
      refine xg_cVv mX5_put (vs := [(0, f29_32), (0, 0), (0, u39)]) (rest := []) (cn1 := 0) (sl1 := 0) rfl (rputI (lim := 6) (wd := 4) (B := 4294967295) hq37.1 (h30_43.but hq37.2 (by decide)) (hb44) (by decide) (by omega) (by decide) (by decide) (by omega) (by omega) (by omega)) rfl hq37.1 rfl rfl rfl rfl rfl rfl (fun w45 hq46 => ?_)
      obtain ⟨g47, hr48, hb49, hb50⟩ := hq46
      refine xg_t (xg_iinc (u := 0) (z := 1) (l1 := [(4, (0, f29_32)), (3, (2, 29)), (0, (2, 27)), (1, (0, 1)), (2, (0, pc_))]) rfl rfl (by decide) rfl) ?_
      refine xg_t (xg_goto) ?_
      refine xg_t (xg_blq rfl) ?_
      refine xg_t (xg_iload (va := (0, 1)) rfl rfl) ?_
      refine xg_t (xg_gets) ?_
      refine xg_t (xg_iload (va := (0, 1)) rfl rfl) ?_
      refine xg_t (xg_ald8L (n := 1) (u := 2) xnm0 rfl rfl) ?_
      refine xg_t (xg_icF (u := 1) (v := 2) rfl xnm0 xnm0 (by decide)) ?_
      refine xg_t (xg_iload (va := (0, 1)) rfl rfl) ?_
      refine xg_t (xg_const) ?_
      refine xg_t (xg_icF (u := 1) (v := 3) rfl xnm0 xnm0 (by decide)) ?_
      refine xg_t (xg_aload (va := (2, 29)) rfl rfl) ?_
      refine xg_t (xg_iload (va := (0, f29_32)) rfl rfl) ?_
      refine xg_t (xg_iload (va := (0, 1)) rfl rfl) ?_
      refine xg_t (xg_aload (va := (2, 27)) rfl rfl) ?_
      refine xg_t (xg_getf (va := (2, 39)) (hb50.get (by decide) (hq37.2.get (by decide) h27_11)) rfl) ?_
      refine xg_t (xg_iload (va := (0, 1)) rfl rfl) ?_
      refine xg_ialdB (n := 1) (B := 4294967295) ((h39_13.but hq37.2 (by decide)).but hb50 (by decide)) (hb14) xnm0 (by first | decide | omega) (fun u51 hu52 he53 => ?_)
      refine xg_cVv mX5_put (vs := [(0, f29_32), (0, 1), (0, u51)]) (rest := []) (cn1 := 0) (sl1 := 0) rfl (rputI (lim := 6) (wd := 4) (B := 4294967295) (hb50.get (by decide) hq37.1) hr48 (hb49) (by decide) (by omega) (by decide) (by decide) (by omega) (by omega) (by omega)) rfl (hb50.get (by decide) hq37.1) rfl rfl rfl rfl rfl rfl (fun w54 hq55 => ?_)
      obtain ⟨g56, hr57, hb58, hb59⟩ := hq55
      refine xg_t (xg_iinc (u := 1) (z := 2) (l1 := [(4, (0, f29_32)), (3, (2, 29)), (0, (2, 27)), (1, (0, 1)), (2, (0, pc_))]) rfl rfl (by decide) rfl) ?_
      refine xg_t (xg_goto) ?_
      refine xg_t (xg_blq rfl) ?_
      refine xg_t (xg_iload (va := (0, 2)) rfl rfl) ?_
      refine xg_t (xg_gets) ?_
      refine xg_t (xg_iload (va := (0, 1)) rfl rfl) ?_
      refine xg_t (xg_ald8L (n := 1) (u := 2) xnm0 rfl rfl) ?_
      refine xg_t (xg_icT (u := 2) (v := 2) rfl xnm0 xnm0 (by decide)) ?_
      refine xg_t (xg_blq rfl) ?_
      refine xg_t (xg_iload (va := (0, 1)) rfl rfl) ?_
      refine xg_t (xg_ifT (u := 1) rfl xnm0 (by decide)) ?_
      refine xg_t (xg_blq rfl) ?_
      refine xg_t (xg_iload (va := (0, 1)) rfl rfl) ?_
      refine xg_t (xg_const) ?_
      refine xg_t (xg_icT (u := 1) (v := 4) rfl xnm0 xnm0 (by decide)) ?_
      refine xg_t (xg_blq rfl) ?_
      exact xg_e ⟨w54, ⟨rfl, rfl⟩, xInv.up (S := [29, 30]) hI (((xFr.of (S := [29, 30]) hq37.2 (by decide)).tr (xFr.of (S := [29, 30]) hb50 (by decide))).tr (xFr.of (S := [29, 30]) hb59 (by decide))) (List.forall_mem_cons.mpr ⟨xqu29 (show cp29 (wget w54 29) from ⟨f29_32 + 1, (hb59.get (by decide) (hb50.get (by decide) hq37.1)), by omega⟩), List.forall_mem_cons.mpr ⟨xqu30 (show cpI 24 13 4294967295 (wget w54 30) from ⟨_, hr57, hb58⟩), fun _ h => absurd h List.not_mem_nil⟩⟩), (((xFr.of (S := [29, 30, 31, 32, 33, 34, 35, 36, 37, 38, 41]) hq37.2 (by decide)).tr (xFr.of (S := [29, 30, 31, 32, 33, 34, 35, 36, 37, 38, 41]) hb50 (by decide))).tr (xFr.of (S := [29, 30, 31, 32, 33, 34, 35, 36, 37, 38, 41]) hb59 (by decide)))⟩
  · refine xoC28 (xqc28 hI : cp28 (wget w 28)) (fun f28_60 f28_62 f28_64 f28_66 f28_68 h28_70 hb61 hb63 hb65 hb67 hb69 => ?_)
    refine xg_t (xg_cVr mX1_rowsOf (vs := [(0, 1)]) (rest := []) (rs := [(2, 31)]) (cn1 := 0) (sl1 := 0) rfl (hp20) rfl h28_70 rfl rfl rfl rfl rfl rfl rfl) ?_
    refine xg_t (xg_astore (l1 := [(0, (2, 27)), (1, (0, 1)), (2, (0, pc_))]) rfl rfl rfl) ?_
    refine xg_t (xg_aload (va := (2, 31)) rfl rfl) ?_
    refine xg_t (xg_ifnullF) ?_
    refine xg_t (xg_aload (va := (2, 31)) rfl rfl) ?_
    obtain ⟨f31_71, h31_73, hb72⟩ := (xqc31 hI : cp31 (wget w 31))
    refine xg_t (xg_cVr mX5_isFull (vs := []) (rest := []) (rs := [(0, if 4 ≤ f31_71 then 1 else 0)]) (cn1 := 0) (sl1 := 0) rfl (rfull_ok h31_73 (by decide) (by omega)) rfl h31_73 rfl rfl rfl rfl rfl rfl rfl) ?_
    by_cases hc74 : 4 ≤ f31_71
    · refine xg_t (xg_ifF (u := (if 4 ≤ f31_71 then 1 else 0)) rfl xnm0 (xj_eqF (xite1 hc74))) ?_
      refine xg_t (xg_blq rfl) ?_
      exact xg_e ⟨w, ⟨rfl, rfl⟩, hI, xFr.rf⟩
    · refine xg_t (xg_ifT (u := (if 4 ≤ f31_71 then 1 else 0)) rfl xnm0 (xj_eqT (xite0 hc74))) ?_
      refine xg_t (xg_blq rfl) ?_
      refine xg_t (xg_aload (va := (2, 31)) rfl rfl) ?_
      have hl77 : f31_71 < 4 := by omega
      refine xg_cV mX5_grow (vs := []) (rest := []) (rs := [(0, if f31_71 < 4 then f31_71 else 4294967295)]) (cn1 := 0) (sl1 := 0) rfl (rgrow_ok h31_73 (by decide) (by omega)) rfl h31_73 rfl rfl rfl rfl rfl rfl rfl (fun w75 hq76 => ?_)
      rw [if_pos hl77] at hq76 ⊢
      refine xg_t (xg_istore (l1 := [(3, (2, 31)), (0, (2, 27)), (1, (0, 1)), (2, (0, pc_))]) rfl rfl rfl) ?_
      refine xg_t (xg_const) ?_
      refine xg_t (xg_istore (l1 := [(4, (0, f31_71)), (3, (2, 31)), (0, (2, 27)), (1, (0, 1)), (2, (0, pc_))]) rfl rfl rfl) ?_
      refine xg_t (xg_blq rfl) ?_
      refine xg_t (xg_iload (va := (0, 0)) rfl rfl) ?_
      refine xg_t (xg_gets) ?_
      refine xg_t (xg_iload (va := (0, 1)) rfl rfl) ?_
      refine xg_t (xg_ald8L (n := 1) (u := 2) xnm0 rfl rfl) ?_
      refine xg_t (xg_icF (u := 0) (v := 2) rfl xnm0 xnm0 (by decide)) ?_
      refine xg_t (xg_iload (va := (0, 0)) rfl rfl) ?_
      refine xg_t (xg_const) ?_
      refine xg_t (xg_icF (u := 0) (v := 3) rfl xnm0 xnm0 (by decide)) ?_
      refine xg_t (xg_aload (va := (2, 31)) rfl rfl) ?_
      refine xg_t (xg_iload (va := (0, f31_71)) rfl rfl) ?_
      refine xg_t (xg_iload (va := (0, 0)) rfl rfl) ?_
      refine xg_t (xg_aload (va := (2, 27)) rfl rfl) ?_
      refine xg_t (xg_getf (va := (2, 39)) (hq76.2.get (by decide) h27_11) rfl) ?_
      refine xg_t (xg_iload (va := (0, 0)) rfl rfl) ?_
      refine xg_ialdB (n := 0) (B := 4294967295) (h39_13.but hq76.2 (by decide)) (hb14) xnm0 (by first | decide | omega) (fun u78 hu79 he80 => ?_)
      refine xoI (xqc32 hI : cpI 8 14 4294967295 (wget w 32)) (fun g32_81 h32_82 hb83 => ?_)
      refine xg_cVv mX5_put (vs := [(0, f31_71), (0, 0), (0, u78)]) (rest := []) (cn1 := 0) (sl1 := 0) rfl (rputI (lim := 4) (wd := 2) (B := 4294967295) hq76.1 (h32_82.but hq76.2 (by decide)) (hb83) (by decide) (by omega) (by decide) (by decide) (by omega) (by omega) (by omega)) rfl hq76.1 rfl rfl rfl rfl rfl rfl (fun w84 hq85 => ?_)
      obtain ⟨g86, hr87, hb88, hb89⟩ := hq85
      refine xg_t (xg_iinc (u := 0) (z := 1) (l1 := [(4, (0, f31_71)), (3, (2, 31)), (0, (2, 27)), (1, (0, 1)), (2, (0, pc_))]) rfl rfl (by decide) rfl) ?_
      refine xg_t (xg_goto) ?_
      refine xg_t (xg_blq rfl) ?_
      refine xg_t (xg_iload (va := (0, 1)) rfl rfl) ?_
      refine xg_t (xg_gets) ?_
      refine xg_t (xg_iload (va := (0, 1)) rfl rfl) ?_
      refine xg_t (xg_ald8L (n := 1) (u := 2) xnm0 rfl rfl) ?_
      refine xg_t (xg_icF (u := 1) (v := 2) rfl xnm0 xnm0 (by decide)) ?_
      refine xg_t (xg_iload (va := (0, 1)) rfl rfl) ?_
      refine xg_t (xg_const) ?_
      refine xg_t (xg_icF (u := 1) (v := 3) rfl xnm0 xnm0 (by decide)) ?_
      refine xg_t (xg_aload (va := (2, 31)) rfl rfl) ?_
      refine xg_t (xg_iload (va := (0, f31_71)) rfl rfl) ?_
      refine xg_t (xg_iload (va := (0, 1)) rfl rfl) ?_
      refine xg_t (xg_aload (va := (2, 27)) rfl rfl) ?_
      refine xg_t (xg_getf (va := (2, 39)) (hb89.get (by decide) (hq76.2.get (by decide) h27_11)) rfl) ?_
      refine xg_t (xg_iload (va := (0, 1)) rfl rfl) ?_
      refine xg_ialdB (n := 1) (B := 4294967295) ((h39_13.but hq76.2 (by decide)).but hb89 (by decide)) (hb14) xnm0 (by first | decide | omega) (fun u90 hu91 he92 => ?_)
      refine xg_cVv mX5_put (vs := [(0, f31_71), (0, 1), (0, u90)]) (rest := []) (cn1 := 0) (sl1 := 0) rfl (rputI (lim := 4) (wd := 2) (B := 4294967295) (hb89.get (by decide) hq76.1) hr87 (hb88) (by decide) (by omega) (by decide) (by decide) (by omega) (by omega) (by omega)) rfl (hb89.get (by decide) hq76.1) rfl rfl rfl rfl rfl rfl (fun w93 hq94 => ?_)
      obtain ⟨g95, hr96, hb97, hb98⟩ := hq94
      refine xg_t (xg_iinc (u := 1) (z := 2) (l1 := [(4, (0, f31_71)), (3, (2, 31)), (0, (2, 27)), (1, (0, 1)), (2, (0, pc_))]) rfl rfl (by decide) rfl) ?_
      refine xg_t (xg_goto) ?_
      refine xg_t (xg_blq rfl) ?_
      refine xg_t (xg_iload (va := (0, 2)) rfl rfl) ?_
      refine xg_t (xg_gets) ?_
      refine xg_t (xg_iload (va := (0, 1)) rfl rfl) ?_
      refine xg_t (xg_ald8L (n := 1) (u := 2) xnm0 rfl rfl) ?_
      refine xg_t (xg_icT (u := 2) (v := 2) rfl xnm0 xnm0 (by decide)) ?_
      refine xg_t (xg_blq rfl) ?_
      refine xg_t (xg_iload (va := (0, 1)) rfl rfl) ?_
      refine xg_t (xg_ifT (u := 1) rfl xnm0 (by decide)) ?_
      refine xg_t (xg_blq rfl) ?_
      refine xg_t (xg_iload (va := (0, 1)) rfl rfl) ?_
      refine xg_t (xg_const) ?_
      refine xg_t (xg_icT (u := 1) (v := 4) rfl xnm0 xnm0 (by decide)) ?_
      refine xg_t (xg_blq rfl) ?_
      exact xg_e ⟨w93, ⟨rfl, rfl⟩, xInv.up (S := [31, 32]) hI (((xFr.of (S := [31, 32]) hq76.2 (by decide)).tr (xFr.of (S := [31, 32]) hb89 (by decide))).tr (xFr.of (S := [31, 32]) hb98 (by decide))) (List.forall_mem_cons.mpr ⟨xqu31 (show cp31 (wget w93 31) from ⟨f31_71 + 1, (hb98.get (by decide) (hb89.get (by decide) hq76.1)), by omega⟩), List.forall_mem_cons.mpr ⟨xqu32 (show cpI 8 14 4294967295 (wget w93 32) from ⟨_, hr96, hb97⟩), fun _ h => absurd h List.not_mem_nil⟩⟩), (((xFr.of (S := [29, 30, 31, 32, 33, 34, 35, 36, 37, 38, 41]) hq76.2 (by decide)).tr (xFr.of (S := [29, 30, 31, 32, 33, 34, 35, 36, 37, 38, 41]) hb89 (by decide))).tr (xFr.of (S := [29, 30, 31, 32, 33, 34, 35, 36, 37, 38, 41]) hb98 (by decide)))⟩
  · refine xoC28 (xqc28 hI : cp28 (wget w 28)) (fun f28_99 f28_101 f28_103 f28_105 f28_107 h28_109 hb100 hb102 hb104 hb106 hb108 => ?_)
    refine xg_t (xg_cVr mX1_rowsOf (vs := [(0, 1)]) (rest := []) (rs := [(2, 33)]) (cn1 := 0) (sl1 := 0) rfl (hp20) rfl h28_109 rfl rfl rfl rfl rfl rfl rfl) ?_
    refine xg_t (xg_astore (l1 := [(0, (2, 27)), (1, (0, 1)), (2, (0, pc_))]) rfl rfl rfl) ?_
    refine xg_t (xg_aload (va := (2, 33)) rfl rfl) ?_
    refine xg_t (xg_ifnullF) ?_
    refine xg_t (xg_aload (va := (2, 33)) rfl rfl) ?_
    obtain ⟨f33_110, h33_112, hb111⟩ := (xqc33 hI : cp33 (wget w 33))
    refine xg_t (xg_cVr mX5_isFull (vs := []) (rest := []) (rs := [(0, if 6 ≤ f33_110 then 1 else 0)]) (cn1 := 0) (sl1 := 0) rfl (rfull_ok h33_112 (by decide) (by omega)) rfl h33_112 rfl rfl rfl rfl rfl rfl rfl) ?_
    by_cases hc113 : 6 ≤ f33_110
    · refine xg_t (xg_ifF (u := (if 6 ≤ f33_110 then 1 else 0)) rfl xnm0 (xj_eqF (xite1 hc113))) ?_
      refine xg_t (xg_blq rfl) ?_
      exact xg_e ⟨w, ⟨rfl, rfl⟩, hI, xFr.rf⟩
    · refine xg_t (xg_ifT (u := (if 6 ≤ f33_110 then 1 else 0)) rfl xnm0 (xj_eqT (xite0 hc113))) ?_
      refine xg_t (xg_blq rfl) ?_
      refine xg_t (xg_aload (va := (2, 33)) rfl rfl) ?_
      have hl116 : f33_110 < 6 := by omega
      refine xg_cV mX5_grow (vs := []) (rest := []) (rs := [(0, if f33_110 < 6 then f33_110 else 4294967295)]) (cn1 := 0) (sl1 := 0) rfl (rgrow_ok h33_112 (by decide) (by omega)) rfl h33_112 rfl rfl rfl rfl rfl rfl rfl (fun w114 hq115 => ?_)
      rw [if_pos hl116] at hq115 ⊢
      refine xg_t (xg_istore (l1 := [(3, (2, 33)), (0, (2, 27)), (1, (0, 1)), (2, (0, pc_))]) rfl rfl rfl) ?_
      refine xg_t (xg_const) ?_
      refine xg_t (xg_istore (l1 := [(4, (0, f33_110)), (3, (2, 33)), (0, (2, 27)), (1, (0, 1)), (2, (0, pc_))]) rfl rfl rfl) ?_
      refine xg_t (xg_blq rfl) ?_
      refine xg_t (xg_iload (va := (0, 0)) rfl rfl) ?_
      refine xg_t (xg_gets) ?_
      refine xg_t (xg_iload (va := (0, 1)) rfl rfl) ?_
      refine xg_t (xg_ald8L (n := 1) (u := 2) xnm0 rfl rfl) ?_
      refine xg_t (xg_icF (u := 0) (v := 2) rfl xnm0 xnm0 (by decide)) ?_
      refine xg_t (xg_iload (va := (0, 0)) rfl rfl) ?_
      refine xg_t (xg_const) ?_
      refine xg_t (xg_icF (u := 0) (v := 3) rfl xnm0 xnm0 (by decide)) ?_
      refine xg_t (xg_aload (va := (2, 33)) rfl rfl) ?_
      refine xg_t (xg_iload (va := (0, f33_110)) rfl rfl) ?_
      refine xg_t (xg_iload (va := (0, 0)) rfl rfl) ?_
      refine xg_t (xg_aload (va := (2, 27)) rfl rfl) ?_
      refine xg_t (xg_getf (va := (2, 39)) (hq115.2.get (by decide) h27_11) rfl) ?_
      refine xg_t (xg_iload (va := (0, 0)) rfl rfl) ?_
      refine xg_ialdB (n := 0) (B := 4294967295) (h39_13.but hq115.2 (by decide)) (hb14) xnm0 (by first | decide | omega) (fun u117 hu118 he119 => ?_)
      refine xoI (xqc34 hI : cpI 12 15 4294967295 (wget w 34)) (fun g34_120 h34_121 hb122 => ?_)
      refine xg_cVv mX5_put (vs := [(0, f33_110), (0, 0), (0, u117)]) (rest := []) (cn1 := 0) (sl1 := 0) rfl (rputI (lim := 6) (wd := 2) (B := 4294967295) hq115.1 (h34_121.but hq115.2 (by decide)) (hb122) (by decide) (by omega) (by decide) (by decide) (by omega) (by omega) (by omega)) rfl hq115.1 rfl rfl rfl rfl rfl rfl (fun w123 hq124 => ?_)
      obtain ⟨g125, hr126, hb127, hb128⟩ := hq124
      refine xg_t (xg_iinc (u := 0) (z := 1) (l1 := [(4, (0, f33_110)), (3, (2, 33)), (0, (2, 27)), (1, (0, 1)), (2, (0, pc_))]) rfl rfl (by decide) rfl) ?_
      refine xg_t (xg_goto) ?_
      refine xg_t (xg_blq rfl) ?_
      refine xg_t (xg_iload (va := (0, 1)) rfl rfl) ?_
      refine xg_t (xg_gets) ?_
      refine xg_t (xg_iload (va := (0, 1)) rfl rfl) ?_
      refine xg_t (xg_ald8L (n := 1) (u := 2) xnm0 rfl rfl) ?_
      refine xg_t (xg_icF (u := 1) (v := 2) rfl xnm0 xnm0 (by decide)) ?_
      refine xg_t (xg_iload (va := (0, 1)) rfl rfl) ?_
      refine xg_t (xg_const) ?_
      refine xg_t (xg_icF (u := 1) (v := 3) rfl xnm0 xnm0 (by decide)) ?_
      refine xg_t (xg_aload (va := (2, 33)) rfl rfl) ?_
      refine xg_t (xg_iload (va := (0, f33_110)) rfl rfl) ?_
      refine xg_t (xg_iload (va := (0, 1)) rfl rfl) ?_
      refine xg_t (xg_aload (va := (2, 27)) rfl rfl) ?_
      refine xg_t (xg_getf (va := (2, 39)) (hb128.get (by decide) (hq115.2.get (by decide) h27_11)) rfl) ?_
      refine xg_t (xg_iload (va := (0, 1)) rfl rfl) ?_
      refine xg_ialdB (n := 1) (B := 4294967295) ((h39_13.but hq115.2 (by decide)).but hb128 (by decide)) (hb14) xnm0 (by first | decide | omega) (fun u129 hu130 he131 => ?_)
      refine xg_cVv mX5_put (vs := [(0, f33_110), (0, 1), (0, u129)]) (rest := []) (cn1 := 0) (sl1 := 0) rfl (rputI (lim := 6) (wd := 2) (B := 4294967295) (hb128.get (by decide) hq115.1) hr126 (hb127) (by decide) (by omega) (by decide) (by decide) (by omega) (by omega) (by omega)) rfl (hb128.get (by decide) hq115.1) rfl rfl rfl rfl rfl rfl (fun w132 hq133 => ?_)
      obtain ⟨g134, hr135, hb136, hb137⟩ := hq133
      refine xg_t (xg_iinc (u := 1) (z := 2) (l1 := [(4, (0, f33_110)), (3, (2, 33)), (0, (2, 27)), (1, (0, 1)), (2, (0, pc_))]) rfl rfl (by decide) rfl) ?_
      refine xg_t (xg_goto) ?_
      refine xg_t (xg_blq rfl) ?_
      refine xg_t (xg_iload (va := (0, 2)) rfl rfl) ?_
      refine xg_t (xg_gets) ?_
      refine xg_t (xg_iload (va := (0, 1)) rfl rfl) ?_
      refine xg_t (xg_ald8L (n := 1) (u := 2) xnm0 rfl rfl) ?_
      refine xg_t (xg_icT (u := 2) (v := 2) rfl xnm0 xnm0 (by decide)) ?_
      refine xg_t (xg_blq rfl) ?_
      refine xg_t (xg_iload (va := (0, 1)) rfl rfl) ?_
      refine xg_t (xg_ifT (u := 1) rfl xnm0 (by decide)) ?_
      refine xg_t (xg_blq rfl) ?_
      refine xg_t (xg_iload (va := (0, 1)) rfl rfl) ?_
      refine xg_t (xg_const) ?_
      refine xg_t (xg_icT (u := 1) (v := 4) rfl xnm0 xnm0 (by decide)) ?_
      refine xg_t (xg_blq rfl) ?_
      exact xg_e ⟨w132, ⟨rfl, rfl⟩, xInv.up (S := [33, 34]) hI (((xFr.of (S := [33, 34]) hq115.2 (by decide)).tr (xFr.of (S := [33, 34]) hb128 (by decide))).tr (xFr.of (S := [33, 34]) hb137 (by decide))) (List.forall_mem_cons.mpr ⟨xqu33 (show cp33 (wget w132 33) from ⟨f33_110 + 1, (hb137.get (by decide) (hb128.get (by decide) hq115.1)), by omega⟩), List.forall_mem_cons.mpr ⟨xqu34 (show cpI 12 15 4294967295 (wget w132 34) from ⟨_, hr135, hb136⟩), fun _ h => absurd h List.not_mem_nil⟩⟩), (((xFr.of (S := [29, 30, 31, 32, 33, 34, 35, 36, 37, 38, 41]) hq115.2 (by decide)).tr (xFr.of (S := [29, 30, 31, 32, 33, 34, 35, 36, 37, 38, 41]) hb128 (by decide))).tr (xFr.of (S := [29, 30, 31, 32, 33, 34, 35, 36, 37, 38, 41]) hb137 (by decide)))⟩
  · refine xoC28 (xqc28 hI : cp28 (wget w 28)) (fun f28_138 f28_140 f28_142 f28_144 f28_146 h28_148 hb139 hb141 hb143 hb145 hb147 => ?_)
    refine xg_t (xg_cVr mX1_rowsOf (vs := [(0, 1)]) (rest := []) (rs := [(2, 35)]) (cn1 := 0) (sl1 := 0) rfl (hp20) rfl h28_148 rfl rfl rfl rfl rfl rfl rfl) ?_
    refine xg_t (xg_astore (l1 := [(0, (2, 27)), (1, (0, 1)), (2, (0, pc_))]) rfl rfl rfl) ?_
    refine xg_t (xg_aload (va := (2, 35)) rfl rfl) ?_
    refine xg_t (xg_ifnullF) ?_
    refine xg_t (xg_aload (va := (2, 35)) rfl rfl) ?_
    obtain ⟨f35_149, h35_151, hb150⟩ := (xqc35 hI : cp35 (wget w 35))
    refine xg_t (xg_cVr mX5_isFull (vs := []) (rest := []) (rs := [(0, if 4 ≤ f35_149 then 1 else 0)]) (cn1 := 0) (sl1 := 0) rfl (rfull_ok h35_151 (by decide) (by omega)) rfl h35_151 rfl rfl rfl rfl rfl rfl rfl) ?_
    by_cases hc152 : 4 ≤ f35_149
    · refine xg_t (xg_ifF (u := (if 4 ≤ f35_149 then 1 else 0)) rfl xnm0 (xj_eqF (xite1 hc152))) ?_
      refine xg_t (xg_blq rfl) ?_
      exact xg_e ⟨w, ⟨rfl, rfl⟩, hI, xFr.rf⟩
    · refine xg_t (xg_ifT (u := (if 4 ≤ f35_149 then 1 else 0)) rfl xnm0 (xj_eqT (xite0 hc152))) ?_
      refine xg_t (xg_blq rfl) ?_
      refine xg_t (xg_aload (va := (2, 35)) rfl rfl) ?_
      have hl155 : f35_149 < 4 := by omega
      refine xg_cV mX5_grow (vs := []) (rest := []) (rs := [(0, if f35_149 < 4 then f35_149 else 4294967295)]) (cn1 := 0) (sl1 := 0) rfl (rgrow_ok h35_151 (by decide) (by omega)) rfl h35_151 rfl rfl rfl rfl rfl rfl rfl (fun w153 hq154 => ?_)
      rw [if_pos hl155] at hq154 ⊢
      refine xg_t (xg_istore (l1 := [(3, (2, 35)), (0, (2, 27)), (1, (0, 1)), (2, (0, pc_))]) rfl rfl rfl) ?_
      refine xg_t (xg_const) ?_
      refine xg_t (xg_istore (l1 := [(4, (0, f35_149)), (3, (2, 35)), (0, (2, 27)), (1, (0, 1)), (2, (0, pc_))]) rfl rfl rfl) ?_
      refine xg_t (xg_blq rfl) ?_
      refine xg_t (xg_iload (va := (0, 0)) rfl rfl) ?_
      refine xg_t (xg_gets) ?_
      refine xg_t (xg_iload (va := (0, 1)) rfl rfl) ?_
      refine xg_t (xg_ald8L (n := 1) (u := 2) xnm0 rfl rfl) ?_
      refine xg_t (xg_icF (u := 0) (v := 2) rfl xnm0 xnm0 (by decide)) ?_
      refine xg_t (xg_iload (va := (0, 0)) rfl rfl) ?_
      refine xg_t (xg_const) ?_
      refine xg_t (xg_icF (u := 0) (v := 3) rfl xnm0 xnm0 (by decide)) ?_
      refine xg_t (xg_aload (va := (2, 35)) rfl rfl) ?_
      refine xg_t (xg_iload (va := (0, f35_149)) rfl rfl) ?_
      refine xg_t (xg_iload (va := (0, 0)) rfl rfl) ?_
      refine xg_t (xg_aload (va := (2, 27)) rfl rfl) ?_
      refine xg_t (xg_getf (va := (2, 39)) (hq154.2.get (by decide) h27_11) rfl) ?_
      refine xg_t (xg_iload (va := (0, 0)) rfl rfl) ?_
      refine xg_ialdB (n := 0) (B := 4294967295) (h39_13.but hq154.2 (by decide)) (hb14) xnm0 (by first | decide | omega) (fun u156 hu157 he158 => ?_)
      refine xoI (xqc36 hI : cpI 12 16 4294967295 (wget w 36)) (fun g36_159 h36_160 hb161 => ?_)
      refine xg_cVv mX5_put (vs := [(0, f35_149), (0, 0), (0, u156)]) (rest := []) (cn1 := 0) (sl1 := 0) rfl (rputI (lim := 4) (wd := 3) (B := 4294967295) hq154.1 (h36_160.but hq154.2 (by decide)) (hb161) (by decide) (by omega) (by decide) (by decide) (by omega) (by omega) (by omega)) rfl hq154.1 rfl rfl rfl rfl rfl rfl (fun w162 hq163 => ?_)
      obtain ⟨g164, hr165, hb166, hb167⟩ := hq163
      refine xg_t (xg_iinc (u := 0) (z := 1) (l1 := [(4, (0, f35_149)), (3, (2, 35)), (0, (2, 27)), (1, (0, 1)), (2, (0, pc_))]) rfl rfl (by decide) rfl) ?_
      refine xg_t (xg_goto) ?_
      refine xg_t (xg_blq rfl) ?_
      refine xg_t (xg_iload (va := (0, 1)) rfl rfl) ?_
      refine xg_t (xg_gets) ?_
      refine xg_t (xg_iload (va := (0, 1)) rfl rfl) ?_
      refine xg_t (xg_ald8L (n := 1) (u := 2) xnm0 rfl rfl) ?_
      refine xg_t (xg_icF (u := 1) (v := 2) rfl xnm0 xnm0 (by decide)) ?_
      refine xg_t (xg_iload (va := (0, 1)) rfl rfl) ?_
      refine xg_t (xg_const) ?_
      refine xg_t (xg_icF (u := 1) (v := 3) rfl xnm0 xnm0 (by decide)) ?_
      refine xg_t (xg_aload (va := (2, 35)) rfl rfl) ?_
      refine xg_t (xg_iload (va := (0, f35_149)) rfl rfl) ?_
      refine xg_t (xg_iload (va := (0, 1)) rfl rfl) ?_
      refine xg_t (xg_aload (va := (2, 27)) rfl rfl) ?_
      refine xg_t (xg_getf (va := (2, 39)) (hb167.get (by decide) (hq154.2.get (by decide) h27_11)) rfl) ?_
      refine xg_t (xg_iload (va := (0, 1)) rfl rfl) ?_
      refine xg_ialdB (n := 1) (B := 4294967295) ((h39_13.but hq154.2 (by decide)).but hb167 (by decide)) (hb14) xnm0 (by first | decide | omega) (fun u168 hu169 he170 => ?_)
      refine xg_cVv mX5_put (vs := [(0, f35_149), (0, 1), (0, u168)]) (rest := []) (cn1 := 0) (sl1 := 0) rfl (rputI (lim := 4) (wd := 3) (B := 4294967295) (hb167.get (by decide) hq154.1) hr165 (hb166) (by decide) (by omega) (by decide) (by decide) (by omega) (by omega) (by omega)) rfl (hb167.get (by decide) hq154.1) rfl rfl rfl rfl rfl rfl (fun w171 hq172 => ?_)
      obtain ⟨g173, hr174, hb175, hb176⟩ := hq172
      refine xg_t (xg_iinc (u := 1) (z := 2) (l1 := [(4, (0, f35_149)), (3, (2, 35)), (0, (2, 27)), (1, (0, 1)), (2, (0, pc_))]) rfl rfl (by decide) rfl) ?_
      refine xg_t (xg_goto) ?_
      refine xg_t (xg_blq rfl) ?_
      refine xg_t (xg_iload (va := (0, 2)) rfl rfl) ?_
      refine xg_t (xg_gets) ?_
      refine xg_t (xg_iload (va := (0, 1)) rfl rfl) ?_
      refine xg_t (xg_ald8L (n := 1) (u := 2) xnm0 rfl rfl) ?_
      refine xg_t (xg_icT (u := 2) (v := 2) rfl xnm0 xnm0 (by decide)) ?_
      refine xg_t (xg_blq rfl) ?_
      refine xg_t (xg_iload (va := (0, 1)) rfl rfl) ?_
      refine xg_t (xg_ifT (u := 1) rfl xnm0 (by decide)) ?_
      refine xg_t (xg_blq rfl) ?_
      refine xg_t (xg_iload (va := (0, 1)) rfl rfl) ?_
      refine xg_t (xg_const) ?_
      refine xg_t (xg_icT (u := 1) (v := 4) rfl xnm0 xnm0 (by decide)) ?_
      refine xg_t (xg_blq rfl) ?_
      exact xg_e ⟨w171, ⟨rfl, rfl⟩, xInv.up (S := [35, 36]) hI (((xFr.of (S := [35, 36]) hq154.2 (by decide)).tr (xFr.of (S := [35, 36]) hb167 (by decide))).tr (xFr.of (S := [35, 36]) hb176 (by decide))) (List.forall_mem_cons.mpr ⟨xqu35 (show cp35 (wget w171 35) from ⟨f35_149 + 1, (hb176.get (by decide) (hb167.get (by decide) hq154.1)), by omega⟩), List.forall_mem_cons.mpr ⟨xqu36 (show cpI 12 16 4294967295 (wget w171 36) from ⟨_, hr174, hb175⟩), fun _ h => absurd h List.not_mem_nil⟩⟩), (((xFr.of (S := [29, 30, 31, 32, 33, 34, 35, 36, 37, 38, 41]) hq154.2 (by decide)).tr (xFr.of (S := [29, 30, 31, 32, 33, 34, 35, 36, 37, 38, 41]) hb167 (by decide))).tr (xFr.of (S := [29, 30, 31, 32, 33, 34, 35, 36, 37, 38, 41]) hb176 (by decide)))⟩
  · refine xoC28 (xqc28 hI : cp28 (wget w 28)) (fun f28_177 f28_179 f28_181 f28_183 f28_185 h28_187 hb178 hb180 hb182 hb184 hb186 => ?_)
    refine xg_t (xg_cVr mX1_rowsOf (vs := [(0, 1)]) (rest := []) (rs := [(2, 37)]) (cn1 := 0) (sl1 := 0) rfl (hp20) rfl h28_187 rfl rfl rfl rfl rfl rfl rfl) ?_
    refine xg_t (xg_astore (l1 := [(0, (2, 27)), (1, (0, 1)), (2, (0, pc_))]) rfl rfl rfl) ?_
    refine xg_t (xg_aload (va := (2, 37)) rfl rfl) ?_
    refine xg_t (xg_ifnullF) ?_
    refine xg_t (xg_aload (va := (2, 37)) rfl rfl) ?_
    obtain ⟨f37_188, h37_190, hb189⟩ := (xqc37 hI : cp37 (wget w 37))
    refine xg_t (xg_cVr mX5_isFull (vs := []) (rest := []) (rs := [(0, if 20 ≤ f37_188 then 1 else 0)]) (cn1 := 0) (sl1 := 0) rfl (rfull_ok h37_190 (by decide) (by omega)) rfl h37_190 rfl rfl rfl rfl rfl rfl rfl) ?_
    by_cases hc191 : 20 ≤ f37_188
    · refine xg_t (xg_ifF (u := (if 20 ≤ f37_188 then 1 else 0)) rfl xnm0 (xj_eqF (xite1 hc191))) ?_
      refine xg_t (xg_blq rfl) ?_
      exact xg_e ⟨w, ⟨rfl, rfl⟩, hI, xFr.rf⟩
    · refine xg_t (xg_ifT (u := (if 20 ≤ f37_188 then 1 else 0)) rfl xnm0 (xj_eqT (xite0 hc191))) ?_
      refine xg_t (xg_blq rfl) ?_
      refine xg_t (xg_aload (va := (2, 37)) rfl rfl) ?_
      have hl194 : f37_188 < 20 := by omega
      refine xg_cV mX5_grow (vs := []) (rest := []) (rs := [(0, if f37_188 < 20 then f37_188 else 4294967295)]) (cn1 := 0) (sl1 := 0) rfl (rgrow_ok h37_190 (by decide) (by omega)) rfl h37_190 rfl rfl rfl rfl rfl rfl rfl (fun w192 hq193 => ?_)
      rw [if_pos hl194] at hq193 ⊢
      refine xg_t (xg_istore (l1 := [(3, (2, 37)), (0, (2, 27)), (1, (0, 1)), (2, (0, pc_))]) rfl rfl rfl) ?_
      refine xg_t (xg_const) ?_
      refine xg_t (xg_istore (l1 := [(4, (0, f37_188)), (3, (2, 37)), (0, (2, 27)), (1, (0, 1)), (2, (0, pc_))]) rfl rfl rfl) ?_
      refine xg_t (xg_blq rfl) ?_
      refine xg_t (xg_iload (va := (0, 0)) rfl rfl) ?_
      refine xg_t (xg_gets) ?_
      refine xg_t (xg_iload (va := (0, 1)) rfl rfl) ?_
      refine xg_t (xg_ald8L (n := 1) (u := 2) xnm0 rfl rfl) ?_
      refine xg_t (xg_icF (u := 0) (v := 2) rfl xnm0 xnm0 (by decide)) ?_
      refine xg_t (xg_iload (va := (0, 0)) rfl rfl) ?_
      refine xg_t (xg_const) ?_
      refine xg_t (xg_icF (u := 0) (v := 3) rfl xnm0 xnm0 (by decide)) ?_
      refine xg_t (xg_aload (va := (2, 37)) rfl rfl) ?_
      refine xg_t (xg_iload (va := (0, f37_188)) rfl rfl) ?_
      refine xg_t (xg_iload (va := (0, 0)) rfl rfl) ?_
      refine xg_t (xg_aload (va := (2, 27)) rfl rfl) ?_
      refine xg_t (xg_getf (va := (2, 39)) (hq193.2.get (by decide) h27_11) rfl) ?_
      refine xg_t (xg_iload (va := (0, 0)) rfl rfl) ?_
      refine xg_ialdB (n := 0) (B := 4294967295) (h39_13.but hq193.2 (by decide)) (hb14) xnm0 (by first | decide | omega) (fun u195 hu196 he197 => ?_)
      refine xoI (xqc38 hI : cpI 40 17 4294967295 (wget w 38)) (fun g38_198 h38_199 hb200 => ?_)
      refine xg_cVv mX5_put (vs := [(0, f37_188), (0, 0), (0, u195)]) (rest := []) (cn1 := 0) (sl1 := 0) rfl (rputI (lim := 20) (wd := 2) (B := 4294967295) hq193.1 (h38_199.but hq193.2 (by decide)) (hb200) (by decide) (by omega) (by decide) (by decide) (by omega) (by omega) (by omega)) rfl hq193.1 rfl rfl rfl rfl rfl rfl (fun w201 hq202 => ?_)
      obtain ⟨g203, hr204, hb205, hb206⟩ := hq202
      refine xg_t (xg_iinc (u := 0) (z := 1) (l1 := [(4, (0, f37_188)), (3, (2, 37)), (0, (2, 27)), (1, (0, 1)), (2, (0, pc_))]) rfl rfl (by decide) rfl) ?_
      refine xg_t (xg_goto) ?_
      refine xg_t (xg_blq rfl) ?_
      refine xg_t (xg_iload (va := (0, 1)) rfl rfl) ?_
      refine xg_t (xg_gets) ?_
      refine xg_t (xg_iload (va := (0, 1)) rfl rfl) ?_
      refine xg_t (xg_ald8L (n := 1) (u := 2) xnm0 rfl rfl) ?_
      refine xg_t (xg_icF (u := 1) (v := 2) rfl xnm0 xnm0 (by decide)) ?_
      refine xg_t (xg_iload (va := (0, 1)) rfl rfl) ?_
      refine xg_t (xg_const) ?_
      refine xg_t (xg_icF (u := 1) (v := 3) rfl xnm0 xnm0 (by decide)) ?_
      refine xg_t (xg_aload (va := (2, 37)) rfl rfl) ?_
      refine xg_t (xg_iload (va := (0, f37_188)) rfl rfl) ?_
      refine xg_t (xg_iload (va := (0, 1)) rfl rfl) ?_
      refine xg_t (xg_aload (va := (2, 27)) rfl rfl) ?_
      refine xg_t (xg_getf (va := (2, 39)) (hb206.get (by decide) (hq193.2.get (by decide) h27_11)) rfl) ?_
      refine xg_t (xg_iload (va := (0, 1)) rfl rfl) ?_
      refine xg_ialdB (n := 1) (B := 4294967295) ((h39_13.but hq193.2 (by decide)).but hb206 (by decide)) (hb14) xnm0 (by first | decide | omega) (fun u207 hu208 he209 => ?_)
      refine xg_cVv mX5_put (vs := [(0, f37_188), (0, 1), (0, u207)]) (rest := []) (cn1 := 0) (sl1 := 0) rfl (rputI (lim := 20) (wd := 2) (B := 4294967295) (hb206.get (by decide) hq193.1) hr204 (hb205) (by decide) (by omega) (by decide) (by decide) (by omega) (by omega) (by omega)) rfl (hb206.get (by decide) hq193.1) rfl rfl rfl rfl rfl rfl (fun w210 hq211 => ?_)
      obtain ⟨g212, hr213, hb214, hb215⟩ := hq211
      refine xg_t (xg_iinc (u := 1) (z := 2) (l1 := [(4, (0, f37_188)), (3, (2, 37)), (0, (2, 27)), (1, (0, 1)), (2, (0, pc_))]) rfl rfl (by decide) rfl) ?_
      refine xg_t (xg_goto) ?_
      refine xg_t (xg_blq rfl) ?_
      refine xg_t (xg_iload (va := (0, 2)) rfl rfl) ?_
      refine xg_t (xg_gets) ?_
      refine xg_t (xg_iload (va := (0, 1)) rfl rfl) ?_
      refine xg_t (xg_ald8L (n := 1) (u := 2) xnm0 rfl rfl) ?_
      refine xg_t (xg_icT (u := 2) (v := 2) rfl xnm0 xnm0 (by decide)) ?_
      refine xg_t (xg_blq rfl) ?_
      refine xg_t (xg_iload (va := (0, 1)) rfl rfl) ?_
      refine xg_t (xg_ifT (u := 1) rfl xnm0 (by decide)) ?_
      refine xg_t (xg_blq rfl) ?_
      refine xg_t (xg_iload (va := (0, 1)) rfl rfl) ?_
      refine xg_t (xg_const) ?_
      refine xg_t (xg_icT (u := 1) (v := 4) rfl xnm0 xnm0 (by decide)) ?_
      refine xg_t (xg_blq rfl) ?_
      exact xg_e ⟨w210, ⟨rfl, rfl⟩, xInv.up (S := [37, 38]) hI (((xFr.of (S := [37, 38]) hq193.2 (by decide)).tr (xFr.of (S := [37, 38]) hb206 (by decide))).tr (xFr.of (S := [37, 38]) hb215 (by decide))) (List.forall_mem_cons.mpr ⟨xqu37 (show cp37 (wget w210 37) from ⟨f37_188 + 1, (hb215.get (by decide) (hb206.get (by decide) hq193.1)), by omega⟩), List.forall_mem_cons.mpr ⟨xqu38 (show cpI 40 17 4294967295 (wget w210 38) from ⟨_, hr213, hb214⟩), fun _ h => absurd h List.not_mem_nil⟩⟩), (((xFr.of (S := [29, 30, 31, 32, 33, 34, 35, 36, 37, 38, 41]) hq193.2 (by decide)).tr (xFr.of (S := [29, 30, 31, 32, 33, 34, 35, 36, 37, 38, 41]) hb206 (by decide))).tr (xFr.of (S := [29, 30, 31, 32, 33, 34, 35, 36, 37, 38, 41]) hb215 (by decide)))⟩
  · refine xoC28 (xqc28 hI : cp28 (wget w 28)) (fun f28_216 f28_218 f28_220 f28_222 f28_224 h28_226 hb217 hb219 hb221 hb223 hb225 => ?_)
    refine xg_t (xg_cVr mX1_rowsOf (vs := [(0, 1)]) (rest := []) (rs := [(3, 0)]) (cn1 := 0) (sl1 := 0) rfl (hp20) rfl h28_226 rfl rfl rfl rfl rfl rfl rfl) ?_
    refine xg_t (xg_astore (l1 := [(0, (2, 27)), (1, (0, 1)), (2, (0, pc_))]) rfl rfl rfl) ?_
    refine xg_t (xg_aload (va := (3, 0)) rfl rfl) ?_
    refine xg_t (xg_ifnullT) ?_
    refine xg_t (xg_blq rfl) ?_
    exact xg_e ⟨w, ⟨rfl, rfl⟩, hI, xFr.rf⟩
theorem ftFine2 {pc_ : Nat} (hI : xInv w) (h1 : pc_ ≤ 4294967295) : xPi (d + 3) mX2_isFine [(2, 27), (0, 2), (0, pc_)] w bd fc rr (fun n w' => (n ≤ 1) ∧ xInv w' ∧ xFr [27] w w') := by
  refine xPi.of ?_
  show xTo (d + 3) mX2_isFine (0, [], [(0, (2, 27)), (1, (0, 2)), (2, (0, pc_))], [], (w, bd, fc, 0, 0, rr)) (fun φ => ∃ n w', xEnd 4 [(0, n)] (w', bd, fc, 0, 0, rr) φ ∧ (n ≤ 1) ∧ xInv w' ∧ xFr [27] w w')
  refine xoC27 (xqc27 hI : cp27 (wget w 27)) (fun f27_1 f27_3 f27_5 f27_7 f27_9 h27_11 hb2 hb4 hb6 hb8 hb10 => ?_)
  refine xoI (xqc39 hI : cpI 3 18 4294967295 (wget w 39)) (fun g39_12 h39_13 hb14 => ?_)
  refine xoI (xqc40 hI : cpI 3 19 4294967295 (wget w 40)) (fun g40_15 h40_16 hb17 => ?_)
  refine xg_t (xg_blq rfl) ?_
  refine xg_t (xg_aload (va := (2, 27)) rfl rfl) ?_
  refine xg_t (xg_iload (va := (0, 2)) rfl rfl) ?_
  refine xg_cVi mX2_isTooMany (vs := [(0, 2)]) (rest := []) (cn1 := 0) (sl1 := 0) rfl (ftTooMany (hI) (by omega)) rfl h27_11 rfl rfl rfl rfl rfl rfl (fun n22 w18 hq19 => ?_)
  obtain ⟨hn23, hI20, hF21⟩ := hq19
  by_cases hc24 : n22 = 0
  · refine xg_t (xg_ifT (u := n22) rfl xnm0 (xj_eqT hc24)) ?_
    refine xg_t (xg_blq rfl) ?_
    refine xg_t (xg_iload (va := (0, 2)) rfl rfl) ?_
    refine xg_t (xg_ifF (u := 2) rfl xnm0 (by decide)) ?_
    refine xg_t (xg_iload (va := (0, 2)) rfl rfl) ?_
    refine xg_t (xg_bip) ?_
    refine xg_t (xg_icT (u := 2) (v := 7) rfl xnm0 xnm0 (by decide)) ?_
    refine xg_t (xg_blq rfl) ?_
    refine xg_t (xg_const) ?_
    refine xg_t (xg_istore (l1 := [(0, (2, 27)), (1, (0, 2)), (2, (0, pc_))]) rfl rfl rfl) ?_
    refine xg_t (xg_blq rfl) ?_
    refine xg_t (xg_iload (va := (0, 0)) rfl rfl) ?_
    refine xg_t (xg_gets) ?_
    refine xg_t (xg_iload (va := (0, 2)) rfl rfl) ?_
    refine xg_t (xg_ald8L (n := 2) (u := 2) xnm0 rfl rfl) ?_
    refine xg_t (xg_icF (u := 0) (v := 2) rfl xnm0 xnm0 (by decide)) ?_
    refine xg_t (xg_iload (va := (0, 0)) rfl rfl) ?_
    refine xg_t (xg_const) ?_
    refine xg_t (xg_icF (u := 0) (v := 3) rfl xnm0 xnm0 (by decide)) ?_
    refine xg_t (xg_aload (va := (2, 27)) rfl rfl) ?_
    refine xg_t (xg_getf (va := (2, 39)) (hF21.get (by decide) h27_11) rfl) ?_
    refine xg_t (xg_iload (va := (0, 0)) rfl rfl) ?_
    refine xg_ialdB (n := 0) (B := 4294967295) (h39_13.fr hF21 (by decide)) (hb14) xnm0 (by first | decide | omega) (fun u25 hu26 he27 => ?_)
    refine xg_t (xg_gets) ?_
    refine xg_t (xg_iload (va := (0, 2)) rfl rfl) ?_
    refine xg_t (xg_const) ?_
    refine xg_t (xg_imul (u := 2) (v := 3) (z := 6) xnm0 xnm0 (by decide)) ?_
    refine xg_t (xg_iload (va := (0, 0)) rfl rfl) ?_
    refine xg_t (xg_iadd (u := 6) (v := 0) (z := 6) xnm0 xnm0 (by decide)) ?_
    refine xg_t (xg_ald8L (n := 6) (u := 1) xnm0 rfl rfl) ?_
    refine xg_t (xg_gets) ?_
    refine xg_t (xg_iload (va := (0, 2)) rfl rfl) ?_
    refine xg_t (xg_const) ?_
    refine xg_t (xg_imul (u := 2) (v := 3) (z := 6) xnm0 xnm0 (by decide)) ?_
    refine xg_t (xg_iload (va := (0, 0)) rfl rfl) ?_
    refine xg_t (xg_iadd (u := 6) (v := 0) (z := 6) xnm0 xnm0 (by decide)) ?_
    refine xg_t (xg_ald8L (n := 6) (u := 9999) xnm0 rfl rfl) ?_
    refine xg_t (xg_cNr mX11_isIn (vs := [(0, u25), (0, 1), (0, 9999)]) (rest := []) (rs := [(0, if 1 ≤ u25 ∧ u25 ≤ 9999 then 1 else 0)]) (cn1 := 0) (sl1 := 0) rfl (isIn_ok (by omega) (by omega) (by omega)) rfl rfl rfl rfl rfl rfl rfl rfl) ?_
    by_cases hc28 : 1 ≤ u25 ∧ u25 ≤ 9999
    · refine xg_t (xg_ifT (u := (if 1 ≤ u25 ∧ u25 ≤ 9999 then 1 else 0)) rfl xnm0 (xj_neT (xite1 hc28))) ?_
      refine xg_t (xg_blq rfl) ?_
      refine xg_t (xg_iinc (u := 0) (z := 1) (l1 := [(0, (2, 27)), (1, (0, 2)), (2, (0, pc_))]) rfl rfl (by decide) rfl) ?_
      refine xg_t (xg_goto) ?_
      refine xg_t (xg_blq rfl) ?_
      refine xg_t (xg_iload (va := (0, 1)) rfl rfl) ?_
      refine xg_t (xg_gets) ?_
      refine xg_t (xg_iload (va := (0, 2)) rfl rfl) ?_
      refine xg_t (xg_ald8L (n := 2) (u := 2) xnm0 rfl rfl) ?_
      refine xg_t (xg_icF (u := 1) (v := 2) rfl xnm0 xnm0 (by decide)) ?_
      refine xg_t (xg_iload (va := (0, 1)) rfl rfl) ?_
      refine xg_t (xg_const) ?_
      refine xg_t (xg_icF (u := 1) (v := 3) rfl xnm0 xnm0 (by decide)) ?_
      refine xg_t (xg_aload (va := (2, 27)) rfl rfl) ?_
      refine xg_t (xg_getf (va := (2, 39)) (hF21.get (by decide) h27_11) rfl) ?_
      refine xg_t (xg_iload (va := (0, 1)) rfl rfl) ?_
      refine xg_ialdB (n := 1) (B := 4294967295) (h39_13.fr hF21 (by decide)) (hb14) xnm0 (by first | decide | omega) (fun u29 hu30 he31 => ?_)
      refine xg_t (xg_gets) ?_
      refine xg_t (xg_iload (va := (0, 2)) rfl rfl) ?_
      refine xg_t (xg_const) ?_
      refine xg_t (xg_imul (u := 2) (v := 3) (z := 6) xnm0 xnm0 (by decide)) ?_
      refine xg_t (xg_iload (va := (0, 1)) rfl rfl) ?_
      refine xg_t (xg_iadd (u := 6) (v := 1) (z := 7) xnm0 xnm0 (by decide)) ?_
      refine xg_t (xg_ald8L (n := 7) (u := 1) xnm0 rfl rfl) ?_
      refine xg_t (xg_gets) ?_
      refine xg_t (xg_iload (va := (0, 2)) rfl rfl) ?_
      refine xg_t (xg_const) ?_
      refine xg_t (xg_imul (u := 2) (v := 3) (z := 6) xnm0 xnm0 (by decide)) ?_
      refine xg_t (xg_iload (va := (0, 1)) rfl rfl) ?_
      refine xg_t (xg_iadd (u := 6) (v := 1) (z := 7) xnm0 xnm0 (by decide)) ?_
      refine xg_t (xg_ald8L (n := 7) (u := 9999) xnm0 rfl rfl) ?_
      refine xg_t (xg_cNr mX11_isIn (vs := [(0, u29), (0, 1), (0, 9999)]) (rest := []) (rs := [(0, if 1 ≤ u29 ∧ u29 ≤ 9999 then 1 else 0)]) (cn1 := 0) (sl1 := 0) rfl (isIn_ok (by omega) (by omega) (by omega)) rfl rfl rfl rfl rfl rfl rfl rfl) ?_
      by_cases hc32 : 1 ≤ u29 ∧ u29 ≤ 9999
      · refine xg_t (xg_ifT (u := (if 1 ≤ u29 ∧ u29 ≤ 9999 then 1 else 0)) rfl xnm0 (xj_neT (xite1 hc32))) ?_
        refine xg_t (xg_blq rfl) ?_
        refine xg_t (xg_iinc (u := 1) (z := 2) (l1 := [(0, (2, 27)), (1, (0, 2)), (2, (0, pc_))]) rfl rfl (by decide) rfl) ?_
        refine xg_t (xg_goto) ?_
        refine xg_t (xg_blq rfl) ?_
        refine xg_t (xg_iload (va := (0, 2)) rfl rfl) ?_
        refine xg_t (xg_gets) ?_
        refine xg_t (xg_iload (va := (0, 2)) rfl rfl) ?_
        refine xg_t (xg_ald8L (n := 2) (u := 2) xnm0 rfl rfl) ?_
        refine xg_t (xg_icT (u := 2) (v := 2) rfl xnm0 xnm0 (by decide)) ?_
        refine xg_t (xg_blq rfl) ?_
        refine xg_t (xg_const) ?_
        exact xg_e ⟨1, w18, ⟨rfl, rfl⟩, by first | decide | omega, hI20, (hF21.up (by decide))⟩
      · refine xg_t (xg_ifF (u := (if 1 ≤ u29 ∧ u29 ≤ 9999 then 1 else 0)) rfl xnm0 (xj_neF (xite0 hc32))) ?_
        refine xg_t (xg_aload (va := (2, 27)) rfl rfl) ?_
        refine xg_t (xg_const) ?_
        refine xg_putI (fl1 := [(2, 1), (2, 42), (2, 28), (2, 39), (2, 40), (2, 41), (0, f27_1), (0, f27_3), (0, f27_5), (0, 2), (0, f27_9)]) (hF21.get (by decide) h27_11) rfl rfl rfl (fun w33 hk34 hb35 => ?_)
        refine xg_t (xg_aload (va := (2, 27)) rfl rfl) ?_
        refine xg_t (xg_aload (va := (2, 27)) rfl rfl) ?_
        refine xg_t (xg_getf (va := (2, 40)) hk34 rfl) ?_
        refine xg_t (xg_iload (va := (0, 1)) rfl rfl) ?_
        refine xg_ialdB (n := 1) (B := 4294967295) ((h40_16.fr hF21 (by decide)).but hb35 (by decide)) (hb17) xnm0 (by first | decide | omega) (fun u36 hu37 he38 => ?_)
        refine xg_putI (fl1 := [(2, 1), (2, 42), (2, 28), (2, 39), (2, 40), (2, 41), (0, f27_1), (0, f27_3), (0, f27_5), (0, 2), (0, u36)]) hk34 rfl rfl rfl (fun w39 hk40 hb41 => ?_)
        refine xg_t (xg_const) ?_
        exact xg_e ⟨0, w39, ⟨rfl, rfl⟩, by first | decide | omega, xInv.up (S := [27]) hI20 ((xFr.of (S := [27]) hb35 (by decide)).tr (xFr.of (S := [27]) hb41 (by decide))) (List.forall_mem_cons.mpr ⟨xqu27 (show cp27 (wget w39 27) from xmC27 f27_1 f27_3 f27_5 2 u36 hk40 hb2 hb4 hb6 (by decide) (by omega)), fun _ h => absurd h List.not_mem_nil⟩), ((hF21.up (by decide)).tr ((xFr.of (S := [27]) hb35 (by decide)).tr (xFr.of (S := [27]) hb41 (by decide))))⟩
    · refine xg_t (xg_ifF (u := (if 1 ≤ u25 ∧ u25 ≤ 9999 then 1 else 0)) rfl xnm0 (xj_neF (xite0 hc28))) ?_
      refine xg_t (xg_aload (va := (2, 27)) rfl rfl) ?_
      refine xg_t (xg_const) ?_
      refine xg_putI (fl1 := [(2, 1), (2, 42), (2, 28), (2, 39), (2, 40), (2, 41), (0, f27_1), (0, f27_3), (0, f27_5), (0, 2), (0, f27_9)]) (hF21.get (by decide) h27_11) rfl rfl rfl (fun w42 hk43 hb44 => ?_)
      refine xg_t (xg_aload (va := (2, 27)) rfl rfl) ?_
      refine xg_t (xg_aload (va := (2, 27)) rfl rfl) ?_
      refine xg_t (xg_getf (va := (2, 40)) hk43 rfl) ?_
      refine xg_t (xg_iload (va := (0, 0)) rfl rfl) ?_
      refine xg_ialdB (n := 0) (B := 4294967295) ((h40_16.fr hF21 (by decide)).but hb44 (by decide)) (hb17) xnm0 (by first | decide | omega) (fun u45 hu46 he47 => ?_)
      refine xg_putI (fl1 := [(2, 1), (2, 42), (2, 28), (2, 39), (2, 40), (2, 41), (0, f27_1), (0, f27_3), (0, f27_5), (0, 2), (0, u45)]) hk43 rfl rfl rfl (fun w48 hk49 hb50 => ?_)
      refine xg_t (xg_const) ?_
      exact xg_e ⟨0, w48, ⟨rfl, rfl⟩, by first | decide | omega, xInv.up (S := [27]) hI20 ((xFr.of (S := [27]) hb44 (by decide)).tr (xFr.of (S := [27]) hb50 (by decide))) (List.forall_mem_cons.mpr ⟨xqu27 (show cp27 (wget w48 27) from xmC27 f27_1 f27_3 f27_5 2 u45 hk49 hb2 hb4 hb6 (by decide) (by omega)), fun _ h => absurd h List.not_mem_nil⟩), ((hF21.up (by decide)).tr ((xFr.of (S := [27]) hb44 (by decide)).tr (xFr.of (S := [27]) hb50 (by decide))))⟩
  · refine xg_t (xg_ifF (u := n22) rfl xnm0 (xj_eqF hc24)) ?_
    refine xg_t (xg_aload (va := (2, 27)) rfl rfl) ?_
    refine xg_t (xg_const) ?_
    refine xg_putI (fl1 := [(2, 1), (2, 42), (2, 28), (2, 39), (2, 40), (2, 41), (0, f27_1), (0, f27_3), (0, f27_5), (0, 3), (0, f27_9)]) (hF21.get (by decide) h27_11) rfl rfl rfl (fun w51 hk52 hb53 => ?_)
    refine xg_t (xg_aload (va := (2, 27)) rfl rfl) ?_
    refine xg_t (xg_iload (va := (0, pc_)) rfl rfl) ?_
    refine xg_putI (fl1 := [(2, 1), (2, 42), (2, 28), (2, 39), (2, 40), (2, 41), (0, f27_1), (0, f27_3), (0, f27_5), (0, 3), (0, pc_)]) hk52 rfl rfl rfl (fun w54 hk55 hb56 => ?_)
    refine xg_t (xg_const) ?_
    exact xg_e ⟨0, w54, ⟨rfl, rfl⟩, by first | decide | omega, xInv.up (S := [27]) hI20 ((xFr.of (S := [27]) hb53 (by decide)).tr (xFr.of (S := [27]) hb56 (by decide))) (List.forall_mem_cons.mpr ⟨xqu27 (show cp27 (wget w54 27) from xmC27 f27_1 f27_3 f27_5 3 pc_ hk55 hb2 hb4 hb6 (by decide) (by omega)), fun _ h => absurd h List.not_mem_nil⟩), ((hF21.up (by decide)).tr ((xFr.of (S := [27]) hb53 (by decide)).tr (xFr.of (S := [27]) hb56 (by decide))))⟩
theorem ftTake2 {pc_ : Nat} (hI : xInv w) (h1 : pc_ ≤ 4294967295) : xPq (d + 2) mX2_take [(2, 27), (0, 2), (0, pc_)] w bd fc rr [] (fun w' => xInv w' ∧ xFr [29, 30, 31, 32, 33, 34, 35, 36, 37, 38, 41] w w') := by
  refine xPq.of ?_
  show xTo (d + 2) mX2_take (0, [], [(0, (2, 27)), (1, (0, 2)), (2, (0, pc_))], [], (w, bd, fc, 0, 0, rr)) (fun φ => ∃ w', xEnd 0 [] (w', bd, fc, 0, 0, rr) φ ∧ xInv w' ∧ xFr [29, 30, 31, 32, 33, 34, 35, 36, 37, 38, 41] w w')
  refine xoC27 (xqc27 hI : cp27 (wget w 27)) (fun f27_1 f27_3 f27_5 f27_7 f27_9 h27_11 hb2 hb4 hb6 hb8 hb10 => ?_)
  refine xoI (xqc39 hI : cpI 3 18 4294967295 (wget w 39)) (fun g39_12 h39_13 hb14 => ?_)
  refine xoI (xqc41 hI : cpI 20 20 4294967295 (wget w 41)) (fun g41_15 h41_16 hb17 => ?_)
  refine xg_t (xg_blq rfl) ?_
  refine xg_t (xg_iload (va := (0, 2)) rfl rfl) ?_
  refine xg_t (xg_const) ?_
  refine xg_t (xg_icT (u := 2) (v := 5) rfl xnm0 xnm0 (by decide)) ?_
  refine xg_t (xg_blq rfl) ?_
  refine xg_t (xg_iload (va := (0, 2)) rfl rfl) ?_
  refine xg_t (xg_bip) ?_
  refine xg_t (xg_icT (u := 2) (v := 6) rfl xnm0 xnm0 (by decide)) ?_
  refine xg_t (xg_blq rfl) ?_
  refine xg_t (xg_aload (va := (2, 27)) rfl rfl) ?_
  refine xg_t (xg_getf (va := (2, 28)) h27_11 rfl) ?_
  refine xg_t (xg_iload (va := (0, 2)) rfl rfl) ?_
  obtain ⟨v18, hv19, hp20⟩ := rowsOf28 (d := d + 1) (bd := bd) (fc := fc) (rr := rr) (so := 2) (hI) (by omega)
  rcases hv19 with rfl | rfl | rfl | rfl | rfl | rfl
  · refine xoC28 (xqc28 hI : cp28 (wget w 28)) (fun f28_21 f28_23 f28_25 f28_27 f28_29 h28_31 hb22 hb24 hb26 hb28 hb30 => ?_)
    refine xg_t (xg_cVr mX1_rowsOf (vs := [(0, 2)]) (rest := []) (rs := [(2, 29)]) (cn1 := 0) (sl1 := 0) rfl (hp20) rfl h28_31 rfl rfl rfl rfl rfl rfl rfl) ?_
    refine xg_t (xg_astore (l1 := [(0, (2, 27)), (1, (0, 2)), (2, (0, pc_))]) rfl rfl rfl) ?_
    refine xg_t (xg_aload (va := (2, 29)) rfl rfl) ?_
    refine xg_t (xg_ifnullF) ?_
    refine xg_t (xg_aload (va := (2, 29)) rfl rfl) ?_
    obtain ⟨f29_32, h29_34, hb33⟩ := (xqc29 hI : cp29 (wget w 29))
    refine xg_t (xg_cVr mX5_isFull (vs := []) (rest := []) (rs := [(0, if 6 ≤ f29_32 then 1 else 0)]) (cn1 := 0) (sl1 := 0) rfl (rfull_ok h29_34 (by decide) (by omega)) rfl h29_34 rfl rfl rfl rfl rfl rfl rfl) ?_
    by_cases hc35 : 6 ≤ f29_32
    · refine xg_t (xg_ifF (u := (if 6 ≤ f29_32 then 1 else 0)) rfl xnm0 (xj_eqF (xite1 hc35))) ?_
      refine xg_t (xg_blq rfl) ?_
      exact xg_e ⟨w, ⟨rfl, rfl⟩, hI, xFr.rf⟩
    · refine xg_t (xg_ifT (u := (if 6 ≤ f29_32 then 1 else 0)) rfl xnm0 (xj_eqT (xite0 hc35))) ?_
      refine xg_t (xg_blq rfl) ?_
      refine xg_t (xg_aload (va := (2, 29)) rfl rfl) ?_
      have hl38 : f29_32 < 6 := by omega
      refine xg_cV mX5_grow (vs := []) (rest := []) (rs := [(0, if f29_32 < 6 then f29_32 else 4294967295)]) (cn1 := 0) (sl1 := 0) rfl (rgrow_ok h29_34 (by decide) (by omega)) rfl h29_34 rfl rfl rfl rfl rfl rfl rfl (fun w36 hq37 => ?_)
      rw [if_pos hl38] at hq37 ⊢
      refine xg_t (xg_istore (l1 := [(3, (2, 29)), (0, (2, 27)), (1, (0, 2)), (2, (0, pc_))]) rfl rfl rfl) ?_
      refine xg_t (xg_const) ?_
      refine xg_t (xg_istore (l1 := [(4, (0, f29_32)), (3, (2, 29)), (0, (2, 27)), (1, (0, 2)), (2, (0, pc_))]) rfl rfl rfl) ?_
      refine xg_t (xg_blq rfl) ?_
      refine xg_t (xg_iload (va := (0, 0)) rfl rfl) ?_
      refine xg_t (xg_gets) ?_
      refine xg_t (xg_iload (va := (0, 2)) rfl rfl) ?_
      refine xg_t (xg_ald8L (n := 2) (u := 2) xnm0 rfl rfl) ?_
      refine xg_t (xg_icF (u := 0) (v := 2) rfl xnm0 xnm0 (by decide)) ?_
      refine xg_t (xg_iload (va := (0, 0)) rfl rfl) ?_
      refine xg_t (xg_const) ?_
      refine xg_t (xg_icF (u := 0) (v := 3) rfl xnm0 xnm0 (by decide)) ?_
      refine xg_t (xg_aload (va := (2, 29)) rfl rfl) ?_
      refine xg_t (xg_iload (va := (0, f29_32)) rfl rfl) ?_
      refine xg_t (xg_iload (va := (0, 0)) rfl rfl) ?_
      refine xg_t (xg_aload (va := (2, 27)) rfl rfl) ?_
      refine xg_t (xg_getf (va := (2, 39)) (hq37.2.get (by decide) h27_11) rfl) ?_
      refine xg_t (xg_iload (va := (0, 0)) rfl rfl) ?_
      refine xg_ialdB (n := 0) (B := 4294967295) (h39_13.but hq37.2 (by decide)) (hb14) xnm0 (by first | decide | omega) (fun u39 hu40 he41 => ?_)
      refine xoI (xqc30 hI : cpI 24 13 4294967295 (wget w 30)) (fun g30_42 h30_43 hb44 => ?_)
      refine xg_cVv mX5_put (vs := [(0, f29_32), (0, 0), (0, u39)]) (rest := []) (cn1 := 0) (sl1 := 0) rfl (rputI (lim := 6) (wd := 4) (B := 4294967295) hq37.1 (h30_43.but hq37.2 (by decide)) (hb44) (by decide) (by omega) (by decide) (by decide) (by omega) (by omega) (by omega)) rfl hq37.1 rfl rfl rfl rfl rfl rfl (fun w45 hq46 => ?_)
      obtain ⟨g47, hr48, hb49, hb50⟩ := hq46
      refine xg_t (xg_iinc (u := 0) (z := 1) (l1 := [(4, (0, f29_32)), (3, (2, 29)), (0, (2, 27)), (1, (0, 2)), (2, (0, pc_))]) rfl rfl (by decide) rfl) ?_
      refine xg_t (xg_goto) ?_
      refine xg_t (xg_blq rfl) ?_
      refine xg_t (xg_iload (va := (0, 1)) rfl rfl) ?_
      refine xg_t (xg_gets) ?_
      refine xg_t (xg_iload (va := (0, 2)) rfl rfl) ?_
      refine xg_t (xg_ald8L (n := 2) (u := 2) xnm0 rfl rfl) ?_
      refine xg_t (xg_icF (u := 1) (v := 2) rfl xnm0 xnm0 (by decide)) ?_
      refine xg_t (xg_iload (va := (0, 1)) rfl rfl) ?_
      refine xg_t (xg_const) ?_
      refine xg_t (xg_icF (u := 1) (v := 3) rfl xnm0 xnm0 (by decide)) ?_
      refine xg_t (xg_aload (va := (2, 29)) rfl rfl) ?_
      refine xg_t (xg_iload (va := (0, f29_32)) rfl rfl) ?_
      refine xg_t (xg_iload (va := (0, 1)) rfl rfl) ?_
      refine xg_t (xg_aload (va := (2, 27)) rfl rfl) ?_
      refine xg_t (xg_getf (va := (2, 39)) (hb50.get (by decide) (hq37.2.get (by decide) h27_11)) rfl) ?_
      refine xg_t (xg_iload (va := (0, 1)) rfl rfl) ?_
      refine xg_ialdB (n := 1) (B := 4294967295) ((h39_13.but hq37.2 (by decide)).but hb50 (by decide)) (hb14) xnm0 (by first | decide | omega) (fun u51 hu52 he53 => ?_)
      refine xg_cVv mX5_put (vs := [(0, f29_32), (0, 1), (0, u51)]) (rest := []) (cn1 := 0) (sl1 := 0) rfl (rputI (lim := 6) (wd := 4) (B := 4294967295) (hb50.get (by decide) hq37.1) hr48 (hb49) (by decide) (by omega) (by decide) (by decide) (by omega) (by omega) (by omega)) rfl (hb50.get (by decide) hq37.1) rfl rfl rfl rfl rfl rfl (fun w54 hq55 => ?_)
      obtain ⟨g56, hr57, hb58, hb59⟩ := hq55
      refine xg_t (xg_iinc (u := 1) (z := 2) (l1 := [(4, (0, f29_32)), (3, (2, 29)), (0, (2, 27)), (1, (0, 2)), (2, (0, pc_))]) rfl rfl (by decide) rfl) ?_
      refine xg_t (xg_goto) ?_
      refine xg_t (xg_blq rfl) ?_
      refine xg_t (xg_iload (va := (0, 2)) rfl rfl) ?_
      refine xg_t (xg_gets) ?_
      refine xg_t (xg_iload (va := (0, 2)) rfl rfl) ?_
      refine xg_t (xg_ald8L (n := 2) (u := 2) xnm0 rfl rfl) ?_
      refine xg_t (xg_icT (u := 2) (v := 2) rfl xnm0 xnm0 (by decide)) ?_
      refine xg_t (xg_blq rfl) ?_
      refine xg_t (xg_iload (va := (0, 2)) rfl rfl) ?_
      refine xg_t (xg_ifT (u := 2) rfl xnm0 (by decide)) ?_
      refine xg_t (xg_blq rfl) ?_
      refine xg_t (xg_iload (va := (0, 2)) rfl rfl) ?_
      refine xg_t (xg_const) ?_
      refine xg_t (xg_icT (u := 2) (v := 4) rfl xnm0 xnm0 (by decide)) ?_
      refine xg_t (xg_blq rfl) ?_
      exact xg_e ⟨w54, ⟨rfl, rfl⟩, xInv.up (S := [29, 30]) hI (((xFr.of (S := [29, 30]) hq37.2 (by decide)).tr (xFr.of (S := [29, 30]) hb50 (by decide))).tr (xFr.of (S := [29, 30]) hb59 (by decide))) (List.forall_mem_cons.mpr ⟨xqu29 (show cp29 (wget w54 29) from ⟨f29_32 + 1, (hb59.get (by decide) (hb50.get (by decide) hq37.1)), by omega⟩), List.forall_mem_cons.mpr ⟨xqu30 (show cpI 24 13 4294967295 (wget w54 30) from ⟨_, hr57, hb58⟩), fun _ h => absurd h List.not_mem_nil⟩⟩), (((xFr.of (S := [29, 30, 31, 32, 33, 34, 35, 36, 37, 38, 41]) hq37.2 (by decide)).tr (xFr.of (S := [29, 30, 31, 32, 33, 34, 35, 36, 37, 38, 41]) hb50 (by decide))).tr (xFr.of (S := [29, 30, 31, 32, 33, 34, 35, 36, 37, 38, 41]) hb59 (by decide)))⟩
  · refine xoC28 (xqc28 hI : cp28 (wget w 28)) (fun f28_60 f28_62 f28_64 f28_66 f28_68 h28_70 hb61 hb63 hb65 hb67 hb69 => ?_)
    refine xg_t (xg_cVr mX1_rowsOf (vs := [(0, 2)]) (rest := []) (rs := [(2, 31)]) (cn1 := 0) (sl1 := 0) rfl (hp20) rfl h28_70 rfl rfl rfl rfl rfl rfl rfl) ?_
    refine xg_t (xg_astore (l1 := [(0, (2, 27)), (1, (0, 2)), (2, (0, pc_))]) rfl rfl rfl) ?_
    refine xg_t (xg_aload (va := (2, 31)) rfl rfl) ?_
    refine xg_t (xg_ifnullF) ?_
    refine xg_t (xg_aload (va := (2, 31)) rfl rfl) ?_
    obtain ⟨f31_71, h31_73, hb72⟩ := (xqc31 hI : cp31 (wget w 31))
    refine xg_t (xg_cVr mX5_isFull (vs := []) (rest := []) (rs := [(0, if 4 ≤ f31_71 then 1 else 0)]) (cn1 := 0) (sl1 := 0) rfl (rfull_ok h31_73 (by decide) (by omega)) rfl h31_73 rfl rfl rfl rfl rfl rfl rfl) ?_
    by_cases hc74 : 4 ≤ f31_71
    · refine xg_t (xg_ifF (u := (if 4 ≤ f31_71 then 1 else 0)) rfl xnm0 (xj_eqF (xite1 hc74))) ?_
      refine xg_t (xg_blq rfl) ?_
      exact xg_e ⟨w, ⟨rfl, rfl⟩, hI, xFr.rf⟩
    · refine xg_t (xg_ifT (u := (if 4 ≤ f31_71 then 1 else 0)) rfl xnm0 (xj_eqT (xite0 hc74))) ?_
      refine xg_t (xg_blq rfl) ?_
      refine xg_t (xg_aload (va := (2, 31)) rfl rfl) ?_
      have hl77 : f31_71 < 4 := by omega
      refine xg_cV mX5_grow (vs := []) (rest := []) (rs := [(0, if f31_71 < 4 then f31_71 else 4294967295)]) (cn1 := 0) (sl1 := 0) rfl (rgrow_ok h31_73 (by decide) (by omega)) rfl h31_73 rfl rfl rfl rfl rfl rfl rfl (fun w75 hq76 => ?_)
      rw [if_pos hl77] at hq76 ⊢
      refine xg_t (xg_istore (l1 := [(3, (2, 31)), (0, (2, 27)), (1, (0, 2)), (2, (0, pc_))]) rfl rfl rfl) ?_
      refine xg_t (xg_const) ?_
      refine xg_t (xg_istore (l1 := [(4, (0, f31_71)), (3, (2, 31)), (0, (2, 27)), (1, (0, 2)), (2, (0, pc_))]) rfl rfl rfl) ?_
      refine xg_t (xg_blq rfl) ?_
      refine xg_t (xg_iload (va := (0, 0)) rfl rfl) ?_
      refine xg_t (xg_gets) ?_
      refine xg_t (xg_iload (va := (0, 2)) rfl rfl) ?_
      refine xg_t (xg_ald8L (n := 2) (u := 2) xnm0 rfl rfl) ?_
      refine xg_t (xg_icF (u := 0) (v := 2) rfl xnm0 xnm0 (by decide)) ?_
      refine xg_t (xg_iload (va := (0, 0)) rfl rfl) ?_
      refine xg_t (xg_const) ?_
      refine xg_t (xg_icF (u := 0) (v := 3) rfl xnm0 xnm0 (by decide)) ?_
      refine xg_t (xg_aload (va := (2, 31)) rfl rfl) ?_
      refine xg_t (xg_iload (va := (0, f31_71)) rfl rfl) ?_
      refine xg_t (xg_iload (va := (0, 0)) rfl rfl) ?_
      refine xg_t (xg_aload (va := (2, 27)) rfl rfl) ?_
      refine xg_t (xg_getf (va := (2, 39)) (hq76.2.get (by decide) h27_11) rfl) ?_
      refine xg_t (xg_iload (va := (0, 0)) rfl rfl) ?_
      refine xg_ialdB (n := 0) (B := 4294967295) (h39_13.but hq76.2 (by decide)) (hb14) xnm0 (by first | decide | omega) (fun u78 hu79 he80 => ?_)
      refine xoI (xqc32 hI : cpI 8 14 4294967295 (wget w 32)) (fun g32_81 h32_82 hb83 => ?_)
      refine xg_cVv mX5_put (vs := [(0, f31_71), (0, 0), (0, u78)]) (rest := []) (cn1 := 0) (sl1 := 0) rfl (rputI (lim := 4) (wd := 2) (B := 4294967295) hq76.1 (h32_82.but hq76.2 (by decide)) (hb83) (by decide) (by omega) (by decide) (by decide) (by omega) (by omega) (by omega)) rfl hq76.1 rfl rfl rfl rfl rfl rfl (fun w84 hq85 => ?_)
      obtain ⟨g86, hr87, hb88, hb89⟩ := hq85
      refine xg_t (xg_iinc (u := 0) (z := 1) (l1 := [(4, (0, f31_71)), (3, (2, 31)), (0, (2, 27)), (1, (0, 2)), (2, (0, pc_))]) rfl rfl (by decide) rfl) ?_
      refine xg_t (xg_goto) ?_
      refine xg_t (xg_blq rfl) ?_
      refine xg_t (xg_iload (va := (0, 1)) rfl rfl) ?_
      refine xg_t (xg_gets) ?_
      refine xg_t (xg_iload (va := (0, 2)) rfl rfl) ?_
      refine xg_t (xg_ald8L (n := 2) (u := 2) xnm0 rfl rfl) ?_
      refine xg_t (xg_icF (u := 1) (v := 2) rfl xnm0 xnm0 (by decide)) ?_
      refine xg_t (xg_iload (va := (0, 1)) rfl rfl) ?_
      refine xg_t (xg_const) ?_
      refine xg_t (xg_icF (u := 1) (v := 3) rfl xnm0 xnm0 (by decide)) ?_
      refine xg_t (xg_aload (va := (2, 31)) rfl rfl) ?_
      refine xg_t (xg_iload (va := (0, f31_71)) rfl rfl) ?_
      refine xg_t (xg_iload (va := (0, 1)) rfl rfl) ?_
      refine xg_t (xg_aload (va := (2, 27)) rfl rfl) ?_
      refine xg_t (xg_getf (va := (2, 39)) (hb89.get (by decide) (hq76.2.get (by decide) h27_11)) rfl) ?_
      refine xg_t (xg_iload (va := (0, 1)) rfl rfl) ?_
      refine xg_ialdB (n := 1) (B := 4294967295) ((h39_13.but hq76.2 (by decide)).but hb89 (by decide)) (hb14) xnm0 (by first | decide | omega) (fun u90 hu91 he92 => ?_)
      refine xg_cVv mX5_put (vs := [(0, f31_71), (0, 1), (0, u90)]) (rest := []) (cn1 := 0) (sl1 := 0) rfl (rputI (lim := 4) (wd := 2) (B := 4294967295) (hb89.get (by decide) hq76.1) hr87 (hb88) (by decide) (by omega) (by decide) (by decide) (by omega) (by omega) (by omega)) rfl (hb89.get (by decide) hq76.1) rfl rfl rfl rfl rfl rfl (fun w93 hq94 => ?_)
      obtain ⟨g95, hr96, hb97, hb98⟩ := hq94
      refine xg_t (xg_iinc (u := 1) (z := 2) (l1 := [(4, (0, f31_71)), (3, (2, 31)), (0, (2, 27)), (1, (0, 2)), (2, (0, pc_))]) rfl rfl (by decide) rfl) ?_
      refine xg_t (xg_goto) ?_
      refine xg_t (xg_blq rfl) ?_
      refine xg_t (xg_iload (va := (0, 2)) rfl rfl) ?_
      refine xg_t (xg_gets) ?_
      refine xg_t (xg_iload (va := (0, 2)) rfl rfl) ?_
      refine xg_t (xg_ald8L (n := 2) (u := 2) xnm0 rfl rfl) ?_
      refine xg_t (xg_icT (u := 2) (v := 2) rfl xnm0 xnm0 (by decide)) ?_
      refine xg_t (xg_blq rfl) ?_
      refine xg_t (xg_iload (va := (0, 2)) rfl rfl) ?_
      refine xg_t (xg_ifT (u := 2) rfl xnm0 (by decide)) ?_
      refine xg_t (xg_blq rfl) ?_
      refine xg_t (xg_iload (va := (0, 2)) rfl rfl) ?_
      refine xg_t (xg_const) ?_
      refine xg_t (xg_icT (u := 2) (v := 4) rfl xnm0 xnm0 (by decide)) ?_
      refine xg_t (xg_blq rfl) ?_
      exact xg_e ⟨w93, ⟨rfl, rfl⟩, xInv.up (S := [31, 32]) hI (((xFr.of (S := [31, 32]) hq76.2 (by decide)).tr (xFr.of (S := [31, 32]) hb89 (by decide))).tr (xFr.of (S := [31, 32]) hb98 (by decide))) (List.forall_mem_cons.mpr ⟨xqu31 (show cp31 (wget w93 31) from ⟨f31_71 + 1, (hb98.get (by decide) (hb89.get (by decide) hq76.1)), by omega⟩), List.forall_mem_cons.mpr ⟨xqu32 (show cpI 8 14 4294967295 (wget w93 32) from ⟨_, hr96, hb97⟩), fun _ h => absurd h List.not_mem_nil⟩⟩), (((xFr.of (S := [29, 30, 31, 32, 33, 34, 35, 36, 37, 38, 41]) hq76.2 (by decide)).tr (xFr.of (S := [29, 30, 31, 32, 33, 34, 35, 36, 37, 38, 41]) hb89 (by decide))).tr (xFr.of (S := [29, 30, 31, 32, 33, 34, 35, 36, 37, 38, 41]) hb98 (by decide)))⟩
  · refine xoC28 (xqc28 hI : cp28 (wget w 28)) (fun f28_99 f28_101 f28_103 f28_105 f28_107 h28_109 hb100 hb102 hb104 hb106 hb108 => ?_)
    refine xg_t (xg_cVr mX1_rowsOf (vs := [(0, 2)]) (rest := []) (rs := [(2, 33)]) (cn1 := 0) (sl1 := 0) rfl (hp20) rfl h28_109 rfl rfl rfl rfl rfl rfl rfl) ?_
    refine xg_t (xg_astore (l1 := [(0, (2, 27)), (1, (0, 2)), (2, (0, pc_))]) rfl rfl rfl) ?_
    refine xg_t (xg_aload (va := (2, 33)) rfl rfl) ?_
    refine xg_t (xg_ifnullF) ?_
    refine xg_t (xg_aload (va := (2, 33)) rfl rfl) ?_
    obtain ⟨f33_110, h33_112, hb111⟩ := (xqc33 hI : cp33 (wget w 33))
    refine xg_t (xg_cVr mX5_isFull (vs := []) (rest := []) (rs := [(0, if 6 ≤ f33_110 then 1 else 0)]) (cn1 := 0) (sl1 := 0) rfl (rfull_ok h33_112 (by decide) (by omega)) rfl h33_112 rfl rfl rfl rfl rfl rfl rfl) ?_
    by_cases hc113 : 6 ≤ f33_110
    · refine xg_t (xg_ifF (u := (if 6 ≤ f33_110 then 1 else 0)) rfl xnm0 (xj_eqF (xite1 hc113))) ?_
      refine xg_t (xg_blq rfl) ?_
      exact xg_e ⟨w, ⟨rfl, rfl⟩, hI, xFr.rf⟩
    · refine xg_t (xg_ifT (u := (if 6 ≤ f33_110 then 1 else 0)) rfl xnm0 (xj_eqT (xite0 hc113))) ?_
      refine xg_t (xg_blq rfl) ?_
      refine xg_t (xg_aload (va := (2, 33)) rfl rfl) ?_
      have hl116 : f33_110 < 6 := by omega
      refine xg_cV mX5_grow (vs := []) (rest := []) (rs := [(0, if f33_110 < 6 then f33_110 else 4294967295)]) (cn1 := 0) (sl1 := 0) rfl (rgrow_ok h33_112 (by decide) (by omega)) rfl h33_112 rfl rfl rfl rfl rfl rfl rfl (fun w114 hq115 => ?_)
      rw [if_pos hl116] at hq115 ⊢
      refine xg_t (xg_istore (l1 := [(3, (2, 33)), (0, (2, 27)), (1, (0, 2)), (2, (0, pc_))]) rfl rfl rfl) ?_
      refine xg_t (xg_const) ?_
      refine xg_t (xg_istore (l1 := [(4, (0, f33_110)), (3, (2, 33)), (0, (2, 27)), (1, (0, 2)), (2, (0, pc_))]) rfl rfl rfl) ?_
      refine xg_t (xg_blq rfl) ?_
      refine xg_t (xg_iload (va := (0, 0)) rfl rfl) ?_
      refine xg_t (xg_gets) ?_
      refine xg_t (xg_iload (va := (0, 2)) rfl rfl) ?_
      refine xg_t (xg_ald8L (n := 2) (u := 2) xnm0 rfl rfl) ?_
      refine xg_t (xg_icF (u := 0) (v := 2) rfl xnm0 xnm0 (by decide)) ?_
      refine xg_t (xg_iload (va := (0, 0)) rfl rfl) ?_
      refine xg_t (xg_const) ?_
      refine xg_t (xg_icF (u := 0) (v := 3) rfl xnm0 xnm0 (by decide)) ?_
      refine xg_t (xg_aload (va := (2, 33)) rfl rfl) ?_
      refine xg_t (xg_iload (va := (0, f33_110)) rfl rfl) ?_
      refine xg_t (xg_iload (va := (0, 0)) rfl rfl) ?_
      refine xg_t (xg_aload (va := (2, 27)) rfl rfl) ?_
      refine xg_t (xg_getf (va := (2, 39)) (hq115.2.get (by decide) h27_11) rfl) ?_
      refine xg_t (xg_iload (va := (0, 0)) rfl rfl) ?_
      refine xg_ialdB (n := 0) (B := 4294967295) (h39_13.but hq115.2 (by decide)) (hb14) xnm0 (by first | decide | omega) (fun u117 hu118 he119 => ?_)
      refine xoI (xqc34 hI : cpI 12 15 4294967295 (wget w 34)) (fun g34_120 h34_121 hb122 => ?_)
      refine xg_cVv mX5_put (vs := [(0, f33_110), (0, 0), (0, u117)]) (rest := []) (cn1 := 0) (sl1 := 0) rfl (rputI (lim := 6) (wd := 2) (B := 4294967295) hq115.1 (h34_121.but hq115.2 (by decide)) (hb122) (by decide) (by omega) (by decide) (by decide) (by omega) (by omega) (by omega)) rfl hq115.1 rfl rfl rfl rfl rfl rfl (fun w123 hq124 => ?_)
      obtain ⟨g125, hr126, hb127, hb128⟩ := hq124
      refine xg_t (xg_iinc (u := 0) (z := 1) (l1 := [(4, (0, f33_110)), (3, (2, 33)), (0, (2, 27)), (1, (0, 2)), (2, (0, pc_))]) rfl rfl (by decide) rfl) ?_
      refine xg_t (xg_goto) ?_
      refine xg_t (xg_blq rfl) ?_
      refine xg_t (xg_iload (va := (0, 1)) rfl rfl) ?_
      refine xg_t (xg_gets) ?_
      refine xg_t (xg_iload (va := (0, 2)) rfl rfl) ?_
      refine xg_t (xg_ald8L (n := 2) (u := 2) xnm0 rfl rfl) ?_
      refine xg_t (xg_icF (u := 1) (v := 2) rfl xnm0 xnm0 (by decide)) ?_
      refine xg_t (xg_iload (va := (0, 1)) rfl rfl) ?_
      refine xg_t (xg_const) ?_
      refine xg_t (xg_icF (u := 1) (v := 3) rfl xnm0 xnm0 (by decide)) ?_
      refine xg_t (xg_aload (va := (2, 33)) rfl rfl) ?_
      refine xg_t (xg_iload (va := (0, f33_110)) rfl rfl) ?_
      refine xg_t (xg_iload (va := (0, 1)) rfl rfl) ?_
      refine xg_t (xg_aload (va := (2, 27)) rfl rfl) ?_
      refine xg_t (xg_getf (va := (2, 39)) (hb128.get (by decide) (hq115.2.get (by decide) h27_11)) rfl) ?_
      refine xg_t (xg_iload (va := (0, 1)) rfl rfl) ?_
      refine xg_ialdB (n := 1) (B := 4294967295) ((h39_13.but hq115.2 (by decide)).but hb128 (by decide)) (hb14) xnm0 (by first | decide | omega) (fun u129 hu130 he131 => ?_)
      refine xg_cVv mX5_put (vs := [(0, f33_110), (0, 1), (0, u129)]) (rest := []) (cn1 := 0) (sl1 := 0) rfl (rputI (lim := 6) (wd := 2) (B := 4294967295) (hb128.get (by decide) hq115.1) hr126 (hb127) (by decide) (by omega) (by decide) (by decide) (by omega) (by omega) (by omega)) rfl (hb128.get (by decide) hq115.1) rfl rfl rfl rfl rfl rfl (fun w132 hq133 => ?_)
      obtain ⟨g134, hr135, hb136, hb137⟩ := hq133
      refine xg_t (xg_iinc (u := 1) (z := 2) (l1 := [(4, (0, f33_110)), (3, (2, 33)), (0, (2, 27)), (1, (0, 2)), (2, (0, pc_))]) rfl rfl (by decide) rfl) ?_
      refine xg_t (xg_goto) ?_
      refine xg_t (xg_blq rfl) ?_
      refine xg_t (xg_iload (va := (0, 2)) rfl rfl) ?_
      refine xg_t (xg_gets) ?_
      refine xg_t (xg_iload (va := (0, 2)) rfl rfl) ?_
      refine xg_t (xg_ald8L (n := 2) (u := 2) xnm0 rfl rfl) ?_
      refine xg_t (xg_icT (u := 2) (v := 2) rfl xnm0 xnm0 (by decide)) ?_
      refine xg_t (xg_blq rfl) ?_
      refine xg_t (xg_iload (va := (0, 2)) rfl rfl) ?_
      refine xg_t (xg_ifT (u := 2) rfl xnm0 (by decide)) ?_
      refine xg_t (xg_blq rfl) ?_
      refine xg_t (xg_iload (va := (0, 2)) rfl rfl) ?_
      refine xg_t (xg_const) ?_
      refine xg_t (xg_icT (u := 2) (v := 4) rfl xnm0 xnm0 (by decide)) ?_
      refine xg_t (xg_blq rfl) ?_
      exact xg_e ⟨w132, ⟨rfl, rfl⟩, xInv.up (S := [33, 34]) hI (((xFr.of (S := [33, 34]) hq115.2 (by decide)).tr (xFr.of (S := [33, 34]) hb128 (by decide))).tr (xFr.of (S := [33, 34]) hb137 (by decide))) (List.forall_mem_cons.mpr ⟨xqu33 (show cp33 (wget w132 33) from ⟨f33_110 + 1, (hb137.get (by decide) (hb128.get (by decide) hq115.1)), by omega⟩), List.forall_mem_cons.mpr ⟨xqu34 (show cpI 12 15 4294967295 (wget w132 34) from ⟨_, hr135, hb136⟩), fun _ h => absurd h List.not_mem_nil⟩⟩), (((xFr.of (S := [29, 30, 31, 32, 33, 34, 35, 36, 37, 38, 41]) hq115.2 (by decide)).tr (xFr.of (S := [29, 30, 31, 32, 33, 34, 35, 36, 37, 38, 41]) hb128 (by decide))).tr (xFr.of (S := [29, 30, 31, 32, 33, 34, 35, 36, 37, 38, 41]) hb137 (by decide)))⟩
  · refine xoC28 (xqc28 hI : cp28 (wget w 28)) (fun f28_138 f28_140 f28_142 f28_144 f28_146 h28_148 hb139 hb141 hb143 hb145 hb147 => ?_)
    refine xg_t (xg_cVr mX1_rowsOf (vs := [(0, 2)]) (rest := []) (rs := [(2, 35)]) (cn1 := 0) (sl1 := 0) rfl (hp20) rfl h28_148 rfl rfl rfl rfl rfl rfl rfl) ?_
    refine xg_t (xg_astore (l1 := [(0, (2, 27)), (1, (0, 2)), (2, (0, pc_))]) rfl rfl rfl) ?_
    refine xg_t (xg_aload (va := (2, 35)) rfl rfl) ?_
    refine xg_t (xg_ifnullF) ?_
    refine xg_t (xg_aload (va := (2, 35)) rfl rfl) ?_
    obtain ⟨f35_149, h35_151, hb150⟩ := (xqc35 hI : cp35 (wget w 35))
    refine xg_t (xg_cVr mX5_isFull (vs := []) (rest := []) (rs := [(0, if 4 ≤ f35_149 then 1 else 0)]) (cn1 := 0) (sl1 := 0) rfl (rfull_ok h35_151 (by decide) (by omega)) rfl h35_151 rfl rfl rfl rfl rfl rfl rfl) ?_
    by_cases hc152 : 4 ≤ f35_149
    · refine xg_t (xg_ifF (u := (if 4 ≤ f35_149 then 1 else 0)) rfl xnm0 (xj_eqF (xite1 hc152))) ?_
      refine xg_t (xg_blq rfl) ?_
      exact xg_e ⟨w, ⟨rfl, rfl⟩, hI, xFr.rf⟩
    · refine xg_t (xg_ifT (u := (if 4 ≤ f35_149 then 1 else 0)) rfl xnm0 (xj_eqT (xite0 hc152))) ?_
      refine xg_t (xg_blq rfl) ?_
      refine xg_t (xg_aload (va := (2, 35)) rfl rfl) ?_
      have hl155 : f35_149 < 4 := by omega
      refine xg_cV mX5_grow (vs := []) (rest := []) (rs := [(0, if f35_149 < 4 then f35_149 else 4294967295)]) (cn1 := 0) (sl1 := 0) rfl (rgrow_ok h35_151 (by decide) (by omega)) rfl h35_151 rfl rfl rfl rfl rfl rfl rfl (fun w153 hq154 => ?_)
      rw [if_pos hl155] at hq154 ⊢
      refine xg_t (xg_istore (l1 := [(3, (2, 35)), (0, (2, 27)), (1, (0, 2)), (2, (0, pc_))]) rfl rfl rfl) ?_
      refine xg_t (xg_const) ?_
      refine xg_t (xg_istore (l1 := [(4, (0, f35_149)), (3, (2, 35)), (0, (2, 27)), (1, (0, 2)), (2, (0, pc_))]) rfl rfl rfl) ?_
      refine xg_t (xg_blq rfl) ?_
      refine xg_t (xg_iload (va := (0, 0)) rfl rfl) ?_
      refine xg_t (xg_gets) ?_
      refine xg_t (xg_iload (va := (0, 2)) rfl rfl) ?_
      refine xg_t (xg_ald8L (n := 2) (u := 2) xnm0 rfl rfl) ?_
      refine xg_t (xg_icF (u := 0) (v := 2) rfl xnm0 xnm0 (by decide)) ?_
      refine xg_t (xg_iload (va := (0, 0)) rfl rfl) ?_
      refine xg_t (xg_const) ?_
      refine xg_t (xg_icF (u := 0) (v := 3) rfl xnm0 xnm0 (by decide)) ?_
      refine xg_t (xg_aload (va := (2, 35)) rfl rfl) ?_
      refine xg_t (xg_iload (va := (0, f35_149)) rfl rfl) ?_
      refine xg_t (xg_iload (va := (0, 0)) rfl rfl) ?_
      refine xg_t (xg_aload (va := (2, 27)) rfl rfl) ?_
      refine xg_t (xg_getf (va := (2, 39)) (hq154.2.get (by decide) h27_11) rfl) ?_
      refine xg_t (xg_iload (va := (0, 0)) rfl rfl) ?_
      refine xg_ialdB (n := 0) (B := 4294967295) (h39_13.but hq154.2 (by decide)) (hb14) xnm0 (by first | decide | omega) (fun u156 hu157 he158 => ?_)
      refine xoI (xqc36 hI : cpI 12 16 4294967295 (wget w 36)) (fun g36_159 h36_160 hb161 => ?_)
      refine xg_cVv mX5_put (vs := [(0, f35_149), (0, 0), (0, u156)]) (rest := []) (cn1 := 0) (sl1 := 0) rfl (rputI (lim := 4) (wd := 3) (B := 4294967295) hq154.1 (h36_160.but hq154.2 (by decide)) (hb161) (by decide) (by omega) (by decide) (by decide) (by omega) (by omega) (by omega)) rfl hq154.1 rfl rfl rfl rfl rfl rfl (fun w162 hq163 => ?_)
      obtain ⟨g164, hr165, hb166, hb167⟩ := hq163
      refine xg_t (xg_iinc (u := 0) (z := 1) (l1 := [(4, (0, f35_149)), (3, (2, 35)), (0, (2, 27)), (1, (0, 2)), (2, (0, pc_))]) rfl rfl (by decide) rfl) ?_
      refine xg_t (xg_goto) ?_
      refine xg_t (xg_blq rfl) ?_
      refine xg_t (xg_iload (va := (0, 1)) rfl rfl) ?_
      refine xg_t (xg_gets) ?_
      refine xg_t (xg_iload (va := (0, 2)) rfl rfl) ?_
      refine xg_t (xg_ald8L (n := 2) (u := 2) xnm0 rfl rfl) ?_
      refine xg_t (xg_icF (u := 1) (v := 2) rfl xnm0 xnm0 (by decide)) ?_
      refine xg_t (xg_iload (va := (0, 1)) rfl rfl) ?_
      refine xg_t (xg_const) ?_
      refine xg_t (xg_icF (u := 1) (v := 3) rfl xnm0 xnm0 (by decide)) ?_
      refine xg_t (xg_aload (va := (2, 35)) rfl rfl) ?_
      refine xg_t (xg_iload (va := (0, f35_149)) rfl rfl) ?_
      refine xg_t (xg_iload (va := (0, 1)) rfl rfl) ?_
      refine xg_t (xg_aload (va := (2, 27)) rfl rfl) ?_
      refine xg_t (xg_getf (va := (2, 39)) (hb167.get (by decide) (hq154.2.get (by decide) h27_11)) rfl) ?_
      refine xg_t (xg_iload (va := (0, 1)) rfl rfl) ?_
      refine xg_ialdB (n := 1) (B := 4294967295) ((h39_13.but hq154.2 (by decide)).but hb167 (by decide)) (hb14) xnm0 (by first | decide | omega) (fun u168 hu169 he170 => ?_)
      refine xg_cVv mX5_put (vs := [(0, f35_149), (0, 1), (0, u168)]) (rest := []) (cn1 := 0) (sl1 := 0) rfl (rputI (lim := 4) (wd := 3) (B := 4294967295) (hb167.get (by decide) hq154.1) hr165 (hb166) (by decide) (by omega) (by decide) (by decide) (by omega) (by omega) (by omega)) rfl (hb167.get (by decide) hq154.1) rfl rfl rfl rfl rfl rfl (fun w171 hq172 => ?_)
      obtain ⟨g173, hr174, hb175, hb176⟩ := hq172
      refine xg_t (xg_iinc (u := 1) (z := 2) (l1 := [(4, (0, f35_149)), (3, (2, 35)), (0, (2, 27)), (1, (0, 2)), (2, (0, pc_))]) rfl rfl (by decide) rfl) ?_
      refine xg_t (xg_goto) ?_
      refine xg_t (xg_blq rfl) ?_
      refine xg_t (xg_iload (va := (0, 2)) rfl rfl) ?_
      refine xg_t (xg_gets) ?_
      refine xg_t (xg_iload (va := (0, 2)) rfl rfl) ?_
      refine xg_t (xg_ald8L (n := 2) (u := 2) xnm0 rfl rfl) ?_
      refine xg_t (xg_icT (u := 2) (v := 2) rfl xnm0 xnm0 (by decide)) ?_
      refine xg_t (xg_blq rfl) ?_
      refine xg_t (xg_iload (va := (0, 2)) rfl rfl) ?_
      refine xg_t (xg_ifT (u := 2) rfl xnm0 (by decide)) ?_
      refine xg_t (xg_blq rfl) ?_
      refine xg_t (xg_iload (va := (0, 2)) rfl rfl) ?_
      refine xg_t (xg_const) ?_
      refine xg_t (xg_icT (u := 2) (v := 4) rfl xnm0 xnm0 (by decide)) ?_
      refine xg_t (xg_blq rfl) ?_
      exact xg_e ⟨w171, ⟨rfl, rfl⟩, xInv.up (S := [35, 36]) hI (((xFr.of (S := [35, 36]) hq154.2 (by decide)).tr (xFr.of (S := [35, 36]) hb167 (by decide))).tr (xFr.of (S := [35, 36]) hb176 (by decide))) (List.forall_mem_cons.mpr ⟨xqu35 (show cp35 (wget w171 35) from ⟨f35_149 + 1, (hb176.get (by decide) (hb167.get (by decide) hq154.1)), by omega⟩), List.forall_mem_cons.mpr ⟨xqu36 (show cpI 12 16 4294967295 (wget w171 36) from ⟨_, hr174, hb175⟩), fun _ h => absurd h List.not_mem_nil⟩⟩), (((xFr.of (S := [29, 30, 31, 32, 33, 34, 35, 36, 37, 38, 41]) hq154.2 (by decide)).tr (xFr.of (S := [29, 30, 31, 32, 33, 34, 35, 36, 37, 38, 41]) hb167 (by decide))).tr (xFr.of (S := [29, 30, 31, 32, 33, 34, 35, 36, 37, 38, 41]) hb176 (by decide)))⟩
  · refine xoC28 (xqc28 hI : cp28 (wget w 28)) (fun f28_177 f28_179 f28_181 f28_183 f28_185 h28_187 hb178 hb180 hb182 hb184 hb186 => ?_)
    refine xg_t (xg_cVr mX1_rowsOf (vs := [(0, 2)]) (rest := []) (rs := [(2, 37)]) (cn1 := 0) (sl1 := 0) rfl (hp20) rfl h28_187 rfl rfl rfl rfl rfl rfl rfl) ?_
    refine xg_t (xg_astore (l1 := [(0, (2, 27)), (1, (0, 2)), (2, (0, pc_))]) rfl rfl rfl) ?_
    refine xg_t (xg_aload (va := (2, 37)) rfl rfl) ?_
    refine xg_t (xg_ifnullF) ?_
    refine xg_t (xg_aload (va := (2, 37)) rfl rfl) ?_
    obtain ⟨f37_188, h37_190, hb189⟩ := (xqc37 hI : cp37 (wget w 37))
    refine xg_t (xg_cVr mX5_isFull (vs := []) (rest := []) (rs := [(0, if 20 ≤ f37_188 then 1 else 0)]) (cn1 := 0) (sl1 := 0) rfl (rfull_ok h37_190 (by decide) (by omega)) rfl h37_190 rfl rfl rfl rfl rfl rfl rfl) ?_
    by_cases hc191 : 20 ≤ f37_188
    · refine xg_t (xg_ifF (u := (if 20 ≤ f37_188 then 1 else 0)) rfl xnm0 (xj_eqF (xite1 hc191))) ?_
      refine xg_t (xg_blq rfl) ?_
      exact xg_e ⟨w, ⟨rfl, rfl⟩, hI, xFr.rf⟩
    · refine xg_t (xg_ifT (u := (if 20 ≤ f37_188 then 1 else 0)) rfl xnm0 (xj_eqT (xite0 hc191))) ?_
      refine xg_t (xg_blq rfl) ?_
      refine xg_t (xg_aload (va := (2, 37)) rfl rfl) ?_
      have hl194 : f37_188 < 20 := by omega
      refine xg_cV mX5_grow (vs := []) (rest := []) (rs := [(0, if f37_188 < 20 then f37_188 else 4294967295)]) (cn1 := 0) (sl1 := 0) rfl (rgrow_ok h37_190 (by decide) (by omega)) rfl h37_190 rfl rfl rfl rfl rfl rfl rfl (fun w192 hq193 => ?_)
      rw [if_pos hl194] at hq193 ⊢
      refine xg_t (xg_istore (l1 := [(3, (2, 37)), (0, (2, 27)), (1, (0, 2)), (2, (0, pc_))]) rfl rfl rfl) ?_
      refine xg_t (xg_const) ?_
      refine xg_t (xg_istore (l1 := [(4, (0, f37_188)), (3, (2, 37)), (0, (2, 27)), (1, (0, 2)), (2, (0, pc_))]) rfl rfl rfl) ?_
      refine xg_t (xg_blq rfl) ?_
      refine xg_t (xg_iload (va := (0, 0)) rfl rfl) ?_
      refine xg_t (xg_gets) ?_
      refine xg_t (xg_iload (va := (0, 2)) rfl rfl) ?_
      refine xg_t (xg_ald8L (n := 2) (u := 2) xnm0 rfl rfl) ?_
      refine xg_t (xg_icF (u := 0) (v := 2) rfl xnm0 xnm0 (by decide)) ?_
      refine xg_t (xg_iload (va := (0, 0)) rfl rfl) ?_
      refine xg_t (xg_const) ?_
      refine xg_t (xg_icF (u := 0) (v := 3) rfl xnm0 xnm0 (by decide)) ?_
      refine xg_t (xg_aload (va := (2, 37)) rfl rfl) ?_
      refine xg_t (xg_iload (va := (0, f37_188)) rfl rfl) ?_
      refine xg_t (xg_iload (va := (0, 0)) rfl rfl) ?_
      refine xg_t (xg_aload (va := (2, 27)) rfl rfl) ?_
      refine xg_t (xg_getf (va := (2, 39)) (hq193.2.get (by decide) h27_11) rfl) ?_
      refine xg_t (xg_iload (va := (0, 0)) rfl rfl) ?_
      refine xg_ialdB (n := 0) (B := 4294967295) (h39_13.but hq193.2 (by decide)) (hb14) xnm0 (by first | decide | omega) (fun u195 hu196 he197 => ?_)
      refine xoI (xqc38 hI : cpI 40 17 4294967295 (wget w 38)) (fun g38_198 h38_199 hb200 => ?_)
      refine xg_cVv mX5_put (vs := [(0, f37_188), (0, 0), (0, u195)]) (rest := []) (cn1 := 0) (sl1 := 0) rfl (rputI (lim := 20) (wd := 2) (B := 4294967295) hq193.1 (h38_199.but hq193.2 (by decide)) (hb200) (by decide) (by omega) (by decide) (by decide) (by omega) (by omega) (by omega)) rfl hq193.1 rfl rfl rfl rfl rfl rfl (fun w201 hq202 => ?_)
      obtain ⟨g203, hr204, hb205, hb206⟩ := hq202
      refine xg_t (xg_iinc (u := 0) (z := 1) (l1 := [(4, (0, f37_188)), (3, (2, 37)), (0, (2, 27)), (1, (0, 2)), (2, (0, pc_))]) rfl rfl (by decide) rfl) ?_
      refine xg_t (xg_goto) ?_
      refine xg_t (xg_blq rfl) ?_
      refine xg_t (xg_iload (va := (0, 1)) rfl rfl) ?_
      refine xg_t (xg_gets) ?_
      refine xg_t (xg_iload (va := (0, 2)) rfl rfl) ?_
      refine xg_t (xg_ald8L (n := 2) (u := 2) xnm0 rfl rfl) ?_
      refine xg_t (xg_icF (u := 1) (v := 2) rfl xnm0 xnm0 (by decide)) ?_
      refine xg_t (xg_iload (va := (0, 1)) rfl rfl) ?_
      refine xg_t (xg_const) ?_
      refine xg_t (xg_icF (u := 1) (v := 3) rfl xnm0 xnm0 (by decide)) ?_
      refine xg_t (xg_aload (va := (2, 37)) rfl rfl) ?_
      refine xg_t (xg_iload (va := (0, f37_188)) rfl rfl) ?_
      refine xg_t (xg_iload (va := (0, 1)) rfl rfl) ?_
      refine xg_t (xg_aload (va := (2, 27)) rfl rfl) ?_
      refine xg_t (xg_getf (va := (2, 39)) (hb206.get (by decide) (hq193.2.get (by decide) h27_11)) rfl) ?_
      refine xg_t (xg_iload (va := (0, 1)) rfl rfl) ?_
      refine xg_ialdB (n := 1) (B := 4294967295) ((h39_13.but hq193.2 (by decide)).but hb206 (by decide)) (hb14) xnm0 (by first | decide | omega) (fun u207 hu208 he209 => ?_)
      refine xg_cVv mX5_put (vs := [(0, f37_188), (0, 1), (0, u207)]) (rest := []) (cn1 := 0) (sl1 := 0) rfl (rputI (lim := 20) (wd := 2) (B := 4294967295) (hb206.get (by decide) hq193.1) hr204 (hb205) (by decide) (by omega) (by decide) (by decide) (by omega) (by omega) (by omega)) rfl (hb206.get (by decide) hq193.1) rfl rfl rfl rfl rfl rfl (fun w210 hq211 => ?_)
      obtain ⟨g212, hr213, hb214, hb215⟩ := hq211
      refine xg_t (xg_iinc (u := 1) (z := 2) (l1 := [(4, (0, f37_188)), (3, (2, 37)), (0, (2, 27)), (1, (0, 2)), (2, (0, pc_))]) rfl rfl (by decide) rfl) ?_
      refine xg_t (xg_goto) ?_
      refine xg_t (xg_blq rfl) ?_
      refine xg_t (xg_iload (va := (0, 2)) rfl rfl) ?_
      refine xg_t (xg_gets) ?_
      refine xg_t (xg_iload (va := (0, 2)) rfl rfl) ?_
      refine xg_t (xg_ald8L (n := 2) (u := 2) xnm0 rfl rfl) ?_
      refine xg_t (xg_icT (u := 2) (v := 2) rfl xnm0 xnm0 (by decide)) ?_
      refine xg_t (xg_blq rfl) ?_
      refine xg_t (xg_iload (va := (0, 2)) rfl rfl) ?_
      refine xg_t (xg_ifT (u := 2) rfl xnm0 (by decide)) ?_
      refine xg_t (xg_blq rfl) ?_
      refine xg_t (xg_iload (va := (0, 2)) rfl rfl) ?_
      refine xg_t (xg_const) ?_
      refine xg_t (xg_icT (u := 2) (v := 4) rfl xnm0 xnm0 (by decide)) ?_
      refine xg_t (xg_blq rfl) ?_
      exact xg_e ⟨w210, ⟨rfl, rfl⟩, xInv.up (S := [37, 38]) hI (((xFr.of (S := [37, 38]) hq193.2 (by decide)).tr (xFr.of (S := [37, 38]) hb206 (by decide))).tr (xFr.of (S := [37, 38]) hb215 (by decide))) (List.forall_mem_cons.mpr ⟨xqu37 (show cp37 (wget w210 37) from ⟨f37_188 + 1, (hb215.get (by decide) (hb206.get (by decide) hq193.1)), by omega⟩), List.forall_mem_cons.mpr ⟨xqu38 (show cpI 40 17 4294967295 (wget w210 38) from ⟨_, hr213, hb214⟩), fun _ h => absurd h List.not_mem_nil⟩⟩), (((xFr.of (S := [29, 30, 31, 32, 33, 34, 35, 36, 37, 38, 41]) hq193.2 (by decide)).tr (xFr.of (S := [29, 30, 31, 32, 33, 34, 35, 36, 37, 38, 41]) hb206 (by decide))).tr (xFr.of (S := [29, 30, 31, 32, 33, 34, 35, 36, 37, 38, 41]) hb215 (by decide)))⟩
  · refine xoC28 (xqc28 hI : cp28 (wget w 28)) (fun f28_216 f28_218 f28_220 f28_222 f28_224 h28_226 hb217 hb219 hb221 hb223 hb225 => ?_)
    refine xg_t (xg_cVr mX1_rowsOf (vs := [(0, 2)]) (rest := []) (rs := [(3, 0)]) (cn1 := 0) (sl1 := 0) rfl (hp20) rfl h28_226 rfl rfl rfl rfl rfl rfl rfl) ?_
    refine xg_t (xg_astore (l1 := [(0, (2, 27)), (1, (0, 2)), (2, (0, pc_))]) rfl rfl rfl) ?_
    refine xg_t (xg_aload (va := (3, 0)) rfl rfl) ?_
    refine xg_t (xg_ifnullT) ?_
    refine xg_t (xg_blq rfl) ?_
    exact xg_e ⟨w, ⟨rfl, rfl⟩, hI, xFr.rf⟩
theorem ftFine3 {pc_ : Nat} (hI : xInv w) (h1 : pc_ ≤ 4294967295) : xPi (d + 3) mX2_isFine [(2, 27), (0, 3), (0, pc_)] w bd fc rr (fun n w' => (n ≤ 1) ∧ xInv w' ∧ xFr [27] w w') := by
  refine xPi.of ?_
  show xTo (d + 3) mX2_isFine (0, [], [(0, (2, 27)), (1, (0, 3)), (2, (0, pc_))], [], (w, bd, fc, 0, 0, rr)) (fun φ => ∃ n w', xEnd 4 [(0, n)] (w', bd, fc, 0, 0, rr) φ ∧ (n ≤ 1) ∧ xInv w' ∧ xFr [27] w w')
  refine xoC27 (xqc27 hI : cp27 (wget w 27)) (fun f27_1 f27_3 f27_5 f27_7 f27_9 h27_11 hb2 hb4 hb6 hb8 hb10 => ?_)
  refine xoI (xqc39 hI : cpI 3 18 4294967295 (wget w 39)) (fun g39_12 h39_13 hb14 => ?_)
  refine xoI (xqc40 hI : cpI 3 19 4294967295 (wget w 40)) (fun g40_15 h40_16 hb17 => ?_)
  refine xg_t (xg_blq rfl) ?_
  refine xg_t (xg_aload (va := (2, 27)) rfl rfl) ?_
  refine xg_t (xg_iload (va := (0, 3)) rfl rfl) ?_
  refine xg_cVi mX2_isTooMany (vs := [(0, 3)]) (rest := []) (cn1 := 0) (sl1 := 0) rfl (ftTooMany (hI) (by omega)) rfl h27_11 rfl rfl rfl rfl rfl rfl (fun n22 w18 hq19 => ?_)
  obtain ⟨hn23, hI20, hF21⟩ := hq19
  by_cases hc24 : n22 = 0
  · refine xg_t (xg_ifT (u := n22) rfl xnm0 (xj_eqT hc24)) ?_
    refine xg_t (xg_blq rfl) ?_
    refine xg_t (xg_iload (va := (0, 3)) rfl rfl) ?_
    refine xg_t (xg_ifF (u := 3) rfl xnm0 (by decide)) ?_
    refine xg_t (xg_iload (va := (0, 3)) rfl rfl) ?_
    refine xg_t (xg_bip) ?_
    refine xg_t (xg_icT (u := 3) (v := 7) rfl xnm0 xnm0 (by decide)) ?_
    refine xg_t (xg_blq rfl) ?_
    refine xg_t (xg_const) ?_
    refine xg_t (xg_istore (l1 := [(0, (2, 27)), (1, (0, 3)), (2, (0, pc_))]) rfl rfl rfl) ?_
    refine xg_t (xg_blq rfl) ?_
    refine xg_t (xg_iload (va := (0, 0)) rfl rfl) ?_
    refine xg_t (xg_gets) ?_
    refine xg_t (xg_iload (va := (0, 3)) rfl rfl) ?_
    refine xg_t (xg_ald8L (n := 3) (u := 3) xnm0 rfl rfl) ?_
    refine xg_t (xg_icF (u := 0) (v := 3) rfl xnm0 xnm0 (by decide)) ?_
    refine xg_t (xg_iload (va := (0, 0)) rfl rfl) ?_
    refine xg_t (xg_const) ?_
    refine xg_t (xg_icF (u := 0) (v := 3) rfl xnm0 xnm0 (by decide)) ?_
    refine xg_t (xg_aload (va := (2, 27)) rfl rfl) ?_
    refine xg_t (xg_getf (va := (2, 39)) (hF21.get (by decide) h27_11) rfl) ?_
    refine xg_t (xg_iload (va := (0, 0)) rfl rfl) ?_
    refine xg_ialdB (n := 0) (B := 4294967295) (h39_13.fr hF21 (by decide)) (hb14) xnm0 (by first | decide | omega) (fun u25 hu26 he27 => ?_)
    refine xg_t (xg_gets) ?_
    refine xg_t (xg_iload (va := (0, 3)) rfl rfl) ?_
    refine xg_t (xg_const) ?_
    refine xg_t (xg_imul (u := 3) (v := 3) (z := 9) xnm0 xnm0 (by decide)) ?_
    refine xg_t (xg_iload (va := (0, 0)) rfl rfl) ?_
    refine xg_t (xg_iadd (u := 9) (v := 0) (z := 9) xnm0 xnm0 (by decide)) ?_
    refine xg_t (xg_ald8L (n := 9) (u := 1) xnm0 rfl rfl) ?_
    refine xg_t (xg_gets) ?_
    refine xg_t (xg_iload (va := (0, 3)) rfl rfl) ?_
    refine xg_t (xg_const) ?_
    refine xg_t (xg_imul (u := 3) (v := 3) (z := 9) xnm0 xnm0 (by decide)) ?_
    refine xg_t (xg_iload (va := (0, 0)) rfl rfl) ?_
    refine xg_t (xg_iadd (u := 9) (v := 0) (z := 9) xnm0 xnm0 (by decide)) ?_
    refine xg_t (xg_ald8L (n := 9) (u := 10) xnm0 rfl rfl) ?_
    refine xg_t (xg_cNr mX11_isIn (vs := [(0, u25), (0, 1), (0, 10)]) (rest := []) (rs := [(0, if 1 ≤ u25 ∧ u25 ≤ 10 then 1 else 0)]) (cn1 := 0) (sl1 := 0) rfl (isIn_ok (by omega) (by omega) (by omega)) rfl rfl rfl rfl rfl rfl rfl rfl) ?_
    by_cases hc28 : 1 ≤ u25 ∧ u25 ≤ 10
    · refine xg_t (xg_ifT (u := (if 1 ≤ u25 ∧ u25 ≤ 10 then 1 else 0)) rfl xnm0 (xj_neT (xite1 hc28))) ?_
      refine xg_t (xg_blq rfl) ?_
      refine xg_t (xg_iinc (u := 0) (z := 1) (l1 := [(0, (2, 27)), (1, (0, 3)), (2, (0, pc_))]) rfl rfl (by decide) rfl) ?_
      refine xg_t (xg_goto) ?_
      refine xg_t (xg_blq rfl) ?_
      refine xg_t (xg_iload (va := (0, 1)) rfl rfl) ?_
      refine xg_t (xg_gets) ?_
      refine xg_t (xg_iload (va := (0, 3)) rfl rfl) ?_
      refine xg_t (xg_ald8L (n := 3) (u := 3) xnm0 rfl rfl) ?_
      refine xg_t (xg_icF (u := 1) (v := 3) rfl xnm0 xnm0 (by decide)) ?_
      refine xg_t (xg_iload (va := (0, 1)) rfl rfl) ?_
      refine xg_t (xg_const) ?_
      refine xg_t (xg_icF (u := 1) (v := 3) rfl xnm0 xnm0 (by decide)) ?_
      refine xg_t (xg_aload (va := (2, 27)) rfl rfl) ?_
      refine xg_t (xg_getf (va := (2, 39)) (hF21.get (by decide) h27_11) rfl) ?_
      refine xg_t (xg_iload (va := (0, 1)) rfl rfl) ?_
      refine xg_ialdB (n := 1) (B := 4294967295) (h39_13.fr hF21 (by decide)) (hb14) xnm0 (by first | decide | omega) (fun u29 hu30 he31 => ?_)
      refine xg_t (xg_gets) ?_
      refine xg_t (xg_iload (va := (0, 3)) rfl rfl) ?_
      refine xg_t (xg_const) ?_
      refine xg_t (xg_imul (u := 3) (v := 3) (z := 9) xnm0 xnm0 (by decide)) ?_
      refine xg_t (xg_iload (va := (0, 1)) rfl rfl) ?_
      refine xg_t (xg_iadd (u := 9) (v := 1) (z := 10) xnm0 xnm0 (by decide)) ?_
      refine xg_t (xg_ald8L (n := 10) (u := 1) xnm0 rfl rfl) ?_
      refine xg_t (xg_gets) ?_
      refine xg_t (xg_iload (va := (0, 3)) rfl rfl) ?_
      refine xg_t (xg_const) ?_
      refine xg_t (xg_imul (u := 3) (v := 3) (z := 9) xnm0 xnm0 (by decide)) ?_
      refine xg_t (xg_iload (va := (0, 1)) rfl rfl) ?_
      refine xg_t (xg_iadd (u := 9) (v := 1) (z := 10) xnm0 xnm0 (by decide)) ?_
      refine xg_t (xg_ald8L (n := 10) (u := 10) xnm0 rfl rfl) ?_
      refine xg_t (xg_cNr mX11_isIn (vs := [(0, u29), (0, 1), (0, 10)]) (rest := []) (rs := [(0, if 1 ≤ u29 ∧ u29 ≤ 10 then 1 else 0)]) (cn1 := 0) (sl1 := 0) rfl (isIn_ok (by omega) (by omega) (by omega)) rfl rfl rfl rfl rfl rfl rfl rfl) ?_
      by_cases hc32 : 1 ≤ u29 ∧ u29 ≤ 10
      · refine xg_t (xg_ifT (u := (if 1 ≤ u29 ∧ u29 ≤ 10 then 1 else 0)) rfl xnm0 (xj_neT (xite1 hc32))) ?_
        refine xg_t (xg_blq rfl) ?_
        refine xg_t (xg_iinc (u := 1) (z := 2) (l1 := [(0, (2, 27)), (1, (0, 3)), (2, (0, pc_))]) rfl rfl (by decide) rfl) ?_
        refine xg_t (xg_goto) ?_
        refine xg_t (xg_blq rfl) ?_
        refine xg_t (xg_iload (va := (0, 2)) rfl rfl) ?_
        refine xg_t (xg_gets) ?_
        refine xg_t (xg_iload (va := (0, 3)) rfl rfl) ?_
        refine xg_t (xg_ald8L (n := 3) (u := 3) xnm0 rfl rfl) ?_
        refine xg_t (xg_icF (u := 2) (v := 3) rfl xnm0 xnm0 (by decide)) ?_
        refine xg_t (xg_iload (va := (0, 2)) rfl rfl) ?_
        refine xg_t (xg_const) ?_
        refine xg_t (xg_icF (u := 2) (v := 3) rfl xnm0 xnm0 (by decide)) ?_
        refine xg_t (xg_aload (va := (2, 27)) rfl rfl) ?_
        refine xg_t (xg_getf (va := (2, 39)) (hF21.get (by decide) h27_11) rfl) ?_
        refine xg_t (xg_iload (va := (0, 2)) rfl rfl) ?_
        refine xg_ialdB (n := 2) (B := 4294967295) (h39_13.fr hF21 (by decide)) (hb14) xnm0 (by first | decide | omega) (fun u33 hu34 he35 => ?_)
        refine xg_t (xg_gets) ?_
        refine xg_t (xg_iload (va := (0, 3)) rfl rfl) ?_
        refine xg_t (xg_const) ?_
        refine xg_t (xg_imul (u := 3) (v := 3) (z := 9) xnm0 xnm0 (by decide)) ?_
        refine xg_t (xg_iload (va := (0, 2)) rfl rfl) ?_
        refine xg_t (xg_iadd (u := 9) (v := 2) (z := 11) xnm0 xnm0 (by decide)) ?_
        refine xg_t (xg_ald8L (n := 11) (u := 1) xnm0 rfl rfl) ?_
        refine xg_t (xg_gets) ?_
        refine xg_t (xg_iload (va := (0, 3)) rfl rfl) ?_
        refine xg_t (xg_const) ?_
        refine xg_t (xg_imul (u := 3) (v := 3) (z := 9) xnm0 xnm0 (by decide)) ?_
        refine xg_t (xg_iload (va := (0, 2)) rfl rfl) ?_
        refine xg_t (xg_iadd (u := 9) (v := 2) (z := 11) xnm0 xnm0 (by decide)) ?_
        refine xg_t (xg_ald8L (n := 11) (u := 999) xnm0 rfl rfl) ?_
        refine xg_t (xg_cNr mX11_isIn (vs := [(0, u33), (0, 1), (0, 999)]) (rest := []) (rs := [(0, if 1 ≤ u33 ∧ u33 ≤ 999 then 1 else 0)]) (cn1 := 0) (sl1 := 0) rfl (isIn_ok (by omega) (by omega) (by omega)) rfl rfl rfl rfl rfl rfl rfl rfl) ?_
        by_cases hc36 : 1 ≤ u33 ∧ u33 ≤ 999
        · refine xg_t (xg_ifT (u := (if 1 ≤ u33 ∧ u33 ≤ 999 then 1 else 0)) rfl xnm0 (xj_neT (xite1 hc36))) ?_
          refine xg_t (xg_blq rfl) ?_
          refine xg_t (xg_iinc (u := 2) (z := 3) (l1 := [(0, (2, 27)), (1, (0, 3)), (2, (0, pc_))]) rfl rfl (by decide) rfl) ?_
          refine xg_t (xg_goto) ?_
          refine xg_t (xg_blq rfl) ?_
          refine xg_t (xg_iload (va := (0, 3)) rfl rfl) ?_
          refine xg_t (xg_gets) ?_
          refine xg_t (xg_iload (va := (0, 3)) rfl rfl) ?_
          refine xg_t (xg_ald8L (n := 3) (u := 3) xnm0 rfl rfl) ?_
          refine xg_t (xg_icT (u := 3) (v := 3) rfl xnm0 xnm0 (by decide)) ?_
          refine xg_t (xg_blq rfl) ?_
          refine xg_t (xg_const) ?_
          exact xg_e ⟨1, w18, ⟨rfl, rfl⟩, by first | decide | omega, hI20, (hF21.up (by decide))⟩
        · refine xg_t (xg_ifF (u := (if 1 ≤ u33 ∧ u33 ≤ 999 then 1 else 0)) rfl xnm0 (xj_neF (xite0 hc36))) ?_
          refine xg_t (xg_aload (va := (2, 27)) rfl rfl) ?_
          refine xg_t (xg_const) ?_
          refine xg_putI (fl1 := [(2, 1), (2, 42), (2, 28), (2, 39), (2, 40), (2, 41), (0, f27_1), (0, f27_3), (0, f27_5), (0, 2), (0, f27_9)]) (hF21.get (by decide) h27_11) rfl rfl rfl (fun w37 hk38 hb39 => ?_)
          refine xg_t (xg_aload (va := (2, 27)) rfl rfl) ?_
          refine xg_t (xg_aload (va := (2, 27)) rfl rfl) ?_
          refine xg_t (xg_getf (va := (2, 40)) hk38 rfl) ?_
          refine xg_t (xg_iload (va := (0, 2)) rfl rfl) ?_
          refine xg_ialdB (n := 2) (B := 4294967295) ((h40_16.fr hF21 (by decide)).but hb39 (by decide)) (hb17) xnm0 (by first | decide | omega) (fun u40 hu41 he42 => ?_)
          refine xg_putI (fl1 := [(2, 1), (2, 42), (2, 28), (2, 39), (2, 40), (2, 41), (0, f27_1), (0, f27_3), (0, f27_5), (0, 2), (0, u40)]) hk38 rfl rfl rfl (fun w43 hk44 hb45 => ?_)
          refine xg_t (xg_const) ?_
          exact xg_e ⟨0, w43, ⟨rfl, rfl⟩, by first | decide | omega, xInv.up (S := [27]) hI20 ((xFr.of (S := [27]) hb39 (by decide)).tr (xFr.of (S := [27]) hb45 (by decide))) (List.forall_mem_cons.mpr ⟨xqu27 (show cp27 (wget w43 27) from xmC27 f27_1 f27_3 f27_5 2 u40 hk44 hb2 hb4 hb6 (by decide) (by omega)), fun _ h => absurd h List.not_mem_nil⟩), ((hF21.up (by decide)).tr ((xFr.of (S := [27]) hb39 (by decide)).tr (xFr.of (S := [27]) hb45 (by decide))))⟩
      · refine xg_t (xg_ifF (u := (if 1 ≤ u29 ∧ u29 ≤ 10 then 1 else 0)) rfl xnm0 (xj_neF (xite0 hc32))) ?_
        refine xg_t (xg_aload (va := (2, 27)) rfl rfl) ?_
        refine xg_t (xg_const) ?_
        refine xg_putI (fl1 := [(2, 1), (2, 42), (2, 28), (2, 39), (2, 40), (2, 41), (0, f27_1), (0, f27_3), (0, f27_5), (0, 2), (0, f27_9)]) (hF21.get (by decide) h27_11) rfl rfl rfl (fun w46 hk47 hb48 => ?_)
        refine xg_t (xg_aload (va := (2, 27)) rfl rfl) ?_
        refine xg_t (xg_aload (va := (2, 27)) rfl rfl) ?_
        refine xg_t (xg_getf (va := (2, 40)) hk47 rfl) ?_
        refine xg_t (xg_iload (va := (0, 1)) rfl rfl) ?_
        refine xg_ialdB (n := 1) (B := 4294967295) ((h40_16.fr hF21 (by decide)).but hb48 (by decide)) (hb17) xnm0 (by first | decide | omega) (fun u49 hu50 he51 => ?_)
        refine xg_putI (fl1 := [(2, 1), (2, 42), (2, 28), (2, 39), (2, 40), (2, 41), (0, f27_1), (0, f27_3), (0, f27_5), (0, 2), (0, u49)]) hk47 rfl rfl rfl (fun w52 hk53 hb54 => ?_)
        refine xg_t (xg_const) ?_
        exact xg_e ⟨0, w52, ⟨rfl, rfl⟩, by first | decide | omega, xInv.up (S := [27]) hI20 ((xFr.of (S := [27]) hb48 (by decide)).tr (xFr.of (S := [27]) hb54 (by decide))) (List.forall_mem_cons.mpr ⟨xqu27 (show cp27 (wget w52 27) from xmC27 f27_1 f27_3 f27_5 2 u49 hk53 hb2 hb4 hb6 (by decide) (by omega)), fun _ h => absurd h List.not_mem_nil⟩), ((hF21.up (by decide)).tr ((xFr.of (S := [27]) hb48 (by decide)).tr (xFr.of (S := [27]) hb54 (by decide))))⟩
    · refine xg_t (xg_ifF (u := (if 1 ≤ u25 ∧ u25 ≤ 10 then 1 else 0)) rfl xnm0 (xj_neF (xite0 hc28))) ?_
      refine xg_t (xg_aload (va := (2, 27)) rfl rfl) ?_
      refine xg_t (xg_const) ?_
      refine xg_putI (fl1 := [(2, 1), (2, 42), (2, 28), (2, 39), (2, 40), (2, 41), (0, f27_1), (0, f27_3), (0, f27_5), (0, 2), (0, f27_9)]) (hF21.get (by decide) h27_11) rfl rfl rfl (fun w55 hk56 hb57 => ?_)
      refine xg_t (xg_aload (va := (2, 27)) rfl rfl) ?_
      refine xg_t (xg_aload (va := (2, 27)) rfl rfl) ?_
      refine xg_t (xg_getf (va := (2, 40)) hk56 rfl) ?_
      refine xg_t (xg_iload (va := (0, 0)) rfl rfl) ?_
      refine xg_ialdB (n := 0) (B := 4294967295) ((h40_16.fr hF21 (by decide)).but hb57 (by decide)) (hb17) xnm0 (by first | decide | omega) (fun u58 hu59 he60 => ?_)
      refine xg_putI (fl1 := [(2, 1), (2, 42), (2, 28), (2, 39), (2, 40), (2, 41), (0, f27_1), (0, f27_3), (0, f27_5), (0, 2), (0, u58)]) hk56 rfl rfl rfl (fun w61 hk62 hb63 => ?_)
      refine xg_t (xg_const) ?_
      exact xg_e ⟨0, w61, ⟨rfl, rfl⟩, by first | decide | omega, xInv.up (S := [27]) hI20 ((xFr.of (S := [27]) hb57 (by decide)).tr (xFr.of (S := [27]) hb63 (by decide))) (List.forall_mem_cons.mpr ⟨xqu27 (show cp27 (wget w61 27) from xmC27 f27_1 f27_3 f27_5 2 u58 hk62 hb2 hb4 hb6 (by decide) (by omega)), fun _ h => absurd h List.not_mem_nil⟩), ((hF21.up (by decide)).tr ((xFr.of (S := [27]) hb57 (by decide)).tr (xFr.of (S := [27]) hb63 (by decide))))⟩
  · refine xg_t (xg_ifF (u := n22) rfl xnm0 (xj_eqF hc24)) ?_
    refine xg_t (xg_aload (va := (2, 27)) rfl rfl) ?_
    refine xg_t (xg_const) ?_
    refine xg_putI (fl1 := [(2, 1), (2, 42), (2, 28), (2, 39), (2, 40), (2, 41), (0, f27_1), (0, f27_3), (0, f27_5), (0, 3), (0, f27_9)]) (hF21.get (by decide) h27_11) rfl rfl rfl (fun w64 hk65 hb66 => ?_)
    refine xg_t (xg_aload (va := (2, 27)) rfl rfl) ?_
    refine xg_t (xg_iload (va := (0, pc_)) rfl rfl) ?_
    refine xg_putI (fl1 := [(2, 1), (2, 42), (2, 28), (2, 39), (2, 40), (2, 41), (0, f27_1), (0, f27_3), (0, f27_5), (0, 3), (0, pc_)]) hk65 rfl rfl rfl (fun w67 hk68 hb69 => ?_)
    refine xg_t (xg_const) ?_
    exact xg_e ⟨0, w67, ⟨rfl, rfl⟩, by first | decide | omega, xInv.up (S := [27]) hI20 ((xFr.of (S := [27]) hb66 (by decide)).tr (xFr.of (S := [27]) hb69 (by decide))) (List.forall_mem_cons.mpr ⟨xqu27 (show cp27 (wget w67 27) from xmC27 f27_1 f27_3 f27_5 3 pc_ hk68 hb2 hb4 hb6 (by decide) (by omega)), fun _ h => absurd h List.not_mem_nil⟩), ((hF21.up (by decide)).tr ((xFr.of (S := [27]) hb66 (by decide)).tr (xFr.of (S := [27]) hb69 (by decide))))⟩
theorem ftTake3 {pc_ : Nat} (hI : xInv w) (h1 : pc_ ≤ 4294967295) : xPq (d + 2) mX2_take [(2, 27), (0, 3), (0, pc_)] w bd fc rr [] (fun w' => xInv w' ∧ xFr [29, 30, 31, 32, 33, 34, 35, 36, 37, 38, 41] w w') := by
  refine xPq.of ?_
  show xTo (d + 2) mX2_take (0, [], [(0, (2, 27)), (1, (0, 3)), (2, (0, pc_))], [], (w, bd, fc, 0, 0, rr)) (fun φ => ∃ w', xEnd 0 [] (w', bd, fc, 0, 0, rr) φ ∧ xInv w' ∧ xFr [29, 30, 31, 32, 33, 34, 35, 36, 37, 38, 41] w w')
  refine xoC27 (xqc27 hI : cp27 (wget w 27)) (fun f27_1 f27_3 f27_5 f27_7 f27_9 h27_11 hb2 hb4 hb6 hb8 hb10 => ?_)
  refine xoI (xqc39 hI : cpI 3 18 4294967295 (wget w 39)) (fun g39_12 h39_13 hb14 => ?_)
  refine xoI (xqc41 hI : cpI 20 20 4294967295 (wget w 41)) (fun g41_15 h41_16 hb17 => ?_)
  refine xg_t (xg_blq rfl) ?_
  refine xg_t (xg_iload (va := (0, 3)) rfl rfl) ?_
  refine xg_t (xg_const) ?_
  refine xg_t (xg_icT (u := 3) (v := 5) rfl xnm0 xnm0 (by decide)) ?_
  refine xg_t (xg_blq rfl) ?_
  refine xg_t (xg_iload (va := (0, 3)) rfl rfl) ?_
  refine xg_t (xg_bip) ?_
  refine xg_t (xg_icT (u := 3) (v := 6) rfl xnm0 xnm0 (by decide)) ?_
  refine xg_t (xg_blq rfl) ?_
  refine xg_t (xg_aload (va := (2, 27)) rfl rfl) ?_
  refine xg_t (xg_getf (va := (2, 28)) h27_11 rfl) ?_
  refine xg_t (xg_iload (va := (0, 3)) rfl rfl) ?_
  obtain ⟨v18, hv19, hp20⟩ := rowsOf28 (d := d + 1) (bd := bd) (fc := fc) (rr := rr) (so := 3) (hI) (by omega)
  rcases hv19 with rfl | rfl | rfl | rfl | rfl | rfl
  · refine xoC28 (xqc28 hI : cp28 (wget w 28)) (fun f28_21 f28_23 f28_25 f28_27 f28_29 h28_31 hb22 hb24 hb26 hb28 hb30 => ?_)
    refine xg_t (xg_cVr mX1_rowsOf (vs := [(0, 3)]) (rest := []) (rs := [(2, 29)]) (cn1 := 0) (sl1 := 0) rfl (hp20) rfl h28_31 rfl rfl rfl rfl rfl rfl rfl) ?_
    refine xg_t (xg_astore (l1 := [(0, (2, 27)), (1, (0, 3)), (2, (0, pc_))]) rfl rfl rfl) ?_
    refine xg_t (xg_aload (va := (2, 29)) rfl rfl) ?_
    refine xg_t (xg_ifnullF) ?_
    refine xg_t (xg_aload (va := (2, 29)) rfl rfl) ?_
    obtain ⟨f29_32, h29_34, hb33⟩ := (xqc29 hI : cp29 (wget w 29))
    refine xg_t (xg_cVr mX5_isFull (vs := []) (rest := []) (rs := [(0, if 6 ≤ f29_32 then 1 else 0)]) (cn1 := 0) (sl1 := 0) rfl (rfull_ok h29_34 (by decide) (by omega)) rfl h29_34 rfl rfl rfl rfl rfl rfl rfl) ?_
    by_cases hc35 : 6 ≤ f29_32
    · refine xg_t (xg_ifF (u := (if 6 ≤ f29_32 then 1 else 0)) rfl xnm0 (xj_eqF (xite1 hc35))) ?_
      refine xg_t (xg_blq rfl) ?_
      exact xg_e ⟨w, ⟨rfl, rfl⟩, hI, xFr.rf⟩
    · refine xg_t (xg_ifT (u := (if 6 ≤ f29_32 then 1 else 0)) rfl xnm0 (xj_eqT (xite0 hc35))) ?_
      refine xg_t (xg_blq rfl) ?_
      refine xg_t (xg_aload (va := (2, 29)) rfl rfl) ?_
      have hl38 : f29_32 < 6 := by omega
      refine xg_cV mX5_grow (vs := []) (rest := []) (rs := [(0, if f29_32 < 6 then f29_32 else 4294967295)]) (cn1 := 0) (sl1 := 0) rfl (rgrow_ok h29_34 (by decide) (by omega)) rfl h29_34 rfl rfl rfl rfl rfl rfl rfl (fun w36 hq37 => ?_)
      rw [if_pos hl38] at hq37 ⊢
      refine xg_t (xg_istore (l1 := [(3, (2, 29)), (0, (2, 27)), (1, (0, 3)), (2, (0, pc_))]) rfl rfl rfl) ?_
      refine xg_t (xg_const) ?_
      refine xg_t (xg_istore (l1 := [(4, (0, f29_32)), (3, (2, 29)), (0, (2, 27)), (1, (0, 3)), (2, (0, pc_))]) rfl rfl rfl) ?_
      refine xg_t (xg_blq rfl) ?_
      refine xg_t (xg_iload (va := (0, 0)) rfl rfl) ?_
      refine xg_t (xg_gets) ?_
      refine xg_t (xg_iload (va := (0, 3)) rfl rfl) ?_
      refine xg_t (xg_ald8L (n := 3) (u := 3) xnm0 rfl rfl) ?_
      refine xg_t (xg_icF (u := 0) (v := 3) rfl xnm0 xnm0 (by decide)) ?_
      refine xg_t (xg_iload (va := (0, 0)) rfl rfl) ?_
      refine xg_t (xg_const) ?_
      refine xg_t (xg_icF (u := 0) (v := 3) rfl xnm0 xnm0 (by decide)) ?_
      refine xg_t (xg_aload (va := (2, 29)) rfl rfl) ?_
      refine xg_t (xg_iload (va := (0, f29_32)) rfl rfl) ?_
      refine xg_t (xg_iload (va := (0, 0)) rfl rfl) ?_
      refine xg_t (xg_aload (va := (2, 27)) rfl rfl) ?_
      refine xg_t (xg_getf (va := (2, 39)) (hq37.2.get (by decide) h27_11) rfl) ?_
      refine xg_t (xg_iload (va := (0, 0)) rfl rfl) ?_
      refine xg_ialdB (n := 0) (B := 4294967295) (h39_13.but hq37.2 (by decide)) (hb14) xnm0 (by first | decide | omega) (fun u39 hu40 he41 => ?_)
      refine xoI (xqc30 hI : cpI 24 13 4294967295 (wget w 30)) (fun g30_42 h30_43 hb44 => ?_)
      refine xg_cVv mX5_put (vs := [(0, f29_32), (0, 0), (0, u39)]) (rest := []) (cn1 := 0) (sl1 := 0) rfl (rputI (lim := 6) (wd := 4) (B := 4294967295) hq37.1 (h30_43.but hq37.2 (by decide)) (hb44) (by decide) (by omega) (by decide) (by decide) (by omega) (by omega) (by omega)) rfl hq37.1 rfl rfl rfl rfl rfl rfl (fun w45 hq46 => ?_)
      obtain ⟨g47, hr48, hb49, hb50⟩ := hq46
      refine xg_t (xg_iinc (u := 0) (z := 1) (l1 := [(4, (0, f29_32)), (3, (2, 29)), (0, (2, 27)), (1, (0, 3)), (2, (0, pc_))]) rfl rfl (by decide) rfl) ?_
      refine xg_t (xg_goto) ?_
      refine xg_t (xg_blq rfl) ?_
      refine xg_t (xg_iload (va := (0, 1)) rfl rfl) ?_
      refine xg_t (xg_gets) ?_
      refine xg_t (xg_iload (va := (0, 3)) rfl rfl) ?_
      refine xg_t (xg_ald8L (n := 3) (u := 3) xnm0 rfl rfl) ?_
      refine xg_t (xg_icF (u := 1) (v := 3) rfl xnm0 xnm0 (by decide)) ?_
      refine xg_t (xg_iload (va := (0, 1)) rfl rfl) ?_
      refine xg_t (xg_const) ?_
      refine xg_t (xg_icF (u := 1) (v := 3) rfl xnm0 xnm0 (by decide)) ?_
      refine xg_t (xg_aload (va := (2, 29)) rfl rfl) ?_
      refine xg_t (xg_iload (va := (0, f29_32)) rfl rfl) ?_
      refine xg_t (xg_iload (va := (0, 1)) rfl rfl) ?_
      refine xg_t (xg_aload (va := (2, 27)) rfl rfl) ?_
      refine xg_t (xg_getf (va := (2, 39)) (hb50.get (by decide) (hq37.2.get (by decide) h27_11)) rfl) ?_
      refine xg_t (xg_iload (va := (0, 1)) rfl rfl) ?_
      refine xg_ialdB (n := 1) (B := 4294967295) ((h39_13.but hq37.2 (by decide)).but hb50 (by decide)) (hb14) xnm0 (by first | decide | omega) (fun u51 hu52 he53 => ?_)
      refine xg_cVv mX5_put (vs := [(0, f29_32), (0, 1), (0, u51)]) (rest := []) (cn1 := 0) (sl1 := 0) rfl (rputI (lim := 6) (wd := 4) (B := 4294967295) (hb50.get (by decide) hq37.1) hr48 (hb49) (by decide) (by omega) (by decide) (by decide) (by omega) (by omega) (by omega)) rfl (hb50.get (by decide) hq37.1) rfl rfl rfl rfl rfl rfl (fun w54 hq55 => ?_)
      obtain ⟨g56, hr57, hb58, hb59⟩ := hq55
      refine xg_t (xg_iinc (u := 1) (z := 2) (l1 := [(4, (0, f29_32)), (3, (2, 29)), (0, (2, 27)), (1, (0, 3)), (2, (0, pc_))]) rfl rfl (by decide) rfl) ?_
      refine xg_t (xg_goto) ?_
      refine xg_t (xg_blq rfl) ?_
      refine xg_t (xg_iload (va := (0, 2)) rfl rfl) ?_
      refine xg_t (xg_gets) ?_
      refine xg_t (xg_iload (va := (0, 3)) rfl rfl) ?_
      refine xg_t (xg_ald8L (n := 3) (u := 3) xnm0 rfl rfl) ?_
      refine xg_t (xg_icF (u := 2) (v := 3) rfl xnm0 xnm0 (by decide)) ?_
      refine xg_t (xg_iload (va := (0, 2)) rfl rfl) ?_
      refine xg_t (xg_const) ?_
      refine xg_t (xg_icF (u := 2) (v := 3) rfl xnm0 xnm0 (by decide)) ?_
      refine xg_t (xg_aload (va := (2, 29)) rfl rfl) ?_
      refine xg_t (xg_iload (va := (0, f29_32)) rfl rfl) ?_
      refine xg_t (xg_iload (va := (0, 2)) rfl rfl) ?_
      refine xg_t (xg_aload (va := (2, 27)) rfl rfl) ?_
      refine xg_t (xg_getf (va := (2, 39)) (hb59.get (by decide) (hb50.get (by decide) (hq37.2.get (by decide) h27_11))) rfl) ?_
      refine xg_t (xg_iload (va := (0, 2)) rfl rfl) ?_
      refine xg_ialdB (n := 2) (B := 4294967295) (((h39_13.but hq37.2 (by decide)).but hb50 (by decide)).but hb59 (by decide)) (hb14) xnm0 (by first | decide | omega) (fun u60 hu61 he62 => ?_)
      refine xg_cVv mX5_put (vs := [(0, f29_32), (0, 2), (0, u60)]) (rest := []) (cn1 := 0) (sl1 := 0) rfl (rputI (lim := 6) (wd := 4) (B := 4294967295) (hb59.get (by decide) (hb50.get (by decide) hq37.1)) hr57 (hb58) (by decide) (by omega) (by decide) (by decide) (by omega) (by omega) (by omega)) rfl (hb59.get (by decide) (hb50.get (by decide) hq37.1)) rfl rfl rfl rfl rfl rfl (fun w63 hq64 => ?_)
      obtain ⟨g65, hr66, hb67, hb68⟩ := hq64
      refine xg_t (xg_iinc (u := 2) (z := 3) (l1 := [(4, (0, f29_32)), (3, (2, 29)), (0, (2, 27)), (1, (0, 3)), (2, (0, pc_))]) rfl rfl (by decide) rfl) ?_
      refine xg_t (xg_goto) ?_
      refine xg_t (xg_blq rfl) ?_
      refine xg_t (xg_iload (va := (0, 3)) rfl rfl) ?_
      refine xg_t (xg_gets) ?_
      refine xg_t (xg_iload (va := (0, 3)) rfl rfl) ?_
      refine xg_t (xg_ald8L (n := 3) (u := 3) xnm0 rfl rfl) ?_
      refine xg_t (xg_icT (u := 3) (v := 3) rfl xnm0 xnm0 (by decide)) ?_
      refine xg_t (xg_blq rfl) ?_
      refine xg_t (xg_iload (va := (0, 3)) rfl rfl) ?_
      refine xg_t (xg_ifT (u := 3) rfl xnm0 (by decide)) ?_
      refine xg_t (xg_blq rfl) ?_
      refine xg_t (xg_iload (va := (0, 3)) rfl rfl) ?_
      refine xg_t (xg_const) ?_
      refine xg_t (xg_icT (u := 3) (v := 4) rfl xnm0 xnm0 (by decide)) ?_
      refine xg_t (xg_blq rfl) ?_
      exact xg_e ⟨w63, ⟨rfl, rfl⟩, xInv.up (S := [29, 30]) hI ((((xFr.of (S := [29, 30]) hq37.2 (by decide)).tr (xFr.of (S := [29, 30]) hb50 (by decide))).tr (xFr.of (S := [29, 30]) hb59 (by decide))).tr (xFr.of (S := [29, 30]) hb68 (by decide))) (List.forall_mem_cons.mpr ⟨xqu29 (show cp29 (wget w63 29) from ⟨f29_32 + 1, (hb68.get (by decide) (hb59.get (by decide) (hb50.get (by decide) hq37.1))), by omega⟩), List.forall_mem_cons.mpr ⟨xqu30 (show cpI 24 13 4294967295 (wget w63 30) from ⟨_, hr66, hb67⟩), fun _ h => absurd h List.not_mem_nil⟩⟩), ((((xFr.of (S := [29, 30, 31, 32, 33, 34, 35, 36, 37, 38, 41]) hq37.2 (by decide)).tr (xFr.of (S := [29, 30, 31, 32, 33, 34, 35, 36, 37, 38, 41]) hb50 (by decide))).tr (xFr.of (S := [29, 30, 31, 32, 33, 34, 35, 36, 37, 38, 41]) hb59 (by decide))).tr (xFr.of (S := [29, 30, 31, 32, 33, 34, 35, 36, 37, 38, 41]) hb68 (by decide)))⟩
  · refine xoC28 (xqc28 hI : cp28 (wget w 28)) (fun f28_69 f28_71 f28_73 f28_75 f28_77 h28_79 hb70 hb72 hb74 hb76 hb78 => ?_)
    refine xg_t (xg_cVr mX1_rowsOf (vs := [(0, 3)]) (rest := []) (rs := [(2, 31)]) (cn1 := 0) (sl1 := 0) rfl (hp20) rfl h28_79 rfl rfl rfl rfl rfl rfl rfl) ?_
    refine xg_t (xg_astore (l1 := [(0, (2, 27)), (1, (0, 3)), (2, (0, pc_))]) rfl rfl rfl) ?_
    refine xg_t (xg_aload (va := (2, 31)) rfl rfl) ?_
    refine xg_t (xg_ifnullF) ?_
    refine xg_t (xg_aload (va := (2, 31)) rfl rfl) ?_
    obtain ⟨f31_80, h31_82, hb81⟩ := (xqc31 hI : cp31 (wget w 31))
    refine xg_t (xg_cVr mX5_isFull (vs := []) (rest := []) (rs := [(0, if 4 ≤ f31_80 then 1 else 0)]) (cn1 := 0) (sl1 := 0) rfl (rfull_ok h31_82 (by decide) (by omega)) rfl h31_82 rfl rfl rfl rfl rfl rfl rfl) ?_
    by_cases hc83 : 4 ≤ f31_80
    · refine xg_t (xg_ifF (u := (if 4 ≤ f31_80 then 1 else 0)) rfl xnm0 (xj_eqF (xite1 hc83))) ?_
      refine xg_t (xg_blq rfl) ?_
      exact xg_e ⟨w, ⟨rfl, rfl⟩, hI, xFr.rf⟩
    · refine xg_t (xg_ifT (u := (if 4 ≤ f31_80 then 1 else 0)) rfl xnm0 (xj_eqT (xite0 hc83))) ?_
      refine xg_t (xg_blq rfl) ?_
      refine xg_t (xg_aload (va := (2, 31)) rfl rfl) ?_
      have hl86 : f31_80 < 4 := by omega
      refine xg_cV mX5_grow (vs := []) (rest := []) (rs := [(0, if f31_80 < 4 then f31_80 else 4294967295)]) (cn1 := 0) (sl1 := 0) rfl (rgrow_ok h31_82 (by decide) (by omega)) rfl h31_82 rfl rfl rfl rfl rfl rfl rfl (fun w84 hq85 => ?_)
      rw [if_pos hl86] at hq85 ⊢
      refine xg_t (xg_istore (l1 := [(3, (2, 31)), (0, (2, 27)), (1, (0, 3)), (2, (0, pc_))]) rfl rfl rfl) ?_
      refine xg_t (xg_const) ?_
      refine xg_t (xg_istore (l1 := [(4, (0, f31_80)), (3, (2, 31)), (0, (2, 27)), (1, (0, 3)), (2, (0, pc_))]) rfl rfl rfl) ?_
      refine xg_t (xg_blq rfl) ?_
      refine xg_t (xg_iload (va := (0, 0)) rfl rfl) ?_
      refine xg_t (xg_gets) ?_
      refine xg_t (xg_iload (va := (0, 3)) rfl rfl) ?_
      refine xg_t (xg_ald8L (n := 3) (u := 3) xnm0 rfl rfl) ?_
      refine xg_t (xg_icF (u := 0) (v := 3) rfl xnm0 xnm0 (by decide)) ?_
      refine xg_t (xg_iload (va := (0, 0)) rfl rfl) ?_
      refine xg_t (xg_const) ?_
      refine xg_t (xg_icF (u := 0) (v := 3) rfl xnm0 xnm0 (by decide)) ?_
      refine xg_t (xg_aload (va := (2, 31)) rfl rfl) ?_
      refine xg_t (xg_iload (va := (0, f31_80)) rfl rfl) ?_
      refine xg_t (xg_iload (va := (0, 0)) rfl rfl) ?_
      refine xg_t (xg_aload (va := (2, 27)) rfl rfl) ?_
      refine xg_t (xg_getf (va := (2, 39)) (hq85.2.get (by decide) h27_11) rfl) ?_
      refine xg_t (xg_iload (va := (0, 0)) rfl rfl) ?_
      refine xg_ialdB (n := 0) (B := 4294967295) (h39_13.but hq85.2 (by decide)) (hb14) xnm0 (by first | decide | omega) (fun u87 hu88 he89 => ?_)
      refine xoI (xqc32 hI : cpI 8 14 4294967295 (wget w 32)) (fun g32_90 h32_91 hb92 => ?_)
      refine xg_cVv mX5_put (vs := [(0, f31_80), (0, 0), (0, u87)]) (rest := []) (cn1 := 0) (sl1 := 0) rfl (rputI (lim := 4) (wd := 2) (B := 4294967295) hq85.1 (h32_91.but hq85.2 (by decide)) (hb92) (by decide) (by omega) (by decide) (by decide) (by omega) (by omega) (by omega)) rfl hq85.1 rfl rfl rfl rfl rfl rfl (fun w93 hq94 => ?_)
      obtain ⟨g95, hr96, hb97, hb98⟩ := hq94
      refine xg_t (xg_iinc (u := 0) (z := 1) (l1 := [(4, (0, f31_80)), (3, (2, 31)), (0, (2, 27)), (1, (0, 3)), (2, (0, pc_))]) rfl rfl (by decide) rfl) ?_
      refine xg_t (xg_goto) ?_
      refine xg_t (xg_blq rfl) ?_
      refine xg_t (xg_iload (va := (0, 1)) rfl rfl) ?_
      refine xg_t (xg_gets) ?_
      refine xg_t (xg_iload (va := (0, 3)) rfl rfl) ?_
      refine xg_t (xg_ald8L (n := 3) (u := 3) xnm0 rfl rfl) ?_
      refine xg_t (xg_icF (u := 1) (v := 3) rfl xnm0 xnm0 (by decide)) ?_
      refine xg_t (xg_iload (va := (0, 1)) rfl rfl) ?_
      refine xg_t (xg_const) ?_
      refine xg_t (xg_icF (u := 1) (v := 3) rfl xnm0 xnm0 (by decide)) ?_
      refine xg_t (xg_aload (va := (2, 31)) rfl rfl) ?_
      refine xg_t (xg_iload (va := (0, f31_80)) rfl rfl) ?_
      refine xg_t (xg_iload (va := (0, 1)) rfl rfl) ?_
      refine xg_t (xg_aload (va := (2, 27)) rfl rfl) ?_
      refine xg_t (xg_getf (va := (2, 39)) (hb98.get (by decide) (hq85.2.get (by decide) h27_11)) rfl) ?_
      refine xg_t (xg_iload (va := (0, 1)) rfl rfl) ?_
      refine xg_ialdB (n := 1) (B := 4294967295) ((h39_13.but hq85.2 (by decide)).but hb98 (by decide)) (hb14) xnm0 (by first | decide | omega) (fun u99 hu100 he101 => ?_)
      refine xg_cVv mX5_put (vs := [(0, f31_80), (0, 1), (0, u99)]) (rest := []) (cn1 := 0) (sl1 := 0) rfl (rputI (lim := 4) (wd := 2) (B := 4294967295) (hb98.get (by decide) hq85.1) hr96 (hb97) (by decide) (by omega) (by decide) (by decide) (by omega) (by omega) (by omega)) rfl (hb98.get (by decide) hq85.1) rfl rfl rfl rfl rfl rfl (fun w102 hq103 => ?_)
      obtain ⟨g104, hr105, hb106, hb107⟩ := hq103
      refine xg_t (xg_iinc (u := 1) (z := 2) (l1 := [(4, (0, f31_80)), (3, (2, 31)), (0, (2, 27)), (1, (0, 3)), (2, (0, pc_))]) rfl rfl (by decide) rfl) ?_
      refine xg_t (xg_goto) ?_
      refine xg_t (xg_blq rfl) ?_
      refine xg_t (xg_iload (va := (0, 2)) rfl rfl) ?_
      refine xg_t (xg_gets) ?_
      refine xg_t (xg_iload (va := (0, 3)) rfl rfl) ?_
      refine xg_t (xg_ald8L (n := 3) (u := 3) xnm0 rfl rfl) ?_
      refine xg_t (xg_icF (u := 2) (v := 3) rfl xnm0 xnm0 (by decide)) ?_
      refine xg_t (xg_iload (va := (0, 2)) rfl rfl) ?_
      refine xg_t (xg_const) ?_
      refine xg_t (xg_icF (u := 2) (v := 3) rfl xnm0 xnm0 (by decide)) ?_
      refine xg_t (xg_aload (va := (2, 31)) rfl rfl) ?_
      refine xg_t (xg_iload (va := (0, f31_80)) rfl rfl) ?_
      refine xg_t (xg_iload (va := (0, 2)) rfl rfl) ?_
      refine xg_t (xg_aload (va := (2, 27)) rfl rfl) ?_
      refine xg_t (xg_getf (va := (2, 39)) (hb107.get (by decide) (hb98.get (by decide) (hq85.2.get (by decide) h27_11))) rfl) ?_
      refine xg_t (xg_iload (va := (0, 2)) rfl rfl) ?_
      refine xg_ialdB (n := 2) (B := 4294967295) (((h39_13.but hq85.2 (by decide)).but hb98 (by decide)).but hb107 (by decide)) (hb14) xnm0 (by first | decide | omega) (fun u108 hu109 he110 => ?_)
      refine xg_cVv mX5_put (vs := [(0, f31_80), (0, 2), (0, u108)]) (rest := []) (cn1 := 0) (sl1 := 0) rfl (rputI (lim := 4) (wd := 2) (B := 4294967295) (hb107.get (by decide) (hb98.get (by decide) hq85.1)) hr105 (hb106) (by decide) (by omega) (by decide) (by decide) (by omega) (by omega) (by omega)) rfl (hb107.get (by decide) (hb98.get (by decide) hq85.1)) rfl rfl rfl rfl rfl rfl (fun w111 hq112 => ?_)
      obtain ⟨g113, hr114, hb115, hb116⟩ := hq112
      refine xg_t (xg_iinc (u := 2) (z := 3) (l1 := [(4, (0, f31_80)), (3, (2, 31)), (0, (2, 27)), (1, (0, 3)), (2, (0, pc_))]) rfl rfl (by decide) rfl) ?_
      refine xg_t (xg_goto) ?_
      refine xg_t (xg_blq rfl) ?_
      refine xg_t (xg_iload (va := (0, 3)) rfl rfl) ?_
      refine xg_t (xg_gets) ?_
      refine xg_t (xg_iload (va := (0, 3)) rfl rfl) ?_
      refine xg_t (xg_ald8L (n := 3) (u := 3) xnm0 rfl rfl) ?_
      refine xg_t (xg_icT (u := 3) (v := 3) rfl xnm0 xnm0 (by decide)) ?_
      refine xg_t (xg_blq rfl) ?_
      refine xg_t (xg_iload (va := (0, 3)) rfl rfl) ?_
      refine xg_t (xg_ifT (u := 3) rfl xnm0 (by decide)) ?_
      refine xg_t (xg_blq rfl) ?_
      refine xg_t (xg_iload (va := (0, 3)) rfl rfl) ?_
      refine xg_t (xg_const) ?_
      refine xg_t (xg_icT (u := 3) (v := 4) rfl xnm0 xnm0 (by decide)) ?_
      refine xg_t (xg_blq rfl) ?_
      exact xg_e ⟨w111, ⟨rfl, rfl⟩, xInv.up (S := [31, 32]) hI ((((xFr.of (S := [31, 32]) hq85.2 (by decide)).tr (xFr.of (S := [31, 32]) hb98 (by decide))).tr (xFr.of (S := [31, 32]) hb107 (by decide))).tr (xFr.of (S := [31, 32]) hb116 (by decide))) (List.forall_mem_cons.mpr ⟨xqu31 (show cp31 (wget w111 31) from ⟨f31_80 + 1, (hb116.get (by decide) (hb107.get (by decide) (hb98.get (by decide) hq85.1))), by omega⟩), List.forall_mem_cons.mpr ⟨xqu32 (show cpI 8 14 4294967295 (wget w111 32) from ⟨_, hr114, hb115⟩), fun _ h => absurd h List.not_mem_nil⟩⟩), ((((xFr.of (S := [29, 30, 31, 32, 33, 34, 35, 36, 37, 38, 41]) hq85.2 (by decide)).tr (xFr.of (S := [29, 30, 31, 32, 33, 34, 35, 36, 37, 38, 41]) hb98 (by decide))).tr (xFr.of (S := [29, 30, 31, 32, 33, 34, 35, 36, 37, 38, 41]) hb107 (by decide))).tr (xFr.of (S := [29, 30, 31, 32, 33, 34, 35, 36, 37, 38, 41]) hb116 (by decide)))⟩
  · refine xoC28 (xqc28 hI : cp28 (wget w 28)) (fun f28_117 f28_119 f28_121 f28_123 f28_125 h28_127 hb118 hb120 hb122 hb124 hb126 => ?_)
    refine xg_t (xg_cVr mX1_rowsOf (vs := [(0, 3)]) (rest := []) (rs := [(2, 33)]) (cn1 := 0) (sl1 := 0) rfl (hp20) rfl h28_127 rfl rfl rfl rfl rfl rfl rfl) ?_
    refine xg_t (xg_astore (l1 := [(0, (2, 27)), (1, (0, 3)), (2, (0, pc_))]) rfl rfl rfl) ?_
    refine xg_t (xg_aload (va := (2, 33)) rfl rfl) ?_
    refine xg_t (xg_ifnullF) ?_
    refine xg_t (xg_aload (va := (2, 33)) rfl rfl) ?_
    obtain ⟨f33_128, h33_130, hb129⟩ := (xqc33 hI : cp33 (wget w 33))
    refine xg_t (xg_cVr mX5_isFull (vs := []) (rest := []) (rs := [(0, if 6 ≤ f33_128 then 1 else 0)]) (cn1 := 0) (sl1 := 0) rfl (rfull_ok h33_130 (by decide) (by omega)) rfl h33_130 rfl rfl rfl rfl rfl rfl rfl) ?_
    by_cases hc131 : 6 ≤ f33_128
    · refine xg_t (xg_ifF (u := (if 6 ≤ f33_128 then 1 else 0)) rfl xnm0 (xj_eqF (xite1 hc131))) ?_
      refine xg_t (xg_blq rfl) ?_
      exact xg_e ⟨w, ⟨rfl, rfl⟩, hI, xFr.rf⟩
    · refine xg_t (xg_ifT (u := (if 6 ≤ f33_128 then 1 else 0)) rfl xnm0 (xj_eqT (xite0 hc131))) ?_
      refine xg_t (xg_blq rfl) ?_
      refine xg_t (xg_aload (va := (2, 33)) rfl rfl) ?_
      have hl134 : f33_128 < 6 := by omega
      refine xg_cV mX5_grow (vs := []) (rest := []) (rs := [(0, if f33_128 < 6 then f33_128 else 4294967295)]) (cn1 := 0) (sl1 := 0) rfl (rgrow_ok h33_130 (by decide) (by omega)) rfl h33_130 rfl rfl rfl rfl rfl rfl rfl (fun w132 hq133 => ?_)
      rw [if_pos hl134] at hq133 ⊢
      refine xg_t (xg_istore (l1 := [(3, (2, 33)), (0, (2, 27)), (1, (0, 3)), (2, (0, pc_))]) rfl rfl rfl) ?_
      refine xg_t (xg_const) ?_
      refine xg_t (xg_istore (l1 := [(4, (0, f33_128)), (3, (2, 33)), (0, (2, 27)), (1, (0, 3)), (2, (0, pc_))]) rfl rfl rfl) ?_
      refine xg_t (xg_blq rfl) ?_
      refine xg_t (xg_iload (va := (0, 0)) rfl rfl) ?_
      refine xg_t (xg_gets) ?_
      refine xg_t (xg_iload (va := (0, 3)) rfl rfl) ?_
      refine xg_t (xg_ald8L (n := 3) (u := 3) xnm0 rfl rfl) ?_
      refine xg_t (xg_icF (u := 0) (v := 3) rfl xnm0 xnm0 (by decide)) ?_
      refine xg_t (xg_iload (va := (0, 0)) rfl rfl) ?_
      refine xg_t (xg_const) ?_
      refine xg_t (xg_icF (u := 0) (v := 3) rfl xnm0 xnm0 (by decide)) ?_
      refine xg_t (xg_aload (va := (2, 33)) rfl rfl) ?_
      refine xg_t (xg_iload (va := (0, f33_128)) rfl rfl) ?_
      refine xg_t (xg_iload (va := (0, 0)) rfl rfl) ?_
      refine xg_t (xg_aload (va := (2, 27)) rfl rfl) ?_
      refine xg_t (xg_getf (va := (2, 39)) (hq133.2.get (by decide) h27_11) rfl) ?_
      refine xg_t (xg_iload (va := (0, 0)) rfl rfl) ?_
      refine xg_ialdB (n := 0) (B := 4294967295) (h39_13.but hq133.2 (by decide)) (hb14) xnm0 (by first | decide | omega) (fun u135 hu136 he137 => ?_)
      refine xoI (xqc34 hI : cpI 12 15 4294967295 (wget w 34)) (fun g34_138 h34_139 hb140 => ?_)
      refine xg_cVv mX5_put (vs := [(0, f33_128), (0, 0), (0, u135)]) (rest := []) (cn1 := 0) (sl1 := 0) rfl (rputI (lim := 6) (wd := 2) (B := 4294967295) hq133.1 (h34_139.but hq133.2 (by decide)) (hb140) (by decide) (by omega) (by decide) (by decide) (by omega) (by omega) (by omega)) rfl hq133.1 rfl rfl rfl rfl rfl rfl (fun w141 hq142 => ?_)
      obtain ⟨g143, hr144, hb145, hb146⟩ := hq142
      refine xg_t (xg_iinc (u := 0) (z := 1) (l1 := [(4, (0, f33_128)), (3, (2, 33)), (0, (2, 27)), (1, (0, 3)), (2, (0, pc_))]) rfl rfl (by decide) rfl) ?_
      refine xg_t (xg_goto) ?_
      refine xg_t (xg_blq rfl) ?_
      refine xg_t (xg_iload (va := (0, 1)) rfl rfl) ?_
      refine xg_t (xg_gets) ?_
      refine xg_t (xg_iload (va := (0, 3)) rfl rfl) ?_
      refine xg_t (xg_ald8L (n := 3) (u := 3) xnm0 rfl rfl) ?_
      refine xg_t (xg_icF (u := 1) (v := 3) rfl xnm0 xnm0 (by decide)) ?_
      refine xg_t (xg_iload (va := (0, 1)) rfl rfl) ?_
      refine xg_t (xg_const) ?_
      refine xg_t (xg_icF (u := 1) (v := 3) rfl xnm0 xnm0 (by decide)) ?_
      refine xg_t (xg_aload (va := (2, 33)) rfl rfl) ?_
      refine xg_t (xg_iload (va := (0, f33_128)) rfl rfl) ?_
      refine xg_t (xg_iload (va := (0, 1)) rfl rfl) ?_
      refine xg_t (xg_aload (va := (2, 27)) rfl rfl) ?_
      refine xg_t (xg_getf (va := (2, 39)) (hb146.get (by decide) (hq133.2.get (by decide) h27_11)) rfl) ?_
      refine xg_t (xg_iload (va := (0, 1)) rfl rfl) ?_
      refine xg_ialdB (n := 1) (B := 4294967295) ((h39_13.but hq133.2 (by decide)).but hb146 (by decide)) (hb14) xnm0 (by first | decide | omega) (fun u147 hu148 he149 => ?_)
      refine xg_cVv mX5_put (vs := [(0, f33_128), (0, 1), (0, u147)]) (rest := []) (cn1 := 0) (sl1 := 0) rfl (rputI (lim := 6) (wd := 2) (B := 4294967295) (hb146.get (by decide) hq133.1) hr144 (hb145) (by decide) (by omega) (by decide) (by decide) (by omega) (by omega) (by omega)) rfl (hb146.get (by decide) hq133.1) rfl rfl rfl rfl rfl rfl (fun w150 hq151 => ?_)
      obtain ⟨g152, hr153, hb154, hb155⟩ := hq151
      refine xg_t (xg_iinc (u := 1) (z := 2) (l1 := [(4, (0, f33_128)), (3, (2, 33)), (0, (2, 27)), (1, (0, 3)), (2, (0, pc_))]) rfl rfl (by decide) rfl) ?_
      refine xg_t (xg_goto) ?_
      refine xg_t (xg_blq rfl) ?_
      refine xg_t (xg_iload (va := (0, 2)) rfl rfl) ?_
      refine xg_t (xg_gets) ?_
      refine xg_t (xg_iload (va := (0, 3)) rfl rfl) ?_
      refine xg_t (xg_ald8L (n := 3) (u := 3) xnm0 rfl rfl) ?_
      refine xg_t (xg_icF (u := 2) (v := 3) rfl xnm0 xnm0 (by decide)) ?_
      refine xg_t (xg_iload (va := (0, 2)) rfl rfl) ?_
      refine xg_t (xg_const) ?_
      refine xg_t (xg_icF (u := 2) (v := 3) rfl xnm0 xnm0 (by decide)) ?_
      refine xg_t (xg_aload (va := (2, 33)) rfl rfl) ?_
      refine xg_t (xg_iload (va := (0, f33_128)) rfl rfl) ?_
      refine xg_t (xg_iload (va := (0, 2)) rfl rfl) ?_
      refine xg_t (xg_aload (va := (2, 27)) rfl rfl) ?_
      refine xg_t (xg_getf (va := (2, 39)) (hb155.get (by decide) (hb146.get (by decide) (hq133.2.get (by decide) h27_11))) rfl) ?_
      refine xg_t (xg_iload (va := (0, 2)) rfl rfl) ?_
      refine xg_ialdB (n := 2) (B := 4294967295) (((h39_13.but hq133.2 (by decide)).but hb146 (by decide)).but hb155 (by decide)) (hb14) xnm0 (by first | decide | omega) (fun u156 hu157 he158 => ?_)
      refine xg_cVv mX5_put (vs := [(0, f33_128), (0, 2), (0, u156)]) (rest := []) (cn1 := 0) (sl1 := 0) rfl (rputI (lim := 6) (wd := 2) (B := 4294967295) (hb155.get (by decide) (hb146.get (by decide) hq133.1)) hr153 (hb154) (by decide) (by omega) (by decide) (by decide) (by omega) (by omega) (by omega)) rfl (hb155.get (by decide) (hb146.get (by decide) hq133.1)) rfl rfl rfl rfl rfl rfl (fun w159 hq160 => ?_)
      obtain ⟨g161, hr162, hb163, hb164⟩ := hq160
      refine xg_t (xg_iinc (u := 2) (z := 3) (l1 := [(4, (0, f33_128)), (3, (2, 33)), (0, (2, 27)), (1, (0, 3)), (2, (0, pc_))]) rfl rfl (by decide) rfl) ?_
      refine xg_t (xg_goto) ?_
      refine xg_t (xg_blq rfl) ?_
      refine xg_t (xg_iload (va := (0, 3)) rfl rfl) ?_
      refine xg_t (xg_gets) ?_
      refine xg_t (xg_iload (va := (0, 3)) rfl rfl) ?_
      refine xg_t (xg_ald8L (n := 3) (u := 3) xnm0 rfl rfl) ?_
      refine xg_t (xg_icT (u := 3) (v := 3) rfl xnm0 xnm0 (by decide)) ?_
      refine xg_t (xg_blq rfl) ?_
      refine xg_t (xg_iload (va := (0, 3)) rfl rfl) ?_
      refine xg_t (xg_ifT (u := 3) rfl xnm0 (by decide)) ?_
      refine xg_t (xg_blq rfl) ?_
      refine xg_t (xg_iload (va := (0, 3)) rfl rfl) ?_
      refine xg_t (xg_const) ?_
      refine xg_t (xg_icT (u := 3) (v := 4) rfl xnm0 xnm0 (by decide)) ?_
      refine xg_t (xg_blq rfl) ?_
      exact xg_e ⟨w159, ⟨rfl, rfl⟩, xInv.up (S := [33, 34]) hI ((((xFr.of (S := [33, 34]) hq133.2 (by decide)).tr (xFr.of (S := [33, 34]) hb146 (by decide))).tr (xFr.of (S := [33, 34]) hb155 (by decide))).tr (xFr.of (S := [33, 34]) hb164 (by decide))) (List.forall_mem_cons.mpr ⟨xqu33 (show cp33 (wget w159 33) from ⟨f33_128 + 1, (hb164.get (by decide) (hb155.get (by decide) (hb146.get (by decide) hq133.1))), by omega⟩), List.forall_mem_cons.mpr ⟨xqu34 (show cpI 12 15 4294967295 (wget w159 34) from ⟨_, hr162, hb163⟩), fun _ h => absurd h List.not_mem_nil⟩⟩), ((((xFr.of (S := [29, 30, 31, 32, 33, 34, 35, 36, 37, 38, 41]) hq133.2 (by decide)).tr (xFr.of (S := [29, 30, 31, 32, 33, 34, 35, 36, 37, 38, 41]) hb146 (by decide))).tr (xFr.of (S := [29, 30, 31, 32, 33, 34, 35, 36, 37, 38, 41]) hb155 (by decide))).tr (xFr.of (S := [29, 30, 31, 32, 33, 34, 35, 36, 37, 38, 41]) hb164 (by decide)))⟩
  · refine xoC28 (xqc28 hI : cp28 (wget w 28)) (fun f28_165 f28_167 f28_169 f28_171 f28_173 h28_175 hb166 hb168 hb170 hb172 hb174 => ?_)
    refine xg_t (xg_cVr mX1_rowsOf (vs := [(0, 3)]) (rest := []) (rs := [(2, 35)]) (cn1 := 0) (sl1 := 0) rfl (hp20) rfl h28_175 rfl rfl rfl rfl rfl rfl rfl) ?_
    refine xg_t (xg_astore (l1 := [(0, (2, 27)), (1, (0, 3)), (2, (0, pc_))]) rfl rfl rfl) ?_
    refine xg_t (xg_aload (va := (2, 35)) rfl rfl) ?_
    refine xg_t (xg_ifnullF) ?_
    refine xg_t (xg_aload (va := (2, 35)) rfl rfl) ?_
    obtain ⟨f35_176, h35_178, hb177⟩ := (xqc35 hI : cp35 (wget w 35))
    refine xg_t (xg_cVr mX5_isFull (vs := []) (rest := []) (rs := [(0, if 4 ≤ f35_176 then 1 else 0)]) (cn1 := 0) (sl1 := 0) rfl (rfull_ok h35_178 (by decide) (by omega)) rfl h35_178 rfl rfl rfl rfl rfl rfl rfl) ?_
    by_cases hc179 : 4 ≤ f35_176
    · refine xg_t (xg_ifF (u := (if 4 ≤ f35_176 then 1 else 0)) rfl xnm0 (xj_eqF (xite1 hc179))) ?_
      refine xg_t (xg_blq rfl) ?_
      exact xg_e ⟨w, ⟨rfl, rfl⟩, hI, xFr.rf⟩
    · refine xg_t (xg_ifT (u := (if 4 ≤ f35_176 then 1 else 0)) rfl xnm0 (xj_eqT (xite0 hc179))) ?_
      refine xg_t (xg_blq rfl) ?_
      refine xg_t (xg_aload (va := (2, 35)) rfl rfl) ?_
      have hl182 : f35_176 < 4 := by omega
      refine xg_cV mX5_grow (vs := []) (rest := []) (rs := [(0, if f35_176 < 4 then f35_176 else 4294967295)]) (cn1 := 0) (sl1 := 0) rfl (rgrow_ok h35_178 (by decide) (by omega)) rfl h35_178 rfl rfl rfl rfl rfl rfl rfl (fun w180 hq181 => ?_)
      rw [if_pos hl182] at hq181 ⊢
      refine xg_t (xg_istore (l1 := [(3, (2, 35)), (0, (2, 27)), (1, (0, 3)), (2, (0, pc_))]) rfl rfl rfl) ?_
      refine xg_t (xg_const) ?_
      refine xg_t (xg_istore (l1 := [(4, (0, f35_176)), (3, (2, 35)), (0, (2, 27)), (1, (0, 3)), (2, (0, pc_))]) rfl rfl rfl) ?_
      refine xg_t (xg_blq rfl) ?_
      refine xg_t (xg_iload (va := (0, 0)) rfl rfl) ?_
      refine xg_t (xg_gets) ?_
      refine xg_t (xg_iload (va := (0, 3)) rfl rfl) ?_
      refine xg_t (xg_ald8L (n := 3) (u := 3) xnm0 rfl rfl) ?_
      refine xg_t (xg_icF (u := 0) (v := 3) rfl xnm0 xnm0 (by decide)) ?_
      refine xg_t (xg_iload (va := (0, 0)) rfl rfl) ?_
      refine xg_t (xg_const) ?_
      refine xg_t (xg_icF (u := 0) (v := 3) rfl xnm0 xnm0 (by decide)) ?_
      refine xg_t (xg_aload (va := (2, 35)) rfl rfl) ?_
      refine xg_t (xg_iload (va := (0, f35_176)) rfl rfl) ?_
      refine xg_t (xg_iload (va := (0, 0)) rfl rfl) ?_
      refine xg_t (xg_aload (va := (2, 27)) rfl rfl) ?_
      refine xg_t (xg_getf (va := (2, 39)) (hq181.2.get (by decide) h27_11) rfl) ?_
      refine xg_t (xg_iload (va := (0, 0)) rfl rfl) ?_
      refine xg_ialdB (n := 0) (B := 4294967295) (h39_13.but hq181.2 (by decide)) (hb14) xnm0 (by first | decide | omega) (fun u183 hu184 he185 => ?_)
      refine xoI (xqc36 hI : cpI 12 16 4294967295 (wget w 36)) (fun g36_186 h36_187 hb188 => ?_)
      refine xg_cVv mX5_put (vs := [(0, f35_176), (0, 0), (0, u183)]) (rest := []) (cn1 := 0) (sl1 := 0) rfl (rputI (lim := 4) (wd := 3) (B := 4294967295) hq181.1 (h36_187.but hq181.2 (by decide)) (hb188) (by decide) (by omega) (by decide) (by decide) (by omega) (by omega) (by omega)) rfl hq181.1 rfl rfl rfl rfl rfl rfl (fun w189 hq190 => ?_)
      obtain ⟨g191, hr192, hb193, hb194⟩ := hq190
      refine xg_t (xg_iinc (u := 0) (z := 1) (l1 := [(4, (0, f35_176)), (3, (2, 35)), (0, (2, 27)), (1, (0, 3)), (2, (0, pc_))]) rfl rfl (by decide) rfl) ?_
      refine xg_t (xg_goto) ?_
      refine xg_t (xg_blq rfl) ?_
      refine xg_t (xg_iload (va := (0, 1)) rfl rfl) ?_
      refine xg_t (xg_gets) ?_
      refine xg_t (xg_iload (va := (0, 3)) rfl rfl) ?_
      refine xg_t (xg_ald8L (n := 3) (u := 3) xnm0 rfl rfl) ?_
      refine xg_t (xg_icF (u := 1) (v := 3) rfl xnm0 xnm0 (by decide)) ?_
      refine xg_t (xg_iload (va := (0, 1)) rfl rfl) ?_
      refine xg_t (xg_const) ?_
      refine xg_t (xg_icF (u := 1) (v := 3) rfl xnm0 xnm0 (by decide)) ?_
      refine xg_t (xg_aload (va := (2, 35)) rfl rfl) ?_
      refine xg_t (xg_iload (va := (0, f35_176)) rfl rfl) ?_
      refine xg_t (xg_iload (va := (0, 1)) rfl rfl) ?_
      refine xg_t (xg_aload (va := (2, 27)) rfl rfl) ?_
      refine xg_t (xg_getf (va := (2, 39)) (hb194.get (by decide) (hq181.2.get (by decide) h27_11)) rfl) ?_
      refine xg_t (xg_iload (va := (0, 1)) rfl rfl) ?_
      refine xg_ialdB (n := 1) (B := 4294967295) ((h39_13.but hq181.2 (by decide)).but hb194 (by decide)) (hb14) xnm0 (by first | decide | omega) (fun u195 hu196 he197 => ?_)
      refine xg_cVv mX5_put (vs := [(0, f35_176), (0, 1), (0, u195)]) (rest := []) (cn1 := 0) (sl1 := 0) rfl (rputI (lim := 4) (wd := 3) (B := 4294967295) (hb194.get (by decide) hq181.1) hr192 (hb193) (by decide) (by omega) (by decide) (by decide) (by omega) (by omega) (by omega)) rfl (hb194.get (by decide) hq181.1) rfl rfl rfl rfl rfl rfl (fun w198 hq199 => ?_)
      obtain ⟨g200, hr201, hb202, hb203⟩ := hq199
      refine xg_t (xg_iinc (u := 1) (z := 2) (l1 := [(4, (0, f35_176)), (3, (2, 35)), (0, (2, 27)), (1, (0, 3)), (2, (0, pc_))]) rfl rfl (by decide) rfl) ?_
      refine xg_t (xg_goto) ?_
      refine xg_t (xg_blq rfl) ?_
      refine xg_t (xg_iload (va := (0, 2)) rfl rfl) ?_
      refine xg_t (xg_gets) ?_
      refine xg_t (xg_iload (va := (0, 3)) rfl rfl) ?_
      refine xg_t (xg_ald8L (n := 3) (u := 3) xnm0 rfl rfl) ?_
      refine xg_t (xg_icF (u := 2) (v := 3) rfl xnm0 xnm0 (by decide)) ?_
      refine xg_t (xg_iload (va := (0, 2)) rfl rfl) ?_
      refine xg_t (xg_const) ?_
      refine xg_t (xg_icF (u := 2) (v := 3) rfl xnm0 xnm0 (by decide)) ?_
      refine xg_t (xg_aload (va := (2, 35)) rfl rfl) ?_
      refine xg_t (xg_iload (va := (0, f35_176)) rfl rfl) ?_
      refine xg_t (xg_iload (va := (0, 2)) rfl rfl) ?_
      refine xg_t (xg_aload (va := (2, 27)) rfl rfl) ?_
      refine xg_t (xg_getf (va := (2, 39)) (hb203.get (by decide) (hb194.get (by decide) (hq181.2.get (by decide) h27_11))) rfl) ?_
      refine xg_t (xg_iload (va := (0, 2)) rfl rfl) ?_
      refine xg_ialdB (n := 2) (B := 4294967295) (((h39_13.but hq181.2 (by decide)).but hb194 (by decide)).but hb203 (by decide)) (hb14) xnm0 (by first | decide | omega) (fun u204 hu205 he206 => ?_)
      refine xg_cVv mX5_put (vs := [(0, f35_176), (0, 2), (0, u204)]) (rest := []) (cn1 := 0) (sl1 := 0) rfl (rputI (lim := 4) (wd := 3) (B := 4294967295) (hb203.get (by decide) (hb194.get (by decide) hq181.1)) hr201 (hb202) (by decide) (by omega) (by decide) (by decide) (by omega) (by omega) (by omega)) rfl (hb203.get (by decide) (hb194.get (by decide) hq181.1)) rfl rfl rfl rfl rfl rfl (fun w207 hq208 => ?_)
      obtain ⟨g209, hr210, hb211, hb212⟩ := hq208
      refine xg_t (xg_iinc (u := 2) (z := 3) (l1 := [(4, (0, f35_176)), (3, (2, 35)), (0, (2, 27)), (1, (0, 3)), (2, (0, pc_))]) rfl rfl (by decide) rfl) ?_
      refine xg_t (xg_goto) ?_
      refine xg_t (xg_blq rfl) ?_
      refine xg_t (xg_iload (va := (0, 3)) rfl rfl) ?_
      refine xg_t (xg_gets) ?_
      refine xg_t (xg_iload (va := (0, 3)) rfl rfl) ?_
      refine xg_t (xg_ald8L (n := 3) (u := 3) xnm0 rfl rfl) ?_
      refine xg_t (xg_icT (u := 3) (v := 3) rfl xnm0 xnm0 (by decide)) ?_
      refine xg_t (xg_blq rfl) ?_
      refine xg_t (xg_iload (va := (0, 3)) rfl rfl) ?_
      refine xg_t (xg_ifT (u := 3) rfl xnm0 (by decide)) ?_
      refine xg_t (xg_blq rfl) ?_
      refine xg_t (xg_iload (va := (0, 3)) rfl rfl) ?_
      refine xg_t (xg_const) ?_
      refine xg_t (xg_icT (u := 3) (v := 4) rfl xnm0 xnm0 (by decide)) ?_
      refine xg_t (xg_blq rfl) ?_
      exact xg_e ⟨w207, ⟨rfl, rfl⟩, xInv.up (S := [35, 36]) hI ((((xFr.of (S := [35, 36]) hq181.2 (by decide)).tr (xFr.of (S := [35, 36]) hb194 (by decide))).tr (xFr.of (S := [35, 36]) hb203 (by decide))).tr (xFr.of (S := [35, 36]) hb212 (by decide))) (List.forall_mem_cons.mpr ⟨xqu35 (show cp35 (wget w207 35) from ⟨f35_176 + 1, (hb212.get (by decide) (hb203.get (by decide) (hb194.get (by decide) hq181.1))), by omega⟩), List.forall_mem_cons.mpr ⟨xqu36 (show cpI 12 16 4294967295 (wget w207 36) from ⟨_, hr210, hb211⟩), fun _ h => absurd h List.not_mem_nil⟩⟩), ((((xFr.of (S := [29, 30, 31, 32, 33, 34, 35, 36, 37, 38, 41]) hq181.2 (by decide)).tr (xFr.of (S := [29, 30, 31, 32, 33, 34, 35, 36, 37, 38, 41]) hb194 (by decide))).tr (xFr.of (S := [29, 30, 31, 32, 33, 34, 35, 36, 37, 38, 41]) hb203 (by decide))).tr (xFr.of (S := [29, 30, 31, 32, 33, 34, 35, 36, 37, 38, 41]) hb212 (by decide)))⟩
  · refine xoC28 (xqc28 hI : cp28 (wget w 28)) (fun f28_213 f28_215 f28_217 f28_219 f28_221 h28_223 hb214 hb216 hb218 hb220 hb222 => ?_)
    refine xg_t (xg_cVr mX1_rowsOf (vs := [(0, 3)]) (rest := []) (rs := [(2, 37)]) (cn1 := 0) (sl1 := 0) rfl (hp20) rfl h28_223 rfl rfl rfl rfl rfl rfl rfl) ?_
    refine xg_t (xg_astore (l1 := [(0, (2, 27)), (1, (0, 3)), (2, (0, pc_))]) rfl rfl rfl) ?_
    refine xg_t (xg_aload (va := (2, 37)) rfl rfl) ?_
    refine xg_t (xg_ifnullF) ?_
    refine xg_t (xg_aload (va := (2, 37)) rfl rfl) ?_
    obtain ⟨f37_224, h37_226, hb225⟩ := (xqc37 hI : cp37 (wget w 37))
    refine xg_t (xg_cVr mX5_isFull (vs := []) (rest := []) (rs := [(0, if 20 ≤ f37_224 then 1 else 0)]) (cn1 := 0) (sl1 := 0) rfl (rfull_ok h37_226 (by decide) (by omega)) rfl h37_226 rfl rfl rfl rfl rfl rfl rfl) ?_
    by_cases hc227 : 20 ≤ f37_224
    · refine xg_t (xg_ifF (u := (if 20 ≤ f37_224 then 1 else 0)) rfl xnm0 (xj_eqF (xite1 hc227))) ?_
      refine xg_t (xg_blq rfl) ?_
      exact xg_e ⟨w, ⟨rfl, rfl⟩, hI, xFr.rf⟩
    · refine xg_t (xg_ifT (u := (if 20 ≤ f37_224 then 1 else 0)) rfl xnm0 (xj_eqT (xite0 hc227))) ?_
      refine xg_t (xg_blq rfl) ?_
      refine xg_t (xg_aload (va := (2, 37)) rfl rfl) ?_
      have hl230 : f37_224 < 20 := by omega
      refine xg_cV mX5_grow (vs := []) (rest := []) (rs := [(0, if f37_224 < 20 then f37_224 else 4294967295)]) (cn1 := 0) (sl1 := 0) rfl (rgrow_ok h37_226 (by decide) (by omega)) rfl h37_226 rfl rfl rfl rfl rfl rfl rfl (fun w228 hq229 => ?_)
      rw [if_pos hl230] at hq229 ⊢
      refine xg_t (xg_istore (l1 := [(3, (2, 37)), (0, (2, 27)), (1, (0, 3)), (2, (0, pc_))]) rfl rfl rfl) ?_
      refine xg_t (xg_const) ?_
      refine xg_t (xg_istore (l1 := [(4, (0, f37_224)), (3, (2, 37)), (0, (2, 27)), (1, (0, 3)), (2, (0, pc_))]) rfl rfl rfl) ?_
      refine xg_t (xg_blq rfl) ?_
      refine xg_t (xg_iload (va := (0, 0)) rfl rfl) ?_
      refine xg_t (xg_gets) ?_
      refine xg_t (xg_iload (va := (0, 3)) rfl rfl) ?_
      refine xg_t (xg_ald8L (n := 3) (u := 3) xnm0 rfl rfl) ?_
      refine xg_t (xg_icF (u := 0) (v := 3) rfl xnm0 xnm0 (by decide)) ?_
      refine xg_t (xg_iload (va := (0, 0)) rfl rfl) ?_
      refine xg_t (xg_const) ?_
      refine xg_t (xg_icF (u := 0) (v := 3) rfl xnm0 xnm0 (by decide)) ?_
      refine xg_t (xg_aload (va := (2, 37)) rfl rfl) ?_
      refine xg_t (xg_iload (va := (0, f37_224)) rfl rfl) ?_
      refine xg_t (xg_iload (va := (0, 0)) rfl rfl) ?_
      refine xg_t (xg_aload (va := (2, 27)) rfl rfl) ?_
      refine xg_t (xg_getf (va := (2, 39)) (hq229.2.get (by decide) h27_11) rfl) ?_
      refine xg_t (xg_iload (va := (0, 0)) rfl rfl) ?_
      refine xg_ialdB (n := 0) (B := 4294967295) (h39_13.but hq229.2 (by decide)) (hb14) xnm0 (by first | decide | omega) (fun u231 hu232 he233 => ?_)
      refine xoI (xqc38 hI : cpI 40 17 4294967295 (wget w 38)) (fun g38_234 h38_235 hb236 => ?_)
      refine xg_cVv mX5_put (vs := [(0, f37_224), (0, 0), (0, u231)]) (rest := []) (cn1 := 0) (sl1 := 0) rfl (rputI (lim := 20) (wd := 2) (B := 4294967295) hq229.1 (h38_235.but hq229.2 (by decide)) (hb236) (by decide) (by omega) (by decide) (by decide) (by omega) (by omega) (by omega)) rfl hq229.1 rfl rfl rfl rfl rfl rfl (fun w237 hq238 => ?_)
      obtain ⟨g239, hr240, hb241, hb242⟩ := hq238
      refine xg_t (xg_iinc (u := 0) (z := 1) (l1 := [(4, (0, f37_224)), (3, (2, 37)), (0, (2, 27)), (1, (0, 3)), (2, (0, pc_))]) rfl rfl (by decide) rfl) ?_
      refine xg_t (xg_goto) ?_
      refine xg_t (xg_blq rfl) ?_
      refine xg_t (xg_iload (va := (0, 1)) rfl rfl) ?_
      refine xg_t (xg_gets) ?_
      refine xg_t (xg_iload (va := (0, 3)) rfl rfl) ?_
      refine xg_t (xg_ald8L (n := 3) (u := 3) xnm0 rfl rfl) ?_
      refine xg_t (xg_icF (u := 1) (v := 3) rfl xnm0 xnm0 (by decide)) ?_
      refine xg_t (xg_iload (va := (0, 1)) rfl rfl) ?_
      refine xg_t (xg_const) ?_
      refine xg_t (xg_icF (u := 1) (v := 3) rfl xnm0 xnm0 (by decide)) ?_
      refine xg_t (xg_aload (va := (2, 37)) rfl rfl) ?_
      refine xg_t (xg_iload (va := (0, f37_224)) rfl rfl) ?_
      refine xg_t (xg_iload (va := (0, 1)) rfl rfl) ?_
      refine xg_t (xg_aload (va := (2, 27)) rfl rfl) ?_
      refine xg_t (xg_getf (va := (2, 39)) (hb242.get (by decide) (hq229.2.get (by decide) h27_11)) rfl) ?_
      refine xg_t (xg_iload (va := (0, 1)) rfl rfl) ?_
      refine xg_ialdB (n := 1) (B := 4294967295) ((h39_13.but hq229.2 (by decide)).but hb242 (by decide)) (hb14) xnm0 (by first | decide | omega) (fun u243 hu244 he245 => ?_)
      refine xg_cVv mX5_put (vs := [(0, f37_224), (0, 1), (0, u243)]) (rest := []) (cn1 := 0) (sl1 := 0) rfl (rputI (lim := 20) (wd := 2) (B := 4294967295) (hb242.get (by decide) hq229.1) hr240 (hb241) (by decide) (by omega) (by decide) (by decide) (by omega) (by omega) (by omega)) rfl (hb242.get (by decide) hq229.1) rfl rfl rfl rfl rfl rfl (fun w246 hq247 => ?_)
      obtain ⟨g248, hr249, hb250, hb251⟩ := hq247
      refine xg_t (xg_iinc (u := 1) (z := 2) (l1 := [(4, (0, f37_224)), (3, (2, 37)), (0, (2, 27)), (1, (0, 3)), (2, (0, pc_))]) rfl rfl (by decide) rfl) ?_
      refine xg_t (xg_goto) ?_
      refine xg_t (xg_blq rfl) ?_
      refine xg_t (xg_iload (va := (0, 2)) rfl rfl) ?_
      refine xg_t (xg_gets) ?_
      refine xg_t (xg_iload (va := (0, 3)) rfl rfl) ?_
      refine xg_t (xg_ald8L (n := 3) (u := 3) xnm0 rfl rfl) ?_
      refine xg_t (xg_icF (u := 2) (v := 3) rfl xnm0 xnm0 (by decide)) ?_
      refine xg_t (xg_iload (va := (0, 2)) rfl rfl) ?_
      refine xg_t (xg_const) ?_
      refine xg_t (xg_icF (u := 2) (v := 3) rfl xnm0 xnm0 (by decide)) ?_
      refine xg_t (xg_aload (va := (2, 37)) rfl rfl) ?_
      refine xg_t (xg_iload (va := (0, f37_224)) rfl rfl) ?_
      refine xg_t (xg_iload (va := (0, 2)) rfl rfl) ?_
      refine xg_t (xg_aload (va := (2, 27)) rfl rfl) ?_
      refine xg_t (xg_getf (va := (2, 39)) (hb251.get (by decide) (hb242.get (by decide) (hq229.2.get (by decide) h27_11))) rfl) ?_
      refine xg_t (xg_iload (va := (0, 2)) rfl rfl) ?_
      refine xg_ialdB (n := 2) (B := 4294967295) (((h39_13.but hq229.2 (by decide)).but hb242 (by decide)).but hb251 (by decide)) (hb14) xnm0 (by first | decide | omega) (fun u252 hu253 he254 => ?_)
      refine xg_cVv mX5_put (vs := [(0, f37_224), (0, 2), (0, u252)]) (rest := []) (cn1 := 0) (sl1 := 0) rfl (rputI (lim := 20) (wd := 2) (B := 4294967295) (hb251.get (by decide) (hb242.get (by decide) hq229.1)) hr249 (hb250) (by decide) (by omega) (by decide) (by decide) (by omega) (by omega) (by omega)) rfl (hb251.get (by decide) (hb242.get (by decide) hq229.1)) rfl rfl rfl rfl rfl rfl (fun w255 hq256 => ?_)
      obtain ⟨g257, hr258, hb259, hb260⟩ := hq256
      refine xg_t (xg_iinc (u := 2) (z := 3) (l1 := [(4, (0, f37_224)), (3, (2, 37)), (0, (2, 27)), (1, (0, 3)), (2, (0, pc_))]) rfl rfl (by decide) rfl) ?_
      refine xg_t (xg_goto) ?_
      refine xg_t (xg_blq rfl) ?_
      refine xg_t (xg_iload (va := (0, 3)) rfl rfl) ?_
      refine xg_t (xg_gets) ?_
      refine xg_t (xg_iload (va := (0, 3)) rfl rfl) ?_
      refine xg_t (xg_ald8L (n := 3) (u := 3) xnm0 rfl rfl) ?_
      refine xg_t (xg_icT (u := 3) (v := 3) rfl xnm0 xnm0 (by decide)) ?_
      refine xg_t (xg_blq rfl) ?_
      refine xg_t (xg_iload (va := (0, 3)) rfl rfl) ?_
      refine xg_t (xg_ifT (u := 3) rfl xnm0 (by decide)) ?_
      refine xg_t (xg_blq rfl) ?_
      refine xg_t (xg_iload (va := (0, 3)) rfl rfl) ?_
      refine xg_t (xg_const) ?_
      refine xg_t (xg_icT (u := 3) (v := 4) rfl xnm0 xnm0 (by decide)) ?_
      refine xg_t (xg_blq rfl) ?_
      exact xg_e ⟨w255, ⟨rfl, rfl⟩, xInv.up (S := [37, 38]) hI ((((xFr.of (S := [37, 38]) hq229.2 (by decide)).tr (xFr.of (S := [37, 38]) hb242 (by decide))).tr (xFr.of (S := [37, 38]) hb251 (by decide))).tr (xFr.of (S := [37, 38]) hb260 (by decide))) (List.forall_mem_cons.mpr ⟨xqu37 (show cp37 (wget w255 37) from ⟨f37_224 + 1, (hb260.get (by decide) (hb251.get (by decide) (hb242.get (by decide) hq229.1))), by omega⟩), List.forall_mem_cons.mpr ⟨xqu38 (show cpI 40 17 4294967295 (wget w255 38) from ⟨_, hr258, hb259⟩), fun _ h => absurd h List.not_mem_nil⟩⟩), ((((xFr.of (S := [29, 30, 31, 32, 33, 34, 35, 36, 37, 38, 41]) hq229.2 (by decide)).tr (xFr.of (S := [29, 30, 31, 32, 33, 34, 35, 36, 37, 38, 41]) hb242 (by decide))).tr (xFr.of (S := [29, 30, 31, 32, 33, 34, 35, 36, 37, 38, 41]) hb251 (by decide))).tr (xFr.of (S := [29, 30, 31, 32, 33, 34, 35, 36, 37, 38, 41]) hb260 (by decide)))⟩
  · refine xoC28 (xqc28 hI : cp28 (wget w 28)) (fun f28_261 f28_263 f28_265 f28_267 f28_269 h28_271 hb262 hb264 hb266 hb268 hb270 => ?_)
    refine xg_t (xg_cVr mX1_rowsOf (vs := [(0, 3)]) (rest := []) (rs := [(3, 0)]) (cn1 := 0) (sl1 := 0) rfl (hp20) rfl h28_271 rfl rfl rfl rfl rfl rfl rfl) ?_
    refine xg_t (xg_astore (l1 := [(0, (2, 27)), (1, (0, 3)), (2, (0, pc_))]) rfl rfl rfl) ?_
    refine xg_t (xg_aload (va := (3, 0)) rfl rfl) ?_
    refine xg_t (xg_ifnullT) ?_
    refine xg_t (xg_blq rfl) ?_
    exact xg_e ⟨w, ⟨rfl, rfl⟩, hI, xFr.rf⟩
theorem ftFine4 {pc_ : Nat} (hI : xInv w) (h1 : pc_ ≤ 4294967295) : xPi (d + 3) mX2_isFine [(2, 27), (0, 4), (0, pc_)] w bd fc rr (fun n w' => (n ≤ 1) ∧ xInv w' ∧ xFr [27] w w') := by
  refine xPi.of ?_
  show xTo (d + 3) mX2_isFine (0, [], [(0, (2, 27)), (1, (0, 4)), (2, (0, pc_))], [], (w, bd, fc, 0, 0, rr)) (fun φ => ∃ n w', xEnd 4 [(0, n)] (w', bd, fc, 0, 0, rr) φ ∧ (n ≤ 1) ∧ xInv w' ∧ xFr [27] w w')
  refine xoC27 (xqc27 hI : cp27 (wget w 27)) (fun f27_1 f27_3 f27_5 f27_7 f27_9 h27_11 hb2 hb4 hb6 hb8 hb10 => ?_)
  refine xoI (xqc39 hI : cpI 3 18 4294967295 (wget w 39)) (fun g39_12 h39_13 hb14 => ?_)
  refine xoI (xqc40 hI : cpI 3 19 4294967295 (wget w 40)) (fun g40_15 h40_16 hb17 => ?_)
  refine xg_t (xg_blq rfl) ?_
  refine xg_t (xg_aload (va := (2, 27)) rfl rfl) ?_
  refine xg_t (xg_iload (va := (0, 4)) rfl rfl) ?_
  refine xg_cVi mX2_isTooMany (vs := [(0, 4)]) (rest := []) (cn1 := 0) (sl1 := 0) rfl (ftTooMany (hI) (by omega)) rfl h27_11 rfl rfl rfl rfl rfl rfl (fun n22 w18 hq19 => ?_)
  obtain ⟨hn23, hI20, hF21⟩ := hq19
  by_cases hc24 : n22 = 0
  · refine xg_t (xg_ifT (u := n22) rfl xnm0 (xj_eqT hc24)) ?_
    refine xg_t (xg_blq rfl) ?_
    refine xg_t (xg_iload (va := (0, 4)) rfl rfl) ?_
    refine xg_t (xg_ifF (u := 4) rfl xnm0 (by decide)) ?_
    refine xg_t (xg_iload (va := (0, 4)) rfl rfl) ?_
    refine xg_t (xg_bip) ?_
    refine xg_t (xg_icT (u := 4) (v := 7) rfl xnm0 xnm0 (by decide)) ?_
    refine xg_t (xg_blq rfl) ?_
    refine xg_t (xg_const) ?_
    refine xg_t (xg_istore (l1 := [(0, (2, 27)), (1, (0, 4)), (2, (0, pc_))]) rfl rfl rfl) ?_
    refine xg_t (xg_blq rfl) ?_
    refine xg_t (xg_iload (va := (0, 0)) rfl rfl) ?_
    refine xg_t (xg_gets) ?_
    refine xg_t (xg_iload (va := (0, 4)) rfl rfl) ?_
    refine xg_t (xg_ald8L (n := 4) (u := 2) xnm0 rfl rfl) ?_
    refine xg_t (xg_icF (u := 0) (v := 2) rfl xnm0 xnm0 (by decide)) ?_
    refine xg_t (xg_iload (va := (0, 0)) rfl rfl) ?_
    refine xg_t (xg_const) ?_
    refine xg_t (xg_icF (u := 0) (v := 3) rfl xnm0 xnm0 (by decide)) ?_
    refine xg_t (xg_aload (va := (2, 27)) rfl rfl) ?_
    refine xg_t (xg_getf (va := (2, 39)) (hF21.get (by decide) h27_11) rfl) ?_
    refine xg_t (xg_iload (va := (0, 0)) rfl rfl) ?_
    refine xg_ialdB (n := 0) (B := 4294967295) (h39_13.fr hF21 (by decide)) (hb14) xnm0 (by first | decide | omega) (fun u25 hu26 he27 => ?_)
    refine xg_t (xg_gets) ?_
    refine xg_t (xg_iload (va := (0, 4)) rfl rfl) ?_
    refine xg_t (xg_const) ?_
    refine xg_t (xg_imul (u := 4) (v := 3) (z := 12) xnm0 xnm0 (by decide)) ?_
    refine xg_t (xg_iload (va := (0, 0)) rfl rfl) ?_
    refine xg_t (xg_iadd (u := 12) (v := 0) (z := 12) xnm0 xnm0 (by decide)) ?_
    refine xg_t (xg_ald8L (n := 12) (u := 0) xnm0 rfl rfl) ?_
    refine xg_t (xg_gets) ?_
    refine xg_t (xg_iload (va := (0, 4)) rfl rfl) ?_
    refine xg_t (xg_const) ?_
    refine xg_t (xg_imul (u := 4) (v := 3) (z := 12) xnm0 xnm0 (by decide)) ?_
    refine xg_t (xg_iload (va := (0, 0)) rfl rfl) ?_
    refine xg_t (xg_iadd (u := 12) (v := 0) (z := 12) xnm0 xnm0 (by decide)) ?_
    refine xg_t (xg_ald8L (n := 12) (u := 9) xnm0 rfl rfl) ?_
    refine xg_t (xg_cNr mX11_isIn (vs := [(0, u25), (0, 0), (0, 9)]) (rest := []) (rs := [(0, if 0 ≤ u25 ∧ u25 ≤ 9 then 1 else 0)]) (cn1 := 0) (sl1 := 0) rfl (isIn_ok (by omega) (by omega) (by omega)) rfl rfl rfl rfl rfl rfl rfl rfl) ?_
    by_cases hc28 : 0 ≤ u25 ∧ u25 ≤ 9
    · refine xg_t (xg_ifT (u := (if 0 ≤ u25 ∧ u25 ≤ 9 then 1 else 0)) rfl xnm0 (xj_neT (xite1 hc28))) ?_
      refine xg_t (xg_blq rfl) ?_
      refine xg_t (xg_iinc (u := 0) (z := 1) (l1 := [(0, (2, 27)), (1, (0, 4)), (2, (0, pc_))]) rfl rfl (by decide) rfl) ?_
      refine xg_t (xg_goto) ?_
      refine xg_t (xg_blq rfl) ?_
      refine xg_t (xg_iload (va := (0, 1)) rfl rfl) ?_
      refine xg_t (xg_gets) ?_
      refine xg_t (xg_iload (va := (0, 4)) rfl rfl) ?_
      refine xg_t (xg_ald8L (n := 4) (u := 2) xnm0 rfl rfl) ?_
      refine xg_t (xg_icF (u := 1) (v := 2) rfl xnm0 xnm0 (by decide)) ?_
      refine xg_t (xg_iload (va := (0, 1)) rfl rfl) ?_
      refine xg_t (xg_const) ?_
      refine xg_t (xg_icF (u := 1) (v := 3) rfl xnm0 xnm0 (by decide)) ?_
      refine xg_t (xg_aload (va := (2, 27)) rfl rfl) ?_
      refine xg_t (xg_getf (va := (2, 39)) (hF21.get (by decide) h27_11) rfl) ?_
      refine xg_t (xg_iload (va := (0, 1)) rfl rfl) ?_
      refine xg_ialdB (n := 1) (B := 4294967295) (h39_13.fr hF21 (by decide)) (hb14) xnm0 (by first | decide | omega) (fun u29 hu30 he31 => ?_)
      refine xg_t (xg_gets) ?_
      refine xg_t (xg_iload (va := (0, 4)) rfl rfl) ?_
      refine xg_t (xg_const) ?_
      refine xg_t (xg_imul (u := 4) (v := 3) (z := 12) xnm0 xnm0 (by decide)) ?_
      refine xg_t (xg_iload (va := (0, 1)) rfl rfl) ?_
      refine xg_t (xg_iadd (u := 12) (v := 1) (z := 13) xnm0 xnm0 (by decide)) ?_
      refine xg_t (xg_ald8L (n := 13) (u := 0) xnm0 rfl rfl) ?_
      refine xg_t (xg_gets) ?_
      refine xg_t (xg_iload (va := (0, 4)) rfl rfl) ?_
      refine xg_t (xg_const) ?_
      refine xg_t (xg_imul (u := 4) (v := 3) (z := 12) xnm0 xnm0 (by decide)) ?_
      refine xg_t (xg_iload (va := (0, 1)) rfl rfl) ?_
      refine xg_t (xg_iadd (u := 12) (v := 1) (z := 13) xnm0 xnm0 (by decide)) ?_
      refine xg_t (xg_ald8L (n := 13) (u := 9) xnm0 rfl rfl) ?_
      refine xg_t (xg_cNr mX11_isIn (vs := [(0, u29), (0, 0), (0, 9)]) (rest := []) (rs := [(0, if 0 ≤ u29 ∧ u29 ≤ 9 then 1 else 0)]) (cn1 := 0) (sl1 := 0) rfl (isIn_ok (by omega) (by omega) (by omega)) rfl rfl rfl rfl rfl rfl rfl rfl) ?_
      by_cases hc32 : 0 ≤ u29 ∧ u29 ≤ 9
      · refine xg_t (xg_ifT (u := (if 0 ≤ u29 ∧ u29 ≤ 9 then 1 else 0)) rfl xnm0 (xj_neT (xite1 hc32))) ?_
        refine xg_t (xg_blq rfl) ?_
        refine xg_t (xg_iinc (u := 1) (z := 2) (l1 := [(0, (2, 27)), (1, (0, 4)), (2, (0, pc_))]) rfl rfl (by decide) rfl) ?_
        refine xg_t (xg_goto) ?_
        refine xg_t (xg_blq rfl) ?_
        refine xg_t (xg_iload (va := (0, 2)) rfl rfl) ?_
        refine xg_t (xg_gets) ?_
        refine xg_t (xg_iload (va := (0, 4)) rfl rfl) ?_
        refine xg_t (xg_ald8L (n := 4) (u := 2) xnm0 rfl rfl) ?_
        refine xg_t (xg_icT (u := 2) (v := 2) rfl xnm0 xnm0 (by decide)) ?_
        refine xg_t (xg_blq rfl) ?_
        refine xg_t (xg_const) ?_
        exact xg_e ⟨1, w18, ⟨rfl, rfl⟩, by first | decide | omega, hI20, (hF21.up (by decide))⟩
      · refine xg_t (xg_ifF (u := (if 0 ≤ u29 ∧ u29 ≤ 9 then 1 else 0)) rfl xnm0 (xj_neF (xite0 hc32))) ?_
        refine xg_t (xg_aload (va := (2, 27)) rfl rfl) ?_
        refine xg_t (xg_const) ?_
        refine xg_putI (fl1 := [(2, 1), (2, 42), (2, 28), (2, 39), (2, 40), (2, 41), (0, f27_1), (0, f27_3), (0, f27_5), (0, 2), (0, f27_9)]) (hF21.get (by decide) h27_11) rfl rfl rfl (fun w33 hk34 hb35 => ?_)
        refine xg_t (xg_aload (va := (2, 27)) rfl rfl) ?_
        refine xg_t (xg_aload (va := (2, 27)) rfl rfl) ?_
        refine xg_t (xg_getf (va := (2, 40)) hk34 rfl) ?_
        refine xg_t (xg_iload (va := (0, 1)) rfl rfl) ?_
        refine xg_ialdB (n := 1) (B := 4294967295) ((h40_16.fr hF21 (by decide)).but hb35 (by decide)) (hb17) xnm0 (by first | decide | omega) (fun u36 hu37 he38 => ?_)
        refine xg_putI (fl1 := [(2, 1), (2, 42), (2, 28), (2, 39), (2, 40), (2, 41), (0, f27_1), (0, f27_3), (0, f27_5), (0, 2), (0, u36)]) hk34 rfl rfl rfl (fun w39 hk40 hb41 => ?_)
        refine xg_t (xg_const) ?_
        exact xg_e ⟨0, w39, ⟨rfl, rfl⟩, by first | decide | omega, xInv.up (S := [27]) hI20 ((xFr.of (S := [27]) hb35 (by decide)).tr (xFr.of (S := [27]) hb41 (by decide))) (List.forall_mem_cons.mpr ⟨xqu27 (show cp27 (wget w39 27) from xmC27 f27_1 f27_3 f27_5 2 u36 hk40 hb2 hb4 hb6 (by decide) (by omega)), fun _ h => absurd h List.not_mem_nil⟩), ((hF21.up (by decide)).tr ((xFr.of (S := [27]) hb35 (by decide)).tr (xFr.of (S := [27]) hb41 (by decide))))⟩
    · refine xg_t (xg_ifF (u := (if 0 ≤ u25 ∧ u25 ≤ 9 then 1 else 0)) rfl xnm0 (xj_neF (xite0 hc28))) ?_
      refine xg_t (xg_aload (va := (2, 27)) rfl rfl) ?_
      refine xg_t (xg_const) ?_
      refine xg_putI (fl1 := [(2, 1), (2, 42), (2, 28), (2, 39), (2, 40), (2, 41), (0, f27_1), (0, f27_3), (0, f27_5), (0, 2), (0, f27_9)]) (hF21.get (by decide) h27_11) rfl rfl rfl (fun w42 hk43 hb44 => ?_)
      refine xg_t (xg_aload (va := (2, 27)) rfl rfl) ?_
      refine xg_t (xg_aload (va := (2, 27)) rfl rfl) ?_
      refine xg_t (xg_getf (va := (2, 40)) hk43 rfl) ?_
      refine xg_t (xg_iload (va := (0, 0)) rfl rfl) ?_
      refine xg_ialdB (n := 0) (B := 4294967295) ((h40_16.fr hF21 (by decide)).but hb44 (by decide)) (hb17) xnm0 (by first | decide | omega) (fun u45 hu46 he47 => ?_)
      refine xg_putI (fl1 := [(2, 1), (2, 42), (2, 28), (2, 39), (2, 40), (2, 41), (0, f27_1), (0, f27_3), (0, f27_5), (0, 2), (0, u45)]) hk43 rfl rfl rfl (fun w48 hk49 hb50 => ?_)
      refine xg_t (xg_const) ?_
      exact xg_e ⟨0, w48, ⟨rfl, rfl⟩, by first | decide | omega, xInv.up (S := [27]) hI20 ((xFr.of (S := [27]) hb44 (by decide)).tr (xFr.of (S := [27]) hb50 (by decide))) (List.forall_mem_cons.mpr ⟨xqu27 (show cp27 (wget w48 27) from xmC27 f27_1 f27_3 f27_5 2 u45 hk49 hb2 hb4 hb6 (by decide) (by omega)), fun _ h => absurd h List.not_mem_nil⟩), ((hF21.up (by decide)).tr ((xFr.of (S := [27]) hb44 (by decide)).tr (xFr.of (S := [27]) hb50 (by decide))))⟩
  · refine xg_t (xg_ifF (u := n22) rfl xnm0 (xj_eqF hc24)) ?_
    refine xg_t (xg_aload (va := (2, 27)) rfl rfl) ?_
    refine xg_t (xg_const) ?_
    refine xg_putI (fl1 := [(2, 1), (2, 42), (2, 28), (2, 39), (2, 40), (2, 41), (0, f27_1), (0, f27_3), (0, f27_5), (0, 3), (0, f27_9)]) (hF21.get (by decide) h27_11) rfl rfl rfl (fun w51 hk52 hb53 => ?_)
    refine xg_t (xg_aload (va := (2, 27)) rfl rfl) ?_
    refine xg_t (xg_iload (va := (0, pc_)) rfl rfl) ?_
    refine xg_putI (fl1 := [(2, 1), (2, 42), (2, 28), (2, 39), (2, 40), (2, 41), (0, f27_1), (0, f27_3), (0, f27_5), (0, 3), (0, pc_)]) hk52 rfl rfl rfl (fun w54 hk55 hb56 => ?_)
    refine xg_t (xg_const) ?_
    exact xg_e ⟨0, w54, ⟨rfl, rfl⟩, by first | decide | omega, xInv.up (S := [27]) hI20 ((xFr.of (S := [27]) hb53 (by decide)).tr (xFr.of (S := [27]) hb56 (by decide))) (List.forall_mem_cons.mpr ⟨xqu27 (show cp27 (wget w54 27) from xmC27 f27_1 f27_3 f27_5 3 pc_ hk55 hb2 hb4 hb6 (by decide) (by omega)), fun _ h => absurd h List.not_mem_nil⟩), ((hF21.up (by decide)).tr ((xFr.of (S := [27]) hb53 (by decide)).tr (xFr.of (S := [27]) hb56 (by decide))))⟩
theorem ftTake4 {pc_ : Nat} (hI : xInv w) (h1 : pc_ ≤ 4294967295) : xPq (d + 2) mX2_take [(2, 27), (0, 4), (0, pc_)] w bd fc rr [] (fun w' => xInv w' ∧ xFr [29, 30, 31, 32, 33, 34, 35, 36, 37, 38, 41] w w') := by
  refine xPq.of ?_
  show xTo (d + 2) mX2_take (0, [], [(0, (2, 27)), (1, (0, 4)), (2, (0, pc_))], [], (w, bd, fc, 0, 0, rr)) (fun φ => ∃ w', xEnd 0 [] (w', bd, fc, 0, 0, rr) φ ∧ xInv w' ∧ xFr [29, 30, 31, 32, 33, 34, 35, 36, 37, 38, 41] w w')
  refine xoC27 (xqc27 hI : cp27 (wget w 27)) (fun f27_1 f27_3 f27_5 f27_7 f27_9 h27_11 hb2 hb4 hb6 hb8 hb10 => ?_)
  refine xoI (xqc39 hI : cpI 3 18 4294967295 (wget w 39)) (fun g39_12 h39_13 hb14 => ?_)
  refine xoI (xqc41 hI : cpI 20 20 4294967295 (wget w 41)) (fun g41_15 h41_16 hb17 => ?_)
  refine xg_t (xg_blq rfl) ?_
  refine xg_t (xg_iload (va := (0, 4)) rfl rfl) ?_
  refine xg_t (xg_const) ?_
  refine xg_t (xg_icT (u := 4) (v := 5) rfl xnm0 xnm0 (by decide)) ?_
  refine xg_t (xg_blq rfl) ?_
  refine xg_t (xg_iload (va := (0, 4)) rfl rfl) ?_
  refine xg_t (xg_bip) ?_
  refine xg_t (xg_icT (u := 4) (v := 6) rfl xnm0 xnm0 (by decide)) ?_
  refine xg_t (xg_blq rfl) ?_
  refine xg_t (xg_aload (va := (2, 27)) rfl rfl) ?_
  refine xg_t (xg_getf (va := (2, 28)) h27_11 rfl) ?_
  refine xg_t (xg_iload (va := (0, 4)) rfl rfl) ?_
  obtain ⟨v18, hv19, hp20⟩ := rowsOf28 (d := d + 1) (bd := bd) (fc := fc) (rr := rr) (so := 4) (hI) (by omega)
  rcases hv19 with rfl | rfl | rfl | rfl | rfl | rfl
  · refine xoC28 (xqc28 hI : cp28 (wget w 28)) (fun f28_21 f28_23 f28_25 f28_27 f28_29 h28_31 hb22 hb24 hb26 hb28 hb30 => ?_)
    refine xg_t (xg_cVr mX1_rowsOf (vs := [(0, 4)]) (rest := []) (rs := [(2, 29)]) (cn1 := 0) (sl1 := 0) rfl (hp20) rfl h28_31 rfl rfl rfl rfl rfl rfl rfl) ?_
    refine xg_t (xg_astore (l1 := [(0, (2, 27)), (1, (0, 4)), (2, (0, pc_))]) rfl rfl rfl) ?_
    refine xg_t (xg_aload (va := (2, 29)) rfl rfl) ?_
    refine xg_t (xg_ifnullF) ?_
    refine xg_t (xg_aload (va := (2, 29)) rfl rfl) ?_
    obtain ⟨f29_32, h29_34, hb33⟩ := (xqc29 hI : cp29 (wget w 29))
    refine xg_t (xg_cVr mX5_isFull (vs := []) (rest := []) (rs := [(0, if 6 ≤ f29_32 then 1 else 0)]) (cn1 := 0) (sl1 := 0) rfl (rfull_ok h29_34 (by decide) (by omega)) rfl h29_34 rfl rfl rfl rfl rfl rfl rfl) ?_
    by_cases hc35 : 6 ≤ f29_32
    · refine xg_t (xg_ifF (u := (if 6 ≤ f29_32 then 1 else 0)) rfl xnm0 (xj_eqF (xite1 hc35))) ?_
      refine xg_t (xg_blq rfl) ?_
      exact xg_e ⟨w, ⟨rfl, rfl⟩, hI, xFr.rf⟩
    · refine xg_t (xg_ifT (u := (if 6 ≤ f29_32 then 1 else 0)) rfl xnm0 (xj_eqT (xite0 hc35))) ?_
      refine xg_t (xg_blq rfl) ?_
      refine xg_t (xg_aload (va := (2, 29)) rfl rfl) ?_
      have hl38 : f29_32 < 6 := by omega
      refine xg_cV mX5_grow (vs := []) (rest := []) (rs := [(0, if f29_32 < 6 then f29_32 else 4294967295)]) (cn1 := 0) (sl1 := 0) rfl (rgrow_ok h29_34 (by decide) (by omega)) rfl h29_34 rfl rfl rfl rfl rfl rfl rfl (fun w36 hq37 => ?_)
      rw [if_pos hl38] at hq37 ⊢
      refine xg_t (xg_istore (l1 := [(3, (2, 29)), (0, (2, 27)), (1, (0, 4)), (2, (0, pc_))]) rfl rfl rfl) ?_
      refine xg_t (xg_const) ?_
      refine xg_t (xg_istore (l1 := [(4, (0, f29_32)), (3, (2, 29)), (0, (2, 27)), (1, (0, 4)), (2, (0, pc_))]) rfl rfl rfl) ?_
      refine xg_t (xg_blq rfl) ?_
      refine xg_t (xg_iload (va := (0, 0)) rfl rfl) ?_
      refine xg_t (xg_gets) ?_
      refine xg_t (xg_iload (va := (0, 4)) rfl rfl) ?_
      refine xg_t (xg_ald8L (n := 4) (u := 2) xnm0 rfl rfl) ?_
      refine xg_t (xg_icF (u := 0) (v := 2) rfl xnm0 xnm0 (by decide)) ?_
      refine xg_t (xg_iload (va := (0, 0)) rfl rfl) ?_
      refine xg_t (xg_const) ?_
      refine xg_t (xg_icF (u := 0) (v := 3) rfl xnm0 xnm0 (by decide)) ?_
      refine xg_t (xg_aload (va := (2, 29)) rfl rfl) ?_
      refine xg_t (xg_iload (va := (0, f29_32)) rfl rfl) ?_
      refine xg_t (xg_iload (va := (0, 0)) rfl rfl) ?_
      refine xg_t (xg_aload (va := (2, 27)) rfl rfl) ?_
      refine xg_t (xg_getf (va := (2, 39)) (hq37.2.get (by decide) h27_11) rfl) ?_
      refine xg_t (xg_iload (va := (0, 0)) rfl rfl) ?_
      refine xg_ialdB (n := 0) (B := 4294967295) (h39_13.but hq37.2 (by decide)) (hb14) xnm0 (by first | decide | omega) (fun u39 hu40 he41 => ?_)
      refine xoI (xqc30 hI : cpI 24 13 4294967295 (wget w 30)) (fun g30_42 h30_43 hb44 => ?_)
      refine xg_cVv mX5_put (vs := [(0, f29_32), (0, 0), (0, u39)]) (rest := []) (cn1 := 0) (sl1 := 0) rfl (rputI (lim := 6) (wd := 4) (B := 4294967295) hq37.1 (h30_43.but hq37.2 (by decide)) (hb44) (by decide) (by omega) (by decide) (by decide) (by omega) (by omega) (by omega)) rfl hq37.1 rfl rfl rfl rfl rfl rfl (fun w45 hq46 => ?_)
      obtain ⟨g47, hr48, hb49, hb50⟩ := hq46
      refine xg_t (xg_iinc (u := 0) (z := 1) (l1 := [(4, (0, f29_32)), (3, (2, 29)), (0, (2, 27)), (1, (0, 4)), (2, (0, pc_))]) rfl rfl (by decide) rfl) ?_
      refine xg_t (xg_goto) ?_
      refine xg_t (xg_blq rfl) ?_
      refine xg_t (xg_iload (va := (0, 1)) rfl rfl) ?_
      refine xg_t (xg_gets) ?_
      refine xg_t (xg_iload (va := (0, 4)) rfl rfl) ?_
      refine xg_t (xg_ald8L (n := 4) (u := 2) xnm0 rfl rfl) ?_
      refine xg_t (xg_icF (u := 1) (v := 2) rfl xnm0 xnm0 (by decide)) ?_
      refine xg_t (xg_iload (va := (0, 1)) rfl rfl) ?_
      refine xg_t (xg_const) ?_
      refine xg_t (xg_icF (u := 1) (v := 3) rfl xnm0 xnm0 (by decide)) ?_
      refine xg_t (xg_aload (va := (2, 29)) rfl rfl) ?_
      refine xg_t (xg_iload (va := (0, f29_32)) rfl rfl) ?_
      refine xg_t (xg_iload (va := (0, 1)) rfl rfl) ?_
      refine xg_t (xg_aload (va := (2, 27)) rfl rfl) ?_
      refine xg_t (xg_getf (va := (2, 39)) (hb50.get (by decide) (hq37.2.get (by decide) h27_11)) rfl) ?_
      refine xg_t (xg_iload (va := (0, 1)) rfl rfl) ?_
      refine xg_ialdB (n := 1) (B := 4294967295) ((h39_13.but hq37.2 (by decide)).but hb50 (by decide)) (hb14) xnm0 (by first | decide | omega) (fun u51 hu52 he53 => ?_)
      refine xg_cVv mX5_put (vs := [(0, f29_32), (0, 1), (0, u51)]) (rest := []) (cn1 := 0) (sl1 := 0) rfl (rputI (lim := 6) (wd := 4) (B := 4294967295) (hb50.get (by decide) hq37.1) hr48 (hb49) (by decide) (by omega) (by decide) (by decide) (by omega) (by omega) (by omega)) rfl (hb50.get (by decide) hq37.1) rfl rfl rfl rfl rfl rfl (fun w54 hq55 => ?_)
      obtain ⟨g56, hr57, hb58, hb59⟩ := hq55
      refine xg_t (xg_iinc (u := 1) (z := 2) (l1 := [(4, (0, f29_32)), (3, (2, 29)), (0, (2, 27)), (1, (0, 4)), (2, (0, pc_))]) rfl rfl (by decide) rfl) ?_
      refine xg_t (xg_goto) ?_
      refine xg_t (xg_blq rfl) ?_
      refine xg_t (xg_iload (va := (0, 2)) rfl rfl) ?_
      refine xg_t (xg_gets) ?_
      refine xg_t (xg_iload (va := (0, 4)) rfl rfl) ?_
      refine xg_t (xg_ald8L (n := 4) (u := 2) xnm0 rfl rfl) ?_
      refine xg_t (xg_icT (u := 2) (v := 2) rfl xnm0 xnm0 (by decide)) ?_
      refine xg_t (xg_blq rfl) ?_
      refine xg_t (xg_iload (va := (0, 4)) rfl rfl) ?_
      refine xg_t (xg_ifT (u := 4) rfl xnm0 (by decide)) ?_
      refine xg_t (xg_blq rfl) ?_
      refine xg_t (xg_iload (va := (0, 4)) rfl rfl) ?_
      refine xg_t (xg_const) ?_
      refine xg_t (xg_icF (u := 4) (v := 4) rfl xnm0 xnm0 (by decide)) ?_
      refine xg_t (xg_iload (va := (0, f29_32)) rfl rfl) ?_
      refine xg_t (xg_aload (va := (2, 27)) rfl rfl) ?_
      refine xg_t (xg_getf (va := (2, 41)) (hb59.get (by decide) (hb50.get (by decide) (hq37.2.get (by decide) h27_11))) rfl) ?_
      obtain ⟨us60, ha61, ha62⟩ := id (((h41_16.but hq37.2 (by decide)).but hb50 (by decide)).but hb59 (by decide))
      refine xg_t (xg_alen ha61) ?_
      refine xg_t (xg_icF (u := f29_32) (v := 20) rfl xnm0 xnm0 (xj_geF (by omega) (by omega))) ?_
      refine xg_t (xg_aload (va := (2, 27)) rfl rfl) ?_
      refine xg_t (xg_getf (va := (2, 41)) (hb59.get (by decide) (hb50.get (by decide) (hq37.2.get (by decide) h27_11))) rfl) ?_
      refine xg_t (xg_iload (va := (0, f29_32)) rfl rfl) ?_
      refine xg_t (xg_iload (va := (0, pc_)) rfl rfl) ?_
      refine xg_iastK (n := f29_32) (u := pc_) (((h41_16.but hq37.2 (by decide)).but hb50 (by decide)).but hb59 (by decide)) xnm0 xnm0 rfl (by omega) (fun w63 hr64 hb65 => ?_)
      refine xg_t (xg_blq rfl) ?_
      exact xg_e ⟨w63, ⟨rfl, rfl⟩, xInv.up (S := [29, 30, 41]) hI ((((xFr.of (S := [29, 30, 41]) hq37.2 (by decide)).tr (xFr.of (S := [29, 30, 41]) hb50 (by decide))).tr (xFr.of (S := [29, 30, 41]) hb59 (by decide))).tr (xFr.of (S := [29, 30, 41]) hb65 (by decide))) (List.forall_mem_cons.mpr ⟨xqu29 (show cp29 (wget w63 29) from ⟨f29_32 + 1, (hb65.get (by decide) (hb59.get (by decide) (hb50.get (by decide) hq37.1))), by omega⟩), List.forall_mem_cons.mpr ⟨xqu30 (show cpI 24 13 4294967295 (wget w63 30) from ⟨_, (hr57.but hb65 (by decide)), hb58⟩), List.forall_mem_cons.mpr ⟨xqu41 (show cpI 20 20 4294967295 (wget w63 41) from ⟨_, hr64, xrb (by omega) (hb17)⟩), fun _ h => absurd h List.not_mem_nil⟩⟩⟩), ((((xFr.of (S := [29, 30, 31, 32, 33, 34, 35, 36, 37, 38, 41]) hq37.2 (by decide)).tr (xFr.of (S := [29, 30, 31, 32, 33, 34, 35, 36, 37, 38, 41]) hb50 (by decide))).tr (xFr.of (S := [29, 30, 31, 32, 33, 34, 35, 36, 37, 38, 41]) hb59 (by decide))).tr (xFr.of (S := [29, 30, 31, 32, 33, 34, 35, 36, 37, 38, 41]) hb65 (by decide)))⟩
  · refine xoC28 (xqc28 hI : cp28 (wget w 28)) (fun f28_66 f28_68 f28_70 f28_72 f28_74 h28_76 hb67 hb69 hb71 hb73 hb75 => ?_)
    refine xg_t (xg_cVr mX1_rowsOf (vs := [(0, 4)]) (rest := []) (rs := [(2, 31)]) (cn1 := 0) (sl1 := 0) rfl (hp20) rfl h28_76 rfl rfl rfl rfl rfl rfl rfl) ?_
    refine xg_t (xg_astore (l1 := [(0, (2, 27)), (1, (0, 4)), (2, (0, pc_))]) rfl rfl rfl) ?_
    refine xg_t (xg_aload (va := (2, 31)) rfl rfl) ?_
    refine xg_t (xg_ifnullF) ?_
    refine xg_t (xg_aload (va := (2, 31)) rfl rfl) ?_
    obtain ⟨f31_77, h31_79, hb78⟩ := (xqc31 hI : cp31 (wget w 31))
    refine xg_t (xg_cVr mX5_isFull (vs := []) (rest := []) (rs := [(0, if 4 ≤ f31_77 then 1 else 0)]) (cn1 := 0) (sl1 := 0) rfl (rfull_ok h31_79 (by decide) (by omega)) rfl h31_79 rfl rfl rfl rfl rfl rfl rfl) ?_
    by_cases hc80 : 4 ≤ f31_77
    · refine xg_t (xg_ifF (u := (if 4 ≤ f31_77 then 1 else 0)) rfl xnm0 (xj_eqF (xite1 hc80))) ?_
      refine xg_t (xg_blq rfl) ?_
      exact xg_e ⟨w, ⟨rfl, rfl⟩, hI, xFr.rf⟩
    · refine xg_t (xg_ifT (u := (if 4 ≤ f31_77 then 1 else 0)) rfl xnm0 (xj_eqT (xite0 hc80))) ?_
      refine xg_t (xg_blq rfl) ?_
      refine xg_t (xg_aload (va := (2, 31)) rfl rfl) ?_
      have hl83 : f31_77 < 4 := by omega
      refine xg_cV mX5_grow (vs := []) (rest := []) (rs := [(0, if f31_77 < 4 then f31_77 else 4294967295)]) (cn1 := 0) (sl1 := 0) rfl (rgrow_ok h31_79 (by decide) (by omega)) rfl h31_79 rfl rfl rfl rfl rfl rfl rfl (fun w81 hq82 => ?_)
      rw [if_pos hl83] at hq82 ⊢
      refine xg_t (xg_istore (l1 := [(3, (2, 31)), (0, (2, 27)), (1, (0, 4)), (2, (0, pc_))]) rfl rfl rfl) ?_
      refine xg_t (xg_const) ?_
      refine xg_t (xg_istore (l1 := [(4, (0, f31_77)), (3, (2, 31)), (0, (2, 27)), (1, (0, 4)), (2, (0, pc_))]) rfl rfl rfl) ?_
      refine xg_t (xg_blq rfl) ?_
      refine xg_t (xg_iload (va := (0, 0)) rfl rfl) ?_
      refine xg_t (xg_gets) ?_
      refine xg_t (xg_iload (va := (0, 4)) rfl rfl) ?_
      refine xg_t (xg_ald8L (n := 4) (u := 2) xnm0 rfl rfl) ?_
      refine xg_t (xg_icF (u := 0) (v := 2) rfl xnm0 xnm0 (by decide)) ?_
      refine xg_t (xg_iload (va := (0, 0)) rfl rfl) ?_
      refine xg_t (xg_const) ?_
      refine xg_t (xg_icF (u := 0) (v := 3) rfl xnm0 xnm0 (by decide)) ?_
      refine xg_t (xg_aload (va := (2, 31)) rfl rfl) ?_
      refine xg_t (xg_iload (va := (0, f31_77)) rfl rfl) ?_
      refine xg_t (xg_iload (va := (0, 0)) rfl rfl) ?_
      refine xg_t (xg_aload (va := (2, 27)) rfl rfl) ?_
      refine xg_t (xg_getf (va := (2, 39)) (hq82.2.get (by decide) h27_11) rfl) ?_
      refine xg_t (xg_iload (va := (0, 0)) rfl rfl) ?_
      refine xg_ialdB (n := 0) (B := 4294967295) (h39_13.but hq82.2 (by decide)) (hb14) xnm0 (by first | decide | omega) (fun u84 hu85 he86 => ?_)
      refine xoI (xqc32 hI : cpI 8 14 4294967295 (wget w 32)) (fun g32_87 h32_88 hb89 => ?_)
      refine xg_cVv mX5_put (vs := [(0, f31_77), (0, 0), (0, u84)]) (rest := []) (cn1 := 0) (sl1 := 0) rfl (rputI (lim := 4) (wd := 2) (B := 4294967295) hq82.1 (h32_88.but hq82.2 (by decide)) (hb89) (by decide) (by omega) (by decide) (by decide) (by omega) (by omega) (by omega)) rfl hq82.1 rfl rfl rfl rfl rfl rfl (fun w90 hq91 => ?_)
      obtain ⟨g92, hr93, hb94, hb95⟩ := hq91
      refine xg_t (xg_iinc (u := 0) (z := 1) (l1 := [(4, (0, f31_77)), (3, (2, 31)), (0, (2, 27)), (1, (0, 4)), (2, (0, pc_))]) rfl rfl (by decide) rfl) ?_
      refine xg_t (xg_goto) ?_
      refine xg_t (xg_blq rfl) ?_
      refine xg_t (xg_iload (va := (0, 1)) rfl rfl) ?_
      refine xg_t (xg_gets) ?_
      refine xg_t (xg_iload (va := (0, 4)) rfl rfl) ?_
      refine xg_t (xg_ald8L (n := 4) (u := 2) xnm0 rfl rfl) ?_
      refine xg_t (xg_icF (u := 1) (v := 2) rfl xnm0 xnm0 (by decide)) ?_
      refine xg_t (xg_iload (va := (0, 1)) rfl rfl) ?_
      refine xg_t (xg_const) ?_
      refine xg_t (xg_icF (u := 1) (v := 3) rfl xnm0 xnm0 (by decide)) ?_
      refine xg_t (xg_aload (va := (2, 31)) rfl rfl) ?_
      refine xg_t (xg_iload (va := (0, f31_77)) rfl rfl) ?_
      refine xg_t (xg_iload (va := (0, 1)) rfl rfl) ?_
      refine xg_t (xg_aload (va := (2, 27)) rfl rfl) ?_
      refine xg_t (xg_getf (va := (2, 39)) (hb95.get (by decide) (hq82.2.get (by decide) h27_11)) rfl) ?_
      refine xg_t (xg_iload (va := (0, 1)) rfl rfl) ?_
      refine xg_ialdB (n := 1) (B := 4294967295) ((h39_13.but hq82.2 (by decide)).but hb95 (by decide)) (hb14) xnm0 (by first | decide | omega) (fun u96 hu97 he98 => ?_)
      refine xg_cVv mX5_put (vs := [(0, f31_77), (0, 1), (0, u96)]) (rest := []) (cn1 := 0) (sl1 := 0) rfl (rputI (lim := 4) (wd := 2) (B := 4294967295) (hb95.get (by decide) hq82.1) hr93 (hb94) (by decide) (by omega) (by decide) (by decide) (by omega) (by omega) (by omega)) rfl (hb95.get (by decide) hq82.1) rfl rfl rfl rfl rfl rfl (fun w99 hq100 => ?_)
      obtain ⟨g101, hr102, hb103, hb104⟩ := hq100
      refine xg_t (xg_iinc (u := 1) (z := 2) (l1 := [(4, (0, f31_77)), (3, (2, 31)), (0, (2, 27)), (1, (0, 4)), (2, (0, pc_))]) rfl rfl (by decide) rfl) ?_
      refine xg_t (xg_goto) ?_
      refine xg_t (xg_blq rfl) ?_
      refine xg_t (xg_iload (va := (0, 2)) rfl rfl) ?_
      refine xg_t (xg_gets) ?_
      refine xg_t (xg_iload (va := (0, 4)) rfl rfl) ?_
      refine xg_t (xg_ald8L (n := 4) (u := 2) xnm0 rfl rfl) ?_
      refine xg_t (xg_icT (u := 2) (v := 2) rfl xnm0 xnm0 (by decide)) ?_
      refine xg_t (xg_blq rfl) ?_
      refine xg_t (xg_iload (va := (0, 4)) rfl rfl) ?_
      refine xg_t (xg_ifT (u := 4) rfl xnm0 (by decide)) ?_
      refine xg_t (xg_blq rfl) ?_
      refine xg_t (xg_iload (va := (0, 4)) rfl rfl) ?_
      refine xg_t (xg_const) ?_
      refine xg_t (xg_icF (u := 4) (v := 4) rfl xnm0 xnm0 (by decide)) ?_
      refine xg_t (xg_iload (va := (0, f31_77)) rfl rfl) ?_
      refine xg_t (xg_aload (va := (2, 27)) rfl rfl) ?_
      refine xg_t (xg_getf (va := (2, 41)) (hb104.get (by decide) (hb95.get (by decide) (hq82.2.get (by decide) h27_11))) rfl) ?_
      obtain ⟨us105, ha106, ha107⟩ := id (((h41_16.but hq82.2 (by decide)).but hb95 (by decide)).but hb104 (by decide))
      refine xg_t (xg_alen ha106) ?_
      refine xg_t (xg_icF (u := f31_77) (v := 20) rfl xnm0 xnm0 (xj_geF (by omega) (by omega))) ?_
      refine xg_t (xg_aload (va := (2, 27)) rfl rfl) ?_
      refine xg_t (xg_getf (va := (2, 41)) (hb104.get (by decide) (hb95.get (by decide) (hq82.2.get (by decide) h27_11))) rfl) ?_
      refine xg_t (xg_iload (va := (0, f31_77)) rfl rfl) ?_
      refine xg_t (xg_iload (va := (0, pc_)) rfl rfl) ?_
      refine xg_iastK (n := f31_77) (u := pc_) (((h41_16.but hq82.2 (by decide)).but hb95 (by decide)).but hb104 (by decide)) xnm0 xnm0 rfl (by omega) (fun w108 hr109 hb110 => ?_)
      refine xg_t (xg_blq rfl) ?_
      exact xg_e ⟨w108, ⟨rfl, rfl⟩, xInv.up (S := [31, 32, 41]) hI ((((xFr.of (S := [31, 32, 41]) hq82.2 (by decide)).tr (xFr.of (S := [31, 32, 41]) hb95 (by decide))).tr (xFr.of (S := [31, 32, 41]) hb104 (by decide))).tr (xFr.of (S := [31, 32, 41]) hb110 (by decide))) (List.forall_mem_cons.mpr ⟨xqu31 (show cp31 (wget w108 31) from ⟨f31_77 + 1, (hb110.get (by decide) (hb104.get (by decide) (hb95.get (by decide) hq82.1))), by omega⟩), List.forall_mem_cons.mpr ⟨xqu32 (show cpI 8 14 4294967295 (wget w108 32) from ⟨_, (hr102.but hb110 (by decide)), hb103⟩), List.forall_mem_cons.mpr ⟨xqu41 (show cpI 20 20 4294967295 (wget w108 41) from ⟨_, hr109, xrb (by omega) (hb17)⟩), fun _ h => absurd h List.not_mem_nil⟩⟩⟩), ((((xFr.of (S := [29, 30, 31, 32, 33, 34, 35, 36, 37, 38, 41]) hq82.2 (by decide)).tr (xFr.of (S := [29, 30, 31, 32, 33, 34, 35, 36, 37, 38, 41]) hb95 (by decide))).tr (xFr.of (S := [29, 30, 31, 32, 33, 34, 35, 36, 37, 38, 41]) hb104 (by decide))).tr (xFr.of (S := [29, 30, 31, 32, 33, 34, 35, 36, 37, 38, 41]) hb110 (by decide)))⟩
  · refine xoC28 (xqc28 hI : cp28 (wget w 28)) (fun f28_111 f28_113 f28_115 f28_117 f28_119 h28_121 hb112 hb114 hb116 hb118 hb120 => ?_)
    refine xg_t (xg_cVr mX1_rowsOf (vs := [(0, 4)]) (rest := []) (rs := [(2, 33)]) (cn1 := 0) (sl1 := 0) rfl (hp20) rfl h28_121 rfl rfl rfl rfl rfl rfl rfl) ?_
    refine xg_t (xg_astore (l1 := [(0, (2, 27)), (1, (0, 4)), (2, (0, pc_))]) rfl rfl rfl) ?_
    refine xg_t (xg_aload (va := (2, 33)) rfl rfl) ?_
    refine xg_t (xg_ifnullF) ?_
    refine xg_t (xg_aload (va := (2, 33)) rfl rfl) ?_
    obtain ⟨f33_122, h33_124, hb123⟩ := (xqc33 hI : cp33 (wget w 33))
    refine xg_t (xg_cVr mX5_isFull (vs := []) (rest := []) (rs := [(0, if 6 ≤ f33_122 then 1 else 0)]) (cn1 := 0) (sl1 := 0) rfl (rfull_ok h33_124 (by decide) (by omega)) rfl h33_124 rfl rfl rfl rfl rfl rfl rfl) ?_
    by_cases hc125 : 6 ≤ f33_122
    · refine xg_t (xg_ifF (u := (if 6 ≤ f33_122 then 1 else 0)) rfl xnm0 (xj_eqF (xite1 hc125))) ?_
      refine xg_t (xg_blq rfl) ?_
      exact xg_e ⟨w, ⟨rfl, rfl⟩, hI, xFr.rf⟩
    · refine xg_t (xg_ifT (u := (if 6 ≤ f33_122 then 1 else 0)) rfl xnm0 (xj_eqT (xite0 hc125))) ?_
      refine xg_t (xg_blq rfl) ?_
      refine xg_t (xg_aload (va := (2, 33)) rfl rfl) ?_
      have hl128 : f33_122 < 6 := by omega
      refine xg_cV mX5_grow (vs := []) (rest := []) (rs := [(0, if f33_122 < 6 then f33_122 else 4294967295)]) (cn1 := 0) (sl1 := 0) rfl (rgrow_ok h33_124 (by decide) (by omega)) rfl h33_124 rfl rfl rfl rfl rfl rfl rfl (fun w126 hq127 => ?_)
      rw [if_pos hl128] at hq127 ⊢
      refine xg_t (xg_istore (l1 := [(3, (2, 33)), (0, (2, 27)), (1, (0, 4)), (2, (0, pc_))]) rfl rfl rfl) ?_
      refine xg_t (xg_const) ?_
      refine xg_t (xg_istore (l1 := [(4, (0, f33_122)), (3, (2, 33)), (0, (2, 27)), (1, (0, 4)), (2, (0, pc_))]) rfl rfl rfl) ?_
      refine xg_t (xg_blq rfl) ?_
      refine xg_t (xg_iload (va := (0, 0)) rfl rfl) ?_
      refine xg_t (xg_gets) ?_
      refine xg_t (xg_iload (va := (0, 4)) rfl rfl) ?_
      refine xg_t (xg_ald8L (n := 4) (u := 2) xnm0 rfl rfl) ?_
      refine xg_t (xg_icF (u := 0) (v := 2) rfl xnm0 xnm0 (by decide)) ?_
      refine xg_t (xg_iload (va := (0, 0)) rfl rfl) ?_
      refine xg_t (xg_const) ?_
      refine xg_t (xg_icF (u := 0) (v := 3) rfl xnm0 xnm0 (by decide)) ?_
      refine xg_t (xg_aload (va := (2, 33)) rfl rfl) ?_
      refine xg_t (xg_iload (va := (0, f33_122)) rfl rfl) ?_
      refine xg_t (xg_iload (va := (0, 0)) rfl rfl) ?_
      refine xg_t (xg_aload (va := (2, 27)) rfl rfl) ?_
      refine xg_t (xg_getf (va := (2, 39)) (hq127.2.get (by decide) h27_11) rfl) ?_
      refine xg_t (xg_iload (va := (0, 0)) rfl rfl) ?_
      refine xg_ialdB (n := 0) (B := 4294967295) (h39_13.but hq127.2 (by decide)) (hb14) xnm0 (by first | decide | omega) (fun u129 hu130 he131 => ?_)
      refine xoI (xqc34 hI : cpI 12 15 4294967295 (wget w 34)) (fun g34_132 h34_133 hb134 => ?_)
      refine xg_cVv mX5_put (vs := [(0, f33_122), (0, 0), (0, u129)]) (rest := []) (cn1 := 0) (sl1 := 0) rfl (rputI (lim := 6) (wd := 2) (B := 4294967295) hq127.1 (h34_133.but hq127.2 (by decide)) (hb134) (by decide) (by omega) (by decide) (by decide) (by omega) (by omega) (by omega)) rfl hq127.1 rfl rfl rfl rfl rfl rfl (fun w135 hq136 => ?_)
      obtain ⟨g137, hr138, hb139, hb140⟩ := hq136
      refine xg_t (xg_iinc (u := 0) (z := 1) (l1 := [(4, (0, f33_122)), (3, (2, 33)), (0, (2, 27)), (1, (0, 4)), (2, (0, pc_))]) rfl rfl (by decide) rfl) ?_
      refine xg_t (xg_goto) ?_
      refine xg_t (xg_blq rfl) ?_
      refine xg_t (xg_iload (va := (0, 1)) rfl rfl) ?_
      refine xg_t (xg_gets) ?_
      refine xg_t (xg_iload (va := (0, 4)) rfl rfl) ?_
      refine xg_t (xg_ald8L (n := 4) (u := 2) xnm0 rfl rfl) ?_
      refine xg_t (xg_icF (u := 1) (v := 2) rfl xnm0 xnm0 (by decide)) ?_
      refine xg_t (xg_iload (va := (0, 1)) rfl rfl) ?_
      refine xg_t (xg_const) ?_
      refine xg_t (xg_icF (u := 1) (v := 3) rfl xnm0 xnm0 (by decide)) ?_
      refine xg_t (xg_aload (va := (2, 33)) rfl rfl) ?_
      refine xg_t (xg_iload (va := (0, f33_122)) rfl rfl) ?_
      refine xg_t (xg_iload (va := (0, 1)) rfl rfl) ?_
      refine xg_t (xg_aload (va := (2, 27)) rfl rfl) ?_
      refine xg_t (xg_getf (va := (2, 39)) (hb140.get (by decide) (hq127.2.get (by decide) h27_11)) rfl) ?_
      refine xg_t (xg_iload (va := (0, 1)) rfl rfl) ?_
      refine xg_ialdB (n := 1) (B := 4294967295) ((h39_13.but hq127.2 (by decide)).but hb140 (by decide)) (hb14) xnm0 (by first | decide | omega) (fun u141 hu142 he143 => ?_)
      refine xg_cVv mX5_put (vs := [(0, f33_122), (0, 1), (0, u141)]) (rest := []) (cn1 := 0) (sl1 := 0) rfl (rputI (lim := 6) (wd := 2) (B := 4294967295) (hb140.get (by decide) hq127.1) hr138 (hb139) (by decide) (by omega) (by decide) (by decide) (by omega) (by omega) (by omega)) rfl (hb140.get (by decide) hq127.1) rfl rfl rfl rfl rfl rfl (fun w144 hq145 => ?_)
      obtain ⟨g146, hr147, hb148, hb149⟩ := hq145
      refine xg_t (xg_iinc (u := 1) (z := 2) (l1 := [(4, (0, f33_122)), (3, (2, 33)), (0, (2, 27)), (1, (0, 4)), (2, (0, pc_))]) rfl rfl (by decide) rfl) ?_
      refine xg_t (xg_goto) ?_
      refine xg_t (xg_blq rfl) ?_
      refine xg_t (xg_iload (va := (0, 2)) rfl rfl) ?_
      refine xg_t (xg_gets) ?_
      refine xg_t (xg_iload (va := (0, 4)) rfl rfl) ?_
      refine xg_t (xg_ald8L (n := 4) (u := 2) xnm0 rfl rfl) ?_
      refine xg_t (xg_icT (u := 2) (v := 2) rfl xnm0 xnm0 (by decide)) ?_
      refine xg_t (xg_blq rfl) ?_
      refine xg_t (xg_iload (va := (0, 4)) rfl rfl) ?_
      refine xg_t (xg_ifT (u := 4) rfl xnm0 (by decide)) ?_
      refine xg_t (xg_blq rfl) ?_
      refine xg_t (xg_iload (va := (0, 4)) rfl rfl) ?_
      refine xg_t (xg_const) ?_
      refine xg_t (xg_icF (u := 4) (v := 4) rfl xnm0 xnm0 (by decide)) ?_
      refine xg_t (xg_iload (va := (0, f33_122)) rfl rfl) ?_
      refine xg_t (xg_aload (va := (2, 27)) rfl rfl) ?_
      refine xg_t (xg_getf (va := (2, 41)) (hb149.get (by decide) (hb140.get (by decide) (hq127.2.get (by decide) h27_11))) rfl) ?_
      obtain ⟨us150, ha151, ha152⟩ := id (((h41_16.but hq127.2 (by decide)).but hb140 (by decide)).but hb149 (by decide))
      refine xg_t (xg_alen ha151) ?_
      refine xg_t (xg_icF (u := f33_122) (v := 20) rfl xnm0 xnm0 (xj_geF (by omega) (by omega))) ?_
      refine xg_t (xg_aload (va := (2, 27)) rfl rfl) ?_
      refine xg_t (xg_getf (va := (2, 41)) (hb149.get (by decide) (hb140.get (by decide) (hq127.2.get (by decide) h27_11))) rfl) ?_
      refine xg_t (xg_iload (va := (0, f33_122)) rfl rfl) ?_
      refine xg_t (xg_iload (va := (0, pc_)) rfl rfl) ?_
      refine xg_iastK (n := f33_122) (u := pc_) (((h41_16.but hq127.2 (by decide)).but hb140 (by decide)).but hb149 (by decide)) xnm0 xnm0 rfl (by omega) (fun w153 hr154 hb155 => ?_)
      refine xg_t (xg_blq rfl) ?_
      exact xg_e ⟨w153, ⟨rfl, rfl⟩, xInv.up (S := [33, 34, 41]) hI ((((xFr.of (S := [33, 34, 41]) hq127.2 (by decide)).tr (xFr.of (S := [33, 34, 41]) hb140 (by decide))).tr (xFr.of (S := [33, 34, 41]) hb149 (by decide))).tr (xFr.of (S := [33, 34, 41]) hb155 (by decide))) (List.forall_mem_cons.mpr ⟨xqu33 (show cp33 (wget w153 33) from ⟨f33_122 + 1, (hb155.get (by decide) (hb149.get (by decide) (hb140.get (by decide) hq127.1))), by omega⟩), List.forall_mem_cons.mpr ⟨xqu34 (show cpI 12 15 4294967295 (wget w153 34) from ⟨_, (hr147.but hb155 (by decide)), hb148⟩), List.forall_mem_cons.mpr ⟨xqu41 (show cpI 20 20 4294967295 (wget w153 41) from ⟨_, hr154, xrb (by omega) (hb17)⟩), fun _ h => absurd h List.not_mem_nil⟩⟩⟩), ((((xFr.of (S := [29, 30, 31, 32, 33, 34, 35, 36, 37, 38, 41]) hq127.2 (by decide)).tr (xFr.of (S := [29, 30, 31, 32, 33, 34, 35, 36, 37, 38, 41]) hb140 (by decide))).tr (xFr.of (S := [29, 30, 31, 32, 33, 34, 35, 36, 37, 38, 41]) hb149 (by decide))).tr (xFr.of (S := [29, 30, 31, 32, 33, 34, 35, 36, 37, 38, 41]) hb155 (by decide)))⟩
  · refine xoC28 (xqc28 hI : cp28 (wget w 28)) (fun f28_156 f28_158 f28_160 f28_162 f28_164 h28_166 hb157 hb159 hb161 hb163 hb165 => ?_)
    refine xg_t (xg_cVr mX1_rowsOf (vs := [(0, 4)]) (rest := []) (rs := [(2, 35)]) (cn1 := 0) (sl1 := 0) rfl (hp20) rfl h28_166 rfl rfl rfl rfl rfl rfl rfl) ?_
    refine xg_t (xg_astore (l1 := [(0, (2, 27)), (1, (0, 4)), (2, (0, pc_))]) rfl rfl rfl) ?_
    refine xg_t (xg_aload (va := (2, 35)) rfl rfl) ?_
    refine xg_t (xg_ifnullF) ?_
    refine xg_t (xg_aload (va := (2, 35)) rfl rfl) ?_
    obtain ⟨f35_167, h35_169, hb168⟩ := (xqc35 hI : cp35 (wget w 35))
    refine xg_t (xg_cVr mX5_isFull (vs := []) (rest := []) (rs := [(0, if 4 ≤ f35_167 then 1 else 0)]) (cn1 := 0) (sl1 := 0) rfl (rfull_ok h35_169 (by decide) (by omega)) rfl h35_169 rfl rfl rfl rfl rfl rfl rfl) ?_
    by_cases hc170 : 4 ≤ f35_167
    · refine xg_t (xg_ifF (u := (if 4 ≤ f35_167 then 1 else 0)) rfl xnm0 (xj_eqF (xite1 hc170))) ?_
      refine xg_t (xg_blq rfl) ?_
      exact xg_e ⟨w, ⟨rfl, rfl⟩, hI, xFr.rf⟩
    · refine xg_t (xg_ifT (u := (if 4 ≤ f35_167 then 1 else 0)) rfl xnm0 (xj_eqT (xite0 hc170))) ?_
      refine xg_t (xg_blq rfl) ?_
      refine xg_t (xg_aload (va := (2, 35)) rfl rfl) ?_
      have hl173 : f35_167 < 4 := by omega
      refine xg_cV mX5_grow (vs := []) (rest := []) (rs := [(0, if f35_167 < 4 then f35_167 else 4294967295)]) (cn1 := 0) (sl1 := 0) rfl (rgrow_ok h35_169 (by decide) (by omega)) rfl h35_169 rfl rfl rfl rfl rfl rfl rfl (fun w171 hq172 => ?_)
      rw [if_pos hl173] at hq172 ⊢
      refine xg_t (xg_istore (l1 := [(3, (2, 35)), (0, (2, 27)), (1, (0, 4)), (2, (0, pc_))]) rfl rfl rfl) ?_
      refine xg_t (xg_const) ?_
      refine xg_t (xg_istore (l1 := [(4, (0, f35_167)), (3, (2, 35)), (0, (2, 27)), (1, (0, 4)), (2, (0, pc_))]) rfl rfl rfl) ?_
      refine xg_t (xg_blq rfl) ?_
      refine xg_t (xg_iload (va := (0, 0)) rfl rfl) ?_
      refine xg_t (xg_gets) ?_
      refine xg_t (xg_iload (va := (0, 4)) rfl rfl) ?_
      refine xg_t (xg_ald8L (n := 4) (u := 2) xnm0 rfl rfl) ?_
      refine xg_t (xg_icF (u := 0) (v := 2) rfl xnm0 xnm0 (by decide)) ?_
      refine xg_t (xg_iload (va := (0, 0)) rfl rfl) ?_
      refine xg_t (xg_const) ?_
      refine xg_t (xg_icF (u := 0) (v := 3) rfl xnm0 xnm0 (by decide)) ?_
      refine xg_t (xg_aload (va := (2, 35)) rfl rfl) ?_
      refine xg_t (xg_iload (va := (0, f35_167)) rfl rfl) ?_
      refine xg_t (xg_iload (va := (0, 0)) rfl rfl) ?_
      refine xg_t (xg_aload (va := (2, 27)) rfl rfl) ?_
      refine xg_t (xg_getf (va := (2, 39)) (hq172.2.get (by decide) h27_11) rfl) ?_
      refine xg_t (xg_iload (va := (0, 0)) rfl rfl) ?_
      refine xg_ialdB (n := 0) (B := 4294967295) (h39_13.but hq172.2 (by decide)) (hb14) xnm0 (by first | decide | omega) (fun u174 hu175 he176 => ?_)
      refine xoI (xqc36 hI : cpI 12 16 4294967295 (wget w 36)) (fun g36_177 h36_178 hb179 => ?_)
      refine xg_cVv mX5_put (vs := [(0, f35_167), (0, 0), (0, u174)]) (rest := []) (cn1 := 0) (sl1 := 0) rfl (rputI (lim := 4) (wd := 3) (B := 4294967295) hq172.1 (h36_178.but hq172.2 (by decide)) (hb179) (by decide) (by omega) (by decide) (by decide) (by omega) (by omega) (by omega)) rfl hq172.1 rfl rfl rfl rfl rfl rfl (fun w180 hq181 => ?_)
      obtain ⟨g182, hr183, hb184, hb185⟩ := hq181
      refine xg_t (xg_iinc (u := 0) (z := 1) (l1 := [(4, (0, f35_167)), (3, (2, 35)), (0, (2, 27)), (1, (0, 4)), (2, (0, pc_))]) rfl rfl (by decide) rfl) ?_
      refine xg_t (xg_goto) ?_
      refine xg_t (xg_blq rfl) ?_
      refine xg_t (xg_iload (va := (0, 1)) rfl rfl) ?_
      refine xg_t (xg_gets) ?_
      refine xg_t (xg_iload (va := (0, 4)) rfl rfl) ?_
      refine xg_t (xg_ald8L (n := 4) (u := 2) xnm0 rfl rfl) ?_
      refine xg_t (xg_icF (u := 1) (v := 2) rfl xnm0 xnm0 (by decide)) ?_
      refine xg_t (xg_iload (va := (0, 1)) rfl rfl) ?_
      refine xg_t (xg_const) ?_
      refine xg_t (xg_icF (u := 1) (v := 3) rfl xnm0 xnm0 (by decide)) ?_
      refine xg_t (xg_aload (va := (2, 35)) rfl rfl) ?_
      refine xg_t (xg_iload (va := (0, f35_167)) rfl rfl) ?_
      refine xg_t (xg_iload (va := (0, 1)) rfl rfl) ?_
      refine xg_t (xg_aload (va := (2, 27)) rfl rfl) ?_
      refine xg_t (xg_getf (va := (2, 39)) (hb185.get (by decide) (hq172.2.get (by decide) h27_11)) rfl) ?_
      refine xg_t (xg_iload (va := (0, 1)) rfl rfl) ?_
      refine xg_ialdB (n := 1) (B := 4294967295) ((h39_13.but hq172.2 (by decide)).but hb185 (by decide)) (hb14) xnm0 (by first | decide | omega) (fun u186 hu187 he188 => ?_)
      refine xg_cVv mX5_put (vs := [(0, f35_167), (0, 1), (0, u186)]) (rest := []) (cn1 := 0) (sl1 := 0) rfl (rputI (lim := 4) (wd := 3) (B := 4294967295) (hb185.get (by decide) hq172.1) hr183 (hb184) (by decide) (by omega) (by decide) (by decide) (by omega) (by omega) (by omega)) rfl (hb185.get (by decide) hq172.1) rfl rfl rfl rfl rfl rfl (fun w189 hq190 => ?_)
      obtain ⟨g191, hr192, hb193, hb194⟩ := hq190
      refine xg_t (xg_iinc (u := 1) (z := 2) (l1 := [(4, (0, f35_167)), (3, (2, 35)), (0, (2, 27)), (1, (0, 4)), (2, (0, pc_))]) rfl rfl (by decide) rfl) ?_
      refine xg_t (xg_goto) ?_
      refine xg_t (xg_blq rfl) ?_
      refine xg_t (xg_iload (va := (0, 2)) rfl rfl) ?_
      refine xg_t (xg_gets) ?_
      refine xg_t (xg_iload (va := (0, 4)) rfl rfl) ?_
      refine xg_t (xg_ald8L (n := 4) (u := 2) xnm0 rfl rfl) ?_
      refine xg_t (xg_icT (u := 2) (v := 2) rfl xnm0 xnm0 (by decide)) ?_
      refine xg_t (xg_blq rfl) ?_
      refine xg_t (xg_iload (va := (0, 4)) rfl rfl) ?_
      refine xg_t (xg_ifT (u := 4) rfl xnm0 (by decide)) ?_
      refine xg_t (xg_blq rfl) ?_
      refine xg_t (xg_iload (va := (0, 4)) rfl rfl) ?_
      refine xg_t (xg_const) ?_
      refine xg_t (xg_icF (u := 4) (v := 4) rfl xnm0 xnm0 (by decide)) ?_
      refine xg_t (xg_iload (va := (0, f35_167)) rfl rfl) ?_
      refine xg_t (xg_aload (va := (2, 27)) rfl rfl) ?_
      refine xg_t (xg_getf (va := (2, 41)) (hb194.get (by decide) (hb185.get (by decide) (hq172.2.get (by decide) h27_11))) rfl) ?_
      obtain ⟨us195, ha196, ha197⟩ := id (((h41_16.but hq172.2 (by decide)).but hb185 (by decide)).but hb194 (by decide))
      refine xg_t (xg_alen ha196) ?_
      refine xg_t (xg_icF (u := f35_167) (v := 20) rfl xnm0 xnm0 (xj_geF (by omega) (by omega))) ?_
      refine xg_t (xg_aload (va := (2, 27)) rfl rfl) ?_
      refine xg_t (xg_getf (va := (2, 41)) (hb194.get (by decide) (hb185.get (by decide) (hq172.2.get (by decide) h27_11))) rfl) ?_
      refine xg_t (xg_iload (va := (0, f35_167)) rfl rfl) ?_
      refine xg_t (xg_iload (va := (0, pc_)) rfl rfl) ?_
      refine xg_iastK (n := f35_167) (u := pc_) (((h41_16.but hq172.2 (by decide)).but hb185 (by decide)).but hb194 (by decide)) xnm0 xnm0 rfl (by omega) (fun w198 hr199 hb200 => ?_)
      refine xg_t (xg_blq rfl) ?_
      exact xg_e ⟨w198, ⟨rfl, rfl⟩, xInv.up (S := [35, 36, 41]) hI ((((xFr.of (S := [35, 36, 41]) hq172.2 (by decide)).tr (xFr.of (S := [35, 36, 41]) hb185 (by decide))).tr (xFr.of (S := [35, 36, 41]) hb194 (by decide))).tr (xFr.of (S := [35, 36, 41]) hb200 (by decide))) (List.forall_mem_cons.mpr ⟨xqu35 (show cp35 (wget w198 35) from ⟨f35_167 + 1, (hb200.get (by decide) (hb194.get (by decide) (hb185.get (by decide) hq172.1))), by omega⟩), List.forall_mem_cons.mpr ⟨xqu36 (show cpI 12 16 4294967295 (wget w198 36) from ⟨_, (hr192.but hb200 (by decide)), hb193⟩), List.forall_mem_cons.mpr ⟨xqu41 (show cpI 20 20 4294967295 (wget w198 41) from ⟨_, hr199, xrb (by omega) (hb17)⟩), fun _ h => absurd h List.not_mem_nil⟩⟩⟩), ((((xFr.of (S := [29, 30, 31, 32, 33, 34, 35, 36, 37, 38, 41]) hq172.2 (by decide)).tr (xFr.of (S := [29, 30, 31, 32, 33, 34, 35, 36, 37, 38, 41]) hb185 (by decide))).tr (xFr.of (S := [29, 30, 31, 32, 33, 34, 35, 36, 37, 38, 41]) hb194 (by decide))).tr (xFr.of (S := [29, 30, 31, 32, 33, 34, 35, 36, 37, 38, 41]) hb200 (by decide)))⟩
  · refine xoC28 (xqc28 hI : cp28 (wget w 28)) (fun f28_201 f28_203 f28_205 f28_207 f28_209 h28_211 hb202 hb204 hb206 hb208 hb210 => ?_)
    refine xg_t (xg_cVr mX1_rowsOf (vs := [(0, 4)]) (rest := []) (rs := [(2, 37)]) (cn1 := 0) (sl1 := 0) rfl (hp20) rfl h28_211 rfl rfl rfl rfl rfl rfl rfl) ?_
    refine xg_t (xg_astore (l1 := [(0, (2, 27)), (1, (0, 4)), (2, (0, pc_))]) rfl rfl rfl) ?_
    refine xg_t (xg_aload (va := (2, 37)) rfl rfl) ?_
    refine xg_t (xg_ifnullF) ?_
    refine xg_t (xg_aload (va := (2, 37)) rfl rfl) ?_
    obtain ⟨f37_212, h37_214, hb213⟩ := (xqc37 hI : cp37 (wget w 37))
    refine xg_t (xg_cVr mX5_isFull (vs := []) (rest := []) (rs := [(0, if 20 ≤ f37_212 then 1 else 0)]) (cn1 := 0) (sl1 := 0) rfl (rfull_ok h37_214 (by decide) (by omega)) rfl h37_214 rfl rfl rfl rfl rfl rfl rfl) ?_
    by_cases hc215 : 20 ≤ f37_212
    · refine xg_t (xg_ifF (u := (if 20 ≤ f37_212 then 1 else 0)) rfl xnm0 (xj_eqF (xite1 hc215))) ?_
      refine xg_t (xg_blq rfl) ?_
      exact xg_e ⟨w, ⟨rfl, rfl⟩, hI, xFr.rf⟩
    · refine xg_t (xg_ifT (u := (if 20 ≤ f37_212 then 1 else 0)) rfl xnm0 (xj_eqT (xite0 hc215))) ?_
      refine xg_t (xg_blq rfl) ?_
      refine xg_t (xg_aload (va := (2, 37)) rfl rfl) ?_
      have hl218 : f37_212 < 20 := by omega
      refine xg_cV mX5_grow (vs := []) (rest := []) (rs := [(0, if f37_212 < 20 then f37_212 else 4294967295)]) (cn1 := 0) (sl1 := 0) rfl (rgrow_ok h37_214 (by decide) (by omega)) rfl h37_214 rfl rfl rfl rfl rfl rfl rfl (fun w216 hq217 => ?_)
      rw [if_pos hl218] at hq217 ⊢
      refine xg_t (xg_istore (l1 := [(3, (2, 37)), (0, (2, 27)), (1, (0, 4)), (2, (0, pc_))]) rfl rfl rfl) ?_
      refine xg_t (xg_const) ?_
      refine xg_t (xg_istore (l1 := [(4, (0, f37_212)), (3, (2, 37)), (0, (2, 27)), (1, (0, 4)), (2, (0, pc_))]) rfl rfl rfl) ?_
      refine xg_t (xg_blq rfl) ?_
      refine xg_t (xg_iload (va := (0, 0)) rfl rfl) ?_
      refine xg_t (xg_gets) ?_
      refine xg_t (xg_iload (va := (0, 4)) rfl rfl) ?_
      refine xg_t (xg_ald8L (n := 4) (u := 2) xnm0 rfl rfl) ?_
      refine xg_t (xg_icF (u := 0) (v := 2) rfl xnm0 xnm0 (by decide)) ?_
      refine xg_t (xg_iload (va := (0, 0)) rfl rfl) ?_
      refine xg_t (xg_const) ?_
      refine xg_t (xg_icF (u := 0) (v := 3) rfl xnm0 xnm0 (by decide)) ?_
      refine xg_t (xg_aload (va := (2, 37)) rfl rfl) ?_
      refine xg_t (xg_iload (va := (0, f37_212)) rfl rfl) ?_
      refine xg_t (xg_iload (va := (0, 0)) rfl rfl) ?_
      refine xg_t (xg_aload (va := (2, 27)) rfl rfl) ?_
      refine xg_t (xg_getf (va := (2, 39)) (hq217.2.get (by decide) h27_11) rfl) ?_
      refine xg_t (xg_iload (va := (0, 0)) rfl rfl) ?_
      refine xg_ialdB (n := 0) (B := 4294967295) (h39_13.but hq217.2 (by decide)) (hb14) xnm0 (by first | decide | omega) (fun u219 hu220 he221 => ?_)
      refine xoI (xqc38 hI : cpI 40 17 4294967295 (wget w 38)) (fun g38_222 h38_223 hb224 => ?_)
      refine xg_cVv mX5_put (vs := [(0, f37_212), (0, 0), (0, u219)]) (rest := []) (cn1 := 0) (sl1 := 0) rfl (rputI (lim := 20) (wd := 2) (B := 4294967295) hq217.1 (h38_223.but hq217.2 (by decide)) (hb224) (by decide) (by omega) (by decide) (by decide) (by omega) (by omega) (by omega)) rfl hq217.1 rfl rfl rfl rfl rfl rfl (fun w225 hq226 => ?_)
      obtain ⟨g227, hr228, hb229, hb230⟩ := hq226
      refine xg_t (xg_iinc (u := 0) (z := 1) (l1 := [(4, (0, f37_212)), (3, (2, 37)), (0, (2, 27)), (1, (0, 4)), (2, (0, pc_))]) rfl rfl (by decide) rfl) ?_
      refine xg_t (xg_goto) ?_
      refine xg_t (xg_blq rfl) ?_
      refine xg_t (xg_iload (va := (0, 1)) rfl rfl) ?_
      refine xg_t (xg_gets) ?_
      refine xg_t (xg_iload (va := (0, 4)) rfl rfl) ?_
      refine xg_t (xg_ald8L (n := 4) (u := 2) xnm0 rfl rfl) ?_
      refine xg_t (xg_icF (u := 1) (v := 2) rfl xnm0 xnm0 (by decide)) ?_
      refine xg_t (xg_iload (va := (0, 1)) rfl rfl) ?_
      refine xg_t (xg_const) ?_
      refine xg_t (xg_icF (u := 1) (v := 3) rfl xnm0 xnm0 (by decide)) ?_
      refine xg_t (xg_aload (va := (2, 37)) rfl rfl) ?_
      refine xg_t (xg_iload (va := (0, f37_212)) rfl rfl) ?_
      refine xg_t (xg_iload (va := (0, 1)) rfl rfl) ?_
      refine xg_t (xg_aload (va := (2, 27)) rfl rfl) ?_
      refine xg_t (xg_getf (va := (2, 39)) (hb230.get (by decide) (hq217.2.get (by decide) h27_11)) rfl) ?_
      refine xg_t (xg_iload (va := (0, 1)) rfl rfl) ?_
      refine xg_ialdB (n := 1) (B := 4294967295) ((h39_13.but hq217.2 (by decide)).but hb230 (by decide)) (hb14) xnm0 (by first | decide | omega) (fun u231 hu232 he233 => ?_)
      refine xg_cVv mX5_put (vs := [(0, f37_212), (0, 1), (0, u231)]) (rest := []) (cn1 := 0) (sl1 := 0) rfl (rputI (lim := 20) (wd := 2) (B := 4294967295) (hb230.get (by decide) hq217.1) hr228 (hb229) (by decide) (by omega) (by decide) (by decide) (by omega) (by omega) (by omega)) rfl (hb230.get (by decide) hq217.1) rfl rfl rfl rfl rfl rfl (fun w234 hq235 => ?_)
      obtain ⟨g236, hr237, hb238, hb239⟩ := hq235
      refine xg_t (xg_iinc (u := 1) (z := 2) (l1 := [(4, (0, f37_212)), (3, (2, 37)), (0, (2, 27)), (1, (0, 4)), (2, (0, pc_))]) rfl rfl (by decide) rfl) ?_
      refine xg_t (xg_goto) ?_
      refine xg_t (xg_blq rfl) ?_
      refine xg_t (xg_iload (va := (0, 2)) rfl rfl) ?_
      refine xg_t (xg_gets) ?_
      refine xg_t (xg_iload (va := (0, 4)) rfl rfl) ?_
      refine xg_t (xg_ald8L (n := 4) (u := 2) xnm0 rfl rfl) ?_
      refine xg_t (xg_icT (u := 2) (v := 2) rfl xnm0 xnm0 (by decide)) ?_
      refine xg_t (xg_blq rfl) ?_
      refine xg_t (xg_iload (va := (0, 4)) rfl rfl) ?_
      refine xg_t (xg_ifT (u := 4) rfl xnm0 (by decide)) ?_
      refine xg_t (xg_blq rfl) ?_
      refine xg_t (xg_iload (va := (0, 4)) rfl rfl) ?_
      refine xg_t (xg_const) ?_
      refine xg_t (xg_icF (u := 4) (v := 4) rfl xnm0 xnm0 (by decide)) ?_
      refine xg_t (xg_iload (va := (0, f37_212)) rfl rfl) ?_
      refine xg_t (xg_aload (va := (2, 27)) rfl rfl) ?_
      refine xg_t (xg_getf (va := (2, 41)) (hb239.get (by decide) (hb230.get (by decide) (hq217.2.get (by decide) h27_11))) rfl) ?_
      obtain ⟨us240, ha241, ha242⟩ := id (((h41_16.but hq217.2 (by decide)).but hb230 (by decide)).but hb239 (by decide))
      refine xg_t (xg_alen ha241) ?_
      refine xg_t (xg_icF (u := f37_212) (v := 20) rfl xnm0 xnm0 (xj_geF (by omega) (by omega))) ?_
      refine xg_t (xg_aload (va := (2, 27)) rfl rfl) ?_
      refine xg_t (xg_getf (va := (2, 41)) (hb239.get (by decide) (hb230.get (by decide) (hq217.2.get (by decide) h27_11))) rfl) ?_
      refine xg_t (xg_iload (va := (0, f37_212)) rfl rfl) ?_
      refine xg_t (xg_iload (va := (0, pc_)) rfl rfl) ?_
      refine xg_iastK (n := f37_212) (u := pc_) (((h41_16.but hq217.2 (by decide)).but hb230 (by decide)).but hb239 (by decide)) xnm0 xnm0 rfl (by omega) (fun w243 hr244 hb245 => ?_)
      refine xg_t (xg_blq rfl) ?_
      exact xg_e ⟨w243, ⟨rfl, rfl⟩, xInv.up (S := [37, 38, 41]) hI ((((xFr.of (S := [37, 38, 41]) hq217.2 (by decide)).tr (xFr.of (S := [37, 38, 41]) hb230 (by decide))).tr (xFr.of (S := [37, 38, 41]) hb239 (by decide))).tr (xFr.of (S := [37, 38, 41]) hb245 (by decide))) (List.forall_mem_cons.mpr ⟨xqu37 (show cp37 (wget w243 37) from ⟨f37_212 + 1, (hb245.get (by decide) (hb239.get (by decide) (hb230.get (by decide) hq217.1))), by omega⟩), List.forall_mem_cons.mpr ⟨xqu38 (show cpI 40 17 4294967295 (wget w243 38) from ⟨_, (hr237.but hb245 (by decide)), hb238⟩), List.forall_mem_cons.mpr ⟨xqu41 (show cpI 20 20 4294967295 (wget w243 41) from ⟨_, hr244, xrb (by omega) (hb17)⟩), fun _ h => absurd h List.not_mem_nil⟩⟩⟩), ((((xFr.of (S := [29, 30, 31, 32, 33, 34, 35, 36, 37, 38, 41]) hq217.2 (by decide)).tr (xFr.of (S := [29, 30, 31, 32, 33, 34, 35, 36, 37, 38, 41]) hb230 (by decide))).tr (xFr.of (S := [29, 30, 31, 32, 33, 34, 35, 36, 37, 38, 41]) hb239 (by decide))).tr (xFr.of (S := [29, 30, 31, 32, 33, 34, 35, 36, 37, 38, 41]) hb245 (by decide)))⟩
  · refine xoC28 (xqc28 hI : cp28 (wget w 28)) (fun f28_246 f28_248 f28_250 f28_252 f28_254 h28_256 hb247 hb249 hb251 hb253 hb255 => ?_)
    refine xg_t (xg_cVr mX1_rowsOf (vs := [(0, 4)]) (rest := []) (rs := [(3, 0)]) (cn1 := 0) (sl1 := 0) rfl (hp20) rfl h28_256 rfl rfl rfl rfl rfl rfl rfl) ?_
    refine xg_t (xg_astore (l1 := [(0, (2, 27)), (1, (0, 4)), (2, (0, pc_))]) rfl rfl rfl) ?_
    refine xg_t (xg_aload (va := (3, 0)) rfl rfl) ?_
    refine xg_t (xg_ifnullT) ?_
    refine xg_t (xg_blq rfl) ?_
    exact xg_e ⟨w, ⟨rfl, rfl⟩, hI, xFr.rf⟩
theorem ftFine5 {pc_ : Nat} (hI : xInv w) (h1 : pc_ ≤ 4294967295) : xPi (d + 3) mX2_isFine [(2, 27), (0, 5), (0, pc_)] w bd fc rr (fun n w' => (n = 0 ∨ (n = 1 ∧ ∃ f : Nat → Nat, xRow w' 39 3 18 f ∧ (∀ j, f j ≤ 4294967295) ∧ f 0 ≤ 10 ∧ f 1 ≤ 10)) ∧ xInv w' ∧ xFr [27] w w') := by
  refine xPi.of ?_
  show xTo (d + 3) mX2_isFine (0, [], [(0, (2, 27)), (1, (0, 5)), (2, (0, pc_))], [], (w, bd, fc, 0, 0, rr)) (fun φ => ∃ n w', xEnd 4 [(0, n)] (w', bd, fc, 0, 0, rr) φ ∧ (n = 0 ∨ (n = 1 ∧ ∃ f : Nat → Nat, xRow w' 39 3 18 f ∧ (∀ j, f j ≤ 4294967295) ∧ f 0 ≤ 10 ∧ f 1 ≤ 10)) ∧ xInv w' ∧ xFr [27] w w')
  refine xoC27 (xqc27 hI : cp27 (wget w 27)) (fun f27_1 f27_3 f27_5 f27_7 f27_9 h27_11 hb2 hb4 hb6 hb8 hb10 => ?_)
  refine xoI (xqc39 hI : cpI 3 18 4294967295 (wget w 39)) (fun g39_12 h39_13 hb14 => ?_)
  refine xoI (xqc40 hI : cpI 3 19 4294967295 (wget w 40)) (fun g40_15 h40_16 hb17 => ?_)
  refine xg_t (xg_blq rfl) ?_
  refine xg_t (xg_aload (va := (2, 27)) rfl rfl) ?_
  refine xg_t (xg_iload (va := (0, 5)) rfl rfl) ?_
  refine xg_cVi mX2_isTooMany (vs := [(0, 5)]) (rest := []) (cn1 := 0) (sl1 := 0) rfl (ftTooMany (hI) (by omega)) rfl h27_11 rfl rfl rfl rfl rfl rfl (fun n22 w18 hq19 => ?_)
  obtain ⟨hn23, hI20, hF21⟩ := hq19
  by_cases hc24 : n22 = 0
  · refine xg_t (xg_ifT (u := n22) rfl xnm0 (xj_eqT hc24)) ?_
    refine xg_t (xg_blq rfl) ?_
    refine xg_t (xg_iload (va := (0, 5)) rfl rfl) ?_
    refine xg_t (xg_ifF (u := 5) rfl xnm0 (by decide)) ?_
    refine xg_t (xg_iload (va := (0, 5)) rfl rfl) ?_
    refine xg_t (xg_bip) ?_
    refine xg_t (xg_icT (u := 5) (v := 7) rfl xnm0 xnm0 (by decide)) ?_
    refine xg_t (xg_blq rfl) ?_
    refine xg_t (xg_const) ?_
    refine xg_t (xg_istore (l1 := [(0, (2, 27)), (1, (0, 5)), (2, (0, pc_))]) rfl rfl rfl) ?_
    refine xg_t (xg_blq rfl) ?_
    refine xg_t (xg_iload (va := (0, 0)) rfl rfl) ?_
    refine xg_t (xg_gets) ?_
    refine xg_t (xg_iload (va := (0, 5)) rfl rfl) ?_
    refine xg_t (xg_ald8L (n := 5) (u := 2) xnm0 rfl rfl) ?_
    refine xg_t (xg_icF (u := 0) (v := 2) rfl xnm0 xnm0 (by decide)) ?_
    refine xg_t (xg_iload (va := (0, 0)) rfl rfl) ?_
    refine xg_t (xg_const) ?_
    refine xg_t (xg_icF (u := 0) (v := 3) rfl xnm0 xnm0 (by decide)) ?_
    refine xg_t (xg_aload (va := (2, 27)) rfl rfl) ?_
    refine xg_t (xg_getf (va := (2, 39)) (hF21.get (by decide) h27_11) rfl) ?_
    refine xg_t (xg_iload (va := (0, 0)) rfl rfl) ?_
    refine xg_ialdB (n := 0) (B := 4294967295) (h39_13.fr hF21 (by decide)) (hb14) xnm0 (by first | decide | omega) (fun u25 hu26 he27 => ?_)
    refine xg_t (xg_gets) ?_
    refine xg_t (xg_iload (va := (0, 5)) rfl rfl) ?_
    refine xg_t (xg_const) ?_
    refine xg_t (xg_imul (u := 5) (v := 3) (z := 15) xnm0 xnm0 (by decide)) ?_
    refine xg_t (xg_iload (va := (0, 0)) rfl rfl) ?_
    refine xg_t (xg_iadd (u := 15) (v := 0) (z := 15) xnm0 xnm0 (by decide)) ?_
    refine xg_t (xg_ald8L (n := 15) (u := 1) xnm0 rfl rfl) ?_
    refine xg_t (xg_gets) ?_
    refine xg_t (xg_iload (va := (0, 5)) rfl rfl) ?_
    refine xg_t (xg_const) ?_
    refine xg_t (xg_imul (u := 5) (v := 3) (z := 15) xnm0 xnm0 (by decide)) ?_
    refine xg_t (xg_iload (va := (0, 0)) rfl rfl) ?_
    refine xg_t (xg_iadd (u := 15) (v := 0) (z := 15) xnm0 xnm0 (by decide)) ?_
    refine xg_t (xg_ald8L (n := 15) (u := 10) xnm0 rfl rfl) ?_
    refine xg_t (xg_cNr mX11_isIn (vs := [(0, u25), (0, 1), (0, 10)]) (rest := []) (rs := [(0, if 1 ≤ u25 ∧ u25 ≤ 10 then 1 else 0)]) (cn1 := 0) (sl1 := 0) rfl (isIn_ok (by omega) (by omega) (by omega)) rfl rfl rfl rfl rfl rfl rfl rfl) ?_
    by_cases hc28 : 1 ≤ u25 ∧ u25 ≤ 10
    · refine xg_t (xg_ifT (u := (if 1 ≤ u25 ∧ u25 ≤ 10 then 1 else 0)) rfl xnm0 (xj_neT (xite1 hc28))) ?_
      refine xg_t (xg_blq rfl) ?_
      refine xg_t (xg_iinc (u := 0) (z := 1) (l1 := [(0, (2, 27)), (1, (0, 5)), (2, (0, pc_))]) rfl rfl (by decide) rfl) ?_
      refine xg_t (xg_goto) ?_
      refine xg_t (xg_blq rfl) ?_
      refine xg_t (xg_iload (va := (0, 1)) rfl rfl) ?_
      refine xg_t (xg_gets) ?_
      refine xg_t (xg_iload (va := (0, 5)) rfl rfl) ?_
      refine xg_t (xg_ald8L (n := 5) (u := 2) xnm0 rfl rfl) ?_
      refine xg_t (xg_icF (u := 1) (v := 2) rfl xnm0 xnm0 (by decide)) ?_
      refine xg_t (xg_iload (va := (0, 1)) rfl rfl) ?_
      refine xg_t (xg_const) ?_
      refine xg_t (xg_icF (u := 1) (v := 3) rfl xnm0 xnm0 (by decide)) ?_
      refine xg_t (xg_aload (va := (2, 27)) rfl rfl) ?_
      refine xg_t (xg_getf (va := (2, 39)) (hF21.get (by decide) h27_11) rfl) ?_
      refine xg_t (xg_iload (va := (0, 1)) rfl rfl) ?_
      refine xg_ialdB (n := 1) (B := 4294967295) (h39_13.fr hF21 (by decide)) (hb14) xnm0 (by first | decide | omega) (fun u29 hu30 he31 => ?_)
      refine xg_t (xg_gets) ?_
      refine xg_t (xg_iload (va := (0, 5)) rfl rfl) ?_
      refine xg_t (xg_const) ?_
      refine xg_t (xg_imul (u := 5) (v := 3) (z := 15) xnm0 xnm0 (by decide)) ?_
      refine xg_t (xg_iload (va := (0, 1)) rfl rfl) ?_
      refine xg_t (xg_iadd (u := 15) (v := 1) (z := 16) xnm0 xnm0 (by decide)) ?_
      refine xg_t (xg_ald8L (n := 16) (u := 1) xnm0 rfl rfl) ?_
      refine xg_t (xg_gets) ?_
      refine xg_t (xg_iload (va := (0, 5)) rfl rfl) ?_
      refine xg_t (xg_const) ?_
      refine xg_t (xg_imul (u := 5) (v := 3) (z := 15) xnm0 xnm0 (by decide)) ?_
      refine xg_t (xg_iload (va := (0, 1)) rfl rfl) ?_
      refine xg_t (xg_iadd (u := 15) (v := 1) (z := 16) xnm0 xnm0 (by decide)) ?_
      refine xg_t (xg_ald8L (n := 16) (u := 10) xnm0 rfl rfl) ?_
      refine xg_t (xg_cNr mX11_isIn (vs := [(0, u29), (0, 1), (0, 10)]) (rest := []) (rs := [(0, if 1 ≤ u29 ∧ u29 ≤ 10 then 1 else 0)]) (cn1 := 0) (sl1 := 0) rfl (isIn_ok (by omega) (by omega) (by omega)) rfl rfl rfl rfl rfl rfl rfl rfl) ?_
      by_cases hc32 : 1 ≤ u29 ∧ u29 ≤ 10
      · refine xg_t (xg_ifT (u := (if 1 ≤ u29 ∧ u29 ≤ 10 then 1 else 0)) rfl xnm0 (xj_neT (xite1 hc32))) ?_
        refine xg_t (xg_blq rfl) ?_
        refine xg_t (xg_iinc (u := 1) (z := 2) (l1 := [(0, (2, 27)), (1, (0, 5)), (2, (0, pc_))]) rfl rfl (by decide) rfl) ?_
        refine xg_t (xg_goto) ?_
        refine xg_t (xg_blq rfl) ?_
        refine xg_t (xg_iload (va := (0, 2)) rfl rfl) ?_
        refine xg_t (xg_gets) ?_
        refine xg_t (xg_iload (va := (0, 5)) rfl rfl) ?_
        refine xg_t (xg_ald8L (n := 5) (u := 2) xnm0 rfl rfl) ?_
        refine xg_t (xg_icT (u := 2) (v := 2) rfl xnm0 xnm0 (by decide)) ?_
        refine xg_t (xg_blq rfl) ?_
        refine xg_t (xg_const) ?_
        exact xg_e ⟨1, w18, ⟨rfl, rfl⟩, Or.inr ⟨rfl, _, (h39_13.fr hF21 (by decide)), hb14, by omega, by omega⟩, hI20, (hF21.up (by decide))⟩
      · refine xg_t (xg_ifF (u := (if 1 ≤ u29 ∧ u29 ≤ 10 then 1 else 0)) rfl xnm0 (xj_neF (xite0 hc32))) ?_
        refine xg_t (xg_aload (va := (2, 27)) rfl rfl) ?_
        refine xg_t (xg_const) ?_
        refine xg_putI (fl1 := [(2, 1), (2, 42), (2, 28), (2, 39), (2, 40), (2, 41), (0, f27_1), (0, f27_3), (0, f27_5), (0, 2), (0, f27_9)]) (hF21.get (by decide) h27_11) rfl rfl rfl (fun w33 hk34 hb35 => ?_)
        refine xg_t (xg_aload (va := (2, 27)) rfl rfl) ?_
        refine xg_t (xg_aload (va := (2, 27)) rfl rfl) ?_
        refine xg_t (xg_getf (va := (2, 40)) hk34 rfl) ?_
        refine xg_t (xg_iload (va := (0, 1)) rfl rfl) ?_
        refine xg_ialdB (n := 1) (B := 4294967295) ((h40_16.fr hF21 (by decide)).but hb35 (by decide)) (hb17) xnm0 (by first | decide | omega) (fun u36 hu37 he38 => ?_)
        refine xg_putI (fl1 := [(2, 1), (2, 42), (2, 28), (2, 39), (2, 40), (2, 41), (0, f27_1), (0, f27_3), (0, f27_5), (0, 2), (0, u36)]) hk34 rfl rfl rfl (fun w39 hk40 hb41 => ?_)
        refine xg_t (xg_const) ?_
        exact xg_e ⟨0, w39, ⟨rfl, rfl⟩, Or.inl rfl, xInv.up (S := [27]) hI20 ((xFr.of (S := [27]) hb35 (by decide)).tr (xFr.of (S := [27]) hb41 (by decide))) (List.forall_mem_cons.mpr ⟨xqu27 (show cp27 (wget w39 27) from xmC27 f27_1 f27_3 f27_5 2 u36 hk40 hb2 hb4 hb6 (by decide) (by omega)), fun _ h => absurd h List.not_mem_nil⟩), ((hF21.up (by decide)).tr ((xFr.of (S := [27]) hb35 (by decide)).tr (xFr.of (S := [27]) hb41 (by decide))))⟩
    · refine xg_t (xg_ifF (u := (if 1 ≤ u25 ∧ u25 ≤ 10 then 1 else 0)) rfl xnm0 (xj_neF (xite0 hc28))) ?_
      refine xg_t (xg_aload (va := (2, 27)) rfl rfl) ?_
      refine xg_t (xg_const) ?_
      refine xg_putI (fl1 := [(2, 1), (2, 42), (2, 28), (2, 39), (2, 40), (2, 41), (0, f27_1), (0, f27_3), (0, f27_5), (0, 2), (0, f27_9)]) (hF21.get (by decide) h27_11) rfl rfl rfl (fun w42 hk43 hb44 => ?_)
      refine xg_t (xg_aload (va := (2, 27)) rfl rfl) ?_
      refine xg_t (xg_aload (va := (2, 27)) rfl rfl) ?_
      refine xg_t (xg_getf (va := (2, 40)) hk43 rfl) ?_
      refine xg_t (xg_iload (va := (0, 0)) rfl rfl) ?_
      refine xg_ialdB (n := 0) (B := 4294967295) ((h40_16.fr hF21 (by decide)).but hb44 (by decide)) (hb17) xnm0 (by first | decide | omega) (fun u45 hu46 he47 => ?_)
      refine xg_putI (fl1 := [(2, 1), (2, 42), (2, 28), (2, 39), (2, 40), (2, 41), (0, f27_1), (0, f27_3), (0, f27_5), (0, 2), (0, u45)]) hk43 rfl rfl rfl (fun w48 hk49 hb50 => ?_)
      refine xg_t (xg_const) ?_
      exact xg_e ⟨0, w48, ⟨rfl, rfl⟩, Or.inl rfl, xInv.up (S := [27]) hI20 ((xFr.of (S := [27]) hb44 (by decide)).tr (xFr.of (S := [27]) hb50 (by decide))) (List.forall_mem_cons.mpr ⟨xqu27 (show cp27 (wget w48 27) from xmC27 f27_1 f27_3 f27_5 2 u45 hk49 hb2 hb4 hb6 (by decide) (by omega)), fun _ h => absurd h List.not_mem_nil⟩), ((hF21.up (by decide)).tr ((xFr.of (S := [27]) hb44 (by decide)).tr (xFr.of (S := [27]) hb50 (by decide))))⟩
  · refine xg_t (xg_ifF (u := n22) rfl xnm0 (xj_eqF hc24)) ?_
    refine xg_t (xg_aload (va := (2, 27)) rfl rfl) ?_
    refine xg_t (xg_const) ?_
    refine xg_putI (fl1 := [(2, 1), (2, 42), (2, 28), (2, 39), (2, 40), (2, 41), (0, f27_1), (0, f27_3), (0, f27_5), (0, 3), (0, f27_9)]) (hF21.get (by decide) h27_11) rfl rfl rfl (fun w51 hk52 hb53 => ?_)
    refine xg_t (xg_aload (va := (2, 27)) rfl rfl) ?_
    refine xg_t (xg_iload (va := (0, pc_)) rfl rfl) ?_
    refine xg_putI (fl1 := [(2, 1), (2, 42), (2, 28), (2, 39), (2, 40), (2, 41), (0, f27_1), (0, f27_3), (0, f27_5), (0, 3), (0, pc_)]) hk52 rfl rfl rfl (fun w54 hk55 hb56 => ?_)
    refine xg_t (xg_const) ?_
    exact xg_e ⟨0, w54, ⟨rfl, rfl⟩, Or.inl rfl, xInv.up (S := [27]) hI20 ((xFr.of (S := [27]) hb53 (by decide)).tr (xFr.of (S := [27]) hb56 (by decide))) (List.forall_mem_cons.mpr ⟨xqu27 (show cp27 (wget w54 27) from xmC27 f27_1 f27_3 f27_5 3 pc_ hk55 hb2 hb4 hb6 (by decide) (by omega)), fun _ h => absurd h List.not_mem_nil⟩), ((hF21.up (by decide)).tr ((xFr.of (S := [27]) hb53 (by decide)).tr (xFr.of (S := [27]) hb56 (by decide))))⟩
theorem ftTake5 {a5 a6 a7 a8 l0 : Nat} {nf : Nat → Nat} {pc_ : Nat} (hI : xInv w) (h1 : pc_ ≤ 4294967295) (hc0 : wget w 28 = some (.inl (1, [(2, 29), (2, 31), (2, 33), (2, 35), (2, 37), (0, a5), (0, a6), (0, a7), (0, a8), (0, l0)]))) (hb5 : a5 ≤ 10) (hb6 : a6 ≤ 10) (hb7 : a7 ≤ 6) (hb8 : a8 ≤ 6) (hbl : l0 ≤ 500) (hr39 : xRow w 39 3 18 nf) (hrb : ∀ j, nf j ≤ 4294967295) (hb0 : nf 0 ≤ 10) (hb1 : nf 1 ≤ 10) : xPq (d + 1) mX2_take [(2, 27), (0, 5), (0, pc_)] w bd fc rr [] (fun w' => xInv w' ∧ xFr [27, 28] w w' ∧ (∃ a b : Nat, wget w' 28 = some (.inl (1, [(2, 29), (2, 31), (2, 33), (2, 35), (2, 37), (0, a), (0, b), (0, a7), (0, a8), (0, l0)])) ∧ a ≤ 10 ∧ b ≤ 10)) := by
  refine xPq.of ?_
  show xTo (d + 1) mX2_take (0, [], [(0, (2, 27)), (1, (0, 5)), (2, (0, pc_))], [], (w, bd, fc, 0, 0, rr)) (fun φ => ∃ w', xEnd 0 [] (w', bd, fc, 0, 0, rr) φ ∧ xInv w' ∧ xFr [27, 28] w w' ∧ (∃ a b : Nat, wget w' 28 = some (.inl (1, [(2, 29), (2, 31), (2, 33), (2, 35), (2, 37), (0, a), (0, b), (0, a7), (0, a8), (0, l0)])) ∧ a ≤ 10 ∧ b ≤ 10))
  refine xoC27 (xqc27 hI : cp27 (wget w 27)) (fun f27_1 f27_3 f27_5 f27_7 f27_9 h27_11 hb2 hb4 hb6 hb8 hb10 => ?_)
  refine xg_t (xg_blq rfl) ?_
  refine xg_t (xg_iload (va := (0, 5)) rfl rfl) ?_
  refine xg_t (xg_const) ?_
  refine xg_t (xg_icF (u := 5) (v := 5) rfl xnm0 xnm0 (by decide)) ?_
  refine xg_t (xg_aload (va := (2, 27)) rfl rfl) ?_
  refine xg_t (xg_getf (va := (2, 28)) h27_11 rfl) ?_
  refine xg_t (xg_aload (va := (2, 27)) rfl rfl) ?_
  refine xg_t (xg_getf (va := (2, 39)) h27_11 rfl) ?_
  refine xg_t (xg_const) ?_
  refine xg_ialdB (n := 0) (B := 4294967295) hr39 (hrb) xnm0 (by first | decide | omega) (fun u12 hu13 he14 => ?_)
  refine xg_putI (fl1 := [(2, 29), (2, 31), (2, 33), (2, 35), (2, 37), (0, u12), (0, a6), (0, a7), (0, a8), (0, l0)]) hc0 rfl rfl rfl (fun w15 hk16 hb17 => ?_)
  refine xg_t (xg_aload (va := (2, 27)) rfl rfl) ?_
  refine xg_t (xg_getf (va := (2, 28)) (hb17.get (by decide) h27_11) rfl) ?_
  refine xg_t (xg_aload (va := (2, 27)) rfl rfl) ?_
  refine xg_t (xg_getf (va := (2, 39)) (hb17.get (by decide) h27_11) rfl) ?_
  refine xg_t (xg_const) ?_
  refine xg_ialdB (n := 1) (B := 4294967295) (hr39.but hb17 (by decide)) (hrb) xnm0 (by first | decide | omega) (fun u18 hu19 he20 => ?_)
  refine xg_putI (fl1 := [(2, 29), (2, 31), (2, 33), (2, 35), (2, 37), (0, u12), (0, u18), (0, a7), (0, a8), (0, l0)]) hk16 rfl rfl rfl (fun w21 hk22 hb23 => ?_)
  refine xg_t (xg_aload (va := (2, 27)) rfl rfl) ?_
  refine xg_t (xg_const) ?_
  refine xg_putZ (fl1 := [(2, 1), (2, 42), (2, 28), (2, 39), (2, 40), (2, 41), (0, f27_1), (0, 1), (0, f27_5), (0, f27_7), (0, f27_9)]) (hb23.get (by decide) (hb17.get (by decide) h27_11)) rfl rfl rfl (fun w24 hk25 hb26 => ?_)
  exact xg_e ⟨w24, ⟨rfl, rfl⟩, xInv.up (S := [28, 27]) hI (((xFr.of (S := [28, 27]) hb17 (by decide)).tr (xFr.of (S := [28, 27]) hb23 (by decide))).tr (xFr.of (S := [28, 27]) hb26 (by decide))) (List.forall_mem_cons.mpr ⟨xqu28 (show cp28 (wget w24 28) from xmC28 u12 u18 a7 a8 l0 (hb26.get (by decide) hk22) (by omega) (by omega) (by omega) (by omega) (by omega)), List.forall_mem_cons.mpr ⟨xqu27 (show cp27 (wget w24 27) from xmC27 f27_1 1 f27_5 f27_7 f27_9 hk25 hb2 (by decide) hb6 hb8 hb10), fun _ h => absurd h List.not_mem_nil⟩⟩), (((xFr.of (S := [27, 28]) hb17 (by decide)).tr (xFr.of (S := [27, 28]) hb23 (by decide))).tr (xFr.of (S := [27, 28]) hb26 (by decide))), ⟨_, _, (hb26.get (by decide) hk22), by omega, by omega⟩⟩
theorem ftFine6 {pc_ : Nat} (hI : xInv w) (h1 : pc_ ≤ 4294967295) : xPi (d + 3) mX2_isFine [(2, 27), (0, 6), (0, pc_)] w bd fc rr (fun n w' => (n = 0 ∨ (n = 1 ∧ ∃ f : Nat → Nat, xRow w' 39 3 18 f ∧ (∀ j, f j ≤ 4294967295) ∧ f 0 ≤ 6 ∧ f 1 ≤ 6)) ∧ xInv w' ∧ xFr [27] w w') := by
  refine xPi.of ?_
  show xTo (d + 3) mX2_isFine (0, [], [(0, (2, 27)), (1, (0, 6)), (2, (0, pc_))], [], (w, bd, fc, 0, 0, rr)) (fun φ => ∃ n w', xEnd 4 [(0, n)] (w', bd, fc, 0, 0, rr) φ ∧ (n = 0 ∨ (n = 1 ∧ ∃ f : Nat → Nat, xRow w' 39 3 18 f ∧ (∀ j, f j ≤ 4294967295) ∧ f 0 ≤ 6 ∧ f 1 ≤ 6)) ∧ xInv w' ∧ xFr [27] w w')
  refine xoC27 (xqc27 hI : cp27 (wget w 27)) (fun f27_1 f27_3 f27_5 f27_7 f27_9 h27_11 hb2 hb4 hb6 hb8 hb10 => ?_)
  refine xoI (xqc39 hI : cpI 3 18 4294967295 (wget w 39)) (fun g39_12 h39_13 hb14 => ?_)
  refine xoI (xqc40 hI : cpI 3 19 4294967295 (wget w 40)) (fun g40_15 h40_16 hb17 => ?_)
  refine xg_t (xg_blq rfl) ?_
  refine xg_t (xg_aload (va := (2, 27)) rfl rfl) ?_
  refine xg_t (xg_iload (va := (0, 6)) rfl rfl) ?_
  refine xg_cVi mX2_isTooMany (vs := [(0, 6)]) (rest := []) (cn1 := 0) (sl1 := 0) rfl (ftTooMany (hI) (by omega)) rfl h27_11 rfl rfl rfl rfl rfl rfl (fun n22 w18 hq19 => ?_)
  obtain ⟨hn23, hI20, hF21⟩ := hq19
  by_cases hc24 : n22 = 0
  · refine xg_t (xg_ifT (u := n22) rfl xnm0 (xj_eqT hc24)) ?_
    refine xg_t (xg_blq rfl) ?_
    refine xg_t (xg_iload (va := (0, 6)) rfl rfl) ?_
    refine xg_t (xg_ifF (u := 6) rfl xnm0 (by decide)) ?_
    refine xg_t (xg_iload (va := (0, 6)) rfl rfl) ?_
    refine xg_t (xg_bip) ?_
    refine xg_t (xg_icT (u := 6) (v := 7) rfl xnm0 xnm0 (by decide)) ?_
    refine xg_t (xg_blq rfl) ?_
    refine xg_t (xg_const) ?_
    refine xg_t (xg_istore (l1 := [(0, (2, 27)), (1, (0, 6)), (2, (0, pc_))]) rfl rfl rfl) ?_
    refine xg_t (xg_blq rfl) ?_
    refine xg_t (xg_iload (va := (0, 0)) rfl rfl) ?_
    refine xg_t (xg_gets) ?_
    refine xg_t (xg_iload (va := (0, 6)) rfl rfl) ?_
    refine xg_t (xg_ald8L (n := 6) (u := 2) xnm0 rfl rfl) ?_
    refine xg_t (xg_icF (u := 0) (v := 2) rfl xnm0 xnm0 (by decide)) ?_
    refine xg_t (xg_iload (va := (0, 0)) rfl rfl) ?_
    refine xg_t (xg_const) ?_
    refine xg_t (xg_icF (u := 0) (v := 3) rfl xnm0 xnm0 (by decide)) ?_
    refine xg_t (xg_aload (va := (2, 27)) rfl rfl) ?_
    refine xg_t (xg_getf (va := (2, 39)) (hF21.get (by decide) h27_11) rfl) ?_
    refine xg_t (xg_iload (va := (0, 0)) rfl rfl) ?_
    refine xg_ialdB (n := 0) (B := 4294967295) (h39_13.fr hF21 (by decide)) (hb14) xnm0 (by first | decide | omega) (fun u25 hu26 he27 => ?_)
    refine xg_t (xg_gets) ?_
    refine xg_t (xg_iload (va := (0, 6)) rfl rfl) ?_
    refine xg_t (xg_const) ?_
    refine xg_t (xg_imul (u := 6) (v := 3) (z := 18) xnm0 xnm0 (by decide)) ?_
    refine xg_t (xg_iload (va := (0, 0)) rfl rfl) ?_
    refine xg_t (xg_iadd (u := 18) (v := 0) (z := 18) xnm0 xnm0 (by decide)) ?_
    refine xg_t (xg_ald8L (n := 18) (u := 1) xnm0 rfl rfl) ?_
    refine xg_t (xg_gets) ?_
    refine xg_t (xg_iload (va := (0, 6)) rfl rfl) ?_
    refine xg_t (xg_const) ?_
    refine xg_t (xg_imul (u := 6) (v := 3) (z := 18) xnm0 xnm0 (by decide)) ?_
    refine xg_t (xg_iload (va := (0, 0)) rfl rfl) ?_
    refine xg_t (xg_iadd (u := 18) (v := 0) (z := 18) xnm0 xnm0 (by decide)) ?_
    refine xg_t (xg_ald8L (n := 18) (u := 6) xnm0 rfl rfl) ?_
    refine xg_t (xg_cNr mX11_isIn (vs := [(0, u25), (0, 1), (0, 6)]) (rest := []) (rs := [(0, if 1 ≤ u25 ∧ u25 ≤ 6 then 1 else 0)]) (cn1 := 0) (sl1 := 0) rfl (isIn_ok (by omega) (by omega) (by omega)) rfl rfl rfl rfl rfl rfl rfl rfl) ?_
    by_cases hc28 : 1 ≤ u25 ∧ u25 ≤ 6
    · refine xg_t (xg_ifT (u := (if 1 ≤ u25 ∧ u25 ≤ 6 then 1 else 0)) rfl xnm0 (xj_neT (xite1 hc28))) ?_
      refine xg_t (xg_blq rfl) ?_
      refine xg_t (xg_iinc (u := 0) (z := 1) (l1 := [(0, (2, 27)), (1, (0, 6)), (2, (0, pc_))]) rfl rfl (by decide) rfl) ?_
      refine xg_t (xg_goto) ?_
      refine xg_t (xg_blq rfl) ?_
      refine xg_t (xg_iload (va := (0, 1)) rfl rfl) ?_
      refine xg_t (xg_gets) ?_
      refine xg_t (xg_iload (va := (0, 6)) rfl rfl) ?_
      refine xg_t (xg_ald8L (n := 6) (u := 2) xnm0 rfl rfl) ?_
      refine xg_t (xg_icF (u := 1) (v := 2) rfl xnm0 xnm0 (by decide)) ?_
      refine xg_t (xg_iload (va := (0, 1)) rfl rfl) ?_
      refine xg_t (xg_const) ?_
      refine xg_t (xg_icF (u := 1) (v := 3) rfl xnm0 xnm0 (by decide)) ?_
      refine xg_t (xg_aload (va := (2, 27)) rfl rfl) ?_
      refine xg_t (xg_getf (va := (2, 39)) (hF21.get (by decide) h27_11) rfl) ?_
      refine xg_t (xg_iload (va := (0, 1)) rfl rfl) ?_
      refine xg_ialdB (n := 1) (B := 4294967295) (h39_13.fr hF21 (by decide)) (hb14) xnm0 (by first | decide | omega) (fun u29 hu30 he31 => ?_)
      refine xg_t (xg_gets) ?_
      refine xg_t (xg_iload (va := (0, 6)) rfl rfl) ?_
      refine xg_t (xg_const) ?_
      refine xg_t (xg_imul (u := 6) (v := 3) (z := 18) xnm0 xnm0 (by decide)) ?_
      refine xg_t (xg_iload (va := (0, 1)) rfl rfl) ?_
      refine xg_t (xg_iadd (u := 18) (v := 1) (z := 19) xnm0 xnm0 (by decide)) ?_
      refine xg_t (xg_ald8L (n := 19) (u := 1) xnm0 rfl rfl) ?_
      refine xg_t (xg_gets) ?_
      refine xg_t (xg_iload (va := (0, 6)) rfl rfl) ?_
      refine xg_t (xg_const) ?_
      refine xg_t (xg_imul (u := 6) (v := 3) (z := 18) xnm0 xnm0 (by decide)) ?_
      refine xg_t (xg_iload (va := (0, 1)) rfl rfl) ?_
      refine xg_t (xg_iadd (u := 18) (v := 1) (z := 19) xnm0 xnm0 (by decide)) ?_
      refine xg_t (xg_ald8L (n := 19) (u := 6) xnm0 rfl rfl) ?_
      refine xg_t (xg_cNr mX11_isIn (vs := [(0, u29), (0, 1), (0, 6)]) (rest := []) (rs := [(0, if 1 ≤ u29 ∧ u29 ≤ 6 then 1 else 0)]) (cn1 := 0) (sl1 := 0) rfl (isIn_ok (by omega) (by omega) (by omega)) rfl rfl rfl rfl rfl rfl rfl rfl) ?_
      by_cases hc32 : 1 ≤ u29 ∧ u29 ≤ 6
      · refine xg_t (xg_ifT (u := (if 1 ≤ u29 ∧ u29 ≤ 6 then 1 else 0)) rfl xnm0 (xj_neT (xite1 hc32))) ?_
        refine xg_t (xg_blq rfl) ?_
        refine xg_t (xg_iinc (u := 1) (z := 2) (l1 := [(0, (2, 27)), (1, (0, 6)), (2, (0, pc_))]) rfl rfl (by decide) rfl) ?_
        refine xg_t (xg_goto) ?_
        refine xg_t (xg_blq rfl) ?_
        refine xg_t (xg_iload (va := (0, 2)) rfl rfl) ?_
        refine xg_t (xg_gets) ?_
        refine xg_t (xg_iload (va := (0, 6)) rfl rfl) ?_
        refine xg_t (xg_ald8L (n := 6) (u := 2) xnm0 rfl rfl) ?_
        refine xg_t (xg_icT (u := 2) (v := 2) rfl xnm0 xnm0 (by decide)) ?_
        refine xg_t (xg_blq rfl) ?_
        refine xg_t (xg_const) ?_
        exact xg_e ⟨1, w18, ⟨rfl, rfl⟩, Or.inr ⟨rfl, _, (h39_13.fr hF21 (by decide)), hb14, by omega, by omega⟩, hI20, (hF21.up (by decide))⟩
      · refine xg_t (xg_ifF (u := (if 1 ≤ u29 ∧ u29 ≤ 6 then 1 else 0)) rfl xnm0 (xj_neF (xite0 hc32))) ?_
        refine xg_t (xg_aload (va := (2, 27)) rfl rfl) ?_
        refine xg_t (xg_const) ?_
        refine xg_putI (fl1 := [(2, 1), (2, 42), (2, 28), (2, 39), (2, 40), (2, 41), (0, f27_1), (0, f27_3), (0, f27_5), (0, 2), (0, f27_9)]) (hF21.get (by decide) h27_11) rfl rfl rfl (fun w33 hk34 hb35 => ?_)
        refine xg_t (xg_aload (va := (2, 27)) rfl rfl) ?_
        refine xg_t (xg_aload (va := (2, 27)) rfl rfl) ?_
        refine xg_t (xg_getf (va := (2, 40)) hk34 rfl) ?_
        refine xg_t (xg_iload (va := (0, 1)) rfl rfl) ?_
        refine xg_ialdB (n := 1) (B := 4294967295) ((h40_16.fr hF21 (by decide)).but hb35 (by decide)) (hb17) xnm0 (by first | decide | omega) (fun u36 hu37 he38 => ?_)
        refine xg_putI (fl1 := [(2, 1), (2, 42), (2, 28), (2, 39), (2, 40), (2, 41), (0, f27_1), (0, f27_3), (0, f27_5), (0, 2), (0, u36)]) hk34 rfl rfl rfl (fun w39 hk40 hb41 => ?_)
        refine xg_t (xg_const) ?_
        exact xg_e ⟨0, w39, ⟨rfl, rfl⟩, Or.inl rfl, xInv.up (S := [27]) hI20 ((xFr.of (S := [27]) hb35 (by decide)).tr (xFr.of (S := [27]) hb41 (by decide))) (List.forall_mem_cons.mpr ⟨xqu27 (show cp27 (wget w39 27) from xmC27 f27_1 f27_3 f27_5 2 u36 hk40 hb2 hb4 hb6 (by decide) (by omega)), fun _ h => absurd h List.not_mem_nil⟩), ((hF21.up (by decide)).tr ((xFr.of (S := [27]) hb35 (by decide)).tr (xFr.of (S := [27]) hb41 (by decide))))⟩
    · refine xg_t (xg_ifF (u := (if 1 ≤ u25 ∧ u25 ≤ 6 then 1 else 0)) rfl xnm0 (xj_neF (xite0 hc28))) ?_
      refine xg_t (xg_aload (va := (2, 27)) rfl rfl) ?_
      refine xg_t (xg_const) ?_
      refine xg_putI (fl1 := [(2, 1), (2, 42), (2, 28), (2, 39), (2, 40), (2, 41), (0, f27_1), (0, f27_3), (0, f27_5), (0, 2), (0, f27_9)]) (hF21.get (by decide) h27_11) rfl rfl rfl (fun w42 hk43 hb44 => ?_)
      refine xg_t (xg_aload (va := (2, 27)) rfl rfl) ?_
      refine xg_t (xg_aload (va := (2, 27)) rfl rfl) ?_
      refine xg_t (xg_getf (va := (2, 40)) hk43 rfl) ?_
      refine xg_t (xg_iload (va := (0, 0)) rfl rfl) ?_
      refine xg_ialdB (n := 0) (B := 4294967295) ((h40_16.fr hF21 (by decide)).but hb44 (by decide)) (hb17) xnm0 (by first | decide | omega) (fun u45 hu46 he47 => ?_)
      refine xg_putI (fl1 := [(2, 1), (2, 42), (2, 28), (2, 39), (2, 40), (2, 41), (0, f27_1), (0, f27_3), (0, f27_5), (0, 2), (0, u45)]) hk43 rfl rfl rfl (fun w48 hk49 hb50 => ?_)
      refine xg_t (xg_const) ?_
      exact xg_e ⟨0, w48, ⟨rfl, rfl⟩, Or.inl rfl, xInv.up (S := [27]) hI20 ((xFr.of (S := [27]) hb44 (by decide)).tr (xFr.of (S := [27]) hb50 (by decide))) (List.forall_mem_cons.mpr ⟨xqu27 (show cp27 (wget w48 27) from xmC27 f27_1 f27_3 f27_5 2 u45 hk49 hb2 hb4 hb6 (by decide) (by omega)), fun _ h => absurd h List.not_mem_nil⟩), ((hF21.up (by decide)).tr ((xFr.of (S := [27]) hb44 (by decide)).tr (xFr.of (S := [27]) hb50 (by decide))))⟩
  · refine xg_t (xg_ifF (u := n22) rfl xnm0 (xj_eqF hc24)) ?_
    refine xg_t (xg_aload (va := (2, 27)) rfl rfl) ?_
    refine xg_t (xg_const) ?_
    refine xg_putI (fl1 := [(2, 1), (2, 42), (2, 28), (2, 39), (2, 40), (2, 41), (0, f27_1), (0, f27_3), (0, f27_5), (0, 3), (0, f27_9)]) (hF21.get (by decide) h27_11) rfl rfl rfl (fun w51 hk52 hb53 => ?_)
    refine xg_t (xg_aload (va := (2, 27)) rfl rfl) ?_
    refine xg_t (xg_iload (va := (0, pc_)) rfl rfl) ?_
    refine xg_putI (fl1 := [(2, 1), (2, 42), (2, 28), (2, 39), (2, 40), (2, 41), (0, f27_1), (0, f27_3), (0, f27_5), (0, 3), (0, pc_)]) hk52 rfl rfl rfl (fun w54 hk55 hb56 => ?_)
    refine xg_t (xg_const) ?_
    exact xg_e ⟨0, w54, ⟨rfl, rfl⟩, Or.inl rfl, xInv.up (S := [27]) hI20 ((xFr.of (S := [27]) hb53 (by decide)).tr (xFr.of (S := [27]) hb56 (by decide))) (List.forall_mem_cons.mpr ⟨xqu27 (show cp27 (wget w54 27) from xmC27 f27_1 f27_3 f27_5 3 pc_ hk55 hb2 hb4 hb6 (by decide) (by omega)), fun _ h => absurd h List.not_mem_nil⟩), ((hF21.up (by decide)).tr ((xFr.of (S := [27]) hb53 (by decide)).tr (xFr.of (S := [27]) hb56 (by decide))))⟩
theorem ftTake6 {a5 a6 a7 a8 l0 : Nat} {nf : Nat → Nat} {pc_ : Nat} (hI : xInv w) (h1 : pc_ ≤ 4294967295) (hc0 : wget w 28 = some (.inl (1, [(2, 29), (2, 31), (2, 33), (2, 35), (2, 37), (0, a5), (0, a6), (0, a7), (0, a8), (0, l0)]))) (hb5 : a5 ≤ 10) (hb6 : a6 ≤ 10) (hb7 : a7 ≤ 6) (hb8 : a8 ≤ 6) (hbl : l0 ≤ 500) (hr39 : xRow w 39 3 18 nf) (hrb : ∀ j, nf j ≤ 4294967295) (hb0 : nf 0 ≤ 6) (hb1 : nf 1 ≤ 6) : xPq (d + 1) mX2_take [(2, 27), (0, 6), (0, pc_)] w bd fc rr [] (fun w' => xInv w' ∧ xFr [27, 28] w w' ∧ (∃ a b : Nat, wget w' 28 = some (.inl (1, [(2, 29), (2, 31), (2, 33), (2, 35), (2, 37), (0, a5), (0, a6), (0, a), (0, b), (0, l0)])) ∧ a ≤ 6 ∧ b ≤ 6)) := by
  refine xPq.of ?_
  show xTo (d + 1) mX2_take (0, [], [(0, (2, 27)), (1, (0, 6)), (2, (0, pc_))], [], (w, bd, fc, 0, 0, rr)) (fun φ => ∃ w', xEnd 0 [] (w', bd, fc, 0, 0, rr) φ ∧ xInv w' ∧ xFr [27, 28] w w' ∧ (∃ a b : Nat, wget w' 28 = some (.inl (1, [(2, 29), (2, 31), (2, 33), (2, 35), (2, 37), (0, a5), (0, a6), (0, a), (0, b), (0, l0)])) ∧ a ≤ 6 ∧ b ≤ 6))
  refine xoC27 (xqc27 hI : cp27 (wget w 27)) (fun f27_1 f27_3 f27_5 f27_7 f27_9 h27_11 hb2 hb4 hb6 hb8 hb10 => ?_)
  refine xg_t (xg_blq rfl) ?_
  refine xg_t (xg_iload (va := (0, 6)) rfl rfl) ?_
  refine xg_t (xg_const) ?_
  refine xg_t (xg_icT (u := 6) (v := 5) rfl xnm0 xnm0 (by decide)) ?_
  refine xg_t (xg_blq rfl) ?_
  refine xg_t (xg_iload (va := (0, 6)) rfl rfl) ?_
  refine xg_t (xg_bip) ?_
  refine xg_t (xg_icF (u := 6) (v := 6) rfl xnm0 xnm0 (by decide)) ?_
  refine xg_t (xg_aload (va := (2, 27)) rfl rfl) ?_
  refine xg_t (xg_getf (va := (2, 28)) h27_11 rfl) ?_
  refine xg_t (xg_aload (va := (2, 27)) rfl rfl) ?_
  refine xg_t (xg_getf (va := (2, 39)) h27_11 rfl) ?_
  refine xg_t (xg_const) ?_
  refine xg_ialdB (n := 0) (B := 4294967295) hr39 (hrb) xnm0 (by first | decide | omega) (fun u12 hu13 he14 => ?_)
  refine xg_putI (fl1 := [(2, 29), (2, 31), (2, 33), (2, 35), (2, 37), (0, a5), (0, a6), (0, u12), (0, a8), (0, l0)]) hc0 rfl rfl rfl (fun w15 hk16 hb17 => ?_)
  refine xg_t (xg_aload (va := (2, 27)) rfl rfl) ?_
  refine xg_t (xg_getf (va := (2, 28)) (hb17.get (by decide) h27_11) rfl) ?_
  refine xg_t (xg_aload (va := (2, 27)) rfl rfl) ?_
  refine xg_t (xg_getf (va := (2, 39)) (hb17.get (by decide) h27_11) rfl) ?_
  refine xg_t (xg_const) ?_
  refine xg_ialdB (n := 1) (B := 4294967295) (hr39.but hb17 (by decide)) (hrb) xnm0 (by first | decide | omega) (fun u18 hu19 he20 => ?_)
  refine xg_putI (fl1 := [(2, 29), (2, 31), (2, 33), (2, 35), (2, 37), (0, a5), (0, a6), (0, u12), (0, u18), (0, l0)]) hk16 rfl rfl rfl (fun w21 hk22 hb23 => ?_)
  refine xg_t (xg_aload (va := (2, 27)) rfl rfl) ?_
  refine xg_t (xg_const) ?_
  refine xg_putZ (fl1 := [(2, 1), (2, 42), (2, 28), (2, 39), (2, 40), (2, 41), (0, f27_1), (0, f27_3), (0, 1), (0, f27_7), (0, f27_9)]) (hb23.get (by decide) (hb17.get (by decide) h27_11)) rfl rfl rfl (fun w24 hk25 hb26 => ?_)
  exact xg_e ⟨w24, ⟨rfl, rfl⟩, xInv.up (S := [28, 27]) hI (((xFr.of (S := [28, 27]) hb17 (by decide)).tr (xFr.of (S := [28, 27]) hb23 (by decide))).tr (xFr.of (S := [28, 27]) hb26 (by decide))) (List.forall_mem_cons.mpr ⟨xqu28 (show cp28 (wget w24 28) from xmC28 a5 a6 u12 u18 l0 (hb26.get (by decide) hk22) (by omega) (by omega) (by omega) (by omega) (by omega)), List.forall_mem_cons.mpr ⟨xqu27 (show cp27 (wget w24 27) from xmC27 f27_1 f27_3 1 f27_7 f27_9 hk25 hb2 hb4 (by decide) hb8 hb10), fun _ h => absurd h List.not_mem_nil⟩⟩), (((xFr.of (S := [27, 28]) hb17 (by decide)).tr (xFr.of (S := [27, 28]) hb23 (by decide))).tr (xFr.of (S := [27, 28]) hb26 (by decide))), ⟨_, _, (hb26.get (by decide) hk22), by omega, by omega⟩⟩
end XWD
