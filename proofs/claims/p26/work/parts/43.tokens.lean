/-! Tokens: but for words -/
section XTK
variable {d : Nat} {w : List (List xE)} {bd : List (Nat × Nat)} {fc : List (Nat × Nat × Bool)} {rr : Nat × Nat}
theorem tkIsLetter {by_ : Nat} (hI : xInv w) (h1 : by_ ≤ 4294967295) : xPi d mX8_isLetter [(0, by_)] w bd fc rr (fun n w' => (n ≤ 1) ∧ xInv w' ∧ xFr [] w w') := by
  refine xPi.of ?_
  show xTo d mX8_isLetter (0, [], [(0, (0, by_))], [], (w, bd, fc, 0, 0, rr)) (fun φ => ∃ n w', xEnd 4 [(0, n)] (w', bd, fc, 0, 0, rr) φ ∧ (n ≤ 1) ∧ xInv w' ∧ xFr [] w w')
  refine xg_t (xg_blk (b := [(0, 1, 2, 0, 0, 0), (1, 2, 4, 97, 0, 0), (3, 3, 6, 16, 2, 0), (6, 1, 2, 0, 0, 0), (7, 2, 4, 122, 0, 0), (9, 3, 6, 16, 4, 0), (12, 1, 3, 1, 0, 0), (13, 3, 8, 17, 0, 0)]) rfl) ?_
  refine xg_t (xg_iload (va := (0, by_)) rfl rfl) ?_
  refine xg_t (xg_bip) ?_
  by_cases hc1 : xbs by_ < xbs 97
  · have hc1u := hc1
    unfold xbs at hc1u
    refine xg_t (xg_icT (u := by_) (v := 97) rfl xnm0 xnm0 (xjs_ltT hc1)) ?_
    refine xg_t (xg_blk (b := [(16, 1, 3, 0, 0, 0)]) rfl) ?_
    refine xg_t (xg_const) ?_
    refine xg_t (xg_blk (b := [(17, 1, 12, 0, 1, 0)]) rfl) ?_
    exact xg_e ⟨0, w, ⟨rfl, rfl⟩, by omega, hI, xFr.rf⟩
  · have hc1u := hc1
    unfold xbs at hc1u
    have hn2 : by_ ≤ 2147483647 := by omega
    refine xg_t (xg_icF (u := by_) (v := 97) rfl xnm0 xnm0 (xjs_ltF hc1)) ?_
    refine xg_t (xg_iload (va := (0, by_)) rfl rfl) ?_
    refine xg_t (xg_bip) ?_
    by_cases hc3 : 122 < by_
    · refine xg_t (xg_icT (u := by_) (v := 122) rfl xnm0 xnm0 (xj_gtT hc3 (by omega))) ?_
      refine xg_t (xg_blk (b := [(16, 1, 3, 0, 0, 0)]) rfl) ?_
      refine xg_t (xg_const) ?_
      refine xg_t (xg_blk (b := [(17, 1, 12, 0, 1, 0)]) rfl) ?_
      exact xg_e ⟨0, w, ⟨rfl, rfl⟩, by omega, hI, xFr.rf⟩
    · refine xg_t (xg_icF (u := by_) (v := 122) rfl xnm0 xnm0 (xj_gtF (by omega) (by omega))) ?_
      refine xg_t (xg_const) ?_
      refine xg_t (xg_goto) ?_
      refine xg_t (xg_blk (b := [(17, 1, 12, 0, 1, 0)]) rfl) ?_
      exact xg_e ⟨1, w, ⟨rfl, rfl⟩, by omega, hI, xFr.rf⟩
theorem tkIsDigit {by_ : Nat} (hI : xInv w) (h1 : by_ ≤ 4294967295) : xPi d mX8_isDigit [(0, by_)] w bd fc rr (fun n w' => (n ≤ 1) ∧ xInv w' ∧ xFr [] w w') := by
  refine xPi.of ?_
  show xTo d mX8_isDigit (0, [], [(0, (0, by_))], [], (w, bd, fc, 0, 0, rr)) (fun φ => ∃ n w', xEnd 4 [(0, n)] (w', bd, fc, 0, 0, rr) φ ∧ (n ≤ 1) ∧ xInv w' ∧ xFr [] w w')
  refine xg_t (xg_blk (b := [(0, 1, 2, 0, 0, 0), (1, 2, 4, 48, 0, 0), (3, 3, 6, 16, 2, 0), (6, 1, 2, 0, 0, 0), (7, 2, 4, 57, 0, 0), (9, 3, 6, 16, 4, 0), (12, 1, 3, 1, 0, 0), (13, 3, 8, 17, 0, 0)]) rfl) ?_
  refine xg_t (xg_iload (va := (0, by_)) rfl rfl) ?_
  refine xg_t (xg_bip) ?_
  by_cases hc1 : xbs by_ < xbs 48
  · have hc1u := hc1
    unfold xbs at hc1u
    refine xg_t (xg_icT (u := by_) (v := 48) rfl xnm0 xnm0 (xjs_ltT hc1)) ?_
    refine xg_t (xg_blk (b := [(16, 1, 3, 0, 0, 0)]) rfl) ?_
    refine xg_t (xg_const) ?_
    refine xg_t (xg_blk (b := [(17, 1, 12, 0, 1, 0)]) rfl) ?_
    exact xg_e ⟨0, w, ⟨rfl, rfl⟩, by omega, hI, xFr.rf⟩
  · have hc1u := hc1
    unfold xbs at hc1u
    have hn2 : by_ ≤ 2147483647 := by omega
    refine xg_t (xg_icF (u := by_) (v := 48) rfl xnm0 xnm0 (xjs_ltF hc1)) ?_
    refine xg_t (xg_iload (va := (0, by_)) rfl rfl) ?_
    refine xg_t (xg_bip) ?_
    by_cases hc3 : 57 < by_
    · refine xg_t (xg_icT (u := by_) (v := 57) rfl xnm0 xnm0 (xj_gtT hc3 (by omega))) ?_
      refine xg_t (xg_blk (b := [(16, 1, 3, 0, 0, 0)]) rfl) ?_
      refine xg_t (xg_const) ?_
      refine xg_t (xg_blk (b := [(17, 1, 12, 0, 1, 0)]) rfl) ?_
      exact xg_e ⟨0, w, ⟨rfl, rfl⟩, by omega, hI, xFr.rf⟩
    · refine xg_t (xg_icF (u := by_) (v := 57) rfl xnm0 xnm0 (xj_gtF (by omega) (by omega))) ?_
      refine xg_t (xg_const) ?_
      refine xg_t (xg_goto) ?_
      refine xg_t (xg_blk (b := [(17, 1, 12, 0, 1, 0)]) rfl) ?_
      exact xg_e ⟨1, w, ⟨rfl, rfl⟩, by omega, hI, xFr.rf⟩
theorem tkIsSignByte {by_ : Nat} (hI : xInv w) (h1 : by_ ≤ 4294967295) : xPi d mX8_isSignByte [(0, by_)] w bd fc rr (fun n w' => (n ≤ 1) ∧ xInv w' ∧ xFr [] w w') := by
  refine xPi.of ?_
  show xTo d mX8_isSignByte (0, [], [(0, (0, by_))], [], (w, bd, fc, 0, 0, rr)) (fun φ => ∃ n w', xEnd 4 [(0, n)] (w', bd, fc, 0, 0, rr) φ ∧ (n ≤ 1) ∧ xInv w' ∧ xFr [] w w')
  refine xg_t (xg_blk (b := [(0, 1, 2, 0, 0, 0), (1, 2, 4, 59, 0, 0), (3, 3, 6, 30, 0, 0), (6, 1, 2, 0, 0, 0), (7, 2, 4, 58, 0, 0), (9, 3, 6, 30, 0, 0), (12, 1, 2, 0, 0, 0), (13, 2, 4, 60, 0, 0), (15, 3, 6, 30, 0, 0), (18, 1, 2, 0, 0, 0), (19, 2, 4, 62, 0, 0), (21, 3, 6, 30, 0, 0), (24, 1, 2, 0, 0, 0), (25, 2, 4, 61, 0, 0), (27, 3, 6, 34, 1, 0)]) rfl) ?_
  refine xg_t (xg_iload (va := (0, by_)) rfl rfl) ?_
  refine xg_t (xg_bip) ?_
  by_cases hc1 : by_ = 59
  · refine xg_t (xg_icT (u := by_) (v := 59) rfl xnm0 xnm0 (xj_eqT hc1)) ?_
    refine xg_t (xg_blk (b := [(30, 1, 3, 1, 0, 0), (31, 3, 8, 35, 0, 0)]) rfl) ?_
    refine xg_t (xg_const) ?_
    refine xg_t (xg_goto) ?_
    refine xg_t (xg_blk (b := [(35, 1, 12, 0, 1, 0)]) rfl) ?_
    exact xg_e ⟨1, w, ⟨rfl, rfl⟩, by omega, hI, xFr.rf⟩
  · refine xg_t (xg_icF (u := by_) (v := 59) rfl xnm0 xnm0 (xj_eqF hc1)) ?_
    refine xg_t (xg_iload (va := (0, by_)) rfl rfl) ?_
    refine xg_t (xg_bip) ?_
    by_cases hc2 : by_ = 58
    · refine xg_t (xg_icT (u := by_) (v := 58) rfl xnm0 xnm0 (xj_eqT hc2)) ?_
      refine xg_t (xg_blk (b := [(30, 1, 3, 1, 0, 0), (31, 3, 8, 35, 0, 0)]) rfl) ?_
      refine xg_t (xg_const) ?_
      refine xg_t (xg_goto) ?_
      refine xg_t (xg_blk (b := [(35, 1, 12, 0, 1, 0)]) rfl) ?_
      exact xg_e ⟨1, w, ⟨rfl, rfl⟩, by omega, hI, xFr.rf⟩
    · refine xg_t (xg_icF (u := by_) (v := 58) rfl xnm0 xnm0 (xj_eqF hc2)) ?_
      refine xg_t (xg_iload (va := (0, by_)) rfl rfl) ?_
      refine xg_t (xg_bip) ?_
      by_cases hc3 : by_ = 60
      · refine xg_t (xg_icT (u := by_) (v := 60) rfl xnm0 xnm0 (xj_eqT hc3)) ?_
        refine xg_t (xg_blk (b := [(30, 1, 3, 1, 0, 0), (31, 3, 8, 35, 0, 0)]) rfl) ?_
        refine xg_t (xg_const) ?_
        refine xg_t (xg_goto) ?_
        refine xg_t (xg_blk (b := [(35, 1, 12, 0, 1, 0)]) rfl) ?_
        exact xg_e ⟨1, w, ⟨rfl, rfl⟩, by omega, hI, xFr.rf⟩
      · refine xg_t (xg_icF (u := by_) (v := 60) rfl xnm0 xnm0 (xj_eqF hc3)) ?_
        refine xg_t (xg_iload (va := (0, by_)) rfl rfl) ?_
        refine xg_t (xg_bip) ?_
        by_cases hc4 : by_ = 62
        · refine xg_t (xg_icT (u := by_) (v := 62) rfl xnm0 xnm0 (xj_eqT hc4)) ?_
          refine xg_t (xg_blk (b := [(30, 1, 3, 1, 0, 0), (31, 3, 8, 35, 0, 0)]) rfl) ?_
          refine xg_t (xg_const) ?_
          refine xg_t (xg_goto) ?_
          refine xg_t (xg_blk (b := [(35, 1, 12, 0, 1, 0)]) rfl) ?_
          exact xg_e ⟨1, w, ⟨rfl, rfl⟩, by omega, hI, xFr.rf⟩
        · refine xg_t (xg_icF (u := by_) (v := 62) rfl xnm0 xnm0 (xj_eqF hc4)) ?_
          refine xg_t (xg_iload (va := (0, by_)) rfl rfl) ?_
          refine xg_t (xg_bip) ?_
          by_cases hc5 : by_ = 61
          · refine xg_t (xg_icF (u := by_) (v := 61) rfl xnm0 xnm0 (xj_neF hc5)) ?_
            refine xg_t (xg_blk (b := [(30, 1, 3, 1, 0, 0), (31, 3, 8, 35, 0, 0)]) rfl) ?_
            refine xg_t (xg_const) ?_
            refine xg_t (xg_goto) ?_
            refine xg_t (xg_blk (b := [(35, 1, 12, 0, 1, 0)]) rfl) ?_
            exact xg_e ⟨1, w, ⟨rfl, rfl⟩, by omega, hI, xFr.rf⟩
          · refine xg_t (xg_icT (u := by_) (v := 61) rfl xnm0 xnm0 (xj_neT hc5)) ?_
            refine xg_t (xg_blk (b := [(34, 1, 3, 0, 0, 0)]) rfl) ?_
            refine xg_t (xg_const) ?_
            refine xg_t (xg_blk (b := [(35, 1, 12, 0, 1, 0)]) rfl) ?_
            exact xg_e ⟨0, w, ⟨rfl, rfl⟩, by omega, hI, xFr.rf⟩
theorem tkTakeDigits42 (hI : xInv w)  : xPq (d + 1) mX8_takeDigits [(2, 42)] w bd fc rr [] (fun w' => xInv w' ∧ xFr [42] w w') := by
  refine xPq.of ?_
  show xTo (d + 1) mX8_takeDigits (0, [], [(0, (2, 42))], [], (w, bd, fc, 0, 0, rr)) (fun φ => ∃ w', xEnd 0 [] (w', bd, fc, 0, 0, rr) φ ∧ xInv w' ∧ xFr [42] w w')
  obtain ⟨g2_1, h2_2, hb3⟩ := (hI 2 (by decide) : cpY 500 0 (wget w 2))
  have h2_2 : xRk 1 0 w 2 500 0 g2_1 := h2_2
  refine xg_t (xg_blk (b := [(0, 1, 0, 0, 0, 0), (1, 1, 3, 0, 0, 0), (2, 3, 14, 8, 5, 48)]) rfl) ?_
  refine xg_t (xg_aload (va := (2, 42)) rfl rfl) ?_
  refine xg_t (xg_const) ?_
  obtain ⟨f42_4, f42_6, f42_8, f42_10, f42_12, h42_14, hb5, hb7, hb9, hb11, hb13, hb15⟩ := (hI 42 (by decide) : cp42 (wget w 42))
  refine xg_putI (fl1 := [(2, 2), (0, f42_4), (0, f42_6), (0, f42_8), (0, f42_10), (0, 0)]) h42_14 rfl rfl rfl (fun w16 hk17 hb18 => ?_)
  have key19 : ∀ (m21 : Nat) (le1 kd1 pl1 af1 nu1 : Nat) (w22 : List (List xE)), 500 - af1 < m21 → le1 ≤ 500 → kd1 ≤ 4294967295 → pl1 ≤ 500 → af1 ≤ 500 → nu1 ≤ 4294967295 → wget w22 42 = some (.inl (8, [(2, 2), (0, le1), (0, kd1), (0, pl1), (0, af1), (0, nu1)])) → xInv w22 → xFr [42] w w22 → xTo (d + 1) mX8_takeDigits (5, [], [(0, (2, 42))], [], (w22, bd, fc, 0, 0, rr)) (fun φ => ∃ w', xEnd 0 [] (w', bd, fc, 0, 0, rr) φ ∧ xInv w' ∧ xFr [42] w w') := by
    intro m21
    induction m21 with
    | zero => intro le1 kd1 pl1 af1 nu1 w22 hz; exact absurd hz (Nat.not_lt_zero _)
    | succ m21 ih20 =>
      intro le1 kd1 pl1 af1 nu1 w22 hm31 hn25 hn26 hn27 hn28 hn29 hcl30 hI23 hF24
      refine xg_t (xg_blk (b := [(5, 1, 0, 0, 0, 0), (6, 3, 1, 8, 4, 23), (9, 1, 0, 0, 0, 0), (10, 3, 1, 8, 1, 19), (13, 3, 6, 81, 3, 0), (16, 1, 0, 0, 0, 0), (17, 3, 1, 8, 0, 7), (20, 1, 0, 0, 0, 0), (21, 3, 1, 8, 4, 23), (24, 1, 32, 0, 0, 0), (25, 3, 13, 314, 66, 39), (28, 3, 7, 81, 0, 0), (31, 1, 0, 0, 0, 0), (32, 3, 1, 8, 4, 23), (35, 1, 0, 0, 0, 0), (36, 3, 1, 8, 3, 29), (39, 1, 18, 0, 0, 0), (40, 1, 3, 4, 0, 0), (41, 3, 6, 68, 3, 0), (44, 1, 0, 0, 0, 0), (45, 1, 0, 0, 0, 0), (46, 3, 1, 8, 5, 48), (49, 2, 4, 10, 0, 0), (51, 1, 16, 0, 0, 0), (52, 1, 0, 0, 0, 0), (53, 3, 1, 8, 0, 7), (56, 1, 0, 0, 0, 0), (57, 3, 1, 8, 4, 23), (60, 1, 32, 0, 0, 0), (61, 1, 11, 0, 0, 0), (62, 2, 4, 48, 0, 0), (64, 1, 18, 0, 0, 0), (65, 3, 14, 8, 5, 48)]) rfl) ?_
      refine xg_t (xg_aload (va := (2, 42)) rfl rfl) ?_
      refine xg_t (xg_getf (va := (0, af1)) hcl30 rfl) ?_
      refine xg_t (xg_aload (va := (2, 42)) rfl rfl) ?_
      refine xg_t (xg_getf (va := (0, le1)) hcl30 rfl) ?_
      by_cases hc32 : af1 < le1
      · refine xg_t (xg_icF (u := af1) (v := le1) rfl xnm0 xnm0 (xj_geF hc32 (by omega))) ?_
        refine xg_t (xg_aload (va := (2, 42)) rfl rfl) ?_
        refine xg_t (xg_getf (va := (2, 2)) hcl30 rfl) ?_
        refine xg_t (xg_aload (va := (2, 42)) rfl rfl) ?_
        refine xg_t (xg_getf (va := (0, af1)) hcl30 rfl) ?_
        refine xg_baldY (n := af1) (h2_2.fr hF24 (by decide)) (hb3) xnm0 (by omega) (fun u33 hu34 he35 => ?_)
        refine xg_cSi mX8_isDigit (vs := [(0, u33)]) (rest := []) (cn1 := 0) (sl1 := 0) rfl (tkIsDigit (hI23) (by omega)) rfl rfl rfl rfl rfl rfl rfl (fun n40 w36 hq37 => ?_)
        obtain ⟨hn41, hI38, hF39⟩ := hq37
        by_cases hc42 : n40 = 0
        · refine xg_t (xg_ifT (u := n40) rfl xnm0 (xj_eqT hc42)) ?_
          refine xg_t (xg_blk (b := [(81, 1, 0, 0, 0, 0), (82, 1, 0, 0, 0, 0), (83, 3, 1, 8, 4, 23), (86, 1, 0, 0, 0, 0), (87, 3, 1, 8, 3, 29), (90, 1, 18, 0, 0, 0), (91, 1, 3, 4, 0, 0), (92, 3, 6, 99, 5, 0), (95, 1, 3, 4, 0, 0), (96, 3, 8, 100, 0, 0)]) rfl) ?_
          refine xg_t (xg_aload (va := (2, 42)) rfl rfl) ?_
          refine xg_t (xg_aload (va := (2, 42)) rfl rfl) ?_
          refine xg_t (xg_getf (va := (0, af1)) (hF39.get (by decide) hcl30) rfl) ?_
          refine xg_t (xg_aload (va := (2, 42)) rfl rfl) ?_
          refine xg_t (xg_getf (va := (0, pl1)) (hF39.get (by decide) hcl30) rfl) ?_
          refine xg_k (xg_isub (u := af1) (v := pl1) (z := (af1 + (4294967296 - pl1)) % 4294967296) xnm0 xnm0 rfl) (Nat.mod_lt _ (by decide)) (fun z43 hz44 => ?_)
          refine xg_t (xg_const) ?_
          by_cases hc45 : xbs 4 < xbs z43
          · have hc45u := hc45
            unfold xbs at hc45u
            have hn46 : z43 ≤ 2147483647 := by omega
            refine xg_t (xg_icF (u := z43) (v := 4) rfl xnm0 xnm0 (xjs_leF hc45)) ?_
            refine xg_t (xg_const) ?_
            refine xg_t (xg_goto) ?_
            refine xg_t (xg_blk (b := [(100, 3, 14, 8, 2, 32), (103, 1, 12, 0, 0, 0)]) rfl) ?_
            refine xg_putI (fl1 := [(2, 2), (0, le1), (0, 4), (0, pl1), (0, af1), (0, nu1)]) (hF39.get (by decide) hcl30) rfl rfl rfl (fun w47 hk48 hb49 => ?_)
            exact xg_e ⟨w47, ⟨rfl, rfl⟩, xInv.up (S := [42]) hI38 (xFr.of (S := [42]) hb49 (by decide)) (List.forall_mem_cons.mpr ⟨(show cp42 (wget w47 42) from ⟨le1, 4, pl1, af1, nu1, hk48, by omega, by omega, by omega, by omega, by omega, by omega⟩), fun _ h => absurd h List.not_mem_nil⟩), ((hF24.tr (hF39.up (by decide))).tr (xFr.of (S := [42]) hb49 (by decide)))⟩
          · have hc45u := hc45
            unfold xbs at hc45u
            refine xg_t (xg_icT (u := z43) (v := 4) rfl xnm0 xnm0 (xjs_leT hc45)) ?_
            refine xg_t (xg_blk (b := [(99, 1, 3, 2, 0, 0)]) rfl) ?_
            refine xg_t (xg_const) ?_
            refine xg_t (xg_blk (b := [(100, 3, 14, 8, 2, 32), (103, 1, 12, 0, 0, 0)]) rfl) ?_
            refine xg_putI (fl1 := [(2, 2), (0, le1), (0, 2), (0, pl1), (0, af1), (0, nu1)]) (hF39.get (by decide) hcl30) rfl rfl rfl (fun w50 hk51 hb52 => ?_)
            exact xg_e ⟨w50, ⟨rfl, rfl⟩, xInv.up (S := [42]) hI38 (xFr.of (S := [42]) hb52 (by decide)) (List.forall_mem_cons.mpr ⟨(show cp42 (wget w50 42) from ⟨le1, 2, pl1, af1, nu1, hk51, by omega, by omega, by omega, by omega, by omega, by omega⟩), fun _ h => absurd h List.not_mem_nil⟩), ((hF24.tr (hF39.up (by decide))).tr (xFr.of (S := [42]) hb52 (by decide)))⟩
        · refine xg_t (xg_ifF (u := n40) rfl xnm0 (xj_eqF hc42)) ?_
          refine xg_t (xg_aload (va := (2, 42)) rfl rfl) ?_
          refine xg_t (xg_getf (va := (0, af1)) (hF39.get (by decide) hcl30) rfl) ?_
          refine xg_t (xg_aload (va := (2, 42)) rfl rfl) ?_
          refine xg_t (xg_getf (va := (0, pl1)) (hF39.get (by decide) hcl30) rfl) ?_
          refine xg_k (xg_isub (u := af1) (v := pl1) (z := (af1 + (4294967296 - pl1)) % 4294967296) xnm0 xnm0 rfl) (Nat.mod_lt _ (by decide)) (fun z53 hz54 => ?_)
          refine xg_t (xg_const) ?_
          by_cases hc55 : xbs z53 < xbs 4
          · have hc55u := hc55
            unfold xbs at hc55u
            refine xg_t (xg_icF (u := z53) (v := 4) rfl xnm0 xnm0 (xjs_geF hc55)) ?_
            refine xg_t (xg_aload (va := (2, 42)) rfl rfl) ?_
            refine xg_t (xg_aload (va := (2, 42)) rfl rfl) ?_
            refine xg_t (xg_getf (va := (0, nu1)) (hF39.get (by decide) hcl30) rfl) ?_
            refine xg_t (xg_bip) ?_
            refine xg_k (xg_imul (u := nu1) (v := 10) (z := (nu1 * 10) % 4294967296) xnm0 xnm0 rfl) (Nat.mod_lt _ (by decide)) (fun z56 hz57 => ?_)
            refine xg_t (xg_aload (va := (2, 42)) rfl rfl) ?_
            refine xg_t (xg_getf (va := (2, 2)) (hF39.get (by decide) hcl30) rfl) ?_
            refine xg_t (xg_aload (va := (2, 42)) rfl rfl) ?_
            refine xg_t (xg_getf (va := (0, af1)) (hF39.get (by decide) hcl30) rfl) ?_
            refine xg_baldY (n := af1) ((h2_2.fr hF24 (by decide)).fr hF39 (by decide)) (hb3) xnm0 (by omega) (fun u58 hu59 he60 => ?_)
            refine xg_k (xg_iadd (u := z56) (v := u58) (z := (z56 + u58) % 4294967296) xnm0 xnm0 rfl) (Nat.mod_lt _ (by decide)) (fun z61 hz62 => ?_)
            refine xg_t (xg_bip) ?_
            refine xg_k (xg_isub (u := z61) (v := 48) (z := (z61 + (4294967296 - 48)) % 4294967296) xnm0 xnm0 rfl) (Nat.mod_lt _ (by decide)) (fun z63 hz64 => ?_)
            refine xg_putI (fl1 := [(2, 2), (0, le1), (0, kd1), (0, pl1), (0, af1), (0, z63)]) (hF39.get (by decide) hcl30) rfl rfl rfl (fun w65 hk66 hb67 => ?_)
            refine xg_t (xg_blk (b := [(68, 1, 0, 0, 0, 0), (69, 1, 19, 0, 0, 0), (70, 3, 1, 8, 4, 23), (73, 1, 3, 1, 0, 0), (74, 1, 11, 0, 0, 0), (75, 3, 14, 8, 4, 23), (78, 3, 8, 5, 0, 0)]) rfl) ?_
            refine xg_t (xg_aload (va := (2, 42)) rfl rfl) ?_
            refine xg_t (xg_dup rfl) ?_
            refine xg_t (xg_getf (va := (0, af1)) hk66 rfl) ?_
            refine xg_t (xg_const) ?_
            refine xg_t (xg_iadd (u := af1) (v := 1) (z := af1 + 1) xnm0 xnm0 (by omega)) ?_
            refine xg_putI (fl1 := [(2, 2), (0, le1), (0, kd1), (0, pl1), (0, af1 + 1), (0, z63)]) hk66 rfl rfl rfl (fun w68 hk69 hb70 => ?_)
            refine xg_t (xg_goto) ?_
            exact ih20 le1 kd1 pl1 (af1 + 1) z63 w68 (by omega) (by omega) (by omega) (by omega) (by omega) (by omega) hk69 (xInv.up (S := [42]) hI38 ((xFr.of (S := [42]) hb67 (by decide)).tr (xFr.of (S := [42]) hb70 (by decide))) (List.forall_mem_cons.mpr ⟨(show cp42 (wget w68 42) from ⟨le1, kd1, pl1, af1 + 1, z63, hk69, by omega, by omega, by omega, by omega, by omega, by omega⟩), fun _ h => absurd h List.not_mem_nil⟩)) (((hF24.tr (hF39.up (by decide))).tr ((xFr.of (S := [42]) hb67 (by decide)).tr (xFr.of (S := [42]) hb70 (by decide)))))
          · have hc55u := hc55
            unfold xbs at hc55u
            have hn71 : z53 ≤ 2147483647 := by omega
            refine xg_t (xg_icT (u := z53) (v := 4) rfl xnm0 xnm0 (xjs_geT hc55)) ?_
            refine xg_t (xg_blk (b := [(68, 1, 0, 0, 0, 0), (69, 1, 19, 0, 0, 0), (70, 3, 1, 8, 4, 23), (73, 1, 3, 1, 0, 0), (74, 1, 11, 0, 0, 0), (75, 3, 14, 8, 4, 23), (78, 3, 8, 5, 0, 0)]) rfl) ?_
            refine xg_t (xg_aload (va := (2, 42)) rfl rfl) ?_
            refine xg_t (xg_dup rfl) ?_
            refine xg_t (xg_getf (va := (0, af1)) (hF39.get (by decide) hcl30) rfl) ?_
            refine xg_t (xg_const) ?_
            refine xg_t (xg_iadd (u := af1) (v := 1) (z := af1 + 1) xnm0 xnm0 (by omega)) ?_
            refine xg_putI (fl1 := [(2, 2), (0, le1), (0, kd1), (0, pl1), (0, af1 + 1), (0, nu1)]) (hF39.get (by decide) hcl30) rfl rfl rfl (fun w72 hk73 hb74 => ?_)
            refine xg_t (xg_goto) ?_
            exact ih20 le1 kd1 pl1 (af1 + 1) nu1 w72 (by omega) (by omega) (by omega) (by omega) (by omega) (by omega) hk73 (xInv.up (S := [42]) hI38 (xFr.of (S := [42]) hb74 (by decide)) (List.forall_mem_cons.mpr ⟨(show cp42 (wget w72 42) from ⟨le1, kd1, pl1, af1 + 1, nu1, hk73, by omega, by omega, by omega, by omega, by omega, by omega⟩), fun _ h => absurd h List.not_mem_nil⟩)) (((hF24.tr (hF39.up (by decide))).tr (xFr.of (S := [42]) hb74 (by decide))))
      · refine xg_t (xg_icT (u := af1) (v := le1) rfl xnm0 xnm0 (xj_geT (by omega) (by omega))) ?_
        refine xg_t (xg_blk (b := [(81, 1, 0, 0, 0, 0), (82, 1, 0, 0, 0, 0), (83, 3, 1, 8, 4, 23), (86, 1, 0, 0, 0, 0), (87, 3, 1, 8, 3, 29), (90, 1, 18, 0, 0, 0), (91, 1, 3, 4, 0, 0), (92, 3, 6, 99, 5, 0), (95, 1, 3, 4, 0, 0), (96, 3, 8, 100, 0, 0)]) rfl) ?_
        refine xg_t (xg_aload (va := (2, 42)) rfl rfl) ?_
        refine xg_t (xg_aload (va := (2, 42)) rfl rfl) ?_
        refine xg_t (xg_getf (va := (0, af1)) hcl30 rfl) ?_
        refine xg_t (xg_aload (va := (2, 42)) rfl rfl) ?_
        refine xg_t (xg_getf (va := (0, pl1)) hcl30 rfl) ?_
        refine xg_k (xg_isub (u := af1) (v := pl1) (z := (af1 + (4294967296 - pl1)) % 4294967296) xnm0 xnm0 rfl) (Nat.mod_lt _ (by decide)) (fun z75 hz76 => ?_)
        refine xg_t (xg_const) ?_
        by_cases hc77 : xbs 4 < xbs z75
        · have hc77u := hc77
          unfold xbs at hc77u
          have hn78 : z75 ≤ 2147483647 := by omega
          refine xg_t (xg_icF (u := z75) (v := 4) rfl xnm0 xnm0 (xjs_leF hc77)) ?_
          refine xg_t (xg_const) ?_
          refine xg_t (xg_goto) ?_
          refine xg_t (xg_blk (b := [(100, 3, 14, 8, 2, 32), (103, 1, 12, 0, 0, 0)]) rfl) ?_
          refine xg_putI (fl1 := [(2, 2), (0, le1), (0, 4), (0, pl1), (0, af1), (0, nu1)]) hcl30 rfl rfl rfl (fun w79 hk80 hb81 => ?_)
          exact xg_e ⟨w79, ⟨rfl, rfl⟩, xInv.up (S := [42]) hI23 (xFr.of (S := [42]) hb81 (by decide)) (List.forall_mem_cons.mpr ⟨(show cp42 (wget w79 42) from ⟨le1, 4, pl1, af1, nu1, hk80, by omega, by omega, by omega, by omega, by omega, by omega⟩), fun _ h => absurd h List.not_mem_nil⟩), (hF24.tr (xFr.of (S := [42]) hb81 (by decide)))⟩
        · have hc77u := hc77
          unfold xbs at hc77u
          refine xg_t (xg_icT (u := z75) (v := 4) rfl xnm0 xnm0 (xjs_leT hc77)) ?_
          refine xg_t (xg_blk (b := [(99, 1, 3, 2, 0, 0)]) rfl) ?_
          refine xg_t (xg_const) ?_
          refine xg_t (xg_blk (b := [(100, 3, 14, 8, 2, 32), (103, 1, 12, 0, 0, 0)]) rfl) ?_
          refine xg_putI (fl1 := [(2, 2), (0, le1), (0, 2), (0, pl1), (0, af1), (0, nu1)]) hcl30 rfl rfl rfl (fun w82 hk83 hb84 => ?_)
          exact xg_e ⟨w82, ⟨rfl, rfl⟩, xInv.up (S := [42]) hI23 (xFr.of (S := [42]) hb84 (by decide)) (List.forall_mem_cons.mpr ⟨(show cp42 (wget w82 42) from ⟨le1, 2, pl1, af1, nu1, hk83, by omega, by omega, by omega, by omega, by omega, by omega⟩), fun _ h => absurd h List.not_mem_nil⟩), (hF24.tr (xFr.of (S := [42]) hb84 (by decide)))⟩
  exact key19 _ f42_4 f42_6 f42_8 f42_10 0 w16 (Nat.lt_succ_self _) (by omega) (by omega) (by omega) (by omega) (by omega) hk17 (xInv.up (S := [42]) hI (xFr.of (S := [42]) hb18 (by decide)) (List.forall_mem_cons.mpr ⟨(show cp42 (wget w16 42) from ⟨f42_4, f42_6, f42_8, f42_10, 0, hk17, by omega, by omega, by omega, by omega, by omega, by omega⟩), fun _ h => absurd h List.not_mem_nil⟩)) ((xFr.of (S := [42]) hb18 (by decide)))
theorem tkAdvance42 (hI : xInv w)  : xPq (d + 2) mX8_advance [(2, 42)] w bd fc rr [] (fun w' => xInv w' ∧ xFr [42] w w') := by
  refine xPq.of ?_
  show xTo (d + 2) mX8_advance (0, [], [(0, (2, 42))], [], (w, bd, fc, 0, 0, rr)) (fun φ => ∃ w', xEnd 0 [] (w', bd, fc, 0, 0, rr) φ ∧ xInv w' ∧ xFr [42] w w')
  obtain ⟨g2_1, h2_2, hb3⟩ := (hI 2 (by decide) : cpY 500 0 (wget w 2))
  have h2_2 : xRk 1 0 w 2 500 0 g2_1 := h2_2
  obtain ⟨f42_4, f42_6, f42_8, f42_10, f42_12, h42_14, hb5, hb7, hb9, hb11, hb13, hb15⟩ := (hI 42 (by decide) : cp42 (wget w 42))
  have key16 : ∀ (m18 : Nat) (le1 kd1 pl1 af1 nu1 : Nat) (w19 : List (List xE)), 500 - af1 < m18 → le1 ≤ 500 → kd1 ≤ 4294967295 → pl1 ≤ 500 → af1 ≤ 500 → nu1 ≤ 4294967295 → wget w19 42 = some (.inl (8, [(2, 2), (0, le1), (0, kd1), (0, pl1), (0, af1), (0, nu1)])) → xInv w19 → xFr [42] w w19 → xTo (d + 2) mX8_advance (0, [], [(0, (2, 42))], [], (w19, bd, fc, 0, 0, rr)) (fun φ => ∃ w', xEnd 0 [] (w', bd, fc, 0, 0, rr) φ ∧ xInv w' ∧ xFr [42] w w') := by
    intro m18
    induction m18 with
    | zero => intro le1 kd1 pl1 af1 nu1 w19 hz; exact absurd hz (Nat.not_lt_zero _)
    | succ m18 ih17 =>
      intro le1 kd1 pl1 af1 nu1 w19 hm28 hn22 hn23 hn24 hn25 hn26 hcl27 hI20 hF21
      refine xg_t (xg_blk (b := [(0, 1, 0, 0, 0, 0), (1, 3, 1, 8, 4, 23), (4, 1, 0, 0, 0, 0), (5, 3, 1, 8, 1, 19), (8, 3, 6, 52, 3, 0), (11, 1, 0, 0, 0, 0), (12, 3, 1, 8, 0, 7), (15, 1, 0, 0, 0, 0), (16, 3, 1, 8, 4, 23), (19, 1, 32, 0, 0, 0), (20, 2, 4, 32, 0, 0), (22, 3, 6, 39, 0, 0), (25, 1, 0, 0, 0, 0), (26, 3, 1, 8, 0, 7), (29, 1, 0, 0, 0, 0), (30, 3, 1, 8, 4, 23), (33, 1, 32, 0, 0, 0), (34, 2, 4, 10, 0, 0), (36, 3, 6, 52, 1, 0)]) rfl) ?_
      refine xg_t (xg_aload (va := (2, 42)) rfl rfl) ?_
      refine xg_t (xg_getf (va := (0, af1)) hcl27 rfl) ?_
      refine xg_t (xg_aload (va := (2, 42)) rfl rfl) ?_
      refine xg_t (xg_getf (va := (0, le1)) hcl27 rfl) ?_
      by_cases hc29 : af1 < le1
      · refine xg_t (xg_icF (u := af1) (v := le1) rfl xnm0 xnm0 (xj_geF hc29 (by omega))) ?_
        refine xg_t (xg_aload (va := (2, 42)) rfl rfl) ?_
        refine xg_t (xg_getf (va := (2, 2)) hcl27 rfl) ?_
        refine xg_t (xg_aload (va := (2, 42)) rfl rfl) ?_
        refine xg_t (xg_getf (va := (0, af1)) hcl27 rfl) ?_
        refine xg_baldY (n := af1) (h2_2.fr hF21 (by decide)) (hb3) xnm0 (by omega) (fun u30 hu31 he32 => ?_)
        refine xg_t (xg_bip) ?_
        by_cases hc33 : u30 = 32
        · refine xg_t (xg_icT (u := u30) (v := 32) rfl xnm0 xnm0 (xj_eqT hc33)) ?_
          refine xg_t (xg_blk (b := [(39, 1, 0, 0, 0, 0), (40, 1, 19, 0, 0, 0), (41, 3, 1, 8, 4, 23), (44, 1, 3, 1, 0, 0), (45, 1, 11, 0, 0, 0), (46, 3, 14, 8, 4, 23), (49, 3, 8, 0, 0, 0)]) rfl) ?_
          refine xg_t (xg_aload (va := (2, 42)) rfl rfl) ?_
          refine xg_t (xg_dup rfl) ?_
          refine xg_t (xg_getf (va := (0, af1)) hcl27 rfl) ?_
          refine xg_t (xg_const) ?_
          refine xg_t (xg_iadd (u := af1) (v := 1) (z := af1 + 1) xnm0 xnm0 (by omega)) ?_
          refine xg_putI (fl1 := [(2, 2), (0, le1), (0, kd1), (0, pl1), (0, af1 + 1), (0, nu1)]) hcl27 rfl rfl rfl (fun w34 hk35 hb36 => ?_)
          refine xg_t (xg_goto) ?_
          exact ih17 le1 kd1 pl1 (af1 + 1) nu1 w34 (by omega) (by omega) (by omega) (by omega) (by omega) (by omega) hk35 (xInv.up (S := [42]) hI20 (xFr.of (S := [42]) hb36 (by decide)) (List.forall_mem_cons.mpr ⟨(show cp42 (wget w34 42) from ⟨le1, kd1, pl1, af1 + 1, nu1, hk35, by omega, by omega, by omega, by omega, by omega, by omega⟩), fun _ h => absurd h List.not_mem_nil⟩)) ((hF21.tr (xFr.of (S := [42]) hb36 (by decide))))
        · refine xg_t (xg_icF (u := u30) (v := 32) rfl xnm0 xnm0 (xj_eqF hc33)) ?_
          refine xg_t (xg_aload (va := (2, 42)) rfl rfl) ?_
          refine xg_t (xg_getf (va := (2, 2)) hcl27 rfl) ?_
          refine xg_t (xg_aload (va := (2, 42)) rfl rfl) ?_
          refine xg_t (xg_getf (va := (0, af1)) hcl27 rfl) ?_
          refine xg_baldY (n := af1) (h2_2.fr hF21 (by decide)) (hb3) xnm0 (by omega) (fun u37 hu38 he39 => ?_)
          refine xg_t (xg_bip) ?_
          by_cases hc40 : u37 = 10
          · refine xg_t (xg_icF (u := u37) (v := 10) rfl xnm0 xnm0 (xj_neF hc40)) ?_
            refine xg_t (xg_blk (b := [(39, 1, 0, 0, 0, 0), (40, 1, 19, 0, 0, 0), (41, 3, 1, 8, 4, 23), (44, 1, 3, 1, 0, 0), (45, 1, 11, 0, 0, 0), (46, 3, 14, 8, 4, 23), (49, 3, 8, 0, 0, 0)]) rfl) ?_
            refine xg_t (xg_aload (va := (2, 42)) rfl rfl) ?_
            refine xg_t (xg_dup rfl) ?_
            refine xg_t (xg_getf (va := (0, af1)) hcl27 rfl) ?_
            refine xg_t (xg_const) ?_
            refine xg_t (xg_iadd (u := af1) (v := 1) (z := af1 + 1) xnm0 xnm0 (by omega)) ?_
            refine xg_putI (fl1 := [(2, 2), (0, le1), (0, kd1), (0, pl1), (0, af1 + 1), (0, nu1)]) hcl27 rfl rfl rfl (fun w41 hk42 hb43 => ?_)
            refine xg_t (xg_goto) ?_
            exact ih17 le1 kd1 pl1 (af1 + 1) nu1 w41 (by omega) (by omega) (by omega) (by omega) (by omega) (by omega) hk42 (xInv.up (S := [42]) hI20 (xFr.of (S := [42]) hb43 (by decide)) (List.forall_mem_cons.mpr ⟨(show cp42 (wget w41 42) from ⟨le1, kd1, pl1, af1 + 1, nu1, hk42, by omega, by omega, by omega, by omega, by omega, by omega⟩), fun _ h => absurd h List.not_mem_nil⟩)) ((hF21.tr (xFr.of (S := [42]) hb43 (by decide))))
          · refine xg_t (xg_icT (u := u37) (v := 10) rfl xnm0 xnm0 (xj_neT hc40)) ?_
            refine xg_t (xg_blk (b := [(52, 1, 0, 0, 0, 0), (53, 1, 0, 0, 0, 0), (54, 3, 1, 8, 4, 23), (57, 3, 14, 8, 3, 29), (60, 1, 0, 0, 0, 0), (61, 3, 1, 8, 4, 23), (64, 1, 0, 0, 0, 0), (65, 3, 1, 8, 1, 19), (68, 3, 6, 79, 2, 0), (71, 1, 0, 0, 0, 0), (72, 1, 3, 0, 0, 0), (73, 3, 14, 8, 2, 32), (76, 3, 8, 194, 0, 0)]) rfl) ?_
            refine xg_t (xg_aload (va := (2, 42)) rfl rfl) ?_
            refine xg_t (xg_aload (va := (2, 42)) rfl rfl) ?_
            refine xg_t (xg_getf (va := (0, af1)) hcl27 rfl) ?_
            refine xg_putI (fl1 := [(2, 2), (0, le1), (0, kd1), (0, af1), (0, af1), (0, nu1)]) hcl27 rfl rfl rfl (fun w44 hk45 hb46 => ?_)
            refine xg_t (xg_aload (va := (2, 42)) rfl rfl) ?_
            refine xg_t (xg_getf (va := (0, af1)) hk45 rfl) ?_
            refine xg_t (xg_aload (va := (2, 42)) rfl rfl) ?_
            refine xg_t (xg_getf (va := (0, le1)) hk45 rfl) ?_
            by_cases hc47 : af1 < le1
            · refine xg_t (xg_icT (u := af1) (v := le1) rfl xnm0 xnm0 (xj_ltT hc47 (by omega))) ?_
              refine xg_t (xg_blk (b := [(79, 1, 0, 0, 0, 0), (80, 3, 1, 8, 0, 7), (83, 1, 0, 0, 0, 0), (84, 3, 1, 8, 4, 23), (87, 1, 32, 0, 0, 0), (88, 3, 13, 315, 66, 35), (91, 3, 7, 138, 0, 0), (94, 1, 0, 0, 0, 0), (95, 1, 3, 1, 0, 0), (96, 3, 14, 8, 2, 32)]) rfl) ?_
              refine xg_t (xg_aload (va := (2, 42)) rfl rfl) ?_
              refine xg_t (xg_getf (va := (2, 2)) hk45 rfl) ?_
              refine xg_t (xg_aload (va := (2, 42)) rfl rfl) ?_
              refine xg_t (xg_getf (va := (0, af1)) hk45 rfl) ?_
              refine xg_baldY (n := af1) ((h2_2.fr hF21 (by decide)).but hb46 (by decide)) (hb3) xnm0 (by omega) (fun u48 hu49 he50 => ?_)
              refine xg_cSi mX8_isLetter (vs := [(0, u48)]) (rest := []) (cn1 := 0) (sl1 := 0) rfl (tkIsLetter (xInv.up (S := [42]) hI20 (xFr.of (S := [42]) hb46 (by decide)) (List.forall_mem_cons.mpr ⟨(show cp42 (wget w44 42) from ⟨le1, kd1, af1, af1, nu1, hk45, by omega, by omega, by omega, by omega, by omega, by omega⟩), fun _ h => absurd h List.not_mem_nil⟩)) (by omega)) rfl rfl rfl rfl rfl rfl rfl (fun n55 w51 hq52 => ?_)
              obtain ⟨hn56, hI53, hF54⟩ := hq52
              by_cases hc57 : n55 = 0
              · refine xg_t (xg_ifT (u := n55) rfl xnm0 (xj_eqT hc57)) ?_
                refine xg_t (xg_blk (b := [(138, 1, 0, 0, 0, 0), (139, 3, 1, 8, 0, 7), (142, 1, 0, 0, 0, 0), (143, 3, 1, 8, 4, 23), (146, 1, 32, 0, 0, 0), (147, 3, 13, 314, 66, 39), (150, 3, 7, 160, 0, 0), (153, 1, 0, 0, 0, 0), (154, 3, 13, 320, 64, 42), (157, 3, 8, 194, 0, 0)]) rfl) ?_
                refine xg_t (xg_aload (va := (2, 42)) rfl rfl) ?_
                refine xg_t (xg_getf (va := (2, 2)) (hF54.get (by decide) hk45) rfl) ?_
                refine xg_t (xg_aload (va := (2, 42)) rfl rfl) ?_
                refine xg_t (xg_getf (va := (0, af1)) (hF54.get (by decide) hk45) rfl) ?_
                refine xg_baldY (n := af1) (((h2_2.fr hF21 (by decide)).but hb46 (by decide)).fr hF54 (by decide)) (hb3) xnm0 (by omega) (fun u58 hu59 he60 => ?_)
                refine xg_cSi mX8_isDigit (vs := [(0, u58)]) (rest := []) (cn1 := 0) (sl1 := 0) rfl (tkIsDigit (hI53) (by omega)) rfl rfl rfl rfl rfl rfl rfl (fun n65 w61 hq62 => ?_)
                obtain ⟨hn66, hI63, hF64⟩ := hq62
                by_cases hc67 : n65 = 0
                · refine xg_t (xg_ifT (u := n65) rfl xnm0 (xj_eqT hc67)) ?_
                  refine xg_t (xg_blk (b := [(160, 1, 0, 0, 0, 0), (161, 1, 0, 0, 0, 0), (162, 3, 1, 8, 0, 7), (165, 1, 0, 0, 0, 0), (166, 3, 1, 8, 4, 23), (169, 1, 32, 0, 0, 0), (170, 3, 13, 317, 66, 45), (173, 3, 7, 180, 0, 0), (176, 1, 3, 3, 0, 0), (177, 3, 8, 181, 0, 0)]) rfl) ?_
                  refine xg_t (xg_aload (va := (2, 42)) rfl rfl) ?_
                  refine xg_t (xg_aload (va := (2, 42)) rfl rfl) ?_
                  refine xg_t (xg_getf (va := (2, 2)) (hF64.get (by decide) (hF54.get (by decide) hk45)) rfl) ?_
                  refine xg_t (xg_aload (va := (2, 42)) rfl rfl) ?_
                  refine xg_t (xg_getf (va := (0, af1)) (hF64.get (by decide) (hF54.get (by decide) hk45)) rfl) ?_
                  refine xg_baldY (n := af1) ((((h2_2.fr hF21 (by decide)).but hb46 (by decide)).fr hF54 (by decide)).fr hF64 (by decide)) (hb3) xnm0 (by omega) (fun u68 hu69 he70 => ?_)
                  refine xg_cSi mX8_isSignByte (vs := [(0, u68)]) (rest := [(2, 42)]) (cn1 := 0) (sl1 := 0) rfl (tkIsSignByte (hI63) (by omega)) rfl rfl rfl rfl rfl rfl rfl (fun n75 w71 hq72 => ?_)
                  obtain ⟨hn76, hI73, hF74⟩ := hq72
                  by_cases hc77 : n75 = 0
                  · refine xg_t (xg_ifT (u := n75) rfl xnm0 (xj_eqT hc77)) ?_
                    refine xg_t (xg_blk (b := [(180, 1, 3, 4, 0, 0)]) rfl) ?_
                    refine xg_t (xg_const) ?_
                    refine xg_t (xg_blk (b := [(181, 3, 14, 8, 2, 32), (184, 1, 0, 0, 0, 0), (185, 1, 19, 0, 0, 0), (186, 3, 1, 8, 4, 23), (189, 1, 3, 1, 0, 0), (190, 1, 11, 0, 0, 0), (191, 3, 14, 8, 4, 23)]) rfl) ?_
                    refine xg_putI (fl1 := [(2, 2), (0, le1), (0, 4), (0, af1), (0, af1), (0, nu1)]) (hF74.get (by decide) (hF64.get (by decide) (hF54.get (by decide) hk45))) rfl rfl rfl (fun w78 hk79 hb80 => ?_)
                    refine xg_t (xg_aload (va := (2, 42)) rfl rfl) ?_
                    refine xg_t (xg_dup rfl) ?_
                    refine xg_t (xg_getf (va := (0, af1)) hk79 rfl) ?_
                    refine xg_t (xg_const) ?_
                    refine xg_t (xg_iadd (u := af1) (v := 1) (z := af1 + 1) xnm0 xnm0 (by omega)) ?_
                    refine xg_putI (fl1 := [(2, 2), (0, le1), (0, 4), (0, af1), (0, af1 + 1), (0, nu1)]) hk79 rfl rfl rfl (fun w81 hk82 hb83 => ?_)
                    refine xg_t (xg_blk (b := [(194, 1, 12, 0, 0, 0)]) rfl) ?_
                    exact xg_e ⟨w81, ⟨rfl, rfl⟩, xInv.up (S := [42]) hI73 ((xFr.of (S := [42]) hb80 (by decide)).tr (xFr.of (S := [42]) hb83 (by decide))) (List.forall_mem_cons.mpr ⟨(show cp42 (wget w81 42) from ⟨le1, 4, af1, af1 + 1, nu1, hk82, by omega, by omega, by omega, by omega, by omega, by omega⟩), fun _ h => absurd h List.not_mem_nil⟩), (((((hF21.tr (xFr.of (S := [42]) hb46 (by decide))).tr (hF54.up (by decide))).tr (hF64.up (by decide))).tr (hF74.up (by decide))).tr ((xFr.of (S := [42]) hb80 (by decide)).tr (xFr.of (S := [42]) hb83 (by decide))))⟩
                  · refine xg_t (xg_ifF (u := n75) rfl xnm0 (xj_eqF hc77)) ?_
                    refine xg_t (xg_const) ?_
                    refine xg_t (xg_goto) ?_
                    refine xg_t (xg_blk (b := [(181, 3, 14, 8, 2, 32), (184, 1, 0, 0, 0, 0), (185, 1, 19, 0, 0, 0), (186, 3, 1, 8, 4, 23), (189, 1, 3, 1, 0, 0), (190, 1, 11, 0, 0, 0), (191, 3, 14, 8, 4, 23)]) rfl) ?_
                    refine xg_putI (fl1 := [(2, 2), (0, le1), (0, 3), (0, af1), (0, af1), (0, nu1)]) (hF74.get (by decide) (hF64.get (by decide) (hF54.get (by decide) hk45))) rfl rfl rfl (fun w84 hk85 hb86 => ?_)
                    refine xg_t (xg_aload (va := (2, 42)) rfl rfl) ?_
                    refine xg_t (xg_dup rfl) ?_
                    refine xg_t (xg_getf (va := (0, af1)) hk85 rfl) ?_
                    refine xg_t (xg_const) ?_
                    refine xg_t (xg_iadd (u := af1) (v := 1) (z := af1 + 1) xnm0 xnm0 (by omega)) ?_
                    refine xg_putI (fl1 := [(2, 2), (0, le1), (0, 3), (0, af1), (0, af1 + 1), (0, nu1)]) hk85 rfl rfl rfl (fun w87 hk88 hb89 => ?_)
                    refine xg_t (xg_blk (b := [(194, 1, 12, 0, 0, 0)]) rfl) ?_
                    exact xg_e ⟨w87, ⟨rfl, rfl⟩, xInv.up (S := [42]) hI73 ((xFr.of (S := [42]) hb86 (by decide)).tr (xFr.of (S := [42]) hb89 (by decide))) (List.forall_mem_cons.mpr ⟨(show cp42 (wget w87 42) from ⟨le1, 3, af1, af1 + 1, nu1, hk88, by omega, by omega, by omega, by omega, by omega, by omega⟩), fun _ h => absurd h List.not_mem_nil⟩), (((((hF21.tr (xFr.of (S := [42]) hb46 (by decide))).tr (hF54.up (by decide))).tr (hF64.up (by decide))).tr (hF74.up (by decide))).tr ((xFr.of (S := [42]) hb86 (by decide)).tr (xFr.of (S := [42]) hb89 (by decide))))⟩
                · refine xg_t (xg_ifF (u := n65) rfl xnm0 (xj_eqF hc67)) ?_
                  refine xg_t (xg_aload (va := (2, 42)) rfl rfl) ?_
                  refine xg_cVv mX8_takeDigits (vs := []) (rest := []) (cn1 := 0) (sl1 := 0) rfl (tkTakeDigits42 (hI63)) rfl (hF64.get (by decide) (hF54.get (by decide) hk45)) rfl rfl rfl rfl rfl rfl (fun w90 hq91 => ?_)
                  obtain ⟨hI92, hF93⟩ := hq91
                  refine xg_t (xg_goto) ?_
                  refine xg_t (xg_blk (b := [(194, 1, 12, 0, 0, 0)]) rfl) ?_
                  exact xg_e ⟨w90, ⟨rfl, rfl⟩, hI92, ((((hF21.tr (xFr.of (S := [42]) hb46 (by decide))).tr (hF54.up (by decide))).tr (hF64.up (by decide))).tr (hF93.up (by decide)))⟩
              · refine xg_t (xg_ifF (u := n55) rfl xnm0 (xj_eqF hc57)) ?_
                refine xg_t (xg_aload (va := (2, 42)) rfl rfl) ?_
                refine xg_t (xg_const) ?_
                refine xg_putI (fl1 := [(2, 2), (0, le1), (0, 1), (0, af1), (0, af1), (0, nu1)]) (hF54.get (by decide) hk45) rfl rfl rfl (fun w94 hk95 hb96 => ?_)
                have key97 : ∀ (m99 : Nat) (le2 kd2 pl2 af2 nu2 : Nat) (w100 : List (List xE)), 500 - af2 < m99 → le2 ≤ 500 → kd2 ≤ 4294967295 → pl2 ≤ 500 → af2 ≤ 500 → nu2 ≤ 4294967295 → wget w100 42 = some (.inl (8, [(2, 2), (0, le2), (0, kd2), (0, pl2), (0, af2), (0, nu2)])) → xInv w100 → xFr [42] w w100 → xTo (d + 2) mX8_advance (99, [], [(0, (2, 42))], [], (w100, bd, fc, 0, 0, rr)) (fun φ => ∃ w', xEnd 0 [] (w', bd, fc, 0, 0, rr) φ ∧ xInv w' ∧ xFr [42] w w') := by
                  intro m99
                  induction m99 with
                  | zero => intro le2 kd2 pl2 af2 nu2 w100 hz; exact absurd hz (Nat.not_lt_zero _)
                  | succ m99 ih98 =>
                    intro le2 kd2 pl2 af2 nu2 w100 hm109 hn103 hn104 hn105 hn106 hn107 hcl108 hI101 hF102
                    refine xg_t (xg_blk (b := [(99, 1, 0, 0, 0, 0), (100, 3, 1, 8, 4, 23), (103, 1, 0, 0, 0, 0), (104, 3, 1, 8, 1, 19), (107, 3, 6, 194, 3, 0), (110, 1, 0, 0, 0, 0), (111, 3, 1, 8, 0, 7), (114, 1, 0, 0, 0, 0), (115, 3, 1, 8, 4, 23), (118, 1, 32, 0, 0, 0), (119, 3, 13, 315, 66, 35), (122, 3, 7, 194, 0, 0), (125, 1, 0, 0, 0, 0), (126, 1, 19, 0, 0, 0), (127, 3, 1, 8, 4, 23), (130, 1, 3, 1, 0, 0), (131, 1, 11, 0, 0, 0), (132, 3, 14, 8, 4, 23), (135, 3, 8, 99, 0, 0)]) rfl) ?_
                    refine xg_t (xg_aload (va := (2, 42)) rfl rfl) ?_
                    refine xg_t (xg_getf (va := (0, af2)) hcl108 rfl) ?_
                    refine xg_t (xg_aload (va := (2, 42)) rfl rfl) ?_
                    refine xg_t (xg_getf (va := (0, le2)) hcl108 rfl) ?_
                    by_cases hc110 : af2 < le2
                    · refine xg_t (xg_icF (u := af2) (v := le2) rfl xnm0 xnm0 (xj_geF hc110 (by omega))) ?_
                      refine xg_t (xg_aload (va := (2, 42)) rfl rfl) ?_
                      refine xg_t (xg_getf (va := (2, 2)) hcl108 rfl) ?_
                      refine xg_t (xg_aload (va := (2, 42)) rfl rfl) ?_
                      refine xg_t (xg_getf (va := (0, af2)) hcl108 rfl) ?_
                      refine xg_baldY (n := af2) (h2_2.fr hF102 (by decide)) (hb3) xnm0 (by omega) (fun u111 hu112 he113 => ?_)
                      refine xg_cSi mX8_isLetter (vs := [(0, u111)]) (rest := []) (cn1 := 0) (sl1 := 0) rfl (tkIsLetter (hI101) (by omega)) rfl rfl rfl rfl rfl rfl rfl (fun n118 w114 hq115 => ?_)
                      obtain ⟨hn119, hI116, hF117⟩ := hq115
                      by_cases hc120 : n118 = 0
                      · refine xg_t (xg_ifT (u := n118) rfl xnm0 (xj_eqT hc120)) ?_
                        refine xg_t (xg_blk (b := [(194, 1, 12, 0, 0, 0)]) rfl) ?_
                        exact xg_e ⟨w114, ⟨rfl, rfl⟩, hI116, (hF102.tr (hF117.up (by decide)))⟩
                      · refine xg_t (xg_ifF (u := n118) rfl xnm0 (xj_eqF hc120)) ?_
                        refine xg_t (xg_aload (va := (2, 42)) rfl rfl) ?_
                        refine xg_t (xg_dup rfl) ?_
                        refine xg_t (xg_getf (va := (0, af2)) (hF117.get (by decide) hcl108) rfl) ?_
                        refine xg_t (xg_const) ?_
                        refine xg_t (xg_iadd (u := af2) (v := 1) (z := af2 + 1) xnm0 xnm0 (by omega)) ?_
                        refine xg_putI (fl1 := [(2, 2), (0, le2), (0, kd2), (0, pl2), (0, af2 + 1), (0, nu2)]) (hF117.get (by decide) hcl108) rfl rfl rfl (fun w121 hk122 hb123 => ?_)
                        refine xg_t (xg_goto) ?_
                        exact ih98 le2 kd2 pl2 (af2 + 1) nu2 w121 (by omega) (by omega) (by omega) (by omega) (by omega) (by omega) hk122 (xInv.up (S := [42]) hI116 (xFr.of (S := [42]) hb123 (by decide)) (List.forall_mem_cons.mpr ⟨(show cp42 (wget w121 42) from ⟨le2, kd2, pl2, af2 + 1, nu2, hk122, by omega, by omega, by omega, by omega, by omega, by omega⟩), fun _ h => absurd h List.not_mem_nil⟩)) (((hF102.tr (hF117.up (by decide))).tr (xFr.of (S := [42]) hb123 (by decide))))
                    · refine xg_t (xg_icT (u := af2) (v := le2) rfl xnm0 xnm0 (xj_geT (by omega) (by omega))) ?_
                      refine xg_t (xg_blk (b := [(194, 1, 12, 0, 0, 0)]) rfl) ?_
                      exact xg_e ⟨w100, ⟨rfl, rfl⟩, hI101, hF102⟩
                exact key97 _ le1 1 af1 af1 nu1 w94 (Nat.lt_succ_self _) (by omega) (by omega) (by omega) (by omega) (by omega) hk95 (xInv.up (S := [42]) hI53 (xFr.of (S := [42]) hb96 (by decide)) (List.forall_mem_cons.mpr ⟨(show cp42 (wget w94 42) from ⟨le1, 1, af1, af1, nu1, hk95, by omega, by omega, by omega, by omega, by omega, by omega⟩), fun _ h => absurd h List.not_mem_nil⟩)) ((((hF21.tr (xFr.of (S := [42]) hb46 (by decide))).tr (hF54.up (by decide))).tr (xFr.of (S := [42]) hb96 (by decide))))
            · refine xg_t (xg_icF (u := af1) (v := le1) rfl xnm0 xnm0 (xj_ltF (by omega) (by omega))) ?_
              refine xg_t (xg_aload (va := (2, 42)) rfl rfl) ?_
              refine xg_t (xg_const) ?_
              refine xg_putI (fl1 := [(2, 2), (0, le1), (0, 0), (0, af1), (0, af1), (0, nu1)]) hk45 rfl rfl rfl (fun w124 hk125 hb126 => ?_)
              refine xg_t (xg_goto) ?_
              refine xg_t (xg_blk (b := [(194, 1, 12, 0, 0, 0)]) rfl) ?_
              exact xg_e ⟨w124, ⟨rfl, rfl⟩, xInv.up (S := [42]) hI20 ((xFr.of (S := [42]) hb46 (by decide)).tr (xFr.of (S := [42]) hb126 (by decide))) (List.forall_mem_cons.mpr ⟨(show cp42 (wget w124 42) from ⟨le1, 0, af1, af1, nu1, hk125, by omega, by omega, by omega, by omega, by omega, by omega⟩), fun _ h => absurd h List.not_mem_nil⟩), (hF21.tr ((xFr.of (S := [42]) hb46 (by decide)).tr (xFr.of (S := [42]) hb126 (by decide))))⟩
      · refine xg_t (xg_icT (u := af1) (v := le1) rfl xnm0 xnm0 (xj_geT (by omega) (by omega))) ?_
        refine xg_t (xg_blk (b := [(52, 1, 0, 0, 0, 0), (53, 1, 0, 0, 0, 0), (54, 3, 1, 8, 4, 23), (57, 3, 14, 8, 3, 29), (60, 1, 0, 0, 0, 0), (61, 3, 1, 8, 4, 23), (64, 1, 0, 0, 0, 0), (65, 3, 1, 8, 1, 19), (68, 3, 6, 79, 2, 0), (71, 1, 0, 0, 0, 0), (72, 1, 3, 0, 0, 0), (73, 3, 14, 8, 2, 32), (76, 3, 8, 194, 0, 0)]) rfl) ?_
        refine xg_t (xg_aload (va := (2, 42)) rfl rfl) ?_
        refine xg_t (xg_aload (va := (2, 42)) rfl rfl) ?_
        refine xg_t (xg_getf (va := (0, af1)) hcl27 rfl) ?_
        refine xg_putI (fl1 := [(2, 2), (0, le1), (0, kd1), (0, af1), (0, af1), (0, nu1)]) hcl27 rfl rfl rfl (fun w127 hk128 hb129 => ?_)
        refine xg_t (xg_aload (va := (2, 42)) rfl rfl) ?_
        refine xg_t (xg_getf (va := (0, af1)) hk128 rfl) ?_
        refine xg_t (xg_aload (va := (2, 42)) rfl rfl) ?_
        refine xg_t (xg_getf (va := (0, le1)) hk128 rfl) ?_
        by_cases hc130 : af1 < le1
        · refine xg_t (xg_icT (u := af1) (v := le1) rfl xnm0 xnm0 (xj_ltT hc130 (by omega))) ?_
          refine xg_t (xg_blk (b := [(79, 1, 0, 0, 0, 0), (80, 3, 1, 8, 0, 7), (83, 1, 0, 0, 0, 0), (84, 3, 1, 8, 4, 23), (87, 1, 32, 0, 0, 0), (88, 3, 13, 315, 66, 35), (91, 3, 7, 138, 0, 0), (94, 1, 0, 0, 0, 0), (95, 1, 3, 1, 0, 0), (96, 3, 14, 8, 2, 32)]) rfl) ?_
          refine xg_t (xg_aload (va := (2, 42)) rfl rfl) ?_
          refine xg_t (xg_getf (va := (2, 2)) hk128 rfl) ?_
          refine xg_t (xg_aload (va := (2, 42)) rfl rfl) ?_
          refine xg_t (xg_getf (va := (0, af1)) hk128 rfl) ?_
          refine xg_baldY (n := af1) ((h2_2.fr hF21 (by decide)).but hb129 (by decide)) (hb3) xnm0 (by omega) (fun u131 hu132 he133 => ?_)
          refine xg_cSi mX8_isLetter (vs := [(0, u131)]) (rest := []) (cn1 := 0) (sl1 := 0) rfl (tkIsLetter (xInv.up (S := [42]) hI20 (xFr.of (S := [42]) hb129 (by decide)) (List.forall_mem_cons.mpr ⟨(show cp42 (wget w127 42) from ⟨le1, kd1, af1, af1, nu1, hk128, by omega, by omega, by omega, by omega, by omega, by omega⟩), fun _ h => absurd h List.not_mem_nil⟩)) (by omega)) rfl rfl rfl rfl rfl rfl rfl (fun n138 w134 hq135 => ?_)
          obtain ⟨hn139, hI136, hF137⟩ := hq135
          by_cases hc140 : n138 = 0
          · refine xg_t (xg_ifT (u := n138) rfl xnm0 (xj_eqT hc140)) ?_
            refine xg_t (xg_blk (b := [(138, 1, 0, 0, 0, 0), (139, 3, 1, 8, 0, 7), (142, 1, 0, 0, 0, 0), (143, 3, 1, 8, 4, 23), (146, 1, 32, 0, 0, 0), (147, 3, 13, 314, 66, 39), (150, 3, 7, 160, 0, 0), (153, 1, 0, 0, 0, 0), (154, 3, 13, 320, 64, 42), (157, 3, 8, 194, 0, 0)]) rfl) ?_
            refine xg_t (xg_aload (va := (2, 42)) rfl rfl) ?_
            refine xg_t (xg_getf (va := (2, 2)) (hF137.get (by decide) hk128) rfl) ?_
            refine xg_t (xg_aload (va := (2, 42)) rfl rfl) ?_
            refine xg_t (xg_getf (va := (0, af1)) (hF137.get (by decide) hk128) rfl) ?_
            refine xg_baldY (n := af1) (((h2_2.fr hF21 (by decide)).but hb129 (by decide)).fr hF137 (by decide)) (hb3) xnm0 (by omega) (fun u141 hu142 he143 => ?_)
            refine xg_cSi mX8_isDigit (vs := [(0, u141)]) (rest := []) (cn1 := 0) (sl1 := 0) rfl (tkIsDigit (hI136) (by omega)) rfl rfl rfl rfl rfl rfl rfl (fun n148 w144 hq145 => ?_)
            obtain ⟨hn149, hI146, hF147⟩ := hq145
            by_cases hc150 : n148 = 0
            · refine xg_t (xg_ifT (u := n148) rfl xnm0 (xj_eqT hc150)) ?_
              refine xg_t (xg_blk (b := [(160, 1, 0, 0, 0, 0), (161, 1, 0, 0, 0, 0), (162, 3, 1, 8, 0, 7), (165, 1, 0, 0, 0, 0), (166, 3, 1, 8, 4, 23), (169, 1, 32, 0, 0, 0), (170, 3, 13, 317, 66, 45), (173, 3, 7, 180, 0, 0), (176, 1, 3, 3, 0, 0), (177, 3, 8, 181, 0, 0)]) rfl) ?_
              refine xg_t (xg_aload (va := (2, 42)) rfl rfl) ?_
              refine xg_t (xg_aload (va := (2, 42)) rfl rfl) ?_
              refine xg_t (xg_getf (va := (2, 2)) (hF147.get (by decide) (hF137.get (by decide) hk128)) rfl) ?_
              refine xg_t (xg_aload (va := (2, 42)) rfl rfl) ?_
              refine xg_t (xg_getf (va := (0, af1)) (hF147.get (by decide) (hF137.get (by decide) hk128)) rfl) ?_
              refine xg_baldY (n := af1) ((((h2_2.fr hF21 (by decide)).but hb129 (by decide)).fr hF137 (by decide)).fr hF147 (by decide)) (hb3) xnm0 (by omega) (fun u151 hu152 he153 => ?_)
              refine xg_cSi mX8_isSignByte (vs := [(0, u151)]) (rest := [(2, 42)]) (cn1 := 0) (sl1 := 0) rfl (tkIsSignByte (hI146) (by omega)) rfl rfl rfl rfl rfl rfl rfl (fun n158 w154 hq155 => ?_)
              obtain ⟨hn159, hI156, hF157⟩ := hq155
              by_cases hc160 : n158 = 0
              · refine xg_t (xg_ifT (u := n158) rfl xnm0 (xj_eqT hc160)) ?_
                refine xg_t (xg_blk (b := [(180, 1, 3, 4, 0, 0)]) rfl) ?_
                refine xg_t (xg_const) ?_
                refine xg_t (xg_blk (b := [(181, 3, 14, 8, 2, 32), (184, 1, 0, 0, 0, 0), (185, 1, 19, 0, 0, 0), (186, 3, 1, 8, 4, 23), (189, 1, 3, 1, 0, 0), (190, 1, 11, 0, 0, 0), (191, 3, 14, 8, 4, 23)]) rfl) ?_
                refine xg_putI (fl1 := [(2, 2), (0, le1), (0, 4), (0, af1), (0, af1), (0, nu1)]) (hF157.get (by decide) (hF147.get (by decide) (hF137.get (by decide) hk128))) rfl rfl rfl (fun w161 hk162 hb163 => ?_)
                refine xg_t (xg_aload (va := (2, 42)) rfl rfl) ?_
                refine xg_t (xg_dup rfl) ?_
                refine xg_t (xg_getf (va := (0, af1)) hk162 rfl) ?_
                refine xg_t (xg_const) ?_
                refine xg_t (xg_iadd (u := af1) (v := 1) (z := af1 + 1) xnm0 xnm0 (by omega)) ?_
                refine xg_putI (fl1 := [(2, 2), (0, le1), (0, 4), (0, af1), (0, af1 + 1), (0, nu1)]) hk162 rfl rfl rfl (fun w164 hk165 hb166 => ?_)
                refine xg_t (xg_blk (b := [(194, 1, 12, 0, 0, 0)]) rfl) ?_
                exact xg_e ⟨w164, ⟨rfl, rfl⟩, xInv.up (S := [42]) hI156 ((xFr.of (S := [42]) hb163 (by decide)).tr (xFr.of (S := [42]) hb166 (by decide))) (List.forall_mem_cons.mpr ⟨(show cp42 (wget w164 42) from ⟨le1, 4, af1, af1 + 1, nu1, hk165, by omega, by omega, by omega, by omega, by omega, by omega⟩), fun _ h => absurd h List.not_mem_nil⟩), (((((hF21.tr (xFr.of (S := [42]) hb129 (by decide))).tr (hF137.up (by decide))).tr (hF147.up (by decide))).tr (hF157.up (by decide))).tr ((xFr.of (S := [42]) hb163 (by decide)).tr (xFr.of (S := [42]) hb166 (by decide))))⟩
              · refine xg_t (xg_ifF (u := n158) rfl xnm0 (xj_eqF hc160)) ?_
                refine xg_t (xg_const) ?_
                refine xg_t (xg_goto) ?_
                refine xg_t (xg_blk (b := [(181, 3, 14, 8, 2, 32), (184, 1, 0, 0, 0, 0), (185, 1, 19, 0, 0, 0), (186, 3, 1, 8, 4, 23), (189, 1, 3, 1, 0, 0), (190, 1, 11, 0, 0, 0), (191, 3, 14, 8, 4, 23)]) rfl) ?_
                refine xg_putI (fl1 := [(2, 2), (0, le1), (0, 3), (0, af1), (0, af1), (0, nu1)]) (hF157.get (by decide) (hF147.get (by decide) (hF137.get (by decide) hk128))) rfl rfl rfl (fun w167 hk168 hb169 => ?_)
                refine xg_t (xg_aload (va := (2, 42)) rfl rfl) ?_
                refine xg_t (xg_dup rfl) ?_
                refine xg_t (xg_getf (va := (0, af1)) hk168 rfl) ?_
                refine xg_t (xg_const) ?_
                refine xg_t (xg_iadd (u := af1) (v := 1) (z := af1 + 1) xnm0 xnm0 (by omega)) ?_
                refine xg_putI (fl1 := [(2, 2), (0, le1), (0, 3), (0, af1), (0, af1 + 1), (0, nu1)]) hk168 rfl rfl rfl (fun w170 hk171 hb172 => ?_)
                refine xg_t (xg_blk (b := [(194, 1, 12, 0, 0, 0)]) rfl) ?_
                exact xg_e ⟨w170, ⟨rfl, rfl⟩, xInv.up (S := [42]) hI156 ((xFr.of (S := [42]) hb169 (by decide)).tr (xFr.of (S := [42]) hb172 (by decide))) (List.forall_mem_cons.mpr ⟨(show cp42 (wget w170 42) from ⟨le1, 3, af1, af1 + 1, nu1, hk171, by omega, by omega, by omega, by omega, by omega, by omega⟩), fun _ h => absurd h List.not_mem_nil⟩), (((((hF21.tr (xFr.of (S := [42]) hb129 (by decide))).tr (hF137.up (by decide))).tr (hF147.up (by decide))).tr (hF157.up (by decide))).tr ((xFr.of (S := [42]) hb169 (by decide)).tr (xFr.of (S := [42]) hb172 (by decide))))⟩
            · refine xg_t (xg_ifF (u := n148) rfl xnm0 (xj_eqF hc150)) ?_
              refine xg_t (xg_aload (va := (2, 42)) rfl rfl) ?_
              refine xg_cVv mX8_takeDigits (vs := []) (rest := []) (cn1 := 0) (sl1 := 0) rfl (tkTakeDigits42 (hI146)) rfl (hF147.get (by decide) (hF137.get (by decide) hk128)) rfl rfl rfl rfl rfl rfl (fun w173 hq174 => ?_)
              obtain ⟨hI175, hF176⟩ := hq174
              refine xg_t (xg_goto) ?_
              refine xg_t (xg_blk (b := [(194, 1, 12, 0, 0, 0)]) rfl) ?_
              exact xg_e ⟨w173, ⟨rfl, rfl⟩, hI175, ((((hF21.tr (xFr.of (S := [42]) hb129 (by decide))).tr (hF137.up (by decide))).tr (hF147.up (by decide))).tr (hF176.up (by decide)))⟩
          · refine xg_t (xg_ifF (u := n138) rfl xnm0 (xj_eqF hc140)) ?_
            refine xg_t (xg_aload (va := (2, 42)) rfl rfl) ?_
            refine xg_t (xg_const) ?_
            refine xg_putI (fl1 := [(2, 2), (0, le1), (0, 1), (0, af1), (0, af1), (0, nu1)]) (hF137.get (by decide) hk128) rfl rfl rfl (fun w177 hk178 hb179 => ?_)
            have key180 : ∀ (m182 : Nat) (le2 kd2 pl2 af2 nu2 : Nat) (w183 : List (List xE)), 500 - af2 < m182 → le2 ≤ 500 → kd2 ≤ 4294967295 → pl2 ≤ 500 → af2 ≤ 500 → nu2 ≤ 4294967295 → wget w183 42 = some (.inl (8, [(2, 2), (0, le2), (0, kd2), (0, pl2), (0, af2), (0, nu2)])) → xInv w183 → xFr [42] w w183 → xTo (d + 2) mX8_advance (99, [], [(0, (2, 42))], [], (w183, bd, fc, 0, 0, rr)) (fun φ => ∃ w', xEnd 0 [] (w', bd, fc, 0, 0, rr) φ ∧ xInv w' ∧ xFr [42] w w') := by
              intro m182
              induction m182 with
              | zero => intro le2 kd2 pl2 af2 nu2 w183 hz; exact absurd hz (Nat.not_lt_zero _)
              | succ m182 ih181 =>
                intro le2 kd2 pl2 af2 nu2 w183 hm192 hn186 hn187 hn188 hn189 hn190 hcl191 hI184 hF185
                refine xg_t (xg_blk (b := [(99, 1, 0, 0, 0, 0), (100, 3, 1, 8, 4, 23), (103, 1, 0, 0, 0, 0), (104, 3, 1, 8, 1, 19), (107, 3, 6, 194, 3, 0), (110, 1, 0, 0, 0, 0), (111, 3, 1, 8, 0, 7), (114, 1, 0, 0, 0, 0), (115, 3, 1, 8, 4, 23), (118, 1, 32, 0, 0, 0), (119, 3, 13, 315, 66, 35), (122, 3, 7, 194, 0, 0), (125, 1, 0, 0, 0, 0), (126, 1, 19, 0, 0, 0), (127, 3, 1, 8, 4, 23), (130, 1, 3, 1, 0, 0), (131, 1, 11, 0, 0, 0), (132, 3, 14, 8, 4, 23), (135, 3, 8, 99, 0, 0)]) rfl) ?_
                refine xg_t (xg_aload (va := (2, 42)) rfl rfl) ?_
                refine xg_t (xg_getf (va := (0, af2)) hcl191 rfl) ?_
                refine xg_t (xg_aload (va := (2, 42)) rfl rfl) ?_
                refine xg_t (xg_getf (va := (0, le2)) hcl191 rfl) ?_
                by_cases hc193 : af2 < le2
                · refine xg_t (xg_icF (u := af2) (v := le2) rfl xnm0 xnm0 (xj_geF hc193 (by omega))) ?_
                  refine xg_t (xg_aload (va := (2, 42)) rfl rfl) ?_
                  refine xg_t (xg_getf (va := (2, 2)) hcl191 rfl) ?_
                  refine xg_t (xg_aload (va := (2, 42)) rfl rfl) ?_
                  refine xg_t (xg_getf (va := (0, af2)) hcl191 rfl) ?_
                  refine xg_baldY (n := af2) (h2_2.fr hF185 (by decide)) (hb3) xnm0 (by omega) (fun u194 hu195 he196 => ?_)
                  refine xg_cSi mX8_isLetter (vs := [(0, u194)]) (rest := []) (cn1 := 0) (sl1 := 0) rfl (tkIsLetter (hI184) (by omega)) rfl rfl rfl rfl rfl rfl rfl (fun n201 w197 hq198 => ?_)
                  obtain ⟨hn202, hI199, hF200⟩ := hq198
                  by_cases hc203 : n201 = 0
                  · refine xg_t (xg_ifT (u := n201) rfl xnm0 (xj_eqT hc203)) ?_
                    refine xg_t (xg_blk (b := [(194, 1, 12, 0, 0, 0)]) rfl) ?_
                    exact xg_e ⟨w197, ⟨rfl, rfl⟩, hI199, (hF185.tr (hF200.up (by decide)))⟩
                  · refine xg_t (xg_ifF (u := n201) rfl xnm0 (xj_eqF hc203)) ?_
                    refine xg_t (xg_aload (va := (2, 42)) rfl rfl) ?_
                    refine xg_t (xg_dup rfl) ?_
                    refine xg_t (xg_getf (va := (0, af2)) (hF200.get (by decide) hcl191) rfl) ?_
                    refine xg_t (xg_const) ?_
                    refine xg_t (xg_iadd (u := af2) (v := 1) (z := af2 + 1) xnm0 xnm0 (by omega)) ?_
                    refine xg_putI (fl1 := [(2, 2), (0, le2), (0, kd2), (0, pl2), (0, af2 + 1), (0, nu2)]) (hF200.get (by decide) hcl191) rfl rfl rfl (fun w204 hk205 hb206 => ?_)
                    refine xg_t (xg_goto) ?_
                    exact ih181 le2 kd2 pl2 (af2 + 1) nu2 w204 (by omega) (by omega) (by omega) (by omega) (by omega) (by omega) hk205 (xInv.up (S := [42]) hI199 (xFr.of (S := [42]) hb206 (by decide)) (List.forall_mem_cons.mpr ⟨(show cp42 (wget w204 42) from ⟨le2, kd2, pl2, af2 + 1, nu2, hk205, by omega, by omega, by omega, by omega, by omega, by omega⟩), fun _ h => absurd h List.not_mem_nil⟩)) (((hF185.tr (hF200.up (by decide))).tr (xFr.of (S := [42]) hb206 (by decide))))
                · refine xg_t (xg_icT (u := af2) (v := le2) rfl xnm0 xnm0 (xj_geT (by omega) (by omega))) ?_
                  refine xg_t (xg_blk (b := [(194, 1, 12, 0, 0, 0)]) rfl) ?_
                  exact xg_e ⟨w183, ⟨rfl, rfl⟩, hI184, hF185⟩
            exact key180 _ le1 1 af1 af1 nu1 w177 (Nat.lt_succ_self _) (by omega) (by omega) (by omega) (by omega) (by omega) hk178 (xInv.up (S := [42]) hI136 (xFr.of (S := [42]) hb179 (by decide)) (List.forall_mem_cons.mpr ⟨(show cp42 (wget w177 42) from ⟨le1, 1, af1, af1, nu1, hk178, by omega, by omega, by omega, by omega, by omega, by omega⟩), fun _ h => absurd h List.not_mem_nil⟩)) ((((hF21.tr (xFr.of (S := [42]) hb129 (by decide))).tr (hF137.up (by decide))).tr (xFr.of (S := [42]) hb179 (by decide))))
        · refine xg_t (xg_icF (u := af1) (v := le1) rfl xnm0 xnm0 (xj_ltF (by omega) (by omega))) ?_
          refine xg_t (xg_aload (va := (2, 42)) rfl rfl) ?_
          refine xg_t (xg_const) ?_
          refine xg_putI (fl1 := [(2, 2), (0, le1), (0, 0), (0, af1), (0, af1), (0, nu1)]) hk128 rfl rfl rfl (fun w207 hk208 hb209 => ?_)
          refine xg_t (xg_goto) ?_
          refine xg_t (xg_blk (b := [(194, 1, 12, 0, 0, 0)]) rfl) ?_
          exact xg_e ⟨w207, ⟨rfl, rfl⟩, xInv.up (S := [42]) hI20 ((xFr.of (S := [42]) hb129 (by decide)).tr (xFr.of (S := [42]) hb209 (by decide))) (List.forall_mem_cons.mpr ⟨(show cp42 (wget w207 42) from ⟨le1, 0, af1, af1, nu1, hk208, by omega, by omega, by omega, by omega, by omega, by omega⟩), fun _ h => absurd h List.not_mem_nil⟩), (hF21.tr ((xFr.of (S := [42]) hb129 (by decide)).tr (xFr.of (S := [42]) hb209 (by decide))))⟩
  exact key16 _ f42_4 f42_6 f42_8 f42_10 f42_12 w (Nat.lt_succ_self _) (by omega) (by omega) (by omega) (by omega) (by omega) h42_14 (hI) (xFr.rf)
theorem tkIsSign42 {si : Nat} (hI : xInv w) (h1 : si ≤ 4294967295) : xPi d mX8_isSign [(2, 42), (0, si)] w bd fc rr (fun n w' => (n ≤ 1) ∧ xInv w' ∧ xFr [] w w') := by
  refine xPi.of ?_
  show xTo d mX8_isSign (0, [], [(0, (2, 42)), (1, (0, si))], [], (w, bd, fc, 0, 0, rr)) (fun φ => ∃ n w', xEnd 4 [(0, n)] (w', bd, fc, 0, 0, rr) φ ∧ (n ≤ 1) ∧ xInv w' ∧ xFr [] w w')
  refine xg_t (xg_blk (b := [(0, 1, 0, 0, 0, 0), (1, 3, 1, 8, 2, 32), (4, 1, 3, 3, 0, 0), (5, 3, 6, 25, 1, 0), (8, 1, 0, 0, 0, 0), (9, 3, 1, 8, 0, 7), (12, 1, 0, 0, 0, 0), (13, 3, 1, 8, 3, 29), (16, 1, 32, 0, 0, 0), (17, 1, 2, 1, 0, 0), (18, 3, 6, 25, 1, 0), (21, 1, 3, 1, 0, 0), (22, 3, 8, 26, 0, 0)]) rfl) ?_
  refine xg_t (xg_aload (va := (2, 42)) rfl rfl) ?_
  obtain ⟨f42_1, f42_3, f42_5, f42_7, f42_9, h42_11, hb2, hb4, hb6, hb8, hb10, hb12⟩ := (hI 42 (by decide) : cp42 (wget w 42))
  refine xg_t (xg_getf (va := (0, f42_3)) h42_11 rfl) ?_
  refine xg_t (xg_const) ?_
  by_cases hc13 : f42_3 = 3
  · refine xg_t (xg_icF (u := f42_3) (v := 3) rfl xnm0 xnm0 (xj_neF hc13)) ?_
    refine xg_t (xg_aload (va := (2, 42)) rfl rfl) ?_
    refine xg_t (xg_getf (va := (2, 2)) h42_11 rfl) ?_
    refine xg_t (xg_aload (va := (2, 42)) rfl rfl) ?_
    refine xg_t (xg_getf (va := (0, f42_5)) h42_11 rfl) ?_
    obtain ⟨g2_14, h2_15, hb16⟩ := (hI 2 (by decide) : cpY 500 0 (wget w 2))
    have h2_15 : xRk 1 0 w 2 500 0 g2_14 := h2_15
    refine xg_baldY (n := f42_5) h2_15 (hb16) xnm0 (by omega) (fun u17 hu18 he19 => ?_)
    refine xg_t (xg_iload (va := (0, si)) rfl rfl) ?_
    by_cases hc20 : u17 = si
    · refine xg_t (xg_icF (u := u17) (v := si) rfl xnm0 xnm0 (xj_neF hc20)) ?_
      refine xg_t (xg_const) ?_
      refine xg_t (xg_goto) ?_
      refine xg_t (xg_blk (b := [(26, 1, 12, 0, 1, 0)]) rfl) ?_
      exact xg_e ⟨1, w, ⟨rfl, rfl⟩, by omega, hI, xFr.rf⟩
    · refine xg_t (xg_icT (u := u17) (v := si) rfl xnm0 xnm0 (xj_neT hc20)) ?_
      refine xg_t (xg_blk (b := [(25, 1, 3, 0, 0, 0)]) rfl) ?_
      refine xg_t (xg_const) ?_
      refine xg_t (xg_blk (b := [(26, 1, 12, 0, 1, 0)]) rfl) ?_
      exact xg_e ⟨0, w, ⟨rfl, rfl⟩, by omega, hI, xFr.rf⟩
  · refine xg_t (xg_icT (u := f42_3) (v := 3) rfl xnm0 xnm0 (xj_neT hc13)) ?_
    refine xg_t (xg_blk (b := [(25, 1, 3, 0, 0, 0)]) rfl) ?_
    refine xg_t (xg_const) ?_
    refine xg_t (xg_blk (b := [(26, 1, 12, 0, 1, 0)]) rfl) ?_
    exact xg_e ⟨0, w, ⟨rfl, rfl⟩, by omega, hI, xFr.rf⟩
theorem tkTakeDigits48 (hI : xInv w)  : xPq (d + 1) mX8_takeDigits [(2, 48)] w bd fc rr [] (fun w' => xInv w' ∧ xFr [48] w w') := by
  refine xPq.of ?_
  show xTo (d + 1) mX8_takeDigits (0, [], [(0, (2, 48))], [], (w, bd, fc, 0, 0, rr)) (fun φ => ∃ w', xEnd 0 [] (w', bd, fc, 0, 0, rr) φ ∧ xInv w' ∧ xFr [48] w w')
  obtain ⟨g2_1, h2_2, hb3⟩ := (hI 2 (by decide) : cpY 500 0 (wget w 2))
  have h2_2 : xRk 1 0 w 2 500 0 g2_1 := h2_2
  refine xg_t (xg_blk (b := [(0, 1, 0, 0, 0, 0), (1, 1, 3, 0, 0, 0), (2, 3, 14, 8, 5, 48)]) rfl) ?_
  refine xg_t (xg_aload (va := (2, 48)) rfl rfl) ?_
  refine xg_t (xg_const) ?_
  obtain ⟨f48_4, f48_6, f48_8, f48_10, f48_12, h48_14, hb5, hb7, hb9, hb11, hb13, hb15⟩ := (hI 48 (by decide) : cp48 (wget w 48))
  refine xg_putI (fl1 := [(2, 2), (0, f48_4), (0, f48_6), (0, f48_8), (0, f48_10), (0, 0)]) h48_14 rfl rfl rfl (fun w16 hk17 hb18 => ?_)
  have key19 : ∀ (m21 : Nat) (le1 kd1 pl1 af1 nu1 : Nat) (w22 : List (List xE)), 500 - af1 < m21 → le1 ≤ 500 → kd1 ≤ 4294967295 → pl1 ≤ 500 → af1 ≤ 500 → nu1 ≤ 4294967295 → wget w22 48 = some (.inl (8, [(2, 2), (0, le1), (0, kd1), (0, pl1), (0, af1), (0, nu1)])) → xInv w22 → xFr [48] w w22 → xTo (d + 1) mX8_takeDigits (5, [], [(0, (2, 48))], [], (w22, bd, fc, 0, 0, rr)) (fun φ => ∃ w', xEnd 0 [] (w', bd, fc, 0, 0, rr) φ ∧ xInv w' ∧ xFr [48] w w') := by
    intro m21
    induction m21 with
    | zero => intro le1 kd1 pl1 af1 nu1 w22 hz; exact absurd hz (Nat.not_lt_zero _)
    | succ m21 ih20 =>
      intro le1 kd1 pl1 af1 nu1 w22 hm31 hn25 hn26 hn27 hn28 hn29 hcl30 hI23 hF24
      refine xg_t (xg_blk (b := [(5, 1, 0, 0, 0, 0), (6, 3, 1, 8, 4, 23), (9, 1, 0, 0, 0, 0), (10, 3, 1, 8, 1, 19), (13, 3, 6, 81, 3, 0), (16, 1, 0, 0, 0, 0), (17, 3, 1, 8, 0, 7), (20, 1, 0, 0, 0, 0), (21, 3, 1, 8, 4, 23), (24, 1, 32, 0, 0, 0), (25, 3, 13, 314, 66, 39), (28, 3, 7, 81, 0, 0), (31, 1, 0, 0, 0, 0), (32, 3, 1, 8, 4, 23), (35, 1, 0, 0, 0, 0), (36, 3, 1, 8, 3, 29), (39, 1, 18, 0, 0, 0), (40, 1, 3, 4, 0, 0), (41, 3, 6, 68, 3, 0), (44, 1, 0, 0, 0, 0), (45, 1, 0, 0, 0, 0), (46, 3, 1, 8, 5, 48), (49, 2, 4, 10, 0, 0), (51, 1, 16, 0, 0, 0), (52, 1, 0, 0, 0, 0), (53, 3, 1, 8, 0, 7), (56, 1, 0, 0, 0, 0), (57, 3, 1, 8, 4, 23), (60, 1, 32, 0, 0, 0), (61, 1, 11, 0, 0, 0), (62, 2, 4, 48, 0, 0), (64, 1, 18, 0, 0, 0), (65, 3, 14, 8, 5, 48)]) rfl) ?_
      refine xg_t (xg_aload (va := (2, 48)) rfl rfl) ?_
      refine xg_t (xg_getf (va := (0, af1)) hcl30 rfl) ?_
      refine xg_t (xg_aload (va := (2, 48)) rfl rfl) ?_
      refine xg_t (xg_getf (va := (0, le1)) hcl30 rfl) ?_
      by_cases hc32 : af1 < le1
      · refine xg_t (xg_icF (u := af1) (v := le1) rfl xnm0 xnm0 (xj_geF hc32 (by omega))) ?_
        refine xg_t (xg_aload (va := (2, 48)) rfl rfl) ?_
        refine xg_t (xg_getf (va := (2, 2)) hcl30 rfl) ?_
        refine xg_t (xg_aload (va := (2, 48)) rfl rfl) ?_
        refine xg_t (xg_getf (va := (0, af1)) hcl30 rfl) ?_
        refine xg_baldY (n := af1) (h2_2.fr hF24 (by decide)) (hb3) xnm0 (by omega) (fun u33 hu34 he35 => ?_)
        refine xg_cSi mX8_isDigit (vs := [(0, u33)]) (rest := []) (cn1 := 0) (sl1 := 0) rfl (tkIsDigit (hI23) (by omega)) rfl rfl rfl rfl rfl rfl rfl (fun n40 w36 hq37 => ?_)
        obtain ⟨hn41, hI38, hF39⟩ := hq37
        by_cases hc42 : n40 = 0
        · refine xg_t (xg_ifT (u := n40) rfl xnm0 (xj_eqT hc42)) ?_
          refine xg_t (xg_blk (b := [(81, 1, 0, 0, 0, 0), (82, 1, 0, 0, 0, 0), (83, 3, 1, 8, 4, 23), (86, 1, 0, 0, 0, 0), (87, 3, 1, 8, 3, 29), (90, 1, 18, 0, 0, 0), (91, 1, 3, 4, 0, 0), (92, 3, 6, 99, 5, 0), (95, 1, 3, 4, 0, 0), (96, 3, 8, 100, 0, 0)]) rfl) ?_
          refine xg_t (xg_aload (va := (2, 48)) rfl rfl) ?_
          refine xg_t (xg_aload (va := (2, 48)) rfl rfl) ?_
          refine xg_t (xg_getf (va := (0, af1)) (hF39.get (by decide) hcl30) rfl) ?_
          refine xg_t (xg_aload (va := (2, 48)) rfl rfl) ?_
          refine xg_t (xg_getf (va := (0, pl1)) (hF39.get (by decide) hcl30) rfl) ?_
          refine xg_k (xg_isub (u := af1) (v := pl1) (z := (af1 + (4294967296 - pl1)) % 4294967296) xnm0 xnm0 rfl) (Nat.mod_lt _ (by decide)) (fun z43 hz44 => ?_)
          refine xg_t (xg_const) ?_
          by_cases hc45 : xbs 4 < xbs z43
          · have hc45u := hc45
            unfold xbs at hc45u
            have hn46 : z43 ≤ 2147483647 := by omega
            refine xg_t (xg_icF (u := z43) (v := 4) rfl xnm0 xnm0 (xjs_leF hc45)) ?_
            refine xg_t (xg_const) ?_
            refine xg_t (xg_goto) ?_
            refine xg_t (xg_blk (b := [(100, 3, 14, 8, 2, 32), (103, 1, 12, 0, 0, 0)]) rfl) ?_
            refine xg_putI (fl1 := [(2, 2), (0, le1), (0, 4), (0, pl1), (0, af1), (0, nu1)]) (hF39.get (by decide) hcl30) rfl rfl rfl (fun w47 hk48 hb49 => ?_)
            exact xg_e ⟨w47, ⟨rfl, rfl⟩, xInv.up (S := [48]) hI38 (xFr.of (S := [48]) hb49 (by decide)) (List.forall_mem_cons.mpr ⟨(show cp48 (wget w47 48) from ⟨le1, 4, pl1, af1, nu1, hk48, by omega, by omega, by omega, by omega, by omega, by omega⟩), fun _ h => absurd h List.not_mem_nil⟩), ((hF24.tr (hF39.up (by decide))).tr (xFr.of (S := [48]) hb49 (by decide)))⟩
          · have hc45u := hc45
            unfold xbs at hc45u
            refine xg_t (xg_icT (u := z43) (v := 4) rfl xnm0 xnm0 (xjs_leT hc45)) ?_
            refine xg_t (xg_blk (b := [(99, 1, 3, 2, 0, 0)]) rfl) ?_
            refine xg_t (xg_const) ?_
            refine xg_t (xg_blk (b := [(100, 3, 14, 8, 2, 32), (103, 1, 12, 0, 0, 0)]) rfl) ?_
            refine xg_putI (fl1 := [(2, 2), (0, le1), (0, 2), (0, pl1), (0, af1), (0, nu1)]) (hF39.get (by decide) hcl30) rfl rfl rfl (fun w50 hk51 hb52 => ?_)
            exact xg_e ⟨w50, ⟨rfl, rfl⟩, xInv.up (S := [48]) hI38 (xFr.of (S := [48]) hb52 (by decide)) (List.forall_mem_cons.mpr ⟨(show cp48 (wget w50 48) from ⟨le1, 2, pl1, af1, nu1, hk51, by omega, by omega, by omega, by omega, by omega, by omega⟩), fun _ h => absurd h List.not_mem_nil⟩), ((hF24.tr (hF39.up (by decide))).tr (xFr.of (S := [48]) hb52 (by decide)))⟩
        · refine xg_t (xg_ifF (u := n40) rfl xnm0 (xj_eqF hc42)) ?_
          refine xg_t (xg_aload (va := (2, 48)) rfl rfl) ?_
          refine xg_t (xg_getf (va := (0, af1)) (hF39.get (by decide) hcl30) rfl) ?_
          refine xg_t (xg_aload (va := (2, 48)) rfl rfl) ?_
          refine xg_t (xg_getf (va := (0, pl1)) (hF39.get (by decide) hcl30) rfl) ?_
          refine xg_k (xg_isub (u := af1) (v := pl1) (z := (af1 + (4294967296 - pl1)) % 4294967296) xnm0 xnm0 rfl) (Nat.mod_lt _ (by decide)) (fun z53 hz54 => ?_)
          refine xg_t (xg_const) ?_
          by_cases hc55 : xbs z53 < xbs 4
          · have hc55u := hc55
            unfold xbs at hc55u
            refine xg_t (xg_icF (u := z53) (v := 4) rfl xnm0 xnm0 (xjs_geF hc55)) ?_
            refine xg_t (xg_aload (va := (2, 48)) rfl rfl) ?_
            refine xg_t (xg_aload (va := (2, 48)) rfl rfl) ?_
            refine xg_t (xg_getf (va := (0, nu1)) (hF39.get (by decide) hcl30) rfl) ?_
            refine xg_t (xg_bip) ?_
            refine xg_k (xg_imul (u := nu1) (v := 10) (z := (nu1 * 10) % 4294967296) xnm0 xnm0 rfl) (Nat.mod_lt _ (by decide)) (fun z56 hz57 => ?_)
            refine xg_t (xg_aload (va := (2, 48)) rfl rfl) ?_
            refine xg_t (xg_getf (va := (2, 2)) (hF39.get (by decide) hcl30) rfl) ?_
            refine xg_t (xg_aload (va := (2, 48)) rfl rfl) ?_
            refine xg_t (xg_getf (va := (0, af1)) (hF39.get (by decide) hcl30) rfl) ?_
            refine xg_baldY (n := af1) ((h2_2.fr hF24 (by decide)).fr hF39 (by decide)) (hb3) xnm0 (by omega) (fun u58 hu59 he60 => ?_)
            refine xg_k (xg_iadd (u := z56) (v := u58) (z := (z56 + u58) % 4294967296) xnm0 xnm0 rfl) (Nat.mod_lt _ (by decide)) (fun z61 hz62 => ?_)
            refine xg_t (xg_bip) ?_
            refine xg_k (xg_isub (u := z61) (v := 48) (z := (z61 + (4294967296 - 48)) % 4294967296) xnm0 xnm0 rfl) (Nat.mod_lt _ (by decide)) (fun z63 hz64 => ?_)
            refine xg_putI (fl1 := [(2, 2), (0, le1), (0, kd1), (0, pl1), (0, af1), (0, z63)]) (hF39.get (by decide) hcl30) rfl rfl rfl (fun w65 hk66 hb67 => ?_)
            refine xg_t (xg_blk (b := [(68, 1, 0, 0, 0, 0), (69, 1, 19, 0, 0, 0), (70, 3, 1, 8, 4, 23), (73, 1, 3, 1, 0, 0), (74, 1, 11, 0, 0, 0), (75, 3, 14, 8, 4, 23), (78, 3, 8, 5, 0, 0)]) rfl) ?_
            refine xg_t (xg_aload (va := (2, 48)) rfl rfl) ?_
            refine xg_t (xg_dup rfl) ?_
            refine xg_t (xg_getf (va := (0, af1)) hk66 rfl) ?_
            refine xg_t (xg_const) ?_
            refine xg_t (xg_iadd (u := af1) (v := 1) (z := af1 + 1) xnm0 xnm0 (by omega)) ?_
            refine xg_putI (fl1 := [(2, 2), (0, le1), (0, kd1), (0, pl1), (0, af1 + 1), (0, z63)]) hk66 rfl rfl rfl (fun w68 hk69 hb70 => ?_)
            refine xg_t (xg_goto) ?_
            exact ih20 le1 kd1 pl1 (af1 + 1) z63 w68 (by omega) (by omega) (by omega) (by omega) (by omega) (by omega) hk69 (xInv.up (S := [48]) hI38 ((xFr.of (S := [48]) hb67 (by decide)).tr (xFr.of (S := [48]) hb70 (by decide))) (List.forall_mem_cons.mpr ⟨(show cp48 (wget w68 48) from ⟨le1, kd1, pl1, af1 + 1, z63, hk69, by omega, by omega, by omega, by omega, by omega, by omega⟩), fun _ h => absurd h List.not_mem_nil⟩)) (((hF24.tr (hF39.up (by decide))).tr ((xFr.of (S := [48]) hb67 (by decide)).tr (xFr.of (S := [48]) hb70 (by decide)))))
          · have hc55u := hc55
            unfold xbs at hc55u
            have hn71 : z53 ≤ 2147483647 := by omega
            refine xg_t (xg_icT (u := z53) (v := 4) rfl xnm0 xnm0 (xjs_geT hc55)) ?_
            refine xg_t (xg_blk (b := [(68, 1, 0, 0, 0, 0), (69, 1, 19, 0, 0, 0), (70, 3, 1, 8, 4, 23), (73, 1, 3, 1, 0, 0), (74, 1, 11, 0, 0, 0), (75, 3, 14, 8, 4, 23), (78, 3, 8, 5, 0, 0)]) rfl) ?_
            refine xg_t (xg_aload (va := (2, 48)) rfl rfl) ?_
            refine xg_t (xg_dup rfl) ?_
            refine xg_t (xg_getf (va := (0, af1)) (hF39.get (by decide) hcl30) rfl) ?_
            refine xg_t (xg_const) ?_
            refine xg_t (xg_iadd (u := af1) (v := 1) (z := af1 + 1) xnm0 xnm0 (by omega)) ?_
            refine xg_putI (fl1 := [(2, 2), (0, le1), (0, kd1), (0, pl1), (0, af1 + 1), (0, nu1)]) (hF39.get (by decide) hcl30) rfl rfl rfl (fun w72 hk73 hb74 => ?_)
            refine xg_t (xg_goto) ?_
            exact ih20 le1 kd1 pl1 (af1 + 1) nu1 w72 (by omega) (by omega) (by omega) (by omega) (by omega) (by omega) hk73 (xInv.up (S := [48]) hI38 (xFr.of (S := [48]) hb74 (by decide)) (List.forall_mem_cons.mpr ⟨(show cp48 (wget w72 48) from ⟨le1, kd1, pl1, af1 + 1, nu1, hk73, by omega, by omega, by omega, by omega, by omega, by omega⟩), fun _ h => absurd h List.not_mem_nil⟩)) (((hF24.tr (hF39.up (by decide))).tr (xFr.of (S := [48]) hb74 (by decide))))
      · refine xg_t (xg_icT (u := af1) (v := le1) rfl xnm0 xnm0 (xj_geT (by omega) (by omega))) ?_
        refine xg_t (xg_blk (b := [(81, 1, 0, 0, 0, 0), (82, 1, 0, 0, 0, 0), (83, 3, 1, 8, 4, 23), (86, 1, 0, 0, 0, 0), (87, 3, 1, 8, 3, 29), (90, 1, 18, 0, 0, 0), (91, 1, 3, 4, 0, 0), (92, 3, 6, 99, 5, 0), (95, 1, 3, 4, 0, 0), (96, 3, 8, 100, 0, 0)]) rfl) ?_
        refine xg_t (xg_aload (va := (2, 48)) rfl rfl) ?_
        refine xg_t (xg_aload (va := (2, 48)) rfl rfl) ?_
        refine xg_t (xg_getf (va := (0, af1)) hcl30 rfl) ?_
        refine xg_t (xg_aload (va := (2, 48)) rfl rfl) ?_
        refine xg_t (xg_getf (va := (0, pl1)) hcl30 rfl) ?_
        refine xg_k (xg_isub (u := af1) (v := pl1) (z := (af1 + (4294967296 - pl1)) % 4294967296) xnm0 xnm0 rfl) (Nat.mod_lt _ (by decide)) (fun z75 hz76 => ?_)
        refine xg_t (xg_const) ?_
        by_cases hc77 : xbs 4 < xbs z75
        · have hc77u := hc77
          unfold xbs at hc77u
          have hn78 : z75 ≤ 2147483647 := by omega
          refine xg_t (xg_icF (u := z75) (v := 4) rfl xnm0 xnm0 (xjs_leF hc77)) ?_
          refine xg_t (xg_const) ?_
          refine xg_t (xg_goto) ?_
          refine xg_t (xg_blk (b := [(100, 3, 14, 8, 2, 32), (103, 1, 12, 0, 0, 0)]) rfl) ?_
          refine xg_putI (fl1 := [(2, 2), (0, le1), (0, 4), (0, pl1), (0, af1), (0, nu1)]) hcl30 rfl rfl rfl (fun w79 hk80 hb81 => ?_)
          exact xg_e ⟨w79, ⟨rfl, rfl⟩, xInv.up (S := [48]) hI23 (xFr.of (S := [48]) hb81 (by decide)) (List.forall_mem_cons.mpr ⟨(show cp48 (wget w79 48) from ⟨le1, 4, pl1, af1, nu1, hk80, by omega, by omega, by omega, by omega, by omega, by omega⟩), fun _ h => absurd h List.not_mem_nil⟩), (hF24.tr (xFr.of (S := [48]) hb81 (by decide)))⟩
        · have hc77u := hc77
          unfold xbs at hc77u
          refine xg_t (xg_icT (u := z75) (v := 4) rfl xnm0 xnm0 (xjs_leT hc77)) ?_
          refine xg_t (xg_blk (b := [(99, 1, 3, 2, 0, 0)]) rfl) ?_
          refine xg_t (xg_const) ?_
          refine xg_t (xg_blk (b := [(100, 3, 14, 8, 2, 32), (103, 1, 12, 0, 0, 0)]) rfl) ?_
          refine xg_putI (fl1 := [(2, 2), (0, le1), (0, 2), (0, pl1), (0, af1), (0, nu1)]) hcl30 rfl rfl rfl (fun w82 hk83 hb84 => ?_)
          exact xg_e ⟨w82, ⟨rfl, rfl⟩, xInv.up (S := [48]) hI23 (xFr.of (S := [48]) hb84 (by decide)) (List.forall_mem_cons.mpr ⟨(show cp48 (wget w82 48) from ⟨le1, 2, pl1, af1, nu1, hk83, by omega, by omega, by omega, by omega, by omega, by omega⟩), fun _ h => absurd h List.not_mem_nil⟩), (hF24.tr (xFr.of (S := [48]) hb84 (by decide)))⟩
  exact key19 _ f48_4 f48_6 f48_8 f48_10 0 w16 (Nat.lt_succ_self _) (by omega) (by omega) (by omega) (by omega) (by omega) hk17 (xInv.up (S := [48]) hI (xFr.of (S := [48]) hb18 (by decide)) (List.forall_mem_cons.mpr ⟨(show cp48 (wget w16 48) from ⟨f48_4, f48_6, f48_8, f48_10, 0, hk17, by omega, by omega, by omega, by omega, by omega, by omega⟩), fun _ h => absurd h List.not_mem_nil⟩)) ((xFr.of (S := [48]) hb18 (by decide)))
theorem tkAdvance48 (hI : xInv w)  : xPq (d + 2) mX8_advance [(2, 48)] w bd fc rr [] (fun w' => xInv w' ∧ xFr [48] w w') := by
  refine xPq.of ?_
  show xTo (d + 2) mX8_advance (0, [], [(0, (2, 48))], [], (w, bd, fc, 0, 0, rr)) (fun φ => ∃ w', xEnd 0 [] (w', bd, fc, 0, 0, rr) φ ∧ xInv w' ∧ xFr [48] w w')
  obtain ⟨g2_1, h2_2, hb3⟩ := (hI 2 (by decide) : cpY 500 0 (wget w 2))
  have h2_2 : xRk 1 0 w 2 500 0 g2_1 := h2_2
  obtain ⟨f48_4, f48_6, f48_8, f48_10, f48_12, h48_14, hb5, hb7, hb9, hb11, hb13, hb15⟩ := (hI 48 (by decide) : cp48 (wget w 48))
  have key16 : ∀ (m18 : Nat) (le1 kd1 pl1 af1 nu1 : Nat) (w19 : List (List xE)), 500 - af1 < m18 → le1 ≤ 500 → kd1 ≤ 4294967295 → pl1 ≤ 500 → af1 ≤ 500 → nu1 ≤ 4294967295 → wget w19 48 = some (.inl (8, [(2, 2), (0, le1), (0, kd1), (0, pl1), (0, af1), (0, nu1)])) → xInv w19 → xFr [48] w w19 → xTo (d + 2) mX8_advance (0, [], [(0, (2, 48))], [], (w19, bd, fc, 0, 0, rr)) (fun φ => ∃ w', xEnd 0 [] (w', bd, fc, 0, 0, rr) φ ∧ xInv w' ∧ xFr [48] w w') := by
    intro m18
    induction m18 with
    | zero => intro le1 kd1 pl1 af1 nu1 w19 hz; exact absurd hz (Nat.not_lt_zero _)
    | succ m18 ih17 =>
      intro le1 kd1 pl1 af1 nu1 w19 hm28 hn22 hn23 hn24 hn25 hn26 hcl27 hI20 hF21
      refine xg_t (xg_blk (b := [(0, 1, 0, 0, 0, 0), (1, 3, 1, 8, 4, 23), (4, 1, 0, 0, 0, 0), (5, 3, 1, 8, 1, 19), (8, 3, 6, 52, 3, 0), (11, 1, 0, 0, 0, 0), (12, 3, 1, 8, 0, 7), (15, 1, 0, 0, 0, 0), (16, 3, 1, 8, 4, 23), (19, 1, 32, 0, 0, 0), (20, 2, 4, 32, 0, 0), (22, 3, 6, 39, 0, 0), (25, 1, 0, 0, 0, 0), (26, 3, 1, 8, 0, 7), (29, 1, 0, 0, 0, 0), (30, 3, 1, 8, 4, 23), (33, 1, 32, 0, 0, 0), (34, 2, 4, 10, 0, 0), (36, 3, 6, 52, 1, 0)]) rfl) ?_
      refine xg_t (xg_aload (va := (2, 48)) rfl rfl) ?_
      refine xg_t (xg_getf (va := (0, af1)) hcl27 rfl) ?_
      refine xg_t (xg_aload (va := (2, 48)) rfl rfl) ?_
      refine xg_t (xg_getf (va := (0, le1)) hcl27 rfl) ?_
      by_cases hc29 : af1 < le1
      · refine xg_t (xg_icF (u := af1) (v := le1) rfl xnm0 xnm0 (xj_geF hc29 (by omega))) ?_
        refine xg_t (xg_aload (va := (2, 48)) rfl rfl) ?_
        refine xg_t (xg_getf (va := (2, 2)) hcl27 rfl) ?_
        refine xg_t (xg_aload (va := (2, 48)) rfl rfl) ?_
        refine xg_t (xg_getf (va := (0, af1)) hcl27 rfl) ?_
        refine xg_baldY (n := af1) (h2_2.fr hF21 (by decide)) (hb3) xnm0 (by omega) (fun u30 hu31 he32 => ?_)
        refine xg_t (xg_bip) ?_
        by_cases hc33 : u30 = 32
        · refine xg_t (xg_icT (u := u30) (v := 32) rfl xnm0 xnm0 (xj_eqT hc33)) ?_
          refine xg_t (xg_blk (b := [(39, 1, 0, 0, 0, 0), (40, 1, 19, 0, 0, 0), (41, 3, 1, 8, 4, 23), (44, 1, 3, 1, 0, 0), (45, 1, 11, 0, 0, 0), (46, 3, 14, 8, 4, 23), (49, 3, 8, 0, 0, 0)]) rfl) ?_
          refine xg_t (xg_aload (va := (2, 48)) rfl rfl) ?_
          refine xg_t (xg_dup rfl) ?_
          refine xg_t (xg_getf (va := (0, af1)) hcl27 rfl) ?_
          refine xg_t (xg_const) ?_
          refine xg_t (xg_iadd (u := af1) (v := 1) (z := af1 + 1) xnm0 xnm0 (by omega)) ?_
          refine xg_putI (fl1 := [(2, 2), (0, le1), (0, kd1), (0, pl1), (0, af1 + 1), (0, nu1)]) hcl27 rfl rfl rfl (fun w34 hk35 hb36 => ?_)
          refine xg_t (xg_goto) ?_
          exact ih17 le1 kd1 pl1 (af1 + 1) nu1 w34 (by omega) (by omega) (by omega) (by omega) (by omega) (by omega) hk35 (xInv.up (S := [48]) hI20 (xFr.of (S := [48]) hb36 (by decide)) (List.forall_mem_cons.mpr ⟨(show cp48 (wget w34 48) from ⟨le1, kd1, pl1, af1 + 1, nu1, hk35, by omega, by omega, by omega, by omega, by omega, by omega⟩), fun _ h => absurd h List.not_mem_nil⟩)) ((hF21.tr (xFr.of (S := [48]) hb36 (by decide))))
        · refine xg_t (xg_icF (u := u30) (v := 32) rfl xnm0 xnm0 (xj_eqF hc33)) ?_
          refine xg_t (xg_aload (va := (2, 48)) rfl rfl) ?_
          refine xg_t (xg_getf (va := (2, 2)) hcl27 rfl) ?_
          refine xg_t (xg_aload (va := (2, 48)) rfl rfl) ?_
          refine xg_t (xg_getf (va := (0, af1)) hcl27 rfl) ?_
          refine xg_baldY (n := af1) (h2_2.fr hF21 (by decide)) (hb3) xnm0 (by omega) (fun u37 hu38 he39 => ?_)
          refine xg_t (xg_bip) ?_
          by_cases hc40 : u37 = 10
          · refine xg_t (xg_icF (u := u37) (v := 10) rfl xnm0 xnm0 (xj_neF hc40)) ?_
            refine xg_t (xg_blk (b := [(39, 1, 0, 0, 0, 0), (40, 1, 19, 0, 0, 0), (41, 3, 1, 8, 4, 23), (44, 1, 3, 1, 0, 0), (45, 1, 11, 0, 0, 0), (46, 3, 14, 8, 4, 23), (49, 3, 8, 0, 0, 0)]) rfl) ?_
            refine xg_t (xg_aload (va := (2, 48)) rfl rfl) ?_
            refine xg_t (xg_dup rfl) ?_
            refine xg_t (xg_getf (va := (0, af1)) hcl27 rfl) ?_
            refine xg_t (xg_const) ?_
            refine xg_t (xg_iadd (u := af1) (v := 1) (z := af1 + 1) xnm0 xnm0 (by omega)) ?_
            refine xg_putI (fl1 := [(2, 2), (0, le1), (0, kd1), (0, pl1), (0, af1 + 1), (0, nu1)]) hcl27 rfl rfl rfl (fun w41 hk42 hb43 => ?_)
            refine xg_t (xg_goto) ?_
            exact ih17 le1 kd1 pl1 (af1 + 1) nu1 w41 (by omega) (by omega) (by omega) (by omega) (by omega) (by omega) hk42 (xInv.up (S := [48]) hI20 (xFr.of (S := [48]) hb43 (by decide)) (List.forall_mem_cons.mpr ⟨(show cp48 (wget w41 48) from ⟨le1, kd1, pl1, af1 + 1, nu1, hk42, by omega, by omega, by omega, by omega, by omega, by omega⟩), fun _ h => absurd h List.not_mem_nil⟩)) ((hF21.tr (xFr.of (S := [48]) hb43 (by decide))))
          · refine xg_t (xg_icT (u := u37) (v := 10) rfl xnm0 xnm0 (xj_neT hc40)) ?_
            refine xg_t (xg_blk (b := [(52, 1, 0, 0, 0, 0), (53, 1, 0, 0, 0, 0), (54, 3, 1, 8, 4, 23), (57, 3, 14, 8, 3, 29), (60, 1, 0, 0, 0, 0), (61, 3, 1, 8, 4, 23), (64, 1, 0, 0, 0, 0), (65, 3, 1, 8, 1, 19), (68, 3, 6, 79, 2, 0), (71, 1, 0, 0, 0, 0), (72, 1, 3, 0, 0, 0), (73, 3, 14, 8, 2, 32), (76, 3, 8, 194, 0, 0)]) rfl) ?_
            refine xg_t (xg_aload (va := (2, 48)) rfl rfl) ?_
            refine xg_t (xg_aload (va := (2, 48)) rfl rfl) ?_
            refine xg_t (xg_getf (va := (0, af1)) hcl27 rfl) ?_
            refine xg_putI (fl1 := [(2, 2), (0, le1), (0, kd1), (0, af1), (0, af1), (0, nu1)]) hcl27 rfl rfl rfl (fun w44 hk45 hb46 => ?_)
            refine xg_t (xg_aload (va := (2, 48)) rfl rfl) ?_
            refine xg_t (xg_getf (va := (0, af1)) hk45 rfl) ?_
            refine xg_t (xg_aload (va := (2, 48)) rfl rfl) ?_
            refine xg_t (xg_getf (va := (0, le1)) hk45 rfl) ?_
            by_cases hc47 : af1 < le1
            · refine xg_t (xg_icT (u := af1) (v := le1) rfl xnm0 xnm0 (xj_ltT hc47 (by omega))) ?_
              refine xg_t (xg_blk (b := [(79, 1, 0, 0, 0, 0), (80, 3, 1, 8, 0, 7), (83, 1, 0, 0, 0, 0), (84, 3, 1, 8, 4, 23), (87, 1, 32, 0, 0, 0), (88, 3, 13, 315, 66, 35), (91, 3, 7, 138, 0, 0), (94, 1, 0, 0, 0, 0), (95, 1, 3, 1, 0, 0), (96, 3, 14, 8, 2, 32)]) rfl) ?_
              refine xg_t (xg_aload (va := (2, 48)) rfl rfl) ?_
              refine xg_t (xg_getf (va := (2, 2)) hk45 rfl) ?_
              refine xg_t (xg_aload (va := (2, 48)) rfl rfl) ?_
              refine xg_t (xg_getf (va := (0, af1)) hk45 rfl) ?_
              refine xg_baldY (n := af1) ((h2_2.fr hF21 (by decide)).but hb46 (by decide)) (hb3) xnm0 (by omega) (fun u48 hu49 he50 => ?_)
              refine xg_cSi mX8_isLetter (vs := [(0, u48)]) (rest := []) (cn1 := 0) (sl1 := 0) rfl (tkIsLetter (xInv.up (S := [48]) hI20 (xFr.of (S := [48]) hb46 (by decide)) (List.forall_mem_cons.mpr ⟨(show cp48 (wget w44 48) from ⟨le1, kd1, af1, af1, nu1, hk45, by omega, by omega, by omega, by omega, by omega, by omega⟩), fun _ h => absurd h List.not_mem_nil⟩)) (by omega)) rfl rfl rfl rfl rfl rfl rfl (fun n55 w51 hq52 => ?_)
              obtain ⟨hn56, hI53, hF54⟩ := hq52
              by_cases hc57 : n55 = 0
              · refine xg_t (xg_ifT (u := n55) rfl xnm0 (xj_eqT hc57)) ?_
                refine xg_t (xg_blk (b := [(138, 1, 0, 0, 0, 0), (139, 3, 1, 8, 0, 7), (142, 1, 0, 0, 0, 0), (143, 3, 1, 8, 4, 23), (146, 1, 32, 0, 0, 0), (147, 3, 13, 314, 66, 39), (150, 3, 7, 160, 0, 0), (153, 1, 0, 0, 0, 0), (154, 3, 13, 320, 64, 42), (157, 3, 8, 194, 0, 0)]) rfl) ?_
                refine xg_t (xg_aload (va := (2, 48)) rfl rfl) ?_
                refine xg_t (xg_getf (va := (2, 2)) (hF54.get (by decide) hk45) rfl) ?_
                refine xg_t (xg_aload (va := (2, 48)) rfl rfl) ?_
                refine xg_t (xg_getf (va := (0, af1)) (hF54.get (by decide) hk45) rfl) ?_
                refine xg_baldY (n := af1) (((h2_2.fr hF21 (by decide)).but hb46 (by decide)).fr hF54 (by decide)) (hb3) xnm0 (by omega) (fun u58 hu59 he60 => ?_)
                refine xg_cSi mX8_isDigit (vs := [(0, u58)]) (rest := []) (cn1 := 0) (sl1 := 0) rfl (tkIsDigit (hI53) (by omega)) rfl rfl rfl rfl rfl rfl rfl (fun n65 w61 hq62 => ?_)
                obtain ⟨hn66, hI63, hF64⟩ := hq62
                by_cases hc67 : n65 = 0
                · refine xg_t (xg_ifT (u := n65) rfl xnm0 (xj_eqT hc67)) ?_
                  refine xg_t (xg_blk (b := [(160, 1, 0, 0, 0, 0), (161, 1, 0, 0, 0, 0), (162, 3, 1, 8, 0, 7), (165, 1, 0, 0, 0, 0), (166, 3, 1, 8, 4, 23), (169, 1, 32, 0, 0, 0), (170, 3, 13, 317, 66, 45), (173, 3, 7, 180, 0, 0), (176, 1, 3, 3, 0, 0), (177, 3, 8, 181, 0, 0)]) rfl) ?_
                  refine xg_t (xg_aload (va := (2, 48)) rfl rfl) ?_
                  refine xg_t (xg_aload (va := (2, 48)) rfl rfl) ?_
                  refine xg_t (xg_getf (va := (2, 2)) (hF64.get (by decide) (hF54.get (by decide) hk45)) rfl) ?_
                  refine xg_t (xg_aload (va := (2, 48)) rfl rfl) ?_
                  refine xg_t (xg_getf (va := (0, af1)) (hF64.get (by decide) (hF54.get (by decide) hk45)) rfl) ?_
                  refine xg_baldY (n := af1) ((((h2_2.fr hF21 (by decide)).but hb46 (by decide)).fr hF54 (by decide)).fr hF64 (by decide)) (hb3) xnm0 (by omega) (fun u68 hu69 he70 => ?_)
                  refine xg_cSi mX8_isSignByte (vs := [(0, u68)]) (rest := [(2, 48)]) (cn1 := 0) (sl1 := 0) rfl (tkIsSignByte (hI63) (by omega)) rfl rfl rfl rfl rfl rfl rfl (fun n75 w71 hq72 => ?_)
                  obtain ⟨hn76, hI73, hF74⟩ := hq72
                  by_cases hc77 : n75 = 0
                  · refine xg_t (xg_ifT (u := n75) rfl xnm0 (xj_eqT hc77)) ?_
                    refine xg_t (xg_blk (b := [(180, 1, 3, 4, 0, 0)]) rfl) ?_
                    refine xg_t (xg_const) ?_
                    refine xg_t (xg_blk (b := [(181, 3, 14, 8, 2, 32), (184, 1, 0, 0, 0, 0), (185, 1, 19, 0, 0, 0), (186, 3, 1, 8, 4, 23), (189, 1, 3, 1, 0, 0), (190, 1, 11, 0, 0, 0), (191, 3, 14, 8, 4, 23)]) rfl) ?_
                    refine xg_putI (fl1 := [(2, 2), (0, le1), (0, 4), (0, af1), (0, af1), (0, nu1)]) (hF74.get (by decide) (hF64.get (by decide) (hF54.get (by decide) hk45))) rfl rfl rfl (fun w78 hk79 hb80 => ?_)
                    refine xg_t (xg_aload (va := (2, 48)) rfl rfl) ?_
                    refine xg_t (xg_dup rfl) ?_
                    refine xg_t (xg_getf (va := (0, af1)) hk79 rfl) ?_
                    refine xg_t (xg_const) ?_
                    refine xg_t (xg_iadd (u := af1) (v := 1) (z := af1 + 1) xnm0 xnm0 (by omega)) ?_
                    refine xg_putI (fl1 := [(2, 2), (0, le1), (0, 4), (0, af1), (0, af1 + 1), (0, nu1)]) hk79 rfl rfl rfl (fun w81 hk82 hb83 => ?_)
                    refine xg_t (xg_blk (b := [(194, 1, 12, 0, 0, 0)]) rfl) ?_
                    exact xg_e ⟨w81, ⟨rfl, rfl⟩, xInv.up (S := [48]) hI73 ((xFr.of (S := [48]) hb80 (by decide)).tr (xFr.of (S := [48]) hb83 (by decide))) (List.forall_mem_cons.mpr ⟨(show cp48 (wget w81 48) from ⟨le1, 4, af1, af1 + 1, nu1, hk82, by omega, by omega, by omega, by omega, by omega, by omega⟩), fun _ h => absurd h List.not_mem_nil⟩), (((((hF21.tr (xFr.of (S := [48]) hb46 (by decide))).tr (hF54.up (by decide))).tr (hF64.up (by decide))).tr (hF74.up (by decide))).tr ((xFr.of (S := [48]) hb80 (by decide)).tr (xFr.of (S := [48]) hb83 (by decide))))⟩
                  · refine xg_t (xg_ifF (u := n75) rfl xnm0 (xj_eqF hc77)) ?_
                    refine xg_t (xg_const) ?_
                    refine xg_t (xg_goto) ?_
                    refine xg_t (xg_blk (b := [(181, 3, 14, 8, 2, 32), (184, 1, 0, 0, 0, 0), (185, 1, 19, 0, 0, 0), (186, 3, 1, 8, 4, 23), (189, 1, 3, 1, 0, 0), (190, 1, 11, 0, 0, 0), (191, 3, 14, 8, 4, 23)]) rfl) ?_
                    refine xg_putI (fl1 := [(2, 2), (0, le1), (0, 3), (0, af1), (0, af1), (0, nu1)]) (hF74.get (by decide) (hF64.get (by decide) (hF54.get (by decide) hk45))) rfl rfl rfl (fun w84 hk85 hb86 => ?_)
                    refine xg_t (xg_aload (va := (2, 48)) rfl rfl) ?_
                    refine xg_t (xg_dup rfl) ?_
                    refine xg_t (xg_getf (va := (0, af1)) hk85 rfl) ?_
                    refine xg_t (xg_const) ?_
                    refine xg_t (xg_iadd (u := af1) (v := 1) (z := af1 + 1) xnm0 xnm0 (by omega)) ?_
                    refine xg_putI (fl1 := [(2, 2), (0, le1), (0, 3), (0, af1), (0, af1 + 1), (0, nu1)]) hk85 rfl rfl rfl (fun w87 hk88 hb89 => ?_)
                    refine xg_t (xg_blk (b := [(194, 1, 12, 0, 0, 0)]) rfl) ?_
                    exact xg_e ⟨w87, ⟨rfl, rfl⟩, xInv.up (S := [48]) hI73 ((xFr.of (S := [48]) hb86 (by decide)).tr (xFr.of (S := [48]) hb89 (by decide))) (List.forall_mem_cons.mpr ⟨(show cp48 (wget w87 48) from ⟨le1, 3, af1, af1 + 1, nu1, hk88, by omega, by omega, by omega, by omega, by omega, by omega⟩), fun _ h => absurd h List.not_mem_nil⟩), (((((hF21.tr (xFr.of (S := [48]) hb46 (by decide))).tr (hF54.up (by decide))).tr (hF64.up (by decide))).tr (hF74.up (by decide))).tr ((xFr.of (S := [48]) hb86 (by decide)).tr (xFr.of (S := [48]) hb89 (by decide))))⟩
                · refine xg_t (xg_ifF (u := n65) rfl xnm0 (xj_eqF hc67)) ?_
                  refine xg_t (xg_aload (va := (2, 48)) rfl rfl) ?_
                  refine xg_cVv mX8_takeDigits (vs := []) (rest := []) (cn1 := 0) (sl1 := 0) rfl (tkTakeDigits48 (hI63)) rfl (hF64.get (by decide) (hF54.get (by decide) hk45)) rfl rfl rfl rfl rfl rfl (fun w90 hq91 => ?_)
                  obtain ⟨hI92, hF93⟩ := hq91
                  refine xg_t (xg_goto) ?_
                  refine xg_t (xg_blk (b := [(194, 1, 12, 0, 0, 0)]) rfl) ?_
                  exact xg_e ⟨w90, ⟨rfl, rfl⟩, hI92, ((((hF21.tr (xFr.of (S := [48]) hb46 (by decide))).tr (hF54.up (by decide))).tr (hF64.up (by decide))).tr (hF93.up (by decide)))⟩
              · refine xg_t (xg_ifF (u := n55) rfl xnm0 (xj_eqF hc57)) ?_
                refine xg_t (xg_aload (va := (2, 48)) rfl rfl) ?_
                refine xg_t (xg_const) ?_
                refine xg_putI (fl1 := [(2, 2), (0, le1), (0, 1), (0, af1), (0, af1), (0, nu1)]) (hF54.get (by decide) hk45) rfl rfl rfl (fun w94 hk95 hb96 => ?_)
                have key97 : ∀ (m99 : Nat) (le2 kd2 pl2 af2 nu2 : Nat) (w100 : List (List xE)), 500 - af2 < m99 → le2 ≤ 500 → kd2 ≤ 4294967295 → pl2 ≤ 500 → af2 ≤ 500 → nu2 ≤ 4294967295 → wget w100 48 = some (.inl (8, [(2, 2), (0, le2), (0, kd2), (0, pl2), (0, af2), (0, nu2)])) → xInv w100 → xFr [48] w w100 → xTo (d + 2) mX8_advance (99, [], [(0, (2, 48))], [], (w100, bd, fc, 0, 0, rr)) (fun φ => ∃ w', xEnd 0 [] (w', bd, fc, 0, 0, rr) φ ∧ xInv w' ∧ xFr [48] w w') := by
                  intro m99
                  induction m99 with
                  | zero => intro le2 kd2 pl2 af2 nu2 w100 hz; exact absurd hz (Nat.not_lt_zero _)
                  | succ m99 ih98 =>
                    intro le2 kd2 pl2 af2 nu2 w100 hm109 hn103 hn104 hn105 hn106 hn107 hcl108 hI101 hF102
                    refine xg_t (xg_blk (b := [(99, 1, 0, 0, 0, 0), (100, 3, 1, 8, 4, 23), (103, 1, 0, 0, 0, 0), (104, 3, 1, 8, 1, 19), (107, 3, 6, 194, 3, 0), (110, 1, 0, 0, 0, 0), (111, 3, 1, 8, 0, 7), (114, 1, 0, 0, 0, 0), (115, 3, 1, 8, 4, 23), (118, 1, 32, 0, 0, 0), (119, 3, 13, 315, 66, 35), (122, 3, 7, 194, 0, 0), (125, 1, 0, 0, 0, 0), (126, 1, 19, 0, 0, 0), (127, 3, 1, 8, 4, 23), (130, 1, 3, 1, 0, 0), (131, 1, 11, 0, 0, 0), (132, 3, 14, 8, 4, 23), (135, 3, 8, 99, 0, 0)]) rfl) ?_
                    refine xg_t (xg_aload (va := (2, 48)) rfl rfl) ?_
                    refine xg_t (xg_getf (va := (0, af2)) hcl108 rfl) ?_
                    refine xg_t (xg_aload (va := (2, 48)) rfl rfl) ?_
                    refine xg_t (xg_getf (va := (0, le2)) hcl108 rfl) ?_
                    by_cases hc110 : af2 < le2
                    · refine xg_t (xg_icF (u := af2) (v := le2) rfl xnm0 xnm0 (xj_geF hc110 (by omega))) ?_
                      refine xg_t (xg_aload (va := (2, 48)) rfl rfl) ?_
                      refine xg_t (xg_getf (va := (2, 2)) hcl108 rfl) ?_
                      refine xg_t (xg_aload (va := (2, 48)) rfl rfl) ?_
                      refine xg_t (xg_getf (va := (0, af2)) hcl108 rfl) ?_
                      refine xg_baldY (n := af2) (h2_2.fr hF102 (by decide)) (hb3) xnm0 (by omega) (fun u111 hu112 he113 => ?_)
                      refine xg_cSi mX8_isLetter (vs := [(0, u111)]) (rest := []) (cn1 := 0) (sl1 := 0) rfl (tkIsLetter (hI101) (by omega)) rfl rfl rfl rfl rfl rfl rfl (fun n118 w114 hq115 => ?_)
                      obtain ⟨hn119, hI116, hF117⟩ := hq115
                      by_cases hc120 : n118 = 0
                      · refine xg_t (xg_ifT (u := n118) rfl xnm0 (xj_eqT hc120)) ?_
                        refine xg_t (xg_blk (b := [(194, 1, 12, 0, 0, 0)]) rfl) ?_
                        exact xg_e ⟨w114, ⟨rfl, rfl⟩, hI116, (hF102.tr (hF117.up (by decide)))⟩
                      · refine xg_t (xg_ifF (u := n118) rfl xnm0 (xj_eqF hc120)) ?_
                        refine xg_t (xg_aload (va := (2, 48)) rfl rfl) ?_
                        refine xg_t (xg_dup rfl) ?_
                        refine xg_t (xg_getf (va := (0, af2)) (hF117.get (by decide) hcl108) rfl) ?_
                        refine xg_t (xg_const) ?_
                        refine xg_t (xg_iadd (u := af2) (v := 1) (z := af2 + 1) xnm0 xnm0 (by omega)) ?_
                        refine xg_putI (fl1 := [(2, 2), (0, le2), (0, kd2), (0, pl2), (0, af2 + 1), (0, nu2)]) (hF117.get (by decide) hcl108) rfl rfl rfl (fun w121 hk122 hb123 => ?_)
                        refine xg_t (xg_goto) ?_
                        exact ih98 le2 kd2 pl2 (af2 + 1) nu2 w121 (by omega) (by omega) (by omega) (by omega) (by omega) (by omega) hk122 (xInv.up (S := [48]) hI116 (xFr.of (S := [48]) hb123 (by decide)) (List.forall_mem_cons.mpr ⟨(show cp48 (wget w121 48) from ⟨le2, kd2, pl2, af2 + 1, nu2, hk122, by omega, by omega, by omega, by omega, by omega, by omega⟩), fun _ h => absurd h List.not_mem_nil⟩)) (((hF102.tr (hF117.up (by decide))).tr (xFr.of (S := [48]) hb123 (by decide))))
                    · refine xg_t (xg_icT (u := af2) (v := le2) rfl xnm0 xnm0 (xj_geT (by omega) (by omega))) ?_
                      refine xg_t (xg_blk (b := [(194, 1, 12, 0, 0, 0)]) rfl) ?_
                      exact xg_e ⟨w100, ⟨rfl, rfl⟩, hI101, hF102⟩
                exact key97 _ le1 1 af1 af1 nu1 w94 (Nat.lt_succ_self _) (by omega) (by omega) (by omega) (by omega) (by omega) hk95 (xInv.up (S := [48]) hI53 (xFr.of (S := [48]) hb96 (by decide)) (List.forall_mem_cons.mpr ⟨(show cp48 (wget w94 48) from ⟨le1, 1, af1, af1, nu1, hk95, by omega, by omega, by omega, by omega, by omega, by omega⟩), fun _ h => absurd h List.not_mem_nil⟩)) ((((hF21.tr (xFr.of (S := [48]) hb46 (by decide))).tr (hF54.up (by decide))).tr (xFr.of (S := [48]) hb96 (by decide))))
            · refine xg_t (xg_icF (u := af1) (v := le1) rfl xnm0 xnm0 (xj_ltF (by omega) (by omega))) ?_
              refine xg_t (xg_aload (va := (2, 48)) rfl rfl) ?_
              refine xg_t (xg_const) ?_
              refine xg_putI (fl1 := [(2, 2), (0, le1), (0, 0), (0, af1), (0, af1), (0, nu1)]) hk45 rfl rfl rfl (fun w124 hk125 hb126 => ?_)
              refine xg_t (xg_goto) ?_
              refine xg_t (xg_blk (b := [(194, 1, 12, 0, 0, 0)]) rfl) ?_
              exact xg_e ⟨w124, ⟨rfl, rfl⟩, xInv.up (S := [48]) hI20 ((xFr.of (S := [48]) hb46 (by decide)).tr (xFr.of (S := [48]) hb126 (by decide))) (List.forall_mem_cons.mpr ⟨(show cp48 (wget w124 48) from ⟨le1, 0, af1, af1, nu1, hk125, by omega, by omega, by omega, by omega, by omega, by omega⟩), fun _ h => absurd h List.not_mem_nil⟩), (hF21.tr ((xFr.of (S := [48]) hb46 (by decide)).tr (xFr.of (S := [48]) hb126 (by decide))))⟩
      · refine xg_t (xg_icT (u := af1) (v := le1) rfl xnm0 xnm0 (xj_geT (by omega) (by omega))) ?_
        refine xg_t (xg_blk (b := [(52, 1, 0, 0, 0, 0), (53, 1, 0, 0, 0, 0), (54, 3, 1, 8, 4, 23), (57, 3, 14, 8, 3, 29), (60, 1, 0, 0, 0, 0), (61, 3, 1, 8, 4, 23), (64, 1, 0, 0, 0, 0), (65, 3, 1, 8, 1, 19), (68, 3, 6, 79, 2, 0), (71, 1, 0, 0, 0, 0), (72, 1, 3, 0, 0, 0), (73, 3, 14, 8, 2, 32), (76, 3, 8, 194, 0, 0)]) rfl) ?_
        refine xg_t (xg_aload (va := (2, 48)) rfl rfl) ?_
        refine xg_t (xg_aload (va := (2, 48)) rfl rfl) ?_
        refine xg_t (xg_getf (va := (0, af1)) hcl27 rfl) ?_
        refine xg_putI (fl1 := [(2, 2), (0, le1), (0, kd1), (0, af1), (0, af1), (0, nu1)]) hcl27 rfl rfl rfl (fun w127 hk128 hb129 => ?_)
        refine xg_t (xg_aload (va := (2, 48)) rfl rfl) ?_
        refine xg_t (xg_getf (va := (0, af1)) hk128 rfl) ?_
        refine xg_t (xg_aload (va := (2, 48)) rfl rfl) ?_
        refine xg_t (xg_getf (va := (0, le1)) hk128 rfl) ?_
        by_cases hc130 : af1 < le1
        · refine xg_t (xg_icT (u := af1) (v := le1) rfl xnm0 xnm0 (xj_ltT hc130 (by omega))) ?_
          refine xg_t (xg_blk (b := [(79, 1, 0, 0, 0, 0), (80, 3, 1, 8, 0, 7), (83, 1, 0, 0, 0, 0), (84, 3, 1, 8, 4, 23), (87, 1, 32, 0, 0, 0), (88, 3, 13, 315, 66, 35), (91, 3, 7, 138, 0, 0), (94, 1, 0, 0, 0, 0), (95, 1, 3, 1, 0, 0), (96, 3, 14, 8, 2, 32)]) rfl) ?_
          refine xg_t (xg_aload (va := (2, 48)) rfl rfl) ?_
          refine xg_t (xg_getf (va := (2, 2)) hk128 rfl) ?_
          refine xg_t (xg_aload (va := (2, 48)) rfl rfl) ?_
          refine xg_t (xg_getf (va := (0, af1)) hk128 rfl) ?_
          refine xg_baldY (n := af1) ((h2_2.fr hF21 (by decide)).but hb129 (by decide)) (hb3) xnm0 (by omega) (fun u131 hu132 he133 => ?_)
          refine xg_cSi mX8_isLetter (vs := [(0, u131)]) (rest := []) (cn1 := 0) (sl1 := 0) rfl (tkIsLetter (xInv.up (S := [48]) hI20 (xFr.of (S := [48]) hb129 (by decide)) (List.forall_mem_cons.mpr ⟨(show cp48 (wget w127 48) from ⟨le1, kd1, af1, af1, nu1, hk128, by omega, by omega, by omega, by omega, by omega, by omega⟩), fun _ h => absurd h List.not_mem_nil⟩)) (by omega)) rfl rfl rfl rfl rfl rfl rfl (fun n138 w134 hq135 => ?_)
          obtain ⟨hn139, hI136, hF137⟩ := hq135
          by_cases hc140 : n138 = 0
          · refine xg_t (xg_ifT (u := n138) rfl xnm0 (xj_eqT hc140)) ?_
            refine xg_t (xg_blk (b := [(138, 1, 0, 0, 0, 0), (139, 3, 1, 8, 0, 7), (142, 1, 0, 0, 0, 0), (143, 3, 1, 8, 4, 23), (146, 1, 32, 0, 0, 0), (147, 3, 13, 314, 66, 39), (150, 3, 7, 160, 0, 0), (153, 1, 0, 0, 0, 0), (154, 3, 13, 320, 64, 42), (157, 3, 8, 194, 0, 0)]) rfl) ?_
            refine xg_t (xg_aload (va := (2, 48)) rfl rfl) ?_
            refine xg_t (xg_getf (va := (2, 2)) (hF137.get (by decide) hk128) rfl) ?_
            refine xg_t (xg_aload (va := (2, 48)) rfl rfl) ?_
            refine xg_t (xg_getf (va := (0, af1)) (hF137.get (by decide) hk128) rfl) ?_
            refine xg_baldY (n := af1) (((h2_2.fr hF21 (by decide)).but hb129 (by decide)).fr hF137 (by decide)) (hb3) xnm0 (by omega) (fun u141 hu142 he143 => ?_)
            refine xg_cSi mX8_isDigit (vs := [(0, u141)]) (rest := []) (cn1 := 0) (sl1 := 0) rfl (tkIsDigit (hI136) (by omega)) rfl rfl rfl rfl rfl rfl rfl (fun n148 w144 hq145 => ?_)
            obtain ⟨hn149, hI146, hF147⟩ := hq145
            by_cases hc150 : n148 = 0
            · refine xg_t (xg_ifT (u := n148) rfl xnm0 (xj_eqT hc150)) ?_
              refine xg_t (xg_blk (b := [(160, 1, 0, 0, 0, 0), (161, 1, 0, 0, 0, 0), (162, 3, 1, 8, 0, 7), (165, 1, 0, 0, 0, 0), (166, 3, 1, 8, 4, 23), (169, 1, 32, 0, 0, 0), (170, 3, 13, 317, 66, 45), (173, 3, 7, 180, 0, 0), (176, 1, 3, 3, 0, 0), (177, 3, 8, 181, 0, 0)]) rfl) ?_
              refine xg_t (xg_aload (va := (2, 48)) rfl rfl) ?_
              refine xg_t (xg_aload (va := (2, 48)) rfl rfl) ?_
              refine xg_t (xg_getf (va := (2, 2)) (hF147.get (by decide) (hF137.get (by decide) hk128)) rfl) ?_
              refine xg_t (xg_aload (va := (2, 48)) rfl rfl) ?_
              refine xg_t (xg_getf (va := (0, af1)) (hF147.get (by decide) (hF137.get (by decide) hk128)) rfl) ?_
              refine xg_baldY (n := af1) ((((h2_2.fr hF21 (by decide)).but hb129 (by decide)).fr hF137 (by decide)).fr hF147 (by decide)) (hb3) xnm0 (by omega) (fun u151 hu152 he153 => ?_)
              refine xg_cSi mX8_isSignByte (vs := [(0, u151)]) (rest := [(2, 48)]) (cn1 := 0) (sl1 := 0) rfl (tkIsSignByte (hI146) (by omega)) rfl rfl rfl rfl rfl rfl rfl (fun n158 w154 hq155 => ?_)
              obtain ⟨hn159, hI156, hF157⟩ := hq155
              by_cases hc160 : n158 = 0
              · refine xg_t (xg_ifT (u := n158) rfl xnm0 (xj_eqT hc160)) ?_
                refine xg_t (xg_blk (b := [(180, 1, 3, 4, 0, 0)]) rfl) ?_
                refine xg_t (xg_const) ?_
                refine xg_t (xg_blk (b := [(181, 3, 14, 8, 2, 32), (184, 1, 0, 0, 0, 0), (185, 1, 19, 0, 0, 0), (186, 3, 1, 8, 4, 23), (189, 1, 3, 1, 0, 0), (190, 1, 11, 0, 0, 0), (191, 3, 14, 8, 4, 23)]) rfl) ?_
                refine xg_putI (fl1 := [(2, 2), (0, le1), (0, 4), (0, af1), (0, af1), (0, nu1)]) (hF157.get (by decide) (hF147.get (by decide) (hF137.get (by decide) hk128))) rfl rfl rfl (fun w161 hk162 hb163 => ?_)
                refine xg_t (xg_aload (va := (2, 48)) rfl rfl) ?_
                refine xg_t (xg_dup rfl) ?_
                refine xg_t (xg_getf (va := (0, af1)) hk162 rfl) ?_
                refine xg_t (xg_const) ?_
                refine xg_t (xg_iadd (u := af1) (v := 1) (z := af1 + 1) xnm0 xnm0 (by omega)) ?_
                refine xg_putI (fl1 := [(2, 2), (0, le1), (0, 4), (0, af1), (0, af1 + 1), (0, nu1)]) hk162 rfl rfl rfl (fun w164 hk165 hb166 => ?_)
                refine xg_t (xg_blk (b := [(194, 1, 12, 0, 0, 0)]) rfl) ?_
                exact xg_e ⟨w164, ⟨rfl, rfl⟩, xInv.up (S := [48]) hI156 ((xFr.of (S := [48]) hb163 (by decide)).tr (xFr.of (S := [48]) hb166 (by decide))) (List.forall_mem_cons.mpr ⟨(show cp48 (wget w164 48) from ⟨le1, 4, af1, af1 + 1, nu1, hk165, by omega, by omega, by omega, by omega, by omega, by omega⟩), fun _ h => absurd h List.not_mem_nil⟩), (((((hF21.tr (xFr.of (S := [48]) hb129 (by decide))).tr (hF137.up (by decide))).tr (hF147.up (by decide))).tr (hF157.up (by decide))).tr ((xFr.of (S := [48]) hb163 (by decide)).tr (xFr.of (S := [48]) hb166 (by decide))))⟩
              · refine xg_t (xg_ifF (u := n158) rfl xnm0 (xj_eqF hc160)) ?_
                refine xg_t (xg_const) ?_
                refine xg_t (xg_goto) ?_
                refine xg_t (xg_blk (b := [(181, 3, 14, 8, 2, 32), (184, 1, 0, 0, 0, 0), (185, 1, 19, 0, 0, 0), (186, 3, 1, 8, 4, 23), (189, 1, 3, 1, 0, 0), (190, 1, 11, 0, 0, 0), (191, 3, 14, 8, 4, 23)]) rfl) ?_
                refine xg_putI (fl1 := [(2, 2), (0, le1), (0, 3), (0, af1), (0, af1), (0, nu1)]) (hF157.get (by decide) (hF147.get (by decide) (hF137.get (by decide) hk128))) rfl rfl rfl (fun w167 hk168 hb169 => ?_)
                refine xg_t (xg_aload (va := (2, 48)) rfl rfl) ?_
                refine xg_t (xg_dup rfl) ?_
                refine xg_t (xg_getf (va := (0, af1)) hk168 rfl) ?_
                refine xg_t (xg_const) ?_
                refine xg_t (xg_iadd (u := af1) (v := 1) (z := af1 + 1) xnm0 xnm0 (by omega)) ?_
                refine xg_putI (fl1 := [(2, 2), (0, le1), (0, 3), (0, af1), (0, af1 + 1), (0, nu1)]) hk168 rfl rfl rfl (fun w170 hk171 hb172 => ?_)
                refine xg_t (xg_blk (b := [(194, 1, 12, 0, 0, 0)]) rfl) ?_
                exact xg_e ⟨w170, ⟨rfl, rfl⟩, xInv.up (S := [48]) hI156 ((xFr.of (S := [48]) hb169 (by decide)).tr (xFr.of (S := [48]) hb172 (by decide))) (List.forall_mem_cons.mpr ⟨(show cp48 (wget w170 48) from ⟨le1, 3, af1, af1 + 1, nu1, hk171, by omega, by omega, by omega, by omega, by omega, by omega⟩), fun _ h => absurd h List.not_mem_nil⟩), (((((hF21.tr (xFr.of (S := [48]) hb129 (by decide))).tr (hF137.up (by decide))).tr (hF147.up (by decide))).tr (hF157.up (by decide))).tr ((xFr.of (S := [48]) hb169 (by decide)).tr (xFr.of (S := [48]) hb172 (by decide))))⟩
            · refine xg_t (xg_ifF (u := n148) rfl xnm0 (xj_eqF hc150)) ?_
              refine xg_t (xg_aload (va := (2, 48)) rfl rfl) ?_
              refine xg_cVv mX8_takeDigits (vs := []) (rest := []) (cn1 := 0) (sl1 := 0) rfl (tkTakeDigits48 (hI146)) rfl (hF147.get (by decide) (hF137.get (by decide) hk128)) rfl rfl rfl rfl rfl rfl (fun w173 hq174 => ?_)
              obtain ⟨hI175, hF176⟩ := hq174
              refine xg_t (xg_goto) ?_
              refine xg_t (xg_blk (b := [(194, 1, 12, 0, 0, 0)]) rfl) ?_
              exact xg_e ⟨w173, ⟨rfl, rfl⟩, hI175, ((((hF21.tr (xFr.of (S := [48]) hb129 (by decide))).tr (hF137.up (by decide))).tr (hF147.up (by decide))).tr (hF176.up (by decide)))⟩
          · refine xg_t (xg_ifF (u := n138) rfl xnm0 (xj_eqF hc140)) ?_
            refine xg_t (xg_aload (va := (2, 48)) rfl rfl) ?_
            refine xg_t (xg_const) ?_
            refine xg_putI (fl1 := [(2, 2), (0, le1), (0, 1), (0, af1), (0, af1), (0, nu1)]) (hF137.get (by decide) hk128) rfl rfl rfl (fun w177 hk178 hb179 => ?_)
            have key180 : ∀ (m182 : Nat) (le2 kd2 pl2 af2 nu2 : Nat) (w183 : List (List xE)), 500 - af2 < m182 → le2 ≤ 500 → kd2 ≤ 4294967295 → pl2 ≤ 500 → af2 ≤ 500 → nu2 ≤ 4294967295 → wget w183 48 = some (.inl (8, [(2, 2), (0, le2), (0, kd2), (0, pl2), (0, af2), (0, nu2)])) → xInv w183 → xFr [48] w w183 → xTo (d + 2) mX8_advance (99, [], [(0, (2, 48))], [], (w183, bd, fc, 0, 0, rr)) (fun φ => ∃ w', xEnd 0 [] (w', bd, fc, 0, 0, rr) φ ∧ xInv w' ∧ xFr [48] w w') := by
              intro m182
              induction m182 with
              | zero => intro le2 kd2 pl2 af2 nu2 w183 hz; exact absurd hz (Nat.not_lt_zero _)
              | succ m182 ih181 =>
                intro le2 kd2 pl2 af2 nu2 w183 hm192 hn186 hn187 hn188 hn189 hn190 hcl191 hI184 hF185
                refine xg_t (xg_blk (b := [(99, 1, 0, 0, 0, 0), (100, 3, 1, 8, 4, 23), (103, 1, 0, 0, 0, 0), (104, 3, 1, 8, 1, 19), (107, 3, 6, 194, 3, 0), (110, 1, 0, 0, 0, 0), (111, 3, 1, 8, 0, 7), (114, 1, 0, 0, 0, 0), (115, 3, 1, 8, 4, 23), (118, 1, 32, 0, 0, 0), (119, 3, 13, 315, 66, 35), (122, 3, 7, 194, 0, 0), (125, 1, 0, 0, 0, 0), (126, 1, 19, 0, 0, 0), (127, 3, 1, 8, 4, 23), (130, 1, 3, 1, 0, 0), (131, 1, 11, 0, 0, 0), (132, 3, 14, 8, 4, 23), (135, 3, 8, 99, 0, 0)]) rfl) ?_
                refine xg_t (xg_aload (va := (2, 48)) rfl rfl) ?_
                refine xg_t (xg_getf (va := (0, af2)) hcl191 rfl) ?_
                refine xg_t (xg_aload (va := (2, 48)) rfl rfl) ?_
                refine xg_t (xg_getf (va := (0, le2)) hcl191 rfl) ?_
                by_cases hc193 : af2 < le2
                · refine xg_t (xg_icF (u := af2) (v := le2) rfl xnm0 xnm0 (xj_geF hc193 (by omega))) ?_
                  refine xg_t (xg_aload (va := (2, 48)) rfl rfl) ?_
                  refine xg_t (xg_getf (va := (2, 2)) hcl191 rfl) ?_
                  refine xg_t (xg_aload (va := (2, 48)) rfl rfl) ?_
                  refine xg_t (xg_getf (va := (0, af2)) hcl191 rfl) ?_
                  refine xg_baldY (n := af2) (h2_2.fr hF185 (by decide)) (hb3) xnm0 (by omega) (fun u194 hu195 he196 => ?_)
                  refine xg_cSi mX8_isLetter (vs := [(0, u194)]) (rest := []) (cn1 := 0) (sl1 := 0) rfl (tkIsLetter (hI184) (by omega)) rfl rfl rfl rfl rfl rfl rfl (fun n201 w197 hq198 => ?_)
                  obtain ⟨hn202, hI199, hF200⟩ := hq198
                  by_cases hc203 : n201 = 0
                  · refine xg_t (xg_ifT (u := n201) rfl xnm0 (xj_eqT hc203)) ?_
                    refine xg_t (xg_blk (b := [(194, 1, 12, 0, 0, 0)]) rfl) ?_
                    exact xg_e ⟨w197, ⟨rfl, rfl⟩, hI199, (hF185.tr (hF200.up (by decide)))⟩
                  · refine xg_t (xg_ifF (u := n201) rfl xnm0 (xj_eqF hc203)) ?_
                    refine xg_t (xg_aload (va := (2, 48)) rfl rfl) ?_
                    refine xg_t (xg_dup rfl) ?_
                    refine xg_t (xg_getf (va := (0, af2)) (hF200.get (by decide) hcl191) rfl) ?_
                    refine xg_t (xg_const) ?_
                    refine xg_t (xg_iadd (u := af2) (v := 1) (z := af2 + 1) xnm0 xnm0 (by omega)) ?_
                    refine xg_putI (fl1 := [(2, 2), (0, le2), (0, kd2), (0, pl2), (0, af2 + 1), (0, nu2)]) (hF200.get (by decide) hcl191) rfl rfl rfl (fun w204 hk205 hb206 => ?_)
                    refine xg_t (xg_goto) ?_
                    exact ih181 le2 kd2 pl2 (af2 + 1) nu2 w204 (by omega) (by omega) (by omega) (by omega) (by omega) (by omega) hk205 (xInv.up (S := [48]) hI199 (xFr.of (S := [48]) hb206 (by decide)) (List.forall_mem_cons.mpr ⟨(show cp48 (wget w204 48) from ⟨le2, kd2, pl2, af2 + 1, nu2, hk205, by omega, by omega, by omega, by omega, by omega, by omega⟩), fun _ h => absurd h List.not_mem_nil⟩)) (((hF185.tr (hF200.up (by decide))).tr (xFr.of (S := [48]) hb206 (by decide))))
                · refine xg_t (xg_icT (u := af2) (v := le2) rfl xnm0 xnm0 (xj_geT (by omega) (by omega))) ?_
                  refine xg_t (xg_blk (b := [(194, 1, 12, 0, 0, 0)]) rfl) ?_
                  exact xg_e ⟨w183, ⟨rfl, rfl⟩, hI184, hF185⟩
            exact key180 _ le1 1 af1 af1 nu1 w177 (Nat.lt_succ_self _) (by omega) (by omega) (by omega) (by omega) (by omega) hk178 (xInv.up (S := [48]) hI136 (xFr.of (S := [48]) hb179 (by decide)) (List.forall_mem_cons.mpr ⟨(show cp48 (wget w177 48) from ⟨le1, 1, af1, af1, nu1, hk178, by omega, by omega, by omega, by omega, by omega, by omega⟩), fun _ h => absurd h List.not_mem_nil⟩)) ((((hF21.tr (xFr.of (S := [48]) hb129 (by decide))).tr (hF137.up (by decide))).tr (xFr.of (S := [48]) hb179 (by decide))))
        · refine xg_t (xg_icF (u := af1) (v := le1) rfl xnm0 xnm0 (xj_ltF (by omega) (by omega))) ?_
          refine xg_t (xg_aload (va := (2, 48)) rfl rfl) ?_
          refine xg_t (xg_const) ?_
          refine xg_putI (fl1 := [(2, 2), (0, le1), (0, 0), (0, af1), (0, af1), (0, nu1)]) hk128 rfl rfl rfl (fun w207 hk208 hb209 => ?_)
          refine xg_t (xg_goto) ?_
          refine xg_t (xg_blk (b := [(194, 1, 12, 0, 0, 0)]) rfl) ?_
          exact xg_e ⟨w207, ⟨rfl, rfl⟩, xInv.up (S := [48]) hI20 ((xFr.of (S := [48]) hb129 (by decide)).tr (xFr.of (S := [48]) hb209 (by decide))) (List.forall_mem_cons.mpr ⟨(show cp48 (wget w207 48) from ⟨le1, 0, af1, af1, nu1, hk208, by omega, by omega, by omega, by omega, by omega, by omega⟩), fun _ h => absurd h List.not_mem_nil⟩), (hF21.tr ((xFr.of (S := [48]) hb129 (by decide)).tr (xFr.of (S := [48]) hb209 (by decide))))⟩
  exact key16 _ f48_4 f48_6 f48_8 f48_10 f48_12 w (Nat.lt_succ_self _) (by omega) (by omega) (by omega) (by omega) (by omega) h48_14 (hI) (xFr.rf)
theorem tkIsSign48 {si : Nat} (hI : xInv w) (h1 : si ≤ 4294967295) : xPi d mX8_isSign [(2, 48), (0, si)] w bd fc rr (fun n w' => (n ≤ 1) ∧ xInv w' ∧ xFr [] w w') := by
  refine xPi.of ?_
  show xTo d mX8_isSign (0, [], [(0, (2, 48)), (1, (0, si))], [], (w, bd, fc, 0, 0, rr)) (fun φ => ∃ n w', xEnd 4 [(0, n)] (w', bd, fc, 0, 0, rr) φ ∧ (n ≤ 1) ∧ xInv w' ∧ xFr [] w w')
  refine xg_t (xg_blk (b := [(0, 1, 0, 0, 0, 0), (1, 3, 1, 8, 2, 32), (4, 1, 3, 3, 0, 0), (5, 3, 6, 25, 1, 0), (8, 1, 0, 0, 0, 0), (9, 3, 1, 8, 0, 7), (12, 1, 0, 0, 0, 0), (13, 3, 1, 8, 3, 29), (16, 1, 32, 0, 0, 0), (17, 1, 2, 1, 0, 0), (18, 3, 6, 25, 1, 0), (21, 1, 3, 1, 0, 0), (22, 3, 8, 26, 0, 0)]) rfl) ?_
  refine xg_t (xg_aload (va := (2, 48)) rfl rfl) ?_
  obtain ⟨f48_1, f48_3, f48_5, f48_7, f48_9, h48_11, hb2, hb4, hb6, hb8, hb10, hb12⟩ := (hI 48 (by decide) : cp48 (wget w 48))
  refine xg_t (xg_getf (va := (0, f48_3)) h48_11 rfl) ?_
  refine xg_t (xg_const) ?_
  by_cases hc13 : f48_3 = 3
  · refine xg_t (xg_icF (u := f48_3) (v := 3) rfl xnm0 xnm0 (xj_neF hc13)) ?_
    refine xg_t (xg_aload (va := (2, 48)) rfl rfl) ?_
    refine xg_t (xg_getf (va := (2, 2)) h48_11 rfl) ?_
    refine xg_t (xg_aload (va := (2, 48)) rfl rfl) ?_
    refine xg_t (xg_getf (va := (0, f48_5)) h48_11 rfl) ?_
    obtain ⟨g2_14, h2_15, hb16⟩ := (hI 2 (by decide) : cpY 500 0 (wget w 2))
    have h2_15 : xRk 1 0 w 2 500 0 g2_14 := h2_15
    refine xg_baldY (n := f48_5) h2_15 (hb16) xnm0 (by omega) (fun u17 hu18 he19 => ?_)
    refine xg_t (xg_iload (va := (0, si)) rfl rfl) ?_
    by_cases hc20 : u17 = si
    · refine xg_t (xg_icF (u := u17) (v := si) rfl xnm0 xnm0 (xj_neF hc20)) ?_
      refine xg_t (xg_const) ?_
      refine xg_t (xg_goto) ?_
      refine xg_t (xg_blk (b := [(26, 1, 12, 0, 1, 0)]) rfl) ?_
      exact xg_e ⟨1, w, ⟨rfl, rfl⟩, by omega, hI, xFr.rf⟩
    · refine xg_t (xg_icT (u := u17) (v := si) rfl xnm0 xnm0 (xj_neT hc20)) ?_
      refine xg_t (xg_blk (b := [(25, 1, 3, 0, 0, 0)]) rfl) ?_
      refine xg_t (xg_const) ?_
      refine xg_t (xg_blk (b := [(26, 1, 12, 0, 1, 0)]) rfl) ?_
      exact xg_e ⟨0, w, ⟨rfl, rfl⟩, by omega, hI, xFr.rf⟩
  · refine xg_t (xg_icT (u := f48_3) (v := 3) rfl xnm0 xnm0 (xj_neT hc13)) ?_
    refine xg_t (xg_blk (b := [(25, 1, 3, 0, 0, 0)]) rfl) ?_
    refine xg_t (xg_const) ?_
    refine xg_t (xg_blk (b := [(26, 1, 12, 0, 1, 0)]) rfl) ?_
    exact xg_e ⟨0, w, ⟨rfl, rfl⟩, by omega, hI, xFr.rf⟩
end XTK
