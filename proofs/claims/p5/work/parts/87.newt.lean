/-! new Rows, a new Film, a new Told: where the world is known by its shape -/
section XNT
variable {d c na nc a b z : Nat} {w : List (List xE)} {bd : List (Nat × Nat)} {fc : List (Nat × Nat × Bool)}
theorem niRows (hs : w.map List.length = shp nc) (ho : wget w c = some (.inl (5, [(0, 0), (0, 0), (3, 0), (0, 0)]))) (hc : c < nc) (hz : a * b = z) (hl : z ≤ 320) : xPk (d + 1) mX5_init [(2, c), (0, a), (0, b)] w bd fc (na, nc) (fun r w' rr' => r = [] ∧ rr' = (na + 1, nc + 1) ∧ w'.map List.length = shp (nc + 1) ∧ wget w' c = some (.inl (5, [(0, a), (0, b), (2, nc), (0, 0)])) ∧ wget w' nc = some (.inr (0, z, na, [])) ∧ ∀ k q, k < nc → k ≠ c → wget w k = some q → wget w' k = some q) := by
  refine xPk.of ?_
  show xTo (d + 1) mX5_init (0, [], [(0, (2, c)), (1, (0, a)), (2, (0, b))], [], (w, bd, fc, 0, 0, na, nc)) (fun φ => ∃ r w' cn' sl' rr', xEnd 0 r (w', bd, fc, cn', sl', rr') φ ∧ cn' ≤ 1 ∧ sl' ≤ 320 ∧ r = [] ∧ rr' = (na + 1, nc + 1) ∧ w'.map List.length = shp (nc + 1) ∧ wget w' c = some (.inl (5, [(0, a), (0, b), (2, nc), (0, 0)])) ∧ wget w' nc = some (.inr (0, z, na, [])) ∧ ∀ k q, k < nc → k ≠ c → wget w k = some q → wget w' k = some q)
  refine xg_t (xg_blk (b := [(0, 1, 0, 0, 0, 0), (1, 3, 25, 0, 0, 3), (4, 1, 0, 0, 0, 0), (5, 1, 2, 1, 0, 0), (6, 3, 22, 5, 0, 9), (9, 1, 0, 0, 0, 0), (10, 1, 2, 2, 0, 0), (11, 3, 22, 5, 1, 15), (14, 1, 0, 0, 0, 0), (15, 1, 2, 1, 0, 0), (16, 1, 2, 2, 0, 0), (17, 1, 16, 0, 0, 0), (18, 2, 23, 0, 0, 0), (20, 3, 61, 5, 2, 18), (23, 1, 12, 0, 0, 0)]) rfl) ?_
  refine xg_t (xg_aload (va := (2, c)) rfl rfl) ?_
  refine xg_t (xg_oini (xblt_t (by omega)) rfl) ?_
  refine xg_t (xg_aload (va := (2, c)) rfl rfl) ?_
  refine xg_t (xg_iload (va := (0, a)) rfl rfl) ?_
  refine xg_putFI (fl1 := [(0, a), (0, 0), (3, 0), (0, 0)]) (by decide) ho rfl rfl rfl (fun w1 h1 b1 => ?_)
  refine xg_t (xg_aload (va := (2, c)) rfl rfl) ?_
  refine xg_t (xg_iload (va := (0, b)) rfl rfl) ?_
  refine xg_putFI (fl1 := [(0, a), (0, b), (3, 0), (0, 0)]) (by decide) h1 rfl rfl rfl (fun w2 h2 b2 => ?_)
  refine xg_t (xg_aload (va := (2, c)) rfl rfl) ?_
  refine xg_t (xg_iload (va := (0, a)) rfl rfl) ?_
  refine xg_t (xg_iload (va := (0, b)) rfl rfl) ?_
  refine xg_t (xg_imul (u := a) (v := b) (z := z) xnm0 xnm0 (by rw [hz]; exact Nat.mod_eq_of_lt (by omega))) ?_
  refine xg_newA (n := z) xnm0 (by decide) (by omega) (b2.2.trans (b1.2.trans hs)) (show 0 < 1 by decide) (show 0 + z ≤ 320 by omega) (fun w3 s3 n3 k3 => ?_)
  refine xg_putFR (fl1 := [(0, a), (0, b), (2, nc), (0, 0)]) (by decide) (k3 _ _ h2) rfl rfl rfl (fun w4 h4 b4 => ?_)
  exact xg_e ⟨[], w4, 0 + 1, 0 + z, (na + 1, nc + 1), ⟨rfl, rfl⟩, by decide, by omega, rfl, rfl, b4.2.trans s3, h4, (b4.1 _ (by omega)).trans n3, fun k q _ hk hq => (b4.1 k hk).trans (k3 k q ((b2.1 k hk).trans ((b1.1 k hk).trans hq)))⟩
set_option maxRecDepth 100000 in
theorem niFilm (hs : w.map List.length = shp nc) (ho : wget w c = some (.inl (1, [(3, 0), (3, 0), (3, 0), (3, 0), (3, 0), (0, 0), (0, 0), (0, 0), (0, 0), (0, 0)]))) (hc : c < nc) : xPk (d + 2) mX1_init [(2, c)] w bd fc (na, nc) (fun r w' rr' => r = [] ∧ rr' = (na + 5, nc + 10) ∧ w'.map List.length = shp (nc + 10) ∧ wget w' c = some (.inl (1, [(2, nc), (2, nc + 2), (2, nc + 4), (2, nc + 6), (2, nc + 8), (0, 1), (0, 1), (0, 1), (0, 1), (0, 0)])) ∧ wget w' (nc) = some (.inl (5, [(0, 6), (0, 4), (2, nc + 1), (0, 0)])) ∧ wget w' (nc + 1) = some (.inr (0, 24, na, [])) ∧ wget w' (nc + 2) = some (.inl (5, [(0, 4), (0, 2), (2, nc + 3), (0, 0)])) ∧ wget w' (nc + 3) = some (.inr (0, 8, na + 1, [])) ∧ wget w' (nc + 4) = some (.inl (5, [(0, 6), (0, 2), (2, nc + 5), (0, 0)])) ∧ wget w' (nc + 5) = some (.inr (0, 12, na + 2, [])) ∧ wget w' (nc + 6) = some (.inl (5, [(0, 4), (0, 3), (2, nc + 7), (0, 0)])) ∧ wget w' (nc + 7) = some (.inr (0, 12, na + 3, [])) ∧ wget w' (nc + 8) = some (.inl (5, [(0, 20), (0, 2), (2, nc + 9), (0, 0)])) ∧ wget w' (nc + 9) = some (.inr (0, 40, na + 4, [])) ∧ ∀ k q, k < nc → k ≠ c → wget w k = some q → wget w' k = some q) := by
  refine xPk.of ?_
  show xTo (d + 2) mX1_init (0, [], [(0, (2, c))], [], (w, bd, fc, 0, 0, na, nc)) (fun φ => ∃ r w' cn' sl' rr', xEnd 0 r (w', bd, fc, cn', sl', rr') φ ∧ cn' ≤ 10 ∧ sl' ≤ 1620 ∧ r = [] ∧ rr' = (na + 5, nc + 10) ∧ w'.map List.length = shp (nc + 10) ∧ wget w' c = some (.inl (1, [(2, nc), (2, nc + 2), (2, nc + 4), (2, nc + 6), (2, nc + 8), (0, 1), (0, 1), (0, 1), (0, 1), (0, 0)])) ∧ wget w' (nc) = some (.inl (5, [(0, 6), (0, 4), (2, nc + 1), (0, 0)])) ∧ wget w' (nc + 1) = some (.inr (0, 24, na, [])) ∧ wget w' (nc + 2) = some (.inl (5, [(0, 4), (0, 2), (2, nc + 3), (0, 0)])) ∧ wget w' (nc + 3) = some (.inr (0, 8, na + 1, [])) ∧ wget w' (nc + 4) = some (.inl (5, [(0, 6), (0, 2), (2, nc + 5), (0, 0)])) ∧ wget w' (nc + 5) = some (.inr (0, 12, na + 2, [])) ∧ wget w' (nc + 6) = some (.inl (5, [(0, 4), (0, 3), (2, nc + 7), (0, 0)])) ∧ wget w' (nc + 7) = some (.inr (0, 12, na + 3, [])) ∧ wget w' (nc + 8) = some (.inl (5, [(0, 20), (0, 2), (2, nc + 9), (0, 0)])) ∧ wget w' (nc + 9) = some (.inr (0, 40, na + 4, [])) ∧ ∀ k q, k < nc → k ≠ c → wget w k = some q → wget w' k = some q)
  refine xg_t (xg_blk (b := [(0, 1, 0, 0, 0, 0), (1, 3, 25, 0, 0, 1), (4, 1, 0, 0, 0, 0), (5, 3, 24, 5, 0, 7), (8, 1, 19, 0, 0, 0), (9, 2, 4, 6, 0, 0), (11, 1, 3, 4, 0, 0), (12, 3, 13, 288, 44, 11), (15, 3, 61, 1, 0, 14), (18, 1, 0, 0, 0, 0), (19, 3, 24, 5, 0, 7), (22, 1, 19, 0, 0, 0), (23, 1, 3, 4, 0, 0), (24, 1, 3, 2, 0, 0), (25, 3, 13, 288, 44, 11), (28, 3, 61, 1, 1, 18), (31, 1, 0, 0, 0, 0), (32, 3, 24, 5, 0, 7), (35, 1, 19, 0, 0, 0), (36, 2, 4, 6, 0, 0), (38, 1, 3, 2, 0, 0), (39, 3, 13, 288, 44, 11), (42, 3, 61, 1, 2, 21), (45, 1, 0, 0, 0, 0), (46, 3, 24, 5, 0, 7), (49, 1, 19, 0, 0, 0), (50, 1, 3, 4, 0, 0), (51, 1, 3, 3, 0, 0), (52, 3, 13, 288, 44, 11), (55, 3, 61, 1, 3, 24), (58, 1, 0, 0, 0, 0), (59, 3, 24, 5, 0, 7), (62, 1, 19, 0, 0, 0), (63, 2, 4, 20, 0, 0), (65, 1, 3, 2, 0, 0), (66, 3, 13, 288, 44, 11), (69, 3, 61, 1, 4, 27), (72, 1, 0, 0, 0, 0), (73, 1, 3, 1, 0, 0), (74, 3, 14, 1, 5, 30), (77, 1, 0, 0, 0, 0), (78, 1, 3, 1, 0, 0), (79, 3, 14, 1, 6, 34), (82, 1, 0, 0, 0, 0), (83, 1, 3, 1, 0, 0), (84, 3, 14, 1, 7, 37), (87, 1, 0, 0, 0, 0), (88, 1, 3, 1, 0, 0), (89, 3, 14, 1, 8, 40), (92, 1, 12, 0, 0, 0)]) rfl) ?_
  refine xg_t (xg_aload (va := (2, c)) rfl rfl) ?_
  refine xg_t (xg_oini (xblt_t (by omega)) rfl) ?_
  refine xg_t (xg_aload (va := (2, c)) rfl rfl) ?_
  refine xg_newO (nc := nc) (na := na) (cn := 0) (sl := 0) (fs := [(0, 0), (0, 0), (3, 0), (0, 0)]) rfl hs (show 0 < 10 by decide) (show 0 + 4 ≤ 1620 by decide) (fun w4 s4 n4 k4 => ?_)
  have hc4 := k4 _ _ ho
  have ok4 : ∀ k q, k < nc → k ≠ c → wget w k = some q → wget w4 k = some q := fun k q h1 h2 h3 => k4 k q h3
  refine xg_t (xg_dup rfl) ?_
  refine xg_t (xg_bip) ?_
  refine xg_t (xg_const) ?_
  refine xg_cI mX5_init (vs := [(0, 6), (0, 4)]) (rest := [(2, nc), (2, c)]) (rr := (na, nc + 1)) (cn := 1) (sl := 4) (cn1 := 2) (sl1 := 324) rfl (niRows (c := nc) (a := 6) (b := 4) (z := 24) s4 n4 (by omega) rfl (by decide)) rfl rfl rfl rfl rfl rfl rfl rfl (fun w8 rr8 hq8 => ?_)
  obtain ⟨rfl, s8, f0_8, f1_8, kp8⟩ := hq8
  have hc8 := kp8 _ _ (by omega) (by omega) hc4
  have ok8 : ∀ k q, k < nc → k ≠ c → wget w k = some q → wget w8 k = some q := fun k q h1 h2 h3 => kp8 k q (by omega) (by omega) (ok4 k q h1 h2 h3)
  refine xg_putFR (fl1 := [(2, nc), (3, 0), (3, 0), (3, 0), (3, 0), (0, 0), (0, 0), (0, 0), (0, 0), (0, 0)]) (by decide) hc8 rfl rfl rfl (fun w9 hc9 b9 => ?_)
  have f0_9 := (b9.1 (nc) (by omega)).trans f0_8
  have f1_9 := (b9.1 (nc + 1) (by omega)).trans f1_8
  have ok9 : ∀ k q, k < nc → k ≠ c → wget w k = some q → wget w9 k = some q := fun k q h1 h2 h3 => (b9.1 k h2).trans (ok8 k q h1 h2 h3)
  have s9 := b9.2.trans s8
  refine xg_t (xg_aload (va := (2, c)) rfl rfl) ?_
  refine xg_newO (nc := nc + 2) (na := na + 1) (cn := 2) (sl := 324) (fs := [(0, 0), (0, 0), (3, 0), (0, 0)]) rfl s9 (show 2 < 10 by decide) (show 324 + 4 ≤ 1620 by decide) (fun w11 s11 n11 k11 => ?_)
  have hc11 := k11 _ _ hc9
  have f0_11 := k11 _ _ f0_9
  have f1_11 := k11 _ _ f1_9
  have ok11 : ∀ k q, k < nc → k ≠ c → wget w k = some q → wget w11 k = some q := fun k q h1 h2 h3 => k11 k q (ok9 k q h1 h2 h3)
  refine xg_t (xg_dup rfl) ?_
  refine xg_t (xg_const) ?_
  refine xg_t (xg_const) ?_
  refine xg_cI mX5_init (vs := [(0, 4), (0, 2)]) (rest := [(2, nc + 2), (2, c)]) (rr := (na + 1, nc + 3)) (cn := 3) (sl := 328) (cn1 := 4) (sl1 := 648) rfl (niRows (c := nc + 2) (a := 4) (b := 2) (z := 8) s11 n11 (by omega) rfl (by decide)) rfl rfl rfl rfl rfl rfl rfl rfl (fun w15 rr15 hq15 => ?_)
  obtain ⟨rfl, s15, f2_15, f3_15, kp15⟩ := hq15
  have hc15 := kp15 _ _ (by omega) (by omega) hc11
  have f0_15 := kp15 _ _ (by omega) (by omega) f0_11
  have f1_15 := kp15 _ _ (by omega) (by omega) f1_11
  have ok15 : ∀ k q, k < nc → k ≠ c → wget w k = some q → wget w15 k = some q := fun k q h1 h2 h3 => kp15 k q (by omega) (by omega) (ok11 k q h1 h2 h3)
  refine xg_putFR (fl1 := [(2, nc), (2, nc + 2), (3, 0), (3, 0), (3, 0), (0, 0), (0, 0), (0, 0), (0, 0), (0, 0)]) (by decide) hc15 rfl rfl rfl (fun w16 hc16 b16 => ?_)
  have f0_16 := (b16.1 (nc) (by omega)).trans f0_15
  have f1_16 := (b16.1 (nc + 1) (by omega)).trans f1_15
  have f2_16 := (b16.1 (nc + 2) (by omega)).trans f2_15
  have f3_16 := (b16.1 (nc + 3) (by omega)).trans f3_15
  have ok16 : ∀ k q, k < nc → k ≠ c → wget w k = some q → wget w16 k = some q := fun k q h1 h2 h3 => (b16.1 k h2).trans (ok15 k q h1 h2 h3)
  have s16 := b16.2.trans s15
  refine xg_t (xg_aload (va := (2, c)) rfl rfl) ?_
  refine xg_newO (nc := nc + 4) (na := na + 2) (cn := 4) (sl := 648) (fs := [(0, 0), (0, 0), (3, 0), (0, 0)]) rfl s16 (show 4 < 10 by decide) (show 648 + 4 ≤ 1620 by decide) (fun w18 s18 n18 k18 => ?_)
  have hc18 := k18 _ _ hc16
  have f0_18 := k18 _ _ f0_16
  have f1_18 := k18 _ _ f1_16
  have f2_18 := k18 _ _ f2_16
  have f3_18 := k18 _ _ f3_16
  have ok18 : ∀ k q, k < nc → k ≠ c → wget w k = some q → wget w18 k = some q := fun k q h1 h2 h3 => k18 k q (ok16 k q h1 h2 h3)
  refine xg_t (xg_dup rfl) ?_
  refine xg_t (xg_bip) ?_
  refine xg_t (xg_const) ?_
  refine xg_cI mX5_init (vs := [(0, 6), (0, 2)]) (rest := [(2, nc + 4), (2, c)]) (rr := (na + 2, nc + 5)) (cn := 5) (sl := 652) (cn1 := 6) (sl1 := 972) rfl (niRows (c := nc + 4) (a := 6) (b := 2) (z := 12) s18 n18 (by omega) rfl (by decide)) rfl rfl rfl rfl rfl rfl rfl rfl (fun w22 rr22 hq22 => ?_)
  obtain ⟨rfl, s22, f4_22, f5_22, kp22⟩ := hq22
  have hc22 := kp22 _ _ (by omega) (by omega) hc18
  have f0_22 := kp22 _ _ (by omega) (by omega) f0_18
  have f1_22 := kp22 _ _ (by omega) (by omega) f1_18
  have f2_22 := kp22 _ _ (by omega) (by omega) f2_18
  have f3_22 := kp22 _ _ (by omega) (by omega) f3_18
  have ok22 : ∀ k q, k < nc → k ≠ c → wget w k = some q → wget w22 k = some q := fun k q h1 h2 h3 => kp22 k q (by omega) (by omega) (ok18 k q h1 h2 h3)
  refine xg_putFR (fl1 := [(2, nc), (2, nc + 2), (2, nc + 4), (3, 0), (3, 0), (0, 0), (0, 0), (0, 0), (0, 0), (0, 0)]) (by decide) hc22 rfl rfl rfl (fun w23 hc23 b23 => ?_)
  have f0_23 := (b23.1 (nc) (by omega)).trans f0_22
  have f1_23 := (b23.1 (nc + 1) (by omega)).trans f1_22
  have f2_23 := (b23.1 (nc + 2) (by omega)).trans f2_22
  have f3_23 := (b23.1 (nc + 3) (by omega)).trans f3_22
  have f4_23 := (b23.1 (nc + 4) (by omega)).trans f4_22
  have f5_23 := (b23.1 (nc + 5) (by omega)).trans f5_22
  have ok23 : ∀ k q, k < nc → k ≠ c → wget w k = some q → wget w23 k = some q := fun k q h1 h2 h3 => (b23.1 k h2).trans (ok22 k q h1 h2 h3)
  have s23 := b23.2.trans s22
  refine xg_t (xg_aload (va := (2, c)) rfl rfl) ?_
  refine xg_newO (nc := nc + 6) (na := na + 3) (cn := 6) (sl := 972) (fs := [(0, 0), (0, 0), (3, 0), (0, 0)]) rfl s23 (show 6 < 10 by decide) (show 972 + 4 ≤ 1620 by decide) (fun w25 s25 n25 k25 => ?_)
  have hc25 := k25 _ _ hc23
  have f0_25 := k25 _ _ f0_23
  have f1_25 := k25 _ _ f1_23
  have f2_25 := k25 _ _ f2_23
  have f3_25 := k25 _ _ f3_23
  have f4_25 := k25 _ _ f4_23
  have f5_25 := k25 _ _ f5_23
  have ok25 : ∀ k q, k < nc → k ≠ c → wget w k = some q → wget w25 k = some q := fun k q h1 h2 h3 => k25 k q (ok23 k q h1 h2 h3)
  refine xg_t (xg_dup rfl) ?_
  refine xg_t (xg_const) ?_
  refine xg_t (xg_const) ?_
  refine xg_cI mX5_init (vs := [(0, 4), (0, 3)]) (rest := [(2, nc + 6), (2, c)]) (rr := (na + 3, nc + 7)) (cn := 7) (sl := 976) (cn1 := 8) (sl1 := 1296) rfl (niRows (c := nc + 6) (a := 4) (b := 3) (z := 12) s25 n25 (by omega) rfl (by decide)) rfl rfl rfl rfl rfl rfl rfl rfl (fun w29 rr29 hq29 => ?_)
  obtain ⟨rfl, s29, f6_29, f7_29, kp29⟩ := hq29
  have hc29 := kp29 _ _ (by omega) (by omega) hc25
  have f0_29 := kp29 _ _ (by omega) (by omega) f0_25
  have f1_29 := kp29 _ _ (by omega) (by omega) f1_25
  have f2_29 := kp29 _ _ (by omega) (by omega) f2_25
  have f3_29 := kp29 _ _ (by omega) (by omega) f3_25
  have f4_29 := kp29 _ _ (by omega) (by omega) f4_25
  have f5_29 := kp29 _ _ (by omega) (by omega) f5_25
  have ok29 : ∀ k q, k < nc → k ≠ c → wget w k = some q → wget w29 k = some q := fun k q h1 h2 h3 => kp29 k q (by omega) (by omega) (ok25 k q h1 h2 h3)
  refine xg_putFR (fl1 := [(2, nc), (2, nc + 2), (2, nc + 4), (2, nc + 6), (3, 0), (0, 0), (0, 0), (0, 0), (0, 0), (0, 0)]) (by decide) hc29 rfl rfl rfl (fun w30 hc30 b30 => ?_)
  have f0_30 := (b30.1 (nc) (by omega)).trans f0_29
  have f1_30 := (b30.1 (nc + 1) (by omega)).trans f1_29
  have f2_30 := (b30.1 (nc + 2) (by omega)).trans f2_29
  have f3_30 := (b30.1 (nc + 3) (by omega)).trans f3_29
  have f4_30 := (b30.1 (nc + 4) (by omega)).trans f4_29
  have f5_30 := (b30.1 (nc + 5) (by omega)).trans f5_29
  have f6_30 := (b30.1 (nc + 6) (by omega)).trans f6_29
  have f7_30 := (b30.1 (nc + 7) (by omega)).trans f7_29
  have ok30 : ∀ k q, k < nc → k ≠ c → wget w k = some q → wget w30 k = some q := fun k q h1 h2 h3 => (b30.1 k h2).trans (ok29 k q h1 h2 h3)
  have s30 := b30.2.trans s29
  refine xg_t (xg_aload (va := (2, c)) rfl rfl) ?_
  refine xg_newO (nc := nc + 8) (na := na + 4) (cn := 8) (sl := 1296) (fs := [(0, 0), (0, 0), (3, 0), (0, 0)]) rfl s30 (show 8 < 10 by decide) (show 1296 + 4 ≤ 1620 by decide) (fun w32 s32 n32 k32 => ?_)
  have hc32 := k32 _ _ hc30
  have f0_32 := k32 _ _ f0_30
  have f1_32 := k32 _ _ f1_30
  have f2_32 := k32 _ _ f2_30
  have f3_32 := k32 _ _ f3_30
  have f4_32 := k32 _ _ f4_30
  have f5_32 := k32 _ _ f5_30
  have f6_32 := k32 _ _ f6_30
  have f7_32 := k32 _ _ f7_30
  have ok32 : ∀ k q, k < nc → k ≠ c → wget w k = some q → wget w32 k = some q := fun k q h1 h2 h3 => k32 k q (ok30 k q h1 h2 h3)
  refine xg_t (xg_dup rfl) ?_
  refine xg_t (xg_bip) ?_
  refine xg_t (xg_const) ?_
  refine xg_cI mX5_init (vs := [(0, 20), (0, 2)]) (rest := [(2, nc + 8), (2, c)]) (rr := (na + 4, nc + 9)) (cn := 9) (sl := 1300) (cn1 := 10) (sl1 := 1620) rfl (niRows (c := nc + 8) (a := 20) (b := 2) (z := 40) s32 n32 (by omega) rfl (by decide)) rfl rfl rfl rfl rfl rfl rfl rfl (fun w36 rr36 hq36 => ?_)
  obtain ⟨rfl, s36, f8_36, f9_36, kp36⟩ := hq36
  have hc36 := kp36 _ _ (by omega) (by omega) hc32
  have f0_36 := kp36 _ _ (by omega) (by omega) f0_32
  have f1_36 := kp36 _ _ (by omega) (by omega) f1_32
  have f2_36 := kp36 _ _ (by omega) (by omega) f2_32
  have f3_36 := kp36 _ _ (by omega) (by omega) f3_32
  have f4_36 := kp36 _ _ (by omega) (by omega) f4_32
  have f5_36 := kp36 _ _ (by omega) (by omega) f5_32
  have f6_36 := kp36 _ _ (by omega) (by omega) f6_32
  have f7_36 := kp36 _ _ (by omega) (by omega) f7_32
  have ok36 : ∀ k q, k < nc → k ≠ c → wget w k = some q → wget w36 k = some q := fun k q h1 h2 h3 => kp36 k q (by omega) (by omega) (ok32 k q h1 h2 h3)
  refine xg_putFR (fl1 := [(2, nc), (2, nc + 2), (2, nc + 4), (2, nc + 6), (2, nc + 8), (0, 0), (0, 0), (0, 0), (0, 0), (0, 0)]) (by decide) hc36 rfl rfl rfl (fun w37 hc37 b37 => ?_)
  have f0_37 := (b37.1 (nc) (by omega)).trans f0_36
  have f1_37 := (b37.1 (nc + 1) (by omega)).trans f1_36
  have f2_37 := (b37.1 (nc + 2) (by omega)).trans f2_36
  have f3_37 := (b37.1 (nc + 3) (by omega)).trans f3_36
  have f4_37 := (b37.1 (nc + 4) (by omega)).trans f4_36
  have f5_37 := (b37.1 (nc + 5) (by omega)).trans f5_36
  have f6_37 := (b37.1 (nc + 6) (by omega)).trans f6_36
  have f7_37 := (b37.1 (nc + 7) (by omega)).trans f7_36
  have f8_37 := (b37.1 (nc + 8) (by omega)).trans f8_36
  have f9_37 := (b37.1 (nc + 9) (by omega)).trans f9_36
  have ok37 : ∀ k q, k < nc → k ≠ c → wget w k = some q → wget w37 k = some q := fun k q h1 h2 h3 => (b37.1 k h2).trans (ok36 k q h1 h2 h3)
  have s37 := b37.2.trans s36
  refine xg_t (xg_aload (va := (2, c)) rfl rfl) ?_
  refine xg_t (xg_const) ?_
  refine xg_putI (fl1 := [(2, nc), (2, nc + 2), (2, nc + 4), (2, nc + 6), (2, nc + 8), (0, 1), (0, 0), (0, 0), (0, 0), (0, 0)]) hc37 rfl rfl rfl (fun w40 hc40 b40 => ?_)
  have f0_40 := (b40.1 (nc) (by omega)).trans f0_37
  have f1_40 := (b40.1 (nc + 1) (by omega)).trans f1_37
  have f2_40 := (b40.1 (nc + 2) (by omega)).trans f2_37
  have f3_40 := (b40.1 (nc + 3) (by omega)).trans f3_37
  have f4_40 := (b40.1 (nc + 4) (by omega)).trans f4_37
  have f5_40 := (b40.1 (nc + 5) (by omega)).trans f5_37
  have f6_40 := (b40.1 (nc + 6) (by omega)).trans f6_37
  have f7_40 := (b40.1 (nc + 7) (by omega)).trans f7_37
  have f8_40 := (b40.1 (nc + 8) (by omega)).trans f8_37
  have f9_40 := (b40.1 (nc + 9) (by omega)).trans f9_37
  have ok40 : ∀ k q, k < nc → k ≠ c → wget w k = some q → wget w40 k = some q := fun k q h1 h2 h3 => (b40.1 k h2).trans (ok37 k q h1 h2 h3)
  have s40 := b40.2.trans s37
  refine xg_t (xg_aload (va := (2, c)) rfl rfl) ?_
  refine xg_t (xg_const) ?_
  refine xg_putI (fl1 := [(2, nc), (2, nc + 2), (2, nc + 4), (2, nc + 6), (2, nc + 8), (0, 1), (0, 1), (0, 0), (0, 0), (0, 0)]) hc40 rfl rfl rfl (fun w43 hc43 b43 => ?_)
  have f0_43 := (b43.1 (nc) (by omega)).trans f0_40
  have f1_43 := (b43.1 (nc + 1) (by omega)).trans f1_40
  have f2_43 := (b43.1 (nc + 2) (by omega)).trans f2_40
  have f3_43 := (b43.1 (nc + 3) (by omega)).trans f3_40
  have f4_43 := (b43.1 (nc + 4) (by omega)).trans f4_40
  have f5_43 := (b43.1 (nc + 5) (by omega)).trans f5_40
  have f6_43 := (b43.1 (nc + 6) (by omega)).trans f6_40
  have f7_43 := (b43.1 (nc + 7) (by omega)).trans f7_40
  have f8_43 := (b43.1 (nc + 8) (by omega)).trans f8_40
  have f9_43 := (b43.1 (nc + 9) (by omega)).trans f9_40
  have ok43 : ∀ k q, k < nc → k ≠ c → wget w k = some q → wget w43 k = some q := fun k q h1 h2 h3 => (b43.1 k h2).trans (ok40 k q h1 h2 h3)
  have s43 := b43.2.trans s40
  refine xg_t (xg_aload (va := (2, c)) rfl rfl) ?_
  refine xg_t (xg_const) ?_
  refine xg_putI (fl1 := [(2, nc), (2, nc + 2), (2, nc + 4), (2, nc + 6), (2, nc + 8), (0, 1), (0, 1), (0, 1), (0, 0), (0, 0)]) hc43 rfl rfl rfl (fun w46 hc46 b46 => ?_)
  have f0_46 := (b46.1 (nc) (by omega)).trans f0_43
  have f1_46 := (b46.1 (nc + 1) (by omega)).trans f1_43
  have f2_46 := (b46.1 (nc + 2) (by omega)).trans f2_43
  have f3_46 := (b46.1 (nc + 3) (by omega)).trans f3_43
  have f4_46 := (b46.1 (nc + 4) (by omega)).trans f4_43
  have f5_46 := (b46.1 (nc + 5) (by omega)).trans f5_43
  have f6_46 := (b46.1 (nc + 6) (by omega)).trans f6_43
  have f7_46 := (b46.1 (nc + 7) (by omega)).trans f7_43
  have f8_46 := (b46.1 (nc + 8) (by omega)).trans f8_43
  have f9_46 := (b46.1 (nc + 9) (by omega)).trans f9_43
  have ok46 : ∀ k q, k < nc → k ≠ c → wget w k = some q → wget w46 k = some q := fun k q h1 h2 h3 => (b46.1 k h2).trans (ok43 k q h1 h2 h3)
  have s46 := b46.2.trans s43
  refine xg_t (xg_aload (va := (2, c)) rfl rfl) ?_
  refine xg_t (xg_const) ?_
  refine xg_putI (fl1 := [(2, nc), (2, nc + 2), (2, nc + 4), (2, nc + 6), (2, nc + 8), (0, 1), (0, 1), (0, 1), (0, 1), (0, 0)]) hc46 rfl rfl rfl (fun w49 hc49 b49 => ?_)
  have f0_49 := (b49.1 (nc) (by omega)).trans f0_46
  have f1_49 := (b49.1 (nc + 1) (by omega)).trans f1_46
  have f2_49 := (b49.1 (nc + 2) (by omega)).trans f2_46
  have f3_49 := (b49.1 (nc + 3) (by omega)).trans f3_46
  have f4_49 := (b49.1 (nc + 4) (by omega)).trans f4_46
  have f5_49 := (b49.1 (nc + 5) (by omega)).trans f5_46
  have f6_49 := (b49.1 (nc + 6) (by omega)).trans f6_46
  have f7_49 := (b49.1 (nc + 7) (by omega)).trans f7_46
  have f8_49 := (b49.1 (nc + 8) (by omega)).trans f8_46
  have f9_49 := (b49.1 (nc + 9) (by omega)).trans f9_46
  have ok49 : ∀ k q, k < nc → k ≠ c → wget w k = some q → wget w49 k = some q := fun k q h1 h2 h3 => (b49.1 k h2).trans (ok46 k q h1 h2 h3)
  have s49 := b49.2.trans s46
  exact xg_e ⟨[], w49, 10, 1620, (na + 5, nc + 10), ⟨rfl, rfl⟩, by decide, by decide, rfl, rfl, s49, hc49, f0_49, f1_49, f2_49, f3_49, f4_49, f5_49, f6_49, f7_49, f8_49, f9_49, ok49⟩
set_option maxRecDepth 100000 in
theorem niTold (hs : w.map List.length = shp nc) (ho : wget w c = some (.inl (9, [(3, 0), (0, 0), (0, 0), (0, 0), (3, 0), (3, 0), (0, 0), (0, 0), (3, 0), (0, 0), (3, 0), (3, 0), (3, 0), (3, 0)]))) (hc : c < nc) : xPk (d + 3) mX9_init [(2, c)] w bd fc (na, nc) (fun r w' rr' => r = [] ∧ rr' = (na + 12, nc + 24) ∧ w'.map List.length = shp (nc + 24) ∧ wget w' c = some (.inl (9, [(2, nc), (0, 0), (0, 0), (0, 4294967295), (2, nc + 1), (2, nc + 12), (0, 0), (0, 4294967295), (2, nc + 14), (0, 0), (2, nc + 16), (2, nc + 18), (2, nc + 20), (2, nc + 22)])) ∧ wget w' (nc) = some (.inr (1, 500, na, [])) ∧ wget w' (nc + 1) = some (.inl (1, [(2, nc + 2), (2, nc + 4), (2, nc + 6), (2, nc + 8), (2, nc + 10), (0, 1), (0, 1), (0, 1), (0, 1), (0, 0)])) ∧ wget w' (nc + 2) = some (.inl (5, [(0, 6), (0, 4), (2, nc + 3), (0, 0)])) ∧ wget w' (nc + 3) = some (.inr (0, 24, na + 1, [])) ∧ wget w' (nc + 4) = some (.inl (5, [(0, 4), (0, 2), (2, nc + 5), (0, 0)])) ∧ wget w' (nc + 5) = some (.inr (0, 8, na + 2, [])) ∧ wget w' (nc + 6) = some (.inl (5, [(0, 6), (0, 2), (2, nc + 7), (0, 0)])) ∧ wget w' (nc + 7) = some (.inr (0, 12, na + 3, [])) ∧ wget w' (nc + 8) = some (.inl (5, [(0, 4), (0, 3), (2, nc + 9), (0, 0)])) ∧ wget w' (nc + 9) = some (.inr (0, 12, na + 4, [])) ∧ wget w' (nc + 10) = some (.inl (5, [(0, 20), (0, 2), (2, nc + 11), (0, 0)])) ∧ wget w' (nc + 11) = some (.inr (0, 40, na + 5, [])) ∧ wget w' (nc + 12) = some (.inl (5, [(0, 40), (0, 5), (2, nc + 13), (0, 0)])) ∧ wget w' (nc + 13) = some (.inr (0, 200, na + 6, [])) ∧ wget w' (nc + 14) = some (.inl (5, [(0, 12), (0, 5), (2, nc + 15), (0, 0)])) ∧ wget w' (nc + 15) = some (.inr (0, 60, na + 7, [])) ∧ wget w' (nc + 16) = some (.inl (5, [(0, 4), (0, 3), (2, nc + 17), (0, 0)])) ∧ wget w' (nc + 17) = some (.inr (0, 12, na + 8, [])) ∧ wget w' (nc + 18) = some (.inl (5, [(0, 12), (0, 4), (2, nc + 19), (0, 0)])) ∧ wget w' (nc + 19) = some (.inr (0, 48, na + 9, [])) ∧ wget w' (nc + 20) = some (.inl (5, [(0, 16), (0, 2), (2, nc + 21), (0, 0)])) ∧ wget w' (nc + 21) = some (.inr (0, 32, na + 10, [])) ∧ wget w' (nc + 22) = some (.inl (5, [(0, 64), (0, 5), (2, nc + 23), (0, 0)])) ∧ wget w' (nc + 23) = some (.inr (0, 320, na + 11, [])) ∧ ∀ k q, k < nc → k ≠ c → wget w k = some q → wget w' k = some q) := by
  refine xPk.of ?_
  show xTo (d + 3) mX9_init (0, [], [(0, (2, c))], [], (w, bd, fc, 0, 0, na, nc)) (fun φ => ∃ r w' cn' sl' rr', xEnd 0 r (w', bd, fc, cn', sl', rr') φ ∧ cn' ≤ 24 ∧ sl' ≤ 4074 ∧ r = [] ∧ rr' = (na + 12, nc + 24) ∧ w'.map List.length = shp (nc + 24) ∧ wget w' c = some (.inl (9, [(2, nc), (0, 0), (0, 0), (0, 4294967295), (2, nc + 1), (2, nc + 12), (0, 0), (0, 4294967295), (2, nc + 14), (0, 0), (2, nc + 16), (2, nc + 18), (2, nc + 20), (2, nc + 22)])) ∧ wget w' (nc) = some (.inr (1, 500, na, [])) ∧ wget w' (nc + 1) = some (.inl (1, [(2, nc + 2), (2, nc + 4), (2, nc + 6), (2, nc + 8), (2, nc + 10), (0, 1), (0, 1), (0, 1), (0, 1), (0, 0)])) ∧ wget w' (nc + 2) = some (.inl (5, [(0, 6), (0, 4), (2, nc + 3), (0, 0)])) ∧ wget w' (nc + 3) = some (.inr (0, 24, na + 1, [])) ∧ wget w' (nc + 4) = some (.inl (5, [(0, 4), (0, 2), (2, nc + 5), (0, 0)])) ∧ wget w' (nc + 5) = some (.inr (0, 8, na + 2, [])) ∧ wget w' (nc + 6) = some (.inl (5, [(0, 6), (0, 2), (2, nc + 7), (0, 0)])) ∧ wget w' (nc + 7) = some (.inr (0, 12, na + 3, [])) ∧ wget w' (nc + 8) = some (.inl (5, [(0, 4), (0, 3), (2, nc + 9), (0, 0)])) ∧ wget w' (nc + 9) = some (.inr (0, 12, na + 4, [])) ∧ wget w' (nc + 10) = some (.inl (5, [(0, 20), (0, 2), (2, nc + 11), (0, 0)])) ∧ wget w' (nc + 11) = some (.inr (0, 40, na + 5, [])) ∧ wget w' (nc + 12) = some (.inl (5, [(0, 40), (0, 5), (2, nc + 13), (0, 0)])) ∧ wget w' (nc + 13) = some (.inr (0, 200, na + 6, [])) ∧ wget w' (nc + 14) = some (.inl (5, [(0, 12), (0, 5), (2, nc + 15), (0, 0)])) ∧ wget w' (nc + 15) = some (.inr (0, 60, na + 7, [])) ∧ wget w' (nc + 16) = some (.inl (5, [(0, 4), (0, 3), (2, nc + 17), (0, 0)])) ∧ wget w' (nc + 17) = some (.inr (0, 12, na + 8, [])) ∧ wget w' (nc + 18) = some (.inl (5, [(0, 12), (0, 4), (2, nc + 19), (0, 0)])) ∧ wget w' (nc + 19) = some (.inr (0, 48, na + 9, [])) ∧ wget w' (nc + 20) = some (.inl (5, [(0, 16), (0, 2), (2, nc + 21), (0, 0)])) ∧ wget w' (nc + 21) = some (.inr (0, 32, na + 10, [])) ∧ wget w' (nc + 22) = some (.inl (5, [(0, 64), (0, 5), (2, nc + 23), (0, 0)])) ∧ wget w' (nc + 23) = some (.inr (0, 320, na + 11, [])) ∧ ∀ k q, k < nc → k ≠ c → wget w k = some q → wget w' k = some q)
  refine xg_t (xg_blk (b := [(0, 1, 0, 0, 0, 0), (1, 3, 25, 0, 0, 3), (4, 1, 0, 0, 0, 0), (5, 3, 5, 500, 0, 0), (8, 2, 23, 0, 1, 0), (10, 3, 61, 9, 0, 11), (13, 1, 0, 0, 0, 0), (14, 1, 3, 4294967295, 0, 0), (15, 3, 14, 9, 3, 15), (18, 1, 0, 0, 0, 0), (19, 3, 24, 1, 0, 19), (22, 1, 19, 0, 0, 0), (23, 3, 13, 242, 13, 21), (26, 3, 61, 9, 4, 22), (29, 1, 0, 0, 0, 0), (30, 3, 24, 5, 0, 26), (33, 1, 19, 0, 0, 0), (34, 2, 4, 40, 0, 0), (36, 1, 3, 5, 0, 0), (37, 3, 13, 288, 44, 28), (40, 3, 61, 9, 5, 31), (43, 1, 0, 0, 0, 0), (44, 1, 3, 4294967295, 0, 0), (45, 3, 14, 9, 7, 35), (48, 1, 0, 0, 0, 0), (49, 3, 24, 5, 0, 26), (52, 1, 19, 0, 0, 0), (53, 2, 4, 12, 0, 0), (55, 1, 3, 5, 0, 0), (56, 3, 13, 288, 44, 28), (59, 3, 61, 9, 8, 38), (62, 1, 0, 0, 0, 0), (63, 3, 24, 5, 0, 26), (66, 1, 19, 0, 0, 0), (67, 1, 3, 4, 0, 0), (68, 1, 3, 3, 0, 0), (69, 3, 13, 288, 44, 28), (72, 3, 61, 9, 10, 41), (75, 1, 0, 0, 0, 0), (76, 3, 24, 5, 0, 26), (79, 1, 19, 0, 0, 0), (80, 2, 4, 12, 0, 0), (82, 1, 3, 4, 0, 0), (83, 3, 13, 288, 44, 28), (86, 3, 61, 9, 11, 46), (89, 1, 0, 0, 0, 0), (90, 3, 24, 5, 0, 26), (93, 1, 19, 0, 0, 0), (94, 2, 4, 16, 0, 0), (96, 1, 3, 2, 0, 0), (97, 3, 13, 288, 44, 28), (100, 3, 61, 9, 12, 51), (103, 1, 0, 0, 0, 0), (104, 3, 24, 5, 0, 26), (107, 1, 19, 0, 0, 0), (108, 2, 4, 64, 0, 0), (110, 1, 3, 5, 0, 0), (111, 3, 13, 288, 44, 28), (114, 3, 61, 9, 13, 54), (117, 1, 12, 0, 0, 0)]) rfl) ?_
  refine xg_t (xg_aload (va := (2, c)) rfl rfl) ?_
  refine xg_t (xg_oini (xblt_t (by omega)) rfl) ?_
  refine xg_t (xg_aload (va := (2, c)) rfl rfl) ?_
  refine xg_t (xg_sip) ?_
  refine xg_newA (n := 500) (nc := nc) (na := na) (cn := 0) (sl := 0) xnm0 (by decide) (by decide) hs (show 0 < 24 by decide) (show 0 + 500 ≤ 4074 by decide) (fun w5 s5 n5 k5 => ?_)
  have hc5 := k5 _ _ ho
  have ok5 : ∀ k q, k < nc → k ≠ c → wget w k = some q → wget w5 k = some q := fun k q h1 h2 h3 => k5 k q h3
  refine xg_putFR (fl1 := [(2, nc), (0, 0), (0, 0), (0, 0), (3, 0), (3, 0), (0, 0), (0, 0), (3, 0), (0, 0), (3, 0), (3, 0), (3, 0), (3, 0)]) (by decide) hc5 rfl rfl rfl (fun w6 hc6 b6 => ?_)
  have f0_6 := (b6.1 (nc) (by omega)).trans n5
  have ok6 : ∀ k q, k < nc → k ≠ c → wget w k = some q → wget w6 k = some q := fun k q h1 h2 h3 => (b6.1 k h2).trans (ok5 k q h1 h2 h3)
  have s6 := b6.2.trans s5
  refine xg_t (xg_aload (va := (2, c)) rfl rfl) ?_
  refine xg_t (xg_const) ?_
  refine xg_putI (fl1 := [(2, nc), (0, 0), (0, 0), (0, 4294967295), (3, 0), (3, 0), (0, 0), (0, 0), (3, 0), (0, 0), (3, 0), (3, 0), (3, 0), (3, 0)]) hc6 rfl rfl rfl (fun w9 hc9 b9 => ?_)
  have f0_9 := (b9.1 (nc) (by omega)).trans f0_6
  have ok9 : ∀ k q, k < nc → k ≠ c → wget w k = some q → wget w9 k = some q := fun k q h1 h2 h3 => (b9.1 k h2).trans (ok6 k q h1 h2 h3)
  have s9 := b9.2.trans s6
  refine xg_t (xg_aload (va := (2, c)) rfl rfl) ?_
  refine xg_newO (nc := nc + 1) (na := na + 1) (cn := 1) (sl := 500) (fs := [(3, 0), (3, 0), (3, 0), (3, 0), (3, 0), (0, 0), (0, 0), (0, 0), (0, 0), (0, 0)]) rfl s9 (show 1 < 24 by decide) (show 500 + 10 ≤ 4074 by decide) (fun w11 s11 n11 k11 => ?_)
  have hc11 := k11 _ _ hc9
  have f0_11 := k11 _ _ f0_9
  have ok11 : ∀ k q, k < nc → k ≠ c → wget w k = some q → wget w11 k = some q := fun k q h1 h2 h3 => k11 k q (ok9 k q h1 h2 h3)
  refine xg_t (xg_dup rfl) ?_
  refine xg_cI mX1_init (vs := []) (rest := [(2, nc + 1), (2, c)]) (rr := (na + 1, nc + 2)) (cn := 2) (sl := 510) (cn1 := 12) (sl1 := 2130) rfl (niFilm (c := nc + 1) s11 n11 (by omega)) rfl rfl rfl rfl rfl rfl rfl rfl (fun w13 rr13 hq13 => ?_)
  obtain ⟨rfl, s13, f1_13, f2_13, f3_13, f4_13, f5_13, f6_13, f7_13, f8_13, f9_13, f10_13, f11_13, kp13⟩ := hq13
  have hc13 := kp13 _ _ (by omega) (by omega) hc11
  have f0_13 := kp13 _ _ (by omega) (by omega) f0_11
  have ok13 : ∀ k q, k < nc → k ≠ c → wget w k = some q → wget w13 k = some q := fun k q h1 h2 h3 => kp13 k q (by omega) (by omega) (ok11 k q h1 h2 h3)
  refine xg_putFR (fl1 := [(2, nc), (0, 0), (0, 0), (0, 4294967295), (2, nc + 1), (3, 0), (0, 0), (0, 0), (3, 0), (0, 0), (3, 0), (3, 0), (3, 0), (3, 0)]) (by decide) hc13 rfl rfl rfl (fun w14 hc14 b14 => ?_)
  have f0_14 := (b14.1 (nc) (by omega)).trans f0_13
  have f1_14 := (b14.1 (nc + 1) (by omega)).trans f1_13
  have f2_14 := (b14.1 (nc + 2) (by omega)).trans f2_13
  have f3_14 := (b14.1 (nc + 3) (by omega)).trans f3_13
  have f4_14 := (b14.1 (nc + 4) (by omega)).trans f4_13
  have f5_14 := (b14.1 (nc + 5) (by omega)).trans f5_13
  have f6_14 := (b14.1 (nc + 6) (by omega)).trans f6_13
  have f7_14 := (b14.1 (nc + 7) (by omega)).trans f7_13
  have f8_14 := (b14.1 (nc + 8) (by omega)).trans f8_13
  have f9_14 := (b14.1 (nc + 9) (by omega)).trans f9_13
  have f10_14 := (b14.1 (nc + 10) (by omega)).trans f10_13
  have f11_14 := (b14.1 (nc + 11) (by omega)).trans f11_13
  have ok14 : ∀ k q, k < nc → k ≠ c → wget w k = some q → wget w14 k = some q := fun k q h1 h2 h3 => (b14.1 k h2).trans (ok13 k q h1 h2 h3)
  have s14 := b14.2.trans s13
  refine xg_t (xg_aload (va := (2, c)) rfl rfl) ?_
  refine xg_newO (nc := nc + 12) (na := na + 6) (cn := 12) (sl := 2130) (fs := [(0, 0), (0, 0), (3, 0), (0, 0)]) rfl s14 (show 12 < 24 by decide) (show 2130 + 4 ≤ 4074 by decide) (fun w16 s16 n16 k16 => ?_)
  have hc16 := k16 _ _ hc14
  have f0_16 := k16 _ _ f0_14
  have f1_16 := k16 _ _ f1_14
  have f2_16 := k16 _ _ f2_14
  have f3_16 := k16 _ _ f3_14
  have f4_16 := k16 _ _ f4_14
  have f5_16 := k16 _ _ f5_14
  have f6_16 := k16 _ _ f6_14
  have f7_16 := k16 _ _ f7_14
  have f8_16 := k16 _ _ f8_14
  have f9_16 := k16 _ _ f9_14
  have f10_16 := k16 _ _ f10_14
  have f11_16 := k16 _ _ f11_14
  have ok16 : ∀ k q, k < nc → k ≠ c → wget w k = some q → wget w16 k = some q := fun k q h1 h2 h3 => k16 k q (ok14 k q h1 h2 h3)
  refine xg_t (xg_dup rfl) ?_
  refine xg_t (xg_bip) ?_
  refine xg_t (xg_const) ?_
  refine xg_cI mX5_init (vs := [(0, 40), (0, 5)]) (rest := [(2, nc + 12), (2, c)]) (rr := (na + 6, nc + 13)) (cn := 13) (sl := 2134) (cn1 := 14) (sl1 := 2454) rfl (niRows (c := nc + 12) (a := 40) (b := 5) (z := 200) s16 n16 (by omega) rfl (by decide)) rfl rfl rfl rfl rfl rfl rfl rfl (fun w20 rr20 hq20 => ?_)
  obtain ⟨rfl, s20, f12_20, f13_20, kp20⟩ := hq20
  have hc20 := kp20 _ _ (by omega) (by omega) hc16
  have f0_20 := kp20 _ _ (by omega) (by omega) f0_16
  have f1_20 := kp20 _ _ (by omega) (by omega) f1_16
  have f2_20 := kp20 _ _ (by omega) (by omega) f2_16
  have f3_20 := kp20 _ _ (by omega) (by omega) f3_16
  have f4_20 := kp20 _ _ (by omega) (by omega) f4_16
  have f5_20 := kp20 _ _ (by omega) (by omega) f5_16
  have f6_20 := kp20 _ _ (by omega) (by omega) f6_16
  have f7_20 := kp20 _ _ (by omega) (by omega) f7_16
  have f8_20 := kp20 _ _ (by omega) (by omega) f8_16
  have f9_20 := kp20 _ _ (by omega) (by omega) f9_16
  have f10_20 := kp20 _ _ (by omega) (by omega) f10_16
  have f11_20 := kp20 _ _ (by omega) (by omega) f11_16
  have ok20 : ∀ k q, k < nc → k ≠ c → wget w k = some q → wget w20 k = some q := fun k q h1 h2 h3 => kp20 k q (by omega) (by omega) (ok16 k q h1 h2 h3)
  refine xg_putFR (fl1 := [(2, nc), (0, 0), (0, 0), (0, 4294967295), (2, nc + 1), (2, nc + 12), (0, 0), (0, 0), (3, 0), (0, 0), (3, 0), (3, 0), (3, 0), (3, 0)]) (by decide) hc20 rfl rfl rfl (fun w21 hc21 b21 => ?_)
  have f0_21 := (b21.1 (nc) (by omega)).trans f0_20
  have f1_21 := (b21.1 (nc + 1) (by omega)).trans f1_20
  have f2_21 := (b21.1 (nc + 2) (by omega)).trans f2_20
  have f3_21 := (b21.1 (nc + 3) (by omega)).trans f3_20
  have f4_21 := (b21.1 (nc + 4) (by omega)).trans f4_20
  have f5_21 := (b21.1 (nc + 5) (by omega)).trans f5_20
  have f6_21 := (b21.1 (nc + 6) (by omega)).trans f6_20
  have f7_21 := (b21.1 (nc + 7) (by omega)).trans f7_20
  have f8_21 := (b21.1 (nc + 8) (by omega)).trans f8_20
  have f9_21 := (b21.1 (nc + 9) (by omega)).trans f9_20
  have f10_21 := (b21.1 (nc + 10) (by omega)).trans f10_20
  have f11_21 := (b21.1 (nc + 11) (by omega)).trans f11_20
  have f12_21 := (b21.1 (nc + 12) (by omega)).trans f12_20
  have f13_21 := (b21.1 (nc + 13) (by omega)).trans f13_20
  have ok21 : ∀ k q, k < nc → k ≠ c → wget w k = some q → wget w21 k = some q := fun k q h1 h2 h3 => (b21.1 k h2).trans (ok20 k q h1 h2 h3)
  have s21 := b21.2.trans s20
  refine xg_t (xg_aload (va := (2, c)) rfl rfl) ?_
  refine xg_t (xg_const) ?_
  refine xg_putI (fl1 := [(2, nc), (0, 0), (0, 0), (0, 4294967295), (2, nc + 1), (2, nc + 12), (0, 0), (0, 4294967295), (3, 0), (0, 0), (3, 0), (3, 0), (3, 0), (3, 0)]) hc21 rfl rfl rfl (fun w24 hc24 b24 => ?_)
  have f0_24 := (b24.1 (nc) (by omega)).trans f0_21
  have f1_24 := (b24.1 (nc + 1) (by omega)).trans f1_21
  have f2_24 := (b24.1 (nc + 2) (by omega)).trans f2_21
  have f3_24 := (b24.1 (nc + 3) (by omega)).trans f3_21
  have f4_24 := (b24.1 (nc + 4) (by omega)).trans f4_21
  have f5_24 := (b24.1 (nc + 5) (by omega)).trans f5_21
  have f6_24 := (b24.1 (nc + 6) (by omega)).trans f6_21
  have f7_24 := (b24.1 (nc + 7) (by omega)).trans f7_21
  have f8_24 := (b24.1 (nc + 8) (by omega)).trans f8_21
  have f9_24 := (b24.1 (nc + 9) (by omega)).trans f9_21
  have f10_24 := (b24.1 (nc + 10) (by omega)).trans f10_21
  have f11_24 := (b24.1 (nc + 11) (by omega)).trans f11_21
  have f12_24 := (b24.1 (nc + 12) (by omega)).trans f12_21
  have f13_24 := (b24.1 (nc + 13) (by omega)).trans f13_21
  have ok24 : ∀ k q, k < nc → k ≠ c → wget w k = some q → wget w24 k = some q := fun k q h1 h2 h3 => (b24.1 k h2).trans (ok21 k q h1 h2 h3)
  have s24 := b24.2.trans s21
  refine xg_t (xg_aload (va := (2, c)) rfl rfl) ?_
  refine xg_newO (nc := nc + 14) (na := na + 7) (cn := 14) (sl := 2454) (fs := [(0, 0), (0, 0), (3, 0), (0, 0)]) rfl s24 (show 14 < 24 by decide) (show 2454 + 4 ≤ 4074 by decide) (fun w26 s26 n26 k26 => ?_)
  have hc26 := k26 _ _ hc24
  have f0_26 := k26 _ _ f0_24
  have f1_26 := k26 _ _ f1_24
  have f2_26 := k26 _ _ f2_24
  have f3_26 := k26 _ _ f3_24
  have f4_26 := k26 _ _ f4_24
  have f5_26 := k26 _ _ f5_24
  have f6_26 := k26 _ _ f6_24
  have f7_26 := k26 _ _ f7_24
  have f8_26 := k26 _ _ f8_24
  have f9_26 := k26 _ _ f9_24
  have f10_26 := k26 _ _ f10_24
  have f11_26 := k26 _ _ f11_24
  have f12_26 := k26 _ _ f12_24
  have f13_26 := k26 _ _ f13_24
  have ok26 : ∀ k q, k < nc → k ≠ c → wget w k = some q → wget w26 k = some q := fun k q h1 h2 h3 => k26 k q (ok24 k q h1 h2 h3)
  refine xg_t (xg_dup rfl) ?_
  refine xg_t (xg_bip) ?_
  refine xg_t (xg_const) ?_
  refine xg_cI mX5_init (vs := [(0, 12), (0, 5)]) (rest := [(2, nc + 14), (2, c)]) (rr := (na + 7, nc + 15)) (cn := 15) (sl := 2458) (cn1 := 16) (sl1 := 2778) rfl (niRows (c := nc + 14) (a := 12) (b := 5) (z := 60) s26 n26 (by omega) rfl (by decide)) rfl rfl rfl rfl rfl rfl rfl rfl (fun w30 rr30 hq30 => ?_)
  obtain ⟨rfl, s30, f14_30, f15_30, kp30⟩ := hq30
  have hc30 := kp30 _ _ (by omega) (by omega) hc26
  have f0_30 := kp30 _ _ (by omega) (by omega) f0_26
  have f1_30 := kp30 _ _ (by omega) (by omega) f1_26
  have f2_30 := kp30 _ _ (by omega) (by omega) f2_26
  have f3_30 := kp30 _ _ (by omega) (by omega) f3_26
  have f4_30 := kp30 _ _ (by omega) (by omega) f4_26
  have f5_30 := kp30 _ _ (by omega) (by omega) f5_26
  have f6_30 := kp30 _ _ (by omega) (by omega) f6_26
  have f7_30 := kp30 _ _ (by omega) (by omega) f7_26
  have f8_30 := kp30 _ _ (by omega) (by omega) f8_26
  have f9_30 := kp30 _ _ (by omega) (by omega) f9_26
  have f10_30 := kp30 _ _ (by omega) (by omega) f10_26
  have f11_30 := kp30 _ _ (by omega) (by omega) f11_26
  have f12_30 := kp30 _ _ (by omega) (by omega) f12_26
  have f13_30 := kp30 _ _ (by omega) (by omega) f13_26
  have ok30 : ∀ k q, k < nc → k ≠ c → wget w k = some q → wget w30 k = some q := fun k q h1 h2 h3 => kp30 k q (by omega) (by omega) (ok26 k q h1 h2 h3)
  refine xg_putFR (fl1 := [(2, nc), (0, 0), (0, 0), (0, 4294967295), (2, nc + 1), (2, nc + 12), (0, 0), (0, 4294967295), (2, nc + 14), (0, 0), (3, 0), (3, 0), (3, 0), (3, 0)]) (by decide) hc30 rfl rfl rfl (fun w31 hc31 b31 => ?_)
  have f0_31 := (b31.1 (nc) (by omega)).trans f0_30
  have f1_31 := (b31.1 (nc + 1) (by omega)).trans f1_30
  have f2_31 := (b31.1 (nc + 2) (by omega)).trans f2_30
  have f3_31 := (b31.1 (nc + 3) (by omega)).trans f3_30
  have f4_31 := (b31.1 (nc + 4) (by omega)).trans f4_30
  have f5_31 := (b31.1 (nc + 5) (by omega)).trans f5_30
  have f6_31 := (b31.1 (nc + 6) (by omega)).trans f6_30
  have f7_31 := (b31.1 (nc + 7) (by omega)).trans f7_30
  have f8_31 := (b31.1 (nc + 8) (by omega)).trans f8_30
  have f9_31 := (b31.1 (nc + 9) (by omega)).trans f9_30
  have f10_31 := (b31.1 (nc + 10) (by omega)).trans f10_30
  have f11_31 := (b31.1 (nc + 11) (by omega)).trans f11_30
  have f12_31 := (b31.1 (nc + 12) (by omega)).trans f12_30
  have f13_31 := (b31.1 (nc + 13) (by omega)).trans f13_30
  have f14_31 := (b31.1 (nc + 14) (by omega)).trans f14_30
  have f15_31 := (b31.1 (nc + 15) (by omega)).trans f15_30
  have ok31 : ∀ k q, k < nc → k ≠ c → wget w k = some q → wget w31 k = some q := fun k q h1 h2 h3 => (b31.1 k h2).trans (ok30 k q h1 h2 h3)
  have s31 := b31.2.trans s30
  refine xg_t (xg_aload (va := (2, c)) rfl rfl) ?_
  refine xg_newO (nc := nc + 16) (na := na + 8) (cn := 16) (sl := 2778) (fs := [(0, 0), (0, 0), (3, 0), (0, 0)]) rfl s31 (show 16 < 24 by decide) (show 2778 + 4 ≤ 4074 by decide) (fun w33 s33 n33 k33 => ?_)
  have hc33 := k33 _ _ hc31
  have f0_33 := k33 _ _ f0_31
  have f1_33 := k33 _ _ f1_31
  have f2_33 := k33 _ _ f2_31
  have f3_33 := k33 _ _ f3_31
  have f4_33 := k33 _ _ f4_31
  have f5_33 := k33 _ _ f5_31
  have f6_33 := k33 _ _ f6_31
  have f7_33 := k33 _ _ f7_31
  have f8_33 := k33 _ _ f8_31
  have f9_33 := k33 _ _ f9_31
  have f10_33 := k33 _ _ f10_31
  have f11_33 := k33 _ _ f11_31
  have f12_33 := k33 _ _ f12_31
  have f13_33 := k33 _ _ f13_31
  have f14_33 := k33 _ _ f14_31
  have f15_33 := k33 _ _ f15_31
  have ok33 : ∀ k q, k < nc → k ≠ c → wget w k = some q → wget w33 k = some q := fun k q h1 h2 h3 => k33 k q (ok31 k q h1 h2 h3)
  refine xg_t (xg_dup rfl) ?_
  refine xg_t (xg_const) ?_
  refine xg_t (xg_const) ?_
  refine xg_cI mX5_init (vs := [(0, 4), (0, 3)]) (rest := [(2, nc + 16), (2, c)]) (rr := (na + 8, nc + 17)) (cn := 17) (sl := 2782) (cn1 := 18) (sl1 := 3102) rfl (niRows (c := nc + 16) (a := 4) (b := 3) (z := 12) s33 n33 (by omega) rfl (by decide)) rfl rfl rfl rfl rfl rfl rfl rfl (fun w37 rr37 hq37 => ?_)
  obtain ⟨rfl, s37, f16_37, f17_37, kp37⟩ := hq37
  have hc37 := kp37 _ _ (by omega) (by omega) hc33
  have f0_37 := kp37 _ _ (by omega) (by omega) f0_33
  have f1_37 := kp37 _ _ (by omega) (by omega) f1_33
  have f2_37 := kp37 _ _ (by omega) (by omega) f2_33
  have f3_37 := kp37 _ _ (by omega) (by omega) f3_33
  have f4_37 := kp37 _ _ (by omega) (by omega) f4_33
  have f5_37 := kp37 _ _ (by omega) (by omega) f5_33
  have f6_37 := kp37 _ _ (by omega) (by omega) f6_33
  have f7_37 := kp37 _ _ (by omega) (by omega) f7_33
  have f8_37 := kp37 _ _ (by omega) (by omega) f8_33
  have f9_37 := kp37 _ _ (by omega) (by omega) f9_33
  have f10_37 := kp37 _ _ (by omega) (by omega) f10_33
  have f11_37 := kp37 _ _ (by omega) (by omega) f11_33
  have f12_37 := kp37 _ _ (by omega) (by omega) f12_33
  have f13_37 := kp37 _ _ (by omega) (by omega) f13_33
  have f14_37 := kp37 _ _ (by omega) (by omega) f14_33
  have f15_37 := kp37 _ _ (by omega) (by omega) f15_33
  have ok37 : ∀ k q, k < nc → k ≠ c → wget w k = some q → wget w37 k = some q := fun k q h1 h2 h3 => kp37 k q (by omega) (by omega) (ok33 k q h1 h2 h3)
  refine xg_putFR (fl1 := [(2, nc), (0, 0), (0, 0), (0, 4294967295), (2, nc + 1), (2, nc + 12), (0, 0), (0, 4294967295), (2, nc + 14), (0, 0), (2, nc + 16), (3, 0), (3, 0), (3, 0)]) (by decide) hc37 rfl rfl rfl (fun w38 hc38 b38 => ?_)
  have f0_38 := (b38.1 (nc) (by omega)).trans f0_37
  have f1_38 := (b38.1 (nc + 1) (by omega)).trans f1_37
  have f2_38 := (b38.1 (nc + 2) (by omega)).trans f2_37
  have f3_38 := (b38.1 (nc + 3) (by omega)).trans f3_37
  have f4_38 := (b38.1 (nc + 4) (by omega)).trans f4_37
  have f5_38 := (b38.1 (nc + 5) (by omega)).trans f5_37
  have f6_38 := (b38.1 (nc + 6) (by omega)).trans f6_37
  have f7_38 := (b38.1 (nc + 7) (by omega)).trans f7_37
  have f8_38 := (b38.1 (nc + 8) (by omega)).trans f8_37
  have f9_38 := (b38.1 (nc + 9) (by omega)).trans f9_37
  have f10_38 := (b38.1 (nc + 10) (by omega)).trans f10_37
  have f11_38 := (b38.1 (nc + 11) (by omega)).trans f11_37
  have f12_38 := (b38.1 (nc + 12) (by omega)).trans f12_37
  have f13_38 := (b38.1 (nc + 13) (by omega)).trans f13_37
  have f14_38 := (b38.1 (nc + 14) (by omega)).trans f14_37
  have f15_38 := (b38.1 (nc + 15) (by omega)).trans f15_37
  have f16_38 := (b38.1 (nc + 16) (by omega)).trans f16_37
  have f17_38 := (b38.1 (nc + 17) (by omega)).trans f17_37
  have ok38 : ∀ k q, k < nc → k ≠ c → wget w k = some q → wget w38 k = some q := fun k q h1 h2 h3 => (b38.1 k h2).trans (ok37 k q h1 h2 h3)
  have s38 := b38.2.trans s37
  refine xg_t (xg_aload (va := (2, c)) rfl rfl) ?_
  refine xg_newO (nc := nc + 18) (na := na + 9) (cn := 18) (sl := 3102) (fs := [(0, 0), (0, 0), (3, 0), (0, 0)]) rfl s38 (show 18 < 24 by decide) (show 3102 + 4 ≤ 4074 by decide) (fun w40 s40 n40 k40 => ?_)
  have hc40 := k40 _ _ hc38
  have f0_40 := k40 _ _ f0_38
  have f1_40 := k40 _ _ f1_38
  have f2_40 := k40 _ _ f2_38
  have f3_40 := k40 _ _ f3_38
  have f4_40 := k40 _ _ f4_38
  have f5_40 := k40 _ _ f5_38
  have f6_40 := k40 _ _ f6_38
  have f7_40 := k40 _ _ f7_38
  have f8_40 := k40 _ _ f8_38
  have f9_40 := k40 _ _ f9_38
  have f10_40 := k40 _ _ f10_38
  have f11_40 := k40 _ _ f11_38
  have f12_40 := k40 _ _ f12_38
  have f13_40 := k40 _ _ f13_38
  have f14_40 := k40 _ _ f14_38
  have f15_40 := k40 _ _ f15_38
  have f16_40 := k40 _ _ f16_38
  have f17_40 := k40 _ _ f17_38
  have ok40 : ∀ k q, k < nc → k ≠ c → wget w k = some q → wget w40 k = some q := fun k q h1 h2 h3 => k40 k q (ok38 k q h1 h2 h3)
  refine xg_t (xg_dup rfl) ?_
  refine xg_t (xg_bip) ?_
  refine xg_t (xg_const) ?_
  refine xg_cI mX5_init (vs := [(0, 12), (0, 4)]) (rest := [(2, nc + 18), (2, c)]) (rr := (na + 9, nc + 19)) (cn := 19) (sl := 3106) (cn1 := 20) (sl1 := 3426) rfl (niRows (c := nc + 18) (a := 12) (b := 4) (z := 48) s40 n40 (by omega) rfl (by decide)) rfl rfl rfl rfl rfl rfl rfl rfl (fun w44 rr44 hq44 => ?_)
  obtain ⟨rfl, s44, f18_44, f19_44, kp44⟩ := hq44
  have hc44 := kp44 _ _ (by omega) (by omega) hc40
  have f0_44 := kp44 _ _ (by omega) (by omega) f0_40
  have f1_44 := kp44 _ _ (by omega) (by omega) f1_40
  have f2_44 := kp44 _ _ (by omega) (by omega) f2_40
  have f3_44 := kp44 _ _ (by omega) (by omega) f3_40
  have f4_44 := kp44 _ _ (by omega) (by omega) f4_40
  have f5_44 := kp44 _ _ (by omega) (by omega) f5_40
  have f6_44 := kp44 _ _ (by omega) (by omega) f6_40
  have f7_44 := kp44 _ _ (by omega) (by omega) f7_40
  have f8_44 := kp44 _ _ (by omega) (by omega) f8_40
  have f9_44 := kp44 _ _ (by omega) (by omega) f9_40
  have f10_44 := kp44 _ _ (by omega) (by omega) f10_40
  have f11_44 := kp44 _ _ (by omega) (by omega) f11_40
  have f12_44 := kp44 _ _ (by omega) (by omega) f12_40
  have f13_44 := kp44 _ _ (by omega) (by omega) f13_40
  have f14_44 := kp44 _ _ (by omega) (by omega) f14_40
  have f15_44 := kp44 _ _ (by omega) (by omega) f15_40
  have f16_44 := kp44 _ _ (by omega) (by omega) f16_40
  have f17_44 := kp44 _ _ (by omega) (by omega) f17_40
  have ok44 : ∀ k q, k < nc → k ≠ c → wget w k = some q → wget w44 k = some q := fun k q h1 h2 h3 => kp44 k q (by omega) (by omega) (ok40 k q h1 h2 h3)
  refine xg_putFR (fl1 := [(2, nc), (0, 0), (0, 0), (0, 4294967295), (2, nc + 1), (2, nc + 12), (0, 0), (0, 4294967295), (2, nc + 14), (0, 0), (2, nc + 16), (2, nc + 18), (3, 0), (3, 0)]) (by decide) hc44 rfl rfl rfl (fun w45 hc45 b45 => ?_)
  have f0_45 := (b45.1 (nc) (by omega)).trans f0_44
  have f1_45 := (b45.1 (nc + 1) (by omega)).trans f1_44
  have f2_45 := (b45.1 (nc + 2) (by omega)).trans f2_44
  have f3_45 := (b45.1 (nc + 3) (by omega)).trans f3_44
  have f4_45 := (b45.1 (nc + 4) (by omega)).trans f4_44
  have f5_45 := (b45.1 (nc + 5) (by omega)).trans f5_44
  have f6_45 := (b45.1 (nc + 6) (by omega)).trans f6_44
  have f7_45 := (b45.1 (nc + 7) (by omega)).trans f7_44
  have f8_45 := (b45.1 (nc + 8) (by omega)).trans f8_44
  have f9_45 := (b45.1 (nc + 9) (by omega)).trans f9_44
  have f10_45 := (b45.1 (nc + 10) (by omega)).trans f10_44
  have f11_45 := (b45.1 (nc + 11) (by omega)).trans f11_44
  have f12_45 := (b45.1 (nc + 12) (by omega)).trans f12_44
  have f13_45 := (b45.1 (nc + 13) (by omega)).trans f13_44
  have f14_45 := (b45.1 (nc + 14) (by omega)).trans f14_44
  have f15_45 := (b45.1 (nc + 15) (by omega)).trans f15_44
  have f16_45 := (b45.1 (nc + 16) (by omega)).trans f16_44
  have f17_45 := (b45.1 (nc + 17) (by omega)).trans f17_44
  have f18_45 := (b45.1 (nc + 18) (by omega)).trans f18_44
  have f19_45 := (b45.1 (nc + 19) (by omega)).trans f19_44
  have ok45 : ∀ k q, k < nc → k ≠ c → wget w k = some q → wget w45 k = some q := fun k q h1 h2 h3 => (b45.1 k h2).trans (ok44 k q h1 h2 h3)
  have s45 := b45.2.trans s44
  refine xg_t (xg_aload (va := (2, c)) rfl rfl) ?_
  refine xg_newO (nc := nc + 20) (na := na + 10) (cn := 20) (sl := 3426) (fs := [(0, 0), (0, 0), (3, 0), (0, 0)]) rfl s45 (show 20 < 24 by decide) (show 3426 + 4 ≤ 4074 by decide) (fun w47 s47 n47 k47 => ?_)
  have hc47 := k47 _ _ hc45
  have f0_47 := k47 _ _ f0_45
  have f1_47 := k47 _ _ f1_45
  have f2_47 := k47 _ _ f2_45
  have f3_47 := k47 _ _ f3_45
  have f4_47 := k47 _ _ f4_45
  have f5_47 := k47 _ _ f5_45
  have f6_47 := k47 _ _ f6_45
  have f7_47 := k47 _ _ f7_45
  have f8_47 := k47 _ _ f8_45
  have f9_47 := k47 _ _ f9_45
  have f10_47 := k47 _ _ f10_45
  have f11_47 := k47 _ _ f11_45
  have f12_47 := k47 _ _ f12_45
  have f13_47 := k47 _ _ f13_45
  have f14_47 := k47 _ _ f14_45
  have f15_47 := k47 _ _ f15_45
  have f16_47 := k47 _ _ f16_45
  have f17_47 := k47 _ _ f17_45
  have f18_47 := k47 _ _ f18_45
  have f19_47 := k47 _ _ f19_45
  have ok47 : ∀ k q, k < nc → k ≠ c → wget w k = some q → wget w47 k = some q := fun k q h1 h2 h3 => k47 k q (ok45 k q h1 h2 h3)
  refine xg_t (xg_dup rfl) ?_
  refine xg_t (xg_bip) ?_
  refine xg_t (xg_const) ?_
  refine xg_cI mX5_init (vs := [(0, 16), (0, 2)]) (rest := [(2, nc + 20), (2, c)]) (rr := (na + 10, nc + 21)) (cn := 21) (sl := 3430) (cn1 := 22) (sl1 := 3750) rfl (niRows (c := nc + 20) (a := 16) (b := 2) (z := 32) s47 n47 (by omega) rfl (by decide)) rfl rfl rfl rfl rfl rfl rfl rfl (fun w51 rr51 hq51 => ?_)
  obtain ⟨rfl, s51, f20_51, f21_51, kp51⟩ := hq51
  have hc51 := kp51 _ _ (by omega) (by omega) hc47
  have f0_51 := kp51 _ _ (by omega) (by omega) f0_47
  have f1_51 := kp51 _ _ (by omega) (by omega) f1_47
  have f2_51 := kp51 _ _ (by omega) (by omega) f2_47
  have f3_51 := kp51 _ _ (by omega) (by omega) f3_47
  have f4_51 := kp51 _ _ (by omega) (by omega) f4_47
  have f5_51 := kp51 _ _ (by omega) (by omega) f5_47
  have f6_51 := kp51 _ _ (by omega) (by omega) f6_47
  have f7_51 := kp51 _ _ (by omega) (by omega) f7_47
  have f8_51 := kp51 _ _ (by omega) (by omega) f8_47
  have f9_51 := kp51 _ _ (by omega) (by omega) f9_47
  have f10_51 := kp51 _ _ (by omega) (by omega) f10_47
  have f11_51 := kp51 _ _ (by omega) (by omega) f11_47
  have f12_51 := kp51 _ _ (by omega) (by omega) f12_47
  have f13_51 := kp51 _ _ (by omega) (by omega) f13_47
  have f14_51 := kp51 _ _ (by omega) (by omega) f14_47
  have f15_51 := kp51 _ _ (by omega) (by omega) f15_47
  have f16_51 := kp51 _ _ (by omega) (by omega) f16_47
  have f17_51 := kp51 _ _ (by omega) (by omega) f17_47
  have f18_51 := kp51 _ _ (by omega) (by omega) f18_47
  have f19_51 := kp51 _ _ (by omega) (by omega) f19_47
  have ok51 : ∀ k q, k < nc → k ≠ c → wget w k = some q → wget w51 k = some q := fun k q h1 h2 h3 => kp51 k q (by omega) (by omega) (ok47 k q h1 h2 h3)
  refine xg_putFR (fl1 := [(2, nc), (0, 0), (0, 0), (0, 4294967295), (2, nc + 1), (2, nc + 12), (0, 0), (0, 4294967295), (2, nc + 14), (0, 0), (2, nc + 16), (2, nc + 18), (2, nc + 20), (3, 0)]) (by decide) hc51 rfl rfl rfl (fun w52 hc52 b52 => ?_)
  have f0_52 := (b52.1 (nc) (by omega)).trans f0_51
  have f1_52 := (b52.1 (nc + 1) (by omega)).trans f1_51
  have f2_52 := (b52.1 (nc + 2) (by omega)).trans f2_51
  have f3_52 := (b52.1 (nc + 3) (by omega)).trans f3_51
  have f4_52 := (b52.1 (nc + 4) (by omega)).trans f4_51
  have f5_52 := (b52.1 (nc + 5) (by omega)).trans f5_51
  have f6_52 := (b52.1 (nc + 6) (by omega)).trans f6_51
  have f7_52 := (b52.1 (nc + 7) (by omega)).trans f7_51
  have f8_52 := (b52.1 (nc + 8) (by omega)).trans f8_51
  have f9_52 := (b52.1 (nc + 9) (by omega)).trans f9_51
  have f10_52 := (b52.1 (nc + 10) (by omega)).trans f10_51
  have f11_52 := (b52.1 (nc + 11) (by omega)).trans f11_51
  have f12_52 := (b52.1 (nc + 12) (by omega)).trans f12_51
  have f13_52 := (b52.1 (nc + 13) (by omega)).trans f13_51
  have f14_52 := (b52.1 (nc + 14) (by omega)).trans f14_51
  have f15_52 := (b52.1 (nc + 15) (by omega)).trans f15_51
  have f16_52 := (b52.1 (nc + 16) (by omega)).trans f16_51
  have f17_52 := (b52.1 (nc + 17) (by omega)).trans f17_51
  have f18_52 := (b52.1 (nc + 18) (by omega)).trans f18_51
  have f19_52 := (b52.1 (nc + 19) (by omega)).trans f19_51
  have f20_52 := (b52.1 (nc + 20) (by omega)).trans f20_51
  have f21_52 := (b52.1 (nc + 21) (by omega)).trans f21_51
  have ok52 : ∀ k q, k < nc → k ≠ c → wget w k = some q → wget w52 k = some q := fun k q h1 h2 h3 => (b52.1 k h2).trans (ok51 k q h1 h2 h3)
  have s52 := b52.2.trans s51
  refine xg_t (xg_aload (va := (2, c)) rfl rfl) ?_
  refine xg_newO (nc := nc + 22) (na := na + 11) (cn := 22) (sl := 3750) (fs := [(0, 0), (0, 0), (3, 0), (0, 0)]) rfl s52 (show 22 < 24 by decide) (show 3750 + 4 ≤ 4074 by decide) (fun w54 s54 n54 k54 => ?_)
  have hc54 := k54 _ _ hc52
  have f0_54 := k54 _ _ f0_52
  have f1_54 := k54 _ _ f1_52
  have f2_54 := k54 _ _ f2_52
  have f3_54 := k54 _ _ f3_52
  have f4_54 := k54 _ _ f4_52
  have f5_54 := k54 _ _ f5_52
  have f6_54 := k54 _ _ f6_52
  have f7_54 := k54 _ _ f7_52
  have f8_54 := k54 _ _ f8_52
  have f9_54 := k54 _ _ f9_52
  have f10_54 := k54 _ _ f10_52
  have f11_54 := k54 _ _ f11_52
  have f12_54 := k54 _ _ f12_52
  have f13_54 := k54 _ _ f13_52
  have f14_54 := k54 _ _ f14_52
  have f15_54 := k54 _ _ f15_52
  have f16_54 := k54 _ _ f16_52
  have f17_54 := k54 _ _ f17_52
  have f18_54 := k54 _ _ f18_52
  have f19_54 := k54 _ _ f19_52
  have f20_54 := k54 _ _ f20_52
  have f21_54 := k54 _ _ f21_52
  have ok54 : ∀ k q, k < nc → k ≠ c → wget w k = some q → wget w54 k = some q := fun k q h1 h2 h3 => k54 k q (ok52 k q h1 h2 h3)
  refine xg_t (xg_dup rfl) ?_
  refine xg_t (xg_bip) ?_
  refine xg_t (xg_const) ?_
  refine xg_cI mX5_init (vs := [(0, 64), (0, 5)]) (rest := [(2, nc + 22), (2, c)]) (rr := (na + 11, nc + 23)) (cn := 23) (sl := 3754) (cn1 := 24) (sl1 := 4074) rfl (niRows (c := nc + 22) (a := 64) (b := 5) (z := 320) s54 n54 (by omega) rfl (by decide)) rfl rfl rfl rfl rfl rfl rfl rfl (fun w58 rr58 hq58 => ?_)
  obtain ⟨rfl, s58, f22_58, f23_58, kp58⟩ := hq58
  have hc58 := kp58 _ _ (by omega) (by omega) hc54
  have f0_58 := kp58 _ _ (by omega) (by omega) f0_54
  have f1_58 := kp58 _ _ (by omega) (by omega) f1_54
  have f2_58 := kp58 _ _ (by omega) (by omega) f2_54
  have f3_58 := kp58 _ _ (by omega) (by omega) f3_54
  have f4_58 := kp58 _ _ (by omega) (by omega) f4_54
  have f5_58 := kp58 _ _ (by omega) (by omega) f5_54
  have f6_58 := kp58 _ _ (by omega) (by omega) f6_54
  have f7_58 := kp58 _ _ (by omega) (by omega) f7_54
  have f8_58 := kp58 _ _ (by omega) (by omega) f8_54
  have f9_58 := kp58 _ _ (by omega) (by omega) f9_54
  have f10_58 := kp58 _ _ (by omega) (by omega) f10_54
  have f11_58 := kp58 _ _ (by omega) (by omega) f11_54
  have f12_58 := kp58 _ _ (by omega) (by omega) f12_54
  have f13_58 := kp58 _ _ (by omega) (by omega) f13_54
  have f14_58 := kp58 _ _ (by omega) (by omega) f14_54
  have f15_58 := kp58 _ _ (by omega) (by omega) f15_54
  have f16_58 := kp58 _ _ (by omega) (by omega) f16_54
  have f17_58 := kp58 _ _ (by omega) (by omega) f17_54
  have f18_58 := kp58 _ _ (by omega) (by omega) f18_54
  have f19_58 := kp58 _ _ (by omega) (by omega) f19_54
  have f20_58 := kp58 _ _ (by omega) (by omega) f20_54
  have f21_58 := kp58 _ _ (by omega) (by omega) f21_54
  have ok58 : ∀ k q, k < nc → k ≠ c → wget w k = some q → wget w58 k = some q := fun k q h1 h2 h3 => kp58 k q (by omega) (by omega) (ok54 k q h1 h2 h3)
  refine xg_putFR (fl1 := [(2, nc), (0, 0), (0, 0), (0, 4294967295), (2, nc + 1), (2, nc + 12), (0, 0), (0, 4294967295), (2, nc + 14), (0, 0), (2, nc + 16), (2, nc + 18), (2, nc + 20), (2, nc + 22)]) (by decide) hc58 rfl rfl rfl (fun w59 hc59 b59 => ?_)
  have f0_59 := (b59.1 (nc) (by omega)).trans f0_58
  have f1_59 := (b59.1 (nc + 1) (by omega)).trans f1_58
  have f2_59 := (b59.1 (nc + 2) (by omega)).trans f2_58
  have f3_59 := (b59.1 (nc + 3) (by omega)).trans f3_58
  have f4_59 := (b59.1 (nc + 4) (by omega)).trans f4_58
  have f5_59 := (b59.1 (nc + 5) (by omega)).trans f5_58
  have f6_59 := (b59.1 (nc + 6) (by omega)).trans f6_58
  have f7_59 := (b59.1 (nc + 7) (by omega)).trans f7_58
  have f8_59 := (b59.1 (nc + 8) (by omega)).trans f8_58
  have f9_59 := (b59.1 (nc + 9) (by omega)).trans f9_58
  have f10_59 := (b59.1 (nc + 10) (by omega)).trans f10_58
  have f11_59 := (b59.1 (nc + 11) (by omega)).trans f11_58
  have f12_59 := (b59.1 (nc + 12) (by omega)).trans f12_58
  have f13_59 := (b59.1 (nc + 13) (by omega)).trans f13_58
  have f14_59 := (b59.1 (nc + 14) (by omega)).trans f14_58
  have f15_59 := (b59.1 (nc + 15) (by omega)).trans f15_58
  have f16_59 := (b59.1 (nc + 16) (by omega)).trans f16_58
  have f17_59 := (b59.1 (nc + 17) (by omega)).trans f17_58
  have f18_59 := (b59.1 (nc + 18) (by omega)).trans f18_58
  have f19_59 := (b59.1 (nc + 19) (by omega)).trans f19_58
  have f20_59 := (b59.1 (nc + 20) (by omega)).trans f20_58
  have f21_59 := (b59.1 (nc + 21) (by omega)).trans f21_58
  have f22_59 := (b59.1 (nc + 22) (by omega)).trans f22_58
  have f23_59 := (b59.1 (nc + 23) (by omega)).trans f23_58
  have ok59 : ∀ k q, k < nc → k ≠ c → wget w k = some q → wget w59 k = some q := fun k q h1 h2 h3 => (b59.1 k h2).trans (ok58 k q h1 h2 h3)
  have s59 := b59.2.trans s58
  exact xg_e ⟨[], w59, 24, 4074, (na + 12, nc + 24), ⟨rfl, rfl⟩, by decide, by decide, rfl, rfl, s59, hc59, f0_59, f1_59, f2_59, f3_59, f4_59, f5_59, f6_59, f7_59, f8_59, f9_59, f10_59, f11_59, f12_59, f13_59, f14_59, f15_59, f16_59, f17_59, f18_59, f19_59, f20_59, f21_59, f22_59, f23_59, ok59⟩
end XNT
