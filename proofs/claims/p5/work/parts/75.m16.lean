/-! the model: quarrels -/
theorem neg_bit {L a : Nat} (h1 : 2147483648 ≤ L) (h2 : L < 4294967296) (ha : a = 31) : Nat.land (xpt (nI L >>> (nI a &&& 31))) 1 = 1 := by
  subst ha
  have e := pk_shr (nI L) (nI 31 &&& 31) 31 (xsh5 (by decide))
  rw [xnI_toInt h2] at e
  have z1 := xpt_lt (nI L >>> (nI 31 &&& 31))
  have z2 := xpt_eq (nI L >>> (nI 31 &&& 31))
  rw [← z2, xnI_toInt z1] at e
  generalize xpt (nI L >>> (nI 31 &&& 31)) = z at *
  have hb : xbs L = L - 2147483648 := by unfold xbs; omega
  have hs : ((xbs L : Int) - 2147483648) >>> 31 = -1 := by
    rw [Int.shiftRight_eq_div_pow, hb]
    have p : ((2 ^ 31 : Nat) : Int) = 2147483648 := by decide
    rw [p]
    omega
  rw [hs] at e
  have hz : xbs z = 2147483647 := by omega
  have hz2 : z = 4294967295 := by
    unfold xbs at hz
    omega
  subst hz2
  decide
theorem low_step {L a z : Nat} (h : L % 2 ^ a = 0) (hz : Nat.land (L / 2 ^ a) 1 = z) (h0 : z = 0) : L % 2 ^ (a + 1) = 0 := by
  have e : Nat.land (L / 2 ^ a) 1 = L / 2 ^ a % 2 := Nat.and_one_is_mod _
  rw [Nat.mod_pow_succ, h]
  have q : L / 2 ^ a % 2 = 0 := by omega
  rw [q]
  rfl
theorem low_bd {L a : Nat} (h : L % 2 ^ (a + 1) = 0) (h0 : L ≠ 0) (h1 : L < 2147483648) : a + 1 ≤ 30 := by
  rcases Nat.lt_or_ge a 30 with q | q
  · omega
  · have p : 2 ^ 31 ≤ 2 ^ (a + 1) := Nat.pow_le_pow_right (by decide) (by omega)
    have p2 : (2 : Nat) ^ 31 = 2147483648 := by decide
    rw [Nat.mod_eq_of_lt (by omega)] at h
    exact absurd h h0
section XMG
variable {d : Nat} {w : List (List xE)} {bd : List (Nat × Nat)} {fc : List (Nat × Nat × Bool)} {rr : Nat × Nat}
theorem xg_ishrE {p0 pc ln x y ix u v z : Nat} {M : xM} {tl : List xI} {lo : xLo} {st : List xV} {hp : xH} {va vb : xV} (ha : xnm hp.2.1 va = (0, u)) (hb : xnm hp.2.1 vb = (0, v)) (hu : u < 2147483648) (hv : v < 32) (hz : u / 2 ^ v = z) : xLd d M (p0, (pc, ln, 29, x, y, ix) :: tl, lo, vb :: va :: st, hp) [(pc + ln, tl, lo, (0, z) :: st, hp)] := xg_bin (F := fun a b => a / 2 ^ b) (chk := fun a b => Nat.blt a 2147483648 && Nat.blt b 32) (al := true) (bo := xany) rfl ha hb (Bool.and_eq_true_iff.mpr ⟨Nat.ble_eq_true_of_le hu, Nat.ble_eq_true_of_le hv⟩) hz
theorem mIsQuarrel {se : Nat} (hI : xMnv w) (hse : se ≤ 4294967295) : xPi d mX12_isQuarrel [(2, 82), (0, se)] w bd fc rr (fun n w' => (n ≤ 1) ∧ xMnv w' ∧ xFr [] w w') := by
  refine xPi.of ?_
  show xTo d mX12_isQuarrel (0, [], [(0, (2, 82)), (1, (0, se))], [], (w, bd, fc, 0, 0, rr)) (fun φ => ∃ n w', xEnd 4 [(0, n)] (w', bd, fc, 0, 0, rr) φ ∧ (n ≤ 1) ∧ xMnv w' ∧ xFr [] w w')
  obtain ⟨f82_1, f82_3, f82_5, f82_7, f82_9, f82_11, f82_13, f82_15, f82_17, f82_19, f82_21, f82_22, f82_23, f82_25, f82_27, f82_29, h82_31, hb2, hb4, hb6, hb8, hb10, hb12, hb14, hb16, hb18, hb20, hb24, hb26, hb28, hb30, hb32⟩ := (hI 82 (by decide) (by decide) : cp82 (wget w 82))
  replace hb4 := xHid.of hb4
  replace hb10 := xHid.of hb10
  replace hb14 := xHid.of hb14
  replace hb16 := xHid.of hb16
  replace hb20 := xHid.of hb20
  replace hb24 := xHid.of hb24
  replace hb26 := xHid.of hb26
  replace hb28 := xHid.of hb28
  replace hb30 := xHid.of hb30
  obtain ⟨g111_33, h111_34, hb35⟩ := (hI 111 (by decide) (by decide) : cpI 240 78 4294967295 (wget w 111))
  have h111_34 : xRow w 111 240 78 g111_33 := h111_34
  refine xg_t (xg_blk (b := [(0, 1, 3, 0, 0, 0), (1, 1, 15, 2, 0, 0), (2, 1, 3, 0, 0, 0), (3, 1, 15, 3, 0, 0)]) rfl) ?_
  refine xg_t (xg_const) ?_
  refine xg_t (xg_istore (l1 := [(0, (2, 82)), (1, (0, se))]) rfl rfl rfl) ?_
  refine xg_t (xg_const) ?_
  refine xg_t (xg_istore (l1 := [(2, (0, 0)), (0, (2, 82)), (1, (0, se))]) rfl rfl rfl) ?_
  refine xg_t (xg_drop (l1 := [(0, (2, 82)), (1, (0, se)), (2, (0, 0)), (3, (0, 0))]) (List.forall_mem_cons.mpr ⟨List.mem_cons_of_mem _ (List.mem_cons_of_mem _ (List.mem_cons_self)), List.forall_mem_cons.mpr ⟨List.mem_cons_of_mem _ (List.mem_cons_of_mem _ (List.mem_cons_of_mem _ (List.mem_cons_self))), List.forall_mem_cons.mpr ⟨List.mem_cons_of_mem _ (List.mem_cons_self), List.forall_mem_cons.mpr ⟨List.mem_cons_self, fun _ h => absurd h List.not_mem_nil⟩⟩⟩⟩)) ?_
  have key36 : ∀ (m38 : Nat) (kp li : Nat) (w39 : List (List xE)), 240 - li < m38 → kp ≤ 1 → li ≤ 240 → xMnv w39 → xFr [] w w39 → xTo d mX12_isQuarrel (4, [], [(0, (2, 82)), (1, (0, se)), (2, (0, kp)), (3, (0, li))], [], (w39, bd, fc, 0, 0, rr)) (fun φ => ∃ n w', xEnd 4 [(0, n)] (w', bd, fc, 0, 0, rr) φ ∧ (n ≤ 1) ∧ xMnv w' ∧ xFr [] w w') := by
    intro m38
    induction m38 with
    | zero => intro kp li w39 hz; exact absurd hz (Nat.not_lt_zero _)
    | succ m38 ih37 =>
      intro kp li w39 hm44 hn42 hn43 hI40 hF41
      refine xg_t (xg_blk (b := [(4, 1, 2, 3, 0, 0), (5, 3, 5, 240, 0, 0), (8, 3, 6, 39, 3, 0), (11, 1, 2, 2, 0, 0), (12, 3, 7, 39, 1, 0), (15, 1, 0, 0, 0, 0), (16, 3, 1, 12, 44, 96), (19, 1, 2, 3, 0, 0), (20, 1, 10, 0, 0, 0), (21, 1, 2, 1, 0, 0), (22, 1, 30, 0, 0, 0), (23, 1, 2, 1, 0, 0), (24, 3, 6, 31, 1, 0), (27, 1, 3, 1, 0, 0), (28, 3, 8, 32, 0, 0)]) rfl) ?_
      refine xg_t (xg_iload (va := (0, li)) rfl rfl) ?_
      refine xg_t (xg_sip) ?_
      by_cases hc45 : li < 240
      · refine xg_t (xg_icF (u := li) (v := 240) rfl xnm0 xnm0 (xj_geF hc45 (by omega))) ?_
        refine xg_t (xg_iload (va := (0, kp)) rfl rfl) ?_
        by_cases hc46 : kp = 0
        · refine xg_t (xg_ifF (u := kp) rfl xnm0 (xj_neF hc46)) ?_
          refine xg_t (xg_aload (va := (2, 82)) rfl rfl) ?_
          refine xg_t (xg_getf (va := (2, 111)) (hF41.get (by decide) h82_31) rfl) ?_
          refine xg_t (xg_iload (va := (0, li)) rfl rfl) ?_
          refine xg_ialdB (n := li) (B := 4294967295) (h111_34.fr hF41 (by decide)) (hb35) xnm0 (by omega) (fun u47 hu48 he49 => ?_)
          refine xg_t (xg_iload (va := (0, se)) rfl rfl) ?_
          refine xg_k (xg_iand (z := Nat.land u47 se) (u := u47) (v := se) xnm0 xnm0 rfl) (xland_lt (by omega)) (fun z50 hz51 => ?_)
          refine xg_t (xg_iload (va := (0, se)) rfl rfl) ?_
          by_cases hc52 : z50 = se
          · refine xg_t (xg_icF (u := z50) (v := se) rfl xnm0 xnm0 (xj_neF hc52)) ?_
            refine xg_t (xg_const) ?_
            refine xg_t (xg_goto) ?_
            refine xg_t (xg_blk (b := [(32, 1, 15, 2, 0, 0), (33, 3, 9, 3, 1, 0), (36, 3, 8, 4, 0, 0)]) rfl) ?_
            refine xg_t (xg_istore (l1 := [(0, (2, 82)), (1, (0, se)), (3, (0, li))]) rfl rfl rfl) ?_
            refine xg_t (xg_iinc (u := li) (z := li + 1) (l1 := [(2, (0, 1)), (0, (2, 82)), (1, (0, se))]) rfl rfl (by omega) rfl) ?_
            refine xg_t (xg_goto) ?_
            refine xg_t (xg_drop (l1 := [(0, (2, 82)), (1, (0, se)), (2, (0, 1)), (3, (0, li + 1))]) (List.forall_mem_cons.mpr ⟨List.mem_cons_of_mem _ (List.mem_cons_of_mem _ (List.mem_cons_self)), List.forall_mem_cons.mpr ⟨List.mem_cons_of_mem _ (List.mem_cons_of_mem _ (List.mem_cons_of_mem _ (List.mem_cons_self))), List.forall_mem_cons.mpr ⟨List.mem_cons_of_mem _ (List.mem_cons_self), List.forall_mem_cons.mpr ⟨List.mem_cons_self, fun _ h => absurd h List.not_mem_nil⟩⟩⟩⟩)) ?_
            exact ih37 1 (li + 1) w39 (by omega) (by omega) (by omega) (hI40) (hF41)
          · refine xg_t (xg_icT (u := z50) (v := se) rfl xnm0 xnm0 (xj_neT hc52)) ?_
            refine xg_t (xg_blk (b := [(31, 1, 3, 0, 0, 0)]) rfl) ?_
            refine xg_t (xg_const) ?_
            refine xg_t (xg_blk (b := [(32, 1, 15, 2, 0, 0), (33, 3, 9, 3, 1, 0), (36, 3, 8, 4, 0, 0)]) rfl) ?_
            refine xg_t (xg_istore (l1 := [(0, (2, 82)), (1, (0, se)), (3, (0, li))]) rfl rfl rfl) ?_
            refine xg_t (xg_iinc (u := li) (z := li + 1) (l1 := [(2, (0, 0)), (0, (2, 82)), (1, (0, se))]) rfl rfl (by omega) rfl) ?_
            refine xg_t (xg_goto) ?_
            refine xg_t (xg_drop (l1 := [(0, (2, 82)), (1, (0, se)), (2, (0, 0)), (3, (0, li + 1))]) (List.forall_mem_cons.mpr ⟨List.mem_cons_of_mem _ (List.mem_cons_of_mem _ (List.mem_cons_self)), List.forall_mem_cons.mpr ⟨List.mem_cons_of_mem _ (List.mem_cons_of_mem _ (List.mem_cons_of_mem _ (List.mem_cons_self))), List.forall_mem_cons.mpr ⟨List.mem_cons_of_mem _ (List.mem_cons_self), List.forall_mem_cons.mpr ⟨List.mem_cons_self, fun _ h => absurd h List.not_mem_nil⟩⟩⟩⟩)) ?_
            exact ih37 0 (li + 1) w39 (by omega) (by omega) (by omega) (hI40) (hF41)
        · refine xg_t (xg_ifT (u := kp) rfl xnm0 (xj_neT hc46)) ?_
          refine xg_t (xg_blk (b := [(39, 1, 2, 2, 0, 0), (40, 3, 7, 47, 1, 0), (43, 1, 3, 1, 0, 0), (44, 3, 8, 48, 0, 0)]) rfl) ?_
          refine xg_t (xg_iload (va := (0, kp)) rfl rfl) ?_
          refine xg_t (xg_ifT (u := kp) rfl xnm0 (xj_neT (by omega))) ?_
          refine xg_t (xg_blk (b := [(47, 1, 3, 0, 0, 0)]) rfl) ?_
          refine xg_t (xg_const) ?_
          refine xg_t (xg_blk (b := [(48, 1, 12, 0, 1, 0)]) rfl) ?_
          exact xg_e ⟨0, w39, ⟨rfl, rfl⟩, by omega, hI40, hF41⟩
      · refine xg_t (xg_icT (u := li) (v := 240) rfl xnm0 xnm0 (xj_geT (by omega) (by omega))) ?_
        refine xg_t (xg_blk (b := [(39, 1, 2, 2, 0, 0), (40, 3, 7, 47, 1, 0), (43, 1, 3, 1, 0, 0), (44, 3, 8, 48, 0, 0)]) rfl) ?_
        refine xg_t (xg_iload (va := (0, kp)) rfl rfl) ?_
        by_cases hc53 : kp = 0
        · refine xg_t (xg_ifF (u := kp) rfl xnm0 (xj_neF hc53)) ?_
          refine xg_t (xg_const) ?_
          refine xg_t (xg_goto) ?_
          refine xg_t (xg_blk (b := [(48, 1, 12, 0, 1, 0)]) rfl) ?_
          exact xg_e ⟨1, w39, ⟨rfl, rfl⟩, by omega, hI40, hF41⟩
        · refine xg_t (xg_ifT (u := kp) rfl xnm0 (xj_neT hc53)) ?_
          refine xg_t (xg_blk (b := [(47, 1, 3, 0, 0, 0)]) rfl) ?_
          refine xg_t (xg_const) ?_
          refine xg_t (xg_blk (b := [(48, 1, 12, 0, 1, 0)]) rfl) ?_
          exact xg_e ⟨0, w39, ⟨rfl, rfl⟩, by omega, hI40, hF41⟩
  exact key36 _ 0 0 w (Nat.lt_succ_self _) (by omega) (by omega) (hI) (xFr.rf)
theorem mQuarrel {kk : Nat} (hI : xMnv w) (hkk : kk ≤ 4294967295) : xPi (d + 3) mX12_quarrel [(2, 82), (0, kk)] w bd fc rr (fun n w' => (n ≤ 4294967295) ∧ xMnv w' ∧ xFr [111] w w') := by
  refine xPi.of ?_
  show xTo (d + 3) mX12_quarrel (0, [], [(0, (2, 82)), (1, (0, kk))], [], (w, bd, fc, 0, 0, rr)) (fun φ => ∃ n w', xEnd 1 [(0, n)] (w', bd, fc, 0, 0, rr) φ ∧ (n ≤ 4294967295) ∧ xMnv w' ∧ xFr [111] w w')
  obtain ⟨f82_1, f82_3, f82_5, f82_7, f82_9, f82_11, f82_13, f82_15, f82_17, f82_19, f82_21, f82_22, f82_23, f82_25, f82_27, f82_29, h82_31, hb2, hb4, hb6, hb8, hb10, hb12, hb14, hb16, hb18, hb20, hb24, hb26, hb28, hb30, hb32⟩ := (hI 82 (by decide) (by decide) : cp82 (wget w 82))
  replace hb4 := xHid.of hb4
  replace hb10 := xHid.of hb10
  replace hb14 := xHid.of hb14
  replace hb16 := xHid.of hb16
  replace hb20 := xHid.of hb20
  replace hb24 := xHid.of hb24
  replace hb26 := xHid.of hb26
  replace hb28 := xHid.of hb28
  replace hb30 := xHid.of hb30
  obtain ⟨g83_33, h83_34, hb35, hx36⟩ := (hI 83 (by decide) (by decide) : cpx83 (wget w 83))
  have h83_34 : xRow w 83 5360 50 g83_33 := h83_34
  refine xg_t (xg_blk (b := [(0, 1, 2, 1, 0, 0), (1, 3, 7, 11, 2, 0), (4, 1, 0, 0, 0, 0), (5, 3, 13, 190, 96, 409), (8, 3, 7, 13, 5, 0)]) rfl) ?_
  refine xg_t (xg_iload (va := (0, kk)) rfl rfl) ?_
  by_cases hc37 : kk < 2147483648
  · refine xg_t (xg_ifF (u := kk) rfl xnm0 (xjz_ltF hc37)) ?_
    refine xg_t (xg_aload (va := (2, 82)) rfl rfl) ?_
    refine xg_cVi mX12_manyKept (vs := []) (rest := []) (cn1 := 0) (sl1 := 0) rfl (mManyKept (hI)) rfl h82_31 rfl rfl rfl rfl rfl rfl (fun n42 w38 hq39 => ?_)
    obtain ⟨hn43, hI40, hF41⟩ := hq39
    by_cases hc44 : xbs 0 < xbs n42
    · have hc44u := hc44
      unfold xbs at hc44u
      have hn45 : n42 ≤ 2147483647 := by omega
      refine xg_t (xg_ifF (u := n42) rfl xnm0 (xjs_leF hc44)) ?_
      refine xg_t (xg_blk (b := [(11, 1, 3, 4294967295, 0, 0), (12, 1, 12, 0, 1, 0)]) rfl) ?_
      refine xg_t (xg_const) ?_
      exact xg_e ⟨4294967295, w38, ⟨rfl, rfl⟩, by omega, hI40, (hF41.up (by decide))⟩
    · have hc44u := hc44
      unfold xbs at hc44u
      refine xg_t (xg_ifT (u := n42) rfl xnm0 (xjs_leT hc44)) ?_
      refine xg_t (xg_blk (b := [(13, 1, 3, 4294967295, 0, 0), (14, 1, 15, 2, 0, 0), (15, 1, 3, 1, 0, 0), (16, 1, 15, 3, 0, 0)]) rfl) ?_
      refine xg_t (xg_const) ?_
      refine xg_t (xg_istore (l1 := [(0, (2, 82)), (1, (0, kk))]) rfl rfl rfl) ?_
      refine xg_t (xg_const) ?_
      refine xg_t (xg_istore (l1 := [(2, (0, 4294967295)), (0, (2, 82)), (1, (0, kk))]) rfl rfl rfl) ?_
      refine xg_t (xg_drop (l1 := [(0, (2, 82)), (1, (0, kk)), (2, (0, 4294967295)), (3, (0, 1))]) (List.forall_mem_cons.mpr ⟨List.mem_cons_of_mem _ (List.mem_cons_of_mem _ (List.mem_cons_self)), List.forall_mem_cons.mpr ⟨List.mem_cons_of_mem _ (List.mem_cons_of_mem _ (List.mem_cons_of_mem _ (List.mem_cons_self))), List.forall_mem_cons.mpr ⟨List.mem_cons_of_mem _ (List.mem_cons_self), List.forall_mem_cons.mpr ⟨List.mem_cons_self, fun _ h => absurd h List.not_mem_nil⟩⟩⟩⟩)) ?_
      have key46 : ∀ (m48 : Nat) (be se : Nat) (w49 : List (List xE)), 4097 - se < m48 → be ≤ 4294967295 → se ≤ 4096 → xMnv w49 → xFr [111] w w49 → xTo (d + 3) mX12_quarrel (17, [], [(0, (2, 82)), (1, (0, kk)), (2, (0, be)), (3, (0, se))], [], (w49, bd, fc, 0, 0, rr)) (fun φ => ∃ n w', xEnd 1 [(0, n)] (w', bd, fc, 0, 0, rr) φ ∧ (n ≤ 4294967295) ∧ xMnv w' ∧ xFr [111] w w') := by
        intro m48
        induction m48 with
        | zero => intro be se w49 hz; exact absurd hz (Nat.not_lt_zero _)
        | succ m48 ih47 =>
          intro be se w49 hm54 hn52 hn53 hI50 hF51
          refine xg_t (xg_blk (b := [(17, 1, 2, 3, 0, 0), (18, 1, 0, 0, 0, 0), (19, 3, 13, 114, 96, 400), (22, 3, 6, 103, 4, 0), (25, 1, 2, 2, 0, 0), (26, 3, 7, 33, 3, 0), (29, 1, 3, 0, 0, 0), (30, 3, 8, 36, 0, 0)]) rfl) ?_
          refine xg_t (xg_iload (va := (0, se)) rfl rfl) ?_
          refine xg_t (xg_aload (va := (2, 82)) rfl rfl) ?_
          refine xg_cVi mX12_allTests (vs := []) (rest := [(0, se)]) (cn1 := 0) (sl1 := 0) rfl (mAllTests (hI50)) rfl (hF51.get (by decide) h82_31) rfl rfl rfl rfl rfl rfl (fun n59 w55 hq56 => ?_)
          obtain ⟨hn60, hI57, hF58⟩ := hq56
          by_cases hc61 : n59 < se
          · refine xg_t (xg_icT (u := se) (v := n59) rfl xnm0 xnm0 (xj_gtT hc61 (by omega))) ?_
            refine xg_t (xg_blk (b := [(103, 1, 2, 2, 0, 0), (104, 1, 15, 3, 0, 0), (105, 1, 3, 0, 0, 0), (106, 2, 15, 4, 0, 0)]) rfl) ?_
            refine xg_t (xg_iload (va := (0, be)) rfl rfl) ?_
            refine xg_t (xg_istore (l1 := [(0, (2, 82)), (1, (0, kk)), (2, (0, be))]) rfl rfl rfl) ?_
            refine xg_t (xg_const) ?_
            refine xg_t (xg_istore (l1 := [(3, (0, be)), (0, (2, 82)), (1, (0, kk)), (2, (0, be))]) rfl rfl rfl) ?_
            refine xg_t (xg_drop (l1 := [(0, (2, 82)), (1, (0, kk)), (3, (0, be)), (4, (0, 0))]) (List.forall_mem_cons.mpr ⟨List.mem_cons_of_mem _ (List.mem_cons_of_mem _ (List.mem_cons_self)), List.forall_mem_cons.mpr ⟨List.mem_cons_of_mem _ (List.mem_cons_of_mem _ (List.mem_cons_of_mem _ (List.mem_cons_self))), List.forall_mem_cons.mpr ⟨List.mem_cons_of_mem _ (List.mem_cons_self), List.forall_mem_cons.mpr ⟨List.mem_cons_self, fun _ h => absurd h List.not_mem_nil⟩⟩⟩⟩)) ?_
            have key62 : ∀ (m64 : Nat) (lf ni : Nat) (w65 : List (List xE)), lf < m64 → lf ≤ 4294967295 → ni ≤ 4294967295 → xMnv w65 → xFr [111] w w65 → xTo (d + 3) mX12_quarrel (108, [], [(0, (2, 82)), (1, (0, kk)), (3, (0, lf)), (4, (0, ni))], [], (w65, bd, fc, 0, 0, rr)) (fun φ => ∃ n w', xEnd 1 [(0, n)] (w', bd, fc, 0, 0, rr) φ ∧ (n ≤ 4294967295) ∧ xMnv w' ∧ xFr [111] w w') := by
              intro m64
              induction m64 with
              | zero => intro lf ni w65 hz; exact absurd hz (Nat.not_lt_zero _)
              | succ m64 ih63 =>
                intro lf ni w65 hm70 hn68 hn69 hI66 hF67
                refine xg_t (xg_blk (b := [(108, 2, 2, 4, 0, 0), (110, 1, 2, 1, 0, 0), (111, 3, 6, 130, 3, 0), (114, 1, 2, 3, 0, 0), (115, 3, 7, 130, 0, 0), (118, 1, 2, 3, 0, 0), (119, 1, 2, 3, 0, 0), (120, 1, 3, 1, 0, 0), (121, 1, 18, 0, 0, 0), (122, 1, 30, 0, 0, 0), (123, 1, 15, 3, 0, 0), (124, 3, 9, 4, 1, 0), (127, 3, 8, 108, 0, 0)]) rfl) ?_
                refine xg_t (xg_iload (va := (0, ni)) rfl rfl) ?_
                refine xg_t (xg_iload (va := (0, kk)) rfl rfl) ?_
                by_cases hc71 : xbs ni < xbs kk
                · have hc71u := hc71
                  unfold xbs at hc71u
                  have hn72 : kk ≤ 2147483647 := by omega
                  refine xg_t (xg_icF (u := ni) (v := kk) rfl xnm0 xnm0 (xjs_geF hc71)) ?_
                  refine xg_t (xg_iload (va := (0, lf)) rfl rfl) ?_
                  by_cases hc73 : lf = 0
                  · refine xg_t (xg_ifT (u := lf) rfl xnm0 (xj_eqT hc73)) ?_
                    refine xg_t (xg_blk (b := [(130, 1, 2, 3, 0, 0), (131, 3, 7, 136, 1, 0), (134, 1, 3, 4294967295, 0, 0), (135, 1, 12, 0, 1, 0)]) rfl) ?_
                    refine xg_t (xg_iload (va := (0, lf)) rfl rfl) ?_
                    by_cases hc74 : lf = 0
                    · refine xg_t (xg_ifF (u := lf) rfl xnm0 (xj_neF hc74)) ?_
                      refine xg_t (xg_const) ?_
                      exact xg_e ⟨4294967295, w65, ⟨rfl, rfl⟩, by omega, hI66, hF67⟩
                    · refine xg_t (xg_ifT (u := lf) rfl xnm0 (xj_neT hc74)) ?_
                      refine xg_t (xg_blk (b := [(136, 1, 3, 0, 0, 0), (137, 2, 15, 4, 0, 0)]) rfl) ?_
                      by_cases hc75 : lf < 2147483648
                      · refine xg_t (xg_const) ?_
                        refine xg_t (xg_istore (l1 := [(0, (2, 82)), (1, (0, kk)), (3, (0, lf))]) rfl rfl rfl) ?_
                        refine xg_t (xg_drop (l1 := [(0, (2, 82)), (1, (0, kk)), (3, (0, lf)), (4, (0, 0))]) (List.forall_mem_cons.mpr ⟨List.mem_cons_of_mem _ (List.mem_cons_self), List.forall_mem_cons.mpr ⟨List.mem_cons_of_mem _ (List.mem_cons_of_mem _ (List.mem_cons_self)), List.forall_mem_cons.mpr ⟨List.mem_cons_of_mem _ (List.mem_cons_of_mem _ (List.mem_cons_of_mem _ (List.mem_cons_self))), List.forall_mem_cons.mpr ⟨List.mem_cons_self, fun _ h => absurd h List.not_mem_nil⟩⟩⟩⟩)) ?_
                        have key76 : ∀ (m78 : Nat) (ai : Nat), 32 - ai < m78 → ai ≤ 31 → lf % 2 ^ ai = 0 → xTo (d + 3) mX12_quarrel (139, [], [(0, (2, 82)), (1, (0, kk)), (3, (0, lf)), (4, (0, ai))], [], (w65, bd, fc, 0, 0, rr)) (fun φ => ∃ n w', xEnd 1 [(0, n)] (w', bd, fc, 0, 0, rr) φ ∧ (n ≤ 4294967295) ∧ xMnv w' ∧ xFr [111] w w') := by
                          intro m78
                          induction m78 with
                          | zero => intro ai hz; exact absurd hz (Nat.not_lt_zero _)
                          | succ m78 ih77 =>
                            intro ai hm84 hn82 he83
                            refine xg_t (xg_blk (b := [(139, 1, 2, 3, 0, 0), (140, 2, 2, 4, 0, 0), (142, 1, 29, 0, 0, 0), (143, 1, 3, 1, 0, 0), (144, 1, 30, 0, 0, 0), (145, 3, 7, 154, 1, 0), (148, 3, 9, 4, 1, 0), (151, 3, 8, 139, 0, 0)]) rfl) ?_
                            refine xg_t (xg_iload (va := (0, lf)) rfl rfl) ?_
                            refine xg_t (xg_iload (va := (0, ai)) rfl rfl) ?_
                            refine xg_t (xg_ishrE (u := lf) (v := ai) xnm0 xnm0 (by omega) (by omega) rfl) ?_
                            refine xg_t (xg_const) ?_
                            refine xg_t (xg_iand (u := lf / 2 ^ ai) (v := 1) (z := Nat.land (lf / 2 ^ ai) 1) xnm0 xnm0 rfl) ?_
                            obtain ⟨z85, hz86⟩ : ∃ z, Nat.land (lf / 2 ^ ai) 1 = z := ⟨_, rfl⟩
                            rw [hz86]
                            by_cases hc87 : z85 = 0
                            · refine xg_t (xg_ifF (u := z85) rfl xnm0 (xj_neF hc87)) ?_
                              refine xg_t (xg_iinc (u := ai) (z := ai + 1) (l1 := [(0, (2, 82)), (1, (0, kk)), (3, (0, lf))]) rfl rfl (by omega) rfl) ?_
                              refine xg_t (xg_goto) ?_
                              refine xg_t (xg_drop (l1 := [(0, (2, 82)), (1, (0, kk)), (3, (0, lf)), (4, (0, ai + 1))]) (List.forall_mem_cons.mpr ⟨List.mem_cons_of_mem _ (List.mem_cons_self), List.forall_mem_cons.mpr ⟨List.mem_cons_of_mem _ (List.mem_cons_of_mem _ (List.mem_cons_self)), List.forall_mem_cons.mpr ⟨List.mem_cons_of_mem _ (List.mem_cons_of_mem _ (List.mem_cons_of_mem _ (List.mem_cons_self))), List.forall_mem_cons.mpr ⟨List.mem_cons_self, fun _ h => absurd h List.not_mem_nil⟩⟩⟩⟩)) ?_
                              have hl88 := low_step he83 hz86 (by omega)
                              have hl89 := low_bd hl88 (by omega) (by omega)
                              exact ih77 (ai + 1)  (by omega) (by omega) (hl88)
                            · refine xg_t (xg_ifT (u := z85) rfl xnm0 (xj_neT hc87)) ?_
                              refine xg_t (xg_blk (b := [(154, 2, 2, 4, 0, 0), (156, 1, 12, 0, 1, 0)]) rfl) ?_
                              refine xg_t (xg_iload (va := (0, ai)) rfl rfl) ?_
                              exact xg_e ⟨ai, w65, ⟨rfl, rfl⟩, by omega, hI66, hF67⟩
                        exact key76 _ 0  (Nat.lt_succ_self _) (by omega) (Nat.mod_one _)
                      · refine xg_t (xg_const) ?_
                        refine xg_t (xg_istore (l1 := [(0, (2, 82)), (1, (0, kk)), (3, (0, lf))]) rfl rfl rfl) ?_
                        refine xg_t (xg_drop (l1 := [(0, (2, 82)), (1, (0, kk)), (3, (0, lf)), (4, (0, 0))]) (List.forall_mem_cons.mpr ⟨List.mem_cons_of_mem _ (List.mem_cons_self), List.forall_mem_cons.mpr ⟨List.mem_cons_of_mem _ (List.mem_cons_of_mem _ (List.mem_cons_self)), List.forall_mem_cons.mpr ⟨List.mem_cons_of_mem _ (List.mem_cons_of_mem _ (List.mem_cons_of_mem _ (List.mem_cons_self))), List.forall_mem_cons.mpr ⟨List.mem_cons_self, fun _ h => absurd h List.not_mem_nil⟩⟩⟩⟩)) ?_
                        have key90 : ∀ (m92 : Nat) (ai : Nat), 32 - ai < m92 → ai ≤ 31 → ai ≤ 31 → xTo (d + 3) mX12_quarrel (139, [], [(0, (2, 82)), (1, (0, kk)), (3, (0, lf)), (4, (0, ai))], [], (w65, bd, fc, 0, 0, rr)) (fun φ => ∃ n w', xEnd 1 [(0, n)] (w', bd, fc, 0, 0, rr) φ ∧ (n ≤ 4294967295) ∧ xMnv w' ∧ xFr [111] w w') := by
                          intro m92
                          induction m92 with
                          | zero => intro ai hz; exact absurd hz (Nat.not_lt_zero _)
                          | succ m92 ih91 =>
                            intro ai hm98 hn96 he97
                            refine xg_t (xg_blk (b := [(139, 1, 2, 3, 0, 0), (140, 2, 2, 4, 0, 0), (142, 1, 29, 0, 0, 0), (143, 1, 3, 1, 0, 0), (144, 1, 30, 0, 0, 0), (145, 3, 7, 154, 1, 0), (148, 3, 9, 4, 1, 0), (151, 3, 8, 139, 0, 0)]) rfl) ?_
                            refine xg_t (xg_iload (va := (0, lf)) rfl rfl) ?_
                            refine xg_t (xg_iload (va := (0, ai)) rfl rfl) ?_
                            refine xg_t (xg_ishrG (u := lf) (v := ai) xnm0 xnm0) ?_
                            refine xg_t (xg_const) ?_
                            refine xg_t (xg_iand (u := xpt (nI lf >>> (nI ai &&& 31))) (v := 1) (z := Nat.land (xpt (nI lf >>> (nI ai &&& 31))) 1) xnm0 xnm0 rfl) ?_
                            have hz100 := fun h => neg_bit (L := lf) (a := ai) (by omega) (by omega) h
                            generalize Nat.land (xpt (nI lf >>> (nI ai &&& 31))) 1 = z99 at hz100 ⊢
                            by_cases hc101 : z99 = 0
                            · refine xg_t (xg_ifF (u := z99) rfl xnm0 (xj_neF hc101)) ?_
                              refine xg_t (xg_iinc (u := ai) (z := ai + 1) (l1 := [(0, (2, 82)), (1, (0, kk)), (3, (0, lf))]) rfl rfl (by omega) rfl) ?_
                              refine xg_t (xg_goto) ?_
                              refine xg_t (xg_drop (l1 := [(0, (2, 82)), (1, (0, kk)), (3, (0, lf)), (4, (0, ai + 1))]) (List.forall_mem_cons.mpr ⟨List.mem_cons_of_mem _ (List.mem_cons_self), List.forall_mem_cons.mpr ⟨List.mem_cons_of_mem _ (List.mem_cons_of_mem _ (List.mem_cons_self)), List.forall_mem_cons.mpr ⟨List.mem_cons_of_mem _ (List.mem_cons_of_mem _ (List.mem_cons_of_mem _ (List.mem_cons_self))), List.forall_mem_cons.mpr ⟨List.mem_cons_self, fun _ h => absurd h List.not_mem_nil⟩⟩⟩⟩)) ?_
                              exact ih91 (ai + 1)  (by omega) (by omega) (by omega)
                            · refine xg_t (xg_ifT (u := z99) rfl xnm0 (xj_neT hc101)) ?_
                              refine xg_t (xg_blk (b := [(154, 2, 2, 4, 0, 0), (156, 1, 12, 0, 1, 0)]) rfl) ?_
                              refine xg_t (xg_iload (va := (0, ai)) rfl rfl) ?_
                              exact xg_e ⟨ai, w65, ⟨rfl, rfl⟩, by omega, hI66, hF67⟩
                        exact key90 _ 0  (Nat.lt_succ_self _) (by omega) (by omega)
                  · refine xg_t (xg_ifF (u := lf) rfl xnm0 (xj_eqF hc73)) ?_
                    refine xg_t (xg_iload (va := (0, lf)) rfl rfl) ?_
                    refine xg_t (xg_iload (va := (0, lf)) rfl rfl) ?_
                    refine xg_t (xg_const) ?_
                    refine xg_t (xg_isub (u := lf) (v := 1) (z := lf - 1) xnm0 xnm0 (by omega)) ?_
                    have hle103 : Nat.land lf (lf - 1) ≤ lf - 1 := Nat.and_le_right
                    refine xg_t (xg_iand (u := lf) (v := lf - 1) (z := Nat.land lf (lf - 1)) xnm0 xnm0 rfl) ?_
                    generalize Nat.land lf (lf - 1) = z102 at hle103 ⊢
                    refine xg_t (xg_istore (l1 := [(0, (2, 82)), (1, (0, kk)), (4, (0, ni))]) rfl rfl rfl) ?_
                    refine xg_t (xg_iinc (u := ni) (z := (ni + 1) % 4294967296) (l1 := [(3, (0, z102)), (0, (2, 82)), (1, (0, kk))]) rfl rfl (rfl) rfl) ?_
                    refine xg_t (xg_goto) ?_
                    refine xg_t (xg_drop (l1 := [(0, (2, 82)), (1, (0, kk)), (3, (0, z102)), (4, (0, (ni + 1) % 4294967296))]) (List.forall_mem_cons.mpr ⟨List.mem_cons_of_mem _ (List.mem_cons_of_mem _ (List.mem_cons_self)), List.forall_mem_cons.mpr ⟨List.mem_cons_of_mem _ (List.mem_cons_of_mem _ (List.mem_cons_of_mem _ (List.mem_cons_self))), List.forall_mem_cons.mpr ⟨List.mem_cons_of_mem _ (List.mem_cons_self), List.forall_mem_cons.mpr ⟨List.mem_cons_self, fun _ h => absurd h List.not_mem_nil⟩⟩⟩⟩)) ?_
                    exact ih63 z102 ((ni + 1) % 4294967296) w65 (by omega) (by omega) (by omega) (hI66) (hF67)
                · have hc71u := hc71
                  unfold xbs at hc71u
                  have hn104 : ni ≤ 2147483647 := by omega
                  have hn105 : kk ≤ 2147483647 := by omega
                  refine xg_t (xg_icT (u := ni) (v := kk) rfl xnm0 xnm0 (xjs_geT hc71)) ?_
                  refine xg_t (xg_blk (b := [(130, 1, 2, 3, 0, 0), (131, 3, 7, 136, 1, 0), (134, 1, 3, 4294967295, 0, 0), (135, 1, 12, 0, 1, 0)]) rfl) ?_
                  refine xg_t (xg_iload (va := (0, lf)) rfl rfl) ?_
                  by_cases hc106 : lf = 0
                  · refine xg_t (xg_ifF (u := lf) rfl xnm0 (xj_neF hc106)) ?_
                    refine xg_t (xg_const) ?_
                    exact xg_e ⟨4294967295, w65, ⟨rfl, rfl⟩, by omega, hI66, hF67⟩
                  · refine xg_t (xg_ifT (u := lf) rfl xnm0 (xj_neT hc106)) ?_
                    refine xg_t (xg_blk (b := [(136, 1, 3, 0, 0, 0), (137, 2, 15, 4, 0, 0)]) rfl) ?_
                    by_cases hc107 : lf < 2147483648
                    · refine xg_t (xg_const) ?_
                      refine xg_t (xg_istore (l1 := [(0, (2, 82)), (1, (0, kk)), (3, (0, lf))]) rfl rfl rfl) ?_
                      refine xg_t (xg_drop (l1 := [(0, (2, 82)), (1, (0, kk)), (3, (0, lf)), (4, (0, 0))]) (List.forall_mem_cons.mpr ⟨List.mem_cons_of_mem _ (List.mem_cons_self), List.forall_mem_cons.mpr ⟨List.mem_cons_of_mem _ (List.mem_cons_of_mem _ (List.mem_cons_self)), List.forall_mem_cons.mpr ⟨List.mem_cons_of_mem _ (List.mem_cons_of_mem _ (List.mem_cons_of_mem _ (List.mem_cons_self))), List.forall_mem_cons.mpr ⟨List.mem_cons_self, fun _ h => absurd h List.not_mem_nil⟩⟩⟩⟩)) ?_
                      have key108 : ∀ (m110 : Nat) (ai : Nat), 32 - ai < m110 → ai ≤ 31 → lf % 2 ^ ai = 0 → xTo (d + 3) mX12_quarrel (139, [], [(0, (2, 82)), (1, (0, kk)), (3, (0, lf)), (4, (0, ai))], [], (w65, bd, fc, 0, 0, rr)) (fun φ => ∃ n w', xEnd 1 [(0, n)] (w', bd, fc, 0, 0, rr) φ ∧ (n ≤ 4294967295) ∧ xMnv w' ∧ xFr [111] w w') := by
                        intro m110
                        induction m110 with
                        | zero => intro ai hz; exact absurd hz (Nat.not_lt_zero _)
                        | succ m110 ih109 =>
                          intro ai hm116 hn114 he115
                          refine xg_t (xg_blk (b := [(139, 1, 2, 3, 0, 0), (140, 2, 2, 4, 0, 0), (142, 1, 29, 0, 0, 0), (143, 1, 3, 1, 0, 0), (144, 1, 30, 0, 0, 0), (145, 3, 7, 154, 1, 0), (148, 3, 9, 4, 1, 0), (151, 3, 8, 139, 0, 0)]) rfl) ?_
                          refine xg_t (xg_iload (va := (0, lf)) rfl rfl) ?_
                          refine xg_t (xg_iload (va := (0, ai)) rfl rfl) ?_
                          refine xg_t (xg_ishrE (u := lf) (v := ai) xnm0 xnm0 (by omega) (by omega) rfl) ?_
                          refine xg_t (xg_const) ?_
                          refine xg_t (xg_iand (u := lf / 2 ^ ai) (v := 1) (z := Nat.land (lf / 2 ^ ai) 1) xnm0 xnm0 rfl) ?_
                          obtain ⟨z117, hz118⟩ : ∃ z, Nat.land (lf / 2 ^ ai) 1 = z := ⟨_, rfl⟩
                          rw [hz118]
                          by_cases hc119 : z117 = 0
                          · refine xg_t (xg_ifF (u := z117) rfl xnm0 (xj_neF hc119)) ?_
                            refine xg_t (xg_iinc (u := ai) (z := ai + 1) (l1 := [(0, (2, 82)), (1, (0, kk)), (3, (0, lf))]) rfl rfl (by omega) rfl) ?_
                            refine xg_t (xg_goto) ?_
                            refine xg_t (xg_drop (l1 := [(0, (2, 82)), (1, (0, kk)), (3, (0, lf)), (4, (0, ai + 1))]) (List.forall_mem_cons.mpr ⟨List.mem_cons_of_mem _ (List.mem_cons_self), List.forall_mem_cons.mpr ⟨List.mem_cons_of_mem _ (List.mem_cons_of_mem _ (List.mem_cons_self)), List.forall_mem_cons.mpr ⟨List.mem_cons_of_mem _ (List.mem_cons_of_mem _ (List.mem_cons_of_mem _ (List.mem_cons_self))), List.forall_mem_cons.mpr ⟨List.mem_cons_self, fun _ h => absurd h List.not_mem_nil⟩⟩⟩⟩)) ?_
                            have hl120 := low_step he115 hz118 (by omega)
                            have hl121 := low_bd hl120 (by omega) (by omega)
                            exact ih109 (ai + 1)  (by omega) (by omega) (hl120)
                          · refine xg_t (xg_ifT (u := z117) rfl xnm0 (xj_neT hc119)) ?_
                            refine xg_t (xg_blk (b := [(154, 2, 2, 4, 0, 0), (156, 1, 12, 0, 1, 0)]) rfl) ?_
                            refine xg_t (xg_iload (va := (0, ai)) rfl rfl) ?_
                            exact xg_e ⟨ai, w65, ⟨rfl, rfl⟩, by omega, hI66, hF67⟩
                      exact key108 _ 0  (Nat.lt_succ_self _) (by omega) (Nat.mod_one _)
                    · refine xg_t (xg_const) ?_
                      refine xg_t (xg_istore (l1 := [(0, (2, 82)), (1, (0, kk)), (3, (0, lf))]) rfl rfl rfl) ?_
                      refine xg_t (xg_drop (l1 := [(0, (2, 82)), (1, (0, kk)), (3, (0, lf)), (4, (0, 0))]) (List.forall_mem_cons.mpr ⟨List.mem_cons_of_mem _ (List.mem_cons_self), List.forall_mem_cons.mpr ⟨List.mem_cons_of_mem _ (List.mem_cons_of_mem _ (List.mem_cons_self)), List.forall_mem_cons.mpr ⟨List.mem_cons_of_mem _ (List.mem_cons_of_mem _ (List.mem_cons_of_mem _ (List.mem_cons_self))), List.forall_mem_cons.mpr ⟨List.mem_cons_self, fun _ h => absurd h List.not_mem_nil⟩⟩⟩⟩)) ?_
                      have key122 : ∀ (m124 : Nat) (ai : Nat), 32 - ai < m124 → ai ≤ 31 → ai ≤ 31 → xTo (d + 3) mX12_quarrel (139, [], [(0, (2, 82)), (1, (0, kk)), (3, (0, lf)), (4, (0, ai))], [], (w65, bd, fc, 0, 0, rr)) (fun φ => ∃ n w', xEnd 1 [(0, n)] (w', bd, fc, 0, 0, rr) φ ∧ (n ≤ 4294967295) ∧ xMnv w' ∧ xFr [111] w w') := by
                        intro m124
                        induction m124 with
                        | zero => intro ai hz; exact absurd hz (Nat.not_lt_zero _)
                        | succ m124 ih123 =>
                          intro ai hm130 hn128 he129
                          refine xg_t (xg_blk (b := [(139, 1, 2, 3, 0, 0), (140, 2, 2, 4, 0, 0), (142, 1, 29, 0, 0, 0), (143, 1, 3, 1, 0, 0), (144, 1, 30, 0, 0, 0), (145, 3, 7, 154, 1, 0), (148, 3, 9, 4, 1, 0), (151, 3, 8, 139, 0, 0)]) rfl) ?_
                          refine xg_t (xg_iload (va := (0, lf)) rfl rfl) ?_
                          refine xg_t (xg_iload (va := (0, ai)) rfl rfl) ?_
                          refine xg_t (xg_ishrG (u := lf) (v := ai) xnm0 xnm0) ?_
                          refine xg_t (xg_const) ?_
                          refine xg_t (xg_iand (u := xpt (nI lf >>> (nI ai &&& 31))) (v := 1) (z := Nat.land (xpt (nI lf >>> (nI ai &&& 31))) 1) xnm0 xnm0 rfl) ?_
                          have hz132 := fun h => neg_bit (L := lf) (a := ai) (by omega) (by omega) h
                          generalize Nat.land (xpt (nI lf >>> (nI ai &&& 31))) 1 = z131 at hz132 ⊢
                          by_cases hc133 : z131 = 0
                          · refine xg_t (xg_ifF (u := z131) rfl xnm0 (xj_neF hc133)) ?_
                            refine xg_t (xg_iinc (u := ai) (z := ai + 1) (l1 := [(0, (2, 82)), (1, (0, kk)), (3, (0, lf))]) rfl rfl (by omega) rfl) ?_
                            refine xg_t (xg_goto) ?_
                            refine xg_t (xg_drop (l1 := [(0, (2, 82)), (1, (0, kk)), (3, (0, lf)), (4, (0, ai + 1))]) (List.forall_mem_cons.mpr ⟨List.mem_cons_of_mem _ (List.mem_cons_self), List.forall_mem_cons.mpr ⟨List.mem_cons_of_mem _ (List.mem_cons_of_mem _ (List.mem_cons_self)), List.forall_mem_cons.mpr ⟨List.mem_cons_of_mem _ (List.mem_cons_of_mem _ (List.mem_cons_of_mem _ (List.mem_cons_self))), List.forall_mem_cons.mpr ⟨List.mem_cons_self, fun _ h => absurd h List.not_mem_nil⟩⟩⟩⟩)) ?_
                            exact ih123 (ai + 1)  (by omega) (by omega) (by omega)
                          · refine xg_t (xg_ifT (u := z131) rfl xnm0 (xj_neT hc133)) ?_
                            refine xg_t (xg_blk (b := [(154, 2, 2, 4, 0, 0), (156, 1, 12, 0, 1, 0)]) rfl) ?_
                            refine xg_t (xg_iload (va := (0, ai)) rfl rfl) ?_
                            exact xg_e ⟨ai, w65, ⟨rfl, rfl⟩, by omega, hI66, hF67⟩
                      exact key122 _ 0  (Nat.lt_succ_self _) (by omega) (by omega)
            exact key62 _ be 0 w55 (Nat.lt_succ_self _) (by omega) (by omega) (hI57) ((hF51.tr (hF58.up (by decide))))
          · refine xg_t (xg_icF (u := se) (v := n59) rfl xnm0 xnm0 (xj_gtF (by omega) (by omega))) ?_
            refine xg_t (xg_iload (va := (0, be)) rfl rfl) ?_
            by_cases hc134 : be < 2147483648
            · refine xg_t (xg_ifT (u := be) rfl xnm0 (xjz_geT hc134)) ?_
              refine xg_t (xg_blk (b := [(33, 1, 2, 3, 0, 0), (34, 1, 2, 2, 0, 0), (35, 1, 70, 0, 0, 0)]) rfl) ?_
              refine xg_t (xg_iload (va := (0, se)) rfl rfl) ?_
              refine xg_t (xg_iload (va := (0, be)) rfl rfl) ?_
              refine xg_k (xg_ixor (u := se) (v := be) xnm0 xnm0) (xpt_lt _) (fun z135 hz136 => ?_)
              refine xg_t (xg_blk (b := [(36, 2, 15, 4, 0, 0), (38, 1, 2, 2, 0, 0), (39, 3, 7, 75, 2, 0), (42, 1, 2, 3, 0, 0), (43, 3, 13, 200, 98, 379), (46, 1, 2, 2, 0, 0), (47, 3, 13, 200, 98, 379), (50, 3, 6, 75, 2, 0), (53, 1, 2, 3, 0, 0), (54, 3, 13, 200, 98, 379), (57, 1, 2, 2, 0, 0), (58, 3, 13, 200, 98, 379), (61, 3, 6, 79, 1, 0), (64, 1, 2, 3, 0, 0), (65, 2, 2, 4, 0, 0), (67, 1, 30, 0, 0, 0), (68, 2, 2, 4, 0, 0), (70, 1, 69, 0, 0, 0), (71, 1, 30, 0, 0, 0), (72, 3, 7, 79, 0, 0)]) rfl) ?_
              refine xg_t (xg_istore (l1 := [(0, (2, 82)), (1, (0, kk)), (2, (0, be)), (3, (0, se))]) rfl rfl rfl) ?_
              refine xg_t (xg_iload (va := (0, be)) rfl rfl) ?_
              refine xg_t (xg_ifF (u := be) rfl xnm0 (xj_ltF (by omega) (by omega))) ?_
              refine xg_t (xg_iload (va := (0, se)) rfl rfl) ?_
              refine xg_cSi mX12_ones (vs := [(0, se)]) (rest := []) (cn1 := 0) (sl1 := 0) rfl (mOnes (hI57) (by omega)) rfl rfl rfl rfl rfl rfl rfl (fun n141 w137 hq138 => ?_)
              obtain ⟨hn142, hI139, hF140⟩ := hq138
              refine xg_t (xg_iload (va := (0, be)) rfl rfl) ?_
              refine xg_cSi mX12_ones (vs := [(0, be)]) (rest := [(0, n141)]) (cn1 := 0) (sl1 := 0) rfl (mOnes (hI139) (by omega)) rfl rfl rfl rfl rfl rfl rfl (fun n147 w143 hq144 => ?_)
              obtain ⟨hn148, hI145, hF146⟩ := hq144
              by_cases hc149 : xbs n141 < xbs n147
              · have hc149u := hc149
                unfold xbs at hc149u
                refine xg_t (xg_icT (u := n141) (v := n147) rfl xnm0 xnm0 (xjs_ltT hc149)) ?_
                refine xg_t (xg_blk (b := [(75, 1, 3, 1, 0, 0), (76, 3, 8, 80, 0, 0)]) rfl) ?_
                refine xg_t (xg_const) ?_
                refine xg_t (xg_goto) ?_
                refine xg_t (xg_blk (b := [(80, 2, 15, 5, 0, 0), (82, 2, 2, 5, 0, 0), (84, 3, 7, 97, 0, 0), (87, 1, 0, 0, 0, 0), (88, 1, 2, 3, 0, 0), (89, 3, 13, 170, 96, 412), (92, 3, 7, 97, 0, 0), (95, 1, 2, 3, 0, 0), (96, 1, 15, 2, 0, 0)]) rfl) ?_
                refine xg_t (xg_istore (l1 := [(4, (0, z135)), (0, (2, 82)), (1, (0, kk)), (2, (0, be)), (3, (0, se))]) rfl rfl rfl) ?_
                refine xg_t (xg_iload (va := (0, 1)) rfl rfl) ?_
                refine xg_t (xg_ifF (u := 1) rfl xnm0 (by decide)) ?_
                refine xg_t (xg_aload (va := (2, 82)) rfl rfl) ?_
                refine xg_t (xg_iload (va := (0, se)) rfl rfl) ?_
                refine xg_cVi mX12_isQuarrel (vs := [(0, se)]) (rest := []) (cn1 := 0) (sl1 := 0) rfl (mIsQuarrel (hI145) (by omega)) rfl (hF146.get (by decide) (hF140.get (by decide) (hF58.get (by decide) (hF51.get (by decide) h82_31)))) rfl rfl rfl rfl rfl rfl (fun n154 w150 hq151 => ?_)
                obtain ⟨hn155, hI152, hF153⟩ := hq151
                by_cases hc156 : n154 = 0
                · refine xg_t (xg_ifT (u := n154) rfl xnm0 (xj_eqT hc156)) ?_
                  refine xg_t (xg_blk (b := [(97, 3, 9, 3, 1, 0), (100, 3, 8, 17, 0, 0)]) rfl) ?_
                  refine xg_t (xg_iinc (u := se) (z := se + 1) (l1 := [(5, (0, 1)), (4, (0, z135)), (0, (2, 82)), (1, (0, kk)), (2, (0, be))]) rfl rfl (by omega) rfl) ?_
                  refine xg_t (xg_goto) ?_
                  refine xg_t (xg_drop (l1 := [(0, (2, 82)), (1, (0, kk)), (2, (0, be)), (3, (0, se + 1))]) (List.forall_mem_cons.mpr ⟨List.mem_cons_of_mem _ (List.mem_cons_of_mem _ (List.mem_cons_of_mem _ (List.mem_cons_self))), List.forall_mem_cons.mpr ⟨List.mem_cons_of_mem _ (List.mem_cons_of_mem _ (List.mem_cons_of_mem _ (List.mem_cons_of_mem _ (List.mem_cons_self)))), List.forall_mem_cons.mpr ⟨List.mem_cons_of_mem _ (List.mem_cons_of_mem _ (List.mem_cons_of_mem _ (List.mem_cons_of_mem _ (List.mem_cons_of_mem _ (List.mem_cons_self))))), List.forall_mem_cons.mpr ⟨List.mem_cons_self, fun _ h => absurd h List.not_mem_nil⟩⟩⟩⟩)) ?_
                  exact ih47 be (se + 1) w150 (by omega) (by omega) (by omega) (hI152) (((((hF51.tr (hF58.up (by decide))).tr (hF140.up (by decide))).tr (hF146.up (by decide))).tr (hF153.up (by decide))))
                · refine xg_t (xg_ifF (u := n154) rfl xnm0 (xj_eqF hc156)) ?_
                  refine xg_t (xg_iload (va := (0, se)) rfl rfl) ?_
                  refine xg_t (xg_istore (l1 := [(5, (0, 1)), (4, (0, z135)), (0, (2, 82)), (1, (0, kk)), (3, (0, se))]) rfl rfl rfl) ?_
                  refine xg_t (xg_blk (b := [(97, 3, 9, 3, 1, 0), (100, 3, 8, 17, 0, 0)]) rfl) ?_
                  refine xg_t (xg_iinc (u := se) (z := se + 1) (l1 := [(2, (0, se)), (5, (0, 1)), (4, (0, z135)), (0, (2, 82)), (1, (0, kk))]) rfl rfl (by omega) rfl) ?_
                  refine xg_t (xg_goto) ?_
                  refine xg_t (xg_drop (l1 := [(0, (2, 82)), (1, (0, kk)), (2, (0, se)), (3, (0, se + 1))]) (List.forall_mem_cons.mpr ⟨List.mem_cons_of_mem _ (List.mem_cons_of_mem _ (List.mem_cons_of_mem _ (List.mem_cons_of_mem _ (List.mem_cons_self)))), List.forall_mem_cons.mpr ⟨List.mem_cons_of_mem _ (List.mem_cons_of_mem _ (List.mem_cons_of_mem _ (List.mem_cons_of_mem _ (List.mem_cons_of_mem _ (List.mem_cons_self))))), List.forall_mem_cons.mpr ⟨List.mem_cons_of_mem _ (List.mem_cons_self), List.forall_mem_cons.mpr ⟨List.mem_cons_self, fun _ h => absurd h List.not_mem_nil⟩⟩⟩⟩)) ?_
                  exact ih47 se (se + 1) w150 (by omega) (by omega) (by omega) (hI152) (((((hF51.tr (hF58.up (by decide))).tr (hF140.up (by decide))).tr (hF146.up (by decide))).tr (hF153.up (by decide))))
              · have hc149u := hc149
                unfold xbs at hc149u
                refine xg_t (xg_icF (u := n141) (v := n147) rfl xnm0 xnm0 (xjs_ltF hc149)) ?_
                refine xg_t (xg_iload (va := (0, se)) rfl rfl) ?_
                refine xg_cSi mX12_ones (vs := [(0, se)]) (rest := []) (cn1 := 0) (sl1 := 0) rfl (mOnes (hI145) (by omega)) rfl rfl rfl rfl rfl rfl rfl (fun n161 w157 hq158 => ?_)
                obtain ⟨hn162, hI159, hF160⟩ := hq158
                refine xg_t (xg_iload (va := (0, be)) rfl rfl) ?_
                refine xg_cSi mX12_ones (vs := [(0, be)]) (rest := [(0, n161)]) (cn1 := 0) (sl1 := 0) rfl (mOnes (hI159) (by omega)) rfl rfl rfl rfl rfl rfl rfl (fun n167 w163 hq164 => ?_)
                obtain ⟨hn168, hI165, hF166⟩ := hq164
                by_cases hc169 : n161 = n167
                · refine xg_t (xg_icF (u := n161) (v := n167) rfl xnm0 xnm0 (xj_neF hc169)) ?_
                  refine xg_t (xg_iload (va := (0, se)) rfl rfl) ?_
                  refine xg_t (xg_iload (va := (0, z135)) rfl rfl) ?_
                  refine xg_k (xg_iand (z := Nat.land se z135) (u := se) (v := z135) xnm0 xnm0 rfl) (xland_lt (by omega)) (fun z170 hz171 => ?_)
                  refine xg_t (xg_iload (va := (0, z135)) rfl rfl) ?_
                  refine xg_k (xg_ineg (u := z135) xnm0) (xpt_lt _) (fun z172 hz173 => ?_)
                  refine xg_k (xg_iand (z := Nat.land z170 z172) (u := z170) (v := z172) xnm0 xnm0 rfl) (xland_lt (by omega)) (fun z174 hz175 => ?_)
                  by_cases hc176 : z174 = 0
                  · refine xg_t (xg_ifT (u := z174) rfl xnm0 (xj_eqT hc176)) ?_
                    refine xg_t (xg_blk (b := [(79, 1, 3, 0, 0, 0)]) rfl) ?_
                    refine xg_t (xg_const) ?_
                    refine xg_t (xg_blk (b := [(80, 2, 15, 5, 0, 0), (82, 2, 2, 5, 0, 0), (84, 3, 7, 97, 0, 0), (87, 1, 0, 0, 0, 0), (88, 1, 2, 3, 0, 0), (89, 3, 13, 170, 96, 412), (92, 3, 7, 97, 0, 0), (95, 1, 2, 3, 0, 0), (96, 1, 15, 2, 0, 0)]) rfl) ?_
                    refine xg_t (xg_istore (l1 := [(4, (0, z135)), (0, (2, 82)), (1, (0, kk)), (2, (0, be)), (3, (0, se))]) rfl rfl rfl) ?_
                    refine xg_t (xg_iload (va := (0, 0)) rfl rfl) ?_
                    refine xg_t (xg_ifT (u := 0) rfl xnm0 (by decide)) ?_
                    refine xg_t (xg_blk (b := [(97, 3, 9, 3, 1, 0), (100, 3, 8, 17, 0, 0)]) rfl) ?_
                    refine xg_t (xg_iinc (u := se) (z := se + 1) (l1 := [(5, (0, 0)), (4, (0, z135)), (0, (2, 82)), (1, (0, kk)), (2, (0, be))]) rfl rfl (by omega) rfl) ?_
                    refine xg_t (xg_goto) ?_
                    refine xg_t (xg_drop (l1 := [(0, (2, 82)), (1, (0, kk)), (2, (0, be)), (3, (0, se + 1))]) (List.forall_mem_cons.mpr ⟨List.mem_cons_of_mem _ (List.mem_cons_of_mem _ (List.mem_cons_of_mem _ (List.mem_cons_self))), List.forall_mem_cons.mpr ⟨List.mem_cons_of_mem _ (List.mem_cons_of_mem _ (List.mem_cons_of_mem _ (List.mem_cons_of_mem _ (List.mem_cons_self)))), List.forall_mem_cons.mpr ⟨List.mem_cons_of_mem _ (List.mem_cons_of_mem _ (List.mem_cons_of_mem _ (List.mem_cons_of_mem _ (List.mem_cons_of_mem _ (List.mem_cons_self))))), List.forall_mem_cons.mpr ⟨List.mem_cons_self, fun _ h => absurd h List.not_mem_nil⟩⟩⟩⟩)) ?_
                    exact ih47 be (se + 1) w163 (by omega) (by omega) (by omega) (hI165) ((((((hF51.tr (hF58.up (by decide))).tr (hF140.up (by decide))).tr (hF146.up (by decide))).tr (hF160.up (by decide))).tr (hF166.up (by decide))))
                  · refine xg_t (xg_ifF (u := z174) rfl xnm0 (xj_eqF hc176)) ?_
                    refine xg_t (xg_blk (b := [(75, 1, 3, 1, 0, 0), (76, 3, 8, 80, 0, 0)]) rfl) ?_
                    refine xg_t (xg_const) ?_
                    refine xg_t (xg_goto) ?_
                    refine xg_t (xg_blk (b := [(80, 2, 15, 5, 0, 0), (82, 2, 2, 5, 0, 0), (84, 3, 7, 97, 0, 0), (87, 1, 0, 0, 0, 0), (88, 1, 2, 3, 0, 0), (89, 3, 13, 170, 96, 412), (92, 3, 7, 97, 0, 0), (95, 1, 2, 3, 0, 0), (96, 1, 15, 2, 0, 0)]) rfl) ?_
                    refine xg_t (xg_istore (l1 := [(4, (0, z135)), (0, (2, 82)), (1, (0, kk)), (2, (0, be)), (3, (0, se))]) rfl rfl rfl) ?_
                    refine xg_t (xg_iload (va := (0, 1)) rfl rfl) ?_
                    refine xg_t (xg_ifF (u := 1) rfl xnm0 (by decide)) ?_
                    refine xg_t (xg_aload (va := (2, 82)) rfl rfl) ?_
                    refine xg_t (xg_iload (va := (0, se)) rfl rfl) ?_
                    refine xg_cVi mX12_isQuarrel (vs := [(0, se)]) (rest := []) (cn1 := 0) (sl1 := 0) rfl (mIsQuarrel (hI165) (by omega)) rfl (hF166.get (by decide) (hF160.get (by decide) (hF146.get (by decide) (hF140.get (by decide) (hF58.get (by decide) (hF51.get (by decide) h82_31)))))) rfl rfl rfl rfl rfl rfl (fun n181 w177 hq178 => ?_)
                    obtain ⟨hn182, hI179, hF180⟩ := hq178
                    by_cases hc183 : n181 = 0
                    · refine xg_t (xg_ifT (u := n181) rfl xnm0 (xj_eqT hc183)) ?_
                      refine xg_t (xg_blk (b := [(97, 3, 9, 3, 1, 0), (100, 3, 8, 17, 0, 0)]) rfl) ?_
                      refine xg_t (xg_iinc (u := se) (z := se + 1) (l1 := [(5, (0, 1)), (4, (0, z135)), (0, (2, 82)), (1, (0, kk)), (2, (0, be))]) rfl rfl (by omega) rfl) ?_
                      refine xg_t (xg_goto) ?_
                      refine xg_t (xg_drop (l1 := [(0, (2, 82)), (1, (0, kk)), (2, (0, be)), (3, (0, se + 1))]) (List.forall_mem_cons.mpr ⟨List.mem_cons_of_mem _ (List.mem_cons_of_mem _ (List.mem_cons_of_mem _ (List.mem_cons_self))), List.forall_mem_cons.mpr ⟨List.mem_cons_of_mem _ (List.mem_cons_of_mem _ (List.mem_cons_of_mem _ (List.mem_cons_of_mem _ (List.mem_cons_self)))), List.forall_mem_cons.mpr ⟨List.mem_cons_of_mem _ (List.mem_cons_of_mem _ (List.mem_cons_of_mem _ (List.mem_cons_of_mem _ (List.mem_cons_of_mem _ (List.mem_cons_self))))), List.forall_mem_cons.mpr ⟨List.mem_cons_self, fun _ h => absurd h List.not_mem_nil⟩⟩⟩⟩)) ?_
                      exact ih47 be (se + 1) w177 (by omega) (by omega) (by omega) (hI179) (((((((hF51.tr (hF58.up (by decide))).tr (hF140.up (by decide))).tr (hF146.up (by decide))).tr (hF160.up (by decide))).tr (hF166.up (by decide))).tr (hF180.up (by decide))))
                    · refine xg_t (xg_ifF (u := n181) rfl xnm0 (xj_eqF hc183)) ?_
                      refine xg_t (xg_iload (va := (0, se)) rfl rfl) ?_
                      refine xg_t (xg_istore (l1 := [(5, (0, 1)), (4, (0, z135)), (0, (2, 82)), (1, (0, kk)), (3, (0, se))]) rfl rfl rfl) ?_
                      refine xg_t (xg_blk (b := [(97, 3, 9, 3, 1, 0), (100, 3, 8, 17, 0, 0)]) rfl) ?_
                      refine xg_t (xg_iinc (u := se) (z := se + 1) (l1 := [(2, (0, se)), (5, (0, 1)), (4, (0, z135)), (0, (2, 82)), (1, (0, kk))]) rfl rfl (by omega) rfl) ?_
                      refine xg_t (xg_goto) ?_
                      refine xg_t (xg_drop (l1 := [(0, (2, 82)), (1, (0, kk)), (2, (0, se)), (3, (0, se + 1))]) (List.forall_mem_cons.mpr ⟨List.mem_cons_of_mem _ (List.mem_cons_of_mem _ (List.mem_cons_of_mem _ (List.mem_cons_of_mem _ (List.mem_cons_self)))), List.forall_mem_cons.mpr ⟨List.mem_cons_of_mem _ (List.mem_cons_of_mem _ (List.mem_cons_of_mem _ (List.mem_cons_of_mem _ (List.mem_cons_of_mem _ (List.mem_cons_self))))), List.forall_mem_cons.mpr ⟨List.mem_cons_of_mem _ (List.mem_cons_self), List.forall_mem_cons.mpr ⟨List.mem_cons_self, fun _ h => absurd h List.not_mem_nil⟩⟩⟩⟩)) ?_
                      exact ih47 se (se + 1) w177 (by omega) (by omega) (by omega) (hI179) (((((((hF51.tr (hF58.up (by decide))).tr (hF140.up (by decide))).tr (hF146.up (by decide))).tr (hF160.up (by decide))).tr (hF166.up (by decide))).tr (hF180.up (by decide))))
                · refine xg_t (xg_icT (u := n161) (v := n167) rfl xnm0 xnm0 (xj_neT hc169)) ?_
                  refine xg_t (xg_blk (b := [(79, 1, 3, 0, 0, 0)]) rfl) ?_
                  refine xg_t (xg_const) ?_
                  refine xg_t (xg_blk (b := [(80, 2, 15, 5, 0, 0), (82, 2, 2, 5, 0, 0), (84, 3, 7, 97, 0, 0), (87, 1, 0, 0, 0, 0), (88, 1, 2, 3, 0, 0), (89, 3, 13, 170, 96, 412), (92, 3, 7, 97, 0, 0), (95, 1, 2, 3, 0, 0), (96, 1, 15, 2, 0, 0)]) rfl) ?_
                  refine xg_t (xg_istore (l1 := [(4, (0, z135)), (0, (2, 82)), (1, (0, kk)), (2, (0, be)), (3, (0, se))]) rfl rfl rfl) ?_
                  refine xg_t (xg_iload (va := (0, 0)) rfl rfl) ?_
                  refine xg_t (xg_ifT (u := 0) rfl xnm0 (by decide)) ?_
                  refine xg_t (xg_blk (b := [(97, 3, 9, 3, 1, 0), (100, 3, 8, 17, 0, 0)]) rfl) ?_
                  refine xg_t (xg_iinc (u := se) (z := se + 1) (l1 := [(5, (0, 0)), (4, (0, z135)), (0, (2, 82)), (1, (0, kk)), (2, (0, be))]) rfl rfl (by omega) rfl) ?_
                  refine xg_t (xg_goto) ?_
                  refine xg_t (xg_drop (l1 := [(0, (2, 82)), (1, (0, kk)), (2, (0, be)), (3, (0, se + 1))]) (List.forall_mem_cons.mpr ⟨List.mem_cons_of_mem _ (List.mem_cons_of_mem _ (List.mem_cons_of_mem _ (List.mem_cons_self))), List.forall_mem_cons.mpr ⟨List.mem_cons_of_mem _ (List.mem_cons_of_mem _ (List.mem_cons_of_mem _ (List.mem_cons_of_mem _ (List.mem_cons_self)))), List.forall_mem_cons.mpr ⟨List.mem_cons_of_mem _ (List.mem_cons_of_mem _ (List.mem_cons_of_mem _ (List.mem_cons_of_mem _ (List.mem_cons_of_mem _ (List.mem_cons_self))))), List.forall_mem_cons.mpr ⟨List.mem_cons_self, fun _ h => absurd h List.not_mem_nil⟩⟩⟩⟩)) ?_
                  exact ih47 be (se + 1) w163 (by omega) (by omega) (by omega) (hI165) ((((((hF51.tr (hF58.up (by decide))).tr (hF140.up (by decide))).tr (hF146.up (by decide))).tr (hF160.up (by decide))).tr (hF166.up (by decide))))
            · refine xg_t (xg_ifF (u := be) rfl xnm0 (xjz_geF (by omega) (by omega))) ?_
              refine xg_t (xg_const) ?_
              refine xg_t (xg_goto) ?_
              refine xg_t (xg_blk (b := [(36, 2, 15, 4, 0, 0), (38, 1, 2, 2, 0, 0), (39, 3, 7, 75, 2, 0), (42, 1, 2, 3, 0, 0), (43, 3, 13, 200, 98, 379), (46, 1, 2, 2, 0, 0), (47, 3, 13, 200, 98, 379), (50, 3, 6, 75, 2, 0), (53, 1, 2, 3, 0, 0), (54, 3, 13, 200, 98, 379), (57, 1, 2, 2, 0, 0), (58, 3, 13, 200, 98, 379), (61, 3, 6, 79, 1, 0), (64, 1, 2, 3, 0, 0), (65, 2, 2, 4, 0, 0), (67, 1, 30, 0, 0, 0), (68, 2, 2, 4, 0, 0), (70, 1, 69, 0, 0, 0), (71, 1, 30, 0, 0, 0), (72, 3, 7, 79, 0, 0)]) rfl) ?_
              refine xg_t (xg_istore (l1 := [(0, (2, 82)), (1, (0, kk)), (2, (0, be)), (3, (0, se))]) rfl rfl rfl) ?_
              refine xg_t (xg_iload (va := (0, be)) rfl rfl) ?_
              refine xg_t (xg_ifT (u := be) rfl xnm0 (xjz_ltT (by omega) (by omega))) ?_
              refine xg_t (xg_blk (b := [(75, 1, 3, 1, 0, 0), (76, 3, 8, 80, 0, 0)]) rfl) ?_
              refine xg_t (xg_const) ?_
              refine xg_t (xg_goto) ?_
              refine xg_t (xg_blk (b := [(80, 2, 15, 5, 0, 0), (82, 2, 2, 5, 0, 0), (84, 3, 7, 97, 0, 0), (87, 1, 0, 0, 0, 0), (88, 1, 2, 3, 0, 0), (89, 3, 13, 170, 96, 412), (92, 3, 7, 97, 0, 0), (95, 1, 2, 3, 0, 0), (96, 1, 15, 2, 0, 0)]) rfl) ?_
              refine xg_t (xg_istore (l1 := [(4, (0, 0)), (0, (2, 82)), (1, (0, kk)), (2, (0, be)), (3, (0, se))]) rfl rfl rfl) ?_
              refine xg_t (xg_iload (va := (0, 1)) rfl rfl) ?_
              refine xg_t (xg_ifF (u := 1) rfl xnm0 (by decide)) ?_
              refine xg_t (xg_aload (va := (2, 82)) rfl rfl) ?_
              refine xg_t (xg_iload (va := (0, se)) rfl rfl) ?_
              refine xg_cVi mX12_isQuarrel (vs := [(0, se)]) (rest := []) (cn1 := 0) (sl1 := 0) rfl (mIsQuarrel (hI57) (by omega)) rfl (hF58.get (by decide) (hF51.get (by decide) h82_31)) rfl rfl rfl rfl rfl rfl (fun n188 w184 hq185 => ?_)
              obtain ⟨hn189, hI186, hF187⟩ := hq185
              by_cases hc190 : n188 = 0
              · refine xg_t (xg_ifT (u := n188) rfl xnm0 (xj_eqT hc190)) ?_
                refine xg_t (xg_blk (b := [(97, 3, 9, 3, 1, 0), (100, 3, 8, 17, 0, 0)]) rfl) ?_
                refine xg_t (xg_iinc (u := se) (z := se + 1) (l1 := [(5, (0, 1)), (4, (0, 0)), (0, (2, 82)), (1, (0, kk)), (2, (0, be))]) rfl rfl (by omega) rfl) ?_
                refine xg_t (xg_goto) ?_
                refine xg_t (xg_drop (l1 := [(0, (2, 82)), (1, (0, kk)), (2, (0, be)), (3, (0, se + 1))]) (List.forall_mem_cons.mpr ⟨List.mem_cons_of_mem _ (List.mem_cons_of_mem _ (List.mem_cons_of_mem _ (List.mem_cons_self))), List.forall_mem_cons.mpr ⟨List.mem_cons_of_mem _ (List.mem_cons_of_mem _ (List.mem_cons_of_mem _ (List.mem_cons_of_mem _ (List.mem_cons_self)))), List.forall_mem_cons.mpr ⟨List.mem_cons_of_mem _ (List.mem_cons_of_mem _ (List.mem_cons_of_mem _ (List.mem_cons_of_mem _ (List.mem_cons_of_mem _ (List.mem_cons_self))))), List.forall_mem_cons.mpr ⟨List.mem_cons_self, fun _ h => absurd h List.not_mem_nil⟩⟩⟩⟩)) ?_
                exact ih47 be (se + 1) w184 (by omega) (by omega) (by omega) (hI186) (((hF51.tr (hF58.up (by decide))).tr (hF187.up (by decide))))
              · refine xg_t (xg_ifF (u := n188) rfl xnm0 (xj_eqF hc190)) ?_
                refine xg_t (xg_iload (va := (0, se)) rfl rfl) ?_
                refine xg_t (xg_istore (l1 := [(5, (0, 1)), (4, (0, 0)), (0, (2, 82)), (1, (0, kk)), (3, (0, se))]) rfl rfl rfl) ?_
                refine xg_t (xg_blk (b := [(97, 3, 9, 3, 1, 0), (100, 3, 8, 17, 0, 0)]) rfl) ?_
                refine xg_t (xg_iinc (u := se) (z := se + 1) (l1 := [(2, (0, se)), (5, (0, 1)), (4, (0, 0)), (0, (2, 82)), (1, (0, kk))]) rfl rfl (by omega) rfl) ?_
                refine xg_t (xg_goto) ?_
                refine xg_t (xg_drop (l1 := [(0, (2, 82)), (1, (0, kk)), (2, (0, se)), (3, (0, se + 1))]) (List.forall_mem_cons.mpr ⟨List.mem_cons_of_mem _ (List.mem_cons_of_mem _ (List.mem_cons_of_mem _ (List.mem_cons_of_mem _ (List.mem_cons_self)))), List.forall_mem_cons.mpr ⟨List.mem_cons_of_mem _ (List.mem_cons_of_mem _ (List.mem_cons_of_mem _ (List.mem_cons_of_mem _ (List.mem_cons_of_mem _ (List.mem_cons_self))))), List.forall_mem_cons.mpr ⟨List.mem_cons_of_mem _ (List.mem_cons_self), List.forall_mem_cons.mpr ⟨List.mem_cons_self, fun _ h => absurd h List.not_mem_nil⟩⟩⟩⟩)) ?_
                exact ih47 se (se + 1) w184 (by omega) (by omega) (by omega) (hI186) (((hF51.tr (hF58.up (by decide))).tr (hF187.up (by decide))))
      exact key46 _ 4294967295 1 w38 (Nat.lt_succ_self _) (by omega) (by omega) (hI40) ((hF41.up (by decide)))
  · refine xg_t (xg_ifT (u := kk) rfl xnm0 (xjz_ltT (by omega) (by omega))) ?_
    refine xg_t (xg_blk (b := [(11, 1, 3, 4294967295, 0, 0), (12, 1, 12, 0, 1, 0)]) rfl) ?_
    refine xg_t (xg_const) ?_
    exact xg_e ⟨4294967295, w, ⟨rfl, rfl⟩, by omega, hI, xFr.rf⟩
end XMG
