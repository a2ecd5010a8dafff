section
/-! the model: layers laid -/
theorem xMnv.lay {w : List (List xE)} (hI : xMnv w) {k i : Nat} (hk : k < rwv w 83 0) (hi : i < 3) : 1 ≤ rwv w 83 (20 + (4 * k + i)) ∧ rwv w 83 (20 + (4 * k + i)) ≤ 99 := by
  refine xoX83 (hI 83 (by decide) (by decide) : cpx83 (wget w 83)) (fun f h hb hx => ?_)
  rw [rwv_of (j := 0) h (by decide)] at hk
  have l := hx.l0
  have q := hx.lay hk hi
  rw [rwv_of (j := 20 + (4 * k + i)) h (by omega), ← Nat.add_assoc]
  exact q
theorem xMnv.l0 {w : List (List xE)} (hI : xMnv w) : rwv w 83 0 ≤ 6 := by
  refine xoX83 (hI 83 (by decide) (by decide) : cpx83 (wget w 83)) (fun f h hb hx => ?_)
  rw [rwv_of (j := 0) h (by decide)]
  exact hx.l0
section XBM
variable {d : Nat} {w : List (List xE)} {bd : List (Nat × Nat)} {fc : List (Nat × Nat × Bool)} {rr : Nat × Nat}
theorem mLayerOfX {pp wh : Nat} (hI : xMnv w) (hpp : pp ≤ 5) (hwh : wh ≤ 3) : xPi d mX12_layerOf [(2, 82), (0, pp), (0, wh)] w bd fc rr (fun n w' => (n = rwv w 83 (20 + 4 * rwv w 88 pp + wh)) ∧ xMnv w' ∧ xFr [] w w') := by
  refine xPi.of ?_
  show xTo d mX12_layerOf (0, [], [(0, (2, 82)), (1, (0, pp)), (2, (0, wh))], [], (w, bd, fc, 0, 0, rr)) (fun φ => ∃ n w', xEnd 1 [(0, n)] (w', bd, fc, 0, 0, rr) φ ∧ (n = rwv w 83 (20 + 4 * rwv w 88 pp + wh)) ∧ xMnv w' ∧ xFr [] w w')
  refine xoCh82 (hI 82 (by decide) (by decide) : cp82 (wget w 82)) (fun f82_1 f82_3 f82_5 f82_7 f82_9 f82_11 f82_13 f82_15 f82_17 f82_19 f82_21 f82_22 f82_23 f82_25 f82_27 f82_29 h82_31 hb2 hb4 hb6 hb8 hb10 hb12 hb14 hb16 hb18 hb20 hb24 hb26 hb28 hb30 hb32 => ?_)
  refine xoX83 (hI 83 (by decide) (by decide) : cpx83 (wget w 83)) (fun g83_33 h83_34 hb35 hx36 => ?_)
  refine xoI (hI 88 (by decide) (by decide) : cpI 6 55 5 (wget w 88)) (fun g88_37 h88_38 hb39 => ?_)
  refine xg_t (xg_blk (b := [(0, 1, 0, 0, 0, 0), (1, 3, 1, 12, 0, 7), (4, 2, 4, 20, 0, 0), (6, 1, 3, 4, 0, 0), (7, 1, 0, 0, 0, 0), (8, 3, 1, 12, 15, 26), (11, 1, 2, 1, 0, 0), (12, 1, 10, 0, 0, 0), (13, 1, 16, 0, 0, 0), (14, 1, 11, 0, 0, 0), (15, 1, 2, 2, 0, 0), (16, 1, 11, 0, 0, 0), (17, 1, 10, 0, 0, 0), (18, 1, 12, 0, 1, 0)]) rfl) ?_
  refine xg_t (xg_aload (va := (2, 82)) rfl rfl) ?_
  refine xg_t (xg_getf (va := (2, 83)) h82_31 rfl) ?_
  refine xg_t (xg_bip) ?_
  refine xg_t (xg_const) ?_
  refine xg_t (xg_aload (va := (2, 82)) rfl rfl) ?_
  refine xg_t (xg_getf (va := (2, 88)) h82_31 rfl) ?_
  refine xg_t (xg_iload (va := (0, pp)) rfl rfl) ?_
  refine xg_ialdB (n := pp) (B := 5) h88_38 (hb39) xnm0 (by omega) (fun u40 hu41 he42 => ?_)
  refine xg_t (xg_imul (u := 4) (v := u40) (z := 4 * u40) xnm0 xnm0 (by omega)) ?_
  refine xg_t (xg_iadd (u := 20) (v := 4 * u40) (z := 20 + (4 * u40)) xnm0 xnm0 (by omega)) ?_
  refine xg_t (xg_iload (va := (0, wh)) rfl rfl) ?_
  refine xg_t (xg_iadd (u := 20 + (4 * u40)) (v := wh) (z := (20 + (4 * u40)) + wh) xnm0 xnm0 (by omega)) ?_
  refine xg_ialdB (n := (20 + (4 * u40)) + wh) (B := 4294967295) h83_34 (hb35) xnm0 (by omega) (fun u43 hu44 he45 => ?_)
  have hq46 : rwv w 88 pp = u40 := (rwv_of h88_38 (by omega)).trans he42
  have hq47 : u43 = rwv w 83 (20 + 4 * rwv w 88 pp + wh) := by
    rw [hq46, rwv_of (j := 20 + 4 * u40 + wh) h83_34 (by omega)]
    exact he45.symm
  exact xg_e ⟨u43, w, ⟨rfl, rfl⟩, hq47, hI, xFr.rf⟩
theorem mSize0X {vv : Nat} (hI : xMnv w)  : xPj d mX12_size0 [(4, vv)] w bd fc rr (fun n w' => (lN n = iab (lN vv)) ∧ xMnv w' ∧ xFr [] w w') := by
  refine xPj.of ?_
  show xTo d mX12_size0 (0, [], [(0, (4, vv))], [], (w, bd, fc, 0, 0, rr)) (fun φ => ∃ n w', xEnd 2 [(4, n)] (w', bd, fc, 0, 0, rr) φ ∧ (lN n = iab (lN vv)) ∧ xMnv w' ∧ xFr [] w w')
  refine xg_t (xg_blk (b := [(0, 1, 53, 0, 0, 0), (1, 1, 51, 0, 0, 0), (2, 1, 57, 0, 0, 0), (3, 3, 7, 11, 3, 0), (6, 1, 53, 0, 0, 0), (7, 1, 68, 0, 0, 0), (8, 3, 8, 12, 0, 0)]) rfl) ?_
  refine xg_t (xg_lload (u := vv) rfl) ?_
  refine xg_t (xg_lconst) ?_
  refine xg_t (xg_lcmp (u := vv) (v := 0)) ?_
  by_cases hc1 : lN vv < lN 0
  · refine xg_t (xg_ifF (u := xpt (lg_cmp (lN vv) (lN 0))) rfl xnm0 (xlj_geF hc1)) ?_
    refine xg_t (xg_lload (u := vv) rfl) ?_
    refine xg_klE (xg_lneg (u := vv)) (fun l2 hz3 => ?_)
    refine xg_t (xg_goto) ?_
    refine xg_t (xg_blk (b := [(12, 1, 12, 0, 2, 0)]) rfl) ?_
    exact xg_e ⟨l2, w, ⟨rfl, rfl⟩, hz3.trans (iab_neg hc1).symm, hI, xFr.rf⟩
  · refine xg_t (xg_ifT (u := xpt (lg_cmp (lN vv) (lN 0))) rfl xnm0 (xlj_geT hc1)) ?_
    refine xg_t (xg_blk (b := [(11, 1, 53, 0, 0, 0)]) rfl) ?_
    refine xg_t (xg_lload (u := vv) rfl) ?_
    refine xg_t (xg_blk (b := [(12, 1, 12, 0, 2, 0)]) rfl) ?_
    exact xg_e ⟨vv, w, ⟨rfl, rfl⟩, (iab_nn hc1).symm, hI, xFr.rf⟩
set_option maxHeartbeats 60000000 in
theorem mBlocksX (hI : xMnv w) (hb : ∀ q, q < rwv w 83 0 → rwv w 88 q < rwv w 83 0) : xPq (d + 1) mX12_blocks [(2, 82)] w bd fc rr [] (fun w' => xMnv w' ∧ xFr [90, 91, 92, 93, 94] w w' ∧ (∀ q, q < rwv w 83 0 → rwv w' 91 q = bfs (fun j => rwv w 83 (20 + j)) q ∧ rwv w' 90 q = bhg (fun j => rwv w 83 (20 + j)) (rwv w 88) q ∧ rwk w' 92 q = bO (fun j => rwv w 83 (20 + j)) (rwv w 88) (rwv w 83 0) q ∧ rwk w' 93 q = bU (fun j => rwv w 83 (20 + j)) (rwv w 88) (rwv w 83 0) q ∧ lN (rwk w' 94 q) = bfr (fun j => rwv w 83 (20 + j)) (rwv w 88) (rwv w 83 0) q)) := by
  refine xPq.of ?_
  show xTo (d + 1) mX12_blocks (0, [], [(0, (2, 82))], [], (w, bd, fc, 0, 0, rr)) (fun φ => ∃ w', xEnd 0 [] (w', bd, fc, 0, 0, rr) φ ∧ xMnv w' ∧ xFr [90, 91, 92, 93, 94] w w' ∧ (∀ q, q < rwv w 83 0 → rwv w' 91 q = bfs (fun j => rwv w 83 (20 + j)) q ∧ rwv w' 90 q = bhg (fun j => rwv w 83 (20 + j)) (rwv w 88) q ∧ rwk w' 92 q = bO (fun j => rwv w 83 (20 + j)) (rwv w 88) (rwv w 83 0) q ∧ rwk w' 93 q = bU (fun j => rwv w 83 (20 + j)) (rwv w 88) (rwv w 83 0) q ∧ lN (rwk w' 94 q) = bfr (fun j => rwv w 83 (20 + j)) (rwv w 88) (rwv w 83 0) q))
  refine xoCh82 (hI 82 (by decide) (by decide) : cp82 (wget w 82)) (fun f82_1 f82_3 f82_5 f82_7 f82_9 f82_11 f82_13 f82_15 f82_17 f82_19 f82_21 f82_22 f82_23 f82_25 f82_27 f82_29 h82_31 hb2 hb4 hb6 hb8 hb10 hb12 hb14 hb16 hb18 hb20 hb24 hb26 hb28 hb30 hb32 => ?_)
  refine xoX83 (hI 83 (by decide) (by decide) : cpx83 (wget w 83)) (fun g83_33 h83_34 hb35 hx36 => ?_)
  refine xoI (hI 88 (by decide) (by decide) : cpI 6 55 5 (wget w 88)) (fun g88_37 h88_38 hb39 => ?_)
  have hl0 := xMnv.l0 hI
  refine xg_t (xg_blk (b := [(0, 1, 3, 0, 0, 0), (1, 1, 15, 1, 0, 0), (2, 1, 3, 0, 0, 0), (3, 1, 15, 2, 0, 0)]) rfl) ?_
  refine xg_t (xg_const) ?_
  refine xg_t (xg_istore (l1 := [(0, (2, 82))]) rfl rfl rfl) ?_
  refine xg_t (xg_const) ?_
  refine xg_t (xg_istore (l1 := [(1, (0, 0)), (0, (2, 82))]) rfl rfl rfl) ?_
  refine xg_t (xg_drop (l1 := [(0, (2, 82)), (1, (0, 0)), (2, (0, 0))]) (List.forall_mem_cons.mpr ⟨List.mem_cons_of_mem _ (List.mem_cons_of_mem _ (List.mem_cons_self)), List.forall_mem_cons.mpr ⟨List.mem_cons_of_mem _ (List.mem_cons_self), List.forall_mem_cons.mpr ⟨List.mem_cons_self, fun _ h => absurd h List.not_mem_nil⟩⟩⟩)) ?_
  have key40 : ∀ (m42 : Nat) (hh pi_ : Nat) (w43 : List (List xE)), 6 - pi_ < m42 → hh ≤ 594 → pi_ ≤ 6 → xMnv w43 → xFr [90, 91, 92, 93, 94] w w43 → (∀ q, q < pi_ → rwv w43 91 q = bfs (fun j => rwv w 83 (20 + j)) q ∧ rwv w43 90 q = bhg (fun j => rwv w 83 (20 + j)) (rwv w 88) q ∧ rwk w43 92 (bfs (fun j => rwv w 83 (20 + j)) q) = bA (fun j => rwv w 83 (20 + j)) (bt1 (fun j => rwv w 83 (20 + j)) (rwv w 88)) pi_ (bfs (fun j => rwv w 83 (20 + j)) q) ∧ rwk w43 93 (bfs (fun j => rwv w 83 (20 + j)) q) = bA (fun j => rwv w 83 (20 + j)) (bt2 (fun j => rwv w 83 (20 + j)) (rwv w 88)) pi_ (bfs (fun j => rwv w 83 (20 + j)) q)) ∧ (hh = bhg (fun j => rwv w 83 (20 + j)) (rwv w 88) pi_ ∧ hh ≤ 99 * pi_) ∧ pi_ ≤ (rwv w 83 0) → xTo (d + 1) mX12_blocks (4, [], [(0, (2, 82)), (1, (0, hh)), (2, (0, pi_))], [], (w43, bd, fc, 0, 0, rr)) (fun φ => ∃ w', xEnd 0 [] (w', bd, fc, 0, 0, rr) φ ∧ xMnv w' ∧ xFr [90, 91, 92, 93, 94] w w' ∧ (∀ q, q < rwv w 83 0 → rwv w' 91 q = bfs (fun j => rwv w 83 (20 + j)) q ∧ rwv w' 90 q = bhg (fun j => rwv w 83 (20 + j)) (rwv w 88) q ∧ rwk w' 92 q = bO (fun j => rwv w 83 (20 + j)) (rwv w 88) (rwv w 83 0) q ∧ rwk w' 93 q = bU (fun j => rwv w 83 (20 + j)) (rwv w 88) (rwv w 83 0) q ∧ lN (rwk w' 94 q) = bfr (fun j => rwv w 83 (20 + j)) (rwv w 88) (rwv w 83 0) q)) := by
    intro m42
    induction m42 with
    | zero => intro hh pi_ w43 hz; exact absurd hz (Nat.not_lt_zero _)
    | succ m42 ih41 =>
      intro hh pi_ w43 hm49 hn46 hn47 hI44 hF45 he48
      obtain ⟨hq50, ⟨hh51, hl52⟩, hn53⟩ := he48
      refine xoI (hI44 90 (by decide) (by decide) : cpI 6 57 4294967295 (wget w43 90)) (fun g90_54 h90_55 hb56 => ?_)
      refine xoI (hI44 91 (by decide) (by decide) : cpI 6 58 5 (wget w43 91)) (fun g91_57 h91_58 hb59 => ?_)
      obtain ⟨g92_60, h92_61⟩ := (hI44 92 (by decide) (by decide) : cpJ 6 59 (wget w43 92))
      have h92_61 : xRk 3 4 w43 92 6 59 g92_60 := h92_61
      obtain ⟨g93_63, h93_64⟩ := (hI44 93 (by decide) (by decide) : cpJ 6 60 (wget w43 93))
      have h93_64 : xRk 3 4 w43 93 6 60 g93_63 := h93_64
      refine xg_t (xg_blk (b := [(4, 1, 2, 2, 0, 0), (5, 1, 0, 0, 0, 0), (6, 3, 1, 12, 0, 7), (9, 1, 3, 0, 0, 0), (10, 1, 10, 0, 0, 0), (11, 3, 6, 174, 3, 0), (14, 1, 2, 2, 0, 0), (15, 3, 7, 37, 0, 0), (18, 1, 0, 0, 0, 0), (19, 3, 1, 12, 0, 7), (22, 2, 4, 20, 0, 0), (24, 1, 3, 4, 0, 0), (25, 1, 2, 2, 0, 0), (26, 1, 3, 1, 0, 0), (27, 1, 18, 0, 0, 0), (28, 1, 16, 0, 0, 0), (29, 1, 11, 0, 0, 0), (30, 1, 3, 3, 0, 0), (31, 1, 11, 0, 0, 0), (32, 1, 10, 0, 0, 0), (33, 1, 3, 1, 0, 0), (34, 3, 6, 41, 1, 0)]) rfl) ?_
      refine xg_t (xg_iload (va := (0, pi_)) rfl rfl) ?_
      refine xg_t (xg_aload (va := (2, 82)) rfl rfl) ?_
      refine xg_t (xg_getf (va := (2, 83)) (hF45.get (by decide) h82_31) rfl) ?_
      refine xg_t (xg_const) ?_
      refine xg_ialdB (n := 0) (B := 4294967295) (h83_34.fr hF45 (by decide)) (hb35) xnm0 (by first | decide | omega) (fun u66 hu67 he68 => ?_)
      have hl69 : u66 ≤ 6 := by rw [← he68]; exact hx36.l0
      have hq70 : rwv w 83 0 = u66 := (rwv_of h83_34 (by omega)).trans he68
      by_cases hc71 : pi_ < u66
      · refine xg_t (xg_icF (u := pi_) (v := u66) rfl xnm0 xnm0 (xj_geF hc71 (by omega))) ?_
        refine xg_t (xg_iload (va := (0, pi_)) rfl rfl) ?_
        by_cases hc72 : pi_ = 0
        · refine xg_t (xg_ifT (u := pi_) rfl xnm0 (xj_eqT hc72)) ?_
          refine xg_t (xg_blk (b := [(37, 1, 3, 1, 0, 0), (38, 3, 8, 42, 0, 0)]) rfl) ?_
          refine xg_t (xg_const) ?_
          refine xg_t (xg_goto) ?_
          refine xg_t (xg_blk (b := [(42, 1, 15, 3, 0, 0), (43, 1, 0, 0, 0, 0), (44, 3, 1, 12, 18, 35), (47, 1, 2, 2, 0, 0), (48, 1, 2, 3, 0, 0), (49, 3, 7, 56, 0, 0), (52, 1, 2, 2, 0, 0), (53, 3, 8, 64, 0, 0)]) rfl) ?_
          refine xg_t (xg_istore (l1 := [(0, (2, 82)), (1, (0, hh)), (2, (0, pi_))]) rfl rfl rfl) ?_
          refine xg_t (xg_aload (va := (2, 82)) rfl rfl) ?_
          refine xg_t (xg_getf (va := (2, 91)) (hF45.get (by decide) h82_31) rfl) ?_
          refine xg_t (xg_iload (va := (0, pi_)) rfl rfl) ?_
          refine xg_t (xg_iload (va := (0, 1)) rfl rfl) ?_
          refine xg_t (xg_ifF (u := 1) rfl xnm0 (by decide)) ?_
          refine xg_t (xg_iload (va := (0, pi_)) rfl rfl) ?_
          refine xg_t (xg_goto) ?_
          refine xg_t (xg_blk (b := [(64, 1, 17, 0, 0, 0), (65, 1, 0, 0, 0, 0), (66, 3, 1, 12, 17, 32), (69, 1, 2, 2, 0, 0), (70, 1, 2, 1, 0, 0), (71, 1, 17, 0, 0, 0), (72, 1, 2, 1, 0, 0), (73, 1, 0, 0, 0, 0), (74, 1, 2, 2, 0, 0), (75, 1, 3, 0, 0, 0), (76, 3, 13, 181, 96, 222), (79, 1, 11, 0, 0, 0), (80, 1, 15, 1, 0, 0), (81, 1, 2, 3, 0, 0), (82, 3, 7, 99, 0, 0), (85, 1, 0, 0, 0, 0), (86, 3, 1, 12, 19, 38), (89, 1, 2, 2, 0, 0), (90, 1, 51, 0, 0, 0), (91, 1, 65, 0, 0, 0), (92, 1, 0, 0, 0, 0), (93, 3, 1, 12, 20, 42), (96, 1, 2, 2, 0, 0), (97, 1, 51, 0, 0, 0), (98, 1, 65, 0, 0, 0)]) rfl) ?_
          refine xg_iastK (n := pi_) (u := pi_) h91_58 xnm0 xnm0 rfl (by omega) (fun w73 hr74 hb75 => ?_)
          obtain ⟨g76, hg77⟩ : ∃ g : Nat → Nat, g = (fun j => if j = pi_ then pi_ else g91_57 j) := ⟨_, rfl⟩
          rw [← hg77] at hr74
          have he78 : g76 pi_ = pi_ := by rw [hg77]; exact if_pos rfl
          have hk79 : ∀ j, j ≠ pi_ → g76 j = g91_57 j := fun j hj => by rw [hg77]; exact if_neg hj
          have hb80 : ∀ j, g76 j ≤ 5 := fun j => by rw [hg77]; exact xrb (by omega) (hb59) j
          refine xg_t (xg_aload (va := (2, 82)) rfl rfl) ?_
          refine xg_t (xg_getf (va := (2, 90)) (hb75.get (by decide) (hF45.get (by decide) h82_31)) rfl) ?_
          refine xg_t (xg_iload (va := (0, pi_)) rfl rfl) ?_
          refine xg_t (xg_iload (va := (0, hh)) rfl rfl) ?_
          refine xg_iastK (n := pi_) (u := hh) (h90_55.but hb75 (by decide)) xnm0 xnm0 rfl (by omega) (fun w81 hr82 hb83 => ?_)
          obtain ⟨g84, hg85⟩ : ∃ g : Nat → Nat, g = (fun j => if j = pi_ then hh else g90_54 j) := ⟨_, rfl⟩
          rw [← hg85] at hr82
          have he86 : g84 pi_ = hh := by rw [hg85]; exact if_pos rfl
          have hk87 : ∀ j, j ≠ pi_ → g84 j = g90_54 j := fun j hj => by rw [hg85]; exact if_neg hj
          have hb88 : ∀ j, g84 j ≤ 4294967295 := fun j => by rw [hg85]; exact xrb (by omega) (hb56) j
          refine xg_t (xg_iload (va := (0, hh)) rfl rfl) ?_
          refine xg_t (xg_aload (va := (2, 82)) rfl rfl) ?_
          refine xg_t (xg_iload (va := (0, pi_)) rfl rfl) ?_
          refine xg_t (xg_const) ?_
          refine xg_cVi mX12_layerOf (vs := [(0, pi_), (0, 0)]) (rest := [(0, hh)]) (cn1 := 0) (sl1 := 0) rfl (mLayerOfX (xMnv.up (S := [91, 90]) hI44 ((xFr.of (S := [91, 90]) hb75 (by decide)).tr (xFr.of (S := [91, 90]) hb83 (by decide))) (List.forall_mem_cons.mpr ⟨(show cpI 6 58 5 (wget w81 91) from ⟨_, (hr74.but hb83 (by decide)), hb80⟩), List.forall_mem_cons.mpr ⟨(show cpI 6 57 4294967295 (wget w81 90) from ⟨_, hr82, hb88⟩), fun _ h => absurd h List.not_mem_nil⟩⟩)) (by omega) (by omega)) rfl (hb83.get (by decide) (hb75.get (by decide) (hF45.get (by decide) h82_31))) rfl rfl rfl rfl rfl rfl (fun n93 w89 hq90 => ?_)
          obtain ⟨hn94, hI91, hF92⟩ := hq90
          have hT95 : bT (fun j => rwv w 83 (20 + j)) (rwv w 88) pi_ = n93 := by
            rw [hn94, rwf_eq ((hF45.tr ((xFr.of (S := [90, 91, 92, 93, 94]) hb75 (by decide)).tr (xFr.of (S := [90, 91, 92, 93, 94]) hb83 (by decide)))).1 83 (by decide)), rwf_eq ((hF45.tr ((xFr.of (S := [90, 91, 92, 93, 94]) hb75 (by decide)).tr (xFr.of (S := [90, 91, 92, 93, 94]) hb83 (by decide)))).1 88 (by decide))]
            rfl
          have hl96 : 1 ≤ n93 ∧ n93 ≤ 99 := by
            have q := xMnv.lay hI (k := rwv w 88 pi_) (i := 0) (hb pi_ (by omega)) (by decide)
            rw [← hT95]
            exact q
          refine xg_t (xg_iadd (u := hh) (v := n93) (z := hh + n93) xnm0 xnm0 (by omega)) ?_
          refine xg_t (xg_istore (l1 := [(3, (0, 1)), (0, (2, 82)), (2, (0, pi_))]) rfl rfl rfl) ?_
          refine xg_t (xg_iload (va := (0, 1)) rfl rfl) ?_
          refine xg_t (xg_ifF (u := 1) rfl xnm0 (by decide)) ?_
          refine xg_t (xg_aload (va := (2, 82)) rfl rfl) ?_
          refine xg_t (xg_getf (va := (2, 92)) (hF92.get (by decide) (hb83.get (by decide) (hb75.get (by decide) (hF45.get (by decide) h82_31)))) rfl) ?_
          refine xg_t (xg_iload (va := (0, pi_)) rfl rfl) ?_
          refine xg_t (xg_lconst) ?_
          refine xg_last (n := pi_) (u := 0) (((h92_61.but hb75 (by decide)).but hb83 (by decide)).fr hF92 (by decide)) xnm0 (by omega) (fun w97 hr98 hb99 => ?_)
          obtain ⟨g100, hg101⟩ : ∃ g : Nat → Nat, g = (fun j => if j = pi_ then 0 else g92_60 j) := ⟨_, rfl⟩
          rw [← hg101] at hr98
          have he102 : g100 pi_ = 0 := by rw [hg101]; exact if_pos rfl
          have hk103 : ∀ j, j ≠ pi_ → g100 j = g92_60 j := fun j hj => by rw [hg101]; exact if_neg hj
          refine xg_t (xg_aload (va := (2, 82)) rfl rfl) ?_
          refine xg_t (xg_getf (va := (2, 93)) (hb99.get (by decide) (hF92.get (by decide) (hb83.get (by decide) (hb75.get (by decide) (hF45.get (by decide) h82_31))))) rfl) ?_
          refine xg_t (xg_iload (va := (0, pi_)) rfl rfl) ?_
          refine xg_t (xg_lconst) ?_
          refine xg_last (n := pi_) (u := 0) ((((h93_64.but hb75 (by decide)).but hb83 (by decide)).fr hF92 (by decide)).but hb99 (by decide)) xnm0 (by omega) (fun w104 hr105 hb106 => ?_)
          obtain ⟨g107, hg108⟩ : ∃ g : Nat → Nat, g = (fun j => if j = pi_ then 0 else g93_63 j) := ⟨_, rfl⟩
          rw [← hg108] at hr105
          have he109 : g107 pi_ = 0 := by rw [hg108]; exact if_pos rfl
          have hk110 : ∀ j, j ≠ pi_ → g107 j = g93_63 j := fun j hj => by rw [hg108]; exact if_neg hj
          refine xg_t (xg_blk (b := [(99, 1, 0, 0, 0, 0), (100, 1, 2, 2, 0, 0), (101, 1, 3, 0, 0, 0), (102, 3, 13, 181, 96, 222), (105, 1, 0, 0, 0, 0), (106, 1, 2, 2, 0, 0), (107, 1, 3, 1, 0, 0), (108, 3, 13, 181, 96, 222), (111, 1, 16, 0, 0, 0), (112, 1, 49, 0, 0, 0), (113, 2, 54, 4, 0, 0), (115, 1, 0, 0, 0, 0), (116, 3, 1, 12, 19, 38), (119, 1, 0, 0, 0, 0), (120, 3, 1, 12, 18, 35), (123, 1, 2, 2, 0, 0), (124, 1, 10, 0, 0, 0), (125, 1, 39, 0, 0, 0), (126, 1, 64, 0, 0, 0), (127, 2, 53, 4, 0, 0), (129, 1, 3, 2, 0, 0), (130, 1, 0, 0, 0, 0), (131, 3, 1, 12, 17, 32), (134, 1, 2, 2, 0, 0), (135, 1, 10, 0, 0, 0), (136, 1, 16, 0, 0, 0), (137, 1, 0, 0, 0, 0), (138, 1, 2, 2, 0, 0), (139, 1, 3, 0, 0, 0), (140, 3, 13, 181, 96, 222), (143, 1, 11, 0, 0, 0), (144, 1, 49, 0, 0, 0), (145, 1, 55, 0, 0, 0), (146, 1, 56, 0, 0, 0), (147, 1, 65, 0, 0, 0), (148, 1, 0, 0, 0, 0), (149, 3, 1, 12, 20, 42), (152, 1, 0, 0, 0, 0), (153, 3, 1, 12, 18, 35), (156, 1, 2, 2, 0, 0), (157, 1, 10, 0, 0, 0), (158, 1, 39, 0, 0, 0), (159, 1, 64, 0, 0, 0), (160, 3, 52, 2, 0, 225), (163, 2, 53, 4, 0, 0), (165, 1, 55, 0, 0, 0), (166, 1, 56, 0, 0, 0), (167, 1, 65, 0, 0, 0), (168, 3, 9, 2, 1, 0), (171, 3, 8, 4, 0, 0)]) rfl) ?_
          refine xg_t (xg_aload (va := (2, 82)) rfl rfl) ?_
          refine xg_t (xg_iload (va := (0, pi_)) rfl rfl) ?_
          refine xg_t (xg_const) ?_
          refine xg_cVi mX12_layerOf (vs := [(0, pi_), (0, 0)]) (rest := []) (cn1 := 0) (sl1 := 0) rfl (mLayerOfX (xMnv.up (S := [92, 93]) hI91 ((xFr.of (S := [92, 93]) hb99 (by decide)).tr (xFr.of (S := [92, 93]) hb106 (by decide))) (List.forall_mem_cons.mpr ⟨(show cpJ 6 59 (wget w104 92) from ⟨_, (hr98.but hb106 (by decide))⟩), List.forall_mem_cons.mpr ⟨(show cpJ 6 60 (wget w104 93) from ⟨_, hr105⟩), fun _ h => absurd h List.not_mem_nil⟩⟩)) (by omega) (by omega)) rfl (hb106.get (by decide) (hb99.get (by decide) (hF92.get (by decide) (hb83.get (by decide) (hb75.get (by decide) (hF45.get (by decide) h82_31)))))) rfl rfl rfl rfl rfl rfl (fun n115 w111 hq112 => ?_)
          obtain ⟨hn116, hI113, hF114⟩ := hq112
          have hT117 : bT (fun j => rwv w 83 (20 + j)) (rwv w 88) pi_ = n115 := by
            rw [hn116, rwf_eq ((((hF45.tr ((xFr.of (S := [90, 91, 92, 93, 94]) hb75 (by decide)).tr (xFr.of (S := [90, 91, 92, 93, 94]) hb83 (by decide)))).tr (hF92.up (by decide))).tr ((xFr.of (S := [90, 91, 92, 93, 94]) hb99 (by decide)).tr (xFr.of (S := [90, 91, 92, 93, 94]) hb106 (by decide)))).1 83 (by decide)), rwf_eq ((((hF45.tr ((xFr.of (S := [90, 91, 92, 93, 94]) hb75 (by decide)).tr (xFr.of (S := [90, 91, 92, 93, 94]) hb83 (by decide)))).tr (hF92.up (by decide))).tr ((xFr.of (S := [90, 91, 92, 93, 94]) hb99 (by decide)).tr (xFr.of (S := [90, 91, 92, 93, 94]) hb106 (by decide)))).1 88 (by decide))]
            rfl
          have hl118 : 1 ≤ n115 ∧ n115 ≤ 99 := by
            have q := xMnv.lay hI (k := rwv w 88 pi_) (i := 0) (hb pi_ (by omega)) (by decide)
            rw [← hT117]
            exact q
          refine xg_t (xg_aload (va := (2, 82)) rfl rfl) ?_
          refine xg_t (xg_iload (va := (0, pi_)) rfl rfl) ?_
          refine xg_t (xg_const) ?_
          refine xg_cVi mX12_layerOf (vs := [(0, pi_), (0, 1)]) (rest := [(0, n115)]) (cn1 := 0) (sl1 := 0) rfl (mLayerOfX (hI113) (by omega) (by omega)) rfl (hF114.get (by decide) (hb106.get (by decide) (hb99.get (by decide) (hF92.get (by decide) (hb83.get (by decide) (hb75.get (by decide) (hF45.get (by decide) h82_31))))))) rfl rfl rfl rfl rfl rfl (fun n123 w119 hq120 => ?_)
          obtain ⟨hn124, hI121, hF122⟩ := hq120
          have hT125 : bS (fun j => rwv w 83 (20 + j)) (rwv w 88) pi_ = n123 := by
            rw [hn124, rwf_eq (((((hF45.tr ((xFr.of (S := [90, 91, 92, 93, 94]) hb75 (by decide)).tr (xFr.of (S := [90, 91, 92, 93, 94]) hb83 (by decide)))).tr (hF92.up (by decide))).tr ((xFr.of (S := [90, 91, 92, 93, 94]) hb99 (by decide)).tr (xFr.of (S := [90, 91, 92, 93, 94]) hb106 (by decide)))).tr (hF114.up (by decide))).1 83 (by decide)), rwf_eq (((((hF45.tr ((xFr.of (S := [90, 91, 92, 93, 94]) hb75 (by decide)).tr (xFr.of (S := [90, 91, 92, 93, 94]) hb83 (by decide)))).tr (hF92.up (by decide))).tr ((xFr.of (S := [90, 91, 92, 93, 94]) hb99 (by decide)).tr (xFr.of (S := [90, 91, 92, 93, 94]) hb106 (by decide)))).tr (hF114.up (by decide))).1 88 (by decide))]
            rfl
          have hl126 : 1 ≤ n123 ∧ n123 ≤ 99 := by
            have q := xMnv.lay hI (k := rwv w 88 pi_) (i := 1) (hb pi_ (by omega)) (by decide)
            rw [← hT125]
            exact q
          have hm127 : n115 * n123 ≤ 99 * 99 := Nat.mul_le_mul (by omega) (by omega)
          refine xg_t (xg_imul (u := n115) (v := n123) (z := n115 * n123) xnm0 xnm0 (Nat.mod_eq_of_lt (by omega))) ?_
          refine xg_t (xg_i2l (u := n115 * n123) xnm0) ?_
          refine xg_t (xg_lre (b := n115 * n123) (by rw [xlp_eq]; exact nI_l (by omega))) ?_
          refine xg_t (xg_lstore (l1 := [(1, (0, hh + n93)), (3, (0, 1)), (0, (2, 82)), (2, (0, pi_))]) rfl rfl) ?_
          refine xg_t (xg_aload (va := (2, 82)) rfl rfl) ?_
          refine xg_t (xg_getf (va := (2, 92)) (hF122.get (by decide) (hF114.get (by decide) (hb106.get (by decide) (hb99.get (by decide) (hF92.get (by decide) (hb83.get (by decide) (hb75.get (by decide) (hF45.get (by decide) h82_31)))))))) rfl) ?_
          refine xg_t (xg_aload (va := (2, 82)) rfl rfl) ?_
          refine xg_t (xg_getf (va := (2, 91)) (hF122.get (by decide) (hF114.get (by decide) (hb106.get (by decide) (hb99.get (by decide) (hF92.get (by decide) (hb83.get (by decide) (hb75.get (by decide) (hF45.get (by decide) h82_31)))))))) rfl) ?_
          refine xg_t (xg_iload (va := (0, pi_)) rfl rfl) ?_
          refine xg_ialdB (n := pi_) (B := 5) ((((((hr74.but hb83 (by decide)).fr hF92 (by decide)).but hb99 (by decide)).but hb106 (by decide)).fr hF114 (by decide)).fr hF122 (by decide)) (hb80) xnm0 (by omega) (fun u128 hu129 he130 => ?_)
          have hd131 : u128 = pi_ := he130.symm.trans he78
          refine xg_t (xg_dup2 rfl) ?_
          obtain ⟨l132, hz133⟩ : ∃ z, g100 u128 = z := ⟨_, rfl⟩
          refine xg_t (xg_lald (n := u128) (((hr98.but hb106 (by decide)).fr hF114 (by decide)).fr hF122 (by decide)) xnm0 (by omega) hz133) ?_
          refine xg_t (xg_lload (u := n115 * n123) rfl) ?_
          refine xg_t (xg_const) ?_
          refine xg_t (xg_aload (va := (2, 82)) rfl rfl) ?_
          refine xg_t (xg_getf (va := (2, 90)) (hF122.get (by decide) (hF114.get (by decide) (hb106.get (by decide) (hb99.get (by decide) (hF92.get (by decide) (hb83.get (by decide) (hb75.get (by decide) (hF45.get (by decide) h82_31)))))))) rfl) ?_
          refine xg_t (xg_iload (va := (0, pi_)) rfl rfl) ?_
          refine xg_ialdB (n := pi_) (B := 4294967295) (((((hr82.fr hF92 (by decide)).but hb99 (by decide)).but hb106 (by decide)).fr hF114 (by decide)).fr hF122 (by decide)) (hb88) xnm0 (by omega) (fun u134 hu135 he136 => ?_)
          have hd137 : u134 = hh := he136.symm.trans he86
          refine xg_t (xg_imul (u := 2) (v := u134) (z := 2 * u134) xnm0 xnm0 (by omega)) ?_
          refine xg_t (xg_aload (va := (2, 82)) rfl rfl) ?_
          refine xg_t (xg_iload (va := (0, pi_)) rfl rfl) ?_
          refine xg_t (xg_const) ?_
          refine xg_cVi mX12_layerOf (vs := [(0, pi_), (0, 0)]) (rest := [(0, 2 * u134), (4, n115 * n123), (4, l132), (0, u128), (2, 92)]) (cn1 := 0) (sl1 := 0) rfl (mLayerOfX (hI121) (by omega) (by omega)) rfl (hF122.get (by decide) (hF114.get (by decide) (hb106.get (by decide) (hb99.get (by decide) (hF92.get (by decide) (hb83.get (by decide) (hb75.get (by decide) (hF45.get (by decide) h82_31)))))))) rfl rfl rfl rfl rfl rfl (fun n142 w138 hq139 => ?_)
          obtain ⟨hn143, hI140, hF141⟩ := hq139
          have hT144 : bT (fun j => rwv w 83 (20 + j)) (rwv w 88) pi_ = n142 := by
            rw [hn143, rwf_eq ((((((hF45.tr ((xFr.of (S := [90, 91, 92, 93, 94]) hb75 (by decide)).tr (xFr.of (S := [90, 91, 92, 93, 94]) hb83 (by decide)))).tr (hF92.up (by decide))).tr ((xFr.of (S := [90, 91, 92, 93, 94]) hb99 (by decide)).tr (xFr.of (S := [90, 91, 92, 93, 94]) hb106 (by decide)))).tr (hF114.up (by decide))).tr (hF122.up (by decide))).1 83 (by decide)), rwf_eq ((((((hF45.tr ((xFr.of (S := [90, 91, 92, 93, 94]) hb75 (by decide)).tr (xFr.of (S := [90, 91, 92, 93, 94]) hb83 (by decide)))).tr (hF92.up (by decide))).tr ((xFr.of (S := [90, 91, 92, 93, 94]) hb99 (by decide)).tr (xFr.of (S := [90, 91, 92, 93, 94]) hb106 (by decide)))).tr (hF114.up (by decide))).tr (hF122.up (by decide))).1 88 (by decide))]
            rfl
          have hl145 : 1 ≤ n142 ∧ n142 ≤ 99 := by
            have q := xMnv.lay hI (k := rwv w 88 pi_) (i := 0) (hb pi_ (by omega)) (by decide)
            rw [← hT144]
            exact q
          refine xg_t (xg_iadd (u := 2 * u134) (v := n142) (z := (2 * u134) + n142) xnm0 xnm0 (by omega)) ?_
          refine xg_t (xg_i2l (u := (2 * u134) + n142) xnm0) ?_
          refine xg_t (xg_lre (b := (2 * u134) + n142) (by rw [xlp_eq]; exact nI_l (by omega))) ?_
          refine xg_t (xg_lmul (u := n115 * n123) (v := (2 * u134) + n142)) ?_
          refine xg_t (xg_lre (b := (n115 * n123) * ((2 * u134) + n142)) (by rw [xlp_eq]; exact lN_mul _ _)) ?_
          refine xg_t (xg_ladd (u := l132) (v := (n115 * n123) * ((2 * u134) + n142))) ?_
          refine xg_t (xg_lre (b := l132 + ((n115 * n123) * ((2 * u134) + n142))) (by rw [xlp_eq]; exact lN_add _ _)) ?_
          refine xg_last (n := u128) (u := l132 + ((n115 * n123) * ((2 * u134) + n142))) ((((hr98.but hb106 (by decide)).fr hF114 (by decide)).fr hF122 (by decide)).fr hF141 (by decide)) xnm0 (by omega) (fun w146 hr147 hb148 => ?_)
          obtain ⟨g149, hg150⟩ : ∃ g : Nat → Nat, g = (fun j => if j = u128 then l132 + ((n115 * n123) * ((2 * u134) + n142)) else g100 j) := ⟨_, rfl⟩
          rw [← hg150] at hr147
          have he151 : g149 u128 = l132 + ((n115 * n123) * ((2 * u134) + n142)) := by rw [hg150]; exact if_pos rfl
          have hk152 : ∀ j, j ≠ u128 → g149 j = g100 j := fun j hj => by rw [hg150]; exact if_neg hj
          refine xg_t (xg_aload (va := (2, 82)) rfl rfl) ?_
          refine xg_t (xg_getf (va := (2, 93)) (hb148.get (by decide) (hF141.get (by decide) (hF122.get (by decide) (hF114.get (by decide) (hb106.get (by decide) (hb99.get (by decide) (hF92.get (by decide) (hb83.get (by decide) (hb75.get (by decide) (hF45.get (by decide) h82_31)))))))))) rfl) ?_
          refine xg_t (xg_aload (va := (2, 82)) rfl rfl) ?_
          refine xg_t (xg_getf (va := (2, 91)) (hb148.get (by decide) (hF141.get (by decide) (hF122.get (by decide) (hF114.get (by decide) (hb106.get (by decide) (hb99.get (by decide) (hF92.get (by decide) (hb83.get (by decide) (hb75.get (by decide) (hF45.get (by decide) h82_31)))))))))) rfl) ?_
          refine xg_t (xg_iload (va := (0, pi_)) rfl rfl) ?_
          refine xg_ialdB (n := pi_) (B := 5) ((((((((hr74.but hb83 (by decide)).fr hF92 (by decide)).but hb99 (by decide)).but hb106 (by decide)).fr hF114 (by decide)).fr hF122 (by decide)).fr hF141 (by decide)).but hb148 (by decide)) (hb80) xnm0 (by omega) (fun u153 hu154 he155 => ?_)
          have hd156 : u153 = pi_ := he155.symm.trans he78
          refine xg_t (xg_dup2 rfl) ?_
          obtain ⟨l157, hz158⟩ : ∃ z, g107 u153 = z := ⟨_, rfl⟩
          refine xg_t (xg_lald (n := u153) ((((hr105.fr hF114 (by decide)).fr hF122 (by decide)).fr hF141 (by decide)).but hb148 (by decide)) xnm0 (by omega) hz158) ?_
          refine xg_t (xg_ldc2) ?_
          refine xg_t (xg_lload (u := n115 * n123) rfl) ?_
          refine xg_t (xg_lmul (u := 2) (v := n115 * n123)) ?_
          refine xg_t (xg_lre (b := 2 * (n115 * n123)) (by rw [xlp_eq]; exact lN_mul _ _)) ?_
          refine xg_t (xg_ladd (u := l157) (v := 2 * (n115 * n123))) ?_
          refine xg_t (xg_lre (b := l157 + (2 * (n115 * n123))) (by rw [xlp_eq]; exact lN_add _ _)) ?_
          refine xg_last (n := u153) (u := l157 + (2 * (n115 * n123))) ((((hr105.fr hF114 (by decide)).fr hF122 (by decide)).fr hF141 (by decide)).but hb148 (by decide)) xnm0 (by omega) (fun w159 hr160 hb161 => ?_)
          obtain ⟨g162, hg163⟩ : ∃ g : Nat → Nat, g = (fun j => if j = u153 then l157 + (2 * (n115 * n123)) else g107 j) := ⟨_, rfl⟩
          rw [← hg163] at hr160
          have he164 : g162 u153 = l157 + (2 * (n115 * n123)) := by rw [hg163]; exact if_pos rfl
          have hk165 : ∀ j, j ≠ u153 → g162 j = g107 j := fun j hj => by rw [hg163]; exact if_neg hj
          refine xg_t (xg_iinc (u := pi_) (z := pi_ + 1) (l1 := [(4, (4, n115 * n123)), (1, (0, hh + n93)), (3, (0, 1)), (0, (2, 82))]) rfl rfl (by omega) rfl) ?_
          refine xg_t (xg_goto) ?_
          refine xg_t (xg_drop (l1 := [(0, (2, 82)), (1, (0, hh + n93)), (2, (0, pi_ + 1))]) (List.forall_mem_cons.mpr ⟨List.mem_cons_of_mem _ (List.mem_cons_of_mem _ (List.mem_cons_of_mem _ (List.mem_cons_of_mem _ (List.mem_cons_self)))), List.forall_mem_cons.mpr ⟨List.mem_cons_of_mem _ (List.mem_cons_of_mem _ (List.mem_cons_self)), List.forall_mem_cons.mpr ⟨List.mem_cons_self, fun _ h => absurd h List.not_mem_nil⟩⟩⟩)) ?_
          have ht166 : (n115 * n123) * ((2 * u134) + n142) = bt1 (fun j => rwv w 83 (20 + j)) (rwv w 88) pi_ := by
            unfold bt1
            rw [hT117, hT125, ← hh51, hd137, show n142 = n115 from hT144.symm.trans hT117]
          have ht167 : 2 * (n115 * n123) = bt2 (fun j => rwv w 83 (20 + j)) (rwv w 88) pi_ := by
            unfold bt2
            rw [hT117, hT125]
          have hz168 : l132 = 0 := by
            rw [← hz133, hd131]
            exact he102
          have hz169 : l157 = 0 := by
            rw [← hz158, hd156]
            exact he109
          have hbs171 := bs_0 (r := (fun j => rwv w 83 (20 + j))) (f := (bt1 (fun j => rwv w 83 (20 + j)) (rwv w 88))) (p := pi_) (z := l132) (t := (n115 * n123) * ((2 * u134) + n142)) (by omega) hz168 ht166
          have hbs172 := bs_0 (r := (fun j => rwv w 83 (20 + j))) (f := (bt2 (fun j => rwv w 83 (20 + j)) (rwv w 88))) (p := pi_) (z := l157) (t := 2 * (n115 * n123)) (by omega) hz169 ht167
          have hfs170 : bfs (fun j => rwv w 83 (20 + j)) pi_ = pi_ := by rw [show pi_ = 0 by omega]; rfl
          have hst173 := bd_step (r := (fun j => rwv w 83 (20 + j))) (o := (rwv w 88)) (p := pi_) (F := rwv w43 91) (H := rwv w43 90) (O := rwk w43 92) (U := rwk w43 93) (F' := rwv w159 91) (H' := rwv w159 90) (O' := rwk w159 92) (U' := rwk w159 93) hq50 ((rwv_of (((((((((hr74.but hb83 (by decide)).fr hF92 (by decide)).but hb99 (by decide)).but hb106 (by decide)).fr hF114 (by decide)).fr hF122 (by decide)).fr hF141 (by decide)).but hb148 (by decide)).but hb161 (by decide)) (by omega)).trans (he78.trans hfs170.symm)) (fun q hq => by rw [rwv_of (j := q) (((((((((hr74.but hb83 (by decide)).fr hF92 (by decide)).but hb99 (by decide)).but hb106 (by decide)).fr hF114 (by decide)).fr hF122 (by decide)).fr hF141 (by decide)).but hb148 (by decide)).but hb161 (by decide)) (by omega), hk79 q (by omega), ← rwv_of (j := q) h91_58 (by omega)]) ((rwv_of ((((((((hr82.fr hF92 (by decide)).but hb99 (by decide)).but hb106 (by decide)).fr hF114 (by decide)).fr hF122 (by decide)).fr hF141 (by decide)).but hb148 (by decide)).but hb161 (by decide)) (by omega)).trans (he86.trans hh51)) (fun q hq => by rw [rwv_of (j := q) ((((((((hr82.fr hF92 (by decide)).but hb99 (by decide)).but hb106 (by decide)).fr hF114 (by decide)).fr hF122 (by decide)).fr hF141 (by decide)).but hb148 (by decide)).but hb161 (by decide)) (by omega), hk87 q (by omega), ← rwv_of (j := q) h90_55 (by omega)]) (by rw [hfs170]; exact (congrArg (rwk w159 92) hd131.symm).trans ((rwk_of (hr147.but hb161 (by decide)) (by omega)).trans (he151.trans hbs171))) (fun s hs hn => by rw [hfs170] at hn; rw [rwk_of (j := s) (hr147.but hb161 (by decide)) (by omega), hk152 s (by rw [hd131]; exact hn), hk103 s hn, ← rwk_of (j := s) h92_61 (by omega)]) (by rw [hfs170]; exact (congrArg (rwk w159 93) hd156.symm).trans ((rwk_of hr160 (by omega)).trans (he164.trans hbs172))) (fun s hs hn => by rw [hfs170] at hn; rw [rwk_of (j := s) hr160 (by omega), hk165 s (by rw [hd156]; exact hn), hk110 s hn, ← rwk_of (j := s) h93_64 (by omega)])
          have hp174 : bhg (fun j => rwv w 83 (20 + j)) (rwv w 88) (pi_ + 1) = bhg (fun j => rwv w 83 (20 + j)) (rwv w 88) pi_ + bT (fun j => rwv w 83 (20 + j)) (rwv w 88) pi_ := rfl
          rw [hT95] at hp174
          exact ih41 (hh + n93) (pi_ + 1) w159 (by omega) (by omega) (by omega) (xMnv.up (S := [92, 93]) hI140 ((xFr.of (S := [92, 93]) hb148 (by decide)).tr (xFr.of (S := [92, 93]) hb161 (by decide))) (List.forall_mem_cons.mpr ⟨(show cpJ 6 59 (wget w159 92) from ⟨_, (hr147.but hb161 (by decide))⟩), List.forall_mem_cons.mpr ⟨(show cpJ 6 60 (wget w159 93) from ⟨_, hr160⟩), fun _ h => absurd h List.not_mem_nil⟩⟩)) ((((((((hF45.tr ((xFr.of (S := [90, 91, 92, 93, 94]) hb75 (by decide)).tr (xFr.of (S := [90, 91, 92, 93, 94]) hb83 (by decide)))).tr (hF92.up (by decide))).tr ((xFr.of (S := [90, 91, 92, 93, 94]) hb99 (by decide)).tr (xFr.of (S := [90, 91, 92, 93, 94]) hb106 (by decide)))).tr (hF114.up (by decide))).tr (hF122.up (by decide))).tr (hF141.up (by decide))).tr ((xFr.of (S := [90, 91, 92, 93, 94]) hb148 (by decide)).tr (xFr.of (S := [90, 91, 92, 93, 94]) hb161 (by decide))))) (⟨hst173, ⟨by omega, by omega⟩, by omega⟩)
        · refine xg_t (xg_ifF (u := pi_) rfl xnm0 (xj_eqF hc72)) ?_
          refine xg_t (xg_aload (va := (2, 82)) rfl rfl) ?_
          refine xg_t (xg_getf (va := (2, 83)) (hF45.get (by decide) h82_31) rfl) ?_
          refine xg_t (xg_bip) ?_
          refine xg_t (xg_const) ?_
          refine xg_t (xg_iload (va := (0, pi_)) rfl rfl) ?_
          refine xg_t (xg_const) ?_
          refine xg_t (xg_isub (u := pi_) (v := 1) (z := pi_ - 1) xnm0 xnm0 (by omega)) ?_
          refine xg_t (xg_imul (u := 4) (v := pi_ - 1) (z := 4 * (pi_ - 1)) xnm0 xnm0 (by omega)) ?_
          refine xg_t (xg_iadd (u := 20) (v := 4 * (pi_ - 1)) (z := 20 + (4 * (pi_ - 1))) xnm0 xnm0 (by omega)) ?_
          refine xg_t (xg_const) ?_
          refine xg_t (xg_iadd (u := 20 + (4 * (pi_ - 1))) (v := 3) (z := (20 + (4 * (pi_ - 1))) + 3) xnm0 xnm0 (by omega)) ?_
          refine xg_ialdB (n := (20 + (4 * (pi_ - 1))) + 3) (B := 4294967295) (h83_34.fr hF45 (by decide)) (hb35) xnm0 (by omega) (fun u175 hu176 he177 => ?_)
          have hG178 : rwv w 83 (20 + (4 * (pi_ - 1) + 3)) = u175 := (rwv_of (j := 20 + (4 * (pi_ - 1) + 3)) h83_34 (by omega)).trans ((congrArg g83_33 (show 20 + (4 * (pi_ - 1) + 3) = (20 + (4 * (pi_ - 1))) + 3 by omega)).trans he177)
          refine xg_t (xg_const) ?_
          by_cases hc179 : u175 = 1
          · refine xg_t (xg_icF (u := u175) (v := 1) rfl xnm0 xnm0 (xj_neF hc179)) ?_
            refine xg_t (xg_blk (b := [(37, 1, 3, 1, 0, 0), (38, 3, 8, 42, 0, 0)]) rfl) ?_
            refine xg_t (xg_const) ?_
            refine xg_t (xg_goto) ?_
            refine xg_t (xg_blk (b := [(42, 1, 15, 3, 0, 0), (43, 1, 0, 0, 0, 0), (44, 3, 1, 12, 18, 35), (47, 1, 2, 2, 0, 0), (48, 1, 2, 3, 0, 0), (49, 3, 7, 56, 0, 0), (52, 1, 2, 2, 0, 0), (53, 3, 8, 64, 0, 0)]) rfl) ?_
            refine xg_t (xg_istore (l1 := [(0, (2, 82)), (1, (0, hh)), (2, (0, pi_))]) rfl rfl rfl) ?_
            refine xg_t (xg_aload (va := (2, 82)) rfl rfl) ?_
            refine xg_t (xg_getf (va := (2, 91)) (hF45.get (by decide) h82_31) rfl) ?_
            refine xg_t (xg_iload (va := (0, pi_)) rfl rfl) ?_
            refine xg_t (xg_iload (va := (0, 1)) rfl rfl) ?_
            refine xg_t (xg_ifF (u := 1) rfl xnm0 (by decide)) ?_
            refine xg_t (xg_iload (va := (0, pi_)) rfl rfl) ?_
            refine xg_t (xg_goto) ?_
            refine xg_t (xg_blk (b := [(64, 1, 17, 0, 0, 0), (65, 1, 0, 0, 0, 0), (66, 3, 1, 12, 17, 32), (69, 1, 2, 2, 0, 0), (70, 1, 2, 1, 0, 0), (71, 1, 17, 0, 0, 0), (72, 1, 2, 1, 0, 0), (73, 1, 0, 0, 0, 0), (74, 1, 2, 2, 0, 0), (75, 1, 3, 0, 0, 0), (76, 3, 13, 181, 96, 222), (79, 1, 11, 0, 0, 0), (80, 1, 15, 1, 0, 0), (81, 1, 2, 3, 0, 0), (82, 3, 7, 99, 0, 0), (85, 1, 0, 0, 0, 0), (86, 3, 1, 12, 19, 38), (89, 1, 2, 2, 0, 0), (90, 1, 51, 0, 0, 0), (91, 1, 65, 0, 0, 0), (92, 1, 0, 0, 0, 0), (93, 3, 1, 12, 20, 42), (96, 1, 2, 2, 0, 0), (97, 1, 51, 0, 0, 0), (98, 1, 65, 0, 0, 0)]) rfl) ?_
            refine xg_iastK (n := pi_) (u := pi_) h91_58 xnm0 xnm0 rfl (by omega) (fun w180 hr181 hb182 => ?_)
            obtain ⟨g183, hg184⟩ : ∃ g : Nat → Nat, g = (fun j => if j = pi_ then pi_ else g91_57 j) := ⟨_, rfl⟩
            rw [← hg184] at hr181
            have he185 : g183 pi_ = pi_ := by rw [hg184]; exact if_pos rfl
            have hk186 : ∀ j, j ≠ pi_ → g183 j = g91_57 j := fun j hj => by rw [hg184]; exact if_neg hj
            have hb187 : ∀ j, g183 j ≤ 5 := fun j => by rw [hg184]; exact xrb (by omega) (hb59) j
            refine xg_t (xg_aload (va := (2, 82)) rfl rfl) ?_
            refine xg_t (xg_getf (va := (2, 90)) (hb182.get (by decide) (hF45.get (by decide) h82_31)) rfl) ?_
            refine xg_t (xg_iload (va := (0, pi_)) rfl rfl) ?_
            refine xg_t (xg_iload (va := (0, hh)) rfl rfl) ?_
            refine xg_iastK (n := pi_) (u := hh) (h90_55.but hb182 (by decide)) xnm0 xnm0 rfl (by omega) (fun w188 hr189 hb190 => ?_)
            obtain ⟨g191, hg192⟩ : ∃ g : Nat → Nat, g = (fun j => if j = pi_ then hh else g90_54 j) := ⟨_, rfl⟩
            rw [← hg192] at hr189
            have he193 : g191 pi_ = hh := by rw [hg192]; exact if_pos rfl
            have hk194 : ∀ j, j ≠ pi_ → g191 j = g90_54 j := fun j hj => by rw [hg192]; exact if_neg hj
            have hb195 : ∀ j, g191 j ≤ 4294967295 := fun j => by rw [hg192]; exact xrb (by omega) (hb56) j
            refine xg_t (xg_iload (va := (0, hh)) rfl rfl) ?_
            refine xg_t (xg_aload (va := (2, 82)) rfl rfl) ?_
            refine xg_t (xg_iload (va := (0, pi_)) rfl rfl) ?_
            refine xg_t (xg_const) ?_
            refine xg_cVi mX12_layerOf (vs := [(0, pi_), (0, 0)]) (rest := [(0, hh)]) (cn1 := 0) (sl1 := 0) rfl (mLayerOfX (xMnv.up (S := [91, 90]) hI44 ((xFr.of (S := [91, 90]) hb182 (by decide)).tr (xFr.of (S := [91, 90]) hb190 (by decide))) (List.forall_mem_cons.mpr ⟨(show cpI 6 58 5 (wget w188 91) from ⟨_, (hr181.but hb190 (by decide)), hb187⟩), List.forall_mem_cons.mpr ⟨(show cpI 6 57 4294967295 (wget w188 90) from ⟨_, hr189, hb195⟩), fun _ h => absurd h List.not_mem_nil⟩⟩)) (by omega) (by omega)) rfl (hb190.get (by decide) (hb182.get (by decide) (hF45.get (by decide) h82_31))) rfl rfl rfl rfl rfl rfl (fun n200 w196 hq197 => ?_)
            obtain ⟨hn201, hI198, hF199⟩ := hq197
            have hT202 : bT (fun j => rwv w 83 (20 + j)) (rwv w 88) pi_ = n200 := by
              rw [hn201, rwf_eq ((hF45.tr ((xFr.of (S := [90, 91, 92, 93, 94]) hb182 (by decide)).tr (xFr.of (S := [90, 91, 92, 93, 94]) hb190 (by decide)))).1 83 (by decide)), rwf_eq ((hF45.tr ((xFr.of (S := [90, 91, 92, 93, 94]) hb182 (by decide)).tr (xFr.of (S := [90, 91, 92, 93, 94]) hb190 (by decide)))).1 88 (by decide))]
              rfl
            have hl203 : 1 ≤ n200 ∧ n200 ≤ 99 := by
              have q := xMnv.lay hI (k := rwv w 88 pi_) (i := 0) (hb pi_ (by omega)) (by decide)
              rw [← hT202]
              exact q
            refine xg_t (xg_iadd (u := hh) (v := n200) (z := hh + n200) xnm0 xnm0 (by omega)) ?_
            refine xg_t (xg_istore (l1 := [(3, (0, 1)), (0, (2, 82)), (2, (0, pi_))]) rfl rfl rfl) ?_
            refine xg_t (xg_iload (va := (0, 1)) rfl rfl) ?_
            refine xg_t (xg_ifF (u := 1) rfl xnm0 (by decide)) ?_
            refine xg_t (xg_aload (va := (2, 82)) rfl rfl) ?_
            refine xg_t (xg_getf (va := (2, 92)) (hF199.get (by decide) (hb190.get (by decide) (hb182.get (by decide) (hF45.get (by decide) h82_31)))) rfl) ?_
            refine xg_t (xg_iload (va := (0, pi_)) rfl rfl) ?_
            refine xg_t (xg_lconst) ?_
            refine xg_last (n := pi_) (u := 0) (((h92_61.but hb182 (by decide)).but hb190 (by decide)).fr hF199 (by decide)) xnm0 (by omega) (fun w204 hr205 hb206 => ?_)
            obtain ⟨g207, hg208⟩ : ∃ g : Nat → Nat, g = (fun j => if j = pi_ then 0 else g92_60 j) := ⟨_, rfl⟩
            rw [← hg208] at hr205
            have he209 : g207 pi_ = 0 := by rw [hg208]; exact if_pos rfl
            have hk210 : ∀ j, j ≠ pi_ → g207 j = g92_60 j := fun j hj => by rw [hg208]; exact if_neg hj
            refine xg_t (xg_aload (va := (2, 82)) rfl rfl) ?_
            refine xg_t (xg_getf (va := (2, 93)) (hb206.get (by decide) (hF199.get (by decide) (hb190.get (by decide) (hb182.get (by decide) (hF45.get (by decide) h82_31))))) rfl) ?_
            refine xg_t (xg_iload (va := (0, pi_)) rfl rfl) ?_
            refine xg_t (xg_lconst) ?_
            refine xg_last (n := pi_) (u := 0) ((((h93_64.but hb182 (by decide)).but hb190 (by decide)).fr hF199 (by decide)).but hb206 (by decide)) xnm0 (by omega) (fun w211 hr212 hb213 => ?_)
            obtain ⟨g214, hg215⟩ : ∃ g : Nat → Nat, g = (fun j => if j = pi_ then 0 else g93_63 j) := ⟨_, rfl⟩
            rw [← hg215] at hr212
            have he216 : g214 pi_ = 0 := by rw [hg215]; exact if_pos rfl
            have hk217 : ∀ j, j ≠ pi_ → g214 j = g93_63 j := fun j hj => by rw [hg215]; exact if_neg hj
            refine xg_t (xg_blk (b := [(99, 1, 0, 0, 0, 0), (100, 1, 2, 2, 0, 0), (101, 1, 3, 0, 0, 0), (102, 3, 13, 181, 96, 222), (105, 1, 0, 0, 0, 0), (106, 1, 2, 2, 0, 0), (107, 1, 3, 1, 0, 0), (108, 3, 13, 181, 96, 222), (111, 1, 16, 0, 0, 0), (112, 1, 49, 0, 0, 0), (113, 2, 54, 4, 0, 0), (115, 1, 0, 0, 0, 0), (116, 3, 1, 12, 19, 38), (119, 1, 0, 0, 0, 0), (120, 3, 1, 12, 18, 35), (123, 1, 2, 2, 0, 0), (124, 1, 10, 0, 0, 0), (125, 1, 39, 0, 0, 0), (126, 1, 64, 0, 0, 0), (127, 2, 53, 4, 0, 0), (129, 1, 3, 2, 0, 0), (130, 1, 0, 0, 0, 0), (131, 3, 1, 12, 17, 32), (134, 1, 2, 2, 0, 0), (135, 1, 10, 0, 0, 0), (136, 1, 16, 0, 0, 0), (137, 1, 0, 0, 0, 0), (138, 1, 2, 2, 0, 0), (139, 1, 3, 0, 0, 0), (140, 3, 13, 181, 96, 222), (143, 1, 11, 0, 0, 0), (144, 1, 49, 0, 0, 0), (145, 1, 55, 0, 0, 0), (146, 1, 56, 0, 0, 0), (147, 1, 65, 0, 0, 0), (148, 1, 0, 0, 0, 0), (149, 3, 1, 12, 20, 42), (152, 1, 0, 0, 0, 0), (153, 3, 1, 12, 18, 35), (156, 1, 2, 2, 0, 0), (157, 1, 10, 0, 0, 0), (158, 1, 39, 0, 0, 0), (159, 1, 64, 0, 0, 0), (160, 3, 52, 2, 0, 225), (163, 2, 53, 4, 0, 0), (165, 1, 55, 0, 0, 0), (166, 1, 56, 0, 0, 0), (167, 1, 65, 0, 0, 0), (168, 3, 9, 2, 1, 0), (171, 3, 8, 4, 0, 0)]) rfl) ?_
            refine xg_t (xg_aload (va := (2, 82)) rfl rfl) ?_
            refine xg_t (xg_iload (va := (0, pi_)) rfl rfl) ?_
            refine xg_t (xg_const) ?_
            refine xg_cVi mX12_layerOf (vs := [(0, pi_), (0, 0)]) (rest := []) (cn1 := 0) (sl1 := 0) rfl (mLayerOfX (xMnv.up (S := [92, 93]) hI198 ((xFr.of (S := [92, 93]) hb206 (by decide)).tr (xFr.of (S := [92, 93]) hb213 (by decide))) (List.forall_mem_cons.mpr ⟨(show cpJ 6 59 (wget w211 92) from ⟨_, (hr205.but hb213 (by decide))⟩), List.forall_mem_cons.mpr ⟨(show cpJ 6 60 (wget w211 93) from ⟨_, hr212⟩), fun _ h => absurd h List.not_mem_nil⟩⟩)) (by omega) (by omega)) rfl (hb213.get (by decide) (hb206.get (by decide) (hF199.get (by decide) (hb190.get (by decide) (hb182.get (by decide) (hF45.get (by decide) h82_31)))))) rfl rfl rfl rfl rfl rfl (fun n222 w218 hq219 => ?_)
            obtain ⟨hn223, hI220, hF221⟩ := hq219
            have hT224 : bT (fun j => rwv w 83 (20 + j)) (rwv w 88) pi_ = n222 := by
              rw [hn223, rwf_eq ((((hF45.tr ((xFr.of (S := [90, 91, 92, 93, 94]) hb182 (by decide)).tr (xFr.of (S := [90, 91, 92, 93, 94]) hb190 (by decide)))).tr (hF199.up (by decide))).tr ((xFr.of (S := [90, 91, 92, 93, 94]) hb206 (by decide)).tr (xFr.of (S := [90, 91, 92, 93, 94]) hb213 (by decide)))).1 83 (by decide)), rwf_eq ((((hF45.tr ((xFr.of (S := [90, 91, 92, 93, 94]) hb182 (by decide)).tr (xFr.of (S := [90, 91, 92, 93, 94]) hb190 (by decide)))).tr (hF199.up (by decide))).tr ((xFr.of (S := [90, 91, 92, 93, 94]) hb206 (by decide)).tr (xFr.of (S := [90, 91, 92, 93, 94]) hb213 (by decide)))).1 88 (by decide))]
              rfl
            have hl225 : 1 ≤ n222 ∧ n222 ≤ 99 := by
              have q := xMnv.lay hI (k := rwv w 88 pi_) (i := 0) (hb pi_ (by omega)) (by decide)
              rw [← hT224]
              exact q
            refine xg_t (xg_aload (va := (2, 82)) rfl rfl) ?_
            refine xg_t (xg_iload (va := (0, pi_)) rfl rfl) ?_
            refine xg_t (xg_const) ?_
            refine xg_cVi mX12_layerOf (vs := [(0, pi_), (0, 1)]) (rest := [(0, n222)]) (cn1 := 0) (sl1 := 0) rfl (mLayerOfX (hI220) (by omega) (by omega)) rfl (hF221.get (by decide) (hb213.get (by decide) (hb206.get (by decide) (hF199.get (by decide) (hb190.get (by decide) (hb182.get (by decide) (hF45.get (by decide) h82_31))))))) rfl rfl rfl rfl rfl rfl (fun n230 w226 hq227 => ?_)
            obtain ⟨hn231, hI228, hF229⟩ := hq227
            have hT232 : bS (fun j => rwv w 83 (20 + j)) (rwv w 88) pi_ = n230 := by
              rw [hn231, rwf_eq (((((hF45.tr ((xFr.of (S := [90, 91, 92, 93, 94]) hb182 (by decide)).tr (xFr.of (S := [90, 91, 92, 93, 94]) hb190 (by decide)))).tr (hF199.up (by decide))).tr ((xFr.of (S := [90, 91, 92, 93, 94]) hb206 (by decide)).tr (xFr.of (S := [90, 91, 92, 93, 94]) hb213 (by decide)))).tr (hF221.up (by decide))).1 83 (by decide)), rwf_eq (((((hF45.tr ((xFr.of (S := [90, 91, 92, 93, 94]) hb182 (by decide)).tr (xFr.of (S := [90, 91, 92, 93, 94]) hb190 (by decide)))).tr (hF199.up (by decide))).tr ((xFr.of (S := [90, 91, 92, 93, 94]) hb206 (by decide)).tr (xFr.of (S := [90, 91, 92, 93, 94]) hb213 (by decide)))).tr (hF221.up (by decide))).1 88 (by decide))]
              rfl
            have hl233 : 1 ≤ n230 ∧ n230 ≤ 99 := by
              have q := xMnv.lay hI (k := rwv w 88 pi_) (i := 1) (hb pi_ (by omega)) (by decide)
              rw [← hT232]
              exact q
            have hm234 : n222 * n230 ≤ 99 * 99 := Nat.mul_le_mul (by omega) (by omega)
            refine xg_t (xg_imul (u := n222) (v := n230) (z := n222 * n230) xnm0 xnm0 (Nat.mod_eq_of_lt (by omega))) ?_
            refine xg_t (xg_i2l (u := n222 * n230) xnm0) ?_
            refine xg_t (xg_lre (b := n222 * n230) (by rw [xlp_eq]; exact nI_l (by omega))) ?_
            refine xg_t (xg_lstore (l1 := [(1, (0, hh + n200)), (3, (0, 1)), (0, (2, 82)), (2, (0, pi_))]) rfl rfl) ?_
            refine xg_t (xg_aload (va := (2, 82)) rfl rfl) ?_
            refine xg_t (xg_getf (va := (2, 92)) (hF229.get (by decide) (hF221.get (by decide) (hb213.get (by decide) (hb206.get (by decide) (hF199.get (by decide) (hb190.get (by decide) (hb182.get (by decide) (hF45.get (by decide) h82_31)))))))) rfl) ?_
            refine xg_t (xg_aload (va := (2, 82)) rfl rfl) ?_
            refine xg_t (xg_getf (va := (2, 91)) (hF229.get (by decide) (hF221.get (by decide) (hb213.get (by decide) (hb206.get (by decide) (hF199.get (by decide) (hb190.get (by decide) (hb182.get (by decide) (hF45.get (by decide) h82_31)))))))) rfl) ?_
            refine xg_t (xg_iload (va := (0, pi_)) rfl rfl) ?_
            refine xg_ialdB (n := pi_) (B := 5) ((((((hr181.but hb190 (by decide)).fr hF199 (by decide)).but hb206 (by decide)).but hb213 (by decide)).fr hF221 (by decide)).fr hF229 (by decide)) (hb187) xnm0 (by omega) (fun u235 hu236 he237 => ?_)
            have hd238 : u235 = pi_ := he237.symm.trans he185
            refine xg_t (xg_dup2 rfl) ?_
            obtain ⟨l239, hz240⟩ : ∃ z, g207 u235 = z := ⟨_, rfl⟩
            refine xg_t (xg_lald (n := u235) (((hr205.but hb213 (by decide)).fr hF221 (by decide)).fr hF229 (by decide)) xnm0 (by omega) hz240) ?_
            refine xg_t (xg_lload (u := n222 * n230) rfl) ?_
            refine xg_t (xg_const) ?_
            refine xg_t (xg_aload (va := (2, 82)) rfl rfl) ?_
            refine xg_t (xg_getf (va := (2, 90)) (hF229.get (by decide) (hF221.get (by decide) (hb213.get (by decide) (hb206.get (by decide) (hF199.get (by decide) (hb190.get (by decide) (hb182.get (by decide) (hF45.get (by decide) h82_31)))))))) rfl) ?_
            refine xg_t (xg_iload (va := (0, pi_)) rfl rfl) ?_
            refine xg_ialdB (n := pi_) (B := 4294967295) (((((hr189.fr hF199 (by decide)).but hb206 (by decide)).but hb213 (by decide)).fr hF221 (by decide)).fr hF229 (by decide)) (hb195) xnm0 (by omega) (fun u241 hu242 he243 => ?_)
            have hd244 : u241 = hh := he243.symm.trans he193
            refine xg_t (xg_imul (u := 2) (v := u241) (z := 2 * u241) xnm0 xnm0 (by omega)) ?_
            refine xg_t (xg_aload (va := (2, 82)) rfl rfl) ?_
            refine xg_t (xg_iload (va := (0, pi_)) rfl rfl) ?_
            refine xg_t (xg_const) ?_
            refine xg_cVi mX12_layerOf (vs := [(0, pi_), (0, 0)]) (rest := [(0, 2 * u241), (4, n222 * n230), (4, l239), (0, u235), (2, 92)]) (cn1 := 0) (sl1 := 0) rfl (mLayerOfX (hI228) (by omega) (by omega)) rfl (hF229.get (by decide) (hF221.get (by decide) (hb213.get (by decide) (hb206.get (by decide) (hF199.get (by decide) (hb190.get (by decide) (hb182.get (by decide) (hF45.get (by decide) h82_31)))))))) rfl rfl rfl rfl rfl rfl (fun n249 w245 hq246 => ?_)
            obtain ⟨hn250, hI247, hF248⟩ := hq246
            have hT251 : bT (fun j => rwv w 83 (20 + j)) (rwv w 88) pi_ = n249 := by
              rw [hn250, rwf_eq ((((((hF45.tr ((xFr.of (S := [90, 91, 92, 93, 94]) hb182 (by decide)).tr (xFr.of (S := [90, 91, 92, 93, 94]) hb190 (by decide)))).tr (hF199.up (by decide))).tr ((xFr.of (S := [90, 91, 92, 93, 94]) hb206 (by decide)).tr (xFr.of (S := [90, 91, 92, 93, 94]) hb213 (by decide)))).tr (hF221.up (by decide))).tr (hF229.up (by decide))).1 83 (by decide)), rwf_eq ((((((hF45.tr ((xFr.of (S := [90, 91, 92, 93, 94]) hb182 (by decide)).tr (xFr.of (S := [90, 91, 92, 93, 94]) hb190 (by decide)))).tr (hF199.up (by decide))).tr ((xFr.of (S := [90, 91, 92, 93, 94]) hb206 (by decide)).tr (xFr.of (S := [90, 91, 92, 93, 94]) hb213 (by decide)))).tr (hF221.up (by decide))).tr (hF229.up (by decide))).1 88 (by decide))]
              rfl
            have hl252 : 1 ≤ n249 ∧ n249 ≤ 99 := by
              have q := xMnv.lay hI (k := rwv w 88 pi_) (i := 0) (hb pi_ (by omega)) (by decide)
              rw [← hT251]
              exact q
            refine xg_t (xg_iadd (u := 2 * u241) (v := n249) (z := (2 * u241) + n249) xnm0 xnm0 (by omega)) ?_
            refine xg_t (xg_i2l (u := (2 * u241) + n249) xnm0) ?_
            refine xg_t (xg_lre (b := (2 * u241) + n249) (by rw [xlp_eq]; exact nI_l (by omega))) ?_
            refine xg_t (xg_lmul (u := n222 * n230) (v := (2 * u241) + n249)) ?_
            refine xg_t (xg_lre (b := (n222 * n230) * ((2 * u241) + n249)) (by rw [xlp_eq]; exact lN_mul _ _)) ?_
            refine xg_t (xg_ladd (u := l239) (v := (n222 * n230) * ((2 * u241) + n249))) ?_
            refine xg_t (xg_lre (b := l239 + ((n222 * n230) * ((2 * u241) + n249))) (by rw [xlp_eq]; exact lN_add _ _)) ?_
            refine xg_last (n := u235) (u := l239 + ((n222 * n230) * ((2 * u241) + n249))) ((((hr205.but hb213 (by decide)).fr hF221 (by decide)).fr hF229 (by decide)).fr hF248 (by decide)) xnm0 (by omega) (fun w253 hr254 hb255 => ?_)
            obtain ⟨g256, hg257⟩ : ∃ g : Nat → Nat, g = (fun j => if j = u235 then l239 + ((n222 * n230) * ((2 * u241) + n249)) else g207 j) := ⟨_, rfl⟩
            rw [← hg257] at hr254
            have he258 : g256 u235 = l239 + ((n222 * n230) * ((2 * u241) + n249)) := by rw [hg257]; exact if_pos rfl
            have hk259 : ∀ j, j ≠ u235 → g256 j = g207 j := fun j hj => by rw [hg257]; exact if_neg hj
            refine xg_t (xg_aload (va := (2, 82)) rfl rfl) ?_
            refine xg_t (xg_getf (va := (2, 93)) (hb255.get (by decide) (hF248.get (by decide) (hF229.get (by decide) (hF221.get (by decide) (hb213.get (by decide) (hb206.get (by decide) (hF199.get (by decide) (hb190.get (by decide) (hb182.get (by decide) (hF45.get (by decide) h82_31)))))))))) rfl) ?_
            refine xg_t (xg_aload (va := (2, 82)) rfl rfl) ?_
            refine xg_t (xg_getf (va := (2, 91)) (hb255.get (by decide) (hF248.get (by decide) (hF229.get (by decide) (hF221.get (by decide) (hb213.get (by decide) (hb206.get (by decide) (hF199.get (by decide) (hb190.get (by decide) (hb182.get (by decide) (hF45.get (by decide) h82_31)))))))))) rfl) ?_
            refine xg_t (xg_iload (va := (0, pi_)) rfl rfl) ?_
            refine xg_ialdB (n := pi_) (B := 5) ((((((((hr181.but hb190 (by decide)).fr hF199 (by decide)).but hb206 (by decide)).but hb213 (by decide)).fr hF221 (by decide)).fr hF229 (by decide)).fr hF248 (by decide)).but hb255 (by decide)) (hb187) xnm0 (by omega) (fun u260 hu261 he262 => ?_)
            have hd263 : u260 = pi_ := he262.symm.trans he185
            refine xg_t (xg_dup2 rfl) ?_
            obtain ⟨l264, hz265⟩ : ∃ z, g214 u260 = z := ⟨_, rfl⟩
            refine xg_t (xg_lald (n := u260) ((((hr212.fr hF221 (by decide)).fr hF229 (by decide)).fr hF248 (by decide)).but hb255 (by decide)) xnm0 (by omega) hz265) ?_
            refine xg_t (xg_ldc2) ?_
            refine xg_t (xg_lload (u := n222 * n230) rfl) ?_
            refine xg_t (xg_lmul (u := 2) (v := n222 * n230)) ?_
            refine xg_t (xg_lre (b := 2 * (n222 * n230)) (by rw [xlp_eq]; exact lN_mul _ _)) ?_
            refine xg_t (xg_ladd (u := l264) (v := 2 * (n222 * n230))) ?_
            refine xg_t (xg_lre (b := l264 + (2 * (n222 * n230))) (by rw [xlp_eq]; exact lN_add _ _)) ?_
            refine xg_last (n := u260) (u := l264 + (2 * (n222 * n230))) ((((hr212.fr hF221 (by decide)).fr hF229 (by decide)).fr hF248 (by decide)).but hb255 (by decide)) xnm0 (by omega) (fun w266 hr267 hb268 => ?_)
            obtain ⟨g269, hg270⟩ : ∃ g : Nat → Nat, g = (fun j => if j = u260 then l264 + (2 * (n222 * n230)) else g214 j) := ⟨_, rfl⟩
            rw [← hg270] at hr267
            have he271 : g269 u260 = l264 + (2 * (n222 * n230)) := by rw [hg270]; exact if_pos rfl
            have hk272 : ∀ j, j ≠ u260 → g269 j = g214 j := fun j hj => by rw [hg270]; exact if_neg hj
            refine xg_t (xg_iinc (u := pi_) (z := pi_ + 1) (l1 := [(4, (4, n222 * n230)), (1, (0, hh + n200)), (3, (0, 1)), (0, (2, 82))]) rfl rfl (by omega) rfl) ?_
            refine xg_t (xg_goto) ?_
            refine xg_t (xg_drop (l1 := [(0, (2, 82)), (1, (0, hh + n200)), (2, (0, pi_ + 1))]) (List.forall_mem_cons.mpr ⟨List.mem_cons_of_mem _ (List.mem_cons_of_mem _ (List.mem_cons_of_mem _ (List.mem_cons_of_mem _ (List.mem_cons_self)))), List.forall_mem_cons.mpr ⟨List.mem_cons_of_mem _ (List.mem_cons_of_mem _ (List.mem_cons_self)), List.forall_mem_cons.mpr ⟨List.mem_cons_self, fun _ h => absurd h List.not_mem_nil⟩⟩⟩)) ?_
            have ht273 : (n222 * n230) * ((2 * u241) + n249) = bt1 (fun j => rwv w 83 (20 + j)) (rwv w 88) pi_ := by
              unfold bt1
              rw [hT224, hT232, ← hh51, hd244, show n249 = n222 from hT251.symm.trans hT224]
            have ht274 : 2 * (n222 * n230) = bt2 (fun j => rwv w 83 (20 + j)) (rwv w 88) pi_ := by
              unfold bt2
              rw [hT224, hT232]
            have hz275 : l239 = 0 := by
              rw [← hz240, hd238]
              exact he209
            have hz276 : l264 = 0 := by
              rw [← hz265, hd263]
              exact he216
            have hbs278 := bs_y (r := (fun j => rwv w 83 (20 + j))) (f := (bt1 (fun j => rwv w 83 (20 + j)) (rwv w 88))) (p := pi_) (z := l239) (t := (n222 * n230) * ((2 * u241) + n249)) (by omega) (by rw [hG178]; omega) hz275 ht273
            have hbs279 := bs_y (r := (fun j => rwv w 83 (20 + j))) (f := (bt2 (fun j => rwv w 83 (20 + j)) (rwv w 88))) (p := pi_) (z := l264) (t := 2 * (n222 * n230)) (by omega) (by rw [hG178]; omega) hz276 ht274
            have hfs277 : bfs (fun j => rwv w 83 (20 + j)) pi_ = pi_ := hbs278.2
            have hst280 := bd_step (r := (fun j => rwv w 83 (20 + j))) (o := (rwv w 88)) (p := pi_) (F := rwv w43 91) (H := rwv w43 90) (O := rwk w43 92) (U := rwk w43 93) (F' := rwv w266 91) (H' := rwv w266 90) (O' := rwk w266 92) (U' := rwk w266 93) hq50 ((rwv_of (((((((((hr181.but hb190 (by decide)).fr hF199 (by decide)).but hb206 (by decide)).but hb213 (by decide)).fr hF221 (by decide)).fr hF229 (by decide)).fr hF248 (by decide)).but hb255 (by decide)).but hb268 (by decide)) (by omega)).trans (he185.trans hfs277.symm)) (fun q hq => by rw [rwv_of (j := q) (((((((((hr181.but hb190 (by decide)).fr hF199 (by decide)).but hb206 (by decide)).but hb213 (by decide)).fr hF221 (by decide)).fr hF229 (by decide)).fr hF248 (by decide)).but hb255 (by decide)).but hb268 (by decide)) (by omega), hk186 q (by omega), ← rwv_of (j := q) h91_58 (by omega)]) ((rwv_of ((((((((hr189.fr hF199 (by decide)).but hb206 (by decide)).but hb213 (by decide)).fr hF221 (by decide)).fr hF229 (by decide)).fr hF248 (by decide)).but hb255 (by decide)).but hb268 (by decide)) (by omega)).trans (he193.trans hh51)) (fun q hq => by rw [rwv_of (j := q) ((((((((hr189.fr hF199 (by decide)).but hb206 (by decide)).but hb213 (by decide)).fr hF221 (by decide)).fr hF229 (by decide)).fr hF248 (by decide)).but hb255 (by decide)).but hb268 (by decide)) (by omega), hk194 q (by omega), ← rwv_of (j := q) h90_55 (by omega)]) (by rw [hfs277]; exact (congrArg (rwk w266 92) hd238.symm).trans ((rwk_of (hr254.but hb268 (by decide)) (by omega)).trans (he258.trans hbs278.1))) (fun s hs hn => by rw [hfs277] at hn; rw [rwk_of (j := s) (hr254.but hb268 (by decide)) (by omega), hk259 s (by rw [hd238]; exact hn), hk210 s hn, ← rwk_of (j := s) h92_61 (by omega)]) (by rw [hfs277]; exact (congrArg (rwk w266 93) hd263.symm).trans ((rwk_of hr267 (by omega)).trans (he271.trans hbs279.1))) (fun s hs hn => by rw [hfs277] at hn; rw [rwk_of (j := s) hr267 (by omega), hk272 s (by rw [hd263]; exact hn), hk217 s hn, ← rwk_of (j := s) h93_64 (by omega)])
            have hp281 : bhg (fun j => rwv w 83 (20 + j)) (rwv w 88) (pi_ + 1) = bhg (fun j => rwv w 83 (20 + j)) (rwv w 88) pi_ + bT (fun j => rwv w 83 (20 + j)) (rwv w 88) pi_ := rfl
            rw [hT202] at hp281
            exact ih41 (hh + n200) (pi_ + 1) w266 (by omega) (by omega) (by omega) (xMnv.up (S := [92, 93]) hI247 ((xFr.of (S := [92, 93]) hb255 (by decide)).tr (xFr.of (S := [92, 93]) hb268 (by decide))) (List.forall_mem_cons.mpr ⟨(show cpJ 6 59 (wget w266 92) from ⟨_, (hr254.but hb268 (by decide))⟩), List.forall_mem_cons.mpr ⟨(show cpJ 6 60 (wget w266 93) from ⟨_, hr267⟩), fun _ h => absurd h List.not_mem_nil⟩⟩)) ((((((((hF45.tr ((xFr.of (S := [90, 91, 92, 93, 94]) hb182 (by decide)).tr (xFr.of (S := [90, 91, 92, 93, 94]) hb190 (by decide)))).tr (hF199.up (by decide))).tr ((xFr.of (S := [90, 91, 92, 93, 94]) hb206 (by decide)).tr (xFr.of (S := [90, 91, 92, 93, 94]) hb213 (by decide)))).tr (hF221.up (by decide))).tr (hF229.up (by decide))).tr (hF248.up (by decide))).tr ((xFr.of (S := [90, 91, 92, 93, 94]) hb255 (by decide)).tr (xFr.of (S := [90, 91, 92, 93, 94]) hb268 (by decide))))) (⟨hst280, ⟨by omega, by omega⟩, by omega⟩)
          · refine xg_t (xg_icT (u := u175) (v := 1) rfl xnm0 xnm0 (xj_neT hc179)) ?_
            refine xg_t (xg_blk (b := [(41, 1, 3, 0, 0, 0)]) rfl) ?_
            refine xg_t (xg_const) ?_
            refine xg_t (xg_blk (b := [(42, 1, 15, 3, 0, 0), (43, 1, 0, 0, 0, 0), (44, 3, 1, 12, 18, 35), (47, 1, 2, 2, 0, 0), (48, 1, 2, 3, 0, 0), (49, 3, 7, 56, 0, 0), (52, 1, 2, 2, 0, 0), (53, 3, 8, 64, 0, 0)]) rfl) ?_
            refine xg_t (xg_istore (l1 := [(0, (2, 82)), (1, (0, hh)), (2, (0, pi_))]) rfl rfl rfl) ?_
            refine xg_t (xg_aload (va := (2, 82)) rfl rfl) ?_
            refine xg_t (xg_getf (va := (2, 91)) (hF45.get (by decide) h82_31) rfl) ?_
            refine xg_t (xg_iload (va := (0, pi_)) rfl rfl) ?_
            refine xg_t (xg_iload (va := (0, 0)) rfl rfl) ?_
            refine xg_t (xg_ifT (u := 0) rfl xnm0 (by decide)) ?_
            refine xg_t (xg_blk (b := [(56, 1, 0, 0, 0, 0), (57, 3, 1, 12, 18, 35), (60, 1, 2, 2, 0, 0), (61, 1, 3, 1, 0, 0), (62, 1, 18, 0, 0, 0), (63, 1, 10, 0, 0, 0)]) rfl) ?_
            refine xg_t (xg_aload (va := (2, 82)) rfl rfl) ?_
            refine xg_t (xg_getf (va := (2, 91)) (hF45.get (by decide) h82_31) rfl) ?_
            refine xg_t (xg_iload (va := (0, pi_)) rfl rfl) ?_
            refine xg_t (xg_const) ?_
            refine xg_t (xg_isub (u := pi_) (v := 1) (z := pi_ - 1) xnm0 xnm0 (by omega)) ?_
            refine xg_ialdB (n := pi_ - 1) (B := 5) h91_58 (hb59) xnm0 (by omega) (fun u282 hu283 he284 => ?_)
            have hf285 : bfs (fun j => rwv w 83 (20 + j)) (pi_ - 1) = u282 := (hq50 (pi_ - 1) (by omega)).1.symm.trans ((rwv_of h91_58 (by omega)).trans he284)
            refine xg_t (xg_blk (b := [(64, 1, 17, 0, 0, 0), (65, 1, 0, 0, 0, 0), (66, 3, 1, 12, 17, 32), (69, 1, 2, 2, 0, 0), (70, 1, 2, 1, 0, 0), (71, 1, 17, 0, 0, 0), (72, 1, 2, 1, 0, 0), (73, 1, 0, 0, 0, 0), (74, 1, 2, 2, 0, 0), (75, 1, 3, 0, 0, 0), (76, 3, 13, 181, 96, 222), (79, 1, 11, 0, 0, 0), (80, 1, 15, 1, 0, 0), (81, 1, 2, 3, 0, 0), (82, 3, 7, 99, 0, 0), (85, 1, 0, 0, 0, 0), (86, 3, 1, 12, 19, 38), (89, 1, 2, 2, 0, 0), (90, 1, 51, 0, 0, 0), (91, 1, 65, 0, 0, 0), (92, 1, 0, 0, 0, 0), (93, 3, 1, 12, 20, 42), (96, 1, 2, 2, 0, 0), (97, 1, 51, 0, 0, 0), (98, 1, 65, 0, 0, 0)]) rfl) ?_
            refine xg_iastK (n := pi_) (u := u282) h91_58 xnm0 xnm0 rfl (by omega) (fun w286 hr287 hb288 => ?_)
            obtain ⟨g289, hg290⟩ : ∃ g : Nat → Nat, g = (fun j => if j = pi_ then u282 else g91_57 j) := ⟨_, rfl⟩
            rw [← hg290] at hr287
            have he291 : g289 pi_ = u282 := by rw [hg290]; exact if_pos rfl
            have hk292 : ∀ j, j ≠ pi_ → g289 j = g91_57 j := fun j hj => by rw [hg290]; exact if_neg hj
            have hb293 : ∀ j, g289 j ≤ 5 := fun j => by rw [hg290]; exact xrb (by omega) (hb59) j
            refine xg_t (xg_aload (va := (2, 82)) rfl rfl) ?_
            refine xg_t (xg_getf (va := (2, 90)) (hb288.get (by decide) (hF45.get (by decide) h82_31)) rfl) ?_
            refine xg_t (xg_iload (va := (0, pi_)) rfl rfl) ?_
            refine xg_t (xg_iload (va := (0, hh)) rfl rfl) ?_
            refine xg_iastK (n := pi_) (u := hh) (h90_55.but hb288 (by decide)) xnm0 xnm0 rfl (by omega) (fun w294 hr295 hb296 => ?_)
            obtain ⟨g297, hg298⟩ : ∃ g : Nat → Nat, g = (fun j => if j = pi_ then hh else g90_54 j) := ⟨_, rfl⟩
            rw [← hg298] at hr295
            have he299 : g297 pi_ = hh := by rw [hg298]; exact if_pos rfl
            have hk300 : ∀ j, j ≠ pi_ → g297 j = g90_54 j := fun j hj => by rw [hg298]; exact if_neg hj
            have hb301 : ∀ j, g297 j ≤ 4294967295 := fun j => by rw [hg298]; exact xrb (by omega) (hb56) j
            refine xg_t (xg_iload (va := (0, hh)) rfl rfl) ?_
            refine xg_t (xg_aload (va := (2, 82)) rfl rfl) ?_
            refine xg_t (xg_iload (va := (0, pi_)) rfl rfl) ?_
            refine xg_t (xg_const) ?_
            refine xg_cVi mX12_layerOf (vs := [(0, pi_), (0, 0)]) (rest := [(0, hh)]) (cn1 := 0) (sl1 := 0) rfl (mLayerOfX (xMnv.up (S := [91, 90]) hI44 ((xFr.of (S := [91, 90]) hb288 (by decide)).tr (xFr.of (S := [91, 90]) hb296 (by decide))) (List.forall_mem_cons.mpr ⟨(show cpI 6 58 5 (wget w294 91) from ⟨_, (hr287.but hb296 (by decide)), hb293⟩), List.forall_mem_cons.mpr ⟨(show cpI 6 57 4294967295 (wget w294 90) from ⟨_, hr295, hb301⟩), fun _ h => absurd h List.not_mem_nil⟩⟩)) (by omega) (by omega)) rfl (hb296.get (by decide) (hb288.get (by decide) (hF45.get (by decide) h82_31))) rfl rfl rfl rfl rfl rfl (fun n306 w302 hq303 => ?_)
            obtain ⟨hn307, hI304, hF305⟩ := hq303
            have hT308 : bT (fun j => rwv w 83 (20 + j)) (rwv w 88) pi_ = n306 := by
              rw [hn307, rwf_eq ((hF45.tr ((xFr.of (S := [90, 91, 92, 93, 94]) hb288 (by decide)).tr (xFr.of (S := [90, 91, 92, 93, 94]) hb296 (by decide)))).1 83 (by decide)), rwf_eq ((hF45.tr ((xFr.of (S := [90, 91, 92, 93, 94]) hb288 (by decide)).tr (xFr.of (S := [90, 91, 92, 93, 94]) hb296 (by decide)))).1 88 (by decide))]
              rfl
            have hl309 : 1 ≤ n306 ∧ n306 ≤ 99 := by
              have q := xMnv.lay hI (k := rwv w 88 pi_) (i := 0) (hb pi_ (by omega)) (by decide)
              rw [← hT308]
              exact q
            refine xg_t (xg_iadd (u := hh) (v := n306) (z := hh + n306) xnm0 xnm0 (by omega)) ?_
            refine xg_t (xg_istore (l1 := [(3, (0, 0)), (0, (2, 82)), (2, (0, pi_))]) rfl rfl rfl) ?_
            refine xg_t (xg_iload (va := (0, 0)) rfl rfl) ?_
            refine xg_t (xg_ifT (u := 0) rfl xnm0 (by decide)) ?_
            refine xg_t (xg_blk (b := [(99, 1, 0, 0, 0, 0), (100, 1, 2, 2, 0, 0), (101, 1, 3, 0, 0, 0), (102, 3, 13, 181, 96, 222), (105, 1, 0, 0, 0, 0), (106, 1, 2, 2, 0, 0), (107, 1, 3, 1, 0, 0), (108, 3, 13, 181, 96, 222), (111, 1, 16, 0, 0, 0), (112, 1, 49, 0, 0, 0), (113, 2, 54, 4, 0, 0), (115, 1, 0, 0, 0, 0), (116, 3, 1, 12, 19, 38), (119, 1, 0, 0, 0, 0), (120, 3, 1, 12, 18, 35), (123, 1, 2, 2, 0, 0), (124, 1, 10, 0, 0, 0), (125, 1, 39, 0, 0, 0), (126, 1, 64, 0, 0, 0), (127, 2, 53, 4, 0, 0), (129, 1, 3, 2, 0, 0), (130, 1, 0, 0, 0, 0), (131, 3, 1, 12, 17, 32), (134, 1, 2, 2, 0, 0), (135, 1, 10, 0, 0, 0), (136, 1, 16, 0, 0, 0), (137, 1, 0, 0, 0, 0), (138, 1, 2, 2, 0, 0), (139, 1, 3, 0, 0, 0), (140, 3, 13, 181, 96, 222), (143, 1, 11, 0, 0, 0), (144, 1, 49, 0, 0, 0), (145, 1, 55, 0, 0, 0), (146, 1, 56, 0, 0, 0), (147, 1, 65, 0, 0, 0), (148, 1, 0, 0, 0, 0), (149, 3, 1, 12, 20, 42), (152, 1, 0, 0, 0, 0), (153, 3, 1, 12, 18, 35), (156, 1, 2, 2, 0, 0), (157, 1, 10, 0, 0, 0), (158, 1, 39, 0, 0, 0), (159, 1, 64, 0, 0, 0), (160, 3, 52, 2, 0, 225), (163, 2, 53, 4, 0, 0), (165, 1, 55, 0, 0, 0), (166, 1, 56, 0, 0, 0), (167, 1, 65, 0, 0, 0), (168, 3, 9, 2, 1, 0), (171, 3, 8, 4, 0, 0)]) rfl) ?_
            refine xg_t (xg_aload (va := (2, 82)) rfl rfl) ?_
            refine xg_t (xg_iload (va := (0, pi_)) rfl rfl) ?_
            refine xg_t (xg_const) ?_
            refine xg_cVi mX12_layerOf (vs := [(0, pi_), (0, 0)]) (rest := []) (cn1 := 0) (sl1 := 0) rfl (mLayerOfX (hI304) (by omega) (by omega)) rfl (hF305.get (by decide) (hb296.get (by decide) (hb288.get (by decide) (hF45.get (by decide) h82_31)))) rfl rfl rfl rfl rfl rfl (fun n314 w310 hq311 => ?_)
            obtain ⟨hn315, hI312, hF313⟩ := hq311
            have hT316 : bT (fun j => rwv w 83 (20 + j)) (rwv w 88) pi_ = n314 := by
              rw [hn315, rwf_eq (((hF45.tr ((xFr.of (S := [90, 91, 92, 93, 94]) hb288 (by decide)).tr (xFr.of (S := [90, 91, 92, 93, 94]) hb296 (by decide)))).tr (hF305.up (by decide))).1 83 (by decide)), rwf_eq (((hF45.tr ((xFr.of (S := [90, 91, 92, 93, 94]) hb288 (by decide)).tr (xFr.of (S := [90, 91, 92, 93, 94]) hb296 (by decide)))).tr (hF305.up (by decide))).1 88 (by decide))]
              rfl
            have hl317 : 1 ≤ n314 ∧ n314 ≤ 99 := by
              have q := xMnv.lay hI (k := rwv w 88 pi_) (i := 0) (hb pi_ (by omega)) (by decide)
              rw [← hT316]
              exact q
            refine xg_t (xg_aload (va := (2, 82)) rfl rfl) ?_
            refine xg_t (xg_iload (va := (0, pi_)) rfl rfl) ?_
            refine xg_t (xg_const) ?_
            refine xg_cVi mX12_layerOf (vs := [(0, pi_), (0, 1)]) (rest := [(0, n314)]) (cn1 := 0) (sl1 := 0) rfl (mLayerOfX (hI312) (by omega) (by omega)) rfl (hF313.get (by decide) (hF305.get (by decide) (hb296.get (by decide) (hb288.get (by decide) (hF45.get (by decide) h82_31))))) rfl rfl rfl rfl rfl rfl (fun n322 w318 hq319 => ?_)
            obtain ⟨hn323, hI320, hF321⟩ := hq319
            have hT324 : bS (fun j => rwv w 83 (20 + j)) (rwv w 88) pi_ = n322 := by
              rw [hn323, rwf_eq ((((hF45.tr ((xFr.of (S := [90, 91, 92, 93, 94]) hb288 (by decide)).tr (xFr.of (S := [90, 91, 92, 93, 94]) hb296 (by decide)))).tr (hF305.up (by decide))).tr (hF313.up (by decide))).1 83 (by decide)), rwf_eq ((((hF45.tr ((xFr.of (S := [90, 91, 92, 93, 94]) hb288 (by decide)).tr (xFr.of (S := [90, 91, 92, 93, 94]) hb296 (by decide)))).tr (hF305.up (by decide))).tr (hF313.up (by decide))).1 88 (by decide))]
              rfl
            have hl325 : 1 ≤ n322 ∧ n322 ≤ 99 := by
              have q := xMnv.lay hI (k := rwv w 88 pi_) (i := 1) (hb pi_ (by omega)) (by decide)
              rw [← hT324]
              exact q
            have hm326 : n314 * n322 ≤ 99 * 99 := Nat.mul_le_mul (by omega) (by omega)
            refine xg_t (xg_imul (u := n314) (v := n322) (z := n314 * n322) xnm0 xnm0 (Nat.mod_eq_of_lt (by omega))) ?_
            refine xg_t (xg_i2l (u := n314 * n322) xnm0) ?_
            refine xg_t (xg_lre (b := n314 * n322) (by rw [xlp_eq]; exact nI_l (by omega))) ?_
            refine xg_t (xg_lstore (l1 := [(1, (0, hh + n306)), (3, (0, 0)), (0, (2, 82)), (2, (0, pi_))]) rfl rfl) ?_
            refine xg_t (xg_aload (va := (2, 82)) rfl rfl) ?_
            refine xg_t (xg_getf (va := (2, 92)) (hF321.get (by decide) (hF313.get (by decide) (hF305.get (by decide) (hb296.get (by decide) (hb288.get (by decide) (hF45.get (by decide) h82_31)))))) rfl) ?_
            refine xg_t (xg_aload (va := (2, 82)) rfl rfl) ?_
            refine xg_t (xg_getf (va := (2, 91)) (hF321.get (by decide) (hF313.get (by decide) (hF305.get (by decide) (hb296.get (by decide) (hb288.get (by decide) (hF45.get (by decide) h82_31)))))) rfl) ?_
            refine xg_t (xg_iload (va := (0, pi_)) rfl rfl) ?_
            refine xg_ialdB (n := pi_) (B := 5) ((((hr287.but hb296 (by decide)).fr hF305 (by decide)).fr hF313 (by decide)).fr hF321 (by decide)) (hb293) xnm0 (by omega) (fun u327 hu328 he329 => ?_)
            have hd330 : u327 = u282 := he329.symm.trans he291
            refine xg_t (xg_dup2 rfl) ?_
            obtain ⟨l331, hz332⟩ : ∃ z, g92_60 u327 = z := ⟨_, rfl⟩
            refine xg_t (xg_lald (n := u327) (((((h92_61.but hb288 (by decide)).but hb296 (by decide)).fr hF305 (by decide)).fr hF313 (by decide)).fr hF321 (by decide)) xnm0 (by omega) hz332) ?_
            refine xg_t (xg_lload (u := n314 * n322) rfl) ?_
            refine xg_t (xg_const) ?_
            refine xg_t (xg_aload (va := (2, 82)) rfl rfl) ?_
            refine xg_t (xg_getf (va := (2, 90)) (hF321.get (by decide) (hF313.get (by decide) (hF305.get (by decide) (hb296.get (by decide) (hb288.get (by decide) (hF45.get (by decide) h82_31)))))) rfl) ?_
            refine xg_t (xg_iload (va := (0, pi_)) rfl rfl) ?_
            refine xg_ialdB (n := pi_) (B := 4294967295) (((hr295.fr hF305 (by decide)).fr hF313 (by decide)).fr hF321 (by decide)) (hb301) xnm0 (by omega) (fun u333 hu334 he335 => ?_)
            have hd336 : u333 = hh := he335.symm.trans he299
            refine xg_t (xg_imul (u := 2) (v := u333) (z := 2 * u333) xnm0 xnm0 (by omega)) ?_
            refine xg_t (xg_aload (va := (2, 82)) rfl rfl) ?_
            refine xg_t (xg_iload (va := (0, pi_)) rfl rfl) ?_
            refine xg_t (xg_const) ?_
            refine xg_cVi mX12_layerOf (vs := [(0, pi_), (0, 0)]) (rest := [(0, 2 * u333), (4, n314 * n322), (4, l331), (0, u327), (2, 92)]) (cn1 := 0) (sl1 := 0) rfl (mLayerOfX (hI320) (by omega) (by omega)) rfl (hF321.get (by decide) (hF313.get (by decide) (hF305.get (by decide) (hb296.get (by decide) (hb288.get (by decide) (hF45.get (by decide) h82_31)))))) rfl rfl rfl rfl rfl rfl (fun n341 w337 hq338 => ?_)
            obtain ⟨hn342, hI339, hF340⟩ := hq338
            have hT343 : bT (fun j => rwv w 83 (20 + j)) (rwv w 88) pi_ = n341 := by
              rw [hn342, rwf_eq (((((hF45.tr ((xFr.of (S := [90, 91, 92, 93, 94]) hb288 (by decide)).tr (xFr.of (S := [90, 91, 92, 93, 94]) hb296 (by decide)))).tr (hF305.up (by decide))).tr (hF313.up (by decide))).tr (hF321.up (by decide))).1 83 (by decide)), rwf_eq (((((hF45.tr ((xFr.of (S := [90, 91, 92, 93, 94]) hb288 (by decide)).tr (xFr.of (S := [90, 91, 92, 93, 94]) hb296 (by decide)))).tr (hF305.up (by decide))).tr (hF313.up (by decide))).tr (hF321.up (by decide))).1 88 (by decide))]
              rfl
            have hl344 : 1 ≤ n341 ∧ n341 ≤ 99 := by
              have q := xMnv.lay hI (k := rwv w 88 pi_) (i := 0) (hb pi_ (by omega)) (by decide)
              rw [← hT343]
              exact q
            refine xg_t (xg_iadd (u := 2 * u333) (v := n341) (z := (2 * u333) + n341) xnm0 xnm0 (by omega)) ?_
            refine xg_t (xg_i2l (u := (2 * u333) + n341) xnm0) ?_
            refine xg_t (xg_lre (b := (2 * u333) + n341) (by rw [xlp_eq]; exact nI_l (by omega))) ?_
            refine xg_t (xg_lmul (u := n314 * n322) (v := (2 * u333) + n341)) ?_
            refine xg_t (xg_lre (b := (n314 * n322) * ((2 * u333) + n341)) (by rw [xlp_eq]; exact lN_mul _ _)) ?_
            refine xg_t (xg_ladd (u := l331) (v := (n314 * n322) * ((2 * u333) + n341))) ?_
            refine xg_t (xg_lre (b := l331 + ((n314 * n322) * ((2 * u333) + n341))) (by rw [xlp_eq]; exact lN_add _ _)) ?_
            refine xg_last (n := u327) (u := l331 + ((n314 * n322) * ((2 * u333) + n341))) ((((((h92_61.but hb288 (by decide)).but hb296 (by decide)).fr hF305 (by decide)).fr hF313 (by decide)).fr hF321 (by decide)).fr hF340 (by decide)) xnm0 (by omega) (fun w345 hr346 hb347 => ?_)
            obtain ⟨g348, hg349⟩ : ∃ g : Nat → Nat, g = (fun j => if j = u327 then l331 + ((n314 * n322) * ((2 * u333) + n341)) else g92_60 j) := ⟨_, rfl⟩
            rw [← hg349] at hr346
            have he350 : g348 u327 = l331 + ((n314 * n322) * ((2 * u333) + n341)) := by rw [hg349]; exact if_pos rfl
            have hk351 : ∀ j, j ≠ u327 → g348 j = g92_60 j := fun j hj => by rw [hg349]; exact if_neg hj
            refine xg_t (xg_aload (va := (2, 82)) rfl rfl) ?_
            refine xg_t (xg_getf (va := (2, 93)) (hb347.get (by decide) (hF340.get (by decide) (hF321.get (by decide) (hF313.get (by decide) (hF305.get (by decide) (hb296.get (by decide) (hb288.get (by decide) (hF45.get (by decide) h82_31)))))))) rfl) ?_
            refine xg_t (xg_aload (va := (2, 82)) rfl rfl) ?_
            refine xg_t (xg_getf (va := (2, 91)) (hb347.get (by decide) (hF340.get (by decide) (hF321.get (by decide) (hF313.get (by decide) (hF305.get (by decide) (hb296.get (by decide) (hb288.get (by decide) (hF45.get (by decide) h82_31)))))))) rfl) ?_
            refine xg_t (xg_iload (va := (0, pi_)) rfl rfl) ?_
            refine xg_ialdB (n := pi_) (B := 5) ((((((hr287.but hb296 (by decide)).fr hF305 (by decide)).fr hF313 (by decide)).fr hF321 (by decide)).fr hF340 (by decide)).but hb347 (by decide)) (hb293) xnm0 (by omega) (fun u352 hu353 he354 => ?_)
            have hd355 : u352 = u282 := he354.symm.trans he291
            refine xg_t (xg_dup2 rfl) ?_
            obtain ⟨l356, hz357⟩ : ∃ z, g93_63 u352 = z := ⟨_, rfl⟩
            refine xg_t (xg_lald (n := u352) (((((((h93_64.but hb288 (by decide)).but hb296 (by decide)).fr hF305 (by decide)).fr hF313 (by decide)).fr hF321 (by decide)).fr hF340 (by decide)).but hb347 (by decide)) xnm0 (by omega) hz357) ?_
            refine xg_t (xg_ldc2) ?_
            refine xg_t (xg_lload (u := n314 * n322) rfl) ?_
            refine xg_t (xg_lmul (u := 2) (v := n314 * n322)) ?_
            refine xg_t (xg_lre (b := 2 * (n314 * n322)) (by rw [xlp_eq]; exact lN_mul _ _)) ?_
            refine xg_t (xg_ladd (u := l356) (v := 2 * (n314 * n322))) ?_
            refine xg_t (xg_lre (b := l356 + (2 * (n314 * n322))) (by rw [xlp_eq]; exact lN_add _ _)) ?_
            refine xg_last (n := u352) (u := l356 + (2 * (n314 * n322))) (((((((h93_64.but hb288 (by decide)).but hb296 (by decide)).fr hF305 (by decide)).fr hF313 (by decide)).fr hF321 (by decide)).fr hF340 (by decide)).but hb347 (by decide)) xnm0 (by omega) (fun w358 hr359 hb360 => ?_)
            obtain ⟨g361, hg362⟩ : ∃ g : Nat → Nat, g = (fun j => if j = u352 then l356 + (2 * (n314 * n322)) else g93_63 j) := ⟨_, rfl⟩
            rw [← hg362] at hr359
            have he363 : g361 u352 = l356 + (2 * (n314 * n322)) := by rw [hg362]; exact if_pos rfl
            have hk364 : ∀ j, j ≠ u352 → g361 j = g93_63 j := fun j hj => by rw [hg362]; exact if_neg hj
            refine xg_t (xg_iinc (u := pi_) (z := pi_ + 1) (l1 := [(4, (4, n314 * n322)), (1, (0, hh + n306)), (3, (0, 0)), (0, (2, 82))]) rfl rfl (by omega) rfl) ?_
            refine xg_t (xg_goto) ?_
            refine xg_t (xg_drop (l1 := [(0, (2, 82)), (1, (0, hh + n306)), (2, (0, pi_ + 1))]) (List.forall_mem_cons.mpr ⟨List.mem_cons_of_mem _ (List.mem_cons_of_mem _ (List.mem_cons_of_mem _ (List.mem_cons_of_mem _ (List.mem_cons_self)))), List.forall_mem_cons.mpr ⟨List.mem_cons_of_mem _ (List.mem_cons_of_mem _ (List.mem_cons_self)), List.forall_mem_cons.mpr ⟨List.mem_cons_self, fun _ h => absurd h List.not_mem_nil⟩⟩⟩)) ?_
            have ht365 : (n314 * n322) * ((2 * u333) + n341) = bt1 (fun j => rwv w 83 (20 + j)) (rwv w 88) pi_ := by
              unfold bt1
              rw [hT316, hT324, ← hh51, hd336, show n341 = n314 from hT343.symm.trans hT316]
            have ht366 : 2 * (n314 * n322) = bt2 (fun j => rwv w 83 (20 + j)) (rwv w 88) pi_ := by
              unfold bt2
              rw [hT316, hT324]
            have hz367 : l331 = bA (fun j => rwv w 83 (20 + j)) (bt1 (fun j => rwv w 83 (20 + j)) (rwv w 88)) pi_ (bfs (fun j => rwv w 83 (20 + j)) (pi_ - 1)) := by
              have q := (hq50 (pi_ - 1) (by omega)).2.2.1
              rw [hf285] at q ⊢
              rw [← hz332, hd330, ← rwk_of (j := u282) h92_61 (by omega)]
              exact q
            have hz368 : l356 = bA (fun j => rwv w 83 (20 + j)) (bt2 (fun j => rwv w 83 (20 + j)) (rwv w 88)) pi_ (bfs (fun j => rwv w 83 (20 + j)) (pi_ - 1)) := by
              have q := (hq50 (pi_ - 1) (by omega)).2.2.2
              rw [hf285] at q ⊢
              rw [← hz357, hd355, ← rwk_of (j := u282) h93_64 (by omega)]
              exact q
            have hbs370 := bs_n (r := (fun j => rwv w 83 (20 + j))) (f := (bt1 (fun j => rwv w 83 (20 + j)) (rwv w 88))) (p := pi_) (z := l331) (t := (n314 * n322) * ((2 * u333) + n341)) (by omega) (by rw [hG178]; omega) hz367 ht365
            have hbs371 := bs_n (r := (fun j => rwv w 83 (20 + j))) (f := (bt2 (fun j => rwv w 83 (20 + j)) (rwv w 88))) (p := pi_) (z := l356) (t := 2 * (n314 * n322)) (by omega) (by rw [hG178]; omega) hz368 ht366
            have hfs369 : bfs (fun j => rwv w 83 (20 + j)) pi_ = u282 := hbs370.2.trans hf285
            have hst372 := bd_step (r := (fun j => rwv w 83 (20 + j))) (o := (rwv w 88)) (p := pi_) (F := rwv w43 91) (H := rwv w43 90) (O := rwk w43 92) (U := rwk w43 93) (F' := rwv w358 91) (H' := rwv w358 90) (O' := rwk w358 92) (U' := rwk w358 93) hq50 ((rwv_of (((((((hr287.but hb296 (by decide)).fr hF305 (by decide)).fr hF313 (by decide)).fr hF321 (by decide)).fr hF340 (by decide)).but hb347 (by decide)).but hb360 (by decide)) (by omega)).trans (he291.trans hfs369.symm)) (fun q hq => by rw [rwv_of (j := q) (((((((hr287.but hb296 (by decide)).fr hF305 (by decide)).fr hF313 (by decide)).fr hF321 (by decide)).fr hF340 (by decide)).but hb347 (by decide)).but hb360 (by decide)) (by omega), hk292 q (by omega), ← rwv_of (j := q) h91_58 (by omega)]) ((rwv_of ((((((hr295.fr hF305 (by decide)).fr hF313 (by decide)).fr hF321 (by decide)).fr hF340 (by decide)).but hb347 (by decide)).but hb360 (by decide)) (by omega)).trans (he299.trans hh51)) (fun q hq => by rw [rwv_of (j := q) ((((((hr295.fr hF305 (by decide)).fr hF313 (by decide)).fr hF321 (by decide)).fr hF340 (by decide)).but hb347 (by decide)).but hb360 (by decide)) (by omega), hk300 q (by omega), ← rwv_of (j := q) h90_55 (by omega)]) (by rw [hfs369]; exact (congrArg (rwk w358 92) hd330.symm).trans ((rwk_of (hr346.but hb360 (by decide)) (by omega)).trans (he350.trans hbs370.1))) (fun s hs hn => by rw [hfs369] at hn; rw [rwk_of (j := s) (hr346.but hb360 (by decide)) (by omega), hk351 s (by rw [hd330]; exact hn), ← rwk_of (j := s) h92_61 (by omega)]) (by rw [hfs369]; exact (congrArg (rwk w358 93) hd355.symm).trans ((rwk_of hr359 (by omega)).trans (he363.trans hbs371.1))) (fun s hs hn => by rw [hfs369] at hn; rw [rwk_of (j := s) hr359 (by omega), hk364 s (by rw [hd355]; exact hn), ← rwk_of (j := s) h93_64 (by omega)])
            have hp373 : bhg (fun j => rwv w 83 (20 + j)) (rwv w 88) (pi_ + 1) = bhg (fun j => rwv w 83 (20 + j)) (rwv w 88) pi_ + bT (fun j => rwv w 83 (20 + j)) (rwv w 88) pi_ := rfl
            rw [hT308] at hp373
            exact ih41 (hh + n306) (pi_ + 1) w358 (by omega) (by omega) (by omega) (xMnv.up (S := [92, 93]) hI339 ((xFr.of (S := [92, 93]) hb347 (by decide)).tr (xFr.of (S := [92, 93]) hb360 (by decide))) (List.forall_mem_cons.mpr ⟨(show cpJ 6 59 (wget w358 92) from ⟨_, (hr346.but hb360 (by decide))⟩), List.forall_mem_cons.mpr ⟨(show cpJ 6 60 (wget w358 93) from ⟨_, hr359⟩), fun _ h => absurd h List.not_mem_nil⟩⟩)) (((((((hF45.tr ((xFr.of (S := [90, 91, 92, 93, 94]) hb288 (by decide)).tr (xFr.of (S := [90, 91, 92, 93, 94]) hb296 (by decide)))).tr (hF305.up (by decide))).tr (hF313.up (by decide))).tr (hF321.up (by decide))).tr (hF340.up (by decide))).tr ((xFr.of (S := [90, 91, 92, 93, 94]) hb347 (by decide)).tr (xFr.of (S := [90, 91, 92, 93, 94]) hb360 (by decide))))) (⟨hst372, ⟨by omega, by omega⟩, by omega⟩)
      · refine xg_t (xg_icT (u := pi_) (v := u66) rfl xnm0 xnm0 (xj_geT (by omega) (by omega))) ?_
        refine xg_t (xg_blk (b := [(174, 1, 3, 0, 0, 0), (175, 1, 15, 2, 0, 0)]) rfl) ?_
        refine xg_t (xg_const) ?_
        refine xg_t (xg_istore (l1 := [(0, (2, 82)), (1, (0, hh))]) rfl rfl rfl) ?_
        refine xg_t (xg_drop (l1 := [(0, (2, 82)), (2, (0, 0))]) (List.forall_mem_cons.mpr ⟨List.mem_cons_of_mem _ (List.mem_cons_self), List.forall_mem_cons.mpr ⟨List.mem_cons_self, fun _ h => absurd h List.not_mem_nil⟩⟩)) ?_
        have hpn380 : pi_ = rwv w 83 0 := by omega
        have hq381 := hq50
        rw [hpn380] at hq381
        have key374 : ∀ (m376 : Nat) (pj : Nat) (w377 : List (List xE)), 6 - pj < m376 → pj ≤ 6 → xMnv w377 → xFr [90, 91, 92, 93, 94] w w377 → (∀ q, q < (rwv w 83 0) → rwv w377 91 q = bfs (fun j => rwv w 83 (20 + j)) q ∧ rwv w377 90 q = bhg (fun j => rwv w 83 (20 + j)) (rwv w 88) q ∧ rwk w377 92 (bfs (fun j => rwv w 83 (20 + j)) q) = bA (fun j => rwv w 83 (20 + j)) (bt1 (fun j => rwv w 83 (20 + j)) (rwv w 88)) (rwv w 83 0) (bfs (fun j => rwv w 83 (20 + j)) q) ∧ rwk w377 93 (bfs (fun j => rwv w 83 (20 + j)) q) = bA (fun j => rwv w 83 (20 + j)) (bt2 (fun j => rwv w 83 (20 + j)) (rwv w 88)) (rwv w 83 0) (bfs (fun j => rwv w 83 (20 + j)) q)) ∧ (∀ q, q < pj → rwk w377 92 q = bO (fun j => rwv w 83 (20 + j)) (rwv w 88) (rwv w 83 0) q ∧ rwk w377 93 q = bU (fun j => rwv w 83 (20 + j)) (rwv w 88) (rwv w 83 0) q ∧ lN (rwk w377 94 q) = bfr (fun j => rwv w 83 (20 + j)) (rwv w 88) (rwv w 83 0) q) ∧ pj ≤ (rwv w 83 0) → xTo (d + 1) mX12_blocks (176, [], [(0, (2, 82)), (2, (0, pj))], [], (w377, bd, fc, 0, 0, rr)) (fun φ => ∃ w', xEnd 0 [] (w', bd, fc, 0, 0, rr) φ ∧ xMnv w' ∧ xFr [90, 91, 92, 93, 94] w w' ∧ (∀ q, q < rwv w 83 0 → rwv w' 91 q = bfs (fun j => rwv w 83 (20 + j)) q ∧ rwv w' 90 q = bhg (fun j => rwv w 83 (20 + j)) (rwv w 88) q ∧ rwk w' 92 q = bO (fun j => rwv w 83 (20 + j)) (rwv w 88) (rwv w 83 0) q ∧ rwk w' 93 q = bU (fun j => rwv w 83 (20 + j)) (rwv w 88) (rwv w 83 0) q ∧ lN (rwk w' 94 q) = bfr (fun j => rwv w 83 (20 + j)) (rwv w 88) (rwv w 83 0) q)) := by
          intro m376
          induction m376 with
          | zero => intro pj w377 hz; exact absurd hz (Nat.not_lt_zero _)
          | succ m376 ih375 =>
            intro pj w377 hm384 hn382 hI378 hF379 he383
            obtain ⟨hq385, hf386, hn387⟩ := he383
            refine xoI (hI378 90 (by decide) (by decide) : cpI 6 57 4294967295 (wget w377 90)) (fun g90_388 h90_389 hb390 => ?_)
            refine xoI (hI378 91 (by decide) (by decide) : cpI 6 58 5 (wget w377 91)) (fun g91_391 h91_392 hb393 => ?_)
            obtain ⟨g92_394, h92_395⟩ := (hI378 92 (by decide) (by decide) : cpJ 6 59 (wget w377 92))
            have h92_395 : xRk 3 4 w377 92 6 59 g92_394 := h92_395
            obtain ⟨g93_397, h93_398⟩ := (hI378 93 (by decide) (by decide) : cpJ 6 60 (wget w377 93))
            have h93_398 : xRk 3 4 w377 93 6 60 g93_397 := h93_398
            obtain ⟨g94_400, h94_401⟩ := (hI378 94 (by decide) (by decide) : cpJ 6 61 (wget w377 94))
            have h94_401 : xRk 3 4 w377 94 6 61 g94_400 := h94_401
            refine xg_t (xg_blk (b := [(176, 1, 2, 2, 0, 0), (177, 1, 0, 0, 0, 0), (178, 3, 1, 12, 0, 7), (181, 1, 3, 0, 0, 0), (182, 1, 10, 0, 0, 0), (183, 3, 6, 303, 3, 0), (186, 1, 0, 0, 0, 0), (187, 3, 1, 12, 19, 38), (190, 1, 2, 2, 0, 0), (191, 1, 0, 0, 0, 0), (192, 3, 1, 12, 19, 38), (195, 1, 0, 0, 0, 0), (196, 3, 1, 12, 18, 35), (199, 1, 2, 2, 0, 0), (200, 1, 10, 0, 0, 0), (201, 1, 64, 0, 0, 0), (202, 1, 65, 0, 0, 0), (203, 1, 0, 0, 0, 0), (204, 3, 1, 12, 20, 42), (207, 1, 2, 2, 0, 0), (208, 1, 0, 0, 0, 0), (209, 3, 1, 12, 20, 42), (212, 1, 0, 0, 0, 0), (213, 3, 1, 12, 18, 35), (216, 1, 2, 2, 0, 0), (217, 1, 10, 0, 0, 0), (218, 1, 64, 0, 0, 0), (219, 1, 65, 0, 0, 0), (220, 1, 0, 0, 0, 0), (221, 3, 1, 12, 17, 32), (224, 1, 2, 2, 0, 0), (225, 1, 10, 0, 0, 0), (226, 1, 0, 0, 0, 0), (227, 1, 2, 2, 0, 0), (228, 1, 3, 0, 0, 0), (229, 3, 13, 181, 96, 222), (232, 1, 11, 0, 0, 0), (233, 1, 49, 0, 0, 0), (234, 1, 0, 0, 0, 0), (235, 3, 1, 12, 20, 42), (238, 1, 2, 2, 0, 0), (239, 1, 64, 0, 0, 0), (240, 1, 55, 0, 0, 0), (241, 1, 0, 0, 0, 0), (242, 3, 1, 12, 19, 38), (245, 1, 2, 2, 0, 0), (246, 1, 64, 0, 0, 0), (247, 1, 66, 0, 0, 0), (248, 1, 54, 3, 0, 0), (249, 1, 0, 0, 0, 0), (250, 3, 1, 12, 17, 32), (253, 1, 2, 2, 0, 0), (254, 1, 10, 0, 0, 0), (255, 1, 49, 0, 0, 0), (256, 1, 0, 0, 0, 0), (257, 3, 1, 12, 20, 42), (260, 1, 2, 2, 0, 0), (261, 1, 64, 0, 0, 0), (262, 1, 55, 0, 0, 0), (263, 1, 0, 0, 0, 0), (264, 3, 1, 12, 19, 38), (267, 1, 2, 2, 0, 0), (268, 1, 64, 0, 0, 0), (269, 1, 66, 0, 0, 0), (270, 2, 54, 5, 0, 0), (272, 1, 0, 0, 0, 0), (273, 3, 1, 12, 21, 45), (276, 1, 2, 2, 0, 0), (277, 2, 53, 5, 0, 0), (279, 3, 13, 221, 98, 227), (282, 1, 53, 3, 0, 0), (283, 3, 13, 221, 98, 227), (286, 1, 57, 0, 0, 0), (287, 3, 7, 295, 5, 0), (290, 2, 53, 5, 0, 0), (292, 3, 8, 296, 0, 0)]) rfl) ?_
            refine xg_t (xg_iload (va := (0, pj)) rfl rfl) ?_
            refine xg_t (xg_aload (va := (2, 82)) rfl rfl) ?_
            refine xg_t (xg_getf (va := (2, 83)) (hF379.get (by decide) h82_31) rfl) ?_
            refine xg_t (xg_const) ?_
            refine xg_ialdB (n := 0) (B := 4294967295) (h83_34.fr hF379 (by decide)) (hb35) xnm0 (by first | decide | omega) (fun u403 hu404 he405 => ?_)
            have hl406 : u403 ≤ 6 := by rw [← he405]; exact hx36.l0
            have hq407 : rwv w 83 0 = u403 := (rwv_of h83_34 (by omega)).trans he405
            by_cases hc408 : pj < u403
            · refine xg_t (xg_icF (u := pj) (v := u403) rfl xnm0 xnm0 (xj_geF hc408 (by omega))) ?_
              refine xg_t (xg_aload (va := (2, 82)) rfl rfl) ?_
              refine xg_t (xg_getf (va := (2, 92)) (hF379.get (by decide) h82_31) rfl) ?_
              refine xg_t (xg_iload (va := (0, pj)) rfl rfl) ?_
              refine xg_t (xg_aload (va := (2, 82)) rfl rfl) ?_
              refine xg_t (xg_getf (va := (2, 92)) (hF379.get (by decide) h82_31) rfl) ?_
              refine xg_t (xg_aload (va := (2, 82)) rfl rfl) ?_
              refine xg_t (xg_getf (va := (2, 91)) (hF379.get (by decide) h82_31) rfl) ?_
              refine xg_t (xg_iload (va := (0, pj)) rfl rfl) ?_
              refine xg_ialdB (n := pj) (B := 5) h91_392 (hb393) xnm0 (by omega) (fun u409 hu410 he411 => ?_)
              have hf412 : bfs (fun j => rwv w 83 (20 + j)) pj = u409 := (hq385 pj (by omega)).1.symm.trans ((rwv_of h91_392 (by omega)).trans he411)
              obtain ⟨l413, hz414⟩ : ∃ z, g92_394 u409 = z := ⟨_, rfl⟩
              refine xg_t (xg_lald (n := u409) h92_395 xnm0 (by omega) hz414) ?_
              have hU415 : bO (fun j => rwv w 83 (20 + j)) (rwv w 88) (rwv w 83 0) pj = l413 := by
                have q := (hq385 pj (by omega)).2.2.1
                rw [hf412, rwk_of (j := u409) h92_395 (by omega), hz414] at q
                unfold bO
                rw [hf412]
                exact q.symm
              refine xg_last (n := pj) (u := l413) h92_395 xnm0 (by omega) (fun w416 hr417 hb418 => ?_)
              obtain ⟨g419, hg420⟩ : ∃ g : Nat → Nat, g = (fun j => if j = pj then l413 else g92_394 j) := ⟨_, rfl⟩
              rw [← hg420] at hr417
              have he421 : g419 pj = l413 := by rw [hg420]; exact if_pos rfl
              have hk422 : ∀ j, j ≠ pj → g419 j = g92_394 j := fun j hj => by rw [hg420]; exact if_neg hj
              refine xg_t (xg_aload (va := (2, 82)) rfl rfl) ?_
              refine xg_t (xg_getf (va := (2, 93)) (hb418.get (by decide) (hF379.get (by decide) h82_31)) rfl) ?_
              refine xg_t (xg_iload (va := (0, pj)) rfl rfl) ?_
              refine xg_t (xg_aload (va := (2, 82)) rfl rfl) ?_
              refine xg_t (xg_getf (va := (2, 93)) (hb418.get (by decide) (hF379.get (by decide) h82_31)) rfl) ?_
              refine xg_t (xg_aload (va := (2, 82)) rfl rfl) ?_
              refine xg_t (xg_getf (va := (2, 91)) (hb418.get (by decide) (hF379.get (by decide) h82_31)) rfl) ?_
              refine xg_t (xg_iload (va := (0, pj)) rfl rfl) ?_
              refine xg_ialdB (n := pj) (B := 5) (h91_392.but hb418 (by decide)) (hb393) xnm0 (by omega) (fun u423 hu424 he425 => ?_)
              have hf426 : bfs (fun j => rwv w 83 (20 + j)) pj = u423 := (hq385 pj (by omega)).1.symm.trans ((rwv_of h91_392 (by omega)).trans he425)
              obtain ⟨l427, hz428⟩ : ∃ z, g93_397 u423 = z := ⟨_, rfl⟩
              refine xg_t (xg_lald (n := u423) (h93_398.but hb418 (by decide)) xnm0 (by omega) hz428) ?_
              have hU429 : bU (fun j => rwv w 83 (20 + j)) (rwv w 88) (rwv w 83 0) pj = l427 := by
                have q := (hq385 pj (by omega)).2.2.2
                rw [hf426, rwk_of (j := u423) h93_398 (by omega), hz428] at q
                unfold bU
                rw [hf426]
                exact q.symm
              refine xg_last (n := pj) (u := l427) (h93_398.but hb418 (by decide)) xnm0 (by omega) (fun w430 hr431 hb432 => ?_)
              obtain ⟨g433, hg434⟩ : ∃ g : Nat → Nat, g = (fun j => if j = pj then l427 else g93_397 j) := ⟨_, rfl⟩
              rw [← hg434] at hr431
              have he435 : g433 pj = l427 := by rw [hg434]; exact if_pos rfl
              have hk436 : ∀ j, j ≠ pj → g433 j = g93_397 j := fun j hj => by rw [hg434]; exact if_neg hj
              refine xg_t (xg_aload (va := (2, 82)) rfl rfl) ?_
              refine xg_t (xg_getf (va := (2, 90)) (hb432.get (by decide) (hb418.get (by decide) (hF379.get (by decide) h82_31))) rfl) ?_
              refine xg_t (xg_iload (va := (0, pj)) rfl rfl) ?_
              refine xg_ialdB (n := pj) (B := 4294967295) ((h90_389.but hb418 (by decide)).but hb432 (by decide)) (hb390) xnm0 (by omega) (fun u437 hu438 he439 => ?_)
              have hB440 : bhg (fun j => rwv w 83 (20 + j)) (rwv w 88) pj = u437 := (hq385 pj (by omega)).2.1.symm.trans ((rwv_of h90_389 (by omega)).trans he439)
              have hl441 : u437 ≤ 594 := by
                have q := bhg_le (r := (fun j => rwv w 83 (20 + j))) (o := (rwv w 88)) (p := pj) (fun q h => (xMnv.lay hI (i := 0) (hb q (by omega)) (by decide)).2)
                omega
              refine xg_t (xg_aload (va := (2, 82)) rfl rfl) ?_
              refine xg_t (xg_iload (va := (0, pj)) rfl rfl) ?_
              refine xg_t (xg_const) ?_
              refine xg_cVi mX12_layerOf (vs := [(0, pj), (0, 0)]) (rest := [(0, u437)]) (cn1 := 0) (sl1 := 0) rfl (mLayerOfX (xMnv.up (S := [92, 93]) hI378 ((xFr.of (S := [92, 93]) hb418 (by decide)).tr (xFr.of (S := [92, 93]) hb432 (by decide))) (List.forall_mem_cons.mpr ⟨(show cpJ 6 59 (wget w430 92) from ⟨_, (hr417.but hb432 (by decide))⟩), List.forall_mem_cons.mpr ⟨(show cpJ 6 60 (wget w430 93) from ⟨_, hr431⟩), fun _ h => absurd h List.not_mem_nil⟩⟩)) (by omega) (by omega)) rfl (hb432.get (by decide) (hb418.get (by decide) (hF379.get (by decide) h82_31))) rfl rfl rfl rfl rfl rfl (fun n446 w442 hq443 => ?_)
              obtain ⟨hn447, hI444, hF445⟩ := hq443
              have hT448 : bT (fun j => rwv w 83 (20 + j)) (rwv w 88) pj = n446 := by
                rw [hn447, rwf_eq ((hF379.tr ((xFr.of (S := [90, 91, 92, 93, 94]) hb418 (by decide)).tr (xFr.of (S := [90, 91, 92, 93, 94]) hb432 (by decide)))).1 83 (by decide)), rwf_eq ((hF379.tr ((xFr.of (S := [90, 91, 92, 93, 94]) hb418 (by decide)).tr (xFr.of (S := [90, 91, 92, 93, 94]) hb432 (by decide)))).1 88 (by decide))]
                rfl
              have hl449 : 1 ≤ n446 ∧ n446 ≤ 99 := by
                have q := xMnv.lay hI (k := rwv w 88 pj) (i := 0) (hb pj (by omega)) (by decide)
                rw [← hT448]
                exact q
              refine xg_t (xg_iadd (u := u437) (v := n446) (z := u437 + n446) xnm0 xnm0 (by omega)) ?_
              refine xg_t (xg_i2l (u := u437 + n446) xnm0) ?_
              refine xg_t (xg_lre (b := u437 + n446) (by rw [xlp_eq]; exact nI_l (by omega))) ?_
              refine xg_t (xg_aload (va := (2, 82)) rfl rfl) ?_
              refine xg_t (xg_getf (va := (2, 93)) (hF445.get (by decide) (hb432.get (by decide) (hb418.get (by decide) (hF379.get (by decide) h82_31)))) rfl) ?_
              refine xg_t (xg_iload (va := (0, pj)) rfl rfl) ?_
              obtain ⟨l450, hz451⟩ : ∃ z, g433 pj = z := ⟨_, rfl⟩
              refine xg_t (xg_lald (n := pj) (hr431.fr hF445 (by decide)) xnm0 (by omega) hz451) ?_
              have hU452 : bU (fun j => rwv w 83 (20 + j)) (rwv w 88) (rwv w 83 0) pj = l450 := hU429.trans (he435.symm.trans hz451)
              refine xg_t (xg_lmul (u := u437 + n446) (v := l450)) ?_
              refine xg_t (xg_lre (b := (u437 + n446) * l450) (by rw [xlp_eq]; exact lN_mul _ _)) ?_
              refine xg_t (xg_aload (va := (2, 82)) rfl rfl) ?_
              refine xg_t (xg_getf (va := (2, 92)) (hF445.get (by decide) (hb432.get (by decide) (hb418.get (by decide) (hF379.get (by decide) h82_31)))) rfl) ?_
              refine xg_t (xg_iload (va := (0, pj)) rfl rfl) ?_
              obtain ⟨l453, hz454⟩ : ∃ z, g419 pj = z := ⟨_, rfl⟩
              refine xg_t (xg_lald (n := pj) ((hr417.but hb432 (by decide)).fr hF445 (by decide)) xnm0 (by omega) hz454) ?_
              have hU455 : bO (fun j => rwv w 83 (20 + j)) (rwv w 88) (rwv w 83 0) pj = l453 := hU415.trans (he421.symm.trans hz454)
              refine xg_klE (xg_lsub (u := (u437 + n446) * l450) (v := l453)) (fun l456 hz457 => ?_)
              refine xg_t (xg_lstore (l1 := [(0, (2, 82)), (2, (0, pj))]) rfl rfl) ?_
              refine xg_t (xg_aload (va := (2, 82)) rfl rfl) ?_
              refine xg_t (xg_getf (va := (2, 90)) (hF445.get (by decide) (hb432.get (by decide) (hb418.get (by decide) (hF379.get (by decide) h82_31)))) rfl) ?_
              refine xg_t (xg_iload (va := (0, pj)) rfl rfl) ?_
              refine xg_ialdB (n := pj) (B := 4294967295) (((h90_389.but hb418 (by decide)).but hb432 (by decide)).fr hF445 (by decide)) (hb390) xnm0 (by omega) (fun u458 hu459 he460 => ?_)
              have hB461 : bhg (fun j => rwv w 83 (20 + j)) (rwv w 88) pj = u458 := (hq385 pj (by omega)).2.1.symm.trans ((rwv_of h90_389 (by omega)).trans he460)
              have hl462 : u458 ≤ 594 := by
                have q := bhg_le (r := (fun j => rwv w 83 (20 + j))) (o := (rwv w 88)) (p := pj) (fun q h => (xMnv.lay hI (i := 0) (hb q (by omega)) (by decide)).2)
                omega
              refine xg_t (xg_i2l (u := u458) xnm0) ?_
              refine xg_t (xg_lre (b := u458) (by rw [xlp_eq]; exact nI_l (by omega))) ?_
              refine xg_t (xg_aload (va := (2, 82)) rfl rfl) ?_
              refine xg_t (xg_getf (va := (2, 93)) (hF445.get (by decide) (hb432.get (by decide) (hb418.get (by decide) (hF379.get (by decide) h82_31)))) rfl) ?_
              refine xg_t (xg_iload (va := (0, pj)) rfl rfl) ?_
              obtain ⟨l463, hz464⟩ : ∃ z, g433 pj = z := ⟨_, rfl⟩
              refine xg_t (xg_lald (n := pj) (hr431.fr hF445 (by decide)) xnm0 (by omega) hz464) ?_
              have hU465 : bU (fun j => rwv w 83 (20 + j)) (rwv w 88) (rwv w 83 0) pj = l463 := hU429.trans (he435.symm.trans hz464)
              refine xg_t (xg_lmul (u := u458) (v := l463)) ?_
              refine xg_t (xg_lre (b := u458 * l463) (by rw [xlp_eq]; exact lN_mul _ _)) ?_
              refine xg_t (xg_aload (va := (2, 82)) rfl rfl) ?_
              refine xg_t (xg_getf (va := (2, 92)) (hF445.get (by decide) (hb432.get (by decide) (hb418.get (by decide) (hF379.get (by decide) h82_31)))) rfl) ?_
              refine xg_t (xg_iload (va := (0, pj)) rfl rfl) ?_
              obtain ⟨l466, hz467⟩ : ∃ z, g419 pj = z := ⟨_, rfl⟩
              refine xg_t (xg_lald (n := pj) ((hr417.but hb432 (by decide)).fr hF445 (by decide)) xnm0 (by omega) hz467) ?_
              have hU468 : bO (fun j => rwv w 83 (20 + j)) (rwv w 88) (rwv w 83 0) pj = l466 := hU415.trans (he421.symm.trans hz467)
              refine xg_klE (xg_lsub (u := u458 * l463) (v := l466)) (fun l469 hz470 => ?_)
              refine xg_t (xg_lstore (l1 := [(3, (4, l456)), (0, (2, 82)), (2, (0, pj))]) rfl rfl) ?_
              refine xg_t (xg_aload (va := (2, 82)) rfl rfl) ?_
              refine xg_t (xg_getf (va := (2, 94)) (hF445.get (by decide) (hb432.get (by decide) (hb418.get (by decide) (hF379.get (by decide) h82_31)))) rfl) ?_
              refine xg_t (xg_iload (va := (0, pj)) rfl rfl) ?_
              refine xg_t (xg_lload (u := l469) rfl) ?_
              refine xg_cSj mX12_size0 (vs := [(4, l469)]) (rest := [(0, pj), (2, 94)]) (cn1 := 0) (sl1 := 0) rfl (mSize0X (hI444)) rfl rfl rfl rfl rfl rfl rfl (fun l475 w471 hq472 => ?_)
              obtain ⟨hn476, hI473, hF474⟩ := hq472
              refine xg_t (xg_lload (u := l456) rfl) ?_
              refine xg_cSj mX12_size0 (vs := [(4, l456)]) (rest := [(4, l475), (0, pj), (2, 94)]) (cn1 := 0) (sl1 := 0) rfl (mSize0X (hI473)) rfl rfl rfl rfl rfl rfl rfl (fun l481 w477 hq478 => ?_)
              obtain ⟨hn482, hI479, hF480⟩ := hq478
              refine xg_t (xg_lcmp (u := l475) (v := l481)) ?_
              by_cases hc483 : lN l481 < lN l475
              · refine xg_t (xg_ifF (u := xpt (lg_cmp (lN l475) (lN l481))) rfl xnm0 (xlj_leF hc483)) ?_
                refine xg_t (xg_lload (u := l469) rfl) ?_
                refine xg_t (xg_goto) ?_
                refine xg_t (xg_blk (b := [(296, 1, 65, 0, 0, 0), (297, 3, 9, 2, 1, 0), (300, 3, 8, 176, 0, 0)]) rfl) ?_
                refine xg_last (n := pj) (u := l469) (((((h94_401.but hb418 (by decide)).but hb432 (by decide)).fr hF445 (by decide)).fr hF474 (by decide)).fr hF480 (by decide)) xnm0 (by omega) (fun w484 hr485 hb486 => ?_)
                obtain ⟨g487, hg488⟩ : ∃ g : Nat → Nat, g = (fun j => if j = pj then l469 else g94_400 j) := ⟨_, rfl⟩
                rw [← hg488] at hr485
                have he489 : g487 pj = l469 := by rw [hg488]; exact if_pos rfl
                have hk490 : ∀ j, j ≠ pj → g487 j = g94_400 j := fun j hj => by rw [hg488]; exact if_neg hj
                refine xg_t (xg_iinc (u := pj) (z := pj + 1) (l1 := [(5, (4, l469)), (3, (4, l456)), (0, (2, 82))]) rfl rfl (by omega) rfl) ?_
                refine xg_t (xg_goto) ?_
                refine xg_t (xg_drop (l1 := [(0, (2, 82)), (2, (0, pj + 1))]) (List.forall_mem_cons.mpr ⟨List.mem_cons_of_mem _ (List.mem_cons_of_mem _ (List.mem_cons_of_mem _ (List.mem_cons_self))), List.forall_mem_cons.mpr ⟨List.mem_cons_self, fun _ h => absurd h List.not_mem_nil⟩⟩)) ?_
                have hx491 : lN l469 = blo (fun j => rwv w 83 (20 + j)) (rwv w 88) (rwv w 83 0) pj := by
                  unfold blo
                  rw [hB461, hU465, hU468]
                  exact hz470
                have hx492 : lN l456 = bhi (fun j => rwv w 83 (20 + j)) (rwv w 88) (rwv w 83 0) pj := by
                  rw [← bhi_eq, hB440, hT448, hU452, hU455]
                  exact hz457
                have hx493 : lN l469 = bfr (fun j => rwv w 83 (20 + j)) (rwv w 88) (rwv w 83 0) pj := by
                  unfold bfr
                  rw [← hx492, ← hx491]
                  have q1 : lN l475 = iab (lN l469) := hn476
                  have q2 : lN l481 = iab (lN l456) := hn482
                  rw [← q1, ← q2, if_pos hc483]
                have hk494 := bd_copy (r := (fun j => rwv w 83 (20 + j))) (n := (rwv w 83 0)) (p := pj) (f := (bt1 (fun j => rwv w 83 (20 + j)) (rwv w 88))) (A := rwk w377 92) (A' := rwk w484 92) (fun q hq => (hq385 q hq).2.2.1) (by omega) (by rw [rwk_of (j := pj) (((((hr417.but hb432 (by decide)).fr hF445 (by decide)).fr hF474 (by decide)).fr hF480 (by decide)).but hb486 (by decide)) (by omega), he421, ← hU415]; unfold bO; exact (hq385 pj (by omega)).2.2.1.symm) (fun s h6 hs => by
                  rw [rwk_of (j := s) (((((hr417.but hb432 (by decide)).fr hF445 (by decide)).fr hF474 (by decide)).fr hF480 (by decide)).but hb486 (by decide)) (by omega), hk422 s hs, ← rwk_of (j := s) h92_395 (by omega)])
                have hk495 := bd_copy (r := (fun j => rwv w 83 (20 + j))) (n := (rwv w 83 0)) (p := pj) (f := (bt2 (fun j => rwv w 83 (20 + j)) (rwv w 88))) (A := rwk w377 93) (A' := rwk w484 93) (fun q hq => (hq385 q hq).2.2.2) (by omega) (by rw [rwk_of (j := pj) ((((hr431.fr hF445 (by decide)).fr hF474 (by decide)).fr hF480 (by decide)).but hb486 (by decide)) (by omega), he435, ← hU429]; unfold bU; exact (hq385 pj (by omega)).2.2.2.symm) (fun s h6 hs => by
                  rw [rwk_of (j := s) ((((hr431.fr hF445 (by decide)).fr hF474 (by decide)).fr hF480 (by decide)).but hb486 (by decide)) (by omega), hk436 s hs, ← rwk_of (j := s) h93_398 (by omega)])
                have hk496 : ∀ q, q < (rwv w 83 0) → rwv w484 91 q = bfs (fun j => rwv w 83 (20 + j)) q ∧ rwv w484 90 q = bhg (fun j => rwv w 83 (20 + j)) (rwv w 88) q ∧ rwk w484 92 (bfs (fun j => rwv w 83 (20 + j)) q) = bA (fun j => rwv w 83 (20 + j)) (bt1 (fun j => rwv w 83 (20 + j)) (rwv w 88)) (rwv w 83 0) (bfs (fun j => rwv w 83 (20 + j)) q) ∧ rwk w484 93 (bfs (fun j => rwv w 83 (20 + j)) q) = bA (fun j => rwv w 83 (20 + j)) (bt2 (fun j => rwv w 83 (20 + j)) (rwv w 88)) (rwv w 83 0) (bfs (fun j => rwv w 83 (20 + j)) q) := fun q hq => by
                  obtain ⟨a1, a2, -, -⟩ := hq385 q hq
                  exact ⟨((rwv_of ((((((h91_392.but hb418 (by decide)).but hb432 (by decide)).fr hF445 (by decide)).fr hF474 (by decide)).fr hF480 (by decide)).but hb486 (by decide)) (by omega)).trans (rwv_of h91_392 (by omega)).symm).trans a1, ((rwv_of ((((((h90_389.but hb418 (by decide)).but hb432 (by decide)).fr hF445 (by decide)).fr hF474 (by decide)).fr hF480 (by decide)).but hb486 (by decide)) (by omega)).trans (rwv_of h90_389 (by omega)).symm).trans a2, hk494 q hq, hk495 q hq⟩
                have hm498 : ∀ q, q < pj + 1 → rwk w484 92 q = bO (fun j => rwv w 83 (20 + j)) (rwv w 88) (rwv w 83 0) q ∧ rwk w484 93 q = bU (fun j => rwv w 83 (20 + j)) (rwv w 88) (rwv w 83 0) q ∧ lN (rwk w484 94 q) = bfr (fun j => rwv w 83 (20 + j)) (rwv w 88) (rwv w 83 0) q := fun q hq => by
                  by_cases e : q = pj
                  · rw [e, rwk_of (j := pj) (((((hr417.but hb432 (by decide)).fr hF445 (by decide)).fr hF474 (by decide)).fr hF480 (by decide)).but hb486 (by decide)) (by omega), rwk_of (j := pj) ((((hr431.fr hF445 (by decide)).fr hF474 (by decide)).fr hF480 (by decide)).but hb486 (by decide)) (by omega), rwk_of (j := pj) hr485 (by omega), he421, he435, he489]
                    exact ⟨hU415.symm, hU429.symm, hx493⟩
                  · rw [rwk_of (j := q) (((((hr417.but hb432 (by decide)).fr hF445 (by decide)).fr hF474 (by decide)).fr hF480 (by decide)).but hb486 (by decide)) (by omega), rwk_of (j := q) ((((hr431.fr hF445 (by decide)).fr hF474 (by decide)).fr hF480 (by decide)).but hb486 (by decide)) (by omega), rwk_of (j := q) hr485 (by omega), hk422 q e, hk436 q e, hk490 q e, ← rwk_of (j := q) h92_395 (by omega), ← rwk_of (j := q) h93_398 (by omega), ← rwk_of (j := q) h94_401 (by omega)]
                    exact hf386 q (by omega)
                exact ih375 (pj + 1) w484 (by omega) (by omega) (xMnv.up (S := [94]) hI479 (xFr.of (S := [94]) hb486 (by decide)) (List.forall_mem_cons.mpr ⟨(show cpJ 6 61 (wget w484 94) from ⟨_, hr485⟩), fun _ h => absurd h List.not_mem_nil⟩)) ((((((hF379.tr ((xFr.of (S := [90, 91, 92, 93, 94]) hb418 (by decide)).tr (xFr.of (S := [90, 91, 92, 93, 94]) hb432 (by decide)))).tr (hF445.up (by decide))).tr (hF474.up (by decide))).tr (hF480.up (by decide))).tr (xFr.of (S := [90, 91, 92, 93, 94]) hb486 (by decide)))) (⟨hk496, hm498, by omega⟩)
              · refine xg_t (xg_ifT (u := xpt (lg_cmp (lN l475) (lN l481))) rfl xnm0 (xlj_leT hc483)) ?_
                refine xg_t (xg_blk (b := [(295, 1, 53, 3, 0, 0)]) rfl) ?_
                refine xg_t (xg_lload (u := l456) rfl) ?_
                refine xg_t (xg_blk (b := [(296, 1, 65, 0, 0, 0), (297, 3, 9, 2, 1, 0), (300, 3, 8, 176, 0, 0)]) rfl) ?_
                refine xg_last (n := pj) (u := l456) (((((h94_401.but hb418 (by decide)).but hb432 (by decide)).fr hF445 (by decide)).fr hF474 (by decide)).fr hF480 (by decide)) xnm0 (by omega) (fun w499 hr500 hb501 => ?_)
                obtain ⟨g502, hg503⟩ : ∃ g : Nat → Nat, g = (fun j => if j = pj then l456 else g94_400 j) := ⟨_, rfl⟩
                rw [← hg503] at hr500
                have he504 : g502 pj = l456 := by rw [hg503]; exact if_pos rfl
                have hk505 : ∀ j, j ≠ pj → g502 j = g94_400 j := fun j hj => by rw [hg503]; exact if_neg hj
                refine xg_t (xg_iinc (u := pj) (z := pj + 1) (l1 := [(5, (4, l469)), (3, (4, l456)), (0, (2, 82))]) rfl rfl (by omega) rfl) ?_
                refine xg_t (xg_goto) ?_
                refine xg_t (xg_drop (l1 := [(0, (2, 82)), (2, (0, pj + 1))]) (List.forall_mem_cons.mpr ⟨List.mem_cons_of_mem _ (List.mem_cons_of_mem _ (List.mem_cons_of_mem _ (List.mem_cons_self))), List.forall_mem_cons.mpr ⟨List.mem_cons_self, fun _ h => absurd h List.not_mem_nil⟩⟩)) ?_
                have hx506 : lN l469 = blo (fun j => rwv w 83 (20 + j)) (rwv w 88) (rwv w 83 0) pj := by
                  unfold blo
                  rw [hB461, hU465, hU468]
                  exact hz470
                have hx507 : lN l456 = bhi (fun j => rwv w 83 (20 + j)) (rwv w 88) (rwv w 83 0) pj := by
                  rw [← bhi_eq, hB440, hT448, hU452, hU455]
                  exact hz457
                have hx508 : lN l456 = bfr (fun j => rwv w 83 (20 + j)) (rwv w 88) (rwv w 83 0) pj := by
                  unfold bfr
                  rw [← hx507, ← hx506]
                  have q1 : lN l475 = iab (lN l469) := hn476
                  have q2 : lN l481 = iab (lN l456) := hn482
                  rw [← q1, ← q2, if_neg hc483]
                have hk509 := bd_copy (r := (fun j => rwv w 83 (20 + j))) (n := (rwv w 83 0)) (p := pj) (f := (bt1 (fun j => rwv w 83 (20 + j)) (rwv w 88))) (A := rwk w377 92) (A' := rwk w499 92) (fun q hq => (hq385 q hq).2.2.1) (by omega) (by rw [rwk_of (j := pj) (((((hr417.but hb432 (by decide)).fr hF445 (by decide)).fr hF474 (by decide)).fr hF480 (by decide)).but hb501 (by decide)) (by omega), he421, ← hU415]; unfold bO; exact (hq385 pj (by omega)).2.2.1.symm) (fun s h6 hs => by
                  rw [rwk_of (j := s) (((((hr417.but hb432 (by decide)).fr hF445 (by decide)).fr hF474 (by decide)).fr hF480 (by decide)).but hb501 (by decide)) (by omega), hk422 s hs, ← rwk_of (j := s) h92_395 (by omega)])
                have hk510 := bd_copy (r := (fun j => rwv w 83 (20 + j))) (n := (rwv w 83 0)) (p := pj) (f := (bt2 (fun j => rwv w 83 (20 + j)) (rwv w 88))) (A := rwk w377 93) (A' := rwk w499 93) (fun q hq => (hq385 q hq).2.2.2) (by omega) (by rw [rwk_of (j := pj) ((((hr431.fr hF445 (by decide)).fr hF474 (by decide)).fr hF480 (by decide)).but hb501 (by decide)) (by omega), he435, ← hU429]; unfold bU; exact (hq385 pj (by omega)).2.2.2.symm) (fun s h6 hs => by
                  rw [rwk_of (j := s) ((((hr431.fr hF445 (by decide)).fr hF474 (by decide)).fr hF480 (by decide)).but hb501 (by decide)) (by omega), hk436 s hs, ← rwk_of (j := s) h93_398 (by omega)])
                have hk511 : ∀ q, q < (rwv w 83 0) → rwv w499 91 q = bfs (fun j => rwv w 83 (20 + j)) q ∧ rwv w499 90 q = bhg (fun j => rwv w 83 (20 + j)) (rwv w 88) q ∧ rwk w499 92 (bfs (fun j => rwv w 83 (20 + j)) q) = bA (fun j => rwv w 83 (20 + j)) (bt1 (fun j => rwv w 83 (20 + j)) (rwv w 88)) (rwv w 83 0) (bfs (fun j => rwv w 83 (20 + j)) q) ∧ rwk w499 93 (bfs (fun j => rwv w 83 (20 + j)) q) = bA (fun j => rwv w 83 (20 + j)) (bt2 (fun j => rwv w 83 (20 + j)) (rwv w 88)) (rwv w 83 0) (bfs (fun j => rwv w 83 (20 + j)) q) := fun q hq => by
                  obtain ⟨a1, a2, -, -⟩ := hq385 q hq
                  exact ⟨((rwv_of ((((((h91_392.but hb418 (by decide)).but hb432 (by decide)).fr hF445 (by decide)).fr hF474 (by decide)).fr hF480 (by decide)).but hb501 (by decide)) (by omega)).trans (rwv_of h91_392 (by omega)).symm).trans a1, ((rwv_of ((((((h90_389.but hb418 (by decide)).but hb432 (by decide)).fr hF445 (by decide)).fr hF474 (by decide)).fr hF480 (by decide)).but hb501 (by decide)) (by omega)).trans (rwv_of h90_389 (by omega)).symm).trans a2, hk509 q hq, hk510 q hq⟩
                have hm513 : ∀ q, q < pj + 1 → rwk w499 92 q = bO (fun j => rwv w 83 (20 + j)) (rwv w 88) (rwv w 83 0) q ∧ rwk w499 93 q = bU (fun j => rwv w 83 (20 + j)) (rwv w 88) (rwv w 83 0) q ∧ lN (rwk w499 94 q) = bfr (fun j => rwv w 83 (20 + j)) (rwv w 88) (rwv w 83 0) q := fun q hq => by
                  by_cases e : q = pj
                  · rw [e, rwk_of (j := pj) (((((hr417.but hb432 (by decide)).fr hF445 (by decide)).fr hF474 (by decide)).fr hF480 (by decide)).but hb501 (by decide)) (by omega), rwk_of (j := pj) ((((hr431.fr hF445 (by decide)).fr hF474 (by decide)).fr hF480 (by decide)).but hb501 (by decide)) (by omega), rwk_of (j := pj) hr500 (by omega), he421, he435, he504]
                    exact ⟨hU415.symm, hU429.symm, hx508⟩
                  · rw [rwk_of (j := q) (((((hr417.but hb432 (by decide)).fr hF445 (by decide)).fr hF474 (by decide)).fr hF480 (by decide)).but hb501 (by decide)) (by omega), rwk_of (j := q) ((((hr431.fr hF445 (by decide)).fr hF474 (by decide)).fr hF480 (by decide)).but hb501 (by decide)) (by omega), rwk_of (j := q) hr500 (by omega), hk422 q e, hk436 q e, hk505 q e, ← rwk_of (j := q) h92_395 (by omega), ← rwk_of (j := q) h93_398 (by omega), ← rwk_of (j := q) h94_401 (by omega)]
                    exact hf386 q (by omega)
                exact ih375 (pj + 1) w499 (by omega) (by omega) (xMnv.up (S := [94]) hI479 (xFr.of (S := [94]) hb501 (by decide)) (List.forall_mem_cons.mpr ⟨(show cpJ 6 61 (wget w499 94) from ⟨_, hr500⟩), fun _ h => absurd h List.not_mem_nil⟩)) ((((((hF379.tr ((xFr.of (S := [90, 91, 92, 93, 94]) hb418 (by decide)).tr (xFr.of (S := [90, 91, 92, 93, 94]) hb432 (by decide)))).tr (hF445.up (by decide))).tr (hF474.up (by decide))).tr (hF480.up (by decide))).tr (xFr.of (S := [90, 91, 92, 93, 94]) hb501 (by decide)))) (⟨hk511, hm513, by omega⟩)
            · refine xg_t (xg_icT (u := pj) (v := u403) rfl xnm0 xnm0 (xj_geT (by omega) (by omega))) ?_
              refine xg_t (xg_blk (b := [(303, 1, 12, 0, 0, 0)]) rfl) ?_
              have hk514 : ∀ q, q < rwv w 83 0 → rwv w377 91 q = bfs (fun j => rwv w 83 (20 + j)) q ∧ rwv w377 90 q = bhg (fun j => rwv w 83 (20 + j)) (rwv w 88) q ∧ rwk w377 92 q = bO (fun j => rwv w 83 (20 + j)) (rwv w 88) (rwv w 83 0) q ∧ rwk w377 93 q = bU (fun j => rwv w 83 (20 + j)) (rwv w 88) (rwv w 83 0) q ∧ lN (rwk w377 94 q) = bfr (fun j => rwv w 83 (20 + j)) (rwv w 88) (rwv w 83 0) q := fun q hq => by
                have a := hq385 q hq
                have b := hf386 q (by omega)
                exact ⟨a.1, a.2.1, b.1, b.2.1, b.2.2⟩
              exact xg_e ⟨w377, ⟨rfl, rfl⟩, hI378, hF379, hk514⟩
        exact key374 _ 0 w43 (Nat.lt_succ_self _) (by omega) (hI44) (hF45) (⟨hq381, fun q hq => absurd hq (Nat.not_lt_zero _), Nat.zero_le _⟩)
  exact key40 _ 0 0 w (Nat.lt_succ_self _) (by omega) (by omega) (hI) (xFr.rf) (⟨fun q hq => absurd hq (Nat.not_lt_zero _), ⟨rfl, by omega⟩, Nat.zero_le _⟩)
end XBM
end
section
/-! the model: what the calls say of the bend -/
section XBN
variable {d : Nat} {w : List (List xE)} {bd : List (Nat × Nat)} {fc : List (Nat × Nat × Bool)} {rr : Nat × Nat}
theorem mAsToldX (hI : xMnv w)  : xPq (d + 2) mX12_asTold [(2, 82)] w bd fc rr [] (fun w' => xMnv w' ∧ xFr [88, 90, 91, 92, 93, 94] w w' ∧ (bdm w' (fun j => rwv w 83 (20 + j)) (fun q => q) (rwv w 83 0) ∧ ∀ q, q < 6 → rwv w' 88 q = q)) := by
  refine xPq.of ?_
  show xTo (d + 2) mX12_asTold (0, [], [(0, (2, 82))], [], (w, bd, fc, 0, 0, rr)) (fun φ => ∃ w', xEnd 0 [] (w', bd, fc, 0, 0, rr) φ ∧ xMnv w' ∧ xFr [88, 90, 91, 92, 93, 94] w w' ∧ (bdm w' (fun j => rwv w 83 (20 + j)) (fun q => q) (rwv w 83 0) ∧ ∀ q, q < 6 → rwv w' 88 q = q))
  refine xoCh82 (hI 82 (by decide) (by decide) : cp82 (wget w 82)) (fun f82_1 f82_3 f82_5 f82_7 f82_9 f82_11 f82_13 f82_15 f82_17 f82_19 f82_21 f82_22 f82_23 f82_25 f82_27 f82_29 h82_31 hb2 hb4 hb6 hb8 hb10 hb12 hb14 hb16 hb18 hb20 hb24 hb26 hb28 hb30 hb32 => ?_)
  refine xoX83 (hI 83 (by decide) (by decide) : cpx83 (wget w 83)) (fun g83_33 h83_34 hb35 hx36 => ?_)
  refine xg_t (xg_blk (b := [(0, 1, 0, 0, 0, 0), (1, 3, 13, 155, 96, 235), (4, 1, 0, 0, 0, 0), (5, 3, 13, 122, 96, 238), (8, 1, 12, 0, 0, 0)]) rfl) ?_
  refine xg_t (xg_aload (va := (2, 82)) rfl rfl) ?_
  refine xg_cVv mX12_inOrder (vs := []) (rest := []) (cn1 := 0) (sl1 := 0) rfl (mInOrder (hI)) rfl h82_31 rfl rfl rfl rfl rfl rfl (fun w37 hq38 => ?_)
  obtain ⟨hI39, hF40, hx41⟩ := hq38
  obtain ⟨o42, hr43, hb44, ho45⟩ := hx41
  refine xg_t (xg_aload (va := (2, 82)) rfl rfl) ?_
  have e846 : ∀ q, q < 6 → rwv w37 88 q = q := fun q hq => (rwv_of hr43 (by omega)).trans (ho45 q (by omega))
  have e047 : rwv w37 83 = rwv w 83 := rwf_eq (hF40.1 83 (by decide))
  have hl0 := xMnv.l0 hI
  have hb48 : ∀ q, q < rwv w37 83 0 → rwv w37 88 q < rwv w37 83 0 := fun q hq => by
    rw [e047] at hq ⊢
    rw [e846 q (by omega)]
    exact hq
  refine xg_cVv mX12_blocks (vs := []) (rest := []) (cn1 := 0) (sl1 := 0) rfl (mBlocksX (hI39) hb48) rfl (hF40.get (by decide) h82_31) rfl rfl rfl rfl rfl rfl (fun w49 hq50 => ?_)
  obtain ⟨hI51, hF52, hx53⟩ := hq50
  have hk54 : bdm w49 (fun j => rwv w 83 (20 + j)) (fun q => q) (rwv w 83 0) := fun q hq => by
    have a := hx53 q (by rw [e047]; exact hq)
    rw [e047] at a
    have z : bEq (fun j => rwv w 83 (20 + j)) (fun q => q) (fun j => rwv w 83 (20 + j)) (rwv w37 88) (rwv w 83 0) := ⟨fun _ _ => rfl, fun q hq => ⟨e846 q (by omega), hq⟩⟩
    rw [bhg_cg z (by omega), (bOU_cg z hq).1, (bOU_cg z hq).2, bfr_cg z hq] at a
    exact a
  exact xg_e ⟨w49, ⟨rfl, rfl⟩, hI51, ((hF40.up (by decide)).tr (hF52.up (by decide))), ⟨hk54, fun q hq => (rwv_fr hF52 (by decide)).trans (e846 q hq)⟩⟩
theorem mOf0X {ka : Nat} (hI : xMnv w) (hka : ka ≤ 4294967295) : xPi (d + 1) mX12_isOf [(2, 82), (0, ka), (0, 0)] w bd fc rr (fun n w' => ((n = 1 ∧ ka < rwv w 83 0) ∨ (n = 0 ∧ ¬ ka < rwv w 83 0)) ∧ xMnv w' ∧ xFr [] w w') := by
  refine xPi.of ?_
  show xTo (d + 1) mX12_isOf (0, [], [(0, (2, 82)), (1, (0, ka)), (2, (0, 0))], [], (w, bd, fc, 0, 0, rr)) (fun φ => ∃ n w', xEnd 4 [(0, n)] (w', bd, fc, 0, 0, rr) φ ∧ ((n = 1 ∧ ka < rwv w 83 0) ∨ (n = 0 ∧ ¬ ka < rwv w 83 0)) ∧ xMnv w' ∧ xFr [] w w')
  refine xoCh82 (hI 82 (by decide) (by decide) : cp82 (wget w 82)) (fun f82_1 f82_3 f82_5 f82_7 f82_9 f82_11 f82_13 f82_15 f82_17 f82_19 f82_21 f82_22 f82_23 f82_25 f82_27 f82_29 h82_31 hb2 hb4 hb6 hb8 hb10 hb12 hb14 hb16 hb18 hb20 hb24 hb26 hb28 hb30 hb32 => ?_)
  refine xoX83 (hI 83 (by decide) (by decide) : cpx83 (wget w 83)) (fun g83_33 h83_34 hb35 hx36 => ?_)
  have hl0 := xMnv.l0 hI
  refine xg_t (xg_blk (b := [(0, 1, 2, 1, 0, 0), (1, 1, 3, 0, 0, 0), (2, 1, 0, 0, 0, 0), (3, 3, 1, 12, 0, 7), (6, 1, 2, 2, 0, 0), (7, 1, 10, 0, 0, 0), (8, 1, 3, 1, 0, 0), (9, 1, 18, 0, 0, 0), (10, 3, 13, 161, 98, 105), (13, 1, 12, 0, 1, 0)]) rfl) ?_
  refine xg_t (xg_iload (va := (0, ka)) rfl rfl) ?_
  refine xg_t (xg_const) ?_
  refine xg_t (xg_aload (va := (2, 82)) rfl rfl) ?_
  refine xg_t (xg_getf (va := (2, 83)) h82_31 rfl) ?_
  refine xg_t (xg_iload (va := (0, 0)) rfl rfl) ?_
  refine xg_ialdB (n := 0) (B := 4294967295) h83_34 (hb35) xnm0 (by first | decide | omega) (fun u37 hu38 he39 => ?_)
  have hl40 : u37 ≤ 6 := by rw [← he39]; exact hx36.l0
  have hq41 : rwv w 83 0 = u37 := (rwv_of h83_34 (by omega)).trans he39
  refine xg_t (xg_const) ?_
  by_cases hc42 : 1 ≤ u37
  · refine xg_t (xg_isub (u := u37) (v := 1) (z := u37 - 1) xnm0 xnm0 (by omega)) ?_
    refine xg_t (xg_cSr mX12_isIn (vs := [(0, ka), (0, 0), (0, u37 - 1)]) (rest := []) (rs := [(0, if 0 ≤ ka ∧ ka ≤ u37 - 1 then 1 else 0)]) (cn1 := 0) (sl1 := 0) rfl (mIsIn (by omega) (by omega) (by omega)) rfl rfl rfl rfl rfl rfl rfl rfl) ?_
    by_cases hc43 : 0 ≤ ka ∧ ka ≤ u37 - 1
    · rw [if_pos hc43]
      exact xg_e ⟨1, w, ⟨rfl, rfl⟩, by first | decide | omega, hI, xFr.rf⟩
    · rw [if_neg hc43]
      exact xg_e ⟨0, w, ⟨rfl, rfl⟩, by first | decide | omega, hI, xFr.rf⟩
  · have hz46 : 4294967295 ≤ (u37 + (4294967296 - 1)) % 4294967296 := by omega
    refine xg_t (xg_isub (u := u37) (v := 1) (z := (u37 + (4294967296 - 1)) % 4294967296) xnm0 xnm0 rfl) ?_
    have hz45 : (u37 + (4294967296 - 1)) % 4294967296 < 4294967296 := Nat.mod_lt _ (by decide)
    generalize (u37 + (4294967296 - 1)) % 4294967296 = z44 at hz46 hz45 ⊢
    refine xg_t (xg_cSr mX12_isIn (vs := [(0, ka), (0, 0), (0, z44)]) (rest := []) (rs := [(0, 0)]) (cn1 := 0) (sl1 := 0) rfl (mIsInN (by omega) (by omega) (by omega) (by omega)) rfl rfl rfl rfl rfl rfl rfl rfl) ?_
    exact xg_e ⟨0, w, ⟨rfl, rfl⟩, by first | decide | omega, hI, xFr.rf⟩
end XBN
end
section
/-! layers told alike: the bend's numbers -/
theorem al.beq {w : List (List xE)} (h : al w 1 0) : bEq (fun j => rwv w 83 (20 + j)) (fun q => q) (rwv w 5) (fun q => q) (fld w 4 3) := ⟨fun j hj => h.2.2.1.2.1.get (show j < fld w 4 3 * 4 by omega), fun _ hq => ⟨rfl, hq⟩⟩
theorem al.s0 {w : List (List xE)} (h : al w 1 0) : fld w 4 3 = rwv w 83 0 := h.2.2.1.2.1.sz
theorem al.ht {w : List (List xE)} (h : al w 1 0) (hM : xMnv w) : ∀ k i, k < fld w 4 3 → i < 3 → 1 ≤ rwv w 5 (4 * k + i) ∧ rwv w 5 (4 * k + i) ≤ 99 := fun k i hk hi => by
  have e : rwv w 5 (4 * k + i) = rwv w 83 (20 + (4 * k + i)) := h.2.2.1.2.1.get (show 4 * k + i < fld w 4 3 * 4 by omega)
  have s := h.s0
  rw [e]
  exact xMnv.lay hM (by omega) hi
end
section
/-! layers that tire: numbers alone -/
theorem dvl_nat {a b : Nat} (ha : a < 2 ^ 63) (h0 : 0 < b) (hb : b < 2 ^ 63) : dvl (lN a) (lN b) = lN (a / b) := by
  rw [← dvl_n (lN_ne0 (v := b) h0 (by omega))]
  exact pk_lDiv ha h0 hb
/-- the life that folds of a round take from: 0 none, else its number and 1 -/
def wli (v : Nat → Nat) (U : Nat) (F : Int64) (ro : Nat) : Nat → Nat
  | 0 => 0
  | k + 1 => if ¬ lN 1000 * iab F < lN (v (2 * k) * ro * U) ∧ (wli v U F ro k = 0 ∨ v (2 * (wli v U F ro k - 1)) < v (2 * k)) then k + 1 else wli v U F ro k
section XWE
variable {v v' f f' g g' li t : Nat → Nat} {U U' ro n m k C : Nat} {F F' : Int64}
theorem wli_y (h : ¬ lN 1000 * iab F < lN (v (2 * k) * ro * U)) (h2 : wli v U F ro k = 0 ∨ v (2 * (wli v U F ro k - 1)) < v (2 * k)) : wli v U F ro (k + 1) = k + 1 := if_pos ⟨h, h2⟩
theorem wli_n1 (h : lN 1000 * iab F < lN (v (2 * k) * ro * U)) : wli v U F ro (k + 1) = wli v U F ro k := if_neg (fun z => z.1 h)
theorem wli_n2 (h : ¬ (wli v U F ro k = 0 ∨ v (2 * (wli v U F ro k - 1)) < v (2 * k))) : wli v U F ro (k + 1) = wli v U F ro k := if_neg (fun z => h z.2)
theorem wli_le : wli v U F ro k ≤ k := by
  induction k with
  | zero => exact Nat.le_refl _
  | succ k ih =>
    show (if ¬ lN 1000 * iab F < lN (v (2 * k) * ro * U) ∧ (wli v U F ro k = 0 ∨ v (2 * (wli v U F ro k - 1)) < v (2 * k)) then k + 1 else wli v U F ro k) ≤ k + 1
    split <;> omega
theorem wli_cg (h : ∀ j, j < 2 * n → v' j = v j) (hk : k ≤ n) : wli v' U F ro k = wli v U F ro k := by
  induction k with
  | zero => rfl
  | succ k ih =>
    have l := @wli_le v U ro k F
    show (if ¬ lN 1000 * iab F < lN (v' (2 * k) * ro * U) ∧ (wli v' U F ro k = 0 ∨ v' (2 * (wli v' U F ro k - 1)) < v' (2 * k)) then k + 1 else wli v' U F ro k) = (if ¬ lN 1000 * iab F < lN (v (2 * k) * ro * U) ∧ (wli v U F ro k = 0 ∨ v (2 * (wli v U F ro k - 1)) < v (2 * k)) then k + 1 else wli v U F ro k)
    rw [ih (by omega), h (2 * k) (by omega)]
    by_cases z : wli v U F ro k = 0
    · rw [z]
      simp only [eq_self, true_or]
    · rw [h (2 * (wli v U F ro k - 1)) (by omega)]
/-- sums -/
def sg (g : Nat → Nat) : Nat → Nat
  | 0 => 0
  | n + 1 => sg g n + g n
theorem sg_cg (h : ∀ k, k < n → g' k = g k) : sg g' n = sg g n := by
  induction n with
  | zero => rfl
  | succ n ih =>
    show sg g' n + g' n = sg g n + g n
    rw [ih (fun k hk => h k (by omega)), h n (by omega)]
theorem sg_add : sg (fun k => g k + g' k) n = sg g n + sg g' n := by
  induction n with
  | zero => rfl
  | succ n ih =>
    show sg (fun k => g k + g' k) n + (g n + g' n) = (sg g n + g n) + (sg g' n + g' n)
    omega
theorem sg_mul : sg (fun k => C * g k) n = C * sg g n := by
  induction n with
  | zero => rfl
  | succ n ih =>
    show sg (fun k => C * g k) n + C * g n = C * (sg g n + g n)
    rw [ih, Nat.mul_add]
theorem sg_le {B : Nat} (h : ∀ k, k < n → g k ≤ B) : sg g n ≤ B * n := by
  induction n with
  | zero => exact Nat.le_refl _
  | succ n ih =>
    have a := ih (fun k hk => h k (by omega))
    have b := h n (by omega)
    show sg g n + g n ≤ B * (n + 1)
    rw [Nat.mul_succ]
    omega
theorem sg_0 (h : ∀ k, k < n → g k = 0) : sg g n = 0 := by
  induction n with
  | zero => rfl
  | succ n ih =>
    show sg g n + g n = 0
    rw [ih (fun k hk => h k (by omega)), h n (by omega)]
theorem sg_one {j x : Nat} (hj : j ≤ n) : sg (fun k => g k * (if j = k + 1 then x else 0)) n = (if j = 0 then 0 else g (j - 1) * x) := by
  induction n with
  | zero =>
    rw [if_pos (by omega)]
    rfl
  | succ n ih =>
    show sg (fun k => g k * (if j = k + 1 then x else 0)) n + g n * (if j = n + 1 then x else 0) = _
    by_cases e : j = n + 1
    · rw [if_pos e, if_neg (by omega), sg_0 (fun k hk => by rw [if_neg (by omega), Nat.mul_zero]), e, Nat.add_sub_cancel, Nat.zero_add]
    · rw [if_neg e, Nat.mul_zero, Nat.add_zero]
      exact ih (by omega)
/-- the common life -/
def pr (v : Nat → Nat) : Nat → Nat
  | 0 => 1
  | k + 1 => pr v k * v (2 * k + 1)
theorem pr_rg (h : ∀ k, k < n → 1 ≤ v (2 * k + 1) ∧ v (2 * k + 1) ≤ 999) : 1 ≤ pr v n ∧ pr v n ≤ 999 ^ n := by
  induction n with
  | zero => exact ⟨Nat.le_refl _, Nat.le_refl _⟩
  | succ n ih =>
    obtain ⟨a, b⟩ := ih (fun k hk => h k (by omega))
    obtain ⟨c, d⟩ := h n (by omega)
    exact ⟨Nat.mul_le_mul a c, Nat.mul_le_mul b d⟩
theorem pr_le (h : ∀ k, k < n → 1 ≤ v (2 * k + 1) ∧ v (2 * k + 1) ≤ 999) (hn : n ≤ 4) : 1 ≤ pr v n ∧ pr v n ≤ 996005996001 := by
  obtain ⟨a, b⟩ := pr_rg h
  have c : 999 ^ n ≤ 999 ^ 4 := Nat.pow_le_pow_right (by decide) hn
  exact ⟨a, Nat.le_trans b c⟩
theorem pr_dvd (hk : k < n) : v (2 * k + 1) ∣ pr v n := by
  induction n with
  | zero => omega
  | succ n ih =>
    by_cases e : k = n
    · rw [e]
      exact Nat.dvd_mul_left _ _
    · exact Nat.dvd_trans (ih (by omega)) (Nat.dvd_mul_right _ _)
theorem prk_le (h : ∀ k, k < n + 1 → 1 ≤ v (2 * k + 1) ∧ v (2 * k + 1) ≤ 999) (hk : k < n + 1) : pr v (n + 1) / v (2 * k + 1) ≤ 999 ^ n := by
  induction n with
  | zero =>
    have e : k = 0 := by omega
    subst e
    have a := h 0 (by omega)
    show 1 * v (2 * 0 + 1) / v (2 * 0 + 1) ≤ 1
    rw [Nat.one_mul, Nat.div_self a.1]
    exact Nat.le_refl 1
  | succ n ih =>
    by_cases e : k = n + 1
    · subst e
      have a := h (n + 1) (by omega)
      show pr v (n + 1) * v (2 * (n + 1) + 1) / v (2 * (n + 1) + 1) ≤ 999 ^ (n + 1)
      rw [Nat.mul_div_cancel _ a.1]
      exact (pr_rg (fun j hj => h j (by omega))).2
    · obtain ⟨c, hc⟩ := pr_dvd (v := v) (n := n + 1) (k := k) (by omega)
      have b := ih (fun j hj => h j (by omega)) (by omega)
      have a := h k (by omega)
      have a2 := h (n + 1) (by omega)
      show pr v (n + 1) * v (2 * (n + 1) + 1) / v (2 * k + 1) ≤ 999 ^ n * 999
      rw [hc, Nat.mul_div_cancel_left c a.1] at b
      rw [hc, Nat.mul_assoc, Nat.mul_div_cancel_left _ a.1]
      exact Nat.mul_le_mul b a2.2
theorem prk_le4 (h : ∀ k, k < n → 1 ≤ v (2 * k + 1) ∧ v (2 * k + 1) ≤ 999) (hk : k < n) (hn : n ≤ 4) : pr v n / v (2 * k + 1) ≤ 997002999 := by
  obtain ⟨m, rfl⟩ : ∃ m, n = m + 1 := ⟨n - 1, by omega⟩
  have c : 999 ^ m ≤ 999 ^ 3 := Nat.pow_le_pow_right (by decide) (by omega)
  exact Nat.le_trans (prk_le h hk) c
theorem pr_cg (h : ∀ j, j < 2 * n → v' j = v j) : pr v' n = pr v n := by
  induction n with
  | zero => rfl
  | succ n ih =>
    show pr v' n * v' (2 * n + 1) = pr v n * v (2 * n + 1)
    rw [ih (fun j hj => h j (by omega)), h _ (by omega)]
/-- folds by life -/
def wfd (li t : Nat → Nat) (m k : Nat) : Nat := sg (fun i => if li i = k + 1 then t i else 0) m
def wwh (v f : Nat → Nat) (n : Nat) : Nat := sg (fun k => f k / v (2 * k + 1)) n
def wpt (v f : Nat → Nat) (C n : Nat) : Nat := sg (fun k => (f k - f k / v (2 * k + 1) * v (2 * k + 1)) * (C / v (2 * k + 1))) n
def wml (v li t : Nat → Nat) (C m : Nat) : Nat := sg (fun i => if li i = 0 then 0 else C / v (2 * (li i - 1) + 1) * t i) m
theorem wml_eq (hl : ∀ i, i < m → li i ≤ n) : wml v li t C m = sg (fun k => C / v (2 * k + 1) * wfd li t m k) n := by
  induction m with
  | zero =>
    exact (sg_0 (fun k _ => Nat.mul_zero _)).symm
  | succ m ih =>
    show wml v li t C m + (if li m = 0 then 0 else C / v (2 * (li m - 1) + 1) * t m) = _
    rw [ih (fun i hi => hl i (by omega)), ← sg_one (g := fun k => C / v (2 * k + 1)) (x := t m) (hl m (by omega)), ← sg_add]
    exact sg_cg (fun k _ => by
      show _ = C / v (2 * k + 1) * (wfd li t m k + (if li m = k + 1 then t m else 0))
      rw [Nat.mul_add])
theorem wsum (h : ∀ k, k < n → 1 ≤ v (2 * k + 1) ∧ v (2 * k + 1) ∣ C) : sg (fun k => C / v (2 * k + 1) * f k) n = C * wwh v f n + wpt v f C n := by
  unfold wwh wpt
  rw [← sg_mul, ← sg_add]
  refine sg_cg (fun k hk => ?_)
  obtain ⟨h1, c, hc⟩ := h k hk
  show C / v (2 * k + 1) * f k = C * (f k / v (2 * k + 1)) + (f k - f k / v (2 * k + 1) * v (2 * k + 1)) * (C / v (2 * k + 1))
  clear h
  generalize v (2 * k + 1) = L at h1 hc ⊢
  generalize f k = x
  subst hc
  rw [Nat.mul_div_cancel_left c h1]
  have a : x / L * L ≤ x := Nat.div_mul_le_self x L
  have b : L * c * (x / L) = x / L * L * c := by rw [Nat.mul_comm (L * c), Nat.mul_assoc]
  rw [b, ← Nat.add_mul, Nat.add_sub_cancel' a, Nat.mul_comm]
theorem wpt_le (h : ∀ k, k < n → 1 ≤ v (2 * k + 1)) : wpt v f C n ≤ C * n := by
  refine sg_le (fun k hk => ?_)
  have h1 := h k hk
  show (f k - f k / v (2 * k + 1) * v (2 * k + 1)) * (C / v (2 * k + 1)) ≤ C
  generalize v (2 * k + 1) = L at h1 ⊢
  generalize f k = x
  have a : x - x / L * L < L := by
    have e := Nat.div_add_mod x L
    have l := Nat.mod_lt x h1
    rw [Nat.mul_comm] at e
    omega
  exact Nat.le_trans (Nat.mul_le_mul (Nat.le_of_lt a) (Nat.le_refl _)) (Nat.mul_div_le C L)
theorem wwh_le {B : Nat} (h : ∀ k, k < n → f k ≤ B) : wwh v f n ≤ B * n := sg_le (fun k hk => Nat.le_trans (Nat.div_le_self _ _) (h k hk))
/-- worn out: by whole lives, or by parts -/
theorem wout_eq {W P : Nat} (hC : 1 ≤ C) : (0 < W ∨ C ≤ P) ↔ C ≤ C * W + P := by
  constructor
  · rintro (h | h)
    · have a : C * 1 ≤ C * W := Nat.mul_le_mul_left C h
      omega
    · omega
  · intro h
    by_cases z : 0 < W
    · exact Or.inl z
    · have e : W = 0 := by omega
      rw [e, Nat.mul_zero] at h
      exact Or.inr (by omega)
theorem wth_eq {W P : Nat} (hC : 1 ≤ C) : 1000 * W + 1000 * P / C = 1000 * (C * W + P) / C := by
  have e : 1000 * (C * W + P) = C * (1000 * W) + 1000 * P := by
    rw [Nat.mul_add, Nat.mul_left_comm]
  rw [e, Nat.mul_add_div hC]
theorem wfd_le {B : Nat} (h : ∀ i, i < m → t i ≤ B) : wfd li t m k ≤ B * m := sg_le (fun i hi => by
  show (if li i = k + 1 then t i else 0) ≤ B
  have := h i hi
  split <;> omega)
theorem wfd_cg {li' t' : Nat → Nat} (h : ∀ i, i < m → li' i = li i ∧ t' i = t i) : wfd li' t' m k = wfd li t m k := sg_cg (fun i hi => by
  show (if li' i = k + 1 then t' i else 0) = (if li i = k + 1 then t i else 0)
  rw [(h i hi).1, (h i hi).2])
theorem wwh_cg (h : ∀ j, j < 2 * n → v' j = v j) (hf : ∀ k, k < n → f' k = f k) : wwh v' f' n = wwh v f n := sg_cg (fun k hk => by
  show f' k / v' (2 * k + 1) = f k / v (2 * k + 1)
  rw [h _ (by omega), hf k hk])
theorem wpt_cg (h : ∀ j, j < 2 * n → v' j = v j) (hf : ∀ k, k < n → f' k = f k) : wpt v' f' C n = wpt v f C n := sg_cg (fun k hk => by
  show (f' k - f' k / v' (2 * k + 1) * v' (2 * k + 1)) * (C / v' (2 * k + 1)) = (f k - f k / v (2 * k + 1) * v (2 * k + 1)) * (C / v (2 * k + 1))
  rw [h _ (by omega), hf k hk])
end XWE
/-! a row of longs filled, to the last -/
section XFJE
variable {d k v L t : Nat} {w : List (List xE)} {bd : List (Nat × Nat)} {fc : List (Nat × Nat × Bool)} {rr : Nat × Nat} {f : Nat → Nat}
theorem fj_lpE (hL : L < 2147483648) : ∀ (n i : Nat) (w : List (List xE)) (f : Nat → Nat), i + n = L → xRk 3 4 w k L t f → (∀ j, j < i → f j = v) → xTo d mJ7_fill_d0a16 (6, [], [(0, (2, k)), (1, (4, v)), (3, (0, i)), (4, (0, L))], [], (w, bd, fc, 0, 0, rr)) (fun φ => ∃ w', xEnd 0 [] (w', bd, fc, 0, 0, rr) φ ∧ ∃ g, xRk 3 4 w' k L t g ∧ (∀ j, j < L → g j = v) ∧ xBut k w w')
  | 0, i, w, f, hn, h, hj => by
    refine xg_t (xg_blk (b := [(6, 1, 2, 3, 0, 0), (7, 2, 2, 4, 0, 0), (9, 3, 6, 22, 3, 0), (12, 1, 0, 0, 0, 0), (13, 1, 2, 3, 0, 0), (14, 1, 53, 1, 0, 0), (15, 1, 65, 0, 0, 0), (16, 3, 9, 3, 1, 0), (19, 3, 8, 6, 0, 0)]) rfl) ?_
    refine xg_t (xg_iload (va := (0, i)) rfl rfl) ?_
    refine xg_t (xg_iload (va := (0, L)) rfl rfl) ?_
    refine xg_t (xg_icT (u := i) (v := L) rfl xnm0 xnm0 (xj_geT (by omega) (by omega))) ?_
    refine xg_t (xg_blk (b := [(22, 1, 12, 0, 0, 0)]) rfl) ?_
    exact xg_e ⟨w, ⟨rfl, rfl⟩, f, h, fun j q => hj j (by omega), xBut.rf⟩
  | n + 1, i, w, f, hn, h, hj => by
    refine xg_t (xg_blk (b := [(6, 1, 2, 3, 0, 0), (7, 2, 2, 4, 0, 0), (9, 3, 6, 22, 3, 0), (12, 1, 0, 0, 0, 0), (13, 1, 2, 3, 0, 0), (14, 1, 53, 1, 0, 0), (15, 1, 65, 0, 0, 0), (16, 3, 9, 3, 1, 0), (19, 3, 8, 6, 0, 0)]) rfl) ?_
    refine xg_t (xg_iload (va := (0, i)) rfl rfl) ?_
    refine xg_t (xg_iload (va := (0, L)) rfl rfl) ?_
    refine xg_t (xg_icF (u := i) (v := L) rfl xnm0 xnm0 (xj_geF (by omega) (by omega))) ?_
    refine xg_t (xg_aload (va := (2, k)) rfl rfl) ?_
    refine xg_t (xg_iload (va := (0, i)) rfl rfl) ?_
    refine xg_t (xg_lload (u := v) rfl) ?_
    refine xg_last (n := i) (u := v) h xnm0 (by omega) (fun w1 hr2 hb3 => ?_)
    refine xg_t (xg_iinc (u := i) (z := i + 1) (l1 := [(0, (2, k)), (1, (4, v)), (4, (0, L))]) rfl rfl (by omega) rfl) ?_
    refine xg_t (xg_goto) ?_
    refine xg_t (xg_drop (l1 := [(0, (2, k)), (1, (4, v)), (3, (0, i + 1)), (4, (0, L))]) (List.forall_mem_cons.mpr ⟨List.mem_cons_of_mem _ (List.mem_cons_self), List.forall_mem_cons.mpr ⟨List.mem_cons_of_mem _ (List.mem_cons_of_mem _ (List.mem_cons_self)), List.forall_mem_cons.mpr ⟨List.mem_cons_self, List.forall_mem_cons.mpr ⟨List.mem_cons_of_mem _ (List.mem_cons_of_mem _ (List.mem_cons_of_mem _ (List.mem_cons_self))), fun _ h => absurd h List.not_mem_nil⟩⟩⟩⟩)) ?_
    refine (fj_lpE hL n (i + 1) w1 (fun j => if j = i then v else f j) (by omega) hr2 (fun j q => (by
      by_cases e : j = i
      · exact if_pos e
      · exact (if_neg e).trans (hj j (by omega)))) ).imp (fun φ h => ?_)
    obtain ⟨w', e1, g, e2, e4, e3⟩ := h
    exact ⟨w', e1, g, e2, e4, hb3.tr e3⟩
theorem fillJE (h : xRk 3 4 w k L t f) (hL : L < 2147483648) : xPq d mJ7_fill_d0a16 [(2, k), (4, v)] w bd fc rr [] (fun w' => ∃ g, xRk 3 4 w' k L t g ∧ (∀ j, j < L → g j = v) ∧ xBut k w w') := by
  obtain ⟨us, hus, -⟩ := id h
  refine xPq.of ?_
  show xTo d mJ7_fill_d0a16 (0, [], [(0, (2, k)), (1, (4, v))], [], (w, bd, fc, 0, 0, rr)) (fun φ => ∃ w', xEnd 0 [] (w', bd, fc, 0, 0, rr) φ ∧ ∃ g, xRk 3 4 w' k L t g ∧ (∀ j, j < L → g j = v) ∧ xBut k w w')
  refine xg_t (xg_blk (b := [(0, 1, 3, 0, 0, 0), (1, 1, 15, 3, 0, 0), (2, 1, 0, 0, 0, 0), (3, 1, 31, 0, 0, 0), (4, 2, 15, 4, 0, 0)]) rfl) ?_
  refine xg_t (xg_const) ?_
  refine xg_t (xg_istore (l1 := [(0, (2, k)), (1, (4, v))]) rfl rfl rfl) ?_
  refine xg_t (xg_aload (va := (2, k)) rfl rfl) ?_
  refine xg_t (xg_alen hus) ?_
  refine xg_t (xg_istore (l1 := [(3, (0, 0)), (0, (2, k)), (1, (4, v))]) rfl rfl rfl) ?_
  refine xg_t (xg_drop (l1 := [(0, (2, k)), (1, (4, v)), (3, (0, 0)), (4, (0, L))]) (List.forall_mem_cons.mpr ⟨List.mem_cons_of_mem _ (List.mem_cons_of_mem _ (List.mem_cons_self)), List.forall_mem_cons.mpr ⟨List.mem_cons_of_mem _ (List.mem_cons_of_mem _ (List.mem_cons_of_mem _ (List.mem_cons_self))), List.forall_mem_cons.mpr ⟨List.mem_cons_of_mem _ (List.mem_cons_self), List.forall_mem_cons.mpr ⟨List.mem_cons_self, fun _ h => absurd h List.not_mem_nil⟩⟩⟩⟩)) ?_
  exact fj_lpE hL L 0 w f (by omega) h (fun j q => absurd q (Nat.not_lt_zero _))
end XFJE
end
section
/-! the class: layers that tire -/
section XWC
variable {d : Nat} {w : List (List xE)} {bd : List (Nat × Nat)} {fc : List (Nat × Nat × Bool)} {rr : Nat × Nat}
theorem bdRestX (hI : xInv w)  : xPq (d + 1) mX0_restWear [(2, 49)] w bd fc rr [] (fun w' => xInv w' ∧ xFr [56] w w' ∧ (∀ k, k < 4 → rwk w' 56 k = 0)) := by
  refine xPq.of ?_
  show xTo (d + 1) mX0_restWear (0, [], [(0, (2, 49))], [], (w, bd, fc, 0, 0, rr)) (fun φ => ∃ w', xEnd 0 [] (w', bd, fc, 0, 0, rr) φ ∧ xInv w' ∧ xFr [56] w w' ∧ (∀ k, k < 4 → rwk w' 56 k = 0))
  obtain ⟨g56_1, h56_2⟩ := (hI 56 (by decide) : cpJ 4 29 (wget w 56))
  have h56_2 : xRk 3 4 w 56 4 29 g56_1 := h56_2
  refine xg_t (xg_blk (b := [(0, 1, 0, 0, 0, 0), (1, 3, 1, 0, 7, 33), (4, 1, 51, 0, 0, 0), (5, 3, 13, 2, 2, 120), (8, 1, 12, 0, 0, 0)]) rfl) ?_
  refine xg_t (xg_aload (va := (2, 49)) rfl rfl) ?_
  refine xoC49 (hI 49 (by decide) : cp49 (wget w 49)) (fun f49_4 f49_6 h49_8 hb5 hb7 => ?_)
  refine xg_t (xg_getf (va := (2, 56)) h49_8 rfl) ?_
  refine xg_t (xg_lconst) ?_
  refine xg_cS mJ7_fill_d0a16 (vs := [(2, 56), (4, 0)]) (rest := []) (rs := []) (cn1 := 0) (sl1 := 0) rfl (fillJE (v := 0) h56_2 (by decide)) rfl rfl rfl rfl rfl rfl rfl rfl (fun w9 hq10 => ?_)
  obtain ⟨g11, hr12, hz14, hb13⟩ := hq10
  exact xg_e ⟨w9, ⟨rfl, rfl⟩, xInv.up (S := [56]) hI (xFr.of (S := [56]) hb13 (by decide)) (List.forall_mem_cons.mpr ⟨(show cpJ 4 29 (wget w9 56) from ⟨_, hr12⟩), fun _ h => absurd h List.not_mem_nil⟩), (xFr.of (S := [56]) hb13 (by decide)), fun k hk => (rwk_of hr12 (by omega)).trans (hz14 k hk)⟩
theorem bdWearX {R0 O0 : Nat → Nat} {nn : Nat} {pl ti ro : Nat} (hI : xInv w) (h1 : pl ≤ 5) (h2 : ro ≤ 9999) (hbd : bdw w R0 O0 nn) (hp : pl < nn) (hS : ∀ k, k < fld w 6 3 → rwv w 7 (2 * k) ≤ 99) : xPq (d + 2) mX0_wear [(2, 49), (0, pl), (4, ti), (0, ro)] w bd fc rr [] (fun w' => xInv w' ∧ xFr [56] w w' ∧ (∀ k, k < 4 → rwk w' 56 k = rwk w 56 k + (if wli (rwv w 7) (bU R0 O0 nn pl) (bfr R0 O0 nn pl) ro (fld w 6 3) = k + 1 then ti else 0))) := by
  refine xPq.of ?_
  show xTo (d + 2) mX0_wear (0, [], [(0, (2, 49)), (1, (0, pl)), (2, (4, ti)), (4, (0, ro))], [], (w, bd, fc, 0, 0, rr)) (fun φ => ∃ w', xEnd 0 [] (w', bd, fc, 0, 0, rr) φ ∧ xInv w' ∧ xFr [56] w w' ∧ (∀ k, k < 4 → rwk w' 56 k = rwk w 56 k + (if wli (rwv w 7) (bU R0 O0 nn pl) (bfr R0 O0 nn pl) ro (fld w 6 3) = k + 1 then ti else 0)))
  refine xoC49 (hI 49 (by decide) : cp49 (wget w 49)) (fun f49_1 f49_3 h49_5 hb2 hb4 => ?_)
  refine xoC3 (hI 3 (by decide) : cp3 (wget w 3)) (fun f3_6 f3_8 f3_10 f3_12 f3_14 h3_16 hb7 hb9 hb11 hb13 hb15 => ?_)
  obtain ⟨f4_17, h4_19, hb18⟩ := (hI 4 (by decide) : cp4 (wget w 4))
  refine xoI (hI 5 (by decide) : cpI 24 1 4294967295 (wget w 5)) (fun g5_20 h5_21 hb22 => ?_)
  obtain ⟨f6_23, h6_25, hb24⟩ := (hI 6 (by decide) : cp6 (wget w 6))
  refine xoI (hI 7 (by decide) : cpI 8 2 4294967295 (wget w 7)) (fun g7_26 h7_27 hb28 => ?_)
  have q63 : fld w 6 3 = f6_23 := fld_of h6_25
  refine xoI (hI 52 (by decide) : cpI 6 25 5 (wget w 52)) (fun g52_29 h52_30 hb31 => ?_)
  obtain ⟨g54_32, h54_33⟩ := (hI 54 (by decide) : cpJ 6 27 (wget w 54))
  have h54_33 : xRk 3 4 w 54 6 27 g54_32 := h54_33
  obtain ⟨g55_35, h55_36⟩ := (hI 55 (by decide) : cpJ 6 28 (wget w 55))
  have h55_36 : xRk 3 4 w 55 6 28 g55_35 := h55_36
  obtain ⟨g56_38, h56_39⟩ := (hI 56 (by decide) : cpJ 4 29 (wget w 56))
  have h56_39 : xRk 3 4 w 56 4 29 g56_38 := h56_39
  refine xg_t (xg_blk (b := [(0, 1, 3, 4294967295, 0, 0), (1, 2, 15, 5, 0, 0), (3, 1, 3, 4294967295, 0, 0), (4, 2, 15, 6, 0, 0), (6, 1, 3, 0, 0, 0), (7, 2, 15, 7, 0, 0)]) rfl) ?_
  refine xg_t (xg_const) ?_
  refine xg_t (xg_istore (l1 := [(0, (2, 49)), (1, (0, pl)), (2, (4, ti)), (4, (0, ro))]) rfl rfl rfl) ?_
  refine xg_t (xg_const) ?_
  refine xg_t (xg_istore (l1 := [(5, (0, 4294967295)), (0, (2, 49)), (1, (0, pl)), (2, (4, ti)), (4, (0, ro))]) rfl rfl rfl) ?_
  refine xg_t (xg_const) ?_
  refine xg_t (xg_istore (l1 := [(6, (0, 4294967295)), (5, (0, 4294967295)), (0, (2, 49)), (1, (0, pl)), (2, (4, ti)), (4, (0, ro))]) rfl rfl rfl) ?_
  refine xg_t (xg_drop (l1 := [(0, (2, 49)), (1, (0, pl)), (2, (4, ti)), (4, (0, ro)), (5, (0, 4294967295)), (6, (0, 4294967295)), (7, (0, 0))]) (List.forall_mem_cons.mpr ⟨List.mem_cons_of_mem _ (List.mem_cons_of_mem _ (List.mem_cons_of_mem _ (List.mem_cons_self))), List.forall_mem_cons.mpr ⟨List.mem_cons_of_mem _ (List.mem_cons_of_mem _ (List.mem_cons_of_mem _ (List.mem_cons_of_mem _ (List.mem_cons_self)))), List.forall_mem_cons.mpr ⟨List.mem_cons_of_mem _ (List.mem_cons_of_mem _ (List.mem_cons_of_mem _ (List.mem_cons_of_mem _ (List.mem_cons_of_mem _ (List.mem_cons_self))))), List.forall_mem_cons.mpr ⟨List.mem_cons_of_mem _ (List.mem_cons_of_mem _ (List.mem_cons_of_mem _ (List.mem_cons_of_mem _ (List.mem_cons_of_mem _ (List.mem_cons_of_mem _ (List.mem_cons_self)))))), List.forall_mem_cons.mpr ⟨List.mem_cons_of_mem _ (List.mem_cons_of_mem _ (List.mem_cons_self)), List.forall_mem_cons.mpr ⟨List.mem_cons_of_mem _ (List.mem_cons_self), List.forall_mem_cons.mpr ⟨List.mem_cons_self, fun _ h => absurd h List.not_mem_nil⟩⟩⟩⟩⟩⟩⟩)) ?_
  have key41 : ∀ (m43 : Nat) (li fr ki : Nat), 4 - ki < m43 → li ≤ 4294967295 → fr ≤ 4294967295 → ki ≤ 4 → ((li = 4294967295 ∧ fr = 4294967295 ∧ wli (rwv w 7) (bU R0 O0 nn pl) (bfr R0 O0 nn pl) ro ki = 0) ∨ (li < ki ∧ fr = rwv w 7 (2 * li) ∧ wli (rwv w 7) (bU R0 O0 nn pl) (bfr R0 O0 nn pl) ro ki = li + 1)) ∧ ki ≤ fld w 6 3 → xTo (d + 2) mX0_wear (9, [], [(0, (2, 49)), (1, (0, pl)), (2, (4, ti)), (4, (0, ro)), (5, (0, li)), (6, (0, fr)), (7, (0, ki))], [], (w, bd, fc, 0, 0, rr)) (fun φ => ∃ w', xEnd 0 [] (w', bd, fc, 0, 0, rr) φ ∧ xInv w' ∧ xFr [56] w w' ∧ (∀ k, k < 4 → rwk w' 56 k = rwk w 56 k + (if wli (rwv w 7) (bU R0 O0 nn pl) (bfr R0 O0 nn pl) ro (fld w 6 3) = k + 1 then ti else 0))) := by
    intro m43
    induction m43 with
    | zero => intro li fr ki hz; exact absurd hz (Nat.not_lt_zero _)
    | succ m43 ih42 =>
      intro li fr ki hm51 hn47 hn48 hn49 he50
      obtain ⟨hw0, hkn⟩ := he50
      have hfr : fr ≤ 99 ∨ fr = 4294967295 := by
        rcases hw0 with ⟨q1, q2, q3⟩ | ⟨q1, q2, q3⟩
        · exact Or.inr q2
        · exact Or.inl (by have q := hS li (by omega); omega)
      refine xg_t (xg_blk (b := [(9, 2, 2, 7, 0, 0), (11, 1, 0, 0, 0, 0), (12, 3, 1, 0, 0, 39), (15, 3, 1, 1, 1, 126), (18, 3, 1, 5, 3, 54), (21, 3, 6, 95, 3, 0), (24, 1, 0, 0, 0, 0), (25, 3, 1, 0, 0, 39), (28, 3, 1, 1, 1, 126), (31, 2, 2, 7, 0, 0), (33, 1, 3, 0, 0, 0), (34, 3, 13, 285, 40, 60), (37, 2, 15, 8, 0, 0), (39, 2, 2, 8, 0, 0), (41, 2, 2, 6, 0, 0), (43, 3, 6, 89, 5, 0), (46, 2, 2, 8, 0, 0), (48, 2, 2, 4, 0, 0), (50, 1, 16, 0, 0, 0), (51, 1, 49, 0, 0, 0), (52, 1, 0, 0, 0, 0), (53, 3, 1, 0, 5, 27), (56, 1, 0, 0, 0, 0), (57, 3, 1, 0, 3, 20), (60, 1, 2, 1, 0, 0), (61, 1, 10, 0, 0, 0), (62, 1, 64, 0, 0, 0), (63, 1, 55, 0, 0, 0), (64, 3, 52, 1000, 0, 72), (67, 1, 0, 0, 0, 0), (68, 3, 1, 0, 6, 30), (71, 1, 2, 1, 0, 0), (72, 1, 64, 0, 0, 0), (73, 3, 75, 0, 0, 66), (76, 1, 55, 0, 0, 0), (77, 1, 57, 0, 0, 0), (78, 3, 7, 89, 4, 0), (81, 2, 2, 7, 0, 0), (83, 2, 15, 5, 0, 0), (85, 2, 2, 8, 0, 0), (87, 2, 15, 6, 0, 0)]) rfl) ?_
      refine xg_t (xg_iload (va := (0, ki)) rfl rfl) ?_
      refine xg_t (xg_aload (va := (2, 49)) rfl rfl) ?_
      refine xg_t (xg_getf (va := (2, 3)) h49_5 rfl) ?_
      refine xg_t (xg_getf (va := (2, 6)) h3_16 rfl) ?_
      refine xg_t (xg_getf (va := (0, f6_23)) h6_25 rfl) ?_
      by_cases hc52 : ki < f6_23
      · refine xg_t (xg_icF (u := ki) (v := f6_23) rfl xnm0 xnm0 (xj_geF hc52 (by omega))) ?_
        refine xg_t (xg_aload (va := (2, 49)) rfl rfl) ?_
        refine xg_t (xg_getf (va := (2, 3)) h49_5 rfl) ?_
        refine xg_t (xg_getf (va := (2, 6)) h3_16 rfl) ?_
        refine xg_t (xg_iload (va := (0, ki)) rfl rfl) ?_
        refine xg_t (xg_const) ?_
        refine xg_kE (xg_cVr mX5_get (vs := [(0, ki), (0, 0)]) (rest := []) (rs := [(0, g7_26 (ki * 2 + 0))]) (cn1 := 0) (sl1 := 0) rfl (rgetX (lim := 4) (wd := 2) (sz := f6_23) h6_25 h7_27 (by decide) (by omega) (by decide) (by decide) (by omega) (by decide)) rfl h6_25 rfl rfl rfl rfl rfl rfl rfl) (Nat.lt_succ_of_le ((hb28) _)) (fun z53 hz54 he55 => ?_)
        have hS56 : rwv w 7 (2 * ki) = z53 := by
          rw [rwv_of (j := 2 * ki) h7_27 (by omega), show 2 * ki = ki * 2 + 0 by omega]
          exact he55
        have hl57 : z53 ≤ 99 := by have q := hS ki (by omega); omega
        refine xg_t (xg_istore (l1 := [(0, (2, 49)), (1, (0, pl)), (2, (4, ti)), (4, (0, ro)), (5, (0, li)), (6, (0, fr)), (7, (0, ki))]) rfl rfl rfl) ?_
        refine xg_t (xg_iload (va := (0, z53)) rfl rfl) ?_
        refine xg_t (xg_iload (va := (0, fr)) rfl rfl) ?_
        by_cases hc58 : xbs fr < xbs z53
        · have hc58u := hc58
          unfold xbs at hc58u
          have hn59 : z53 ≤ 99 := by omega
          refine xg_t (xg_icF (u := z53) (v := fr) rfl xnm0 xnm0 (xjs_leF hc58)) ?_
          refine xg_t (xg_iload (va := (0, z53)) rfl rfl) ?_
          refine xg_t (xg_iload (va := (0, ro)) rfl rfl) ?_
          have hm60 : z53 * ro ≤ 99 * 9999 := Nat.mul_le_mul (by omega) (by omega)
          refine xg_t (xg_imul (u := z53) (v := ro) (z := z53 * ro) xnm0 xnm0 (Nat.mod_eq_of_lt (by omega))) ?_
          refine xg_t (xg_i2l (u := z53 * ro) xnm0) ?_
          refine xg_t (xg_lre (b := z53 * ro) (by rw [xlp_eq]; exact nI_l (by omega))) ?_
          refine xg_t (xg_aload (va := (2, 49)) rfl rfl) ?_
          refine xg_t (xg_getf (va := (2, 54)) h49_5 rfl) ?_
          refine xg_t (xg_aload (va := (2, 49)) rfl rfl) ?_
          refine xg_t (xg_getf (va := (2, 52)) h49_5 rfl) ?_
          refine xg_t (xg_iload (va := (0, pl)) rfl rfl) ?_
          refine xg_ialdB (n := pl) (B := 5) h52_30 (hb31) xnm0 (by omega) (fun u61 hu62 he63 => ?_)
          have hf64 : bfs R0 pl = u61 := (hbd pl (by omega)).1.symm.trans ((rwv_of h52_30 (by omega)).trans he63)
          obtain ⟨l65, hz66⟩ : ∃ z, g54_32 u61 = z := ⟨_, rfl⟩
          refine xg_t (xg_lald (n := u61) h54_33 xnm0 (by omega) hz66) ?_
          have hU67 : bU R0 O0 nn pl = l65 := by
            have q := (hbd pl (by omega)).2.2.2.1
            rw [hf64, rwk_of (j := u61) h54_33 (by omega), hz66] at q
            exact q.symm
          refine xg_t (xg_lmul (u := z53 * ro) (v := l65)) ?_
          refine xg_t (xg_lre (b := (z53 * ro) * l65) (by rw [xlp_eq]; exact lN_mul _ _)) ?_
          refine xg_t (xg_ldc2) ?_
          refine xg_t (xg_aload (va := (2, 49)) rfl rfl) ?_
          refine xg_t (xg_getf (va := (2, 55)) h49_5 rfl) ?_
          refine xg_t (xg_iload (va := (0, pl)) rfl rfl) ?_
          obtain ⟨l68, hz69⟩ : ∃ z, g55_35 pl = z := ⟨_, rfl⟩
          refine xg_t (xg_lald (n := pl) h55_36 xnm0 (by omega) hz69) ?_
          have hF70 : lN l68 = bfr R0 O0 nn pl := by
            rw [← hz69, ← rwk_of (j := pl) h55_36 (by omega)]
            exact (hbd pl (by omega)).2.2.2.2
          refine xg_klE (xg_labs (u := l68) (Nat.zero_le _) (Nat.zero_le _) (Nat.le_of_ble_eq_true rfl)) (fun l71 hz72 => ?_)
          refine xg_klE (xg_lmul (u := 1000) (v := l71)) (fun l73 hz74 => ?_)
          refine xg_t (xg_lcmp (u := (z53 * ro) * l65) (v := l73)) ?_
          by_cases hc75 : lN l73 < lN ((z53 * ro) * l65)
          · have hP76 : lN 1000 * iab (bfr R0 O0 nn pl) < lN (rwv w 7 (2 * ki) * ro * bU R0 O0 nn pl) := by
              rw [hS56, hU67, ← hF70]
              have q : lN l73 = lN 1000 * iab (lN l68) := by
                rw [show iab (lN l68) = lN l71 from (hz72).symm]
                exact hz74
              rw [← q]
              exact hc75
            refine xg_t (xg_ifT (u := xpt (lg_cmp (lN ((z53 * ro) * l65)) (lN l73))) rfl xnm0 (xlj_gtT hc75)) ?_
            refine xg_t (xg_blk (b := [(89, 3, 9, 7, 1, 0), (92, 3, 8, 9, 0, 0)]) rfl) ?_
            refine xg_t (xg_iinc (u := ki) (z := ki + 1) (l1 := [(8, (0, z53)), (0, (2, 49)), (1, (0, pl)), (2, (4, ti)), (4, (0, ro)), (5, (0, li)), (6, (0, fr))]) rfl rfl (by omega) rfl) ?_
            refine xg_t (xg_goto) ?_
            refine xg_t (xg_drop (l1 := [(0, (2, 49)), (1, (0, pl)), (2, (4, ti)), (4, (0, ro)), (5, (0, li)), (6, (0, fr)), (7, (0, ki + 1))]) (List.forall_mem_cons.mpr ⟨List.mem_cons_of_mem _ (List.mem_cons_of_mem _ (List.mem_cons_self)), List.forall_mem_cons.mpr ⟨List.mem_cons_of_mem _ (List.mem_cons_of_mem _ (List.mem_cons_of_mem _ (List.mem_cons_self))), List.forall_mem_cons.mpr ⟨List.mem_cons_of_mem _ (List.mem_cons_of_mem _ (List.mem_cons_of_mem _ (List.mem_cons_of_mem _ (List.mem_cons_self)))), List.forall_mem_cons.mpr ⟨List.mem_cons_of_mem _ (List.mem_cons_of_mem _ (List.mem_cons_of_mem _ (List.mem_cons_of_mem _ (List.mem_cons_of_mem _ (List.mem_cons_self))))), List.forall_mem_cons.mpr ⟨List.mem_cons_of_mem _ (List.mem_cons_of_mem _ (List.mem_cons_of_mem _ (List.mem_cons_of_mem _ (List.mem_cons_of_mem _ (List.mem_cons_of_mem _ (List.mem_cons_self)))))), List.forall_mem_cons.mpr ⟨List.mem_cons_of_mem _ (List.mem_cons_of_mem _ (List.mem_cons_of_mem _ (List.mem_cons_of_mem _ (List.mem_cons_of_mem _ (List.mem_cons_of_mem _ (List.mem_cons_of_mem _ (List.mem_cons_self))))))), List.forall_mem_cons.mpr ⟨List.mem_cons_self, fun _ h => absurd h List.not_mem_nil⟩⟩⟩⟩⟩⟩⟩)) ?_
            have hw77 : wli (rwv w 7) (bU R0 O0 nn pl) (bfr R0 O0 nn pl) ro (ki + 1) = wli (rwv w 7) (bU R0 O0 nn pl) (bfr R0 O0 nn pl) ro ki := wli_n1 hP76
            have hw78 : (li = 4294967295 ∧ fr = 4294967295 ∧ wli (rwv w 7) (bU R0 O0 nn pl) (bfr R0 O0 nn pl) ro (ki + 1) = 0) ∨ (li < ki + 1 ∧ fr = rwv w 7 (2 * li) ∧ wli (rwv w 7) (bU R0 O0 nn pl) (bfr R0 O0 nn pl) ro (ki + 1) = li + 1) := by
              rw [hw77]
              exact hw0.imp id (fun q => ⟨by omega, q.2⟩)
            exact ih42 li fr (ki + 1)  (by omega) (by omega) (by omega) (by omega) (⟨hw78, by omega⟩)
          · have hP79 : ¬ (lN 1000 * iab (bfr R0 O0 nn pl) < lN (rwv w 7 (2 * ki) * ro * bU R0 O0 nn pl)) := by
              rw [hS56, hU67, ← hF70]
              have q : lN l73 = lN 1000 * iab (lN l68) := by
                rw [show iab (lN l68) = lN l71 from (hz72).symm]
                exact hz74
              rw [← q]
              exact hc75
            refine xg_t (xg_ifF (u := xpt (lg_cmp (lN ((z53 * ro) * l65)) (lN l73))) rfl xnm0 (xlj_gtF hc75)) ?_
            refine xg_t (xg_iload (va := (0, ki)) rfl rfl) ?_
            refine xg_t (xg_istore (l1 := [(8, (0, z53)), (0, (2, 49)), (1, (0, pl)), (2, (4, ti)), (4, (0, ro)), (6, (0, fr)), (7, (0, ki))]) rfl rfl rfl) ?_
            refine xg_t (xg_iload (va := (0, z53)) rfl rfl) ?_
            refine xg_t (xg_istore (l1 := [(5, (0, ki)), (8, (0, z53)), (0, (2, 49)), (1, (0, pl)), (2, (4, ti)), (4, (0, ro)), (7, (0, ki))]) rfl rfl rfl) ?_
            refine xg_t (xg_blk (b := [(89, 3, 9, 7, 1, 0), (92, 3, 8, 9, 0, 0)]) rfl) ?_
            refine xg_t (xg_iinc (u := ki) (z := ki + 1) (l1 := [(6, (0, z53)), (5, (0, ki)), (8, (0, z53)), (0, (2, 49)), (1, (0, pl)), (2, (4, ti)), (4, (0, ro))]) rfl rfl (by omega) rfl) ?_
            refine xg_t (xg_goto) ?_
            refine xg_t (xg_drop (l1 := [(0, (2, 49)), (1, (0, pl)), (2, (4, ti)), (4, (0, ro)), (5, (0, ki)), (6, (0, z53)), (7, (0, ki + 1))]) (List.forall_mem_cons.mpr ⟨List.mem_cons_of_mem _ (List.mem_cons_of_mem _ (List.mem_cons_of_mem _ (List.mem_cons_of_mem _ (List.mem_cons_self)))), List.forall_mem_cons.mpr ⟨List.mem_cons_of_mem _ (List.mem_cons_of_mem _ (List.mem_cons_of_mem _ (List.mem_cons_of_mem _ (List.mem_cons_of_mem _ (List.mem_cons_self))))), List.forall_mem_cons.mpr ⟨List.mem_cons_of_mem _ (List.mem_cons_of_mem _ (List.mem_cons_of_mem _ (List.mem_cons_of_mem _ (List.mem_cons_of_mem _ (List.mem_cons_of_mem _ (List.mem_cons_self)))))), List.forall_mem_cons.mpr ⟨List.mem_cons_of_mem _ (List.mem_cons_of_mem _ (List.mem_cons_of_mem _ (List.mem_cons_of_mem _ (List.mem_cons_of_mem _ (List.mem_cons_of_mem _ (List.mem_cons_of_mem _ (List.mem_cons_self))))))), List.forall_mem_cons.mpr ⟨List.mem_cons_of_mem _ (List.mem_cons_of_mem _ (List.mem_cons_self)), List.forall_mem_cons.mpr ⟨List.mem_cons_of_mem _ (List.mem_cons_self), List.forall_mem_cons.mpr ⟨List.mem_cons_self, fun _ h => absurd h List.not_mem_nil⟩⟩⟩⟩⟩⟩⟩)) ?_
            have hw80 : wli (rwv w 7) (bU R0 O0 nn pl) (bfr R0 O0 nn pl) ro (ki + 1) = ki + 1 := wli_y hP79 (by
              rcases hw0 with ⟨q1, q2, q3⟩ | ⟨q1, q2, q3⟩
              · exact Or.inl q3
              · have q5 := hS li (by omega)
                rw [← q2] at q5
                rw [q3, Nat.add_sub_cancel, ← q2, hS56]
                exact Or.inr (by omega))
            exact ih42 ki z53 (ki + 1)  (by omega) (by omega) (by omega) (by omega) (⟨Or.inr ⟨by omega, hS56.symm, hw80⟩, by omega⟩)
        · have hc58u := hc58
          unfold xbs at hc58u
          have hn81 : fr ≤ 2147483647 := by omega
          have hn82 : z53 ≤ 99 := by omega
          refine xg_t (xg_icT (u := z53) (v := fr) rfl xnm0 xnm0 (xjs_leT hc58)) ?_
          refine xg_t (xg_blk (b := [(89, 3, 9, 7, 1, 0), (92, 3, 8, 9, 0, 0)]) rfl) ?_
          refine xg_t (xg_iinc (u := ki) (z := ki + 1) (l1 := [(8, (0, z53)), (0, (2, 49)), (1, (0, pl)), (2, (4, ti)), (4, (0, ro)), (5, (0, li)), (6, (0, fr))]) rfl rfl (by omega) rfl) ?_
          refine xg_t (xg_goto) ?_
          refine xg_t (xg_drop (l1 := [(0, (2, 49)), (1, (0, pl)), (2, (4, ti)), (4, (0, ro)), (5, (0, li)), (6, (0, fr)), (7, (0, ki + 1))]) (List.forall_mem_cons.mpr ⟨List.mem_cons_of_mem _ (List.mem_cons_of_mem _ (List.mem_cons_self)), List.forall_mem_cons.mpr ⟨List.mem_cons_of_mem _ (List.mem_cons_of_mem _ (List.mem_cons_of_mem _ (List.mem_cons_self))), List.forall_mem_cons.mpr ⟨List.mem_cons_of_mem _ (List.mem_cons_of_mem _ (List.mem_cons_of_mem _ (List.mem_cons_of_mem _ (List.mem_cons_self)))), List.forall_mem_cons.mpr ⟨List.mem_cons_of_mem _ (List.mem_cons_of_mem _ (List.mem_cons_of_mem _ (List.mem_cons_of_mem _ (List.mem_cons_of_mem _ (List.mem_cons_self))))), List.forall_mem_cons.mpr ⟨List.mem_cons_of_mem _ (List.mem_cons_of_mem _ (List.mem_cons_of_mem _ (List.mem_cons_of_mem _ (List.mem_cons_of_mem _ (List.mem_cons_of_mem _ (List.mem_cons_self)))))), List.forall_mem_cons.mpr ⟨List.mem_cons_of_mem _ (List.mem_cons_of_mem _ (List.mem_cons_of_mem _ (List.mem_cons_of_mem _ (List.mem_cons_of_mem _ (List.mem_cons_of_mem _ (List.mem_cons_of_mem _ (List.mem_cons_self))))))), List.forall_mem_cons.mpr ⟨List.mem_cons_self, fun _ h => absurd h List.not_mem_nil⟩⟩⟩⟩⟩⟩⟩)) ?_
          have hw83 : wli (rwv w 7) (bU R0 O0 nn pl) (bfr R0 O0 nn pl) ro (ki + 1) = wli (rwv w 7) (bU R0 O0 nn pl) (bfr R0 O0 nn pl) ro ki := wli_n2 (by
            rcases hw0 with ⟨q1, q2, q3⟩ | ⟨q1, q2, q3⟩
            · exfalso; omega
            · rw [q3, Nat.add_sub_cancel, ← q2, hS56]
              omega)
          have hw84 : (li = 4294967295 ∧ fr = 4294967295 ∧ wli (rwv w 7) (bU R0 O0 nn pl) (bfr R0 O0 nn pl) ro (ki + 1) = 0) ∨ (li < ki + 1 ∧ fr = rwv w 7 (2 * li) ∧ wli (rwv w 7) (bU R0 O0 nn pl) (bfr R0 O0 nn pl) ro (ki + 1) = li + 1) := by
            rw [hw83]
            exact hw0.imp id (fun q => ⟨by omega, q.2⟩)
          exact ih42 li fr (ki + 1)  (by omega) (by omega) (by omega) (by omega) (⟨hw84, by omega⟩)
      · refine xg_t (xg_icT (u := ki) (v := f6_23) rfl xnm0 xnm0 (xj_geT (by omega) (by omega))) ?_
        refine xg_t (xg_blk (b := [(95, 2, 2, 5, 0, 0), (97, 1, 3, 4294967295, 0, 0), (98, 3, 6, 112, 0, 0), (101, 1, 0, 0, 0, 0), (102, 3, 1, 0, 7, 33), (105, 2, 2, 5, 0, 0), (107, 1, 39, 0, 0, 0), (108, 1, 64, 0, 0, 0), (109, 1, 53, 2, 0, 0), (110, 1, 56, 0, 0, 0), (111, 1, 65, 0, 0, 0)]) rfl) ?_
        refine xg_t (xg_iload (va := (0, li)) rfl rfl) ?_
        refine xg_t (xg_const) ?_
        by_cases hc85 : li = 4294967295
        · refine xg_t (xg_icT (u := li) (v := 4294967295) rfl xnm0 xnm0 (xj_eqT hc85)) ?_
          refine xg_t (xg_blk (b := [(112, 1, 12, 0, 0, 0)]) rfl) ?_
          have hkf : ki = fld w 6 3 := by omega
          have hw1 := hw0
          rw [hkf] at hw1
          have hk86 : ∀ k, k < 4 → rwk w 56 k = rwk w 56 k + (if wli (rwv w 7) (bU R0 O0 nn pl) (bfr R0 O0 nn pl) ro (fld w 6 3) = k + 1 then ti else 0) := fun k hk => by
            rcases hw1 with ⟨q1, q2, q3⟩ | ⟨q1, q2, q3⟩
            · rw [q3, if_neg (by omega), Nat.add_zero] <;> exact rwk_eq (rfl)
            · exfalso; omega
          exact xg_e ⟨w, ⟨rfl, rfl⟩, hI, xFr.rf, hk86⟩
        · refine xg_t (xg_icF (u := li) (v := 4294967295) rfl xnm0 xnm0 (xj_eqF hc85)) ?_
          refine xg_t (xg_aload (va := (2, 49)) rfl rfl) ?_
          refine xg_t (xg_getf (va := (2, 56)) h49_5 rfl) ?_
          refine xg_t (xg_iload (va := (0, li)) rfl rfl) ?_
          refine xg_t (xg_dup2 rfl) ?_
          obtain ⟨l87, hz88⟩ : ∃ z, g56_38 li = z := ⟨_, rfl⟩
          refine xg_t (xg_lald (n := li) h56_39 xnm0 (by omega) hz88) ?_
          refine xg_t (xg_lload (u := ti) rfl) ?_
          refine xg_t (xg_ladd (u := l87) (v := ti)) ?_
          refine xg_t (xg_lre (b := l87 + ti) (by rw [xlp_eq]; exact lN_add _ _)) ?_
          refine xg_last (n := li) (u := l87 + ti) h56_39 xnm0 (by omega) (fun w89 hr90 hb91 => ?_)
          obtain ⟨g92, hg93⟩ : ∃ g : Nat → Nat, g = (fun j => if j = li then l87 + ti else g56_38 j) := ⟨_, rfl⟩
          rw [← hg93] at hr90
          have he94 : g92 li = l87 + ti := by rw [hg93]; exact if_pos rfl
          have hk95 : ∀ j, j ≠ li → g92 j = g56_38 j := fun j hj => by rw [hg93]; exact if_neg hj
          refine xg_t (xg_blk (b := [(112, 1, 12, 0, 0, 0)]) rfl) ?_
          have hkf : ki = fld w 6 3 := by omega
          have hw1 := hw0
          rw [hkf] at hw1
          have hk96 : ∀ k, k < 4 → rwk w89 56 k = rwk w 56 k + (if wli (rwv w 7) (bU R0 O0 nn pl) (bfr R0 O0 nn pl) ro (fld w 6 3) = k + 1 then ti else 0) := fun k hk => by
            rcases hw1 with ⟨q1, q2, q3⟩ | ⟨q1, q2, q3⟩
            · exfalso; omega
            · rw [q3]
              by_cases e : k = li
              · rw [e, if_pos rfl, rwk_of (j := li) hr90 (by omega), he94, rwk_of (j := li) h56_39 (by omega), hz88]
              · rw [if_neg (by omega), rwk_of (j := k) hr90 (by omega), hk95 k e, Nat.add_zero, ← rwk_of (j := k) h56_39 (by omega)]
          exact xg_e ⟨w89, ⟨rfl, rfl⟩, xInv.up (S := [56]) hI (xFr.of (S := [56]) hb91 (by decide)) (List.forall_mem_cons.mpr ⟨(show cpJ 4 29 (wget w89 56) from ⟨_, hr90⟩), fun _ h => absurd h List.not_mem_nil⟩), (xFr.of (S := [56]) hb91 (by decide)), hk96⟩
  exact key41 _ 4294967295 4294967295 0  (Nat.lt_succ_self _) (by omega) (by omega) (by omega) (⟨Or.inl ⟨rfl, rfl, rfl⟩, Nat.zero_le _⟩)
theorem dvDivideW {ov un : Nat} (hI : xInv w)  : xPj d mX11_divide [(4, ov), (4, un)] w bd fc rr (fun n w' => (lN n = dvl (lN ov) (lN un) ∧ w' = w) ∧ xInv w' ∧ xFr [] w w') := by
  refine xPj.of ?_
  show xTo d mX11_divide (0, [], [(0, (4, ov)), (2, (4, un))], [], (w, bd, fc, 0, 0, rr)) (fun φ => ∃ n w', xEnd 2 [(4, n)] (w', bd, fc, 0, 0, rr) φ ∧ (lN n = dvl (lN ov) (lN un) ∧ w' = w) ∧ xInv w' ∧ xFr [] w w')
  refine xg_t (xg_blk (b := [(0, 1, 53, 2, 0, 0), (1, 1, 51, 0, 0, 0), (2, 1, 57, 0, 0, 0), (3, 3, 7, 10, 1, 0), (6, 1, 51, 0, 0, 0), (7, 3, 8, 13, 0, 0)]) rfl) ?_
  refine xg_t (xg_lload (u := un) rfl) ?_
  refine xg_t (xg_lconst) ?_
  refine xg_t (xg_lcmp (u := un) (v := 0)) ?_
  by_cases hc1 : lN un = lN 0
  · refine xg_t (xg_ifF (u := xpt (lg_cmp (lN un) (lN 0))) rfl xnm0 (xlj_neF hc1)) ?_
    refine xg_t (xg_lconst) ?_
    refine xg_t (xg_goto) ?_
    refine xg_t (xg_blk (b := [(13, 1, 12, 0, 2, 0)]) rfl) ?_
    exact xg_e ⟨0, w, ⟨rfl, rfl⟩, ⟨(show lN 0 = dvl (lN ov) (lN un) from (if_pos hc1).symm), rfl⟩, hI, xFr.rf⟩
  · refine xg_t (xg_ifT (u := xpt (lg_cmp (lN un) (lN 0))) rfl xnm0 (xlj_neT hc1)) ?_
    refine xg_t (xg_blk (b := [(10, 1, 53, 0, 0, 0), (11, 1, 53, 2, 0, 0), (12, 1, 67, 0, 0, 0)]) rfl) ?_
    refine xg_t (xg_lload (u := ov) rfl) ?_
    refine xg_t (xg_lload (u := un) rfl) ?_
    refine xg_klE (xg_ldiv (u := ov) (v := un) (hc1)) (fun l2 hz3 => ?_)
    refine xg_t (xg_blk (b := [(13, 1, 12, 0, 2, 0)]) rfl) ?_
    exact xg_e ⟨l2, w, ⟨rfl, rfl⟩, ⟨hz3.trans (if_neg hc1).symm, rfl⟩, hI, xFr.rf⟩
theorem bdWholeX (hI : xInv w) (hv : ∀ k, k < fld w 6 3 → 1 ≤ rwv w 7 (2 * k + 1) ∧ rwv w 7 (2 * k + 1) ≤ 999) (hf : ∀ k, k < 4 → rwk w 56 k ≤ 20000000) : xPj (d + 1) mX0_wholeLives [(2, 49)] w bd fc rr (fun n w' => (n = wwh (rwv w 7) (rwk w 56) (fld w 6 3)) ∧ xInv w' ∧ xFr [] w w') := by
  refine xPj.of ?_
  show xTo (d + 1) mX0_wholeLives (0, [], [(0, (2, 49))], [], (w, bd, fc, 0, 0, rr)) (fun φ => ∃ n w', xEnd 2 [(4, n)] (w', bd, fc, 0, 0, rr) φ ∧ (n = wwh (rwv w 7) (rwk w 56) (fld w 6 3)) ∧ xInv w' ∧ xFr [] w w')
  refine xoC49 (hI 49 (by decide) : cp49 (wget w 49)) (fun f49_1 f49_3 h49_5 hb2 hb4 => ?_)
  refine xoC3 (hI 3 (by decide) : cp3 (wget w 3)) (fun f3_6 f3_8 f3_10 f3_12 f3_14 h3_16 hb7 hb9 hb11 hb13 hb15 => ?_)
  obtain ⟨f4_17, h4_19, hb18⟩ := (hI 4 (by decide) : cp4 (wget w 4))
  refine xoI (hI 5 (by decide) : cpI 24 1 4294967295 (wget w 5)) (fun g5_20 h5_21 hb22 => ?_)
  obtain ⟨f6_23, h6_25, hb24⟩ := (hI 6 (by decide) : cp6 (wget w 6))
  refine xoI (hI 7 (by decide) : cpI 8 2 4294967295 (wget w 7)) (fun g7_26 h7_27 hb28 => ?_)
  obtain ⟨g56_29, h56_30⟩ := (hI 56 (by decide) : cpJ 4 29 (wget w 56))
  have h56_30 : xRk 3 4 w 56 4 29 g56_29 := h56_30
  have q63 : fld w 6 3 = f6_23 := fld_of h6_25
  refine xg_t (xg_blk (b := [(0, 1, 51, 0, 0, 0), (1, 1, 54, 1, 0, 0), (2, 1, 3, 0, 0, 0), (3, 1, 15, 3, 0, 0)]) rfl) ?_
  refine xg_t (xg_lconst) ?_
  refine xg_t (xg_lstore (l1 := [(0, (2, 49))]) rfl rfl) ?_
  refine xg_t (xg_const) ?_
  refine xg_t (xg_istore (l1 := [(1, (4, 0)), (0, (2, 49))]) rfl rfl rfl) ?_
  refine xg_t (xg_drop (l1 := [(0, (2, 49)), (1, (4, 0)), (3, (0, 0))]) (List.forall_mem_cons.mpr ⟨List.mem_cons_of_mem _ (List.mem_cons_of_mem _ (List.mem_cons_self)), List.forall_mem_cons.mpr ⟨List.mem_cons_of_mem _ (List.mem_cons_self), List.forall_mem_cons.mpr ⟨List.mem_cons_self, fun _ h => absurd h List.not_mem_nil⟩⟩⟩)) ?_
  have key32 : ∀ (m34 : Nat) (wh ki : Nat), 4 - ki < m34 → wh = wh → ki ≤ 4 → wh = wwh (rwv w 7) (rwk w 56) ki ∧ ki ≤ fld w 6 3 → xTo (d + 1) mX0_wholeLives (4, [], [(0, (2, 49)), (1, (4, wh)), (3, (0, ki))], [], (w, bd, fc, 0, 0, rr)) (fun φ => ∃ n w', xEnd 2 [(4, n)] (w', bd, fc, 0, 0, rr) φ ∧ (n = wwh (rwv w 7) (rwk w 56) (fld w 6 3)) ∧ xInv w' ∧ xFr [] w w') := by
    intro m34
    induction m34 with
    | zero => intro wh ki hz; exact absurd hz (Nat.not_lt_zero _)
    | succ m34 ih33 =>
      intro wh ki hm41 hn38 hn39 he40
      obtain ⟨hs0, hkn⟩ := he40
      refine xg_t (xg_blk (b := [(4, 1, 2, 3, 0, 0), (5, 1, 0, 0, 0, 0), (6, 3, 1, 0, 0, 39), (9, 3, 1, 1, 1, 126), (12, 3, 1, 5, 3, 54), (15, 3, 6, 49, 3, 0), (18, 1, 53, 1, 0, 0), (19, 1, 0, 0, 0, 0), (20, 3, 1, 0, 7, 33), (23, 1, 2, 3, 0, 0), (24, 1, 64, 0, 0, 0), (25, 1, 0, 0, 0, 0), (26, 3, 1, 0, 0, 39), (29, 3, 1, 1, 1, 126), (32, 1, 2, 3, 0, 0), (33, 1, 3, 1, 0, 0), (34, 3, 13, 285, 40, 60), (37, 1, 49, 0, 0, 0), (38, 3, 13, 55, 91, 74), (41, 1, 56, 0, 0, 0), (42, 1, 54, 1, 0, 0), (43, 3, 9, 3, 1, 0), (46, 3, 8, 4, 0, 0)]) rfl) ?_
      refine xg_t (xg_iload (va := (0, ki)) rfl rfl) ?_
      refine xg_t (xg_aload (va := (2, 49)) rfl rfl) ?_
      refine xg_t (xg_getf (va := (2, 3)) h49_5 rfl) ?_
      refine xg_t (xg_getf (va := (2, 6)) h3_16 rfl) ?_
      refine xg_t (xg_getf (va := (0, f6_23)) h6_25 rfl) ?_
      by_cases hc42 : ki < f6_23
      · refine xg_t (xg_icF (u := ki) (v := f6_23) rfl xnm0 xnm0 (xj_geF hc42 (by omega))) ?_
        refine xg_t (xg_lload (u := wh) rfl) ?_
        refine xg_t (xg_aload (va := (2, 49)) rfl rfl) ?_
        refine xg_t (xg_getf (va := (2, 56)) h49_5 rfl) ?_
        refine xg_t (xg_iload (va := (0, ki)) rfl rfl) ?_
        obtain ⟨l43, hz44⟩ : ∃ z, g56_29 ki = z := ⟨_, rfl⟩
        refine xg_t (xg_lald (n := ki) h56_30 xnm0 (by omega) hz44) ?_
        have hf45 : rwk w 56 ki = l43 := (rwk_of h56_30 (by omega)).trans hz44
        have hl46 : l43 ≤ 20000000 := by have q := hf ki (by omega); omega
        refine xg_t (xg_aload (va := (2, 49)) rfl rfl) ?_
        refine xg_t (xg_getf (va := (2, 3)) h49_5 rfl) ?_
        refine xg_t (xg_getf (va := (2, 6)) h3_16 rfl) ?_
        refine xg_t (xg_iload (va := (0, ki)) rfl rfl) ?_
        refine xg_t (xg_const) ?_
        refine xg_kE (xg_cVr mX5_get (vs := [(0, ki), (0, 1)]) (rest := [(4, l43), (4, wh)]) (rs := [(0, g7_26 (ki * 2 + 1)), (4, l43), (4, wh)]) (cn1 := 0) (sl1 := 0) rfl (rgetX (lim := 4) (wd := 2) (sz := f6_23) h6_25 h7_27 (by decide) (by omega) (by decide) (by decide) (by omega) (by decide)) rfl h6_25 rfl rfl rfl rfl rfl rfl rfl) (Nat.lt_succ_of_le ((hb28) _)) (fun z47 hz48 he49 => ?_)
        have hS50 : rwv w 7 (2 * ki + 1) = z47 := by
          rw [rwv_of (j := 2 * ki + 1) h7_27 (by omega), show 2 * ki + 1 = ki * 2 + 1 by omega]
          exact he49
        have hl51 : 1 ≤ z47 ∧ z47 ≤ 999 := by have q := hv ki (by omega); omega
        refine xg_t (xg_i2l (u := z47) xnm0) ?_
        refine xg_t (xg_lre (b := z47) (by rw [xlp_eq]; exact nI_l (by omega))) ?_
        refine xg_cNj mX11_divide (vs := [(4, l43), (4, z47)]) (rest := [(4, wh)]) (cn1 := 0) (sl1 := 0) rfl (dvDivideW (hI)) rfl rfl rfl rfl rfl rfl rfl (fun l56 w52 hq53 => ?_)
        obtain ⟨hn57, hI54, hF55⟩ := hq53
        obtain ⟨hn58, hw59⟩ := hn57
        have hw59s := hw59.symm
        subst hw59s
        refine xg_t (xg_lre (b := l43 / z47) (hn58.trans (dvl_nat (by omega) (by omega) (by omega)))) ?_
        refine xg_t (xg_ladd (u := wh) (v := l43 / z47)) ?_
        refine xg_t (xg_lre (b := wh + (l43 / z47)) (by rw [xlp_eq]; exact lN_add _ _)) ?_
        refine xg_t (xg_lstore (l1 := [(0, (2, 49)), (3, (0, ki))]) rfl rfl) ?_
        refine xg_t (xg_iinc (u := ki) (z := ki + 1) (l1 := [(1, (4, wh + (l43 / z47))), (0, (2, 49))]) rfl rfl (by omega) rfl) ?_
        refine xg_t (xg_goto) ?_
        refine xg_t (xg_drop (l1 := [(0, (2, 49)), (1, (4, wh + (l43 / z47))), (3, (0, ki + 1))]) (List.forall_mem_cons.mpr ⟨List.mem_cons_of_mem _ (List.mem_cons_of_mem _ (List.mem_cons_self)), List.forall_mem_cons.mpr ⟨List.mem_cons_of_mem _ (List.mem_cons_self), List.forall_mem_cons.mpr ⟨List.mem_cons_self, fun _ h => absurd h List.not_mem_nil⟩⟩⟩)) ?_
        have hs60 : wh + (l43 / z47) = wwh (rwv w 7) (rwk w 56) (ki + 1) := by
          show _ = wwh (rwv w 7) (rwk w 56) ki + rwk w 56 ki / rwv w 7 (2 * ki + 1)
          rw [← hs0, hf45, hS50]
        exact ih33 (wh + (l43 / z47)) (ki + 1)  (by omega) (by omega) (by omega) (⟨hs60, by omega⟩)
      · refine xg_t (xg_icT (u := ki) (v := f6_23) rfl xnm0 xnm0 (xj_geT (by omega) (by omega))) ?_
        refine xg_t (xg_blk (b := [(49, 1, 53, 1, 0, 0), (50, 1, 12, 0, 2, 0)]) rfl) ?_
        refine xg_t (xg_lload (u := wh) rfl) ?_
        exact xg_e ⟨wh, w, ⟨rfl, rfl⟩, (hs0.trans (congrArg (wwh (rwv w 7) (rwk w 56)) (show ki = fld w 6 3 by omega))), hI, xFr.rf⟩
  exact key32 _ 0 0  (Nat.lt_succ_self _) (by omega) (by omega) (⟨rfl, Nat.zero_le _⟩)
theorem bdCommonX (hI : xInv w) (hv : ∀ k, k < fld w 6 3 → 1 ≤ rwv w 7 (2 * k + 1) ∧ rwv w 7 (2 * k + 1) ≤ 999) : xPj (d + 1) mX0_commonLife [(2, 49)] w bd fc rr (fun n w' => (n = pr (rwv w 7) (fld w 6 3)) ∧ xInv w' ∧ xFr [] w w') := by
  refine xPj.of ?_
  show xTo (d + 1) mX0_commonLife (0, [], [(0, (2, 49))], [], (w, bd, fc, 0, 0, rr)) (fun φ => ∃ n w', xEnd 2 [(4, n)] (w', bd, fc, 0, 0, rr) φ ∧ (n = pr (rwv w 7) (fld w 6 3)) ∧ xInv w' ∧ xFr [] w w')
  refine xoC49 (hI 49 (by decide) : cp49 (wget w 49)) (fun f49_1 f49_3 h49_5 hb2 hb4 => ?_)
  refine xoC3 (hI 3 (by decide) : cp3 (wget w 3)) (fun f3_6 f3_8 f3_10 f3_12 f3_14 h3_16 hb7 hb9 hb11 hb13 hb15 => ?_)
  obtain ⟨f4_17, h4_19, hb18⟩ := (hI 4 (by decide) : cp4 (wget w 4))
  refine xoI (hI 5 (by decide) : cpI 24 1 4294967295 (wget w 5)) (fun g5_20 h5_21 hb22 => ?_)
  obtain ⟨f6_23, h6_25, hb24⟩ := (hI 6 (by decide) : cp6 (wget w 6))
  refine xoI (hI 7 (by decide) : cpI 8 2 4294967295 (wget w 7)) (fun g7_26 h7_27 hb28 => ?_)
  have q63 : fld w 6 3 = f6_23 := fld_of h6_25
  refine xg_t (xg_blk (b := [(0, 1, 51, 1, 0, 0), (1, 1, 54, 1, 0, 0), (2, 1, 3, 0, 0, 0), (3, 1, 15, 3, 0, 0)]) rfl) ?_
  refine xg_t (xg_lconst) ?_
  refine xg_t (xg_lstore (l1 := [(0, (2, 49))]) rfl rfl) ?_
  refine xg_t (xg_const) ?_
  refine xg_t (xg_istore (l1 := [(1, (4, 1)), (0, (2, 49))]) rfl rfl rfl) ?_
  refine xg_t (xg_drop (l1 := [(0, (2, 49)), (1, (4, 1)), (3, (0, 0))]) (List.forall_mem_cons.mpr ⟨List.mem_cons_of_mem _ (List.mem_cons_of_mem _ (List.mem_cons_self)), List.forall_mem_cons.mpr ⟨List.mem_cons_of_mem _ (List.mem_cons_self), List.forall_mem_cons.mpr ⟨List.mem_cons_self, fun _ h => absurd h List.not_mem_nil⟩⟩⟩)) ?_
  have key29 : ∀ (m31 : Nat) (pr_ ki : Nat), 4 - ki < m31 → pr_ = pr_ → ki ≤ 4 → pr_ = pr (rwv w 7) ki ∧ ki ≤ fld w 6 3 → xTo (d + 1) mX0_commonLife (4, [], [(0, (2, 49)), (1, (4, pr_)), (3, (0, ki))], [], (w, bd, fc, 0, 0, rr)) (fun φ => ∃ n w', xEnd 2 [(4, n)] (w', bd, fc, 0, 0, rr) φ ∧ (n = pr (rwv w 7) (fld w 6 3)) ∧ xInv w' ∧ xFr [] w w') := by
    intro m31
    induction m31 with
    | zero => intro pr_ ki hz; exact absurd hz (Nat.not_lt_zero _)
    | succ m31 ih30 =>
      intro pr_ ki hm38 hn35 hn36 he37
      obtain ⟨hs0, hkn⟩ := he37
      refine xg_t (xg_blk (b := [(4, 1, 2, 3, 0, 0), (5, 1, 0, 0, 0, 0), (6, 3, 1, 0, 0, 39), (9, 3, 1, 1, 1, 126), (12, 3, 1, 5, 3, 54), (15, 3, 6, 40, 3, 0), (18, 1, 53, 1, 0, 0), (19, 1, 0, 0, 0, 0), (20, 3, 1, 0, 0, 39), (23, 3, 1, 1, 1, 126), (26, 1, 2, 3, 0, 0), (27, 1, 3, 1, 0, 0), (28, 3, 13, 285, 40, 60), (31, 1, 49, 0, 0, 0), (32, 1, 55, 0, 0, 0), (33, 1, 54, 1, 0, 0), (34, 3, 9, 3, 1, 0), (37, 3, 8, 4, 0, 0)]) rfl) ?_
      refine xg_t (xg_iload (va := (0, ki)) rfl rfl) ?_
      refine xg_t (xg_aload (va := (2, 49)) rfl rfl) ?_
      refine xg_t (xg_getf (va := (2, 3)) h49_5 rfl) ?_
      refine xg_t (xg_getf (va := (2, 6)) h3_16 rfl) ?_
      refine xg_t (xg_getf (va := (0, f6_23)) h6_25 rfl) ?_
      by_cases hc39 : ki < f6_23
      · refine xg_t (xg_icF (u := ki) (v := f6_23) rfl xnm0 xnm0 (xj_geF hc39 (by omega))) ?_
        refine xg_t (xg_lload (u := pr_) rfl) ?_
        refine xg_t (xg_aload (va := (2, 49)) rfl rfl) ?_
        refine xg_t (xg_getf (va := (2, 3)) h49_5 rfl) ?_
        refine xg_t (xg_getf (va := (2, 6)) h3_16 rfl) ?_
        refine xg_t (xg_iload (va := (0, ki)) rfl rfl) ?_
        refine xg_t (xg_const) ?_
        refine xg_kE (xg_cVr mX5_get (vs := [(0, ki), (0, 1)]) (rest := [(4, pr_)]) (rs := [(0, g7_26 (ki * 2 + 1)), (4, pr_)]) (cn1 := 0) (sl1 := 0) rfl (rgetX (lim := 4) (wd := 2) (sz := f6_23) h6_25 h7_27 (by decide) (by omega) (by decide) (by decide) (by omega) (by decide)) rfl h6_25 rfl rfl rfl rfl rfl rfl rfl) (Nat.lt_succ_of_le ((hb28) _)) (fun z40 hz41 he42 => ?_)
        have hS43 : rwv w 7 (2 * ki + 1) = z40 := by
          rw [rwv_of (j := 2 * ki + 1) h7_27 (by omega), show 2 * ki + 1 = ki * 2 + 1 by omega]
          exact he42
        have hl44 : 1 ≤ z40 ∧ z40 ≤ 999 := by have q := hv ki (by omega); omega
        refine xg_t (xg_i2l (u := z40) xnm0) ?_
        refine xg_t (xg_lre (b := z40) (by rw [xlp_eq]; exact nI_l (by omega))) ?_
        refine xg_t (xg_lmul (u := pr_) (v := z40)) ?_
        refine xg_t (xg_lre (b := pr_ * z40) (by rw [xlp_eq]; exact lN_mul _ _)) ?_
        refine xg_t (xg_lstore (l1 := [(0, (2, 49)), (3, (0, ki))]) rfl rfl) ?_
        refine xg_t (xg_iinc (u := ki) (z := ki + 1) (l1 := [(1, (4, pr_ * z40)), (0, (2, 49))]) rfl rfl (by omega) rfl) ?_
        refine xg_t (xg_goto) ?_
        refine xg_t (xg_drop (l1 := [(0, (2, 49)), (1, (4, pr_ * z40)), (3, (0, ki + 1))]) (List.forall_mem_cons.mpr ⟨List.mem_cons_of_mem _ (List.mem_cons_of_mem _ (List.mem_cons_self)), List.forall_mem_cons.mpr ⟨List.mem_cons_of_mem _ (List.mem_cons_self), List.forall_mem_cons.mpr ⟨List.mem_cons_self, fun _ h => absurd h List.not_mem_nil⟩⟩⟩)) ?_
        have hs45 : pr_ * z40 = pr (rwv w 7) (ki + 1) := by
          show _ = pr (rwv w 7) ki * rwv w 7 (2 * ki + 1)
          rw [← hs0, hS43]
        exact ih30 (pr_ * z40) (ki + 1)  (by omega) (by omega) (by omega) (⟨hs45, by omega⟩)
      · refine xg_t (xg_icT (u := ki) (v := f6_23) rfl xnm0 xnm0 (xj_geT (by omega) (by omega))) ?_
        refine xg_t (xg_blk (b := [(40, 1, 53, 1, 0, 0), (41, 1, 12, 0, 2, 0)]) rfl) ?_
        refine xg_t (xg_lload (u := pr_) rfl) ?_
        exact xg_e ⟨pr_, w, ⟨rfl, rfl⟩, (hs0.trans (congrArg (pr (rwv w 7)) (show ki = fld w 6 3 by omega))), hI, xFr.rf⟩
  exact key29 _ 1 0  (Nat.lt_succ_self _) (by omega) (by omega) (⟨rfl, Nat.zero_le _⟩)
theorem bdPartX {co : Nat} (hI : xInv w) (hv : ∀ k, k < fld w 6 3 → 1 ≤ rwv w 7 (2 * k + 1) ∧ rwv w 7 (2 * k + 1) ≤ 999) (hf : ∀ k, k < 4 → rwk w 56 k ≤ 20000000) (hco : co ≤ 996005996001) : xPj (d + 1) mX0_partLives [(2, 49), (4, co)] w bd fc rr (fun n w' => (n = wpt (rwv w 7) (rwk w 56) co (fld w 6 3)) ∧ xInv w' ∧ xFr [] w w') := by
  refine xPj.of ?_
  show xTo (d + 1) mX0_partLives (0, [], [(0, (2, 49)), (1, (4, co))], [], (w, bd, fc, 0, 0, rr)) (fun φ => ∃ n w', xEnd 2 [(4, n)] (w', bd, fc, 0, 0, rr) φ ∧ (n = wpt (rwv w 7) (rwk w 56) co (fld w 6 3)) ∧ xInv w' ∧ xFr [] w w')
  refine xoC49 (hI 49 (by decide) : cp49 (wget w 49)) (fun f49_1 f49_3 h49_5 hb2 hb4 => ?_)
  refine xoC3 (hI 3 (by decide) : cp3 (wget w 3)) (fun f3_6 f3_8 f3_10 f3_12 f3_14 h3_16 hb7 hb9 hb11 hb13 hb15 => ?_)
  obtain ⟨f4_17, h4_19, hb18⟩ := (hI 4 (by decide) : cp4 (wget w 4))
  refine xoI (hI 5 (by decide) : cpI 24 1 4294967295 (wget w 5)) (fun g5_20 h5_21 hb22 => ?_)
  obtain ⟨f6_23, h6_25, hb24⟩ := (hI 6 (by decide) : cp6 (wget w 6))
  refine xoI (hI 7 (by decide) : cpI 8 2 4294967295 (wget w 7)) (fun g7_26 h7_27 hb28 => ?_)
  obtain ⟨g56_29, h56_30⟩ := (hI 56 (by decide) : cpJ 4 29 (wget w 56))
  have h56_30 : xRk 3 4 w 56 4 29 g56_29 := h56_30
  have q63 : fld w 6 3 = f6_23 := fld_of h6_25
  refine xg_t (xg_blk (b := [(0, 1, 51, 0, 0, 0), (1, 1, 54, 3, 0, 0), (2, 1, 3, 0, 0, 0), (3, 2, 15, 5, 0, 0)]) rfl) ?_
  refine xg_t (xg_lconst) ?_
  refine xg_t (xg_lstore (l1 := [(0, (2, 49)), (1, (4, co))]) rfl rfl) ?_
  refine xg_t (xg_const) ?_
  refine xg_t (xg_istore (l1 := [(3, (4, 0)), (0, (2, 49)), (1, (4, co))]) rfl rfl rfl) ?_
  refine xg_t (xg_drop (l1 := [(0, (2, 49)), (1, (4, co)), (3, (4, 0)), (5, (0, 0))]) (List.forall_mem_cons.mpr ⟨List.mem_cons_of_mem _ (List.mem_cons_of_mem _ (List.mem_cons_self)), List.forall_mem_cons.mpr ⟨List.mem_cons_of_mem _ (List.mem_cons_of_mem _ (List.mem_cons_of_mem _ (List.mem_cons_self))), List.forall_mem_cons.mpr ⟨List.mem_cons_of_mem _ (List.mem_cons_self), List.forall_mem_cons.mpr ⟨List.mem_cons_self, fun _ h => absurd h List.not_mem_nil⟩⟩⟩⟩)) ?_
  have key32 : ∀ (m34 : Nat) (pa ki : Nat), 4 - ki < m34 → pa = pa → ki ≤ 4 → pa = wpt (rwv w 7) (rwk w 56) co ki ∧ ki ≤ fld w 6 3 → xTo (d + 1) mX0_partLives (5, [], [(0, (2, 49)), (1, (4, co)), (3, (4, pa)), (5, (0, ki))], [], (w, bd, fc, 0, 0, rr)) (fun φ => ∃ n w', xEnd 2 [(4, n)] (w', bd, fc, 0, 0, rr) φ ∧ (n = wpt (rwv w 7) (rwk w 56) co (fld w 6 3)) ∧ xInv w' ∧ xFr [] w w') := by
    intro m34
    induction m34 with
    | zero => intro pa ki hz; exact absurd hz (Nat.not_lt_zero _)
    | succ m34 ih33 =>
      intro pa ki hm41 hn38 hn39 he40
      obtain ⟨hs0, hkn⟩ := he40
      refine xg_t (xg_blk (b := [(5, 2, 2, 5, 0, 0), (7, 1, 0, 0, 0, 0), (8, 3, 1, 0, 0, 39), (11, 3, 1, 1, 1, 126), (14, 3, 1, 5, 3, 54), (17, 3, 6, 75, 3, 0), (20, 1, 0, 0, 0, 0), (21, 3, 1, 0, 0, 39), (24, 3, 1, 1, 1, 126), (27, 2, 2, 5, 0, 0), (29, 1, 3, 1, 0, 0), (30, 3, 13, 285, 40, 60), (33, 1, 49, 0, 0, 0), (34, 2, 54, 6, 0, 0), (36, 1, 53, 3, 0, 0), (37, 1, 0, 0, 0, 0), (38, 3, 1, 0, 7, 33), (41, 2, 2, 5, 0, 0), (43, 1, 64, 0, 0, 0), (44, 1, 0, 0, 0, 0), (45, 3, 1, 0, 7, 33), (48, 2, 2, 5, 0, 0), (50, 1, 64, 0, 0, 0), (51, 2, 53, 6, 0, 0), (53, 3, 13, 55, 91, 74), (56, 2, 53, 6, 0, 0), (58, 1, 55, 0, 0, 0), (59, 1, 66, 0, 0, 0), (60, 1, 53, 1, 0, 0), (61, 2, 53, 6, 0, 0), (63, 3, 13, 55, 91, 74), (66, 1, 55, 0, 0, 0), (67, 1, 56, 0, 0, 0), (68, 1, 54, 3, 0, 0), (69, 3, 9, 5, 1, 0), (72, 3, 8, 5, 0, 0)]) rfl) ?_
      refine xg_t (xg_iload (va := (0, ki)) rfl rfl) ?_
      refine xg_t (xg_aload (va := (2, 49)) rfl rfl) ?_
      refine xg_t (xg_getf (va := (2, 3)) h49_5 rfl) ?_
      refine xg_t (xg_getf (va := (2, 6)) h3_16 rfl) ?_
      refine xg_t (xg_getf (va := (0, f6_23)) h6_25 rfl) ?_
      by_cases hc42 : ki < f6_23
      · refine xg_t (xg_icF (u := ki) (v := f6_23) rfl xnm0 xnm0 (xj_geF hc42 (by omega))) ?_
        refine xg_t (xg_aload (va := (2, 49)) rfl rfl) ?_
        refine xg_t (xg_getf (va := (2, 3)) h49_5 rfl) ?_
        refine xg_t (xg_getf (va := (2, 6)) h3_16 rfl) ?_
        refine xg_t (xg_iload (va := (0, ki)) rfl rfl) ?_
        refine xg_t (xg_const) ?_
        refine xg_kE (xg_cVr mX5_get (vs := [(0, ki), (0, 1)]) (rest := []) (rs := [(0, g7_26 (ki * 2 + 1))]) (cn1 := 0) (sl1 := 0) rfl (rgetX (lim := 4) (wd := 2) (sz := f6_23) h6_25 h7_27 (by decide) (by omega) (by decide) (by decide) (by omega) (by decide)) rfl h6_25 rfl rfl rfl rfl rfl rfl rfl) (Nat.lt_succ_of_le ((hb28) _)) (fun z43 hz44 he45 => ?_)
        have hS46 : rwv w 7 (2 * ki + 1) = z43 := by
          rw [rwv_of (j := 2 * ki + 1) h7_27 (by omega), show 2 * ki + 1 = ki * 2 + 1 by omega]
          exact he45
        have hl47 : 1 ≤ z43 ∧ z43 ≤ 999 := by have q := hv ki (by omega); omega
        refine xg_t (xg_i2l (u := z43) xnm0) ?_
        refine xg_t (xg_lre (b := z43) (by rw [xlp_eq]; exact nI_l (by omega))) ?_
        refine xg_t (xg_lstore (l1 := [(0, (2, 49)), (1, (4, co)), (3, (4, pa)), (5, (0, ki))]) rfl rfl) ?_
        refine xg_t (xg_lload (u := pa) rfl) ?_
        refine xg_t (xg_aload (va := (2, 49)) rfl rfl) ?_
        refine xg_t (xg_getf (va := (2, 56)) h49_5 rfl) ?_
        refine xg_t (xg_iload (va := (0, ki)) rfl rfl) ?_
        obtain ⟨l48, hz49⟩ : ∃ z, g56_29 ki = z := ⟨_, rfl⟩
        refine xg_t (xg_lald (n := ki) h56_30 xnm0 (by omega) hz49) ?_
        have hf50 : rwk w 56 ki = l48 := (rwk_of h56_30 (by omega)).trans hz49
        have hl51 : l48 ≤ 20000000 := by have q := hf ki (by omega); omega
        refine xg_t (xg_aload (va := (2, 49)) rfl rfl) ?_
        refine xg_t (xg_getf (va := (2, 56)) h49_5 rfl) ?_
        refine xg_t (xg_iload (va := (0, ki)) rfl rfl) ?_
        obtain ⟨l52, hz53⟩ : ∃ z, g56_29 ki = z := ⟨_, rfl⟩
        refine xg_t (xg_lald (n := ki) h56_30 xnm0 (by omega) hz53) ?_
        have hf54 : rwk w 56 ki = l52 := (rwk_of h56_30 (by omega)).trans hz53
        have hl55 : l52 ≤ 20000000 := by have q := hf ki (by omega); omega
        refine xg_t (xg_lload (u := z43) rfl) ?_
        refine xg_cNj mX11_divide (vs := [(4, l52), (4, z43)]) (rest := [(4, l48), (4, pa)]) (cn1 := 0) (sl1 := 0) rfl (dvDivideW (hI)) rfl rfl rfl rfl rfl rfl rfl (fun l60 w56 hq57 => ?_)
        obtain ⟨hn61, hI58, hF59⟩ := hq57
        obtain ⟨hn62, hw63⟩ := hn61
        have hw63s := hw63.symm
        subst hw63s
        refine xg_t (xg_lre (b := l52 / z43) (hn62.trans (dvl_nat (by omega) (by omega) (by omega)))) ?_
        refine xg_t (xg_lload (u := z43) rfl) ?_
        refine xg_t (xg_lmul (u := l52 / z43) (v := z43)) ?_
        refine xg_t (xg_lre (b := (l52 / z43) * z43) (by rw [xlp_eq]; exact lN_mul _ _)) ?_
        refine xg_t (xg_lsub (u := l48) (v := (l52 / z43) * z43)) ?_
        refine xg_t (xg_lre (b := l48 - ((l52 / z43) * z43)) (by rw [xlp_eq, show l52 = l48 from hf54.symm.trans hf50]; exact lN_sub (Nat.div_mul_le_self _ _))) ?_
        refine xg_t (xg_lload (u := co) rfl) ?_
        refine xg_t (xg_lload (u := z43) rfl) ?_
        refine xg_cNj mX11_divide (vs := [(4, co), (4, z43)]) (rest := [(4, l48 - ((l52 / z43) * z43)), (4, pa)]) (cn1 := 0) (sl1 := 0) rfl (dvDivideW (hI)) rfl rfl rfl rfl rfl rfl rfl (fun l68 w64 hq65 => ?_)
        obtain ⟨hn69, hI66, hF67⟩ := hq65
        obtain ⟨hn70, hw71⟩ := hn69
        have hw71s := hw71.symm
        subst hw71s
        refine xg_t (xg_lre (b := co / z43) (hn70.trans (dvl_nat (by omega) (by omega) (by omega)))) ?_
        refine xg_t (xg_lmul (u := l48 - ((l52 / z43) * z43)) (v := co / z43)) ?_
        refine xg_t (xg_lre (b := (l48 - ((l52 / z43) * z43)) * (co / z43)) (by rw [xlp_eq]; exact lN_mul _ _)) ?_
        refine xg_t (xg_ladd (u := pa) (v := (l48 - ((l52 / z43) * z43)) * (co / z43))) ?_
        refine xg_t (xg_lre (b := pa + ((l48 - ((l52 / z43) * z43)) * (co / z43))) (by rw [xlp_eq]; exact lN_add _ _)) ?_
        refine xg_t (xg_lstore (l1 := [(6, (4, z43)), (0, (2, 49)), (1, (4, co)), (5, (0, ki))]) rfl rfl) ?_
        refine xg_t (xg_iinc (u := ki) (z := ki + 1) (l1 := [(3, (4, pa + ((l48 - ((l52 / z43) * z43)) * (co / z43)))), (6, (4, z43)), (0, (2, 49)), (1, (4, co))]) rfl rfl (by omega) rfl) ?_
        refine xg_t (xg_goto) ?_
        refine xg_t (xg_drop (l1 := [(0, (2, 49)), (1, (4, co)), (3, (4, pa + ((l48 - ((l52 / z43) * z43)) * (co / z43)))), (5, (0, ki + 1))]) (List.forall_mem_cons.mpr ⟨List.mem_cons_of_mem _ (List.mem_cons_of_mem _ (List.mem_cons_of_mem _ (List.mem_cons_self))), List.forall_mem_cons.mpr ⟨List.mem_cons_of_mem _ (List.mem_cons_of_mem _ (List.mem_cons_of_mem _ (List.mem_cons_of_mem _ (List.mem_cons_self)))), List.forall_mem_cons.mpr ⟨List.mem_cons_of_mem _ (List.mem_cons_self), List.forall_mem_cons.mpr ⟨List.mem_cons_self, fun _ h => absurd h List.not_mem_nil⟩⟩⟩⟩)) ?_
        have hs72 : pa + ((l48 - ((l52 / z43) * z43)) * (co / z43)) = wpt (rwv w 7) (rwk w 56) co (ki + 1) := by
          show _ = wpt (rwv w 7) (rwk w 56) co ki + (rwk w 56 ki - rwk w 56 ki / rwv w 7 (2 * ki + 1) * rwv w 7 (2 * ki + 1)) * (co / rwv w 7 (2 * ki + 1))
          rw [← hs0, hf50, hS46, show l52 = l48 from hf54.symm.trans hf50]
        exact ih33 (pa + ((l48 - ((l52 / z43) * z43)) * (co / z43))) (ki + 1)  (by omega) (by omega) (by omega) (⟨hs72, by omega⟩)
      · refine xg_t (xg_icT (u := ki) (v := f6_23) rfl xnm0 xnm0 (xj_geT (by omega) (by omega))) ?_
        refine xg_t (xg_blk (b := [(75, 1, 53, 3, 0, 0), (76, 1, 12, 0, 2, 0)]) rfl) ?_
        refine xg_t (xg_lload (u := pa) rfl) ?_
        exact xg_e ⟨pa, w, ⟨rfl, rfl⟩, (hs0.trans (congrArg (wpt (rwv w 7) (rwk w 56) co) (show ki = fld w 6 3 by omega))), hI, xFr.rf⟩
  exact key32 _ 0 0  (Nat.lt_succ_self _) (by omega) (by omega) (⟨rfl, Nat.zero_le _⟩)
theorem bdWornThX (hI : xInv w) (hv : ∀ k, k < fld w 6 3 → 1 ≤ rwv w 7 (2 * k + 1) ∧ rwv w 7 (2 * k + 1) ≤ 999) (hf : ∀ k, k < 4 → rwk w 56 k ≤ 20000000) : xPi (d + 2) mX0_wornThousandths [(2, 49)] w bd fc rr (fun n w' => (n = xpt (lN (1000 * wwh (rwv w 7) (rwk w 56) (fld w 6 3) + 1000 * wpt (rwv w 7) (rwk w 56) (pr (rwv w 7) (fld w 6 3)) (fld w 6 3) / pr (rwv w 7) (fld w 6 3))).toInt32) ∧ xInv w' ∧ xFr [] w w') := by
  refine xPi.of ?_
  show xTo (d + 2) mX0_wornThousandths (0, [], [(0, (2, 49))], [], (w, bd, fc, 0, 0, rr)) (fun φ => ∃ n w', xEnd 1 [(0, n)] (w', bd, fc, 0, 0, rr) φ ∧ (n = xpt (lN (1000 * wwh (rwv w 7) (rwk w 56) (fld w 6 3) + 1000 * wpt (rwv w 7) (rwk w 56) (pr (rwv w 7) (fld w 6 3)) (fld w 6 3) / pr (rwv w 7) (fld w 6 3))).toInt32) ∧ xInv w' ∧ xFr [] w w')
  refine xoC49 (hI 49 (by decide) : cp49 (wget w 49)) (fun f49_1 f49_3 h49_5 hb2 hb4 => ?_)
  refine xoC3 (hI 3 (by decide) : cp3 (wget w 3)) (fun f3_6 f3_8 f3_10 f3_12 f3_14 h3_16 hb7 hb9 hb11 hb13 hb15 => ?_)
  obtain ⟨f4_17, h4_19, hb18⟩ := (hI 4 (by decide) : cp4 (wget w 4))
  refine xoI (hI 5 (by decide) : cpI 24 1 4294967295 (wget w 5)) (fun g5_20 h5_21 hb22 => ?_)
  obtain ⟨f6_23, h6_25, hb24⟩ := (hI 6 (by decide) : cp6 (wget w 6))
  have q63 : fld w 6 3 = f6_23 := fld_of h6_25
  refine xg_t (xg_blk (b := [(0, 1, 0, 0, 0, 0), (1, 3, 13, 6, 0, 129), (4, 1, 54, 1, 0, 0), (5, 3, 52, 1000, 0, 72), (8, 1, 0, 0, 0, 0), (9, 3, 13, 22, 0, 133), (12, 1, 55, 0, 0, 0), (13, 3, 52, 1000, 0, 72), (16, 1, 0, 0, 0, 0), (17, 1, 53, 1, 0, 0), (18, 3, 13, 15, 0, 136), (21, 1, 55, 0, 0, 0), (22, 1, 53, 1, 0, 0), (23, 3, 13, 55, 91, 74), (26, 1, 56, 0, 0, 0), (27, 1, 50, 0, 0, 0), (28, 1, 12, 0, 1, 0)]) rfl) ?_
  refine xg_t (xg_aload (va := (2, 49)) rfl rfl) ?_
  refine xg_cVj mX0_commonLife (vs := []) (rest := []) (cn1 := 0) (sl1 := 0) rfl (bdCommonX (hI) hv) rfl h49_5 rfl rfl rfl rfl rfl rfl (fun l30 w26 hq27 => ?_)
  obtain ⟨hn31, hI28, hF29⟩ := hq27
  have hcr := pr_le hv (by omega)
  rw [← hn31] at hcr
  refine xg_t (xg_lstore (l1 := [(0, (2, 49))]) rfl rfl) ?_
  refine xg_t (xg_ldc2) ?_
  refine xg_t (xg_aload (va := (2, 49)) rfl rfl) ?_
  have e732 : rwv w26 7 = rwv w 7 := rwf_eq (((show xFr [] w w26 from (hF29.up (by decide)))).1 7 (by decide))
  have e5633 : rwk w26 56 = rwk w 56 := funext fun _ => rwk_eq (((show xFr [] w w26 from (hF29.up (by decide)))).1 56 (by decide))
  have e634 : fld w26 6 3 = fld w 6 3 := fld_fr ((show xFr [] w w26 from (hF29.up (by decide)))) (by decide)
  refine xg_cVj mX0_wholeLives (vs := []) (rest := [(4, 1000)]) (cn1 := 0) (sl1 := 0) rfl (bdWholeX (hI28) (by rw [e634, e732]; exact hv) (by rw [e5633]; exact hf)) rfl (hF29.get (by decide) h49_5) rfl rfl rfl rfl rfl rfl (fun l39 w35 hq36 => ?_)
  obtain ⟨hn40, hI37, hF38⟩ := hq36
  rw [e732, e5633, e634] at hn40
  have hwr : l39 ≤ 20000000 * fld w 6 3 := by rw [hn40]; exact wwh_le (fun k hk => hf k (by omega))
  refine xg_t (xg_lmul (u := 1000) (v := l39)) ?_
  refine xg_t (xg_lre (b := 1000 * l39) (by rw [xlp_eq]; exact lN_mul _ _)) ?_
  refine xg_t (xg_ldc2) ?_
  refine xg_t (xg_aload (va := (2, 49)) rfl rfl) ?_
  refine xg_t (xg_lload (u := l30) rfl) ?_
  have e741 : rwv w35 7 = rwv w 7 := rwf_eq (((show xFr [] w w35 from ((hF29.up (by decide)).tr (hF38.up (by decide))))).1 7 (by decide))
  have e5642 : rwk w35 56 = rwk w 56 := funext fun _ => rwk_eq (((show xFr [] w w35 from ((hF29.up (by decide)).tr (hF38.up (by decide))))).1 56 (by decide))
  have e643 : fld w35 6 3 = fld w 6 3 := fld_fr ((show xFr [] w w35 from ((hF29.up (by decide)).tr (hF38.up (by decide))))) (by decide)
  refine xg_cVj mX0_partLives (vs := [(4, l30)]) (rest := [(4, 1000), (4, 1000 * l39)]) (cn1 := 0) (sl1 := 0) rfl (bdPartX (hI37) (by rw [e643, e741]; exact hv) (by rw [e5642]; exact hf) (by omega)) rfl (hF38.get (by decide) (hF29.get (by decide) h49_5)) rfl rfl rfl rfl rfl rfl (fun l48 w44 hq45 => ?_)
  obtain ⟨hn49, hI46, hF47⟩ := hq45
  rw [e741, e5642, e643] at hn49
  have hpr : l48 ≤ l30 * fld w 6 3 := by rw [hn49]; exact wpt_le (fun k hk => (hv k hk).1)
  have hpr2 : l30 * fld w 6 3 ≤ 996005996001 * 4 := Nat.mul_le_mul hcr.2 (by omega)
  refine xg_t (xg_lmul (u := 1000) (v := l48)) ?_
  refine xg_t (xg_lre (b := 1000 * l48) (by rw [xlp_eq]; exact lN_mul _ _)) ?_
  refine xg_t (xg_lload (u := l30) rfl) ?_
  refine xg_cNj mX11_divide (vs := [(4, 1000 * l48), (4, l30)]) (rest := [(4, 1000 * l39)]) (cn1 := 0) (sl1 := 0) rfl (dvDivideW (hI46)) rfl rfl rfl rfl rfl rfl rfl (fun l54 w50 hq51 => ?_)
  obtain ⟨hn55, hI52, hF53⟩ := hq51
  obtain ⟨hn56, hw57⟩ := hn55
  have hw57s := hw57.symm
  subst hw57s
  refine xg_t (xg_lre (b := (1000 * l48) / l30) (hn56.trans (dvl_nat (by omega) (by omega) (by omega)))) ?_
  refine xg_t (xg_ladd (u := 1000 * l39) (v := (1000 * l48) / l30)) ?_
  refine xg_t (xg_lre (b := (1000 * l39) + ((1000 * l48) / l30)) (by rw [xlp_eq]; exact lN_add _ _)) ?_
  refine xg_kE (xg_l2i (u := (1000 * l39) + ((1000 * l48) / l30))) (xpt_lt _) (fun z58 hz59 he60 => ?_)
  rw [hn31] at hn49
  have hk61 : z58 = xpt (lN (1000 * wwh (rwv w 7) (rwk w 56) (fld w 6 3) + 1000 * wpt (rwv w 7) (rwk w 56) (pr (rwv w 7) (fld w 6 3)) (fld w 6 3) / pr (rwv w 7) (fld w 6 3))).toInt32 := by
    rw [← hn40, ← hn49, ← hn31]
    exact he60.symm
  exact xg_e ⟨z58, w44, ⟨rfl, rfl⟩, hk61, hI46, (((hF29.up (by decide)).tr (hF38.up (by decide))).tr (hF47.up (by decide)))⟩
theorem scTiredX {la nn_ : Nat} (hI : xInv w) (hla : la ≤ 4294967295) (hnn_ : nn_ ≤ 4294967295) (ht : ∀ k i, k < fld w 4 3 → i < 3 → 1 ≤ rwv w 5 (4 * k + i) ∧ rwv w 5 (4 * k + i) ≤ 99) (hS : ∀ k, k < fld w 6 3 → rwv w 7 (2 * k) ≤ 99) (hv : ∀ k, k < fld w 6 3 → 1 ≤ rwv w 7 (2 * k + 1) ∧ rwv w 7 (2 * k + 1) ≤ 999) (hR : ∀ i, i < fld w 8 3 → (1 ≤ rwv w 9 (2 * i + 1) ∧ rwv w 9 (2 * i + 1) ≤ 9999) ∧ rwv w 9 (2 * i) ≤ 9999) : xPi (d + 4) mX11_tired [(2, 0), (0, la), (0, nn_)] w bd fc rr (fun n w' => (((la < fld w 4 3 ∧ nn_ ≤ fld w 8 3) ∧ n = xpt (lN (1000 * wwh (rwv w 7) (wfd (fun i => wli (rwv w 7) (bU (rwv w 5) (fun q => q) (fld w 4 3) la) (bfr (rwv w 5) (fun q => q) (fld w 4 3) la) (rwv w 9 (2 * i + 1)) (fld w 6 3)) (fun i => rwv w 9 (2 * i)) nn_) (fld w 6 3) + 1000 * wpt (rwv w 7) (wfd (fun i => wli (rwv w 7) (bU (rwv w 5) (fun q => q) (fld w 4 3) la) (bfr (rwv w 5) (fun q => q) (fld w 4 3) la) (rwv w 9 (2 * i + 1)) (fld w 6 3)) (fun i => rwv w 9 (2 * i)) nn_) (pr (rwv w 7) (fld w 6 3)) (fld w 6 3) / pr (rwv w 7) (fld w 6 3))).toInt32) ∨ (¬ (la < fld w 4 3 ∧ nn_ ≤ fld w 8 3) ∧ n = 4294967295)) ∧ xInv w' ∧ xFr [50, 51, 52, 53, 54, 55, 56] w w') := by
  refine xPi.of ?_
  show xTo (d + 4) mX11_tired (0, [], [(0, (2, 0)), (1, (0, la)), (2, (0, nn_))], [], (w, bd, fc, 0, 0, rr)) (fun φ => ∃ n w', xEnd 1 [(0, n)] (w', bd, fc, 0, 0, rr) φ ∧ (((la < fld w 4 3 ∧ nn_ ≤ fld w 8 3) ∧ n = xpt (lN (1000 * wwh (rwv w 7) (wfd (fun i => wli (rwv w 7) (bU (rwv w 5) (fun q => q) (fld w 4 3) la) (bfr (rwv w 5) (fun q => q) (fld w 4 3) la) (rwv w 9 (2 * i + 1)) (fld w 6 3)) (fun i => rwv w 9 (2 * i)) nn_) (fld w 6 3) + 1000 * wpt (rwv w 7) (wfd (fun i => wli (rwv w 7) (bU (rwv w 5) (fun q => q) (fld w 4 3) la) (bfr (rwv w 5) (fun q => q) (fld w 4 3) la) (rwv w 9 (2 * i + 1)) (fld w 6 3)) (fun i => rwv w 9 (2 * i)) nn_) (pr (rwv w 7) (fld w 6 3)) (fld w 6 3) / pr (rwv w 7) (fld w 6 3))).toInt32) ∨ (¬ (la < fld w 4 3 ∧ nn_ ≤ fld w 8 3) ∧ n = 4294967295)) ∧ xInv w' ∧ xFr [50, 51, 52, 53, 54, 55, 56] w w')
  have h0_1 := (hI 0 (by decide) : cp0 (wget w 0))
  refine xoC1 (hI 1 (by decide) : cp1 (wget w 1)) (fun f1_2 f1_4 f1_6 f1_8 f1_10 f1_12 h1_14 hb3 hb5 hb7 hb9 hb11 hb13 => ?_)
  refine xoC3 (hI 3 (by decide) : cp3 (wget w 3)) (fun f3_15 f3_17 f3_19 f3_21 f3_23 h3_25 hb16 hb18 hb20 hb22 hb24 => ?_)
  obtain ⟨f4_26, h4_28, hb27⟩ := (hI 4 (by decide) : cp4 (wget w 4))
  refine xoI (hI 5 (by decide) : cpI 24 1 4294967295 (wget w 5)) (fun g5_29 h5_30 hb31 => ?_)
  have q43 : fld w 4 3 = f4_26 := fld_of h4_28
  obtain ⟨f6_32, h6_34, hb33⟩ := (hI 6 (by decide) : cp6 (wget w 6))
  refine xoI (hI 7 (by decide) : cpI 8 2 4294967295 (wget w 7)) (fun g7_35 h7_36 hb37 => ?_)
  obtain ⟨f8_38, h8_40, hb39⟩ := (hI 8 (by decide) : cp8 (wget w 8))
  refine xoI (hI 9 (by decide) : cpI 12 3 4294967295 (wget w 9)) (fun g9_41 h9_42 hb43 => ?_)
  have q63 : fld w 6 3 = f6_32 := fld_of h6_34
  have q83 : fld w 8 3 = f8_38 := fld_of h8_40
  refine xg_t (xg_blk (b := [(0, 1, 0, 0, 0, 0), (1, 3, 1, 11, 0, 10), (4, 3, 1, 9, 4, 38), (7, 3, 1, 1, 2, 169), (10, 1, 27, 3, 0, 0), (11, 1, 0, 0, 0, 0), (12, 3, 1, 11, 0, 10), (15, 3, 1, 9, 4, 38), (18, 3, 1, 1, 0, 112), (21, 1, 2, 1, 0, 0), (22, 3, 13, 287, 40, 117), (25, 3, 7, 40, 0, 0), (28, 1, 2, 2, 0, 0), (29, 3, 7, 40, 2, 0), (32, 1, 2, 2, 0, 0), (33, 1, 0, 3, 0, 0), (34, 3, 1, 5, 3, 151), (37, 3, 6, 42, 5, 0)]) rfl) ?_
  refine xg_t (xg_aload (va := (2, 0)) rfl rfl) ?_
  refine xg_t (xg_getf (va := (2, 1)) h0_1 rfl) ?_
  refine xg_t (xg_getf (va := (2, 3)) h1_14 rfl) ?_
  refine xg_t (xg_getf (va := (2, 8)) h3_25 rfl) ?_
  refine xg_t (xg_astore (l1 := [(0, (2, 0)), (1, (0, la)), (2, (0, nn_))]) rfl rfl rfl) ?_
  refine xg_t (xg_aload (va := (2, 0)) rfl rfl) ?_
  refine xg_t (xg_getf (va := (2, 1)) h0_1 rfl) ?_
  refine xg_t (xg_getf (va := (2, 3)) h1_14 rfl) ?_
  refine xg_t (xg_getf (va := (2, 4)) h3_25 rfl) ?_
  refine xg_t (xg_iload (va := (0, la)) rfl rfl) ?_
  refine xg_t (xg_cVr mX5_has (vs := [(0, la)]) (rest := []) (rs := [(0, if la < f4_26 then 1 else 0)]) (cn1 := 0) (sl1 := 0) rfl (rhas_ok h4_28 (by decide) (by omega) (by omega)) rfl h4_28 rfl rfl rfl rfl rfl rfl rfl) ?_
  by_cases hc44 : la < f4_26
  · refine xg_t (xg_ifF (u := (if la < f4_26 then 1 else 0)) rfl xnm0 (xj_eqF (xite1 hc44))) ?_
    refine xg_t (xg_iload (va := (0, nn_)) rfl rfl) ?_
    by_cases hc45 : nn_ < 2147483648
    · refine xg_t (xg_ifF (u := nn_) rfl xnm0 (xjz_ltF hc45)) ?_
      refine xg_t (xg_iload (va := (0, nn_)) rfl rfl) ?_
      refine xg_t (xg_aload (va := (2, 8)) rfl rfl) ?_
      refine xg_t (xg_getf (va := (0, f8_38)) h8_40 rfl) ?_
      by_cases hc46 : f8_38 < nn_
      · refine xg_t (xg_icF (u := nn_) (v := f8_38) rfl xnm0 xnm0 (xj_leF hc46 (by omega))) ?_
        refine xg_t (xg_blk (b := [(40, 1, 3, 4294967295, 0, 0), (41, 1, 12, 0, 1, 0)]) rfl) ?_
        refine xg_t (xg_const) ?_
        exact xg_e ⟨4294967295, w, ⟨rfl, rfl⟩, Or.inr ⟨by omega, rfl⟩, hI, xFr.rf⟩
      · refine xg_t (xg_icT (u := nn_) (v := f8_38) rfl xnm0 xnm0 (xj_leT (by omega) (by omega))) ?_
        refine xg_t (xg_blk (b := [(42, 1, 0, 0, 0, 0), (43, 3, 1, 11, 4, 45), (46, 3, 13, 12, 0, 123), (49, 1, 0, 0, 0, 0), (50, 3, 1, 11, 4, 45), (53, 3, 13, 16, 0, 172), (56, 1, 3, 0, 0, 0), (57, 2, 15, 4, 0, 0)]) rfl) ?_
        refine xg_t (xg_aload (va := (2, 0)) rfl rfl) ?_
        refine xg_t (xg_getf (va := (2, 49)) h0_1 rfl) ?_
        refine xoC49 (hI 49 (by decide) : cp49 (wget w 49)) (fun f49_47 f49_49 h49_51 hb48 hb50 => ?_)
        refine xg_cVv mX0_layAsTold (vs := []) (rest := []) (cn1 := 0) (sl1 := 0) rfl (bdToldX (hI) ht) rfl h49_51 rfl rfl rfl rfl rfl rfl (fun w52 hq53 => ?_)
        obtain ⟨hI54, hF55, hx56⟩ := hq53
        obtain ⟨hbd0, ho50⟩ := hx56
        have hbd : bdw w52 (rwv w 5) (fun q => q) (fld w 4 3) := hbd0
        have e5_ : rwv w52 5 = rwv w 5 := rwf_eq (hF55.1 5 (by decide))
        have e4_ : fld w52 4 3 = fld w 4 3 := fld_fr hF55 (by decide)
        have hmL : ∀ q, q < fld w 4 3 → rwv w52 50 q < fld w52 4 3 ∧ bM (rwv w52 5) (rwv w52 50) q ≤ 99 := fun q hq => by
          have q1 := ht q 2 hq (by decide)
          unfold bM
          rw [e5_, e4_, ho50 q (by omega)]
          exact ⟨hq, q1.2⟩
        have hmE : ∀ q, q < fld w 4 3 → bM (rwv w52 5) (rwv w52 50) q = bM (rwv w 5) (fun q => q) q ∧ bU (rwv w 5) (fun q => q) (fld w 4 3) q = bU (rwv w 5) (fun q => q) (fld w 4 3) q ∧ bfr (rwv w 5) (fun q => q) (fld w 4 3) q = bfr (rwv w 5) (fun q => q) (fld w 4 3) q := fun q hq => ⟨by unfold bM; rw [e5_, ho50 q (by omega)], rfl, rfl⟩
        refine xg_t (xg_aload (va := (2, 0)) rfl rfl) ?_
        refine xg_t (xg_getf (va := (2, 49)) (hF55.get (by decide) h0_1) rfl) ?_
        refine xg_cVv mX0_restWear (vs := []) (rest := []) (cn1 := 0) (sl1 := 0) rfl (bdRestX (hI54)) rfl (hF55.get (by decide) h49_51) rfl rfl rfl rfl rfl rfl (fun w57 hq58 => ?_)
        obtain ⟨hI59, hF60, hx61⟩ := hq58
        have hbd1 : bdw w57 (rwv w 5) (fun q => q) (fld w 4 3) := hbd.kp (fun c h1 h2 => hF60.1 c (fun z => by have q := List.mem_singleton.mp z; omega))
        refine xg_t (xg_const) ?_
        refine xg_t (xg_istore (l1 := [(3, (2, 8)), (0, (2, 0)), (1, (0, la)), (2, (0, nn_))]) rfl rfl rfl) ?_
        refine xg_t (xg_drop (l1 := [(0, (2, 0)), (1, (0, la)), (2, (0, nn_)), (3, (2, 8)), (4, (0, 0))]) (List.forall_mem_cons.mpr ⟨List.mem_cons_of_mem _ (List.mem_cons_of_mem _ (List.mem_cons_self)), List.forall_mem_cons.mpr ⟨List.mem_cons_of_mem _ (List.mem_cons_of_mem _ (List.mem_cons_of_mem _ (List.mem_cons_self))), List.forall_mem_cons.mpr ⟨List.mem_cons_of_mem _ (List.mem_cons_of_mem _ (List.mem_cons_of_mem _ (List.mem_cons_of_mem _ (List.mem_cons_self)))), List.forall_mem_cons.mpr ⟨List.mem_cons_of_mem _ (List.mem_cons_self), List.forall_mem_cons.mpr ⟨List.mem_cons_self, fun _ h => absurd h List.not_mem_nil⟩⟩⟩⟩⟩)) ?_
        have key62 : ∀ (m64 : Nat) (ki : Nat) (w65 : List (List xE)), 6 - ki < m64 → ki ≤ 6 → xInv w65 → xFr [50, 51, 52, 53, 54, 55, 56] w w65 → bdw w65 (rwv w 5) (fun q => q) (fld w 4 3) ∧ (∀ k, k < 4 → rwk w65 56 k = (wfd (fun i => wli (rwv w 7) (bU (rwv w 5) (fun q => q) (fld w 4 3) la) (bfr (rwv w 5) (fun q => q) (fld w 4 3) la) (rwv w 9 (2 * i + 1)) (fld w 6 3)) (fun i => rwv w 9 (2 * i)) ki) k) ∧ ki ≤ nn_ → xTo (d + 4) mX11_tired (59, [], [(0, (2, 0)), (1, (0, la)), (2, (0, nn_)), (3, (2, 8)), (4, (0, ki))], [], (w65, bd, fc, 0, 0, rr)) (fun φ => ∃ n w', xEnd 1 [(0, n)] (w', bd, fc, 0, 0, rr) φ ∧ (((la < fld w 4 3 ∧ nn_ ≤ fld w 8 3) ∧ n = xpt (lN (1000 * wwh (rwv w 7) (wfd (fun i => wli (rwv w 7) (bU (rwv w 5) (fun q => q) (fld w 4 3) la) (bfr (rwv w 5) (fun q => q) (fld w 4 3) la) (rwv w 9 (2 * i + 1)) (fld w 6 3)) (fun i => rwv w 9 (2 * i)) nn_) (fld w 6 3) + 1000 * wpt (rwv w 7) (wfd (fun i => wli (rwv w 7) (bU (rwv w 5) (fun q => q) (fld w 4 3) la) (bfr (rwv w 5) (fun q => q) (fld w 4 3) la) (rwv w 9 (2 * i + 1)) (fld w 6 3)) (fun i => rwv w 9 (2 * i)) nn_) (pr (rwv w 7) (fld w 6 3)) (fld w 6 3) / pr (rwv w 7) (fld w 6 3))).toInt32) ∨ (¬ (la < fld w 4 3 ∧ nn_ ≤ fld w 8 3) ∧ n = 4294967295)) ∧ xInv w' ∧ xFr [50, 51, 52, 53, 54, 55, 56] w w') := by
          intro m64
          induction m64 with
          | zero => intro ki w65 hz; exact absurd hz (Nat.not_lt_zero _)
          | succ m64 ih63 =>
            intro ki w65 hm70 hn68 hI66 hF67 he69
            obtain ⟨hbd2, hfo, hkn⟩ := he69
            refine xg_t (xg_blk (b := [(59, 2, 2, 4, 0, 0), (61, 1, 2, 2, 0, 0), (62, 3, 6, 94, 3, 0), (65, 1, 0, 0, 0, 0), (66, 3, 1, 11, 4, 45), (69, 1, 2, 1, 0, 0), (70, 1, 0, 3, 0, 0), (71, 2, 2, 4, 0, 0), (73, 1, 3, 0, 0, 0), (74, 3, 13, 285, 40, 132), (77, 1, 49, 0, 0, 0), (78, 1, 0, 3, 0, 0), (79, 2, 2, 4, 0, 0), (81, 1, 3, 1, 0, 0), (82, 3, 13, 285, 40, 132), (85, 3, 13, 21, 0, 175), (88, 3, 9, 4, 1, 0), (91, 3, 8, 59, 0, 0)]) rfl) ?_
            refine xg_t (xg_iload (va := (0, ki)) rfl rfl) ?_
            refine xg_t (xg_iload (va := (0, nn_)) rfl rfl) ?_
            by_cases hc71 : ki < nn_
            · refine xg_t (xg_icF (u := ki) (v := nn_) rfl xnm0 xnm0 (xj_geF hc71 (by omega))) ?_
              refine xg_t (xg_aload (va := (2, 0)) rfl rfl) ?_
              refine xg_t (xg_getf (va := (2, 49)) (hF67.get (by decide) h0_1) rfl) ?_
              refine xg_t (xg_iload (va := (0, la)) rfl rfl) ?_
              refine xg_t (xg_aload (va := (2, 8)) rfl rfl) ?_
              refine xg_t (xg_iload (va := (0, ki)) rfl rfl) ?_
              refine xg_t (xg_const) ?_
              refine xg_kE (xg_cVr mX5_get (vs := [(0, ki), (0, 0)]) (rest := [(0, la), (2, 49)]) (rs := [(0, g9_41 (ki * 2 + 0)), (0, la), (2, 49)]) (cn1 := 0) (sl1 := 0) rfl (rgetX (lim := 6) (wd := 2) (sz := f8_38) (hF67.get (by decide) h8_40) (h9_42.fr hF67 (by decide)) (by decide) (by omega) (by decide) (by decide) (by omega) (by decide)) rfl (hF67.get (by decide) h8_40) rfl rfl rfl rfl rfl rfl rfl) (Nat.lt_succ_of_le ((hb43) _)) (fun z72 hz73 he74 => ?_)
              have hS75 : rwv w 9 (2 * ki) = z72 := by
                rw [rwv_of (j := 2 * ki) h9_42 (by omega), show 2 * ki = ki * 2 + 0 by omega]
                exact he74
              have hl76 := hR ki (by omega)
              have hl77 : z72 ≤ 9999 := by omega
              refine xg_t (xg_i2l (u := z72) xnm0) ?_
              refine xg_t (xg_lre (b := z72) (by rw [xlp_eq]; exact nI_l (by omega))) ?_
              refine xg_t (xg_aload (va := (2, 8)) rfl rfl) ?_
              refine xg_t (xg_iload (va := (0, ki)) rfl rfl) ?_
              refine xg_t (xg_const) ?_
              refine xg_kE (xg_cVr mX5_get (vs := [(0, ki), (0, 1)]) (rest := [(4, z72), (0, la), (2, 49)]) (rs := [(0, g9_41 (ki * 2 + 1)), (4, z72), (0, la), (2, 49)]) (cn1 := 0) (sl1 := 0) rfl (rgetX (lim := 6) (wd := 2) (sz := f8_38) (hF67.get (by decide) h8_40) (h9_42.fr hF67 (by decide)) (by decide) (by omega) (by decide) (by decide) (by omega) (by decide)) rfl (hF67.get (by decide) h8_40) rfl rfl rfl rfl rfl rfl rfl) (Nat.lt_succ_of_le ((hb43) _)) (fun z78 hz79 he80 => ?_)
              have hS81 : rwv w 9 (2 * ki + 1) = z78 := by
                rw [rwv_of (j := 2 * ki + 1) h9_42 (by omega), show 2 * ki + 1 = ki * 2 + 1 by omega]
                exact he80
              have hl82 := hR ki (by omega)
              have hl83 : 1 ≤ z78 ∧ z78 ≤ 9999 := by omega
              have hf84 : xFr [50, 51, 52, 53, 54, 55, 56] w w65 := hF67
              have e785 : rwv w65 7 = rwv w 7 := rwf_eq (hf84.1 7 (by decide))
              have e686 : fld w65 6 3 = fld w 6 3 := fld_fr hf84 (by decide)
              refine xg_cVv mX0_wear (vs := [(0, la), (4, z72), (0, z78)]) (rest := []) (cn1 := 0) (sl1 := 0) rfl (bdWearX (hI66) (by omega) (by omega) hbd2 (by omega) (by rw [e686, e785]; exact hS)) rfl (hF67.get (by decide) h49_51) rfl rfl rfl rfl rfl rfl (fun w88 hq89 => ?_)
              obtain ⟨hI90, hF91, hx92⟩ := hq89
              rw [e785, e686] at hx92
              have hq93 : ∀ k, k < 4 → rwk w88 56 k = (wfd (fun i => wli (rwv w 7) (bU (rwv w 5) (fun q => q) (fld w 4 3) la) (bfr (rwv w 5) (fun q => q) (fld w 4 3) la) (rwv w 9 (2 * i + 1)) (fld w 6 3)) (fun i => rwv w 9 (2 * i)) (ki + 1)) k := fun k hk => by
                have a := hx92 k hk
                rw [hfo k hk] at a
                show _ = (wfd (fun i => wli (rwv w 7) (bU (rwv w 5) (fun q => q) (fld w 4 3) la) (bfr (rwv w 5) (fun q => q) (fld w 4 3) la) (rwv w 9 (2 * i + 1)) (fld w 6 3)) (fun i => rwv w 9 (2 * i)) ki) k + (if (fun i => wli (rwv w 7) (bU (rwv w 5) (fun q => q) (fld w 4 3) la) (bfr (rwv w 5) (fun q => q) (fld w 4 3) la) (rwv w 9 (2 * i + 1)) (fld w 6 3)) ki = k + 1 then (fun i => rwv w 9 (2 * i)) ki else 0)
                rw [a]
                show _ = (wfd (fun i => wli (rwv w 7) (bU (rwv w 5) (fun q => q) (fld w 4 3) la) (bfr (rwv w 5) (fun q => q) (fld w 4 3) la) (rwv w 9 (2 * i + 1)) (fld w 6 3)) (fun i => rwv w 9 (2 * i)) ki) k + (if wli (rwv w 7) (bU (rwv w 5) (fun q => q) (fld w 4 3) la) (bfr (rwv w 5) (fun q => q) (fld w 4 3) la) (rwv w 9 (2 * ki + 1)) (fld w 6 3) = k + 1 then rwv w 9 (2 * ki) else 0)
                rw [hS75, hS81]
              have hb94 : bdw w88 (rwv w 5) (fun q => q) (fld w 4 3) := hbd2.kp (fun c h1 h2 => hF91.1 c (fun z => by have q := List.mem_singleton.mp z; omega))
              refine xg_t (xg_iinc (u := ki) (z := ki + 1) (l1 := [(0, (2, 0)), (1, (0, la)), (2, (0, nn_)), (3, (2, 8))]) rfl rfl (by omega) rfl) ?_
              refine xg_t (xg_goto) ?_
              refine xg_t (xg_drop (l1 := [(0, (2, 0)), (1, (0, la)), (2, (0, nn_)), (3, (2, 8)), (4, (0, ki + 1))]) (List.forall_mem_cons.mpr ⟨List.mem_cons_of_mem _ (List.mem_cons_self), List.forall_mem_cons.mpr ⟨List.mem_cons_of_mem _ (List.mem_cons_of_mem _ (List.mem_cons_self)), List.forall_mem_cons.mpr ⟨List.mem_cons_of_mem _ (List.mem_cons_of_mem _ (List.mem_cons_of_mem _ (List.mem_cons_self))), List.forall_mem_cons.mpr ⟨List.mem_cons_of_mem _ (List.mem_cons_of_mem _ (List.mem_cons_of_mem _ (List.mem_cons_of_mem _ (List.mem_cons_self)))), List.forall_mem_cons.mpr ⟨List.mem_cons_self, fun _ h => absurd h List.not_mem_nil⟩⟩⟩⟩⟩)) ?_
              exact ih63 (ki + 1) w88 (by omega) (by omega) (hI90) ((hF67.tr (hF91.up (by decide)))) (⟨hb94, hq93, by omega⟩)
            · refine xg_t (xg_icT (u := ki) (v := nn_) rfl xnm0 xnm0 (xj_geT (by omega) (by omega))) ?_
              refine xg_t (xg_blk (b := [(94, 1, 0, 0, 0, 0), (95, 3, 1, 11, 4, 45), (98, 3, 13, 23, 0, 179), (101, 1, 12, 0, 1, 0)]) rfl) ?_
              refine xg_t (xg_aload (va := (2, 0)) rfl rfl) ?_
              refine xg_t (xg_getf (va := (2, 49)) (hF67.get (by decide) h0_1) rfl) ?_
              have hf95 : xFr [50, 51, 52, 53, 54, 55, 56] w w65 := hF67
              have e796 : rwv w65 7 = rwv w 7 := rwf_eq (hf95.1 7 (by decide))
              have e697 : fld w65 6 3 = fld w 6 3 := fld_fr hf95 (by decide)
              have hv99 : ∀ k, k < fld w65 6 3 → 1 ≤ rwv w65 7 (2 * k + 1) ∧ rwv w65 7 (2 * k + 1) ≤ 999 := by rw [e697, e796]; exact hv
              have hf100 : ∀ k, k < 4 → rwk w65 56 k ≤ 20000000 := fun k hk => by
                rw [hfo k hk]
                have q := wfd_le (li := (fun i => wli (rwv w 7) (bU (rwv w 5) (fun q => q) (fld w 4 3) la) (bfr (rwv w 5) (fun q => q) (fld w 4 3) la) (rwv w 9 (2 * i + 1)) (fld w 6 3))) (t := (fun i => rwv w 9 (2 * i))) (m := ki) (k := k) (B := 9999) (fun i hi => (hR i (by omega)).2)
                omega
              refine xg_cVi mX0_wornThousandths (vs := []) (rest := []) (cn1 := 0) (sl1 := 0) rfl (bdWornThX (hI66) hv99 hf100) rfl (hF67.get (by decide) h49_51) rfl rfl rfl rfl rfl rfl (fun n105 w101 hq102 => ?_)
              obtain ⟨hn106, hI103, hF104⟩ := hq102
              rw [e796, e697, wwh_cg (fun _ _ => rfl) (fun k hk => hfo k (by omega)), wpt_cg (fun _ _ => rfl) (fun k hk => hfo k (by omega))] at hn106
              rw [show ki = nn_ by omega] at hn106
              exact xg_e ⟨n105, w101, ⟨rfl, rfl⟩, Or.inl ⟨by omega, hn106⟩, hI103, (hF67.tr (hF104.up (by decide)))⟩
        exact key62 _ 0 w57 (Nat.lt_succ_self _) (by omega) (hI59) (((hF55.up (by decide)).tr (hF60.up (by decide)))) (⟨hbd1, hx61, Nat.zero_le _⟩)
    · refine xg_t (xg_ifT (u := nn_) rfl xnm0 (xjz_ltT (by omega) (by omega))) ?_
      refine xg_t (xg_blk (b := [(40, 1, 3, 4294967295, 0, 0), (41, 1, 12, 0, 1, 0)]) rfl) ?_
      refine xg_t (xg_const) ?_
      exact xg_e ⟨4294967295, w, ⟨rfl, rfl⟩, Or.inr ⟨by omega, rfl⟩, hI, xFr.rf⟩
  · refine xg_t (xg_ifT (u := (if la < f4_26 then 1 else 0)) rfl xnm0 (xj_eqT (xite0 hc44))) ?_
    refine xg_t (xg_blk (b := [(40, 1, 3, 4294967295, 0, 0), (41, 1, 12, 0, 1, 0)]) rfl) ?_
    refine xg_t (xg_const) ?_
    exact xg_e ⟨4294967295, w, ⟨rfl, rfl⟩, Or.inr ⟨by omega, rfl⟩, hI, xFr.rf⟩
end XWC
end
