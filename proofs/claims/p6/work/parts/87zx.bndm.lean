section
/-! the model: layers laid -/
theorem xMnv.lay {w : List (List xE)} (hI : xMnv w) {k i : Nat} (hk : k < rwv w 83 0) (hi : i < 3) : 1 ≤ rwv w 83 (20 + (4 * k + i)) ∧ rwv w 83 (20 + (4 * k + i)) ≤ 99 := by
  refine xoX83 (xqc83 hI : cpx83 (wget w 83)) (fun f h hb hx => ?_)
  rw [rwv_of (j := 0) h (by decide)] at hk
  have l := hx.l0
  have q := hx.lay hk hi
  rw [rwv_of (j := 20 + (4 * k + i)) h (by omega), ← Nat.add_assoc]
  exact q
theorem xMnv.l0 {w : List (List xE)} (hI : xMnv w) : rwv w 83 0 ≤ 6 := by
  refine xoX83 (xqc83 hI : cpx83 (wget w 83)) (fun f h hb hx => ?_)
  rw [rwv_of (j := 0) h (by decide)]
  exact hx.l0
section XBM
variable {d : Nat} {w : List (List xE)} {bd : List (Nat × Nat)} {fc : List (Nat × Nat × Bool)} {rr : Nat × Nat}
theorem mLayerOfX {pp wh : Nat} (hI : xMnv w) (hpp : pp ≤ 5) (hwh : wh ≤ 3) : xPi d mX12_layerOf [(2, 82), (0, pp), (0, wh)] w bd fc rr (fun n w' => (n = rwv w 83 (20 + 4 * rwv w 88 pp + wh)) ∧ xMnv w' ∧ xFr [] w w') := by
  refine xPi.of ?_
  show xTo d mX12_layerOf (0, [], [(0, (2, 82)), (1, (0, pp)), (2, (0, wh))], [], (w, bd, fc, 0, 0, rr)) (fun φ => ∃ n w', xEnd 1 [(0, n)] (w', bd, fc, 0, 0, rr) φ ∧ (n = rwv w 83 (20 + 4 * rwv w 88 pp + wh)) ∧ xMnv w' ∧ xFr [] w w')
  refine xoCh82 (xqc82 hI : cp82 (wget w 82)) (fun f82_1 f82_3 f82_5 f82_7 f82_9 f82_11 f82_13 f82_15 f82_17 f82_19 f82_21 f82_22 f82_23 f82_25 f82_27 f82_29 h82_31 hb2 hb4 hb6 hb8 hb10 hb12 hb14 hb16 hb18 hb20 hb24 hb26 hb28 hb30 hb32 => ?_)
  refine xoX83 (xqc83 hI : cpx83 (wget w 83)) (fun g83_33 h83_34 hb35 hx36 => ?_)
  refine xoI (xqc88 hI : cpI 6 55 5 (wget w 88)) (fun g88_37 h88_38 hb39 => ?_)
  refine xg_t (xg_blq rfl) ?_
  refine xg_t (xg_aload (va := (2, 82)) rfl rfl) ?_
  refine xg_t (xg_getf (va := (2, 83)) h82_31 rfl) ?_
  refine xg_t (xg_bip) ?_
  refine xg_t (xg_const) ?_
  refine xg_t (xg_aload (va := (2, 82)) rfl rfl) ?_
  refine xg_t (xg_getf (va := (2, 88)) h82_31 rfl) ?_
  refine xg_t (xg_iload (va := (0, pp)) rfl rfl) ?_
  refine xg_ialdB (n := pp) (B := 5) h88_38 (hb39) xnm0 (by omega) (fun u40 hu41 he42 => ?_)
  refine xg_t (xg_imul (u := 4) (v := u40) (z := 4 * u40) xnm0 xnm0 (by omega)) ?_
  refine xg_t (xg_iadd (u := 20) (v := 4 * u40) (z := 20 + (4 * u40)) xnm0 xnm0 (by omega)) ?_
  refine xg_t (xg_iload (va := (0, wh)) rfl rfl) ?_
  refine xg_t (xg_iadd (u := 20 + (4 * u40)) (v := wh) (z := (20 + (4 * u40)) + wh) xnm0 xnm0 (by omega)) ?_
  refine xg_ialdB (n := (20 + (4 * u40)) + wh) (B := 4294967295) h83_34 (hb35) xnm0 (by omega) (fun u43 hu44 he45 => ?_)
  have hq46 : rwv w 88 pp = u40 := (rwv_of h88_38 (by omega)).trans he42
  have hq47 : u43 = rwv w 83 (20 + 4 * rwv w 88 pp + wh) := by
    rw [hq46, rwv_of (j := 20 + 4 * u40 + wh) h83_34 (by omega)]
    exact he45.symm
  exact xg_e ⟨u43, w, ⟨rfl, rfl⟩, hq47, hI, xFr.rf⟩
theorem mSize0X {vv : Nat} (hI : xMnv w)  : xPj d mX12_size0 [(4, vv)] w bd fc rr (fun n w' => (lN n = iab (lN vv)) ∧ xMnv w' ∧ xFr [] w w') := by
  refine xPj.of ?_
  show xTo d mX12_size0 (0, [], [(0, (4, vv))], [], (w, bd, fc, 0, 0, rr)) (fun φ => ∃ n w', xEnd 2 [(4, n)] (w', bd, fc, 0, 0, rr) φ ∧ (lN n = iab (lN vv)) ∧ xMnv w' ∧ xFr [] w w')
  refine xg_t (xg_blq rfl) ?_
  refine xg_t (xg_lload (u := vv) rfl) ?_
  refine xg_t (xg_lconst) ?_
  refine xg_t (xg_lcmp (u := vv) (v := 0)) ?_
  by_cases hc1 : lN vv < lN 0
  · refine xg_t (xg_ifF (u := xpt (lg_cmp (lN vv) (lN 0))) rfl xnm0 (xlj_geF hc1)) ?_
    refine xg_t (xg_lload (u := vv) rfl) ?_
    refine xg_klE (xg_lneg (u := vv)) (fun l2 hz3 => ?_)
    refine xg_t (xg_goto) ?_
    refine xg_t (xg_blq rfl) ?_
    exact xg_e ⟨l2, w, ⟨rfl, rfl⟩, hz3.trans (iab_neg hc1).symm, hI, xFr.rf⟩
  · refine xg_t (xg_ifT (u := xpt (lg_cmp (lN vv) (lN 0))) rfl xnm0 (xlj_geT hc1)) ?_
    refine xg_t (xg_blq rfl) ?_
    refine xg_t (xg_lload (u := vv) rfl) ?_
    refine xg_t (xg_blq rfl) ?_
    exact xg_e ⟨vv, w, ⟨rfl, rfl⟩, (iab_nn hc1).symm, hI, xFr.rf⟩
set_option maxHeartbeats 60000000 in
theorem mBlocksX (hI : xMnv w) (hb : ∀ q, q < rwv w 83 0 → rwv w 88 q < rwv w 83 0) : xPq (d + 1) mX12_blocks [(2, 82)] w bd fc rr [] (fun w' => xMnv w' ∧ xFr [90, 91, 92, 93, 94] w w' ∧ (∀ q, q < rwv w 83 0 → rwv w' 91 q = bfs (fun j => rwv w 83 (20 + j)) q ∧ rwv w' 90 q = bhg (fun j => rwv w 83 (20 + j)) (rwv w 88) q ∧ rwk w' 92 q = bO (fun j => rwv w 83 (20 + j)) (rwv w 88) (rwv w 83 0) q ∧ rwk w' 93 q = bU (fun j => rwv w 83 (20 + j)) (rwv w 88) (rwv w 83 0) q ∧ lN (rwk w' 94 q) = bfr (fun j => rwv w 83 (20 + j)) (rwv w 88) (rwv w 83 0) q)) := by
  refine xPq.of ?_
  show xTo (d + 1) mX12_blocks (0, [], [(0, (2, 82))], [], (w, bd, fc, 0, 0, rr)) (fun φ => ∃ w', xEnd 0 [] (w', bd, fc, 0, 0, rr) φ ∧ xMnv w' ∧ xFr [90, 91, 92, 93, 94] w w' ∧ (∀ q, q < rwv w 83 0 → rwv w' 91 q = bfs (fun j => rwv w 83 (20 + j)) q ∧ rwv w' 90 q = bhg (fun j => rwv w 83 (20 + j)) (rwv w 88) q ∧ rwk w' 92 q = bO (fun j => rwv w 83 (20 + j)) (rwv w 88) (rwv w 83 0) q ∧ rwk w' 93 q = bU (fun j => rwv w 83 (20 + j)) (rwv w 88) (rwv w 83 0) q ∧ lN (rwk w' 94 q) = bfr (fun j => rwv w 83 (20 + j)) (rwv w 88) (rwv w 83 0) q))
  refine xoCh82 (xqc82 hI : cp82 (wget w 82)) (fun f82_1 f82_3 f82_5 f82_7 f82_9 f82_11 f82_13 f82_15 f82_17 f82_19 f82_21 f82_22 f82_23 f82_25 f82_27 f82_29 h82_31 hb2 hb4 hb6 hb8 hb10 hb12 hb14 hb16 hb18 hb20 hb24 hb26 hb28 hb30 hb32 => ?_)
  refine xoX83 (xqc83 hI : cpx83 (wget w 83)) (fun g83_33 h83_34 hb35 hx36 => ?_)
  refine xoI (xqc88 hI : cpI 6 55 5 (wget w 88)) (fun g88_37 h88_38 hb39 => ?_)
  have hl0 := xMnv.l0 hI
  refine xg_t (xg_blq rfl) ?_
  refine xg_t (xg_const) ?_
  refine xg_t (xg_istore (l1 := [(0, (2, 82))]) rfl rfl rfl) ?_
  refine xg_t (xg_const) ?_
  refine xg_t (xg_istore (l1 := [(1, (0, 0)), (0, (2, 82))]) rfl rfl rfl) ?_
  refine xg_t (xg_drop (l1 := [(0, (2, 82)), (1, (0, 0)), (2, (0, 0))]) (List.forall_mem_cons.mpr ⟨List.mem_cons_of_mem _ (List.mem_cons_of_mem _ (List.mem_cons_self)), List.forall_mem_cons.mpr ⟨List.mem_cons_of_mem _ (List.mem_cons_self), List.forall_mem_cons.mpr ⟨List.mem_cons_self, fun _ h => absurd h List.not_mem_nil⟩⟩⟩)) ?_
  have key40 : ∀ (m42 : Nat) (hh pi_ : Nat) (w43 : List (List xE)), 6 - pi_ < m42 → hh ≤ 594 → pi_ ≤ 6 → xMnv w43 → xFr [90, 91, 92, 93, 94] w w43 → (∀ q, q < pi_ → rwv w43 91 q = bfs (fun j => rwv w 83 (20 + j)) q ∧ rwv w43 90 q = bhg (fun j => rwv w 83 (20 + j)) (rwv w 88) q ∧ rwk w43 92 (bfs (fun j => rwv w 83 (20 + j)) q) = bA (fun j => rwv w 83 (20 + j)) (bt1 (fun j => rwv w 83 (20 + j)) (rwv w 88)) pi_ (bfs (fun j => rwv w 83 (20 + j)) q) ∧ rwk w43 93 (bfs (fun j => rwv w 83 (20 + j)) q) = bA (fun j => rwv w 83 (20 + j)) (bt2 (fun j => rwv w 83 (20 + j)) (rwv w 88)) pi_ (bfs (fun j => rwv w 83 (20 + j)) q)) ∧ (hh = bhg (fun j => rwv w 83 (20 + j)) (rwv w 88) pi_ ∧ hh ≤ 99 * pi_) ∧ pi_ ≤ (rwv w 83 0) → xTo (d + 1) mX12_blocks (4, [], [(0, (2, 82)), (1, (0, hh)), (2, (0, pi_))], [], (w43, bd, fc, 0, 0, rr)) (fun φ => ∃ w', xEnd 0 [] (w', bd, fc, 0, 0, rr) φ ∧ xMnv w' ∧ xFr [90, 91, 92, 93, 94] w w' ∧ (∀ q, q < rwv w 83 0 → rwv w' 91 q = bfs (fun j => rwv w 83 (20 + j)) q ∧ rwv w' 90 q = bhg (fun j => rwv w 83 (20 + j)) (rwv w 88) q ∧ rwk w' 92 q = bO (fun j => rwv w 83 (20 + j)) (rwv w 88) (rwv w 83 0) q ∧ rwk w' 93 q = bU (fun j => rwv w 83 (20 + j)) (rwv w 88) (rwv w 83 0) q ∧ lN (rwk w' 94 q) = bfr (fun j => rwv w 83 (20 + j)) (rwv w 88) (rwv w 83 0) q)) := by
    intro m42
    induction m42 with
    | zero => intro hh pi_ w43 hz; exact absurd hz (Nat.not_lt_zero _)
    | succ m42 ih41 =>
      intro hh pi_ w43 hm49 hn46 hn47 hI44 hF45 he48
      obtain ⟨hq50, ⟨hh51, hl52⟩, hn53⟩ := he48
      refine xoI (xqc90 hI44 : cpI 6 57 4294967295 (wget w43 90)) (fun g90_54 h90_55 hb56 => ?_)
      refine xoI (xqc91 hI44 : cpI 6 58 5 (wget w43 91)) (fun g91_57 h91_58 hb59 => ?_)
      obtain ⟨g92_60, h92_61⟩ := (xqc92 hI44 : cpJ 6 59 (wget w43 92))
      have h92_61 : xRk 3 4 w43 92 6 59 g92_60 := h92_61
      obtain ⟨g93_63, h93_64⟩ := (xqc93 hI44 : cpJ 6 60 (wget w43 93))
      have h93_64 : xRk 3 4 w43 93 6 60 g93_63 := h93_64
      refine xg_t (xg_blq rfl) ?_
      refine xg_t (xg_iload (va := (0, pi_)) rfl rfl) ?_
      refine xg_t (xg_aload (va := (2, 82)) rfl rfl) ?_
      refine xg_t (xg_getf (va := (2, 83)) (hF45.get (by decide) h82_31) rfl) ?_
      refine xg_t (xg_const) ?_
      refine xg_ialdB (n := 0) (B := 4294967295) (h83_34.fr hF45 (by decide)) (hb35) xnm0 (by first | decide | omega) (fun u66 hu67 he68 => ?_)
      have hl69 : u66 ≤ 6 := by rw [← he68]; exact hx36.l0
      have hq70 : rwv w 83 0 = u66 := (rwv_of h83_34 (by omega)).trans he68
      by_cases hc71 : pi_ < u66
      · refine xg_t (xg_icF (u := pi_) (v := u66) rfl xnm0 xnm0 (xj_geF hc71 (by omega))) ?_
        refine xg_t (xg_iload (va := (0, pi_)) rfl rfl) ?_
        by_cases hc72 : pi_ = 0
        · refine xg_t (xg_ifT (u := pi_) rfl xnm0 (xj_eqT hc72)) ?_
          refine xg_t (xg_blq rfl) ?_
          refine xg_t (xg_const) ?_
          refine xg_t (xg_goto) ?_
          refine xg_t (xg_blq rfl) ?_
          refine xg_t (xg_istore (l1 := [(0, (2, 82)), (1, (0, hh)), (2, (0, pi_))]) rfl rfl rfl) ?_
          refine xg_t (xg_aload (va := (2, 82)) rfl rfl) ?_
          refine xg_t (xg_getf (va := (2, 91)) (hF45.get (by decide) h82_31) rfl) ?_
          refine xg_t (xg_iload (va := (0, pi_)) rfl rfl) ?_
          refine xg_t (xg_iload (va := (0, 1)) rfl rfl) ?_
          refine xg_t (xg_ifF (u := 1) rfl xnm0 (by decide)) ?_
          refine xg_t (xg_iload (va := (0, pi_)) rfl rfl) ?_
          refine xg_t (xg_goto) ?_
          refine xg_t (xg_blq rfl) ?_
          refine xg_iastK (n := pi_) (u := pi_) h91_58 xnm0 xnm0 rfl (by omega) (fun w73 hr74 hb75 => ?_)
          obtain ⟨g76, hg77⟩ : ∃ g : Nat → Nat, g = (fun j => if j = pi_ then pi_ else g91_57 j) := ⟨_, rfl⟩
          rw [← hg77] at hr74
          have he78 : g76 pi_ = pi_ := by rw [hg77]; exact if_pos rfl
          have hk79 : ∀ j, j ≠ pi_ → g76 j = g91_57 j := fun j hj => by rw [hg77]; exact if_neg hj
          have hb80 : ∀ j, g76 j ≤ 5 := fun j => by rw [hg77]; exact xrb (by omega) (hb59) j
          refine xg_t (xg_aload (va := (2, 82)) rfl rfl) ?_
          refine xg_t (xg_getf (va := (2, 90)) (hb75.get (by decide) (hF45.get (by decide) h82_31)) rfl) ?_
          refine xg_t (xg_iload (va := (0, pi_)) rfl rfl) ?_
          refine xg_t (xg_iload (va := (0, hh)) rfl rfl) ?_
          refine xg_iastK (n := pi_) (u := hh) (h90_55.but hb75 (by decide)) xnm0 xnm0 rfl (by omega) (fun w81 hr82 hb83 => ?_)
          obtain ⟨g84, hg85⟩ : ∃ g : Nat → Nat, g = (fun j => if j = pi_ then hh else g90_54 j) := ⟨_, rfl⟩
          rw [← hg85] at hr82
          have he86 : g84 pi_ = hh := by rw [hg85]; exact if_pos rfl
          have hk87 : ∀ j, j ≠ pi_ → g84 j = g90_54 j := fun j hj => by rw [hg85]; exact if_neg hj
          have hb88 : ∀ j, g84 j ≤ 4294967295 := fun j => by rw [hg85]; exact xrb (by omega) (hb56) j
          refine xg_t (xg_iload (va := (0, hh)) rfl rfl) ?_
          refine xg_t (xg_aload (va := (2, 82)) rfl rfl) ?_
          refine xg_t (xg_iload (va := (0, pi_)) rfl rfl) ?_
          refine xg_t (xg_const) ?_
          refine xg_cVi mX12_layerOf (vs := [(0, pi_), (0, 0)]) (rest := [(0, hh)]) (cn1 := 0) (sl1 := 0) rfl (mLayerOfX (xMnv.up (S := [91, 90]) hI44 ((xFr.of (S := [91, 90]) hb75 (by decide)).tr (xFr.of (S := [91, 90]) hb83 (by decide))) (List.forall_mem_cons.mpr ⟨xqu91 (show cpI 6 58 5 (wget w81 91) from ⟨_, (hr74.but hb83 (by decide)), hb80⟩), List.forall_mem_cons.mpr ⟨xqu90 (show cpI 6 57 4294967295 (wget w81 90) from ⟨_, hr82, hb88⟩), fun _ h => absurd h List.not_mem_nil⟩⟩)) (by omega) (by omega)) rfl (hb83.get (by decide) (hb75.get (by decide) (hF45.get (by decide) h82_31))) rfl rfl rfl rfl rfl rfl (fun n93 w89 hq90 => ?_)
          obtain ⟨hn94, hI91, hF92⟩ := hq90
          have hT95 : bT (fun j => rwv w 83 (20 + j)) (rwv w 88) pi_ = n93 := by
            rw [hn94, rwf_eq ((hF45.tr ((xFr.of (S := [90, 91, 92, 93, 94]) hb75 (by decide)).tr (xFr.of (S := [90, 91, 92, 93, 94]) hb83 (by decide)))).1 83 (by decide)), rwf_eq ((hF45.tr ((xFr.of (S := [90, 91, 92, 93, 94]) hb75 (by decide)).tr (xFr.of (S := [90, 91, 92, 93, 94]) hb83 (by decide)))).1 88 (by decide))]
            rfl
          have hl96 : 1 ≤ n93 ∧ n93 ≤ 99 := by
            have q := xMnv.lay hI (k := rwv w 88 pi_) (i := 0) (hb pi_ (by omega)) (by decide)
            rw [← hT95]
            exact q
          refine xg_t (xg_iadd (u := hh) (v := n93) (z := hh + n93) xnm0 xnm0 (by omega)) ?_
          refine xg_t (xg_istore (l1 := [(3, (0, 1)), (0, (2, 82)), (2, (0, pi_))]) rfl rfl rfl) ?_
          refine xg_t (xg_iload (va := (0, 1)) rfl rfl) ?_
          refine xg_t (xg_ifF (u := 1) rfl xnm0 (by decide)) ?_
          refine xg_t (xg_aload (va := (2, 82)) rfl rfl) ?_
          refine xg_t (xg_getf (va := (2, 92)) (hF92.get (by decide) (hb83.get (by decide) (hb75.get (by decide) (hF45.get (by decide) h82_31)))) rfl) ?_
          refine xg_t (xg_iload (va := (0, pi_)) rfl rfl) ?_
          refine xg_t (xg_lconst) ?_
          refine xg_last (n := pi_) (u := 0) (((h92_61.but hb75 (by decide)).but hb83 (by decide)).fr hF92 (by decide)) xnm0 (by omega) (fun w97 hr98 hb99 => ?_)
          obtain ⟨g100, hg101⟩ : ∃ g : Nat → Nat, g = (fun j => if j = pi_ then 0 else g92_60 j) := ⟨_, rfl⟩
          rw [← hg101] at hr98
          have he102 : g100 pi_ = 0 := by rw [hg101]; exact if_pos rfl
          have hk103 : ∀ j, j ≠ pi_ → g100 j = g92_60 j := fun j hj => by rw [hg101]; exact if_neg hj
          refine xg_t (xg_aload (va := (2, 82)) rfl rfl) ?_
          refine xg_t (xg_getf (va := (2, 93)) (hb99.get (by decide) (hF92.get (by decide) (hb83.get (by decide) (hb75.get (by decide) (hF45.get (by decide) h82_31))))) rfl) ?_
          refine xg_t (xg_iload (va := (0, pi_)) rfl rfl) ?_
          refine xg_t (xg_lconst) ?_
          refine xg_last (n := pi_) (u := 0) ((((h93_64.but hb75 (by decide)).but hb83 (by decide)).fr hF92 (by decide)).but hb99 (by decide)) xnm0 (by omega) (fun w104 hr105 hb106 => ?_)
          obtain ⟨g107, hg108⟩ : ∃ g : Nat → Nat, g = (fun j => if j = pi_ then 0 else g93_63 j) := ⟨_, rfl⟩
          rw [← hg108] at hr105
          have he109 : g107 pi_ = 0 := by rw [hg108]; exact if_pos rfl
          have hk110 : ∀ j, j ≠ pi_ → g107 j = g93_63 j := fun j hj => by rw [hg108]; exact if_neg hj
          refine xg_t (xg_blq rfl) ?_
          refine xg_t (xg_aload (va := (2, 82)) rfl rfl) ?_
          refine xg_t (xg_iload (va := (0, pi_)) rfl rfl) ?_
          refine xg_t (xg_const) ?_
          refine xg_cVi mX12_layerOf (vs := [(0, pi_), (0, 0)]) (rest := []) (cn1 := 0) (sl1 := 0) rfl (mLayerOfX (xMnv.up (S := [92, 93]) hI91 ((xFr.of (S := [92, 93]) hb99 (by decide)).tr (xFr.of (S := [92, 93]) hb106 (by decide))) (List.forall_mem_cons.mpr ⟨xqu92 (show cpJ 6 59 (wget w104 92) from ⟨_, (hr98.but hb106 (by decide))⟩), List.forall_mem_cons.mpr ⟨xqu93 (show cpJ 6 60 (wget w104 93) from ⟨_, hr105⟩), fun _ h => absurd h List.not_mem_nil⟩⟩)) (by omega) (by omega)) rfl (hb106.get (by decide) (hb99.get (by decide) (hF92.get (by decide) (hb83.get (by decide) (hb75.get (by decide) (hF45.get (by decide) h82_31)))))) rfl rfl rfl rfl rfl rfl (fun n115 w111 hq112 => ?_)
          obtain ⟨hn116, hI113, hF114⟩ := hq112
          have hT117 : bT (fun j => rwv w 83 (20 + j)) (rwv w 88) pi_ = n115 := by
            rw [hn116, rwf_eq ((((hF45.tr ((xFr.of (S := [90, 91, 92, 93, 94]) hb75 (by decide)).tr (xFr.of (S := [90, 91, 92, 93, 94]) hb83 (by decide)))).tr (hF92.up (by decide))).tr ((xFr.of (S := [90, 91, 92, 93, 94]) hb99 (by decide)).tr (xFr.of (S := [90, 91, 92, 93, 94]) hb106 (by decide)))).1 83 (by decide)), rwf_eq ((((hF45.tr ((xFr.of (S := [90, 91, 92, 93, 94]) hb75 (by decide)).tr (xFr.of (S := [90, 91, 92, 93, 94]) hb83 (by decide)))).tr (hF92.up (by decide))).tr ((xFr.of (S := [90, 91, 92, 93, 94]) hb99 (by decide)).tr (xFr.of (S := [90, 91, 92, 93, 94]) hb106 (by decide)))).1 88 (by decide))]
            rfl
          have hl118 : 1 ≤ n115 ∧ n115 ≤ 99 := by
            have q := xMnv.lay hI (k := rwv w 88 pi_) (i := 0) (hb pi_ (by omega)) (by decide)
            rw [← hT117]
            exact q
          refine xg_t (xg_aload (va := (2, 82)) rfl rfl) ?_
          refine xg_t (xg_iload (va := (0, pi_)) rfl rfl) ?_
          refine xg_t (xg_const) ?_
          refine xg_cVi mX12_layerOf (vs := [(0, pi_), (0, 1)]) (rest := [(0, n115)]) (cn1 := 0) (sl1 := 0) rfl (mLayerOfX (hI113) (by omega) (by omega)) rfl (hF114.get (by decide) (hb106.get (by decide) (hb99.get (by decide) (hF92.get (by decide) (hb83.get (by decide) (hb75.get (by decide) (hF45.get (by decide) h82_31))))))) rfl rfl rfl rfl rfl rfl (fun n123 w119 hq120 => ?_)
          obtain ⟨hn124, hI121, hF122⟩ := hq120
          have hT125 : bS (fun j => rwv w 83 (20 + j)) (rwv w 88) pi_ = n123 := by
            rw [hn124, rwf_eq (((((hF45.tr ((xFr.of (S := [90, 91, 92, 93, 94]) hb75 (by decide)).tr (xFr.of (S := [90, 91, 92, 93, 94]) hb83 (by decide)))).tr (hF92.up (by decide))).tr ((xFr.of (S := [90, 91, 92, 93, 94]) hb99 (by decide)).tr (xFr.of (S := [90, 91, 92, 93, 94]) hb106 (by decide)))).tr (hF114.up (by decide))).1 83 (by decide)), rwf_eq (((((hF45.tr ((xFr.of (S := [90, 91, 92, 93, 94]) hb75 (by decide)).tr (xFr.of (S := [90, 91, 92, 93, 94]) hb83 (by decide)))).tr (hF92.up (by decide))).tr ((xFr.of (S := [90, 91, 92, 93, 94]) hb99 (by decide)).tr (xFr.of (S := [90, 91, 92, 93, 94]) hb106 (by decide)))).tr (hF114.up (by decide))).1 88 (by decide))]
            rfl
          have hl126 : 1 ≤ n123 ∧ n123 ≤ 99 := by
            have q := xMnv.lay hI (k := rwv w 88 pi_) (i := 1) (hb pi_ (by omega)) (by decide)
            rw [← hT125]
            exact q
          have hm127 : n115 * n123 ≤ 99 * 99 := Nat.mul_le_mul (by omega) (by omega)
          refine xg_t (xg_imul (u := n115) (v := n123) (z := n115 * n123) xnm0 xnm0 (Nat.mod_eq_of_lt (by omega))) ?_
          refine xg_t (xg_i2l (u := n115 * n123) xnm0) ?_
          refine xg_t (xg_lre (b := n115 * n123) (by rw [xlp_eq]; exact nI_l (by omega))) ?_
          refine xg_t (xg_lstore (l1 := [(1, (0, hh + n93)), (3, (0, 1)), (0, (2, 82)), (2, (0, pi_))]) rfl rfl) ?_
          refine xg_t (xg_aload (va := (2, 82)) rfl rfl) ?_
          refine xg_t (xg_getf (va := (2, 92)) (hF122.get (by decide) (hF114.get (by decide) (hb106.get (by decide) (hb99.get (by decide) (hF92.get (by decide) (hb83.get (by decide) (hb75.get (by decide) (hF45.get (by decide) h82_31)))))))) rfl) ?_
          refine xg_t (xg_aload (va := (2, 82)) rfl rfl) ?_
          refine xg_t (xg_getf (va := (2, 91)) (hF122.get (by decide) (hF114.get (by decide) (hb106.get (by decide) (hb99.get (by decide) (hF92.get (by decide) (hb83.get (by decide) (hb75.get (by decide) (hF45.get (by decide) h82_31)))))))) rfl) ?_
          refine xg_t (xg_iload (va := (0, pi_)) rfl rfl) ?_
          refine xg_ialdB (n := pi_) (B := 5) ((((((hr74.but hb83 (by decide)).fr hF92 (by decide)).but hb99 (by decide)).but hb106 (by decide)).fr hF114 (by decide)).fr hF122 (by decide)) (hb80) xnm0 (by omega) (fun u128 hu129 he130 => ?_)
          have hd131 : u128 = pi_ := he130.symm.trans he78
          refine xg_t (xg_dup2 rfl) ?_
          obtain ⟨l132, hz133⟩ : ∃ z, g100 u128 = z := ⟨_, rfl⟩
          refine xg_t (xg_lald (n := u128) (((hr98.but hb106 (by decide)).fr hF114 (by decide)).fr hF122 (by decide)) xnm0 (by omega) hz133) ?_
          refine xg_t (xg_lload (u := n115 * n123) rfl) ?_
          refine xg_t (xg_const) ?_
          refine xg_t (xg_aload (va := (2, 82)) rfl rfl) ?_
          refine xg_t (xg_getf (va := (2, 90)) (hF122.get (by decide) (hF114.get (by decide) (hb106.get (by decide) (hb99.get (by decide) (hF92.get (by decide) (hb83.get (by decide) (hb75.get (by decide) (hF45.get (by decide) h82_31)))))))) rfl) ?_
          refine xg_t (xg_iload (va := (0, pi_)) rfl rfl) ?_
          refine xg_ialdB (n := pi_) (B := 4294967295) (((((hr82.fr hF92 (by decide)).but hb99 (by decide)).but hb106 (by decide)).fr hF114 (by decide)).fr hF122 (by decide)) (hb88) xnm0 (by omega) (fun u134 hu135 he136 => ?_)
          have hd137 : u134 = hh := he136.symm.trans he86
          refine xg_t (xg_imul (u := 2) (v := u134) (z := 2 * u134) xnm0 xnm0 (by omega)) ?_
          refine xg_t (xg_aload (va := (2, 82)) rfl rfl) ?_
          refine xg_t (xg_iload (va := (0, pi_)) rfl rfl) ?_
          refine xg_t (xg_const) ?_
          refine xg_cVi mX12_layerOf (vs := [(0, pi_), (0, 0)]) (rest := [(0, 2 * u134), (4, n115 * n123), (4, l132), (0, u128), (2, 92)]) (cn1 := 0) (sl1 := 0) rfl (mLayerOfX (hI121) (by omega) (by omega)) rfl (hF122.get (by decide) (hF114.get (by decide) (hb106.get (by decide) (hb99.get (by decide) (hF92.get (by decide) (hb83.get (by decide) (hb75.get (by decide) (hF45.get (by decide) h82_31)))))))) rfl rfl rfl rfl rfl rfl (fun n142 w138 hq139 => ?_)
          obtain ⟨hn143, hI140, hF141⟩ := hq139
          have hT144 : bT (fun j => rwv w 83 (20 + j)) (rwv w 88) pi_ = n142 := by
            rw [hn143, rwf_eq ((((((hF45.tr ((xFr.of (S := [90, 91, 92, 93, 94]) hb75 (by decide)).tr (xFr.of (S := [90, 91, 92, 93, 94]) hb83 (by decide)))).tr (hF92.up (by decide))).tr ((xFr.of (S := [90, 91, 92, 93, 94]) hb99 (by decide)).tr (xFr.of (S := [90, 91, 92, 93, 94]) hb106 (by decide)))).tr (hF114.up (by decide))).tr (hF122.up (by decide))).1 83 (by decide)), rwf_eq ((((((hF45.tr ((xFr.of (S := [90, 91, 92, 93, 94]) hb75 (by decide)).tr (xFr.of (S := [90, 91, 92, 93, 94]) hb83 (by decide)))).tr (hF92.up (by decide))).tr ((xFr.of (S := [90, 91, 92, 93, 94]) hb99 (by decide)).tr (xFr.of (S := [90, 91, 92, 93, 94]) hb106 (by decide)))).tr (hF114.up (by decide))).tr (hF122.up (by decide))).1 88 (by decide))]
            rfl
          have hl145 : 1 ≤ n142 ∧ n142 ≤ 99 := by
            have q := xMnv.lay hI (k := rwv w 88 pi_) (i := 0) (hb pi_ (by omega)) (by decide)
            rw [← hT144]
            exact q
          refine xg_t (xg_iadd (u := 2 * u134) (v := n142) (z := (2 * u134) + n142) xnm0 xnm0 (by omega)) ?_
          refine xg_t (xg_i2l (u := (2 * u134) + n142) xnm0) ?_
          refine xg_t (xg_lre (b := (2 * u134) + n142) (by rw [xlp_eq]; exact nI_l (by omega))) ?_
          refine xg_t (xg_lmul (u := n115 * n123) (v := (2 * u134) + n142)) ?_
          refine xg_t (xg_lre (b := (n115 * n123) * ((2 * u134) + n142)) (by rw [xlp_eq]; exact lN_mul _ _)) ?_
          refine xg_t (xg_ladd (u := l132) (v := (n115 * n123) * ((2 * u134) + n142))) ?_
          refine xg_t (xg_lre (b := l132 + ((n115 * n123) * ((2 * u134) + n142))) (by rw [xlp_eq]; exact lN_add _ _)) ?_
          refine xg_last (n := u128) (u := l132 + ((n115 * n123) * ((2 * u134) + n142))) ((((hr98.but hb106 (by decide)).fr hF114 (by decide)).fr hF122 (by decide)).fr hF141 (by decide)) xnm0 (by omega) (fun w146 hr147 hb148 => ?_)
          obtain ⟨g149, hg150⟩ : ∃ g : Nat → Nat, g = (fun j => if j = u128 then l132 + ((n115 * n123) * ((2 * u134) + n142)) else g100 j) := ⟨_, rfl⟩
          rw [← hg150] at hr147
          have he151 : g149 u128 = l132 + ((n115 * n123) * ((2 * u134) + n142)) := by rw [hg150]; exact if_pos rfl
          have hk152 : ∀ j, j ≠ u128 → g149 j = g100 j := fun j hj => by rw [hg150]; exact if_neg hj
          refine xg_t (xg_aload (va := (2, 82)) rfl rfl) ?_
          refine xg_t (xg_getf (va := (2, 93)) (hb148.get (by decide) (hF141.get (by decide) (hF122.get (by decide) (hF114.get (by decide) (hb106.get (by decide) (hb99.get (by decide) (hF92.get (by decide) (hb83.get (by decide) (hb75.get (by decide) (hF45.get (by decide) h82_31)))))))))) rfl) ?_
          refine xg_t (xg_aload (va := (2, 82)) rfl rfl) ?_
          refine xg_t (xg_getf (va := (2, 91)) (hb148.get (by decide) (hF141.get (by decide) (hF122.get (by decide) (hF114.get (by decide) (hb106.get (by decide) (hb99.get (by decide) (hF92.get (by decide) (hb83.get (by decide) (hb75.get (by decide) (hF45.get (by decide) h82_31)))))))))) rfl) ?_
          refine xg_t (xg_iload (va := (0, pi_)) rfl rfl) ?_
          refine xg_ialdB (n := pi_) (B := 5) ((((((((hr74.but hb83 (by decide)).fr hF92 (by decide)).but hb99 (by decide)).but hb106 (by decide)).fr hF114 (by decide)).fr hF122 (by decide)).fr hF141 (by decide)).but hb148 (by decide)) (hb80) xnm0 (by omega) (fun u153 hu154 he155 => ?_)
          have hd156 : u153 = pi_ := he155.symm.trans he78
          refine xg_t (xg_dup2 rfl) ?_
          obtain ⟨l157, hz158⟩ : ∃ z, g107 u153 = z := ⟨_, rfl⟩
          refine xg_t (xg_lald (n := u153) ((((hr105.fr hF114 (by decide)).fr hF122 (by decide)).fr hF141 (by decide)).but hb148 (by decide)) xnm0 (by omega) hz158) ?_
          refine xg_t (xg_ldc2) ?_
          refine xg_t (xg_lload (u := n115 * n123) rfl) ?_
          refine xg_t (xg_lmul (u := 2) (v := n115 * n123)) ?_
          refine xg_t (xg_lre (b := 2 * (n115 * n123)) (by rw [xlp_eq]; exact lN_mul _ _)) ?_
          refine xg_t (xg_ladd (u := l157) (v := 2 * (n115 * n123))) ?_
          refine xg_t (xg_lre (b := l157 + (2 * (n115 * n123))) (by rw [xlp_eq]; exact lN_add _ _)) ?_
          refine xg_last (n := u153) (u := l157 + (2 * (n115 * n123))) ((((hr105.fr hF114 (by decide)).fr hF122 (by decide)).fr hF141 (by decide)).but hb148 (by decide)) xnm0 (by omega) (fun w159 hr160 hb161 => ?_)
          obtain ⟨g162, hg163⟩ : ∃ g : Nat → Nat, g = (fun j => if j = u153 then l157 + (2 * (n115 * n123)) else g107 j) := ⟨_, rfl⟩
          rw [← hg163] at hr160
          have he164 : g162 u153 = l157 + (2 * (n115 * n123)) := by rw [hg163]; exact if_pos rfl
          have hk165 : ∀ j, j ≠ u153 → g162 j = g107 j := fun j hj => by rw [hg163]; exact if_neg hj
          refine xg_t (xg_iinc (u := pi_) (z := pi_ + 1) (l1 := [(4, (4, n115 * n123)), (1, (0, hh + n93)), (3, (0, 1)), (0, (2, 82))]) rfl rfl (by omega) rfl) ?_
          refine xg_t (xg_goto) ?_
          refine xg_t (xg_drop (l1 := [(0, (2, 82)), (1, (0, hh + n93)), (2, (0, pi_ + 1))]) (List.forall_mem_cons.mpr ⟨List.mem_cons_of_mem _ (List.mem_cons_of_mem _ (List.mem_cons_of_mem _ (List.mem_cons_of_mem _ (List.mem_cons_self)))), List.forall_mem_cons.mpr ⟨List.mem_cons_of_mem _ (List.mem_cons_of_mem _ (List.mem_cons_self)), List.forall_mem_cons.mpr ⟨List.mem_cons_self, fun _ h => absurd h List.not_mem_nil⟩⟩⟩)) ?_
          have ht166 : (n115 * n123) * ((2 * u134) + n142) = bt1 (fun j => rwv w 83 (20 + j)) (rwv w 88) pi_ := by
            unfold bt1
            rw [hT117, hT125, ← hh51, hd137, show n142 = n115 from hT144.symm.trans hT117]
          have ht167 : 2 * (n115 * n123) = bt2 (fun j => rwv w 83 (20 + j)) (rwv w 88) pi_ := by
            unfold bt2
            rw [hT117, hT125]
          have hz168 : l132 = 0 := by
            rw [← hz133, hd131]
            exact he102
          have hz169 : l157 = 0 := by
            rw [← hz158, hd156]
            exact he109
          have hbs171 := bs_0 (r := (fun j => rwv w 83 (20 + j))) (f := (bt1 (fun j => rwv w 83 (20 + j)) (rwv w 88))) (p := pi_) (z := l132) (t := (n115 * n123) * ((2 * u134) + n142)) (by omega) hz168 ht166
          have hbs172 := bs_0 (r := (fun j => rwv w 83 (20 + j))) (f := (bt2 (fun j => rwv w 83 (20 + j)) (rwv w 88))) (p := pi_) (z := l157) (t := 2 * (n115 * n123)) (by omega) hz169 ht167
          have hfs170 : bfs (fun j => rwv w 83 (20 + j)) pi_ = pi_ := by rw [show pi_ = 0 by omega]; rfl
          have hst173 := bd_step (r := (fun j => rwv w 83 (20 + j))) (o := (rwv w 88)) (p := pi_) (F := rwv w43 91) (H := rwv w43 90) (O := rwk w43 92) (U := rwk w43 93) (F' := rwv w159 91) (H' := rwv w159 90) (O' := rwk w159 92) (U' := rwk w159 93) hq50 ((rwv_of (((((((((hr74.but hb83 (by decide)).fr hF92 (by decide)).but hb99 (by decide)).but hb106 (by decide)).fr hF114 (by decide)).fr hF122 (by decide)).fr hF141 (by decide)).but hb148 (by decide)).but hb161 (by decide)) (by omega)).trans (he78.trans hfs170.symm)) (fun q hq => by rw [rwv_of (j := q) (((((((((hr74.but hb83 (by decide)).fr hF92 (by decide)).but hb99 (by decide)).but hb106 (by decide)).fr hF114 (by decide)).fr hF122 (by decide)).fr hF141 (by decide)).but hb148 (by decide)).but hb161 (by decide)) (by omega), hk79 q (by omega), ← rwv_of (j := q) h91_58 (by omega)]) ((rwv_of ((((((((hr82.fr hF92 (by decide)).but hb99 (by decide)).but hb106 (by decide)).fr hF114 (by decide)).fr hF122 (by decide)).fr hF141 (by decide)).but hb148 (by decide)).but hb161 (by decide)) (by omega)).trans (he86.trans hh51)) (fun q hq => by rw [rwv_of (j := q) ((((((((hr82.fr hF92 (by decide)).but hb99 (by decide)).but hb106 (by decide)).fr hF114 (by decide)).fr hF122 (by decide)).fr hF141 (by decide)).but hb148 (by decide)).but hb161 (by decide)) (by omega), hk87 q (by omega), ← rwv_of (j := q) h90_55 (by omega)]) (by rw [hfs170]; exact (congrArg (rwk w159 92) hd131.symm).trans ((rwk_of (hr147.but hb161 (by decide)) (by omega)).trans (he151.trans hbs171))) (fun s hs hn => by rw [hfs170] at hn; rw [rwk_of (j := s) (hr147.but hb161 (by decide)) (by omega), hk152 s (by rw [hd131]; exact hn), hk103 s hn, ← rwk_of (j := s) h92_61 (by omega)]) (by rw [hfs170]; exact (congrArg (rwk w159 93) hd156.symm).trans ((rwk_of hr160 (by omega)).trans (he164.trans hbs172))) (fun s hs hn => by rw [hfs170] at hn; rw [rwk_of (j := s) hr160 (by omega), hk165 s (by rw [hd156]; exact hn), hk110 s hn, ← rwk_of (j := s) h93_64 (by omega)])
          have hp174 : bhg (fun j => rwv w 83 (20 + j)) (rwv w 88) (pi_ + 1) = bhg (fun j => rwv w 83 (20 + j)) (rwv w 88) pi_ + bT (fun j => rwv w 83 (20 + j)) (rwv w 88) pi_ := rfl
          rw [hT95] at hp174
          exact ih41 (hh + n93) (pi_ + 1) w159 (by omega) (by omega) (by omega) (xMnv.up (S := [92, 93]) hI140 ((xFr.of (S := [92, 93]) hb148 (by decide)).tr (xFr.of (S := [92, 93]) hb161 (by decide))) (List.forall_mem_cons.mpr ⟨xqu92 (show cpJ 6 59 (wget w159 92) from ⟨_, (hr147.but hb161 (by decide))⟩), List.forall_mem_cons.mpr ⟨xqu93 (show cpJ 6 60 (wget w159 93) from ⟨_, hr160⟩), fun _ h => absurd h List.not_mem_nil⟩⟩)) ((((((((hF45.tr ((xFr.of (S := [90, 91, 92, 93, 94]) hb75 (by decide)).tr (xFr.of (S := [90, 91, 92, 93, 94]) hb83 (by decide)))).tr (hF92.up (by decide))).tr ((xFr.of (S := [90, 91, 92, 93, 94]) hb99 (by decide)).tr (xFr.of (S := [90, 91, 92, 93, 94]) hb106 (by decide)))).tr (hF114.up (by decide))).tr (hF122.up (by decide))).tr (hF141.up (by decide))).tr ((xFr.of (S := [90, 91, 92, 93, 94]) hb148 (by decide)).tr (xFr.of (S := [90, 91, 92, 93, 94]) hb161 (by decide))))) (⟨hst173, ⟨by omega, by omega⟩, by omega⟩)
        · refine xg_t (xg_ifF (u := pi_) rfl xnm0 (xj_eqF hc72)) ?_
          refine xg_t (xg_aload (va := (2, 82)) rfl rfl) ?_
          refine xg_t (xg_getf (va := (2, 83)) (hF45.get (by decide) h82_31) rfl) ?_
          refine xg_t (xg_bip) ?_
          refine xg_t (xg_const) ?_
          refine xg_t (xg_iload (va := (0, pi_)) rfl rfl) ?_
          refine xg_t (xg_const) ?_
          refine xg_t (xg_isub (u := pi_) (v := 1) (z := pi_ - 1) xnm0 xnm0 (by omega)) ?_
          refine xg_t (xg_imul (u := 4) (v := pi_ - 1) (z := 4 * (pi_ - 1)) xnm0 xnm0 (by omega)) ?_
          refine xg_t (xg_iadd (u := 20) (v := 4 * (pi_ - 1)) (z := 20 + (4 * (pi_ - 1))) xnm0 xnm0 (by omega)) ?_
          refine xg_t (xg_const) ?_
          refine xg_t (xg_iadd (u := 20 + (4 * (pi_ - 1))) (v := 3) (z := (20 + (4 * (pi_ - 1))) + 3) xnm0 xnm0 (by omega)) ?_
          refine xg_ialdB (n := (20 + (4 * (pi_ - 1))) + 3) (B := 4294967295) (h83_34.fr hF45 (by decide)) (hb35) xnm0 (by omega) (fun u175 hu176 he177 => ?_)
          have hG178 : rwv w 83 (20 + (4 * (pi_ - 1) + 3)) = u175 := (rwv_of (j := 20 + (4 * (pi_ - 1) + 3)) h83_34 (by omega)).trans ((congrArg g83_33 (show 20 + (4 * (pi_ - 1) + 3) = (20 + (4 * (pi_ - 1))) + 3 by omega)).trans he177)
          refine xg_t (xg_const) ?_
          by_cases hc179 : u175 = 1
          · refine xg_t (xg_icF (u := u175) (v := 1) rfl xnm0 xnm0 (xj_neF hc179)) ?_
            refine xg_t (xg_blq rfl) ?_
            refine xg_t (xg_const) ?_
            refine xg_t (xg_goto) ?_
            refine xg_t (xg_blq rfl) ?_
            refine xg_t (xg_istore (l1 := [(0, (2, 82)), (1, (0, hh)), (2, (0, pi_))]) rfl rfl rfl) ?_
            refine xg_t (xg_aload (va := (2, 82)) rfl rfl) ?_
            refine xg_t (xg_getf (va := (2, 91)) (hF45.get (by decide) h82_31) rfl) ?_
            refine xg_t (xg_iload (va := (0, pi_)) rfl rfl) ?_
            refine xg_t (xg_iload (va := (0, 1)) rfl rfl) ?_
            refine xg_t (xg_ifF (u := 1) rfl xnm0 (by decide)) ?_
            refine xg_t (xg_iload (va := (0, pi_)) rfl rfl) ?_
            refine xg_t (xg_goto) ?_
            refine xg_t (xg_blq rfl) ?_
            refine xg_iastK (n := pi_) (u := pi_) h91_58 xnm0 xnm0 rfl (by omega) (fun w180 hr181 hb182 => ?_)
            obtain ⟨g183, hg184⟩ : ∃ g : Nat → Nat, g = (fun j => if j = pi_ then pi_ else g91_57 j) := ⟨_, rfl⟩
            rw [← hg184] at hr181
            have he185 : g183 pi_ = pi_ := by rw [hg184]; exact if_pos rfl
            have hk186 : ∀ j, j ≠ pi_ → g183 j = g91_57 j := fun j hj => by rw [hg184]; exact if_neg hj
            have hb187 : ∀ j, g183 j ≤ 5 := fun j => by rw [hg184]; exact xrb (by omega) (hb59) j
            refine xg_t (xg_aload (va := (2, 82)) rfl rfl) ?_
            refine xg_t (xg_getf (va := (2, 90)) (hb182.get (by decide) (hF45.get (by decide) h82_31)) rfl) ?_
            refine xg_t (xg_iload (va := (0, pi_)) rfl rfl) ?_
            refine xg_t (xg_iload (va := (0, hh)) rfl rfl) ?_
            refine xg_iastK (n := pi_) (u := hh) (h90_55.but hb182 (by decide)) xnm0 xnm0 rfl (by omega) (fun w188 hr189 hb190 => ?_)
            obtain ⟨g191, hg192⟩ : ∃ g : Nat → Nat, g = (fun j => if j = pi_ then hh else g90_54 j) := ⟨_, rfl⟩
            rw [← hg192] at hr189
            have he193 : g191 pi_ = hh := by rw [hg192]; exact if_pos rfl
            have hk194 : ∀ j, j ≠ pi_ → g191 j = g90_54 j := fun j hj => by rw [hg192]; exact if_neg hj
            have hb195 : ∀ j, g191 j ≤ 4294967295 := fun j => by rw [hg192]; exact xrb (by omega) (hb56) j
            refine xg_t (xg_iload (va := (0, hh)) rfl rfl) ?_
            refine xg_t (xg_aload (va := (2, 82)) rfl rfl) ?_
            refine xg_t (xg_iload (va := (0, pi_)) rfl rfl) ?_
            refine xg_t (xg_const) ?_
            refine xg_cVi mX12_layerOf (vs := [(0, pi_), (0, 0)]) (rest := [(0, hh)]) (cn1 := 0) (sl1 := 0) rfl (mLayerOfX (xMnv.up (S := [91, 90]) hI44 ((xFr.of (S := [91, 90]) hb182 (by decide)).tr (xFr.of (S := [91, 90]) hb190 (by decide))) (List.forall_mem_cons.mpr ⟨xqu91 (show cpI 6 58 5 (wget w188 91) from ⟨_, (hr181.but hb190 (by decide)), hb187⟩), List.forall_mem_cons.mpr ⟨xqu90 (show cpI 6 57 4294967295 (wget w188 90) from ⟨_, hr189, hb195⟩), fun _ h => absurd h List.not_mem_nil⟩⟩)) (by omega) (by omega)) rfl (hb190.get (by decide) (hb182.get (by decide) (hF45.get (by decide) h82_31))) rfl rfl rfl rfl rfl rfl (fun n200 w196 hq197 => ?_)
            obtain ⟨hn201, hI198, hF199⟩ := hq197
            have hT202 : bT (fun j => rwv w 83 (20 + j)) (rwv w 88) pi_ = n200 := by
              rw [hn201, rwf_eq ((hF45.tr ((xFr.of (S := [90, 91, 92, 93, 94]) hb182 (by decide)).tr (xFr.of (S := [90, 91, 92, 93, 94]) hb190 (by decide)))).1 83 (by decide)), rwf_eq ((hF45.tr ((xFr.of (S := [90, 91, 92, 93, 94]) hb182 (by decide)).tr (xFr.of (S := [90, 91, 92, 93, 94]) hb190 (by decide)))).1 88 (by decide))]
              rfl
            have hl203 : 1 ≤ n200 ∧ n200 ≤ 99 := by
              have q := xMnv.lay hI (k := rwv w 88 pi_) (i := 0) (hb pi_ (by omega)) (by decide)
              rw [← hT202]
              exact q
            refine xg_t (xg_iadd (u := hh) (v := n200) (z := hh + n200) xnm0 xnm0 (by omega)) ?_
            refine xg_t (xg_istore (l1 := [(3, (0, 1)), (0, (2, 82)), (2, (0, pi_))]) rfl rfl rfl) ?_
            refine xg_t (xg_iload (va := (0, 1)) rfl rfl) ?_
            refine xg_t (xg_ifF (u := 1) rfl xnm0 (by decide)) ?_
            refine xg_t (xg_aload (va := (2, 82)) rfl rfl) ?_
            refine xg_t (xg_getf (va := (2, 92)) (hF199.get (by decide) (hb190.get (by decide) (hb182.get (by decide) (hF45.get (by decide) h82_31)))) rfl) ?_
            refine xg_t (xg_iload (va := (0, pi_)) rfl rfl) ?_
            refine xg_t (xg_lconst) ?_
            refine xg_last (n := pi_) (u := 0) (((h92_61.but hb182 (by decide)).but hb190 (by decide)).fr hF199 (by decide)) xnm0 (by omega) (fun w204 hr205 hb206 => ?_)
            obtain ⟨g207, hg208⟩ : ∃ g : Nat → Nat, g = (fun j => if j = pi_ then 0 else g92_60 j) := ⟨_, rfl⟩
            rw [← hg208] at hr205
            have he209 : g207 pi_ = 0 := by rw [hg208]; exact if_pos rfl
            have hk210 : ∀ j, j ≠ pi_ → g207 j = g92_60 j := fun j hj => by rw [hg208]; exact if_neg hj
            refine xg_t (xg_aload (va := (2, 82)) rfl rfl) ?_
            refine xg_t (xg_getf (va := (2, 93)) (hb206.get (by decide) (hF199.get (by decide) (hb190.get (by decide) (hb182.get (by decide) (hF45.get (by decide) h82_31))))) rfl) ?_
            refine xg_t (xg_iload (va := (0, pi_)) rfl rfl) ?_
            refine xg_t (xg_lconst) ?_
            refine xg_last (n := pi_) (u := 0) ((((h93_64.but hb182 (by decide)).but hb190 (by decide)).fr hF199 (by decide)).but hb206 (by decide)) xnm0 (by omega) (fun w211 hr212 hb213 => ?_)
            obtain ⟨g214, hg215⟩ : ∃ g : Nat → Nat, g = (fun j => if j = pi_ then 0 else g93_63 j) := ⟨_, rfl⟩
            rw [← hg215] at hr212
            have he216 : g214 pi_ = 0 := by rw [hg215]; exact if_pos rfl
            have hk217 : ∀ j, j ≠ pi_ → g214 j = g93_63 j := fun j hj => by rw [hg215]; exact if_neg hj
            refine xg_t (xg_blq rfl) ?_
            refine xg_t (xg_aload (va := (2, 82)) rfl rfl) ?_
            refine xg_t (xg_iload (va := (0, pi_)) rfl rfl) ?_
            refine xg_t (xg_const) ?_
            refine xg_cVi mX12_layerOf (vs := [(0, pi_), (0, 0)]) (rest := []) (cn1 := 0) (sl1 := 0) rfl (mLayerOfX (xMnv.up (S := [92, 93]) hI198 ((xFr.of (S := [92, 93]) hb206 (by decide)).tr (xFr.of (S := [92, 93]) hb213 (by decide))) (List.forall_mem_cons.mpr ⟨xqu92 (show cpJ 6 59 (wget w211 92) from ⟨_, (hr205.but hb213 (by decide))⟩), List.forall_mem_cons.mpr ⟨xqu93 (show cpJ 6 60 (wget w211 93) from ⟨_, hr212⟩), fun _ h => absurd h List.not_mem_nil⟩⟩)) (by omega) (by omega)) rfl (hb213.get (by decide) (hb206.get (by decide) (hF199.get (by decide) (hb190.get (by decide) (hb182.get (by decide) (hF45.get (by decide) h82_31)))))) rfl rfl rfl rfl rfl rfl (fun n222 w218 hq219 => ?_)
            obtain ⟨hn223, hI220, hF221⟩ := hq219
            have hT224 : bT (fun j => rwv w 83 (20 + j)) (rwv w 88) pi_ = n222 := by
              rw [hn223, rwf_eq ((((hF45.tr ((xFr.of (S := [90, 91, 92, 93, 94]) hb182 (by decide)).tr (xFr.of (S := [90, 91, 92, 93, 94]) hb190 (by decide)))).tr (hF199.up (by decide))).tr ((xFr.of (S := [90, 91, 92, 93, 94]) hb206 (by decide)).tr (xFr.of (S := [90, 91, 92, 93, 94]) hb213 (by decide)))).1 83 (by decide)), rwf_eq ((((hF45.tr ((xFr.of (S := [90, 91, 92, 93, 94]) hb182 (by decide)).tr (xFr.of (S := [90, 91, 92, 93, 94]) hb190 (by decide)))).tr (hF199.up (by decide))).tr ((xFr.of (S := [90, 91, 92, 93, 94]) hb206 (by decide)).tr (xFr.of (S := [90, 91, 92, 93, 94]) hb213 (by decide)))).1 88 (by decide))]
              rfl
            have hl225 : 1 ≤ n222 ∧ n222 ≤ 99 := by
              have q := xMnv.lay hI (k := rwv w 88 pi_) (i := 0) (hb pi_ (by omega)) (by decide)
              rw [← hT224]
              exact q
            refine xg_t (xg_aload (va := (2, 82)) rfl rfl) ?_
            refine xg_t (xg_iload (va := (0, pi_)) rfl rfl) ?_
            refine xg_t (xg_const) ?_
            refine xg_cVi mX12_layerOf (vs := [(0, pi_), (0, 1)]) (rest := [(0, n222)]) (cn1 := 0) (sl1 := 0) rfl (mLayerOfX (hI220) (by omega) (by omega)) rfl (hF221.get (by decide) (hb213.get (by decide) (hb206.get (by decide) (hF199.get (by decide) (hb190.get (by decide) (hb182.get (by decide) (hF45.get (by decide) h82_31))))))) rfl rfl rfl rfl rfl rfl (fun n230 w226 hq227 => ?_)
            obtain ⟨hn231, hI228, hF229⟩ := hq227
            have hT232 : bS (fun j => rwv w 83 (20 + j)) (rwv w 88) pi_ = n230 := by
              rw [hn231, rwf_eq (((((hF45.tr ((xFr.of (S := [90, 91, 92, 93, 94]) hb182 (by decide)).tr (xFr.of (S := [90, 91, 92, 93, 94]) hb190 (by decide)))).tr (hF199.up (by decide))).tr ((xFr.of (S := [90, 91, 92, 93, 94]) hb206 (by decide)).tr (xFr.of (S := [90, 91, 92, 93, 94]) hb213 (by decide)))).tr (hF221.up (by decide))).1 83 (by decide)), rwf_eq (((((hF45.tr ((xFr.of (S := [90, 91, 92, 93, 94]) hb182 (by decide)).tr (xFr.of (S := [90, 91, 92, 93, 94]) hb190 (by decide)))).tr (hF199.up (by decide))).tr ((xFr.of (S := [90, 91, 92, 93, 94]) hb206 (by decide)).tr (xFr.of (S := [90, 91, 92, 93, 94]) hb213 (by decide)))).tr (hF221.up (by decide))).1 88 (by decide))]
              rfl
            have hl233 : 1 ≤ n230 ∧ n230 ≤ 99 := by
              have q := xMnv.lay hI (k := rwv w 88 pi_) (i := 1) (hb pi_ (by omega)) (by decide)
              rw [← hT232]
              exact q
            have hm234 : n222 * n230 ≤ 99 * 99 := Nat.mul_le_mul (by omega) (by omega)
            refine xg_t (xg_imul (u := n222) (v := n230) (z := n222 * n230) xnm0 xnm0 (Nat.mod_eq_of_lt (by omega))) ?_
            refine xg_t (xg_i2l (u := n222 * n230) xnm0) ?_
            refine xg_t (xg_lre (b := n222 * n230) (by rw [xlp_eq]; exact nI_l (by omega))) ?_
            refine xg_t (xg_lstore (l1 := [(1, (0, hh + n200)), (3, (0, 1)), (0, (2, 82)), (2, (0, pi_))]) rfl rfl) ?_
            refine xg_t (xg_aload (va := (2, 82)) rfl rfl) ?_
            refine xg_t (xg_getf (va := (2, 92)) (hF229.get (by decide) (hF221.get (by decide) (hb213.get (by decide) (hb206.get (by decide) (hF199.get (by decide) (hb190.get (by decide) (hb182.get (by decide) (hF45.get (by decide) h82_31)))))))) rfl) ?_
            refine xg_t (xg_aload (va := (2, 82)) rfl rfl) ?_
            refine xg_t (xg_getf (va := (2, 91)) (hF229.get (by decide) (hF221.get (by decide) (hb213.get (by decide) (hb206.get (by decide) (hF199.get (by decide) (hb190.get (by decide) (hb182.get (by decide) (hF45.get (by decide) h82_31)))))))) rfl) ?_
            refine xg_t (xg_iload (va := (0, pi_)) rfl rfl) ?_
            refine xg_ialdB (n := pi_) (B := 5) ((((((hr181.but hb190 (by decide)).fr hF199 (by decide)).but hb206 (by decide)).but hb213 (by decide)).fr hF221 (by decide)).fr hF229 (by decide)) (hb187) xnm0 (by omega) (fun u235 hu236 he237 => ?_)
            have hd238 : u235 = pi_ := he237.symm.trans he185
            refine xg_t (xg_dup2 rfl) ?_
            obtain ⟨l239, hz240⟩ : ∃ z, g207 u235 = z := ⟨_, rfl⟩
            refine xg_t (xg_lald (n := u235) (((hr205.but hb213 (by decide)).fr hF221 (by decide)).fr hF229 (by decide)) xnm0 (by omega) hz240) ?_
            refine xg_t (xg_lload (u := n222 * n230) rfl) ?_
            refine xg_t (xg_const) ?_
            refine xg_t (xg_aload (va := (2, 82)) rfl rfl) ?_
            refine xg_t (xg_getf (va := (2, 90)) (hF229.get (by decide) (hF221.get (by decide) (hb213.get (by decide) (hb206.get (by decide) (hF199.get (by decide) (hb190.get (by decide) (hb182.get (by decide) (hF45.get (by decide) h82_31)))))))) rfl) ?_
            refine xg_t (xg_iload (va := (0, pi_)) rfl rfl) ?_
            refine xg_ialdB (n := pi_) (B := 4294967295) (((((hr189.fr hF199 (by decide)).but hb206 (by decide)).but hb213 (by decide)).fr hF221 (by decide)).fr hF229 (by decide)) (hb195) xnm0 (by omega) (fun u241 hu242 he243 => ?_)
            have hd244 : u241 = hh := he243.symm.trans he193
            refine xg_t (xg_imul (u := 2) (v := u241) (z := 2 * u241) xnm0 xnm0 (by omega)) ?_
            refine xg_t (xg_aload (va := (2, 82)) rfl rfl) ?_
            refine xg_t (xg_iload (va := (0, pi_)) rfl rfl) ?_
            refine xg_t (xg_const) ?_
            refine xg_cVi mX12_layerOf (vs := [(0, pi_), (0, 0)]) (rest := [(0, 2 * u241), (4, n222 * n230), (4, l239), (0, u235), (2, 92)]) (cn1 := 0) (sl1 := 0) rfl (mLayerOfX (hI228) (by omega) (by omega)) rfl (hF229.get (by decide) (hF221.get (by decide) (hb213.get (by decide) (hb206.get (by decide) (hF199.get (by decide) (hb190.get (by decide) (hb182.get (by decide) (hF45.get (by decide) h82_31)))))))) rfl rfl rfl rfl rfl rfl (fun n249 w245 hq246 => ?_)
            obtain ⟨hn250, hI247, hF248⟩ := hq246
            have hT251 : bT (fun j => rwv w 83 (20 + j)) (rwv w 88) pi_ = n249 := by
              rw [hn250, rwf_eq ((((((hF45.tr ((xFr.of (S := [90, 91, 92, 93, 94]) hb182 (by decide)).tr (xFr.of (S := [90, 91, 92, 93, 94]) hb190 (by decide)))).tr (hF199.up (by decide))).tr ((xFr.of (S := [90, 91, 92, 93, 94]) hb206 (by decide)).tr (xFr.of (S := [90, 91, 92, 93, 94]) hb213 (by decide)))).tr (hF221.up (by decide))).tr (hF229.up (by decide))).1 83 (by decide)), rwf_eq ((((((hF45.tr ((xFr.of (S := [90, 91, 92, 93, 94]) hb182 (by decide)).tr (xFr.of (S := [90, 91, 92, 93, 94]) hb190 (by decide)))).tr (hF199.up (by decide))).tr ((xFr.of (S := [90, 91, 92, 93, 94]) hb206 (by decide)).tr (xFr.of (S := [90, 91, 92, 93, 94]) hb213 (by decide)))).tr (hF221.up (by decide))).tr (hF229.up (by decide))).1 88 (by decide))]
              rfl
            have hl252 : 1 ≤ n249 ∧ n249 ≤ 99 := by
              have q := xMnv.lay hI (k := rwv w 88 pi_) (i := 0) (hb pi_ (by omega)) (by decide)
              rw [← hT251]
              exact q
            refine xg_t (xg_iadd (u := 2 * u241) (v := n249) (z := (2 * u241) + n249) xnm0 xnm0 (by omega)) ?_
            refine xg_t (xg_i2l (u := (2 * u241) + n249) xnm0) ?_
            refine xg_t (xg_lre (b := (2 * u241) + n249) (by rw [xlp_eq]; exact nI_l (by omega))) ?_
            refine xg_t (xg_lmul (u := n222 * n230) (v := (2 * u241) + n249)) ?_
            refine xg_t (xg_lre (b := (n222 * n230) * ((2 * u241) + n249)) (by rw [xlp_eq]; exact lN_mul _ _)) ?_
            refine xg_t (xg_ladd (u := l239) (v := (n222 * n230) * ((2 * u241) + n249))) ?_
            refine xg_t (xg_lre (b := l239 + ((n222 * n230) * ((2 * u241) + n249))) (by rw [xlp_eq]; exact lN_add _ _)) ?_
            refine xg_last (n := u235) (u := l239 + ((n222 * n230) * ((2 * u241) + n249))) ((((hr205.but hb213 (by decide)).fr hF221 (by decide)).fr hF229 (by decide)).fr hF248 (by decide)) xnm0 (by omega) (fun w253 hr254 hb255 => ?_)
            obtain ⟨g256, hg257⟩ : ∃ g : Nat → Nat, g = (fun j => if j = u235 then l239 + ((n222 * n230) * ((2 * u241) + n249)) else g207 j) := ⟨_, rfl⟩
            rw [← hg257] at hr254
            have he258 : g256 u235 = l239 + ((n222 * n230) * ((2 * u241) + n249)) := by rw [hg257]; exact if_pos rfl
            have hk259 : ∀ j, j ≠ u235 → g256 j = g207 j := fun j hj => by rw [hg257]; exact if_neg hj
            refine xg_t (xg_aload (va := (2, 82)) rfl rfl) ?_
            refine xg_t (xg_getf (va := (2, 93)) (hb255.get (by decide) (hF248.get (by decide) (hF229.get (by decide) (hF221.get (by decide) (hb213.get (by decide) (hb206.get (by decide) (hF199.get (by decide) (hb190.get (by decide) (hb182.get (by decide) (hF45.get (by decide) h82_31)))))))))) rfl) ?_
            refine xg_t (xg_aload (va := (2, 82)) rfl rfl) ?_
            refine xg_t (xg_getf (va := (2, 91)) (hb255.get (by decide) (hF248.get (by decide) (hF229.get (by decide) (hF221.get (by decide) (hb213.get (by decide) (hb206.get (by decide) (hF199.get (by decide) (hb190.get (by decide) (hb182.get (by decide) (hF45.get (by decide) h82_31)))))))))) rfl) ?_
            refine xg_t (xg_iload (va := (0, pi_)) rfl rfl) ?_
            refine xg_ialdB (n := pi_) (B := 5) ((((((((hr181.but hb190 (by decide)).fr hF199 (by decide)).but hb206 (by decide)).but hb213 (by decide)).fr hF221 (by decide)).fr hF229 (by decide)).fr hF248 (by decide)).but hb255 (by decide)) (hb187) xnm0 (by omega) (fun u260 hu261 he262 => ?_)
            have hd263 : u260 = pi_ := he262.symm.trans he185
            refine xg_t (xg_dup2 rfl) ?_
            obtain ⟨l264, hz265⟩ : ∃ z, g214 u260 = z := ⟨_, rfl⟩
            refine xg_t (xg_lald (n := u260) ((((hr212.fr hF221 (by decide)).fr hF229 (by decide)).fr hF248 (by decide)).but hb255 (by decide)) xnm0 (by omega) hz265) ?_
            refine xg_t (xg_ldc2) ?_
            refine xg_t (xg_lload (u := n222 * n230) rfl) ?_
            refine xg_t (xg_lmul (u := 2) (v := n222 * n230)) ?_
            refine xg_t (xg_lre (b := 2 * (n222 * n230)) (by rw [xlp_eq]; exact lN_mul _ _)) ?_
            refine xg_t (xg_ladd (u := l264) (v := 2 * (n222 * n230))) ?_
            refine xg_t (xg_lre (b := l264 + (2 * (n222 * n230))) (by rw [xlp_eq]; exact lN_add _ _)) ?_
            refine xg_last (n := u260) (u := l264 + (2 * (n222 * n230))) ((((hr212.fr hF221 (by decide)).fr hF229 (by decide)).fr hF248 (by decide)).but hb255 (by decide)) xnm0 (by omega) (fun w266 hr267 hb268 => ?_)
            obtain ⟨g269, hg270⟩ : ∃ g : Nat → Nat, g = (fun j => if j = u260 then l264 + (2 * (n222 * n230)) else g214 j) := ⟨_, rfl⟩
            rw [← hg270] at hr267
            have he271 : g269 u260 = l264 + (2 * (n222 * n230)) := by rw [hg270]; exact if_pos rfl
            have hk272 : ∀ j, j ≠ u260 → g269 j = g214 j := fun j hj => by rw [hg270]; exact if_neg hj
            refine xg_t (xg_iinc (u := pi_) (z := pi_ + 1) (l1 := [(4, (4, n222 * n230)), (1, (0, hh + n200)), (3, (0, 1)), (0, (2, 82))]) rfl rfl (by omega) rfl) ?_
            refine xg_t (xg_goto) ?_
            refine xg_t (xg_drop (l1 := [(0, (2, 82)), (1, (0, hh + n200)), (2, (0, pi_ + 1))]) (List.forall_mem_cons.mpr ⟨List.mem_cons_of_mem _ (List.mem_cons_of_mem _ (List.mem_cons_of_mem _ (List.mem_cons_of_mem _ (List.mem_cons_self)))), List.forall_mem_cons.mpr ⟨List.mem_cons_of_mem _ (List.mem_cons_of_mem _ (List.mem_cons_self)), List.forall_mem_cons.mpr ⟨List.mem_cons_self, fun _ h => absurd h List.not_mem_nil⟩⟩⟩)) ?_
            have ht273 : (n222 * n230) * ((2 * u241) + n249) = bt1 (fun j => rwv w 83 (20 + j)) (rwv w 88) pi_ := by
              unfold bt1
              rw [hT224, hT232, ← hh51, hd244, show n249 = n222 from hT251.symm.trans hT224]
            have ht274 : 2 * (n222 * n230) = bt2 (fun j => rwv w 83 (20 + j)) (rwv w 88) pi_ := by
              unfold bt2
              rw [hT224, hT232]
            have hz275 : l239 = 0 := by
              rw [← hz240, hd238]
              exact he209
            have hz276 : l264 = 0 := by
              rw [← hz265, hd263]
              exact he216
            have hbs278 := bs_y (r := (fun j => rwv w 83 (20 + j))) (f := (bt1 (fun j => rwv w 83 (20 + j)) (rwv w 88))) (p := pi_) (z := l239) (t := (n222 * n230) * ((2 * u241) + n249)) (by omega) (by rw [hG178]; omega) hz275 ht273
            have hbs279 := bs_y (r := (fun j => rwv w 83 (20 + j))) (f := (bt2 (fun j => rwv w 83 (20 + j)) (rwv w 88))) (p := pi_) (z := l264) (t := 2 * (n222 * n230)) (by omega) (by rw [hG178]; omega) hz276 ht274
            have hfs277 : bfs (fun j => rwv w 83 (20 + j)) pi_ = pi_ := hbs278.2
            have hst280 := bd_step (r := (fun j => rwv w 83 (20 + j))) (o := (rwv w 88)) (p := pi_) (F := rwv w43 91) (H := rwv w43 90) (O := rwk w43 92) (U := rwk w43 93) (F' := rwv w266 91) (H' := rwv w266 90) (O' := rwk w266 92) (U' := rwk w266 93) hq50 ((rwv_of (((((((((hr181.but hb190 (by decide)).fr hF199 (by decide)).but hb206 (by decide)).but hb213 (by decide)).fr hF221 (by decide)).fr hF229 (by decide)).fr hF248 (by decide)).but hb255 (by decide)).but hb268 (by decide)) (by omega)).trans (he185.trans hfs277.symm)) (fun q hq => by rw [rwv_of (j := q) (((((((((hr181.but hb190 (by decide)).fr hF199 (by decide)).but hb206 (by decide)).but hb213 (by decide)).fr hF221 (by decide)).fr hF229 (by decide)).fr hF248 (by decide)).but hb255 (by decide)).but hb268 (by decide)) (by omega), hk186 q (by omega), ← rwv_of (j := q) h91_58 (by omega)]) ((rwv_of ((((((((hr189.fr hF199 (by decide)).but hb206 (by decide)).but hb213 (by decide)).fr hF221 (by decide)).fr hF229 (by decide)).fr hF248 (by decide)).but hb255 (by decide)).but hb268 (by decide)) (by omega)).trans (he193.trans hh51)) (fun q hq => by rw [rwv_of (j := q) ((((((((hr189.fr hF199 (by decide)).but hb206 (by decide)).but hb213 (by decide)).fr hF221 (by decide)).fr hF229 (by decide)).fr hF248 (by decide)).but hb255 (by decide)).but hb268 (by decide)) (by omega), hk194 q (by omega), ← rwv_of (j := q) h90_55 (by omega)]) (by rw [hfs277]; exact (congrArg (rwk w266 92) hd238.symm).trans ((rwk_of (hr254.but hb268 (by decide)) (by omega)).trans (he258.trans hbs278.1))) (fun s hs hn => by rw [hfs277] at hn; rw [rwk_of (j := s) (hr254.but hb268 (by decide)) (by omega), hk259 s (by rw [hd238]; exact hn), hk210 s hn, ← rwk_of (j := s) h92_61 (by omega)]) (by rw [hfs277]; exact (congrArg (rwk w266 93) hd263.symm).trans ((rwk_of hr267 (by omega)).trans (he271.trans hbs279.1))) (fun s hs hn => by rw [hfs277] at hn; rw [rwk_of (j := s) hr267 (by omega), hk272 s (by rw [hd263]; exact hn), hk217 s hn, ← rwk_of (j := s) h93_64 (by omega)])
            have hp281 : bhg (fun j => rwv w 83 (20 + j)) (rwv w 88) (pi_ + 1) = bhg (fun j => rwv w 83 (20 + j)) (rwv w 88) pi_ + bT (fun j => rwv w 83 (20 + j)) (rwv w 88) pi_ := rfl
            rw [hT202] at hp281
            exact ih41 (hh + n200) (pi_ + 1) w266 (by omega) (by omega) (by omega) (xMnv.up (S := [92, 93]) hI247 ((xFr.of (S := [92, 93]) hb255 (by decide)).tr (xFr.of (S := [92, 93]) hb268 (by decide))) (List.forall_mem_cons.mpr ⟨xqu92 (show cpJ 6 59 (wget w266 92) from ⟨_, (hr254.but hb268 (by decide))⟩), List.forall_mem_cons.mpr ⟨xqu93 (show cpJ 6 60 (wget w266 93) from ⟨_, hr267⟩), fun _ h => absurd h List.not_mem_nil⟩⟩)) ((((((((hF45.tr ((xFr.of (S := [90, 91, 92, 93, 94]) hb182 (by decide)).tr (xFr.of (S := [90, 91, 92, 93, 94]) hb190 (by decide)))).tr (hF199.up (by decide))).tr ((xFr.of (S := [90, 91, 92, 93, 94]) hb206 (by decide)).tr (xFr.of (S := [90, 91, 92, 93, 94]) hb213 (by decide)))).tr (hF221.up (by decide))).tr (hF229.up (by decide))).tr (hF248.up (by decide))).tr ((xFr.of (S := [90, 91, 92, 93, 94]) hb255 (by decide)).tr (xFr.of (S := [90, 91, 92, 93, 94]) hb268 (by decide))))) (⟨hst280, ⟨by omega, by omega⟩, by omega⟩)
          · refine xg_t (xg_icT (u := u175) (v := 1) rfl xnm0 xnm0 (xj_neT hc179)) ?_
            refine xg_t (xg_blq rfl) ?_
            refine xg_t (xg_const) ?_
            refine xg_t (xg_blq rfl) ?_
            refine xg_t (xg_istore (l1 := [(0, (2, 82)), (1, (0, hh)), (2, (0, pi_))]) rfl rfl rfl) ?_
            refine xg_t (xg_aload (va := (2, 82)) rfl rfl) ?_
            refine xg_t (xg_getf (va := (2, 91)) (hF45.get (by decide) h82_31) rfl) ?_
            refine xg_t (xg_iload (va := (0, pi_)) rfl rfl) ?_
            refine xg_t (xg_iload (va := (0, 0)) rfl rfl) ?_
            refine xg_t (xg_ifT (u := 0) rfl xnm0 (by decide)) ?_
            refine xg_t (xg_blq rfl) ?_
            refine xg_t (xg_aload (va := (2, 82)) rfl rfl) ?_
            refine xg_t (xg_getf (va := (2, 91)) (hF45.get (by decide) h82_31) rfl) ?_
            refine xg_t (xg_iload (va := (0, pi_)) rfl rfl) ?_
            refine xg_t (xg_const) ?_
            refine xg_t (xg_isub (u := pi_) (v := 1) (z := pi_ - 1) xnm0 xnm0 (by omega)) ?_
            refine xg_ialdB (n := pi_ - 1) (B := 5) h91_58 (hb59) xnm0 (by omega) (fun u282 hu283 he284 => ?_)
            have hf285 : bfs (fun j => rwv w 83 (20 + j)) (pi_ - 1) = u282 := (hq50 (pi_ - 1) (by omega)).1.symm.trans ((rwv_of h91_58 (by omega)).trans he284)
            refine xg_t (xg_blq rfl) ?_
            refine xg_iastK (n := pi_) (u := u282) h91_58 xnm0 xnm0 rfl (by omega) (fun w286 hr287 hb288 => ?_)
            obtain ⟨g289, hg290⟩ : ∃ g : Nat → Nat, g = (fun j => if j = pi_ then u282 else g91_57 j) := ⟨_, rfl⟩
            rw [← hg290] at hr287
            have he291 : g289 pi_ = u282 := by rw [hg290]; exact if_pos rfl
            have hk292 : ∀ j, j ≠ pi_ → g289 j = g91_57 j := fun j hj => by rw [hg290]; exact if_neg hj
            have hb293 : ∀ j, g289 j ≤ 5 := fun j => by rw [hg290]; exact xrb (by omega) (hb59) j
            refine xg_t (xg_aload (va := (2, 82)) rfl rfl) ?_
            refine xg_t (xg_getf (va := (2, 90)) (hb288.get (by decide) (hF45.get (by decide) h82_31)) rfl) ?_
            refine xg_t (xg_iload (va := (0, pi_)) rfl rfl) ?_
            refine xg_t (xg_iload (va := (0, hh)) rfl rfl) ?_
            refine xg_iastK (n := pi_) (u := hh) (h90_55.but hb288 (by decide)) xnm0 xnm0 rfl (by omega) (fun w294 hr295 hb296 => ?_)
            obtain ⟨g297, hg298⟩ : ∃ g : Nat → Nat, g = (fun j => if j = pi_ then hh else g90_54 j) := ⟨_, rfl⟩
            rw [← hg298] at hr295
            have he299 : g297 pi_ = hh := by rw [hg298]; exact if_pos rfl
            have hk300 : ∀ j, j ≠ pi_ → g297 j = g90_54 j := fun j hj => by rw [hg298]; exact if_neg hj
            have hb301 : ∀ j, g297 j ≤ 4294967295 := fun j => by rw [hg298]; exact xrb (by omega) (hb56) j
            refine xg_t (xg_iload (va := (0, hh)) rfl rfl) ?_
            refine xg_t (xg_aload (va := (2, 82)) rfl rfl) ?_
            refine xg_t (xg_iload (va := (0, pi_)) rfl rfl) ?_
            refine xg_t (xg_const) ?_
            refine xg_cVi mX12_layerOf (vs := [(0, pi_), (0, 0)]) (rest := [(0, hh)]) (cn1 := 0) (sl1 := 0) rfl (mLayerOfX (xMnv.up (S := [91, 90]) hI44 ((xFr.of (S := [91, 90]) hb288 (by decide)).tr (xFr.of (S := [91, 90]) hb296 (by decide))) (List.forall_mem_cons.mpr ⟨xqu91 (show cpI 6 58 5 (wget w294 91) from ⟨_, (hr287.but hb296 (by decide)), hb293⟩), List.forall_mem_cons.mpr ⟨xqu90 (show cpI 6 57 4294967295 (wget w294 90) from ⟨_, hr295, hb301⟩), fun _ h => absurd h List.not_mem_nil⟩⟩)) (by omega) (by omega)) rfl (hb296.get (by decide) (hb288.get (by decide) (hF45.get (by decide) h82_31))) rfl rfl rfl rfl rfl rfl (fun n306 w302 hq303 => ?_)
            obtain ⟨hn307, hI304, hF305⟩ := hq303
            have hT308 : bT (fun j => rwv w 83 (20 + j)) (rwv w 88) pi_ = n306 := by
              rw [hn307, rwf_eq ((hF45.tr ((xFr.of (S := [90, 91, 92, 93, 94]) hb288 (by decide)).tr (xFr.of (S := [90, 91, 92, 93, 94]) hb296 (by decide)))).1 83 (by decide)), rwf_eq ((hF45.tr ((xFr.of (S := [90, 91, 92, 93, 94]) hb288 (by decide)).tr (xFr.of (S := [90, 91, 92, 93, 94]) hb296 (by decide)))).1 88 (by decide))]
              rfl
            have hl309 : 1 ≤ n306 ∧ n306 ≤ 99 := by
              have q := xMnv.lay hI (k := rwv w 88 pi_) (i := 0) (hb pi_ (by omega)) (by decide)
              rw [← hT308]
              exact q
            refine xg_t (xg_iadd (u := hh) (v := n306) (z := hh + n306) xnm0 xnm0 (by omega)) ?_
            refine xg_t (xg_istore (l1 := [(3, (0, 0)), (0, (2, 82)), (2, (0, pi_))]) rfl rfl rfl) ?_
            refine xg_t (xg_iload (va := (0, 0)) rfl rfl) ?_
            refine xg_t (xg_ifT (u := 0) rfl xnm0 (by decide)) ?_
            refine xg_t (xg_blq rfl) ?_
            refine xg_t (xg_aload (va := (2, 82)) rfl rfl) ?_
            refine xg_t (xg_iload (va := (0, pi_)) rfl rfl) ?_
            refine xg_t (xg_const) ?_
            refine xg_cVi mX12_layerOf (vs := [(0, pi_), (0, 0)]) (rest := []) (cn1 := 0) (sl1 := 0) rfl (mLayerOfX (hI304) (by omega) (by omega)) rfl (hF305.get (by decide) (hb296.get (by decide) (hb288.get (by decide) (hF45.get (by decide) h82_31)))) rfl rfl rfl rfl rfl rfl (fun n314 w310 hq311 => ?_)
            obtain ⟨hn315, hI312, hF313⟩ := hq311
            have hT316 : bT (fun j => rwv w 83 (20 + j)) (rwv w 88) pi_ = n314 := by
              rw [hn315, rwf_eq (((hF45.tr ((xFr.of (S := [90, 91, 92, 93, 94]) hb288 (by decide)).tr (xFr.of (S := [90, 91, 92, 93, 94]) hb296 (by decide)))).tr (hF305.up (by decide))).1 83 (by decide)), rwf_eq (((hF45.tr ((xFr.of (S := [90, 91, 92, 93, 94]) hb288 (by decide)).tr (xFr.of (S := [90, 91, 92, 93, 94]) hb296 (by decide)))).tr (hF305.up (by decide))).1 88 (by decide))]
              rfl
            have hl317 : 1 ≤ n314 ∧ n314 ≤ 99 := by
              have q := xMnv.lay hI (k := rwv w 88 pi_) (i := 0) (hb pi_ (by omega)) (by decide)
              rw [← hT316]
              exact q
            refine xg_t (xg_aload (va := (2, 82)) rfl rfl) ?_
            refine xg_t (xg_iload (va := (0, pi_)) rfl rfl) ?_
            refine xg_t (xg_const) ?_
            refine xg_cVi mX12_layerOf (vs := [(0, pi_), (0, 1)]) (rest := [(0, n314)]) (cn1 := 0) (sl1 := 0) rfl (mLayerOfX (hI312) (by omega) (by omega)) rfl (hF313.get (by decide) (hF305.get (by decide) (hb296.get (by decide) (hb288.get (by decide) (hF45.get (by decide) h82_31))))) rfl rfl rfl rfl rfl rfl (fun n322 w318 hq319 => ?_)
            obtain ⟨hn323, hI320, hF321⟩ := hq319
            have hT324 : bS (fun j => rwv w 83 (20 + j)) (rwv w 88) pi_ = n322 := by
              rw [hn323, rwf_eq ((((hF45.tr ((xFr.of (S := [90, 91, 92, 93, 94]) hb288 (by decide)).tr (xFr.of (S := [90, 91, 92, 93, 94]) hb296 (by decide)))).tr (hF305.up (by decide))).tr (hF313.up (by decide))).1 83 (by decide)), rwf_eq ((((hF45.tr ((xFr.of (S := [90, 91, 92, 93, 94]) hb288 (by decide)).tr (xFr.of (S := [90, 91, 92, 93, 94]) hb296 (by decide)))).tr (hF305.up (by decide))).tr (hF313.up (by decide))).1 88 (by decide))]
              rfl
            have hl325 : 1 ≤ n322 ∧ n322 ≤ 99 := by
              have q := xMnv.lay hI (k := rwv w 88 pi_) (i := 1) (hb pi_ (by omega)) (by decide)
              rw [← hT324]
              exact q
            have hm326 : n314 * n322 ≤ 99 * 99 := Nat.mul_le_mul (by omega) (by omega)
            refine xg_t (xg_imul (u := n314) (v := n322) (z := n314 * n322) xnm0 xnm0 (Nat.mod_eq_of_lt (by omega))) ?_
            refine xg_t (xg_i2l (u := n314 * n322) xnm0) ?_
            refine xg_t (xg_lre (b := n314 * n322) (by rw [xlp_eq]; exact nI_l (by omega))) ?_
            refine xg_t (xg_lstore (l1 := [(1, (0, hh + n306)), (3, (0, 0)), (0, (2, 82)), (2, (0, pi_))]) rfl rfl) ?_
            refine xg_t (xg_aload (va := (2, 82)) rfl rfl) ?_
            refine xg_t (xg_getf (va := (2, 92)) (hF321.get (by decide) (hF313.get (by decide) (hF305.get (by decide) (hb296.get (by decide) (hb288.get (by decide) (hF45.get (by decide) h82_31)))))) rfl) ?_
            refine xg_t (xg_aload (va := (2, 82)) rfl rfl) ?_
            refine xg_t (xg_getf (va := (2, 91)) (hF321.get (by decide) (hF313.get (by decide) (hF305.get (by decide) (hb296.get (by decide) (hb288.get (by decide) (hF45.get (by decide) h82_31)))))) rfl) ?_
            refine xg_t (xg_iload (va := (0, pi_)) rfl rfl) ?_
            refine xg_ialdB (n := pi_) (B := 5) ((((hr287.but hb296 (by decide)).fr hF305 (by decide)).fr hF313 (by decide)).fr hF321 (by decide)) (hb293) xnm0 (by omega) (fun u327 hu328 he329 => ?_)
            have hd330 : u327 = u282 := he329.symm.trans he291
            refine xg_t (xg_dup2 rfl) ?_
            obtain ⟨l331, hz332⟩ : ∃ z, g92_60 u327 = z := ⟨_, rfl⟩
            refine xg_t (xg_lald (n := u327) (((((h92_61.but hb288 (by decide)).but hb296 (by decide)).fr hF305 (by decide)).fr hF313 (by decide)).fr hF321 (by decide)) xnm0 (by omega) hz332) ?_
            refine xg_t (xg_lload (u := n314 * n322) rfl) ?_
            refine xg_t (xg_const) ?_
            refine xg_t (xg_aload (va := (2, 82)) rfl rfl) ?_
            refine xg_t (xg_getf (va := (2, 90)) (hF321.get (by decide) (hF313.get (by decide) (hF305.get (by decide) (hb296.get (by decide) (hb288.get (by decide) (hF45.get (by decide) h82_31)))))) rfl) ?_
            refine xg_t (xg_iload (va := (0, pi_)) rfl rfl) ?_
            refine xg_ialdB (n := pi_) (B := 4294967295) (((hr295.fr hF305 (by decide)).fr hF313 (by decide)).fr hF321 (by decide)) (hb301) xnm0 (by omega) (fun u333 hu334 he335 => ?_)
            have hd336 : u333 = hh := he335.symm.trans he299
            refine xg_t (xg_imul (u := 2) (v := u333) (z := 2 * u333) xnm0 xnm0 (by omega)) ?_
            refine xg_t (xg_aload (va := (2, 82)) rfl rfl) ?_
            refine xg_t (xg_iload (va := (0, pi_)) rfl rfl) ?_
            refine xg_t (xg_const) ?_
            refine xg_cVi mX12_layerOf (vs := [(0, pi_), (0, 0)]) (rest := [(0, 2 * u333), (4, n314 * n322), (4, l331), (0, u327), (2, 92)]) (cn1 := 0) (sl1 := 0) rfl (mLayerOfX (hI320) (by omega) (by omega)) rfl (hF321.get (by decide) (hF313.get (by decide) (hF305.get (by decide) (hb296.get (by decide) (hb288.get (by decide) (hF45.get (by decide) h82_31)))))) rfl rfl rfl rfl rfl rfl (fun n341 w337 hq338 => ?_)
            obtain ⟨hn342, hI339, hF340⟩ := hq338
            have hT343 : bT (fun j => rwv w 83 (20 + j)) (rwv w 88) pi_ = n341 := by
              rw [hn342, rwf_eq (((((hF45.tr ((xFr.of (S := [90, 91, 92, 93, 94]) hb288 (by decide)).tr (xFr.of (S := [90, 91, 92, 93, 94]) hb296 (by decide)))).tr (hF305.up (by decide))).tr (hF313.up (by decide))).tr (hF321.up (by decide))).1 83 (by decide)), rwf_eq (((((hF45.tr ((xFr.of (S := [90, 91, 92, 93, 94]) hb288 (by decide)).tr (xFr.of (S := [90, 91, 92, 93, 94]) hb296 (by decide)))).tr (hF305.up (by decide))).tr (hF313.up (by decide))).tr (hF321.up (by decide))).1 88 (by decide))]
              rfl
            have hl344 : 1 ≤ n341 ∧ n341 ≤ 99 := by
              have q := xMnv.lay hI (k := rwv w 88 pi_) (i := 0) (hb pi_ (by omega)) (by decide)
              rw [← hT343]
              exact q
            refine xg_t (xg_iadd (u := 2 * u333) (v := n341) (z := (2 * u333) + n341) xnm0 xnm0 (by omega)) ?_
            refine xg_t (xg_i2l (u := (2 * u333) + n341) xnm0) ?_
            refine xg_t (xg_lre (b := (2 * u333) + n341) (by rw [xlp_eq]; exact nI_l (by omega))) ?_
            refine xg_t (xg_lmul (u := n314 * n322) (v := (2 * u333) + n341)) ?_
            refine xg_t (xg_lre (b := (n314 * n322) * ((2 * u333) + n341)) (by rw [xlp_eq]; exact lN_mul _ _)) ?_
            refine xg_t (xg_ladd (u := l331) (v := (n314 * n322) * ((2 * u333) + n341))) ?_
            refine xg_t (xg_lre (b := l331 + ((n314 * n322) * ((2 * u333) + n341))) (by rw [xlp_eq]; exact lN_add _ _)) ?_
            refine xg_last (n := u327) (u := l331 + ((n314 * n322) * ((2 * u333) + n341))) ((((((h92_61.but hb288 (by decide)).but hb296 (by decide)).fr hF305 (by decide)).fr hF313 (by decide)).fr hF321 (by decide)).fr hF340 (by decide)) xnm0 (by omega) (fun w345 hr346 hb347 => ?_)
            obtain ⟨g348, hg349⟩ : ∃ g : Nat → Nat, g = (fun j => if j = u327 then l331 + ((n314 * n322) * ((2 * u333) + n341)) else g92_60 j) := ⟨_, rfl⟩
            rw [← hg349] at hr346
            have he350 : g348 u327 = l331 + ((n314 * n322) * ((2 * u333) + n341)) := by rw [hg349]; exact if_pos rfl
            have hk351 : ∀ j, j ≠ u327 → g348 j = g92_60 j := fun j hj => by rw [hg349]; exact if_neg hj
            refine xg_t (xg_aload (va := (2, 82)) rfl rfl) ?_
            refine xg_t (xg_getf (va := (2, 93)) (hb347.get (by decide) (hF340.get (by decide) (hF321.get (by decide) (hF313.get (by decide) (hF305.get (by decide) (hb296.get (by decide) (hb288.get (by decide) (hF45.get (by decide) h82_31)))))))) rfl) ?_
            refine xg_t (xg_aload (va := (2, 82)) rfl rfl) ?_
            refine xg_t (xg_getf (va := (2, 91)) (hb347.get (by decide) (hF340.get (by decide) (hF321.get (by decide) (hF313.get (by decide) (hF305.get (by decide) (hb296.get (by decide) (hb288.get (by decide) (hF45.get (by decide) h82_31)))))))) rfl) ?_
            refine xg_t (xg_iload (va := (0, pi_)) rfl rfl) ?_
            refine xg_ialdB (n := pi_) (B := 5) ((((((hr287.but hb296 (by decide)).fr hF305 (by decide)).fr hF313 (by decide)).fr hF321 (by decide)).fr hF340 (by decide)).but hb347 (by decide)) (hb293) xnm0 (by omega) (fun u352 hu353 he354 => ?_)
            have hd355 : u352 = u282 := he354.symm.trans he291
            refine xg_t (xg_dup2 rfl) ?_
            obtain ⟨l356, hz357⟩ : ∃ z, g93_63 u352 = z := ⟨_, rfl⟩
            refine xg_t (xg_lald (n := u352) (((((((h93_64.but hb288 (by decide)).but hb296 (by decide)).fr hF305 (by decide)).fr hF313 (by decide)).fr hF321 (by decide)).fr hF340 (by decide)).but hb347 (by decide)) xnm0 (by omega) hz357) ?_
            refine xg_t (xg_ldc2) ?_
            refine xg_t (xg_lload (u := n314 * n322) rfl) ?_
            refine xg_t (xg_lmul (u := 2) (v := n314 * n322)) ?_
            refine xg_t (xg_lre (b := 2 * (n314 * n322)) (by rw [xlp_eq]; exact lN_mul _ _)) ?_
            refine xg_t (xg_ladd (u := l356) (v := 2 * (n314 * n322))) ?_
            refine xg_t (xg_lre (b := l356 + (2 * (n314 * n322))) (by rw [xlp_eq]; exact lN_add _ _)) ?_
            refine xg_last (n := u352) (u := l356 + (2 * (n314 * n322))) (((((((h93_64.but hb288 (by decide)).but hb296 (by decide)).fr hF305 (by decide)).fr hF313 (by decide)).fr hF321 (by decide)).fr hF340 (by decide)).but hb347 (by decide)) xnm0 (by omega) (fun w358 hr359 hb360 => ?_)
            obtain ⟨g361, hg362⟩ : ∃ g : Nat → Nat, g = (fun j => if j = u352 then l356 + (2 * (n314 * n322)) else g93_63 j) := ⟨_, rfl⟩
            rw [← hg362] at hr359
            have he363 : g361 u352 = l356 + (2 * (n314 * n322)) := by rw [hg362]; exact if_pos rfl
            have hk364 : ∀ j, j ≠ u352 → g361 j = g93_63 j := fun j hj => by rw [hg362]; exact if_neg hj
            refine xg_t (xg_iinc (u := pi_) (z := pi_ + 1) (l1 := [(4, (4, n314 * n322)), (1, (0, hh + n306)), (3, (0, 0)), (0, (2, 82))]) rfl rfl (by omega) rfl) ?_
            refine xg_t (xg_goto) ?_
            refine xg_t (xg_drop (l1 := [(0, (2, 82)), (1, (0, hh + n306)), (2, (0, pi_ + 1))]) (List.forall_mem_cons.mpr ⟨List.mem_cons_of_mem _ (List.mem_cons_of_mem _ (List.mem_cons_of_mem _ (List.mem_cons_of_mem _ (List.mem_cons_self)))), List.forall_mem_cons.mpr ⟨List.mem_cons_of_mem _ (List.mem_cons_of_mem _ (List.mem_cons_self)), List.forall_mem_cons.mpr ⟨List.mem_cons_self, fun _ h => absurd h List.not_mem_nil⟩⟩⟩)) ?_
            have ht365 : (n314 * n322) * ((2 * u333) + n341) = bt1 (fun j => rwv w 83 (20 + j)) (rwv w 88) pi_ := by
              unfold bt1
              rw [hT316, hT324, ← hh51, hd336, show n341 = n314 from hT343.symm.trans hT316]
            have ht366 : 2 * (n314 * n322) = bt2 (fun j => rwv w 83 (20 + j)) (rwv w 88) pi_ := by
              unfold bt2
              rw [hT316, hT324]
            have hz367 : l331 = bA (fun j => rwv w 83 (20 + j)) (bt1 (fun j => rwv w 83 (20 + j)) (rwv w 88)) pi_ (bfs (fun j => rwv w 83 (20 + j)) (pi_ - 1)) := by
              have q := (hq50 (pi_ - 1) (by omega)).2.2.1
              rw [hf285] at q ⊢
              rw [← hz332, hd330, ← rwk_of (j := u282) h92_61 (by omega)]
              exact q
            have hz368 : l356 = bA (fun j => rwv w 83 (20 + j)) (bt2 (fun j => rwv w 83 (20 + j)) (rwv w 88)) pi_ (bfs (fun j => rwv w 83 (20 + j)) (pi_ - 1)) := by
              have q := (hq50 (pi_ - 1) (by omega)).2.2.2
              rw [hf285] at q ⊢
              rw [← hz357, hd355, ← rwk_of (j := u282) h93_64 (by omega)]
              exact q
            have hbs370 := bs_n (r := (fun j => rwv w 83 (20 + j))) (f := (bt1 (fun j => rwv w 83 (20 + j)) (rwv w 88))) (p := pi_) (z := l331) (t := (n314 * n322) * ((2 * u333) + n341)) (by omega) (by rw [hG178]; omega) hz367 ht365
            have hbs371 := bs_n (r := (fun j => rwv w 83 (20 + j))) (f := (bt2 (fun j => rwv w 83 (20 + j)) (rwv w 88))) (p := pi_) (z := l356) (t := 2 * (n314 * n322)) (by omega) (by rw [hG178]; omega) hz368 ht366
            have hfs369 : bfs (fun j => rwv w 83 (20 + j)) pi_ = u282 := hbs370.2.trans hf285
            have hst372 := bd_step (r := (fun j => rwv w 83 (20 + j))) (o := (rwv w 88)) (p := pi_) (F := rwv w43 91) (H := rwv w43 90) (O := rwk w43 92) (U := rwk w43 93) (F' := rwv w358 91) (H' := rwv w358 90) (O' := rwk w358 92) (U' := rwk w358 93) hq50 ((rwv_of (((((((hr287.but hb296 (by decide)).fr hF305 (by decide)).fr hF313 (by decide)).fr hF321 (by decide)).fr hF340 (by decide)).but hb347 (by decide)).but hb360 (by decide)) (by omega)).trans (he291.trans hfs369.symm)) (fun q hq => by rw [rwv_of (j := q) (((((((hr287.but hb296 (by decide)).fr hF305 (by decide)).fr hF313 (by decide)).fr hF321 (by decide)).fr hF340 (by decide)).but hb347 (by decide)).but hb360 (by decide)) (by omega), hk292 q (by omega), ← rwv_of (j := q) h91_58 (by omega)]) ((rwv_of ((((((hr295.fr hF305 (by decide)).fr hF313 (by decide)).fr hF321 (by decide)).fr hF340 (by decide)).but hb347 (by decide)).but hb360 (by decide)) (by omega)).trans (he299.trans hh51)) (fun q hq => by rw [rwv_of (j := q) ((((((hr295.fr hF305 (by decide)).fr hF313 (by decide)).fr hF321 (by decide)).fr hF340 (by decide)).but hb347 (by decide)).but hb360 (by decide)) (by omega), hk300 q (by omega), ← rwv_of (j := q) h90_55 (by omega)]) (by rw [hfs369]; exact (congrArg (rwk w358 92) hd330.symm).trans ((rwk_of (hr346.but hb360 (by decide)) (by omega)).trans (he350.trans hbs370.1))) (fun s hs hn => by rw [hfs369] at hn; rw [rwk_of (j := s) (hr346.but hb360 (by decide)) (by omega), hk351 s (by rw [hd330]; exact hn), ← rwk_of (j := s) h92_61 (by omega)]) (by rw [hfs369]; exact (congrArg (rwk w358 93) hd355.symm).trans ((rwk_of hr359 (by omega)).trans (he363.trans hbs371.1))) (fun s hs hn => by rw [hfs369] at hn; rw [rwk_of (j := s) hr359 (by omega), hk364 s (by rw [hd355]; exact hn), ← rwk_of (j := s) h93_64 (by omega)])
            have hp373 : bhg (fun j => rwv w 83 (20 + j)) (rwv w 88) (pi_ + 1) = bhg (fun j => rwv w 83 (20 + j)) (rwv w 88) pi_ + bT (fun j => rwv w 83 (20 + j)) (rwv w 88) pi_ := rfl
            rw [hT308] at hp373
            exact ih41 (hh + n306) (pi_ + 1) w358 (by omega) (by omega) (by omega) (xMnv.up (S := [92, 93]) hI339 ((xFr.of (S := [92, 93]) hb347 (by decide)).tr (xFr.of (S := [92, 93]) hb360 (by decide))) (List.forall_mem_cons.mpr ⟨xqu92 (show cpJ 6 59 (wget w358 92) from ⟨_, (hr346.but hb360 (by decide))⟩), List.forall_mem_cons.mpr ⟨xqu93 (show cpJ 6 60 (wget w358 93) from ⟨_, hr359⟩), fun _ h => absurd h List.not_mem_nil⟩⟩)) (((((((hF45.tr ((xFr.of (S := [90, 91, 92, 93, 94]) hb288 (by decide)).tr (xFr.of (S := [90, 91, 92, 93, 94]) hb296 (by decide)))).tr (hF305.up (by decide))).tr (hF313.up (by decide))).tr (hF321.up (by decide))).tr (hF340.up (by decide))).tr ((xFr.of (S := [90, 91, 92, 93, 94]) hb347 (by decide)).tr (xFr.of (S := [90, 91, 92, 93, 94]) hb360 (by decide))))) (⟨hst372, ⟨by omega, by omega⟩, by omega⟩)
      · refine xg_t (xg_icT (u := pi_) (v := u66) rfl xnm0 xnm0 (xj_geT (by omega) (by omega))) ?_
        refine xg_t (xg_blq rfl) ?_
        refine xg_t (xg_const) ?_
        refine xg_t (xg_istore (l1 := [(0, (2, 82)), (1, (0, hh))]) rfl rfl rfl) ?_
        refine xg_t (xg_drop (l1 := [(0, (2, 82)), (2, (0, 0))]) (List.forall_mem_cons.mpr ⟨List.mem_cons_of_mem _ (List.mem_cons_self), List.forall_mem_cons.mpr ⟨List.mem_cons_self, fun _ h => absurd h List.not_mem_nil⟩⟩)) ?_
        have hpn380 : pi_ = rwv w 83 0 := by omega
        have hq381 := hq50
        rw [hpn380] at hq381
        have key374 : ∀ (m376 : Nat) (pj : Nat) (w377 : List (List xE)), 6 - pj < m376 → pj ≤ 6 → xMnv w377 → xFr [90, 91, 92, 93, 94] w w377 → (∀ q, q < (rwv w 83 0) → rwv w377 91 q = bfs (fun j => rwv w 83 (20 + j)) q ∧ rwv w377 90 q = bhg (fun j => rwv w 83 (20 + j)) (rwv w 88) q ∧ rwk w377 92 (bfs (fun j => rwv w 83 (20 + j)) q) = bA (fun j => rwv w 83 (20 + j)) (bt1 (fun j => rwv w 83 (20 + j)) (rwv w 88)) (rwv w 83 0) (bfs (fun j => rwv w 83 (20 + j)) q) ∧ rwk w377 93 (bfs (fun j => rwv w 83 (20 + j)) q) = bA (fun j => rwv w 83 (20 + j)) (bt2 (fun j => rwv w 83 (20 + j)) (rwv w 88)) (rwv w 83 0) (bfs (fun j => rwv w 83 (20 + j)) q)) ∧ (∀ q, q < pj → rwk w377 92 q = bO (fun j => rwv w 83 (20 + j)) (rwv w 88) (rwv w 83 0) q ∧ rwk w377 93 q = bU (fun j => rwv w 83 (20 + j)) (rwv w 88) (rwv w 83 0) q ∧ lN (rwk w377 94 q) = bfr (fun j => rwv w 83 (20 + j)) (rwv w 88) (rwv w 83 0) q) ∧ pj ≤ (rwv w 83 0) → xTo (d + 1) mX12_blocks (176, [], [(0, (2, 82)), (2, (0, pj))], [], (w377, bd, fc, 0, 0, rr)) (fun φ => ∃ w', xEnd 0 [] (w', bd, fc, 0, 0, rr) φ ∧ xMnv w' ∧ xFr [90, 91, 92, 93, 94] w w' ∧ (∀ q, q < rwv w 83 0 → rwv w' 91 q = bfs (fun j => rwv w 83 (20 + j)) q ∧ rwv w' 90 q = bhg (fun j => rwv w 83 (20 + j)) (rwv w 88) q ∧ rwk w' 92 q = bO (fun j => rwv w 83 (20 + j)) (rwv w 88) (rwv w 83 0) q ∧ rwk w' 93 q = bU (fun j => rwv w 83 (20 + j)) (rwv w 88) (rwv w 83 0) q ∧ lN (rwk w' 94 q) = bfr (fun j => rwv w 83 (20 + j)) (rwv w 88) (rwv w 83 0) q)) := by
          intro m376
          induction m376 with
          | zero => intro pj w377 hz; exact absurd hz (Nat.not_lt_zero _)
          | succ m376 ih375 =>
            intro pj w377 hm384 hn382 hI378 hF379 he383
            obtain ⟨hq385, hf386, hn387⟩ := he383
            refine xoI (xqc90 hI378 : cpI 6 57 4294967295 (wget w377 90)) (fun g90_388 h90_389 hb390 => ?_)
            refine xoI (xqc91 hI378 : cpI 6 58 5 (wget w377 91)) (fun g91_391 h91_392 hb393 => ?_)
            obtain ⟨g92_394, h92_395⟩ := (xqc92 hI378 : cpJ 6 59 (wget w377 92))
            have h92_395 : xRk 3 4 w377 92 6 59 g92_394 := h92_395
            obtain ⟨g93_397, h93_398⟩ := (xqc93 hI378 : cpJ 6 60 (wget w377 93))
            have h93_398 : xRk 3 4 w377 93 6 60 g93_397 := h93_398
            obtain ⟨g94_400, h94_401⟩ := (xqc94 hI378 : cpJ 6 61 (wget w377 94))
            have h94_401 : xRk 3 4 w377 94 6 61 g94_400 := h94_401
            refine xg_t (xg_blq rfl) ?_
            refine xg_t (xg_iload (va := (0, pj)) rfl rfl) ?_
            refine xg_t (xg_aload (va := (2, 82)) rfl rfl) ?_
            refine xg_t (xg_getf (va := (2, 83)) (hF379.get (by decide) h82_31) rfl) ?_
            refine xg_t (xg_const) ?_
            refine xg_ialdB (n := 0) (B := 4294967295) (h83_34.fr hF379 (by decide)) (hb35) xnm0 (by first | decide | omega) (fun u403 hu404 he405 => ?_)
            have hl406 : u403 ≤ 6 := by rw [← he405]; exact hx36.l0
            have hq407 : rwv w 83 0 = u403 := (rwv_of h83_34 (by omega)).trans he405
            by_cases hc408 : pj < u403
            · refine xg_t (xg_icF (u := pj) (v := u403) rfl xnm0 xnm0 (xj_geF hc408 (by omega))) ?_
              refine xg_t (xg_aload (va := (2, 82)) rfl rfl) ?_
              refine xg_t (xg_getf (va := (2, 92)) (hF379.get (by decide) h82_31) rfl) ?_
              refine xg_t (xg_iload (va := (0, pj)) rfl rfl) ?_
              refine xg_t (xg_aload (va := (2, 82)) rfl rfl) ?_
              refine xg_t (xg_getf (va := (2, 92)) (hF379.get (by decide) h82_31) rfl) ?_
              refine xg_t (xg_aload (va := (2, 82)) rfl rfl) ?_
              refine xg_t (xg_getf (va := (2, 91)) (hF379.get (by decide) h82_31) rfl) ?_
              refine xg_t (xg_iload (va := (0, pj)) rfl rfl) ?_
              refine xg_ialdB (n := pj) (B := 5) h91_392 (hb393) xnm0 (by omega) (fun u409 hu410 he411 => ?_)
              have hf412 : bfs (fun j => rwv w 83 (20 + j)) pj = u409 := (hq385 pj (by omega)).1.symm.trans ((rwv_of h91_392 (by omega)).trans he411)
              obtain ⟨l413, hz414⟩ : ∃ z, g92_394 u409 = z := ⟨_, rfl⟩
              refine xg_t (xg_lald (n := u409) h92_395 xnm0 (by omega) hz414) ?_
              have hU415 : bO (fun j => rwv w 83 (20 + j)) (rwv w 88) (rwv w 83 0) pj = l413 := by
                have q := (hq385 pj (by omega)).2.2.1
                rw [hf412, rwk_of (j := u409) h92_395 (by omega), hz414] at q
                unfold bO
                rw [hf412]
                exact q.symm
              refine xg_last (n := pj) (u := l413) h92_395 xnm0 (by omega) (fun w416 hr417 hb418 => ?_)
              obtain ⟨g419, hg420⟩ : ∃ g : Nat → Nat, g = (fun j => if j = pj then l413 else g92_394 j) := ⟨_, rfl⟩
              rw [← hg420] at hr417
              have he421 : g419 pj = l413 := by rw [hg420]; exact if_pos rfl
              have hk422 : ∀ j, j ≠ pj → g419 j = g92_394 j := fun j hj => by rw [hg420]; exact if_neg hj
              refine xg_t (xg_aload (va := (2, 82)) rfl rfl) ?_
              refine xg_t (xg_getf (va := (2, 93)) (hb418.get (by decide) (hF379.get (by decide) h82_31)) rfl) ?_
              refine xg_t (xg_iload (va := (0, pj)) rfl rfl) ?_
              refine xg_t (xg_aload (va := (2, 82)) rfl rfl) ?_
              refine xg_t (xg_getf (va := (2, 93)) (hb418.get (by decide) (hF379.get (by decide) h82_31)) rfl) ?_
              refine xg_t (xg_aload (va := (2, 82)) rfl rfl) ?_
              refine xg_t (xg_getf (va := (2, 91)) (hb418.get (by decide) (hF379.get (by decide) h82_31)) rfl) ?_
              refine xg_t (xg_iload (va := (0, pj)) rfl rfl) ?_
              refine xg_ialdB (n := pj) (B := 5) (h91_392.but hb418 (by decide)) (hb393) xnm0 (by omega) (fun u423 hu424 he425 => ?_)
              have hf426 : bfs (fun j => rwv w 83 (20 + j)) pj = u423 := (hq385 pj (by omega)).1.symm.trans ((rwv_of h91_392 (by omega)).trans he425)
              obtain ⟨l427, hz428⟩ : ∃ z, g93_397 u423 = z := ⟨_, rfl⟩
              refine xg_t (xg_lald (n := u423) (h93_398.but hb418 (by decide)) xnm0 (by omega) hz428) ?_
              have hU429 : bU (fun j => rwv w 83 (20 + j)) (rwv w 88) (rwv w 83 0) pj = l427 := by
                have q := (hq385 pj (by omega)).2.2.2
                rw [hf426, rwk_of (j := u423) h93_398 (by omega), hz428] at q
                unfold bU
                rw [hf426]
                exact q.symm
              refine xg_last (n := pj) (u := l427) (h93_398.but hb418 (by decide)) xnm0 (by omega) (fun w430 hr431 hb432 => ?_)
              obtain ⟨g433, hg434⟩ : ∃ g : Nat → Nat, g = (fun j => if j = pj then l427 else g93_397 j) := ⟨_, rfl⟩
              rw [← hg434] at hr431
              have he435 : g433 pj = l427 := by rw [hg434]; exact if_pos rfl
              have hk436 : ∀ j, j ≠ pj → g433 j = g93_397 j := fun j hj => by rw [hg434]; exact if_neg hj
              refine xg_t (xg_aload (va := (2, 82)) rfl rfl) ?_
              refine xg_t (xg_getf (va := (2, 90)) (hb432.get (by decide) (hb418.get (by decide) (hF379.get (by decide) h82_31))) rfl) ?_
              refine xg_t (xg_iload (va := (0, pj)) rfl rfl) ?_
              refine xg_ialdB (n := pj) (B := 4294967295) ((h90_389.but hb418 (by decide)).but hb432 (by decide)) (hb390) xnm0 (by omega) (fun u437 hu438 he439 => ?_)
              have hB440 : bhg (fun j => rwv w 83 (20 + j)) (rwv w 88) pj = u437 := (hq385 pj (by omega)).2.1.symm.trans ((rwv_of h90_389 (by omega)).trans he439)
              have hl441 : u437 ≤ 594 := by
                have q := bhg_le (r := (fun j => rwv w 83 (20 + j))) (o := (rwv w 88)) (p := pj) (fun q h => (xMnv.lay hI (i := 0) (hb q (by omega)) (by decide)).2)
                omega
              refine xg_t (xg_aload (va := (2, 82)) rfl rfl) ?_
              refine xg_t (xg_iload (va := (0, pj)) rfl rfl) ?_
              refine xg_t (xg_const) ?_
              refine xg_cVi mX12_layerOf (vs := [(0, pj), (0, 0)]) (rest := [(0, u437)]) (cn1 := 0) (sl1 := 0) rfl (mLayerOfX (xMnv.up (S := [92, 93]) hI378 ((xFr.of (S := [92, 93]) hb418 (by decide)).tr (xFr.of (S := [92, 93]) hb432 (by decide))) (List.forall_mem_cons.mpr ⟨xqu92 (show cpJ 6 59 (wget w430 92) from ⟨_, (hr417.but hb432 (by decide))⟩), List.forall_mem_cons.mpr ⟨xqu93 (show cpJ 6 60 (wget w430 93) from ⟨_, hr431⟩), fun _ h => absurd h List.not_mem_nil⟩⟩)) (by omega) (by omega)) rfl (hb432.get (by decide) (hb418.get (by decide) (hF379.get (by decide) h82_31))) rfl rfl rfl rfl rfl rfl (fun n446 w442 hq443 => ?_)
              obtain ⟨hn447, hI444, hF445⟩ := hq443
              have hT448 : bT (fun j => rwv w 83 (20 + j)) (rwv w 88) pj = n446 := by
                rw [hn447, rwf_eq ((hF379.tr ((xFr.of (S := [90, 91, 92, 93, 94]) hb418 (by decide)).tr (xFr.of (S := [90, 91, 92, 93, 94]) hb432 (by decide)))).1 83 (by decide)), rwf_eq ((hF379.tr ((xFr.of (S := [90, 91, 92, 93, 94]) hb418 (by decide)).tr (xFr.of (S := [90, 91, 92, 93, 94]) hb432 (by decide)))).1 88 (by decide))]
                rfl
              have hl449 : 1 ≤ n446 ∧ n446 ≤ 99 := by
                have q := xMnv.lay hI (k := rwv w 88 pj) (i := 0) (hb pj (by omega)) (by decide)
                rw [← hT448]
                exact q
              refine xg_t (xg_iadd (u := u437) (v := n446) (z := u437 + n446) xnm0 xnm0 (by omega)) ?_
              refine xg_t (xg_i2l (u := u437 + n446) xnm0) ?_
              refine xg_t (xg_lre (b := u437 + n446) (by rw [xlp_eq]; exact nI_l (by omega))) ?_
              refine xg_t (xg_aload (va := (2, 82)) rfl rfl) ?_
              refine xg_t (xg_getf (va := (2, 93)) (hF445.get (by decide) (hb432.get (by decide) (hb418.get (by decide) (hF379.get (by decide) h82_31)))) rfl) ?_
              refine xg_t (xg_iload (va := (0, pj)) rfl rfl) ?_
              obtain ⟨l450, hz451⟩ : ∃ z, g433 pj = z := ⟨_, rfl⟩
              refine xg_t (xg_lald (n := pj) (hr431.fr hF445 (by decide)) xnm0 (by omega) hz451) ?_
              have hU452 : bU (fun j => rwv w 83 (20 + j)) (rwv w 88) (rwv w 83 0) pj = l450 := hU429.trans (he435.symm.trans hz451)
              refine xg_t (xg_lmul (u := u437 + n446) (v := l450)) ?_
              refine xg_t (xg_lre (b := (u437 + n446) * l450) (by rw [xlp_eq]; exact lN_mul _ _)) ?_
              refine xg_t (xg_aload (va := (2, 82)) rfl rfl) ?_
              refine xg_t (xg_getf (va := (2, 92)) (hF445.get (by decide) (hb432.get (by decide) (hb418.get (by decide) (hF379.get (by decide) h82_31)))) rfl) ?_
              refine xg_t (xg_iload (va := (0, pj)) rfl rfl) ?_
              obtain ⟨l453, hz454⟩ : ∃ z, g419 pj = z := ⟨_, rfl⟩
              refine xg_t (xg_lald (n := pj) ((hr417.but hb432 (by decide)).fr hF445 (by decide)) xnm0 (by omega) hz454) ?_
              have hU455 : bO (fun j => rwv w 83 (20 + j)) (rwv w 88) (rwv w 83 0) pj = l453 := hU415.trans (he421.symm.trans hz454)
              refine xg_klE (xg_lsub (u := (u437 + n446) * l450) (v := l453)) (fun l456 hz457 => ?_)
              refine xg_t (xg_lstore (l1 := [(0, (2, 82)), (2, (0, pj))]) rfl rfl) ?_
              refine xg_t (xg_aload (va := (2, 82)) rfl rfl) ?_
              refine xg_t (xg_getf (va := (2, 90)) (hF445.get (by decide) (hb432.get (by decide) (hb418.get (by decide) (hF379.get (by decide) h82_31)))) rfl) ?_
              refine xg_t (xg_iload (va := (0, pj)) rfl rfl) ?_
              refine xg_ialdB (n := pj) (B := 4294967295) (((h90_389.but hb418 (by decide)).but hb432 (by decide)).fr hF445 (by decide)) (hb390) xnm0 (by omega) (fun u458 hu459 he460 => ?_)
              have hB461 : bhg (fun j => rwv w 83 (20 + j)) (rwv w 88) pj = u458 := (hq385 pj (by omega)).2.1.symm.trans ((rwv_of h90_389 (by omega)).trans he460)
              have hl462 : u458 ≤ 594 := by
                have q := bhg_le (r := (fun j => rwv w 83 (20 + j))) (o := (rwv w 88)) (p := pj) (fun q h => (xMnv.lay hI (i := 0) (hb q (by omega)) (by decide)).2)
                omega
              refine xg_t (xg_i2l (u := u458) xnm0) ?_
              refine xg_t (xg_lre (b := u458) (by rw [xlp_eq]; exact nI_l (by omega))) ?_
              refine xg_t (xg_aload (va := (2, 82)) rfl rfl) ?_
              refine xg_t (xg_getf (va := (2, 93)) (hF445.get (by decide) (hb432.get (by decide) (hb418.get (by decide) (hF379.get (by decide) h82_31)))) rfl) ?_
              refine xg_t (xg_iload (va := (0, pj)) rfl rfl) ?_
              obtain ⟨l463, hz464⟩ : ∃ z, g433 pj = z := ⟨_, rfl⟩
              refine xg_t (xg_lald (n := pj) (hr431.fr hF445 (by decide)) xnm0 (by omega) hz464) ?_
              have hU465 : bU (fun j => rwv w 83 (20 + j)) (rwv w 88) (rwv w 83 0) pj = l463 := hU429.trans (he435.symm.trans hz464)
              refine xg_t (xg_lmul (u := u458) (v := l463)) ?_
              refine xg_t (xg_lre (b := u458 * l463) (by rw [xlp_eq]; exact lN_mul _ _)) ?_
              refine xg_t (xg_aload (va := (2, 82)) rfl rfl) ?_
              refine xg_t (xg_getf (va := (2, 92)) (hF445.get (by decide) (hb432.get (by decide) (hb418.get (by decide) (hF379.get (by decide) h82_31)))) rfl) ?_
              refine xg_t (xg_iload (va := (0, pj)) rfl rfl) ?_
              obtain ⟨l466, hz467⟩ : ∃ z, g419 pj = z := ⟨_, rfl⟩
              refine xg_t (xg_lald (n := pj) ((hr417.but hb432 (by decide)).fr hF445 (by decide)) xnm0 (by omega) hz467) ?_
              have hU468 : bO (fun j => rwv w 83 (20 + j)) (rwv w 88) (rwv w 83 0) pj = l466 := hU415.trans (he421.symm.trans hz467)
              refine xg_klE (xg_lsub (u := u458 * l463) (v := l466)) (fun l469 hz470 => ?_)
              refine xg_t (xg_lstore (l1 := [(3, (4, l456)), (0, (2, 82)), (2, (0, pj))]) rfl rfl) ?_
              refine xg_t (xg_aload (va := (2, 82)) rfl rfl) ?_
              refine xg_t (xg_getf (va := (2, 94)) (hF445.get (by decide) (hb432.get (by decide) (hb418.get (by decide) (hF379.get (by decide) h82_31)))) rfl) ?_
              refine xg_t (xg_iload (va := (0, pj)) rfl rfl) ?_
              refine xg_t (xg_lload (u := l469) rfl) ?_
              refine xg_cSj mX12_size0 (vs := [(4, l469)]) (rest := [(0, pj), (2, 94)]) (cn1 := 0) (sl1 := 0) rfl (mSize0X (hI444)) rfl rfl rfl rfl rfl rfl rfl (fun l475 w471 hq472 => ?_)
              obtain ⟨hn476, hI473, hF474⟩ := hq472
              refine xg_t (xg_lload (u := l456) rfl) ?_
              refine xg_cSj mX12_size0 (vs := [(4, l456)]) (rest := [(4, l475), (0, pj), (2, 94)]) (cn1 := 0) (sl1 := 0) rfl (mSize0X (hI473)) rfl rfl rfl rfl rfl rfl rfl (fun l481 w477 hq478 => ?_)
              obtain ⟨hn482, hI479, hF480⟩ := hq478
              refine xg_t (xg_lcmp (u := l475) (v := l481)) ?_
              by_cases hc483 : lN l481 < lN l475
              · refine xg_t (xg_ifF (u := xpt (lg_cmp (lN l475) (lN l481))) rfl xnm0 (xlj_leF hc483)) ?_
                refine xg_t (xg_lload (u := l469) rfl) ?_
                refine xg_t (xg_goto) ?_
                refine xg_t (xg_blq rfl) ?_
                refine xg_last (n := pj) (u := l469) (((((h94_401.but hb418 (by decide)).but hb432 (by decide)).fr hF445 (by decide)).fr hF474 (by decide)).fr hF480 (by decide)) xnm0 (by omega) (fun w484 hr485 hb486 => ?_)
                obtain ⟨g487, hg488⟩ : ∃ g : Nat → Nat, g = (fun j => if j = pj then l469 else g94_400 j) := ⟨_, rfl⟩
                rw [← hg488] at hr485
                have he489 : g487 pj = l469 := by rw [hg488]; exact if_pos rfl
                have hk490 : ∀ j, j ≠ pj → g487 j = g94_400 j := fun j hj => by rw [hg488]; exact if_neg hj
                refine xg_t (xg_iinc (u := pj) (z := pj + 1) (l1 := [(5, (4, l469)), (3, (4, l456)), (0, (2, 82))]) rfl rfl (by omega) rfl) ?_
                refine xg_t (xg_goto) ?_
                refine xg_t (xg_drop (l1 := [(0, (2, 82)), (2, (0, pj + 1))]) (List.forall_mem_cons.mpr ⟨List.mem_cons_of_mem _ (List.mem_cons_of_mem _ (List.mem_cons_of_mem _ (List.mem_cons_self))), List.forall_mem_cons.mpr ⟨List.mem_cons_self, fun _ h => absurd h List.not_mem_nil⟩⟩)) ?_
                have hx491 : lN l469 = blo (fun j => rwv w 83 (20 + j)) (rwv w 88) (rwv w 83 0) pj := by
                  unfold blo
                  rw [hB461, hU465, hU468]
                  exact hz470
                have hx492 : lN l456 = bhi (fun j => rwv w 83 (20 + j)) (rwv w 88) (rwv w 83 0) pj := by
                  rw [← bhi_eq, hB440, hT448, hU452, hU455]
                  exact hz457
                have hx493 : lN l469 = bfr (fun j => rwv w 83 (20 + j)) (rwv w 88) (rwv w 83 0) pj := by
                  unfold bfr
                  rw [← hx492, ← hx491]
                  have q1 : lN l475 = iab (lN l469) := hn476
                  have q2 : lN l481 = iab (lN l456) := hn482
                  rw [← q1, ← q2, if_pos hc483]
                have hk494 := bd_copy (r := (fun j => rwv w 83 (20 + j))) (n := (rwv w 83 0)) (p := pj) (f := (bt1 (fun j => rwv w 83 (20 + j)) (rwv w 88))) (A := rwk w377 92) (A' := rwk w484 92) (fun q hq => (hq385 q hq).2.2.1) (by omega) (by rw [rwk_of (j := pj) (((((hr417.but hb432 (by decide)).fr hF445 (by decide)).fr hF474 (by decide)).fr hF480 (by decide)).but hb486 (by decide)) (by omega), he421, ← hU415]; unfold bO; exact (hq385 pj (by omega)).2.2.1.symm) (fun s h6 hs => by
                  rw [rwk_of (j := s) (((((hr417.but hb432 (by decide)).fr hF445 (by decide)).fr hF474 (by decide)).fr hF480 (by decide)).but hb486 (by decide)) (by omega), hk422 s hs, ← rwk_of (j := s) h92_395 (by omega)])
                have hk495 := bd_copy (r := (fun j => rwv w 83 (20 + j))) (n := (rwv w 83 0)) (p := pj) (f := (bt2 (fun j => rwv w 83 (20 + j)) (rwv w 88))) (A := rwk w377 93) (A' := rwk w484 93) (fun q hq => (hq385 q hq).2.2.2) (by omega) (by rw [rwk_of (j := pj) ((((hr431.fr hF445 (by decide)).fr hF474 (by decide)).fr hF480 (by decide)).but hb486 (by decide)) (by omega), he435, ← hU429]; unfold bU; exact (hq385 pj (by omega)).2.2.2.symm) (fun s h6 hs => by
                  rw [rwk_of (j := s) ((((hr431.fr hF445 (by decide)).fr hF474 (by decide)).fr hF480 (by decide)).but hb486 (by decide)) (by omega), hk436 s hs, ← rwk_of (j := s) h93_398 (by omega)])
                have hk496 : ∀ q, q < (rwv w 83 0) → rwv w484 91 q = bfs (fun j => rwv w 83 (20 + j)) q ∧ rwv w484 90 q = bhg (fun j => rwv w 83 (20 + j)) (rwv w 88) q ∧ rwk w484 92 (bfs (fun j => rwv w 83 (20 + j)) q) = bA (fun j => rwv w 83 (20 + j)) (bt1 (fun j => rwv w 83 (20 + j)) (rwv w 88)) (rwv w 83 0) (bfs (fun j => rwv w 83 (20 + j)) q) ∧ rwk w484 93 (bfs (fun j => rwv w 83 (20 + j)) q) = bA (fun j => rwv w 83 (20 + j)) (bt2 (fun j => rwv w 83 (20 + j)) (rwv w 88)) (rwv w 83 0) (bfs (fun j => rwv w 83 (20 + j)) q) := fun q hq => by
                  obtain ⟨a1, a2, -, -⟩ := hq385 q hq
                  exact ⟨((rwv_of ((((((h91_392.but hb418 (by decide)).but hb432 (by decide)).fr hF445 (by decide)).fr hF474 (by decide)).fr hF480 (by decide)).but hb486 (by decide)) (by omega)).trans (rwv_of h91_392 (by omega)).symm).trans a1, ((rwv_of ((((((h90_389.but hb418 (by decide)).but hb432 (by decide)).fr hF445 (by decide)).fr hF474 (by decide)).fr hF480 (by decide)).but hb486 (by decide)) (by omega)).trans (rwv_of h90_389 (by omega)).symm).trans a2, hk494 q hq, hk495 q hq⟩
                have hm498 : ∀ q, q < pj + 1 → rwk w484 92 q = bO (fun j => rwv w 83 (20 + j)) (rwv w 88) (rwv w 83 0) q ∧ rwk w484 93 q = bU (fun j => rwv w 83 (20 + j)) (rwv w 88) (rwv w 83 0) q ∧ lN (rwk w484 94 q) = bfr (fun j => rwv w 83 (20 + j)) (rwv w 88) (rwv w 83 0) q := fun q hq => by
                  by_cases e : q = pj
                  · rw [e, rwk_of (j := pj) (((((hr417.but hb432 (by decide)).fr hF445 (by decide)).fr hF474 (by decide)).fr hF480 (by decide)).but hb486 (by decide)) (by omega), rwk_of (j := pj) ((((hr431.fr hF445 (by decide)).fr hF474 (by decide)).fr hF480 (by decide)).but hb486 (by decide)) (by omega), rwk_of (j := pj) hr485 (by omega), he421, he435, he489]
                    exact ⟨hU415.symm, hU429.symm, hx493⟩
                  · rw [rwk_of (j := q) (((((hr417.but hb432 (by decide)).fr hF445 (by decide)).fr hF474 (by decide)).fr hF480 (by decide)).but hb486 (by decide)) (by omega), rwk_of (j := q) ((((hr431.fr hF445 (by decide)).fr hF474 (by decide)).fr hF480 (by decide)).but hb486 (by decide)) (by omega), rwk_of (j := q) hr485 (by omega), hk422 q e, hk436 q e, hk490 q e, ← rwk_of (j := q) h92_395 (by omega), ← rwk_of (j := q) h93_398 (by omega), ← rwk_of (j := q) h94_401 (by omega)]
                    exact hf386 q (by omega)
                exact ih375 (pj + 1) w484 (by omega) (by omega) (xMnv.up (S := [94]) hI479 (xFr.of (S := [94]) hb486 (by decide)) (List.forall_mem_cons.mpr ⟨xqu94 (show cpJ 6 61 (wget w484 94) from ⟨_, hr485⟩), fun _ h => absurd h List.not_mem_nil⟩)) ((((((hF379.tr ((xFr.of (S := [90, 91, 92, 93, 94]) hb418 (by decide)).tr (xFr.of (S := [90, 91, 92, 93, 94]) hb432 (by decide)))).tr (hF445.up (by decide))).tr (hF474.up (by decide))).tr (hF480.up (by decide))).tr (xFr.of (S := [90, 91, 92, 93, 94]) hb486 (by decide)))) (⟨hk496, hm498, by omega⟩)
              · refine xg_t (xg_ifT (u := xpt (lg_cmp (lN l475) (lN l481))) rfl xnm0 (xlj_leT hc483)) ?_
                refine xg_t (xg_blq rfl) ?_
                refine xg_t (xg_lload (u := l456) rfl) ?_
                refine xg_t (xg_blq rfl) ?_
                refine xg_last (n := pj) (u := l456) (((((h94_401.but hb418 (by decide)).but hb432 (by decide)).fr hF445 (by decide)).fr hF474 (by decide)).fr hF480 (by decide)) xnm0 (by omega) (fun w499 hr500 hb501 => ?_)
                obtain ⟨g502, hg503⟩ : ∃ g : Nat → Nat, g = (fun j => if j = pj then l456 else g94_400 j) := ⟨_, rfl⟩
                rw [← hg503] at hr500
                have he504 : g502 pj = l456 := by rw [hg503]; exact if_pos rfl
                have hk505 : ∀ j, j ≠ pj → g502 j = g94_400 j := fun j hj => by rw [hg503]; exact if_neg hj
                refine xg_t (xg_iinc (u := pj) (z := pj + 1) (l1 := [(5, (4, l469)), (3, (4, l456)), (0, (2, 82))]) rfl rfl (by omega) rfl) ?_
                refine xg_t (xg_goto) ?_
                refine xg_t (xg_drop (l1 := [(0, (2, 82)), (2, (0, pj + 1))]) (List.forall_mem_cons.mpr ⟨List.mem_cons_of_mem _ (List.mem_cons_of_mem _ (List.mem_cons_of_mem _ (List.mem_cons_self))), List.forall_mem_cons.mpr ⟨List.mem_cons_self, fun _ h => absurd h List.not_mem_nil⟩⟩)) ?_
                have hx506 : lN l469 = blo (fun j => rwv w 83 (20 + j)) (rwv w 88) (rwv w 83 0) pj := by
                  unfold blo
                  rw [hB461, hU465, hU468]
                  exact hz470
                have hx507 : lN l456 = bhi (fun j => rwv w 83 (20 + j)) (rwv w 88) (rwv w 83 0) pj := by
                  rw [← bhi_eq, hB440, hT448, hU452, hU455]
                  exact hz457
                have hx508 : lN l456 = bfr (fun j => rwv w 83 (20 + j)) (rwv w 88) (rwv w 83 0) pj := by
                  unfold bfr
                  rw [← hx507, ← hx506]
                  have q1 : lN l475 = iab (lN l469) := hn476
                  have q2 : lN l481 = iab (lN l456) := hn482
                  rw [← q1, ← q2, if_neg hc483]
                have hk509 := bd_copy (r := (fun j => rwv w 83 (20 + j))) (n := (rwv w 83 0)) (p := pj) (f := (bt1 (fun j => rwv w 83 (20 + j)) (rwv w 88))) (A := rwk w377 92) (A' := rwk w499 92) (fun q hq => (hq385 q hq).2.2.1) (by omega) (by rw [rwk_of (j := pj) (((((hr417.but hb432 (by decide)).fr hF445 (by decide)).fr hF474 (by decide)).fr hF480 (by decide)).but hb501 (by decide)) (by omega), he421, ← hU415]; unfold bO; exact (hq385 pj (by omega)).2.2.1.symm) (fun s h6 hs => by
                  rw [rwk_of (j := s) (((((hr417.but hb432 (by decide)).fr hF445 (by decide)).fr hF474 (by decide)).fr hF480 (by decide)).but hb501 (by decide)) (by omega), hk422 s hs, ← rwk_of (j := s) h92_395 (by omega)])
                have hk510 := bd_copy (r := (fun j => rwv w 83 (20 + j))) (n := (rwv w 83 0)) (p := pj) (f := (bt2 (fun j => rwv w 83 (20 + j)) (rwv w 88))) (A := rwk w377 93) (A' := rwk w499 93) (fun q hq => (hq385 q hq).2.2.2) (by omega) (by rw [rwk_of (j := pj) ((((hr431.fr hF445 (by decide)).fr hF474 (by decide)).fr hF480 (by decide)).but hb501 (by decide)) (by omega), he435, ← hU429]; unfold bU; exact (hq385 pj (by omega)).2.2.2.symm) (fun s h6 hs => by
                  rw [rwk_of (j := s) ((((hr431.fr hF445 (by decide)).fr hF474 (by decide)).fr hF480 (by decide)).but hb501 (by decide)) (by omega), hk436 s hs, ← rwk_of (j := s) h93_398 (by omega)])
                have hk511 : ∀ q, q < (rwv w 83 0) → rwv w499 91 q = bfs (fun j => rwv w 83 (20 + j)) q ∧ rwv w499 90 q = bhg (fun j => rwv w 83 (20 + j)) (rwv w 88) q ∧ rwk w499 92 (bfs (fun j => rwv w 83 (20 + j)) q) = bA (fun j => rwv w 83 (20 + j)) (bt1 (fun j => rwv w 83 (20 + j)) (rwv w 88)) (rwv w 83 0) (bfs (fun j => rwv w 83 (20 + j)) q) ∧ rwk w499 93 (bfs (fun j => rwv w 83 (20 + j)) q) = bA (fun j => rwv w 83 (20 + j)) (bt2 (fun j => rwv w 83 (20 + j)) (rwv w 88)) (rwv w 83 0) (bfs (fun j => rwv w 83 (20 + j)) q) := fun q hq => by
                  obtain ⟨a1, a2, -, -⟩ := hq385 q hq
                  exact ⟨((rwv_of ((((((h91_392.but hb418 (by decide)).but hb432 (by decide)).fr hF445 (by decide)).fr hF474 (by decide)).fr hF480 (by decide)).but hb501 (by decide)) (by omega)).trans (rwv_of h91_392 (by omega)).symm).trans a1, ((rwv_of ((((((h90_389.but hb418 (by decide)).but hb432 (by decide)).fr hF445 (by decide)).fr hF474 (by decide)).fr hF480 (by decide)).but hb501 (by decide)) (by omega)).trans (rwv_of h90_389 (by omega)).symm).trans a2, hk509 q hq, hk510 q hq⟩
                have hm513 : ∀ q, q < pj + 1 → rwk w499 92 q = bO (fun j => rwv w 83 (20 + j)) (rwv w 88) (rwv w 83 0) q ∧ rwk w499 93 q = bU (fun j => rwv w 83 (20 + j)) (rwv w 88) (rwv w 83 0) q ∧ lN (rwk w499 94 q) = bfr (fun j => rwv w 83 (20 + j)) (rwv w 88) (rwv w 83 0) q := fun q hq => by
                  by_cases e : q = pj
                  · rw [e, rwk_of (j := pj) (((((hr417.but hb432 (by decide)).fr hF445 (by decide)).fr hF474 (by decide)).fr hF480 (by decide)).but hb501 (by decide)) (by omega), rwk_of (j := pj) ((((hr431.fr hF445 (by decide)).fr hF474 (by decide)).fr hF480 (by decide)).but hb501 (by decide)) (by omega), rwk_of (j := pj) hr500 (by omega), he421, he435, he504]
                    exact ⟨hU415.symm, hU429.symm, hx508⟩
                  · rw [rwk_of (j := q) (((((hr417.but hb432 (by decide)).fr hF445 (by decide)).fr hF474 (by decide)).fr hF480 (by decide)).but hb501 (by decide)) (by omega), rwk_of (j := q) ((((hr431.fr hF445 (by decide)).fr hF474 (by decide)).fr hF480 (by decide)).but hb501 (by decide)) (by omega), rwk_of (j := q) hr500 (by omega), hk422 q e, hk436 q e, hk505 q e, ← rwk_of (j := q) h92_395 (by omega), ← rwk_of (j := q) h93_398 (by omega), ← rwk_of (j := q) h94_401 (by omega)]
                    exact hf386 q (by omega)
                exact ih375 (pj + 1) w499 (by omega) (by omega) (xMnv.up (S := [94]) hI479 (xFr.of (S := [94]) hb501 (by decide)) (List.forall_mem_cons.mpr ⟨xqu94 (show cpJ 6 61 (wget w499 94) from ⟨_, hr500⟩), fun _ h => absurd h List.not_mem_nil⟩)) ((((((hF379.tr ((xFr.of (S := [90, 91, 92, 93, 94]) hb418 (by decide)).tr (xFr.of (S := [90, 91, 92, 93, 94]) hb432 (by decide)))).tr (hF445.up (by decide))).tr (hF474.up (by decide))).tr (hF480.up (by decide))).tr (xFr.of (S := [90, 91, 92, 93, 94]) hb501 (by decide)))) (⟨hk511, hm513, by omega⟩)
            · refine xg_t (xg_icT (u := pj) (v := u403) rfl xnm0 xnm0 (xj_geT (by omega) (by omega))) ?_
              refine xg_t (xg_blq rfl) ?_
              have hk514 : ∀ q, q < rwv w 83 0 → rwv w377 91 q = bfs (fun j => rwv w 83 (20 + j)) q ∧ rwv w377 90 q = bhg (fun j => rwv w 83 (20 + j)) (rwv w 88) q ∧ rwk w377 92 q = bO (fun j => rwv w 83 (20 + j)) (rwv w 88) (rwv w 83 0) q ∧ rwk w377 93 q = bU (fun j => rwv w 83 (20 + j)) (rwv w 88) (rwv w 83 0) q ∧ lN (rwk w377 94 q) = bfr (fun j => rwv w 83 (20 + j)) (rwv w 88) (rwv w 83 0) q := fun q hq => by
                have a := hq385 q hq
                have b := hf386 q (by omega)
                exact ⟨a.1, a.2.1, b.1, b.2.1, b.2.2⟩
              exact xg_e ⟨w377, ⟨rfl, rfl⟩, hI378, hF379, hk514⟩
        exact key374 _ 0 w43 (Nat.lt_succ_self _) (by omega) (hI44) (hF45) (⟨hq381, fun q hq => absurd hq (Nat.not_lt_zero _), Nat.zero_le _⟩)
  exact key40 _ 0 0 w (Nat.lt_succ_self _) (by omega) (by omega) (hI) (xFr.rf) (⟨fun q hq => absurd hq (Nat.not_lt_zero _), ⟨rfl, by omega⟩, Nat.zero_le _⟩)
end XBM
end
section
/-! the class: what the calls say of the bend -/
section XBS
variable {d : Nat} {w : List (List xE)} {bd : List (Nat × Nat)} {fc : List (Nat × Nat × Bool)} {rr : Nat × Nat}
theorem scLayerX {la wh : Nat} (hI : xInv w) (hla : la ≤ 4294967295) (hwh : wh ≤ 4294967295) (ht : ∀ k i, k < fld w 4 3 → i < 3 → 1 ≤ rwv w 5 (4 * k + i) ∧ rwv w 5 (4 * k + i) ≤ 99) : xPi (d + 4) mX11_layer [(2, 0), (0, la), (0, wh)] w bd fc rr (fun n w' => ((la < fld w 4 3 ∧ wh < 4 ∧ n = rwv w 5 (4 * la + wh)) ∨ (la < fld w 4 3 ∧ wh = 4 ∧ n = bhg (rwv w 5) (fun q => q) la) ∨ (la < fld w 4 3 ∧ wh = 5 ∧ n = bfs (rwv w 5) la) ∨ (¬ (la < fld w 4 3 ∧ wh ≤ 5) ∧ n = 4294967295)) ∧ xInv w' ∧ xFr [50, 51, 52, 53, 54, 55] w w') := by
  refine xPi.of ?_
  show xTo (d + 4) mX11_layer (0, [], [(0, (2, 0)), (1, (0, la)), (2, (0, wh))], [], (w, bd, fc, 0, 0, rr)) (fun φ => ∃ n w', xEnd 1 [(0, n)] (w', bd, fc, 0, 0, rr) φ ∧ ((la < fld w 4 3 ∧ wh < 4 ∧ n = rwv w 5 (4 * la + wh)) ∨ (la < fld w 4 3 ∧ wh = 4 ∧ n = bhg (rwv w 5) (fun q => q) la) ∨ (la < fld w 4 3 ∧ wh = 5 ∧ n = bfs (rwv w 5) la) ∨ (¬ (la < fld w 4 3 ∧ wh ≤ 5) ∧ n = 4294967295)) ∧ xInv w' ∧ xFr [50, 51, 52, 53, 54, 55] w w')
  have h0_1 := (xqc0 hI : cp0 (wget w 0))
  refine xoC1 (xqc1 hI : cp1 (wget w 1)) (fun f1_2 f1_4 f1_6 f1_8 f1_10 f1_12 h1_14 hb3 hb5 hb7 hb9 hb11 hb13 => ?_)
  refine xoC3 (xqc3 hI : cp3 (wget w 3)) (fun f3_15 f3_17 f3_19 f3_21 f3_23 h3_25 hb16 hb18 hb20 hb22 hb24 => ?_)
  obtain ⟨f4_26, h4_28, hb27⟩ := (xqc4 hI : cp4 (wget w 4))
  refine xoI (xqc5 hI : cpI 24 1 4294967295 (wget w 5)) (fun g5_29 h5_30 hb31 => ?_)
  have q43 : fld w 4 3 = f4_26 := fld_of h4_28
  refine xg_t (xg_blq rfl) ?_
  refine xg_t (xg_aload (va := (2, 0)) rfl rfl) ?_
  refine xg_t (xg_getf (va := (2, 1)) h0_1 rfl) ?_
  refine xg_t (xg_getf (va := (2, 3)) h1_14 rfl) ?_
  refine xg_t (xg_getf (va := (2, 4)) h3_25 rfl) ?_
  refine xg_t (xg_iload (va := (0, la)) rfl rfl) ?_
  refine xg_t (xg_cVr mX5_has (vs := [(0, la)]) (rest := []) (rs := [(0, if la < f4_26 then 1 else 0)]) (cn1 := 0) (sl1 := 0) rfl (rhas_ok h4_28 (by decide) (by omega) (by omega)) rfl h4_28 rfl rfl rfl rfl rfl rfl rfl) ?_
  by_cases hc32 : la < f4_26
  · refine xg_t (xg_ifT (u := (if la < f4_26 then 1 else 0)) rfl xnm0 (xj_neT (xite1 hc32))) ?_
    refine xg_t (xg_blq rfl) ?_
    refine xg_t (xg_aload (va := (2, 0)) rfl rfl) ?_
    refine xg_t (xg_getf (va := (2, 49)) h0_1 rfl) ?_
    refine xoC49 (xqc49 hI : cp49 (wget w 49)) (fun f49_33 f49_35 h49_37 hb34 hb36 => ?_)
    refine xg_cVv mX0_layAsTold (vs := []) (rest := []) (cn1 := 0) (sl1 := 0) rfl (bdToldX (hI) ht) rfl h49_37 rfl rfl rfl rfl rfl rfl (fun w38 hq39 => ?_)
    obtain ⟨hI40, hF41, hx42⟩ := hq39
    obtain ⟨hbd0, ho50⟩ := hx42
    have hbd : bdw w38 (rwv w 5) (fun q => q) (fld w 4 3) := hbd0
    have e5_ : rwv w38 5 = rwv w 5 := rwf_eq (hF41.1 5 (by decide))
    have e4_ : fld w38 4 3 = fld w 4 3 := fld_fr hF41 (by decide)
    have hmL : ∀ q, q < fld w 4 3 → rwv w38 50 q < fld w38 4 3 ∧ bM (rwv w38 5) (rwv w38 50) q ≤ 99 := fun q hq => by
      have q1 := ht q 2 hq (by decide)
      unfold bM
      rw [e5_, e4_, ho50 q (by omega)]
      exact ⟨hq, q1.2⟩
    have hmE : ∀ q, q < fld w 4 3 → bM (rwv w38 5) (rwv w38 50) q = bM (rwv w 5) (fun q => q) q ∧ bU (rwv w 5) (fun q => q) (fld w 4 3) q = bU (rwv w 5) (fun q => q) (fld w 4 3) q ∧ bfr (rwv w 5) (fun q => q) (fld w 4 3) q = bfr (rwv w 5) (fun q => q) (fld w 4 3) q := fun q hq => ⟨by unfold bM; rw [e5_, ho50 q (by omega)], rfl, rfl⟩
    refine xg_t (xg_iload (va := (0, wh)) rfl rfl) ?_
    by_cases hc43 : wh = 4
    · refine xg_t (xg_swt (ks := [(4, 52), (5, 62)]) (u := wh) (z := 52) rfl rfl rfl xnm0 (xsw_y hc43)) ?_
      refine xg_t (xg_blq rfl) ?_
      refine xg_t (xg_aload (va := (2, 0)) rfl rfl) ?_
      refine xg_t (xg_getf (va := (2, 49)) (hF41.get (by decide) h0_1) rfl) ?_
      refine xg_t (xg_getf (va := (2, 51)) (hF41.get (by decide) h49_37) rfl) ?_
      refine xg_t (xg_iload (va := (0, la)) rfl rfl) ?_
      refine xoI (xqc51 hI40 : cpI 6 24 4294967295 (wget w38 51)) (fun g51_44 h51_45 hb46 => ?_)
      refine xg_ialdB (n := la) (B := 4294967295) h51_45 (hb46) xnm0 (by omega) (fun u47 hu48 he49 => ?_)
      have hk50 : u47 = bhg (rwv w 5) (fun q => q) la := (((hbd la (by omega)).2.1).symm.trans ((rwv_of h51_45 (by omega)).trans he49)).symm
      exact xg_e ⟨u47, w38, ⟨rfl, rfl⟩, Or.inr (Or.inl ⟨by omega, by omega, hk50⟩), hI40, (hF41.up (by decide))⟩
    · by_cases hc51 : wh = 5
      · refine xg_t (xg_swt (ks := [(4, 52), (5, 62)]) (u := wh) (z := 62) rfl rfl rfl xnm0 (xsw_n hc43 (xsw_y hc51))) ?_
        refine xg_t (xg_blq rfl) ?_
        refine xg_t (xg_aload (va := (2, 0)) rfl rfl) ?_
        refine xg_t (xg_getf (va := (2, 49)) (hF41.get (by decide) h0_1) rfl) ?_
        refine xg_t (xg_getf (va := (2, 52)) (hF41.get (by decide) h49_37) rfl) ?_
        refine xg_t (xg_iload (va := (0, la)) rfl rfl) ?_
        refine xoI (xqc52 hI40 : cpI 6 25 5 (wget w38 52)) (fun g52_52 h52_53 hb54 => ?_)
        refine xg_ialdB (n := la) (B := 5) h52_53 (hb54) xnm0 (by omega) (fun u55 hu56 he57 => ?_)
        have hk58 : u55 = bfs (rwv w 5) la := (((hbd la (by omega)).1).symm.trans ((rwv_of h52_53 (by omega)).trans he57)).symm
        exact xg_e ⟨u55, w38, ⟨rfl, rfl⟩, Or.inr (Or.inr (Or.inl ⟨by omega, by omega, hk58⟩)), hI40, (hF41.up (by decide))⟩
      · refine xg_t (xg_swt (ks := [(4, 52), (5, 62)]) (u := wh) (z := 72) rfl rfl rfl xnm0 (xsw_n hc43 (xsw_n hc51 (xsw_d)))) ?_
        refine xg_t (xg_blq rfl) ?_
        refine xg_t (xg_aload (va := (2, 0)) rfl rfl) ?_
        refine xg_t (xg_getf (va := (2, 1)) (hF41.get (by decide) h0_1) rfl) ?_
        refine xg_t (xg_getf (va := (2, 3)) (hF41.get (by decide) h1_14) rfl) ?_
        refine xg_t (xg_getf (va := (2, 4)) (hF41.get (by decide) h3_25) rfl) ?_
        refine xg_t (xg_iload (va := (0, la)) rfl rfl) ?_
        refine xg_t (xg_iload (va := (0, wh)) rfl rfl) ?_
        by_cases hc59 : wh < 4
        · refine xg_kE (xg_cVr mX5_get (vs := [(0, la), (0, wh)]) (rest := []) (rs := [(0, g5_29 (la * 4 + wh))]) (cn1 := 0) (sl1 := 0) rfl (rgetX (lim := 6) (wd := 4) (sz := f4_26) (hF41.get (by decide) h4_28) (h5_30.fr hF41 (by decide)) (by decide) (by omega) (by decide) (by decide) (by omega) (by omega)) rfl (hF41.get (by decide) h4_28) rfl rfl rfl rfl rfl rfl rfl) (Nat.lt_succ_of_le ((hb31) _)) (fun z60 hz61 he62 => ?_)
          have hk63 : z60 = rwv w 5 (4 * la + wh) := by
            rw [rwv_of (j := 4 * la + wh) h5_30 (by omega), show 4 * la + wh = la * 4 + wh by omega]
            exact he62.symm
          exact xg_e ⟨z60, w38, ⟨rfl, rfl⟩, Or.inl ⟨by omega, by omega, hk63⟩, hI40, (hF41.up (by decide))⟩
        · refine xg_kE (xg_cVr mX5_get (vs := [(0, la), (0, wh)]) (rest := []) (rs := [(0, (if la < f4_26 ∧ wh < 4 then g5_29 (la * 4 + wh) else 4294967295))]) (cn1 := 0) (sl1 := 0) rfl (rget_ok (lim := 6) (wd := 4) (sz := f4_26) (hF41.get (by decide) h4_28) (h5_30.fr hF41 (by decide)) (by decide) (by omega) (by decide) (by decide) (by omega) (by omega)) rfl (hF41.get (by decide) h4_28) rfl rfl rfl rfl rfl rfl rfl) (xiteb (hb31)) (fun z64 hz65 he66 => ?_)
          have hno : z64 = 4294967295 := by rw [← he66]; exact if_neg (fun q => hc59 q.2)
          exact xg_e ⟨z64, w38, ⟨rfl, rfl⟩, Or.inr (Or.inr (Or.inr ⟨by omega, hno⟩)), hI40, (hF41.up (by decide))⟩
  · refine xg_t (xg_ifF (u := (if la < f4_26 then 1 else 0)) rfl xnm0 (xj_neF (xite0 hc32))) ?_
    refine xg_t (xg_const) ?_
    exact xg_e ⟨4294967295, w, ⟨rfl, rfl⟩, Or.inr (Or.inr (Or.inr ⟨by omega, rfl⟩)), hI, xFr.rf⟩
end XBS
end
section
/-! the model: what the calls say of the bend -/
section XBN
variable {d : Nat} {w : List (List xE)} {bd : List (Nat × Nat)} {fc : List (Nat × Nat × Bool)} {rr : Nat × Nat}
theorem mAsToldX (hI : xMnv w)  : xPq (d + 2) mX12_asTold [(2, 82)] w bd fc rr [] (fun w' => xMnv w' ∧ xFr [88, 90, 91, 92, 93, 94] w w' ∧ (bdm w' (fun j => rwv w 83 (20 + j)) (fun q => q) (rwv w 83 0) ∧ ∀ q, q < 6 → rwv w' 88 q = q)) := by
  refine xPq.of ?_
  show xTo (d + 2) mX12_asTold (0, [], [(0, (2, 82))], [], (w, bd, fc, 0, 0, rr)) (fun φ => ∃ w', xEnd 0 [] (w', bd, fc, 0, 0, rr) φ ∧ xMnv w' ∧ xFr [88, 90, 91, 92, 93, 94] w w' ∧ (bdm w' (fun j => rwv w 83 (20 + j)) (fun q => q) (rwv w 83 0) ∧ ∀ q, q < 6 → rwv w' 88 q = q))
  refine xoCh82 (xqc82 hI : cp82 (wget w 82)) (fun f82_1 f82_3 f82_5 f82_7 f82_9 f82_11 f82_13 f82_15 f82_17 f82_19 f82_21 f82_22 f82_23 f82_25 f82_27 f82_29 h82_31 hb2 hb4 hb6 hb8 hb10 hb12 hb14 hb16 hb18 hb20 hb24 hb26 hb28 hb30 hb32 => ?_)
  refine xoX83 (xqc83 hI : cpx83 (wget w 83)) (fun g83_33 h83_34 hb35 hx36 => ?_)
  refine xg_t (xg_blq rfl) ?_
  refine xg_t (xg_aload (va := (2, 82)) rfl rfl) ?_
  refine xg_cVv mX12_inOrder (vs := []) (rest := []) (cn1 := 0) (sl1 := 0) rfl (mInOrder (hI)) rfl h82_31 rfl rfl rfl rfl rfl rfl (fun w37 hq38 => ?_)
  obtain ⟨hI39, hF40, hx41⟩ := hq38
  obtain ⟨o42, hr43, hb44, ho45⟩ := hx41
  refine xg_t (xg_aload (va := (2, 82)) rfl rfl) ?_
  have e846 : ∀ q, q < 6 → rwv w37 88 q = q := fun q hq => (rwv_of hr43 (by omega)).trans (ho45 q (by omega))
  have e047 : rwv w37 83 = rwv w 83 := rwf_eq (hF40.1 83 (by decide))
  have hl0 := xMnv.l0 hI
  have hb48 : ∀ q, q < rwv w37 83 0 → rwv w37 88 q < rwv w37 83 0 := fun q hq => by
    rw [e047] at hq ⊢
    rw [e846 q (by omega)]
    exact hq
  refine xg_cVv mX12_blocks (vs := []) (rest := []) (cn1 := 0) (sl1 := 0) rfl (mBlocksX (hI39) hb48) rfl (hF40.get (by decide) h82_31) rfl rfl rfl rfl rfl rfl (fun w49 hq50 => ?_)
  obtain ⟨hI51, hF52, hx53⟩ := hq50
  have hk54 : bdm w49 (fun j => rwv w 83 (20 + j)) (fun q => q) (rwv w 83 0) := fun q hq => by
    have a := hx53 q (by rw [e047]; exact hq)
    rw [e047] at a
    have z : bEq (fun j => rwv w 83 (20 + j)) (fun q => q) (fun j => rwv w 83 (20 + j)) (rwv w37 88) (rwv w 83 0) := ⟨fun _ _ => rfl, fun q hq => ⟨e846 q (by omega), hq⟩⟩
    rw [bhg_cg z (by omega), (bOU_cg z hq).1, (bOU_cg z hq).2, bfr_cg z hq] at a
    exact a
  exact xg_e ⟨w49, ⟨rfl, rfl⟩, hI51, ((hF40.up (by decide)).tr (hF52.up (by decide))), ⟨hk54, fun q hq => (rwv_fr hF52 (by decide)).trans (e846 q hq)⟩⟩
theorem mOf0X {ka : Nat} (hI : xMnv w) (hka : ka ≤ 4294967295) : xPi (d + 1) mX12_isOf [(2, 82), (0, ka), (0, 0)] w bd fc rr (fun n w' => ((n = 1 ∧ ka < rwv w 83 0) ∨ (n = 0 ∧ ¬ ka < rwv w 83 0)) ∧ xMnv w' ∧ xFr [] w w') := by
  refine xPi.of ?_
  show xTo (d + 1) mX12_isOf (0, [], [(0, (2, 82)), (1, (0, ka)), (2, (0, 0))], [], (w, bd, fc, 0, 0, rr)) (fun φ => ∃ n w', xEnd 4 [(0, n)] (w', bd, fc, 0, 0, rr) φ ∧ ((n = 1 ∧ ka < rwv w 83 0) ∨ (n = 0 ∧ ¬ ka < rwv w 83 0)) ∧ xMnv w' ∧ xFr [] w w')
  refine xoCh82 (xqc82 hI : cp82 (wget w 82)) (fun f82_1 f82_3 f82_5 f82_7 f82_9 f82_11 f82_13 f82_15 f82_17 f82_19 f82_21 f82_22 f82_23 f82_25 f82_27 f82_29 h82_31 hb2 hb4 hb6 hb8 hb10 hb12 hb14 hb16 hb18 hb20 hb24 hb26 hb28 hb30 hb32 => ?_)
  refine xoX83 (xqc83 hI : cpx83 (wget w 83)) (fun g83_33 h83_34 hb35 hx36 => ?_)
  have hl0 := xMnv.l0 hI
  refine xg_t (xg_blq rfl) ?_
  refine xg_t (xg_iload (va := (0, ka)) rfl rfl) ?_
  refine xg_t (xg_const) ?_
  refine xg_t (xg_aload (va := (2, 82)) rfl rfl) ?_
  refine xg_t (xg_getf (va := (2, 83)) h82_31 rfl) ?_
  refine xg_t (xg_iload (va := (0, 0)) rfl rfl) ?_
  refine xg_ialdB (n := 0) (B := 4294967295) h83_34 (hb35) xnm0 (by first | decide | omega) (fun u37 hu38 he39 => ?_)
  have hl40 : u37 ≤ 6 := by rw [← he39]; exact hx36.l0
  have hq41 : rwv w 83 0 = u37 := (rwv_of h83_34 (by omega)).trans he39
  refine xg_t (xg_const) ?_
  by_cases hc42 : 1 ≤ u37
  · refine xg_t (xg_isub (u := u37) (v := 1) (z := u37 - 1) xnm0 xnm0 (by omega)) ?_
    refine xg_t (xg_cSr mX12_isIn (vs := [(0, ka), (0, 0), (0, u37 - 1)]) (rest := []) (rs := [(0, if 0 ≤ ka ∧ ka ≤ u37 - 1 then 1 else 0)]) (cn1 := 0) (sl1 := 0) rfl (mIsIn (by omega) (by omega) (by omega)) rfl rfl rfl rfl rfl rfl rfl rfl) ?_
    by_cases hc43 : 0 ≤ ka ∧ ka ≤ u37 - 1
    · rw [if_pos hc43]
      exact xg_e ⟨1, w, ⟨rfl, rfl⟩, by first | decide | omega, hI, xFr.rf⟩
    · rw [if_neg hc43]
      exact xg_e ⟨0, w, ⟨rfl, rfl⟩, by first | decide | omega, hI, xFr.rf⟩
  · have hz46 : 4294967295 ≤ (u37 + (4294967296 - 1)) % 4294967296 := by omega
    refine xg_t (xg_isub (u := u37) (v := 1) (z := (u37 + (4294967296 - 1)) % 4294967296) xnm0 xnm0 rfl) ?_
    have hz45 : (u37 + (4294967296 - 1)) % 4294967296 < 4294967296 := Nat.mod_lt _ (by decide)
    generalize (u37 + (4294967296 - 1)) % 4294967296 = z44 at hz46 hz45 ⊢
    refine xg_t (xg_cSr mX12_isIn (vs := [(0, ka), (0, 0), (0, z44)]) (rest := []) (rs := [(0, 0)]) (cn1 := 0) (sl1 := 0) rfl (mIsInN (by omega) (by omega) (by omega) (by omega)) rfl rfl rfl rfl rfl rfl rfl rfl) ?_
    exact xg_e ⟨0, w, ⟨rfl, rfl⟩, by first | decide | omega, hI, xFr.rf⟩
theorem mLayerX {la wh : Nat} (hI : xMnv w) (hla : la ≤ 4294967295) (hwh : wh ≤ 4294967295) : xPi (d + 3) mX12_layer [(2, 82), (0, la), (0, wh)] w bd fc rr (fun n w' => ((la < rwv w 83 0 ∧ wh < 4 ∧ n = rwv w 83 (20 + (4 * la + wh))) ∨ (la < rwv w 83 0 ∧ wh = 4 ∧ n = bhg (fun j => rwv w 83 (20 + j)) (fun q => q) la) ∨ (la < rwv w 83 0 ∧ wh = 5 ∧ n = bfs (fun j => rwv w 83 (20 + j)) la) ∨ (¬ (la < rwv w 83 0 ∧ wh ≤ 5) ∧ n = 4294967295)) ∧ xMnv w' ∧ xFr [88, 90, 91, 92, 93, 94] w w') := by
  refine xPi.of ?_
  show xTo (d + 3) mX12_layer (0, [], [(0, (2, 82)), (1, (0, la)), (2, (0, wh))], [], (w, bd, fc, 0, 0, rr)) (fun φ => ∃ n w', xEnd 1 [(0, n)] (w', bd, fc, 0, 0, rr) φ ∧ ((la < rwv w 83 0 ∧ wh < 4 ∧ n = rwv w 83 (20 + (4 * la + wh))) ∨ (la < rwv w 83 0 ∧ wh = 4 ∧ n = bhg (fun j => rwv w 83 (20 + j)) (fun q => q) la) ∨ (la < rwv w 83 0 ∧ wh = 5 ∧ n = bfs (fun j => rwv w 83 (20 + j)) la) ∨ (¬ (la < rwv w 83 0 ∧ wh ≤ 5) ∧ n = 4294967295)) ∧ xMnv w' ∧ xFr [88, 90, 91, 92, 93, 94] w w')
  refine xoCh82 (xqc82 hI : cp82 (wget w 82)) (fun f82_1 f82_3 f82_5 f82_7 f82_9 f82_11 f82_13 f82_15 f82_17 f82_19 f82_21 f82_22 f82_23 f82_25 f82_27 f82_29 h82_31 hb2 hb4 hb6 hb8 hb10 hb12 hb14 hb16 hb18 hb20 hb24 hb26 hb28 hb30 hb32 => ?_)
  refine xoX83 (xqc83 hI : cpx83 (wget w 83)) (fun g83_33 h83_34 hb35 hx36 => ?_)
  have hl0 := xMnv.l0 hI
  refine xg_t (xg_blq rfl) ?_
  refine xg_t (xg_aload (va := (2, 82)) rfl rfl) ?_
  refine xg_t (xg_iload (va := (0, la)) rfl rfl) ?_
  refine xg_t (xg_const) ?_
  refine xg_cVi mX12_isOf (vs := [(0, la), (0, 0)]) (rest := []) (cn1 := 0) (sl1 := 0) rfl (mOf0X (hI) (by omega)) rfl h82_31 rfl rfl rfl rfl rfl rfl (fun n41 w37 hq38 => ?_)
  obtain ⟨hn42, hI39, hF40⟩ := hq38
  by_cases hc43 : n41 = 0
  · refine xg_t (xg_ifT (u := n41) rfl xnm0 (xj_eqT hc43)) ?_
    refine xg_t (xg_blq rfl) ?_
    refine xg_t (xg_const) ?_
    exact xg_e ⟨4294967295, w37, ⟨rfl, rfl⟩, Or.inr (Or.inr (Or.inr ⟨by omega, rfl⟩)), hI39, (hF40.up (by decide))⟩
  · refine xg_t (xg_ifF (u := n41) rfl xnm0 (xj_eqF hc43)) ?_
    refine xg_t (xg_iload (va := (0, wh)) rfl rfl) ?_
    refine xg_t (xg_const) ?_
    refine xg_t (xg_const) ?_
    refine xg_t (xg_cSr mX12_isIn (vs := [(0, wh), (0, 0), (0, 5)]) (rest := []) (rs := [(0, if 0 ≤ wh ∧ wh ≤ 5 then 1 else 0)]) (cn1 := 0) (sl1 := 0) rfl (mIsIn (by omega) (by omega) (by omega)) rfl rfl rfl rfl rfl rfl rfl rfl) ?_
    by_cases hc44 : 0 ≤ wh ∧ wh ≤ 5
    · refine xg_t (xg_ifT (u := (if 0 ≤ wh ∧ wh ≤ 5 then 1 else 0)) rfl xnm0 (xj_neT (xite1 hc44))) ?_
      refine xg_t (xg_blq rfl) ?_
      refine xg_t (xg_aload (va := (2, 82)) rfl rfl) ?_
      refine xg_cVv mX12_asTold (vs := []) (rest := []) (cn1 := 0) (sl1 := 0) rfl (mAsToldX (hI39)) rfl (hF40.get (by decide) h82_31) rfl rfl rfl rfl rfl rfl (fun w45 hq46 => ?_)
      obtain ⟨hI47, hF48, hx49⟩ := hq46
      obtain ⟨hbd, ho88⟩ := hx49
      have hfr_ : xFr [88, 90, 91, 92, 93, 94] w w37 := (hF40.up (by decide))
      have e83_ : rwv w37 83 = rwv w 83 := rwf_eq (hfr_.1 83 (by decide))
      rw [e83_] at hbd
      have e83 : rwv w45 83 = rwv w 83 := (rwf_eq (hF48.1 83 (by decide))).trans e83_
      refine xoI (xqc90 hI47 : cpI 6 57 4294967295 (wget w45 90)) (fun g90_50 h90_51 hb52 => ?_)
      refine xoI (xqc91 hI47 : cpI 6 58 5 (wget w45 91)) (fun g91_53 h91_54 hb55 => ?_)
      obtain ⟨g92_56, h92_57⟩ := (xqc92 hI47 : cpJ 6 59 (wget w45 92))
      have h92_57 : xRk 3 4 w45 92 6 59 g92_56 := h92_57
      obtain ⟨g93_59, h93_60⟩ := (xqc93 hI47 : cpJ 6 60 (wget w45 93))
      have h93_60 : xRk 3 4 w45 93 6 60 g93_59 := h93_60
      obtain ⟨g94_62, h94_63⟩ := (xqc94 hI47 : cpJ 6 61 (wget w45 94))
      have h94_63 : xRk 3 4 w45 94 6 61 g94_62 := h94_63
      refine xg_t (xg_iload (va := (0, wh)) rfl rfl) ?_
      refine xg_t (xg_const) ?_
      by_cases hc65 : wh < 4
      · refine xg_t (xg_icF (u := wh) (v := 4) rfl xnm0 xnm0 (xj_geF hc65 (by omega))) ?_
        refine xg_t (xg_aload (va := (2, 82)) rfl rfl) ?_
        refine xg_t (xg_getf (va := (2, 83)) (hF48.get (by decide) (hF40.get (by decide) h82_31)) rfl) ?_
        refine xg_t (xg_bip) ?_
        refine xg_t (xg_const) ?_
        refine xg_t (xg_iload (va := (0, la)) rfl rfl) ?_
        refine xg_t (xg_imul (u := 4) (v := la) (z := 4 * la) xnm0 xnm0 (by omega)) ?_
        refine xg_t (xg_iadd (u := 20) (v := 4 * la) (z := 20 + (4 * la)) xnm0 xnm0 (by omega)) ?_
        refine xg_t (xg_iload (va := (0, wh)) rfl rfl) ?_
        refine xg_t (xg_iadd (u := 20 + (4 * la)) (v := wh) (z := (20 + (4 * la)) + wh) xnm0 xnm0 (by omega)) ?_
        refine xg_ialdB (n := (20 + (4 * la)) + wh) (B := 4294967295) ((h83_34.fr hF40 (by decide)).fr hF48 (by decide)) (hb35) xnm0 (by omega) (fun u66 hu67 he68 => ?_)
        refine xg_t (xg_goto) ?_
        refine xg_t (xg_blq rfl) ?_
        have hk69 : u66 = rwv w 83 (20 + (4 * la + wh)) := by
          rw [rwv_of (j := 20 + (4 * la + wh)) h83_34 (by omega), show 20 + (4 * la + wh) = (20 + (4 * la)) + wh by omega]
          exact he68.symm
        exact xg_e ⟨u66, w45, ⟨rfl, rfl⟩, Or.inl ⟨by omega, by omega, hk69⟩, hI47, ((hF40.up (by decide)).tr (hF48.up (by decide)))⟩
      · refine xg_t (xg_icT (u := wh) (v := 4) rfl xnm0 xnm0 (xj_geT (by omega) (by omega))) ?_
        refine xg_t (xg_blq rfl) ?_
        refine xg_t (xg_iload (va := (0, wh)) rfl rfl) ?_
        refine xg_t (xg_const) ?_
        by_cases hc70 : wh = 4
        · refine xg_t (xg_icF (u := wh) (v := 4) rfl xnm0 xnm0 (xj_neF hc70)) ?_
          refine xg_t (xg_aload (va := (2, 82)) rfl rfl) ?_
          refine xg_t (xg_getf (va := (2, 90)) (hF48.get (by decide) (hF40.get (by decide) h82_31)) rfl) ?_
          refine xg_t (xg_iload (va := (0, la)) rfl rfl) ?_
          refine xg_ialdB (n := la) (B := 4294967295) h90_51 (hb52) xnm0 (by omega) (fun u71 hu72 he73 => ?_)
          refine xg_t (xg_goto) ?_
          refine xg_t (xg_blq rfl) ?_
          have hk74 : u71 = bhg (fun j => rwv w 83 (20 + j)) (fun q => q) la := (((hbd la (by omega)).2.1).symm.trans ((rwv_of h90_51 (by omega)).trans he73)).symm
          exact xg_e ⟨u71, w45, ⟨rfl, rfl⟩, Or.inr (Or.inl ⟨by omega, by omega, hk74⟩), hI47, ((hF40.up (by decide)).tr (hF48.up (by decide)))⟩
        · refine xg_t (xg_icT (u := wh) (v := 4) rfl xnm0 xnm0 (xj_neT hc70)) ?_
          refine xg_t (xg_blq rfl) ?_
          refine xg_t (xg_aload (va := (2, 82)) rfl rfl) ?_
          refine xg_t (xg_getf (va := (2, 91)) (hF48.get (by decide) (hF40.get (by decide) h82_31)) rfl) ?_
          refine xg_t (xg_iload (va := (0, la)) rfl rfl) ?_
          refine xg_ialdB (n := la) (B := 5) h91_54 (hb55) xnm0 (by omega) (fun u75 hu76 he77 => ?_)
          refine xg_t (xg_blq rfl) ?_
          have hk78 : u75 = bfs (fun j => rwv w 83 (20 + j)) la := (((hbd la (by omega)).1).symm.trans ((rwv_of h91_54 (by omega)).trans he77)).symm
          exact xg_e ⟨u75, w45, ⟨rfl, rfl⟩, Or.inr (Or.inr (Or.inl ⟨by omega, by omega, hk78⟩)), hI47, ((hF40.up (by decide)).tr (hF48.up (by decide)))⟩
    · refine xg_t (xg_ifF (u := (if 0 ≤ wh ∧ wh ≤ 5 then 1 else 0)) rfl xnm0 (xj_neF (xite0 hc44))) ?_
      refine xg_t (xg_blq rfl) ?_
      refine xg_t (xg_const) ?_
      exact xg_e ⟨4294967295, w37, ⟨rfl, rfl⟩, Or.inr (Or.inr (Or.inr ⟨by omega, rfl⟩)), hI39, (hF40.up (by decide))⟩
end XBN
end
section
/-! layers told alike: the bend's numbers -/
theorem al.beq {w : List (List xE)} (h : al w 1 0) : bEq (fun j => rwv w 83 (20 + j)) (fun q => q) (rwv w 5) (fun q => q) (fld w 4 3) := ⟨fun j hj => h.2.2.1.2.1.get (show j < fld w 4 3 * 4 by omega), fun _ hq => ⟨rfl, hq⟩⟩
theorem al.s0 {w : List (List xE)} (h : al w 1 0) : fld w 4 3 = rwv w 83 0 := h.2.2.1.2.1.sz
theorem al.ht {w : List (List xE)} (h : al w 1 0) (hM : xMnv w) : ∀ k i, k < fld w 4 3 → i < 3 → 1 ≤ rwv w 5 (4 * k + i) ∧ rwv w 5 (4 * k + i) ≤ 99 := fun k i hk hi => by
  have e : rwv w 5 (4 * k + i) = rwv w 83 (20 + (4 * k + i)) := h.2.2.1.2.1.get (show 4 * k + i < fld w 4 3 * 4 by omega)
  have s := h.s0
  rw [e]
  exact xMnv.lay hM (by omega) hi
end
