/-! the model: lines of films -/
def DATA (w : List (List xE)) : Prop := rwv w 85 0 ≤ 6 ∧ rwv w 85 1 ≤ 4 ∧ rwv w 85 2 ≤ 6 ∧ rwv w 85 3 ≤ 4 ∧ rwv w 85 4 ≤ 20 ∧ (1 ≤ rwv w 86 5 ∧ rwv w 86 5 ≤ 6) ∧ (1 ≤ rwv w 86 6 ∧ rwv w 86 6 ≤ 6) ∧ (1 ≤ rwv w 86 7 ∧ rwv w 86 7 ≤ 10) ∧ (1 ≤ rwv w 86 8 ∧ rwv w 86 8 ≤ 10) ∧ (∀ k i, k < rwv w 85 0 → i < 3 → 1 ≤ rwv w 86 (20 + 4 * k + i) ∧ rwv w 86 (20 + 4 * k + i) ≤ 99) ∧ ∀ k, k < rwv w 85 1 → 1 ≤ rwv w 86 (51 + 2 * k) ∧ rwv w 86 (51 + 2 * k) ≤ 999
theorem DATA.s0 {w w' : List (List xE)} {K : Nat} (h : DATA w) (hm : ∀ s, s < 7 → s ≠ 0 → rwv w' 85 s = rwv w 85 s) (hK : rwv w 85 0 = K) (hK' : rwv w' 85 0 = K + 1) (hl : K < 6) (hos : ∀ j, (j < 20 + 4 * K ∨ 24 + 4 * K ≤ j) → j < 140 → rwv w' 86 j = rwv w 86 j) (hn : 1 ≤ rwv w' 86 (20 + 4 * K + 0) ∧ rwv w' 86 (20 + 4 * K + 0) ≤ 99 ∧ 1 ≤ rwv w' 86 (20 + 4 * K + 1) ∧ rwv w' 86 (20 + 4 * K + 1) ≤ 99 ∧ 1 ≤ rwv w' 86 (20 + 4 * K + 2) ∧ rwv w' 86 (20 + 4 * K + 2) ≤ 99) : DATA w' := by
  obtain ⟨m0, m1, m2, m3, m4, r5, r6, r7, r8, d0, d1⟩ := h
  have e1 := hm 1 (by decide) (by decide)
  have e2 := hm 2 (by decide) (by decide)
  have e3 := hm 3 (by decide) (by decide)
  have e4 := hm 4 (by decide) (by decide)
  have f5 := hos 5 (by omega) (by decide)
  have f6 := hos 6 (by omega) (by decide)
  have f7 := hos 7 (by omega) (by decide)
  have f8 := hos 8 (by omega) (by decide)
  refine ⟨by omega, by omega, by omega, by omega, by omega, by omega, by omega, by omega, by omega, fun k i hk hi => ?_, fun k hk => ?_⟩
  · by_cases z : k = K
    · subst z
      rcases (show i = 0 ∨ i = 1 ∨ i = 2 by omega) with rfl | rfl | rfl <;> omega
    · rw [hos _ (by omega) (by omega)]
      exact d0 k i (by omega) hi
  · rw [hos _ (by omega) (by omega)]
    exact d1 k (by omega)
theorem DATA.s1 {w w' : List (List xE)} {K : Nat} (h : DATA w) (hm : ∀ s, s < 7 → s ≠ 1 → rwv w' 85 s = rwv w 85 s) (hK : rwv w 85 1 = K) (hK' : rwv w' 85 1 = K + 1) (hl : K < 4) (hos : ∀ j, (j < 50 + 2 * K ∨ 52 + 2 * K ≤ j) → j < 140 → rwv w' 86 j = rwv w 86 j) (hn : 1 ≤ rwv w' 86 (50 + 2 * K + 1) ∧ rwv w' 86 (50 + 2 * K + 1) ≤ 999) : DATA w' := by
  obtain ⟨m0, m1, m2, m3, m4, r5, r6, r7, r8, d0, d1⟩ := h
  have e0 := hm 0 (by decide) (by decide)
  have e2 := hm 2 (by decide) (by decide)
  have e3 := hm 3 (by decide) (by decide)
  have e4 := hm 4 (by decide) (by decide)
  have f5 := hos 5 (by omega) (by decide)
  have f6 := hos 6 (by omega) (by decide)
  have f7 := hos 7 (by omega) (by decide)
  have f8 := hos 8 (by omega) (by decide)
  refine ⟨by omega, by omega, by omega, by omega, by omega, by omega, by omega, by omega, by omega, fun k i hk hi => ?_, fun k hk => ?_⟩
  · rw [hos _ (by omega) (by omega)]
    exact d0 k i (by omega) hi
  · by_cases z : k = K
    · subst z
      have e : 51 + 2 * k = 50 + 2 * k + 1 := by omega
      rw [e]
      exact hn
    · rw [hos _ (by omega) (by omega)]
      exact d1 k (by omega)
theorem DATA.s2 {w w' : List (List xE)} {K : Nat} (h : DATA w) (hm : ∀ s, s < 7 → s ≠ 2 → rwv w' 85 s = rwv w 85 s) (hK : rwv w 85 2 = K) (hK' : rwv w' 85 2 = K + 1) (hl : K < 6) (hos : ∀ j, (j < 60 + 2 * K ∨ 62 + 2 * K ≤ j) → j < 140 → rwv w' 86 j = rwv w 86 j) (hn : True) : DATA w' := by
  obtain ⟨m0, m1, m2, m3, m4, r5, r6, r7, r8, d0, d1⟩ := h
  have e0 := hm 0 (by decide) (by decide)
  have e1 := hm 1 (by decide) (by decide)
  have e3 := hm 3 (by decide) (by decide)
  have e4 := hm 4 (by decide) (by decide)
  have f5 := hos 5 (by omega) (by decide)
  have f6 := hos 6 (by omega) (by decide)
  have f7 := hos 7 (by omega) (by decide)
  have f8 := hos 8 (by omega) (by decide)
  refine ⟨by omega, by omega, by omega, by omega, by omega, by omega, by omega, by omega, by omega, fun k i hk hi => ?_, fun k hk => ?_⟩
  · rw [hos _ (by omega) (by omega)]
    exact d0 k i (by omega) hi
  · rw [hos _ (by omega) (by omega)]
    exact d1 k (by omega)
theorem DATA.s3 {w w' : List (List xE)} {K : Nat} (h : DATA w) (hm : ∀ s, s < 7 → s ≠ 3 → rwv w' 85 s = rwv w 85 s) (hK : rwv w 85 3 = K) (hK' : rwv w' 85 3 = K + 1) (hl : K < 4) (hos : ∀ j, (j < 80 + 3 * K ∨ 83 + 3 * K ≤ j) → j < 140 → rwv w' 86 j = rwv w 86 j) (hn : True) : DATA w' := by
  obtain ⟨m0, m1, m2, m3, m4, r5, r6, r7, r8, d0, d1⟩ := h
  have e0 := hm 0 (by decide) (by decide)
  have e1 := hm 1 (by decide) (by decide)
  have e2 := hm 2 (by decide) (by decide)
  have e4 := hm 4 (by decide) (by decide)
  have f5 := hos 5 (by omega) (by decide)
  have f6 := hos 6 (by omega) (by decide)
  have f7 := hos 7 (by omega) (by decide)
  have f8 := hos 8 (by omega) (by decide)
  refine ⟨by omega, by omega, by omega, by omega, by omega, by omega, by omega, by omega, by omega, fun k i hk hi => ?_, fun k hk => ?_⟩
  · rw [hos _ (by omega) (by omega)]
    exact d0 k i (by omega) hi
  · rw [hos _ (by omega) (by omega)]
    exact d1 k (by omega)
theorem DATA.s4 {w w' : List (List xE)} {K : Nat} (h : DATA w) (hm : ∀ s, s < 7 → s ≠ 4 → rwv w' 85 s = rwv w 85 s) (hK : rwv w 85 4 = K) (hK' : rwv w' 85 4 = K + 1) (hl : K < 20) (hos : ∀ j, (j < 100 + 2 * K ∨ 102 + 2 * K ≤ j) → j < 140 → rwv w' 86 j = rwv w 86 j) (hn : True) : DATA w' := by
  obtain ⟨m0, m1, m2, m3, m4, r5, r6, r7, r8, d0, d1⟩ := h
  have e0 := hm 0 (by decide) (by decide)
  have e1 := hm 1 (by decide) (by decide)
  have e2 := hm 2 (by decide) (by decide)
  have e3 := hm 3 (by decide) (by decide)
  have f5 := hos 5 (by omega) (by decide)
  have f6 := hos 6 (by omega) (by decide)
  have f7 := hos 7 (by omega) (by decide)
  have f8 := hos 8 (by omega) (by decide)
  refine ⟨by omega, by omega, by omega, by omega, by omega, by omega, by omega, by omega, by omega, fun k i hk hi => ?_, fun k hk => ?_⟩
  · rw [hos _ (by omega) (by omega)]
    exact d0 k i (by omega) hi
  · rw [hos _ (by omega) (by omega)]
    exact d1 k (by omega)
theorem DATA.s5 {w w' : List (List xE)} {K : Nat} (h : DATA w) (hm : ∀ s, s < 7 → s ≠ 5 → rwv w' 85 s = rwv w 85 s) (hK : rwv w 85 5 = K) (hK' : rwv w' 85 5 = K + 1) (hl : K < 1) (hos : ∀ j, (j < 7 ∨ 9 ≤ j) → j < 140 → rwv w' 86 j = rwv w 86 j) (hn : 1 ≤ rwv w' 86 7 ∧ rwv w' 86 7 ≤ 10 ∧ 1 ≤ rwv w' 86 8 ∧ rwv w' 86 8 ≤ 10) : DATA w' := by
  obtain ⟨m0, m1, m2, m3, m4, r5, r6, r7, r8, d0, d1⟩ := h
  have e0 := hm 0 (by decide) (by decide)
  have e1 := hm 1 (by decide) (by decide)
  have e2 := hm 2 (by decide) (by decide)
  have e3 := hm 3 (by decide) (by decide)
  have e4 := hm 4 (by decide) (by decide)
  have f5 := hos 5 (by omega) (by decide)
  have f6 := hos 6 (by omega) (by decide)
  refine ⟨by omega, by omega, by omega, by omega, by omega, by omega, by omega, by omega, by omega, fun k i hk hi => ?_, fun k hk => ?_⟩
  · rw [hos _ (by omega) (by omega)]
    exact d0 k i (by omega) hi
  · rw [hos _ (by omega) (by omega)]
    exact d1 k (by omega)
theorem DATA.s6 {w w' : List (List xE)} {K : Nat} (h : DATA w) (hm : ∀ s, s < 7 → s ≠ 6 → rwv w' 85 s = rwv w 85 s) (hK : rwv w 85 6 = K) (hK' : rwv w' 85 6 = K + 1) (hl : K < 1) (hos : ∀ j, (j < 5 ∨ 7 ≤ j) → j < 140 → rwv w' 86 j = rwv w 86 j) (hn : 1 ≤ rwv w' 86 5 ∧ rwv w' 86 5 ≤ 6 ∧ 1 ≤ rwv w' 86 6 ∧ rwv w' 86 6 ≤ 6) : DATA w' := by
  obtain ⟨m0, m1, m2, m3, m4, r5, r6, r7, r8, d0, d1⟩ := h
  have e0 := hm 0 (by decide) (by decide)
  have e1 := hm 1 (by decide) (by decide)
  have e2 := hm 2 (by decide) (by decide)
  have e3 := hm 3 (by decide) (by decide)
  have e4 := hm 4 (by decide) (by decide)
  have f7 := hos 7 (by omega) (by decide)
  have f8 := hos 8 (by omega) (by decide)
  refine ⟨by omega, by omega, by omega, by omega, by omega, by omega, by omega, by omega, by omega, fun k i hk hi => ?_, fun k hk => ?_⟩
  · rw [hos _ (by omega) (by omega)]
    exact d0 k i (by omega) hi
  · rw [hos _ (by omega) (by omega)]
    exact d1 k (by omega)
section XMB
variable {d : Nat} {w : List (List xE)} {bd : List (Nat × Nat)} {fc : List (Nat × Nat × Bool)} {rr : Nat × Nat}
theorem mLifeTold {sa kk : Nat} (hI : xMnv w) (hsa : sa ≤ 4294967295) (hkk : kk ≤ 1001) : xPi d mX12_isLifeTold [(2, 82), (0, sa), (0, kk)] w bd fc rr (fun n w' => (n ≤ 1) ∧ xMnv w' ∧ xFr [] w w') := by
  refine xPi.of ?_
  show xTo d mX12_isLifeTold (0, [], [(0, (2, 82)), (1, (0, sa)), (2, (0, kk))], [], (w, bd, fc, 0, 0, rr)) (fun φ => ∃ n w', xEnd 4 [(0, n)] (w', bd, fc, 0, 0, rr) φ ∧ (n ≤ 1) ∧ xMnv w' ∧ xFr [] w w')
  obtain ⟨f82_1, f82_3, f82_5, f82_7, f82_9, f82_11, f82_13, f82_15, f82_17, f82_19, f82_21, f82_22, f82_23, f82_25, f82_27, f82_29, h82_31, hb2, hb4, hb6, hb8, hb10, hb12, hb14, hb16, hb18, hb20, hb24, hb26, hb28, hb30, hb32⟩ := (hI 82 (by decide) (by decide) : cp82 (wget w 82))
  replace hb4 := xHid.of hb4
  replace hb10 := xHid.of hb10
  replace hb14 := xHid.of hb14
  replace hb16 := xHid.of hb16
  replace hb20 := xHid.of hb20
  replace hb24 := xHid.of hb24
  replace hb26 := xHid.of hb26
  replace hb28 := xHid.of hb28
  replace hb30 := xHid.of hb30
  obtain ⟨g86_33, h86_34, hb35⟩ := (hI 86 (by decide) (by decide) : cpI 140 53 4294967295 (wget w 86))
  have h86_34 : xRow w 86 140 53 g86_33 := h86_34
  refine xg_t (xg_blk (b := [(0, 1, 3, 0, 0, 0), (1, 1, 15, 3, 0, 0), (2, 1, 3, 0, 0, 0), (3, 2, 15, 4, 0, 0)]) rfl) ?_
  refine xg_t (xg_const) ?_
  refine xg_t (xg_istore (l1 := [(0, (2, 82)), (1, (0, sa)), (2, (0, kk))]) rfl rfl rfl) ?_
  refine xg_t (xg_const) ?_
  refine xg_t (xg_istore (l1 := [(3, (0, 0)), (0, (2, 82)), (1, (0, sa)), (2, (0, kk))]) rfl rfl rfl) ?_
  refine xg_t (xg_drop (l1 := [(0, (2, 82)), (1, (0, sa)), (2, (0, kk)), (3, (0, 0)), (4, (0, 0))]) (List.forall_mem_cons.mpr ⟨List.mem_cons_of_mem _ (List.mem_cons_of_mem _ (List.mem_cons_self)), List.forall_mem_cons.mpr ⟨List.mem_cons_of_mem _ (List.mem_cons_of_mem _ (List.mem_cons_of_mem _ (List.mem_cons_self))), List.forall_mem_cons.mpr ⟨List.mem_cons_of_mem _ (List.mem_cons_of_mem _ (List.mem_cons_of_mem _ (List.mem_cons_of_mem _ (List.mem_cons_self)))), List.forall_mem_cons.mpr ⟨List.mem_cons_of_mem _ (List.mem_cons_self), List.forall_mem_cons.mpr ⟨List.mem_cons_self, fun _ h => absurd h List.not_mem_nil⟩⟩⟩⟩⟩)) ?_
  have key36 : ∀ (m38 : Nat) (is_ ji : Nat) (w39 : List (List xE)), 4 - ji < m38 → is_ ≤ 1 → ji ≤ 4 → xMnv w39 → xFr [] w w39 → xTo d mX12_isLifeTold (5, [], [(0, (2, 82)), (1, (0, sa)), (2, (0, kk)), (3, (0, is_)), (4, (0, ji))], [], (w39, bd, fc, 0, 0, rr)) (fun φ => ∃ n w', xEnd 4 [(0, n)] (w', bd, fc, 0, 0, rr) φ ∧ (n ≤ 1) ∧ xMnv w' ∧ xFr [] w w') := by
    intro m38
    induction m38 with
    | zero => intro is_ ji w39 hz; exact absurd hz (Nat.not_lt_zero _)
    | succ m38 ih37 =>
      intro is_ ji w39 hm44 hn42 hn43 hI40 hF41
      refine xg_t (xg_blk (b := [(5, 2, 2, 4, 0, 0), (7, 1, 2, 2, 0, 0), (8, 3, 6, 49, 3, 0), (11, 2, 2, 4, 0, 0), (13, 1, 3, 4, 0, 0), (14, 3, 6, 49, 3, 0), (17, 1, 2, 3, 0, 0), (18, 3, 7, 37, 1, 0), (21, 1, 0, 0, 0, 0), (22, 3, 1, 12, 12, 20), (25, 2, 4, 50, 0, 0), (27, 1, 3, 2, 0, 0), (28, 2, 2, 4, 0, 0), (30, 1, 16, 0, 0, 0), (31, 1, 11, 0, 0, 0), (32, 1, 10, 0, 0, 0), (33, 1, 2, 1, 0, 0), (34, 3, 6, 41, 1, 0)]) rfl) ?_
      refine xg_t (xg_iload (va := (0, ji)) rfl rfl) ?_
      refine xg_t (xg_iload (va := (0, kk)) rfl rfl) ?_
      by_cases hc45 : ji < kk
      · refine xg_t (xg_icF (u := ji) (v := kk) rfl xnm0 xnm0 (xj_geF hc45 (by omega))) ?_
        refine xg_t (xg_iload (va := (0, ji)) rfl rfl) ?_
        refine xg_t (xg_const) ?_
        by_cases hc46 : ji < 4
        · refine xg_t (xg_icF (u := ji) (v := 4) rfl xnm0 xnm0 (xj_geF hc46 (by omega))) ?_
          refine xg_t (xg_iload (va := (0, is_)) rfl rfl) ?_
          by_cases hc47 : is_ = 0
          · refine xg_t (xg_ifF (u := is_) rfl xnm0 (xj_neF hc47)) ?_
            refine xg_t (xg_aload (va := (2, 82)) rfl rfl) ?_
            refine xg_t (xg_getf (va := (2, 86)) (hF41.get (by decide) h82_31) rfl) ?_
            refine xg_t (xg_bip) ?_
            refine xg_t (xg_const) ?_
            refine xg_t (xg_iload (va := (0, ji)) rfl rfl) ?_
            refine xg_t (xg_imul (u := 2) (v := ji) (z := 2 * ji) xnm0 xnm0 (by omega)) ?_
            refine xg_t (xg_iadd (u := 50) (v := 2 * ji) (z := 50 + (2 * ji)) xnm0 xnm0 (by omega)) ?_
            refine xg_ialdB (n := 50 + (2 * ji)) (B := 4294967295) (h86_34.fr hF41 (by decide)) (hb35) xnm0 (by omega) (fun u48 hu49 he50 => ?_)
            refine xg_t (xg_iload (va := (0, sa)) rfl rfl) ?_
            by_cases hc51 : u48 = sa
            · refine xg_t (xg_icF (u := u48) (v := sa) rfl xnm0 xnm0 (xj_neF hc51)) ?_
              refine xg_t (xg_blk (b := [(37, 1, 3, 1, 0, 0), (38, 3, 8, 42, 0, 0)]) rfl) ?_
              refine xg_t (xg_const) ?_
              refine xg_t (xg_goto) ?_
              refine xg_t (xg_blk (b := [(42, 1, 15, 3, 0, 0), (43, 3, 9, 4, 1, 0), (46, 3, 8, 5, 0, 0)]) rfl) ?_
              refine xg_t (xg_istore (l1 := [(0, (2, 82)), (1, (0, sa)), (2, (0, kk)), (4, (0, ji))]) rfl rfl rfl) ?_
              refine xg_t (xg_iinc (u := ji) (z := ji + 1) (l1 := [(3, (0, 1)), (0, (2, 82)), (1, (0, sa)), (2, (0, kk))]) rfl rfl (by omega) rfl) ?_
              refine xg_t (xg_goto) ?_
              refine xg_t (xg_drop (l1 := [(0, (2, 82)), (1, (0, sa)), (2, (0, kk)), (3, (0, 1)), (4, (0, ji + 1))]) (List.forall_mem_cons.mpr ⟨List.mem_cons_of_mem _ (List.mem_cons_of_mem _ (List.mem_cons_self)), List.forall_mem_cons.mpr ⟨List.mem_cons_of_mem _ (List.mem_cons_of_mem _ (List.mem_cons_of_mem _ (List.mem_cons_self))), List.forall_mem_cons.mpr ⟨List.mem_cons_of_mem _ (List.mem_cons_of_mem _ (List.mem_cons_of_mem _ (List.mem_cons_of_mem _ (List.mem_cons_self)))), List.forall_mem_cons.mpr ⟨List.mem_cons_of_mem _ (List.mem_cons_self), List.forall_mem_cons.mpr ⟨List.mem_cons_self, fun _ h => absurd h List.not_mem_nil⟩⟩⟩⟩⟩)) ?_
              exact ih37 1 (ji + 1) w39 (by omega) (by omega) (by omega) (hI40) (hF41)
            · refine xg_t (xg_icT (u := u48) (v := sa) rfl xnm0 xnm0 (xj_neT hc51)) ?_
              refine xg_t (xg_blk (b := [(41, 1, 3, 0, 0, 0)]) rfl) ?_
              refine xg_t (xg_const) ?_
              refine xg_t (xg_blk (b := [(42, 1, 15, 3, 0, 0), (43, 3, 9, 4, 1, 0), (46, 3, 8, 5, 0, 0)]) rfl) ?_
              refine xg_t (xg_istore (l1 := [(0, (2, 82)), (1, (0, sa)), (2, (0, kk)), (4, (0, ji))]) rfl rfl rfl) ?_
              refine xg_t (xg_iinc (u := ji) (z := ji + 1) (l1 := [(3, (0, 0)), (0, (2, 82)), (1, (0, sa)), (2, (0, kk))]) rfl rfl (by omega) rfl) ?_
              refine xg_t (xg_goto) ?_
              refine xg_t (xg_drop (l1 := [(0, (2, 82)), (1, (0, sa)), (2, (0, kk)), (3, (0, 0)), (4, (0, ji + 1))]) (List.forall_mem_cons.mpr ⟨List.mem_cons_of_mem _ (List.mem_cons_of_mem _ (List.mem_cons_self)), List.forall_mem_cons.mpr ⟨List.mem_cons_of_mem _ (List.mem_cons_of_mem _ (List.mem_cons_of_mem _ (List.mem_cons_self))), List.forall_mem_cons.mpr ⟨List.mem_cons_of_mem _ (List.mem_cons_of_mem _ (List.mem_cons_of_mem _ (List.mem_cons_of_mem _ (List.mem_cons_self)))), List.forall_mem_cons.mpr ⟨List.mem_cons_of_mem _ (List.mem_cons_self), List.forall_mem_cons.mpr ⟨List.mem_cons_self, fun _ h => absurd h List.not_mem_nil⟩⟩⟩⟩⟩)) ?_
              exact ih37 0 (ji + 1) w39 (by omega) (by omega) (by omega) (hI40) (hF41)
          · refine xg_t (xg_ifT (u := is_) rfl xnm0 (xj_neT hc47)) ?_
            refine xg_t (xg_blk (b := [(37, 1, 3, 1, 0, 0), (38, 3, 8, 42, 0, 0)]) rfl) ?_
            refine xg_t (xg_const) ?_
            refine xg_t (xg_goto) ?_
            refine xg_t (xg_blk (b := [(42, 1, 15, 3, 0, 0), (43, 3, 9, 4, 1, 0), (46, 3, 8, 5, 0, 0)]) rfl) ?_
            refine xg_t (xg_istore (l1 := [(0, (2, 82)), (1, (0, sa)), (2, (0, kk)), (4, (0, ji))]) rfl rfl rfl) ?_
            refine xg_t (xg_iinc (u := ji) (z := ji + 1) (l1 := [(3, (0, 1)), (0, (2, 82)), (1, (0, sa)), (2, (0, kk))]) rfl rfl (by omega) rfl) ?_
            refine xg_t (xg_goto) ?_
            refine xg_t (xg_drop (l1 := [(0, (2, 82)), (1, (0, sa)), (2, (0, kk)), (3, (0, 1)), (4, (0, ji + 1))]) (List.forall_mem_cons.mpr ⟨List.mem_cons_of_mem _ (List.mem_cons_of_mem _ (List.mem_cons_self)), List.forall_mem_cons.mpr ⟨List.mem_cons_of_mem _ (List.mem_cons_of_mem _ (List.mem_cons_of_mem _ (List.mem_cons_self))), List.forall_mem_cons.mpr ⟨List.mem_cons_of_mem _ (List.mem_cons_of_mem _ (List.mem_cons_of_mem _ (List.mem_cons_of_mem _ (List.mem_cons_self)))), List.forall_mem_cons.mpr ⟨List.mem_cons_of_mem _ (List.mem_cons_self), List.forall_mem_cons.mpr ⟨List.mem_cons_self, fun _ h => absurd h List.not_mem_nil⟩⟩⟩⟩⟩)) ?_
            exact ih37 1 (ji + 1) w39 (by omega) (by omega) (by omega) (hI40) (hF41)
        · refine xg_t (xg_icT (u := ji) (v := 4) rfl xnm0 xnm0 (xj_geT (by omega) (by omega))) ?_
          refine xg_t (xg_blk (b := [(49, 1, 2, 3, 0, 0), (50, 1, 12, 0, 1, 0)]) rfl) ?_
          refine xg_t (xg_iload (va := (0, is_)) rfl rfl) ?_
          exact xg_e ⟨is_, w39, ⟨xret_b (by omega), rfl⟩, by omega, hI40, hF41⟩
      · refine xg_t (xg_icT (u := ji) (v := kk) rfl xnm0 xnm0 (xj_geT (by omega) (by omega))) ?_
        refine xg_t (xg_blk (b := [(49, 1, 2, 3, 0, 0), (50, 1, 12, 0, 1, 0)]) rfl) ?_
        refine xg_t (xg_iload (va := (0, is_)) rfl rfl) ?_
        exact xg_e ⟨is_, w39, ⟨xret_b (by omega), rfl⟩, by omega, hI40, hF41⟩
  exact key36 _ 0 0 w (Nat.lt_succ_self _) (by omega) (by omega) (hI) (xFr.rf)
set_option maxHeartbeats 60000000 in
theorem mALineS0 {at_ : Nat} (hI : xMnv w) (hps : PS w) (hmb : ∀ s, s < 7 → rwv w 85 s ≤ 1000) (hln : fld w 82 14 ≤ 1000) (h7 : fld w 82 7 = 3) (hat : at_ ≤ 4294967295) : xTo (d + 7) mX12_aLine (43, [], [(2, (0, at_)), (1, (0, 0)), (0, (2, 82))], [], (w, bd, fc, 0, 0, rr)) (fun φ => ∃ w', xEnd 0 [] (w', bd, fc, 0, 0, rr) φ ∧ xMnv w' ∧ xFr [82, 83, 85, 86, 87] w w' ∧ ((FA w ≠ 0 → FA w' ≠ 0) ∧ PS w' ∧ ((fld w' 82 10 = 1 ∧ mu w' = mu w ∧ fld w' 82 14 = fld w 82 14 ∧ ∀ s, s < 7 → rwv w' 85 s = rwv w 85 s) ∨ (mu w' < mu w ∧ fld w' 82 14 = fld w 82 14 + 1 ∧ ∀ s, s < 7 → rwv w' 85 s ≤ rwv w 85 s + 1)) ∧ (FA w' ≠ 0 ∨ (DATA w → DATA w')) ∧ K83 w w')) := by
  obtain ⟨f82_1, f82_3, f82_5, f82_7, f82_9, f82_11, f82_13, f82_15, f82_17, f82_19, f82_21, f82_22, f82_23, f82_25, f82_27, f82_29, h82_31, hb2, hb4, hb6, hb8, hb10, hb12, hb14, hb16, hb18, hb20, hb24, hb26, hb28, hb30, hb32⟩ := (hI 82 (by decide) (by decide) : cp82 (wget w 82))
  replace hb4 := xHid.of hb4
  replace hb10 := xHid.of hb10
  replace hb14 := xHid.of hb14
  replace hb16 := xHid.of hb16
  replace hb20 := xHid.of hb20
  replace hb24 := xHid.of hb24
  replace hb26 := xHid.of hb26
  replace hb28 := xHid.of hb28
  replace hb30 := xHid.of hb30
  have hf33 : fld w 82 7 = f82_11 := fld_of h82_31
  have hf34 : fld w 82 10 = f82_17 := fld_of h82_31
  have hf35 : fld w 82 14 = f82_19 := fld_of h82_31
  have hps_ : fld w 82 10 = 0 ∨ FA w ≠ 0 := hps
  obtain ⟨g85_36, h85_37, hb38⟩ := (hI 85 (by decide) (by decide) : cpI 7 52 4294967295 (wget w 85))
  have h85_37 : xRow w 85 7 52 g85_36 := h85_37
  obtain ⟨g86_39, h86_40, hb41⟩ := (hI 86 (by decide) (by decide) : cpI 140 53 4294967295 (wget w 86))
  have h86_40 : xRow w 86 140 53 g86_39 := h86_40
  obtain ⟨g87_42, h87_43, hb44⟩ := (hI 87 (by decide) (by decide) : cpI 20 54 4294967295 (wget w 87))
  have h87_43 : xRow w 87 20 54 g87_42 := h87_43
  refine xg_t (xg_blk (b := [(43, 1, 0, 0, 0, 0), (44, 3, 1, 12, 11, 17), (47, 1, 2, 1, 0, 0), (48, 1, 10, 0, 0, 0), (49, 1, 15, 3, 0, 0), (50, 1, 2, 3, 0, 0), (51, 1, 2, 1, 0, 0), (52, 3, 13, 194, 98, 193), (55, 3, 6, 64, 2, 0), (58, 1, 0, 0, 0, 0), (59, 1, 3, 3, 0, 0), (60, 1, 2, 2, 0, 0), (61, 3, 13, 115, 96, 186)]) rfl) ?_
  refine xg_t (xg_aload (va := (2, 82)) rfl rfl) ?_
  refine xg_t (xg_getf (va := (2, 85)) h82_31 rfl) ?_
  refine xg_t (xg_iload (va := (0, 0)) rfl rfl) ?_
  refine xg_ialdB (n := 0) (B := 4294967295) h85_37 (hb38) xnm0 (by omega) (fun u45 hu46 he47 => ?_)
  have hK48 : rwv w 85 0 = u45 := (rwv_of h85_37 (by decide)).trans he47
  have hm49 := hmb 0 (by decide)
  have hl50 : u45 ≤ 1000 := by omega
  refine xg_t (xg_istore (l1 := [(2, (0, at_)), (1, (0, 0)), (0, (2, 82))]) rfl rfl rfl) ?_
  refine xg_t (xg_iload (va := (0, u45)) rfl rfl) ?_
  refine xg_t (xg_iload (va := (0, 0)) rfl rfl) ?_
  refine xg_t (xg_cSr mX12_mostOf (vs := [(0, 0)]) (rest := [(0, u45)]) (rs := [(0, 6), (0, u45)]) (cn1 := 0) (sl1 := 0) rfl (mMostR0) rfl rfl rfl rfl rfl rfl rfl rfl) ?_
  by_cases hc51 : u45 < 6
  · refine xg_t (xg_icT (u := u45) (v := 6) rfl xnm0 xnm0 (xj_ltT hc51 (by omega))) ?_
    refine xg_t (xg_blk (b := [(64, 1, 0, 0, 0, 0), (65, 3, 13, 110, 96, 190), (68, 1, 2, 1, 0, 0), (69, 39, 33, 362, 0, 9)]) rfl) ?_
    refine xg_t (xg_aload (va := (2, 82)) rfl rfl) ?_
    refine xg_cVv mX12_advance (vs := []) (rest := []) (cn1 := 0) (sl1 := 0) rfl (mAdvance (hI)) rfl h82_31 rfl rfl rfl rfl rfl rfl (fun w52 hq53 => ?_)
    obtain ⟨hI54, hF55, hx56⟩ := hq53
    clear hb2 hb4 hb6 hb8 hb10 hb12 hb14 hb16 hb18 hb20 hb24 hb26 hb28 hb30
    obtain ⟨hv57, hv58, hv59, hv60⟩ := hx56
    have hf62 := FA_fr hF55 (by decide)
    have hs63 := (PK.rf hps).2.2.2.1
    unfold PS at hs63
    have pk61 : PK w w52 := ⟨fun _ => by omega, hv57, hv60, (show fld w52 82 10 = 0 ∨ FA w52 ≠ 0 by omega), K83.fr hF55 (by decide)⟩
    clear hs63
    have pk64 : PK w w52 := PK.tr (PK.rf hps) pk61
    have os65 : ∀ j, (j < 20 + 4 * u45 ∨ 24 + 4 * u45 ≤ j) → j < 140 → rwv w52 86 j = rwv w 86 j := fun j hj hl => (rwv_fr hF55 (by decide)).trans ((fun j _ _ => rfl) j hj hl)
    have mf66 : ∀ s, s < 7 → rwv w52 85 s = rwv w 85 s := fun s hs => (rwv_fr hF55 (by decide)).trans ((fun _ _ => rfl) s hs)
    have ms67 : mu w52 < mu w := Nat.lt_of_lt_of_le (hv58 (by omega)) (PK.rf hps).2.1
    clear hv58
    have jn68 : ∀ (w69 : List (List xE)), xMnv w69 → xFr [82, 83, 85, 86, 87] w w69 → (PK w w69 ∧ (∀ j, (j < 20 + 4 * u45 ∨ 24 + 4 * u45 ≤ j) → j < 140 → rwv w69 86 j = rwv w 86 j) ∧ mu w69 < mu w ∧ (∀ s, s < 7 → rwv w69 85 s = rwv w 85 s) ∧ (FA w69 ≠ 0 ∨ u45 < 6) ∧ (FA w69 ≠ 0 ∨ 6 ≤ u45 ∨ (1 ≤ rwv w69 86 (20 + 4 * u45 + 0) ∧ rwv w69 86 (20 + 4 * u45 + 0) ≤ 99 ∧ 1 ≤ rwv w69 86 (20 + 4 * u45 + 1) ∧ rwv w69 86 (20 + 4 * u45 + 1) ≤ 99 ∧ 1 ≤ rwv w69 86 (20 + 4 * u45 + 2) ∧ rwv w69 86 (20 + 4 * u45 + 2) ≤ 99))) → xTo (d + 7) mX12_aLine (394, [], [(0, (2, 82)), (1, (0, 0)), (3, (0, u45))], [], (w69, bd, fc, 0, 0, rr)) (fun φ => ∃ w', xEnd 0 [] (w', bd, fc, 0, 0, rr) φ ∧ xMnv w' ∧ xFr [82, 83, 85, 86, 87] w w' ∧ ((FA w ≠ 0 → FA w' ≠ 0) ∧ PS w' ∧ ((fld w' 82 10 = 1 ∧ mu w' = mu w ∧ fld w' 82 14 = fld w 82 14 ∧ ∀ s, s < 7 → rwv w' 85 s = rwv w 85 s) ∨ (mu w' < mu w ∧ fld w' 82 14 = fld w 82 14 + 1 ∧ ∀ s, s < 7 → rwv w' 85 s ≤ rwv w 85 s + 1)) ∧ (FA w' ≠ 0 ∨ (DATA w → DATA w')) ∧ K83 w w')) := by
      intro w69 hI70 hF71 he72
      obtain ⟨hj73, hj74, hj75, hj76, hj77, hj78⟩ := he72
      refine xg_t (xg_blk (b := [(394, 1, 0, 0, 0, 0), (395, 3, 1, 12, 10, 180), (398, 3, 7, 416, 1, 0), (401, 1, 0, 0, 0, 0), (402, 3, 1, 12, 7, 151), (405, 1, 3, 2, 0, 0), (406, 3, 6, 416, 1, 0), (409, 1, 0, 0, 0, 0), (410, 3, 13, 110, 96, 190), (413, 3, 8, 420, 0, 0)]) rfl) ?_
      refine xg_t (xg_aload (va := (2, 82)) rfl rfl) ?_
      obtain ⟨f82_79, f82_81, f82_83, f82_85, f82_87, f82_89, f82_91, f82_93, f82_95, f82_97, f82_99, f82_100, f82_101, f82_103, f82_105, f82_107, h82_109, hb80, hb82, hb84, hb86, hb88, hb90, hb92, hb94, hb96, hb98, hb102, hb104, hb106, hb108, hb110⟩ := (hI70 82 (by decide) (by decide) : cp82 (wget w69 82))
      replace hb82 := xHid.of hb82
      replace hb88 := xHid.of hb88
      replace hb92 := xHid.of hb92
      replace hb94 := xHid.of hb94
      replace hb98 := xHid.of hb98
      replace hb102 := xHid.of hb102
      replace hb104 := xHid.of hb104
      replace hb106 := xHid.of hb106
      replace hb108 := xHid.of hb108
      refine xg_t (xg_getf (va := (0, f82_95)) h82_109 rfl) ?_
      by_cases hc111 : f82_95 = 0
      · refine xg_t (xg_ifF (u := f82_95) rfl xnm0 (xj_neF hc111)) ?_
        refine xg_t (xg_aload (va := (2, 82)) rfl rfl) ?_
        refine xg_t (xg_getf (va := (0, f82_89)) h82_109 rfl) ?_
        refine xg_t (xg_const) ?_
        by_cases hc112 : f82_89 = 2
        · refine xg_t (xg_icF (u := f82_89) (v := 2) rfl xnm0 xnm0 (xj_neF hc112)) ?_
          refine xg_t (xg_aload (va := (2, 82)) rfl rfl) ?_
          refine xg_cVv mX12_advance (vs := []) (rest := []) (cn1 := 0) (sl1 := 0) rfl (mAdvance (hI70)) rfl h82_109 rfl rfl rfl rfl rfl rfl (fun w113 hq114 => ?_)
          obtain ⟨hI115, hF116, hx117⟩ := hq114
          clear hb80 hb82 hb84 hb86 hb88 hb90 hb92 hb94 hb96 hb98 hb102 hb104 hb106 hb108
          obtain ⟨hv118, hv119, hv120, hv121⟩ := hx117
          have hf123 := FA_fr hF116 (by decide)
          have hs124 := hj73.2.2.2.1
          unfold PS at hs124
          have pk122 : PK w69 w113 := ⟨fun _ => by omega, hv118, hv121, (show fld w113 82 10 = 0 ∨ FA w113 ≠ 0 by omega), K83.fr hF116 (by decide)⟩
          clear hs124
          clear hv119
          have pk125 : PK w w113 := PK.tr hj73 pk122
          have os126 : ∀ j, (j < 20 + 4 * u45 ∨ 24 + 4 * u45 ≤ j) → j < 140 → rwv w113 86 j = rwv w 86 j := fun j hj hl => (rwv_fr hF116 (by decide)).trans (hj74 j hj hl)
          have rg127 : FA w113 ≠ 0 ∨ u45 < 6 := hj77.imp_left pk122.1
          have mf128 : ∀ s, s < 7 → rwv w113 85 s = rwv w 85 s := fun s hs => (rwv_fr hF116 (by decide)).trans (hj76 s hs)
          have hl129 : rwv w113 86 (20 + 4 * u45 + 0) = rwv w69 86 (20 + 4 * u45 + 0) := rwv_fr hF116 (by decide)
          have hl130 : rwv w113 86 (20 + 4 * u45 + 1) = rwv w69 86 (20 + 4 * u45 + 1) := rwv_fr hF116 (by decide)
          have hl131 : rwv w113 86 (20 + 4 * u45 + 2) = rwv w69 86 (20 + 4 * u45 + 2) := rwv_fr hF116 (by decide)
          have nw132 : FA w113 ≠ 0 ∨ 6 ≤ u45 ∨ (1 ≤ rwv w113 86 (20 + 4 * u45 + 0) ∧ rwv w113 86 (20 + 4 * u45 + 0) ≤ 99 ∧ 1 ≤ rwv w113 86 (20 + 4 * u45 + 1) ∧ rwv w113 86 (20 + 4 * u45 + 1) ≤ 99 ∧ 1 ≤ rwv w113 86 (20 + 4 * u45 + 2) ∧ rwv w113 86 (20 + 4 * u45 + 2) ≤ 99) := by have q := hj78; have q1 := pk122.1; omega
          clear hj78
          have ms133 : mu w113 < mu w := Nat.lt_of_le_of_lt pk122.2.1 hj75
          clear hj77
          refine xg_t (xg_goto) ?_
          refine xg_t (xg_blk (b := [(420, 1, 0, 0, 0, 0), (421, 3, 1, 12, 11, 17), (424, 1, 2, 1, 0, 0), (425, 1, 39, 0, 0, 0), (426, 1, 10, 0, 0, 0), (427, 1, 3, 1, 0, 0), (428, 1, 11, 0, 0, 0), (429, 1, 17, 0, 0, 0), (430, 1, 0, 0, 0, 0), (431, 1, 19, 0, 0, 0), (432, 3, 1, 12, 14, 212), (435, 1, 3, 1, 0, 0), (436, 1, 11, 0, 0, 0), (437, 3, 14, 12, 14, 212), (440, 1, 12, 0, 0, 0)]) rfl) ?_
          obtain ⟨f82_134, f82_136, f82_138, f82_140, f82_142, f82_144, f82_146, f82_148, f82_150, f82_152, f82_154, f82_155, f82_156, f82_158, f82_160, f82_162, h82_164, hb135, hb137, hb139, hb141, hb143, hb145, hb147, hb149, hb151, hb153, hb157, hb159, hb161, hb163, hb165⟩ := (hI115 82 (by decide) (by decide) : cp82 (wget w113 82))
          replace hb137 := xHid.of hb137
          replace hb143 := xHid.of hb143
          replace hb147 := xHid.of hb147
          replace hb149 := xHid.of hb149
          replace hb153 := xHid.of hb153
          replace hb157 := xHid.of hb157
          replace hb159 := xHid.of hb159
          replace hb161 := xHid.of hb161
          replace hb163 := xHid.of hb163
          have hf166 : fld w113 82 4 = f82_138 := fld_of h82_164
          have hf167 : fld w113 82 5 = f82_140 := fld_of h82_164
          have hf168 : fld w113 82 7 = f82_144 := fld_of h82_164
          have hf169 : fld w113 82 10 = f82_150 := fld_of h82_164
          have hf170 : fld w113 82 14 = f82_152 := fld_of h82_164
          have hu171 : mu w113 = 2 * (fld w113 82 4 - fld w113 82 5) + min 1 (fld w113 82 7) := rfl
          have hf172 := pk125.2.2.1
          have hl173 : f82_152 ≤ 1000 := by omega
          refine xg_t (xg_aload (va := (2, 82)) rfl rfl) ?_
          refine xg_t (xg_getf (va := (2, 85)) h82_164 rfl) ?_
          refine xg_t (xg_iload (va := (0, 0)) rfl rfl) ?_
          refine xg_t (xg_dup2 rfl) ?_
          obtain ⟨g85_174, h85_175, hb176⟩ := (hI115 85 (by decide) (by decide) : cpI 7 52 4294967295 (wget w113 85))
          have h85_175 : xRow w113 85 7 52 g85_174 := h85_175
          refine xg_ialdB (n := 0) (B := 4294967295) h85_175 (hb176) xnm0 (by omega) (fun u177 hu178 he179 => ?_)
          have hl180 : u177 = u45 := by have q1 := rwv_of h85_175 (show 0 < 7 by decide); have q2 := mf128 0 (by decide); omega
          refine xg_t (xg_const) ?_
          refine xg_t (xg_iadd (u := u177) (v := 1) (z := u177 + 1) xnm0 xnm0 (by omega)) ?_
          refine xg_iastK (n := 0) (u := u177 + 1) h85_175 xnm0 xnm0 rfl (by omega) (fun w181 hr182 hb183 => ?_)
          refine xg_t (xg_aload (va := (2, 82)) rfl rfl) ?_
          refine xg_t (xg_dup rfl) ?_
          refine xg_t (xg_getf (va := (0, f82_152)) (hb183.get (by decide) h82_164) rfl) ?_
          have hn184 := id hb153
          unfold xHid at hn184
          refine xg_t (xg_const) ?_
          refine xg_t (xg_iadd (u := f82_152) (v := 1) (z := f82_152 + 1) xnm0 xnm0 (by omega)) ?_
          refine xg_putI (fl1 := [(2, 83), (2, 84), (0, f82_134), (0, f82_136), (0, f82_138), (0, f82_140), (0, f82_142), (0, f82_144), (0, f82_146), (0, f82_148), (0, f82_150), (2, 85), (2, 86), (2, 87), (0, f82_152 + 1), (2, 88), (2, 89), (2, 90), (2, 91), (2, 92), (2, 93), (2, 94), (4, f82_154), (4, f82_155), (0, f82_156), (2, 95), (2, 96), (2, 97), (2, 98), (2, 99), (2, 100), (2, 101), (2, 102), (0, f82_158), (2, 103), (2, 104), (2, 105), (2, 106), (2, 107), (2, 108), (2, 109), (0, f82_160), (0, f82_162), (2, 110), (2, 111), (2, 112), (2, 113)]) (hb183.get (by decide) h82_164) rfl rfl rfl (fun w185 hk186 hb187 => ?_)
          have hF188 : xFr [82, 85] w113 w185 := ((xFr.of (S := [82, 85]) hb183 (by decide)).tr (xFr.of (S := [82, 85]) hb187 (by decide)))
          have hA189 := FA_fr hF188 (by decide)
          have hf190 : fld w185 82 4 = f82_138 := fld_of hk186
          have hf191 : fld w185 82 5 = f82_140 := fld_of hk186
          have hf192 : fld w185 82 7 = f82_144 := fld_of hk186
          have hf193 : fld w185 82 10 = f82_150 := fld_of hk186
          have hf194 : fld w185 82 14 = f82_152 + 1 := fld_of hk186
          have hu195 : mu w185 = 2 * (fld w185 82 4 - fld w185 82 5) + min 1 (fld w185 82 7) := rfl
          have pq196 := pk125
          unfold PK PS at pq196
          have hM197 : ∀ s, s < 7 → s ≠ 0 → rwv w185 85 s = rwv w 85 s := fun s hs hn => (rwv_of (hr182.but hb187 (by decide)) hs).trans ((if_neg hn).trans ((rwv_of h85_175 hs).symm.trans (mf128 s hs)))
          have hM198 : rwv w185 85 0 = u45 + 1 := (rwv_of (hr182.but hb187 (by decide)) (by decide)).trans ((if_pos rfl).trans (by omega))
          have hM199 : ∀ s, s < 7 → rwv w185 85 s ≤ rwv w 85 s + 1 := fun s hs => by
            by_cases z : s = 0
            · subst z; omega
            · rw [hM197 s hs z]; omega
          have hO200 : ∀ j, (j < 20 + 4 * u45 ∨ 24 + 4 * u45 ≤ j) → j < 140 → rwv w185 86 j = rwv w 86 j := fun j hj hl => (rwv_fr hF188 (by decide)).trans (os126 j hj hl)
          have hl202 : FA w113 ≠ 0 ∨ u45 < 6 := rg127
          have hl203 : rwv w185 86 (20 + 4 * u45 + 0) = rwv w113 86 (20 + 4 * u45 + 0) := rwv_fr hF188 (by decide)
          have hl204 : rwv w185 86 (20 + 4 * u45 + 1) = rwv w113 86 (20 + 4 * u45 + 1) := rwv_fr hF188 (by decide)
          have hl205 : rwv w185 86 (20 + 4 * u45 + 2) = rwv w113 86 (20 + 4 * u45 + 2) := rwv_fr hF188 (by decide)
          have hN201 : FA w185 ≠ 0 ∨ 6 ≤ u45 ∨ (1 ≤ rwv w185 86 (20 + 4 * u45 + 0) ∧ rwv w185 86 (20 + 4 * u45 + 0) ≤ 99 ∧ 1 ≤ rwv w185 86 (20 + 4 * u45 + 1) ∧ rwv w185 86 (20 + 4 * u45 + 1) ≤ 99 ∧ 1 ≤ rwv w185 86 (20 + 4 * u45 + 2) ∧ rwv w185 86 (20 + 4 * u45 + 2) ≤ 99) := by have q := nw132; omega
          have hX206 : FA w185 ≠ 0 ∨ u45 < 6 := by omega
          have hD207 : FA w185 ≠ 0 ∨ (DATA w → DATA w185) := by
            by_cases z : FA w185 ≠ 0
            · exact Or.inl z
            · exact Or.inr (fun hd => hd.s0 hM197 hK48 hM198 (hX206.resolve_left z) hO200 ((hN201.resolve_left z).resolve_left (by have := hX206.resolve_left z; omega)))
          exact xg_e ⟨w185, ⟨rfl, rfl⟩, xMnv.up (S := [85, 82]) hI115 ((xFr.of (S := [85, 82]) hb183 (by decide)).tr (xFr.of (S := [85, 82]) hb187 (by decide))) (List.forall_mem_cons.mpr ⟨(show cpI 7 52 4294967295 (wget w185 85) from ⟨_, (hr182.but hb187 (by decide)), xrb (by omega) (hb176)⟩), List.forall_mem_cons.mpr ⟨(show cp82 (wget w185 82) from ⟨f82_134, f82_136, f82_138, f82_140, f82_142, f82_144, f82_146, f82_148, f82_150, f82_152 + 1, f82_154, f82_155, f82_156, f82_158, f82_160, f82_162, hk186, hb135, hb137, hb139, hb141, hb143, hb145, hb147, hb149, hb151, by omega, hb157, hb159, hb161, hb163, by omega⟩), fun _ h => absurd h List.not_mem_nil⟩⟩), ((hF71.tr (hF116.up (by decide))).tr ((xFr.of (S := [82, 83, 85, 86, 87]) hb183 (by decide)).tr (xFr.of (S := [82, 83, 85, 86, 87]) hb187 (by decide)))), ⟨fun h => by have := pq196.1 h; omega, (show fld w185 82 10 = 0 ∨ FA w185 ≠ 0 by omega), Or.inr ⟨by have := ms133; omega, by omega, hM199⟩, hD207, pk125.2.2.2.2.tr (K83.fr hF188 (by decide))⟩⟩
        · refine xg_t (xg_icT (u := f82_89) (v := 2) rfl xnm0 xnm0 (xj_neT hc112)) ?_
          refine xg_t (xg_blk (b := [(416, 1, 0, 0, 0, 0), (417, 3, 13, 140, 96, 183)]) rfl) ?_
          refine xg_t (xg_aload (va := (2, 82)) rfl rfl) ?_
          refine xg_cVv mX12_ends (vs := []) (rest := []) (cn1 := 0) (sl1 := 0) rfl (mEnds (hI70) hj73.2.2.2.1) rfl h82_109 rfl rfl rfl rfl rfl rfl (fun w208 hq209 => ?_)
          obtain ⟨hI210, hF211, hx212⟩ := hq209
          clear hb80 hb82 hb84 hb86 hb88 hb90 hb92 hb94 hb96 hb98 hb102 hb104 hb106 hb108
          obtain ⟨hv213, hv214, hv215, hv216, hv217⟩ := hx212
          have pk218 : PK w69 w208 := ⟨fun _ => hv213, by omega, by omega, Or.inr hv213, hv217⟩
          have pk219 : PK w w208 := PK.tr hj73 pk218
          have os220 : ∀ j, (j < 20 + 4 * u45 ∨ 24 + 4 * u45 ≤ j) → j < 140 → rwv w208 86 j = rwv w 86 j := fun j hj hl => (rwv_fr hF211 (by decide)).trans (hj74 j hj hl)
          have rg221 : FA w208 ≠ 0 ∨ u45 < 6 := hj77.imp_left pk218.1
          have mf222 : ∀ s, s < 7 → rwv w208 85 s = rwv w 85 s := fun s hs => (rwv_fr hF211 (by decide)).trans (hj76 s hs)
          have hl223 : rwv w208 86 (20 + 4 * u45 + 0) = rwv w69 86 (20 + 4 * u45 + 0) := rwv_fr hF211 (by decide)
          have hl224 : rwv w208 86 (20 + 4 * u45 + 1) = rwv w69 86 (20 + 4 * u45 + 1) := rwv_fr hF211 (by decide)
          have hl225 : rwv w208 86 (20 + 4 * u45 + 2) = rwv w69 86 (20 + 4 * u45 + 2) := rwv_fr hF211 (by decide)
          have nw226 : FA w208 ≠ 0 ∨ 6 ≤ u45 ∨ (1 ≤ rwv w208 86 (20 + 4 * u45 + 0) ∧ rwv w208 86 (20 + 4 * u45 + 0) ≤ 99 ∧ 1 ≤ rwv w208 86 (20 + 4 * u45 + 1) ∧ rwv w208 86 (20 + 4 * u45 + 1) ≤ 99 ∧ 1 ≤ rwv w208 86 (20 + 4 * u45 + 2) ∧ rwv w208 86 (20 + 4 * u45 + 2) ≤ 99) := by have q := hj78; have q1 := pk218.1; omega
          clear hj78
          have ms227 : mu w208 < mu w := Nat.lt_of_le_of_lt pk218.2.1 hj75
          clear hj77
          refine xg_t (xg_blk (b := [(420, 1, 0, 0, 0, 0), (421, 3, 1, 12, 11, 17), (424, 1, 2, 1, 0, 0), (425, 1, 39, 0, 0, 0), (426, 1, 10, 0, 0, 0), (427, 1, 3, 1, 0, 0), (428, 1, 11, 0, 0, 0), (429, 1, 17, 0, 0, 0), (430, 1, 0, 0, 0, 0), (431, 1, 19, 0, 0, 0), (432, 3, 1, 12, 14, 212), (435, 1, 3, 1, 0, 0), (436, 1, 11, 0, 0, 0), (437, 3, 14, 12, 14, 212), (440, 1, 12, 0, 0, 0)]) rfl) ?_
          obtain ⟨f82_228, f82_230, f82_232, f82_234, f82_236, f82_238, f82_240, f82_242, f82_244, f82_246, f82_248, f82_249, f82_250, f82_252, f82_254, f82_256, h82_258, hb229, hb231, hb233, hb235, hb237, hb239, hb241, hb243, hb245, hb247, hb251, hb253, hb255, hb257, hb259⟩ := (hI210 82 (by decide) (by decide) : cp82 (wget w208 82))
          replace hb231 := xHid.of hb231
          replace hb237 := xHid.of hb237
          replace hb241 := xHid.of hb241
          replace hb243 := xHid.of hb243
          replace hb247 := xHid.of hb247
          replace hb251 := xHid.of hb251
          replace hb253 := xHid.of hb253
          replace hb255 := xHid.of hb255
          replace hb257 := xHid.of hb257
          have hf260 : fld w208 82 4 = f82_232 := fld_of h82_258
          have hf261 : fld w208 82 5 = f82_234 := fld_of h82_258
          have hf262 : fld w208 82 7 = f82_238 := fld_of h82_258
          have hf263 : fld w208 82 10 = f82_244 := fld_of h82_258
          have hf264 : fld w208 82 14 = f82_246 := fld_of h82_258
          have hu265 : mu w208 = 2 * (fld w208 82 4 - fld w208 82 5) + min 1 (fld w208 82 7) := rfl
          have hf266 := pk219.2.2.1
          have hl267 : f82_246 ≤ 1000 := by omega
          refine xg_t (xg_aload (va := (2, 82)) rfl rfl) ?_
          refine xg_t (xg_getf (va := (2, 85)) h82_258 rfl) ?_
          refine xg_t (xg_iload (va := (0, 0)) rfl rfl) ?_
          refine xg_t (xg_dup2 rfl) ?_
          obtain ⟨g85_268, h85_269, hb270⟩ := (hI210 85 (by decide) (by decide) : cpI 7 52 4294967295 (wget w208 85))
          have h85_269 : xRow w208 85 7 52 g85_268 := h85_269
          refine xg_ialdB (n := 0) (B := 4294967295) h85_269 (hb270) xnm0 (by omega) (fun u271 hu272 he273 => ?_)
          have hl274 : u271 = u45 := by have q1 := rwv_of h85_269 (show 0 < 7 by decide); have q2 := mf222 0 (by decide); omega
          refine xg_t (xg_const) ?_
          refine xg_t (xg_iadd (u := u271) (v := 1) (z := u271 + 1) xnm0 xnm0 (by omega)) ?_
          refine xg_iastK (n := 0) (u := u271 + 1) h85_269 xnm0 xnm0 rfl (by omega) (fun w275 hr276 hb277 => ?_)
          refine xg_t (xg_aload (va := (2, 82)) rfl rfl) ?_
          refine xg_t (xg_dup rfl) ?_
          refine xg_t (xg_getf (va := (0, f82_246)) (hb277.get (by decide) h82_258) rfl) ?_
          have hn278 := id hb247
          unfold xHid at hn278
          refine xg_t (xg_const) ?_
          refine xg_t (xg_iadd (u := f82_246) (v := 1) (z := f82_246 + 1) xnm0 xnm0 (by omega)) ?_
          refine xg_putI (fl1 := [(2, 83), (2, 84), (0, f82_228), (0, f82_230), (0, f82_232), (0, f82_234), (0, f82_236), (0, f82_238), (0, f82_240), (0, f82_242), (0, f82_244), (2, 85), (2, 86), (2, 87), (0, f82_246 + 1), (2, 88), (2, 89), (2, 90), (2, 91), (2, 92), (2, 93), (2, 94), (4, f82_248), (4, f82_249), (0, f82_250), (2, 95), (2, 96), (2, 97), (2, 98), (2, 99), (2, 100), (2, 101), (2, 102), (0, f82_252), (2, 103), (2, 104), (2, 105), (2, 106), (2, 107), (2, 108), (2, 109), (0, f82_254), (0, f82_256), (2, 110), (2, 111), (2, 112), (2, 113)]) (hb277.get (by decide) h82_258) rfl rfl rfl (fun w279 hk280 hb281 => ?_)
          have hF282 : xFr [82, 85] w208 w279 := ((xFr.of (S := [82, 85]) hb277 (by decide)).tr (xFr.of (S := [82, 85]) hb281 (by decide)))
          have hA283 := FA_fr hF282 (by decide)
          have hf284 : fld w279 82 4 = f82_232 := fld_of hk280
          have hf285 : fld w279 82 5 = f82_234 := fld_of hk280
          have hf286 : fld w279 82 7 = f82_238 := fld_of hk280
          have hf287 : fld w279 82 10 = f82_244 := fld_of hk280
          have hf288 : fld w279 82 14 = f82_246 + 1 := fld_of hk280
          have hu289 : mu w279 = 2 * (fld w279 82 4 - fld w279 82 5) + min 1 (fld w279 82 7) := rfl
          have pq290 := pk219
          unfold PK PS at pq290
          have hM291 : ∀ s, s < 7 → s ≠ 0 → rwv w279 85 s = rwv w 85 s := fun s hs hn => (rwv_of (hr276.but hb281 (by decide)) hs).trans ((if_neg hn).trans ((rwv_of h85_269 hs).symm.trans (mf222 s hs)))
          have hM292 : rwv w279 85 0 = u45 + 1 := (rwv_of (hr276.but hb281 (by decide)) (by decide)).trans ((if_pos rfl).trans (by omega))
          have hM293 : ∀ s, s < 7 → rwv w279 85 s ≤ rwv w 85 s + 1 := fun s hs => by
            by_cases z : s = 0
            · subst z; omega
            · rw [hM291 s hs z]; omega
          have hO294 : ∀ j, (j < 20 + 4 * u45 ∨ 24 + 4 * u45 ≤ j) → j < 140 → rwv w279 86 j = rwv w 86 j := fun j hj hl => (rwv_fr hF282 (by decide)).trans (os220 j hj hl)
          have hl296 : FA w208 ≠ 0 ∨ u45 < 6 := rg221
          have hl297 : rwv w279 86 (20 + 4 * u45 + 0) = rwv w208 86 (20 + 4 * u45 + 0) := rwv_fr hF282 (by decide)
          have hl298 : rwv w279 86 (20 + 4 * u45 + 1) = rwv w208 86 (20 + 4 * u45 + 1) := rwv_fr hF282 (by decide)
          have hl299 : rwv w279 86 (20 + 4 * u45 + 2) = rwv w208 86 (20 + 4 * u45 + 2) := rwv_fr hF282 (by decide)
          have hN295 : FA w279 ≠ 0 ∨ 6 ≤ u45 ∨ (1 ≤ rwv w279 86 (20 + 4 * u45 + 0) ∧ rwv w279 86 (20 + 4 * u45 + 0) ≤ 99 ∧ 1 ≤ rwv w279 86 (20 + 4 * u45 + 1) ∧ rwv w279 86 (20 + 4 * u45 + 1) ≤ 99 ∧ 1 ≤ rwv w279 86 (20 + 4 * u45 + 2) ∧ rwv w279 86 (20 + 4 * u45 + 2) ≤ 99) := by have q := nw226; omega
          have hX300 : FA w279 ≠ 0 ∨ u45 < 6 := by omega
          have hD301 : FA w279 ≠ 0 ∨ (DATA w → DATA w279) := by
            by_cases z : FA w279 ≠ 0
            · exact Or.inl z
            · exact Or.inr (fun hd => hd.s0 hM291 hK48 hM292 (hX300.resolve_left z) hO294 ((hN295.resolve_left z).resolve_left (by have := hX300.resolve_left z; omega)))
          exact xg_e ⟨w279, ⟨rfl, rfl⟩, xMnv.up (S := [85, 82]) hI210 ((xFr.of (S := [85, 82]) hb277 (by decide)).tr (xFr.of (S := [85, 82]) hb281 (by decide))) (List.forall_mem_cons.mpr ⟨(show cpI 7 52 4294967295 (wget w279 85) from ⟨_, (hr276.but hb281 (by decide)), xrb (by omega) (hb270)⟩), List.forall_mem_cons.mpr ⟨(show cp82 (wget w279 82) from ⟨f82_228, f82_230, f82_232, f82_234, f82_236, f82_238, f82_240, f82_242, f82_244, f82_246 + 1, f82_248, f82_249, f82_250, f82_252, f82_254, f82_256, hk280, hb229, hb231, hb233, hb235, hb237, hb239, hb241, hb243, hb245, by omega, hb251, hb253, hb255, hb257, by omega⟩), fun _ h => absurd h List.not_mem_nil⟩⟩), ((hF71.tr (hF211.up (by decide))).tr ((xFr.of (S := [82, 83, 85, 86, 87]) hb277 (by decide)).tr (xFr.of (S := [82, 83, 85, 86, 87]) hb281 (by decide)))), ⟨fun h => by have := pq290.1 h; omega, (show fld w279 82 10 = 0 ∨ FA w279 ≠ 0 by omega), Or.inr ⟨by have := ms227; omega, by omega, hM293⟩, hD301, pk219.2.2.2.2.tr (K83.fr hF282 (by decide))⟩⟩
      · refine xg_t (xg_ifT (u := f82_95) rfl xnm0 (xj_neT hc111)) ?_
        refine xg_t (xg_blk (b := [(416, 1, 0, 0, 0, 0), (417, 3, 13, 140, 96, 183)]) rfl) ?_
        refine xg_t (xg_aload (va := (2, 82)) rfl rfl) ?_
        refine xg_cVv mX12_ends (vs := []) (rest := []) (cn1 := 0) (sl1 := 0) rfl (mEnds (hI70) hj73.2.2.2.1) rfl h82_109 rfl rfl rfl rfl rfl rfl (fun w302 hq303 => ?_)
        obtain ⟨hI304, hF305, hx306⟩ := hq303
        clear hb80 hb82 hb84 hb86 hb88 hb90 hb92 hb94 hb96 hb98 hb102 hb104 hb106 hb108
        obtain ⟨hv307, hv308, hv309, hv310, hv311⟩ := hx306
        have pk312 : PK w69 w302 := ⟨fun _ => hv307, by omega, by omega, Or.inr hv307, hv311⟩
        have pk313 : PK w w302 := PK.tr hj73 pk312
        have os314 : ∀ j, (j < 20 + 4 * u45 ∨ 24 + 4 * u45 ≤ j) → j < 140 → rwv w302 86 j = rwv w 86 j := fun j hj hl => (rwv_fr hF305 (by decide)).trans (hj74 j hj hl)
        have rg315 : FA w302 ≠ 0 ∨ u45 < 6 := hj77.imp_left pk312.1
        have mf316 : ∀ s, s < 7 → rwv w302 85 s = rwv w 85 s := fun s hs => (rwv_fr hF305 (by decide)).trans (hj76 s hs)
        have hl317 : rwv w302 86 (20 + 4 * u45 + 0) = rwv w69 86 (20 + 4 * u45 + 0) := rwv_fr hF305 (by decide)
        have hl318 : rwv w302 86 (20 + 4 * u45 + 1) = rwv w69 86 (20 + 4 * u45 + 1) := rwv_fr hF305 (by decide)
        have hl319 : rwv w302 86 (20 + 4 * u45 + 2) = rwv w69 86 (20 + 4 * u45 + 2) := rwv_fr hF305 (by decide)
        have nw320 : FA w302 ≠ 0 ∨ 6 ≤ u45 ∨ (1 ≤ rwv w302 86 (20 + 4 * u45 + 0) ∧ rwv w302 86 (20 + 4 * u45 + 0) ≤ 99 ∧ 1 ≤ rwv w302 86 (20 + 4 * u45 + 1) ∧ rwv w302 86 (20 + 4 * u45 + 1) ≤ 99 ∧ 1 ≤ rwv w302 86 (20 + 4 * u45 + 2) ∧ rwv w302 86 (20 + 4 * u45 + 2) ≤ 99) := by have q := hj78; have q1 := pk312.1; omega
        clear hj78
        have ms321 : mu w302 < mu w := Nat.lt_of_le_of_lt pk312.2.1 hj75
        clear hj77
        refine xg_t (xg_blk (b := [(420, 1, 0, 0, 0, 0), (421, 3, 1, 12, 11, 17), (424, 1, 2, 1, 0, 0), (425, 1, 39, 0, 0, 0), (426, 1, 10, 0, 0, 0), (427, 1, 3, 1, 0, 0), (428, 1, 11, 0, 0, 0), (429, 1, 17, 0, 0, 0), (430, 1, 0, 0, 0, 0), (431, 1, 19, 0, 0, 0), (432, 3, 1, 12, 14, 212), (435, 1, 3, 1, 0, 0), (436, 1, 11, 0, 0, 0), (437, 3, 14, 12, 14, 212), (440, 1, 12, 0, 0, 0)]) rfl) ?_
        obtain ⟨f82_322, f82_324, f82_326, f82_328, f82_330, f82_332, f82_334, f82_336, f82_338, f82_340, f82_342, f82_343, f82_344, f82_346, f82_348, f82_350, h82_352, hb323, hb325, hb327, hb329, hb331, hb333, hb335, hb337, hb339, hb341, hb345, hb347, hb349, hb351, hb353⟩ := (hI304 82 (by decide) (by decide) : cp82 (wget w302 82))
        replace hb325 := xHid.of hb325
        replace hb331 := xHid.of hb331
        replace hb335 := xHid.of hb335
        replace hb337 := xHid.of hb337
        replace hb341 := xHid.of hb341
        replace hb345 := xHid.of hb345
        replace hb347 := xHid.of hb347
        replace hb349 := xHid.of hb349
        replace hb351 := xHid.of hb351
        have hf354 : fld w302 82 4 = f82_326 := fld_of h82_352
        have hf355 : fld w302 82 5 = f82_328 := fld_of h82_352
        have hf356 : fld w302 82 7 = f82_332 := fld_of h82_352
        have hf357 : fld w302 82 10 = f82_338 := fld_of h82_352
        have hf358 : fld w302 82 14 = f82_340 := fld_of h82_352
        have hu359 : mu w302 = 2 * (fld w302 82 4 - fld w302 82 5) + min 1 (fld w302 82 7) := rfl
        have hf360 := pk313.2.2.1
        have hl361 : f82_340 ≤ 1000 := by omega
        refine xg_t (xg_aload (va := (2, 82)) rfl rfl) ?_
        refine xg_t (xg_getf (va := (2, 85)) h82_352 rfl) ?_
        refine xg_t (xg_iload (va := (0, 0)) rfl rfl) ?_
        refine xg_t (xg_dup2 rfl) ?_
        obtain ⟨g85_362, h85_363, hb364⟩ := (hI304 85 (by decide) (by decide) : cpI 7 52 4294967295 (wget w302 85))
        have h85_363 : xRow w302 85 7 52 g85_362 := h85_363
        refine xg_ialdB (n := 0) (B := 4294967295) h85_363 (hb364) xnm0 (by omega) (fun u365 hu366 he367 => ?_)
        have hl368 : u365 = u45 := by have q1 := rwv_of h85_363 (show 0 < 7 by decide); have q2 := mf316 0 (by decide); omega
        refine xg_t (xg_const) ?_
        refine xg_t (xg_iadd (u := u365) (v := 1) (z := u365 + 1) xnm0 xnm0 (by omega)) ?_
        refine xg_iastK (n := 0) (u := u365 + 1) h85_363 xnm0 xnm0 rfl (by omega) (fun w369 hr370 hb371 => ?_)
        refine xg_t (xg_aload (va := (2, 82)) rfl rfl) ?_
        refine xg_t (xg_dup rfl) ?_
        refine xg_t (xg_getf (va := (0, f82_340)) (hb371.get (by decide) h82_352) rfl) ?_
        have hn372 := id hb341
        unfold xHid at hn372
        refine xg_t (xg_const) ?_
        refine xg_t (xg_iadd (u := f82_340) (v := 1) (z := f82_340 + 1) xnm0 xnm0 (by omega)) ?_
        refine xg_putI (fl1 := [(2, 83), (2, 84), (0, f82_322), (0, f82_324), (0, f82_326), (0, f82_328), (0, f82_330), (0, f82_332), (0, f82_334), (0, f82_336), (0, f82_338), (2, 85), (2, 86), (2, 87), (0, f82_340 + 1), (2, 88), (2, 89), (2, 90), (2, 91), (2, 92), (2, 93), (2, 94), (4, f82_342), (4, f82_343), (0, f82_344), (2, 95), (2, 96), (2, 97), (2, 98), (2, 99), (2, 100), (2, 101), (2, 102), (0, f82_346), (2, 103), (2, 104), (2, 105), (2, 106), (2, 107), (2, 108), (2, 109), (0, f82_348), (0, f82_350), (2, 110), (2, 111), (2, 112), (2, 113)]) (hb371.get (by decide) h82_352) rfl rfl rfl (fun w373 hk374 hb375 => ?_)
        have hF376 : xFr [82, 85] w302 w373 := ((xFr.of (S := [82, 85]) hb371 (by decide)).tr (xFr.of (S := [82, 85]) hb375 (by decide)))
        have hA377 := FA_fr hF376 (by decide)
        have hf378 : fld w373 82 4 = f82_326 := fld_of hk374
        have hf379 : fld w373 82 5 = f82_328 := fld_of hk374
        have hf380 : fld w373 82 7 = f82_332 := fld_of hk374
        have hf381 : fld w373 82 10 = f82_338 := fld_of hk374
        have hf382 : fld w373 82 14 = f82_340 + 1 := fld_of hk374
        have hu383 : mu w373 = 2 * (fld w373 82 4 - fld w373 82 5) + min 1 (fld w373 82 7) := rfl
        have pq384 := pk313
        unfold PK PS at pq384
        have hM385 : ∀ s, s < 7 → s ≠ 0 → rwv w373 85 s = rwv w 85 s := fun s hs hn => (rwv_of (hr370.but hb375 (by decide)) hs).trans ((if_neg hn).trans ((rwv_of h85_363 hs).symm.trans (mf316 s hs)))
        have hM386 : rwv w373 85 0 = u45 + 1 := (rwv_of (hr370.but hb375 (by decide)) (by decide)).trans ((if_pos rfl).trans (by omega))
        have hM387 : ∀ s, s < 7 → rwv w373 85 s ≤ rwv w 85 s + 1 := fun s hs => by
          by_cases z : s = 0
          · subst z; omega
          · rw [hM385 s hs z]; omega
        have hO388 : ∀ j, (j < 20 + 4 * u45 ∨ 24 + 4 * u45 ≤ j) → j < 140 → rwv w373 86 j = rwv w 86 j := fun j hj hl => (rwv_fr hF376 (by decide)).trans (os314 j hj hl)
        have hl390 : FA w302 ≠ 0 ∨ u45 < 6 := rg315
        have hl391 : rwv w373 86 (20 + 4 * u45 + 0) = rwv w302 86 (20 + 4 * u45 + 0) := rwv_fr hF376 (by decide)
        have hl392 : rwv w373 86 (20 + 4 * u45 + 1) = rwv w302 86 (20 + 4 * u45 + 1) := rwv_fr hF376 (by decide)
        have hl393 : rwv w373 86 (20 + 4 * u45 + 2) = rwv w302 86 (20 + 4 * u45 + 2) := rwv_fr hF376 (by decide)
        have hN389 : FA w373 ≠ 0 ∨ 6 ≤ u45 ∨ (1 ≤ rwv w373 86 (20 + 4 * u45 + 0) ∧ rwv w373 86 (20 + 4 * u45 + 0) ≤ 99 ∧ 1 ≤ rwv w373 86 (20 + 4 * u45 + 1) ∧ rwv w373 86 (20 + 4 * u45 + 1) ≤ 99 ∧ 1 ≤ rwv w373 86 (20 + 4 * u45 + 2) ∧ rwv w373 86 (20 + 4 * u45 + 2) ≤ 99) := by have q := nw320; omega
        have hX394 : FA w373 ≠ 0 ∨ u45 < 6 := by omega
        have hD395 : FA w373 ≠ 0 ∨ (DATA w → DATA w373) := by
          by_cases z : FA w373 ≠ 0
          · exact Or.inl z
          · exact Or.inr (fun hd => hd.s0 hM385 hK48 hM386 (hX394.resolve_left z) hO388 ((hN389.resolve_left z).resolve_left (by have := hX394.resolve_left z; omega)))
        exact xg_e ⟨w373, ⟨rfl, rfl⟩, xMnv.up (S := [85, 82]) hI304 ((xFr.of (S := [85, 82]) hb371 (by decide)).tr (xFr.of (S := [85, 82]) hb375 (by decide))) (List.forall_mem_cons.mpr ⟨(show cpI 7 52 4294967295 (wget w373 85) from ⟨_, (hr370.but hb375 (by decide)), xrb (by omega) (hb364)⟩), List.forall_mem_cons.mpr ⟨(show cp82 (wget w373 82) from ⟨f82_322, f82_324, f82_326, f82_328, f82_330, f82_332, f82_334, f82_336, f82_338, f82_340 + 1, f82_342, f82_343, f82_344, f82_346, f82_348, f82_350, hk374, hb323, hb325, hb327, hb329, hb331, hb333, hb335, hb337, hb339, by omega, hb345, hb347, hb349, hb351, by omega⟩), fun _ h => absurd h List.not_mem_nil⟩⟩), ((hF71.tr (hF305.up (by decide))).tr ((xFr.of (S := [82, 83, 85, 86, 87]) hb371 (by decide)).tr (xFr.of (S := [82, 83, 85, 86, 87]) hb375 (by decide)))), ⟨fun h => by have := pq384.1 h; omega, (show fld w373 82 10 = 0 ∨ FA w373 ≠ 0 by omega), Or.inr ⟨by have := ms321; omega, by omega, hM387⟩, hD395, pk313.2.2.2.2.tr (K83.fr hF376 (by decide))⟩⟩
    refine xg_t (xg_iload (va := (0, 0)) rfl rfl) ?_
    refine xg_t (xg_swt (ks := [(0, 108), (1, 116), (2, 180), (3, 221), (4, 273), (5, 326)]) (u := 0) (z := 108) rfl rfl rfl xnm0 (xsw_y rfl)) ?_
    refine xg_t (xg_blk (b := [(108, 1, 0, 0, 0, 0), (109, 1, 2, 3, 0, 0), (110, 3, 13, 106, 96, 204), (113, 3, 8, 394, 0, 0)]) rfl) ?_
    refine xg_t (xg_aload (va := (2, 82)) rfl rfl) ?_
    refine xg_t (xg_iload (va := (0, u45)) rfl rfl) ?_
    obtain ⟨f82_396, f82_398, f82_400, f82_402, f82_404, f82_406, f82_408, f82_410, f82_412, f82_414, f82_416, f82_417, f82_418, f82_420, f82_422, f82_424, h82_426, hb397, hb399, hb401, hb403, hb405, hb407, hb409, hb411, hb413, hb415, hb419, hb421, hb423, hb425, hb427⟩ := (hI54 82 (by decide) (by decide) : cp82 (wget w52 82))
    replace hb399 := xHid.of hb399
    replace hb405 := xHid.of hb405
    replace hb409 := xHid.of hb409
    replace hb411 := xHid.of hb411
    replace hb415 := xHid.of hb415
    replace hb419 := xHid.of hb419
    replace hb421 := xHid.of hb421
    replace hb423 := xHid.of hb423
    replace hb425 := xHid.of hb425
    refine xg_cVv mX12_aLayer (vs := [(0, u45)]) (rest := []) (cn1 := 0) (sl1 := 0) rfl (mALayer (hI54) (by omega) pk64.2.2.2.1) rfl h82_426 rfl rfl rfl rfl rfl rfl (fun w428 hq429 => ?_)
    obtain ⟨hI430, hF431, hx432⟩ := hq429
    clear hb397 hb399 hb401 hb403 hb405 hb407 hb409 hb411 hb413 hb415 hb419 hb421 hb423 hb425
    obtain ⟨pk433, os434, ly435⟩ := hx432
    have pk436 : PK w w428 := PK.tr pk64 pk433
    have os437 : ∀ j, (j < 20 + 4 * u45 ∨ 24 + 4 * u45 ≤ j) → j < 140 → rwv w428 86 j = rwv w 86 j := fun j hj hl => (os434 j hj hl).trans (os65 j hj hl)
    have mf438 : ∀ s, s < 7 → rwv w428 85 s = rwv w 85 s := fun s hs => (rwv_fr hF431 (by decide)).trans (mf66 s hs)
    have ms439 : mu w428 < mu w := Nat.lt_of_le_of_lt pk433.2.1 ms67
    refine xg_t (xg_goto) ?_
    refine xg_t (xg_drop (l1 := [(0, (2, 82)), (1, (0, 0)), (3, (0, u45))]) (List.forall_mem_cons.mpr ⟨List.mem_cons_of_mem _ (List.mem_cons_of_mem _ (List.mem_cons_of_mem _ (List.mem_cons_self))), List.forall_mem_cons.mpr ⟨List.mem_cons_of_mem _ (List.mem_cons_of_mem _ (List.mem_cons_self)), List.forall_mem_cons.mpr ⟨List.mem_cons_self, fun _ h => absurd h List.not_mem_nil⟩⟩⟩)) ?_
    have hX440 : FA w428 ≠ 0 ∨ u45 < 6 := Or.inr (by omega)
    exact jn68 w428 (hI430) (((hF55.up (by decide)).tr (hF431.up (by decide)))) (⟨pk436, os437, ms439, mf438, hX440, ly435⟩)
  · refine xg_t (xg_icF (u := u45) (v := 6) rfl xnm0 xnm0 (xj_ltF (by omega) (by omega))) ?_
    refine xg_t (xg_aload (va := (2, 82)) rfl rfl) ?_
    refine xg_t (xg_const) ?_
    refine xg_t (xg_iload (va := (0, at_)) rfl rfl) ?_
    refine xg_cVv mX12_also (vs := [(0, 3), (0, at_)]) (rest := []) (cn1 := 0) (sl1 := 0) rfl (mAlso (hI) (by omega) (by omega) (by omega) (PK.rf hps).2.2.2.1) rfl h82_31 rfl rfl rfl rfl rfl rfl (fun w442 hq443 => ?_)
    obtain ⟨hI444, hF445, hx446⟩ := hq443
    obtain ⟨hv448, hv449⟩ := hx446
    have pk447 : PK w w442 := ⟨fun _ => hv448, Nat.le_of_eq (mu_fr hF445 (by decide)), fld_fr hF445 (by decide), Or.inr hv448, hv449⟩
    have pk450 : PK w w442 := PK.tr (PK.rf hps) pk447
    have os451 : ∀ j, (j < 20 + 4 * u45 ∨ 24 + 4 * u45 ≤ j) → j < 140 → rwv w442 86 j = rwv w 86 j := fun j hj hl => (rwv_fr hF445 (by decide)).trans ((fun j _ _ => rfl) j hj hl)
    have mf452 : ∀ s, s < 7 → rwv w442 85 s = rwv w 85 s := fun s hs => (rwv_fr hF445 (by decide)).trans ((fun _ _ => rfl) s hs)
    have hf453 := fld_fr (c := 82) (j := 7) hF445 (by decide)
    refine xg_t (xg_blk (b := [(64, 1, 0, 0, 0, 0), (65, 3, 13, 110, 96, 190), (68, 1, 2, 1, 0, 0), (69, 39, 33, 362, 0, 9)]) rfl) ?_
    refine xg_t (xg_aload (va := (2, 82)) rfl rfl) ?_
    refine xg_cVv mX12_advance (vs := []) (rest := []) (cn1 := 0) (sl1 := 0) rfl (mAdvance (hI444)) rfl (hF445.get (by decide) h82_31) rfl rfl rfl rfl rfl rfl (fun w454 hq455 => ?_)
    obtain ⟨hI456, hF457, hx458⟩ := hq455
    clear hb2 hb4 hb6 hb8 hb10 hb12 hb14 hb16 hb18 hb20 hb24 hb26 hb28 hb30
    obtain ⟨hv459, hv460, hv461, hv462⟩ := hx458
    have hf464 := FA_fr hF457 (by decide)
    have hs465 := pk450.2.2.2.1
    unfold PS at hs465
    have pk463 : PK w442 w454 := ⟨fun _ => by omega, hv459, hv462, (show fld w454 82 10 = 0 ∨ FA w454 ≠ 0 by omega), K83.fr hF457 (by decide)⟩
    clear hs465
    have pk466 : PK w w454 := PK.tr pk450 pk463
    have os467 : ∀ j, (j < 20 + 4 * u45 ∨ 24 + 4 * u45 ≤ j) → j < 140 → rwv w454 86 j = rwv w 86 j := fun j hj hl => (rwv_fr hF457 (by decide)).trans (os451 j hj hl)
    have rg468 : FA w454 ≠ 0 ∨ 0 = 1 := (Or.inl hv448 : FA w442 ≠ 0 ∨ 0 = 1).imp_left pk463.1
    have mf469 : ∀ s, s < 7 → rwv w454 85 s = rwv w 85 s := fun s hs => (rwv_fr hF457 (by decide)).trans (mf452 s hs)
    have ms470 : mu w454 < mu w := Nat.lt_of_lt_of_le (hv460 (by omega)) pk450.2.1
    clear hv460
    have jn471 : ∀ (w472 : List (List xE)), xMnv w472 → xFr [82, 83, 85, 86, 87] w w472 → (PK w w472 ∧ (∀ j, (j < 20 + 4 * u45 ∨ 24 + 4 * u45 ≤ j) → j < 140 → rwv w472 86 j = rwv w 86 j) ∧ mu w472 < mu w ∧ (∀ s, s < 7 → rwv w472 85 s = rwv w 85 s) ∧ (FA w472 ≠ 0 ∨ u45 < 6) ∧ (FA w472 ≠ 0 ∨ 6 ≤ u45 ∨ (1 ≤ rwv w472 86 (20 + 4 * u45 + 0) ∧ rwv w472 86 (20 + 4 * u45 + 0) ≤ 99 ∧ 1 ≤ rwv w472 86 (20 + 4 * u45 + 1) ∧ rwv w472 86 (20 + 4 * u45 + 1) ≤ 99 ∧ 1 ≤ rwv w472 86 (20 + 4 * u45 + 2) ∧ rwv w472 86 (20 + 4 * u45 + 2) ≤ 99))) → xTo (d + 7) mX12_aLine (394, [], [(0, (2, 82)), (1, (0, 0)), (3, (0, u45))], [], (w472, bd, fc, 0, 0, rr)) (fun φ => ∃ w', xEnd 0 [] (w', bd, fc, 0, 0, rr) φ ∧ xMnv w' ∧ xFr [82, 83, 85, 86, 87] w w' ∧ ((FA w ≠ 0 → FA w' ≠ 0) ∧ PS w' ∧ ((fld w' 82 10 = 1 ∧ mu w' = mu w ∧ fld w' 82 14 = fld w 82 14 ∧ ∀ s, s < 7 → rwv w' 85 s = rwv w 85 s) ∨ (mu w' < mu w ∧ fld w' 82 14 = fld w 82 14 + 1 ∧ ∀ s, s < 7 → rwv w' 85 s ≤ rwv w 85 s + 1)) ∧ (FA w' ≠ 0 ∨ (DATA w → DATA w')) ∧ K83 w w')) := by
      intro w472 hI473 hF474 he475
      obtain ⟨hj476, hj477, hj478, hj479, hj480, hj481⟩ := he475
      refine xg_t (xg_blk (b := [(394, 1, 0, 0, 0, 0), (395, 3, 1, 12, 10, 180), (398, 3, 7, 416, 1, 0), (401, 1, 0, 0, 0, 0), (402, 3, 1, 12, 7, 151), (405, 1, 3, 2, 0, 0), (406, 3, 6, 416, 1, 0), (409, 1, 0, 0, 0, 0), (410, 3, 13, 110, 96, 190), (413, 3, 8, 420, 0, 0)]) rfl) ?_
      refine xg_t (xg_aload (va := (2, 82)) rfl rfl) ?_
      obtain ⟨f82_482, f82_484, f82_486, f82_488, f82_490, f82_492, f82_494, f82_496, f82_498, f82_500, f82_502, f82_503, f82_504, f82_506, f82_508, f82_510, h82_512, hb483, hb485, hb487, hb489, hb491, hb493, hb495, hb497, hb499, hb501, hb505, hb507, hb509, hb511, hb513⟩ := (hI473 82 (by decide) (by decide) : cp82 (wget w472 82))
      replace hb485 := xHid.of hb485
      replace hb491 := xHid.of hb491
      replace hb495 := xHid.of hb495
      replace hb497 := xHid.of hb497
      replace hb501 := xHid.of hb501
      replace hb505 := xHid.of hb505
      replace hb507 := xHid.of hb507
      replace hb509 := xHid.of hb509
      replace hb511 := xHid.of hb511
      refine xg_t (xg_getf (va := (0, f82_498)) h82_512 rfl) ?_
      by_cases hc514 : f82_498 = 0
      · refine xg_t (xg_ifF (u := f82_498) rfl xnm0 (xj_neF hc514)) ?_
        refine xg_t (xg_aload (va := (2, 82)) rfl rfl) ?_
        refine xg_t (xg_getf (va := (0, f82_492)) h82_512 rfl) ?_
        refine xg_t (xg_const) ?_
        by_cases hc515 : f82_492 = 2
        · refine xg_t (xg_icF (u := f82_492) (v := 2) rfl xnm0 xnm0 (xj_neF hc515)) ?_
          refine xg_t (xg_aload (va := (2, 82)) rfl rfl) ?_
          refine xg_cVv mX12_advance (vs := []) (rest := []) (cn1 := 0) (sl1 := 0) rfl (mAdvance (hI473)) rfl h82_512 rfl rfl rfl rfl rfl rfl (fun w516 hq517 => ?_)
          obtain ⟨hI518, hF519, hx520⟩ := hq517
          clear hb483 hb485 hb487 hb489 hb491 hb493 hb495 hb497 hb499 hb501 hb505 hb507 hb509 hb511
          obtain ⟨hv521, hv522, hv523, hv524⟩ := hx520
          have hf526 := FA_fr hF519 (by decide)
          have hs527 := hj476.2.2.2.1
          unfold PS at hs527
          have pk525 : PK w472 w516 := ⟨fun _ => by omega, hv521, hv524, (show fld w516 82 10 = 0 ∨ FA w516 ≠ 0 by omega), K83.fr hF519 (by decide)⟩
          clear hs527
          clear hv522
          have pk528 : PK w w516 := PK.tr hj476 pk525
          have os529 : ∀ j, (j < 20 + 4 * u45 ∨ 24 + 4 * u45 ≤ j) → j < 140 → rwv w516 86 j = rwv w 86 j := fun j hj hl => (rwv_fr hF519 (by decide)).trans (hj477 j hj hl)
          have rg530 : FA w516 ≠ 0 ∨ u45 < 6 := hj480.imp_left pk525.1
          have mf531 : ∀ s, s < 7 → rwv w516 85 s = rwv w 85 s := fun s hs => (rwv_fr hF519 (by decide)).trans (hj479 s hs)
          have hl532 : rwv w516 86 (20 + 4 * u45 + 0) = rwv w472 86 (20 + 4 * u45 + 0) := rwv_fr hF519 (by decide)
          have hl533 : rwv w516 86 (20 + 4 * u45 + 1) = rwv w472 86 (20 + 4 * u45 + 1) := rwv_fr hF519 (by decide)
          have hl534 : rwv w516 86 (20 + 4 * u45 + 2) = rwv w472 86 (20 + 4 * u45 + 2) := rwv_fr hF519 (by decide)
          have nw535 : FA w516 ≠ 0 ∨ 6 ≤ u45 ∨ (1 ≤ rwv w516 86 (20 + 4 * u45 + 0) ∧ rwv w516 86 (20 + 4 * u45 + 0) ≤ 99 ∧ 1 ≤ rwv w516 86 (20 + 4 * u45 + 1) ∧ rwv w516 86 (20 + 4 * u45 + 1) ≤ 99 ∧ 1 ≤ rwv w516 86 (20 + 4 * u45 + 2) ∧ rwv w516 86 (20 + 4 * u45 + 2) ≤ 99) := by have q := hj481; have q1 := pk525.1; omega
          clear hj481
          have ms536 : mu w516 < mu w := Nat.lt_of_le_of_lt pk525.2.1 hj478
          clear hj480
          refine xg_t (xg_goto) ?_
          refine xg_t (xg_blk (b := [(420, 1, 0, 0, 0, 0), (421, 3, 1, 12, 11, 17), (424, 1, 2, 1, 0, 0), (425, 1, 39, 0, 0, 0), (426, 1, 10, 0, 0, 0), (427, 1, 3, 1, 0, 0), (428, 1, 11, 0, 0, 0), (429, 1, 17, 0, 0, 0), (430, 1, 0, 0, 0, 0), (431, 1, 19, 0, 0, 0), (432, 3, 1, 12, 14, 212), (435, 1, 3, 1, 0, 0), (436, 1, 11, 0, 0, 0), (437, 3, 14, 12, 14, 212), (440, 1, 12, 0, 0, 0)]) rfl) ?_
          obtain ⟨f82_537, f82_539, f82_541, f82_543, f82_545, f82_547, f82_549, f82_551, f82_553, f82_555, f82_557, f82_558, f82_559, f82_561, f82_563, f82_565, h82_567, hb538, hb540, hb542, hb544, hb546, hb548, hb550, hb552, hb554, hb556, hb560, hb562, hb564, hb566, hb568⟩ := (hI518 82 (by decide) (by decide) : cp82 (wget w516 82))
          replace hb540 := xHid.of hb540
          replace hb546 := xHid.of hb546
          replace hb550 := xHid.of hb550
          replace hb552 := xHid.of hb552
          replace hb556 := xHid.of hb556
          replace hb560 := xHid.of hb560
          replace hb562 := xHid.of hb562
          replace hb564 := xHid.of hb564
          replace hb566 := xHid.of hb566
          have hf569 : fld w516 82 4 = f82_541 := fld_of h82_567
          have hf570 : fld w516 82 5 = f82_543 := fld_of h82_567
          have hf571 : fld w516 82 7 = f82_547 := fld_of h82_567
          have hf572 : fld w516 82 10 = f82_553 := fld_of h82_567
          have hf573 : fld w516 82 14 = f82_555 := fld_of h82_567
          have hu574 : mu w516 = 2 * (fld w516 82 4 - fld w516 82 5) + min 1 (fld w516 82 7) := rfl
          have hf575 := pk528.2.2.1
          have hl576 : f82_555 ≤ 1000 := by omega
          refine xg_t (xg_aload (va := (2, 82)) rfl rfl) ?_
          refine xg_t (xg_getf (va := (2, 85)) h82_567 rfl) ?_
          refine xg_t (xg_iload (va := (0, 0)) rfl rfl) ?_
          refine xg_t (xg_dup2 rfl) ?_
          obtain ⟨g85_577, h85_578, hb579⟩ := (hI518 85 (by decide) (by decide) : cpI 7 52 4294967295 (wget w516 85))
          have h85_578 : xRow w516 85 7 52 g85_577 := h85_578
          refine xg_ialdB (n := 0) (B := 4294967295) h85_578 (hb579) xnm0 (by omega) (fun u580 hu581 he582 => ?_)
          have hl583 : u580 = u45 := by have q1 := rwv_of h85_578 (show 0 < 7 by decide); have q2 := mf531 0 (by decide); omega
          refine xg_t (xg_const) ?_
          refine xg_t (xg_iadd (u := u580) (v := 1) (z := u580 + 1) xnm0 xnm0 (by omega)) ?_
          refine xg_iastK (n := 0) (u := u580 + 1) h85_578 xnm0 xnm0 rfl (by omega) (fun w584 hr585 hb586 => ?_)
          refine xg_t (xg_aload (va := (2, 82)) rfl rfl) ?_
          refine xg_t (xg_dup rfl) ?_
          refine xg_t (xg_getf (va := (0, f82_555)) (hb586.get (by decide) h82_567) rfl) ?_
          have hn587 := id hb556
          unfold xHid at hn587
          refine xg_t (xg_const) ?_
          refine xg_t (xg_iadd (u := f82_555) (v := 1) (z := f82_555 + 1) xnm0 xnm0 (by omega)) ?_
          refine xg_putI (fl1 := [(2, 83), (2, 84), (0, f82_537), (0, f82_539), (0, f82_541), (0, f82_543), (0, f82_545), (0, f82_547), (0, f82_549), (0, f82_551), (0, f82_553), (2, 85), (2, 86), (2, 87), (0, f82_555 + 1), (2, 88), (2, 89), (2, 90), (2, 91), (2, 92), (2, 93), (2, 94), (4, f82_557), (4, f82_558), (0, f82_559), (2, 95), (2, 96), (2, 97), (2, 98), (2, 99), (2, 100), (2, 101), (2, 102), (0, f82_561), (2, 103), (2, 104), (2, 105), (2, 106), (2, 107), (2, 108), (2, 109), (0, f82_563), (0, f82_565), (2, 110), (2, 111), (2, 112), (2, 113)]) (hb586.get (by decide) h82_567) rfl rfl rfl (fun w588 hk589 hb590 => ?_)
          have hF591 : xFr [82, 85] w516 w588 := ((xFr.of (S := [82, 85]) hb586 (by decide)).tr (xFr.of (S := [82, 85]) hb590 (by decide)))
          have hA592 := FA_fr hF591 (by decide)
          have hf593 : fld w588 82 4 = f82_541 := fld_of hk589
          have hf594 : fld w588 82 5 = f82_543 := fld_of hk589
          have hf595 : fld w588 82 7 = f82_547 := fld_of hk589
          have hf596 : fld w588 82 10 = f82_553 := fld_of hk589
          have hf597 : fld w588 82 14 = f82_555 + 1 := fld_of hk589
          have hu598 : mu w588 = 2 * (fld w588 82 4 - fld w588 82 5) + min 1 (fld w588 82 7) := rfl
          have pq599 := pk528
          unfold PK PS at pq599
          have hM600 : ∀ s, s < 7 → s ≠ 0 → rwv w588 85 s = rwv w 85 s := fun s hs hn => (rwv_of (hr585.but hb590 (by decide)) hs).trans ((if_neg hn).trans ((rwv_of h85_578 hs).symm.trans (mf531 s hs)))
          have hM601 : rwv w588 85 0 = u45 + 1 := (rwv_of (hr585.but hb590 (by decide)) (by decide)).trans ((if_pos rfl).trans (by omega))
          have hM602 : ∀ s, s < 7 → rwv w588 85 s ≤ rwv w 85 s + 1 := fun s hs => by
            by_cases z : s = 0
            · subst z; omega
            · rw [hM600 s hs z]; omega
          have hO603 : ∀ j, (j < 20 + 4 * u45 ∨ 24 + 4 * u45 ≤ j) → j < 140 → rwv w588 86 j = rwv w 86 j := fun j hj hl => (rwv_fr hF591 (by decide)).trans (os529 j hj hl)
          have hl605 : FA w516 ≠ 0 ∨ u45 < 6 := rg530
          have hl606 : rwv w588 86 (20 + 4 * u45 + 0) = rwv w516 86 (20 + 4 * u45 + 0) := rwv_fr hF591 (by decide)
          have hl607 : rwv w588 86 (20 + 4 * u45 + 1) = rwv w516 86 (20 + 4 * u45 + 1) := rwv_fr hF591 (by decide)
          have hl608 : rwv w588 86 (20 + 4 * u45 + 2) = rwv w516 86 (20 + 4 * u45 + 2) := rwv_fr hF591 (by decide)
          have hN604 : FA w588 ≠ 0 ∨ 6 ≤ u45 ∨ (1 ≤ rwv w588 86 (20 + 4 * u45 + 0) ∧ rwv w588 86 (20 + 4 * u45 + 0) ≤ 99 ∧ 1 ≤ rwv w588 86 (20 + 4 * u45 + 1) ∧ rwv w588 86 (20 + 4 * u45 + 1) ≤ 99 ∧ 1 ≤ rwv w588 86 (20 + 4 * u45 + 2) ∧ rwv w588 86 (20 + 4 * u45 + 2) ≤ 99) := by have q := nw535; omega
          have hX609 : FA w588 ≠ 0 ∨ u45 < 6 := by omega
          have hD610 : FA w588 ≠ 0 ∨ (DATA w → DATA w588) := by
            by_cases z : FA w588 ≠ 0
            · exact Or.inl z
            · exact Or.inr (fun hd => hd.s0 hM600 hK48 hM601 (hX609.resolve_left z) hO603 ((hN604.resolve_left z).resolve_left (by have := hX609.resolve_left z; omega)))
          exact xg_e ⟨w588, ⟨rfl, rfl⟩, xMnv.up (S := [85, 82]) hI518 ((xFr.of (S := [85, 82]) hb586 (by decide)).tr (xFr.of (S := [85, 82]) hb590 (by decide))) (List.forall_mem_cons.mpr ⟨(show cpI 7 52 4294967295 (wget w588 85) from ⟨_, (hr585.but hb590 (by decide)), xrb (by omega) (hb579)⟩), List.forall_mem_cons.mpr ⟨(show cp82 (wget w588 82) from ⟨f82_537, f82_539, f82_541, f82_543, f82_545, f82_547, f82_549, f82_551, f82_553, f82_555 + 1, f82_557, f82_558, f82_559, f82_561, f82_563, f82_565, hk589, hb538, hb540, hb542, hb544, hb546, hb548, hb550, hb552, hb554, by omega, hb560, hb562, hb564, hb566, by omega⟩), fun _ h => absurd h List.not_mem_nil⟩⟩), ((hF474.tr (hF519.up (by decide))).tr ((xFr.of (S := [82, 83, 85, 86, 87]) hb586 (by decide)).tr (xFr.of (S := [82, 83, 85, 86, 87]) hb590 (by decide)))), ⟨fun h => by have := pq599.1 h; omega, (show fld w588 82 10 = 0 ∨ FA w588 ≠ 0 by omega), Or.inr ⟨by have := ms536; omega, by omega, hM602⟩, hD610, pk528.2.2.2.2.tr (K83.fr hF591 (by decide))⟩⟩
        · refine xg_t (xg_icT (u := f82_492) (v := 2) rfl xnm0 xnm0 (xj_neT hc515)) ?_
          refine xg_t (xg_blk (b := [(416, 1, 0, 0, 0, 0), (417, 3, 13, 140, 96, 183)]) rfl) ?_
          refine xg_t (xg_aload (va := (2, 82)) rfl rfl) ?_
          refine xg_cVv mX12_ends (vs := []) (rest := []) (cn1 := 0) (sl1 := 0) rfl (mEnds (hI473) hj476.2.2.2.1) rfl h82_512 rfl rfl rfl rfl rfl rfl (fun w611 hq612 => ?_)
          obtain ⟨hI613, hF614, hx615⟩ := hq612
          clear hb483 hb485 hb487 hb489 hb491 hb493 hb495 hb497 hb499 hb501 hb505 hb507 hb509 hb511
          obtain ⟨hv616, hv617, hv618, hv619, hv620⟩ := hx615
          have pk621 : PK w472 w611 := ⟨fun _ => hv616, by omega, by omega, Or.inr hv616, hv620⟩
          have pk622 : PK w w611 := PK.tr hj476 pk621
          have os623 : ∀ j, (j < 20 + 4 * u45 ∨ 24 + 4 * u45 ≤ j) → j < 140 → rwv w611 86 j = rwv w 86 j := fun j hj hl => (rwv_fr hF614 (by decide)).trans (hj477 j hj hl)
          have rg624 : FA w611 ≠ 0 ∨ u45 < 6 := hj480.imp_left pk621.1
          have mf625 : ∀ s, s < 7 → rwv w611 85 s = rwv w 85 s := fun s hs => (rwv_fr hF614 (by decide)).trans (hj479 s hs)
          have hl626 : rwv w611 86 (20 + 4 * u45 + 0) = rwv w472 86 (20 + 4 * u45 + 0) := rwv_fr hF614 (by decide)
          have hl627 : rwv w611 86 (20 + 4 * u45 + 1) = rwv w472 86 (20 + 4 * u45 + 1) := rwv_fr hF614 (by decide)
          have hl628 : rwv w611 86 (20 + 4 * u45 + 2) = rwv w472 86 (20 + 4 * u45 + 2) := rwv_fr hF614 (by decide)
          have nw629 : FA w611 ≠ 0 ∨ 6 ≤ u45 ∨ (1 ≤ rwv w611 86 (20 + 4 * u45 + 0) ∧ rwv w611 86 (20 + 4 * u45 + 0) ≤ 99 ∧ 1 ≤ rwv w611 86 (20 + 4 * u45 + 1) ∧ rwv w611 86 (20 + 4 * u45 + 1) ≤ 99 ∧ 1 ≤ rwv w611 86 (20 + 4 * u45 + 2) ∧ rwv w611 86 (20 + 4 * u45 + 2) ≤ 99) := by have q := hj481; have q1 := pk621.1; omega
          clear hj481
          have ms630 : mu w611 < mu w := Nat.lt_of_le_of_lt pk621.2.1 hj478
          clear hj480
          refine xg_t (xg_blk (b := [(420, 1, 0, 0, 0, 0), (421, 3, 1, 12, 11, 17), (424, 1, 2, 1, 0, 0), (425, 1, 39, 0, 0, 0), (426, 1, 10, 0, 0, 0), (427, 1, 3, 1, 0, 0), (428, 1, 11, 0, 0, 0), (429, 1, 17, 0, 0, 0), (430, 1, 0, 0, 0, 0), (431, 1, 19, 0, 0, 0), (432, 3, 1, 12, 14, 212), (435, 1, 3, 1, 0, 0), (436, 1, 11, 0, 0, 0), (437, 3, 14, 12, 14, 212), (440, 1, 12, 0, 0, 0)]) rfl) ?_
          obtain ⟨f82_631, f82_633, f82_635, f82_637, f82_639, f82_641, f82_643, f82_645, f82_647, f82_649, f82_651, f82_652, f82_653, f82_655, f82_657, f82_659, h82_661, hb632, hb634, hb636, hb638, hb640, hb642, hb644, hb646, hb648, hb650, hb654, hb656, hb658, hb660, hb662⟩ := (hI613 82 (by decide) (by decide) : cp82 (wget w611 82))
          replace hb634 := xHid.of hb634
          replace hb640 := xHid.of hb640
          replace hb644 := xHid.of hb644
          replace hb646 := xHid.of hb646
          replace hb650 := xHid.of hb650
          replace hb654 := xHid.of hb654
          replace hb656 := xHid.of hb656
          replace hb658 := xHid.of hb658
          replace hb660 := xHid.of hb660
          have hf663 : fld w611 82 4 = f82_635 := fld_of h82_661
          have hf664 : fld w611 82 5 = f82_637 := fld_of h82_661
          have hf665 : fld w611 82 7 = f82_641 := fld_of h82_661
          have hf666 : fld w611 82 10 = f82_647 := fld_of h82_661
          have hf667 : fld w611 82 14 = f82_649 := fld_of h82_661
          have hu668 : mu w611 = 2 * (fld w611 82 4 - fld w611 82 5) + min 1 (fld w611 82 7) := rfl
          have hf669 := pk622.2.2.1
          have hl670 : f82_649 ≤ 1000 := by omega
          refine xg_t (xg_aload (va := (2, 82)) rfl rfl) ?_
          refine xg_t (xg_getf (va := (2, 85)) h82_661 rfl) ?_
          refine xg_t (xg_iload (va := (0, 0)) rfl rfl) ?_
          refine xg_t (xg_dup2 rfl) ?_
          obtain ⟨g85_671, h85_672, hb673⟩ := (hI613 85 (by decide) (by decide) : cpI 7 52 4294967295 (wget w611 85))
          have h85_672 : xRow w611 85 7 52 g85_671 := h85_672
          refine xg_ialdB (n := 0) (B := 4294967295) h85_672 (hb673) xnm0 (by omega) (fun u674 hu675 he676 => ?_)
          have hl677 : u674 = u45 := by have q1 := rwv_of h85_672 (show 0 < 7 by decide); have q2 := mf625 0 (by decide); omega
          refine xg_t (xg_const) ?_
          refine xg_t (xg_iadd (u := u674) (v := 1) (z := u674 + 1) xnm0 xnm0 (by omega)) ?_
          refine xg_iastK (n := 0) (u := u674 + 1) h85_672 xnm0 xnm0 rfl (by omega) (fun w678 hr679 hb680 => ?_)
          refine xg_t (xg_aload (va := (2, 82)) rfl rfl) ?_
          refine xg_t (xg_dup rfl) ?_
          refine xg_t (xg_getf (va := (0, f82_649)) (hb680.get (by decide) h82_661) rfl) ?_
          have hn681 := id hb650
          unfold xHid at hn681
          refine xg_t (xg_const) ?_
          refine xg_t (xg_iadd (u := f82_649) (v := 1) (z := f82_649 + 1) xnm0 xnm0 (by omega)) ?_
          refine xg_putI (fl1 := [(2, 83), (2, 84), (0, f82_631), (0, f82_633), (0, f82_635), (0, f82_637), (0, f82_639), (0, f82_641), (0, f82_643), (0, f82_645), (0, f82_647), (2, 85), (2, 86), (2, 87), (0, f82_649 + 1), (2, 88), (2, 89), (2, 90), (2, 91), (2, 92), (2, 93), (2, 94), (4, f82_651), (4, f82_652), (0, f82_653), (2, 95), (2, 96), (2, 97), (2, 98), (2, 99), (2, 100), (2, 101), (2, 102), (0, f82_655), (2, 103), (2, 104), (2, 105), (2, 106), (2, 107), (2, 108), (2, 109), (0, f82_657), (0, f82_659), (2, 110), (2, 111), (2, 112), (2, 113)]) (hb680.get (by decide) h82_661) rfl rfl rfl (fun w682 hk683 hb684 => ?_)
          have hF685 : xFr [82, 85] w611 w682 := ((xFr.of (S := [82, 85]) hb680 (by decide)).tr (xFr.of (S := [82, 85]) hb684 (by decide)))
          have hA686 := FA_fr hF685 (by decide)
          have hf687 : fld w682 82 4 = f82_635 := fld_of hk683
          have hf688 : fld w682 82 5 = f82_637 := fld_of hk683
          have hf689 : fld w682 82 7 = f82_641 := fld_of hk683
          have hf690 : fld w682 82 10 = f82_647 := fld_of hk683
          have hf691 : fld w682 82 14 = f82_649 + 1 := fld_of hk683
          have hu692 : mu w682 = 2 * (fld w682 82 4 - fld w682 82 5) + min 1 (fld w682 82 7) := rfl
          have pq693 := pk622
          unfold PK PS at pq693
          have hM694 : ∀ s, s < 7 → s ≠ 0 → rwv w682 85 s = rwv w 85 s := fun s hs hn => (rwv_of (hr679.but hb684 (by decide)) hs).trans ((if_neg hn).trans ((rwv_of h85_672 hs).symm.trans (mf625 s hs)))
          have hM695 : rwv w682 85 0 = u45 + 1 := (rwv_of (hr679.but hb684 (by decide)) (by decide)).trans ((if_pos rfl).trans (by omega))
          have hM696 : ∀ s, s < 7 → rwv w682 85 s ≤ rwv w 85 s + 1 := fun s hs => by
            by_cases z : s = 0
            · subst z; omega
            · rw [hM694 s hs z]; omega
          have hO697 : ∀ j, (j < 20 + 4 * u45 ∨ 24 + 4 * u45 ≤ j) → j < 140 → rwv w682 86 j = rwv w 86 j := fun j hj hl => (rwv_fr hF685 (by decide)).trans (os623 j hj hl)
          have hl699 : FA w611 ≠ 0 ∨ u45 < 6 := rg624
          have hl700 : rwv w682 86 (20 + 4 * u45 + 0) = rwv w611 86 (20 + 4 * u45 + 0) := rwv_fr hF685 (by decide)
          have hl701 : rwv w682 86 (20 + 4 * u45 + 1) = rwv w611 86 (20 + 4 * u45 + 1) := rwv_fr hF685 (by decide)
          have hl702 : rwv w682 86 (20 + 4 * u45 + 2) = rwv w611 86 (20 + 4 * u45 + 2) := rwv_fr hF685 (by decide)
          have hN698 : FA w682 ≠ 0 ∨ 6 ≤ u45 ∨ (1 ≤ rwv w682 86 (20 + 4 * u45 + 0) ∧ rwv w682 86 (20 + 4 * u45 + 0) ≤ 99 ∧ 1 ≤ rwv w682 86 (20 + 4 * u45 + 1) ∧ rwv w682 86 (20 + 4 * u45 + 1) ≤ 99 ∧ 1 ≤ rwv w682 86 (20 + 4 * u45 + 2) ∧ rwv w682 86 (20 + 4 * u45 + 2) ≤ 99) := by have q := nw629; omega
          have hX703 : FA w682 ≠ 0 ∨ u45 < 6 := by omega
          have hD704 : FA w682 ≠ 0 ∨ (DATA w → DATA w682) := by
            by_cases z : FA w682 ≠ 0
            · exact Or.inl z
            · exact Or.inr (fun hd => hd.s0 hM694 hK48 hM695 (hX703.resolve_left z) hO697 ((hN698.resolve_left z).resolve_left (by have := hX703.resolve_left z; omega)))
          exact xg_e ⟨w682, ⟨rfl, rfl⟩, xMnv.up (S := [85, 82]) hI613 ((xFr.of (S := [85, 82]) hb680 (by decide)).tr (xFr.of (S := [85, 82]) hb684 (by decide))) (List.forall_mem_cons.mpr ⟨(show cpI 7 52 4294967295 (wget w682 85) from ⟨_, (hr679.but hb684 (by decide)), xrb (by omega) (hb673)⟩), List.forall_mem_cons.mpr ⟨(show cp82 (wget w682 82) from ⟨f82_631, f82_633, f82_635, f82_637, f82_639, f82_641, f82_643, f82_645, f82_647, f82_649 + 1, f82_651, f82_652, f82_653, f82_655, f82_657, f82_659, hk683, hb632, hb634, hb636, hb638, hb640, hb642, hb644, hb646, hb648, by omega, hb654, hb656, hb658, hb660, by omega⟩), fun _ h => absurd h List.not_mem_nil⟩⟩), ((hF474.tr (hF614.up (by decide))).tr ((xFr.of (S := [82, 83, 85, 86, 87]) hb680 (by decide)).tr (xFr.of (S := [82, 83, 85, 86, 87]) hb684 (by decide)))), ⟨fun h => by have := pq693.1 h; omega, (show fld w682 82 10 = 0 ∨ FA w682 ≠ 0 by omega), Or.inr ⟨by have := ms630; omega, by omega, hM696⟩, hD704, pk622.2.2.2.2.tr (K83.fr hF685 (by decide))⟩⟩
      · refine xg_t (xg_ifT (u := f82_498) rfl xnm0 (xj_neT hc514)) ?_
        refine xg_t (xg_blk (b := [(416, 1, 0, 0, 0, 0), (417, 3, 13, 140, 96, 183)]) rfl) ?_
        refine xg_t (xg_aload (va := (2, 82)) rfl rfl) ?_
        refine xg_cVv mX12_ends (vs := []) (rest := []) (cn1 := 0) (sl1 := 0) rfl (mEnds (hI473) hj476.2.2.2.1) rfl h82_512 rfl rfl rfl rfl rfl rfl (fun w705 hq706 => ?_)
        obtain ⟨hI707, hF708, hx709⟩ := hq706
        clear hb483 hb485 hb487 hb489 hb491 hb493 hb495 hb497 hb499 hb501 hb505 hb507 hb509 hb511
        obtain ⟨hv710, hv711, hv712, hv713, hv714⟩ := hx709
        have pk715 : PK w472 w705 := ⟨fun _ => hv710, by omega, by omega, Or.inr hv710, hv714⟩
        have pk716 : PK w w705 := PK.tr hj476 pk715
        have os717 : ∀ j, (j < 20 + 4 * u45 ∨ 24 + 4 * u45 ≤ j) → j < 140 → rwv w705 86 j = rwv w 86 j := fun j hj hl => (rwv_fr hF708 (by decide)).trans (hj477 j hj hl)
        have rg718 : FA w705 ≠ 0 ∨ u45 < 6 := hj480.imp_left pk715.1
        have mf719 : ∀ s, s < 7 → rwv w705 85 s = rwv w 85 s := fun s hs => (rwv_fr hF708 (by decide)).trans (hj479 s hs)
        have hl720 : rwv w705 86 (20 + 4 * u45 + 0) = rwv w472 86 (20 + 4 * u45 + 0) := rwv_fr hF708 (by decide)
        have hl721 : rwv w705 86 (20 + 4 * u45 + 1) = rwv w472 86 (20 + 4 * u45 + 1) := rwv_fr hF708 (by decide)
        have hl722 : rwv w705 86 (20 + 4 * u45 + 2) = rwv w472 86 (20 + 4 * u45 + 2) := rwv_fr hF708 (by decide)
        have nw723 : FA w705 ≠ 0 ∨ 6 ≤ u45 ∨ (1 ≤ rwv w705 86 (20 + 4 * u45 + 0) ∧ rwv w705 86 (20 + 4 * u45 + 0) ≤ 99 ∧ 1 ≤ rwv w705 86 (20 + 4 * u45 + 1) ∧ rwv w705 86 (20 + 4 * u45 + 1) ≤ 99 ∧ 1 ≤ rwv w705 86 (20 + 4 * u45 + 2) ∧ rwv w705 86 (20 + 4 * u45 + 2) ≤ 99) := by have q := hj481; have q1 := pk715.1; omega
        clear hj481
        have ms724 : mu w705 < mu w := Nat.lt_of_le_of_lt pk715.2.1 hj478
        clear hj480
        refine xg_t (xg_blk (b := [(420, 1, 0, 0, 0, 0), (421, 3, 1, 12, 11, 17), (424, 1, 2, 1, 0, 0), (425, 1, 39, 0, 0, 0), (426, 1, 10, 0, 0, 0), (427, 1, 3, 1, 0, 0), (428, 1, 11, 0, 0, 0), (429, 1, 17, 0, 0, 0), (430, 1, 0, 0, 0, 0), (431, 1, 19, 0, 0, 0), (432, 3, 1, 12, 14, 212), (435, 1, 3, 1, 0, 0), (436, 1, 11, 0, 0, 0), (437, 3, 14, 12, 14, 212), (440, 1, 12, 0, 0, 0)]) rfl) ?_
        obtain ⟨f82_725, f82_727, f82_729, f82_731, f82_733, f82_735, f82_737, f82_739, f82_741, f82_743, f82_745, f82_746, f82_747, f82_749, f82_751, f82_753, h82_755, hb726, hb728, hb730, hb732, hb734, hb736, hb738, hb740, hb742, hb744, hb748, hb750, hb752, hb754, hb756⟩ := (hI707 82 (by decide) (by decide) : cp82 (wget w705 82))
        replace hb728 := xHid.of hb728
        replace hb734 := xHid.of hb734
        replace hb738 := xHid.of hb738
        replace hb740 := xHid.of hb740
        replace hb744 := xHid.of hb744
        replace hb748 := xHid.of hb748
        replace hb750 := xHid.of hb750
        replace hb752 := xHid.of hb752
        replace hb754 := xHid.of hb754
        have hf757 : fld w705 82 4 = f82_729 := fld_of h82_755
        have hf758 : fld w705 82 5 = f82_731 := fld_of h82_755
        have hf759 : fld w705 82 7 = f82_735 := fld_of h82_755
        have hf760 : fld w705 82 10 = f82_741 := fld_of h82_755
        have hf761 : fld w705 82 14 = f82_743 := fld_of h82_755
        have hu762 : mu w705 = 2 * (fld w705 82 4 - fld w705 82 5) + min 1 (fld w705 82 7) := rfl
        have hf763 := pk716.2.2.1
        have hl764 : f82_743 ≤ 1000 := by omega
        refine xg_t (xg_aload (va := (2, 82)) rfl rfl) ?_
        refine xg_t (xg_getf (va := (2, 85)) h82_755 rfl) ?_
        refine xg_t (xg_iload (va := (0, 0)) rfl rfl) ?_
        refine xg_t (xg_dup2 rfl) ?_
        obtain ⟨g85_765, h85_766, hb767⟩ := (hI707 85 (by decide) (by decide) : cpI 7 52 4294967295 (wget w705 85))
        have h85_766 : xRow w705 85 7 52 g85_765 := h85_766
        refine xg_ialdB (n := 0) (B := 4294967295) h85_766 (hb767) xnm0 (by omega) (fun u768 hu769 he770 => ?_)
        have hl771 : u768 = u45 := by have q1 := rwv_of h85_766 (show 0 < 7 by decide); have q2 := mf719 0 (by decide); omega
        refine xg_t (xg_const) ?_
        refine xg_t (xg_iadd (u := u768) (v := 1) (z := u768 + 1) xnm0 xnm0 (by omega)) ?_
        refine xg_iastK (n := 0) (u := u768 + 1) h85_766 xnm0 xnm0 rfl (by omega) (fun w772 hr773 hb774 => ?_)
        refine xg_t (xg_aload (va := (2, 82)) rfl rfl) ?_
        refine xg_t (xg_dup rfl) ?_
        refine xg_t (xg_getf (va := (0, f82_743)) (hb774.get (by decide) h82_755) rfl) ?_
        have hn775 := id hb744
        unfold xHid at hn775
        refine xg_t (xg_const) ?_
        refine xg_t (xg_iadd (u := f82_743) (v := 1) (z := f82_743 + 1) xnm0 xnm0 (by omega)) ?_
        refine xg_putI (fl1 := [(2, 83), (2, 84), (0, f82_725), (0, f82_727), (0, f82_729), (0, f82_731), (0, f82_733), (0, f82_735), (0, f82_737), (0, f82_739), (0, f82_741), (2, 85), (2, 86), (2, 87), (0, f82_743 + 1), (2, 88), (2, 89), (2, 90), (2, 91), (2, 92), (2, 93), (2, 94), (4, f82_745), (4, f82_746), (0, f82_747), (2, 95), (2, 96), (2, 97), (2, 98), (2, 99), (2, 100), (2, 101), (2, 102), (0, f82_749), (2, 103), (2, 104), (2, 105), (2, 106), (2, 107), (2, 108), (2, 109), (0, f82_751), (0, f82_753), (2, 110), (2, 111), (2, 112), (2, 113)]) (hb774.get (by decide) h82_755) rfl rfl rfl (fun w776 hk777 hb778 => ?_)
        have hF779 : xFr [82, 85] w705 w776 := ((xFr.of (S := [82, 85]) hb774 (by decide)).tr (xFr.of (S := [82, 85]) hb778 (by decide)))
        have hA780 := FA_fr hF779 (by decide)
        have hf781 : fld w776 82 4 = f82_729 := fld_of hk777
        have hf782 : fld w776 82 5 = f82_731 := fld_of hk777
        have hf783 : fld w776 82 7 = f82_735 := fld_of hk777
        have hf784 : fld w776 82 10 = f82_741 := fld_of hk777
        have hf785 : fld w776 82 14 = f82_743 + 1 := fld_of hk777
        have hu786 : mu w776 = 2 * (fld w776 82 4 - fld w776 82 5) + min 1 (fld w776 82 7) := rfl
        have pq787 := pk716
        unfold PK PS at pq787
        have hM788 : ∀ s, s < 7 → s ≠ 0 → rwv w776 85 s = rwv w 85 s := fun s hs hn => (rwv_of (hr773.but hb778 (by decide)) hs).trans ((if_neg hn).trans ((rwv_of h85_766 hs).symm.trans (mf719 s hs)))
        have hM789 : rwv w776 85 0 = u45 + 1 := (rwv_of (hr773.but hb778 (by decide)) (by decide)).trans ((if_pos rfl).trans (by omega))
        have hM790 : ∀ s, s < 7 → rwv w776 85 s ≤ rwv w 85 s + 1 := fun s hs => by
          by_cases z : s = 0
          · subst z; omega
          · rw [hM788 s hs z]; omega
        have hO791 : ∀ j, (j < 20 + 4 * u45 ∨ 24 + 4 * u45 ≤ j) → j < 140 → rwv w776 86 j = rwv w 86 j := fun j hj hl => (rwv_fr hF779 (by decide)).trans (os717 j hj hl)
        have hl793 : FA w705 ≠ 0 ∨ u45 < 6 := rg718
        have hl794 : rwv w776 86 (20 + 4 * u45 + 0) = rwv w705 86 (20 + 4 * u45 + 0) := rwv_fr hF779 (by decide)
        have hl795 : rwv w776 86 (20 + 4 * u45 + 1) = rwv w705 86 (20 + 4 * u45 + 1) := rwv_fr hF779 (by decide)
        have hl796 : rwv w776 86 (20 + 4 * u45 + 2) = rwv w705 86 (20 + 4 * u45 + 2) := rwv_fr hF779 (by decide)
        have hN792 : FA w776 ≠ 0 ∨ 6 ≤ u45 ∨ (1 ≤ rwv w776 86 (20 + 4 * u45 + 0) ∧ rwv w776 86 (20 + 4 * u45 + 0) ≤ 99 ∧ 1 ≤ rwv w776 86 (20 + 4 * u45 + 1) ∧ rwv w776 86 (20 + 4 * u45 + 1) ≤ 99 ∧ 1 ≤ rwv w776 86 (20 + 4 * u45 + 2) ∧ rwv w776 86 (20 + 4 * u45 + 2) ≤ 99) := by have q := nw723; omega
        have hX797 : FA w776 ≠ 0 ∨ u45 < 6 := by omega
        have hD798 : FA w776 ≠ 0 ∨ (DATA w → DATA w776) := by
          by_cases z : FA w776 ≠ 0
          · exact Or.inl z
          · exact Or.inr (fun hd => hd.s0 hM788 hK48 hM789 (hX797.resolve_left z) hO791 ((hN792.resolve_left z).resolve_left (by have := hX797.resolve_left z; omega)))
        exact xg_e ⟨w776, ⟨rfl, rfl⟩, xMnv.up (S := [85, 82]) hI707 ((xFr.of (S := [85, 82]) hb774 (by decide)).tr (xFr.of (S := [85, 82]) hb778 (by decide))) (List.forall_mem_cons.mpr ⟨(show cpI 7 52 4294967295 (wget w776 85) from ⟨_, (hr773.but hb778 (by decide)), xrb (by omega) (hb767)⟩), List.forall_mem_cons.mpr ⟨(show cp82 (wget w776 82) from ⟨f82_725, f82_727, f82_729, f82_731, f82_733, f82_735, f82_737, f82_739, f82_741, f82_743 + 1, f82_745, f82_746, f82_747, f82_749, f82_751, f82_753, hk777, hb726, hb728, hb730, hb732, hb734, hb736, hb738, hb740, hb742, by omega, hb748, hb750, hb752, hb754, by omega⟩), fun _ h => absurd h List.not_mem_nil⟩⟩), ((hF474.tr (hF708.up (by decide))).tr ((xFr.of (S := [82, 83, 85, 86, 87]) hb774 (by decide)).tr (xFr.of (S := [82, 83, 85, 86, 87]) hb778 (by decide)))), ⟨fun h => by have := pq787.1 h; omega, (show fld w776 82 10 = 0 ∨ FA w776 ≠ 0 by omega), Or.inr ⟨by have := ms724; omega, by omega, hM790⟩, hD798, pk716.2.2.2.2.tr (K83.fr hF779 (by decide))⟩⟩
    refine xg_t (xg_iload (va := (0, 0)) rfl rfl) ?_
    refine xg_t (xg_swt (ks := [(0, 108), (1, 116), (2, 180), (3, 221), (4, 273), (5, 326)]) (u := 0) (z := 108) rfl rfl rfl xnm0 (xsw_y rfl)) ?_
    refine xg_t (xg_blk (b := [(108, 1, 0, 0, 0, 0), (109, 1, 2, 3, 0, 0), (110, 3, 13, 106, 96, 204), (113, 3, 8, 394, 0, 0)]) rfl) ?_
    refine xg_t (xg_aload (va := (2, 82)) rfl rfl) ?_
    refine xg_t (xg_iload (va := (0, u45)) rfl rfl) ?_
    obtain ⟨f82_799, f82_801, f82_803, f82_805, f82_807, f82_809, f82_811, f82_813, f82_815, f82_817, f82_819, f82_820, f82_821, f82_823, f82_825, f82_827, h82_829, hb800, hb802, hb804, hb806, hb808, hb810, hb812, hb814, hb816, hb818, hb822, hb824, hb826, hb828, hb830⟩ := (hI456 82 (by decide) (by decide) : cp82 (wget w454 82))
    replace hb802 := xHid.of hb802
    replace hb808 := xHid.of hb808
    replace hb812 := xHid.of hb812
    replace hb814 := xHid.of hb814
    replace hb818 := xHid.of hb818
    replace hb822 := xHid.of hb822
    replace hb824 := xHid.of hb824
    replace hb826 := xHid.of hb826
    replace hb828 := xHid.of hb828
    refine xg_cVv mX12_aLayer (vs := [(0, u45)]) (rest := []) (cn1 := 0) (sl1 := 0) rfl (mALayer (hI456) (by omega) pk466.2.2.2.1) rfl h82_829 rfl rfl rfl rfl rfl rfl (fun w831 hq832 => ?_)
    obtain ⟨hI833, hF834, hx835⟩ := hq832
    clear hb800 hb802 hb804 hb806 hb808 hb810 hb812 hb814 hb816 hb818 hb822 hb824 hb826 hb828
    obtain ⟨pk836, os837, ly838⟩ := hx835
    have pk839 : PK w w831 := PK.tr pk466 pk836
    have os840 : ∀ j, (j < 20 + 4 * u45 ∨ 24 + 4 * u45 ≤ j) → j < 140 → rwv w831 86 j = rwv w 86 j := fun j hj hl => (os837 j hj hl).trans (os467 j hj hl)
    have rg841 : FA w831 ≠ 0 ∨ 0 = 1 := rg468.imp_left pk836.1
    have mf842 : ∀ s, s < 7 → rwv w831 85 s = rwv w 85 s := fun s hs => (rwv_fr hF834 (by decide)).trans (mf469 s hs)
    have ms843 : mu w831 < mu w := Nat.lt_of_le_of_lt pk836.2.1 ms470
    clear rg468
    refine xg_t (xg_goto) ?_
    refine xg_t (xg_drop (l1 := [(0, (2, 82)), (1, (0, 0)), (3, (0, u45))]) (List.forall_mem_cons.mpr ⟨List.mem_cons_of_mem _ (List.mem_cons_of_mem _ (List.mem_cons_of_mem _ (List.mem_cons_self))), List.forall_mem_cons.mpr ⟨List.mem_cons_of_mem _ (List.mem_cons_of_mem _ (List.mem_cons_self)), List.forall_mem_cons.mpr ⟨List.mem_cons_self, fun _ h => absurd h List.not_mem_nil⟩⟩⟩)) ?_
    have hX844 : FA w831 ≠ 0 ∨ u45 < 6 := Or.inl (by have q := rg841; omega)
    exact jn471 w831 (hI833) ((((hF445.up (by decide)).tr (hF457.up (by decide))).tr (hF834.up (by decide)))) (⟨pk839, os840, ms843, mf842, hX844, ly838⟩)
end XMB
