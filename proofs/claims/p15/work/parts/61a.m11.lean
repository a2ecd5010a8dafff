/-! the model: lines of films -/
def DATA (w : List (List xE)) : Prop := rwv w 85 0 ≤ 6 ∧ rwv w 85 1 ≤ 4 ∧ rwv w 85 2 ≤ 6 ∧ rwv w 85 3 ≤ 4 ∧ rwv w 85 4 ≤ 20 ∧ (1 ≤ rwv w 86 5 ∧ rwv w 86 5 ≤ 6) ∧ (1 ≤ rwv w 86 6 ∧ rwv w 86 6 ≤ 6) ∧ (1 ≤ rwv w 86 7 ∧ rwv w 86 7 ≤ 10) ∧ (1 ≤ rwv w 86 8 ∧ rwv w 86 8 ≤ 10) ∧ (∀ k i, k < rwv w 85 0 → i < 3 → 1 ≤ rwv w 86 (20 + 4 * k + i) ∧ rwv w 86 (20 + 4 * k + i) ≤ 99) ∧ ∀ k, k < rwv w 85 1 → 1 ≤ rwv w 86 (51 + 2 * k) ∧ rwv w 86 (51 + 2 * k) ≤ 999
theorem DATA.s0 {w w' : List (List xE)} {K : Nat} (h : DATA w) (hm : ∀ s, s < 7 → s ≠ 0 → rwv w' 85 s = rwv w 85 s) (hK : rwv w 85 0 = K) (hK' : rwv w' 85 0 = K + 1) (hl : K < 6) (hos : ∀ j, (j < 20 + 4 * K ∨ 24 + 4 * K ≤ j) → j < 140 → rwv w' 86 j = rwv w 86 j) (hn : 1 ≤ rwv w' 86 (20 + 4 * K + 0) ∧ rwv w' 86 (20 + 4 * K + 0) ≤ 99 ∧ 1 ≤ rwv w' 86 (20 + 4 * K + 1) ∧ rwv w' 86 (20 + 4 * K + 1) ≤ 99 ∧ 1 ≤ rwv w' 86 (20 + 4 * K + 2) ∧ rwv w' 86 (20 + 4 * K + 2) ≤ 99) : DATA w' := by
  obtain ⟨m0, m1, m2, m3, m4, r5, r6, r7, r8, d0, d1⟩ := h
  have e1 := hm 1 (by decide) (by decide)
  have e2 := hm 2 (by decide) (by decide)
  have e3 := hm 3 (by decide) (by decide)
  have e4 := hm 4 (by decide) (by decide)
  have f5 := hos 5 (by omega) (by decide)
  have f6 := hos 6 (by omega) (by decide)
  have f7 := hos 7 (by omega) (by decide)
  have f8 := hos 8 (by omega) (by decide)
  refine ⟨by omega, by omega, by omega, by omega, by omega, by omega, by omega, by omega, by omega, fun k i hk hi => ?_, fun k hk => ?_⟩
  · by_cases z : k = K
    · subst z
      rcases (show i = 0 ∨ i = 1 ∨ i = 2 by omega) with rfl | rfl | rfl <;> omega
    · rw [hos _ (by omega) (by omega)]
      exact d0 k i (by omega) hi
  · rw [hos _ (by omega) (by omega)]
    exact d1 k (by omega)
theorem DATA.s1 {w w' : List (List xE)} {K : Nat} (h : DATA w) (hm : ∀ s, s < 7 → s ≠ 1 → rwv w' 85 s = rwv w 85 s) (hK : rwv w 85 1 = K) (hK' : rwv w' 85 1 = K + 1) (hl : K < 4) (hos : ∀ j, (j < 50 + 2 * K ∨ 52 + 2 * K ≤ j) → j < 140 → rwv w' 86 j = rwv w 86 j) (hn : 1 ≤ rwv w' 86 (50 + 2 * K + 1) ∧ rwv w' 86 (50 + 2 * K + 1) ≤ 999) : DATA w' := by
  obtain ⟨m0, m1, m2, m3, m4, r5, r6, r7, r8, d0, d1⟩ := h
  have e0 := hm 0 (by decide) (by decide)
  have e2 := hm 2 (by decide) (by decide)
  have e3 := hm 3 (by decide) (by decide)
  have e4 := hm 4 (by decide) (by decide)
  have f5 := hos 5 (by omega) (by decide)
  have f6 := hos 6 (by omega) (by decide)
  have f7 := hos 7 (by omega) (by decide)
  have f8 := hos 8 (by omega) (by decide)
  refine ⟨by omega, by omega, by omega, by omega, by omega, by omega, by omega, by omega, by omega, fun k i hk hi => ?_, fun k hk => ?_⟩
  · rw [hos _ (by omega) (by omega)]
    exact d0 k i (by omega) hi
  · by_cases z : k = K
    · subst z
      have e : 51 + 2 * k = 50 + 2 * k + 1 := by omega
      rw [e]
      exact hn
    · rw [hos _ (by omega) (by omega)]
      exact d1 k (by omega)
theorem DATA.s2 {w w' : List (List xE)} {K : Nat} (h : DATA w) (hm : ∀ s, s < 7 → s ≠ 2 → rwv w' 85 s = rwv w 85 s) (hK : rwv w 85 2 = K) (hK' : rwv w' 85 2 = K + 1) (hl : K < 6) (hos : ∀ j, (j < 60 + 2 * K ∨ 62 + 2 * K ≤ j) → j < 140 → rwv w' 86 j = rwv w 86 j) (hn : True) : DATA w' := by
  obtain ⟨m0, m1, m2, m3, m4, r5, r6, r7, r8, d0, d1⟩ := h
  have e0 := hm 0 (by decide) (by decide)
  have e1 := hm 1 (by decide) (by decide)
  have e3 := hm 3 (by decide) (by decide)
  have e4 := hm 4 (by decide) (by decide)
  have f5 := hos 5 (by omega) (by decide)
  have f6 := hos 6 (by omega) (by decide)
  have f7 := hos 7 (by omega) (by decide)
  have f8 := hos 8 (by omega) (by decide)
  refine ⟨by omega, by omega, by omega, by omega, by omega, by omega, by omega, by omega, by omega, fun k i hk hi => ?_, fun k hk => ?_⟩
  · rw [hos _ (by omega) (by omega)]
    exact d0 k i (by omega) hi
  · rw [hos _ (by omega) (by omega)]
    exact d1 k (by omega)
theorem DATA.s3 {w w' : List (List xE)} {K : Nat} (h : DATA w) (hm : ∀ s, s < 7 → s ≠ 3 → rwv w' 85 s = rwv w 85 s) (hK : rwv w 85 3 = K) (hK' : rwv w' 85 3 = K + 1) (hl : K < 4) (hos : ∀ j, (j < 80 + 3 * K ∨ 83 + 3 * K ≤ j) → j < 140 → rwv w' 86 j = rwv w 86 j) (hn : True) : DATA w' := by
  obtain ⟨m0, m1, m2, m3, m4, r5, r6, r7, r8, d0, d1⟩ := h
  have e0 := hm 0 (by decide) (by decide)
  have e1 := hm 1 (by decide) (by decide)
  have e2 := hm 2 (by decide) (by decide)
  have e4 := hm 4 (by decide) (by decide)
  have f5 := hos 5 (by omega) (by decide)
  have f6 := hos 6 (by omega) (by decide)
  have f7 := hos 7 (by omega) (by decide)
  have f8 := hos 8 (by omega) (by decide)
  refine ⟨by omega, by omega, by omega, by omega, by omega, by omega, by omega, by omega, by omega, fun k i hk hi => ?_, fun k hk => ?_⟩
  · rw [hos _ (by omega) (by omega)]
    exact d0 k i (by omega) hi
  · rw [hos _ (by omega) (by omega)]
    exact d1 k (by omega)
theorem DATA.s4 {w w' : List (List xE)} {K : Nat} (h : DATA w) (hm : ∀ s, s < 7 → s ≠ 4 → rwv w' 85 s = rwv w 85 s) (hK : rwv w 85 4 = K) (hK' : rwv w' 85 4 = K + 1) (hl : K < 20) (hos : ∀ j, (j < 100 + 2 * K ∨ 102 + 2 * K ≤ j) → j < 140 → rwv w' 86 j = rwv w 86 j) (hn : True) : DATA w' := by
  obtain ⟨m0, m1, m2, m3, m4, r5, r6, r7, r8, d0, d1⟩ := h
  have e0 := hm 0 (by decide) (by decide)
  have e1 := hm 1 (by decide) (by decide)
  have e2 := hm 2 (by decide) (by decide)
  have e3 := hm 3 (by decide) (by decide)
  have f5 := hos 5 (by omega) (by decide)
  have f6 := hos 6 (by omega) (by decide)
  have f7 := hos 7 (by omega) (by decide)
  have f8 := hos 8 (by omega) (by decide)
  refine ⟨by omega, by omega, by omega, by omega, by omega, by omega, by omega, by omega, by omega, fun k i hk hi => ?_, fun k hk => ?_⟩
  · rw [hos _ (by omega) (by omega)]
    exact d0 k i (by omega) hi
  · rw [hos _ (by omega) (by omega)]
    exact d1 k (by omega)
theorem DATA.s5 {w w' : List (List xE)} {K : Nat} (h : DATA w) (hm : ∀ s, s < 7 → s ≠ 5 → rwv w' 85 s = rwv w 85 s) (hK : rwv w 85 5 = K) (hK' : rwv w' 85 5 = K + 1) (hl : K < 1) (hos : ∀ j, (j < 7 ∨ 9 ≤ j) → j < 140 → rwv w' 86 j = rwv w 86 j) (hn : 1 ≤ rwv w' 86 7 ∧ rwv w' 86 7 ≤ 10 ∧ 1 ≤ rwv w' 86 8 ∧ rwv w' 86 8 ≤ 10) : DATA w' := by
  obtain ⟨m0, m1, m2, m3, m4, r5, r6, r7, r8, d0, d1⟩ := h
  have e0 := hm 0 (by decide) (by decide)
  have e1 := hm 1 (by decide) (by decide)
  have e2 := hm 2 (by decide) (by decide)
  have e3 := hm 3 (by decide) (by decide)
  have e4 := hm 4 (by decide) (by decide)
  have f5 := hos 5 (by omega) (by decide)
  have f6 := hos 6 (by omega) (by decide)
  refine ⟨by omega, by omega, by omega, by omega, by omega, by omega, by omega, by omega, by omega, fun k i hk hi => ?_, fun k hk => ?_⟩
  · rw [hos _ (by omega) (by omega)]
    exact d0 k i (by omega) hi
  · rw [hos _ (by omega) (by omega)]
    exact d1 k (by omega)
theorem DATA.s6 {w w' : List (List xE)} {K : Nat} (h : DATA w) (hm : ∀ s, s < 7 → s ≠ 6 → rwv w' 85 s = rwv w 85 s) (hK : rwv w 85 6 = K) (hK' : rwv w' 85 6 = K + 1) (hl : K < 1) (hos : ∀ j, (j < 5 ∨ 7 ≤ j) → j < 140 → rwv w' 86 j = rwv w 86 j) (hn : 1 ≤ rwv w' 86 5 ∧ rwv w' 86 5 ≤ 6 ∧ 1 ≤ rwv w' 86 6 ∧ rwv w' 86 6 ≤ 6) : DATA w' := by
  obtain ⟨m0, m1, m2, m3, m4, r5, r6, r7, r8, d0, d1⟩ := h
  have e0 := hm 0 (by decide) (by decide)
  have e1 := hm 1 (by decide) (by decide)
  have e2 := hm 2 (by decide) (by decide)
  have e3 := hm 3 (by decide) (by decide)
  have e4 := hm 4 (by decide) (by decide)
  have f7 := hos 7 (by omega) (by decide)
  have f8 := hos 8 (by omega) (by decide)
  refine ⟨by omega, by omega, by omega, by omega, by omega, by omega, by omega, by omega, by omega, fun k i hk hi => ?_, fun k hk => ?_⟩
  · rw [hos _ (by omega) (by omega)]
    exact d0 k i (by omega) hi
  · rw [hos _ (by omega) (by omega)]
    exact d1 k (by omega)
section XMB
variable {d : Nat} {w : List (List xE)} {bd : List (Nat × Nat)} {fc : List (Nat × Nat × Bool)} {rr : Nat × Nat}
theorem mLifeTold {sa kk : Nat} (hI : xMnv w) (hsa : sa ≤ 4294967295) (hkk : kk ≤ 1001) : xPi d mX12_isLifeTold [(2, 82), (0, sa), (0, kk)] w bd fc rr (fun n w' => (n ≤ 1) ∧ xMnv w' ∧ xFr [] w w') := by
  refine xPi.of ?_
  show xTo d mX12_isLifeTold (0, [], [(0, (2, 82)), (1, (0, sa)), (2, (0, kk))], [], (w, bd, fc, 0, 0, rr)) (fun φ => ∃ n w', xEnd 4 [(0, n)] (w', bd, fc, 0, 0, rr) φ ∧ (n ≤ 1) ∧ xMnv w' ∧ xFr [] w w')
  obtain ⟨f82_1, f82_3, f82_5, f82_7, f82_9, f82_11, f82_13, f82_15, f82_17, f82_19, f82_21, f82_22, f82_23, f82_25, f82_27, f82_29, h82_31, hb2, hb4, hb6, hb8, hb10, hb12, hb14, hb16, hb18, hb20, hb24, hb26, hb28, hb30, hb32⟩ := (hI 82 (by decide) (by decide) : cp82 (wget w 82))
  obtain ⟨g86_33, h86_34, hb35⟩ := (hI 86 (by decide) (by decide) : cpI 140 53 4294967295 (wget w 86))
  have h86_34 : xRow w 86 140 53 g86_33 := h86_34
  refine xg_t (xg_blk (b := [(0, 1, 3, 0, 0, 0), (1, 1, 15, 3, 0, 0), (2, 1, 3, 0, 0, 0), (3, 2, 15, 4, 0, 0)]) rfl) ?_
  refine xg_t (xg_const) ?_
  refine xg_t (xg_istore (l1 := [(0, (2, 82)), (1, (0, sa)), (2, (0, kk))]) rfl rfl rfl) ?_
  refine xg_t (xg_const) ?_
  refine xg_t (xg_istore (l1 := [(3, (0, 0)), (0, (2, 82)), (1, (0, sa)), (2, (0, kk))]) rfl rfl rfl) ?_
  refine xg_t (xg_drop (l1 := [(0, (2, 82)), (1, (0, sa)), (2, (0, kk)), (3, (0, 0)), (4, (0, 0))]) (List.forall_mem_cons.mpr ⟨List.mem_cons_of_mem _ (List.mem_cons_of_mem _ (List.mem_cons_self)), List.forall_mem_cons.mpr ⟨List.mem_cons_of_mem _ (List.mem_cons_of_mem _ (List.mem_cons_of_mem _ (List.mem_cons_self))), List.forall_mem_cons.mpr ⟨List.mem_cons_of_mem _ (List.mem_cons_of_mem _ (List.mem_cons_of_mem _ (List.mem_cons_of_mem _ (List.mem_cons_self)))), List.forall_mem_cons.mpr ⟨List.mem_cons_of_mem _ (List.mem_cons_self), List.forall_mem_cons.mpr ⟨List.mem_cons_self, fun _ h => absurd h List.not_mem_nil⟩⟩⟩⟩⟩)) ?_
  have key36 : ∀ (m38 : Nat) (is_ ji : Nat) (w39 : List (List xE)), 4 - ji < m38 → is_ ≤ 1 → ji ≤ 4 → xMnv w39 → xFr [] w w39 → xTo d mX12_isLifeTold (5, [], [(0, (2, 82)), (1, (0, sa)), (2, (0, kk)), (3, (0, is_)), (4, (0, ji))], [], (w39, bd, fc, 0, 0, rr)) (fun φ => ∃ n w', xEnd 4 [(0, n)] (w', bd, fc, 0, 0, rr) φ ∧ (n ≤ 1) ∧ xMnv w' ∧ xFr [] w w') := by
    intro m38
    induction m38 with
    | zero => intro is_ ji w39 hz; exact absurd hz (Nat.not_lt_zero _)
    | succ m38 ih37 =>
      intro is_ ji w39 hm44 hn42 hn43 hI40 hF41
      refine xg_t (xg_blk (b := [(5, 2, 2, 4, 0, 0), (7, 1, 2, 2, 0, 0), (8, 3, 6, 49, 3, 0), (11, 2, 2, 4, 0, 0), (13, 1, 3, 4, 0, 0), (14, 3, 6, 49, 3, 0), (17, 1, 2, 3, 0, 0), (18, 3, 7, 37, 1, 0), (21, 1, 0, 0, 0, 0), (22, 3, 1, 12, 12, 20), (25, 2, 4, 50, 0, 0), (27, 1, 3, 2, 0, 0), (28, 2, 2, 4, 0, 0), (30, 1, 16, 0, 0, 0), (31, 1, 11, 0, 0, 0), (32, 1, 10, 0, 0, 0), (33, 1, 2, 1, 0, 0), (34, 3, 6, 41, 1, 0)]) rfl) ?_
      refine xg_t (xg_iload (va := (0, ji)) rfl rfl) ?_
      refine xg_t (xg_iload (va := (0, kk)) rfl rfl) ?_
      by_cases hc45 : ji < kk
      · refine xg_t (xg_icF (u := ji) (v := kk) rfl xnm0 xnm0 (xj_geF hc45 (by omega))) ?_
        refine xg_t (xg_iload (va := (0, ji)) rfl rfl) ?_
        refine xg_t (xg_const) ?_
        by_cases hc46 : ji < 4
        · refine xg_t (xg_icF (u := ji) (v := 4) rfl xnm0 xnm0 (xj_geF hc46 (by omega))) ?_
          refine xg_t (xg_iload (va := (0, is_)) rfl rfl) ?_
          by_cases hc47 : is_ = 0
          · refine xg_t (xg_ifF (u := is_) rfl xnm0 (xj_neF hc47)) ?_
            refine xg_t (xg_aload (va := (2, 82)) rfl rfl) ?_
            refine xg_t (xg_getf (va := (2, 86)) (hF41.get (by decide) h82_31) rfl) ?_
            refine xg_t (xg_bip) ?_
            refine xg_t (xg_const) ?_
            refine xg_t (xg_iload (va := (0, ji)) rfl rfl) ?_
            refine xg_t (xg_imul (u := 2) (v := ji) (z := 2 * ji) xnm0 xnm0 (by omega)) ?_
            refine xg_t (xg_iadd (u := 50) (v := 2 * ji) (z := 50 + (2 * ji)) xnm0 xnm0 (by omega)) ?_
            refine xg_ialdB (n := 50 + (2 * ji)) (B := 4294967295) (h86_34.fr hF41 (by decide)) (hb35) xnm0 (by omega) (fun u48 hu49 he50 => ?_)
            refine xg_t (xg_iload (va := (0, sa)) rfl rfl) ?_
            by_cases hc51 : u48 = sa
            · refine xg_t (xg_icF (u := u48) (v := sa) rfl xnm0 xnm0 (xj_neF hc51)) ?_
              refine xg_t (xg_blk (b := [(37, 1, 3, 1, 0, 0), (38, 3, 8, 42, 0, 0)]) rfl) ?_
              refine xg_t (xg_const) ?_
              refine xg_t (xg_goto) ?_
              refine xg_t (xg_blk (b := [(42, 1, 15, 3, 0, 0), (43, 3, 9, 4, 1, 0), (46, 3, 8, 5, 0, 0)]) rfl) ?_
              refine xg_t (xg_istore (l1 := [(0, (2, 82)), (1, (0, sa)), (2, (0, kk)), (4, (0, ji))]) rfl rfl rfl) ?_
              refine xg_t (xg_iinc (u := ji) (z := ji + 1) (l1 := [(3, (0, 1)), (0, (2, 82)), (1, (0, sa)), (2, (0, kk))]) rfl rfl (by omega) rfl) ?_
              refine xg_t (xg_goto) ?_
              refine xg_t (xg_drop (l1 := [(0, (2, 82)), (1, (0, sa)), (2, (0, kk)), (3, (0, 1)), (4, (0, ji + 1))]) (List.forall_mem_cons.mpr ⟨List.mem_cons_of_mem _ (List.mem_cons_of_mem _ (List.mem_cons_self)), List.forall_mem_cons.mpr ⟨List.mem_cons_of_mem _ (List.mem_cons_of_mem _ (List.mem_cons_of_mem _ (List.mem_cons_self))), List.forall_mem_cons.mpr ⟨List.mem_cons_of_mem _ (List.mem_cons_of_mem _ (List.mem_cons_of_mem _ (List.mem_cons_of_mem _ (List.mem_cons_self)))), List.forall_mem_cons.mpr ⟨List.mem_cons_of_mem _ (List.mem_cons_self), List.forall_mem_cons.mpr ⟨List.mem_cons_self, fun _ h => absurd h List.not_mem_nil⟩⟩⟩⟩⟩)) ?_
              exact ih37 1 (ji + 1) w39 (by omega) (by omega) (by omega) (hI40) (hF41)
            · refine xg_t (xg_icT (u := u48) (v := sa) rfl xnm0 xnm0 (xj_neT hc51)) ?_
              refine xg_t (xg_blk (b := [(41, 1, 3, 0, 0, 0)]) rfl) ?_
              refine xg_t (xg_const) ?_
              refine xg_t (xg_blk (b := [(42, 1, 15, 3, 0, 0), (43, 3, 9, 4, 1, 0), (46, 3, 8, 5, 0, 0)]) rfl) ?_
              refine xg_t (xg_istore (l1 := [(0, (2, 82)), (1, (0, sa)), (2, (0, kk)), (4, (0, ji))]) rfl rfl rfl) ?_
              refine xg_t (xg_iinc (u := ji) (z := ji + 1) (l1 := [(3, (0, 0)), (0, (2, 82)), (1, (0, sa)), (2, (0, kk))]) rfl rfl (by omega) rfl) ?_
              refine xg_t (xg_goto) ?_
              refine xg_t (xg_drop (l1 := [(0, (2, 82)), (1, (0, sa)), (2, (0, kk)), (3, (0, 0)), (4, (0, ji + 1))]) (List.forall_mem_cons.mpr ⟨List.mem_cons_of_mem _ (List.mem_cons_of_mem _ (List.mem_cons_self)), List.forall_mem_cons.mpr ⟨List.mem_cons_of_mem _ (List.mem_cons_of_mem _ (List.mem_cons_of_mem _ (List.mem_cons_self))), List.forall_mem_cons.mpr ⟨List.mem_cons_of_mem _ (List.mem_cons_of_mem _ (List.mem_cons_of_mem _ (List.mem_cons_of_mem _ (List.mem_cons_self)))), List.forall_mem_cons.mpr ⟨List.mem_cons_of_mem _ (List.mem_cons_self), List.forall_mem_cons.mpr ⟨List.mem_cons_self, fun _ h => absurd h List.not_mem_nil⟩⟩⟩⟩⟩)) ?_
              exact ih37 0 (ji + 1) w39 (by omega) (by omega) (by omega) (hI40) (hF41)
          · refine xg_t (xg_ifT (u := is_) rfl xnm0 (xj_neT hc47)) ?_
            refine xg_t (xg_blk (b := [(37, 1, 3, 1, 0, 0), (38, 3, 8, 42, 0, 0)]) rfl) ?_
            refine xg_t (xg_const) ?_
            refine xg_t (xg_goto) ?_
            refine xg_t (xg_blk (b := [(42, 1, 15, 3, 0, 0), (43, 3, 9, 4, 1, 0), (46, 3, 8, 5, 0, 0)]) rfl) ?_
            refine xg_t (xg_istore (l1 := [(0, (2, 82)), (1, (0, sa)), (2, (0, kk)), (4, (0, ji))]) rfl rfl rfl) ?_
            refine xg_t (xg_iinc (u := ji) (z := ji + 1) (l1 := [(3, (0, 1)), (0, (2, 82)), (1, (0, sa)), (2, (0, kk))]) rfl rfl (by omega) rfl) ?_
            refine xg_t (xg_goto) ?_
            refine xg_t (xg_drop (l1 := [(0, (2, 82)), (1, (0, sa)), (2, (0, kk)), (3, (0, 1)), (4, (0, ji + 1))]) (List.forall_mem_cons.mpr ⟨List.mem_cons_of_mem _ (List.mem_cons_of_mem _ (List.mem_cons_self)), List.forall_mem_cons.mpr ⟨List.mem_cons_of_mem _ (List.mem_cons_of_mem _ (List.mem_cons_of_mem _ (List.mem_cons_self))), List.forall_mem_cons.mpr ⟨List.mem_cons_of_mem _ (List.mem_cons_of_mem _ (List.mem_cons_of_mem _ (List.mem_cons_of_mem _ (List.mem_cons_self)))), List.forall_mem_cons.mpr ⟨List.mem_cons_of_mem _ (List.mem_cons_self), List.forall_mem_cons.mpr ⟨List.mem_cons_self, fun _ h => absurd h List.not_mem_nil⟩⟩⟩⟩⟩)) ?_
            exact ih37 1 (ji + 1) w39 (by omega) (by omega) (by omega) (hI40) (hF41)
        · refine xg_t (xg_icT (u := ji) (v := 4) rfl xnm0 xnm0 (xj_geT (by omega) (by omega))) ?_
          refine xg_t (xg_blk (b := [(49, 1, 2, 3, 0, 0), (50, 1, 12, 0, 1, 0)]) rfl) ?_
          refine xg_t (xg_iload (va := (0, is_)) rfl rfl) ?_
          exact xg_e ⟨is_, w39, ⟨xret_b (by omega), rfl⟩, by omega, hI40, hF41⟩
      · refine xg_t (xg_icT (u := ji) (v := kk) rfl xnm0 xnm0 (xj_geT (by omega) (by omega))) ?_
        refine xg_t (xg_blk (b := [(49, 1, 2, 3, 0, 0), (50, 1, 12, 0, 1, 0)]) rfl) ?_
        refine xg_t (xg_iload (va := (0, is_)) rfl rfl) ?_
        exact xg_e ⟨is_, w39, ⟨xret_b (by omega), rfl⟩, by omega, hI40, hF41⟩
  exact key36 _ 0 0 w (Nat.lt_succ_self _) (by omega) (by omega) (hI) (xFr.rf)
set_option maxHeartbeats 60000000 in
theorem mALineS0 {at_ : Nat} (hI : xMnv w) (hps : PS w) (hmb : ∀ s, s < 7 → rwv w 85 s ≤ 1000) (hln : fld w 82 14 ≤ 1000) (h7 : fld w 82 7 = 3) (hat : at_ ≤ 4294967295) : xTo (d + 7) mX12_aLine (43, [], [(2, (0, at_)), (1, (0, 0)), (0, (2, 82))], [], (w, bd, fc, 0, 0, rr)) (fun φ => ∃ w', xEnd 0 [] (w', bd, fc, 0, 0, rr) φ ∧ xMnv w' ∧ xFr [82, 83, 85, 86, 87] w w' ∧ ((FA w ≠ 0 → FA w' ≠ 0) ∧ PS w' ∧ ((fld w' 82 10 = 1 ∧ mu w' = mu w ∧ fld w' 82 14 = fld w 82 14 ∧ ∀ s, s < 7 → rwv w' 85 s = rwv w 85 s) ∨ (mu w' < mu w ∧ fld w' 82 14 = fld w 82 14 + 1 ∧ ∀ s, s < 7 → rwv w' 85 s ≤ rwv w 85 s + 1)) ∧ (FA w' ≠ 0 ∨ (DATA w → DATA w')) ∧ K83 w w')) := by
  obtain ⟨f82_1, f82_3, f82_5, f82_7, f82_9, f82_11, f82_13, f82_15, f82_17, f82_19, f82_21, f82_22, f82_23, f82_25, f82_27, f82_29, h82_31, hb2, hb4, hb6, hb8, hb10, hb12, hb14, hb16, hb18, hb20, hb24, hb26, hb28, hb30, hb32⟩ := (hI 82 (by decide) (by decide) : cp82 (wget w 82))
  have hf33 : fld w 82 7 = f82_11 := fld_of h82_31
  have hf34 : fld w 82 10 = f82_17 := fld_of h82_31
  have hf35 : fld w 82 14 = f82_19 := fld_of h82_31
  have hps_ : fld w 82 10 = 0 ∨ FA w ≠ 0 := hps
  obtain ⟨g85_36, h85_37, hb38⟩ := (hI 85 (by decide) (by decide) : cpI 7 52 4294967295 (wget w 85))
  have h85_37 : xRow w 85 7 52 g85_36 := h85_37
  obtain ⟨g86_39, h86_40, hb41⟩ := (hI 86 (by decide) (by decide) : cpI 140 53 4294967295 (wget w 86))
  have h86_40 : xRow w 86 140 53 g86_39 := h86_40
  obtain ⟨g87_42, h87_43, hb44⟩ := (hI 87 (by decide) (by decide) : cpI 20 54 4294967295 (wget w 87))
  have h87_43 : xRow w 87 20 54 g87_42 := h87_43
  refine xg_t (xg_blk (b := [(43, 1, 0, 0, 0, 0), (44, 3, 1, 12, 11, 17), (47, 1, 2, 1, 0, 0), (48, 1, 10, 0, 0, 0), (49, 1, 15, 3, 0, 0), (50, 1, 2, 3, 0, 0), (51, 1, 2, 1, 0, 0), (52, 3, 13, 194, 98, 193), (55, 3, 6, 64, 2, 0), (58, 1, 0, 0, 0, 0), (59, 1, 3, 3, 0, 0), (60, 1, 2, 2, 0, 0), (61, 3, 13, 115, 96, 186)]) rfl) ?_
  refine xg_t (xg_aload (va := (2, 82)) rfl rfl) ?_
  refine xg_t (xg_getf (va := (2, 85)) h82_31 rfl) ?_
  refine xg_t (xg_iload (va := (0, 0)) rfl rfl) ?_
  refine xg_ialdB (n := 0) (B := 4294967295) h85_37 (hb38) xnm0 (by omega) (fun u45 hu46 he47 => ?_)
  have hK48 : rwv w 85 0 = u45 := (rwv_of h85_37 (by decide)).trans he47
  have hm49 := hmb 0 (by decide)
  have hl50 : u45 ≤ 1000 := by omega
  refine xg_t (xg_istore (l1 := [(2, (0, at_)), (1, (0, 0)), (0, (2, 82))]) rfl rfl rfl) ?_
  refine xg_t (xg_iload (va := (0, u45)) rfl rfl) ?_
  refine xg_t (xg_iload (va := (0, 0)) rfl rfl) ?_
  refine xg_t (xg_cSr mX12_mostOf (vs := [(0, 0)]) (rest := [(0, u45)]) (rs := [(0, 6), (0, u45)]) (cn1 := 0) (sl1 := 0) rfl (mMostR0) rfl rfl rfl rfl rfl rfl rfl rfl) ?_
  by_cases hc51 : u45 < 6
  · refine xg_t (xg_icT (u := u45) (v := 6) rfl xnm0 xnm0 (xj_ltT hc51 (by omega))) ?_
    refine xg_t (xg_blk (b := [(64, 1, 0, 0, 0, 0), (65, 3, 13, 110, 96, 190), (68, 1, 2, 1, 0, 0), (69, 39, 33, 362, 0, 9)]) rfl) ?_
    refine xg_t (xg_aload (va := (2, 82)) rfl rfl) ?_
    refine xg_cVv mX12_advance (vs := []) (rest := []) (cn1 := 0) (sl1 := 0) rfl (mAdvance (hI)) rfl h82_31 rfl rfl rfl rfl rfl rfl (fun w52 hq53 => ?_)
    obtain ⟨hI54, hF55, hx56⟩ := hq53
    clear hb2 hb4 hb6 hb8 hb10 hb12 hb14 hb16 hb18 hb20 hb24 hb26 hb28 hb30
    obtain ⟨hv57, hv58, hv59, hv60⟩ := hx56
    have hf62 := FA_fr hF55 (by decide)
    have hs63 := (PK.rf hps).2.2.2.1
    unfold PS at hs63
    have pk61 : PK w w52 := ⟨fun _ => by omega, hv57, hv60, (show fld w52 82 10 = 0 ∨ FA w52 ≠ 0 by omega), K83.fr hF55 (by decide)⟩
    clear hs63
    have pk64 : PK w w52 := PK.tr (PK.rf hps) pk61
    have os65 : ∀ j, (j < 20 + 4 * u45 ∨ 24 + 4 * u45 ≤ j) → j < 140 → rwv w52 86 j = rwv w 86 j := fun j hj hl => (rwv_fr hF55 (by decide)).trans ((fun j _ _ => rfl) j hj hl)
    have mf66 : ∀ s, s < 7 → rwv w52 85 s = rwv w 85 s := fun s hs => (rwv_fr hF55 (by decide)).trans ((fun _ _ => rfl) s hs)
    have ms67 : mu w52 < mu w := Nat.lt_of_lt_of_le (hv58 (by omega)) (PK.rf hps).2.1
    clear hv58
    have jn68 : ∀ (w69 : List (List xE)), xMnv w69 → xFr [82, 83, 85, 86, 87] w w69 → (PK w w69 ∧ (∀ j, (j < 20 + 4 * u45 ∨ 24 + 4 * u45 ≤ j) → j < 140 → rwv w69 86 j = rwv w 86 j) ∧ mu w69 < mu w ∧ (∀ s, s < 7 → rwv w69 85 s = rwv w 85 s) ∧ (FA w69 ≠ 0 ∨ u45 < 6) ∧ (FA w69 ≠ 0 ∨ 6 ≤ u45 ∨ (1 ≤ rwv w69 86 (20 + 4 * u45 + 0) ∧ rwv w69 86 (20 + 4 * u45 + 0) ≤ 99 ∧ 1 ≤ rwv w69 86 (20 + 4 * u45 + 1) ∧ rwv w69 86 (20 + 4 * u45 + 1) ≤ 99 ∧ 1 ≤ rwv w69 86 (20 + 4 * u45 + 2) ∧ rwv w69 86 (20 + 4 * u45 + 2) ≤ 99))) → xTo (d + 7) mX12_aLine (394, [], [(0, (2, 82)), (1, (0, 0)), (3, (0, u45))], [], (w69, bd, fc, 0, 0, rr)) (fun φ => ∃ w', xEnd 0 [] (w', bd, fc, 0, 0, rr) φ ∧ xMnv w' ∧ xFr [82, 83, 85, 86, 87] w w' ∧ ((FA w ≠ 0 → FA w' ≠ 0) ∧ PS w' ∧ ((fld w' 82 10 = 1 ∧ mu w' = mu w ∧ fld w' 82 14 = fld w 82 14 ∧ ∀ s, s < 7 → rwv w' 85 s = rwv w 85 s) ∨ (mu w' < mu w ∧ fld w' 82 14 = fld w 82 14 + 1 ∧ ∀ s, s < 7 → rwv w' 85 s ≤ rwv w 85 s + 1)) ∧ (FA w' ≠ 0 ∨ (DATA w → DATA w')) ∧ K83 w w')) := by
      intro w69 hI70 hF71 he72
      obtain ⟨hj73, hj74, hj75, hj76, hj77, hj78⟩ := he72
      refine xg_t (xg_blk (b := [(394, 1, 0, 0, 0, 0), (395, 3, 1, 12, 10, 180), (398, 3, 7, 416, 1, 0), (401, 1, 0, 0, 0, 0), (402, 3, 1, 12, 7, 151), (405, 1, 3, 2, 0, 0), (406, 3, 6, 416, 1, 0), (409, 1, 0, 0, 0, 0), (410, 3, 13, 110, 96, 190), (413, 3, 8, 420, 0, 0)]) rfl) ?_
      refine xg_t (xg_aload (va := (2, 82)) rfl rfl) ?_
      obtain ⟨f82_79, f82_81, f82_83, f82_85, f82_87, f82_89, f82_91, f82_93, f82_95, f82_97, f82_99, f82_100, f82_101, f82_103, f82_105, f82_107, h82_109, hb80, hb82, hb84, hb86, hb88, hb90, hb92, hb94, hb96, hb98, hb102, hb104, hb106, hb108, hb110⟩ := (hI70 82 (by decide) (by decide) : cp82 (wget w69 82))
      refine xg_t (xg_getf (va := (0, f82_95)) h82_109 rfl) ?_
      by_cases hc111 : f82_95 = 0
      · refine xg_t (xg_ifF (u := f82_95) rfl xnm0 (xj_neF hc111)) ?_
        refine xg_t (xg_aload (va := (2, 82)) rfl rfl) ?_
        refine xg_t (xg_getf (va := (0, f82_89)) h82_109 rfl) ?_
        refine xg_t (xg_const) ?_
        by_cases hc112 : f82_89 = 2
        · refine xg_t (xg_icF (u := f82_89) (v := 2) rfl xnm0 xnm0 (xj_neF hc112)) ?_
          refine xg_t (xg_aload (va := (2, 82)) rfl rfl) ?_
          refine xg_cVv mX12_advance (vs := []) (rest := []) (cn1 := 0) (sl1 := 0) rfl (mAdvance (hI70)) rfl h82_109 rfl rfl rfl rfl rfl rfl (fun w113 hq114 => ?_)
          obtain ⟨hI115, hF116, hx117⟩ := hq114
          clear hb80 hb82 hb84 hb86 hb88 hb90 hb92 hb94 hb96 hb98 hb102 hb104 hb106 hb108
          obtain ⟨hv118, hv119, hv120, hv121⟩ := hx117
          have hf123 := FA_fr hF116 (by decide)
          have hs124 := hj73.2.2.2.1
          unfold PS at hs124
          have pk122 : PK w69 w113 := ⟨fun _ => by omega, hv118, hv121, (show fld w113 82 10 = 0 ∨ FA w113 ≠ 0 by omega), K83.fr hF116 (by decide)⟩
          clear hs124
          clear hv119
          have pk125 : PK w w113 := PK.tr hj73 pk122
          have os126 : ∀ j, (j < 20 + 4 * u45 ∨ 24 + 4 * u45 ≤ j) → j < 140 → rwv w113 86 j = rwv w 86 j := fun j hj hl => (rwv_fr hF116 (by decide)).trans (hj74 j hj hl)
          have rg127 : FA w113 ≠ 0 ∨ u45 < 6 := hj77.imp_left pk122.1
          have mf128 : ∀ s, s < 7 → rwv w113 85 s = rwv w 85 s := fun s hs => (rwv_fr hF116 (by decide)).trans (hj76 s hs)
          have hl129 : rwv w113 86 (20 + 4 * u45 + 0) = rwv w69 86 (20 + 4 * u45 + 0) := rwv_fr hF116 (by decide)
          have hl130 : rwv w113 86 (20 + 4 * u45 + 1) = rwv w69 86 (20 + 4 * u45 + 1) := rwv_fr hF116 (by decide)
          have hl131 : rwv w113 86 (20 + 4 * u45 + 2) = rwv w69 86 (20 + 4 * u45 + 2) := rwv_fr hF116 (by decide)
          have nw132 : FA w113 ≠ 0 ∨ 6 ≤ u45 ∨ (1 ≤ rwv w113 86 (20 + 4 * u45 + 0) ∧ rwv w113 86 (20 + 4 * u45 + 0) ≤ 99 ∧ 1 ≤ rwv w113 86 (20 + 4 * u45 + 1) ∧ rwv w113 86 (20 + 4 * u45 + 1) ≤ 99 ∧ 1 ≤ rwv w113 86 (20 + 4 * u45 + 2) ∧ rwv w113 86 (20 + 4 * u45 + 2) ≤ 99) := by have q := hj78; have q1 := pk122.1; omega
          clear hj78
          have ms133 : mu w113 < mu w := Nat.lt_of_le_of_lt pk122.2.1 hj75
          clear hj77
          refine xg_t (xg_goto) ?_
          refine xg_t (xg_blk (b := [(420, 1, 0, 0, 0, 0), (421, 3, 1, 12, 11, 17), (424, 1, 2, 1, 0, 0), (425, 1, 39, 0, 0, 0), (426, 1, 10, 0, 0, 0), (427, 1, 3, 1, 0, 0), (428, 1, 11, 0, 0, 0), (429, 1, 17, 0, 0, 0), (430, 1, 0, 0, 0, 0), (431, 1, 19, 0, 0, 0), (432, 3, 1, 12, 14, 212), (435, 1, 3, 1, 0, 0), (436, 1, 11, 0, 0, 0), (437, 3, 14, 12, 14, 212), (440, 1, 12, 0, 0, 0)]) rfl) ?_
          obtain ⟨f82_134, f82_136, f82_138, f82_140, f82_142, f82_144, f82_146, f82_148, f82_150, f82_152, f82_154, f82_155, f82_156, f82_158, f82_160, f82_162, h82_164, hb135, hb137, hb139, hb141, hb143, hb145, hb147, hb149, hb151, hb153, hb157, hb159, hb161, hb163, hb165⟩ := (hI115 82 (by decide) (by decide) : cp82 (wget w113 82))
          have hf166 : fld w113 82 4 = f82_138 := fld_of h82_164
          have hf167 : fld w113 82 5 = f82_140 := fld_of h82_164
          have hf168 : fld w113 82 7 = f82_144 := fld_of h82_164
          have hf169 : fld w113 82 10 = f82_150 := fld_of h82_164
          have hf170 : fld w113 82 14 = f82_152 := fld_of h82_164
          have hu171 : mu w113 = 2 * (fld w113 82 4 - fld w113 82 5) + min 1 (fld w113 82 7) := rfl
          have hf172 := pk125.2.2.1
          have hl173 : f82_152 ≤ 1000 := by omega
          refine xg_t (xg_aload (va := (2, 82)) rfl rfl) ?_
          refine xg_t (xg_getf (va := (2, 85)) h82_164 rfl) ?_
          refine xg_t (xg_iload (va := (0, 0)) rfl rfl) ?_
          refine xg_t (xg_dup2 rfl) ?_
          obtain ⟨g85_174, h85_175, hb176⟩ := (hI115 85 (by decide) (by decide) : cpI 7 52 4294967295 (wget w113 85))
          have h85_175 : xRow w113 85 7 52 g85_174 := h85_175
          refine xg_ialdB (n := 0) (B := 4294967295) h85_175 (hb176) xnm0 (by omega) (fun u177 hu178 he179 => ?_)
          have hl180 : u177 = u45 := by have q1 := rwv_of h85_175 (show 0 < 7 by decide); have q2 := mf128 0 (by decide); omega
          refine xg_t (xg_const) ?_
          refine xg_t (xg_iadd (u := u177) (v := 1) (z := u177 + 1) xnm0 xnm0 (by omega)) ?_
          refine xg_iastK (n := 0) (u := u177 + 1) h85_175 xnm0 xnm0 rfl (by omega) (fun w181 hr182 hb183 => ?_)
          refine xg_t (xg_aload (va := (2, 82)) rfl rfl) ?_
          refine xg_t (xg_dup rfl) ?_
          refine xg_t (xg_getf (va := (0, f82_152)) (hb183.get (by decide) h82_164) rfl) ?_
          refine xg_t (xg_const) ?_
          refine xg_t (xg_iadd (u := f82_152) (v := 1) (z := f82_152 + 1) xnm0 xnm0 (by omega)) ?_
          refine xg_putI (fl1 := [(2, 83), (2, 84), (0, f82_134), (0, f82_136), (0, f82_138), (0, f82_140), (0, f82_142), (0, f82_144), (0, f82_146), (0, f82_148), (0, f82_150), (2, 85), (2, 86), (2, 87), (0, f82_152 + 1), (2, 88), (2, 89), (2, 90), (2, 91), (2, 92), (2, 93), (2, 94), (4, f82_154), (4, f82_155), (0, f82_156), (2, 95), (2, 96), (2, 97), (2, 98), (2, 99), (2, 100), (2, 101), (2, 102), (0, f82_158), (2, 103), (2, 104), (2, 105), (2, 106), (2, 107), (2, 108), (2, 109), (0, f82_160), (0, f82_162), (2, 110), (2, 111), (2, 112), (2, 113)]) (hb183.get (by decide) h82_164) rfl rfl rfl (fun w184 hk185 hb186 => ?_)
          have hF187 : xFr [82, 85] w113 w184 := ((xFr.of (S := [82, 85]) hb183 (by decide)).tr (xFr.of (S := [82, 85]) hb186 (by decide)))
          have hA188 := FA_fr hF187 (by decide)
          have hf189 : fld w184 82 4 = f82_138 := fld_of hk185
          have hf190 : fld w184 82 5 = f82_140 := fld_of hk185
          have hf191 : fld w184 82 7 = f82_144 := fld_of hk185
          have hf192 : fld w184 82 10 = f82_150 := fld_of hk185
          have hf193 : fld w184 82 14 = f82_152 + 1 := fld_of hk185
          have hu194 : mu w184 = 2 * (fld w184 82 4 - fld w184 82 5) + min 1 (fld w184 82 7) := rfl
          have pq195 := pk125
          unfold PK PS at pq195
          have hM196 : ∀ s, s < 7 → s ≠ 0 → rwv w184 85 s = rwv w 85 s := fun s hs hn => (rwv_of (hr182.but hb186 (by decide)) hs).trans ((if_neg hn).trans ((rwv_of h85_175 hs).symm.trans (mf128 s hs)))
          have hM197 : rwv w184 85 0 = u45 + 1 := (rwv_of (hr182.but hb186 (by decide)) (by decide)).trans ((if_pos rfl).trans (by omega))
          have hM198 : ∀ s, s < 7 → rwv w184 85 s ≤ rwv w 85 s + 1 := fun s hs => by
            by_cases z : s = 0
            · subst z; omega
            · rw [hM196 s hs z]; omega
          have hO199 : ∀ j, (j < 20 + 4 * u45 ∨ 24 + 4 * u45 ≤ j) → j < 140 → rwv w184 86 j = rwv w 86 j := fun j hj hl => (rwv_fr hF187 (by decide)).trans (os126 j hj hl)
          have hl201 : FA w113 ≠ 0 ∨ u45 < 6 := rg127
          have hl202 : rwv w184 86 (20 + 4 * u45 + 0) = rwv w113 86 (20 + 4 * u45 + 0) := rwv_fr hF187 (by decide)
          have hl203 : rwv w184 86 (20 + 4 * u45 + 1) = rwv w113 86 (20 + 4 * u45 + 1) := rwv_fr hF187 (by decide)
          have hl204 : rwv w184 86 (20 + 4 * u45 + 2) = rwv w113 86 (20 + 4 * u45 + 2) := rwv_fr hF187 (by decide)
          have hN200 : FA w184 ≠ 0 ∨ 6 ≤ u45 ∨ (1 ≤ rwv w184 86 (20 + 4 * u45 + 0) ∧ rwv w184 86 (20 + 4 * u45 + 0) ≤ 99 ∧ 1 ≤ rwv w184 86 (20 + 4 * u45 + 1) ∧ rwv w184 86 (20 + 4 * u45 + 1) ≤ 99 ∧ 1 ≤ rwv w184 86 (20 + 4 * u45 + 2) ∧ rwv w184 86 (20 + 4 * u45 + 2) ≤ 99) := by have q := nw132; omega
          have hX205 : FA w184 ≠ 0 ∨ u45 < 6 := by omega
          have hD206 : FA w184 ≠ 0 ∨ (DATA w → DATA w184) := by
            by_cases z : FA w184 ≠ 0
            · exact Or.inl z
            · exact Or.inr (fun hd => hd.s0 hM196 hK48 hM197 (hX205.resolve_left z) hO199 ((hN200.resolve_left z).resolve_left (by have := hX205.resolve_left z; omega)))
          exact xg_e ⟨w184, ⟨rfl, rfl⟩, xMnv.up (S := [85, 82]) hI115 ((xFr.of (S := [85, 82]) hb183 (by decide)).tr (xFr.of (S := [85, 82]) hb186 (by decide))) (List.forall_mem_cons.mpr ⟨(show cpI 7 52 4294967295 (wget w184 85) from ⟨_, (hr182.but hb186 (by decide)), xrb (by omega) (hb176)⟩), List.forall_mem_cons.mpr ⟨(show cp82 (wget w184 82) from ⟨f82_134, f82_136, f82_138, f82_140, f82_142, f82_144, f82_146, f82_148, f82_150, f82_152 + 1, f82_154, f82_155, f82_156, f82_158, f82_160, f82_162, hk185, hb135, hb137, hb139, hb141, hb143, hb145, hb147, hb149, hb151, by omega, hb157, hb159, hb161, hb163, by omega⟩), fun _ h => absurd h List.not_mem_nil⟩⟩), ((hF71.tr (hF116.up (by decide))).tr ((xFr.of (S := [82, 83, 85, 86, 87]) hb183 (by decide)).tr (xFr.of (S := [82, 83, 85, 86, 87]) hb186 (by decide)))), ⟨fun h => by have := pq195.1 h; omega, (show fld w184 82 10 = 0 ∨ FA w184 ≠ 0 by omega), Or.inr ⟨by have := ms133; omega, by omega, hM198⟩, hD206, pk125.2.2.2.2.tr (K83.fr hF187 (by decide))⟩⟩
        · refine xg_t (xg_icT (u := f82_89) (v := 2) rfl xnm0 xnm0 (xj_neT hc112)) ?_
          refine xg_t (xg_blk (b := [(416, 1, 0, 0, 0, 0), (417, 3, 13, 140, 96, 183)]) rfl) ?_
          refine xg_t (xg_aload (va := (2, 82)) rfl rfl) ?_
          refine xg_cVv mX12_ends (vs := []) (rest := []) (cn1 := 0) (sl1 := 0) rfl (mEnds (hI70) hj73.2.2.2.1) rfl h82_109 rfl rfl rfl rfl rfl rfl (fun w207 hq208 => ?_)
          obtain ⟨hI209, hF210, hx211⟩ := hq208
          clear hb80 hb82 hb84 hb86 hb88 hb90 hb92 hb94 hb96 hb98 hb102 hb104 hb106 hb108
          obtain ⟨hv212, hv213, hv214, hv215, hv216⟩ := hx211
          have pk217 : PK w69 w207 := ⟨fun _ => hv212, by omega, by omega, Or.inr hv212, hv216⟩
          have pk218 : PK w w207 := PK.tr hj73 pk217
          have os219 : ∀ j, (j < 20 + 4 * u45 ∨ 24 + 4 * u45 ≤ j) → j < 140 → rwv w207 86 j = rwv w 86 j := fun j hj hl => (rwv_fr hF210 (by decide)).trans (hj74 j hj hl)
          have rg220 : FA w207 ≠ 0 ∨ u45 < 6 := hj77.imp_left pk217.1
          have mf221 : ∀ s, s < 7 → rwv w207 85 s = rwv w 85 s := fun s hs => (rwv_fr hF210 (by decide)).trans (hj76 s hs)
          have hl222 : rwv w207 86 (20 + 4 * u45 + 0) = rwv w69 86 (20 + 4 * u45 + 0) := rwv_fr hF210 (by decide)
          have hl223 : rwv w207 86 (20 + 4 * u45 + 1) = rwv w69 86 (20 + 4 * u45 + 1) := rwv_fr hF210 (by decide)
          have hl224 : rwv w207 86 (20 + 4 * u45 + 2) = rwv w69 86 (20 + 4 * u45 + 2) := rwv_fr hF210 (by decide)
          have nw225 : FA w207 ≠ 0 ∨ 6 ≤ u45 ∨ (1 ≤ rwv w207 86 (20 + 4 * u45 + 0) ∧ rwv w207 86 (20 + 4 * u45 + 0) ≤ 99 ∧ 1 ≤ rwv w207 86 (20 + 4 * u45 + 1) ∧ rwv w207 86 (20 + 4 * u45 + 1) ≤ 99 ∧ 1 ≤ rwv w207 86 (20 + 4 * u45 + 2) ∧ rwv w207 86 (20 + 4 * u45 + 2) ≤ 99) := by have q := hj78; have q1 := pk217.1; omega
          clear hj78
          have ms226 : mu w207 < mu w := Nat.lt_of_le_of_lt pk217.2.1 hj75
          clear hj77
          refine xg_t (xg_blk (b := [(420, 1, 0, 0, 0, 0), (421, 3, 1, 12, 11, 17), (424, 1, 2, 1, 0, 0), (425, 1, 39, 0, 0, 0), (426, 1, 10, 0, 0, 0), (427, 1, 3, 1, 0, 0), (428, 1, 11, 0, 0, 0), (429, 1, 17, 0, 0, 0), (430, 1, 0, 0, 0, 0), (431, 1, 19, 0, 0, 0), (432, 3, 1, 12, 14, 212), (435, 1, 3, 1, 0, 0), (436, 1, 11, 0, 0, 0), (437, 3, 14, 12, 14, 212), (440, 1, 12, 0, 0, 0)]) rfl) ?_
          obtain ⟨f82_227, f82_229, f82_231, f82_233, f82_235, f82_237, f82_239, f82_241, f82_243, f82_245, f82_247, f82_248, f82_249, f82_251, f82_253, f82_255, h82_257, hb228, hb230, hb232, hb234, hb236, hb238, hb240, hb242, hb244, hb246, hb250, hb252, hb254, hb256, hb258⟩ := (hI209 82 (by decide) (by decide) : cp82 (wget w207 82))
          have hf259 : fld w207 82 4 = f82_231 := fld_of h82_257
          have hf260 : fld w207 82 5 = f82_233 := fld_of h82_257
          have hf261 : fld w207 82 7 = f82_237 := fld_of h82_257
          have hf262 : fld w207 82 10 = f82_243 := fld_of h82_257
          have hf263 : fld w207 82 14 = f82_245 := fld_of h82_257
          have hu264 : mu w207 = 2 * (fld w207 82 4 - fld w207 82 5) + min 1 (fld w207 82 7) := rfl
          have hf265 := pk218.2.2.1
          have hl266 : f82_245 ≤ 1000 := by omega
          refine xg_t (xg_aload (va := (2, 82)) rfl rfl) ?_
          refine xg_t (xg_getf (va := (2, 85)) h82_257 rfl) ?_
          refine xg_t (xg_iload (va := (0, 0)) rfl rfl) ?_
          refine xg_t (xg_dup2 rfl) ?_
          obtain ⟨g85_267, h85_268, hb269⟩ := (hI209 85 (by decide) (by decide) : cpI 7 52 4294967295 (wget w207 85))
          have h85_268 : xRow w207 85 7 52 g85_267 := h85_268
          refine xg_ialdB (n := 0) (B := 4294967295) h85_268 (hb269) xnm0 (by omega) (fun u270 hu271 he272 => ?_)
          have hl273 : u270 = u45 := by have q1 := rwv_of h85_268 (show 0 < 7 by decide); have q2 := mf221 0 (by decide); omega
          refine xg_t (xg_const) ?_
          refine xg_t (xg_iadd (u := u270) (v := 1) (z := u270 + 1) xnm0 xnm0 (by omega)) ?_
          refine xg_iastK (n := 0) (u := u270 + 1) h85_268 xnm0 xnm0 rfl (by omega) (fun w274 hr275 hb276 => ?_)
          refine xg_t (xg_aload (va := (2, 82)) rfl rfl) ?_
          refine xg_t (xg_dup rfl) ?_
          refine xg_t (xg_getf (va := (0, f82_245)) (hb276.get (by decide) h82_257) rfl) ?_
          refine xg_t (xg_const) ?_
          refine xg_t (xg_iadd (u := f82_245) (v := 1) (z := f82_245 + 1) xnm0 xnm0 (by omega)) ?_
          refine xg_putI (fl1 := [(2, 83), (2, 84), (0, f82_227), (0, f82_229), (0, f82_231), (0, f82_233), (0, f82_235), (0, f82_237), (0, f82_239), (0, f82_241), (0, f82_243), (2, 85), (2, 86), (2, 87), (0, f82_245 + 1), (2, 88), (2, 89), (2, 90), (2, 91), (2, 92), (2, 93), (2, 94), (4, f82_247), (4, f82_248), (0, f82_249), (2, 95), (2, 96), (2, 97), (2, 98), (2, 99), (2, 100), (2, 101), (2, 102), (0, f82_251), (2, 103), (2, 104), (2, 105), (2, 106), (2, 107), (2, 108), (2, 109), (0, f82_253), (0, f82_255), (2, 110), (2, 111), (2, 112), (2, 113)]) (hb276.get (by decide) h82_257) rfl rfl rfl (fun w277 hk278 hb279 => ?_)
          have hF280 : xFr [82, 85] w207 w277 := ((xFr.of (S := [82, 85]) hb276 (by decide)).tr (xFr.of (S := [82, 85]) hb279 (by decide)))
          have hA281 := FA_fr hF280 (by decide)
          have hf282 : fld w277 82 4 = f82_231 := fld_of hk278
          have hf283 : fld w277 82 5 = f82_233 := fld_of hk278
          have hf284 : fld w277 82 7 = f82_237 := fld_of hk278
          have hf285 : fld w277 82 10 = f82_243 := fld_of hk278
          have hf286 : fld w277 82 14 = f82_245 + 1 := fld_of hk278
          have hu287 : mu w277 = 2 * (fld w277 82 4 - fld w277 82 5) + min 1 (fld w277 82 7) := rfl
          have pq288 := pk218
          unfold PK PS at pq288
          have hM289 : ∀ s, s < 7 → s ≠ 0 → rwv w277 85 s = rwv w 85 s := fun s hs hn => (rwv_of (hr275.but hb279 (by decide)) hs).trans ((if_neg hn).trans ((rwv_of h85_268 hs).symm.trans (mf221 s hs)))
          have hM290 : rwv w277 85 0 = u45 + 1 := (rwv_of (hr275.but hb279 (by decide)) (by decide)).trans ((if_pos rfl).trans (by omega))
          have hM291 : ∀ s, s < 7 → rwv w277 85 s ≤ rwv w 85 s + 1 := fun s hs => by
            by_cases z : s = 0
            · subst z; omega
            · rw [hM289 s hs z]; omega
          have hO292 : ∀ j, (j < 20 + 4 * u45 ∨ 24 + 4 * u45 ≤ j) → j < 140 → rwv w277 86 j = rwv w 86 j := fun j hj hl => (rwv_fr hF280 (by decide)).trans (os219 j hj hl)
          have hl294 : FA w207 ≠ 0 ∨ u45 < 6 := rg220
          have hl295 : rwv w277 86 (20 + 4 * u45 + 0) = rwv w207 86 (20 + 4 * u45 + 0) := rwv_fr hF280 (by decide)
          have hl296 : rwv w277 86 (20 + 4 * u45 + 1) = rwv w207 86 (20 + 4 * u45 + 1) := rwv_fr hF280 (by decide)
          have hl297 : rwv w277 86 (20 + 4 * u45 + 2) = rwv w207 86 (20 + 4 * u45 + 2) := rwv_fr hF280 (by decide)
          have hN293 : FA w277 ≠ 0 ∨ 6 ≤ u45 ∨ (1 ≤ rwv w277 86 (20 + 4 * u45 + 0) ∧ rwv w277 86 (20 + 4 * u45 + 0) ≤ 99 ∧ 1 ≤ rwv w277 86 (20 + 4 * u45 + 1) ∧ rwv w277 86 (20 + 4 * u45 + 1) ≤ 99 ∧ 1 ≤ rwv w277 86 (20 + 4 * u45 + 2) ∧ rwv w277 86 (20 + 4 * u45 + 2) ≤ 99) := by have q := nw225; omega
          have hX298 : FA w277 ≠ 0 ∨ u45 < 6 := by omega
          have hD299 : FA w277 ≠ 0 ∨ (DATA w → DATA w277) := by
            by_cases z : FA w277 ≠ 0
            · exact Or.inl z
            · exact Or.inr (fun hd => hd.s0 hM289 hK48 hM290 (hX298.resolve_left z) hO292 ((hN293.resolve_left z).resolve_left (by have := hX298.resolve_left z; omega)))
          exact xg_e ⟨w277, ⟨rfl, rfl⟩, xMnv.up (S := [85, 82]) hI209 ((xFr.of (S := [85, 82]) hb276 (by decide)).tr (xFr.of (S := [85, 82]) hb279 (by decide))) (List.forall_mem_cons.mpr ⟨(show cpI 7 52 4294967295 (wget w277 85) from ⟨_, (hr275.but hb279 (by decide)), xrb (by omega) (hb269)⟩), List.forall_mem_cons.mpr ⟨(show cp82 (wget w277 82) from ⟨f82_227, f82_229, f82_231, f82_233, f82_235, f82_237, f82_239, f82_241, f82_243, f82_245 + 1, f82_247, f82_248, f82_249, f82_251, f82_253, f82_255, hk278, hb228, hb230, hb232, hb234, hb236, hb238, hb240, hb242, hb244, by omega, hb250, hb252, hb254, hb256, by omega⟩), fun _ h => absurd h List.not_mem_nil⟩⟩), ((hF71.tr (hF210.up (by decide))).tr ((xFr.of (S := [82, 83, 85, 86, 87]) hb276 (by decide)).tr (xFr.of (S := [82, 83, 85, 86, 87]) hb279 (by decide)))), ⟨fun h => by have := pq288.1 h; omega, (show fld w277 82 10 = 0 ∨ FA w277 ≠ 0 by omega), Or.inr ⟨by have := ms226; omega, by omega, hM291⟩, hD299, pk218.2.2.2.2.tr (K83.fr hF280 (by decide))⟩⟩
      · refine xg_t (xg_ifT (u := f82_95) rfl xnm0 (xj_neT hc111)) ?_
        refine xg_t (xg_blk (b := [(416, 1, 0, 0, 0, 0), (417, 3, 13, 140, 96, 183)]) rfl) ?_
        refine xg_t (xg_aload (va := (2, 82)) rfl rfl) ?_
        refine xg_cVv mX12_ends (vs := []) (rest := []) (cn1 := 0) (sl1 := 0) rfl (mEnds (hI70) hj73.2.2.2.1) rfl h82_109 rfl rfl rfl rfl rfl rfl (fun w300 hq301 => ?_)
        obtain ⟨hI302, hF303, hx304⟩ := hq301
        clear hb80 hb82 hb84 hb86 hb88 hb90 hb92 hb94 hb96 hb98 hb102 hb104 hb106 hb108
        obtain ⟨hv305, hv306, hv307, hv308, hv309⟩ := hx304
        have pk310 : PK w69 w300 := ⟨fun _ => hv305, by omega, by omega, Or.inr hv305, hv309⟩
        have pk311 : PK w w300 := PK.tr hj73 pk310
        have os312 : ∀ j, (j < 20 + 4 * u45 ∨ 24 + 4 * u45 ≤ j) → j < 140 → rwv w300 86 j = rwv w 86 j := fun j hj hl => (rwv_fr hF303 (by decide)).trans (hj74 j hj hl)
        have rg313 : FA w300 ≠ 0 ∨ u45 < 6 := hj77.imp_left pk310.1
        have mf314 : ∀ s, s < 7 → rwv w300 85 s = rwv w 85 s := fun s hs => (rwv_fr hF303 (by decide)).trans (hj76 s hs)
        have hl315 : rwv w300 86 (20 + 4 * u45 + 0) = rwv w69 86 (20 + 4 * u45 + 0) := rwv_fr hF303 (by decide)
        have hl316 : rwv w300 86 (20 + 4 * u45 + 1) = rwv w69 86 (20 + 4 * u45 + 1) := rwv_fr hF303 (by decide)
        have hl317 : rwv w300 86 (20 + 4 * u45 + 2) = rwv w69 86 (20 + 4 * u45 + 2) := rwv_fr hF303 (by decide)
        have nw318 : FA w300 ≠ 0 ∨ 6 ≤ u45 ∨ (1 ≤ rwv w300 86 (20 + 4 * u45 + 0) ∧ rwv w300 86 (20 + 4 * u45 + 0) ≤ 99 ∧ 1 ≤ rwv w300 86 (20 + 4 * u45 + 1) ∧ rwv w300 86 (20 + 4 * u45 + 1) ≤ 99 ∧ 1 ≤ rwv w300 86 (20 + 4 * u45 + 2) ∧ rwv w300 86 (20 + 4 * u45 + 2) ≤ 99) := by have q := hj78; have q1 := pk310.1; omega
        clear hj78
        have ms319 : mu w300 < mu w := Nat.lt_of_le_of_lt pk310.2.1 hj75
        clear hj77
        refine xg_t (xg_blk (b := [(420, 1, 0, 0, 0, 0), (421, 3, 1, 12, 11, 17), (424, 1, 2, 1, 0, 0), (425, 1, 39, 0, 0, 0), (426, 1, 10, 0, 0, 0), (427, 1, 3, 1, 0, 0), (428, 1, 11, 0, 0, 0), (429, 1, 17, 0, 0, 0), (430, 1, 0, 0, 0, 0), (431, 1, 19, 0, 0, 0), (432, 3, 1, 12, 14, 212), (435, 1, 3, 1, 0, 0), (436, 1, 11, 0, 0, 0), (437, 3, 14, 12, 14, 212), (440, 1, 12, 0, 0, 0)]) rfl) ?_
        obtain ⟨f82_320, f82_322, f82_324, f82_326, f82_328, f82_330, f82_332, f82_334, f82_336, f82_338, f82_340, f82_341, f82_342, f82_344, f82_346, f82_348, h82_350, hb321, hb323, hb325, hb327, hb329, hb331, hb333, hb335, hb337, hb339, hb343, hb345, hb347, hb349, hb351⟩ := (hI302 82 (by decide) (by decide) : cp82 (wget w300 82))
        have hf352 : fld w300 82 4 = f82_324 := fld_of h82_350
        have hf353 : fld w300 82 5 = f82_326 := fld_of h82_350
        have hf354 : fld w300 82 7 = f82_330 := fld_of h82_350
        have hf355 : fld w300 82 10 = f82_336 := fld_of h82_350
        have hf356 : fld w300 82 14 = f82_338 := fld_of h82_350
        have hu357 : mu w300 = 2 * (fld w300 82 4 - fld w300 82 5) + min 1 (fld w300 82 7) := rfl
        have hf358 := pk311.2.2.1
        have hl359 : f82_338 ≤ 1000 := by omega
        refine xg_t (xg_aload (va := (2, 82)) rfl rfl) ?_
        refine xg_t (xg_getf (va := (2, 85)) h82_350 rfl) ?_
        refine xg_t (xg_iload (va := (0, 0)) rfl rfl) ?_
        refine xg_t (xg_dup2 rfl) ?_
        obtain ⟨g85_360, h85_361, hb362⟩ := (hI302 85 (by decide) (by decide) : cpI 7 52 4294967295 (wget w300 85))
        have h85_361 : xRow w300 85 7 52 g85_360 := h85_361
        refine xg_ialdB (n := 0) (B := 4294967295) h85_361 (hb362) xnm0 (by omega) (fun u363 hu364 he365 => ?_)
        have hl366 : u363 = u45 := by have q1 := rwv_of h85_361 (show 0 < 7 by decide); have q2 := mf314 0 (by decide); omega
        refine xg_t (xg_const) ?_
        refine xg_t (xg_iadd (u := u363) (v := 1) (z := u363 + 1) xnm0 xnm0 (by omega)) ?_
        refine xg_iastK (n := 0) (u := u363 + 1) h85_361 xnm0 xnm0 rfl (by omega) (fun w367 hr368 hb369 => ?_)
        refine xg_t (xg_aload (va := (2, 82)) rfl rfl) ?_
        refine xg_t (xg_dup rfl) ?_
        refine xg_t (xg_getf (va := (0, f82_338)) (hb369.get (by decide) h82_350) rfl) ?_
        refine xg_t (xg_const) ?_
        refine xg_t (xg_iadd (u := f82_338) (v := 1) (z := f82_338 + 1) xnm0 xnm0 (by omega)) ?_
        refine xg_putI (fl1 := [(2, 83), (2, 84), (0, f82_320), (0, f82_322), (0, f82_324), (0, f82_326), (0, f82_328), (0, f82_330), (0, f82_332), (0, f82_334), (0, f82_336), (2, 85), (2, 86), (2, 87), (0, f82_338 + 1), (2, 88), (2, 89), (2, 90), (2, 91), (2, 92), (2, 93), (2, 94), (4, f82_340), (4, f82_341), (0, f82_342), (2, 95), (2, 96), (2, 97), (2, 98), (2, 99), (2, 100), (2, 101), (2, 102), (0, f82_344), (2, 103), (2, 104), (2, 105), (2, 106), (2, 107), (2, 108), (2, 109), (0, f82_346), (0, f82_348), (2, 110), (2, 111), (2, 112), (2, 113)]) (hb369.get (by decide) h82_350) rfl rfl rfl (fun w370 hk371 hb372 => ?_)
        have hF373 : xFr [82, 85] w300 w370 := ((xFr.of (S := [82, 85]) hb369 (by decide)).tr (xFr.of (S := [82, 85]) hb372 (by decide)))
        have hA374 := FA_fr hF373 (by decide)
        have hf375 : fld w370 82 4 = f82_324 := fld_of hk371
        have hf376 : fld w370 82 5 = f82_326 := fld_of hk371
        have hf377 : fld w370 82 7 = f82_330 := fld_of hk371
        have hf378 : fld w370 82 10 = f82_336 := fld_of hk371
        have hf379 : fld w370 82 14 = f82_338 + 1 := fld_of hk371
        have hu380 : mu w370 = 2 * (fld w370 82 4 - fld w370 82 5) + min 1 (fld w370 82 7) := rfl
        have pq381 := pk311
        unfold PK PS at pq381
        have hM382 : ∀ s, s < 7 → s ≠ 0 → rwv w370 85 s = rwv w 85 s := fun s hs hn => (rwv_of (hr368.but hb372 (by decide)) hs).trans ((if_neg hn).trans ((rwv_of h85_361 hs).symm.trans (mf314 s hs)))
        have hM383 : rwv w370 85 0 = u45 + 1 := (rwv_of (hr368.but hb372 (by decide)) (by decide)).trans ((if_pos rfl).trans (by omega))
        have hM384 : ∀ s, s < 7 → rwv w370 85 s ≤ rwv w 85 s + 1 := fun s hs => by
          by_cases z : s = 0
          · subst z; omega
          · rw [hM382 s hs z]; omega
        have hO385 : ∀ j, (j < 20 + 4 * u45 ∨ 24 + 4 * u45 ≤ j) → j < 140 → rwv w370 86 j = rwv w 86 j := fun j hj hl => (rwv_fr hF373 (by decide)).trans (os312 j hj hl)
        have hl387 : FA w300 ≠ 0 ∨ u45 < 6 := rg313
        have hl388 : rwv w370 86 (20 + 4 * u45 + 0) = rwv w300 86 (20 + 4 * u45 + 0) := rwv_fr hF373 (by decide)
        have hl389 : rwv w370 86 (20 + 4 * u45 + 1) = rwv w300 86 (20 + 4 * u45 + 1) := rwv_fr hF373 (by decide)
        have hl390 : rwv w370 86 (20 + 4 * u45 + 2) = rwv w300 86 (20 + 4 * u45 + 2) := rwv_fr hF373 (by decide)
        have hN386 : FA w370 ≠ 0 ∨ 6 ≤ u45 ∨ (1 ≤ rwv w370 86 (20 + 4 * u45 + 0) ∧ rwv w370 86 (20 + 4 * u45 + 0) ≤ 99 ∧ 1 ≤ rwv w370 86 (20 + 4 * u45 + 1) ∧ rwv w370 86 (20 + 4 * u45 + 1) ≤ 99 ∧ 1 ≤ rwv w370 86 (20 + 4 * u45 + 2) ∧ rwv w370 86 (20 + 4 * u45 + 2) ≤ 99) := by have q := nw318; omega
        have hX391 : FA w370 ≠ 0 ∨ u45 < 6 := by omega
        have hD392 : FA w370 ≠ 0 ∨ (DATA w → DATA w370) := by
          by_cases z : FA w370 ≠ 0
          · exact Or.inl z
          · exact Or.inr (fun hd => hd.s0 hM382 hK48 hM383 (hX391.resolve_left z) hO385 ((hN386.resolve_left z).resolve_left (by have := hX391.resolve_left z; omega)))
        exact xg_e ⟨w370, ⟨rfl, rfl⟩, xMnv.up (S := [85, 82]) hI302 ((xFr.of (S := [85, 82]) hb369 (by decide)).tr (xFr.of (S := [85, 82]) hb372 (by decide))) (List.forall_mem_cons.mpr ⟨(show cpI 7 52 4294967295 (wget w370 85) from ⟨_, (hr368.but hb372 (by decide)), xrb (by omega) (hb362)⟩), List.forall_mem_cons.mpr ⟨(show cp82 (wget w370 82) from ⟨f82_320, f82_322, f82_324, f82_326, f82_328, f82_330, f82_332, f82_334, f82_336, f82_338 + 1, f82_340, f82_341, f82_342, f82_344, f82_346, f82_348, hk371, hb321, hb323, hb325, hb327, hb329, hb331, hb333, hb335, hb337, by omega, hb343, hb345, hb347, hb349, by omega⟩), fun _ h => absurd h List.not_mem_nil⟩⟩), ((hF71.tr (hF303.up (by decide))).tr ((xFr.of (S := [82, 83, 85, 86, 87]) hb369 (by decide)).tr (xFr.of (S := [82, 83, 85, 86, 87]) hb372 (by decide)))), ⟨fun h => by have := pq381.1 h; omega, (show fld w370 82 10 = 0 ∨ FA w370 ≠ 0 by omega), Or.inr ⟨by have := ms319; omega, by omega, hM384⟩, hD392, pk311.2.2.2.2.tr (K83.fr hF373 (by decide))⟩⟩
    refine xg_t (xg_iload (va := (0, 0)) rfl rfl) ?_
    refine xg_t (xg_swt (ks := [(0, 108), (1, 116), (2, 180), (3, 221), (4, 273), (5, 326)]) (u := 0) (z := 108) rfl rfl rfl xnm0 (xsw_y rfl)) ?_
    refine xg_t (xg_blk (b := [(108, 1, 0, 0, 0, 0), (109, 1, 2, 3, 0, 0), (110, 3, 13, 106, 96, 204), (113, 3, 8, 394, 0, 0)]) rfl) ?_
    refine xg_t (xg_aload (va := (2, 82)) rfl rfl) ?_
    refine xg_t (xg_iload (va := (0, u45)) rfl rfl) ?_
    obtain ⟨f82_393, f82_395, f82_397, f82_399, f82_401, f82_403, f82_405, f82_407, f82_409, f82_411, f82_413, f82_414, f82_415, f82_417, f82_419, f82_421, h82_423, hb394, hb396, hb398, hb400, hb402, hb404, hb406, hb408, hb410, hb412, hb416, hb418, hb420, hb422, hb424⟩ := (hI54 82 (by decide) (by decide) : cp82 (wget w52 82))
    refine xg_cVv mX12_aLayer (vs := [(0, u45)]) (rest := []) (cn1 := 0) (sl1 := 0) rfl (mALayer (hI54) (by omega) pk64.2.2.2.1) rfl h82_423 rfl rfl rfl rfl rfl rfl (fun w425 hq426 => ?_)
    obtain ⟨hI427, hF428, hx429⟩ := hq426
    clear hb394 hb396 hb398 hb400 hb402 hb404 hb406 hb408 hb410 hb412 hb416 hb418 hb420 hb422
    obtain ⟨pk430, os431, ly432⟩ := hx429
    have pk433 : PK w w425 := PK.tr pk64 pk430
    have os434 : ∀ j, (j < 20 + 4 * u45 ∨ 24 + 4 * u45 ≤ j) → j < 140 → rwv w425 86 j = rwv w 86 j := fun j hj hl => (os431 j hj hl).trans (os65 j hj hl)
    have mf435 : ∀ s, s < 7 → rwv w425 85 s = rwv w 85 s := fun s hs => (rwv_fr hF428 (by decide)).trans (mf66 s hs)
    have ms436 : mu w425 < mu w := Nat.lt_of_le_of_lt pk430.2.1 ms67
    refine xg_t (xg_goto) ?_
    refine xg_t (xg_drop (l1 := [(0, (2, 82)), (1, (0, 0)), (3, (0, u45))]) (List.forall_mem_cons.mpr ⟨List.mem_cons_of_mem _ (List.mem_cons_of_mem _ (List.mem_cons_of_mem _ (List.mem_cons_self))), List.forall_mem_cons.mpr ⟨List.mem_cons_of_mem _ (List.mem_cons_of_mem _ (List.mem_cons_self)), List.forall_mem_cons.mpr ⟨List.mem_cons_self, fun _ h => absurd h List.not_mem_nil⟩⟩⟩)) ?_
    have hX437 : FA w425 ≠ 0 ∨ u45 < 6 := Or.inr (by omega)
    exact jn68 w425 (hI427) (((hF55.up (by decide)).tr (hF428.up (by decide)))) (⟨pk433, os434, ms436, mf435, hX437, ly432⟩)
  · refine xg_t (xg_icF (u := u45) (v := 6) rfl xnm0 xnm0 (xj_ltF (by omega) (by omega))) ?_
    refine xg_t (xg_aload (va := (2, 82)) rfl rfl) ?_
    refine xg_t (xg_const) ?_
    refine xg_t (xg_iload (va := (0, at_)) rfl rfl) ?_
    refine xg_cVv mX12_also (vs := [(0, 3), (0, at_)]) (rest := []) (cn1 := 0) (sl1 := 0) rfl (mAlso (hI) (by omega) (by omega) (by omega) (PK.rf hps).2.2.2.1) rfl h82_31 rfl rfl rfl rfl rfl rfl (fun w439 hq440 => ?_)
    obtain ⟨hI441, hF442, hx443⟩ := hq440
    obtain ⟨hv445, hv446⟩ := hx443
    have pk444 : PK w w439 := ⟨fun _ => hv445, Nat.le_of_eq (mu_fr hF442 (by decide)), fld_fr hF442 (by decide), Or.inr hv445, hv446⟩
    have pk447 : PK w w439 := PK.tr (PK.rf hps) pk444
    have os448 : ∀ j, (j < 20 + 4 * u45 ∨ 24 + 4 * u45 ≤ j) → j < 140 → rwv w439 86 j = rwv w 86 j := fun j hj hl => (rwv_fr hF442 (by decide)).trans ((fun j _ _ => rfl) j hj hl)
    have mf449 : ∀ s, s < 7 → rwv w439 85 s = rwv w 85 s := fun s hs => (rwv_fr hF442 (by decide)).trans ((fun _ _ => rfl) s hs)
    have hf450 := fld_fr (c := 82) (j := 7) hF442 (by decide)
    refine xg_t (xg_blk (b := [(64, 1, 0, 0, 0, 0), (65, 3, 13, 110, 96, 190), (68, 1, 2, 1, 0, 0), (69, 39, 33, 362, 0, 9)]) rfl) ?_
    refine xg_t (xg_aload (va := (2, 82)) rfl rfl) ?_
    refine xg_cVv mX12_advance (vs := []) (rest := []) (cn1 := 0) (sl1 := 0) rfl (mAdvance (hI441)) rfl (hF442.get (by decide) h82_31) rfl rfl rfl rfl rfl rfl (fun w451 hq452 => ?_)
    obtain ⟨hI453, hF454, hx455⟩ := hq452
    clear hb2 hb4 hb6 hb8 hb10 hb12 hb14 hb16 hb18 hb20 hb24 hb26 hb28 hb30
    obtain ⟨hv456, hv457, hv458, hv459⟩ := hx455
    have hf461 := FA_fr hF454 (by decide)
    have hs462 := pk447.2.2.2.1
    unfold PS at hs462
    have pk460 : PK w439 w451 := ⟨fun _ => by omega, hv456, hv459, (show fld w451 82 10 = 0 ∨ FA w451 ≠ 0 by omega), K83.fr hF454 (by decide)⟩
    clear hs462
    have pk463 : PK w w451 := PK.tr pk447 pk460
    have os464 : ∀ j, (j < 20 + 4 * u45 ∨ 24 + 4 * u45 ≤ j) → j < 140 → rwv w451 86 j = rwv w 86 j := fun j hj hl => (rwv_fr hF454 (by decide)).trans (os448 j hj hl)
    have rg465 : FA w451 ≠ 0 ∨ 0 = 1 := (Or.inl hv445 : FA w439 ≠ 0 ∨ 0 = 1).imp_left pk460.1
    have mf466 : ∀ s, s < 7 → rwv w451 85 s = rwv w 85 s := fun s hs => (rwv_fr hF454 (by decide)).trans (mf449 s hs)
    have ms467 : mu w451 < mu w := Nat.lt_of_lt_of_le (hv457 (by omega)) pk447.2.1
    clear hv457
    have jn468 : ∀ (w469 : List (List xE)), xMnv w469 → xFr [82, 83, 85, 86, 87] w w469 → (PK w w469 ∧ (∀ j, (j < 20 + 4 * u45 ∨ 24 + 4 * u45 ≤ j) → j < 140 → rwv w469 86 j = rwv w 86 j) ∧ mu w469 < mu w ∧ (∀ s, s < 7 → rwv w469 85 s = rwv w 85 s) ∧ (FA w469 ≠ 0 ∨ u45 < 6) ∧ (FA w469 ≠ 0 ∨ 6 ≤ u45 ∨ (1 ≤ rwv w469 86 (20 + 4 * u45 + 0) ∧ rwv w469 86 (20 + 4 * u45 + 0) ≤ 99 ∧ 1 ≤ rwv w469 86 (20 + 4 * u45 + 1) ∧ rwv w469 86 (20 + 4 * u45 + 1) ≤ 99 ∧ 1 ≤ rwv w469 86 (20 + 4 * u45 + 2) ∧ rwv w469 86 (20 + 4 * u45 + 2) ≤ 99))) → xTo (d + 7) mX12_aLine (394, [], [(0, (2, 82)), (1, (0, 0)), (3, (0, u45))], [], (w469, bd, fc, 0, 0, rr)) (fun φ => ∃ w', xEnd 0 [] (w', bd, fc, 0, 0, rr) φ ∧ xMnv w' ∧ xFr [82, 83, 85, 86, 87] w w' ∧ ((FA w ≠ 0 → FA w' ≠ 0) ∧ PS w' ∧ ((fld w' 82 10 = 1 ∧ mu w' = mu w ∧ fld w' 82 14 = fld w 82 14 ∧ ∀ s, s < 7 → rwv w' 85 s = rwv w 85 s) ∨ (mu w' < mu w ∧ fld w' 82 14 = fld w 82 14 + 1 ∧ ∀ s, s < 7 → rwv w' 85 s ≤ rwv w 85 s + 1)) ∧ (FA w' ≠ 0 ∨ (DATA w → DATA w')) ∧ K83 w w')) := by
      intro w469 hI470 hF471 he472
      obtain ⟨hj473, hj474, hj475, hj476, hj477, hj478⟩ := he472
      refine xg_t (xg_blk (b := [(394, 1, 0, 0, 0, 0), (395, 3, 1, 12, 10, 180), (398, 3, 7, 416, 1, 0), (401, 1, 0, 0, 0, 0), (402, 3, 1, 12, 7, 151), (405, 1, 3, 2, 0, 0), (406, 3, 6, 416, 1, 0), (409, 1, 0, 0, 0, 0), (410, 3, 13, 110, 96, 190), (413, 3, 8, 420, 0, 0)]) rfl) ?_
      refine xg_t (xg_aload (va := (2, 82)) rfl rfl) ?_
      obtain ⟨f82_479, f82_481, f82_483, f82_485, f82_487, f82_489, f82_491, f82_493, f82_495, f82_497, f82_499, f82_500, f82_501, f82_503, f82_505, f82_507, h82_509, hb480, hb482, hb484, hb486, hb488, hb490, hb492, hb494, hb496, hb498, hb502, hb504, hb506, hb508, hb510⟩ := (hI470 82 (by decide) (by decide) : cp82 (wget w469 82))
      refine xg_t (xg_getf (va := (0, f82_495)) h82_509 rfl) ?_
      by_cases hc511 : f82_495 = 0
      · refine xg_t (xg_ifF (u := f82_495) rfl xnm0 (xj_neF hc511)) ?_
        refine xg_t (xg_aload (va := (2, 82)) rfl rfl) ?_
        refine xg_t (xg_getf (va := (0, f82_489)) h82_509 rfl) ?_
        refine xg_t (xg_const) ?_
        by_cases hc512 : f82_489 = 2
        · refine xg_t (xg_icF (u := f82_489) (v := 2) rfl xnm0 xnm0 (xj_neF hc512)) ?_
          refine xg_t (xg_aload (va := (2, 82)) rfl rfl) ?_
          refine xg_cVv mX12_advance (vs := []) (rest := []) (cn1 := 0) (sl1 := 0) rfl (mAdvance (hI470)) rfl h82_509 rfl rfl rfl rfl rfl rfl (fun w513 hq514 => ?_)
          obtain ⟨hI515, hF516, hx517⟩ := hq514
          clear hb480 hb482 hb484 hb486 hb488 hb490 hb492 hb494 hb496 hb498 hb502 hb504 hb506 hb508
          obtain ⟨hv518, hv519, hv520, hv521⟩ := hx517
          have hf523 := FA_fr hF516 (by decide)
          have hs524 := hj473.2.2.2.1
          unfold PS at hs524
          have pk522 : PK w469 w513 := ⟨fun _ => by omega, hv518, hv521, (show fld w513 82 10 = 0 ∨ FA w513 ≠ 0 by omega), K83.fr hF516 (by decide)⟩
          clear hs524
          clear hv519
          have pk525 : PK w w513 := PK.tr hj473 pk522
          have os526 : ∀ j, (j < 20 + 4 * u45 ∨ 24 + 4 * u45 ≤ j) → j < 140 → rwv w513 86 j = rwv w 86 j := fun j hj hl => (rwv_fr hF516 (by decide)).trans (hj474 j hj hl)
          have rg527 : FA w513 ≠ 0 ∨ u45 < 6 := hj477.imp_left pk522.1
          have mf528 : ∀ s, s < 7 → rwv w513 85 s = rwv w 85 s := fun s hs => (rwv_fr hF516 (by decide)).trans (hj476 s hs)
          have hl529 : rwv w513 86 (20 + 4 * u45 + 0) = rwv w469 86 (20 + 4 * u45 + 0) := rwv_fr hF516 (by decide)
          have hl530 : rwv w513 86 (20 + 4 * u45 + 1) = rwv w469 86 (20 + 4 * u45 + 1) := rwv_fr hF516 (by decide)
          have hl531 : rwv w513 86 (20 + 4 * u45 + 2) = rwv w469 86 (20 + 4 * u45 + 2) := rwv_fr hF516 (by decide)
          have nw532 : FA w513 ≠ 0 ∨ 6 ≤ u45 ∨ (1 ≤ rwv w513 86 (20 + 4 * u45 + 0) ∧ rwv w513 86 (20 + 4 * u45 + 0) ≤ 99 ∧ 1 ≤ rwv w513 86 (20 + 4 * u45 + 1) ∧ rwv w513 86 (20 + 4 * u45 + 1) ≤ 99 ∧ 1 ≤ rwv w513 86 (20 + 4 * u45 + 2) ∧ rwv w513 86 (20 + 4 * u45 + 2) ≤ 99) := by have q := hj478; have q1 := pk522.1; omega
          clear hj478
          have ms533 : mu w513 < mu w := Nat.lt_of_le_of_lt pk522.2.1 hj475
          clear hj477
          refine xg_t (xg_goto) ?_
          refine xg_t (xg_blk (b := [(420, 1, 0, 0, 0, 0), (421, 3, 1, 12, 11, 17), (424, 1, 2, 1, 0, 0), (425, 1, 39, 0, 0, 0), (426, 1, 10, 0, 0, 0), (427, 1, 3, 1, 0, 0), (428, 1, 11, 0, 0, 0), (429, 1, 17, 0, 0, 0), (430, 1, 0, 0, 0, 0), (431, 1, 19, 0, 0, 0), (432, 3, 1, 12, 14, 212), (435, 1, 3, 1, 0, 0), (436, 1, 11, 0, 0, 0), (437, 3, 14, 12, 14, 212), (440, 1, 12, 0, 0, 0)]) rfl) ?_
          obtain ⟨f82_534, f82_536, f82_538, f82_540, f82_542, f82_544, f82_546, f82_548, f82_550, f82_552, f82_554, f82_555, f82_556, f82_558, f82_560, f82_562, h82_564, hb535, hb537, hb539, hb541, hb543, hb545, hb547, hb549, hb551, hb553, hb557, hb559, hb561, hb563, hb565⟩ := (hI515 82 (by decide) (by decide) : cp82 (wget w513 82))
          have hf566 : fld w513 82 4 = f82_538 := fld_of h82_564
          have hf567 : fld w513 82 5 = f82_540 := fld_of h82_564
          have hf568 : fld w513 82 7 = f82_544 := fld_of h82_564
          have hf569 : fld w513 82 10 = f82_550 := fld_of h82_564
          have hf570 : fld w513 82 14 = f82_552 := fld_of h82_564
          have hu571 : mu w513 = 2 * (fld w513 82 4 - fld w513 82 5) + min 1 (fld w513 82 7) := rfl
          have hf572 := pk525.2.2.1
          have hl573 : f82_552 ≤ 1000 := by omega
          refine xg_t (xg_aload (va := (2, 82)) rfl rfl) ?_
          refine xg_t (xg_getf (va := (2, 85)) h82_564 rfl) ?_
          refine xg_t (xg_iload (va := (0, 0)) rfl rfl) ?_
          refine xg_t (xg_dup2 rfl) ?_
          obtain ⟨g85_574, h85_575, hb576⟩ := (hI515 85 (by decide) (by decide) : cpI 7 52 4294967295 (wget w513 85))
          have h85_575 : xRow w513 85 7 52 g85_574 := h85_575
          refine xg_ialdB (n := 0) (B := 4294967295) h85_575 (hb576) xnm0 (by omega) (fun u577 hu578 he579 => ?_)
          have hl580 : u577 = u45 := by have q1 := rwv_of h85_575 (show 0 < 7 by decide); have q2 := mf528 0 (by decide); omega
          refine xg_t (xg_const) ?_
          refine xg_t (xg_iadd (u := u577) (v := 1) (z := u577 + 1) xnm0 xnm0 (by omega)) ?_
          refine xg_iastK (n := 0) (u := u577 + 1) h85_575 xnm0 xnm0 rfl (by omega) (fun w581 hr582 hb583 => ?_)
          refine xg_t (xg_aload (va := (2, 82)) rfl rfl) ?_
          refine xg_t (xg_dup rfl) ?_
          refine xg_t (xg_getf (va := (0, f82_552)) (hb583.get (by decide) h82_564) rfl) ?_
          refine xg_t (xg_const) ?_
          refine xg_t (xg_iadd (u := f82_552) (v := 1) (z := f82_552 + 1) xnm0 xnm0 (by omega)) ?_
          refine xg_putI (fl1 := [(2, 83), (2, 84), (0, f82_534), (0, f82_536), (0, f82_538), (0, f82_540), (0, f82_542), (0, f82_544), (0, f82_546), (0, f82_548), (0, f82_550), (2, 85), (2, 86), (2, 87), (0, f82_552 + 1), (2, 88), (2, 89), (2, 90), (2, 91), (2, 92), (2, 93), (2, 94), (4, f82_554), (4, f82_555), (0, f82_556), (2, 95), (2, 96), (2, 97), (2, 98), (2, 99), (2, 100), (2, 101), (2, 102), (0, f82_558), (2, 103), (2, 104), (2, 105), (2, 106), (2, 107), (2, 108), (2, 109), (0, f82_560), (0, f82_562), (2, 110), (2, 111), (2, 112), (2, 113)]) (hb583.get (by decide) h82_564) rfl rfl rfl (fun w584 hk585 hb586 => ?_)
          have hF587 : xFr [82, 85] w513 w584 := ((xFr.of (S := [82, 85]) hb583 (by decide)).tr (xFr.of (S := [82, 85]) hb586 (by decide)))
          have hA588 := FA_fr hF587 (by decide)
          have hf589 : fld w584 82 4 = f82_538 := fld_of hk585
          have hf590 : fld w584 82 5 = f82_540 := fld_of hk585
          have hf591 : fld w584 82 7 = f82_544 := fld_of hk585
          have hf592 : fld w584 82 10 = f82_550 := fld_of hk585
          have hf593 : fld w584 82 14 = f82_552 + 1 := fld_of hk585
          have hu594 : mu w584 = 2 * (fld w584 82 4 - fld w584 82 5) + min 1 (fld w584 82 7) := rfl
          have pq595 := pk525
          unfold PK PS at pq595
          have hM596 : ∀ s, s < 7 → s ≠ 0 → rwv w584 85 s = rwv w 85 s := fun s hs hn => (rwv_of (hr582.but hb586 (by decide)) hs).trans ((if_neg hn).trans ((rwv_of h85_575 hs).symm.trans (mf528 s hs)))
          have hM597 : rwv w584 85 0 = u45 + 1 := (rwv_of (hr582.but hb586 (by decide)) (by decide)).trans ((if_pos rfl).trans (by omega))
          have hM598 : ∀ s, s < 7 → rwv w584 85 s ≤ rwv w 85 s + 1 := fun s hs => by
            by_cases z : s = 0
            · subst z; omega
            · rw [hM596 s hs z]; omega
          have hO599 : ∀ j, (j < 20 + 4 * u45 ∨ 24 + 4 * u45 ≤ j) → j < 140 → rwv w584 86 j = rwv w 86 j := fun j hj hl => (rwv_fr hF587 (by decide)).trans (os526 j hj hl)
          have hl601 : FA w513 ≠ 0 ∨ u45 < 6 := rg527
          have hl602 : rwv w584 86 (20 + 4 * u45 + 0) = rwv w513 86 (20 + 4 * u45 + 0) := rwv_fr hF587 (by decide)
          have hl603 : rwv w584 86 (20 + 4 * u45 + 1) = rwv w513 86 (20 + 4 * u45 + 1) := rwv_fr hF587 (by decide)
          have hl604 : rwv w584 86 (20 + 4 * u45 + 2) = rwv w513 86 (20 + 4 * u45 + 2) := rwv_fr hF587 (by decide)
          have hN600 : FA w584 ≠ 0 ∨ 6 ≤ u45 ∨ (1 ≤ rwv w584 86 (20 + 4 * u45 + 0) ∧ rwv w584 86 (20 + 4 * u45 + 0) ≤ 99 ∧ 1 ≤ rwv w584 86 (20 + 4 * u45 + 1) ∧ rwv w584 86 (20 + 4 * u45 + 1) ≤ 99 ∧ 1 ≤ rwv w584 86 (20 + 4 * u45 + 2) ∧ rwv w584 86 (20 + 4 * u45 + 2) ≤ 99) := by have q := nw532; omega
          have hX605 : FA w584 ≠ 0 ∨ u45 < 6 := by omega
          have hD606 : FA w584 ≠ 0 ∨ (DATA w → DATA w584) := by
            by_cases z : FA w584 ≠ 0
            · exact Or.inl z
            · exact Or.inr (fun hd => hd.s0 hM596 hK48 hM597 (hX605.resolve_left z) hO599 ((hN600.resolve_left z).resolve_left (by have := hX605.resolve_left z; omega)))
          exact xg_e ⟨w584, ⟨rfl, rfl⟩, xMnv.up (S := [85, 82]) hI515 ((xFr.of (S := [85, 82]) hb583 (by decide)).tr (xFr.of (S := [85, 82]) hb586 (by decide))) (List.forall_mem_cons.mpr ⟨(show cpI 7 52 4294967295 (wget w584 85) from ⟨_, (hr582.but hb586 (by decide)), xrb (by omega) (hb576)⟩), List.forall_mem_cons.mpr ⟨(show cp82 (wget w584 82) from ⟨f82_534, f82_536, f82_538, f82_540, f82_542, f82_544, f82_546, f82_548, f82_550, f82_552 + 1, f82_554, f82_555, f82_556, f82_558, f82_560, f82_562, hk585, hb535, hb537, hb539, hb541, hb543, hb545, hb547, hb549, hb551, by omega, hb557, hb559, hb561, hb563, by omega⟩), fun _ h => absurd h List.not_mem_nil⟩⟩), ((hF471.tr (hF516.up (by decide))).tr ((xFr.of (S := [82, 83, 85, 86, 87]) hb583 (by decide)).tr (xFr.of (S := [82, 83, 85, 86, 87]) hb586 (by decide)))), ⟨fun h => by have := pq595.1 h; omega, (show fld w584 82 10 = 0 ∨ FA w584 ≠ 0 by omega), Or.inr ⟨by have := ms533; omega, by omega, hM598⟩, hD606, pk525.2.2.2.2.tr (K83.fr hF587 (by decide))⟩⟩
        · refine xg_t (xg_icT (u := f82_489) (v := 2) rfl xnm0 xnm0 (xj_neT hc512)) ?_
          refine xg_t (xg_blk (b := [(416, 1, 0, 0, 0, 0), (417, 3, 13, 140, 96, 183)]) rfl) ?_
          refine xg_t (xg_aload (va := (2, 82)) rfl rfl) ?_
          refine xg_cVv mX12_ends (vs := []) (rest := []) (cn1 := 0) (sl1 := 0) rfl (mEnds (hI470) hj473.2.2.2.1) rfl h82_509 rfl rfl rfl rfl rfl rfl (fun w607 hq608 => ?_)
          obtain ⟨hI609, hF610, hx611⟩ := hq608
          clear hb480 hb482 hb484 hb486 hb488 hb490 hb492 hb494 hb496 hb498 hb502 hb504 hb506 hb508
          obtain ⟨hv612, hv613, hv614, hv615, hv616⟩ := hx611
          have pk617 : PK w469 w607 := ⟨fun _ => hv612, by omega, by omega, Or.inr hv612, hv616⟩
          have pk618 : PK w w607 := PK.tr hj473 pk617
          have os619 : ∀ j, (j < 20 + 4 * u45 ∨ 24 + 4 * u45 ≤ j) → j < 140 → rwv w607 86 j = rwv w 86 j := fun j hj hl => (rwv_fr hF610 (by decide)).trans (hj474 j hj hl)
          have rg620 : FA w607 ≠ 0 ∨ u45 < 6 := hj477.imp_left pk617.1
          have mf621 : ∀ s, s < 7 → rwv w607 85 s = rwv w 85 s := fun s hs => (rwv_fr hF610 (by decide)).trans (hj476 s hs)
          have hl622 : rwv w607 86 (20 + 4 * u45 + 0) = rwv w469 86 (20 + 4 * u45 + 0) := rwv_fr hF610 (by decide)
          have hl623 : rwv w607 86 (20 + 4 * u45 + 1) = rwv w469 86 (20 + 4 * u45 + 1) := rwv_fr hF610 (by decide)
          have hl624 : rwv w607 86 (20 + 4 * u45 + 2) = rwv w469 86 (20 + 4 * u45 + 2) := rwv_fr hF610 (by decide)
          have nw625 : FA w607 ≠ 0 ∨ 6 ≤ u45 ∨ (1 ≤ rwv w607 86 (20 + 4 * u45 + 0) ∧ rwv w607 86 (20 + 4 * u45 + 0) ≤ 99 ∧ 1 ≤ rwv w607 86 (20 + 4 * u45 + 1) ∧ rwv w607 86 (20 + 4 * u45 + 1) ≤ 99 ∧ 1 ≤ rwv w607 86 (20 + 4 * u45 + 2) ∧ rwv w607 86 (20 + 4 * u45 + 2) ≤ 99) := by have q := hj478; have q1 := pk617.1; omega
          clear hj478
          have ms626 : mu w607 < mu w := Nat.lt_of_le_of_lt pk617.2.1 hj475
          clear hj477
          refine xg_t (xg_blk (b := [(420, 1, 0, 0, 0, 0), (421, 3, 1, 12, 11, 17), (424, 1, 2, 1, 0, 0), (425, 1, 39, 0, 0, 0), (426, 1, 10, 0, 0, 0), (427, 1, 3, 1, 0, 0), (428, 1, 11, 0, 0, 0), (429, 1, 17, 0, 0, 0), (430, 1, 0, 0, 0, 0), (431, 1, 19, 0, 0, 0), (432, 3, 1, 12, 14, 212), (435, 1, 3, 1, 0, 0), (436, 1, 11, 0, 0, 0), (437, 3, 14, 12, 14, 212), (440, 1, 12, 0, 0, 0)]) rfl) ?_
          obtain ⟨f82_627, f82_629, f82_631, f82_633, f82_635, f82_637, f82_639, f82_641, f82_643, f82_645, f82_647, f82_648, f82_649, f82_651, f82_653, f82_655, h82_657, hb628, hb630, hb632, hb634, hb636, hb638, hb640, hb642, hb644, hb646, hb650, hb652, hb654, hb656, hb658⟩ := (hI609 82 (by decide) (by decide) : cp82 (wget w607 82))
          have hf659 : fld w607 82 4 = f82_631 := fld_of h82_657
          have hf660 : fld w607 82 5 = f82_633 := fld_of h82_657
          have hf661 : fld w607 82 7 = f82_637 := fld_of h82_657
          have hf662 : fld w607 82 10 = f82_643 := fld_of h82_657
          have hf663 : fld w607 82 14 = f82_645 := fld_of h82_657
          have hu664 : mu w607 = 2 * (fld w607 82 4 - fld w607 82 5) + min 1 (fld w607 82 7) := rfl
          have hf665 := pk618.2.2.1
          have hl666 : f82_645 ≤ 1000 := by omega
          refine xg_t (xg_aload (va := (2, 82)) rfl rfl) ?_
          refine xg_t (xg_getf (va := (2, 85)) h82_657 rfl) ?_
          refine xg_t (xg_iload (va := (0, 0)) rfl rfl) ?_
          refine xg_t (xg_dup2 rfl) ?_
          obtain ⟨g85_667, h85_668, hb669⟩ := (hI609 85 (by decide) (by decide) : cpI 7 52 4294967295 (wget w607 85))
          have h85_668 : xRow w607 85 7 52 g85_667 := h85_668
          refine xg_ialdB (n := 0) (B := 4294967295) h85_668 (hb669) xnm0 (by omega) (fun u670 hu671 he672 => ?_)
          have hl673 : u670 = u45 := by have q1 := rwv_of h85_668 (show 0 < 7 by decide); have q2 := mf621 0 (by decide); omega
          refine xg_t (xg_const) ?_
          refine xg_t (xg_iadd (u := u670) (v := 1) (z := u670 + 1) xnm0 xnm0 (by omega)) ?_
          refine xg_iastK (n := 0) (u := u670 + 1) h85_668 xnm0 xnm0 rfl (by omega) (fun w674 hr675 hb676 => ?_)
          refine xg_t (xg_aload (va := (2, 82)) rfl rfl) ?_
          refine xg_t (xg_dup rfl) ?_
          refine xg_t (xg_getf (va := (0, f82_645)) (hb676.get (by decide) h82_657) rfl) ?_
          refine xg_t (xg_const) ?_
          refine xg_t (xg_iadd (u := f82_645) (v := 1) (z := f82_645 + 1) xnm0 xnm0 (by omega)) ?_
          refine xg_putI (fl1 := [(2, 83), (2, 84), (0, f82_627), (0, f82_629), (0, f82_631), (0, f82_633), (0, f82_635), (0, f82_637), (0, f82_639), (0, f82_641), (0, f82_643), (2, 85), (2, 86), (2, 87), (0, f82_645 + 1), (2, 88), (2, 89), (2, 90), (2, 91), (2, 92), (2, 93), (2, 94), (4, f82_647), (4, f82_648), (0, f82_649), (2, 95), (2, 96), (2, 97), (2, 98), (2, 99), (2, 100), (2, 101), (2, 102), (0, f82_651), (2, 103), (2, 104), (2, 105), (2, 106), (2, 107), (2, 108), (2, 109), (0, f82_653), (0, f82_655), (2, 110), (2, 111), (2, 112), (2, 113)]) (hb676.get (by decide) h82_657) rfl rfl rfl (fun w677 hk678 hb679 => ?_)
          have hF680 : xFr [82, 85] w607 w677 := ((xFr.of (S := [82, 85]) hb676 (by decide)).tr (xFr.of (S := [82, 85]) hb679 (by decide)))
          have hA681 := FA_fr hF680 (by decide)
          have hf682 : fld w677 82 4 = f82_631 := fld_of hk678
          have hf683 : fld w677 82 5 = f82_633 := fld_of hk678
          have hf684 : fld w677 82 7 = f82_637 := fld_of hk678
          have hf685 : fld w677 82 10 = f82_643 := fld_of hk678
          have hf686 : fld w677 82 14 = f82_645 + 1 := fld_of hk678
          have hu687 : mu w677 = 2 * (fld w677 82 4 - fld w677 82 5) + min 1 (fld w677 82 7) := rfl
          have pq688 := pk618
          unfold PK PS at pq688
          have hM689 : ∀ s, s < 7 → s ≠ 0 → rwv w677 85 s = rwv w 85 s := fun s hs hn => (rwv_of (hr675.but hb679 (by decide)) hs).trans ((if_neg hn).trans ((rwv_of h85_668 hs).symm.trans (mf621 s hs)))
          have hM690 : rwv w677 85 0 = u45 + 1 := (rwv_of (hr675.but hb679 (by decide)) (by decide)).trans ((if_pos rfl).trans (by omega))
          have hM691 : ∀ s, s < 7 → rwv w677 85 s ≤ rwv w 85 s + 1 := fun s hs => by
            by_cases z : s = 0
            · subst z; omega
            · rw [hM689 s hs z]; omega
          have hO692 : ∀ j, (j < 20 + 4 * u45 ∨ 24 + 4 * u45 ≤ j) → j < 140 → rwv w677 86 j = rwv w 86 j := fun j hj hl => (rwv_fr hF680 (by decide)).trans (os619 j hj hl)
          have hl694 : FA w607 ≠ 0 ∨ u45 < 6 := rg620
          have hl695 : rwv w677 86 (20 + 4 * u45 + 0) = rwv w607 86 (20 + 4 * u45 + 0) := rwv_fr hF680 (by decide)
          have hl696 : rwv w677 86 (20 + 4 * u45 + 1) = rwv w607 86 (20 + 4 * u45 + 1) := rwv_fr hF680 (by decide)
          have hl697 : rwv w677 86 (20 + 4 * u45 + 2) = rwv w607 86 (20 + 4 * u45 + 2) := rwv_fr hF680 (by decide)
          have hN693 : FA w677 ≠ 0 ∨ 6 ≤ u45 ∨ (1 ≤ rwv w677 86 (20 + 4 * u45 + 0) ∧ rwv w677 86 (20 + 4 * u45 + 0) ≤ 99 ∧ 1 ≤ rwv w677 86 (20 + 4 * u45 + 1) ∧ rwv w677 86 (20 + 4 * u45 + 1) ≤ 99 ∧ 1 ≤ rwv w677 86 (20 + 4 * u45 + 2) ∧ rwv w677 86 (20 + 4 * u45 + 2) ≤ 99) := by have q := nw625; omega
          have hX698 : FA w677 ≠ 0 ∨ u45 < 6 := by omega
          have hD699 : FA w677 ≠ 0 ∨ (DATA w → DATA w677) := by
            by_cases z : FA w677 ≠ 0
            · exact Or.inl z
            · exact Or.inr (fun hd => hd.s0 hM689 hK48 hM690 (hX698.resolve_left z) hO692 ((hN693.resolve_left z).resolve_left (by have := hX698.resolve_left z; omega)))
          exact xg_e ⟨w677, ⟨rfl, rfl⟩, xMnv.up (S := [85, 82]) hI609 ((xFr.of (S := [85, 82]) hb676 (by decide)).tr (xFr.of (S := [85, 82]) hb679 (by decide))) (List.forall_mem_cons.mpr ⟨(show cpI 7 52 4294967295 (wget w677 85) from ⟨_, (hr675.but hb679 (by decide)), xrb (by omega) (hb669)⟩), List.forall_mem_cons.mpr ⟨(show cp82 (wget w677 82) from ⟨f82_627, f82_629, f82_631, f82_633, f82_635, f82_637, f82_639, f82_641, f82_643, f82_645 + 1, f82_647, f82_648, f82_649, f82_651, f82_653, f82_655, hk678, hb628, hb630, hb632, hb634, hb636, hb638, hb640, hb642, hb644, by omega, hb650, hb652, hb654, hb656, by omega⟩), fun _ h => absurd h List.not_mem_nil⟩⟩), ((hF471.tr (hF610.up (by decide))).tr ((xFr.of (S := [82, 83, 85, 86, 87]) hb676 (by decide)).tr (xFr.of (S := [82, 83, 85, 86, 87]) hb679 (by decide)))), ⟨fun h => by have := pq688.1 h; omega, (show fld w677 82 10 = 0 ∨ FA w677 ≠ 0 by omega), Or.inr ⟨by have := ms626; omega, by omega, hM691⟩, hD699, pk618.2.2.2.2.tr (K83.fr hF680 (by decide))⟩⟩
      · refine xg_t (xg_ifT (u := f82_495) rfl xnm0 (xj_neT hc511)) ?_
        refine xg_t (xg_blk (b := [(416, 1, 0, 0, 0, 0), (417, 3, 13, 140, 96, 183)]) rfl) ?_
        refine xg_t (xg_aload (va := (2, 82)) rfl rfl) ?_
        refine xg_cVv mX12_ends (vs := []) (rest := []) (cn1 := 0) (sl1 := 0) rfl (mEnds (hI470) hj473.2.2.2.1) rfl h82_509 rfl rfl rfl rfl rfl rfl (fun w700 hq701 => ?_)
        obtain ⟨hI702, hF703, hx704⟩ := hq701
        clear hb480 hb482 hb484 hb486 hb488 hb490 hb492 hb494 hb496 hb498 hb502 hb504 hb506 hb508
        obtain ⟨hv705, hv706, hv707, hv708, hv709⟩ := hx704
        have pk710 : PK w469 w700 := ⟨fun _ => hv705, by omega, by omega, Or.inr hv705, hv709⟩
        have pk711 : PK w w700 := PK.tr hj473 pk710
        have os712 : ∀ j, (j < 20 + 4 * u45 ∨ 24 + 4 * u45 ≤ j) → j < 140 → rwv w700 86 j = rwv w 86 j := fun j hj hl => (rwv_fr hF703 (by decide)).trans (hj474 j hj hl)
        have rg713 : FA w700 ≠ 0 ∨ u45 < 6 := hj477.imp_left pk710.1
        have mf714 : ∀ s, s < 7 → rwv w700 85 s = rwv w 85 s := fun s hs => (rwv_fr hF703 (by decide)).trans (hj476 s hs)
        have hl715 : rwv w700 86 (20 + 4 * u45 + 0) = rwv w469 86 (20 + 4 * u45 + 0) := rwv_fr hF703 (by decide)
        have hl716 : rwv w700 86 (20 + 4 * u45 + 1) = rwv w469 86 (20 + 4 * u45 + 1) := rwv_fr hF703 (by decide)
        have hl717 : rwv w700 86 (20 + 4 * u45 + 2) = rwv w469 86 (20 + 4 * u45 + 2) := rwv_fr hF703 (by decide)
        have nw718 : FA w700 ≠ 0 ∨ 6 ≤ u45 ∨ (1 ≤ rwv w700 86 (20 + 4 * u45 + 0) ∧ rwv w700 86 (20 + 4 * u45 + 0) ≤ 99 ∧ 1 ≤ rwv w700 86 (20 + 4 * u45 + 1) ∧ rwv w700 86 (20 + 4 * u45 + 1) ≤ 99 ∧ 1 ≤ rwv w700 86 (20 + 4 * u45 + 2) ∧ rwv w700 86 (20 + 4 * u45 + 2) ≤ 99) := by have q := hj478; have q1 := pk710.1; omega
        clear hj478
        have ms719 : mu w700 < mu w := Nat.lt_of_le_of_lt pk710.2.1 hj475
        clear hj477
        refine xg_t (xg_blk (b := [(420, 1, 0, 0, 0, 0), (421, 3, 1, 12, 11, 17), (424, 1, 2, 1, 0, 0), (425, 1, 39, 0, 0, 0), (426, 1, 10, 0, 0, 0), (427, 1, 3, 1, 0, 0), (428, 1, 11, 0, 0, 0), (429, 1, 17, 0, 0, 0), (430, 1, 0, 0, 0, 0), (431, 1, 19, 0, 0, 0), (432, 3, 1, 12, 14, 212), (435, 1, 3, 1, 0, 0), (436, 1, 11, 0, 0, 0), (437, 3, 14, 12, 14, 212), (440, 1, 12, 0, 0, 0)]) rfl) ?_
        obtain ⟨f82_720, f82_722, f82_724, f82_726, f82_728, f82_730, f82_732, f82_734, f82_736, f82_738, f82_740, f82_741, f82_742, f82_744, f82_746, f82_748, h82_750, hb721, hb723, hb725, hb727, hb729, hb731, hb733, hb735, hb737, hb739, hb743, hb745, hb747, hb749, hb751⟩ := (hI702 82 (by decide) (by decide) : cp82 (wget w700 82))
        have hf752 : fld w700 82 4 = f82_724 := fld_of h82_750
        have hf753 : fld w700 82 5 = f82_726 := fld_of h82_750
        have hf754 : fld w700 82 7 = f82_730 := fld_of h82_750
        have hf755 : fld w700 82 10 = f82_736 := fld_of h82_750
        have hf756 : fld w700 82 14 = f82_738 := fld_of h82_750
        have hu757 : mu w700 = 2 * (fld w700 82 4 - fld w700 82 5) + min 1 (fld w700 82 7) := rfl
        have hf758 := pk711.2.2.1
        have hl759 : f82_738 ≤ 1000 := by omega
        refine xg_t (xg_aload (va := (2, 82)) rfl rfl) ?_
        refine xg_t (xg_getf (va := (2, 85)) h82_750 rfl) ?_
        refine xg_t (xg_iload (va := (0, 0)) rfl rfl) ?_
        refine xg_t (xg_dup2 rfl) ?_
        obtain ⟨g85_760, h85_761, hb762⟩ := (hI702 85 (by decide) (by decide) : cpI 7 52 4294967295 (wget w700 85))
        have h85_761 : xRow w700 85 7 52 g85_760 := h85_761
        refine xg_ialdB (n := 0) (B := 4294967295) h85_761 (hb762) xnm0 (by omega) (fun u763 hu764 he765 => ?_)
        have hl766 : u763 = u45 := by have q1 := rwv_of h85_761 (show 0 < 7 by decide); have q2 := mf714 0 (by decide); omega
        refine xg_t (xg_const) ?_
        refine xg_t (xg_iadd (u := u763) (v := 1) (z := u763 + 1) xnm0 xnm0 (by omega)) ?_
        refine xg_iastK (n := 0) (u := u763 + 1) h85_761 xnm0 xnm0 rfl (by omega) (fun w767 hr768 hb769 => ?_)
        refine xg_t (xg_aload (va := (2, 82)) rfl rfl) ?_
        refine xg_t (xg_dup rfl) ?_
        refine xg_t (xg_getf (va := (0, f82_738)) (hb769.get (by decide) h82_750) rfl) ?_
        refine xg_t (xg_const) ?_
        refine xg_t (xg_iadd (u := f82_738) (v := 1) (z := f82_738 + 1) xnm0 xnm0 (by omega)) ?_
        refine xg_putI (fl1 := [(2, 83), (2, 84), (0, f82_720), (0, f82_722), (0, f82_724), (0, f82_726), (0, f82_728), (0, f82_730), (0, f82_732), (0, f82_734), (0, f82_736), (2, 85), (2, 86), (2, 87), (0, f82_738 + 1), (2, 88), (2, 89), (2, 90), (2, 91), (2, 92), (2, 93), (2, 94), (4, f82_740), (4, f82_741), (0, f82_742), (2, 95), (2, 96), (2, 97), (2, 98), (2, 99), (2, 100), (2, 101), (2, 102), (0, f82_744), (2, 103), (2, 104), (2, 105), (2, 106), (2, 107), (2, 108), (2, 109), (0, f82_746), (0, f82_748), (2, 110), (2, 111), (2, 112), (2, 113)]) (hb769.get (by decide) h82_750) rfl rfl rfl (fun w770 hk771 hb772 => ?_)
        have hF773 : xFr [82, 85] w700 w770 := ((xFr.of (S := [82, 85]) hb769 (by decide)).tr (xFr.of (S := [82, 85]) hb772 (by decide)))
        have hA774 := FA_fr hF773 (by decide)
        have hf775 : fld w770 82 4 = f82_724 := fld_of hk771
        have hf776 : fld w770 82 5 = f82_726 := fld_of hk771
        have hf777 : fld w770 82 7 = f82_730 := fld_of hk771
        have hf778 : fld w770 82 10 = f82_736 := fld_of hk771
        have hf779 : fld w770 82 14 = f82_738 + 1 := fld_of hk771
        have hu780 : mu w770 = 2 * (fld w770 82 4 - fld w770 82 5) + min 1 (fld w770 82 7) := rfl
        have pq781 := pk711
        unfold PK PS at pq781
        have hM782 : ∀ s, s < 7 → s ≠ 0 → rwv w770 85 s = rwv w 85 s := fun s hs hn => (rwv_of (hr768.but hb772 (by decide)) hs).trans ((if_neg hn).trans ((rwv_of h85_761 hs).symm.trans (mf714 s hs)))
        have hM783 : rwv w770 85 0 = u45 + 1 := (rwv_of (hr768.but hb772 (by decide)) (by decide)).trans ((if_pos rfl).trans (by omega))
        have hM784 : ∀ s, s < 7 → rwv w770 85 s ≤ rwv w 85 s + 1 := fun s hs => by
          by_cases z : s = 0
          · subst z; omega
          · rw [hM782 s hs z]; omega
        have hO785 : ∀ j, (j < 20 + 4 * u45 ∨ 24 + 4 * u45 ≤ j) → j < 140 → rwv w770 86 j = rwv w 86 j := fun j hj hl => (rwv_fr hF773 (by decide)).trans (os712 j hj hl)
        have hl787 : FA w700 ≠ 0 ∨ u45 < 6 := rg713
        have hl788 : rwv w770 86 (20 + 4 * u45 + 0) = rwv w700 86 (20 + 4 * u45 + 0) := rwv_fr hF773 (by decide)
        have hl789 : rwv w770 86 (20 + 4 * u45 + 1) = rwv w700 86 (20 + 4 * u45 + 1) := rwv_fr hF773 (by decide)
        have hl790 : rwv w770 86 (20 + 4 * u45 + 2) = rwv w700 86 (20 + 4 * u45 + 2) := rwv_fr hF773 (by decide)
        have hN786 : FA w770 ≠ 0 ∨ 6 ≤ u45 ∨ (1 ≤ rwv w770 86 (20 + 4 * u45 + 0) ∧ rwv w770 86 (20 + 4 * u45 + 0) ≤ 99 ∧ 1 ≤ rwv w770 86 (20 + 4 * u45 + 1) ∧ rwv w770 86 (20 + 4 * u45 + 1) ≤ 99 ∧ 1 ≤ rwv w770 86 (20 + 4 * u45 + 2) ∧ rwv w770 86 (20 + 4 * u45 + 2) ≤ 99) := by have q := nw718; omega
        have hX791 : FA w770 ≠ 0 ∨ u45 < 6 := by omega
        have hD792 : FA w770 ≠ 0 ∨ (DATA w → DATA w770) := by
          by_cases z : FA w770 ≠ 0
          · exact Or.inl z
          · exact Or.inr (fun hd => hd.s0 hM782 hK48 hM783 (hX791.resolve_left z) hO785 ((hN786.resolve_left z).resolve_left (by have := hX791.resolve_left z; omega)))
        exact xg_e ⟨w770, ⟨rfl, rfl⟩, xMnv.up (S := [85, 82]) hI702 ((xFr.of (S := [85, 82]) hb769 (by decide)).tr (xFr.of (S := [85, 82]) hb772 (by decide))) (List.forall_mem_cons.mpr ⟨(show cpI 7 52 4294967295 (wget w770 85) from ⟨_, (hr768.but hb772 (by decide)), xrb (by omega) (hb762)⟩), List.forall_mem_cons.mpr ⟨(show cp82 (wget w770 82) from ⟨f82_720, f82_722, f82_724, f82_726, f82_728, f82_730, f82_732, f82_734, f82_736, f82_738 + 1, f82_740, f82_741, f82_742, f82_744, f82_746, f82_748, hk771, hb721, hb723, hb725, hb727, hb729, hb731, hb733, hb735, hb737, by omega, hb743, hb745, hb747, hb749, by omega⟩), fun _ h => absurd h List.not_mem_nil⟩⟩), ((hF471.tr (hF703.up (by decide))).tr ((xFr.of (S := [82, 83, 85, 86, 87]) hb769 (by decide)).tr (xFr.of (S := [82, 83, 85, 86, 87]) hb772 (by decide)))), ⟨fun h => by have := pq781.1 h; omega, (show fld w770 82 10 = 0 ∨ FA w770 ≠ 0 by omega), Or.inr ⟨by have := ms719; omega, by omega, hM784⟩, hD792, pk711.2.2.2.2.tr (K83.fr hF773 (by decide))⟩⟩
    refine xg_t (xg_iload (va := (0, 0)) rfl rfl) ?_
    refine xg_t (xg_swt (ks := [(0, 108), (1, 116), (2, 180), (3, 221), (4, 273), (5, 326)]) (u := 0) (z := 108) rfl rfl rfl xnm0 (xsw_y rfl)) ?_
    refine xg_t (xg_blk (b := [(108, 1, 0, 0, 0, 0), (109, 1, 2, 3, 0, 0), (110, 3, 13, 106, 96, 204), (113, 3, 8, 394, 0, 0)]) rfl) ?_
    refine xg_t (xg_aload (va := (2, 82)) rfl rfl) ?_
    refine xg_t (xg_iload (va := (0, u45)) rfl rfl) ?_
    obtain ⟨f82_793, f82_795, f82_797, f82_799, f82_801, f82_803, f82_805, f82_807, f82_809, f82_811, f82_813, f82_814, f82_815, f82_817, f82_819, f82_821, h82_823, hb794, hb796, hb798, hb800, hb802, hb804, hb806, hb808, hb810, hb812, hb816, hb818, hb820, hb822, hb824⟩ := (hI453 82 (by decide) (by decide) : cp82 (wget w451 82))
    refine xg_cVv mX12_aLayer (vs := [(0, u45)]) (rest := []) (cn1 := 0) (sl1 := 0) rfl (mALayer (hI453) (by omega) pk463.2.2.2.1) rfl h82_823 rfl rfl rfl rfl rfl rfl (fun w825 hq826 => ?_)
    obtain ⟨hI827, hF828, hx829⟩ := hq826
    clear hb794 hb796 hb798 hb800 hb802 hb804 hb806 hb808 hb810 hb812 hb816 hb818 hb820 hb822
    obtain ⟨pk830, os831, ly832⟩ := hx829
    have pk833 : PK w w825 := PK.tr pk463 pk830
    have os834 : ∀ j, (j < 20 + 4 * u45 ∨ 24 + 4 * u45 ≤ j) → j < 140 → rwv w825 86 j = rwv w 86 j := fun j hj hl => (os831 j hj hl).trans (os464 j hj hl)
    have rg835 : FA w825 ≠ 0 ∨ 0 = 1 := rg465.imp_left pk830.1
    have mf836 : ∀ s, s < 7 → rwv w825 85 s = rwv w 85 s := fun s hs => (rwv_fr hF828 (by decide)).trans (mf466 s hs)
    have ms837 : mu w825 < mu w := Nat.lt_of_le_of_lt pk830.2.1 ms467
    clear rg465
    refine xg_t (xg_goto) ?_
    refine xg_t (xg_drop (l1 := [(0, (2, 82)), (1, (0, 0)), (3, (0, u45))]) (List.forall_mem_cons.mpr ⟨List.mem_cons_of_mem _ (List.mem_cons_of_mem _ (List.mem_cons_of_mem _ (List.mem_cons_self))), List.forall_mem_cons.mpr ⟨List.mem_cons_of_mem _ (List.mem_cons_of_mem _ (List.mem_cons_self)), List.forall_mem_cons.mpr ⟨List.mem_cons_self, fun _ h => absurd h List.not_mem_nil⟩⟩⟩)) ?_
    have hX838 : FA w825 ≠ 0 ∨ u45 < 6 := Or.inl (by have q := rg835; omega)
    exact jn468 w825 (hI827) ((((hF442.up (by decide)).tr (hF454.up (by decide))).tr (hF828.up (by decide)))) (⟨pk833, os834, ms837, mf836, hX838, ly832⟩)
end XMB
