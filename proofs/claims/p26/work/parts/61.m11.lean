/-! the model: lines of films -/
def DATA (w : List (List xE)) : Prop := rwv w 85 0 ≤ 6 ∧ rwv w 85 1 ≤ 4 ∧ rwv w 85 2 ≤ 6 ∧ rwv w 85 3 ≤ 4 ∧ rwv w 85 4 ≤ 20 ∧ (1 ≤ rwv w 86 5 ∧ rwv w 86 5 ≤ 6) ∧ (1 ≤ rwv w 86 6 ∧ rwv w 86 6 ≤ 6) ∧ (1 ≤ rwv w 86 7 ∧ rwv w 86 7 ≤ 10) ∧ (1 ≤ rwv w 86 8 ∧ rwv w 86 8 ≤ 10) ∧ (∀ k i, k < rwv w 85 0 → i < 3 → 1 ≤ rwv w 86 (20 + 4 * k + i) ∧ rwv w 86 (20 + 4 * k + i) ≤ 99) ∧ ∀ k, k < rwv w 85 1 → 1 ≤ rwv w 86 (51 + 2 * k) ∧ rwv w 86 (51 + 2 * k) ≤ 999
theorem DATA.s0 {w w' : List (List xE)} {K : Nat} (h : DATA w) (hm : ∀ s, s < 7 → s ≠ 0 → rwv w' 85 s = rwv w 85 s) (hK : rwv w 85 0 = K) (hK' : rwv w' 85 0 = K + 1) (hl : K < 6) (hos : ∀ j, (j < 20 + 4 * K ∨ 24 + 4 * K ≤ j) → j < 140 → rwv w' 86 j = rwv w 86 j) (hn : 1 ≤ rwv w' 86 (20 + 4 * K + 0) ∧ rwv w' 86 (20 + 4 * K + 0) ≤ 99 ∧ 1 ≤ rwv w' 86 (20 + 4 * K + 1) ∧ rwv w' 86 (20 + 4 * K + 1) ≤ 99 ∧ 1 ≤ rwv w' 86 (20 + 4 * K + 2) ∧ rwv w' 86 (20 + 4 * K + 2) ≤ 99) : DATA w' := by
  obtain ⟨m0, m1, m2, m3, m4, r5, r6, r7, r8, d0, d1⟩ := h
  have e1 := hm 1 (by decide) (by decide)
  have e2 := hm 2 (by decide) (by decide)
  have e3 := hm 3 (by decide) (by decide)
  have e4 := hm 4 (by decide) (by decide)
  have f5 := hos 5 (by omega) (by decide)
  have f6 := hos 6 (by omega) (by decide)
  have f7 := hos 7 (by omega) (by decide)
  have f8 := hos 8 (by omega) (by decide)
  refine ⟨by omega, by omega, by omega, by omega, by omega, by omega, by omega, by omega, by omega, fun k i hk hi => ?_, fun k hk => ?_⟩
  · by_cases z : k = K
    · subst z
      rcases (show i = 0 ∨ i = 1 ∨ i = 2 by omega) with rfl | rfl | rfl <;> omega
    · rw [hos _ (by omega) (by omega)]
      exact d0 k i (by omega) hi
  · rw [hos _ (by omega) (by omega)]
    exact d1 k (by omega)
theorem DATA.s1 {w w' : List (List xE)} {K : Nat} (h : DATA w) (hm : ∀ s, s < 7 → s ≠ 1 → rwv w' 85 s = rwv w 85 s) (hK : rwv w 85 1 = K) (hK' : rwv w' 85 1 = K + 1) (hl : K < 4) (hos : ∀ j, (j < 50 + 2 * K ∨ 52 + 2 * K ≤ j) → j < 140 → rwv w' 86 j = rwv w 86 j) (hn : 1 ≤ rwv w' 86 (50 + 2 * K + 1) ∧ rwv w' 86 (50 + 2 * K + 1) ≤ 999) : DATA w' := by
  obtain ⟨m0, m1, m2, m3, m4, r5, r6, r7, r8, d0, d1⟩ := h
  have e0 := hm 0 (by decide) (by decide)
  have e2 := hm 2 (by decide) (by decide)
  have e3 := hm 3 (by decide) (by decide)
  have e4 := hm 4 (by decide) (by decide)
  have f5 := hos 5 (by omega) (by decide)
  have f6 := hos 6 (by omega) (by decide)
  have f7 := hos 7 (by omega) (by decide)
  have f8 := hos 8 (by omega) (by decide)
  refine ⟨by omega, by omega, by omega, by omega, by omega, by omega, by omega, by omega, by omega, fun k i hk hi => ?_, fun k hk => ?_⟩
  · rw [hos _ (by omega) (by omega)]
    exact d0 k i (by omega) hi
  · by_cases z : k = K
    · subst z
      have e : 51 + 2 * k = 50 + 2 * k + 1 := by omega
      rw [e]
      exact hn
    · rw [hos _ (by omega) (by omega)]
      exact d1 k (by omega)
theorem DATA.s2 {w w' : List (List xE)} {K : Nat} (h : DATA w) (hm : ∀ s, s < 7 → s ≠ 2 → rwv w' 85 s = rwv w 85 s) (hK : rwv w 85 2 = K) (hK' : rwv w' 85 2 = K + 1) (hl : K < 6) (hos : ∀ j, (j < 60 + 2 * K ∨ 62 + 2 * K ≤ j) → j < 140 → rwv w' 86 j = rwv w 86 j) (hn : True) : DATA w' := by
  obtain ⟨m0, m1, m2, m3, m4, r5, r6, r7, r8, d0, d1⟩ := h
  have e0 := hm 0 (by decide) (by decide)
  have e1 := hm 1 (by decide) (by decide)
  have e3 := hm 3 (by decide) (by decide)
  have e4 := hm 4 (by decide) (by decide)
  have f5 := hos 5 (by omega) (by decide)
  have f6 := hos 6 (by omega) (by decide)
  have f7 := hos 7 (by omega) (by decide)
  have f8 := hos 8 (by omega) (by decide)
  refine ⟨by omega, by omega, by omega, by omega, by omega, by omega, by omega, by omega, by omega, fun k i hk hi => ?_, fun k hk => ?_⟩
  · rw [hos _ (by omega) (by omega)]
    exact d0 k i (by omega) hi
  · rw [hos _ (by omega) (by omega)]
    exact d1 k (by omega)
theorem DATA.s3 {w w' : List (List xE)} {K : Nat} (h : DATA w) (hm : ∀ s, s < 7 → s ≠ 3 → rwv w' 85 s = rwv w 85 s) (hK : rwv w 85 3 = K) (hK' : rwv w' 85 3 = K + 1) (hl : K < 4) (hos : ∀ j, (j < 80 + 3 * K ∨ 83 + 3 * K ≤ j) → j < 140 → rwv w' 86 j = rwv w 86 j) (hn : True) : DATA w' := by
  obtain ⟨m0, m1, m2, m3, m4, r5, r6, r7, r8, d0, d1⟩ := h
  have e0 := hm 0 (by decide) (by decide)
  have e1 := hm 1 (by decide) (by decide)
  have e2 := hm 2 (by decide) (by decide)
  have e4 := hm 4 (by decide) (by decide)
  have f5 := hos 5 (by omega) (by decide)
  have f6 := hos 6 (by omega) (by decide)
  have f7 := hos 7 (by omega) (by decide)
  have f8 := hos 8 (by omega) (by decide)
  refine ⟨by omega, by omega, by omega, by omega, by omega, by omega, by omega, by omega, by omega, fun k i hk hi => ?_, fun k hk => ?_⟩
  · rw [hos _ (by omega) (by omega)]
    exact d0 k i (by omega) hi
  · rw [hos _ (by omega) (by omega)]
    exact d1 k (by omega)
theorem DATA.s4 {w w' : List (List xE)} {K : Nat} (h : DATA w) (hm : ∀ s, s < 7 → s ≠ 4 → rwv w' 85 s = rwv w 85 s) (hK : rwv w 85 4 = K) (hK' : rwv w' 85 4 = K + 1) (hl : K < 20) (hos : ∀ j, (j < 100 + 2 * K ∨ 102 + 2 * K ≤ j) → j < 140 → rwv w' 86 j = rwv w 86 j) (hn : True) : DATA w' := by
  obtain ⟨m0, m1, m2, m3, m4, r5, r6, r7, r8, d0, d1⟩ := h
  have e0 := hm 0 (by decide) (by decide)
  have e1 := hm 1 (by decide) (by decide)
  have e2 := hm 2 (by decide) (by decide)
  have e3 := hm 3 (by decide) (by decide)
  have f5 := hos 5 (by omega) (by decide)
  have f6 := hos 6 (by omega) (by decide)
  have f7 := hos 7 (by omega) (by decide)
  have f8 := hos 8 (by omega) (by decide)
  refine ⟨by omega, by omega, by omega, by omega, by omega, by omega, by omega, by omega, by omega, fun k i hk hi => ?_, fun k hk => ?_⟩
  · rw [hos _ (by omega) (by omega)]
    exact d0 k i (by omega) hi
  · rw [hos _ (by omega) (by omega)]
    exact d1 k (by omega)
theorem DATA.s5 {w w' : List (List xE)} {K : Nat} (h : DATA w) (hm : ∀ s, s < 7 → s ≠ 5 → rwv w' 85 s = rwv w 85 s) (hK : rwv w 85 5 = K) (hK' : rwv w' 85 5 = K + 1) (hl : K < 1) (hos : ∀ j, (j < 7 ∨ 9 ≤ j) → j < 140 → rwv w' 86 j = rwv w 86 j) (hn : 1 ≤ rwv w' 86 7 ∧ rwv w' 86 7 ≤ 10 ∧ 1 ≤ rwv w' 86 8 ∧ rwv w' 86 8 ≤ 10) : DATA w' := by
  obtain ⟨m0, m1, m2, m3, m4, r5, r6, r7, r8, d0, d1⟩ := h
  have e0 := hm 0 (by decide) (by decide)
  have e1 := hm 1 (by decide) (by decide)
  have e2 := hm 2 (by decide) (by decide)
  have e3 := hm 3 (by decide) (by decide)
  have e4 := hm 4 (by decide) (by decide)
  have f5 := hos 5 (by omega) (by decide)
  have f6 := hos 6 (by omega) (by decide)
  refine ⟨by omega, by omega, by omega, by omega, by omega, by omega, by omega, by omega, by omega, fun k i hk hi => ?_, fun k hk => ?_⟩
  · rw [hos _ (by omega) (by omega)]
    exact d0 k i (by omega) hi
  · rw [hos _ (by omega) (by omega)]
    exact d1 k (by omega)
theorem DATA.s6 {w w' : List (List xE)} {K : Nat} (h : DATA w) (hm : ∀ s, s < 7 → s ≠ 6 → rwv w' 85 s = rwv w 85 s) (hK : rwv w 85 6 = K) (hK' : rwv w' 85 6 = K + 1) (hl : K < 1) (hos : ∀ j, (j < 5 ∨ 7 ≤ j) → j < 140 → rwv w' 86 j = rwv w 86 j) (hn : 1 ≤ rwv w' 86 5 ∧ rwv w' 86 5 ≤ 6 ∧ 1 ≤ rwv w' 86 6 ∧ rwv w' 86 6 ≤ 6) : DATA w' := by
  obtain ⟨m0, m1, m2, m3, m4, r5, r6, r7, r8, d0, d1⟩ := h
  have e0 := hm 0 (by decide) (by decide)
  have e1 := hm 1 (by decide) (by decide)
  have e2 := hm 2 (by decide) (by decide)
  have e3 := hm 3 (by decide) (by decide)
  have e4 := hm 4 (by decide) (by decide)
  have f7 := hos 7 (by omega) (by decide)
  have f8 := hos 8 (by omega) (by decide)
  refine ⟨by omega, by omega, by omega, by omega, by omega, by omega, by omega, by omega, by omega, fun k i hk hi => ?_, fun k hk => ?_⟩
  · rw [hos _ (by omega) (by omega)]
    exact d0 k i (by omega) hi
  · rw [hos _ (by omega) (by omega)]
    exact d1 k (by omega)
section XMB
variable {d : Nat} {w : List (List xE)} {bd : List (Nat × Nat)} {fc : List (Nat × Nat × Bool)} {rr : Nat × Nat}
theorem mLifeTold {sa kk : Nat} (hI : xMnv w) (hsa : sa ≤ 4294967295) (hkk : kk ≤ 1001) : xPi d mX12_isLifeTold [(2, 82), (0, sa), (0, kk)] w bd fc rr (fun n w' => (n ≤ 1) ∧ xMnv w' ∧ xFr [] w w') := by
  refine xPi.of ?_
  show xTo d mX12_isLifeTold (0, [], [(0, (2, 82)), (1, (0, sa)), (2, (0, kk))], [], (w, bd, fc, 0, 0, rr)) (fun φ => ∃ n w', xEnd 4 [(0, n)] (w', bd, fc, 0, 0, rr) φ ∧ (n ≤ 1) ∧ xMnv w' ∧ xFr [] w w')
  obtain ⟨f82_1, f82_3, f82_5, f82_7, f82_9, f82_11, f82_13, f82_15, f82_17, f82_19, f82_21, f82_22, f82_23, f82_25, f82_27, f82_29, h82_31, hb2, hb4, hb6, hb8, hb10, hb12, hb14, hb16, hb18, hb20, hb24, hb26, hb28, hb30, hb32⟩ := (hI 82 (by decide) (by decide) : cp82 (wget w 82))
  obtain ⟨g86_33, h86_34, hb35⟩ := (hI 86 (by decide) (by decide) : cpI 140 53 4294967295 (wget w 86))
  have h86_34 : xRow w 86 140 53 g86_33 := h86_34
  refine xg_t (xg_blk (b := [(0, 1, 3, 0, 0, 0), (1, 1, 15, 3, 0, 0), (2, 1, 3, 0, 0, 0), (3, 2, 15, 4, 0, 0)]) rfl) ?_
  refine xg_t (xg_const) ?_
  refine xg_t (xg_istore (l1 := [(0, (2, 82)), (1, (0, sa)), (2, (0, kk))]) rfl rfl rfl) ?_
  refine xg_t (xg_const) ?_
  refine xg_t (xg_istore (l1 := [(3, (0, 0)), (0, (2, 82)), (1, (0, sa)), (2, (0, kk))]) rfl rfl rfl) ?_
  refine xg_t (xg_drop (l1 := [(0, (2, 82)), (1, (0, sa)), (2, (0, kk)), (3, (0, 0)), (4, (0, 0))]) (List.forall_mem_cons.mpr ⟨List.mem_cons_of_mem _ (List.mem_cons_of_mem _ (List.mem_cons_self)), List.forall_mem_cons.mpr ⟨List.mem_cons_of_mem _ (List.mem_cons_of_mem _ (List.mem_cons_of_mem _ (List.mem_cons_self))), List.forall_mem_cons.mpr ⟨List.mem_cons_of_mem _ (List.mem_cons_of_mem _ (List.mem_cons_of_mem _ (List.mem_cons_of_mem _ (List.mem_cons_self)))), List.forall_mem_cons.mpr ⟨List.mem_cons_of_mem _ (List.mem_cons_self), List.forall_mem_cons.mpr ⟨List.mem_cons_self, fun _ h => absurd h List.not_mem_nil⟩⟩⟩⟩⟩)) ?_
  have key36 : ∀ (m38 : Nat) (is_ ji : Nat) (w39 : List (List xE)), 4 - ji < m38 → is_ ≤ 1 → ji ≤ 4 → xMnv w39 → xFr [] w w39 → xTo d mX12_isLifeTold (5, [], [(0, (2, 82)), (1, (0, sa)), (2, (0, kk)), (3, (0, is_)), (4, (0, ji))], [], (w39, bd, fc, 0, 0, rr)) (fun φ => ∃ n w', xEnd 4 [(0, n)] (w', bd, fc, 0, 0, rr) φ ∧ (n ≤ 1) ∧ xMnv w' ∧ xFr [] w w') := by
    intro m38
    induction m38 with
    | zero => intro is_ ji w39 hz; exact absurd hz (Nat.not_lt_zero _)
    | succ m38 ih37 =>
      intro is_ ji w39 hm44 hn42 hn43 hI40 hF41
      refine xg_t (xg_blk (b := [(5, 2, 2, 4, 0, 0), (7, 1, 2, 2, 0, 0), (8, 3, 6, 49, 3, 0), (11, 2, 2, 4, 0, 0), (13, 1, 3, 4, 0, 0), (14, 3, 6, 49, 3, 0), (17, 1, 2, 3, 0, 0), (18, 3, 7, 37, 1, 0), (21, 1, 0, 0, 0, 0), (22, 3, 1, 12, 12, 20), (25, 2, 4, 50, 0, 0), (27, 1, 3, 2, 0, 0), (28, 2, 2, 4, 0, 0), (30, 1, 16, 0, 0, 0), (31, 1, 11, 0, 0, 0), (32, 1, 10, 0, 0, 0), (33, 1, 2, 1, 0, 0), (34, 3, 6, 41, 1, 0)]) rfl) ?_
      refine xg_t (xg_iload (va := (0, ji)) rfl rfl) ?_
      refine xg_t (xg_iload (va := (0, kk)) rfl rfl) ?_
      by_cases hc45 : ji < kk
      · refine xg_t (xg_icF (u := ji) (v := kk) rfl xnm0 xnm0 (xj_geF hc45 (by omega))) ?_
        refine xg_t (xg_iload (va := (0, ji)) rfl rfl) ?_
        refine xg_t (xg_const) ?_
        by_cases hc46 : ji < 4
        · refine xg_t (xg_icF (u := ji) (v := 4) rfl xnm0 xnm0 (xj_geF hc46 (by omega))) ?_
          refine xg_t (xg_iload (va := (0, is_)) rfl rfl) ?_
          by_cases hc47 : is_ = 0
          · refine xg_t (xg_ifF (u := is_) rfl xnm0 (xj_neF hc47)) ?_
            refine xg_t (xg_aload (va := (2, 82)) rfl rfl) ?_
            refine xg_t (xg_getf (va := (2, 86)) (hF41.get (by decide) h82_31) rfl) ?_
            refine xg_t (xg_bip) ?_
            refine xg_t (xg_const) ?_
            refine xg_t (xg_iload (va := (0, ji)) rfl rfl) ?_
            refine xg_t (xg_imul (u := 2) (v := ji) (z := 2 * ji) xnm0 xnm0 (by omega)) ?_
            refine xg_t (xg_iadd (u := 50) (v := 2 * ji) (z := 50 + (2 * ji)) xnm0 xnm0 (by omega)) ?_
            refine xg_ialdB (n := 50 + (2 * ji)) (B := 4294967295) (h86_34.fr hF41 (by decide)) (hb35) xnm0 (by omega) (fun u48 hu49 he50 => ?_)
            refine xg_t (xg_iload (va := (0, sa)) rfl rfl) ?_
            by_cases hc51 : u48 = sa
            · refine xg_t (xg_icF (u := u48) (v := sa) rfl xnm0 xnm0 (xj_neF hc51)) ?_
              refine xg_t (xg_blk (b := [(37, 1, 3, 1, 0, 0), (38, 3, 8, 42, 0, 0)]) rfl) ?_
              refine xg_t (xg_const) ?_
              refine xg_t (xg_goto) ?_
              refine xg_t (xg_blk (b := [(42, 1, 15, 3, 0, 0), (43, 3, 9, 4, 1, 0), (46, 3, 8, 5, 0, 0)]) rfl) ?_
              refine xg_t (xg_istore (l1 := [(0, (2, 82)), (1, (0, sa)), (2, (0, kk)), (4, (0, ji))]) rfl rfl rfl) ?_
              refine xg_t (xg_iinc (u := ji) (z := ji + 1) (l1 := [(3, (0, 1)), (0, (2, 82)), (1, (0, sa)), (2, (0, kk))]) rfl rfl (by omega) rfl) ?_
              refine xg_t (xg_goto) ?_
              refine xg_t (xg_drop (l1 := [(0, (2, 82)), (1, (0, sa)), (2, (0, kk)), (3, (0, 1)), (4, (0, ji + 1))]) (List.forall_mem_cons.mpr ⟨List.mem_cons_of_mem _ (List.mem_cons_of_mem _ (List.mem_cons_self)), List.forall_mem_cons.mpr ⟨List.mem_cons_of_mem _ (List.mem_cons_of_mem _ (List.mem_cons_of_mem _ (List.mem_cons_self))), List.forall_mem_cons.mpr ⟨List.mem_cons_of_mem _ (List.mem_cons_of_mem _ (List.mem_cons_of_mem _ (List.mem_cons_of_mem _ (List.mem_cons_self)))), List.forall_mem_cons.mpr ⟨List.mem_cons_of_mem _ (List.mem_cons_self), List.forall_mem_cons.mpr ⟨List.mem_cons_self, fun _ h => absurd h List.not_mem_nil⟩⟩⟩⟩⟩)) ?_
              exact ih37 1 (ji + 1) w39 (by omega) (by omega) (by omega) (hI40) (hF41)
            · refine xg_t (xg_icT (u := u48) (v := sa) rfl xnm0 xnm0 (xj_neT hc51)) ?_
              refine xg_t (xg_blk (b := [(41, 1, 3, 0, 0, 0)]) rfl) ?_
              refine xg_t (xg_const) ?_
              refine xg_t (xg_blk (b := [(42, 1, 15, 3, 0, 0), (43, 3, 9, 4, 1, 0), (46, 3, 8, 5, 0, 0)]) rfl) ?_
              refine xg_t (xg_istore (l1 := [(0, (2, 82)), (1, (0, sa)), (2, (0, kk)), (4, (0, ji))]) rfl rfl rfl) ?_
              refine xg_t (xg_iinc (u := ji) (z := ji + 1) (l1 := [(3, (0, 0)), (0, (2, 82)), (1, (0, sa)), (2, (0, kk))]) rfl rfl (by omega) rfl) ?_
              refine xg_t (xg_goto) ?_
              refine xg_t (xg_drop (l1 := [(0, (2, 82)), (1, (0, sa)), (2, (0, kk)), (3, (0, 0)), (4, (0, ji + 1))]) (List.forall_mem_cons.mpr ⟨List.mem_cons_of_mem _ (List.mem_cons_of_mem _ (List.mem_cons_self)), List.forall_mem_cons.mpr ⟨List.mem_cons_of_mem _ (List.mem_cons_of_mem _ (List.mem_cons_of_mem _ (List.mem_cons_self))), List.forall_mem_cons.mpr ⟨List.mem_cons_of_mem _ (List.mem_cons_of_mem _ (List.mem_cons_of_mem _ (List.mem_cons_of_mem _ (List.mem_cons_self)))), List.forall_mem_cons.mpr ⟨List.mem_cons_of_mem _ (List.mem_cons_self), List.forall_mem_cons.mpr ⟨List.mem_cons_self, fun _ h => absurd h List.not_mem_nil⟩⟩⟩⟩⟩)) ?_
              exact ih37 0 (ji + 1) w39 (by omega) (by omega) (by omega) (hI40) (hF41)
          · refine xg_t (xg_ifT (u := is_) rfl xnm0 (xj_neT hc47)) ?_
            refine xg_t (xg_blk (b := [(37, 1, 3, 1, 0, 0), (38, 3, 8, 42, 0, 0)]) rfl) ?_
            refine xg_t (xg_const) ?_
            refine xg_t (xg_goto) ?_
            refine xg_t (xg_blk (b := [(42, 1, 15, 3, 0, 0), (43, 3, 9, 4, 1, 0), (46, 3, 8, 5, 0, 0)]) rfl) ?_
            refine xg_t (xg_istore (l1 := [(0, (2, 82)), (1, (0, sa)), (2, (0, kk)), (4, (0, ji))]) rfl rfl rfl) ?_
            refine xg_t (xg_iinc (u := ji) (z := ji + 1) (l1 := [(3, (0, 1)), (0, (2, 82)), (1, (0, sa)), (2, (0, kk))]) rfl rfl (by omega) rfl) ?_
            refine xg_t (xg_goto) ?_
            refine xg_t (xg_drop (l1 := [(0, (2, 82)), (1, (0, sa)), (2, (0, kk)), (3, (0, 1)), (4, (0, ji + 1))]) (List.forall_mem_cons.mpr ⟨List.mem_cons_of_mem _ (List.mem_cons_of_mem _ (List.mem_cons_self)), List.forall_mem_cons.mpr ⟨List.mem_cons_of_mem _ (List.mem_cons_of_mem _ (List.mem_cons_of_mem _ (List.mem_cons_self))), List.forall_mem_cons.mpr ⟨List.mem_cons_of_mem _ (List.mem_cons_of_mem _ (List.mem_cons_of_mem _ (List.mem_cons_of_mem _ (List.mem_cons_self)))), List.forall_mem_cons.mpr ⟨List.mem_cons_of_mem _ (List.mem_cons_self), List.forall_mem_cons.mpr ⟨List.mem_cons_self, fun _ h => absurd h List.not_mem_nil⟩⟩⟩⟩⟩)) ?_
            exact ih37 1 (ji + 1) w39 (by omega) (by omega) (by omega) (hI40) (hF41)
        · refine xg_t (xg_icT (u := ji) (v := 4) rfl xnm0 xnm0 (xj_geT (by omega) (by omega))) ?_
          refine xg_t (xg_blk (b := [(49, 1, 2, 3, 0, 0), (50, 1, 12, 0, 1, 0)]) rfl) ?_
          refine xg_t (xg_iload (va := (0, is_)) rfl rfl) ?_
          exact xg_e ⟨is_, w39, ⟨xret_b (by omega), rfl⟩, by omega, hI40, hF41⟩
      · refine xg_t (xg_icT (u := ji) (v := kk) rfl xnm0 xnm0 (xj_geT (by omega) (by omega))) ?_
        refine xg_t (xg_blk (b := [(49, 1, 2, 3, 0, 0), (50, 1, 12, 0, 1, 0)]) rfl) ?_
        refine xg_t (xg_iload (va := (0, is_)) rfl rfl) ?_
        exact xg_e ⟨is_, w39, ⟨xret_b (by omega), rfl⟩, by omega, hI40, hF41⟩
  exact key36 _ 0 0 w (Nat.lt_succ_self _) (by omega) (by omega) (hI) (xFr.rf)
set_option maxHeartbeats 60000000 in
theorem mALine (hI : xMnv w) (hps : PS w) (hmb : ∀ s, s < 7 → rwv w 85 s ≤ 1000) (hln : fld w 82 14 ≤ 1000) : xPq (d + 7) mX12_aLine [(2, 82)] w bd fc rr [] (fun w' => xMnv w' ∧ xFr [82, 83, 85, 86, 87] w w' ∧ ((FA w ≠ 0 → FA w' ≠ 0) ∧ PS w' ∧ ((fld w' 82 10 = 1 ∧ mu w' = mu w ∧ fld w' 82 14 = fld w 82 14 ∧ ∀ s, s < 7 → rwv w' 85 s = rwv w 85 s) ∨ (mu w' < mu w ∧ fld w' 82 14 = fld w 82 14 + 1 ∧ ∀ s, s < 7 → rwv w' 85 s ≤ rwv w 85 s + 1)) ∧ (FA w' ≠ 0 ∨ (DATA w → DATA w')))) := by
  refine xPq.of ?_
  show xTo (d + 7) mX12_aLine (0, [], [(0, (2, 82))], [], (w, bd, fc, 0, 0, rr)) (fun φ => ∃ w', xEnd 0 [] (w', bd, fc, 0, 0, rr) φ ∧ xMnv w' ∧ xFr [82, 83, 85, 86, 87] w w' ∧ ((FA w ≠ 0 → FA w' ≠ 0) ∧ PS w' ∧ ((fld w' 82 10 = 1 ∧ mu w' = mu w ∧ fld w' 82 14 = fld w 82 14 ∧ ∀ s, s < 7 → rwv w' 85 s = rwv w 85 s) ∨ (mu w' < mu w ∧ fld w' 82 14 = fld w 82 14 + 1 ∧ ∀ s, s < 7 → rwv w' 85 s ≤ rwv w 85 s + 1)) ∧ (FA w' ≠ 0 ∨ (DATA w → DATA w'))))
  obtain ⟨f82_1, f82_3, f82_5, f82_7, f82_9, f82_11, f82_13, f82_15, f82_17, f82_19, f82_21, f82_22, f82_23, f82_25, f82_27, f82_29, h82_31, hb2, hb4, hb6, hb8, hb10, hb12, hb14, hb16, hb18, hb20, hb24, hb26, hb28, hb30, hb32⟩ := (hI 82 (by decide) (by decide) : cp82 (wget w 82))
  have hf33 : fld w 82 7 = f82_11 := fld_of h82_31
  have hf34 : fld w 82 10 = f82_17 := fld_of h82_31
  have hf35 : fld w 82 14 = f82_19 := fld_of h82_31
  have hps_ : fld w 82 10 = 0 ∨ FA w ≠ 0 := hps
  obtain ⟨g85_36, h85_37, hb38⟩ := (hI 85 (by decide) (by decide) : cpI 7 52 4294967295 (wget w 85))
  have h85_37 : xRow w 85 7 52 g85_36 := h85_37
  obtain ⟨g86_39, h86_40, hb41⟩ := (hI 86 (by decide) (by decide) : cpI 140 53 4294967295 (wget w 86))
  have h86_40 : xRow w 86 140 53 g86_39 := h86_40
  obtain ⟨g87_42, h87_43, hb44⟩ := (hI 87 (by decide) (by decide) : cpI 20 54 4294967295 (wget w 87))
  have h87_43 : xRow w 87 20 54 g87_42 := h87_43
  refine xg_t (xg_blk (b := [(0, 1, 0, 0, 0, 0), (1, 3, 1, 12, 9, 165), (4, 1, 15, 1, 0, 0), (5, 1, 0, 0, 0, 0), (6, 3, 1, 12, 6, 148), (9, 1, 15, 2, 0, 0), (10, 1, 0, 0, 0, 0), (11, 3, 1, 12, 10, 180), (14, 3, 7, 38, 1, 0), (17, 1, 0, 0, 0, 0), (18, 3, 1, 12, 7, 151), (21, 1, 3, 3, 0, 0), (22, 3, 6, 38, 1, 0), (25, 1, 0, 0, 0, 0), (26, 3, 1, 12, 9, 165), (29, 1, 3, 0, 0, 0), (30, 2, 4, 6, 0, 0), (32, 3, 13, 161, 98, 105), (35, 3, 7, 43, 1, 0)]) rfl) ?_
  refine xg_t (xg_aload (va := (2, 82)) rfl rfl) ?_
  refine xg_t (xg_getf (va := (0, f82_15)) h82_31 rfl) ?_
  refine xg_t (xg_istore (l1 := [(0, (2, 82))]) rfl rfl rfl) ?_
  refine xg_t (xg_aload (va := (2, 82)) rfl rfl) ?_
  refine xg_t (xg_getf (va := (0, f82_9)) h82_31 rfl) ?_
  refine xg_t (xg_istore (l1 := [(1, (0, f82_15)), (0, (2, 82))]) rfl rfl rfl) ?_
  refine xg_t (xg_aload (va := (2, 82)) rfl rfl) ?_
  refine xg_t (xg_getf (va := (0, f82_17)) h82_31 rfl) ?_
  by_cases hc45 : f82_17 = 0
  · refine xg_t (xg_ifF (u := f82_17) rfl xnm0 (xj_neF hc45)) ?_
    refine xg_t (xg_aload (va := (2, 82)) rfl rfl) ?_
    refine xg_t (xg_getf (va := (0, f82_11)) h82_31 rfl) ?_
    refine xg_t (xg_const) ?_
    by_cases hc46 : f82_11 = 3
    · refine xg_t (xg_icF (u := f82_11) (v := 3) rfl xnm0 xnm0 (xj_neF hc46)) ?_
      refine xg_t (xg_aload (va := (2, 82)) rfl rfl) ?_
      refine xg_t (xg_getf (va := (0, f82_15)) h82_31 rfl) ?_
      refine xg_t (xg_const) ?_
      refine xg_t (xg_bip) ?_
      refine xg_t (xg_cSr mX12_isIn (vs := [(0, f82_15), (0, 0), (0, 6)]) (rest := []) (rs := [(0, if 0 ≤ f82_15 ∧ f82_15 ≤ 6 then 1 else 0)]) (cn1 := 0) (sl1 := 0) rfl (mIsIn (by omega) (by omega) (by omega)) rfl rfl rfl rfl rfl rfl rfl rfl) ?_
      by_cases hc47 : 0 ≤ f82_15 ∧ f82_15 ≤ 6
      · refine xg_t (xg_ifT (u := (if 0 ≤ f82_15 ∧ f82_15 ≤ 6 then 1 else 0)) rfl xnm0 (xj_neT (xite1 hc47))) ?_
        refine xg_t (xg_blk (b := [(43, 1, 0, 0, 0, 0), (44, 3, 1, 12, 11, 17), (47, 1, 2, 1, 0, 0), (48, 1, 10, 0, 0, 0), (49, 1, 15, 3, 0, 0), (50, 1, 2, 3, 0, 0), (51, 1, 2, 1, 0, 0), (52, 3, 13, 194, 98, 193), (55, 3, 6, 64, 2, 0), (58, 1, 0, 0, 0, 0), (59, 1, 3, 3, 0, 0), (60, 1, 2, 2, 0, 0), (61, 3, 13, 115, 96, 186)]) rfl) ?_
        rcases (show f82_15 = 0 ∨ f82_15 = 1 ∨ f82_15 = 2 ∨ f82_15 = 3 ∨ f82_15 = 4 ∨ f82_15 = 5 ∨ f82_15 = 6 by omega) with rfl | rfl | rfl | rfl | rfl | rfl | rfl
        · refine xg_t (xg_aload (va := (2, 82)) rfl rfl) ?_
          refine xg_t (xg_getf (va := (2, 85)) h82_31 rfl) ?_
          refine xg_t (xg_iload (va := (0, 0)) rfl rfl) ?_
          refine xg_ialdB (n := 0) (B := 4294967295) h85_37 (hb38) xnm0 (by omega) (fun u48 hu49 he50 => ?_)
          have hK51 : rwv w 85 0 = u48 := (rwv_of h85_37 (by decide)).trans he50
          have hm52 := hmb 0 (by decide)
          have hl53 : u48 ≤ 1000 := by omega
          refine xg_t (xg_istore (l1 := [(2, (0, f82_9)), (1, (0, 0)), (0, (2, 82))]) rfl rfl rfl) ?_
          refine xg_t (xg_iload (va := (0, u48)) rfl rfl) ?_
          refine xg_t (xg_iload (va := (0, 0)) rfl rfl) ?_
          refine xg_t (xg_cSr mX12_mostOf (vs := [(0, 0)]) (rest := [(0, u48)]) (rs := [(0, 6), (0, u48)]) (cn1 := 0) (sl1 := 0) rfl (mMostR0) rfl rfl rfl rfl rfl rfl rfl rfl) ?_
          by_cases hc54 : u48 < 6
          · refine xg_t (xg_icT (u := u48) (v := 6) rfl xnm0 xnm0 (xj_ltT hc54 (by omega))) ?_
            refine xg_t (xg_blk (b := [(64, 1, 0, 0, 0, 0), (65, 3, 13, 110, 96, 190), (68, 1, 2, 1, 0, 0), (69, 39, 33, 362, 0, 9)]) rfl) ?_
            refine xg_t (xg_aload (va := (2, 82)) rfl rfl) ?_
            refine xg_cVv mX12_advance (vs := []) (rest := []) (cn1 := 0) (sl1 := 0) rfl (mAdvance (hI)) rfl h82_31 rfl rfl rfl rfl rfl rfl (fun w55 hq56 => ?_)
            obtain ⟨hI57, hF58, hx59⟩ := hq56
            obtain ⟨hv60, hv61, hv62, hv63⟩ := hx59
            have hf65 := FA_fr hF58 (by decide)
            have hs66 := (PK.rf hps).2.2.2
            unfold PS at hs66
            have pk64 : PK w w55 := ⟨fun _ => by omega, hv60, hv63, (show fld w55 82 10 = 0 ∨ FA w55 ≠ 0 by omega)⟩
            have pk67 : PK w w55 := PK.tr (PK.rf hps) pk64
            have os68 : ∀ j, (j < 20 + 4 * u48 ∨ 24 + 4 * u48 ≤ j) → j < 140 → rwv w55 86 j = rwv w 86 j := fun j hj hl => (rwv_fr hF58 (by decide)).trans ((fun j _ _ => rfl) j hj hl)
            have ms69 : mu w55 < mu w := Nat.lt_of_lt_of_le (hv61 (by omega)) (PK.rf hps).2.1
            refine xg_t (xg_iload (va := (0, 0)) rfl rfl) ?_
            refine xg_t (xg_swt (ks := [(0, 108), (1, 116), (2, 180), (3, 221), (4, 273), (5, 326)]) (u := 0) (z := 108) rfl rfl rfl xnm0 (xsw_y rfl)) ?_
            refine xg_t (xg_blk (b := [(108, 1, 0, 0, 0, 0), (109, 1, 2, 3, 0, 0), (110, 3, 13, 106, 96, 204), (113, 3, 8, 394, 0, 0)]) rfl) ?_
            refine xg_t (xg_aload (va := (2, 82)) rfl rfl) ?_
            refine xg_t (xg_iload (va := (0, u48)) rfl rfl) ?_
            obtain ⟨f82_70, f82_72, f82_74, f82_76, f82_78, f82_80, f82_82, f82_84, f82_86, f82_88, f82_90, f82_91, f82_92, f82_94, f82_96, f82_98, h82_100, hb71, hb73, hb75, hb77, hb79, hb81, hb83, hb85, hb87, hb89, hb93, hb95, hb97, hb99, hb101⟩ := (hI57 82 (by decide) (by decide) : cp82 (wget w55 82))
            refine xg_cVv mX12_aLayer (vs := [(0, u48)]) (rest := []) (cn1 := 0) (sl1 := 0) rfl (mALayer (hI57) (by omega) pk67.2.2.2) rfl h82_100 rfl rfl rfl rfl rfl rfl (fun w102 hq103 => ?_)
            obtain ⟨hI104, hF105, hx106⟩ := hq103
            obtain ⟨pk107, os108, ly109⟩ := hx106
            have pk110 : PK w w102 := PK.tr pk67 pk107
            have os111 : ∀ j, (j < 20 + 4 * u48 ∨ 24 + 4 * u48 ≤ j) → j < 140 → rwv w102 86 j = rwv w 86 j := fun j hj hl => (os108 j hj hl).trans (os68 j hj hl)
            have ms112 : mu w102 < mu w := Nat.lt_of_le_of_lt pk107.2.1 ms69
            refine xg_t (xg_goto) ?_
            refine xg_t (xg_blk (b := [(394, 1, 0, 0, 0, 0), (395, 3, 1, 12, 10, 180), (398, 3, 7, 416, 1, 0), (401, 1, 0, 0, 0, 0), (402, 3, 1, 12, 7, 151), (405, 1, 3, 2, 0, 0), (406, 3, 6, 416, 1, 0), (409, 1, 0, 0, 0, 0), (410, 3, 13, 110, 96, 190), (413, 3, 8, 420, 0, 0)]) rfl) ?_
            refine xg_t (xg_aload (va := (2, 82)) rfl rfl) ?_
            obtain ⟨f82_113, f82_115, f82_117, f82_119, f82_121, f82_123, f82_125, f82_127, f82_129, f82_131, f82_133, f82_134, f82_135, f82_137, f82_139, f82_141, h82_143, hb114, hb116, hb118, hb120, hb122, hb124, hb126, hb128, hb130, hb132, hb136, hb138, hb140, hb142, hb144⟩ := (hI104 82 (by decide) (by decide) : cp82 (wget w102 82))
            refine xg_t (xg_getf (va := (0, f82_129)) h82_143 rfl) ?_
            by_cases hc145 : f82_129 = 0
            · refine xg_t (xg_ifF (u := f82_129) rfl xnm0 (xj_neF hc145)) ?_
              refine xg_t (xg_aload (va := (2, 82)) rfl rfl) ?_
              refine xg_t (xg_getf (va := (0, f82_123)) h82_143 rfl) ?_
              refine xg_t (xg_const) ?_
              by_cases hc146 : f82_123 = 2
              · refine xg_t (xg_icF (u := f82_123) (v := 2) rfl xnm0 xnm0 (xj_neF hc146)) ?_
                refine xg_t (xg_aload (va := (2, 82)) rfl rfl) ?_
                refine xg_cVv mX12_advance (vs := []) (rest := []) (cn1 := 0) (sl1 := 0) rfl (mAdvance (hI104)) rfl h82_143 rfl rfl rfl rfl rfl rfl (fun w147 hq148 => ?_)
                obtain ⟨hI149, hF150, hx151⟩ := hq148
                obtain ⟨hv152, hv153, hv154, hv155⟩ := hx151
                have hf157 := FA_fr hF150 (by decide)
                have hs158 := pk110.2.2.2
                unfold PS at hs158
                have pk156 : PK w102 w147 := ⟨fun _ => by omega, hv152, hv155, (show fld w147 82 10 = 0 ∨ FA w147 ≠ 0 by omega)⟩
                have pk159 : PK w w147 := PK.tr pk110 pk156
                have os160 : ∀ j, (j < 20 + 4 * u48 ∨ 24 + 4 * u48 ≤ j) → j < 140 → rwv w147 86 j = rwv w 86 j := fun j hj hl => (rwv_fr hF150 (by decide)).trans (os111 j hj hl)
                have hl161 : rwv w147 86 (20 + 4 * u48 + 0) = rwv w102 86 (20 + 4 * u48 + 0) := rwv_fr hF150 (by decide)
                have hl162 : rwv w147 86 (20 + 4 * u48 + 1) = rwv w102 86 (20 + 4 * u48 + 1) := rwv_fr hF150 (by decide)
                have hl163 : rwv w147 86 (20 + 4 * u48 + 2) = rwv w102 86 (20 + 4 * u48 + 2) := rwv_fr hF150 (by decide)
                have ly164 : FA w147 ≠ 0 ∨ 6 ≤ u48 ∨ (1 ≤ rwv w147 86 (20 + 4 * u48 + 0) ∧ rwv w147 86 (20 + 4 * u48 + 0) ≤ 99 ∧ 1 ≤ rwv w147 86 (20 + 4 * u48 + 1) ∧ rwv w147 86 (20 + 4 * u48 + 1) ≤ 99 ∧ 1 ≤ rwv w147 86 (20 + 4 * u48 + 2) ∧ rwv w147 86 (20 + 4 * u48 + 2) ≤ 99) := by have q := ly109; have q1 := pk156.1; omega
                have ms165 : mu w147 < mu w := Nat.lt_of_le_of_lt pk156.2.1 ms112
                refine xg_t (xg_goto) ?_
                refine xg_t (xg_blk (b := [(420, 1, 0, 0, 0, 0), (421, 3, 1, 12, 11, 17), (424, 1, 2, 1, 0, 0), (425, 1, 39, 0, 0, 0), (426, 1, 10, 0, 0, 0), (427, 1, 3, 1, 0, 0), (428, 1, 11, 0, 0, 0), (429, 1, 17, 0, 0, 0), (430, 1, 0, 0, 0, 0), (431, 1, 19, 0, 0, 0), (432, 3, 1, 12, 14, 212), (435, 1, 3, 1, 0, 0), (436, 1, 11, 0, 0, 0), (437, 3, 14, 12, 14, 212), (440, 1, 12, 0, 0, 0)]) rfl) ?_
                obtain ⟨f82_166, f82_168, f82_170, f82_172, f82_174, f82_176, f82_178, f82_180, f82_182, f82_184, f82_186, f82_187, f82_188, f82_190, f82_192, f82_194, h82_196, hb167, hb169, hb171, hb173, hb175, hb177, hb179, hb181, hb183, hb185, hb189, hb191, hb193, hb195, hb197⟩ := (hI149 82 (by decide) (by decide) : cp82 (wget w147 82))
                have hf198 : fld w147 82 4 = f82_170 := fld_of h82_196
                have hf199 : fld w147 82 5 = f82_172 := fld_of h82_196
                have hf200 : fld w147 82 7 = f82_176 := fld_of h82_196
                have hf201 : fld w147 82 10 = f82_182 := fld_of h82_196
                have hf202 : fld w147 82 14 = f82_184 := fld_of h82_196
                have hu203 : mu w147 = 2 * (fld w147 82 4 - fld w147 82 5) + min 1 (fld w147 82 7) := rfl
                have hf204 := pk159.2.2.1
                have hl205 : f82_184 ≤ 1000 := by omega
                refine xg_t (xg_aload (va := (2, 82)) rfl rfl) ?_
                refine xg_t (xg_getf (va := (2, 85)) h82_196 rfl) ?_
                refine xg_t (xg_iload (va := (0, 0)) rfl rfl) ?_
                refine xg_t (xg_dup2 rfl) ?_
                refine xg_ialdB (n := 0) (B := 4294967295) (((h85_37.fr hF58 (by decide)).fr hF105 (by decide)).fr hF150 (by decide)) (hb38) xnm0 (by omega) (fun u206 hu207 he208 => ?_)
                have hl209 : u206 = u48 := by omega
                refine xg_t (xg_const) ?_
                refine xg_t (xg_iadd (u := u206) (v := 1) (z := u206 + 1) xnm0 xnm0 (by omega)) ?_
                refine xg_iastK (n := 0) (u := u206 + 1) (((h85_37.fr hF58 (by decide)).fr hF105 (by decide)).fr hF150 (by decide)) xnm0 xnm0 rfl (by omega) (fun w210 hr211 hb212 => ?_)
                refine xg_t (xg_aload (va := (2, 82)) rfl rfl) ?_
                refine xg_t (xg_dup rfl) ?_
                refine xg_t (xg_getf (va := (0, f82_184)) (hb212.get (by decide) h82_196) rfl) ?_
                refine xg_t (xg_const) ?_
                refine xg_t (xg_iadd (u := f82_184) (v := 1) (z := f82_184 + 1) xnm0 xnm0 (by omega)) ?_
                refine xg_putI (fl1 := [(2, 83), (2, 84), (0, f82_166), (0, f82_168), (0, f82_170), (0, f82_172), (0, f82_174), (0, f82_176), (0, f82_178), (0, f82_180), (0, f82_182), (2, 85), (2, 86), (2, 87), (0, f82_184 + 1), (2, 88), (2, 89), (2, 90), (2, 91), (2, 92), (2, 93), (2, 94), (4, f82_186), (4, f82_187), (0, f82_188), (2, 95), (2, 96), (2, 97), (2, 98), (2, 99), (2, 100), (2, 101), (2, 102), (0, f82_190), (2, 103), (2, 104), (2, 105), (2, 106), (2, 107), (2, 108), (2, 109), (0, f82_192), (0, f82_194), (2, 110), (2, 111), (2, 112), (2, 113)]) (hb212.get (by decide) h82_196) rfl rfl rfl (fun w213 hk214 hb215 => ?_)
                have hF216 : xFr [82, 85] w147 w213 := ((xFr.of (S := [82, 85]) hb212 (by decide)).tr (xFr.of (S := [82, 85]) hb215 (by decide)))
                have hA217 := FA_fr hF216 (by decide)
                have hf218 : fld w213 82 4 = f82_170 := fld_of hk214
                have hf219 : fld w213 82 5 = f82_172 := fld_of hk214
                have hf220 : fld w213 82 7 = f82_176 := fld_of hk214
                have hf221 : fld w213 82 10 = f82_182 := fld_of hk214
                have hf222 : fld w213 82 14 = f82_184 + 1 := fld_of hk214
                have hu223 : mu w213 = 2 * (fld w213 82 4 - fld w213 82 5) + min 1 (fld w213 82 7) := rfl
                have pq224 := pk159
                unfold PK PS at pq224
                have hM225 : ∀ s, s < 7 → s ≠ 0 → rwv w213 85 s = rwv w 85 s := fun s hs hn => (rwv_of (hr211.but hb215 (by decide)) hs).trans ((if_neg hn).trans (rwv_of h85_37 hs).symm)
                have hM226 : rwv w213 85 0 = u48 + 1 := (rwv_of (hr211.but hb215 (by decide)) (by decide)).trans ((if_pos rfl).trans (by omega))
                have hM227 : ∀ s, s < 7 → rwv w213 85 s ≤ rwv w 85 s + 1 := fun s hs => by
                  by_cases z : s = 0
                  · subst z; omega
                  · rw [hM225 s hs z]; omega
                have hO228 : ∀ j, (j < 20 + 4 * u48 ∨ 24 + 4 * u48 ≤ j) → j < 140 → rwv w213 86 j = rwv w 86 j := fun j hj hl => (rwv_fr hF216 (by decide)).trans (os160 j hj hl)
                have hl230 := ly164
                have hl231 : rwv w213 86 (20 + 4 * u48 + 0) = rwv w147 86 (20 + 4 * u48 + 0) := rwv_fr hF216 (by decide)
                have hl232 : rwv w213 86 (20 + 4 * u48 + 1) = rwv w147 86 (20 + 4 * u48 + 1) := rwv_fr hF216 (by decide)
                have hl233 : rwv w213 86 (20 + 4 * u48 + 2) = rwv w147 86 (20 + 4 * u48 + 2) := rwv_fr hF216 (by decide)
                have hN229 : FA w213 ≠ 0 ∨ 6 ≤ u48 ∨ (1 ≤ rwv w213 86 (20 + 4 * u48 + 0) ∧ rwv w213 86 (20 + 4 * u48 + 0) ≤ 99 ∧ 1 ≤ rwv w213 86 (20 + 4 * u48 + 1) ∧ rwv w213 86 (20 + 4 * u48 + 1) ≤ 99 ∧ 1 ≤ rwv w213 86 (20 + 4 * u48 + 2) ∧ rwv w213 86 (20 + 4 * u48 + 2) ≤ 99) := by omega
                have hX234 : FA w213 ≠ 0 ∨ u48 < 6 := by omega
                have hD235 : FA w213 ≠ 0 ∨ (DATA w → DATA w213) := by
                  by_cases z : FA w213 ≠ 0
                  · exact Or.inl z
                  · exact Or.inr (fun hd => hd.s0 hM225 hK51 hM226 (hX234.resolve_left z) hO228 ((hN229.resolve_left z).resolve_left (by have := hX234.resolve_left z; omega)))
                exact xg_e ⟨w213, ⟨rfl, rfl⟩, xMnv.up (S := [85, 82]) hI149 ((xFr.of (S := [85, 82]) hb212 (by decide)).tr (xFr.of (S := [85, 82]) hb215 (by decide))) (List.forall_mem_cons.mpr ⟨(show cpI 7 52 4294967295 (wget w213 85) from ⟨_, (hr211.but hb215 (by decide)), xrb (by omega) (hb38)⟩), List.forall_mem_cons.mpr ⟨(show cp82 (wget w213 82) from ⟨f82_166, f82_168, f82_170, f82_172, f82_174, f82_176, f82_178, f82_180, f82_182, f82_184 + 1, f82_186, f82_187, f82_188, f82_190, f82_192, f82_194, hk214, by omega, by omega, by omega, by omega, by omega, by omega, by omega, by omega, by omega, by omega, by omega, by omega, by omega, by omega, by omega⟩), fun _ h => absurd h List.not_mem_nil⟩⟩), ((((hF58.up (by decide)).tr (hF105.up (by decide))).tr (hF150.up (by decide))).tr ((xFr.of (S := [82, 83, 85, 86, 87]) hb212 (by decide)).tr (xFr.of (S := [82, 83, 85, 86, 87]) hb215 (by decide)))), ⟨fun h => by have := pq224.1 h; omega, (show fld w213 82 10 = 0 ∨ FA w213 ≠ 0 by omega), Or.inr ⟨by have := ms165; omega, by omega, hM227⟩, hD235⟩⟩
              · refine xg_t (xg_icT (u := f82_123) (v := 2) rfl xnm0 xnm0 (xj_neT hc146)) ?_
                refine xg_t (xg_blk (b := [(416, 1, 0, 0, 0, 0), (417, 3, 13, 140, 96, 183)]) rfl) ?_
                refine xg_t (xg_aload (va := (2, 82)) rfl rfl) ?_
                refine xg_cVv mX12_ends (vs := []) (rest := []) (cn1 := 0) (sl1 := 0) rfl (mEnds (hI104) pk110.2.2.2) rfl h82_143 rfl rfl rfl rfl rfl rfl (fun w236 hq237 => ?_)
                obtain ⟨hI238, hF239, hx240⟩ := hq237
                obtain ⟨hv241, hv242, hv243, hv244⟩ := hx240
                have pk245 : PK w102 w236 := ⟨fun _ => hv241, by omega, by omega, Or.inr hv241⟩
                have pk246 : PK w w236 := PK.tr pk110 pk245
                have os247 : ∀ j, (j < 20 + 4 * u48 ∨ 24 + 4 * u48 ≤ j) → j < 140 → rwv w236 86 j = rwv w 86 j := fun j hj hl => (rwv_fr hF239 (by decide)).trans (os111 j hj hl)
                have hl248 : rwv w236 86 (20 + 4 * u48 + 0) = rwv w102 86 (20 + 4 * u48 + 0) := rwv_fr hF239 (by decide)
                have hl249 : rwv w236 86 (20 + 4 * u48 + 1) = rwv w102 86 (20 + 4 * u48 + 1) := rwv_fr hF239 (by decide)
                have hl250 : rwv w236 86 (20 + 4 * u48 + 2) = rwv w102 86 (20 + 4 * u48 + 2) := rwv_fr hF239 (by decide)
                have ly251 : FA w236 ≠ 0 ∨ 6 ≤ u48 ∨ (1 ≤ rwv w236 86 (20 + 4 * u48 + 0) ∧ rwv w236 86 (20 + 4 * u48 + 0) ≤ 99 ∧ 1 ≤ rwv w236 86 (20 + 4 * u48 + 1) ∧ rwv w236 86 (20 + 4 * u48 + 1) ≤ 99 ∧ 1 ≤ rwv w236 86 (20 + 4 * u48 + 2) ∧ rwv w236 86 (20 + 4 * u48 + 2) ≤ 99) := by have q := ly109; have q1 := pk245.1; omega
                have ms252 : mu w236 < mu w := Nat.lt_of_le_of_lt pk245.2.1 ms112
                refine xg_t (xg_blk (b := [(420, 1, 0, 0, 0, 0), (421, 3, 1, 12, 11, 17), (424, 1, 2, 1, 0, 0), (425, 1, 39, 0, 0, 0), (426, 1, 10, 0, 0, 0), (427, 1, 3, 1, 0, 0), (428, 1, 11, 0, 0, 0), (429, 1, 17, 0, 0, 0), (430, 1, 0, 0, 0, 0), (431, 1, 19, 0, 0, 0), (432, 3, 1, 12, 14, 212), (435, 1, 3, 1, 0, 0), (436, 1, 11, 0, 0, 0), (437, 3, 14, 12, 14, 212), (440, 1, 12, 0, 0, 0)]) rfl) ?_
                obtain ⟨f82_253, f82_255, f82_257, f82_259, f82_261, f82_263, f82_265, f82_267, f82_269, f82_271, f82_273, f82_274, f82_275, f82_277, f82_279, f82_281, h82_283, hb254, hb256, hb258, hb260, hb262, hb264, hb266, hb268, hb270, hb272, hb276, hb278, hb280, hb282, hb284⟩ := (hI238 82 (by decide) (by decide) : cp82 (wget w236 82))
                have hf285 : fld w236 82 4 = f82_257 := fld_of h82_283
                have hf286 : fld w236 82 5 = f82_259 := fld_of h82_283
                have hf287 : fld w236 82 7 = f82_263 := fld_of h82_283
                have hf288 : fld w236 82 10 = f82_269 := fld_of h82_283
                have hf289 : fld w236 82 14 = f82_271 := fld_of h82_283
                have hu290 : mu w236 = 2 * (fld w236 82 4 - fld w236 82 5) + min 1 (fld w236 82 7) := rfl
                have hf291 := pk246.2.2.1
                have hl292 : f82_271 ≤ 1000 := by omega
                refine xg_t (xg_aload (va := (2, 82)) rfl rfl) ?_
                refine xg_t (xg_getf (va := (2, 85)) h82_283 rfl) ?_
                refine xg_t (xg_iload (va := (0, 0)) rfl rfl) ?_
                refine xg_t (xg_dup2 rfl) ?_
                refine xg_ialdB (n := 0) (B := 4294967295) (((h85_37.fr hF58 (by decide)).fr hF105 (by decide)).fr hF239 (by decide)) (hb38) xnm0 (by omega) (fun u293 hu294 he295 => ?_)
                have hl296 : u293 = u48 := by omega
                refine xg_t (xg_const) ?_
                refine xg_t (xg_iadd (u := u293) (v := 1) (z := u293 + 1) xnm0 xnm0 (by omega)) ?_
                refine xg_iastK (n := 0) (u := u293 + 1) (((h85_37.fr hF58 (by decide)).fr hF105 (by decide)).fr hF239 (by decide)) xnm0 xnm0 rfl (by omega) (fun w297 hr298 hb299 => ?_)
                refine xg_t (xg_aload (va := (2, 82)) rfl rfl) ?_
                refine xg_t (xg_dup rfl) ?_
                refine xg_t (xg_getf (va := (0, f82_271)) (hb299.get (by decide) h82_283) rfl) ?_
                refine xg_t (xg_const) ?_
                refine xg_t (xg_iadd (u := f82_271) (v := 1) (z := f82_271 + 1) xnm0 xnm0 (by omega)) ?_
                refine xg_putI (fl1 := [(2, 83), (2, 84), (0, f82_253), (0, f82_255), (0, f82_257), (0, f82_259), (0, f82_261), (0, f82_263), (0, f82_265), (0, f82_267), (0, f82_269), (2, 85), (2, 86), (2, 87), (0, f82_271 + 1), (2, 88), (2, 89), (2, 90), (2, 91), (2, 92), (2, 93), (2, 94), (4, f82_273), (4, f82_274), (0, f82_275), (2, 95), (2, 96), (2, 97), (2, 98), (2, 99), (2, 100), (2, 101), (2, 102), (0, f82_277), (2, 103), (2, 104), (2, 105), (2, 106), (2, 107), (2, 108), (2, 109), (0, f82_279), (0, f82_281), (2, 110), (2, 111), (2, 112), (2, 113)]) (hb299.get (by decide) h82_283) rfl rfl rfl (fun w300 hk301 hb302 => ?_)
                have hF303 : xFr [82, 85] w236 w300 := ((xFr.of (S := [82, 85]) hb299 (by decide)).tr (xFr.of (S := [82, 85]) hb302 (by decide)))
                have hA304 := FA_fr hF303 (by decide)
                have hf305 : fld w300 82 4 = f82_257 := fld_of hk301
                have hf306 : fld w300 82 5 = f82_259 := fld_of hk301
                have hf307 : fld w300 82 7 = f82_263 := fld_of hk301
                have hf308 : fld w300 82 10 = f82_269 := fld_of hk301
                have hf309 : fld w300 82 14 = f82_271 + 1 := fld_of hk301
                have hu310 : mu w300 = 2 * (fld w300 82 4 - fld w300 82 5) + min 1 (fld w300 82 7) := rfl
                have pq311 := pk246
                unfold PK PS at pq311
                have hM312 : ∀ s, s < 7 → s ≠ 0 → rwv w300 85 s = rwv w 85 s := fun s hs hn => (rwv_of (hr298.but hb302 (by decide)) hs).trans ((if_neg hn).trans (rwv_of h85_37 hs).symm)
                have hM313 : rwv w300 85 0 = u48 + 1 := (rwv_of (hr298.but hb302 (by decide)) (by decide)).trans ((if_pos rfl).trans (by omega))
                have hM314 : ∀ s, s < 7 → rwv w300 85 s ≤ rwv w 85 s + 1 := fun s hs => by
                  by_cases z : s = 0
                  · subst z; omega
                  · rw [hM312 s hs z]; omega
                have hO315 : ∀ j, (j < 20 + 4 * u48 ∨ 24 + 4 * u48 ≤ j) → j < 140 → rwv w300 86 j = rwv w 86 j := fun j hj hl => (rwv_fr hF303 (by decide)).trans (os247 j hj hl)
                have hl317 := ly251
                have hl318 : rwv w300 86 (20 + 4 * u48 + 0) = rwv w236 86 (20 + 4 * u48 + 0) := rwv_fr hF303 (by decide)
                have hl319 : rwv w300 86 (20 + 4 * u48 + 1) = rwv w236 86 (20 + 4 * u48 + 1) := rwv_fr hF303 (by decide)
                have hl320 : rwv w300 86 (20 + 4 * u48 + 2) = rwv w236 86 (20 + 4 * u48 + 2) := rwv_fr hF303 (by decide)
                have hN316 : FA w300 ≠ 0 ∨ 6 ≤ u48 ∨ (1 ≤ rwv w300 86 (20 + 4 * u48 + 0) ∧ rwv w300 86 (20 + 4 * u48 + 0) ≤ 99 ∧ 1 ≤ rwv w300 86 (20 + 4 * u48 + 1) ∧ rwv w300 86 (20 + 4 * u48 + 1) ≤ 99 ∧ 1 ≤ rwv w300 86 (20 + 4 * u48 + 2) ∧ rwv w300 86 (20 + 4 * u48 + 2) ≤ 99) := by omega
                have hX321 : FA w300 ≠ 0 ∨ u48 < 6 := by omega
                have hD322 : FA w300 ≠ 0 ∨ (DATA w → DATA w300) := by
                  by_cases z : FA w300 ≠ 0
                  · exact Or.inl z
                  · exact Or.inr (fun hd => hd.s0 hM312 hK51 hM313 (hX321.resolve_left z) hO315 ((hN316.resolve_left z).resolve_left (by have := hX321.resolve_left z; omega)))
                exact xg_e ⟨w300, ⟨rfl, rfl⟩, xMnv.up (S := [85, 82]) hI238 ((xFr.of (S := [85, 82]) hb299 (by decide)).tr (xFr.of (S := [85, 82]) hb302 (by decide))) (List.forall_mem_cons.mpr ⟨(show cpI 7 52 4294967295 (wget w300 85) from ⟨_, (hr298.but hb302 (by decide)), xrb (by omega) (hb38)⟩), List.forall_mem_cons.mpr ⟨(show cp82 (wget w300 82) from ⟨f82_253, f82_255, f82_257, f82_259, f82_261, f82_263, f82_265, f82_267, f82_269, f82_271 + 1, f82_273, f82_274, f82_275, f82_277, f82_279, f82_281, hk301, by omega, by omega, by omega, by omega, by omega, by omega, by omega, by omega, by omega, by omega, by omega, by omega, by omega, by omega, by omega⟩), fun _ h => absurd h List.not_mem_nil⟩⟩), ((((hF58.up (by decide)).tr (hF105.up (by decide))).tr (hF239.up (by decide))).tr ((xFr.of (S := [82, 83, 85, 86, 87]) hb299 (by decide)).tr (xFr.of (S := [82, 83, 85, 86, 87]) hb302 (by decide)))), ⟨fun h => by have := pq311.1 h; omega, (show fld w300 82 10 = 0 ∨ FA w300 ≠ 0 by omega), Or.inr ⟨by have := ms252; omega, by omega, hM314⟩, hD322⟩⟩
            · refine xg_t (xg_ifT (u := f82_129) rfl xnm0 (xj_neT hc145)) ?_
              refine xg_t (xg_blk (b := [(416, 1, 0, 0, 0, 0), (417, 3, 13, 140, 96, 183)]) rfl) ?_
              refine xg_t (xg_aload (va := (2, 82)) rfl rfl) ?_
              refine xg_cVv mX12_ends (vs := []) (rest := []) (cn1 := 0) (sl1 := 0) rfl (mEnds (hI104) pk110.2.2.2) rfl h82_143 rfl rfl rfl rfl rfl rfl (fun w323 hq324 => ?_)
              obtain ⟨hI325, hF326, hx327⟩ := hq324
              obtain ⟨hv328, hv329, hv330, hv331⟩ := hx327
              have pk332 : PK w102 w323 := ⟨fun _ => hv328, by omega, by omega, Or.inr hv328⟩
              have pk333 : PK w w323 := PK.tr pk110 pk332
              have os334 : ∀ j, (j < 20 + 4 * u48 ∨ 24 + 4 * u48 ≤ j) → j < 140 → rwv w323 86 j = rwv w 86 j := fun j hj hl => (rwv_fr hF326 (by decide)).trans (os111 j hj hl)
              have hl335 : rwv w323 86 (20 + 4 * u48 + 0) = rwv w102 86 (20 + 4 * u48 + 0) := rwv_fr hF326 (by decide)
              have hl336 : rwv w323 86 (20 + 4 * u48 + 1) = rwv w102 86 (20 + 4 * u48 + 1) := rwv_fr hF326 (by decide)
              have hl337 : rwv w323 86 (20 + 4 * u48 + 2) = rwv w102 86 (20 + 4 * u48 + 2) := rwv_fr hF326 (by decide)
              have ly338 : FA w323 ≠ 0 ∨ 6 ≤ u48 ∨ (1 ≤ rwv w323 86 (20 + 4 * u48 + 0) ∧ rwv w323 86 (20 + 4 * u48 + 0) ≤ 99 ∧ 1 ≤ rwv w323 86 (20 + 4 * u48 + 1) ∧ rwv w323 86 (20 + 4 * u48 + 1) ≤ 99 ∧ 1 ≤ rwv w323 86 (20 + 4 * u48 + 2) ∧ rwv w323 86 (20 + 4 * u48 + 2) ≤ 99) := by have q := ly109; have q1 := pk332.1; omega
              have ms339 : mu w323 < mu w := Nat.lt_of_le_of_lt pk332.2.1 ms112
              refine xg_t (xg_blk (b := [(420, 1, 0, 0, 0, 0), (421, 3, 1, 12, 11, 17), (424, 1, 2, 1, 0, 0), (425, 1, 39, 0, 0, 0), (426, 1, 10, 0, 0, 0), (427, 1, 3, 1, 0, 0), (428, 1, 11, 0, 0, 0), (429, 1, 17, 0, 0, 0), (430, 1, 0, 0, 0, 0), (431, 1, 19, 0, 0, 0), (432, 3, 1, 12, 14, 212), (435, 1, 3, 1, 0, 0), (436, 1, 11, 0, 0, 0), (437, 3, 14, 12, 14, 212), (440, 1, 12, 0, 0, 0)]) rfl) ?_
              obtain ⟨f82_340, f82_342, f82_344, f82_346, f82_348, f82_350, f82_352, f82_354, f82_356, f82_358, f82_360, f82_361, f82_362, f82_364, f82_366, f82_368, h82_370, hb341, hb343, hb345, hb347, hb349, hb351, hb353, hb355, hb357, hb359, hb363, hb365, hb367, hb369, hb371⟩ := (hI325 82 (by decide) (by decide) : cp82 (wget w323 82))
              have hf372 : fld w323 82 4 = f82_344 := fld_of h82_370
              have hf373 : fld w323 82 5 = f82_346 := fld_of h82_370
              have hf374 : fld w323 82 7 = f82_350 := fld_of h82_370
              have hf375 : fld w323 82 10 = f82_356 := fld_of h82_370
              have hf376 : fld w323 82 14 = f82_358 := fld_of h82_370
              have hu377 : mu w323 = 2 * (fld w323 82 4 - fld w323 82 5) + min 1 (fld w323 82 7) := rfl
              have hf378 := pk333.2.2.1
              have hl379 : f82_358 ≤ 1000 := by omega
              refine xg_t (xg_aload (va := (2, 82)) rfl rfl) ?_
              refine xg_t (xg_getf (va := (2, 85)) h82_370 rfl) ?_
              refine xg_t (xg_iload (va := (0, 0)) rfl rfl) ?_
              refine xg_t (xg_dup2 rfl) ?_
              refine xg_ialdB (n := 0) (B := 4294967295) (((h85_37.fr hF58 (by decide)).fr hF105 (by decide)).fr hF326 (by decide)) (hb38) xnm0 (by omega) (fun u380 hu381 he382 => ?_)
              have hl383 : u380 = u48 := by omega
              refine xg_t (xg_const) ?_
              refine xg_t (xg_iadd (u := u380) (v := 1) (z := u380 + 1) xnm0 xnm0 (by omega)) ?_
              refine xg_iastK (n := 0) (u := u380 + 1) (((h85_37.fr hF58 (by decide)).fr hF105 (by decide)).fr hF326 (by decide)) xnm0 xnm0 rfl (by omega) (fun w384 hr385 hb386 => ?_)
              refine xg_t (xg_aload (va := (2, 82)) rfl rfl) ?_
              refine xg_t (xg_dup rfl) ?_
              refine xg_t (xg_getf (va := (0, f82_358)) (hb386.get (by decide) h82_370) rfl) ?_
              refine xg_t (xg_const) ?_
              refine xg_t (xg_iadd (u := f82_358) (v := 1) (z := f82_358 + 1) xnm0 xnm0 (by omega)) ?_
              refine xg_putI (fl1 := [(2, 83), (2, 84), (0, f82_340), (0, f82_342), (0, f82_344), (0, f82_346), (0, f82_348), (0, f82_350), (0, f82_352), (0, f82_354), (0, f82_356), (2, 85), (2, 86), (2, 87), (0, f82_358 + 1), (2, 88), (2, 89), (2, 90), (2, 91), (2, 92), (2, 93), (2, 94), (4, f82_360), (4, f82_361), (0, f82_362), (2, 95), (2, 96), (2, 97), (2, 98), (2, 99), (2, 100), (2, 101), (2, 102), (0, f82_364), (2, 103), (2, 104), (2, 105), (2, 106), (2, 107), (2, 108), (2, 109), (0, f82_366), (0, f82_368), (2, 110), (2, 111), (2, 112), (2, 113)]) (hb386.get (by decide) h82_370) rfl rfl rfl (fun w387 hk388 hb389 => ?_)
              have hF390 : xFr [82, 85] w323 w387 := ((xFr.of (S := [82, 85]) hb386 (by decide)).tr (xFr.of (S := [82, 85]) hb389 (by decide)))
              have hA391 := FA_fr hF390 (by decide)
              have hf392 : fld w387 82 4 = f82_344 := fld_of hk388
              have hf393 : fld w387 82 5 = f82_346 := fld_of hk388
              have hf394 : fld w387 82 7 = f82_350 := fld_of hk388
              have hf395 : fld w387 82 10 = f82_356 := fld_of hk388
              have hf396 : fld w387 82 14 = f82_358 + 1 := fld_of hk388
              have hu397 : mu w387 = 2 * (fld w387 82 4 - fld w387 82 5) + min 1 (fld w387 82 7) := rfl
              have pq398 := pk333
              unfold PK PS at pq398
              have hM399 : ∀ s, s < 7 → s ≠ 0 → rwv w387 85 s = rwv w 85 s := fun s hs hn => (rwv_of (hr385.but hb389 (by decide)) hs).trans ((if_neg hn).trans (rwv_of h85_37 hs).symm)
              have hM400 : rwv w387 85 0 = u48 + 1 := (rwv_of (hr385.but hb389 (by decide)) (by decide)).trans ((if_pos rfl).trans (by omega))
              have hM401 : ∀ s, s < 7 → rwv w387 85 s ≤ rwv w 85 s + 1 := fun s hs => by
                by_cases z : s = 0
                · subst z; omega
                · rw [hM399 s hs z]; omega
              have hO402 : ∀ j, (j < 20 + 4 * u48 ∨ 24 + 4 * u48 ≤ j) → j < 140 → rwv w387 86 j = rwv w 86 j := fun j hj hl => (rwv_fr hF390 (by decide)).trans (os334 j hj hl)
              have hl404 := ly338
              have hl405 : rwv w387 86 (20 + 4 * u48 + 0) = rwv w323 86 (20 + 4 * u48 + 0) := rwv_fr hF390 (by decide)
              have hl406 : rwv w387 86 (20 + 4 * u48 + 1) = rwv w323 86 (20 + 4 * u48 + 1) := rwv_fr hF390 (by decide)
              have hl407 : rwv w387 86 (20 + 4 * u48 + 2) = rwv w323 86 (20 + 4 * u48 + 2) := rwv_fr hF390 (by decide)
              have hN403 : FA w387 ≠ 0 ∨ 6 ≤ u48 ∨ (1 ≤ rwv w387 86 (20 + 4 * u48 + 0) ∧ rwv w387 86 (20 + 4 * u48 + 0) ≤ 99 ∧ 1 ≤ rwv w387 86 (20 + 4 * u48 + 1) ∧ rwv w387 86 (20 + 4 * u48 + 1) ≤ 99 ∧ 1 ≤ rwv w387 86 (20 + 4 * u48 + 2) ∧ rwv w387 86 (20 + 4 * u48 + 2) ≤ 99) := by omega
              have hX408 : FA w387 ≠ 0 ∨ u48 < 6 := by omega
              have hD409 : FA w387 ≠ 0 ∨ (DATA w → DATA w387) := by
                by_cases z : FA w387 ≠ 0
                · exact Or.inl z
                · exact Or.inr (fun hd => hd.s0 hM399 hK51 hM400 (hX408.resolve_left z) hO402 ((hN403.resolve_left z).resolve_left (by have := hX408.resolve_left z; omega)))
              exact xg_e ⟨w387, ⟨rfl, rfl⟩, xMnv.up (S := [85, 82]) hI325 ((xFr.of (S := [85, 82]) hb386 (by decide)).tr (xFr.of (S := [85, 82]) hb389 (by decide))) (List.forall_mem_cons.mpr ⟨(show cpI 7 52 4294967295 (wget w387 85) from ⟨_, (hr385.but hb389 (by decide)), xrb (by omega) (hb38)⟩), List.forall_mem_cons.mpr ⟨(show cp82 (wget w387 82) from ⟨f82_340, f82_342, f82_344, f82_346, f82_348, f82_350, f82_352, f82_354, f82_356, f82_358 + 1, f82_360, f82_361, f82_362, f82_364, f82_366, f82_368, hk388, by omega, by omega, by omega, by omega, by omega, by omega, by omega, by omega, by omega, by omega, by omega, by omega, by omega, by omega, by omega⟩), fun _ h => absurd h List.not_mem_nil⟩⟩), ((((hF58.up (by decide)).tr (hF105.up (by decide))).tr (hF326.up (by decide))).tr ((xFr.of (S := [82, 83, 85, 86, 87]) hb386 (by decide)).tr (xFr.of (S := [82, 83, 85, 86, 87]) hb389 (by decide)))), ⟨fun h => by have := pq398.1 h; omega, (show fld w387 82 10 = 0 ∨ FA w387 ≠ 0 by omega), Or.inr ⟨by have := ms339; omega, by omega, hM401⟩, hD409⟩⟩
          · refine xg_t (xg_icF (u := u48) (v := 6) rfl xnm0 xnm0 (xj_ltF (by omega) (by omega))) ?_
            refine xg_t (xg_aload (va := (2, 82)) rfl rfl) ?_
            refine xg_t (xg_const) ?_
            refine xg_t (xg_iload (va := (0, f82_9)) rfl rfl) ?_
            refine xg_cVv mX12_also (vs := [(0, 3), (0, f82_9)]) (rest := []) (cn1 := 0) (sl1 := 0) rfl (mAlso (hI) (by omega) (by omega) (by omega) (PK.rf hps).2.2.2) rfl h82_31 rfl rfl rfl rfl rfl rfl (fun w410 hq411 => ?_)
            obtain ⟨hI412, hF413, hx414⟩ := hq411
            have pk415 : PK w w410 := ⟨fun _ => hx414, Nat.le_of_eq (mu_fr hF413 (by decide)), fld_fr hF413 (by decide), Or.inr hx414⟩
            have pk416 : PK w w410 := PK.tr (PK.rf hps) pk415
            have os417 : ∀ j, (j < 20 + 4 * u48 ∨ 24 + 4 * u48 ≤ j) → j < 140 → rwv w410 86 j = rwv w 86 j := fun j hj hl => (rwv_fr hF413 (by decide)).trans ((fun j _ _ => rfl) j hj hl)
            have hf418 := fld_fr (c := 82) (j := 7) hF413 (by decide)
            refine xg_t (xg_blk (b := [(64, 1, 0, 0, 0, 0), (65, 3, 13, 110, 96, 190), (68, 1, 2, 1, 0, 0), (69, 39, 33, 362, 0, 9)]) rfl) ?_
            refine xg_t (xg_aload (va := (2, 82)) rfl rfl) ?_
            refine xg_cVv mX12_advance (vs := []) (rest := []) (cn1 := 0) (sl1 := 0) rfl (mAdvance (hI412)) rfl (hF413.get (by decide) h82_31) rfl rfl rfl rfl rfl rfl (fun w419 hq420 => ?_)
            obtain ⟨hI421, hF422, hx423⟩ := hq420
            obtain ⟨hv424, hv425, hv426, hv427⟩ := hx423
            have hf429 := FA_fr hF422 (by decide)
            have hs430 := pk416.2.2.2
            unfold PS at hs430
            have pk428 : PK w410 w419 := ⟨fun _ => by omega, hv424, hv427, (show fld w419 82 10 = 0 ∨ FA w419 ≠ 0 by omega)⟩
            have pk431 : PK w w419 := PK.tr pk416 pk428
            have os432 : ∀ j, (j < 20 + 4 * u48 ∨ 24 + 4 * u48 ≤ j) → j < 140 → rwv w419 86 j = rwv w 86 j := fun j hj hl => (rwv_fr hF422 (by decide)).trans (os417 j hj hl)
            have rg433 : FA w419 ≠ 0 ∨ False := (Or.inl hx414 : FA w410 ≠ 0 ∨ False).imp_left pk428.1
            have ms434 : mu w419 < mu w := Nat.lt_of_lt_of_le (hv425 (by omega)) pk416.2.1
            refine xg_t (xg_iload (va := (0, 0)) rfl rfl) ?_
            refine xg_t (xg_swt (ks := [(0, 108), (1, 116), (2, 180), (3, 221), (4, 273), (5, 326)]) (u := 0) (z := 108) rfl rfl rfl xnm0 (xsw_y rfl)) ?_
            refine xg_t (xg_blk (b := [(108, 1, 0, 0, 0, 0), (109, 1, 2, 3, 0, 0), (110, 3, 13, 106, 96, 204), (113, 3, 8, 394, 0, 0)]) rfl) ?_
            refine xg_t (xg_aload (va := (2, 82)) rfl rfl) ?_
            refine xg_t (xg_iload (va := (0, u48)) rfl rfl) ?_
            obtain ⟨f82_435, f82_437, f82_439, f82_441, f82_443, f82_445, f82_447, f82_449, f82_451, f82_453, f82_455, f82_456, f82_457, f82_459, f82_461, f82_463, h82_465, hb436, hb438, hb440, hb442, hb444, hb446, hb448, hb450, hb452, hb454, hb458, hb460, hb462, hb464, hb466⟩ := (hI421 82 (by decide) (by decide) : cp82 (wget w419 82))
            refine xg_cVv mX12_aLayer (vs := [(0, u48)]) (rest := []) (cn1 := 0) (sl1 := 0) rfl (mALayer (hI421) (by omega) pk431.2.2.2) rfl h82_465 rfl rfl rfl rfl rfl rfl (fun w467 hq468 => ?_)
            obtain ⟨hI469, hF470, hx471⟩ := hq468
            obtain ⟨pk472, os473, ly474⟩ := hx471
            have pk475 : PK w w467 := PK.tr pk431 pk472
            have os476 : ∀ j, (j < 20 + 4 * u48 ∨ 24 + 4 * u48 ≤ j) → j < 140 → rwv w467 86 j = rwv w 86 j := fun j hj hl => (os473 j hj hl).trans (os432 j hj hl)
            have rg477 : FA w467 ≠ 0 ∨ False := rg433.imp_left pk472.1
            have ms478 : mu w467 < mu w := Nat.lt_of_le_of_lt pk472.2.1 ms434
            refine xg_t (xg_goto) ?_
            refine xg_t (xg_blk (b := [(394, 1, 0, 0, 0, 0), (395, 3, 1, 12, 10, 180), (398, 3, 7, 416, 1, 0), (401, 1, 0, 0, 0, 0), (402, 3, 1, 12, 7, 151), (405, 1, 3, 2, 0, 0), (406, 3, 6, 416, 1, 0), (409, 1, 0, 0, 0, 0), (410, 3, 13, 110, 96, 190), (413, 3, 8, 420, 0, 0)]) rfl) ?_
            refine xg_t (xg_aload (va := (2, 82)) rfl rfl) ?_
            obtain ⟨f82_479, f82_481, f82_483, f82_485, f82_487, f82_489, f82_491, f82_493, f82_495, f82_497, f82_499, f82_500, f82_501, f82_503, f82_505, f82_507, h82_509, hb480, hb482, hb484, hb486, hb488, hb490, hb492, hb494, hb496, hb498, hb502, hb504, hb506, hb508, hb510⟩ := (hI469 82 (by decide) (by decide) : cp82 (wget w467 82))
            refine xg_t (xg_getf (va := (0, f82_495)) h82_509 rfl) ?_
            by_cases hc511 : f82_495 = 0
            · refine xg_t (xg_ifF (u := f82_495) rfl xnm0 (xj_neF hc511)) ?_
              refine xg_t (xg_aload (va := (2, 82)) rfl rfl) ?_
              refine xg_t (xg_getf (va := (0, f82_489)) h82_509 rfl) ?_
              refine xg_t (xg_const) ?_
              by_cases hc512 : f82_489 = 2
              · refine xg_t (xg_icF (u := f82_489) (v := 2) rfl xnm0 xnm0 (xj_neF hc512)) ?_
                refine xg_t (xg_aload (va := (2, 82)) rfl rfl) ?_
                refine xg_cVv mX12_advance (vs := []) (rest := []) (cn1 := 0) (sl1 := 0) rfl (mAdvance (hI469)) rfl h82_509 rfl rfl rfl rfl rfl rfl (fun w513 hq514 => ?_)
                obtain ⟨hI515, hF516, hx517⟩ := hq514
                obtain ⟨hv518, hv519, hv520, hv521⟩ := hx517
                have hf523 := FA_fr hF516 (by decide)
                have hs524 := pk475.2.2.2
                unfold PS at hs524
                have pk522 : PK w467 w513 := ⟨fun _ => by omega, hv518, hv521, (show fld w513 82 10 = 0 ∨ FA w513 ≠ 0 by omega)⟩
                have pk525 : PK w w513 := PK.tr pk475 pk522
                have os526 : ∀ j, (j < 20 + 4 * u48 ∨ 24 + 4 * u48 ≤ j) → j < 140 → rwv w513 86 j = rwv w 86 j := fun j hj hl => (rwv_fr hF516 (by decide)).trans (os476 j hj hl)
                have rg527 : FA w513 ≠ 0 ∨ False := rg477.imp_left pk522.1
                have hl528 : rwv w513 86 (20 + 4 * u48 + 0) = rwv w467 86 (20 + 4 * u48 + 0) := rwv_fr hF516 (by decide)
                have hl529 : rwv w513 86 (20 + 4 * u48 + 1) = rwv w467 86 (20 + 4 * u48 + 1) := rwv_fr hF516 (by decide)
                have hl530 : rwv w513 86 (20 + 4 * u48 + 2) = rwv w467 86 (20 + 4 * u48 + 2) := rwv_fr hF516 (by decide)
                have ly531 : FA w513 ≠ 0 ∨ 6 ≤ u48 ∨ (1 ≤ rwv w513 86 (20 + 4 * u48 + 0) ∧ rwv w513 86 (20 + 4 * u48 + 0) ≤ 99 ∧ 1 ≤ rwv w513 86 (20 + 4 * u48 + 1) ∧ rwv w513 86 (20 + 4 * u48 + 1) ≤ 99 ∧ 1 ≤ rwv w513 86 (20 + 4 * u48 + 2) ∧ rwv w513 86 (20 + 4 * u48 + 2) ≤ 99) := by have q := ly474; have q1 := pk522.1; omega
                have ms532 : mu w513 < mu w := Nat.lt_of_le_of_lt pk522.2.1 ms478
                refine xg_t (xg_goto) ?_
                refine xg_t (xg_blk (b := [(420, 1, 0, 0, 0, 0), (421, 3, 1, 12, 11, 17), (424, 1, 2, 1, 0, 0), (425, 1, 39, 0, 0, 0), (426, 1, 10, 0, 0, 0), (427, 1, 3, 1, 0, 0), (428, 1, 11, 0, 0, 0), (429, 1, 17, 0, 0, 0), (430, 1, 0, 0, 0, 0), (431, 1, 19, 0, 0, 0), (432, 3, 1, 12, 14, 212), (435, 1, 3, 1, 0, 0), (436, 1, 11, 0, 0, 0), (437, 3, 14, 12, 14, 212), (440, 1, 12, 0, 0, 0)]) rfl) ?_
                obtain ⟨f82_533, f82_535, f82_537, f82_539, f82_541, f82_543, f82_545, f82_547, f82_549, f82_551, f82_553, f82_554, f82_555, f82_557, f82_559, f82_561, h82_563, hb534, hb536, hb538, hb540, hb542, hb544, hb546, hb548, hb550, hb552, hb556, hb558, hb560, hb562, hb564⟩ := (hI515 82 (by decide) (by decide) : cp82 (wget w513 82))
                have hf565 : fld w513 82 4 = f82_537 := fld_of h82_563
                have hf566 : fld w513 82 5 = f82_539 := fld_of h82_563
                have hf567 : fld w513 82 7 = f82_543 := fld_of h82_563
                have hf568 : fld w513 82 10 = f82_549 := fld_of h82_563
                have hf569 : fld w513 82 14 = f82_551 := fld_of h82_563
                have hu570 : mu w513 = 2 * (fld w513 82 4 - fld w513 82 5) + min 1 (fld w513 82 7) := rfl
                have hf571 := pk525.2.2.1
                have hl572 : f82_551 ≤ 1000 := by omega
                refine xg_t (xg_aload (va := (2, 82)) rfl rfl) ?_
                refine xg_t (xg_getf (va := (2, 85)) h82_563 rfl) ?_
                refine xg_t (xg_iload (va := (0, 0)) rfl rfl) ?_
                refine xg_t (xg_dup2 rfl) ?_
                refine xg_ialdB (n := 0) (B := 4294967295) ((((h85_37.fr hF413 (by decide)).fr hF422 (by decide)).fr hF470 (by decide)).fr hF516 (by decide)) (hb38) xnm0 (by omega) (fun u573 hu574 he575 => ?_)
                have hl576 : u573 = u48 := by omega
                refine xg_t (xg_const) ?_
                refine xg_t (xg_iadd (u := u573) (v := 1) (z := u573 + 1) xnm0 xnm0 (by omega)) ?_
                refine xg_iastK (n := 0) (u := u573 + 1) ((((h85_37.fr hF413 (by decide)).fr hF422 (by decide)).fr hF470 (by decide)).fr hF516 (by decide)) xnm0 xnm0 rfl (by omega) (fun w577 hr578 hb579 => ?_)
                refine xg_t (xg_aload (va := (2, 82)) rfl rfl) ?_
                refine xg_t (xg_dup rfl) ?_
                refine xg_t (xg_getf (va := (0, f82_551)) (hb579.get (by decide) h82_563) rfl) ?_
                refine xg_t (xg_const) ?_
                refine xg_t (xg_iadd (u := f82_551) (v := 1) (z := f82_551 + 1) xnm0 xnm0 (by omega)) ?_
                refine xg_putI (fl1 := [(2, 83), (2, 84), (0, f82_533), (0, f82_535), (0, f82_537), (0, f82_539), (0, f82_541), (0, f82_543), (0, f82_545), (0, f82_547), (0, f82_549), (2, 85), (2, 86), (2, 87), (0, f82_551 + 1), (2, 88), (2, 89), (2, 90), (2, 91), (2, 92), (2, 93), (2, 94), (4, f82_553), (4, f82_554), (0, f82_555), (2, 95), (2, 96), (2, 97), (2, 98), (2, 99), (2, 100), (2, 101), (2, 102), (0, f82_557), (2, 103), (2, 104), (2, 105), (2, 106), (2, 107), (2, 108), (2, 109), (0, f82_559), (0, f82_561), (2, 110), (2, 111), (2, 112), (2, 113)]) (hb579.get (by decide) h82_563) rfl rfl rfl (fun w580 hk581 hb582 => ?_)
                have hF583 : xFr [82, 85] w513 w580 := ((xFr.of (S := [82, 85]) hb579 (by decide)).tr (xFr.of (S := [82, 85]) hb582 (by decide)))
                have hA584 := FA_fr hF583 (by decide)
                have hf585 : fld w580 82 4 = f82_537 := fld_of hk581
                have hf586 : fld w580 82 5 = f82_539 := fld_of hk581
                have hf587 : fld w580 82 7 = f82_543 := fld_of hk581
                have hf588 : fld w580 82 10 = f82_549 := fld_of hk581
                have hf589 : fld w580 82 14 = f82_551 + 1 := fld_of hk581
                have hu590 : mu w580 = 2 * (fld w580 82 4 - fld w580 82 5) + min 1 (fld w580 82 7) := rfl
                have pq591 := pk525
                unfold PK PS at pq591
                have hM592 : ∀ s, s < 7 → s ≠ 0 → rwv w580 85 s = rwv w 85 s := fun s hs hn => (rwv_of (hr578.but hb582 (by decide)) hs).trans ((if_neg hn).trans (rwv_of h85_37 hs).symm)
                have hM593 : rwv w580 85 0 = u48 + 1 := (rwv_of (hr578.but hb582 (by decide)) (by decide)).trans ((if_pos rfl).trans (by omega))
                have hM594 : ∀ s, s < 7 → rwv w580 85 s ≤ rwv w 85 s + 1 := fun s hs => by
                  by_cases z : s = 0
                  · subst z; omega
                  · rw [hM592 s hs z]; omega
                have hO595 : ∀ j, (j < 20 + 4 * u48 ∨ 24 + 4 * u48 ≤ j) → j < 140 → rwv w580 86 j = rwv w 86 j := fun j hj hl => (rwv_fr hF583 (by decide)).trans (os526 j hj hl)
                have hl597 := ly531
                have hl598 : rwv w580 86 (20 + 4 * u48 + 0) = rwv w513 86 (20 + 4 * u48 + 0) := rwv_fr hF583 (by decide)
                have hl599 : rwv w580 86 (20 + 4 * u48 + 1) = rwv w513 86 (20 + 4 * u48 + 1) := rwv_fr hF583 (by decide)
                have hl600 : rwv w580 86 (20 + 4 * u48 + 2) = rwv w513 86 (20 + 4 * u48 + 2) := rwv_fr hF583 (by decide)
                have hl601 : FA w513 ≠ 0 ∨ False := rg527
                have hN596 : FA w580 ≠ 0 ∨ 6 ≤ u48 ∨ (1 ≤ rwv w580 86 (20 + 4 * u48 + 0) ∧ rwv w580 86 (20 + 4 * u48 + 0) ≤ 99 ∧ 1 ≤ rwv w580 86 (20 + 4 * u48 + 1) ∧ rwv w580 86 (20 + 4 * u48 + 1) ≤ 99 ∧ 1 ≤ rwv w580 86 (20 + 4 * u48 + 2) ∧ rwv w580 86 (20 + 4 * u48 + 2) ≤ 99) := by omega
                have hX602 : FA w580 ≠ 0 ∨ u48 < 6 := by omega
                have hD603 : FA w580 ≠ 0 ∨ (DATA w → DATA w580) := by
                  by_cases z : FA w580 ≠ 0
                  · exact Or.inl z
                  · exact Or.inr (fun hd => hd.s0 hM592 hK51 hM593 (hX602.resolve_left z) hO595 ((hN596.resolve_left z).resolve_left (by have := hX602.resolve_left z; omega)))
                exact xg_e ⟨w580, ⟨rfl, rfl⟩, xMnv.up (S := [85, 82]) hI515 ((xFr.of (S := [85, 82]) hb579 (by decide)).tr (xFr.of (S := [85, 82]) hb582 (by decide))) (List.forall_mem_cons.mpr ⟨(show cpI 7 52 4294967295 (wget w580 85) from ⟨_, (hr578.but hb582 (by decide)), xrb (by omega) (hb38)⟩), List.forall_mem_cons.mpr ⟨(show cp82 (wget w580 82) from ⟨f82_533, f82_535, f82_537, f82_539, f82_541, f82_543, f82_545, f82_547, f82_549, f82_551 + 1, f82_553, f82_554, f82_555, f82_557, f82_559, f82_561, hk581, by omega, by omega, by omega, by omega, by omega, by omega, by omega, by omega, by omega, by omega, by omega, by omega, by omega, by omega, by omega⟩), fun _ h => absurd h List.not_mem_nil⟩⟩), (((((hF413.up (by decide)).tr (hF422.up (by decide))).tr (hF470.up (by decide))).tr (hF516.up (by decide))).tr ((xFr.of (S := [82, 83, 85, 86, 87]) hb579 (by decide)).tr (xFr.of (S := [82, 83, 85, 86, 87]) hb582 (by decide)))), ⟨fun h => by have := pq591.1 h; omega, (show fld w580 82 10 = 0 ∨ FA w580 ≠ 0 by omega), Or.inr ⟨by have := ms532; omega, by omega, hM594⟩, hD603⟩⟩
              · refine xg_t (xg_icT (u := f82_489) (v := 2) rfl xnm0 xnm0 (xj_neT hc512)) ?_
                refine xg_t (xg_blk (b := [(416, 1, 0, 0, 0, 0), (417, 3, 13, 140, 96, 183)]) rfl) ?_
                refine xg_t (xg_aload (va := (2, 82)) rfl rfl) ?_
                refine xg_cVv mX12_ends (vs := []) (rest := []) (cn1 := 0) (sl1 := 0) rfl (mEnds (hI469) pk475.2.2.2) rfl h82_509 rfl rfl rfl rfl rfl rfl (fun w604 hq605 => ?_)
                obtain ⟨hI606, hF607, hx608⟩ := hq605
                obtain ⟨hv609, hv610, hv611, hv612⟩ := hx608
                have pk613 : PK w467 w604 := ⟨fun _ => hv609, by omega, by omega, Or.inr hv609⟩
                have pk614 : PK w w604 := PK.tr pk475 pk613
                have os615 : ∀ j, (j < 20 + 4 * u48 ∨ 24 + 4 * u48 ≤ j) → j < 140 → rwv w604 86 j = rwv w 86 j := fun j hj hl => (rwv_fr hF607 (by decide)).trans (os476 j hj hl)
                have rg616 : FA w604 ≠ 0 ∨ False := rg477.imp_left pk613.1
                have hl617 : rwv w604 86 (20 + 4 * u48 + 0) = rwv w467 86 (20 + 4 * u48 + 0) := rwv_fr hF607 (by decide)
                have hl618 : rwv w604 86 (20 + 4 * u48 + 1) = rwv w467 86 (20 + 4 * u48 + 1) := rwv_fr hF607 (by decide)
                have hl619 : rwv w604 86 (20 + 4 * u48 + 2) = rwv w467 86 (20 + 4 * u48 + 2) := rwv_fr hF607 (by decide)
                have ly620 : FA w604 ≠ 0 ∨ 6 ≤ u48 ∨ (1 ≤ rwv w604 86 (20 + 4 * u48 + 0) ∧ rwv w604 86 (20 + 4 * u48 + 0) ≤ 99 ∧ 1 ≤ rwv w604 86 (20 + 4 * u48 + 1) ∧ rwv w604 86 (20 + 4 * u48 + 1) ≤ 99 ∧ 1 ≤ rwv w604 86 (20 + 4 * u48 + 2) ∧ rwv w604 86 (20 + 4 * u48 + 2) ≤ 99) := by have q := ly474; have q1 := pk613.1; omega
                have ms621 : mu w604 < mu w := Nat.lt_of_le_of_lt pk613.2.1 ms478
                refine xg_t (xg_blk (b := [(420, 1, 0, 0, 0, 0), (421, 3, 1, 12, 11, 17), (424, 1, 2, 1, 0, 0), (425, 1, 39, 0, 0, 0), (426, 1, 10, 0, 0, 0), (427, 1, 3, 1, 0, 0), (428, 1, 11, 0, 0, 0), (429, 1, 17, 0, 0, 0), (430, 1, 0, 0, 0, 0), (431, 1, 19, 0, 0, 0), (432, 3, 1, 12, 14, 212), (435, 1, 3, 1, 0, 0), (436, 1, 11, 0, 0, 0), (437, 3, 14, 12, 14, 212), (440, 1, 12, 0, 0, 0)]) rfl) ?_
                obtain ⟨f82_622, f82_624, f82_626, f82_628, f82_630, f82_632, f82_634, f82_636, f82_638, f82_640, f82_642, f82_643, f82_644, f82_646, f82_648, f82_650, h82_652, hb623, hb625, hb627, hb629, hb631, hb633, hb635, hb637, hb639, hb641, hb645, hb647, hb649, hb651, hb653⟩ := (hI606 82 (by decide) (by decide) : cp82 (wget w604 82))
                have hf654 : fld w604 82 4 = f82_626 := fld_of h82_652
                have hf655 : fld w604 82 5 = f82_628 := fld_of h82_652
                have hf656 : fld w604 82 7 = f82_632 := fld_of h82_652
                have hf657 : fld w604 82 10 = f82_638 := fld_of h82_652
                have hf658 : fld w604 82 14 = f82_640 := fld_of h82_652
                have hu659 : mu w604 = 2 * (fld w604 82 4 - fld w604 82 5) + min 1 (fld w604 82 7) := rfl
                have hf660 := pk614.2.2.1
                have hl661 : f82_640 ≤ 1000 := by omega
                refine xg_t (xg_aload (va := (2, 82)) rfl rfl) ?_
                refine xg_t (xg_getf (va := (2, 85)) h82_652 rfl) ?_
                refine xg_t (xg_iload (va := (0, 0)) rfl rfl) ?_
                refine xg_t (xg_dup2 rfl) ?_
                refine xg_ialdB (n := 0) (B := 4294967295) ((((h85_37.fr hF413 (by decide)).fr hF422 (by decide)).fr hF470 (by decide)).fr hF607 (by decide)) (hb38) xnm0 (by omega) (fun u662 hu663 he664 => ?_)
                have hl665 : u662 = u48 := by omega
                refine xg_t (xg_const) ?_
                refine xg_t (xg_iadd (u := u662) (v := 1) (z := u662 + 1) xnm0 xnm0 (by omega)) ?_
                refine xg_iastK (n := 0) (u := u662 + 1) ((((h85_37.fr hF413 (by decide)).fr hF422 (by decide)).fr hF470 (by decide)).fr hF607 (by decide)) xnm0 xnm0 rfl (by omega) (fun w666 hr667 hb668 => ?_)
                refine xg_t (xg_aload (va := (2, 82)) rfl rfl) ?_
                refine xg_t (xg_dup rfl) ?_
                refine xg_t (xg_getf (va := (0, f82_640)) (hb668.get (by decide) h82_652) rfl) ?_
                refine xg_t (xg_const) ?_
                refine xg_t (xg_iadd (u := f82_640) (v := 1) (z := f82_640 + 1) xnm0 xnm0 (by omega)) ?_
                refine xg_putI (fl1 := [(2, 83), (2, 84), (0, f82_622), (0, f82_624), (0, f82_626), (0, f82_628), (0, f82_630), (0, f82_632), (0, f82_634), (0, f82_636), (0, f82_638), (2, 85), (2, 86), (2, 87), (0, f82_640 + 1), (2, 88), (2, 89), (2, 90), (2, 91), (2, 92), (2, 93), (2, 94), (4, f82_642), (4, f82_643), (0, f82_644), (2, 95), (2, 96), (2, 97), (2, 98), (2, 99), (2, 100), (2, 101), (2, 102), (0, f82_646), (2, 103), (2, 104), (2, 105), (2, 106), (2, 107), (2, 108), (2, 109), (0, f82_648), (0, f82_650), (2, 110), (2, 111), (2, 112), (2, 113)]) (hb668.get (by decide) h82_652) rfl rfl rfl (fun w669 hk670 hb671 => ?_)
                have hF672 : xFr [82, 85] w604 w669 := ((xFr.of (S := [82, 85]) hb668 (by decide)).tr (xFr.of (S := [82, 85]) hb671 (by decide)))
                have hA673 := FA_fr hF672 (by decide)
                have hf674 : fld w669 82 4 = f82_626 := fld_of hk670
                have hf675 : fld w669 82 5 = f82_628 := fld_of hk670
                have hf676 : fld w669 82 7 = f82_632 := fld_of hk670
                have hf677 : fld w669 82 10 = f82_638 := fld_of hk670
                have hf678 : fld w669 82 14 = f82_640 + 1 := fld_of hk670
                have hu679 : mu w669 = 2 * (fld w669 82 4 - fld w669 82 5) + min 1 (fld w669 82 7) := rfl
                have pq680 := pk614
                unfold PK PS at pq680
                have hM681 : ∀ s, s < 7 → s ≠ 0 → rwv w669 85 s = rwv w 85 s := fun s hs hn => (rwv_of (hr667.but hb671 (by decide)) hs).trans ((if_neg hn).trans (rwv_of h85_37 hs).symm)
                have hM682 : rwv w669 85 0 = u48 + 1 := (rwv_of (hr667.but hb671 (by decide)) (by decide)).trans ((if_pos rfl).trans (by omega))
                have hM683 : ∀ s, s < 7 → rwv w669 85 s ≤ rwv w 85 s + 1 := fun s hs => by
                  by_cases z : s = 0
                  · subst z; omega
                  · rw [hM681 s hs z]; omega
                have hO684 : ∀ j, (j < 20 + 4 * u48 ∨ 24 + 4 * u48 ≤ j) → j < 140 → rwv w669 86 j = rwv w 86 j := fun j hj hl => (rwv_fr hF672 (by decide)).trans (os615 j hj hl)
                have hl686 := ly620
                have hl687 : rwv w669 86 (20 + 4 * u48 + 0) = rwv w604 86 (20 + 4 * u48 + 0) := rwv_fr hF672 (by decide)
                have hl688 : rwv w669 86 (20 + 4 * u48 + 1) = rwv w604 86 (20 + 4 * u48 + 1) := rwv_fr hF672 (by decide)
                have hl689 : rwv w669 86 (20 + 4 * u48 + 2) = rwv w604 86 (20 + 4 * u48 + 2) := rwv_fr hF672 (by decide)
                have hl690 : FA w604 ≠ 0 ∨ False := rg616
                have hN685 : FA w669 ≠ 0 ∨ 6 ≤ u48 ∨ (1 ≤ rwv w669 86 (20 + 4 * u48 + 0) ∧ rwv w669 86 (20 + 4 * u48 + 0) ≤ 99 ∧ 1 ≤ rwv w669 86 (20 + 4 * u48 + 1) ∧ rwv w669 86 (20 + 4 * u48 + 1) ≤ 99 ∧ 1 ≤ rwv w669 86 (20 + 4 * u48 + 2) ∧ rwv w669 86 (20 + 4 * u48 + 2) ≤ 99) := by omega
                have hX691 : FA w669 ≠ 0 ∨ u48 < 6 := by omega
                have hD692 : FA w669 ≠ 0 ∨ (DATA w → DATA w669) := by
                  by_cases z : FA w669 ≠ 0
                  · exact Or.inl z
                  · exact Or.inr (fun hd => hd.s0 hM681 hK51 hM682 (hX691.resolve_left z) hO684 ((hN685.resolve_left z).resolve_left (by have := hX691.resolve_left z; omega)))
                exact xg_e ⟨w669, ⟨rfl, rfl⟩, xMnv.up (S := [85, 82]) hI606 ((xFr.of (S := [85, 82]) hb668 (by decide)).tr (xFr.of (S := [85, 82]) hb671 (by decide))) (List.forall_mem_cons.mpr ⟨(show cpI 7 52 4294967295 (wget w669 85) from ⟨_, (hr667.but hb671 (by decide)), xrb (by omega) (hb38)⟩), List.forall_mem_cons.mpr ⟨(show cp82 (wget w669 82) from ⟨f82_622, f82_624, f82_626, f82_628, f82_630, f82_632, f82_634, f82_636, f82_638, f82_640 + 1, f82_642, f82_643, f82_644, f82_646, f82_648, f82_650, hk670, by omega, by omega, by omega, by omega, by omega, by omega, by omega, by omega, by omega, by omega, by omega, by omega, by omega, by omega, by omega⟩), fun _ h => absurd h List.not_mem_nil⟩⟩), (((((hF413.up (by decide)).tr (hF422.up (by decide))).tr (hF470.up (by decide))).tr (hF607.up (by decide))).tr ((xFr.of (S := [82, 83, 85, 86, 87]) hb668 (by decide)).tr (xFr.of (S := [82, 83, 85, 86, 87]) hb671 (by decide)))), ⟨fun h => by have := pq680.1 h; omega, (show fld w669 82 10 = 0 ∨ FA w669 ≠ 0 by omega), Or.inr ⟨by have := ms621; omega, by omega, hM683⟩, hD692⟩⟩
            · refine xg_t (xg_ifT (u := f82_495) rfl xnm0 (xj_neT hc511)) ?_
              refine xg_t (xg_blk (b := [(416, 1, 0, 0, 0, 0), (417, 3, 13, 140, 96, 183)]) rfl) ?_
              refine xg_t (xg_aload (va := (2, 82)) rfl rfl) ?_
              refine xg_cVv mX12_ends (vs := []) (rest := []) (cn1 := 0) (sl1 := 0) rfl (mEnds (hI469) pk475.2.2.2) rfl h82_509 rfl rfl rfl rfl rfl rfl (fun w693 hq694 => ?_)
              obtain ⟨hI695, hF696, hx697⟩ := hq694
              obtain ⟨hv698, hv699, hv700, hv701⟩ := hx697
              have pk702 : PK w467 w693 := ⟨fun _ => hv698, by omega, by omega, Or.inr hv698⟩
              have pk703 : PK w w693 := PK.tr pk475 pk702
              have os704 : ∀ j, (j < 20 + 4 * u48 ∨ 24 + 4 * u48 ≤ j) → j < 140 → rwv w693 86 j = rwv w 86 j := fun j hj hl => (rwv_fr hF696 (by decide)).trans (os476 j hj hl)
              have rg705 : FA w693 ≠ 0 ∨ False := rg477.imp_left pk702.1
              have hl706 : rwv w693 86 (20 + 4 * u48 + 0) = rwv w467 86 (20 + 4 * u48 + 0) := rwv_fr hF696 (by decide)
              have hl707 : rwv w693 86 (20 + 4 * u48 + 1) = rwv w467 86 (20 + 4 * u48 + 1) := rwv_fr hF696 (by decide)
              have hl708 : rwv w693 86 (20 + 4 * u48 + 2) = rwv w467 86 (20 + 4 * u48 + 2) := rwv_fr hF696 (by decide)
              have ly709 : FA w693 ≠ 0 ∨ 6 ≤ u48 ∨ (1 ≤ rwv w693 86 (20 + 4 * u48 + 0) ∧ rwv w693 86 (20 + 4 * u48 + 0) ≤ 99 ∧ 1 ≤ rwv w693 86 (20 + 4 * u48 + 1) ∧ rwv w693 86 (20 + 4 * u48 + 1) ≤ 99 ∧ 1 ≤ rwv w693 86 (20 + 4 * u48 + 2) ∧ rwv w693 86 (20 + 4 * u48 + 2) ≤ 99) := by have q := ly474; have q1 := pk702.1; omega
              have ms710 : mu w693 < mu w := Nat.lt_of_le_of_lt pk702.2.1 ms478
              refine xg_t (xg_blk (b := [(420, 1, 0, 0, 0, 0), (421, 3, 1, 12, 11, 17), (424, 1, 2, 1, 0, 0), (425, 1, 39, 0, 0, 0), (426, 1, 10, 0, 0, 0), (427, 1, 3, 1, 0, 0), (428, 1, 11, 0, 0, 0), (429, 1, 17, 0, 0, 0), (430, 1, 0, 0, 0, 0), (431, 1, 19, 0, 0, 0), (432, 3, 1, 12, 14, 212), (435, 1, 3, 1, 0, 0), (436, 1, 11, 0, 0, 0), (437, 3, 14, 12, 14, 212), (440, 1, 12, 0, 0, 0)]) rfl) ?_
              obtain ⟨f82_711, f82_713, f82_715, f82_717, f82_719, f82_721, f82_723, f82_725, f82_727, f82_729, f82_731, f82_732, f82_733, f82_735, f82_737, f82_739, h82_741, hb712, hb714, hb716, hb718, hb720, hb722, hb724, hb726, hb728, hb730, hb734, hb736, hb738, hb740, hb742⟩ := (hI695 82 (by decide) (by decide) : cp82 (wget w693 82))
              have hf743 : fld w693 82 4 = f82_715 := fld_of h82_741
              have hf744 : fld w693 82 5 = f82_717 := fld_of h82_741
              have hf745 : fld w693 82 7 = f82_721 := fld_of h82_741
              have hf746 : fld w693 82 10 = f82_727 := fld_of h82_741
              have hf747 : fld w693 82 14 = f82_729 := fld_of h82_741
              have hu748 : mu w693 = 2 * (fld w693 82 4 - fld w693 82 5) + min 1 (fld w693 82 7) := rfl
              have hf749 := pk703.2.2.1
              have hl750 : f82_729 ≤ 1000 := by omega
              refine xg_t (xg_aload (va := (2, 82)) rfl rfl) ?_
              refine xg_t (xg_getf (va := (2, 85)) h82_741 rfl) ?_
              refine xg_t (xg_iload (va := (0, 0)) rfl rfl) ?_
              refine xg_t (xg_dup2 rfl) ?_
              refine xg_ialdB (n := 0) (B := 4294967295) ((((h85_37.fr hF413 (by decide)).fr hF422 (by decide)).fr hF470 (by decide)).fr hF696 (by decide)) (hb38) xnm0 (by omega) (fun u751 hu752 he753 => ?_)
              have hl754 : u751 = u48 := by omega
              refine xg_t (xg_const) ?_
              refine xg_t (xg_iadd (u := u751) (v := 1) (z := u751 + 1) xnm0 xnm0 (by omega)) ?_
              refine xg_iastK (n := 0) (u := u751 + 1) ((((h85_37.fr hF413 (by decide)).fr hF422 (by decide)).fr hF470 (by decide)).fr hF696 (by decide)) xnm0 xnm0 rfl (by omega) (fun w755 hr756 hb757 => ?_)
              refine xg_t (xg_aload (va := (2, 82)) rfl rfl) ?_
              refine xg_t (xg_dup rfl) ?_
              refine xg_t (xg_getf (va := (0, f82_729)) (hb757.get (by decide) h82_741) rfl) ?_
              refine xg_t (xg_const) ?_
              refine xg_t (xg_iadd (u := f82_729) (v := 1) (z := f82_729 + 1) xnm0 xnm0 (by omega)) ?_
              refine xg_putI (fl1 := [(2, 83), (2, 84), (0, f82_711), (0, f82_713), (0, f82_715), (0, f82_717), (0, f82_719), (0, f82_721), (0, f82_723), (0, f82_725), (0, f82_727), (2, 85), (2, 86), (2, 87), (0, f82_729 + 1), (2, 88), (2, 89), (2, 90), (2, 91), (2, 92), (2, 93), (2, 94), (4, f82_731), (4, f82_732), (0, f82_733), (2, 95), (2, 96), (2, 97), (2, 98), (2, 99), (2, 100), (2, 101), (2, 102), (0, f82_735), (2, 103), (2, 104), (2, 105), (2, 106), (2, 107), (2, 108), (2, 109), (0, f82_737), (0, f82_739), (2, 110), (2, 111), (2, 112), (2, 113)]) (hb757.get (by decide) h82_741) rfl rfl rfl (fun w758 hk759 hb760 => ?_)
              have hF761 : xFr [82, 85] w693 w758 := ((xFr.of (S := [82, 85]) hb757 (by decide)).tr (xFr.of (S := [82, 85]) hb760 (by decide)))
              have hA762 := FA_fr hF761 (by decide)
              have hf763 : fld w758 82 4 = f82_715 := fld_of hk759
              have hf764 : fld w758 82 5 = f82_717 := fld_of hk759
              have hf765 : fld w758 82 7 = f82_721 := fld_of hk759
              have hf766 : fld w758 82 10 = f82_727 := fld_of hk759
              have hf767 : fld w758 82 14 = f82_729 + 1 := fld_of hk759
              have hu768 : mu w758 = 2 * (fld w758 82 4 - fld w758 82 5) + min 1 (fld w758 82 7) := rfl
              have pq769 := pk703
              unfold PK PS at pq769
              have hM770 : ∀ s, s < 7 → s ≠ 0 → rwv w758 85 s = rwv w 85 s := fun s hs hn => (rwv_of (hr756.but hb760 (by decide)) hs).trans ((if_neg hn).trans (rwv_of h85_37 hs).symm)
              have hM771 : rwv w758 85 0 = u48 + 1 := (rwv_of (hr756.but hb760 (by decide)) (by decide)).trans ((if_pos rfl).trans (by omega))
              have hM772 : ∀ s, s < 7 → rwv w758 85 s ≤ rwv w 85 s + 1 := fun s hs => by
                by_cases z : s = 0
                · subst z; omega
                · rw [hM770 s hs z]; omega
              have hO773 : ∀ j, (j < 20 + 4 * u48 ∨ 24 + 4 * u48 ≤ j) → j < 140 → rwv w758 86 j = rwv w 86 j := fun j hj hl => (rwv_fr hF761 (by decide)).trans (os704 j hj hl)
              have hl775 := ly709
              have hl776 : rwv w758 86 (20 + 4 * u48 + 0) = rwv w693 86 (20 + 4 * u48 + 0) := rwv_fr hF761 (by decide)
              have hl777 : rwv w758 86 (20 + 4 * u48 + 1) = rwv w693 86 (20 + 4 * u48 + 1) := rwv_fr hF761 (by decide)
              have hl778 : rwv w758 86 (20 + 4 * u48 + 2) = rwv w693 86 (20 + 4 * u48 + 2) := rwv_fr hF761 (by decide)
              have hl779 : FA w693 ≠ 0 ∨ False := rg705
              have hN774 : FA w758 ≠ 0 ∨ 6 ≤ u48 ∨ (1 ≤ rwv w758 86 (20 + 4 * u48 + 0) ∧ rwv w758 86 (20 + 4 * u48 + 0) ≤ 99 ∧ 1 ≤ rwv w758 86 (20 + 4 * u48 + 1) ∧ rwv w758 86 (20 + 4 * u48 + 1) ≤ 99 ∧ 1 ≤ rwv w758 86 (20 + 4 * u48 + 2) ∧ rwv w758 86 (20 + 4 * u48 + 2) ≤ 99) := by omega
              have hX780 : FA w758 ≠ 0 ∨ u48 < 6 := by omega
              have hD781 : FA w758 ≠ 0 ∨ (DATA w → DATA w758) := by
                by_cases z : FA w758 ≠ 0
                · exact Or.inl z
                · exact Or.inr (fun hd => hd.s0 hM770 hK51 hM771 (hX780.resolve_left z) hO773 ((hN774.resolve_left z).resolve_left (by have := hX780.resolve_left z; omega)))
              exact xg_e ⟨w758, ⟨rfl, rfl⟩, xMnv.up (S := [85, 82]) hI695 ((xFr.of (S := [85, 82]) hb757 (by decide)).tr (xFr.of (S := [85, 82]) hb760 (by decide))) (List.forall_mem_cons.mpr ⟨(show cpI 7 52 4294967295 (wget w758 85) from ⟨_, (hr756.but hb760 (by decide)), xrb (by omega) (hb38)⟩), List.forall_mem_cons.mpr ⟨(show cp82 (wget w758 82) from ⟨f82_711, f82_713, f82_715, f82_717, f82_719, f82_721, f82_723, f82_725, f82_727, f82_729 + 1, f82_731, f82_732, f82_733, f82_735, f82_737, f82_739, hk759, by omega, by omega, by omega, by omega, by omega, by omega, by omega, by omega, by omega, by omega, by omega, by omega, by omega, by omega, by omega⟩), fun _ h => absurd h List.not_mem_nil⟩⟩), (((((hF413.up (by decide)).tr (hF422.up (by decide))).tr (hF470.up (by decide))).tr (hF696.up (by decide))).tr ((xFr.of (S := [82, 83, 85, 86, 87]) hb757 (by decide)).tr (xFr.of (S := [82, 83, 85, 86, 87]) hb760 (by decide)))), ⟨fun h => by have := pq769.1 h; omega, (show fld w758 82 10 = 0 ∨ FA w758 ≠ 0 by omega), Or.inr ⟨by have := ms710; omega, by omega, hM772⟩, hD781⟩⟩
        · refine xg_t (xg_aload (va := (2, 82)) rfl rfl) ?_
          refine xg_t (xg_getf (va := (2, 85)) h82_31 rfl) ?_
          refine xg_t (xg_iload (va := (0, 1)) rfl rfl) ?_
          refine xg_ialdB (n := 1) (B := 4294967295) h85_37 (hb38) xnm0 (by omega) (fun u782 hu783 he784 => ?_)
          have hK785 : rwv w 85 1 = u782 := (rwv_of h85_37 (by decide)).trans he784
          have hm786 := hmb 1 (by decide)
          have hl787 : u782 ≤ 1000 := by omega
          refine xg_t (xg_istore (l1 := [(2, (0, f82_9)), (1, (0, 1)), (0, (2, 82))]) rfl rfl rfl) ?_
          refine xg_t (xg_iload (va := (0, u782)) rfl rfl) ?_
          refine xg_t (xg_iload (va := (0, 1)) rfl rfl) ?_
          refine xg_t (xg_cSr mX12_mostOf (vs := [(0, 1)]) (rest := [(0, u782)]) (rs := [(0, 4), (0, u782)]) (cn1 := 0) (sl1 := 0) rfl (mMostR1) rfl rfl rfl rfl rfl rfl rfl rfl) ?_
          by_cases hc788 : u782 < 4
          · refine xg_t (xg_icT (u := u782) (v := 4) rfl xnm0 xnm0 (xj_ltT hc788 (by omega))) ?_
            refine xg_t (xg_blk (b := [(64, 1, 0, 0, 0, 0), (65, 3, 13, 110, 96, 190), (68, 1, 2, 1, 0, 0), (69, 39, 33, 362, 0, 9)]) rfl) ?_
            refine xg_t (xg_aload (va := (2, 82)) rfl rfl) ?_
            refine xg_cVv mX12_advance (vs := []) (rest := []) (cn1 := 0) (sl1 := 0) rfl (mAdvance (hI)) rfl h82_31 rfl rfl rfl rfl rfl rfl (fun w789 hq790 => ?_)
            obtain ⟨hI791, hF792, hx793⟩ := hq790
            obtain ⟨hv794, hv795, hv796, hv797⟩ := hx793
            have hf799 := FA_fr hF792 (by decide)
            have hs800 := (PK.rf hps).2.2.2
            unfold PS at hs800
            have pk798 : PK w w789 := ⟨fun _ => by omega, hv794, hv797, (show fld w789 82 10 = 0 ∨ FA w789 ≠ 0 by omega)⟩
            have pk801 : PK w w789 := PK.tr (PK.rf hps) pk798
            have os802 : ∀ j, (j < 50 + 2 * u782 ∨ 52 + 2 * u782 ≤ j) → j < 140 → rwv w789 86 j = rwv w 86 j := fun j hj hl => (rwv_fr hF792 (by decide)).trans ((fun j _ _ => rfl) j hj hl)
            have ms803 : mu w789 < mu w := Nat.lt_of_lt_of_le (hv795 (by omega)) (PK.rf hps).2.1
            refine xg_t (xg_iload (va := (0, 1)) rfl rfl) ?_
            refine xg_t (xg_swt (ks := [(0, 108), (1, 116), (2, 180), (3, 221), (4, 273), (5, 326)]) (u := 1) (z := 116) rfl rfl rfl xnm0 (xsw_n (by omega) (xsw_y rfl))) ?_
            refine xg_t (xg_blk (b := [(116, 1, 0, 0, 0, 0), (117, 1, 3, 0, 0, 0), (118, 2, 4, 99, 0, 0), (120, 3, 13, 199, 96, 196), (123, 2, 15, 4, 0, 0), (125, 1, 0, 0, 0, 0), (126, 2, 2, 4, 0, 0), (128, 1, 2, 3, 0, 0), (129, 3, 13, 167, 96, 208), (132, 3, 7, 141, 0, 0), (135, 1, 0, 0, 0, 0), (136, 1, 3, 3, 0, 0), (137, 1, 2, 2, 0, 0), (138, 3, 13, 115, 96, 186)]) rfl) ?_
            refine xg_t (xg_aload (va := (2, 82)) rfl rfl) ?_
            refine xg_t (xg_const) ?_
            refine xg_t (xg_bip) ?_
            obtain ⟨f82_804, f82_806, f82_808, f82_810, f82_812, f82_814, f82_816, f82_818, f82_820, f82_822, f82_824, f82_825, f82_826, f82_828, f82_830, f82_832, h82_834, hb805, hb807, hb809, hb811, hb813, hb815, hb817, hb819, hb821, hb823, hb827, hb829, hb831, hb833, hb835⟩ := (hI791 82 (by decide) (by decide) : cp82 (wget w789 82))
            refine xg_cVi mX12_numbered (vs := [(0, 0), (0, 99)]) (rest := []) (cn1 := 0) (sl1 := 0) rfl (mNumbered (hI791) (by omega) (by omega) pk801.2.2.2) rfl h82_834 rfl rfl rfl rfl rfl rfl (fun n840 w836 hq837 => ?_)
            obtain ⟨hn841, hI838, hF839⟩ := hq837
            obtain ⟨hn842, hn843, hn844⟩ := hn841
            have pk845 : PK w w836 := PK.tr pk801 hn843
            have os846 : ∀ j, (j < 50 + 2 * u782 ∨ 52 + 2 * u782 ≤ j) → j < 140 → rwv w836 86 j = rwv w 86 j := fun j hj hl => (rwv_fr hF839 (by decide)).trans (os802 j hj hl)
            have ms847 : mu w836 < mu w := Nat.lt_of_le_of_lt hn843.2.1 ms803
            refine xg_t (xg_istore (l1 := [(3, (0, u782)), (2, (0, f82_9)), (1, (0, 1)), (0, (2, 82))]) rfl rfl rfl) ?_
            refine xg_t (xg_aload (va := (2, 82)) rfl rfl) ?_
            refine xg_t (xg_iload (va := (0, n840)) rfl rfl) ?_
            refine xg_t (xg_iload (va := (0, u782)) rfl rfl) ?_
            obtain ⟨f82_848, f82_850, f82_852, f82_854, f82_856, f82_858, f82_860, f82_862, f82_864, f82_866, f82_868, f82_869, f82_870, f82_872, f82_874, f82_876, h82_878, hb849, hb851, hb853, hb855, hb857, hb859, hb861, hb863, hb865, hb867, hb871, hb873, hb875, hb877, hb879⟩ := (hI838 82 (by decide) (by decide) : cp82 (wget w836 82))
            refine xg_cVi mX12_isLifeTold (vs := [(0, n840), (0, u782)]) (rest := []) (cn1 := 0) (sl1 := 0) rfl (mLifeTold (hI838) (by omega) (by omega)) rfl h82_878 rfl rfl rfl rfl rfl rfl (fun n884 w880 hq881 => ?_)
            obtain ⟨hn885, hI882, hF883⟩ := hq881
            have pk886 : PK w w880 := PK.tr pk845 (PK.fr hF883 (by decide) (by decide) pk845.2.2.2)
            have os887 : ∀ j, (j < 50 + 2 * u782 ∨ 52 + 2 * u782 ≤ j) → j < 140 → rwv w880 86 j = rwv w 86 j := fun j hj hl => (rwv_fr hF883 (by decide)).trans (os846 j hj hl)
            have rg888 : FA w880 ≠ 0 ∨ (0 ≤ n840 ∧ n840 ≤ 99) := hn844.imp_left (PK.fr hF883 (by decide) (by decide) pk845.2.2.2).1
            have ms889 : mu w880 < mu w := Nat.lt_of_le_of_lt (PK.fr hF883 (by decide) (by decide) pk845.2.2.2).2.1 ms847
            by_cases hc890 : n884 = 0
            · refine xg_t (xg_ifT (u := n884) rfl xnm0 (xj_eqT hc890)) ?_
              refine xg_t (xg_blk (b := [(141, 1, 0, 0, 0, 0), (142, 1, 2, 1, 0, 0), (143, 1, 2, 3, 0, 0), (144, 2, 4, 50, 0, 0), (146, 1, 3, 2, 0, 0), (147, 1, 2, 3, 0, 0), (148, 1, 16, 0, 0, 0), (149, 1, 11, 0, 0, 0), (150, 2, 2, 4, 0, 0), (152, 3, 13, 211, 96, 200), (155, 1, 0, 0, 0, 0), (156, 1, 2, 1, 0, 0), (157, 1, 2, 3, 0, 0), (158, 2, 4, 50, 0, 0), (160, 1, 3, 2, 0, 0), (161, 1, 2, 3, 0, 0), (162, 1, 16, 0, 0, 0), (163, 1, 11, 0, 0, 0), (164, 1, 3, 1, 0, 0), (165, 1, 11, 0, 0, 0), (166, 1, 0, 0, 0, 0), (167, 1, 3, 1, 0, 0), (168, 3, 5, 999, 0, 0), (171, 3, 13, 199, 96, 196), (174, 3, 13, 211, 96, 200), (177, 3, 8, 394, 0, 0)]) rfl) ?_
              refine xg_t (xg_aload (va := (2, 82)) rfl rfl) ?_
              refine xg_t (xg_iload (va := (0, 1)) rfl rfl) ?_
              refine xg_t (xg_iload (va := (0, u782)) rfl rfl) ?_
              refine xg_t (xg_bip) ?_
              refine xg_t (xg_const) ?_
              refine xg_t (xg_iload (va := (0, u782)) rfl rfl) ?_
              refine xg_t (xg_imul (u := 2) (v := u782) (z := 2 * u782) xnm0 xnm0 (by omega)) ?_
              refine xg_t (xg_iadd (u := 50) (v := 2 * u782) (z := 50 + (2 * u782)) xnm0 xnm0 (by omega)) ?_
              refine xg_t (xg_iload (va := (0, n840)) rfl rfl) ?_
              refine xg_cVv mX12_puts (vs := [(0, 1), (0, u782), (0, 50 + (2 * u782)), (0, n840)]) (rest := []) (cn1 := 0) (sl1 := 0) rfl (mPuts1 (hI882) (by omega) (by omega) (by omega) (fun _ => by omega)) rfl (hF883.get (by decide) h82_878) rfl rfl rfl rfl rfl rfl (fun w891 hq892 => ?_)
              obtain ⟨hI893, hF894, hx895⟩ := hq892
              obtain ⟨hp896, hp897⟩ := hx895
              have pk898 : PK w w891 := PK.tr pk886 (PK.fr hF894 (by decide) (by decide) pk886.2.2.2)
              have os899 : ∀ j, (j < 50 + 2 * u782 ∨ 52 + 2 * u782 ≤ j) → j < 140 → rwv w891 86 j = rwv w 86 j := fun j hj hl => (hp897 j (by omega) hl).trans (os887 j hj hl)
              have rg900 : FA w891 ≠ 0 ∨ (0 ≤ n840 ∧ n840 ≤ 99) := rg888.imp_left (PK.fr hF894 (by decide) (by decide) pk886.2.2.2).1
              have ms901 : mu w891 < mu w := Nat.lt_of_le_of_lt (PK.fr hF894 (by decide) (by decide) pk886.2.2.2).2.1 ms889
              refine xg_t (xg_aload (va := (2, 82)) rfl rfl) ?_
              refine xg_t (xg_iload (va := (0, 1)) rfl rfl) ?_
              refine xg_t (xg_iload (va := (0, u782)) rfl rfl) ?_
              refine xg_t (xg_bip) ?_
              refine xg_t (xg_const) ?_
              refine xg_t (xg_iload (va := (0, u782)) rfl rfl) ?_
              refine xg_t (xg_imul (u := 2) (v := u782) (z := 2 * u782) xnm0 xnm0 (by omega)) ?_
              refine xg_t (xg_iadd (u := 50) (v := 2 * u782) (z := 50 + (2 * u782)) xnm0 xnm0 (by omega)) ?_
              refine xg_t (xg_const) ?_
              refine xg_t (xg_iadd (u := 50 + (2 * u782)) (v := 1) (z := (50 + (2 * u782)) + 1) xnm0 xnm0 (by omega)) ?_
              refine xg_t (xg_aload (va := (2, 82)) rfl rfl) ?_
              refine xg_t (xg_const) ?_
              refine xg_t (xg_sip) ?_
              refine xg_cVi mX12_numbered (vs := [(0, 1), (0, 999)]) (rest := [(0, (50 + (2 * u782)) + 1), (0, u782), (0, 1), (2, 82)]) (cn1 := 0) (sl1 := 0) rfl (mNumbered (hI893) (by omega) (by omega) pk898.2.2.2) rfl (hF894.get (by decide) (hF883.get (by decide) h82_878)) rfl rfl rfl rfl rfl rfl (fun n906 w902 hq903 => ?_)
              obtain ⟨hn907, hI904, hF905⟩ := hq903
              obtain ⟨hn908, hn909, hn910⟩ := hn907
              have pk911 : PK w w902 := PK.tr pk898 hn909
              have os912 : ∀ j, (j < 50 + 2 * u782 ∨ 52 + 2 * u782 ≤ j) → j < 140 → rwv w902 86 j = rwv w 86 j := fun j hj hl => (rwv_fr hF905 (by decide)).trans (os899 j hj hl)
              have ix913 : u782 < 4 → rwv w902 86 (50 + (2 * u782)) = n840 := fun h => (rwv_fr hF905 (by decide)).trans (hp896 h)
              have rg914 : FA w902 ≠ 0 ∨ (0 ≤ n840 ∧ n840 ≤ 99) := rg900.imp_left hn909.1
              have ms915 : mu w902 < mu w := Nat.lt_of_le_of_lt hn909.2.1 ms901
              obtain ⟨f82_916, f82_918, f82_920, f82_922, f82_924, f82_926, f82_928, f82_930, f82_932, f82_934, f82_936, f82_937, f82_938, f82_940, f82_942, f82_944, h82_946, hb917, hb919, hb921, hb923, hb925, hb927, hb929, hb931, hb933, hb935, hb939, hb941, hb943, hb945, hb947⟩ := (hI904 82 (by decide) (by decide) : cp82 (wget w902 82))
              refine xg_cVv mX12_puts (vs := [(0, 1), (0, u782), (0, (50 + (2 * u782)) + 1), (0, n906)]) (rest := []) (cn1 := 0) (sl1 := 0) rfl (mPuts1 (hI904) (by omega) (by omega) (by omega) (fun _ => by omega)) rfl h82_946 rfl rfl rfl rfl rfl rfl (fun w948 hq949 => ?_)
              obtain ⟨hI950, hF951, hx952⟩ := hq949
              obtain ⟨hp953, hp954⟩ := hx952
              have pk955 : PK w w948 := PK.tr pk911 (PK.fr hF951 (by decide) (by decide) pk911.2.2.2)
              have os956 : ∀ j, (j < 50 + 2 * u782 ∨ 52 + 2 * u782 ≤ j) → j < 140 → rwv w948 86 j = rwv w 86 j := fun j hj hl => (hp954 j (by omega) hl).trans (os912 j hj hl)
              have ix957 : u782 < 4 → rwv w948 86 (50 + (2 * u782)) = n840 := fun h => (hp954 _ (by omega) (by omega)).trans (ix913 h)
              have rg958 : FA w948 ≠ 0 ∨ (0 ≤ n840 ∧ n840 ≤ 99) := rg914.imp_left (PK.fr hF951 (by decide) (by decide) pk911.2.2.2).1
              have rg959 : FA w948 ≠ 0 ∨ (1 ≤ n906 ∧ n906 ≤ 999) := hn910.imp_left (PK.fr hF951 (by decide) (by decide) pk911.2.2.2).1
              have ms960 : mu w948 < mu w := Nat.lt_of_le_of_lt (PK.fr hF951 (by decide) (by decide) pk911.2.2.2).2.1 ms915
              refine xg_t (xg_goto) ?_
              refine xg_t (xg_blk (b := [(394, 1, 0, 0, 0, 0), (395, 3, 1, 12, 10, 180), (398, 3, 7, 416, 1, 0), (401, 1, 0, 0, 0, 0), (402, 3, 1, 12, 7, 151), (405, 1, 3, 2, 0, 0), (406, 3, 6, 416, 1, 0), (409, 1, 0, 0, 0, 0), (410, 3, 13, 110, 96, 190), (413, 3, 8, 420, 0, 0)]) rfl) ?_
              refine xg_t (xg_aload (va := (2, 82)) rfl rfl) ?_
              refine xg_t (xg_getf (va := (0, f82_932)) (hF951.get (by decide) h82_946) rfl) ?_
              by_cases hc961 : f82_932 = 0
              · refine xg_t (xg_ifF (u := f82_932) rfl xnm0 (xj_neF hc961)) ?_
                refine xg_t (xg_aload (va := (2, 82)) rfl rfl) ?_
                refine xg_t (xg_getf (va := (0, f82_926)) (hF951.get (by decide) h82_946) rfl) ?_
                refine xg_t (xg_const) ?_
                by_cases hc962 : f82_926 = 2
                · refine xg_t (xg_icF (u := f82_926) (v := 2) rfl xnm0 xnm0 (xj_neF hc962)) ?_
                  refine xg_t (xg_aload (va := (2, 82)) rfl rfl) ?_
                  refine xg_cVv mX12_advance (vs := []) (rest := []) (cn1 := 0) (sl1 := 0) rfl (mAdvance (hI950)) rfl (hF951.get (by decide) h82_946) rfl rfl rfl rfl rfl rfl (fun w963 hq964 => ?_)
                  obtain ⟨hI965, hF966, hx967⟩ := hq964
                  obtain ⟨hv968, hv969, hv970, hv971⟩ := hx967
                  have hf973 := FA_fr hF966 (by decide)
                  have hs974 := pk955.2.2.2
                  unfold PS at hs974
                  have pk972 : PK w948 w963 := ⟨fun _ => by omega, hv968, hv971, (show fld w963 82 10 = 0 ∨ FA w963 ≠ 0 by omega)⟩
                  have pk975 : PK w w963 := PK.tr pk955 pk972
                  have os976 : ∀ j, (j < 50 + 2 * u782 ∨ 52 + 2 * u782 ≤ j) → j < 140 → rwv w963 86 j = rwv w 86 j := fun j hj hl => (rwv_fr hF966 (by decide)).trans (os956 j hj hl)
                  have ix977 : u782 < 4 → rwv w963 86 (50 + (2 * u782)) = n840 := fun h => (rwv_fr hF966 (by decide)).trans (ix957 h)
                  have ix978 : u782 < 4 → rwv w963 86 ((50 + (2 * u782)) + 1) = n906 := fun h => (rwv_fr hF966 (by decide)).trans (hp953 h)
                  have rg979 : FA w963 ≠ 0 ∨ (0 ≤ n840 ∧ n840 ≤ 99) := rg958.imp_left pk972.1
                  have rg980 : FA w963 ≠ 0 ∨ (1 ≤ n906 ∧ n906 ≤ 999) := rg959.imp_left pk972.1
                  have ms981 : mu w963 < mu w := Nat.lt_of_le_of_lt pk972.2.1 ms960
                  refine xg_t (xg_goto) ?_
                  refine xg_t (xg_blk (b := [(420, 1, 0, 0, 0, 0), (421, 3, 1, 12, 11, 17), (424, 1, 2, 1, 0, 0), (425, 1, 39, 0, 0, 0), (426, 1, 10, 0, 0, 0), (427, 1, 3, 1, 0, 0), (428, 1, 11, 0, 0, 0), (429, 1, 17, 0, 0, 0), (430, 1, 0, 0, 0, 0), (431, 1, 19, 0, 0, 0), (432, 3, 1, 12, 14, 212), (435, 1, 3, 1, 0, 0), (436, 1, 11, 0, 0, 0), (437, 3, 14, 12, 14, 212), (440, 1, 12, 0, 0, 0)]) rfl) ?_
                  obtain ⟨f82_982, f82_984, f82_986, f82_988, f82_990, f82_992, f82_994, f82_996, f82_998, f82_1000, f82_1002, f82_1003, f82_1004, f82_1006, f82_1008, f82_1010, h82_1012, hb983, hb985, hb987, hb989, hb991, hb993, hb995, hb997, hb999, hb1001, hb1005, hb1007, hb1009, hb1011, hb1013⟩ := (hI965 82 (by decide) (by decide) : cp82 (wget w963 82))
                  have hf1014 : fld w963 82 4 = f82_986 := fld_of h82_1012
                  have hf1015 : fld w963 82 5 = f82_988 := fld_of h82_1012
                  have hf1016 : fld w963 82 7 = f82_992 := fld_of h82_1012
                  have hf1017 : fld w963 82 10 = f82_998 := fld_of h82_1012
                  have hf1018 : fld w963 82 14 = f82_1000 := fld_of h82_1012
                  have hu1019 : mu w963 = 2 * (fld w963 82 4 - fld w963 82 5) + min 1 (fld w963 82 7) := rfl
                  have hf1020 := pk975.2.2.1
                  have hl1021 : f82_1000 ≤ 1000 := by omega
                  refine xg_t (xg_aload (va := (2, 82)) rfl rfl) ?_
                  refine xg_t (xg_getf (va := (2, 85)) h82_1012 rfl) ?_
                  refine xg_t (xg_iload (va := (0, 1)) rfl rfl) ?_
                  refine xg_t (xg_dup2 rfl) ?_
                  refine xg_ialdB (n := 1) (B := 4294967295) (((((((h85_37.fr hF792 (by decide)).fr hF839 (by decide)).fr hF883 (by decide)).fr hF894 (by decide)).fr hF905 (by decide)).fr hF951 (by decide)).fr hF966 (by decide)) (hb38) xnm0 (by omega) (fun u1022 hu1023 he1024 => ?_)
                  have hl1025 : u1022 = u782 := by omega
                  refine xg_t (xg_const) ?_
                  refine xg_t (xg_iadd (u := u1022) (v := 1) (z := u1022 + 1) xnm0 xnm0 (by omega)) ?_
                  refine xg_iastK (n := 1) (u := u1022 + 1) (((((((h85_37.fr hF792 (by decide)).fr hF839 (by decide)).fr hF883 (by decide)).fr hF894 (by decide)).fr hF905 (by decide)).fr hF951 (by decide)).fr hF966 (by decide)) xnm0 xnm0 rfl (by omega) (fun w1026 hr1027 hb1028 => ?_)
                  refine xg_t (xg_aload (va := (2, 82)) rfl rfl) ?_
                  refine xg_t (xg_dup rfl) ?_
                  refine xg_t (xg_getf (va := (0, f82_1000)) (hb1028.get (by decide) h82_1012) rfl) ?_
                  refine xg_t (xg_const) ?_
                  refine xg_t (xg_iadd (u := f82_1000) (v := 1) (z := f82_1000 + 1) xnm0 xnm0 (by omega)) ?_
                  refine xg_putI (fl1 := [(2, 83), (2, 84), (0, f82_982), (0, f82_984), (0, f82_986), (0, f82_988), (0, f82_990), (0, f82_992), (0, f82_994), (0, f82_996), (0, f82_998), (2, 85), (2, 86), (2, 87), (0, f82_1000 + 1), (2, 88), (2, 89), (2, 90), (2, 91), (2, 92), (2, 93), (2, 94), (4, f82_1002), (4, f82_1003), (0, f82_1004), (2, 95), (2, 96), (2, 97), (2, 98), (2, 99), (2, 100), (2, 101), (2, 102), (0, f82_1006), (2, 103), (2, 104), (2, 105), (2, 106), (2, 107), (2, 108), (2, 109), (0, f82_1008), (0, f82_1010), (2, 110), (2, 111), (2, 112), (2, 113)]) (hb1028.get (by decide) h82_1012) rfl rfl rfl (fun w1029 hk1030 hb1031 => ?_)
                  have hF1032 : xFr [82, 85] w963 w1029 := ((xFr.of (S := [82, 85]) hb1028 (by decide)).tr (xFr.of (S := [82, 85]) hb1031 (by decide)))
                  have hA1033 := FA_fr hF1032 (by decide)
                  have hf1034 : fld w1029 82 4 = f82_986 := fld_of hk1030
                  have hf1035 : fld w1029 82 5 = f82_988 := fld_of hk1030
                  have hf1036 : fld w1029 82 7 = f82_992 := fld_of hk1030
                  have hf1037 : fld w1029 82 10 = f82_998 := fld_of hk1030
                  have hf1038 : fld w1029 82 14 = f82_1000 + 1 := fld_of hk1030
                  have hu1039 : mu w1029 = 2 * (fld w1029 82 4 - fld w1029 82 5) + min 1 (fld w1029 82 7) := rfl
                  have pq1040 := pk975
                  unfold PK PS at pq1040
                  have hM1041 : ∀ s, s < 7 → s ≠ 1 → rwv w1029 85 s = rwv w 85 s := fun s hs hn => (rwv_of (hr1027.but hb1031 (by decide)) hs).trans ((if_neg hn).trans (rwv_of h85_37 hs).symm)
                  have hM1042 : rwv w1029 85 1 = u782 + 1 := (rwv_of (hr1027.but hb1031 (by decide)) (by decide)).trans ((if_pos rfl).trans (by omega))
                  have hM1043 : ∀ s, s < 7 → rwv w1029 85 s ≤ rwv w 85 s + 1 := fun s hs => by
                    by_cases z : s = 1
                    · subst z; omega
                    · rw [hM1041 s hs z]; omega
                  have hO1044 : ∀ j, (j < 50 + 2 * u782 ∨ 52 + 2 * u782 ≤ j) → j < 140 → rwv w1029 86 j = rwv w 86 j := fun j hj hl => (rwv_fr hF1032 (by decide)).trans (os976 j hj hl)
                  have hl1046 : u782 < 4 → rwv w1029 86 (50 + (2 * u782)) = n840 := fun h => (rwv_fr hF1032 (by decide)).trans (ix977 h)
                  have hl1047 : u782 < 4 → rwv w1029 86 ((50 + (2 * u782)) + 1) = n906 := fun h => (rwv_fr hF1032 (by decide)).trans (ix978 h)
                  have hl1048 : FA w963 ≠ 0 ∨ (0 ≤ n840 ∧ n840 ≤ 99) := rg979
                  have hl1049 : FA w963 ≠ 0 ∨ (1 ≤ n906 ∧ n906 ≤ 999) := rg980
                  have hN1045 : FA w1029 ≠ 0 ∨ 4 ≤ u782 ∨ (1 ≤ rwv w1029 86 (50 + 2 * u782 + 1) ∧ rwv w1029 86 (50 + 2 * u782 + 1) ≤ 999) := by omega
                  have hX1050 : FA w1029 ≠ 0 ∨ u782 < 4 := by omega
                  have hD1051 : FA w1029 ≠ 0 ∨ (DATA w → DATA w1029) := by
                    by_cases z : FA w1029 ≠ 0
                    · exact Or.inl z
                    · exact Or.inr (fun hd => hd.s1 hM1041 hK785 hM1042 (hX1050.resolve_left z) hO1044 ((hN1045.resolve_left z).resolve_left (by have := hX1050.resolve_left z; omega)))
                  exact xg_e ⟨w1029, ⟨rfl, rfl⟩, xMnv.up (S := [85, 82]) hI965 ((xFr.of (S := [85, 82]) hb1028 (by decide)).tr (xFr.of (S := [85, 82]) hb1031 (by decide))) (List.forall_mem_cons.mpr ⟨(show cpI 7 52 4294967295 (wget w1029 85) from ⟨_, (hr1027.but hb1031 (by decide)), xrb (by omega) (hb38)⟩), List.forall_mem_cons.mpr ⟨(show cp82 (wget w1029 82) from ⟨f82_982, f82_984, f82_986, f82_988, f82_990, f82_992, f82_994, f82_996, f82_998, f82_1000 + 1, f82_1002, f82_1003, f82_1004, f82_1006, f82_1008, f82_1010, hk1030, by omega, by omega, by omega, by omega, by omega, by omega, by omega, by omega, by omega, by omega, by omega, by omega, by omega, by omega, by omega⟩), fun _ h => absurd h List.not_mem_nil⟩⟩), ((((((((hF792.up (by decide)).tr (hF839.up (by decide))).tr (hF883.up (by decide))).tr (hF894.up (by decide))).tr (hF905.up (by decide))).tr (hF951.up (by decide))).tr (hF966.up (by decide))).tr ((xFr.of (S := [82, 83, 85, 86, 87]) hb1028 (by decide)).tr (xFr.of (S := [82, 83, 85, 86, 87]) hb1031 (by decide)))), ⟨fun h => by have := pq1040.1 h; omega, (show fld w1029 82 10 = 0 ∨ FA w1029 ≠ 0 by omega), Or.inr ⟨by have := ms981; omega, by omega, hM1043⟩, hD1051⟩⟩
                · refine xg_t (xg_icT (u := f82_926) (v := 2) rfl xnm0 xnm0 (xj_neT hc962)) ?_
                  refine xg_t (xg_blk (b := [(416, 1, 0, 0, 0, 0), (417, 3, 13, 140, 96, 183)]) rfl) ?_
                  refine xg_t (xg_aload (va := (2, 82)) rfl rfl) ?_
                  refine xg_cVv mX12_ends (vs := []) (rest := []) (cn1 := 0) (sl1 := 0) rfl (mEnds (hI950) pk955.2.2.2) rfl (hF951.get (by decide) h82_946) rfl rfl rfl rfl rfl rfl (fun w1052 hq1053 => ?_)
                  obtain ⟨hI1054, hF1055, hx1056⟩ := hq1053
                  obtain ⟨hv1057, hv1058, hv1059, hv1060⟩ := hx1056
                  have pk1061 : PK w948 w1052 := ⟨fun _ => hv1057, by omega, by omega, Or.inr hv1057⟩
                  have pk1062 : PK w w1052 := PK.tr pk955 pk1061
                  have os1063 : ∀ j, (j < 50 + 2 * u782 ∨ 52 + 2 * u782 ≤ j) → j < 140 → rwv w1052 86 j = rwv w 86 j := fun j hj hl => (rwv_fr hF1055 (by decide)).trans (os956 j hj hl)
                  have ix1064 : u782 < 4 → rwv w1052 86 (50 + (2 * u782)) = n840 := fun h => (rwv_fr hF1055 (by decide)).trans (ix957 h)
                  have ix1065 : u782 < 4 → rwv w1052 86 ((50 + (2 * u782)) + 1) = n906 := fun h => (rwv_fr hF1055 (by decide)).trans (hp953 h)
                  have rg1066 : FA w1052 ≠ 0 ∨ (0 ≤ n840 ∧ n840 ≤ 99) := rg958.imp_left pk1061.1
                  have rg1067 : FA w1052 ≠ 0 ∨ (1 ≤ n906 ∧ n906 ≤ 999) := rg959.imp_left pk1061.1
                  have ms1068 : mu w1052 < mu w := Nat.lt_of_le_of_lt pk1061.2.1 ms960
                  refine xg_t (xg_blk (b := [(420, 1, 0, 0, 0, 0), (421, 3, 1, 12, 11, 17), (424, 1, 2, 1, 0, 0), (425, 1, 39, 0, 0, 0), (426, 1, 10, 0, 0, 0), (427, 1, 3, 1, 0, 0), (428, 1, 11, 0, 0, 0), (429, 1, 17, 0, 0, 0), (430, 1, 0, 0, 0, 0), (431, 1, 19, 0, 0, 0), (432, 3, 1, 12, 14, 212), (435, 1, 3, 1, 0, 0), (436, 1, 11, 0, 0, 0), (437, 3, 14, 12, 14, 212), (440, 1, 12, 0, 0, 0)]) rfl) ?_
                  obtain ⟨f82_1069, f82_1071, f82_1073, f82_1075, f82_1077, f82_1079, f82_1081, f82_1083, f82_1085, f82_1087, f82_1089, f82_1090, f82_1091, f82_1093, f82_1095, f82_1097, h82_1099, hb1070, hb1072, hb1074, hb1076, hb1078, hb1080, hb1082, hb1084, hb1086, hb1088, hb1092, hb1094, hb1096, hb1098, hb1100⟩ := (hI1054 82 (by decide) (by decide) : cp82 (wget w1052 82))
                  have hf1101 : fld w1052 82 4 = f82_1073 := fld_of h82_1099
                  have hf1102 : fld w1052 82 5 = f82_1075 := fld_of h82_1099
                  have hf1103 : fld w1052 82 7 = f82_1079 := fld_of h82_1099
                  have hf1104 : fld w1052 82 10 = f82_1085 := fld_of h82_1099
                  have hf1105 : fld w1052 82 14 = f82_1087 := fld_of h82_1099
                  have hu1106 : mu w1052 = 2 * (fld w1052 82 4 - fld w1052 82 5) + min 1 (fld w1052 82 7) := rfl
                  have hf1107 := pk1062.2.2.1
                  have hl1108 : f82_1087 ≤ 1000 := by omega
                  refine xg_t (xg_aload (va := (2, 82)) rfl rfl) ?_
                  refine xg_t (xg_getf (va := (2, 85)) h82_1099 rfl) ?_
                  refine xg_t (xg_iload (va := (0, 1)) rfl rfl) ?_
                  refine xg_t (xg_dup2 rfl) ?_
                  refine xg_ialdB (n := 1) (B := 4294967295) (((((((h85_37.fr hF792 (by decide)).fr hF839 (by decide)).fr hF883 (by decide)).fr hF894 (by decide)).fr hF905 (by decide)).fr hF951 (by decide)).fr hF1055 (by decide)) (hb38) xnm0 (by omega) (fun u1109 hu1110 he1111 => ?_)
                  have hl1112 : u1109 = u782 := by omega
                  refine xg_t (xg_const) ?_
                  refine xg_t (xg_iadd (u := u1109) (v := 1) (z := u1109 + 1) xnm0 xnm0 (by omega)) ?_
                  refine xg_iastK (n := 1) (u := u1109 + 1) (((((((h85_37.fr hF792 (by decide)).fr hF839 (by decide)).fr hF883 (by decide)).fr hF894 (by decide)).fr hF905 (by decide)).fr hF951 (by decide)).fr hF1055 (by decide)) xnm0 xnm0 rfl (by omega) (fun w1113 hr1114 hb1115 => ?_)
                  refine xg_t (xg_aload (va := (2, 82)) rfl rfl) ?_
                  refine xg_t (xg_dup rfl) ?_
                  refine xg_t (xg_getf (va := (0, f82_1087)) (hb1115.get (by decide) h82_1099) rfl) ?_
                  refine xg_t (xg_const) ?_
                  refine xg_t (xg_iadd (u := f82_1087) (v := 1) (z := f82_1087 + 1) xnm0 xnm0 (by omega)) ?_
                  refine xg_putI (fl1 := [(2, 83), (2, 84), (0, f82_1069), (0, f82_1071), (0, f82_1073), (0, f82_1075), (0, f82_1077), (0, f82_1079), (0, f82_1081), (0, f82_1083), (0, f82_1085), (2, 85), (2, 86), (2, 87), (0, f82_1087 + 1), (2, 88), (2, 89), (2, 90), (2, 91), (2, 92), (2, 93), (2, 94), (4, f82_1089), (4, f82_1090), (0, f82_1091), (2, 95), (2, 96), (2, 97), (2, 98), (2, 99), (2, 100), (2, 101), (2, 102), (0, f82_1093), (2, 103), (2, 104), (2, 105), (2, 106), (2, 107), (2, 108), (2, 109), (0, f82_1095), (0, f82_1097), (2, 110), (2, 111), (2, 112), (2, 113)]) (hb1115.get (by decide) h82_1099) rfl rfl rfl (fun w1116 hk1117 hb1118 => ?_)
                  have hF1119 : xFr [82, 85] w1052 w1116 := ((xFr.of (S := [82, 85]) hb1115 (by decide)).tr (xFr.of (S := [82, 85]) hb1118 (by decide)))
                  have hA1120 := FA_fr hF1119 (by decide)
                  have hf1121 : fld w1116 82 4 = f82_1073 := fld_of hk1117
                  have hf1122 : fld w1116 82 5 = f82_1075 := fld_of hk1117
                  have hf1123 : fld w1116 82 7 = f82_1079 := fld_of hk1117
                  have hf1124 : fld w1116 82 10 = f82_1085 := fld_of hk1117
                  have hf1125 : fld w1116 82 14 = f82_1087 + 1 := fld_of hk1117
                  have hu1126 : mu w1116 = 2 * (fld w1116 82 4 - fld w1116 82 5) + min 1 (fld w1116 82 7) := rfl
                  have pq1127 := pk1062
                  unfold PK PS at pq1127
                  have hM1128 : ∀ s, s < 7 → s ≠ 1 → rwv w1116 85 s = rwv w 85 s := fun s hs hn => (rwv_of (hr1114.but hb1118 (by decide)) hs).trans ((if_neg hn).trans (rwv_of h85_37 hs).symm)
                  have hM1129 : rwv w1116 85 1 = u782 + 1 := (rwv_of (hr1114.but hb1118 (by decide)) (by decide)).trans ((if_pos rfl).trans (by omega))
                  have hM1130 : ∀ s, s < 7 → rwv w1116 85 s ≤ rwv w 85 s + 1 := fun s hs => by
                    by_cases z : s = 1
                    · subst z; omega
                    · rw [hM1128 s hs z]; omega
                  have hO1131 : ∀ j, (j < 50 + 2 * u782 ∨ 52 + 2 * u782 ≤ j) → j < 140 → rwv w1116 86 j = rwv w 86 j := fun j hj hl => (rwv_fr hF1119 (by decide)).trans (os1063 j hj hl)
                  have hl1133 : u782 < 4 → rwv w1116 86 (50 + (2 * u782)) = n840 := fun h => (rwv_fr hF1119 (by decide)).trans (ix1064 h)
                  have hl1134 : u782 < 4 → rwv w1116 86 ((50 + (2 * u782)) + 1) = n906 := fun h => (rwv_fr hF1119 (by decide)).trans (ix1065 h)
                  have hl1135 : FA w1052 ≠ 0 ∨ (0 ≤ n840 ∧ n840 ≤ 99) := rg1066
                  have hl1136 : FA w1052 ≠ 0 ∨ (1 ≤ n906 ∧ n906 ≤ 999) := rg1067
                  have hN1132 : FA w1116 ≠ 0 ∨ 4 ≤ u782 ∨ (1 ≤ rwv w1116 86 (50 + 2 * u782 + 1) ∧ rwv w1116 86 (50 + 2 * u782 + 1) ≤ 999) := by omega
                  have hX1137 : FA w1116 ≠ 0 ∨ u782 < 4 := by omega
                  have hD1138 : FA w1116 ≠ 0 ∨ (DATA w → DATA w1116) := by
                    by_cases z : FA w1116 ≠ 0
                    · exact Or.inl z
                    · exact Or.inr (fun hd => hd.s1 hM1128 hK785 hM1129 (hX1137.resolve_left z) hO1131 ((hN1132.resolve_left z).resolve_left (by have := hX1137.resolve_left z; omega)))
                  exact xg_e ⟨w1116, ⟨rfl, rfl⟩, xMnv.up (S := [85, 82]) hI1054 ((xFr.of (S := [85, 82]) hb1115 (by decide)).tr (xFr.of (S := [85, 82]) hb1118 (by decide))) (List.forall_mem_cons.mpr ⟨(show cpI 7 52 4294967295 (wget w1116 85) from ⟨_, (hr1114.but hb1118 (by decide)), xrb (by omega) (hb38)⟩), List.forall_mem_cons.mpr ⟨(show cp82 (wget w1116 82) from ⟨f82_1069, f82_1071, f82_1073, f82_1075, f82_1077, f82_1079, f82_1081, f82_1083, f82_1085, f82_1087 + 1, f82_1089, f82_1090, f82_1091, f82_1093, f82_1095, f82_1097, hk1117, by omega, by omega, by omega, by omega, by omega, by omega, by omega, by omega, by omega, by omega, by omega, by omega, by omega, by omega, by omega⟩), fun _ h => absurd h List.not_mem_nil⟩⟩), ((((((((hF792.up (by decide)).tr (hF839.up (by decide))).tr (hF883.up (by decide))).tr (hF894.up (by decide))).tr (hF905.up (by decide))).tr (hF951.up (by decide))).tr (hF1055.up (by decide))).tr ((xFr.of (S := [82, 83, 85, 86, 87]) hb1115 (by decide)).tr (xFr.of (S := [82, 83, 85, 86, 87]) hb1118 (by decide)))), ⟨fun h => by have := pq1127.1 h; omega, (show fld w1116 82 10 = 0 ∨ FA w1116 ≠ 0 by omega), Or.inr ⟨by have := ms1068; omega, by omega, hM1130⟩, hD1138⟩⟩
              · refine xg_t (xg_ifT (u := f82_932) rfl xnm0 (xj_neT hc961)) ?_
                refine xg_t (xg_blk (b := [(416, 1, 0, 0, 0, 0), (417, 3, 13, 140, 96, 183)]) rfl) ?_
                refine xg_t (xg_aload (va := (2, 82)) rfl rfl) ?_
                refine xg_cVv mX12_ends (vs := []) (rest := []) (cn1 := 0) (sl1 := 0) rfl (mEnds (hI950) pk955.2.2.2) rfl (hF951.get (by decide) h82_946) rfl rfl rfl rfl rfl rfl (fun w1139 hq1140 => ?_)
                obtain ⟨hI1141, hF1142, hx1143⟩ := hq1140
                obtain ⟨hv1144, hv1145, hv1146, hv1147⟩ := hx1143
                have pk1148 : PK w948 w1139 := ⟨fun _ => hv1144, by omega, by omega, Or.inr hv1144⟩
                have pk1149 : PK w w1139 := PK.tr pk955 pk1148
                have os1150 : ∀ j, (j < 50 + 2 * u782 ∨ 52 + 2 * u782 ≤ j) → j < 140 → rwv w1139 86 j = rwv w 86 j := fun j hj hl => (rwv_fr hF1142 (by decide)).trans (os956 j hj hl)
                have ix1151 : u782 < 4 → rwv w1139 86 (50 + (2 * u782)) = n840 := fun h => (rwv_fr hF1142 (by decide)).trans (ix957 h)
                have ix1152 : u782 < 4 → rwv w1139 86 ((50 + (2 * u782)) + 1) = n906 := fun h => (rwv_fr hF1142 (by decide)).trans (hp953 h)
                have rg1153 : FA w1139 ≠ 0 ∨ (0 ≤ n840 ∧ n840 ≤ 99) := rg958.imp_left pk1148.1
                have rg1154 : FA w1139 ≠ 0 ∨ (1 ≤ n906 ∧ n906 ≤ 999) := rg959.imp_left pk1148.1
                have ms1155 : mu w1139 < mu w := Nat.lt_of_le_of_lt pk1148.2.1 ms960
                refine xg_t (xg_blk (b := [(420, 1, 0, 0, 0, 0), (421, 3, 1, 12, 11, 17), (424, 1, 2, 1, 0, 0), (425, 1, 39, 0, 0, 0), (426, 1, 10, 0, 0, 0), (427, 1, 3, 1, 0, 0), (428, 1, 11, 0, 0, 0), (429, 1, 17, 0, 0, 0), (430, 1, 0, 0, 0, 0), (431, 1, 19, 0, 0, 0), (432, 3, 1, 12, 14, 212), (435, 1, 3, 1, 0, 0), (436, 1, 11, 0, 0, 0), (437, 3, 14, 12, 14, 212), (440, 1, 12, 0, 0, 0)]) rfl) ?_
                obtain ⟨f82_1156, f82_1158, f82_1160, f82_1162, f82_1164, f82_1166, f82_1168, f82_1170, f82_1172, f82_1174, f82_1176, f82_1177, f82_1178, f82_1180, f82_1182, f82_1184, h82_1186, hb1157, hb1159, hb1161, hb1163, hb1165, hb1167, hb1169, hb1171, hb1173, hb1175, hb1179, hb1181, hb1183, hb1185, hb1187⟩ := (hI1141 82 (by decide) (by decide) : cp82 (wget w1139 82))
                have hf1188 : fld w1139 82 4 = f82_1160 := fld_of h82_1186
                have hf1189 : fld w1139 82 5 = f82_1162 := fld_of h82_1186
                have hf1190 : fld w1139 82 7 = f82_1166 := fld_of h82_1186
                have hf1191 : fld w1139 82 10 = f82_1172 := fld_of h82_1186
                have hf1192 : fld w1139 82 14 = f82_1174 := fld_of h82_1186
                have hu1193 : mu w1139 = 2 * (fld w1139 82 4 - fld w1139 82 5) + min 1 (fld w1139 82 7) := rfl
                have hf1194 := pk1149.2.2.1
                have hl1195 : f82_1174 ≤ 1000 := by omega
                refine xg_t (xg_aload (va := (2, 82)) rfl rfl) ?_
                refine xg_t (xg_getf (va := (2, 85)) h82_1186 rfl) ?_
                refine xg_t (xg_iload (va := (0, 1)) rfl rfl) ?_
                refine xg_t (xg_dup2 rfl) ?_
                refine xg_ialdB (n := 1) (B := 4294967295) (((((((h85_37.fr hF792 (by decide)).fr hF839 (by decide)).fr hF883 (by decide)).fr hF894 (by decide)).fr hF905 (by decide)).fr hF951 (by decide)).fr hF1142 (by decide)) (hb38) xnm0 (by omega) (fun u1196 hu1197 he1198 => ?_)
                have hl1199 : u1196 = u782 := by omega
                refine xg_t (xg_const) ?_
                refine xg_t (xg_iadd (u := u1196) (v := 1) (z := u1196 + 1) xnm0 xnm0 (by omega)) ?_
                refine xg_iastK (n := 1) (u := u1196 + 1) (((((((h85_37.fr hF792 (by decide)).fr hF839 (by decide)).fr hF883 (by decide)).fr hF894 (by decide)).fr hF905 (by decide)).fr hF951 (by decide)).fr hF1142 (by decide)) xnm0 xnm0 rfl (by omega) (fun w1200 hr1201 hb1202 => ?_)
                refine xg_t (xg_aload (va := (2, 82)) rfl rfl) ?_
                refine xg_t (xg_dup rfl) ?_
                refine xg_t (xg_getf (va := (0, f82_1174)) (hb1202.get (by decide) h82_1186) rfl) ?_
                refine xg_t (xg_const) ?_
                refine xg_t (xg_iadd (u := f82_1174) (v := 1) (z := f82_1174 + 1) xnm0 xnm0 (by omega)) ?_
                refine xg_putI (fl1 := [(2, 83), (2, 84), (0, f82_1156), (0, f82_1158), (0, f82_1160), (0, f82_1162), (0, f82_1164), (0, f82_1166), (0, f82_1168), (0, f82_1170), (0, f82_1172), (2, 85), (2, 86), (2, 87), (0, f82_1174 + 1), (2, 88), (2, 89), (2, 90), (2, 91), (2, 92), (2, 93), (2, 94), (4, f82_1176), (4, f82_1177), (0, f82_1178), (2, 95), (2, 96), (2, 97), (2, 98), (2, 99), (2, 100), (2, 101), (2, 102), (0, f82_1180), (2, 103), (2, 104), (2, 105), (2, 106), (2, 107), (2, 108), (2, 109), (0, f82_1182), (0, f82_1184), (2, 110), (2, 111), (2, 112), (2, 113)]) (hb1202.get (by decide) h82_1186) rfl rfl rfl (fun w1203 hk1204 hb1205 => ?_)
                have hF1206 : xFr [82, 85] w1139 w1203 := ((xFr.of (S := [82, 85]) hb1202 (by decide)).tr (xFr.of (S := [82, 85]) hb1205 (by decide)))
                have hA1207 := FA_fr hF1206 (by decide)
                have hf1208 : fld w1203 82 4 = f82_1160 := fld_of hk1204
                have hf1209 : fld w1203 82 5 = f82_1162 := fld_of hk1204
                have hf1210 : fld w1203 82 7 = f82_1166 := fld_of hk1204
                have hf1211 : fld w1203 82 10 = f82_1172 := fld_of hk1204
                have hf1212 : fld w1203 82 14 = f82_1174 + 1 := fld_of hk1204
                have hu1213 : mu w1203 = 2 * (fld w1203 82 4 - fld w1203 82 5) + min 1 (fld w1203 82 7) := rfl
                have pq1214 := pk1149
                unfold PK PS at pq1214
                have hM1215 : ∀ s, s < 7 → s ≠ 1 → rwv w1203 85 s = rwv w 85 s := fun s hs hn => (rwv_of (hr1201.but hb1205 (by decide)) hs).trans ((if_neg hn).trans (rwv_of h85_37 hs).symm)
                have hM1216 : rwv w1203 85 1 = u782 + 1 := (rwv_of (hr1201.but hb1205 (by decide)) (by decide)).trans ((if_pos rfl).trans (by omega))
                have hM1217 : ∀ s, s < 7 → rwv w1203 85 s ≤ rwv w 85 s + 1 := fun s hs => by
                  by_cases z : s = 1
                  · subst z; omega
                  · rw [hM1215 s hs z]; omega
                have hO1218 : ∀ j, (j < 50 + 2 * u782 ∨ 52 + 2 * u782 ≤ j) → j < 140 → rwv w1203 86 j = rwv w 86 j := fun j hj hl => (rwv_fr hF1206 (by decide)).trans (os1150 j hj hl)
                have hl1220 : u782 < 4 → rwv w1203 86 (50 + (2 * u782)) = n840 := fun h => (rwv_fr hF1206 (by decide)).trans (ix1151 h)
                have hl1221 : u782 < 4 → rwv w1203 86 ((50 + (2 * u782)) + 1) = n906 := fun h => (rwv_fr hF1206 (by decide)).trans (ix1152 h)
                have hl1222 : FA w1139 ≠ 0 ∨ (0 ≤ n840 ∧ n840 ≤ 99) := rg1153
                have hl1223 : FA w1139 ≠ 0 ∨ (1 ≤ n906 ∧ n906 ≤ 999) := rg1154
                have hN1219 : FA w1203 ≠ 0 ∨ 4 ≤ u782 ∨ (1 ≤ rwv w1203 86 (50 + 2 * u782 + 1) ∧ rwv w1203 86 (50 + 2 * u782 + 1) ≤ 999) := by omega
                have hX1224 : FA w1203 ≠ 0 ∨ u782 < 4 := by omega
                have hD1225 : FA w1203 ≠ 0 ∨ (DATA w → DATA w1203) := by
                  by_cases z : FA w1203 ≠ 0
                  · exact Or.inl z
                  · exact Or.inr (fun hd => hd.s1 hM1215 hK785 hM1216 (hX1224.resolve_left z) hO1218 ((hN1219.resolve_left z).resolve_left (by have := hX1224.resolve_left z; omega)))
                exact xg_e ⟨w1203, ⟨rfl, rfl⟩, xMnv.up (S := [85, 82]) hI1141 ((xFr.of (S := [85, 82]) hb1202 (by decide)).tr (xFr.of (S := [85, 82]) hb1205 (by decide))) (List.forall_mem_cons.mpr ⟨(show cpI 7 52 4294967295 (wget w1203 85) from ⟨_, (hr1201.but hb1205 (by decide)), xrb (by omega) (hb38)⟩), List.forall_mem_cons.mpr ⟨(show cp82 (wget w1203 82) from ⟨f82_1156, f82_1158, f82_1160, f82_1162, f82_1164, f82_1166, f82_1168, f82_1170, f82_1172, f82_1174 + 1, f82_1176, f82_1177, f82_1178, f82_1180, f82_1182, f82_1184, hk1204, by omega, by omega, by omega, by omega, by omega, by omega, by omega, by omega, by omega, by omega, by omega, by omega, by omega, by omega, by omega⟩), fun _ h => absurd h List.not_mem_nil⟩⟩), ((((((((hF792.up (by decide)).tr (hF839.up (by decide))).tr (hF883.up (by decide))).tr (hF894.up (by decide))).tr (hF905.up (by decide))).tr (hF951.up (by decide))).tr (hF1142.up (by decide))).tr ((xFr.of (S := [82, 83, 85, 86, 87]) hb1202 (by decide)).tr (xFr.of (S := [82, 83, 85, 86, 87]) hb1205 (by decide)))), ⟨fun h => by have := pq1214.1 h; omega, (show fld w1203 82 10 = 0 ∨ FA w1203 ≠ 0 by omega), Or.inr ⟨by have := ms1155; omega, by omega, hM1217⟩, hD1225⟩⟩
            · refine xg_t (xg_ifF (u := n884) rfl xnm0 (xj_eqF hc890)) ?_
              refine xg_t (xg_aload (va := (2, 82)) rfl rfl) ?_
              refine xg_t (xg_const) ?_
              refine xg_t (xg_iload (va := (0, f82_9)) rfl rfl) ?_
              refine xg_cVv mX12_also (vs := [(0, 3), (0, f82_9)]) (rest := []) (cn1 := 0) (sl1 := 0) rfl (mAlso (hI882) (by omega) (by omega) (by omega) pk886.2.2.2) rfl (hF883.get (by decide) h82_878) rfl rfl rfl rfl rfl rfl (fun w1226 hq1227 => ?_)
              obtain ⟨hI1228, hF1229, hx1230⟩ := hq1227
              have pk1231 : PK w880 w1226 := ⟨fun _ => hx1230, Nat.le_of_eq (mu_fr hF1229 (by decide)), fld_fr hF1229 (by decide), Or.inr hx1230⟩
              have pk1232 : PK w w1226 := PK.tr pk886 pk1231
              have os1233 : ∀ j, (j < 50 + 2 * u782 ∨ 52 + 2 * u782 ≤ j) → j < 140 → rwv w1226 86 j = rwv w 86 j := fun j hj hl => (rwv_fr hF1229 (by decide)).trans (os887 j hj hl)
              have rg1234 : FA w1226 ≠ 0 ∨ (0 ≤ n840 ∧ n840 ≤ 99) := rg888.imp_left pk1231.1
              have ms1235 : mu w1226 < mu w := Nat.lt_of_le_of_lt pk1231.2.1 ms889
              refine xg_t (xg_blk (b := [(141, 1, 0, 0, 0, 0), (142, 1, 2, 1, 0, 0), (143, 1, 2, 3, 0, 0), (144, 2, 4, 50, 0, 0), (146, 1, 3, 2, 0, 0), (147, 1, 2, 3, 0, 0), (148, 1, 16, 0, 0, 0), (149, 1, 11, 0, 0, 0), (150, 2, 2, 4, 0, 0), (152, 3, 13, 211, 96, 200), (155, 1, 0, 0, 0, 0), (156, 1, 2, 1, 0, 0), (157, 1, 2, 3, 0, 0), (158, 2, 4, 50, 0, 0), (160, 1, 3, 2, 0, 0), (161, 1, 2, 3, 0, 0), (162, 1, 16, 0, 0, 0), (163, 1, 11, 0, 0, 0), (164, 1, 3, 1, 0, 0), (165, 1, 11, 0, 0, 0), (166, 1, 0, 0, 0, 0), (167, 1, 3, 1, 0, 0), (168, 3, 5, 999, 0, 0), (171, 3, 13, 199, 96, 196), (174, 3, 13, 211, 96, 200), (177, 3, 8, 394, 0, 0)]) rfl) ?_
              refine xg_t (xg_aload (va := (2, 82)) rfl rfl) ?_
              refine xg_t (xg_iload (va := (0, 1)) rfl rfl) ?_
              refine xg_t (xg_iload (va := (0, u782)) rfl rfl) ?_
              refine xg_t (xg_bip) ?_
              refine xg_t (xg_const) ?_
              refine xg_t (xg_iload (va := (0, u782)) rfl rfl) ?_
              refine xg_t (xg_imul (u := 2) (v := u782) (z := 2 * u782) xnm0 xnm0 (by omega)) ?_
              refine xg_t (xg_iadd (u := 50) (v := 2 * u782) (z := 50 + (2 * u782)) xnm0 xnm0 (by omega)) ?_
              refine xg_t (xg_iload (va := (0, n840)) rfl rfl) ?_
              refine xg_cVv mX12_puts (vs := [(0, 1), (0, u782), (0, 50 + (2 * u782)), (0, n840)]) (rest := []) (cn1 := 0) (sl1 := 0) rfl (mPuts1 (hI1228) (by omega) (by omega) (by omega) (fun _ => by omega)) rfl (hF1229.get (by decide) (hF883.get (by decide) h82_878)) rfl rfl rfl rfl rfl rfl (fun w1236 hq1237 => ?_)
              obtain ⟨hI1238, hF1239, hx1240⟩ := hq1237
              obtain ⟨hp1241, hp1242⟩ := hx1240
              have pk1243 : PK w w1236 := PK.tr pk1232 (PK.fr hF1239 (by decide) (by decide) pk1232.2.2.2)
              have os1244 : ∀ j, (j < 50 + 2 * u782 ∨ 52 + 2 * u782 ≤ j) → j < 140 → rwv w1236 86 j = rwv w 86 j := fun j hj hl => (hp1242 j (by omega) hl).trans (os1233 j hj hl)
              have rg1245 : FA w1236 ≠ 0 ∨ (0 ≤ n840 ∧ n840 ≤ 99) := rg1234.imp_left (PK.fr hF1239 (by decide) (by decide) pk1232.2.2.2).1
              have rg1246 : FA w1236 ≠ 0 ∨ False := (Or.inl hx1230 : FA w1226 ≠ 0 ∨ False).imp_left (PK.fr hF1239 (by decide) (by decide) pk1232.2.2.2).1
              have ms1247 : mu w1236 < mu w := Nat.lt_of_le_of_lt (PK.fr hF1239 (by decide) (by decide) pk1232.2.2.2).2.1 ms1235
              refine xg_t (xg_aload (va := (2, 82)) rfl rfl) ?_
              refine xg_t (xg_iload (va := (0, 1)) rfl rfl) ?_
              refine xg_t (xg_iload (va := (0, u782)) rfl rfl) ?_
              refine xg_t (xg_bip) ?_
              refine xg_t (xg_const) ?_
              refine xg_t (xg_iload (va := (0, u782)) rfl rfl) ?_
              refine xg_t (xg_imul (u := 2) (v := u782) (z := 2 * u782) xnm0 xnm0 (by omega)) ?_
              refine xg_t (xg_iadd (u := 50) (v := 2 * u782) (z := 50 + (2 * u782)) xnm0 xnm0 (by omega)) ?_
              refine xg_t (xg_const) ?_
              refine xg_t (xg_iadd (u := 50 + (2 * u782)) (v := 1) (z := (50 + (2 * u782)) + 1) xnm0 xnm0 (by omega)) ?_
              refine xg_t (xg_aload (va := (2, 82)) rfl rfl) ?_
              refine xg_t (xg_const) ?_
              refine xg_t (xg_sip) ?_
              refine xg_cVi mX12_numbered (vs := [(0, 1), (0, 999)]) (rest := [(0, (50 + (2 * u782)) + 1), (0, u782), (0, 1), (2, 82)]) (cn1 := 0) (sl1 := 0) rfl (mNumbered (hI1238) (by omega) (by omega) pk1243.2.2.2) rfl (hF1239.get (by decide) (hF1229.get (by decide) (hF883.get (by decide) h82_878))) rfl rfl rfl rfl rfl rfl (fun n1252 w1248 hq1249 => ?_)
              obtain ⟨hn1253, hI1250, hF1251⟩ := hq1249
              obtain ⟨hn1254, hn1255, hn1256⟩ := hn1253
              have pk1257 : PK w w1248 := PK.tr pk1243 hn1255
              have os1258 : ∀ j, (j < 50 + 2 * u782 ∨ 52 + 2 * u782 ≤ j) → j < 140 → rwv w1248 86 j = rwv w 86 j := fun j hj hl => (rwv_fr hF1251 (by decide)).trans (os1244 j hj hl)
              have ix1259 : u782 < 4 → rwv w1248 86 (50 + (2 * u782)) = n840 := fun h => (rwv_fr hF1251 (by decide)).trans (hp1241 h)
              have rg1260 : FA w1248 ≠ 0 ∨ (0 ≤ n840 ∧ n840 ≤ 99) := rg1245.imp_left hn1255.1
              have rg1261 : FA w1248 ≠ 0 ∨ False := rg1246.imp_left hn1255.1
              have ms1262 : mu w1248 < mu w := Nat.lt_of_le_of_lt hn1255.2.1 ms1247
              obtain ⟨f82_1263, f82_1265, f82_1267, f82_1269, f82_1271, f82_1273, f82_1275, f82_1277, f82_1279, f82_1281, f82_1283, f82_1284, f82_1285, f82_1287, f82_1289, f82_1291, h82_1293, hb1264, hb1266, hb1268, hb1270, hb1272, hb1274, hb1276, hb1278, hb1280, hb1282, hb1286, hb1288, hb1290, hb1292, hb1294⟩ := (hI1250 82 (by decide) (by decide) : cp82 (wget w1248 82))
              refine xg_cVv mX12_puts (vs := [(0, 1), (0, u782), (0, (50 + (2 * u782)) + 1), (0, n1252)]) (rest := []) (cn1 := 0) (sl1 := 0) rfl (mPuts1 (hI1250) (by omega) (by omega) (by omega) (fun _ => by omega)) rfl h82_1293 rfl rfl rfl rfl rfl rfl (fun w1295 hq1296 => ?_)
              obtain ⟨hI1297, hF1298, hx1299⟩ := hq1296
              obtain ⟨hp1300, hp1301⟩ := hx1299
              have pk1302 : PK w w1295 := PK.tr pk1257 (PK.fr hF1298 (by decide) (by decide) pk1257.2.2.2)
              have os1303 : ∀ j, (j < 50 + 2 * u782 ∨ 52 + 2 * u782 ≤ j) → j < 140 → rwv w1295 86 j = rwv w 86 j := fun j hj hl => (hp1301 j (by omega) hl).trans (os1258 j hj hl)
              have ix1304 : u782 < 4 → rwv w1295 86 (50 + (2 * u782)) = n840 := fun h => (hp1301 _ (by omega) (by omega)).trans (ix1259 h)
              have rg1305 : FA w1295 ≠ 0 ∨ (0 ≤ n840 ∧ n840 ≤ 99) := rg1260.imp_left (PK.fr hF1298 (by decide) (by decide) pk1257.2.2.2).1
              have rg1306 : FA w1295 ≠ 0 ∨ False := rg1261.imp_left (PK.fr hF1298 (by decide) (by decide) pk1257.2.2.2).1
              have rg1307 : FA w1295 ≠ 0 ∨ (1 ≤ n1252 ∧ n1252 ≤ 999) := hn1256.imp_left (PK.fr hF1298 (by decide) (by decide) pk1257.2.2.2).1
              have ms1308 : mu w1295 < mu w := Nat.lt_of_le_of_lt (PK.fr hF1298 (by decide) (by decide) pk1257.2.2.2).2.1 ms1262
              refine xg_t (xg_goto) ?_
              refine xg_t (xg_blk (b := [(394, 1, 0, 0, 0, 0), (395, 3, 1, 12, 10, 180), (398, 3, 7, 416, 1, 0), (401, 1, 0, 0, 0, 0), (402, 3, 1, 12, 7, 151), (405, 1, 3, 2, 0, 0), (406, 3, 6, 416, 1, 0), (409, 1, 0, 0, 0, 0), (410, 3, 13, 110, 96, 190), (413, 3, 8, 420, 0, 0)]) rfl) ?_
              refine xg_t (xg_aload (va := (2, 82)) rfl rfl) ?_
              refine xg_t (xg_getf (va := (0, f82_1279)) (hF1298.get (by decide) h82_1293) rfl) ?_
              by_cases hc1309 : f82_1279 = 0
              · refine xg_t (xg_ifF (u := f82_1279) rfl xnm0 (xj_neF hc1309)) ?_
                refine xg_t (xg_aload (va := (2, 82)) rfl rfl) ?_
                refine xg_t (xg_getf (va := (0, f82_1273)) (hF1298.get (by decide) h82_1293) rfl) ?_
                refine xg_t (xg_const) ?_
                by_cases hc1310 : f82_1273 = 2
                · refine xg_t (xg_icF (u := f82_1273) (v := 2) rfl xnm0 xnm0 (xj_neF hc1310)) ?_
                  refine xg_t (xg_aload (va := (2, 82)) rfl rfl) ?_
                  refine xg_cVv mX12_advance (vs := []) (rest := []) (cn1 := 0) (sl1 := 0) rfl (mAdvance (hI1297)) rfl (hF1298.get (by decide) h82_1293) rfl rfl rfl rfl rfl rfl (fun w1311 hq1312 => ?_)
                  obtain ⟨hI1313, hF1314, hx1315⟩ := hq1312
                  obtain ⟨hv1316, hv1317, hv1318, hv1319⟩ := hx1315
                  have hf1321 := FA_fr hF1314 (by decide)
                  have hs1322 := pk1302.2.2.2
                  unfold PS at hs1322
                  have pk1320 : PK w1295 w1311 := ⟨fun _ => by omega, hv1316, hv1319, (show fld w1311 82 10 = 0 ∨ FA w1311 ≠ 0 by omega)⟩
                  have pk1323 : PK w w1311 := PK.tr pk1302 pk1320
                  have os1324 : ∀ j, (j < 50 + 2 * u782 ∨ 52 + 2 * u782 ≤ j) → j < 140 → rwv w1311 86 j = rwv w 86 j := fun j hj hl => (rwv_fr hF1314 (by decide)).trans (os1303 j hj hl)
                  have ix1325 : u782 < 4 → rwv w1311 86 (50 + (2 * u782)) = n840 := fun h => (rwv_fr hF1314 (by decide)).trans (ix1304 h)
                  have ix1326 : u782 < 4 → rwv w1311 86 ((50 + (2 * u782)) + 1) = n1252 := fun h => (rwv_fr hF1314 (by decide)).trans (hp1300 h)
                  have rg1327 : FA w1311 ≠ 0 ∨ (0 ≤ n840 ∧ n840 ≤ 99) := rg1305.imp_left pk1320.1
                  have rg1328 : FA w1311 ≠ 0 ∨ False := rg1306.imp_left pk1320.1
                  have rg1329 : FA w1311 ≠ 0 ∨ (1 ≤ n1252 ∧ n1252 ≤ 999) := rg1307.imp_left pk1320.1
                  have ms1330 : mu w1311 < mu w := Nat.lt_of_le_of_lt pk1320.2.1 ms1308
                  refine xg_t (xg_goto) ?_
                  refine xg_t (xg_blk (b := [(420, 1, 0, 0, 0, 0), (421, 3, 1, 12, 11, 17), (424, 1, 2, 1, 0, 0), (425, 1, 39, 0, 0, 0), (426, 1, 10, 0, 0, 0), (427, 1, 3, 1, 0, 0), (428, 1, 11, 0, 0, 0), (429, 1, 17, 0, 0, 0), (430, 1, 0, 0, 0, 0), (431, 1, 19, 0, 0, 0), (432, 3, 1, 12, 14, 212), (435, 1, 3, 1, 0, 0), (436, 1, 11, 0, 0, 0), (437, 3, 14, 12, 14, 212), (440, 1, 12, 0, 0, 0)]) rfl) ?_
                  obtain ⟨f82_1331, f82_1333, f82_1335, f82_1337, f82_1339, f82_1341, f82_1343, f82_1345, f82_1347, f82_1349, f82_1351, f82_1352, f82_1353, f82_1355, f82_1357, f82_1359, h82_1361, hb1332, hb1334, hb1336, hb1338, hb1340, hb1342, hb1344, hb1346, hb1348, hb1350, hb1354, hb1356, hb1358, hb1360, hb1362⟩ := (hI1313 82 (by decide) (by decide) : cp82 (wget w1311 82))
                  have hf1363 : fld w1311 82 4 = f82_1335 := fld_of h82_1361
                  have hf1364 : fld w1311 82 5 = f82_1337 := fld_of h82_1361
                  have hf1365 : fld w1311 82 7 = f82_1341 := fld_of h82_1361
                  have hf1366 : fld w1311 82 10 = f82_1347 := fld_of h82_1361
                  have hf1367 : fld w1311 82 14 = f82_1349 := fld_of h82_1361
                  have hu1368 : mu w1311 = 2 * (fld w1311 82 4 - fld w1311 82 5) + min 1 (fld w1311 82 7) := rfl
                  have hf1369 := pk1323.2.2.1
                  have hl1370 : f82_1349 ≤ 1000 := by omega
                  refine xg_t (xg_aload (va := (2, 82)) rfl rfl) ?_
                  refine xg_t (xg_getf (va := (2, 85)) h82_1361 rfl) ?_
                  refine xg_t (xg_iload (va := (0, 1)) rfl rfl) ?_
                  refine xg_t (xg_dup2 rfl) ?_
                  refine xg_ialdB (n := 1) (B := 4294967295) ((((((((h85_37.fr hF792 (by decide)).fr hF839 (by decide)).fr hF883 (by decide)).fr hF1229 (by decide)).fr hF1239 (by decide)).fr hF1251 (by decide)).fr hF1298 (by decide)).fr hF1314 (by decide)) (hb38) xnm0 (by omega) (fun u1371 hu1372 he1373 => ?_)
                  have hl1374 : u1371 = u782 := by omega
                  refine xg_t (xg_const) ?_
                  refine xg_t (xg_iadd (u := u1371) (v := 1) (z := u1371 + 1) xnm0 xnm0 (by omega)) ?_
                  refine xg_iastK (n := 1) (u := u1371 + 1) ((((((((h85_37.fr hF792 (by decide)).fr hF839 (by decide)).fr hF883 (by decide)).fr hF1229 (by decide)).fr hF1239 (by decide)).fr hF1251 (by decide)).fr hF1298 (by decide)).fr hF1314 (by decide)) xnm0 xnm0 rfl (by omega) (fun w1375 hr1376 hb1377 => ?_)
                  refine xg_t (xg_aload (va := (2, 82)) rfl rfl) ?_
                  refine xg_t (xg_dup rfl) ?_
                  refine xg_t (xg_getf (va := (0, f82_1349)) (hb1377.get (by decide) h82_1361) rfl) ?_
                  refine xg_t (xg_const) ?_
                  refine xg_t (xg_iadd (u := f82_1349) (v := 1) (z := f82_1349 + 1) xnm0 xnm0 (by omega)) ?_
                  refine xg_putI (fl1 := [(2, 83), (2, 84), (0, f82_1331), (0, f82_1333), (0, f82_1335), (0, f82_1337), (0, f82_1339), (0, f82_1341), (0, f82_1343), (0, f82_1345), (0, f82_1347), (2, 85), (2, 86), (2, 87), (0, f82_1349 + 1), (2, 88), (2, 89), (2, 90), (2, 91), (2, 92), (2, 93), (2, 94), (4, f82_1351), (4, f82_1352), (0, f82_1353), (2, 95), (2, 96), (2, 97), (2, 98), (2, 99), (2, 100), (2, 101), (2, 102), (0, f82_1355), (2, 103), (2, 104), (2, 105), (2, 106), (2, 107), (2, 108), (2, 109), (0, f82_1357), (0, f82_1359), (2, 110), (2, 111), (2, 112), (2, 113)]) (hb1377.get (by decide) h82_1361) rfl rfl rfl (fun w1378 hk1379 hb1380 => ?_)
                  have hF1381 : xFr [82, 85] w1311 w1378 := ((xFr.of (S := [82, 85]) hb1377 (by decide)).tr (xFr.of (S := [82, 85]) hb1380 (by decide)))
                  have hA1382 := FA_fr hF1381 (by decide)
                  have hf1383 : fld w1378 82 4 = f82_1335 := fld_of hk1379
                  have hf1384 : fld w1378 82 5 = f82_1337 := fld_of hk1379
                  have hf1385 : fld w1378 82 7 = f82_1341 := fld_of hk1379
                  have hf1386 : fld w1378 82 10 = f82_1347 := fld_of hk1379
                  have hf1387 : fld w1378 82 14 = f82_1349 + 1 := fld_of hk1379
                  have hu1388 : mu w1378 = 2 * (fld w1378 82 4 - fld w1378 82 5) + min 1 (fld w1378 82 7) := rfl
                  have pq1389 := pk1323
                  unfold PK PS at pq1389
                  have hM1390 : ∀ s, s < 7 → s ≠ 1 → rwv w1378 85 s = rwv w 85 s := fun s hs hn => (rwv_of (hr1376.but hb1380 (by decide)) hs).trans ((if_neg hn).trans (rwv_of h85_37 hs).symm)
                  have hM1391 : rwv w1378 85 1 = u782 + 1 := (rwv_of (hr1376.but hb1380 (by decide)) (by decide)).trans ((if_pos rfl).trans (by omega))
                  have hM1392 : ∀ s, s < 7 → rwv w1378 85 s ≤ rwv w 85 s + 1 := fun s hs => by
                    by_cases z : s = 1
                    · subst z; omega
                    · rw [hM1390 s hs z]; omega
                  have hO1393 : ∀ j, (j < 50 + 2 * u782 ∨ 52 + 2 * u782 ≤ j) → j < 140 → rwv w1378 86 j = rwv w 86 j := fun j hj hl => (rwv_fr hF1381 (by decide)).trans (os1324 j hj hl)
                  have hl1395 : u782 < 4 → rwv w1378 86 (50 + (2 * u782)) = n840 := fun h => (rwv_fr hF1381 (by decide)).trans (ix1325 h)
                  have hl1396 : u782 < 4 → rwv w1378 86 ((50 + (2 * u782)) + 1) = n1252 := fun h => (rwv_fr hF1381 (by decide)).trans (ix1326 h)
                  have hl1397 : FA w1311 ≠ 0 ∨ (0 ≤ n840 ∧ n840 ≤ 99) := rg1327
                  have hl1398 : FA w1311 ≠ 0 ∨ False := rg1328
                  have hl1399 : FA w1311 ≠ 0 ∨ (1 ≤ n1252 ∧ n1252 ≤ 999) := rg1329
                  have hN1394 : FA w1378 ≠ 0 ∨ 4 ≤ u782 ∨ (1 ≤ rwv w1378 86 (50 + 2 * u782 + 1) ∧ rwv w1378 86 (50 + 2 * u782 + 1) ≤ 999) := by omega
                  have hX1400 : FA w1378 ≠ 0 ∨ u782 < 4 := by omega
                  have hD1401 : FA w1378 ≠ 0 ∨ (DATA w → DATA w1378) := by
                    by_cases z : FA w1378 ≠ 0
                    · exact Or.inl z
                    · exact Or.inr (fun hd => hd.s1 hM1390 hK785 hM1391 (hX1400.resolve_left z) hO1393 ((hN1394.resolve_left z).resolve_left (by have := hX1400.resolve_left z; omega)))
                  exact xg_e ⟨w1378, ⟨rfl, rfl⟩, xMnv.up (S := [85, 82]) hI1313 ((xFr.of (S := [85, 82]) hb1377 (by decide)).tr (xFr.of (S := [85, 82]) hb1380 (by decide))) (List.forall_mem_cons.mpr ⟨(show cpI 7 52 4294967295 (wget w1378 85) from ⟨_, (hr1376.but hb1380 (by decide)), xrb (by omega) (hb38)⟩), List.forall_mem_cons.mpr ⟨(show cp82 (wget w1378 82) from ⟨f82_1331, f82_1333, f82_1335, f82_1337, f82_1339, f82_1341, f82_1343, f82_1345, f82_1347, f82_1349 + 1, f82_1351, f82_1352, f82_1353, f82_1355, f82_1357, f82_1359, hk1379, by omega, by omega, by omega, by omega, by omega, by omega, by omega, by omega, by omega, by omega, by omega, by omega, by omega, by omega, by omega⟩), fun _ h => absurd h List.not_mem_nil⟩⟩), (((((((((hF792.up (by decide)).tr (hF839.up (by decide))).tr (hF883.up (by decide))).tr (hF1229.up (by decide))).tr (hF1239.up (by decide))).tr (hF1251.up (by decide))).tr (hF1298.up (by decide))).tr (hF1314.up (by decide))).tr ((xFr.of (S := [82, 83, 85, 86, 87]) hb1377 (by decide)).tr (xFr.of (S := [82, 83, 85, 86, 87]) hb1380 (by decide)))), ⟨fun h => by have := pq1389.1 h; omega, (show fld w1378 82 10 = 0 ∨ FA w1378 ≠ 0 by omega), Or.inr ⟨by have := ms1330; omega, by omega, hM1392⟩, hD1401⟩⟩
                · refine xg_t (xg_icT (u := f82_1273) (v := 2) rfl xnm0 xnm0 (xj_neT hc1310)) ?_
                  refine xg_t (xg_blk (b := [(416, 1, 0, 0, 0, 0), (417, 3, 13, 140, 96, 183)]) rfl) ?_
                  refine xg_t (xg_aload (va := (2, 82)) rfl rfl) ?_
                  refine xg_cVv mX12_ends (vs := []) (rest := []) (cn1 := 0) (sl1 := 0) rfl (mEnds (hI1297) pk1302.2.2.2) rfl (hF1298.get (by decide) h82_1293) rfl rfl rfl rfl rfl rfl (fun w1402 hq1403 => ?_)
                  obtain ⟨hI1404, hF1405, hx1406⟩ := hq1403
                  obtain ⟨hv1407, hv1408, hv1409, hv1410⟩ := hx1406
                  have pk1411 : PK w1295 w1402 := ⟨fun _ => hv1407, by omega, by omega, Or.inr hv1407⟩
                  have pk1412 : PK w w1402 := PK.tr pk1302 pk1411
                  have os1413 : ∀ j, (j < 50 + 2 * u782 ∨ 52 + 2 * u782 ≤ j) → j < 140 → rwv w1402 86 j = rwv w 86 j := fun j hj hl => (rwv_fr hF1405 (by decide)).trans (os1303 j hj hl)
                  have ix1414 : u782 < 4 → rwv w1402 86 (50 + (2 * u782)) = n840 := fun h => (rwv_fr hF1405 (by decide)).trans (ix1304 h)
                  have ix1415 : u782 < 4 → rwv w1402 86 ((50 + (2 * u782)) + 1) = n1252 := fun h => (rwv_fr hF1405 (by decide)).trans (hp1300 h)
                  have rg1416 : FA w1402 ≠ 0 ∨ (0 ≤ n840 ∧ n840 ≤ 99) := rg1305.imp_left pk1411.1
                  have rg1417 : FA w1402 ≠ 0 ∨ False := rg1306.imp_left pk1411.1
                  have rg1418 : FA w1402 ≠ 0 ∨ (1 ≤ n1252 ∧ n1252 ≤ 999) := rg1307.imp_left pk1411.1
                  have ms1419 : mu w1402 < mu w := Nat.lt_of_le_of_lt pk1411.2.1 ms1308
                  refine xg_t (xg_blk (b := [(420, 1, 0, 0, 0, 0), (421, 3, 1, 12, 11, 17), (424, 1, 2, 1, 0, 0), (425, 1, 39, 0, 0, 0), (426, 1, 10, 0, 0, 0), (427, 1, 3, 1, 0, 0), (428, 1, 11, 0, 0, 0), (429, 1, 17, 0, 0, 0), (430, 1, 0, 0, 0, 0), (431, 1, 19, 0, 0, 0), (432, 3, 1, 12, 14, 212), (435, 1, 3, 1, 0, 0), (436, 1, 11, 0, 0, 0), (437, 3, 14, 12, 14, 212), (440, 1, 12, 0, 0, 0)]) rfl) ?_
                  obtain ⟨f82_1420, f82_1422, f82_1424, f82_1426, f82_1428, f82_1430, f82_1432, f82_1434, f82_1436, f82_1438, f82_1440, f82_1441, f82_1442, f82_1444, f82_1446, f82_1448, h82_1450, hb1421, hb1423, hb1425, hb1427, hb1429, hb1431, hb1433, hb1435, hb1437, hb1439, hb1443, hb1445, hb1447, hb1449, hb1451⟩ := (hI1404 82 (by decide) (by decide) : cp82 (wget w1402 82))
                  have hf1452 : fld w1402 82 4 = f82_1424 := fld_of h82_1450
                  have hf1453 : fld w1402 82 5 = f82_1426 := fld_of h82_1450
                  have hf1454 : fld w1402 82 7 = f82_1430 := fld_of h82_1450
                  have hf1455 : fld w1402 82 10 = f82_1436 := fld_of h82_1450
                  have hf1456 : fld w1402 82 14 = f82_1438 := fld_of h82_1450
                  have hu1457 : mu w1402 = 2 * (fld w1402 82 4 - fld w1402 82 5) + min 1 (fld w1402 82 7) := rfl
                  have hf1458 := pk1412.2.2.1
                  have hl1459 : f82_1438 ≤ 1000 := by omega
                  refine xg_t (xg_aload (va := (2, 82)) rfl rfl) ?_
                  refine xg_t (xg_getf (va := (2, 85)) h82_1450 rfl) ?_
                  refine xg_t (xg_iload (va := (0, 1)) rfl rfl) ?_
                  refine xg_t (xg_dup2 rfl) ?_
                  refine xg_ialdB (n := 1) (B := 4294967295) ((((((((h85_37.fr hF792 (by decide)).fr hF839 (by decide)).fr hF883 (by decide)).fr hF1229 (by decide)).fr hF1239 (by decide)).fr hF1251 (by decide)).fr hF1298 (by decide)).fr hF1405 (by decide)) (hb38) xnm0 (by omega) (fun u1460 hu1461 he1462 => ?_)
                  have hl1463 : u1460 = u782 := by omega
                  refine xg_t (xg_const) ?_
                  refine xg_t (xg_iadd (u := u1460) (v := 1) (z := u1460 + 1) xnm0 xnm0 (by omega)) ?_
                  refine xg_iastK (n := 1) (u := u1460 + 1) ((((((((h85_37.fr hF792 (by decide)).fr hF839 (by decide)).fr hF883 (by decide)).fr hF1229 (by decide)).fr hF1239 (by decide)).fr hF1251 (by decide)).fr hF1298 (by decide)).fr hF1405 (by decide)) xnm0 xnm0 rfl (by omega) (fun w1464 hr1465 hb1466 => ?_)
                  refine xg_t (xg_aload (va := (2, 82)) rfl rfl) ?_
                  refine xg_t (xg_dup rfl) ?_
                  refine xg_t (xg_getf (va := (0, f82_1438)) (hb1466.get (by decide) h82_1450) rfl) ?_
                  refine xg_t (xg_const) ?_
                  refine xg_t (xg_iadd (u := f82_1438) (v := 1) (z := f82_1438 + 1) xnm0 xnm0 (by omega)) ?_
                  refine xg_putI (fl1 := [(2, 83), (2, 84), (0, f82_1420), (0, f82_1422), (0, f82_1424), (0, f82_1426), (0, f82_1428), (0, f82_1430), (0, f82_1432), (0, f82_1434), (0, f82_1436), (2, 85), (2, 86), (2, 87), (0, f82_1438 + 1), (2, 88), (2, 89), (2, 90), (2, 91), (2, 92), (2, 93), (2, 94), (4, f82_1440), (4, f82_1441), (0, f82_1442), (2, 95), (2, 96), (2, 97), (2, 98), (2, 99), (2, 100), (2, 101), (2, 102), (0, f82_1444), (2, 103), (2, 104), (2, 105), (2, 106), (2, 107), (2, 108), (2, 109), (0, f82_1446), (0, f82_1448), (2, 110), (2, 111), (2, 112), (2, 113)]) (hb1466.get (by decide) h82_1450) rfl rfl rfl (fun w1467 hk1468 hb1469 => ?_)
                  have hF1470 : xFr [82, 85] w1402 w1467 := ((xFr.of (S := [82, 85]) hb1466 (by decide)).tr (xFr.of (S := [82, 85]) hb1469 (by decide)))
                  have hA1471 := FA_fr hF1470 (by decide)
                  have hf1472 : fld w1467 82 4 = f82_1424 := fld_of hk1468
                  have hf1473 : fld w1467 82 5 = f82_1426 := fld_of hk1468
                  have hf1474 : fld w1467 82 7 = f82_1430 := fld_of hk1468
                  have hf1475 : fld w1467 82 10 = f82_1436 := fld_of hk1468
                  have hf1476 : fld w1467 82 14 = f82_1438 + 1 := fld_of hk1468
                  have hu1477 : mu w1467 = 2 * (fld w1467 82 4 - fld w1467 82 5) + min 1 (fld w1467 82 7) := rfl
                  have pq1478 := pk1412
                  unfold PK PS at pq1478
                  have hM1479 : ∀ s, s < 7 → s ≠ 1 → rwv w1467 85 s = rwv w 85 s := fun s hs hn => (rwv_of (hr1465.but hb1469 (by decide)) hs).trans ((if_neg hn).trans (rwv_of h85_37 hs).symm)
                  have hM1480 : rwv w1467 85 1 = u782 + 1 := (rwv_of (hr1465.but hb1469 (by decide)) (by decide)).trans ((if_pos rfl).trans (by omega))
                  have hM1481 : ∀ s, s < 7 → rwv w1467 85 s ≤ rwv w 85 s + 1 := fun s hs => by
                    by_cases z : s = 1
                    · subst z; omega
                    · rw [hM1479 s hs z]; omega
                  have hO1482 : ∀ j, (j < 50 + 2 * u782 ∨ 52 + 2 * u782 ≤ j) → j < 140 → rwv w1467 86 j = rwv w 86 j := fun j hj hl => (rwv_fr hF1470 (by decide)).trans (os1413 j hj hl)
                  have hl1484 : u782 < 4 → rwv w1467 86 (50 + (2 * u782)) = n840 := fun h => (rwv_fr hF1470 (by decide)).trans (ix1414 h)
                  have hl1485 : u782 < 4 → rwv w1467 86 ((50 + (2 * u782)) + 1) = n1252 := fun h => (rwv_fr hF1470 (by decide)).trans (ix1415 h)
                  have hl1486 : FA w1402 ≠ 0 ∨ (0 ≤ n840 ∧ n840 ≤ 99) := rg1416
                  have hl1487 : FA w1402 ≠ 0 ∨ False := rg1417
                  have hl1488 : FA w1402 ≠ 0 ∨ (1 ≤ n1252 ∧ n1252 ≤ 999) := rg1418
                  have hN1483 : FA w1467 ≠ 0 ∨ 4 ≤ u782 ∨ (1 ≤ rwv w1467 86 (50 + 2 * u782 + 1) ∧ rwv w1467 86 (50 + 2 * u782 + 1) ≤ 999) := by omega
                  have hX1489 : FA w1467 ≠ 0 ∨ u782 < 4 := by omega
                  have hD1490 : FA w1467 ≠ 0 ∨ (DATA w → DATA w1467) := by
                    by_cases z : FA w1467 ≠ 0
                    · exact Or.inl z
                    · exact Or.inr (fun hd => hd.s1 hM1479 hK785 hM1480 (hX1489.resolve_left z) hO1482 ((hN1483.resolve_left z).resolve_left (by have := hX1489.resolve_left z; omega)))
                  exact xg_e ⟨w1467, ⟨rfl, rfl⟩, xMnv.up (S := [85, 82]) hI1404 ((xFr.of (S := [85, 82]) hb1466 (by decide)).tr (xFr.of (S := [85, 82]) hb1469 (by decide))) (List.forall_mem_cons.mpr ⟨(show cpI 7 52 4294967295 (wget w1467 85) from ⟨_, (hr1465.but hb1469 (by decide)), xrb (by omega) (hb38)⟩), List.forall_mem_cons.mpr ⟨(show cp82 (wget w1467 82) from ⟨f82_1420, f82_1422, f82_1424, f82_1426, f82_1428, f82_1430, f82_1432, f82_1434, f82_1436, f82_1438 + 1, f82_1440, f82_1441, f82_1442, f82_1444, f82_1446, f82_1448, hk1468, by omega, by omega, by omega, by omega, by omega, by omega, by omega, by omega, by omega, by omega, by omega, by omega, by omega, by omega, by omega⟩), fun _ h => absurd h List.not_mem_nil⟩⟩), (((((((((hF792.up (by decide)).tr (hF839.up (by decide))).tr (hF883.up (by decide))).tr (hF1229.up (by decide))).tr (hF1239.up (by decide))).tr (hF1251.up (by decide))).tr (hF1298.up (by decide))).tr (hF1405.up (by decide))).tr ((xFr.of (S := [82, 83, 85, 86, 87]) hb1466 (by decide)).tr (xFr.of (S := [82, 83, 85, 86, 87]) hb1469 (by decide)))), ⟨fun h => by have := pq1478.1 h; omega, (show fld w1467 82 10 = 0 ∨ FA w1467 ≠ 0 by omega), Or.inr ⟨by have := ms1419; omega, by omega, hM1481⟩, hD1490⟩⟩
              · refine xg_t (xg_ifT (u := f82_1279) rfl xnm0 (xj_neT hc1309)) ?_
                refine xg_t (xg_blk (b := [(416, 1, 0, 0, 0, 0), (417, 3, 13, 140, 96, 183)]) rfl) ?_
                refine xg_t (xg_aload (va := (2, 82)) rfl rfl) ?_
                refine xg_cVv mX12_ends (vs := []) (rest := []) (cn1 := 0) (sl1 := 0) rfl (mEnds (hI1297) pk1302.2.2.2) rfl (hF1298.get (by decide) h82_1293) rfl rfl rfl rfl rfl rfl (fun w1491 hq1492 => ?_)
                obtain ⟨hI1493, hF1494, hx1495⟩ := hq1492
                obtain ⟨hv1496, hv1497, hv1498, hv1499⟩ := hx1495
                have pk1500 : PK w1295 w1491 := ⟨fun _ => hv1496, by omega, by omega, Or.inr hv1496⟩
                have pk1501 : PK w w1491 := PK.tr pk1302 pk1500
                have os1502 : ∀ j, (j < 50 + 2 * u782 ∨ 52 + 2 * u782 ≤ j) → j < 140 → rwv w1491 86 j = rwv w 86 j := fun j hj hl => (rwv_fr hF1494 (by decide)).trans (os1303 j hj hl)
                have ix1503 : u782 < 4 → rwv w1491 86 (50 + (2 * u782)) = n840 := fun h => (rwv_fr hF1494 (by decide)).trans (ix1304 h)
                have ix1504 : u782 < 4 → rwv w1491 86 ((50 + (2 * u782)) + 1) = n1252 := fun h => (rwv_fr hF1494 (by decide)).trans (hp1300 h)
                have rg1505 : FA w1491 ≠ 0 ∨ (0 ≤ n840 ∧ n840 ≤ 99) := rg1305.imp_left pk1500.1
                have rg1506 : FA w1491 ≠ 0 ∨ False := rg1306.imp_left pk1500.1
                have rg1507 : FA w1491 ≠ 0 ∨ (1 ≤ n1252 ∧ n1252 ≤ 999) := rg1307.imp_left pk1500.1
                have ms1508 : mu w1491 < mu w := Nat.lt_of_le_of_lt pk1500.2.1 ms1308
                refine xg_t (xg_blk (b := [(420, 1, 0, 0, 0, 0), (421, 3, 1, 12, 11, 17), (424, 1, 2, 1, 0, 0), (425, 1, 39, 0, 0, 0), (426, 1, 10, 0, 0, 0), (427, 1, 3, 1, 0, 0), (428, 1, 11, 0, 0, 0), (429, 1, 17, 0, 0, 0), (430, 1, 0, 0, 0, 0), (431, 1, 19, 0, 0, 0), (432, 3, 1, 12, 14, 212), (435, 1, 3, 1, 0, 0), (436, 1, 11, 0, 0, 0), (437, 3, 14, 12, 14, 212), (440, 1, 12, 0, 0, 0)]) rfl) ?_
                obtain ⟨f82_1509, f82_1511, f82_1513, f82_1515, f82_1517, f82_1519, f82_1521, f82_1523, f82_1525, f82_1527, f82_1529, f82_1530, f82_1531, f82_1533, f82_1535, f82_1537, h82_1539, hb1510, hb1512, hb1514, hb1516, hb1518, hb1520, hb1522, hb1524, hb1526, hb1528, hb1532, hb1534, hb1536, hb1538, hb1540⟩ := (hI1493 82 (by decide) (by decide) : cp82 (wget w1491 82))
                have hf1541 : fld w1491 82 4 = f82_1513 := fld_of h82_1539
                have hf1542 : fld w1491 82 5 = f82_1515 := fld_of h82_1539
                have hf1543 : fld w1491 82 7 = f82_1519 := fld_of h82_1539
                have hf1544 : fld w1491 82 10 = f82_1525 := fld_of h82_1539
                have hf1545 : fld w1491 82 14 = f82_1527 := fld_of h82_1539
                have hu1546 : mu w1491 = 2 * (fld w1491 82 4 - fld w1491 82 5) + min 1 (fld w1491 82 7) := rfl
                have hf1547 := pk1501.2.2.1
                have hl1548 : f82_1527 ≤ 1000 := by omega
                refine xg_t (xg_aload (va := (2, 82)) rfl rfl) ?_
                refine xg_t (xg_getf (va := (2, 85)) h82_1539 rfl) ?_
                refine xg_t (xg_iload (va := (0, 1)) rfl rfl) ?_
                refine xg_t (xg_dup2 rfl) ?_
                refine xg_ialdB (n := 1) (B := 4294967295) ((((((((h85_37.fr hF792 (by decide)).fr hF839 (by decide)).fr hF883 (by decide)).fr hF1229 (by decide)).fr hF1239 (by decide)).fr hF1251 (by decide)).fr hF1298 (by decide)).fr hF1494 (by decide)) (hb38) xnm0 (by omega) (fun u1549 hu1550 he1551 => ?_)
                have hl1552 : u1549 = u782 := by omega
                refine xg_t (xg_const) ?_
                refine xg_t (xg_iadd (u := u1549) (v := 1) (z := u1549 + 1) xnm0 xnm0 (by omega)) ?_
                refine xg_iastK (n := 1) (u := u1549 + 1) ((((((((h85_37.fr hF792 (by decide)).fr hF839 (by decide)).fr hF883 (by decide)).fr hF1229 (by decide)).fr hF1239 (by decide)).fr hF1251 (by decide)).fr hF1298 (by decide)).fr hF1494 (by decide)) xnm0 xnm0 rfl (by omega) (fun w1553 hr1554 hb1555 => ?_)
                refine xg_t (xg_aload (va := (2, 82)) rfl rfl) ?_
                refine xg_t (xg_dup rfl) ?_
                refine xg_t (xg_getf (va := (0, f82_1527)) (hb1555.get (by decide) h82_1539) rfl) ?_
                refine xg_t (xg_const) ?_
                refine xg_t (xg_iadd (u := f82_1527) (v := 1) (z := f82_1527 + 1) xnm0 xnm0 (by omega)) ?_
                refine xg_putI (fl1 := [(2, 83), (2, 84), (0, f82_1509), (0, f82_1511), (0, f82_1513), (0, f82_1515), (0, f82_1517), (0, f82_1519), (0, f82_1521), (0, f82_1523), (0, f82_1525), (2, 85), (2, 86), (2, 87), (0, f82_1527 + 1), (2, 88), (2, 89), (2, 90), (2, 91), (2, 92), (2, 93), (2, 94), (4, f82_1529), (4, f82_1530), (0, f82_1531), (2, 95), (2, 96), (2, 97), (2, 98), (2, 99), (2, 100), (2, 101), (2, 102), (0, f82_1533), (2, 103), (2, 104), (2, 105), (2, 106), (2, 107), (2, 108), (2, 109), (0, f82_1535), (0, f82_1537), (2, 110), (2, 111), (2, 112), (2, 113)]) (hb1555.get (by decide) h82_1539) rfl rfl rfl (fun w1556 hk1557 hb1558 => ?_)
                have hF1559 : xFr [82, 85] w1491 w1556 := ((xFr.of (S := [82, 85]) hb1555 (by decide)).tr (xFr.of (S := [82, 85]) hb1558 (by decide)))
                have hA1560 := FA_fr hF1559 (by decide)
                have hf1561 : fld w1556 82 4 = f82_1513 := fld_of hk1557
                have hf1562 : fld w1556 82 5 = f82_1515 := fld_of hk1557
                have hf1563 : fld w1556 82 7 = f82_1519 := fld_of hk1557
                have hf1564 : fld w1556 82 10 = f82_1525 := fld_of hk1557
                have hf1565 : fld w1556 82 14 = f82_1527 + 1 := fld_of hk1557
                have hu1566 : mu w1556 = 2 * (fld w1556 82 4 - fld w1556 82 5) + min 1 (fld w1556 82 7) := rfl
                have pq1567 := pk1501
                unfold PK PS at pq1567
                have hM1568 : ∀ s, s < 7 → s ≠ 1 → rwv w1556 85 s = rwv w 85 s := fun s hs hn => (rwv_of (hr1554.but hb1558 (by decide)) hs).trans ((if_neg hn).trans (rwv_of h85_37 hs).symm)
                have hM1569 : rwv w1556 85 1 = u782 + 1 := (rwv_of (hr1554.but hb1558 (by decide)) (by decide)).trans ((if_pos rfl).trans (by omega))
                have hM1570 : ∀ s, s < 7 → rwv w1556 85 s ≤ rwv w 85 s + 1 := fun s hs => by
                  by_cases z : s = 1
                  · subst z; omega
                  · rw [hM1568 s hs z]; omega
                have hO1571 : ∀ j, (j < 50 + 2 * u782 ∨ 52 + 2 * u782 ≤ j) → j < 140 → rwv w1556 86 j = rwv w 86 j := fun j hj hl => (rwv_fr hF1559 (by decide)).trans (os1502 j hj hl)
                have hl1573 : u782 < 4 → rwv w1556 86 (50 + (2 * u782)) = n840 := fun h => (rwv_fr hF1559 (by decide)).trans (ix1503 h)
                have hl1574 : u782 < 4 → rwv w1556 86 ((50 + (2 * u782)) + 1) = n1252 := fun h => (rwv_fr hF1559 (by decide)).trans (ix1504 h)
                have hl1575 : FA w1491 ≠ 0 ∨ (0 ≤ n840 ∧ n840 ≤ 99) := rg1505
                have hl1576 : FA w1491 ≠ 0 ∨ False := rg1506
                have hl1577 : FA w1491 ≠ 0 ∨ (1 ≤ n1252 ∧ n1252 ≤ 999) := rg1507
                have hN1572 : FA w1556 ≠ 0 ∨ 4 ≤ u782 ∨ (1 ≤ rwv w1556 86 (50 + 2 * u782 + 1) ∧ rwv w1556 86 (50 + 2 * u782 + 1) ≤ 999) := by omega
                have hX1578 : FA w1556 ≠ 0 ∨ u782 < 4 := by omega
                have hD1579 : FA w1556 ≠ 0 ∨ (DATA w → DATA w1556) := by
                  by_cases z : FA w1556 ≠ 0
                  · exact Or.inl z
                  · exact Or.inr (fun hd => hd.s1 hM1568 hK785 hM1569 (hX1578.resolve_left z) hO1571 ((hN1572.resolve_left z).resolve_left (by have := hX1578.resolve_left z; omega)))
                exact xg_e ⟨w1556, ⟨rfl, rfl⟩, xMnv.up (S := [85, 82]) hI1493 ((xFr.of (S := [85, 82]) hb1555 (by decide)).tr (xFr.of (S := [85, 82]) hb1558 (by decide))) (List.forall_mem_cons.mpr ⟨(show cpI 7 52 4294967295 (wget w1556 85) from ⟨_, (hr1554.but hb1558 (by decide)), xrb (by omega) (hb38)⟩), List.forall_mem_cons.mpr ⟨(show cp82 (wget w1556 82) from ⟨f82_1509, f82_1511, f82_1513, f82_1515, f82_1517, f82_1519, f82_1521, f82_1523, f82_1525, f82_1527 + 1, f82_1529, f82_1530, f82_1531, f82_1533, f82_1535, f82_1537, hk1557, by omega, by omega, by omega, by omega, by omega, by omega, by omega, by omega, by omega, by omega, by omega, by omega, by omega, by omega, by omega⟩), fun _ h => absurd h List.not_mem_nil⟩⟩), (((((((((hF792.up (by decide)).tr (hF839.up (by decide))).tr (hF883.up (by decide))).tr (hF1229.up (by decide))).tr (hF1239.up (by decide))).tr (hF1251.up (by decide))).tr (hF1298.up (by decide))).tr (hF1494.up (by decide))).tr ((xFr.of (S := [82, 83, 85, 86, 87]) hb1555 (by decide)).tr (xFr.of (S := [82, 83, 85, 86, 87]) hb1558 (by decide)))), ⟨fun h => by have := pq1567.1 h; omega, (show fld w1556 82 10 = 0 ∨ FA w1556 ≠ 0 by omega), Or.inr ⟨by have := ms1508; omega, by omega, hM1570⟩, hD1579⟩⟩
          · refine xg_t (xg_icF (u := u782) (v := 4) rfl xnm0 xnm0 (xj_ltF (by omega) (by omega))) ?_
            refine xg_t (xg_aload (va := (2, 82)) rfl rfl) ?_
            refine xg_t (xg_const) ?_
            refine xg_t (xg_iload (va := (0, f82_9)) rfl rfl) ?_
            refine xg_cVv mX12_also (vs := [(0, 3), (0, f82_9)]) (rest := []) (cn1 := 0) (sl1 := 0) rfl (mAlso (hI) (by omega) (by omega) (by omega) (PK.rf hps).2.2.2) rfl h82_31 rfl rfl rfl rfl rfl rfl (fun w1580 hq1581 => ?_)
            obtain ⟨hI1582, hF1583, hx1584⟩ := hq1581
            have pk1585 : PK w w1580 := ⟨fun _ => hx1584, Nat.le_of_eq (mu_fr hF1583 (by decide)), fld_fr hF1583 (by decide), Or.inr hx1584⟩
            have pk1586 : PK w w1580 := PK.tr (PK.rf hps) pk1585
            have os1587 : ∀ j, (j < 50 + 2 * u782 ∨ 52 + 2 * u782 ≤ j) → j < 140 → rwv w1580 86 j = rwv w 86 j := fun j hj hl => (rwv_fr hF1583 (by decide)).trans ((fun j _ _ => rfl) j hj hl)
            have hf1588 := fld_fr (c := 82) (j := 7) hF1583 (by decide)
            refine xg_t (xg_blk (b := [(64, 1, 0, 0, 0, 0), (65, 3, 13, 110, 96, 190), (68, 1, 2, 1, 0, 0), (69, 39, 33, 362, 0, 9)]) rfl) ?_
            refine xg_t (xg_aload (va := (2, 82)) rfl rfl) ?_
            refine xg_cVv mX12_advance (vs := []) (rest := []) (cn1 := 0) (sl1 := 0) rfl (mAdvance (hI1582)) rfl (hF1583.get (by decide) h82_31) rfl rfl rfl rfl rfl rfl (fun w1589 hq1590 => ?_)
            obtain ⟨hI1591, hF1592, hx1593⟩ := hq1590
            obtain ⟨hv1594, hv1595, hv1596, hv1597⟩ := hx1593
            have hf1599 := FA_fr hF1592 (by decide)
            have hs1600 := pk1586.2.2.2
            unfold PS at hs1600
            have pk1598 : PK w1580 w1589 := ⟨fun _ => by omega, hv1594, hv1597, (show fld w1589 82 10 = 0 ∨ FA w1589 ≠ 0 by omega)⟩
            have pk1601 : PK w w1589 := PK.tr pk1586 pk1598
            have os1602 : ∀ j, (j < 50 + 2 * u782 ∨ 52 + 2 * u782 ≤ j) → j < 140 → rwv w1589 86 j = rwv w 86 j := fun j hj hl => (rwv_fr hF1592 (by decide)).trans (os1587 j hj hl)
            have rg1603 : FA w1589 ≠ 0 ∨ False := (Or.inl hx1584 : FA w1580 ≠ 0 ∨ False).imp_left pk1598.1
            have ms1604 : mu w1589 < mu w := Nat.lt_of_lt_of_le (hv1595 (by omega)) pk1586.2.1
            refine xg_t (xg_iload (va := (0, 1)) rfl rfl) ?_
            refine xg_t (xg_swt (ks := [(0, 108), (1, 116), (2, 180), (3, 221), (4, 273), (5, 326)]) (u := 1) (z := 116) rfl rfl rfl xnm0 (xsw_n (by omega) (xsw_y rfl))) ?_
            refine xg_t (xg_blk (b := [(116, 1, 0, 0, 0, 0), (117, 1, 3, 0, 0, 0), (118, 2, 4, 99, 0, 0), (120, 3, 13, 199, 96, 196), (123, 2, 15, 4, 0, 0), (125, 1, 0, 0, 0, 0), (126, 2, 2, 4, 0, 0), (128, 1, 2, 3, 0, 0), (129, 3, 13, 167, 96, 208), (132, 3, 7, 141, 0, 0), (135, 1, 0, 0, 0, 0), (136, 1, 3, 3, 0, 0), (137, 1, 2, 2, 0, 0), (138, 3, 13, 115, 96, 186)]) rfl) ?_
            refine xg_t (xg_aload (va := (2, 82)) rfl rfl) ?_
            refine xg_t (xg_const) ?_
            refine xg_t (xg_bip) ?_
            obtain ⟨f82_1605, f82_1607, f82_1609, f82_1611, f82_1613, f82_1615, f82_1617, f82_1619, f82_1621, f82_1623, f82_1625, f82_1626, f82_1627, f82_1629, f82_1631, f82_1633, h82_1635, hb1606, hb1608, hb1610, hb1612, hb1614, hb1616, hb1618, hb1620, hb1622, hb1624, hb1628, hb1630, hb1632, hb1634, hb1636⟩ := (hI1591 82 (by decide) (by decide) : cp82 (wget w1589 82))
            refine xg_cVi mX12_numbered (vs := [(0, 0), (0, 99)]) (rest := []) (cn1 := 0) (sl1 := 0) rfl (mNumbered (hI1591) (by omega) (by omega) pk1601.2.2.2) rfl h82_1635 rfl rfl rfl rfl rfl rfl (fun n1641 w1637 hq1638 => ?_)
            obtain ⟨hn1642, hI1639, hF1640⟩ := hq1638
            obtain ⟨hn1643, hn1644, hn1645⟩ := hn1642
            have pk1646 : PK w w1637 := PK.tr pk1601 hn1644
            have os1647 : ∀ j, (j < 50 + 2 * u782 ∨ 52 + 2 * u782 ≤ j) → j < 140 → rwv w1637 86 j = rwv w 86 j := fun j hj hl => (rwv_fr hF1640 (by decide)).trans (os1602 j hj hl)
            have rg1648 : FA w1637 ≠ 0 ∨ False := rg1603.imp_left hn1644.1
            have ms1649 : mu w1637 < mu w := Nat.lt_of_le_of_lt hn1644.2.1 ms1604
            refine xg_t (xg_istore (l1 := [(3, (0, u782)), (2, (0, f82_9)), (1, (0, 1)), (0, (2, 82))]) rfl rfl rfl) ?_
            refine xg_t (xg_aload (va := (2, 82)) rfl rfl) ?_
            refine xg_t (xg_iload (va := (0, n1641)) rfl rfl) ?_
            refine xg_t (xg_iload (va := (0, u782)) rfl rfl) ?_
            obtain ⟨f82_1650, f82_1652, f82_1654, f82_1656, f82_1658, f82_1660, f82_1662, f82_1664, f82_1666, f82_1668, f82_1670, f82_1671, f82_1672, f82_1674, f82_1676, f82_1678, h82_1680, hb1651, hb1653, hb1655, hb1657, hb1659, hb1661, hb1663, hb1665, hb1667, hb1669, hb1673, hb1675, hb1677, hb1679, hb1681⟩ := (hI1639 82 (by decide) (by decide) : cp82 (wget w1637 82))
            refine xg_cVi mX12_isLifeTold (vs := [(0, n1641), (0, u782)]) (rest := []) (cn1 := 0) (sl1 := 0) rfl (mLifeTold (hI1639) (by omega) (by omega)) rfl h82_1680 rfl rfl rfl rfl rfl rfl (fun n1686 w1682 hq1683 => ?_)
            obtain ⟨hn1687, hI1684, hF1685⟩ := hq1683
            have pk1688 : PK w w1682 := PK.tr pk1646 (PK.fr hF1685 (by decide) (by decide) pk1646.2.2.2)
            have os1689 : ∀ j, (j < 50 + 2 * u782 ∨ 52 + 2 * u782 ≤ j) → j < 140 → rwv w1682 86 j = rwv w 86 j := fun j hj hl => (rwv_fr hF1685 (by decide)).trans (os1647 j hj hl)
            have rg1690 : FA w1682 ≠ 0 ∨ False := rg1648.imp_left (PK.fr hF1685 (by decide) (by decide) pk1646.2.2.2).1
            have rg1691 : FA w1682 ≠ 0 ∨ (0 ≤ n1641 ∧ n1641 ≤ 99) := hn1645.imp_left (PK.fr hF1685 (by decide) (by decide) pk1646.2.2.2).1
            have ms1692 : mu w1682 < mu w := Nat.lt_of_le_of_lt (PK.fr hF1685 (by decide) (by decide) pk1646.2.2.2).2.1 ms1649
            by_cases hc1693 : n1686 = 0
            · refine xg_t (xg_ifT (u := n1686) rfl xnm0 (xj_eqT hc1693)) ?_
              refine xg_t (xg_blk (b := [(141, 1, 0, 0, 0, 0), (142, 1, 2, 1, 0, 0), (143, 1, 2, 3, 0, 0), (144, 2, 4, 50, 0, 0), (146, 1, 3, 2, 0, 0), (147, 1, 2, 3, 0, 0), (148, 1, 16, 0, 0, 0), (149, 1, 11, 0, 0, 0), (150, 2, 2, 4, 0, 0), (152, 3, 13, 211, 96, 200), (155, 1, 0, 0, 0, 0), (156, 1, 2, 1, 0, 0), (157, 1, 2, 3, 0, 0), (158, 2, 4, 50, 0, 0), (160, 1, 3, 2, 0, 0), (161, 1, 2, 3, 0, 0), (162, 1, 16, 0, 0, 0), (163, 1, 11, 0, 0, 0), (164, 1, 3, 1, 0, 0), (165, 1, 11, 0, 0, 0), (166, 1, 0, 0, 0, 0), (167, 1, 3, 1, 0, 0), (168, 3, 5, 999, 0, 0), (171, 3, 13, 199, 96, 196), (174, 3, 13, 211, 96, 200), (177, 3, 8, 394, 0, 0)]) rfl) ?_
              refine xg_t (xg_aload (va := (2, 82)) rfl rfl) ?_
              refine xg_t (xg_iload (va := (0, 1)) rfl rfl) ?_
              refine xg_t (xg_iload (va := (0, u782)) rfl rfl) ?_
              refine xg_t (xg_bip) ?_
              refine xg_t (xg_const) ?_
              refine xg_t (xg_iload (va := (0, u782)) rfl rfl) ?_
              refine xg_t (xg_imul (u := 2) (v := u782) (z := 2 * u782) xnm0 xnm0 (by omega)) ?_
              refine xg_t (xg_iadd (u := 50) (v := 2 * u782) (z := 50 + (2 * u782)) xnm0 xnm0 (by omega)) ?_
              refine xg_t (xg_iload (va := (0, n1641)) rfl rfl) ?_
              refine xg_cVv mX12_puts (vs := [(0, 1), (0, u782), (0, 50 + (2 * u782)), (0, n1641)]) (rest := []) (cn1 := 0) (sl1 := 0) rfl (mPuts1 (hI1684) (by omega) (by omega) (by omega) (fun _ => by omega)) rfl (hF1685.get (by decide) h82_1680) rfl rfl rfl rfl rfl rfl (fun w1694 hq1695 => ?_)
              obtain ⟨hI1696, hF1697, hx1698⟩ := hq1695
              obtain ⟨hp1699, hp1700⟩ := hx1698
              have pk1701 : PK w w1694 := PK.tr pk1688 (PK.fr hF1697 (by decide) (by decide) pk1688.2.2.2)
              have os1702 : ∀ j, (j < 50 + 2 * u782 ∨ 52 + 2 * u782 ≤ j) → j < 140 → rwv w1694 86 j = rwv w 86 j := fun j hj hl => (hp1700 j (by omega) hl).trans (os1689 j hj hl)
              have rg1703 : FA w1694 ≠ 0 ∨ False := rg1690.imp_left (PK.fr hF1697 (by decide) (by decide) pk1688.2.2.2).1
              have rg1704 : FA w1694 ≠ 0 ∨ (0 ≤ n1641 ∧ n1641 ≤ 99) := rg1691.imp_left (PK.fr hF1697 (by decide) (by decide) pk1688.2.2.2).1
              have ms1705 : mu w1694 < mu w := Nat.lt_of_le_of_lt (PK.fr hF1697 (by decide) (by decide) pk1688.2.2.2).2.1 ms1692
              refine xg_t (xg_aload (va := (2, 82)) rfl rfl) ?_
              refine xg_t (xg_iload (va := (0, 1)) rfl rfl) ?_
              refine xg_t (xg_iload (va := (0, u782)) rfl rfl) ?_
              refine xg_t (xg_bip) ?_
              refine xg_t (xg_const) ?_
              refine xg_t (xg_iload (va := (0, u782)) rfl rfl) ?_
              refine xg_t (xg_imul (u := 2) (v := u782) (z := 2 * u782) xnm0 xnm0 (by omega)) ?_
              refine xg_t (xg_iadd (u := 50) (v := 2 * u782) (z := 50 + (2 * u782)) xnm0 xnm0 (by omega)) ?_
              refine xg_t (xg_const) ?_
              refine xg_t (xg_iadd (u := 50 + (2 * u782)) (v := 1) (z := (50 + (2 * u782)) + 1) xnm0 xnm0 (by omega)) ?_
              refine xg_t (xg_aload (va := (2, 82)) rfl rfl) ?_
              refine xg_t (xg_const) ?_
              refine xg_t (xg_sip) ?_
              refine xg_cVi mX12_numbered (vs := [(0, 1), (0, 999)]) (rest := [(0, (50 + (2 * u782)) + 1), (0, u782), (0, 1), (2, 82)]) (cn1 := 0) (sl1 := 0) rfl (mNumbered (hI1696) (by omega) (by omega) pk1701.2.2.2) rfl (hF1697.get (by decide) (hF1685.get (by decide) h82_1680)) rfl rfl rfl rfl rfl rfl (fun n1710 w1706 hq1707 => ?_)
              obtain ⟨hn1711, hI1708, hF1709⟩ := hq1707
              obtain ⟨hn1712, hn1713, hn1714⟩ := hn1711
              have pk1715 : PK w w1706 := PK.tr pk1701 hn1713
              have os1716 : ∀ j, (j < 50 + 2 * u782 ∨ 52 + 2 * u782 ≤ j) → j < 140 → rwv w1706 86 j = rwv w 86 j := fun j hj hl => (rwv_fr hF1709 (by decide)).trans (os1702 j hj hl)
              have ix1717 : u782 < 4 → rwv w1706 86 (50 + (2 * u782)) = n1641 := fun h => (rwv_fr hF1709 (by decide)).trans (hp1699 h)
              have rg1718 : FA w1706 ≠ 0 ∨ False := rg1703.imp_left hn1713.1
              have rg1719 : FA w1706 ≠ 0 ∨ (0 ≤ n1641 ∧ n1641 ≤ 99) := rg1704.imp_left hn1713.1
              have ms1720 : mu w1706 < mu w := Nat.lt_of_le_of_lt hn1713.2.1 ms1705
              obtain ⟨f82_1721, f82_1723, f82_1725, f82_1727, f82_1729, f82_1731, f82_1733, f82_1735, f82_1737, f82_1739, f82_1741, f82_1742, f82_1743, f82_1745, f82_1747, f82_1749, h82_1751, hb1722, hb1724, hb1726, hb1728, hb1730, hb1732, hb1734, hb1736, hb1738, hb1740, hb1744, hb1746, hb1748, hb1750, hb1752⟩ := (hI1708 82 (by decide) (by decide) : cp82 (wget w1706 82))
              refine xg_cVv mX12_puts (vs := [(0, 1), (0, u782), (0, (50 + (2 * u782)) + 1), (0, n1710)]) (rest := []) (cn1 := 0) (sl1 := 0) rfl (mPuts1 (hI1708) (by omega) (by omega) (by omega) (fun _ => by omega)) rfl h82_1751 rfl rfl rfl rfl rfl rfl (fun w1753 hq1754 => ?_)
              obtain ⟨hI1755, hF1756, hx1757⟩ := hq1754
              obtain ⟨hp1758, hp1759⟩ := hx1757
              have pk1760 : PK w w1753 := PK.tr pk1715 (PK.fr hF1756 (by decide) (by decide) pk1715.2.2.2)
              have os1761 : ∀ j, (j < 50 + 2 * u782 ∨ 52 + 2 * u782 ≤ j) → j < 140 → rwv w1753 86 j = rwv w 86 j := fun j hj hl => (hp1759 j (by omega) hl).trans (os1716 j hj hl)
              have ix1762 : u782 < 4 → rwv w1753 86 (50 + (2 * u782)) = n1641 := fun h => (hp1759 _ (by omega) (by omega)).trans (ix1717 h)
              have rg1763 : FA w1753 ≠ 0 ∨ False := rg1718.imp_left (PK.fr hF1756 (by decide) (by decide) pk1715.2.2.2).1
              have rg1764 : FA w1753 ≠ 0 ∨ (0 ≤ n1641 ∧ n1641 ≤ 99) := rg1719.imp_left (PK.fr hF1756 (by decide) (by decide) pk1715.2.2.2).1
              have rg1765 : FA w1753 ≠ 0 ∨ (1 ≤ n1710 ∧ n1710 ≤ 999) := hn1714.imp_left (PK.fr hF1756 (by decide) (by decide) pk1715.2.2.2).1
              have ms1766 : mu w1753 < mu w := Nat.lt_of_le_of_lt (PK.fr hF1756 (by decide) (by decide) pk1715.2.2.2).2.1 ms1720
              refine xg_t (xg_goto) ?_
              refine xg_t (xg_blk (b := [(394, 1, 0, 0, 0, 0), (395, 3, 1, 12, 10, 180), (398, 3, 7, 416, 1, 0), (401, 1, 0, 0, 0, 0), (402, 3, 1, 12, 7, 151), (405, 1, 3, 2, 0, 0), (406, 3, 6, 416, 1, 0), (409, 1, 0, 0, 0, 0), (410, 3, 13, 110, 96, 190), (413, 3, 8, 420, 0, 0)]) rfl) ?_
              refine xg_t (xg_aload (va := (2, 82)) rfl rfl) ?_
              refine xg_t (xg_getf (va := (0, f82_1737)) (hF1756.get (by decide) h82_1751) rfl) ?_
              by_cases hc1767 : f82_1737 = 0
              · refine xg_t (xg_ifF (u := f82_1737) rfl xnm0 (xj_neF hc1767)) ?_
                refine xg_t (xg_aload (va := (2, 82)) rfl rfl) ?_
                refine xg_t (xg_getf (va := (0, f82_1731)) (hF1756.get (by decide) h82_1751) rfl) ?_
                refine xg_t (xg_const) ?_
                by_cases hc1768 : f82_1731 = 2
                · refine xg_t (xg_icF (u := f82_1731) (v := 2) rfl xnm0 xnm0 (xj_neF hc1768)) ?_
                  refine xg_t (xg_aload (va := (2, 82)) rfl rfl) ?_
                  refine xg_cVv mX12_advance (vs := []) (rest := []) (cn1 := 0) (sl1 := 0) rfl (mAdvance (hI1755)) rfl (hF1756.get (by decide) h82_1751) rfl rfl rfl rfl rfl rfl (fun w1769 hq1770 => ?_)
                  obtain ⟨hI1771, hF1772, hx1773⟩ := hq1770
                  obtain ⟨hv1774, hv1775, hv1776, hv1777⟩ := hx1773
                  have hf1779 := FA_fr hF1772 (by decide)
                  have hs1780 := pk1760.2.2.2
                  unfold PS at hs1780
                  have pk1778 : PK w1753 w1769 := ⟨fun _ => by omega, hv1774, hv1777, (show fld w1769 82 10 = 0 ∨ FA w1769 ≠ 0 by omega)⟩
                  have pk1781 : PK w w1769 := PK.tr pk1760 pk1778
                  have os1782 : ∀ j, (j < 50 + 2 * u782 ∨ 52 + 2 * u782 ≤ j) → j < 140 → rwv w1769 86 j = rwv w 86 j := fun j hj hl => (rwv_fr hF1772 (by decide)).trans (os1761 j hj hl)
                  have ix1783 : u782 < 4 → rwv w1769 86 (50 + (2 * u782)) = n1641 := fun h => (rwv_fr hF1772 (by decide)).trans (ix1762 h)
                  have ix1784 : u782 < 4 → rwv w1769 86 ((50 + (2 * u782)) + 1) = n1710 := fun h => (rwv_fr hF1772 (by decide)).trans (hp1758 h)
                  have rg1785 : FA w1769 ≠ 0 ∨ False := rg1763.imp_left pk1778.1
                  have rg1786 : FA w1769 ≠ 0 ∨ (0 ≤ n1641 ∧ n1641 ≤ 99) := rg1764.imp_left pk1778.1
                  have rg1787 : FA w1769 ≠ 0 ∨ (1 ≤ n1710 ∧ n1710 ≤ 999) := rg1765.imp_left pk1778.1
                  have ms1788 : mu w1769 < mu w := Nat.lt_of_le_of_lt pk1778.2.1 ms1766
                  refine xg_t (xg_goto) ?_
                  refine xg_t (xg_blk (b := [(420, 1, 0, 0, 0, 0), (421, 3, 1, 12, 11, 17), (424, 1, 2, 1, 0, 0), (425, 1, 39, 0, 0, 0), (426, 1, 10, 0, 0, 0), (427, 1, 3, 1, 0, 0), (428, 1, 11, 0, 0, 0), (429, 1, 17, 0, 0, 0), (430, 1, 0, 0, 0, 0), (431, 1, 19, 0, 0, 0), (432, 3, 1, 12, 14, 212), (435, 1, 3, 1, 0, 0), (436, 1, 11, 0, 0, 0), (437, 3, 14, 12, 14, 212), (440, 1, 12, 0, 0, 0)]) rfl) ?_
                  obtain ⟨f82_1789, f82_1791, f82_1793, f82_1795, f82_1797, f82_1799, f82_1801, f82_1803, f82_1805, f82_1807, f82_1809, f82_1810, f82_1811, f82_1813, f82_1815, f82_1817, h82_1819, hb1790, hb1792, hb1794, hb1796, hb1798, hb1800, hb1802, hb1804, hb1806, hb1808, hb1812, hb1814, hb1816, hb1818, hb1820⟩ := (hI1771 82 (by decide) (by decide) : cp82 (wget w1769 82))
                  have hf1821 : fld w1769 82 4 = f82_1793 := fld_of h82_1819
                  have hf1822 : fld w1769 82 5 = f82_1795 := fld_of h82_1819
                  have hf1823 : fld w1769 82 7 = f82_1799 := fld_of h82_1819
                  have hf1824 : fld w1769 82 10 = f82_1805 := fld_of h82_1819
                  have hf1825 : fld w1769 82 14 = f82_1807 := fld_of h82_1819
                  have hu1826 : mu w1769 = 2 * (fld w1769 82 4 - fld w1769 82 5) + min 1 (fld w1769 82 7) := rfl
                  have hf1827 := pk1781.2.2.1
                  have hl1828 : f82_1807 ≤ 1000 := by omega
                  refine xg_t (xg_aload (va := (2, 82)) rfl rfl) ?_
                  refine xg_t (xg_getf (va := (2, 85)) h82_1819 rfl) ?_
                  refine xg_t (xg_iload (va := (0, 1)) rfl rfl) ?_
                  refine xg_t (xg_dup2 rfl) ?_
                  refine xg_ialdB (n := 1) (B := 4294967295) ((((((((h85_37.fr hF1583 (by decide)).fr hF1592 (by decide)).fr hF1640 (by decide)).fr hF1685 (by decide)).fr hF1697 (by decide)).fr hF1709 (by decide)).fr hF1756 (by decide)).fr hF1772 (by decide)) (hb38) xnm0 (by omega) (fun u1829 hu1830 he1831 => ?_)
                  have hl1832 : u1829 = u782 := by omega
                  refine xg_t (xg_const) ?_
                  refine xg_t (xg_iadd (u := u1829) (v := 1) (z := u1829 + 1) xnm0 xnm0 (by omega)) ?_
                  refine xg_iastK (n := 1) (u := u1829 + 1) ((((((((h85_37.fr hF1583 (by decide)).fr hF1592 (by decide)).fr hF1640 (by decide)).fr hF1685 (by decide)).fr hF1697 (by decide)).fr hF1709 (by decide)).fr hF1756 (by decide)).fr hF1772 (by decide)) xnm0 xnm0 rfl (by omega) (fun w1833 hr1834 hb1835 => ?_)
                  refine xg_t (xg_aload (va := (2, 82)) rfl rfl) ?_
                  refine xg_t (xg_dup rfl) ?_
                  refine xg_t (xg_getf (va := (0, f82_1807)) (hb1835.get (by decide) h82_1819) rfl) ?_
                  refine xg_t (xg_const) ?_
                  refine xg_t (xg_iadd (u := f82_1807) (v := 1) (z := f82_1807 + 1) xnm0 xnm0 (by omega)) ?_
                  refine xg_putI (fl1 := [(2, 83), (2, 84), (0, f82_1789), (0, f82_1791), (0, f82_1793), (0, f82_1795), (0, f82_1797), (0, f82_1799), (0, f82_1801), (0, f82_1803), (0, f82_1805), (2, 85), (2, 86), (2, 87), (0, f82_1807 + 1), (2, 88), (2, 89), (2, 90), (2, 91), (2, 92), (2, 93), (2, 94), (4, f82_1809), (4, f82_1810), (0, f82_1811), (2, 95), (2, 96), (2, 97), (2, 98), (2, 99), (2, 100), (2, 101), (2, 102), (0, f82_1813), (2, 103), (2, 104), (2, 105), (2, 106), (2, 107), (2, 108), (2, 109), (0, f82_1815), (0, f82_1817), (2, 110), (2, 111), (2, 112), (2, 113)]) (hb1835.get (by decide) h82_1819) rfl rfl rfl (fun w1836 hk1837 hb1838 => ?_)
                  have hF1839 : xFr [82, 85] w1769 w1836 := ((xFr.of (S := [82, 85]) hb1835 (by decide)).tr (xFr.of (S := [82, 85]) hb1838 (by decide)))
                  have hA1840 := FA_fr hF1839 (by decide)
                  have hf1841 : fld w1836 82 4 = f82_1793 := fld_of hk1837
                  have hf1842 : fld w1836 82 5 = f82_1795 := fld_of hk1837
                  have hf1843 : fld w1836 82 7 = f82_1799 := fld_of hk1837
                  have hf1844 : fld w1836 82 10 = f82_1805 := fld_of hk1837
                  have hf1845 : fld w1836 82 14 = f82_1807 + 1 := fld_of hk1837
                  have hu1846 : mu w1836 = 2 * (fld w1836 82 4 - fld w1836 82 5) + min 1 (fld w1836 82 7) := rfl
                  have pq1847 := pk1781
                  unfold PK PS at pq1847
                  have hM1848 : ∀ s, s < 7 → s ≠ 1 → rwv w1836 85 s = rwv w 85 s := fun s hs hn => (rwv_of (hr1834.but hb1838 (by decide)) hs).trans ((if_neg hn).trans (rwv_of h85_37 hs).symm)
                  have hM1849 : rwv w1836 85 1 = u782 + 1 := (rwv_of (hr1834.but hb1838 (by decide)) (by decide)).trans ((if_pos rfl).trans (by omega))
                  have hM1850 : ∀ s, s < 7 → rwv w1836 85 s ≤ rwv w 85 s + 1 := fun s hs => by
                    by_cases z : s = 1
                    · subst z; omega
                    · rw [hM1848 s hs z]; omega
                  have hO1851 : ∀ j, (j < 50 + 2 * u782 ∨ 52 + 2 * u782 ≤ j) → j < 140 → rwv w1836 86 j = rwv w 86 j := fun j hj hl => (rwv_fr hF1839 (by decide)).trans (os1782 j hj hl)
                  have hl1853 : u782 < 4 → rwv w1836 86 (50 + (2 * u782)) = n1641 := fun h => (rwv_fr hF1839 (by decide)).trans (ix1783 h)
                  have hl1854 : u782 < 4 → rwv w1836 86 ((50 + (2 * u782)) + 1) = n1710 := fun h => (rwv_fr hF1839 (by decide)).trans (ix1784 h)
                  have hl1855 : FA w1769 ≠ 0 ∨ False := rg1785
                  have hl1856 : FA w1769 ≠ 0 ∨ (0 ≤ n1641 ∧ n1641 ≤ 99) := rg1786
                  have hl1857 : FA w1769 ≠ 0 ∨ (1 ≤ n1710 ∧ n1710 ≤ 999) := rg1787
                  have hN1852 : FA w1836 ≠ 0 ∨ 4 ≤ u782 ∨ (1 ≤ rwv w1836 86 (50 + 2 * u782 + 1) ∧ rwv w1836 86 (50 + 2 * u782 + 1) ≤ 999) := by omega
                  have hX1858 : FA w1836 ≠ 0 ∨ u782 < 4 := by omega
                  have hD1859 : FA w1836 ≠ 0 ∨ (DATA w → DATA w1836) := by
                    by_cases z : FA w1836 ≠ 0
                    · exact Or.inl z
                    · exact Or.inr (fun hd => hd.s1 hM1848 hK785 hM1849 (hX1858.resolve_left z) hO1851 ((hN1852.resolve_left z).resolve_left (by have := hX1858.resolve_left z; omega)))
                  exact xg_e ⟨w1836, ⟨rfl, rfl⟩, xMnv.up (S := [85, 82]) hI1771 ((xFr.of (S := [85, 82]) hb1835 (by decide)).tr (xFr.of (S := [85, 82]) hb1838 (by decide))) (List.forall_mem_cons.mpr ⟨(show cpI 7 52 4294967295 (wget w1836 85) from ⟨_, (hr1834.but hb1838 (by decide)), xrb (by omega) (hb38)⟩), List.forall_mem_cons.mpr ⟨(show cp82 (wget w1836 82) from ⟨f82_1789, f82_1791, f82_1793, f82_1795, f82_1797, f82_1799, f82_1801, f82_1803, f82_1805, f82_1807 + 1, f82_1809, f82_1810, f82_1811, f82_1813, f82_1815, f82_1817, hk1837, by omega, by omega, by omega, by omega, by omega, by omega, by omega, by omega, by omega, by omega, by omega, by omega, by omega, by omega, by omega⟩), fun _ h => absurd h List.not_mem_nil⟩⟩), (((((((((hF1583.up (by decide)).tr (hF1592.up (by decide))).tr (hF1640.up (by decide))).tr (hF1685.up (by decide))).tr (hF1697.up (by decide))).tr (hF1709.up (by decide))).tr (hF1756.up (by decide))).tr (hF1772.up (by decide))).tr ((xFr.of (S := [82, 83, 85, 86, 87]) hb1835 (by decide)).tr (xFr.of (S := [82, 83, 85, 86, 87]) hb1838 (by decide)))), ⟨fun h => by have := pq1847.1 h; omega, (show fld w1836 82 10 = 0 ∨ FA w1836 ≠ 0 by omega), Or.inr ⟨by have := ms1788; omega, by omega, hM1850⟩, hD1859⟩⟩
                · refine xg_t (xg_icT (u := f82_1731) (v := 2) rfl xnm0 xnm0 (xj_neT hc1768)) ?_
                  refine xg_t (xg_blk (b := [(416, 1, 0, 0, 0, 0), (417, 3, 13, 140, 96, 183)]) rfl) ?_
                  refine xg_t (xg_aload (va := (2, 82)) rfl rfl) ?_
                  refine xg_cVv mX12_ends (vs := []) (rest := []) (cn1 := 0) (sl1 := 0) rfl (mEnds (hI1755) pk1760.2.2.2) rfl (hF1756.get (by decide) h82_1751) rfl rfl rfl rfl rfl rfl (fun w1860 hq1861 => ?_)
                  obtain ⟨hI1862, hF1863, hx1864⟩ := hq1861
                  obtain ⟨hv1865, hv1866, hv1867, hv1868⟩ := hx1864
                  have pk1869 : PK w1753 w1860 := ⟨fun _ => hv1865, by omega, by omega, Or.inr hv1865⟩
                  have pk1870 : PK w w1860 := PK.tr pk1760 pk1869
                  have os1871 : ∀ j, (j < 50 + 2 * u782 ∨ 52 + 2 * u782 ≤ j) → j < 140 → rwv w1860 86 j = rwv w 86 j := fun j hj hl => (rwv_fr hF1863 (by decide)).trans (os1761 j hj hl)
                  have ix1872 : u782 < 4 → rwv w1860 86 (50 + (2 * u782)) = n1641 := fun h => (rwv_fr hF1863 (by decide)).trans (ix1762 h)
                  have ix1873 : u782 < 4 → rwv w1860 86 ((50 + (2 * u782)) + 1) = n1710 := fun h => (rwv_fr hF1863 (by decide)).trans (hp1758 h)
                  have rg1874 : FA w1860 ≠ 0 ∨ False := rg1763.imp_left pk1869.1
                  have rg1875 : FA w1860 ≠ 0 ∨ (0 ≤ n1641 ∧ n1641 ≤ 99) := rg1764.imp_left pk1869.1
                  have rg1876 : FA w1860 ≠ 0 ∨ (1 ≤ n1710 ∧ n1710 ≤ 999) := rg1765.imp_left pk1869.1
                  have ms1877 : mu w1860 < mu w := Nat.lt_of_le_of_lt pk1869.2.1 ms1766
                  refine xg_t (xg_blk (b := [(420, 1, 0, 0, 0, 0), (421, 3, 1, 12, 11, 17), (424, 1, 2, 1, 0, 0), (425, 1, 39, 0, 0, 0), (426, 1, 10, 0, 0, 0), (427, 1, 3, 1, 0, 0), (428, 1, 11, 0, 0, 0), (429, 1, 17, 0, 0, 0), (430, 1, 0, 0, 0, 0), (431, 1, 19, 0, 0, 0), (432, 3, 1, 12, 14, 212), (435, 1, 3, 1, 0, 0), (436, 1, 11, 0, 0, 0), (437, 3, 14, 12, 14, 212), (440, 1, 12, 0, 0, 0)]) rfl) ?_
                  obtain ⟨f82_1878, f82_1880, f82_1882, f82_1884, f82_1886, f82_1888, f82_1890, f82_1892, f82_1894, f82_1896, f82_1898, f82_1899, f82_1900, f82_1902, f82_1904, f82_1906, h82_1908, hb1879, hb1881, hb1883, hb1885, hb1887, hb1889, hb1891, hb1893, hb1895, hb1897, hb1901, hb1903, hb1905, hb1907, hb1909⟩ := (hI1862 82 (by decide) (by decide) : cp82 (wget w1860 82))
                  have hf1910 : fld w1860 82 4 = f82_1882 := fld_of h82_1908
                  have hf1911 : fld w1860 82 5 = f82_1884 := fld_of h82_1908
                  have hf1912 : fld w1860 82 7 = f82_1888 := fld_of h82_1908
                  have hf1913 : fld w1860 82 10 = f82_1894 := fld_of h82_1908
                  have hf1914 : fld w1860 82 14 = f82_1896 := fld_of h82_1908
                  have hu1915 : mu w1860 = 2 * (fld w1860 82 4 - fld w1860 82 5) + min 1 (fld w1860 82 7) := rfl
                  have hf1916 := pk1870.2.2.1
                  have hl1917 : f82_1896 ≤ 1000 := by omega
                  refine xg_t (xg_aload (va := (2, 82)) rfl rfl) ?_
                  refine xg_t (xg_getf (va := (2, 85)) h82_1908 rfl) ?_
                  refine xg_t (xg_iload (va := (0, 1)) rfl rfl) ?_
                  refine xg_t (xg_dup2 rfl) ?_
                  refine xg_ialdB (n := 1) (B := 4294967295) ((((((((h85_37.fr hF1583 (by decide)).fr hF1592 (by decide)).fr hF1640 (by decide)).fr hF1685 (by decide)).fr hF1697 (by decide)).fr hF1709 (by decide)).fr hF1756 (by decide)).fr hF1863 (by decide)) (hb38) xnm0 (by omega) (fun u1918 hu1919 he1920 => ?_)
                  have hl1921 : u1918 = u782 := by omega
                  refine xg_t (xg_const) ?_
                  refine xg_t (xg_iadd (u := u1918) (v := 1) (z := u1918 + 1) xnm0 xnm0 (by omega)) ?_
                  refine xg_iastK (n := 1) (u := u1918 + 1) ((((((((h85_37.fr hF1583 (by decide)).fr hF1592 (by decide)).fr hF1640 (by decide)).fr hF1685 (by decide)).fr hF1697 (by decide)).fr hF1709 (by decide)).fr hF1756 (by decide)).fr hF1863 (by decide)) xnm0 xnm0 rfl (by omega) (fun w1922 hr1923 hb1924 => ?_)
                  refine xg_t (xg_aload (va := (2, 82)) rfl rfl) ?_
                  refine xg_t (xg_dup rfl) ?_
                  refine xg_t (xg_getf (va := (0, f82_1896)) (hb1924.get (by decide) h82_1908) rfl) ?_
                  refine xg_t (xg_const) ?_
                  refine xg_t (xg_iadd (u := f82_1896) (v := 1) (z := f82_1896 + 1) xnm0 xnm0 (by omega)) ?_
                  refine xg_putI (fl1 := [(2, 83), (2, 84), (0, f82_1878), (0, f82_1880), (0, f82_1882), (0, f82_1884), (0, f82_1886), (0, f82_1888), (0, f82_1890), (0, f82_1892), (0, f82_1894), (2, 85), (2, 86), (2, 87), (0, f82_1896 + 1), (2, 88), (2, 89), (2, 90), (2, 91), (2, 92), (2, 93), (2, 94), (4, f82_1898), (4, f82_1899), (0, f82_1900), (2, 95), (2, 96), (2, 97), (2, 98), (2, 99), (2, 100), (2, 101), (2, 102), (0, f82_1902), (2, 103), (2, 104), (2, 105), (2, 106), (2, 107), (2, 108), (2, 109), (0, f82_1904), (0, f82_1906), (2, 110), (2, 111), (2, 112), (2, 113)]) (hb1924.get (by decide) h82_1908) rfl rfl rfl (fun w1925 hk1926 hb1927 => ?_)
                  have hF1928 : xFr [82, 85] w1860 w1925 := ((xFr.of (S := [82, 85]) hb1924 (by decide)).tr (xFr.of (S := [82, 85]) hb1927 (by decide)))
                  have hA1929 := FA_fr hF1928 (by decide)
                  have hf1930 : fld w1925 82 4 = f82_1882 := fld_of hk1926
                  have hf1931 : fld w1925 82 5 = f82_1884 := fld_of hk1926
                  have hf1932 : fld w1925 82 7 = f82_1888 := fld_of hk1926
                  have hf1933 : fld w1925 82 10 = f82_1894 := fld_of hk1926
                  have hf1934 : fld w1925 82 14 = f82_1896 + 1 := fld_of hk1926
                  have hu1935 : mu w1925 = 2 * (fld w1925 82 4 - fld w1925 82 5) + min 1 (fld w1925 82 7) := rfl
                  have pq1936 := pk1870
                  unfold PK PS at pq1936
                  have hM1937 : ∀ s, s < 7 → s ≠ 1 → rwv w1925 85 s = rwv w 85 s := fun s hs hn => (rwv_of (hr1923.but hb1927 (by decide)) hs).trans ((if_neg hn).trans (rwv_of h85_37 hs).symm)
                  have hM1938 : rwv w1925 85 1 = u782 + 1 := (rwv_of (hr1923.but hb1927 (by decide)) (by decide)).trans ((if_pos rfl).trans (by omega))
                  have hM1939 : ∀ s, s < 7 → rwv w1925 85 s ≤ rwv w 85 s + 1 := fun s hs => by
                    by_cases z : s = 1
                    · subst z; omega
                    · rw [hM1937 s hs z]; omega
                  have hO1940 : ∀ j, (j < 50 + 2 * u782 ∨ 52 + 2 * u782 ≤ j) → j < 140 → rwv w1925 86 j = rwv w 86 j := fun j hj hl => (rwv_fr hF1928 (by decide)).trans (os1871 j hj hl)
                  have hl1942 : u782 < 4 → rwv w1925 86 (50 + (2 * u782)) = n1641 := fun h => (rwv_fr hF1928 (by decide)).trans (ix1872 h)
                  have hl1943 : u782 < 4 → rwv w1925 86 ((50 + (2 * u782)) + 1) = n1710 := fun h => (rwv_fr hF1928 (by decide)).trans (ix1873 h)
                  have hl1944 : FA w1860 ≠ 0 ∨ False := rg1874
                  have hl1945 : FA w1860 ≠ 0 ∨ (0 ≤ n1641 ∧ n1641 ≤ 99) := rg1875
                  have hl1946 : FA w1860 ≠ 0 ∨ (1 ≤ n1710 ∧ n1710 ≤ 999) := rg1876
                  have hN1941 : FA w1925 ≠ 0 ∨ 4 ≤ u782 ∨ (1 ≤ rwv w1925 86 (50 + 2 * u782 + 1) ∧ rwv w1925 86 (50 + 2 * u782 + 1) ≤ 999) := by omega
                  have hX1947 : FA w1925 ≠ 0 ∨ u782 < 4 := by omega
                  have hD1948 : FA w1925 ≠ 0 ∨ (DATA w → DATA w1925) := by
                    by_cases z : FA w1925 ≠ 0
                    · exact Or.inl z
                    · exact Or.inr (fun hd => hd.s1 hM1937 hK785 hM1938 (hX1947.resolve_left z) hO1940 ((hN1941.resolve_left z).resolve_left (by have := hX1947.resolve_left z; omega)))
                  exact xg_e ⟨w1925, ⟨rfl, rfl⟩, xMnv.up (S := [85, 82]) hI1862 ((xFr.of (S := [85, 82]) hb1924 (by decide)).tr (xFr.of (S := [85, 82]) hb1927 (by decide))) (List.forall_mem_cons.mpr ⟨(show cpI 7 52 4294967295 (wget w1925 85) from ⟨_, (hr1923.but hb1927 (by decide)), xrb (by omega) (hb38)⟩), List.forall_mem_cons.mpr ⟨(show cp82 (wget w1925 82) from ⟨f82_1878, f82_1880, f82_1882, f82_1884, f82_1886, f82_1888, f82_1890, f82_1892, f82_1894, f82_1896 + 1, f82_1898, f82_1899, f82_1900, f82_1902, f82_1904, f82_1906, hk1926, by omega, by omega, by omega, by omega, by omega, by omega, by omega, by omega, by omega, by omega, by omega, by omega, by omega, by omega, by omega⟩), fun _ h => absurd h List.not_mem_nil⟩⟩), (((((((((hF1583.up (by decide)).tr (hF1592.up (by decide))).tr (hF1640.up (by decide))).tr (hF1685.up (by decide))).tr (hF1697.up (by decide))).tr (hF1709.up (by decide))).tr (hF1756.up (by decide))).tr (hF1863.up (by decide))).tr ((xFr.of (S := [82, 83, 85, 86, 87]) hb1924 (by decide)).tr (xFr.of (S := [82, 83, 85, 86, 87]) hb1927 (by decide)))), ⟨fun h => by have := pq1936.1 h; omega, (show fld w1925 82 10 = 0 ∨ FA w1925 ≠ 0 by omega), Or.inr ⟨by have := ms1877; omega, by omega, hM1939⟩, hD1948⟩⟩
              · refine xg_t (xg_ifT (u := f82_1737) rfl xnm0 (xj_neT hc1767)) ?_
                refine xg_t (xg_blk (b := [(416, 1, 0, 0, 0, 0), (417, 3, 13, 140, 96, 183)]) rfl) ?_
                refine xg_t (xg_aload (va := (2, 82)) rfl rfl) ?_
                refine xg_cVv mX12_ends (vs := []) (rest := []) (cn1 := 0) (sl1 := 0) rfl (mEnds (hI1755) pk1760.2.2.2) rfl (hF1756.get (by decide) h82_1751) rfl rfl rfl rfl rfl rfl (fun w1949 hq1950 => ?_)
                obtain ⟨hI1951, hF1952, hx1953⟩ := hq1950
                obtain ⟨hv1954, hv1955, hv1956, hv1957⟩ := hx1953
                have pk1958 : PK w1753 w1949 := ⟨fun _ => hv1954, by omega, by omega, Or.inr hv1954⟩
                have pk1959 : PK w w1949 := PK.tr pk1760 pk1958
                have os1960 : ∀ j, (j < 50 + 2 * u782 ∨ 52 + 2 * u782 ≤ j) → j < 140 → rwv w1949 86 j = rwv w 86 j := fun j hj hl => (rwv_fr hF1952 (by decide)).trans (os1761 j hj hl)
                have ix1961 : u782 < 4 → rwv w1949 86 (50 + (2 * u782)) = n1641 := fun h => (rwv_fr hF1952 (by decide)).trans (ix1762 h)
                have ix1962 : u782 < 4 → rwv w1949 86 ((50 + (2 * u782)) + 1) = n1710 := fun h => (rwv_fr hF1952 (by decide)).trans (hp1758 h)
                have rg1963 : FA w1949 ≠ 0 ∨ False := rg1763.imp_left pk1958.1
                have rg1964 : FA w1949 ≠ 0 ∨ (0 ≤ n1641 ∧ n1641 ≤ 99) := rg1764.imp_left pk1958.1
                have rg1965 : FA w1949 ≠ 0 ∨ (1 ≤ n1710 ∧ n1710 ≤ 999) := rg1765.imp_left pk1958.1
                have ms1966 : mu w1949 < mu w := Nat.lt_of_le_of_lt pk1958.2.1 ms1766
                refine xg_t (xg_blk (b := [(420, 1, 0, 0, 0, 0), (421, 3, 1, 12, 11, 17), (424, 1, 2, 1, 0, 0), (425, 1, 39, 0, 0, 0), (426, 1, 10, 0, 0, 0), (427, 1, 3, 1, 0, 0), (428, 1, 11, 0, 0, 0), (429, 1, 17, 0, 0, 0), (430, 1, 0, 0, 0, 0), (431, 1, 19, 0, 0, 0), (432, 3, 1, 12, 14, 212), (435, 1, 3, 1, 0, 0), (436, 1, 11, 0, 0, 0), (437, 3, 14, 12, 14, 212), (440, 1, 12, 0, 0, 0)]) rfl) ?_
                obtain ⟨f82_1967, f82_1969, f82_1971, f82_1973, f82_1975, f82_1977, f82_1979, f82_1981, f82_1983, f82_1985, f82_1987, f82_1988, f82_1989, f82_1991, f82_1993, f82_1995, h82_1997, hb1968, hb1970, hb1972, hb1974, hb1976, hb1978, hb1980, hb1982, hb1984, hb1986, hb1990, hb1992, hb1994, hb1996, hb1998⟩ := (hI1951 82 (by decide) (by decide) : cp82 (wget w1949 82))
                have hf1999 : fld w1949 82 4 = f82_1971 := fld_of h82_1997
                have hf2000 : fld w1949 82 5 = f82_1973 := fld_of h82_1997
                have hf2001 : fld w1949 82 7 = f82_1977 := fld_of h82_1997
                have hf2002 : fld w1949 82 10 = f82_1983 := fld_of h82_1997
                have hf2003 : fld w1949 82 14 = f82_1985 := fld_of h82_1997
                have hu2004 : mu w1949 = 2 * (fld w1949 82 4 - fld w1949 82 5) + min 1 (fld w1949 82 7) := rfl
                have hf2005 := pk1959.2.2.1
                have hl2006 : f82_1985 ≤ 1000 := by omega
                refine xg_t (xg_aload (va := (2, 82)) rfl rfl) ?_
                refine xg_t (xg_getf (va := (2, 85)) h82_1997 rfl) ?_
                refine xg_t (xg_iload (va := (0, 1)) rfl rfl) ?_
                refine xg_t (xg_dup2 rfl) ?_
                refine xg_ialdB (n := 1) (B := 4294967295) ((((((((h85_37.fr hF1583 (by decide)).fr hF1592 (by decide)).fr hF1640 (by decide)).fr hF1685 (by decide)).fr hF1697 (by decide)).fr hF1709 (by decide)).fr hF1756 (by decide)).fr hF1952 (by decide)) (hb38) xnm0 (by omega) (fun u2007 hu2008 he2009 => ?_)
                have hl2010 : u2007 = u782 := by omega
                refine xg_t (xg_const) ?_
                refine xg_t (xg_iadd (u := u2007) (v := 1) (z := u2007 + 1) xnm0 xnm0 (by omega)) ?_
                refine xg_iastK (n := 1) (u := u2007 + 1) ((((((((h85_37.fr hF1583 (by decide)).fr hF1592 (by decide)).fr hF1640 (by decide)).fr hF1685 (by decide)).fr hF1697 (by decide)).fr hF1709 (by decide)).fr hF1756 (by decide)).fr hF1952 (by decide)) xnm0 xnm0 rfl (by omega) (fun w2011 hr2012 hb2013 => ?_)
                refine xg_t (xg_aload (va := (2, 82)) rfl rfl) ?_
                refine xg_t (xg_dup rfl) ?_
                refine xg_t (xg_getf (va := (0, f82_1985)) (hb2013.get (by decide) h82_1997) rfl) ?_
                refine xg_t (xg_const) ?_
                refine xg_t (xg_iadd (u := f82_1985) (v := 1) (z := f82_1985 + 1) xnm0 xnm0 (by omega)) ?_
                refine xg_putI (fl1 := [(2, 83), (2, 84), (0, f82_1967), (0, f82_1969), (0, f82_1971), (0, f82_1973), (0, f82_1975), (0, f82_1977), (0, f82_1979), (0, f82_1981), (0, f82_1983), (2, 85), (2, 86), (2, 87), (0, f82_1985 + 1), (2, 88), (2, 89), (2, 90), (2, 91), (2, 92), (2, 93), (2, 94), (4, f82_1987), (4, f82_1988), (0, f82_1989), (2, 95), (2, 96), (2, 97), (2, 98), (2, 99), (2, 100), (2, 101), (2, 102), (0, f82_1991), (2, 103), (2, 104), (2, 105), (2, 106), (2, 107), (2, 108), (2, 109), (0, f82_1993), (0, f82_1995), (2, 110), (2, 111), (2, 112), (2, 113)]) (hb2013.get (by decide) h82_1997) rfl rfl rfl (fun w2014 hk2015 hb2016 => ?_)
                have hF2017 : xFr [82, 85] w1949 w2014 := ((xFr.of (S := [82, 85]) hb2013 (by decide)).tr (xFr.of (S := [82, 85]) hb2016 (by decide)))
                have hA2018 := FA_fr hF2017 (by decide)
                have hf2019 : fld w2014 82 4 = f82_1971 := fld_of hk2015
                have hf2020 : fld w2014 82 5 = f82_1973 := fld_of hk2015
                have hf2021 : fld w2014 82 7 = f82_1977 := fld_of hk2015
                have hf2022 : fld w2014 82 10 = f82_1983 := fld_of hk2015
                have hf2023 : fld w2014 82 14 = f82_1985 + 1 := fld_of hk2015
                have hu2024 : mu w2014 = 2 * (fld w2014 82 4 - fld w2014 82 5) + min 1 (fld w2014 82 7) := rfl
                have pq2025 := pk1959
                unfold PK PS at pq2025
                have hM2026 : ∀ s, s < 7 → s ≠ 1 → rwv w2014 85 s = rwv w 85 s := fun s hs hn => (rwv_of (hr2012.but hb2016 (by decide)) hs).trans ((if_neg hn).trans (rwv_of h85_37 hs).symm)
                have hM2027 : rwv w2014 85 1 = u782 + 1 := (rwv_of (hr2012.but hb2016 (by decide)) (by decide)).trans ((if_pos rfl).trans (by omega))
                have hM2028 : ∀ s, s < 7 → rwv w2014 85 s ≤ rwv w 85 s + 1 := fun s hs => by
                  by_cases z : s = 1
                  · subst z; omega
                  · rw [hM2026 s hs z]; omega
                have hO2029 : ∀ j, (j < 50 + 2 * u782 ∨ 52 + 2 * u782 ≤ j) → j < 140 → rwv w2014 86 j = rwv w 86 j := fun j hj hl => (rwv_fr hF2017 (by decide)).trans (os1960 j hj hl)
                have hl2031 : u782 < 4 → rwv w2014 86 (50 + (2 * u782)) = n1641 := fun h => (rwv_fr hF2017 (by decide)).trans (ix1961 h)
                have hl2032 : u782 < 4 → rwv w2014 86 ((50 + (2 * u782)) + 1) = n1710 := fun h => (rwv_fr hF2017 (by decide)).trans (ix1962 h)
                have hl2033 : FA w1949 ≠ 0 ∨ False := rg1963
                have hl2034 : FA w1949 ≠ 0 ∨ (0 ≤ n1641 ∧ n1641 ≤ 99) := rg1964
                have hl2035 : FA w1949 ≠ 0 ∨ (1 ≤ n1710 ∧ n1710 ≤ 999) := rg1965
                have hN2030 : FA w2014 ≠ 0 ∨ 4 ≤ u782 ∨ (1 ≤ rwv w2014 86 (50 + 2 * u782 + 1) ∧ rwv w2014 86 (50 + 2 * u782 + 1) ≤ 999) := by omega
                have hX2036 : FA w2014 ≠ 0 ∨ u782 < 4 := by omega
                have hD2037 : FA w2014 ≠ 0 ∨ (DATA w → DATA w2014) := by
                  by_cases z : FA w2014 ≠ 0
                  · exact Or.inl z
                  · exact Or.inr (fun hd => hd.s1 hM2026 hK785 hM2027 (hX2036.resolve_left z) hO2029 ((hN2030.resolve_left z).resolve_left (by have := hX2036.resolve_left z; omega)))
                exact xg_e ⟨w2014, ⟨rfl, rfl⟩, xMnv.up (S := [85, 82]) hI1951 ((xFr.of (S := [85, 82]) hb2013 (by decide)).tr (xFr.of (S := [85, 82]) hb2016 (by decide))) (List.forall_mem_cons.mpr ⟨(show cpI 7 52 4294967295 (wget w2014 85) from ⟨_, (hr2012.but hb2016 (by decide)), xrb (by omega) (hb38)⟩), List.forall_mem_cons.mpr ⟨(show cp82 (wget w2014 82) from ⟨f82_1967, f82_1969, f82_1971, f82_1973, f82_1975, f82_1977, f82_1979, f82_1981, f82_1983, f82_1985 + 1, f82_1987, f82_1988, f82_1989, f82_1991, f82_1993, f82_1995, hk2015, by omega, by omega, by omega, by omega, by omega, by omega, by omega, by omega, by omega, by omega, by omega, by omega, by omega, by omega, by omega⟩), fun _ h => absurd h List.not_mem_nil⟩⟩), (((((((((hF1583.up (by decide)).tr (hF1592.up (by decide))).tr (hF1640.up (by decide))).tr (hF1685.up (by decide))).tr (hF1697.up (by decide))).tr (hF1709.up (by decide))).tr (hF1756.up (by decide))).tr (hF1952.up (by decide))).tr ((xFr.of (S := [82, 83, 85, 86, 87]) hb2013 (by decide)).tr (xFr.of (S := [82, 83, 85, 86, 87]) hb2016 (by decide)))), ⟨fun h => by have := pq2025.1 h; omega, (show fld w2014 82 10 = 0 ∨ FA w2014 ≠ 0 by omega), Or.inr ⟨by have := ms1966; omega, by omega, hM2028⟩, hD2037⟩⟩
            · refine xg_t (xg_ifF (u := n1686) rfl xnm0 (xj_eqF hc1693)) ?_
              refine xg_t (xg_aload (va := (2, 82)) rfl rfl) ?_
              refine xg_t (xg_const) ?_
              refine xg_t (xg_iload (va := (0, f82_9)) rfl rfl) ?_
              refine xg_cVv mX12_also (vs := [(0, 3), (0, f82_9)]) (rest := []) (cn1 := 0) (sl1 := 0) rfl (mAlso (hI1684) (by omega) (by omega) (by omega) pk1688.2.2.2) rfl (hF1685.get (by decide) h82_1680) rfl rfl rfl rfl rfl rfl (fun w2038 hq2039 => ?_)
              obtain ⟨hI2040, hF2041, hx2042⟩ := hq2039
              have pk2043 : PK w1682 w2038 := ⟨fun _ => hx2042, Nat.le_of_eq (mu_fr hF2041 (by decide)), fld_fr hF2041 (by decide), Or.inr hx2042⟩
              have pk2044 : PK w w2038 := PK.tr pk1688 pk2043
              have os2045 : ∀ j, (j < 50 + 2 * u782 ∨ 52 + 2 * u782 ≤ j) → j < 140 → rwv w2038 86 j = rwv w 86 j := fun j hj hl => (rwv_fr hF2041 (by decide)).trans (os1689 j hj hl)
              have rg2046 : FA w2038 ≠ 0 ∨ False := rg1690.imp_left pk2043.1
              have rg2047 : FA w2038 ≠ 0 ∨ (0 ≤ n1641 ∧ n1641 ≤ 99) := rg1691.imp_left pk2043.1
              have ms2048 : mu w2038 < mu w := Nat.lt_of_le_of_lt pk2043.2.1 ms1692
              refine xg_t (xg_blk (b := [(141, 1, 0, 0, 0, 0), (142, 1, 2, 1, 0, 0), (143, 1, 2, 3, 0, 0), (144, 2, 4, 50, 0, 0), (146, 1, 3, 2, 0, 0), (147, 1, 2, 3, 0, 0), (148, 1, 16, 0, 0, 0), (149, 1, 11, 0, 0, 0), (150, 2, 2, 4, 0, 0), (152, 3, 13, 211, 96, 200), (155, 1, 0, 0, 0, 0), (156, 1, 2, 1, 0, 0), (157, 1, 2, 3, 0, 0), (158, 2, 4, 50, 0, 0), (160, 1, 3, 2, 0, 0), (161, 1, 2, 3, 0, 0), (162, 1, 16, 0, 0, 0), (163, 1, 11, 0, 0, 0), (164, 1, 3, 1, 0, 0), (165, 1, 11, 0, 0, 0), (166, 1, 0, 0, 0, 0), (167, 1, 3, 1, 0, 0), (168, 3, 5, 999, 0, 0), (171, 3, 13, 199, 96, 196), (174, 3, 13, 211, 96, 200), (177, 3, 8, 394, 0, 0)]) rfl) ?_
              refine xg_t (xg_aload (va := (2, 82)) rfl rfl) ?_
              refine xg_t (xg_iload (va := (0, 1)) rfl rfl) ?_
              refine xg_t (xg_iload (va := (0, u782)) rfl rfl) ?_
              refine xg_t (xg_bip) ?_
              refine xg_t (xg_const) ?_
              refine xg_t (xg_iload (va := (0, u782)) rfl rfl) ?_
              refine xg_t (xg_imul (u := 2) (v := u782) (z := 2 * u782) xnm0 xnm0 (by omega)) ?_
              refine xg_t (xg_iadd (u := 50) (v := 2 * u782) (z := 50 + (2 * u782)) xnm0 xnm0 (by omega)) ?_
              refine xg_t (xg_iload (va := (0, n1641)) rfl rfl) ?_
              refine xg_cVv mX12_puts (vs := [(0, 1), (0, u782), (0, 50 + (2 * u782)), (0, n1641)]) (rest := []) (cn1 := 0) (sl1 := 0) rfl (mPuts1 (hI2040) (by omega) (by omega) (by omega) (fun _ => by omega)) rfl (hF2041.get (by decide) (hF1685.get (by decide) h82_1680)) rfl rfl rfl rfl rfl rfl (fun w2049 hq2050 => ?_)
              obtain ⟨hI2051, hF2052, hx2053⟩ := hq2050
              obtain ⟨hp2054, hp2055⟩ := hx2053
              have pk2056 : PK w w2049 := PK.tr pk2044 (PK.fr hF2052 (by decide) (by decide) pk2044.2.2.2)
              have os2057 : ∀ j, (j < 50 + 2 * u782 ∨ 52 + 2 * u782 ≤ j) → j < 140 → rwv w2049 86 j = rwv w 86 j := fun j hj hl => (hp2055 j (by omega) hl).trans (os2045 j hj hl)
              have rg2058 : FA w2049 ≠ 0 ∨ False := rg2046.imp_left (PK.fr hF2052 (by decide) (by decide) pk2044.2.2.2).1
              have rg2059 : FA w2049 ≠ 0 ∨ (0 ≤ n1641 ∧ n1641 ≤ 99) := rg2047.imp_left (PK.fr hF2052 (by decide) (by decide) pk2044.2.2.2).1
              have rg2060 : FA w2049 ≠ 0 ∨ False := (Or.inl hx2042 : FA w2038 ≠ 0 ∨ False).imp_left (PK.fr hF2052 (by decide) (by decide) pk2044.2.2.2).1
              have ms2061 : mu w2049 < mu w := Nat.lt_of_le_of_lt (PK.fr hF2052 (by decide) (by decide) pk2044.2.2.2).2.1 ms2048
              refine xg_t (xg_aload (va := (2, 82)) rfl rfl) ?_
              refine xg_t (xg_iload (va := (0, 1)) rfl rfl) ?_
              refine xg_t (xg_iload (va := (0, u782)) rfl rfl) ?_
              refine xg_t (xg_bip) ?_
              refine xg_t (xg_const) ?_
              refine xg_t (xg_iload (va := (0, u782)) rfl rfl) ?_
              refine xg_t (xg_imul (u := 2) (v := u782) (z := 2 * u782) xnm0 xnm0 (by omega)) ?_
              refine xg_t (xg_iadd (u := 50) (v := 2 * u782) (z := 50 + (2 * u782)) xnm0 xnm0 (by omega)) ?_
              refine xg_t (xg_const) ?_
              refine xg_t (xg_iadd (u := 50 + (2 * u782)) (v := 1) (z := (50 + (2 * u782)) + 1) xnm0 xnm0 (by omega)) ?_
              refine xg_t (xg_aload (va := (2, 82)) rfl rfl) ?_
              refine xg_t (xg_const) ?_
              refine xg_t (xg_sip) ?_
              refine xg_cVi mX12_numbered (vs := [(0, 1), (0, 999)]) (rest := [(0, (50 + (2 * u782)) + 1), (0, u782), (0, 1), (2, 82)]) (cn1 := 0) (sl1 := 0) rfl (mNumbered (hI2051) (by omega) (by omega) pk2056.2.2.2) rfl (hF2052.get (by decide) (hF2041.get (by decide) (hF1685.get (by decide) h82_1680))) rfl rfl rfl rfl rfl rfl (fun n2066 w2062 hq2063 => ?_)
              obtain ⟨hn2067, hI2064, hF2065⟩ := hq2063
              obtain ⟨hn2068, hn2069, hn2070⟩ := hn2067
              have pk2071 : PK w w2062 := PK.tr pk2056 hn2069
              have os2072 : ∀ j, (j < 50 + 2 * u782 ∨ 52 + 2 * u782 ≤ j) → j < 140 → rwv w2062 86 j = rwv w 86 j := fun j hj hl => (rwv_fr hF2065 (by decide)).trans (os2057 j hj hl)
              have ix2073 : u782 < 4 → rwv w2062 86 (50 + (2 * u782)) = n1641 := fun h => (rwv_fr hF2065 (by decide)).trans (hp2054 h)
              have rg2074 : FA w2062 ≠ 0 ∨ False := rg2058.imp_left hn2069.1
              have rg2075 : FA w2062 ≠ 0 ∨ (0 ≤ n1641 ∧ n1641 ≤ 99) := rg2059.imp_left hn2069.1
              have rg2076 : FA w2062 ≠ 0 ∨ False := rg2060.imp_left hn2069.1
              have ms2077 : mu w2062 < mu w := Nat.lt_of_le_of_lt hn2069.2.1 ms2061
              obtain ⟨f82_2078, f82_2080, f82_2082, f82_2084, f82_2086, f82_2088, f82_2090, f82_2092, f82_2094, f82_2096, f82_2098, f82_2099, f82_2100, f82_2102, f82_2104, f82_2106, h82_2108, hb2079, hb2081, hb2083, hb2085, hb2087, hb2089, hb2091, hb2093, hb2095, hb2097, hb2101, hb2103, hb2105, hb2107, hb2109⟩ := (hI2064 82 (by decide) (by decide) : cp82 (wget w2062 82))
              refine xg_cVv mX12_puts (vs := [(0, 1), (0, u782), (0, (50 + (2 * u782)) + 1), (0, n2066)]) (rest := []) (cn1 := 0) (sl1 := 0) rfl (mPuts1 (hI2064) (by omega) (by omega) (by omega) (fun _ => by omega)) rfl h82_2108 rfl rfl rfl rfl rfl rfl (fun w2110 hq2111 => ?_)
              obtain ⟨hI2112, hF2113, hx2114⟩ := hq2111
              obtain ⟨hp2115, hp2116⟩ := hx2114
              have pk2117 : PK w w2110 := PK.tr pk2071 (PK.fr hF2113 (by decide) (by decide) pk2071.2.2.2)
              have os2118 : ∀ j, (j < 50 + 2 * u782 ∨ 52 + 2 * u782 ≤ j) → j < 140 → rwv w2110 86 j = rwv w 86 j := fun j hj hl => (hp2116 j (by omega) hl).trans (os2072 j hj hl)
              have ix2119 : u782 < 4 → rwv w2110 86 (50 + (2 * u782)) = n1641 := fun h => (hp2116 _ (by omega) (by omega)).trans (ix2073 h)
              have rg2120 : FA w2110 ≠ 0 ∨ False := rg2074.imp_left (PK.fr hF2113 (by decide) (by decide) pk2071.2.2.2).1
              have rg2121 : FA w2110 ≠ 0 ∨ (0 ≤ n1641 ∧ n1641 ≤ 99) := rg2075.imp_left (PK.fr hF2113 (by decide) (by decide) pk2071.2.2.2).1
              have rg2122 : FA w2110 ≠ 0 ∨ False := rg2076.imp_left (PK.fr hF2113 (by decide) (by decide) pk2071.2.2.2).1
              have rg2123 : FA w2110 ≠ 0 ∨ (1 ≤ n2066 ∧ n2066 ≤ 999) := hn2070.imp_left (PK.fr hF2113 (by decide) (by decide) pk2071.2.2.2).1
              have ms2124 : mu w2110 < mu w := Nat.lt_of_le_of_lt (PK.fr hF2113 (by decide) (by decide) pk2071.2.2.2).2.1 ms2077
              refine xg_t (xg_goto) ?_
              refine xg_t (xg_blk (b := [(394, 1, 0, 0, 0, 0), (395, 3, 1, 12, 10, 180), (398, 3, 7, 416, 1, 0), (401, 1, 0, 0, 0, 0), (402, 3, 1, 12, 7, 151), (405, 1, 3, 2, 0, 0), (406, 3, 6, 416, 1, 0), (409, 1, 0, 0, 0, 0), (410, 3, 13, 110, 96, 190), (413, 3, 8, 420, 0, 0)]) rfl) ?_
              refine xg_t (xg_aload (va := (2, 82)) rfl rfl) ?_
              refine xg_t (xg_getf (va := (0, f82_2094)) (hF2113.get (by decide) h82_2108) rfl) ?_
              by_cases hc2125 : f82_2094 = 0
              · refine xg_t (xg_ifF (u := f82_2094) rfl xnm0 (xj_neF hc2125)) ?_
                refine xg_t (xg_aload (va := (2, 82)) rfl rfl) ?_
                refine xg_t (xg_getf (va := (0, f82_2088)) (hF2113.get (by decide) h82_2108) rfl) ?_
                refine xg_t (xg_const) ?_
                by_cases hc2126 : f82_2088 = 2
                · refine xg_t (xg_icF (u := f82_2088) (v := 2) rfl xnm0 xnm0 (xj_neF hc2126)) ?_
                  refine xg_t (xg_aload (va := (2, 82)) rfl rfl) ?_
                  refine xg_cVv mX12_advance (vs := []) (rest := []) (cn1 := 0) (sl1 := 0) rfl (mAdvance (hI2112)) rfl (hF2113.get (by decide) h82_2108) rfl rfl rfl rfl rfl rfl (fun w2127 hq2128 => ?_)
                  obtain ⟨hI2129, hF2130, hx2131⟩ := hq2128
                  obtain ⟨hv2132, hv2133, hv2134, hv2135⟩ := hx2131
                  have hf2137 := FA_fr hF2130 (by decide)
                  have hs2138 := pk2117.2.2.2
                  unfold PS at hs2138
                  have pk2136 : PK w2110 w2127 := ⟨fun _ => by omega, hv2132, hv2135, (show fld w2127 82 10 = 0 ∨ FA w2127 ≠ 0 by omega)⟩
                  have pk2139 : PK w w2127 := PK.tr pk2117 pk2136
                  have os2140 : ∀ j, (j < 50 + 2 * u782 ∨ 52 + 2 * u782 ≤ j) → j < 140 → rwv w2127 86 j = rwv w 86 j := fun j hj hl => (rwv_fr hF2130 (by decide)).trans (os2118 j hj hl)
                  have ix2141 : u782 < 4 → rwv w2127 86 (50 + (2 * u782)) = n1641 := fun h => (rwv_fr hF2130 (by decide)).trans (ix2119 h)
                  have ix2142 : u782 < 4 → rwv w2127 86 ((50 + (2 * u782)) + 1) = n2066 := fun h => (rwv_fr hF2130 (by decide)).trans (hp2115 h)
                  have rg2143 : FA w2127 ≠ 0 ∨ False := rg2120.imp_left pk2136.1
                  have rg2144 : FA w2127 ≠ 0 ∨ (0 ≤ n1641 ∧ n1641 ≤ 99) := rg2121.imp_left pk2136.1
                  have rg2145 : FA w2127 ≠ 0 ∨ False := rg2122.imp_left pk2136.1
                  have rg2146 : FA w2127 ≠ 0 ∨ (1 ≤ n2066 ∧ n2066 ≤ 999) := rg2123.imp_left pk2136.1
                  have ms2147 : mu w2127 < mu w := Nat.lt_of_le_of_lt pk2136.2.1 ms2124
                  refine xg_t (xg_goto) ?_
                  refine xg_t (xg_blk (b := [(420, 1, 0, 0, 0, 0), (421, 3, 1, 12, 11, 17), (424, 1, 2, 1, 0, 0), (425, 1, 39, 0, 0, 0), (426, 1, 10, 0, 0, 0), (427, 1, 3, 1, 0, 0), (428, 1, 11, 0, 0, 0), (429, 1, 17, 0, 0, 0), (430, 1, 0, 0, 0, 0), (431, 1, 19, 0, 0, 0), (432, 3, 1, 12, 14, 212), (435, 1, 3, 1, 0, 0), (436, 1, 11, 0, 0, 0), (437, 3, 14, 12, 14, 212), (440, 1, 12, 0, 0, 0)]) rfl) ?_
                  obtain ⟨f82_2148, f82_2150, f82_2152, f82_2154, f82_2156, f82_2158, f82_2160, f82_2162, f82_2164, f82_2166, f82_2168, f82_2169, f82_2170, f82_2172, f82_2174, f82_2176, h82_2178, hb2149, hb2151, hb2153, hb2155, hb2157, hb2159, hb2161, hb2163, hb2165, hb2167, hb2171, hb2173, hb2175, hb2177, hb2179⟩ := (hI2129 82 (by decide) (by decide) : cp82 (wget w2127 82))
                  have hf2180 : fld w2127 82 4 = f82_2152 := fld_of h82_2178
                  have hf2181 : fld w2127 82 5 = f82_2154 := fld_of h82_2178
                  have hf2182 : fld w2127 82 7 = f82_2158 := fld_of h82_2178
                  have hf2183 : fld w2127 82 10 = f82_2164 := fld_of h82_2178
                  have hf2184 : fld w2127 82 14 = f82_2166 := fld_of h82_2178
                  have hu2185 : mu w2127 = 2 * (fld w2127 82 4 - fld w2127 82 5) + min 1 (fld w2127 82 7) := rfl
                  have hf2186 := pk2139.2.2.1
                  have hl2187 : f82_2166 ≤ 1000 := by omega
                  refine xg_t (xg_aload (va := (2, 82)) rfl rfl) ?_
                  refine xg_t (xg_getf (va := (2, 85)) h82_2178 rfl) ?_
                  refine xg_t (xg_iload (va := (0, 1)) rfl rfl) ?_
                  refine xg_t (xg_dup2 rfl) ?_
                  refine xg_ialdB (n := 1) (B := 4294967295) (((((((((h85_37.fr hF1583 (by decide)).fr hF1592 (by decide)).fr hF1640 (by decide)).fr hF1685 (by decide)).fr hF2041 (by decide)).fr hF2052 (by decide)).fr hF2065 (by decide)).fr hF2113 (by decide)).fr hF2130 (by decide)) (hb38) xnm0 (by omega) (fun u2188 hu2189 he2190 => ?_)
                  have hl2191 : u2188 = u782 := by omega
                  refine xg_t (xg_const) ?_
                  refine xg_t (xg_iadd (u := u2188) (v := 1) (z := u2188 + 1) xnm0 xnm0 (by omega)) ?_
                  refine xg_iastK (n := 1) (u := u2188 + 1) (((((((((h85_37.fr hF1583 (by decide)).fr hF1592 (by decide)).fr hF1640 (by decide)).fr hF1685 (by decide)).fr hF2041 (by decide)).fr hF2052 (by decide)).fr hF2065 (by decide)).fr hF2113 (by decide)).fr hF2130 (by decide)) xnm0 xnm0 rfl (by omega) (fun w2192 hr2193 hb2194 => ?_)
                  refine xg_t (xg_aload (va := (2, 82)) rfl rfl) ?_
                  refine xg_t (xg_dup rfl) ?_
                  refine xg_t (xg_getf (va := (0, f82_2166)) (hb2194.get (by decide) h82_2178) rfl) ?_
                  refine xg_t (xg_const) ?_
                  refine xg_t (xg_iadd (u := f82_2166) (v := 1) (z := f82_2166 + 1) xnm0 xnm0 (by omega)) ?_
                  refine xg_putI (fl1 := [(2, 83), (2, 84), (0, f82_2148), (0, f82_2150), (0, f82_2152), (0, f82_2154), (0, f82_2156), (0, f82_2158), (0, f82_2160), (0, f82_2162), (0, f82_2164), (2, 85), (2, 86), (2, 87), (0, f82_2166 + 1), (2, 88), (2, 89), (2, 90), (2, 91), (2, 92), (2, 93), (2, 94), (4, f82_2168), (4, f82_2169), (0, f82_2170), (2, 95), (2, 96), (2, 97), (2, 98), (2, 99), (2, 100), (2, 101), (2, 102), (0, f82_2172), (2, 103), (2, 104), (2, 105), (2, 106), (2, 107), (2, 108), (2, 109), (0, f82_2174), (0, f82_2176), (2, 110), (2, 111), (2, 112), (2, 113)]) (hb2194.get (by decide) h82_2178) rfl rfl rfl (fun w2195 hk2196 hb2197 => ?_)
                  have hF2198 : xFr [82, 85] w2127 w2195 := ((xFr.of (S := [82, 85]) hb2194 (by decide)).tr (xFr.of (S := [82, 85]) hb2197 (by decide)))
                  have hA2199 := FA_fr hF2198 (by decide)
                  have hf2200 : fld w2195 82 4 = f82_2152 := fld_of hk2196
                  have hf2201 : fld w2195 82 5 = f82_2154 := fld_of hk2196
                  have hf2202 : fld w2195 82 7 = f82_2158 := fld_of hk2196
                  have hf2203 : fld w2195 82 10 = f82_2164 := fld_of hk2196
                  have hf2204 : fld w2195 82 14 = f82_2166 + 1 := fld_of hk2196
                  have hu2205 : mu w2195 = 2 * (fld w2195 82 4 - fld w2195 82 5) + min 1 (fld w2195 82 7) := rfl
                  have pq2206 := pk2139
                  unfold PK PS at pq2206
                  have hM2207 : ∀ s, s < 7 → s ≠ 1 → rwv w2195 85 s = rwv w 85 s := fun s hs hn => (rwv_of (hr2193.but hb2197 (by decide)) hs).trans ((if_neg hn).trans (rwv_of h85_37 hs).symm)
                  have hM2208 : rwv w2195 85 1 = u782 + 1 := (rwv_of (hr2193.but hb2197 (by decide)) (by decide)).trans ((if_pos rfl).trans (by omega))
                  have hM2209 : ∀ s, s < 7 → rwv w2195 85 s ≤ rwv w 85 s + 1 := fun s hs => by
                    by_cases z : s = 1
                    · subst z; omega
                    · rw [hM2207 s hs z]; omega
                  have hO2210 : ∀ j, (j < 50 + 2 * u782 ∨ 52 + 2 * u782 ≤ j) → j < 140 → rwv w2195 86 j = rwv w 86 j := fun j hj hl => (rwv_fr hF2198 (by decide)).trans (os2140 j hj hl)
                  have hl2212 : u782 < 4 → rwv w2195 86 (50 + (2 * u782)) = n1641 := fun h => (rwv_fr hF2198 (by decide)).trans (ix2141 h)
                  have hl2213 : u782 < 4 → rwv w2195 86 ((50 + (2 * u782)) + 1) = n2066 := fun h => (rwv_fr hF2198 (by decide)).trans (ix2142 h)
                  have hl2214 : FA w2127 ≠ 0 ∨ False := rg2143
                  have hl2215 : FA w2127 ≠ 0 ∨ (0 ≤ n1641 ∧ n1641 ≤ 99) := rg2144
                  have hl2216 : FA w2127 ≠ 0 ∨ False := rg2145
                  have hl2217 : FA w2127 ≠ 0 ∨ (1 ≤ n2066 ∧ n2066 ≤ 999) := rg2146
                  have hN2211 : FA w2195 ≠ 0 ∨ 4 ≤ u782 ∨ (1 ≤ rwv w2195 86 (50 + 2 * u782 + 1) ∧ rwv w2195 86 (50 + 2 * u782 + 1) ≤ 999) := by omega
                  have hX2218 : FA w2195 ≠ 0 ∨ u782 < 4 := by omega
                  have hD2219 : FA w2195 ≠ 0 ∨ (DATA w → DATA w2195) := by
                    by_cases z : FA w2195 ≠ 0
                    · exact Or.inl z
                    · exact Or.inr (fun hd => hd.s1 hM2207 hK785 hM2208 (hX2218.resolve_left z) hO2210 ((hN2211.resolve_left z).resolve_left (by have := hX2218.resolve_left z; omega)))
                  exact xg_e ⟨w2195, ⟨rfl, rfl⟩, xMnv.up (S := [85, 82]) hI2129 ((xFr.of (S := [85, 82]) hb2194 (by decide)).tr (xFr.of (S := [85, 82]) hb2197 (by decide))) (List.forall_mem_cons.mpr ⟨(show cpI 7 52 4294967295 (wget w2195 85) from ⟨_, (hr2193.but hb2197 (by decide)), xrb (by omega) (hb38)⟩), List.forall_mem_cons.mpr ⟨(show cp82 (wget w2195 82) from ⟨f82_2148, f82_2150, f82_2152, f82_2154, f82_2156, f82_2158, f82_2160, f82_2162, f82_2164, f82_2166 + 1, f82_2168, f82_2169, f82_2170, f82_2172, f82_2174, f82_2176, hk2196, by omega, by omega, by omega, by omega, by omega, by omega, by omega, by omega, by omega, by omega, by omega, by omega, by omega, by omega, by omega⟩), fun _ h => absurd h List.not_mem_nil⟩⟩), ((((((((((hF1583.up (by decide)).tr (hF1592.up (by decide))).tr (hF1640.up (by decide))).tr (hF1685.up (by decide))).tr (hF2041.up (by decide))).tr (hF2052.up (by decide))).tr (hF2065.up (by decide))).tr (hF2113.up (by decide))).tr (hF2130.up (by decide))).tr ((xFr.of (S := [82, 83, 85, 86, 87]) hb2194 (by decide)).tr (xFr.of (S := [82, 83, 85, 86, 87]) hb2197 (by decide)))), ⟨fun h => by have := pq2206.1 h; omega, (show fld w2195 82 10 = 0 ∨ FA w2195 ≠ 0 by omega), Or.inr ⟨by have := ms2147; omega, by omega, hM2209⟩, hD2219⟩⟩
                · refine xg_t (xg_icT (u := f82_2088) (v := 2) rfl xnm0 xnm0 (xj_neT hc2126)) ?_
                  refine xg_t (xg_blk (b := [(416, 1, 0, 0, 0, 0), (417, 3, 13, 140, 96, 183)]) rfl) ?_
                  refine xg_t (xg_aload (va := (2, 82)) rfl rfl) ?_
                  refine xg_cVv mX12_ends (vs := []) (rest := []) (cn1 := 0) (sl1 := 0) rfl (mEnds (hI2112) pk2117.2.2.2) rfl (hF2113.get (by decide) h82_2108) rfl rfl rfl rfl rfl rfl (fun w2220 hq2221 => ?_)
                  obtain ⟨hI2222, hF2223, hx2224⟩ := hq2221
                  obtain ⟨hv2225, hv2226, hv2227, hv2228⟩ := hx2224
                  have pk2229 : PK w2110 w2220 := ⟨fun _ => hv2225, by omega, by omega, Or.inr hv2225⟩
                  have pk2230 : PK w w2220 := PK.tr pk2117 pk2229
                  have os2231 : ∀ j, (j < 50 + 2 * u782 ∨ 52 + 2 * u782 ≤ j) → j < 140 → rwv w2220 86 j = rwv w 86 j := fun j hj hl => (rwv_fr hF2223 (by decide)).trans (os2118 j hj hl)
                  have ix2232 : u782 < 4 → rwv w2220 86 (50 + (2 * u782)) = n1641 := fun h => (rwv_fr hF2223 (by decide)).trans (ix2119 h)
                  have ix2233 : u782 < 4 → rwv w2220 86 ((50 + (2 * u782)) + 1) = n2066 := fun h => (rwv_fr hF2223 (by decide)).trans (hp2115 h)
                  have rg2234 : FA w2220 ≠ 0 ∨ False := rg2120.imp_left pk2229.1
                  have rg2235 : FA w2220 ≠ 0 ∨ (0 ≤ n1641 ∧ n1641 ≤ 99) := rg2121.imp_left pk2229.1
                  have rg2236 : FA w2220 ≠ 0 ∨ False := rg2122.imp_left pk2229.1
                  have rg2237 : FA w2220 ≠ 0 ∨ (1 ≤ n2066 ∧ n2066 ≤ 999) := rg2123.imp_left pk2229.1
                  have ms2238 : mu w2220 < mu w := Nat.lt_of_le_of_lt pk2229.2.1 ms2124
                  refine xg_t (xg_blk (b := [(420, 1, 0, 0, 0, 0), (421, 3, 1, 12, 11, 17), (424, 1, 2, 1, 0, 0), (425, 1, 39, 0, 0, 0), (426, 1, 10, 0, 0, 0), (427, 1, 3, 1, 0, 0), (428, 1, 11, 0, 0, 0), (429, 1, 17, 0, 0, 0), (430, 1, 0, 0, 0, 0), (431, 1, 19, 0, 0, 0), (432, 3, 1, 12, 14, 212), (435, 1, 3, 1, 0, 0), (436, 1, 11, 0, 0, 0), (437, 3, 14, 12, 14, 212), (440, 1, 12, 0, 0, 0)]) rfl) ?_
                  obtain ⟨f82_2239, f82_2241, f82_2243, f82_2245, f82_2247, f82_2249, f82_2251, f82_2253, f82_2255, f82_2257, f82_2259, f82_2260, f82_2261, f82_2263, f82_2265, f82_2267, h82_2269, hb2240, hb2242, hb2244, hb2246, hb2248, hb2250, hb2252, hb2254, hb2256, hb2258, hb2262, hb2264, hb2266, hb2268, hb2270⟩ := (hI2222 82 (by decide) (by decide) : cp82 (wget w2220 82))
                  have hf2271 : fld w2220 82 4 = f82_2243 := fld_of h82_2269
                  have hf2272 : fld w2220 82 5 = f82_2245 := fld_of h82_2269
                  have hf2273 : fld w2220 82 7 = f82_2249 := fld_of h82_2269
                  have hf2274 : fld w2220 82 10 = f82_2255 := fld_of h82_2269
                  have hf2275 : fld w2220 82 14 = f82_2257 := fld_of h82_2269
                  have hu2276 : mu w2220 = 2 * (fld w2220 82 4 - fld w2220 82 5) + min 1 (fld w2220 82 7) := rfl
                  have hf2277 := pk2230.2.2.1
                  have hl2278 : f82_2257 ≤ 1000 := by omega
                  refine xg_t (xg_aload (va := (2, 82)) rfl rfl) ?_
                  refine xg_t (xg_getf (va := (2, 85)) h82_2269 rfl) ?_
                  refine xg_t (xg_iload (va := (0, 1)) rfl rfl) ?_
                  refine xg_t (xg_dup2 rfl) ?_
                  refine xg_ialdB (n := 1) (B := 4294967295) (((((((((h85_37.fr hF1583 (by decide)).fr hF1592 (by decide)).fr hF1640 (by decide)).fr hF1685 (by decide)).fr hF2041 (by decide)).fr hF2052 (by decide)).fr hF2065 (by decide)).fr hF2113 (by decide)).fr hF2223 (by decide)) (hb38) xnm0 (by omega) (fun u2279 hu2280 he2281 => ?_)
                  have hl2282 : u2279 = u782 := by omega
                  refine xg_t (xg_const) ?_
                  refine xg_t (xg_iadd (u := u2279) (v := 1) (z := u2279 + 1) xnm0 xnm0 (by omega)) ?_
                  refine xg_iastK (n := 1) (u := u2279 + 1) (((((((((h85_37.fr hF1583 (by decide)).fr hF1592 (by decide)).fr hF1640 (by decide)).fr hF1685 (by decide)).fr hF2041 (by decide)).fr hF2052 (by decide)).fr hF2065 (by decide)).fr hF2113 (by decide)).fr hF2223 (by decide)) xnm0 xnm0 rfl (by omega) (fun w2283 hr2284 hb2285 => ?_)
                  refine xg_t (xg_aload (va := (2, 82)) rfl rfl) ?_
                  refine xg_t (xg_dup rfl) ?_
                  refine xg_t (xg_getf (va := (0, f82_2257)) (hb2285.get (by decide) h82_2269) rfl) ?_
                  refine xg_t (xg_const) ?_
                  refine xg_t (xg_iadd (u := f82_2257) (v := 1) (z := f82_2257 + 1) xnm0 xnm0 (by omega)) ?_
                  refine xg_putI (fl1 := [(2, 83), (2, 84), (0, f82_2239), (0, f82_2241), (0, f82_2243), (0, f82_2245), (0, f82_2247), (0, f82_2249), (0, f82_2251), (0, f82_2253), (0, f82_2255), (2, 85), (2, 86), (2, 87), (0, f82_2257 + 1), (2, 88), (2, 89), (2, 90), (2, 91), (2, 92), (2, 93), (2, 94), (4, f82_2259), (4, f82_2260), (0, f82_2261), (2, 95), (2, 96), (2, 97), (2, 98), (2, 99), (2, 100), (2, 101), (2, 102), (0, f82_2263), (2, 103), (2, 104), (2, 105), (2, 106), (2, 107), (2, 108), (2, 109), (0, f82_2265), (0, f82_2267), (2, 110), (2, 111), (2, 112), (2, 113)]) (hb2285.get (by decide) h82_2269) rfl rfl rfl (fun w2286 hk2287 hb2288 => ?_)
                  have hF2289 : xFr [82, 85] w2220 w2286 := ((xFr.of (S := [82, 85]) hb2285 (by decide)).tr (xFr.of (S := [82, 85]) hb2288 (by decide)))
                  have hA2290 := FA_fr hF2289 (by decide)
                  have hf2291 : fld w2286 82 4 = f82_2243 := fld_of hk2287
                  have hf2292 : fld w2286 82 5 = f82_2245 := fld_of hk2287
                  have hf2293 : fld w2286 82 7 = f82_2249 := fld_of hk2287
                  have hf2294 : fld w2286 82 10 = f82_2255 := fld_of hk2287
                  have hf2295 : fld w2286 82 14 = f82_2257 + 1 := fld_of hk2287
                  have hu2296 : mu w2286 = 2 * (fld w2286 82 4 - fld w2286 82 5) + min 1 (fld w2286 82 7) := rfl
                  have pq2297 := pk2230
                  unfold PK PS at pq2297
                  have hM2298 : ∀ s, s < 7 → s ≠ 1 → rwv w2286 85 s = rwv w 85 s := fun s hs hn => (rwv_of (hr2284.but hb2288 (by decide)) hs).trans ((if_neg hn).trans (rwv_of h85_37 hs).symm)
                  have hM2299 : rwv w2286 85 1 = u782 + 1 := (rwv_of (hr2284.but hb2288 (by decide)) (by decide)).trans ((if_pos rfl).trans (by omega))
                  have hM2300 : ∀ s, s < 7 → rwv w2286 85 s ≤ rwv w 85 s + 1 := fun s hs => by
                    by_cases z : s = 1
                    · subst z; omega
                    · rw [hM2298 s hs z]; omega
                  have hO2301 : ∀ j, (j < 50 + 2 * u782 ∨ 52 + 2 * u782 ≤ j) → j < 140 → rwv w2286 86 j = rwv w 86 j := fun j hj hl => (rwv_fr hF2289 (by decide)).trans (os2231 j hj hl)
                  have hl2303 : u782 < 4 → rwv w2286 86 (50 + (2 * u782)) = n1641 := fun h => (rwv_fr hF2289 (by decide)).trans (ix2232 h)
                  have hl2304 : u782 < 4 → rwv w2286 86 ((50 + (2 * u782)) + 1) = n2066 := fun h => (rwv_fr hF2289 (by decide)).trans (ix2233 h)
                  have hl2305 : FA w2220 ≠ 0 ∨ False := rg2234
                  have hl2306 : FA w2220 ≠ 0 ∨ (0 ≤ n1641 ∧ n1641 ≤ 99) := rg2235
                  have hl2307 : FA w2220 ≠ 0 ∨ False := rg2236
                  have hl2308 : FA w2220 ≠ 0 ∨ (1 ≤ n2066 ∧ n2066 ≤ 999) := rg2237
                  have hN2302 : FA w2286 ≠ 0 ∨ 4 ≤ u782 ∨ (1 ≤ rwv w2286 86 (50 + 2 * u782 + 1) ∧ rwv w2286 86 (50 + 2 * u782 + 1) ≤ 999) := by omega
                  have hX2309 : FA w2286 ≠ 0 ∨ u782 < 4 := by omega
                  have hD2310 : FA w2286 ≠ 0 ∨ (DATA w → DATA w2286) := by
                    by_cases z : FA w2286 ≠ 0
                    · exact Or.inl z
                    · exact Or.inr (fun hd => hd.s1 hM2298 hK785 hM2299 (hX2309.resolve_left z) hO2301 ((hN2302.resolve_left z).resolve_left (by have := hX2309.resolve_left z; omega)))
                  exact xg_e ⟨w2286, ⟨rfl, rfl⟩, xMnv.up (S := [85, 82]) hI2222 ((xFr.of (S := [85, 82]) hb2285 (by decide)).tr (xFr.of (S := [85, 82]) hb2288 (by decide))) (List.forall_mem_cons.mpr ⟨(show cpI 7 52 4294967295 (wget w2286 85) from ⟨_, (hr2284.but hb2288 (by decide)), xrb (by omega) (hb38)⟩), List.forall_mem_cons.mpr ⟨(show cp82 (wget w2286 82) from ⟨f82_2239, f82_2241, f82_2243, f82_2245, f82_2247, f82_2249, f82_2251, f82_2253, f82_2255, f82_2257 + 1, f82_2259, f82_2260, f82_2261, f82_2263, f82_2265, f82_2267, hk2287, by omega, by omega, by omega, by omega, by omega, by omega, by omega, by omega, by omega, by omega, by omega, by omega, by omega, by omega, by omega⟩), fun _ h => absurd h List.not_mem_nil⟩⟩), ((((((((((hF1583.up (by decide)).tr (hF1592.up (by decide))).tr (hF1640.up (by decide))).tr (hF1685.up (by decide))).tr (hF2041.up (by decide))).tr (hF2052.up (by decide))).tr (hF2065.up (by decide))).tr (hF2113.up (by decide))).tr (hF2223.up (by decide))).tr ((xFr.of (S := [82, 83, 85, 86, 87]) hb2285 (by decide)).tr (xFr.of (S := [82, 83, 85, 86, 87]) hb2288 (by decide)))), ⟨fun h => by have := pq2297.1 h; omega, (show fld w2286 82 10 = 0 ∨ FA w2286 ≠ 0 by omega), Or.inr ⟨by have := ms2238; omega, by omega, hM2300⟩, hD2310⟩⟩
              · refine xg_t (xg_ifT (u := f82_2094) rfl xnm0 (xj_neT hc2125)) ?_
                refine xg_t (xg_blk (b := [(416, 1, 0, 0, 0, 0), (417, 3, 13, 140, 96, 183)]) rfl) ?_
                refine xg_t (xg_aload (va := (2, 82)) rfl rfl) ?_
                refine xg_cVv mX12_ends (vs := []) (rest := []) (cn1 := 0) (sl1 := 0) rfl (mEnds (hI2112) pk2117.2.2.2) rfl (hF2113.get (by decide) h82_2108) rfl rfl rfl rfl rfl rfl (fun w2311 hq2312 => ?_)
                obtain ⟨hI2313, hF2314, hx2315⟩ := hq2312
                obtain ⟨hv2316, hv2317, hv2318, hv2319⟩ := hx2315
                have pk2320 : PK w2110 w2311 := ⟨fun _ => hv2316, by omega, by omega, Or.inr hv2316⟩
                have pk2321 : PK w w2311 := PK.tr pk2117 pk2320
                have os2322 : ∀ j, (j < 50 + 2 * u782 ∨ 52 + 2 * u782 ≤ j) → j < 140 → rwv w2311 86 j = rwv w 86 j := fun j hj hl => (rwv_fr hF2314 (by decide)).trans (os2118 j hj hl)
                have ix2323 : u782 < 4 → rwv w2311 86 (50 + (2 * u782)) = n1641 := fun h => (rwv_fr hF2314 (by decide)).trans (ix2119 h)
                have ix2324 : u782 < 4 → rwv w2311 86 ((50 + (2 * u782)) + 1) = n2066 := fun h => (rwv_fr hF2314 (by decide)).trans (hp2115 h)
                have rg2325 : FA w2311 ≠ 0 ∨ False := rg2120.imp_left pk2320.1
                have rg2326 : FA w2311 ≠ 0 ∨ (0 ≤ n1641 ∧ n1641 ≤ 99) := rg2121.imp_left pk2320.1
                have rg2327 : FA w2311 ≠ 0 ∨ False := rg2122.imp_left pk2320.1
                have rg2328 : FA w2311 ≠ 0 ∨ (1 ≤ n2066 ∧ n2066 ≤ 999) := rg2123.imp_left pk2320.1
                have ms2329 : mu w2311 < mu w := Nat.lt_of_le_of_lt pk2320.2.1 ms2124
                refine xg_t (xg_blk (b := [(420, 1, 0, 0, 0, 0), (421, 3, 1, 12, 11, 17), (424, 1, 2, 1, 0, 0), (425, 1, 39, 0, 0, 0), (426, 1, 10, 0, 0, 0), (427, 1, 3, 1, 0, 0), (428, 1, 11, 0, 0, 0), (429, 1, 17, 0, 0, 0), (430, 1, 0, 0, 0, 0), (431, 1, 19, 0, 0, 0), (432, 3, 1, 12, 14, 212), (435, 1, 3, 1, 0, 0), (436, 1, 11, 0, 0, 0), (437, 3, 14, 12, 14, 212), (440, 1, 12, 0, 0, 0)]) rfl) ?_
                obtain ⟨f82_2330, f82_2332, f82_2334, f82_2336, f82_2338, f82_2340, f82_2342, f82_2344, f82_2346, f82_2348, f82_2350, f82_2351, f82_2352, f82_2354, f82_2356, f82_2358, h82_2360, hb2331, hb2333, hb2335, hb2337, hb2339, hb2341, hb2343, hb2345, hb2347, hb2349, hb2353, hb2355, hb2357, hb2359, hb2361⟩ := (hI2313 82 (by decide) (by decide) : cp82 (wget w2311 82))
                have hf2362 : fld w2311 82 4 = f82_2334 := fld_of h82_2360
                have hf2363 : fld w2311 82 5 = f82_2336 := fld_of h82_2360
                have hf2364 : fld w2311 82 7 = f82_2340 := fld_of h82_2360
                have hf2365 : fld w2311 82 10 = f82_2346 := fld_of h82_2360
                have hf2366 : fld w2311 82 14 = f82_2348 := fld_of h82_2360
                have hu2367 : mu w2311 = 2 * (fld w2311 82 4 - fld w2311 82 5) + min 1 (fld w2311 82 7) := rfl
                have hf2368 := pk2321.2.2.1
                have hl2369 : f82_2348 ≤ 1000 := by omega
                refine xg_t (xg_aload (va := (2, 82)) rfl rfl) ?_
                refine xg_t (xg_getf (va := (2, 85)) h82_2360 rfl) ?_
                refine xg_t (xg_iload (va := (0, 1)) rfl rfl) ?_
                refine xg_t (xg_dup2 rfl) ?_
                refine xg_ialdB (n := 1) (B := 4294967295) (((((((((h85_37.fr hF1583 (by decide)).fr hF1592 (by decide)).fr hF1640 (by decide)).fr hF1685 (by decide)).fr hF2041 (by decide)).fr hF2052 (by decide)).fr hF2065 (by decide)).fr hF2113 (by decide)).fr hF2314 (by decide)) (hb38) xnm0 (by omega) (fun u2370 hu2371 he2372 => ?_)
                have hl2373 : u2370 = u782 := by omega
                refine xg_t (xg_const) ?_
                refine xg_t (xg_iadd (u := u2370) (v := 1) (z := u2370 + 1) xnm0 xnm0 (by omega)) ?_
                refine xg_iastK (n := 1) (u := u2370 + 1) (((((((((h85_37.fr hF1583 (by decide)).fr hF1592 (by decide)).fr hF1640 (by decide)).fr hF1685 (by decide)).fr hF2041 (by decide)).fr hF2052 (by decide)).fr hF2065 (by decide)).fr hF2113 (by decide)).fr hF2314 (by decide)) xnm0 xnm0 rfl (by omega) (fun w2374 hr2375 hb2376 => ?_)
                refine xg_t (xg_aload (va := (2, 82)) rfl rfl) ?_
                refine xg_t (xg_dup rfl) ?_
                refine xg_t (xg_getf (va := (0, f82_2348)) (hb2376.get (by decide) h82_2360) rfl) ?_
                refine xg_t (xg_const) ?_
                refine xg_t (xg_iadd (u := f82_2348) (v := 1) (z := f82_2348 + 1) xnm0 xnm0 (by omega)) ?_
                refine xg_putI (fl1 := [(2, 83), (2, 84), (0, f82_2330), (0, f82_2332), (0, f82_2334), (0, f82_2336), (0, f82_2338), (0, f82_2340), (0, f82_2342), (0, f82_2344), (0, f82_2346), (2, 85), (2, 86), (2, 87), (0, f82_2348 + 1), (2, 88), (2, 89), (2, 90), (2, 91), (2, 92), (2, 93), (2, 94), (4, f82_2350), (4, f82_2351), (0, f82_2352), (2, 95), (2, 96), (2, 97), (2, 98), (2, 99), (2, 100), (2, 101), (2, 102), (0, f82_2354), (2, 103), (2, 104), (2, 105), (2, 106), (2, 107), (2, 108), (2, 109), (0, f82_2356), (0, f82_2358), (2, 110), (2, 111), (2, 112), (2, 113)]) (hb2376.get (by decide) h82_2360) rfl rfl rfl (fun w2377 hk2378 hb2379 => ?_)
                have hF2380 : xFr [82, 85] w2311 w2377 := ((xFr.of (S := [82, 85]) hb2376 (by decide)).tr (xFr.of (S := [82, 85]) hb2379 (by decide)))
                have hA2381 := FA_fr hF2380 (by decide)
                have hf2382 : fld w2377 82 4 = f82_2334 := fld_of hk2378
                have hf2383 : fld w2377 82 5 = f82_2336 := fld_of hk2378
                have hf2384 : fld w2377 82 7 = f82_2340 := fld_of hk2378
                have hf2385 : fld w2377 82 10 = f82_2346 := fld_of hk2378
                have hf2386 : fld w2377 82 14 = f82_2348 + 1 := fld_of hk2378
                have hu2387 : mu w2377 = 2 * (fld w2377 82 4 - fld w2377 82 5) + min 1 (fld w2377 82 7) := rfl
                have pq2388 := pk2321
                unfold PK PS at pq2388
                have hM2389 : ∀ s, s < 7 → s ≠ 1 → rwv w2377 85 s = rwv w 85 s := fun s hs hn => (rwv_of (hr2375.but hb2379 (by decide)) hs).trans ((if_neg hn).trans (rwv_of h85_37 hs).symm)
                have hM2390 : rwv w2377 85 1 = u782 + 1 := (rwv_of (hr2375.but hb2379 (by decide)) (by decide)).trans ((if_pos rfl).trans (by omega))
                have hM2391 : ∀ s, s < 7 → rwv w2377 85 s ≤ rwv w 85 s + 1 := fun s hs => by
                  by_cases z : s = 1
                  · subst z; omega
                  · rw [hM2389 s hs z]; omega
                have hO2392 : ∀ j, (j < 50 + 2 * u782 ∨ 52 + 2 * u782 ≤ j) → j < 140 → rwv w2377 86 j = rwv w 86 j := fun j hj hl => (rwv_fr hF2380 (by decide)).trans (os2322 j hj hl)
                have hl2394 : u782 < 4 → rwv w2377 86 (50 + (2 * u782)) = n1641 := fun h => (rwv_fr hF2380 (by decide)).trans (ix2323 h)
                have hl2395 : u782 < 4 → rwv w2377 86 ((50 + (2 * u782)) + 1) = n2066 := fun h => (rwv_fr hF2380 (by decide)).trans (ix2324 h)
                have hl2396 : FA w2311 ≠ 0 ∨ False := rg2325
                have hl2397 : FA w2311 ≠ 0 ∨ (0 ≤ n1641 ∧ n1641 ≤ 99) := rg2326
                have hl2398 : FA w2311 ≠ 0 ∨ False := rg2327
                have hl2399 : FA w2311 ≠ 0 ∨ (1 ≤ n2066 ∧ n2066 ≤ 999) := rg2328
                have hN2393 : FA w2377 ≠ 0 ∨ 4 ≤ u782 ∨ (1 ≤ rwv w2377 86 (50 + 2 * u782 + 1) ∧ rwv w2377 86 (50 + 2 * u782 + 1) ≤ 999) := by omega
                have hX2400 : FA w2377 ≠ 0 ∨ u782 < 4 := by omega
                have hD2401 : FA w2377 ≠ 0 ∨ (DATA w → DATA w2377) := by
                  by_cases z : FA w2377 ≠ 0
                  · exact Or.inl z
                  · exact Or.inr (fun hd => hd.s1 hM2389 hK785 hM2390 (hX2400.resolve_left z) hO2392 ((hN2393.resolve_left z).resolve_left (by have := hX2400.resolve_left z; omega)))
                exact xg_e ⟨w2377, ⟨rfl, rfl⟩, xMnv.up (S := [85, 82]) hI2313 ((xFr.of (S := [85, 82]) hb2376 (by decide)).tr (xFr.of (S := [85, 82]) hb2379 (by decide))) (List.forall_mem_cons.mpr ⟨(show cpI 7 52 4294967295 (wget w2377 85) from ⟨_, (hr2375.but hb2379 (by decide)), xrb (by omega) (hb38)⟩), List.forall_mem_cons.mpr ⟨(show cp82 (wget w2377 82) from ⟨f82_2330, f82_2332, f82_2334, f82_2336, f82_2338, f82_2340, f82_2342, f82_2344, f82_2346, f82_2348 + 1, f82_2350, f82_2351, f82_2352, f82_2354, f82_2356, f82_2358, hk2378, by omega, by omega, by omega, by omega, by omega, by omega, by omega, by omega, by omega, by omega, by omega, by omega, by omega, by omega, by omega⟩), fun _ h => absurd h List.not_mem_nil⟩⟩), ((((((((((hF1583.up (by decide)).tr (hF1592.up (by decide))).tr (hF1640.up (by decide))).tr (hF1685.up (by decide))).tr (hF2041.up (by decide))).tr (hF2052.up (by decide))).tr (hF2065.up (by decide))).tr (hF2113.up (by decide))).tr (hF2314.up (by decide))).tr ((xFr.of (S := [82, 83, 85, 86, 87]) hb2376 (by decide)).tr (xFr.of (S := [82, 83, 85, 86, 87]) hb2379 (by decide)))), ⟨fun h => by have := pq2388.1 h; omega, (show fld w2377 82 10 = 0 ∨ FA w2377 ≠ 0 by omega), Or.inr ⟨by have := ms2329; omega, by omega, hM2391⟩, hD2401⟩⟩
        · refine xg_t (xg_aload (va := (2, 82)) rfl rfl) ?_
          refine xg_t (xg_getf (va := (2, 85)) h82_31 rfl) ?_
          refine xg_t (xg_iload (va := (0, 2)) rfl rfl) ?_
          refine xg_ialdB (n := 2) (B := 4294967295) h85_37 (hb38) xnm0 (by omega) (fun u2402 hu2403 he2404 => ?_)
          have hK2405 : rwv w 85 2 = u2402 := (rwv_of h85_37 (by decide)).trans he2404
          have hm2406 := hmb 2 (by decide)
          have hl2407 : u2402 ≤ 1000 := by omega
          refine xg_t (xg_istore (l1 := [(2, (0, f82_9)), (1, (0, 2)), (0, (2, 82))]) rfl rfl rfl) ?_
          refine xg_t (xg_iload (va := (0, u2402)) rfl rfl) ?_
          refine xg_t (xg_iload (va := (0, 2)) rfl rfl) ?_
          refine xg_t (xg_cSr mX12_mostOf (vs := [(0, 2)]) (rest := [(0, u2402)]) (rs := [(0, 6), (0, u2402)]) (cn1 := 0) (sl1 := 0) rfl (mMostR2) rfl rfl rfl rfl rfl rfl rfl rfl) ?_
          by_cases hc2408 : u2402 < 6
          · refine xg_t (xg_icT (u := u2402) (v := 6) rfl xnm0 xnm0 (xj_ltT hc2408 (by omega))) ?_
            refine xg_t (xg_blk (b := [(64, 1, 0, 0, 0, 0), (65, 3, 13, 110, 96, 190), (68, 1, 2, 1, 0, 0), (69, 39, 33, 362, 0, 9)]) rfl) ?_
            refine xg_t (xg_aload (va := (2, 82)) rfl rfl) ?_
            refine xg_cVv mX12_advance (vs := []) (rest := []) (cn1 := 0) (sl1 := 0) rfl (mAdvance (hI)) rfl h82_31 rfl rfl rfl rfl rfl rfl (fun w2409 hq2410 => ?_)
            obtain ⟨hI2411, hF2412, hx2413⟩ := hq2410
            obtain ⟨hv2414, hv2415, hv2416, hv2417⟩ := hx2413
            have hf2419 := FA_fr hF2412 (by decide)
            have hs2420 := (PK.rf hps).2.2.2
            unfold PS at hs2420
            have pk2418 : PK w w2409 := ⟨fun _ => by omega, hv2414, hv2417, (show fld w2409 82 10 = 0 ∨ FA w2409 ≠ 0 by omega)⟩
            have pk2421 : PK w w2409 := PK.tr (PK.rf hps) pk2418
            have os2422 : ∀ j, (j < 60 + 2 * u2402 ∨ 62 + 2 * u2402 ≤ j) → j < 140 → rwv w2409 86 j = rwv w 86 j := fun j hj hl => (rwv_fr hF2412 (by decide)).trans ((fun j _ _ => rfl) j hj hl)
            have ms2423 : mu w2409 < mu w := Nat.lt_of_lt_of_le (hv2415 (by omega)) (PK.rf hps).2.1
            refine xg_t (xg_iload (va := (0, 2)) rfl rfl) ?_
            refine xg_t (xg_swt (ks := [(0, 108), (1, 116), (2, 180), (3, 221), (4, 273), (5, 326)]) (u := 2) (z := 180) rfl rfl rfl xnm0 (xsw_n (by omega) (xsw_n (by omega) (xsw_y rfl)))) ?_
            refine xg_t (xg_blk (b := [(180, 1, 3, 0, 0, 0), (181, 2, 15, 4, 0, 0)]) rfl) ?_
            refine xg_t (xg_const) ?_
            refine xg_t (xg_istore (l1 := [(3, (0, u2402)), (2, (0, f82_9)), (1, (0, 2)), (0, (2, 82))]) rfl rfl rfl) ?_
            refine xg_t (xg_blk (b := [(183, 2, 2, 4, 0, 0), (185, 1, 3, 2, 0, 0), (186, 3, 6, 218, 3, 0), (189, 1, 0, 0, 0, 0), (190, 1, 2, 1, 0, 0), (191, 1, 2, 3, 0, 0), (192, 2, 4, 60, 0, 0), (194, 1, 3, 2, 0, 0), (195, 1, 2, 3, 0, 0), (196, 1, 16, 0, 0, 0), (197, 1, 11, 0, 0, 0), (198, 2, 2, 4, 0, 0), (200, 1, 11, 0, 0, 0), (201, 1, 0, 0, 0, 0), (202, 1, 3, 1, 0, 0), (203, 3, 5, 9999, 0, 0), (206, 3, 13, 199, 96, 196), (209, 3, 13, 211, 96, 200), (212, 3, 9, 4, 1, 0), (215, 3, 8, 183, 0, 0)]) rfl) ?_
            refine xg_t (xg_iload (va := (0, 0)) rfl rfl) ?_
            refine xg_t (xg_const) ?_
            refine xg_t (xg_icF (u := 0) (v := 2) rfl xnm0 xnm0 (by decide)) ?_
            refine xg_t (xg_aload (va := (2, 82)) rfl rfl) ?_
            refine xg_t (xg_iload (va := (0, 2)) rfl rfl) ?_
            refine xg_t (xg_iload (va := (0, u2402)) rfl rfl) ?_
            refine xg_t (xg_bip) ?_
            refine xg_t (xg_const) ?_
            refine xg_t (xg_iload (va := (0, u2402)) rfl rfl) ?_
            refine xg_t (xg_imul (u := 2) (v := u2402) (z := 2 * u2402) xnm0 xnm0 (by omega)) ?_
            refine xg_t (xg_iadd (u := 60) (v := 2 * u2402) (z := 60 + (2 * u2402)) xnm0 xnm0 (by omega)) ?_
            refine xg_t (xg_iload (va := (0, 0)) rfl rfl) ?_
            refine xg_t (xg_iadd (u := 60 + (2 * u2402)) (v := 0) (z := (60 + (2 * u2402)) + 0) xnm0 xnm0 (by omega)) ?_
            refine xg_t (xg_aload (va := (2, 82)) rfl rfl) ?_
            refine xg_t (xg_const) ?_
            refine xg_t (xg_sip) ?_
            obtain ⟨f82_2424, f82_2426, f82_2428, f82_2430, f82_2432, f82_2434, f82_2436, f82_2438, f82_2440, f82_2442, f82_2444, f82_2445, f82_2446, f82_2448, f82_2450, f82_2452, h82_2454, hb2425, hb2427, hb2429, hb2431, hb2433, hb2435, hb2437, hb2439, hb2441, hb2443, hb2447, hb2449, hb2451, hb2453, hb2455⟩ := (hI2411 82 (by decide) (by decide) : cp82 (wget w2409 82))
            refine xg_cVi mX12_numbered (vs := [(0, 1), (0, 9999)]) (rest := [(0, (60 + (2 * u2402)) + 0), (0, u2402), (0, 2), (2, 82)]) (cn1 := 0) (sl1 := 0) rfl (mNumbered (hI2411) (by omega) (by omega) pk2421.2.2.2) rfl h82_2454 rfl rfl rfl rfl rfl rfl (fun n2460 w2456 hq2457 => ?_)
            obtain ⟨hn2461, hI2458, hF2459⟩ := hq2457
            obtain ⟨hn2462, hn2463, hn2464⟩ := hn2461
            have pk2465 : PK w w2456 := PK.tr pk2421 hn2463
            have os2466 : ∀ j, (j < 60 + 2 * u2402 ∨ 62 + 2 * u2402 ≤ j) → j < 140 → rwv w2456 86 j = rwv w 86 j := fun j hj hl => (rwv_fr hF2459 (by decide)).trans (os2422 j hj hl)
            have ms2467 : mu w2456 < mu w := Nat.lt_of_le_of_lt hn2463.2.1 ms2423
            obtain ⟨f82_2468, f82_2470, f82_2472, f82_2474, f82_2476, f82_2478, f82_2480, f82_2482, f82_2484, f82_2486, f82_2488, f82_2489, f82_2490, f82_2492, f82_2494, f82_2496, h82_2498, hb2469, hb2471, hb2473, hb2475, hb2477, hb2479, hb2481, hb2483, hb2485, hb2487, hb2491, hb2493, hb2495, hb2497, hb2499⟩ := (hI2458 82 (by decide) (by decide) : cp82 (wget w2456 82))
            refine xg_cVv mX12_puts (vs := [(0, 2), (0, u2402), (0, (60 + (2 * u2402)) + 0), (0, n2460)]) (rest := []) (cn1 := 0) (sl1 := 0) rfl (mPuts2 (hI2458) (by omega) (by omega) (by omega) (fun _ => by omega)) rfl h82_2498 rfl rfl rfl rfl rfl rfl (fun w2500 hq2501 => ?_)
            obtain ⟨hI2502, hF2503, hx2504⟩ := hq2501
            obtain ⟨hp2505, hp2506⟩ := hx2504
            have pk2507 : PK w w2500 := PK.tr pk2465 (PK.fr hF2503 (by decide) (by decide) pk2465.2.2.2)
            have os2508 : ∀ j, (j < 60 + 2 * u2402 ∨ 62 + 2 * u2402 ≤ j) → j < 140 → rwv w2500 86 j = rwv w 86 j := fun j hj hl => (hp2506 j (by omega) hl).trans (os2466 j hj hl)
            have rg2509 : FA w2500 ≠ 0 ∨ (1 ≤ n2460 ∧ n2460 ≤ 9999) := hn2464.imp_left (PK.fr hF2503 (by decide) (by decide) pk2465.2.2.2).1
            have ms2510 : mu w2500 < mu w := Nat.lt_of_le_of_lt (PK.fr hF2503 (by decide) (by decide) pk2465.2.2.2).2.1 ms2467
            refine xg_t (xg_iinc (u := 0) (z := 1) (l1 := [(3, (0, u2402)), (2, (0, f82_9)), (1, (0, 2)), (0, (2, 82))]) rfl rfl (by decide) rfl) ?_
            refine xg_t (xg_goto) ?_
            refine xg_t (xg_blk (b := [(183, 2, 2, 4, 0, 0), (185, 1, 3, 2, 0, 0), (186, 3, 6, 218, 3, 0), (189, 1, 0, 0, 0, 0), (190, 1, 2, 1, 0, 0), (191, 1, 2, 3, 0, 0), (192, 2, 4, 60, 0, 0), (194, 1, 3, 2, 0, 0), (195, 1, 2, 3, 0, 0), (196, 1, 16, 0, 0, 0), (197, 1, 11, 0, 0, 0), (198, 2, 2, 4, 0, 0), (200, 1, 11, 0, 0, 0), (201, 1, 0, 0, 0, 0), (202, 1, 3, 1, 0, 0), (203, 3, 5, 9999, 0, 0), (206, 3, 13, 199, 96, 196), (209, 3, 13, 211, 96, 200), (212, 3, 9, 4, 1, 0), (215, 3, 8, 183, 0, 0)]) rfl) ?_
            refine xg_t (xg_iload (va := (0, 1)) rfl rfl) ?_
            refine xg_t (xg_const) ?_
            refine xg_t (xg_icF (u := 1) (v := 2) rfl xnm0 xnm0 (by decide)) ?_
            refine xg_t (xg_aload (va := (2, 82)) rfl rfl) ?_
            refine xg_t (xg_iload (va := (0, 2)) rfl rfl) ?_
            refine xg_t (xg_iload (va := (0, u2402)) rfl rfl) ?_
            refine xg_t (xg_bip) ?_
            refine xg_t (xg_const) ?_
            refine xg_t (xg_iload (va := (0, u2402)) rfl rfl) ?_
            refine xg_t (xg_imul (u := 2) (v := u2402) (z := 2 * u2402) xnm0 xnm0 (by omega)) ?_
            refine xg_t (xg_iadd (u := 60) (v := 2 * u2402) (z := 60 + (2 * u2402)) xnm0 xnm0 (by omega)) ?_
            refine xg_t (xg_iload (va := (0, 1)) rfl rfl) ?_
            refine xg_t (xg_iadd (u := 60 + (2 * u2402)) (v := 1) (z := (60 + (2 * u2402)) + 1) xnm0 xnm0 (by omega)) ?_
            refine xg_t (xg_aload (va := (2, 82)) rfl rfl) ?_
            refine xg_t (xg_const) ?_
            refine xg_t (xg_sip) ?_
            refine xg_cVi mX12_numbered (vs := [(0, 1), (0, 9999)]) (rest := [(0, (60 + (2 * u2402)) + 1), (0, u2402), (0, 2), (2, 82)]) (cn1 := 0) (sl1 := 0) rfl (mNumbered (hI2502) (by omega) (by omega) pk2507.2.2.2) rfl (hF2503.get (by decide) h82_2498) rfl rfl rfl rfl rfl rfl (fun n2515 w2511 hq2512 => ?_)
            obtain ⟨hn2516, hI2513, hF2514⟩ := hq2512
            obtain ⟨hn2517, hn2518, hn2519⟩ := hn2516
            have pk2520 : PK w w2511 := PK.tr pk2507 hn2518
            have os2521 : ∀ j, (j < 60 + 2 * u2402 ∨ 62 + 2 * u2402 ≤ j) → j < 140 → rwv w2511 86 j = rwv w 86 j := fun j hj hl => (rwv_fr hF2514 (by decide)).trans (os2508 j hj hl)
            have ix2522 : u2402 < 6 → rwv w2511 86 ((60 + (2 * u2402)) + 0) = n2460 := fun h => (rwv_fr hF2514 (by decide)).trans (hp2505 h)
            have rg2523 : FA w2511 ≠ 0 ∨ (1 ≤ n2460 ∧ n2460 ≤ 9999) := rg2509.imp_left hn2518.1
            have ms2524 : mu w2511 < mu w := Nat.lt_of_le_of_lt hn2518.2.1 ms2510
            obtain ⟨f82_2525, f82_2527, f82_2529, f82_2531, f82_2533, f82_2535, f82_2537, f82_2539, f82_2541, f82_2543, f82_2545, f82_2546, f82_2547, f82_2549, f82_2551, f82_2553, h82_2555, hb2526, hb2528, hb2530, hb2532, hb2534, hb2536, hb2538, hb2540, hb2542, hb2544, hb2548, hb2550, hb2552, hb2554, hb2556⟩ := (hI2513 82 (by decide) (by decide) : cp82 (wget w2511 82))
            refine xg_cVv mX12_puts (vs := [(0, 2), (0, u2402), (0, (60 + (2 * u2402)) + 1), (0, n2515)]) (rest := []) (cn1 := 0) (sl1 := 0) rfl (mPuts2 (hI2513) (by omega) (by omega) (by omega) (fun _ => by omega)) rfl h82_2555 rfl rfl rfl rfl rfl rfl (fun w2557 hq2558 => ?_)
            obtain ⟨hI2559, hF2560, hx2561⟩ := hq2558
            obtain ⟨hp2562, hp2563⟩ := hx2561
            have pk2564 : PK w w2557 := PK.tr pk2520 (PK.fr hF2560 (by decide) (by decide) pk2520.2.2.2)
            have os2565 : ∀ j, (j < 60 + 2 * u2402 ∨ 62 + 2 * u2402 ≤ j) → j < 140 → rwv w2557 86 j = rwv w 86 j := fun j hj hl => (hp2563 j (by omega) hl).trans (os2521 j hj hl)
            have ix2566 : u2402 < 6 → rwv w2557 86 ((60 + (2 * u2402)) + 0) = n2460 := fun h => (hp2563 _ (by omega) (by omega)).trans (ix2522 h)
            have rg2567 : FA w2557 ≠ 0 ∨ (1 ≤ n2460 ∧ n2460 ≤ 9999) := rg2523.imp_left (PK.fr hF2560 (by decide) (by decide) pk2520.2.2.2).1
            have rg2568 : FA w2557 ≠ 0 ∨ (1 ≤ n2515 ∧ n2515 ≤ 9999) := hn2519.imp_left (PK.fr hF2560 (by decide) (by decide) pk2520.2.2.2).1
            have ms2569 : mu w2557 < mu w := Nat.lt_of_le_of_lt (PK.fr hF2560 (by decide) (by decide) pk2520.2.2.2).2.1 ms2524
            refine xg_t (xg_iinc (u := 1) (z := 2) (l1 := [(3, (0, u2402)), (2, (0, f82_9)), (1, (0, 2)), (0, (2, 82))]) rfl rfl (by decide) rfl) ?_
            refine xg_t (xg_goto) ?_
            refine xg_t (xg_blk (b := [(183, 2, 2, 4, 0, 0), (185, 1, 3, 2, 0, 0), (186, 3, 6, 218, 3, 0), (189, 1, 0, 0, 0, 0), (190, 1, 2, 1, 0, 0), (191, 1, 2, 3, 0, 0), (192, 2, 4, 60, 0, 0), (194, 1, 3, 2, 0, 0), (195, 1, 2, 3, 0, 0), (196, 1, 16, 0, 0, 0), (197, 1, 11, 0, 0, 0), (198, 2, 2, 4, 0, 0), (200, 1, 11, 0, 0, 0), (201, 1, 0, 0, 0, 0), (202, 1, 3, 1, 0, 0), (203, 3, 5, 9999, 0, 0), (206, 3, 13, 199, 96, 196), (209, 3, 13, 211, 96, 200), (212, 3, 9, 4, 1, 0), (215, 3, 8, 183, 0, 0)]) rfl) ?_
            refine xg_t (xg_iload (va := (0, 2)) rfl rfl) ?_
            refine xg_t (xg_const) ?_
            refine xg_t (xg_icT (u := 2) (v := 2) rfl xnm0 xnm0 (by decide)) ?_
            refine xg_t (xg_blk (b := [(218, 3, 8, 394, 0, 0)]) rfl) ?_
            refine xg_t (xg_goto) ?_
            refine xg_t (xg_blk (b := [(394, 1, 0, 0, 0, 0), (395, 3, 1, 12, 10, 180), (398, 3, 7, 416, 1, 0), (401, 1, 0, 0, 0, 0), (402, 3, 1, 12, 7, 151), (405, 1, 3, 2, 0, 0), (406, 3, 6, 416, 1, 0), (409, 1, 0, 0, 0, 0), (410, 3, 13, 110, 96, 190), (413, 3, 8, 420, 0, 0)]) rfl) ?_
            refine xg_t (xg_aload (va := (2, 82)) rfl rfl) ?_
            refine xg_t (xg_getf (va := (0, f82_2541)) (hF2560.get (by decide) h82_2555) rfl) ?_
            by_cases hc2570 : f82_2541 = 0
            · refine xg_t (xg_ifF (u := f82_2541) rfl xnm0 (xj_neF hc2570)) ?_
              refine xg_t (xg_aload (va := (2, 82)) rfl rfl) ?_
              refine xg_t (xg_getf (va := (0, f82_2535)) (hF2560.get (by decide) h82_2555) rfl) ?_
              refine xg_t (xg_const) ?_
              by_cases hc2571 : f82_2535 = 2
              · refine xg_t (xg_icF (u := f82_2535) (v := 2) rfl xnm0 xnm0 (xj_neF hc2571)) ?_
                refine xg_t (xg_aload (va := (2, 82)) rfl rfl) ?_
                refine xg_cVv mX12_advance (vs := []) (rest := []) (cn1 := 0) (sl1 := 0) rfl (mAdvance (hI2559)) rfl (hF2560.get (by decide) h82_2555) rfl rfl rfl rfl rfl rfl (fun w2572 hq2573 => ?_)
                obtain ⟨hI2574, hF2575, hx2576⟩ := hq2573
                obtain ⟨hv2577, hv2578, hv2579, hv2580⟩ := hx2576
                have hf2582 := FA_fr hF2575 (by decide)
                have hs2583 := pk2564.2.2.2
                unfold PS at hs2583
                have pk2581 : PK w2557 w2572 := ⟨fun _ => by omega, hv2577, hv2580, (show fld w2572 82 10 = 0 ∨ FA w2572 ≠ 0 by omega)⟩
                have pk2584 : PK w w2572 := PK.tr pk2564 pk2581
                have os2585 : ∀ j, (j < 60 + 2 * u2402 ∨ 62 + 2 * u2402 ≤ j) → j < 140 → rwv w2572 86 j = rwv w 86 j := fun j hj hl => (rwv_fr hF2575 (by decide)).trans (os2565 j hj hl)
                have ix2586 : u2402 < 6 → rwv w2572 86 ((60 + (2 * u2402)) + 0) = n2460 := fun h => (rwv_fr hF2575 (by decide)).trans (ix2566 h)
                have ix2587 : u2402 < 6 → rwv w2572 86 ((60 + (2 * u2402)) + 1) = n2515 := fun h => (rwv_fr hF2575 (by decide)).trans (hp2562 h)
                have rg2588 : FA w2572 ≠ 0 ∨ (1 ≤ n2460 ∧ n2460 ≤ 9999) := rg2567.imp_left pk2581.1
                have rg2589 : FA w2572 ≠ 0 ∨ (1 ≤ n2515 ∧ n2515 ≤ 9999) := rg2568.imp_left pk2581.1
                have ms2590 : mu w2572 < mu w := Nat.lt_of_le_of_lt pk2581.2.1 ms2569
                refine xg_t (xg_goto) ?_
                refine xg_t (xg_blk (b := [(420, 1, 0, 0, 0, 0), (421, 3, 1, 12, 11, 17), (424, 1, 2, 1, 0, 0), (425, 1, 39, 0, 0, 0), (426, 1, 10, 0, 0, 0), (427, 1, 3, 1, 0, 0), (428, 1, 11, 0, 0, 0), (429, 1, 17, 0, 0, 0), (430, 1, 0, 0, 0, 0), (431, 1, 19, 0, 0, 0), (432, 3, 1, 12, 14, 212), (435, 1, 3, 1, 0, 0), (436, 1, 11, 0, 0, 0), (437, 3, 14, 12, 14, 212), (440, 1, 12, 0, 0, 0)]) rfl) ?_
                obtain ⟨f82_2591, f82_2593, f82_2595, f82_2597, f82_2599, f82_2601, f82_2603, f82_2605, f82_2607, f82_2609, f82_2611, f82_2612, f82_2613, f82_2615, f82_2617, f82_2619, h82_2621, hb2592, hb2594, hb2596, hb2598, hb2600, hb2602, hb2604, hb2606, hb2608, hb2610, hb2614, hb2616, hb2618, hb2620, hb2622⟩ := (hI2574 82 (by decide) (by decide) : cp82 (wget w2572 82))
                have hf2623 : fld w2572 82 4 = f82_2595 := fld_of h82_2621
                have hf2624 : fld w2572 82 5 = f82_2597 := fld_of h82_2621
                have hf2625 : fld w2572 82 7 = f82_2601 := fld_of h82_2621
                have hf2626 : fld w2572 82 10 = f82_2607 := fld_of h82_2621
                have hf2627 : fld w2572 82 14 = f82_2609 := fld_of h82_2621
                have hu2628 : mu w2572 = 2 * (fld w2572 82 4 - fld w2572 82 5) + min 1 (fld w2572 82 7) := rfl
                have hf2629 := pk2584.2.2.1
                have hl2630 : f82_2609 ≤ 1000 := by omega
                refine xg_t (xg_aload (va := (2, 82)) rfl rfl) ?_
                refine xg_t (xg_getf (va := (2, 85)) h82_2621 rfl) ?_
                refine xg_t (xg_iload (va := (0, 2)) rfl rfl) ?_
                refine xg_t (xg_dup2 rfl) ?_
                refine xg_ialdB (n := 2) (B := 4294967295) ((((((h85_37.fr hF2412 (by decide)).fr hF2459 (by decide)).fr hF2503 (by decide)).fr hF2514 (by decide)).fr hF2560 (by decide)).fr hF2575 (by decide)) (hb38) xnm0 (by omega) (fun u2631 hu2632 he2633 => ?_)
                have hl2634 : u2631 = u2402 := by omega
                refine xg_t (xg_const) ?_
                refine xg_t (xg_iadd (u := u2631) (v := 1) (z := u2631 + 1) xnm0 xnm0 (by omega)) ?_
                refine xg_iastK (n := 2) (u := u2631 + 1) ((((((h85_37.fr hF2412 (by decide)).fr hF2459 (by decide)).fr hF2503 (by decide)).fr hF2514 (by decide)).fr hF2560 (by decide)).fr hF2575 (by decide)) xnm0 xnm0 rfl (by omega) (fun w2635 hr2636 hb2637 => ?_)
                refine xg_t (xg_aload (va := (2, 82)) rfl rfl) ?_
                refine xg_t (xg_dup rfl) ?_
                refine xg_t (xg_getf (va := (0, f82_2609)) (hb2637.get (by decide) h82_2621) rfl) ?_
                refine xg_t (xg_const) ?_
                refine xg_t (xg_iadd (u := f82_2609) (v := 1) (z := f82_2609 + 1) xnm0 xnm0 (by omega)) ?_
                refine xg_putI (fl1 := [(2, 83), (2, 84), (0, f82_2591), (0, f82_2593), (0, f82_2595), (0, f82_2597), (0, f82_2599), (0, f82_2601), (0, f82_2603), (0, f82_2605), (0, f82_2607), (2, 85), (2, 86), (2, 87), (0, f82_2609 + 1), (2, 88), (2, 89), (2, 90), (2, 91), (2, 92), (2, 93), (2, 94), (4, f82_2611), (4, f82_2612), (0, f82_2613), (2, 95), (2, 96), (2, 97), (2, 98), (2, 99), (2, 100), (2, 101), (2, 102), (0, f82_2615), (2, 103), (2, 104), (2, 105), (2, 106), (2, 107), (2, 108), (2, 109), (0, f82_2617), (0, f82_2619), (2, 110), (2, 111), (2, 112), (2, 113)]) (hb2637.get (by decide) h82_2621) rfl rfl rfl (fun w2638 hk2639 hb2640 => ?_)
                have hF2641 : xFr [82, 85] w2572 w2638 := ((xFr.of (S := [82, 85]) hb2637 (by decide)).tr (xFr.of (S := [82, 85]) hb2640 (by decide)))
                have hA2642 := FA_fr hF2641 (by decide)
                have hf2643 : fld w2638 82 4 = f82_2595 := fld_of hk2639
                have hf2644 : fld w2638 82 5 = f82_2597 := fld_of hk2639
                have hf2645 : fld w2638 82 7 = f82_2601 := fld_of hk2639
                have hf2646 : fld w2638 82 10 = f82_2607 := fld_of hk2639
                have hf2647 : fld w2638 82 14 = f82_2609 + 1 := fld_of hk2639
                have hu2648 : mu w2638 = 2 * (fld w2638 82 4 - fld w2638 82 5) + min 1 (fld w2638 82 7) := rfl
                have pq2649 := pk2584
                unfold PK PS at pq2649
                have hM2650 : ∀ s, s < 7 → s ≠ 2 → rwv w2638 85 s = rwv w 85 s := fun s hs hn => (rwv_of (hr2636.but hb2640 (by decide)) hs).trans ((if_neg hn).trans (rwv_of h85_37 hs).symm)
                have hM2651 : rwv w2638 85 2 = u2402 + 1 := (rwv_of (hr2636.but hb2640 (by decide)) (by decide)).trans ((if_pos rfl).trans (by omega))
                have hM2652 : ∀ s, s < 7 → rwv w2638 85 s ≤ rwv w 85 s + 1 := fun s hs => by
                  by_cases z : s = 2
                  · subst z; omega
                  · rw [hM2650 s hs z]; omega
                have hO2653 : ∀ j, (j < 60 + 2 * u2402 ∨ 62 + 2 * u2402 ≤ j) → j < 140 → rwv w2638 86 j = rwv w 86 j := fun j hj hl => (rwv_fr hF2641 (by decide)).trans (os2585 j hj hl)
                have hN2654 : FA w2638 ≠ 0 ∨ 6 ≤ u2402 ∨ True := Or.inr (Or.inr trivial)
                have hX2655 : FA w2638 ≠ 0 ∨ u2402 < 6 := by omega
                have hD2656 : FA w2638 ≠ 0 ∨ (DATA w → DATA w2638) := by
                  by_cases z : FA w2638 ≠ 0
                  · exact Or.inl z
                  · exact Or.inr (fun hd => hd.s2 hM2650 hK2405 hM2651 (hX2655.resolve_left z) hO2653 ((hN2654.resolve_left z).resolve_left (by have := hX2655.resolve_left z; omega)))
                exact xg_e ⟨w2638, ⟨rfl, rfl⟩, xMnv.up (S := [85, 82]) hI2574 ((xFr.of (S := [85, 82]) hb2637 (by decide)).tr (xFr.of (S := [85, 82]) hb2640 (by decide))) (List.forall_mem_cons.mpr ⟨(show cpI 7 52 4294967295 (wget w2638 85) from ⟨_, (hr2636.but hb2640 (by decide)), xrb (by omega) (hb38)⟩), List.forall_mem_cons.mpr ⟨(show cp82 (wget w2638 82) from ⟨f82_2591, f82_2593, f82_2595, f82_2597, f82_2599, f82_2601, f82_2603, f82_2605, f82_2607, f82_2609 + 1, f82_2611, f82_2612, f82_2613, f82_2615, f82_2617, f82_2619, hk2639, by omega, by omega, by omega, by omega, by omega, by omega, by omega, by omega, by omega, by omega, by omega, by omega, by omega, by omega, by omega⟩), fun _ h => absurd h List.not_mem_nil⟩⟩), (((((((hF2412.up (by decide)).tr (hF2459.up (by decide))).tr (hF2503.up (by decide))).tr (hF2514.up (by decide))).tr (hF2560.up (by decide))).tr (hF2575.up (by decide))).tr ((xFr.of (S := [82, 83, 85, 86, 87]) hb2637 (by decide)).tr (xFr.of (S := [82, 83, 85, 86, 87]) hb2640 (by decide)))), ⟨fun h => by have := pq2649.1 h; omega, (show fld w2638 82 10 = 0 ∨ FA w2638 ≠ 0 by omega), Or.inr ⟨by have := ms2590; omega, by omega, hM2652⟩, hD2656⟩⟩
              · refine xg_t (xg_icT (u := f82_2535) (v := 2) rfl xnm0 xnm0 (xj_neT hc2571)) ?_
                refine xg_t (xg_blk (b := [(416, 1, 0, 0, 0, 0), (417, 3, 13, 140, 96, 183)]) rfl) ?_
                refine xg_t (xg_aload (va := (2, 82)) rfl rfl) ?_
                refine xg_cVv mX12_ends (vs := []) (rest := []) (cn1 := 0) (sl1 := 0) rfl (mEnds (hI2559) pk2564.2.2.2) rfl (hF2560.get (by decide) h82_2555) rfl rfl rfl rfl rfl rfl (fun w2657 hq2658 => ?_)
                obtain ⟨hI2659, hF2660, hx2661⟩ := hq2658
                obtain ⟨hv2662, hv2663, hv2664, hv2665⟩ := hx2661
                have pk2666 : PK w2557 w2657 := ⟨fun _ => hv2662, by omega, by omega, Or.inr hv2662⟩
                have pk2667 : PK w w2657 := PK.tr pk2564 pk2666
                have os2668 : ∀ j, (j < 60 + 2 * u2402 ∨ 62 + 2 * u2402 ≤ j) → j < 140 → rwv w2657 86 j = rwv w 86 j := fun j hj hl => (rwv_fr hF2660 (by decide)).trans (os2565 j hj hl)
                have ix2669 : u2402 < 6 → rwv w2657 86 ((60 + (2 * u2402)) + 0) = n2460 := fun h => (rwv_fr hF2660 (by decide)).trans (ix2566 h)
                have ix2670 : u2402 < 6 → rwv w2657 86 ((60 + (2 * u2402)) + 1) = n2515 := fun h => (rwv_fr hF2660 (by decide)).trans (hp2562 h)
                have rg2671 : FA w2657 ≠ 0 ∨ (1 ≤ n2460 ∧ n2460 ≤ 9999) := rg2567.imp_left pk2666.1
                have rg2672 : FA w2657 ≠ 0 ∨ (1 ≤ n2515 ∧ n2515 ≤ 9999) := rg2568.imp_left pk2666.1
                have ms2673 : mu w2657 < mu w := Nat.lt_of_le_of_lt pk2666.2.1 ms2569
                refine xg_t (xg_blk (b := [(420, 1, 0, 0, 0, 0), (421, 3, 1, 12, 11, 17), (424, 1, 2, 1, 0, 0), (425, 1, 39, 0, 0, 0), (426, 1, 10, 0, 0, 0), (427, 1, 3, 1, 0, 0), (428, 1, 11, 0, 0, 0), (429, 1, 17, 0, 0, 0), (430, 1, 0, 0, 0, 0), (431, 1, 19, 0, 0, 0), (432, 3, 1, 12, 14, 212), (435, 1, 3, 1, 0, 0), (436, 1, 11, 0, 0, 0), (437, 3, 14, 12, 14, 212), (440, 1, 12, 0, 0, 0)]) rfl) ?_
                obtain ⟨f82_2674, f82_2676, f82_2678, f82_2680, f82_2682, f82_2684, f82_2686, f82_2688, f82_2690, f82_2692, f82_2694, f82_2695, f82_2696, f82_2698, f82_2700, f82_2702, h82_2704, hb2675, hb2677, hb2679, hb2681, hb2683, hb2685, hb2687, hb2689, hb2691, hb2693, hb2697, hb2699, hb2701, hb2703, hb2705⟩ := (hI2659 82 (by decide) (by decide) : cp82 (wget w2657 82))
                have hf2706 : fld w2657 82 4 = f82_2678 := fld_of h82_2704
                have hf2707 : fld w2657 82 5 = f82_2680 := fld_of h82_2704
                have hf2708 : fld w2657 82 7 = f82_2684 := fld_of h82_2704
                have hf2709 : fld w2657 82 10 = f82_2690 := fld_of h82_2704
                have hf2710 : fld w2657 82 14 = f82_2692 := fld_of h82_2704
                have hu2711 : mu w2657 = 2 * (fld w2657 82 4 - fld w2657 82 5) + min 1 (fld w2657 82 7) := rfl
                have hf2712 := pk2667.2.2.1
                have hl2713 : f82_2692 ≤ 1000 := by omega
                refine xg_t (xg_aload (va := (2, 82)) rfl rfl) ?_
                refine xg_t (xg_getf (va := (2, 85)) h82_2704 rfl) ?_
                refine xg_t (xg_iload (va := (0, 2)) rfl rfl) ?_
                refine xg_t (xg_dup2 rfl) ?_
                refine xg_ialdB (n := 2) (B := 4294967295) ((((((h85_37.fr hF2412 (by decide)).fr hF2459 (by decide)).fr hF2503 (by decide)).fr hF2514 (by decide)).fr hF2560 (by decide)).fr hF2660 (by decide)) (hb38) xnm0 (by omega) (fun u2714 hu2715 he2716 => ?_)
                have hl2717 : u2714 = u2402 := by omega
                refine xg_t (xg_const) ?_
                refine xg_t (xg_iadd (u := u2714) (v := 1) (z := u2714 + 1) xnm0 xnm0 (by omega)) ?_
                refine xg_iastK (n := 2) (u := u2714 + 1) ((((((h85_37.fr hF2412 (by decide)).fr hF2459 (by decide)).fr hF2503 (by decide)).fr hF2514 (by decide)).fr hF2560 (by decide)).fr hF2660 (by decide)) xnm0 xnm0 rfl (by omega) (fun w2718 hr2719 hb2720 => ?_)
                refine xg_t (xg_aload (va := (2, 82)) rfl rfl) ?_
                refine xg_t (xg_dup rfl) ?_
                refine xg_t (xg_getf (va := (0, f82_2692)) (hb2720.get (by decide) h82_2704) rfl) ?_
                refine xg_t (xg_const) ?_
                refine xg_t (xg_iadd (u := f82_2692) (v := 1) (z := f82_2692 + 1) xnm0 xnm0 (by omega)) ?_
                refine xg_putI (fl1 := [(2, 83), (2, 84), (0, f82_2674), (0, f82_2676), (0, f82_2678), (0, f82_2680), (0, f82_2682), (0, f82_2684), (0, f82_2686), (0, f82_2688), (0, f82_2690), (2, 85), (2, 86), (2, 87), (0, f82_2692 + 1), (2, 88), (2, 89), (2, 90), (2, 91), (2, 92), (2, 93), (2, 94), (4, f82_2694), (4, f82_2695), (0, f82_2696), (2, 95), (2, 96), (2, 97), (2, 98), (2, 99), (2, 100), (2, 101), (2, 102), (0, f82_2698), (2, 103), (2, 104), (2, 105), (2, 106), (2, 107), (2, 108), (2, 109), (0, f82_2700), (0, f82_2702), (2, 110), (2, 111), (2, 112), (2, 113)]) (hb2720.get (by decide) h82_2704) rfl rfl rfl (fun w2721 hk2722 hb2723 => ?_)
                have hF2724 : xFr [82, 85] w2657 w2721 := ((xFr.of (S := [82, 85]) hb2720 (by decide)).tr (xFr.of (S := [82, 85]) hb2723 (by decide)))
                have hA2725 := FA_fr hF2724 (by decide)
                have hf2726 : fld w2721 82 4 = f82_2678 := fld_of hk2722
                have hf2727 : fld w2721 82 5 = f82_2680 := fld_of hk2722
                have hf2728 : fld w2721 82 7 = f82_2684 := fld_of hk2722
                have hf2729 : fld w2721 82 10 = f82_2690 := fld_of hk2722
                have hf2730 : fld w2721 82 14 = f82_2692 + 1 := fld_of hk2722
                have hu2731 : mu w2721 = 2 * (fld w2721 82 4 - fld w2721 82 5) + min 1 (fld w2721 82 7) := rfl
                have pq2732 := pk2667
                unfold PK PS at pq2732
                have hM2733 : ∀ s, s < 7 → s ≠ 2 → rwv w2721 85 s = rwv w 85 s := fun s hs hn => (rwv_of (hr2719.but hb2723 (by decide)) hs).trans ((if_neg hn).trans (rwv_of h85_37 hs).symm)
                have hM2734 : rwv w2721 85 2 = u2402 + 1 := (rwv_of (hr2719.but hb2723 (by decide)) (by decide)).trans ((if_pos rfl).trans (by omega))
                have hM2735 : ∀ s, s < 7 → rwv w2721 85 s ≤ rwv w 85 s + 1 := fun s hs => by
                  by_cases z : s = 2
                  · subst z; omega
                  · rw [hM2733 s hs z]; omega
                have hO2736 : ∀ j, (j < 60 + 2 * u2402 ∨ 62 + 2 * u2402 ≤ j) → j < 140 → rwv w2721 86 j = rwv w 86 j := fun j hj hl => (rwv_fr hF2724 (by decide)).trans (os2668 j hj hl)
                have hN2737 : FA w2721 ≠ 0 ∨ 6 ≤ u2402 ∨ True := Or.inr (Or.inr trivial)
                have hX2738 : FA w2721 ≠ 0 ∨ u2402 < 6 := by omega
                have hD2739 : FA w2721 ≠ 0 ∨ (DATA w → DATA w2721) := by
                  by_cases z : FA w2721 ≠ 0
                  · exact Or.inl z
                  · exact Or.inr (fun hd => hd.s2 hM2733 hK2405 hM2734 (hX2738.resolve_left z) hO2736 ((hN2737.resolve_left z).resolve_left (by have := hX2738.resolve_left z; omega)))
                exact xg_e ⟨w2721, ⟨rfl, rfl⟩, xMnv.up (S := [85, 82]) hI2659 ((xFr.of (S := [85, 82]) hb2720 (by decide)).tr (xFr.of (S := [85, 82]) hb2723 (by decide))) (List.forall_mem_cons.mpr ⟨(show cpI 7 52 4294967295 (wget w2721 85) from ⟨_, (hr2719.but hb2723 (by decide)), xrb (by omega) (hb38)⟩), List.forall_mem_cons.mpr ⟨(show cp82 (wget w2721 82) from ⟨f82_2674, f82_2676, f82_2678, f82_2680, f82_2682, f82_2684, f82_2686, f82_2688, f82_2690, f82_2692 + 1, f82_2694, f82_2695, f82_2696, f82_2698, f82_2700, f82_2702, hk2722, by omega, by omega, by omega, by omega, by omega, by omega, by omega, by omega, by omega, by omega, by omega, by omega, by omega, by omega, by omega⟩), fun _ h => absurd h List.not_mem_nil⟩⟩), (((((((hF2412.up (by decide)).tr (hF2459.up (by decide))).tr (hF2503.up (by decide))).tr (hF2514.up (by decide))).tr (hF2560.up (by decide))).tr (hF2660.up (by decide))).tr ((xFr.of (S := [82, 83, 85, 86, 87]) hb2720 (by decide)).tr (xFr.of (S := [82, 83, 85, 86, 87]) hb2723 (by decide)))), ⟨fun h => by have := pq2732.1 h; omega, (show fld w2721 82 10 = 0 ∨ FA w2721 ≠ 0 by omega), Or.inr ⟨by have := ms2673; omega, by omega, hM2735⟩, hD2739⟩⟩
            · refine xg_t (xg_ifT (u := f82_2541) rfl xnm0 (xj_neT hc2570)) ?_
              refine xg_t (xg_blk (b := [(416, 1, 0, 0, 0, 0), (417, 3, 13, 140, 96, 183)]) rfl) ?_
              refine xg_t (xg_aload (va := (2, 82)) rfl rfl) ?_
              refine xg_cVv mX12_ends (vs := []) (rest := []) (cn1 := 0) (sl1 := 0) rfl (mEnds (hI2559) pk2564.2.2.2) rfl (hF2560.get (by decide) h82_2555) rfl rfl rfl rfl rfl rfl (fun w2740 hq2741 => ?_)
              obtain ⟨hI2742, hF2743, hx2744⟩ := hq2741
              obtain ⟨hv2745, hv2746, hv2747, hv2748⟩ := hx2744
              have pk2749 : PK w2557 w2740 := ⟨fun _ => hv2745, by omega, by omega, Or.inr hv2745⟩
              have pk2750 : PK w w2740 := PK.tr pk2564 pk2749
              have os2751 : ∀ j, (j < 60 + 2 * u2402 ∨ 62 + 2 * u2402 ≤ j) → j < 140 → rwv w2740 86 j = rwv w 86 j := fun j hj hl => (rwv_fr hF2743 (by decide)).trans (os2565 j hj hl)
              have ix2752 : u2402 < 6 → rwv w2740 86 ((60 + (2 * u2402)) + 0) = n2460 := fun h => (rwv_fr hF2743 (by decide)).trans (ix2566 h)
              have ix2753 : u2402 < 6 → rwv w2740 86 ((60 + (2 * u2402)) + 1) = n2515 := fun h => (rwv_fr hF2743 (by decide)).trans (hp2562 h)
              have rg2754 : FA w2740 ≠ 0 ∨ (1 ≤ n2460 ∧ n2460 ≤ 9999) := rg2567.imp_left pk2749.1
              have rg2755 : FA w2740 ≠ 0 ∨ (1 ≤ n2515 ∧ n2515 ≤ 9999) := rg2568.imp_left pk2749.1
              have ms2756 : mu w2740 < mu w := Nat.lt_of_le_of_lt pk2749.2.1 ms2569
              refine xg_t (xg_blk (b := [(420, 1, 0, 0, 0, 0), (421, 3, 1, 12, 11, 17), (424, 1, 2, 1, 0, 0), (425, 1, 39, 0, 0, 0), (426, 1, 10, 0, 0, 0), (427, 1, 3, 1, 0, 0), (428, 1, 11, 0, 0, 0), (429, 1, 17, 0, 0, 0), (430, 1, 0, 0, 0, 0), (431, 1, 19, 0, 0, 0), (432, 3, 1, 12, 14, 212), (435, 1, 3, 1, 0, 0), (436, 1, 11, 0, 0, 0), (437, 3, 14, 12, 14, 212), (440, 1, 12, 0, 0, 0)]) rfl) ?_
              obtain ⟨f82_2757, f82_2759, f82_2761, f82_2763, f82_2765, f82_2767, f82_2769, f82_2771, f82_2773, f82_2775, f82_2777, f82_2778, f82_2779, f82_2781, f82_2783, f82_2785, h82_2787, hb2758, hb2760, hb2762, hb2764, hb2766, hb2768, hb2770, hb2772, hb2774, hb2776, hb2780, hb2782, hb2784, hb2786, hb2788⟩ := (hI2742 82 (by decide) (by decide) : cp82 (wget w2740 82))
              have hf2789 : fld w2740 82 4 = f82_2761 := fld_of h82_2787
              have hf2790 : fld w2740 82 5 = f82_2763 := fld_of h82_2787
              have hf2791 : fld w2740 82 7 = f82_2767 := fld_of h82_2787
              have hf2792 : fld w2740 82 10 = f82_2773 := fld_of h82_2787
              have hf2793 : fld w2740 82 14 = f82_2775 := fld_of h82_2787
              have hu2794 : mu w2740 = 2 * (fld w2740 82 4 - fld w2740 82 5) + min 1 (fld w2740 82 7) := rfl
              have hf2795 := pk2750.2.2.1
              have hl2796 : f82_2775 ≤ 1000 := by omega
              refine xg_t (xg_aload (va := (2, 82)) rfl rfl) ?_
              refine xg_t (xg_getf (va := (2, 85)) h82_2787 rfl) ?_
              refine xg_t (xg_iload (va := (0, 2)) rfl rfl) ?_
              refine xg_t (xg_dup2 rfl) ?_
              refine xg_ialdB (n := 2) (B := 4294967295) ((((((h85_37.fr hF2412 (by decide)).fr hF2459 (by decide)).fr hF2503 (by decide)).fr hF2514 (by decide)).fr hF2560 (by decide)).fr hF2743 (by decide)) (hb38) xnm0 (by omega) (fun u2797 hu2798 he2799 => ?_)
              have hl2800 : u2797 = u2402 := by omega
              refine xg_t (xg_const) ?_
              refine xg_t (xg_iadd (u := u2797) (v := 1) (z := u2797 + 1) xnm0 xnm0 (by omega)) ?_
              refine xg_iastK (n := 2) (u := u2797 + 1) ((((((h85_37.fr hF2412 (by decide)).fr hF2459 (by decide)).fr hF2503 (by decide)).fr hF2514 (by decide)).fr hF2560 (by decide)).fr hF2743 (by decide)) xnm0 xnm0 rfl (by omega) (fun w2801 hr2802 hb2803 => ?_)
              refine xg_t (xg_aload (va := (2, 82)) rfl rfl) ?_
              refine xg_t (xg_dup rfl) ?_
              refine xg_t (xg_getf (va := (0, f82_2775)) (hb2803.get (by decide) h82_2787) rfl) ?_
              refine xg_t (xg_const) ?_
              refine xg_t (xg_iadd (u := f82_2775) (v := 1) (z := f82_2775 + 1) xnm0 xnm0 (by omega)) ?_
              refine xg_putI (fl1 := [(2, 83), (2, 84), (0, f82_2757), (0, f82_2759), (0, f82_2761), (0, f82_2763), (0, f82_2765), (0, f82_2767), (0, f82_2769), (0, f82_2771), (0, f82_2773), (2, 85), (2, 86), (2, 87), (0, f82_2775 + 1), (2, 88), (2, 89), (2, 90), (2, 91), (2, 92), (2, 93), (2, 94), (4, f82_2777), (4, f82_2778), (0, f82_2779), (2, 95), (2, 96), (2, 97), (2, 98), (2, 99), (2, 100), (2, 101), (2, 102), (0, f82_2781), (2, 103), (2, 104), (2, 105), (2, 106), (2, 107), (2, 108), (2, 109), (0, f82_2783), (0, f82_2785), (2, 110), (2, 111), (2, 112), (2, 113)]) (hb2803.get (by decide) h82_2787) rfl rfl rfl (fun w2804 hk2805 hb2806 => ?_)
              have hF2807 : xFr [82, 85] w2740 w2804 := ((xFr.of (S := [82, 85]) hb2803 (by decide)).tr (xFr.of (S := [82, 85]) hb2806 (by decide)))
              have hA2808 := FA_fr hF2807 (by decide)
              have hf2809 : fld w2804 82 4 = f82_2761 := fld_of hk2805
              have hf2810 : fld w2804 82 5 = f82_2763 := fld_of hk2805
              have hf2811 : fld w2804 82 7 = f82_2767 := fld_of hk2805
              have hf2812 : fld w2804 82 10 = f82_2773 := fld_of hk2805
              have hf2813 : fld w2804 82 14 = f82_2775 + 1 := fld_of hk2805
              have hu2814 : mu w2804 = 2 * (fld w2804 82 4 - fld w2804 82 5) + min 1 (fld w2804 82 7) := rfl
              have pq2815 := pk2750
              unfold PK PS at pq2815
              have hM2816 : ∀ s, s < 7 → s ≠ 2 → rwv w2804 85 s = rwv w 85 s := fun s hs hn => (rwv_of (hr2802.but hb2806 (by decide)) hs).trans ((if_neg hn).trans (rwv_of h85_37 hs).symm)
              have hM2817 : rwv w2804 85 2 = u2402 + 1 := (rwv_of (hr2802.but hb2806 (by decide)) (by decide)).trans ((if_pos rfl).trans (by omega))
              have hM2818 : ∀ s, s < 7 → rwv w2804 85 s ≤ rwv w 85 s + 1 := fun s hs => by
                by_cases z : s = 2
                · subst z; omega
                · rw [hM2816 s hs z]; omega
              have hO2819 : ∀ j, (j < 60 + 2 * u2402 ∨ 62 + 2 * u2402 ≤ j) → j < 140 → rwv w2804 86 j = rwv w 86 j := fun j hj hl => (rwv_fr hF2807 (by decide)).trans (os2751 j hj hl)
              have hN2820 : FA w2804 ≠ 0 ∨ 6 ≤ u2402 ∨ True := Or.inr (Or.inr trivial)
              have hX2821 : FA w2804 ≠ 0 ∨ u2402 < 6 := by omega
              have hD2822 : FA w2804 ≠ 0 ∨ (DATA w → DATA w2804) := by
                by_cases z : FA w2804 ≠ 0
                · exact Or.inl z
                · exact Or.inr (fun hd => hd.s2 hM2816 hK2405 hM2817 (hX2821.resolve_left z) hO2819 ((hN2820.resolve_left z).resolve_left (by have := hX2821.resolve_left z; omega)))
              exact xg_e ⟨w2804, ⟨rfl, rfl⟩, xMnv.up (S := [85, 82]) hI2742 ((xFr.of (S := [85, 82]) hb2803 (by decide)).tr (xFr.of (S := [85, 82]) hb2806 (by decide))) (List.forall_mem_cons.mpr ⟨(show cpI 7 52 4294967295 (wget w2804 85) from ⟨_, (hr2802.but hb2806 (by decide)), xrb (by omega) (hb38)⟩), List.forall_mem_cons.mpr ⟨(show cp82 (wget w2804 82) from ⟨f82_2757, f82_2759, f82_2761, f82_2763, f82_2765, f82_2767, f82_2769, f82_2771, f82_2773, f82_2775 + 1, f82_2777, f82_2778, f82_2779, f82_2781, f82_2783, f82_2785, hk2805, by omega, by omega, by omega, by omega, by omega, by omega, by omega, by omega, by omega, by omega, by omega, by omega, by omega, by omega, by omega⟩), fun _ h => absurd h List.not_mem_nil⟩⟩), (((((((hF2412.up (by decide)).tr (hF2459.up (by decide))).tr (hF2503.up (by decide))).tr (hF2514.up (by decide))).tr (hF2560.up (by decide))).tr (hF2743.up (by decide))).tr ((xFr.of (S := [82, 83, 85, 86, 87]) hb2803 (by decide)).tr (xFr.of (S := [82, 83, 85, 86, 87]) hb2806 (by decide)))), ⟨fun h => by have := pq2815.1 h; omega, (show fld w2804 82 10 = 0 ∨ FA w2804 ≠ 0 by omega), Or.inr ⟨by have := ms2756; omega, by omega, hM2818⟩, hD2822⟩⟩
          · refine xg_t (xg_icF (u := u2402) (v := 6) rfl xnm0 xnm0 (xj_ltF (by omega) (by omega))) ?_
            refine xg_t (xg_aload (va := (2, 82)) rfl rfl) ?_
            refine xg_t (xg_const) ?_
            refine xg_t (xg_iload (va := (0, f82_9)) rfl rfl) ?_
            refine xg_cVv mX12_also (vs := [(0, 3), (0, f82_9)]) (rest := []) (cn1 := 0) (sl1 := 0) rfl (mAlso (hI) (by omega) (by omega) (by omega) (PK.rf hps).2.2.2) rfl h82_31 rfl rfl rfl rfl rfl rfl (fun w2823 hq2824 => ?_)
            obtain ⟨hI2825, hF2826, hx2827⟩ := hq2824
            have pk2828 : PK w w2823 := ⟨fun _ => hx2827, Nat.le_of_eq (mu_fr hF2826 (by decide)), fld_fr hF2826 (by decide), Or.inr hx2827⟩
            have pk2829 : PK w w2823 := PK.tr (PK.rf hps) pk2828
            have os2830 : ∀ j, (j < 60 + 2 * u2402 ∨ 62 + 2 * u2402 ≤ j) → j < 140 → rwv w2823 86 j = rwv w 86 j := fun j hj hl => (rwv_fr hF2826 (by decide)).trans ((fun j _ _ => rfl) j hj hl)
            have hf2831 := fld_fr (c := 82) (j := 7) hF2826 (by decide)
            refine xg_t (xg_blk (b := [(64, 1, 0, 0, 0, 0), (65, 3, 13, 110, 96, 190), (68, 1, 2, 1, 0, 0), (69, 39, 33, 362, 0, 9)]) rfl) ?_
            refine xg_t (xg_aload (va := (2, 82)) rfl rfl) ?_
            refine xg_cVv mX12_advance (vs := []) (rest := []) (cn1 := 0) (sl1 := 0) rfl (mAdvance (hI2825)) rfl (hF2826.get (by decide) h82_31) rfl rfl rfl rfl rfl rfl (fun w2832 hq2833 => ?_)
            obtain ⟨hI2834, hF2835, hx2836⟩ := hq2833
            obtain ⟨hv2837, hv2838, hv2839, hv2840⟩ := hx2836
            have hf2842 := FA_fr hF2835 (by decide)
            have hs2843 := pk2829.2.2.2
            unfold PS at hs2843
            have pk2841 : PK w2823 w2832 := ⟨fun _ => by omega, hv2837, hv2840, (show fld w2832 82 10 = 0 ∨ FA w2832 ≠ 0 by omega)⟩
            have pk2844 : PK w w2832 := PK.tr pk2829 pk2841
            have os2845 : ∀ j, (j < 60 + 2 * u2402 ∨ 62 + 2 * u2402 ≤ j) → j < 140 → rwv w2832 86 j = rwv w 86 j := fun j hj hl => (rwv_fr hF2835 (by decide)).trans (os2830 j hj hl)
            have rg2846 : FA w2832 ≠ 0 ∨ False := (Or.inl hx2827 : FA w2823 ≠ 0 ∨ False).imp_left pk2841.1
            have ms2847 : mu w2832 < mu w := Nat.lt_of_lt_of_le (hv2838 (by omega)) pk2829.2.1
            refine xg_t (xg_iload (va := (0, 2)) rfl rfl) ?_
            refine xg_t (xg_swt (ks := [(0, 108), (1, 116), (2, 180), (3, 221), (4, 273), (5, 326)]) (u := 2) (z := 180) rfl rfl rfl xnm0 (xsw_n (by omega) (xsw_n (by omega) (xsw_y rfl)))) ?_
            refine xg_t (xg_blk (b := [(180, 1, 3, 0, 0, 0), (181, 2, 15, 4, 0, 0)]) rfl) ?_
            refine xg_t (xg_const) ?_
            refine xg_t (xg_istore (l1 := [(3, (0, u2402)), (2, (0, f82_9)), (1, (0, 2)), (0, (2, 82))]) rfl rfl rfl) ?_
            refine xg_t (xg_blk (b := [(183, 2, 2, 4, 0, 0), (185, 1, 3, 2, 0, 0), (186, 3, 6, 218, 3, 0), (189, 1, 0, 0, 0, 0), (190, 1, 2, 1, 0, 0), (191, 1, 2, 3, 0, 0), (192, 2, 4, 60, 0, 0), (194, 1, 3, 2, 0, 0), (195, 1, 2, 3, 0, 0), (196, 1, 16, 0, 0, 0), (197, 1, 11, 0, 0, 0), (198, 2, 2, 4, 0, 0), (200, 1, 11, 0, 0, 0), (201, 1, 0, 0, 0, 0), (202, 1, 3, 1, 0, 0), (203, 3, 5, 9999, 0, 0), (206, 3, 13, 199, 96, 196), (209, 3, 13, 211, 96, 200), (212, 3, 9, 4, 1, 0), (215, 3, 8, 183, 0, 0)]) rfl) ?_
            refine xg_t (xg_iload (va := (0, 0)) rfl rfl) ?_
            refine xg_t (xg_const) ?_
            refine xg_t (xg_icF (u := 0) (v := 2) rfl xnm0 xnm0 (by decide)) ?_
            refine xg_t (xg_aload (va := (2, 82)) rfl rfl) ?_
            refine xg_t (xg_iload (va := (0, 2)) rfl rfl) ?_
            refine xg_t (xg_iload (va := (0, u2402)) rfl rfl) ?_
            refine xg_t (xg_bip) ?_
            refine xg_t (xg_const) ?_
            refine xg_t (xg_iload (va := (0, u2402)) rfl rfl) ?_
            refine xg_t (xg_imul (u := 2) (v := u2402) (z := 2 * u2402) xnm0 xnm0 (by omega)) ?_
            refine xg_t (xg_iadd (u := 60) (v := 2 * u2402) (z := 60 + (2 * u2402)) xnm0 xnm0 (by omega)) ?_
            refine xg_t (xg_iload (va := (0, 0)) rfl rfl) ?_
            refine xg_t (xg_iadd (u := 60 + (2 * u2402)) (v := 0) (z := (60 + (2 * u2402)) + 0) xnm0 xnm0 (by omega)) ?_
            refine xg_t (xg_aload (va := (2, 82)) rfl rfl) ?_
            refine xg_t (xg_const) ?_
            refine xg_t (xg_sip) ?_
            obtain ⟨f82_2848, f82_2850, f82_2852, f82_2854, f82_2856, f82_2858, f82_2860, f82_2862, f82_2864, f82_2866, f82_2868, f82_2869, f82_2870, f82_2872, f82_2874, f82_2876, h82_2878, hb2849, hb2851, hb2853, hb2855, hb2857, hb2859, hb2861, hb2863, hb2865, hb2867, hb2871, hb2873, hb2875, hb2877, hb2879⟩ := (hI2834 82 (by decide) (by decide) : cp82 (wget w2832 82))
            refine xg_cVi mX12_numbered (vs := [(0, 1), (0, 9999)]) (rest := [(0, (60 + (2 * u2402)) + 0), (0, u2402), (0, 2), (2, 82)]) (cn1 := 0) (sl1 := 0) rfl (mNumbered (hI2834) (by omega) (by omega) pk2844.2.2.2) rfl h82_2878 rfl rfl rfl rfl rfl rfl (fun n2884 w2880 hq2881 => ?_)
            obtain ⟨hn2885, hI2882, hF2883⟩ := hq2881
            obtain ⟨hn2886, hn2887, hn2888⟩ := hn2885
            have pk2889 : PK w w2880 := PK.tr pk2844 hn2887
            have os2890 : ∀ j, (j < 60 + 2 * u2402 ∨ 62 + 2 * u2402 ≤ j) → j < 140 → rwv w2880 86 j = rwv w 86 j := fun j hj hl => (rwv_fr hF2883 (by decide)).trans (os2845 j hj hl)
            have rg2891 : FA w2880 ≠ 0 ∨ False := rg2846.imp_left hn2887.1
            have ms2892 : mu w2880 < mu w := Nat.lt_of_le_of_lt hn2887.2.1 ms2847
            obtain ⟨f82_2893, f82_2895, f82_2897, f82_2899, f82_2901, f82_2903, f82_2905, f82_2907, f82_2909, f82_2911, f82_2913, f82_2914, f82_2915, f82_2917, f82_2919, f82_2921, h82_2923, hb2894, hb2896, hb2898, hb2900, hb2902, hb2904, hb2906, hb2908, hb2910, hb2912, hb2916, hb2918, hb2920, hb2922, hb2924⟩ := (hI2882 82 (by decide) (by decide) : cp82 (wget w2880 82))
            refine xg_cVv mX12_puts (vs := [(0, 2), (0, u2402), (0, (60 + (2 * u2402)) + 0), (0, n2884)]) (rest := []) (cn1 := 0) (sl1 := 0) rfl (mPuts2 (hI2882) (by omega) (by omega) (by omega) (fun _ => by omega)) rfl h82_2923 rfl rfl rfl rfl rfl rfl (fun w2925 hq2926 => ?_)
            obtain ⟨hI2927, hF2928, hx2929⟩ := hq2926
            obtain ⟨hp2930, hp2931⟩ := hx2929
            have pk2932 : PK w w2925 := PK.tr pk2889 (PK.fr hF2928 (by decide) (by decide) pk2889.2.2.2)
            have os2933 : ∀ j, (j < 60 + 2 * u2402 ∨ 62 + 2 * u2402 ≤ j) → j < 140 → rwv w2925 86 j = rwv w 86 j := fun j hj hl => (hp2931 j (by omega) hl).trans (os2890 j hj hl)
            have rg2934 : FA w2925 ≠ 0 ∨ False := rg2891.imp_left (PK.fr hF2928 (by decide) (by decide) pk2889.2.2.2).1
            have rg2935 : FA w2925 ≠ 0 ∨ (1 ≤ n2884 ∧ n2884 ≤ 9999) := hn2888.imp_left (PK.fr hF2928 (by decide) (by decide) pk2889.2.2.2).1
            have ms2936 : mu w2925 < mu w := Nat.lt_of_le_of_lt (PK.fr hF2928 (by decide) (by decide) pk2889.2.2.2).2.1 ms2892
            refine xg_t (xg_iinc (u := 0) (z := 1) (l1 := [(3, (0, u2402)), (2, (0, f82_9)), (1, (0, 2)), (0, (2, 82))]) rfl rfl (by decide) rfl) ?_
            refine xg_t (xg_goto) ?_
            refine xg_t (xg_blk (b := [(183, 2, 2, 4, 0, 0), (185, 1, 3, 2, 0, 0), (186, 3, 6, 218, 3, 0), (189, 1, 0, 0, 0, 0), (190, 1, 2, 1, 0, 0), (191, 1, 2, 3, 0, 0), (192, 2, 4, 60, 0, 0), (194, 1, 3, 2, 0, 0), (195, 1, 2, 3, 0, 0), (196, 1, 16, 0, 0, 0), (197, 1, 11, 0, 0, 0), (198, 2, 2, 4, 0, 0), (200, 1, 11, 0, 0, 0), (201, 1, 0, 0, 0, 0), (202, 1, 3, 1, 0, 0), (203, 3, 5, 9999, 0, 0), (206, 3, 13, 199, 96, 196), (209, 3, 13, 211, 96, 200), (212, 3, 9, 4, 1, 0), (215, 3, 8, 183, 0, 0)]) rfl) ?_
            refine xg_t (xg_iload (va := (0, 1)) rfl rfl) ?_
            refine xg_t (xg_const) ?_
            refine xg_t (xg_icF (u := 1) (v := 2) rfl xnm0 xnm0 (by decide)) ?_
            refine xg_t (xg_aload (va := (2, 82)) rfl rfl) ?_
            refine xg_t (xg_iload (va := (0, 2)) rfl rfl) ?_
            refine xg_t (xg_iload (va := (0, u2402)) rfl rfl) ?_
            refine xg_t (xg_bip) ?_
            refine xg_t (xg_const) ?_
            refine xg_t (xg_iload (va := (0, u2402)) rfl rfl) ?_
            refine xg_t (xg_imul (u := 2) (v := u2402) (z := 2 * u2402) xnm0 xnm0 (by omega)) ?_
            refine xg_t (xg_iadd (u := 60) (v := 2 * u2402) (z := 60 + (2 * u2402)) xnm0 xnm0 (by omega)) ?_
            refine xg_t (xg_iload (va := (0, 1)) rfl rfl) ?_
            refine xg_t (xg_iadd (u := 60 + (2 * u2402)) (v := 1) (z := (60 + (2 * u2402)) + 1) xnm0 xnm0 (by omega)) ?_
            refine xg_t (xg_aload (va := (2, 82)) rfl rfl) ?_
            refine xg_t (xg_const) ?_
            refine xg_t (xg_sip) ?_
            refine xg_cVi mX12_numbered (vs := [(0, 1), (0, 9999)]) (rest := [(0, (60 + (2 * u2402)) + 1), (0, u2402), (0, 2), (2, 82)]) (cn1 := 0) (sl1 := 0) rfl (mNumbered (hI2927) (by omega) (by omega) pk2932.2.2.2) rfl (hF2928.get (by decide) h82_2923) rfl rfl rfl rfl rfl rfl (fun n2941 w2937 hq2938 => ?_)
            obtain ⟨hn2942, hI2939, hF2940⟩ := hq2938
            obtain ⟨hn2943, hn2944, hn2945⟩ := hn2942
            have pk2946 : PK w w2937 := PK.tr pk2932 hn2944
            have os2947 : ∀ j, (j < 60 + 2 * u2402 ∨ 62 + 2 * u2402 ≤ j) → j < 140 → rwv w2937 86 j = rwv w 86 j := fun j hj hl => (rwv_fr hF2940 (by decide)).trans (os2933 j hj hl)
            have ix2948 : u2402 < 6 → rwv w2937 86 ((60 + (2 * u2402)) + 0) = n2884 := fun h => (rwv_fr hF2940 (by decide)).trans (hp2930 h)
            have rg2949 : FA w2937 ≠ 0 ∨ False := rg2934.imp_left hn2944.1
            have rg2950 : FA w2937 ≠ 0 ∨ (1 ≤ n2884 ∧ n2884 ≤ 9999) := rg2935.imp_left hn2944.1
            have ms2951 : mu w2937 < mu w := Nat.lt_of_le_of_lt hn2944.2.1 ms2936
            obtain ⟨f82_2952, f82_2954, f82_2956, f82_2958, f82_2960, f82_2962, f82_2964, f82_2966, f82_2968, f82_2970, f82_2972, f82_2973, f82_2974, f82_2976, f82_2978, f82_2980, h82_2982, hb2953, hb2955, hb2957, hb2959, hb2961, hb2963, hb2965, hb2967, hb2969, hb2971, hb2975, hb2977, hb2979, hb2981, hb2983⟩ := (hI2939 82 (by decide) (by decide) : cp82 (wget w2937 82))
            refine xg_cVv mX12_puts (vs := [(0, 2), (0, u2402), (0, (60 + (2 * u2402)) + 1), (0, n2941)]) (rest := []) (cn1 := 0) (sl1 := 0) rfl (mPuts2 (hI2939) (by omega) (by omega) (by omega) (fun _ => by omega)) rfl h82_2982 rfl rfl rfl rfl rfl rfl (fun w2984 hq2985 => ?_)
            obtain ⟨hI2986, hF2987, hx2988⟩ := hq2985
            obtain ⟨hp2989, hp2990⟩ := hx2988
            have pk2991 : PK w w2984 := PK.tr pk2946 (PK.fr hF2987 (by decide) (by decide) pk2946.2.2.2)
            have os2992 : ∀ j, (j < 60 + 2 * u2402 ∨ 62 + 2 * u2402 ≤ j) → j < 140 → rwv w2984 86 j = rwv w 86 j := fun j hj hl => (hp2990 j (by omega) hl).trans (os2947 j hj hl)
            have ix2993 : u2402 < 6 → rwv w2984 86 ((60 + (2 * u2402)) + 0) = n2884 := fun h => (hp2990 _ (by omega) (by omega)).trans (ix2948 h)
            have rg2994 : FA w2984 ≠ 0 ∨ False := rg2949.imp_left (PK.fr hF2987 (by decide) (by decide) pk2946.2.2.2).1
            have rg2995 : FA w2984 ≠ 0 ∨ (1 ≤ n2884 ∧ n2884 ≤ 9999) := rg2950.imp_left (PK.fr hF2987 (by decide) (by decide) pk2946.2.2.2).1
            have rg2996 : FA w2984 ≠ 0 ∨ (1 ≤ n2941 ∧ n2941 ≤ 9999) := hn2945.imp_left (PK.fr hF2987 (by decide) (by decide) pk2946.2.2.2).1
            have ms2997 : mu w2984 < mu w := Nat.lt_of_le_of_lt (PK.fr hF2987 (by decide) (by decide) pk2946.2.2.2).2.1 ms2951
            refine xg_t (xg_iinc (u := 1) (z := 2) (l1 := [(3, (0, u2402)), (2, (0, f82_9)), (1, (0, 2)), (0, (2, 82))]) rfl rfl (by decide) rfl) ?_
            refine xg_t (xg_goto) ?_
            refine xg_t (xg_blk (b := [(183, 2, 2, 4, 0, 0), (185, 1, 3, 2, 0, 0), (186, 3, 6, 218, 3, 0), (189, 1, 0, 0, 0, 0), (190, 1, 2, 1, 0, 0), (191, 1, 2, 3, 0, 0), (192, 2, 4, 60, 0, 0), (194, 1, 3, 2, 0, 0), (195, 1, 2, 3, 0, 0), (196, 1, 16, 0, 0, 0), (197, 1, 11, 0, 0, 0), (198, 2, 2, 4, 0, 0), (200, 1, 11, 0, 0, 0), (201, 1, 0, 0, 0, 0), (202, 1, 3, 1, 0, 0), (203, 3, 5, 9999, 0, 0), (206, 3, 13, 199, 96, 196), (209, 3, 13, 211, 96, 200), (212, 3, 9, 4, 1, 0), (215, 3, 8, 183, 0, 0)]) rfl) ?_
            refine xg_t (xg_iload (va := (0, 2)) rfl rfl) ?_
            refine xg_t (xg_const) ?_
            refine xg_t (xg_icT (u := 2) (v := 2) rfl xnm0 xnm0 (by decide)) ?_
            refine xg_t (xg_blk (b := [(218, 3, 8, 394, 0, 0)]) rfl) ?_
            refine xg_t (xg_goto) ?_
            refine xg_t (xg_blk (b := [(394, 1, 0, 0, 0, 0), (395, 3, 1, 12, 10, 180), (398, 3, 7, 416, 1, 0), (401, 1, 0, 0, 0, 0), (402, 3, 1, 12, 7, 151), (405, 1, 3, 2, 0, 0), (406, 3, 6, 416, 1, 0), (409, 1, 0, 0, 0, 0), (410, 3, 13, 110, 96, 190), (413, 3, 8, 420, 0, 0)]) rfl) ?_
            refine xg_t (xg_aload (va := (2, 82)) rfl rfl) ?_
            refine xg_t (xg_getf (va := (0, f82_2968)) (hF2987.get (by decide) h82_2982) rfl) ?_
            by_cases hc2998 : f82_2968 = 0
            · refine xg_t (xg_ifF (u := f82_2968) rfl xnm0 (xj_neF hc2998)) ?_
              refine xg_t (xg_aload (va := (2, 82)) rfl rfl) ?_
              refine xg_t (xg_getf (va := (0, f82_2962)) (hF2987.get (by decide) h82_2982) rfl) ?_
              refine xg_t (xg_const) ?_
              by_cases hc2999 : f82_2962 = 2
              · refine xg_t (xg_icF (u := f82_2962) (v := 2) rfl xnm0 xnm0 (xj_neF hc2999)) ?_
                refine xg_t (xg_aload (va := (2, 82)) rfl rfl) ?_
                refine xg_cVv mX12_advance (vs := []) (rest := []) (cn1 := 0) (sl1 := 0) rfl (mAdvance (hI2986)) rfl (hF2987.get (by decide) h82_2982) rfl rfl rfl rfl rfl rfl (fun w3000 hq3001 => ?_)
                obtain ⟨hI3002, hF3003, hx3004⟩ := hq3001
                obtain ⟨hv3005, hv3006, hv3007, hv3008⟩ := hx3004
                have hf3010 := FA_fr hF3003 (by decide)
                have hs3011 := pk2991.2.2.2
                unfold PS at hs3011
                have pk3009 : PK w2984 w3000 := ⟨fun _ => by omega, hv3005, hv3008, (show fld w3000 82 10 = 0 ∨ FA w3000 ≠ 0 by omega)⟩
                have pk3012 : PK w w3000 := PK.tr pk2991 pk3009
                have os3013 : ∀ j, (j < 60 + 2 * u2402 ∨ 62 + 2 * u2402 ≤ j) → j < 140 → rwv w3000 86 j = rwv w 86 j := fun j hj hl => (rwv_fr hF3003 (by decide)).trans (os2992 j hj hl)
                have ix3014 : u2402 < 6 → rwv w3000 86 ((60 + (2 * u2402)) + 0) = n2884 := fun h => (rwv_fr hF3003 (by decide)).trans (ix2993 h)
                have ix3015 : u2402 < 6 → rwv w3000 86 ((60 + (2 * u2402)) + 1) = n2941 := fun h => (rwv_fr hF3003 (by decide)).trans (hp2989 h)
                have rg3016 : FA w3000 ≠ 0 ∨ False := rg2994.imp_left pk3009.1
                have rg3017 : FA w3000 ≠ 0 ∨ (1 ≤ n2884 ∧ n2884 ≤ 9999) := rg2995.imp_left pk3009.1
                have rg3018 : FA w3000 ≠ 0 ∨ (1 ≤ n2941 ∧ n2941 ≤ 9999) := rg2996.imp_left pk3009.1
                have ms3019 : mu w3000 < mu w := Nat.lt_of_le_of_lt pk3009.2.1 ms2997
                refine xg_t (xg_goto) ?_
                refine xg_t (xg_blk (b := [(420, 1, 0, 0, 0, 0), (421, 3, 1, 12, 11, 17), (424, 1, 2, 1, 0, 0), (425, 1, 39, 0, 0, 0), (426, 1, 10, 0, 0, 0), (427, 1, 3, 1, 0, 0), (428, 1, 11, 0, 0, 0), (429, 1, 17, 0, 0, 0), (430, 1, 0, 0, 0, 0), (431, 1, 19, 0, 0, 0), (432, 3, 1, 12, 14, 212), (435, 1, 3, 1, 0, 0), (436, 1, 11, 0, 0, 0), (437, 3, 14, 12, 14, 212), (440, 1, 12, 0, 0, 0)]) rfl) ?_
                obtain ⟨f82_3020, f82_3022, f82_3024, f82_3026, f82_3028, f82_3030, f82_3032, f82_3034, f82_3036, f82_3038, f82_3040, f82_3041, f82_3042, f82_3044, f82_3046, f82_3048, h82_3050, hb3021, hb3023, hb3025, hb3027, hb3029, hb3031, hb3033, hb3035, hb3037, hb3039, hb3043, hb3045, hb3047, hb3049, hb3051⟩ := (hI3002 82 (by decide) (by decide) : cp82 (wget w3000 82))
                have hf3052 : fld w3000 82 4 = f82_3024 := fld_of h82_3050
                have hf3053 : fld w3000 82 5 = f82_3026 := fld_of h82_3050
                have hf3054 : fld w3000 82 7 = f82_3030 := fld_of h82_3050
                have hf3055 : fld w3000 82 10 = f82_3036 := fld_of h82_3050
                have hf3056 : fld w3000 82 14 = f82_3038 := fld_of h82_3050
                have hu3057 : mu w3000 = 2 * (fld w3000 82 4 - fld w3000 82 5) + min 1 (fld w3000 82 7) := rfl
                have hf3058 := pk3012.2.2.1
                have hl3059 : f82_3038 ≤ 1000 := by omega
                refine xg_t (xg_aload (va := (2, 82)) rfl rfl) ?_
                refine xg_t (xg_getf (va := (2, 85)) h82_3050 rfl) ?_
                refine xg_t (xg_iload (va := (0, 2)) rfl rfl) ?_
                refine xg_t (xg_dup2 rfl) ?_
                refine xg_ialdB (n := 2) (B := 4294967295) (((((((h85_37.fr hF2826 (by decide)).fr hF2835 (by decide)).fr hF2883 (by decide)).fr hF2928 (by decide)).fr hF2940 (by decide)).fr hF2987 (by decide)).fr hF3003 (by decide)) (hb38) xnm0 (by omega) (fun u3060 hu3061 he3062 => ?_)
                have hl3063 : u3060 = u2402 := by omega
                refine xg_t (xg_const) ?_
                refine xg_t (xg_iadd (u := u3060) (v := 1) (z := u3060 + 1) xnm0 xnm0 (by omega)) ?_
                refine xg_iastK (n := 2) (u := u3060 + 1) (((((((h85_37.fr hF2826 (by decide)).fr hF2835 (by decide)).fr hF2883 (by decide)).fr hF2928 (by decide)).fr hF2940 (by decide)).fr hF2987 (by decide)).fr hF3003 (by decide)) xnm0 xnm0 rfl (by omega) (fun w3064 hr3065 hb3066 => ?_)
                refine xg_t (xg_aload (va := (2, 82)) rfl rfl) ?_
                refine xg_t (xg_dup rfl) ?_
                refine xg_t (xg_getf (va := (0, f82_3038)) (hb3066.get (by decide) h82_3050) rfl) ?_
                refine xg_t (xg_const) ?_
                refine xg_t (xg_iadd (u := f82_3038) (v := 1) (z := f82_3038 + 1) xnm0 xnm0 (by omega)) ?_
                refine xg_putI (fl1 := [(2, 83), (2, 84), (0, f82_3020), (0, f82_3022), (0, f82_3024), (0, f82_3026), (0, f82_3028), (0, f82_3030), (0, f82_3032), (0, f82_3034), (0, f82_3036), (2, 85), (2, 86), (2, 87), (0, f82_3038 + 1), (2, 88), (2, 89), (2, 90), (2, 91), (2, 92), (2, 93), (2, 94), (4, f82_3040), (4, f82_3041), (0, f82_3042), (2, 95), (2, 96), (2, 97), (2, 98), (2, 99), (2, 100), (2, 101), (2, 102), (0, f82_3044), (2, 103), (2, 104), (2, 105), (2, 106), (2, 107), (2, 108), (2, 109), (0, f82_3046), (0, f82_3048), (2, 110), (2, 111), (2, 112), (2, 113)]) (hb3066.get (by decide) h82_3050) rfl rfl rfl (fun w3067 hk3068 hb3069 => ?_)
                have hF3070 : xFr [82, 85] w3000 w3067 := ((xFr.of (S := [82, 85]) hb3066 (by decide)).tr (xFr.of (S := [82, 85]) hb3069 (by decide)))
                have hA3071 := FA_fr hF3070 (by decide)
                have hf3072 : fld w3067 82 4 = f82_3024 := fld_of hk3068
                have hf3073 : fld w3067 82 5 = f82_3026 := fld_of hk3068
                have hf3074 : fld w3067 82 7 = f82_3030 := fld_of hk3068
                have hf3075 : fld w3067 82 10 = f82_3036 := fld_of hk3068
                have hf3076 : fld w3067 82 14 = f82_3038 + 1 := fld_of hk3068
                have hu3077 : mu w3067 = 2 * (fld w3067 82 4 - fld w3067 82 5) + min 1 (fld w3067 82 7) := rfl
                have pq3078 := pk3012
                unfold PK PS at pq3078
                have hM3079 : ∀ s, s < 7 → s ≠ 2 → rwv w3067 85 s = rwv w 85 s := fun s hs hn => (rwv_of (hr3065.but hb3069 (by decide)) hs).trans ((if_neg hn).trans (rwv_of h85_37 hs).symm)
                have hM3080 : rwv w3067 85 2 = u2402 + 1 := (rwv_of (hr3065.but hb3069 (by decide)) (by decide)).trans ((if_pos rfl).trans (by omega))
                have hM3081 : ∀ s, s < 7 → rwv w3067 85 s ≤ rwv w 85 s + 1 := fun s hs => by
                  by_cases z : s = 2
                  · subst z; omega
                  · rw [hM3079 s hs z]; omega
                have hO3082 : ∀ j, (j < 60 + 2 * u2402 ∨ 62 + 2 * u2402 ≤ j) → j < 140 → rwv w3067 86 j = rwv w 86 j := fun j hj hl => (rwv_fr hF3070 (by decide)).trans (os3013 j hj hl)
                have hN3083 : FA w3067 ≠ 0 ∨ 6 ≤ u2402 ∨ True := Or.inr (Or.inr trivial)
                have hX3084 : FA w3067 ≠ 0 ∨ u2402 < 6 := by omega
                have hD3085 : FA w3067 ≠ 0 ∨ (DATA w → DATA w3067) := by
                  by_cases z : FA w3067 ≠ 0
                  · exact Or.inl z
                  · exact Or.inr (fun hd => hd.s2 hM3079 hK2405 hM3080 (hX3084.resolve_left z) hO3082 ((hN3083.resolve_left z).resolve_left (by have := hX3084.resolve_left z; omega)))
                exact xg_e ⟨w3067, ⟨rfl, rfl⟩, xMnv.up (S := [85, 82]) hI3002 ((xFr.of (S := [85, 82]) hb3066 (by decide)).tr (xFr.of (S := [85, 82]) hb3069 (by decide))) (List.forall_mem_cons.mpr ⟨(show cpI 7 52 4294967295 (wget w3067 85) from ⟨_, (hr3065.but hb3069 (by decide)), xrb (by omega) (hb38)⟩), List.forall_mem_cons.mpr ⟨(show cp82 (wget w3067 82) from ⟨f82_3020, f82_3022, f82_3024, f82_3026, f82_3028, f82_3030, f82_3032, f82_3034, f82_3036, f82_3038 + 1, f82_3040, f82_3041, f82_3042, f82_3044, f82_3046, f82_3048, hk3068, by omega, by omega, by omega, by omega, by omega, by omega, by omega, by omega, by omega, by omega, by omega, by omega, by omega, by omega, by omega⟩), fun _ h => absurd h List.not_mem_nil⟩⟩), ((((((((hF2826.up (by decide)).tr (hF2835.up (by decide))).tr (hF2883.up (by decide))).tr (hF2928.up (by decide))).tr (hF2940.up (by decide))).tr (hF2987.up (by decide))).tr (hF3003.up (by decide))).tr ((xFr.of (S := [82, 83, 85, 86, 87]) hb3066 (by decide)).tr (xFr.of (S := [82, 83, 85, 86, 87]) hb3069 (by decide)))), ⟨fun h => by have := pq3078.1 h; omega, (show fld w3067 82 10 = 0 ∨ FA w3067 ≠ 0 by omega), Or.inr ⟨by have := ms3019; omega, by omega, hM3081⟩, hD3085⟩⟩
              · refine xg_t (xg_icT (u := f82_2962) (v := 2) rfl xnm0 xnm0 (xj_neT hc2999)) ?_
                refine xg_t (xg_blk (b := [(416, 1, 0, 0, 0, 0), (417, 3, 13, 140, 96, 183)]) rfl) ?_
                refine xg_t (xg_aload (va := (2, 82)) rfl rfl) ?_
                refine xg_cVv mX12_ends (vs := []) (rest := []) (cn1 := 0) (sl1 := 0) rfl (mEnds (hI2986) pk2991.2.2.2) rfl (hF2987.get (by decide) h82_2982) rfl rfl rfl rfl rfl rfl (fun w3086 hq3087 => ?_)
                obtain ⟨hI3088, hF3089, hx3090⟩ := hq3087
                obtain ⟨hv3091, hv3092, hv3093, hv3094⟩ := hx3090
                have pk3095 : PK w2984 w3086 := ⟨fun _ => hv3091, by omega, by omega, Or.inr hv3091⟩
                have pk3096 : PK w w3086 := PK.tr pk2991 pk3095
                have os3097 : ∀ j, (j < 60 + 2 * u2402 ∨ 62 + 2 * u2402 ≤ j) → j < 140 → rwv w3086 86 j = rwv w 86 j := fun j hj hl => (rwv_fr hF3089 (by decide)).trans (os2992 j hj hl)
                have ix3098 : u2402 < 6 → rwv w3086 86 ((60 + (2 * u2402)) + 0) = n2884 := fun h => (rwv_fr hF3089 (by decide)).trans (ix2993 h)
                have ix3099 : u2402 < 6 → rwv w3086 86 ((60 + (2 * u2402)) + 1) = n2941 := fun h => (rwv_fr hF3089 (by decide)).trans (hp2989 h)
                have rg3100 : FA w3086 ≠ 0 ∨ False := rg2994.imp_left pk3095.1
                have rg3101 : FA w3086 ≠ 0 ∨ (1 ≤ n2884 ∧ n2884 ≤ 9999) := rg2995.imp_left pk3095.1
                have rg3102 : FA w3086 ≠ 0 ∨ (1 ≤ n2941 ∧ n2941 ≤ 9999) := rg2996.imp_left pk3095.1
                have ms3103 : mu w3086 < mu w := Nat.lt_of_le_of_lt pk3095.2.1 ms2997
                refine xg_t (xg_blk (b := [(420, 1, 0, 0, 0, 0), (421, 3, 1, 12, 11, 17), (424, 1, 2, 1, 0, 0), (425, 1, 39, 0, 0, 0), (426, 1, 10, 0, 0, 0), (427, 1, 3, 1, 0, 0), (428, 1, 11, 0, 0, 0), (429, 1, 17, 0, 0, 0), (430, 1, 0, 0, 0, 0), (431, 1, 19, 0, 0, 0), (432, 3, 1, 12, 14, 212), (435, 1, 3, 1, 0, 0), (436, 1, 11, 0, 0, 0), (437, 3, 14, 12, 14, 212), (440, 1, 12, 0, 0, 0)]) rfl) ?_
                obtain ⟨f82_3104, f82_3106, f82_3108, f82_3110, f82_3112, f82_3114, f82_3116, f82_3118, f82_3120, f82_3122, f82_3124, f82_3125, f82_3126, f82_3128, f82_3130, f82_3132, h82_3134, hb3105, hb3107, hb3109, hb3111, hb3113, hb3115, hb3117, hb3119, hb3121, hb3123, hb3127, hb3129, hb3131, hb3133, hb3135⟩ := (hI3088 82 (by decide) (by decide) : cp82 (wget w3086 82))
                have hf3136 : fld w3086 82 4 = f82_3108 := fld_of h82_3134
                have hf3137 : fld w3086 82 5 = f82_3110 := fld_of h82_3134
                have hf3138 : fld w3086 82 7 = f82_3114 := fld_of h82_3134
                have hf3139 : fld w3086 82 10 = f82_3120 := fld_of h82_3134
                have hf3140 : fld w3086 82 14 = f82_3122 := fld_of h82_3134
                have hu3141 : mu w3086 = 2 * (fld w3086 82 4 - fld w3086 82 5) + min 1 (fld w3086 82 7) := rfl
                have hf3142 := pk3096.2.2.1
                have hl3143 : f82_3122 ≤ 1000 := by omega
                refine xg_t (xg_aload (va := (2, 82)) rfl rfl) ?_
                refine xg_t (xg_getf (va := (2, 85)) h82_3134 rfl) ?_
                refine xg_t (xg_iload (va := (0, 2)) rfl rfl) ?_
                refine xg_t (xg_dup2 rfl) ?_
                refine xg_ialdB (n := 2) (B := 4294967295) (((((((h85_37.fr hF2826 (by decide)).fr hF2835 (by decide)).fr hF2883 (by decide)).fr hF2928 (by decide)).fr hF2940 (by decide)).fr hF2987 (by decide)).fr hF3089 (by decide)) (hb38) xnm0 (by omega) (fun u3144 hu3145 he3146 => ?_)
                have hl3147 : u3144 = u2402 := by omega
                refine xg_t (xg_const) ?_
                refine xg_t (xg_iadd (u := u3144) (v := 1) (z := u3144 + 1) xnm0 xnm0 (by omega)) ?_
                refine xg_iastK (n := 2) (u := u3144 + 1) (((((((h85_37.fr hF2826 (by decide)).fr hF2835 (by decide)).fr hF2883 (by decide)).fr hF2928 (by decide)).fr hF2940 (by decide)).fr hF2987 (by decide)).fr hF3089 (by decide)) xnm0 xnm0 rfl (by omega) (fun w3148 hr3149 hb3150 => ?_)
                refine xg_t (xg_aload (va := (2, 82)) rfl rfl) ?_
                refine xg_t (xg_dup rfl) ?_
                refine xg_t (xg_getf (va := (0, f82_3122)) (hb3150.get (by decide) h82_3134) rfl) ?_
                refine xg_t (xg_const) ?_
                refine xg_t (xg_iadd (u := f82_3122) (v := 1) (z := f82_3122 + 1) xnm0 xnm0 (by omega)) ?_
                refine xg_putI (fl1 := [(2, 83), (2, 84), (0, f82_3104), (0, f82_3106), (0, f82_3108), (0, f82_3110), (0, f82_3112), (0, f82_3114), (0, f82_3116), (0, f82_3118), (0, f82_3120), (2, 85), (2, 86), (2, 87), (0, f82_3122 + 1), (2, 88), (2, 89), (2, 90), (2, 91), (2, 92), (2, 93), (2, 94), (4, f82_3124), (4, f82_3125), (0, f82_3126), (2, 95), (2, 96), (2, 97), (2, 98), (2, 99), (2, 100), (2, 101), (2, 102), (0, f82_3128), (2, 103), (2, 104), (2, 105), (2, 106), (2, 107), (2, 108), (2, 109), (0, f82_3130), (0, f82_3132), (2, 110), (2, 111), (2, 112), (2, 113)]) (hb3150.get (by decide) h82_3134) rfl rfl rfl (fun w3151 hk3152 hb3153 => ?_)
                have hF3154 : xFr [82, 85] w3086 w3151 := ((xFr.of (S := [82, 85]) hb3150 (by decide)).tr (xFr.of (S := [82, 85]) hb3153 (by decide)))
                have hA3155 := FA_fr hF3154 (by decide)
                have hf3156 : fld w3151 82 4 = f82_3108 := fld_of hk3152
                have hf3157 : fld w3151 82 5 = f82_3110 := fld_of hk3152
                have hf3158 : fld w3151 82 7 = f82_3114 := fld_of hk3152
                have hf3159 : fld w3151 82 10 = f82_3120 := fld_of hk3152
                have hf3160 : fld w3151 82 14 = f82_3122 + 1 := fld_of hk3152
                have hu3161 : mu w3151 = 2 * (fld w3151 82 4 - fld w3151 82 5) + min 1 (fld w3151 82 7) := rfl
                have pq3162 := pk3096
                unfold PK PS at pq3162
                have hM3163 : ∀ s, s < 7 → s ≠ 2 → rwv w3151 85 s = rwv w 85 s := fun s hs hn => (rwv_of (hr3149.but hb3153 (by decide)) hs).trans ((if_neg hn).trans (rwv_of h85_37 hs).symm)
                have hM3164 : rwv w3151 85 2 = u2402 + 1 := (rwv_of (hr3149.but hb3153 (by decide)) (by decide)).trans ((if_pos rfl).trans (by omega))
                have hM3165 : ∀ s, s < 7 → rwv w3151 85 s ≤ rwv w 85 s + 1 := fun s hs => by
                  by_cases z : s = 2
                  · subst z; omega
                  · rw [hM3163 s hs z]; omega
                have hO3166 : ∀ j, (j < 60 + 2 * u2402 ∨ 62 + 2 * u2402 ≤ j) → j < 140 → rwv w3151 86 j = rwv w 86 j := fun j hj hl => (rwv_fr hF3154 (by decide)).trans (os3097 j hj hl)
                have hN3167 : FA w3151 ≠ 0 ∨ 6 ≤ u2402 ∨ True := Or.inr (Or.inr trivial)
                have hX3168 : FA w3151 ≠ 0 ∨ u2402 < 6 := by omega
                have hD3169 : FA w3151 ≠ 0 ∨ (DATA w → DATA w3151) := by
                  by_cases z : FA w3151 ≠ 0
                  · exact Or.inl z
                  · exact Or.inr (fun hd => hd.s2 hM3163 hK2405 hM3164 (hX3168.resolve_left z) hO3166 ((hN3167.resolve_left z).resolve_left (by have := hX3168.resolve_left z; omega)))
                exact xg_e ⟨w3151, ⟨rfl, rfl⟩, xMnv.up (S := [85, 82]) hI3088 ((xFr.of (S := [85, 82]) hb3150 (by decide)).tr (xFr.of (S := [85, 82]) hb3153 (by decide))) (List.forall_mem_cons.mpr ⟨(show cpI 7 52 4294967295 (wget w3151 85) from ⟨_, (hr3149.but hb3153 (by decide)), xrb (by omega) (hb38)⟩), List.forall_mem_cons.mpr ⟨(show cp82 (wget w3151 82) from ⟨f82_3104, f82_3106, f82_3108, f82_3110, f82_3112, f82_3114, f82_3116, f82_3118, f82_3120, f82_3122 + 1, f82_3124, f82_3125, f82_3126, f82_3128, f82_3130, f82_3132, hk3152, by omega, by omega, by omega, by omega, by omega, by omega, by omega, by omega, by omega, by omega, by omega, by omega, by omega, by omega, by omega⟩), fun _ h => absurd h List.not_mem_nil⟩⟩), ((((((((hF2826.up (by decide)).tr (hF2835.up (by decide))).tr (hF2883.up (by decide))).tr (hF2928.up (by decide))).tr (hF2940.up (by decide))).tr (hF2987.up (by decide))).tr (hF3089.up (by decide))).tr ((xFr.of (S := [82, 83, 85, 86, 87]) hb3150 (by decide)).tr (xFr.of (S := [82, 83, 85, 86, 87]) hb3153 (by decide)))), ⟨fun h => by have := pq3162.1 h; omega, (show fld w3151 82 10 = 0 ∨ FA w3151 ≠ 0 by omega), Or.inr ⟨by have := ms3103; omega, by omega, hM3165⟩, hD3169⟩⟩
            · refine xg_t (xg_ifT (u := f82_2968) rfl xnm0 (xj_neT hc2998)) ?_
              refine xg_t (xg_blk (b := [(416, 1, 0, 0, 0, 0), (417, 3, 13, 140, 96, 183)]) rfl) ?_
              refine xg_t (xg_aload (va := (2, 82)) rfl rfl) ?_
              refine xg_cVv mX12_ends (vs := []) (rest := []) (cn1 := 0) (sl1 := 0) rfl (mEnds (hI2986) pk2991.2.2.2) rfl (hF2987.get (by decide) h82_2982) rfl rfl rfl rfl rfl rfl (fun w3170 hq3171 => ?_)
              obtain ⟨hI3172, hF3173, hx3174⟩ := hq3171
              obtain ⟨hv3175, hv3176, hv3177, hv3178⟩ := hx3174
              have pk3179 : PK w2984 w3170 := ⟨fun _ => hv3175, by omega, by omega, Or.inr hv3175⟩
              have pk3180 : PK w w3170 := PK.tr pk2991 pk3179
              have os3181 : ∀ j, (j < 60 + 2 * u2402 ∨ 62 + 2 * u2402 ≤ j) → j < 140 → rwv w3170 86 j = rwv w 86 j := fun j hj hl => (rwv_fr hF3173 (by decide)).trans (os2992 j hj hl)
              have ix3182 : u2402 < 6 → rwv w3170 86 ((60 + (2 * u2402)) + 0) = n2884 := fun h => (rwv_fr hF3173 (by decide)).trans (ix2993 h)
              have ix3183 : u2402 < 6 → rwv w3170 86 ((60 + (2 * u2402)) + 1) = n2941 := fun h => (rwv_fr hF3173 (by decide)).trans (hp2989 h)
              have rg3184 : FA w3170 ≠ 0 ∨ False := rg2994.imp_left pk3179.1
              have rg3185 : FA w3170 ≠ 0 ∨ (1 ≤ n2884 ∧ n2884 ≤ 9999) := rg2995.imp_left pk3179.1
              have rg3186 : FA w3170 ≠ 0 ∨ (1 ≤ n2941 ∧ n2941 ≤ 9999) := rg2996.imp_left pk3179.1
              have ms3187 : mu w3170 < mu w := Nat.lt_of_le_of_lt pk3179.2.1 ms2997
              refine xg_t (xg_blk (b := [(420, 1, 0, 0, 0, 0), (421, 3, 1, 12, 11, 17), (424, 1, 2, 1, 0, 0), (425, 1, 39, 0, 0, 0), (426, 1, 10, 0, 0, 0), (427, 1, 3, 1, 0, 0), (428, 1, 11, 0, 0, 0), (429, 1, 17, 0, 0, 0), (430, 1, 0, 0, 0, 0), (431, 1, 19, 0, 0, 0), (432, 3, 1, 12, 14, 212), (435, 1, 3, 1, 0, 0), (436, 1, 11, 0, 0, 0), (437, 3, 14, 12, 14, 212), (440, 1, 12, 0, 0, 0)]) rfl) ?_
              obtain ⟨f82_3188, f82_3190, f82_3192, f82_3194, f82_3196, f82_3198, f82_3200, f82_3202, f82_3204, f82_3206, f82_3208, f82_3209, f82_3210, f82_3212, f82_3214, f82_3216, h82_3218, hb3189, hb3191, hb3193, hb3195, hb3197, hb3199, hb3201, hb3203, hb3205, hb3207, hb3211, hb3213, hb3215, hb3217, hb3219⟩ := (hI3172 82 (by decide) (by decide) : cp82 (wget w3170 82))
              have hf3220 : fld w3170 82 4 = f82_3192 := fld_of h82_3218
              have hf3221 : fld w3170 82 5 = f82_3194 := fld_of h82_3218
              have hf3222 : fld w3170 82 7 = f82_3198 := fld_of h82_3218
              have hf3223 : fld w3170 82 10 = f82_3204 := fld_of h82_3218
              have hf3224 : fld w3170 82 14 = f82_3206 := fld_of h82_3218
              have hu3225 : mu w3170 = 2 * (fld w3170 82 4 - fld w3170 82 5) + min 1 (fld w3170 82 7) := rfl
              have hf3226 := pk3180.2.2.1
              have hl3227 : f82_3206 ≤ 1000 := by omega
              refine xg_t (xg_aload (va := (2, 82)) rfl rfl) ?_
              refine xg_t (xg_getf (va := (2, 85)) h82_3218 rfl) ?_
              refine xg_t (xg_iload (va := (0, 2)) rfl rfl) ?_
              refine xg_t (xg_dup2 rfl) ?_
              refine xg_ialdB (n := 2) (B := 4294967295) (((((((h85_37.fr hF2826 (by decide)).fr hF2835 (by decide)).fr hF2883 (by decide)).fr hF2928 (by decide)).fr hF2940 (by decide)).fr hF2987 (by decide)).fr hF3173 (by decide)) (hb38) xnm0 (by omega) (fun u3228 hu3229 he3230 => ?_)
              have hl3231 : u3228 = u2402 := by omega
              refine xg_t (xg_const) ?_
              refine xg_t (xg_iadd (u := u3228) (v := 1) (z := u3228 + 1) xnm0 xnm0 (by omega)) ?_
              refine xg_iastK (n := 2) (u := u3228 + 1) (((((((h85_37.fr hF2826 (by decide)).fr hF2835 (by decide)).fr hF2883 (by decide)).fr hF2928 (by decide)).fr hF2940 (by decide)).fr hF2987 (by decide)).fr hF3173 (by decide)) xnm0 xnm0 rfl (by omega) (fun w3232 hr3233 hb3234 => ?_)
              refine xg_t (xg_aload (va := (2, 82)) rfl rfl) ?_
              refine xg_t (xg_dup rfl) ?_
              refine xg_t (xg_getf (va := (0, f82_3206)) (hb3234.get (by decide) h82_3218) rfl) ?_
              refine xg_t (xg_const) ?_
              refine xg_t (xg_iadd (u := f82_3206) (v := 1) (z := f82_3206 + 1) xnm0 xnm0 (by omega)) ?_
              refine xg_putI (fl1 := [(2, 83), (2, 84), (0, f82_3188), (0, f82_3190), (0, f82_3192), (0, f82_3194), (0, f82_3196), (0, f82_3198), (0, f82_3200), (0, f82_3202), (0, f82_3204), (2, 85), (2, 86), (2, 87), (0, f82_3206 + 1), (2, 88), (2, 89), (2, 90), (2, 91), (2, 92), (2, 93), (2, 94), (4, f82_3208), (4, f82_3209), (0, f82_3210), (2, 95), (2, 96), (2, 97), (2, 98), (2, 99), (2, 100), (2, 101), (2, 102), (0, f82_3212), (2, 103), (2, 104), (2, 105), (2, 106), (2, 107), (2, 108), (2, 109), (0, f82_3214), (0, f82_3216), (2, 110), (2, 111), (2, 112), (2, 113)]) (hb3234.get (by decide) h82_3218) rfl rfl rfl (fun w3235 hk3236 hb3237 => ?_)
              have hF3238 : xFr [82, 85] w3170 w3235 := ((xFr.of (S := [82, 85]) hb3234 (by decide)).tr (xFr.of (S := [82, 85]) hb3237 (by decide)))
              have hA3239 := FA_fr hF3238 (by decide)
              have hf3240 : fld w3235 82 4 = f82_3192 := fld_of hk3236
              have hf3241 : fld w3235 82 5 = f82_3194 := fld_of hk3236
              have hf3242 : fld w3235 82 7 = f82_3198 := fld_of hk3236
              have hf3243 : fld w3235 82 10 = f82_3204 := fld_of hk3236
              have hf3244 : fld w3235 82 14 = f82_3206 + 1 := fld_of hk3236
              have hu3245 : mu w3235 = 2 * (fld w3235 82 4 - fld w3235 82 5) + min 1 (fld w3235 82 7) := rfl
              have pq3246 := pk3180
              unfold PK PS at pq3246
              have hM3247 : ∀ s, s < 7 → s ≠ 2 → rwv w3235 85 s = rwv w 85 s := fun s hs hn => (rwv_of (hr3233.but hb3237 (by decide)) hs).trans ((if_neg hn).trans (rwv_of h85_37 hs).symm)
              have hM3248 : rwv w3235 85 2 = u2402 + 1 := (rwv_of (hr3233.but hb3237 (by decide)) (by decide)).trans ((if_pos rfl).trans (by omega))
              have hM3249 : ∀ s, s < 7 → rwv w3235 85 s ≤ rwv w 85 s + 1 := fun s hs => by
                by_cases z : s = 2
                · subst z; omega
                · rw [hM3247 s hs z]; omega
              have hO3250 : ∀ j, (j < 60 + 2 * u2402 ∨ 62 + 2 * u2402 ≤ j) → j < 140 → rwv w3235 86 j = rwv w 86 j := fun j hj hl => (rwv_fr hF3238 (by decide)).trans (os3181 j hj hl)
              have hN3251 : FA w3235 ≠ 0 ∨ 6 ≤ u2402 ∨ True := Or.inr (Or.inr trivial)
              have hX3252 : FA w3235 ≠ 0 ∨ u2402 < 6 := by omega
              have hD3253 : FA w3235 ≠ 0 ∨ (DATA w → DATA w3235) := by
                by_cases z : FA w3235 ≠ 0
                · exact Or.inl z
                · exact Or.inr (fun hd => hd.s2 hM3247 hK2405 hM3248 (hX3252.resolve_left z) hO3250 ((hN3251.resolve_left z).resolve_left (by have := hX3252.resolve_left z; omega)))
              exact xg_e ⟨w3235, ⟨rfl, rfl⟩, xMnv.up (S := [85, 82]) hI3172 ((xFr.of (S := [85, 82]) hb3234 (by decide)).tr (xFr.of (S := [85, 82]) hb3237 (by decide))) (List.forall_mem_cons.mpr ⟨(show cpI 7 52 4294967295 (wget w3235 85) from ⟨_, (hr3233.but hb3237 (by decide)), xrb (by omega) (hb38)⟩), List.forall_mem_cons.mpr ⟨(show cp82 (wget w3235 82) from ⟨f82_3188, f82_3190, f82_3192, f82_3194, f82_3196, f82_3198, f82_3200, f82_3202, f82_3204, f82_3206 + 1, f82_3208, f82_3209, f82_3210, f82_3212, f82_3214, f82_3216, hk3236, by omega, by omega, by omega, by omega, by omega, by omega, by omega, by omega, by omega, by omega, by omega, by omega, by omega, by omega, by omega⟩), fun _ h => absurd h List.not_mem_nil⟩⟩), ((((((((hF2826.up (by decide)).tr (hF2835.up (by decide))).tr (hF2883.up (by decide))).tr (hF2928.up (by decide))).tr (hF2940.up (by decide))).tr (hF2987.up (by decide))).tr (hF3173.up (by decide))).tr ((xFr.of (S := [82, 83, 85, 86, 87]) hb3234 (by decide)).tr (xFr.of (S := [82, 83, 85, 86, 87]) hb3237 (by decide)))), ⟨fun h => by have := pq3246.1 h; omega, (show fld w3235 82 10 = 0 ∨ FA w3235 ≠ 0 by omega), Or.inr ⟨by have := ms3187; omega, by omega, hM3249⟩, hD3253⟩⟩
        · refine xg_t (xg_aload (va := (2, 82)) rfl rfl) ?_
          refine xg_t (xg_getf (va := (2, 85)) h82_31 rfl) ?_
          refine xg_t (xg_iload (va := (0, 3)) rfl rfl) ?_
          refine xg_ialdB (n := 3) (B := 4294967295) h85_37 (hb38) xnm0 (by omega) (fun u3254 hu3255 he3256 => ?_)
          have hK3257 : rwv w 85 3 = u3254 := (rwv_of h85_37 (by decide)).trans he3256
          have hm3258 := hmb 3 (by decide)
          have hl3259 : u3254 ≤ 1000 := by omega
          refine xg_t (xg_istore (l1 := [(2, (0, f82_9)), (1, (0, 3)), (0, (2, 82))]) rfl rfl rfl) ?_
          refine xg_t (xg_iload (va := (0, u3254)) rfl rfl) ?_
          refine xg_t (xg_iload (va := (0, 3)) rfl rfl) ?_
          refine xg_t (xg_cSr mX12_mostOf (vs := [(0, 3)]) (rest := [(0, u3254)]) (rs := [(0, 4), (0, u3254)]) (cn1 := 0) (sl1 := 0) rfl (mMostR3) rfl rfl rfl rfl rfl rfl rfl rfl) ?_
          by_cases hc3260 : u3254 < 4
          · refine xg_t (xg_icT (u := u3254) (v := 4) rfl xnm0 xnm0 (xj_ltT hc3260 (by omega))) ?_
            refine xg_t (xg_blk (b := [(64, 1, 0, 0, 0, 0), (65, 3, 13, 110, 96, 190), (68, 1, 2, 1, 0, 0), (69, 39, 33, 362, 0, 9)]) rfl) ?_
            refine xg_t (xg_aload (va := (2, 82)) rfl rfl) ?_
            refine xg_cVv mX12_advance (vs := []) (rest := []) (cn1 := 0) (sl1 := 0) rfl (mAdvance (hI)) rfl h82_31 rfl rfl rfl rfl rfl rfl (fun w3261 hq3262 => ?_)
            obtain ⟨hI3263, hF3264, hx3265⟩ := hq3262
            obtain ⟨hv3266, hv3267, hv3268, hv3269⟩ := hx3265
            have hf3271 := FA_fr hF3264 (by decide)
            have hs3272 := (PK.rf hps).2.2.2
            unfold PS at hs3272
            have pk3270 : PK w w3261 := ⟨fun _ => by omega, hv3266, hv3269, (show fld w3261 82 10 = 0 ∨ FA w3261 ≠ 0 by omega)⟩
            have pk3273 : PK w w3261 := PK.tr (PK.rf hps) pk3270
            have os3274 : ∀ j, (j < 80 + 3 * u3254 ∨ 83 + 3 * u3254 ≤ j) → j < 140 → rwv w3261 86 j = rwv w 86 j := fun j hj hl => (rwv_fr hF3264 (by decide)).trans ((fun j _ _ => rfl) j hj hl)
            have ms3275 : mu w3261 < mu w := Nat.lt_of_lt_of_le (hv3267 (by omega)) (PK.rf hps).2.1
            refine xg_t (xg_iload (va := (0, 3)) rfl rfl) ?_
            refine xg_t (xg_swt (ks := [(0, 108), (1, 116), (2, 180), (3, 221), (4, 273), (5, 326)]) (u := 3) (z := 221) rfl rfl rfl xnm0 (xsw_n (by omega) (xsw_n (by omega) (xsw_n (by omega) (xsw_y rfl))))) ?_
            refine xg_t (xg_blk (b := [(221, 1, 3, 0, 0, 0), (222, 2, 15, 4, 0, 0)]) rfl) ?_
            refine xg_t (xg_const) ?_
            refine xg_t (xg_istore (l1 := [(3, (0, u3254)), (2, (0, f82_9)), (1, (0, 3)), (0, (2, 82))]) rfl rfl rfl) ?_
            refine xg_t (xg_blk (b := [(224, 2, 2, 4, 0, 0), (226, 1, 3, 3, 0, 0), (227, 3, 6, 270, 3, 0), (230, 1, 0, 0, 0, 0), (231, 1, 2, 1, 0, 0), (232, 1, 2, 3, 0, 0), (233, 2, 4, 80, 0, 0), (235, 1, 3, 3, 0, 0), (236, 1, 2, 3, 0, 0), (237, 1, 16, 0, 0, 0), (238, 1, 11, 0, 0, 0), (239, 2, 2, 4, 0, 0), (241, 1, 11, 0, 0, 0), (242, 1, 0, 0, 0, 0), (243, 1, 3, 1, 0, 0), (244, 2, 2, 4, 0, 0), (246, 1, 3, 2, 0, 0), (247, 3, 6, 255, 3, 0), (250, 2, 4, 10, 0, 0), (252, 3, 8, 258, 0, 0)]) rfl) ?_
            refine xg_t (xg_iload (va := (0, 0)) rfl rfl) ?_
            refine xg_t (xg_const) ?_
            refine xg_t (xg_icF (u := 0) (v := 3) rfl xnm0 xnm0 (by decide)) ?_
            refine xg_t (xg_aload (va := (2, 82)) rfl rfl) ?_
            refine xg_t (xg_iload (va := (0, 3)) rfl rfl) ?_
            refine xg_t (xg_iload (va := (0, u3254)) rfl rfl) ?_
            refine xg_t (xg_bip) ?_
            refine xg_t (xg_const) ?_
            refine xg_t (xg_iload (va := (0, u3254)) rfl rfl) ?_
            refine xg_t (xg_imul (u := 3) (v := u3254) (z := 3 * u3254) xnm0 xnm0 (by omega)) ?_
            refine xg_t (xg_iadd (u := 80) (v := 3 * u3254) (z := 80 + (3 * u3254)) xnm0 xnm0 (by omega)) ?_
            refine xg_t (xg_iload (va := (0, 0)) rfl rfl) ?_
            refine xg_t (xg_iadd (u := 80 + (3 * u3254)) (v := 0) (z := (80 + (3 * u3254)) + 0) xnm0 xnm0 (by omega)) ?_
            refine xg_t (xg_aload (va := (2, 82)) rfl rfl) ?_
            refine xg_t (xg_const) ?_
            refine xg_t (xg_iload (va := (0, 0)) rfl rfl) ?_
            refine xg_t (xg_const) ?_
            refine xg_t (xg_icF (u := 0) (v := 2) rfl xnm0 xnm0 (by decide)) ?_
            refine xg_t (xg_bip) ?_
            refine xg_t (xg_goto) ?_
            refine xg_t (xg_blk (b := [(258, 3, 13, 199, 96, 196), (261, 3, 13, 211, 96, 200), (264, 3, 9, 4, 1, 0), (267, 3, 8, 224, 0, 0)]) rfl) ?_
            obtain ⟨f82_3276, f82_3278, f82_3280, f82_3282, f82_3284, f82_3286, f82_3288, f82_3290, f82_3292, f82_3294, f82_3296, f82_3297, f82_3298, f82_3300, f82_3302, f82_3304, h82_3306, hb3277, hb3279, hb3281, hb3283, hb3285, hb3287, hb3289, hb3291, hb3293, hb3295, hb3299, hb3301, hb3303, hb3305, hb3307⟩ := (hI3263 82 (by decide) (by decide) : cp82 (wget w3261 82))
            refine xg_cVi mX12_numbered (vs := [(0, 1), (0, 10)]) (rest := [(0, (80 + (3 * u3254)) + 0), (0, u3254), (0, 3), (2, 82)]) (cn1 := 0) (sl1 := 0) rfl (mNumbered (hI3263) (by omega) (by omega) pk3273.2.2.2) rfl h82_3306 rfl rfl rfl rfl rfl rfl (fun n3312 w3308 hq3309 => ?_)
            obtain ⟨hn3313, hI3310, hF3311⟩ := hq3309
            obtain ⟨hn3314, hn3315, hn3316⟩ := hn3313
            have pk3317 : PK w w3308 := PK.tr pk3273 hn3315
            have os3318 : ∀ j, (j < 80 + 3 * u3254 ∨ 83 + 3 * u3254 ≤ j) → j < 140 → rwv w3308 86 j = rwv w 86 j := fun j hj hl => (rwv_fr hF3311 (by decide)).trans (os3274 j hj hl)
            have ms3319 : mu w3308 < mu w := Nat.lt_of_le_of_lt hn3315.2.1 ms3275
            obtain ⟨f82_3320, f82_3322, f82_3324, f82_3326, f82_3328, f82_3330, f82_3332, f82_3334, f82_3336, f82_3338, f82_3340, f82_3341, f82_3342, f82_3344, f82_3346, f82_3348, h82_3350, hb3321, hb3323, hb3325, hb3327, hb3329, hb3331, hb3333, hb3335, hb3337, hb3339, hb3343, hb3345, hb3347, hb3349, hb3351⟩ := (hI3310 82 (by decide) (by decide) : cp82 (wget w3308 82))
            refine xg_cVv mX12_puts (vs := [(0, 3), (0, u3254), (0, (80 + (3 * u3254)) + 0), (0, n3312)]) (rest := []) (cn1 := 0) (sl1 := 0) rfl (mPuts3 (hI3310) (by omega) (by omega) (by omega) (fun _ => by omega)) rfl h82_3350 rfl rfl rfl rfl rfl rfl (fun w3352 hq3353 => ?_)
            obtain ⟨hI3354, hF3355, hx3356⟩ := hq3353
            obtain ⟨hp3357, hp3358⟩ := hx3356
            have pk3359 : PK w w3352 := PK.tr pk3317 (PK.fr hF3355 (by decide) (by decide) pk3317.2.2.2)
            have os3360 : ∀ j, (j < 80 + 3 * u3254 ∨ 83 + 3 * u3254 ≤ j) → j < 140 → rwv w3352 86 j = rwv w 86 j := fun j hj hl => (hp3358 j (by omega) hl).trans (os3318 j hj hl)
            have rg3361 : FA w3352 ≠ 0 ∨ (1 ≤ n3312 ∧ n3312 ≤ 10) := hn3316.imp_left (PK.fr hF3355 (by decide) (by decide) pk3317.2.2.2).1
            have ms3362 : mu w3352 < mu w := Nat.lt_of_le_of_lt (PK.fr hF3355 (by decide) (by decide) pk3317.2.2.2).2.1 ms3319
            refine xg_t (xg_iinc (u := 0) (z := 1) (l1 := [(3, (0, u3254)), (2, (0, f82_9)), (1, (0, 3)), (0, (2, 82))]) rfl rfl (by decide) rfl) ?_
            refine xg_t (xg_goto) ?_
            refine xg_t (xg_blk (b := [(224, 2, 2, 4, 0, 0), (226, 1, 3, 3, 0, 0), (227, 3, 6, 270, 3, 0), (230, 1, 0, 0, 0, 0), (231, 1, 2, 1, 0, 0), (232, 1, 2, 3, 0, 0), (233, 2, 4, 80, 0, 0), (235, 1, 3, 3, 0, 0), (236, 1, 2, 3, 0, 0), (237, 1, 16, 0, 0, 0), (238, 1, 11, 0, 0, 0), (239, 2, 2, 4, 0, 0), (241, 1, 11, 0, 0, 0), (242, 1, 0, 0, 0, 0), (243, 1, 3, 1, 0, 0), (244, 2, 2, 4, 0, 0), (246, 1, 3, 2, 0, 0), (247, 3, 6, 255, 3, 0), (250, 2, 4, 10, 0, 0), (252, 3, 8, 258, 0, 0)]) rfl) ?_
            refine xg_t (xg_iload (va := (0, 1)) rfl rfl) ?_
            refine xg_t (xg_const) ?_
            refine xg_t (xg_icF (u := 1) (v := 3) rfl xnm0 xnm0 (by decide)) ?_
            refine xg_t (xg_aload (va := (2, 82)) rfl rfl) ?_
            refine xg_t (xg_iload (va := (0, 3)) rfl rfl) ?_
            refine xg_t (xg_iload (va := (0, u3254)) rfl rfl) ?_
            refine xg_t (xg_bip) ?_
            refine xg_t (xg_const) ?_
            refine xg_t (xg_iload (va := (0, u3254)) rfl rfl) ?_
            refine xg_t (xg_imul (u := 3) (v := u3254) (z := 3 * u3254) xnm0 xnm0 (by omega)) ?_
            refine xg_t (xg_iadd (u := 80) (v := 3 * u3254) (z := 80 + (3 * u3254)) xnm0 xnm0 (by omega)) ?_
            refine xg_t (xg_iload (va := (0, 1)) rfl rfl) ?_
            refine xg_t (xg_iadd (u := 80 + (3 * u3254)) (v := 1) (z := (80 + (3 * u3254)) + 1) xnm0 xnm0 (by omega)) ?_
            refine xg_t (xg_aload (va := (2, 82)) rfl rfl) ?_
            refine xg_t (xg_const) ?_
            refine xg_t (xg_iload (va := (0, 1)) rfl rfl) ?_
            refine xg_t (xg_const) ?_
            refine xg_t (xg_icF (u := 1) (v := 2) rfl xnm0 xnm0 (by decide)) ?_
            refine xg_t (xg_bip) ?_
            refine xg_t (xg_goto) ?_
            refine xg_t (xg_blk (b := [(258, 3, 13, 199, 96, 196), (261, 3, 13, 211, 96, 200), (264, 3, 9, 4, 1, 0), (267, 3, 8, 224, 0, 0)]) rfl) ?_
            refine xg_cVi mX12_numbered (vs := [(0, 1), (0, 10)]) (rest := [(0, (80 + (3 * u3254)) + 1), (0, u3254), (0, 3), (2, 82)]) (cn1 := 0) (sl1 := 0) rfl (mNumbered (hI3354) (by omega) (by omega) pk3359.2.2.2) rfl (hF3355.get (by decide) h82_3350) rfl rfl rfl rfl rfl rfl (fun n3367 w3363 hq3364 => ?_)
            obtain ⟨hn3368, hI3365, hF3366⟩ := hq3364
            obtain ⟨hn3369, hn3370, hn3371⟩ := hn3368
            have pk3372 : PK w w3363 := PK.tr pk3359 hn3370
            have os3373 : ∀ j, (j < 80 + 3 * u3254 ∨ 83 + 3 * u3254 ≤ j) → j < 140 → rwv w3363 86 j = rwv w 86 j := fun j hj hl => (rwv_fr hF3366 (by decide)).trans (os3360 j hj hl)
            have ix3374 : u3254 < 4 → rwv w3363 86 ((80 + (3 * u3254)) + 0) = n3312 := fun h => (rwv_fr hF3366 (by decide)).trans (hp3357 h)
            have rg3375 : FA w3363 ≠ 0 ∨ (1 ≤ n3312 ∧ n3312 ≤ 10) := rg3361.imp_left hn3370.1
            have ms3376 : mu w3363 < mu w := Nat.lt_of_le_of_lt hn3370.2.1 ms3362
            obtain ⟨f82_3377, f82_3379, f82_3381, f82_3383, f82_3385, f82_3387, f82_3389, f82_3391, f82_3393, f82_3395, f82_3397, f82_3398, f82_3399, f82_3401, f82_3403, f82_3405, h82_3407, hb3378, hb3380, hb3382, hb3384, hb3386, hb3388, hb3390, hb3392, hb3394, hb3396, hb3400, hb3402, hb3404, hb3406, hb3408⟩ := (hI3365 82 (by decide) (by decide) : cp82 (wget w3363 82))
            refine xg_cVv mX12_puts (vs := [(0, 3), (0, u3254), (0, (80 + (3 * u3254)) + 1), (0, n3367)]) (rest := []) (cn1 := 0) (sl1 := 0) rfl (mPuts3 (hI3365) (by omega) (by omega) (by omega) (fun _ => by omega)) rfl h82_3407 rfl rfl rfl rfl rfl rfl (fun w3409 hq3410 => ?_)
            obtain ⟨hI3411, hF3412, hx3413⟩ := hq3410
            obtain ⟨hp3414, hp3415⟩ := hx3413
            have pk3416 : PK w w3409 := PK.tr pk3372 (PK.fr hF3412 (by decide) (by decide) pk3372.2.2.2)
            have os3417 : ∀ j, (j < 80 + 3 * u3254 ∨ 83 + 3 * u3254 ≤ j) → j < 140 → rwv w3409 86 j = rwv w 86 j := fun j hj hl => (hp3415 j (by omega) hl).trans (os3373 j hj hl)
            have ix3418 : u3254 < 4 → rwv w3409 86 ((80 + (3 * u3254)) + 0) = n3312 := fun h => (hp3415 _ (by omega) (by omega)).trans (ix3374 h)
            have rg3419 : FA w3409 ≠ 0 ∨ (1 ≤ n3312 ∧ n3312 ≤ 10) := rg3375.imp_left (PK.fr hF3412 (by decide) (by decide) pk3372.2.2.2).1
            have rg3420 : FA w3409 ≠ 0 ∨ (1 ≤ n3367 ∧ n3367 ≤ 10) := hn3371.imp_left (PK.fr hF3412 (by decide) (by decide) pk3372.2.2.2).1
            have ms3421 : mu w3409 < mu w := Nat.lt_of_le_of_lt (PK.fr hF3412 (by decide) (by decide) pk3372.2.2.2).2.1 ms3376
            refine xg_t (xg_iinc (u := 1) (z := 2) (l1 := [(3, (0, u3254)), (2, (0, f82_9)), (1, (0, 3)), (0, (2, 82))]) rfl rfl (by decide) rfl) ?_
            refine xg_t (xg_goto) ?_
            refine xg_t (xg_blk (b := [(224, 2, 2, 4, 0, 0), (226, 1, 3, 3, 0, 0), (227, 3, 6, 270, 3, 0), (230, 1, 0, 0, 0, 0), (231, 1, 2, 1, 0, 0), (232, 1, 2, 3, 0, 0), (233, 2, 4, 80, 0, 0), (235, 1, 3, 3, 0, 0), (236, 1, 2, 3, 0, 0), (237, 1, 16, 0, 0, 0), (238, 1, 11, 0, 0, 0), (239, 2, 2, 4, 0, 0), (241, 1, 11, 0, 0, 0), (242, 1, 0, 0, 0, 0), (243, 1, 3, 1, 0, 0), (244, 2, 2, 4, 0, 0), (246, 1, 3, 2, 0, 0), (247, 3, 6, 255, 3, 0), (250, 2, 4, 10, 0, 0), (252, 3, 8, 258, 0, 0)]) rfl) ?_
            refine xg_t (xg_iload (va := (0, 2)) rfl rfl) ?_
            refine xg_t (xg_const) ?_
            refine xg_t (xg_icF (u := 2) (v := 3) rfl xnm0 xnm0 (by decide)) ?_
            refine xg_t (xg_aload (va := (2, 82)) rfl rfl) ?_
            refine xg_t (xg_iload (va := (0, 3)) rfl rfl) ?_
            refine xg_t (xg_iload (va := (0, u3254)) rfl rfl) ?_
            refine xg_t (xg_bip) ?_
            refine xg_t (xg_const) ?_
            refine xg_t (xg_iload (va := (0, u3254)) rfl rfl) ?_
            refine xg_t (xg_imul (u := 3) (v := u3254) (z := 3 * u3254) xnm0 xnm0 (by omega)) ?_
            refine xg_t (xg_iadd (u := 80) (v := 3 * u3254) (z := 80 + (3 * u3254)) xnm0 xnm0 (by omega)) ?_
            refine xg_t (xg_iload (va := (0, 2)) rfl rfl) ?_
            refine xg_t (xg_iadd (u := 80 + (3 * u3254)) (v := 2) (z := (80 + (3 * u3254)) + 2) xnm0 xnm0 (by omega)) ?_
            refine xg_t (xg_aload (va := (2, 82)) rfl rfl) ?_
            refine xg_t (xg_const) ?_
            refine xg_t (xg_iload (va := (0, 2)) rfl rfl) ?_
            refine xg_t (xg_const) ?_
            refine xg_t (xg_icT (u := 2) (v := 2) rfl xnm0 xnm0 (by decide)) ?_
            refine xg_t (xg_blk (b := [(255, 3, 5, 999, 0, 0)]) rfl) ?_
            refine xg_t (xg_sip) ?_
            refine xg_t (xg_blk (b := [(258, 3, 13, 199, 96, 196), (261, 3, 13, 211, 96, 200), (264, 3, 9, 4, 1, 0), (267, 3, 8, 224, 0, 0)]) rfl) ?_
            refine xg_cVi mX12_numbered (vs := [(0, 1), (0, 999)]) (rest := [(0, (80 + (3 * u3254)) + 2), (0, u3254), (0, 3), (2, 82)]) (cn1 := 0) (sl1 := 0) rfl (mNumbered (hI3411) (by omega) (by omega) pk3416.2.2.2) rfl (hF3412.get (by decide) h82_3407) rfl rfl rfl rfl rfl rfl (fun n3426 w3422 hq3423 => ?_)
            obtain ⟨hn3427, hI3424, hF3425⟩ := hq3423
            obtain ⟨hn3428, hn3429, hn3430⟩ := hn3427
            have pk3431 : PK w w3422 := PK.tr pk3416 hn3429
            have os3432 : ∀ j, (j < 80 + 3 * u3254 ∨ 83 + 3 * u3254 ≤ j) → j < 140 → rwv w3422 86 j = rwv w 86 j := fun j hj hl => (rwv_fr hF3425 (by decide)).trans (os3417 j hj hl)
            have ix3433 : u3254 < 4 → rwv w3422 86 ((80 + (3 * u3254)) + 0) = n3312 := fun h => (rwv_fr hF3425 (by decide)).trans (ix3418 h)
            have ix3434 : u3254 < 4 → rwv w3422 86 ((80 + (3 * u3254)) + 1) = n3367 := fun h => (rwv_fr hF3425 (by decide)).trans (hp3414 h)
            have rg3435 : FA w3422 ≠ 0 ∨ (1 ≤ n3312 ∧ n3312 ≤ 10) := rg3419.imp_left hn3429.1
            have rg3436 : FA w3422 ≠ 0 ∨ (1 ≤ n3367 ∧ n3367 ≤ 10) := rg3420.imp_left hn3429.1
            have ms3437 : mu w3422 < mu w := Nat.lt_of_le_of_lt hn3429.2.1 ms3421
            obtain ⟨f82_3438, f82_3440, f82_3442, f82_3444, f82_3446, f82_3448, f82_3450, f82_3452, f82_3454, f82_3456, f82_3458, f82_3459, f82_3460, f82_3462, f82_3464, f82_3466, h82_3468, hb3439, hb3441, hb3443, hb3445, hb3447, hb3449, hb3451, hb3453, hb3455, hb3457, hb3461, hb3463, hb3465, hb3467, hb3469⟩ := (hI3424 82 (by decide) (by decide) : cp82 (wget w3422 82))
            refine xg_cVv mX12_puts (vs := [(0, 3), (0, u3254), (0, (80 + (3 * u3254)) + 2), (0, n3426)]) (rest := []) (cn1 := 0) (sl1 := 0) rfl (mPuts3 (hI3424) (by omega) (by omega) (by omega) (fun _ => by omega)) rfl h82_3468 rfl rfl rfl rfl rfl rfl (fun w3470 hq3471 => ?_)
            obtain ⟨hI3472, hF3473, hx3474⟩ := hq3471
            obtain ⟨hp3475, hp3476⟩ := hx3474
            have pk3477 : PK w w3470 := PK.tr pk3431 (PK.fr hF3473 (by decide) (by decide) pk3431.2.2.2)
            have os3478 : ∀ j, (j < 80 + 3 * u3254 ∨ 83 + 3 * u3254 ≤ j) → j < 140 → rwv w3470 86 j = rwv w 86 j := fun j hj hl => (hp3476 j (by omega) hl).trans (os3432 j hj hl)
            have ix3479 : u3254 < 4 → rwv w3470 86 ((80 + (3 * u3254)) + 0) = n3312 := fun h => (hp3476 _ (by omega) (by omega)).trans (ix3433 h)
            have ix3480 : u3254 < 4 → rwv w3470 86 ((80 + (3 * u3254)) + 1) = n3367 := fun h => (hp3476 _ (by omega) (by omega)).trans (ix3434 h)
            have rg3481 : FA w3470 ≠ 0 ∨ (1 ≤ n3312 ∧ n3312 ≤ 10) := rg3435.imp_left (PK.fr hF3473 (by decide) (by decide) pk3431.2.2.2).1
            have rg3482 : FA w3470 ≠ 0 ∨ (1 ≤ n3367 ∧ n3367 ≤ 10) := rg3436.imp_left (PK.fr hF3473 (by decide) (by decide) pk3431.2.2.2).1
            have rg3483 : FA w3470 ≠ 0 ∨ (1 ≤ n3426 ∧ n3426 ≤ 999) := hn3430.imp_left (PK.fr hF3473 (by decide) (by decide) pk3431.2.2.2).1
            have ms3484 : mu w3470 < mu w := Nat.lt_of_le_of_lt (PK.fr hF3473 (by decide) (by decide) pk3431.2.2.2).2.1 ms3437
            refine xg_t (xg_iinc (u := 2) (z := 3) (l1 := [(3, (0, u3254)), (2, (0, f82_9)), (1, (0, 3)), (0, (2, 82))]) rfl rfl (by decide) rfl) ?_
            refine xg_t (xg_goto) ?_
            refine xg_t (xg_blk (b := [(224, 2, 2, 4, 0, 0), (226, 1, 3, 3, 0, 0), (227, 3, 6, 270, 3, 0), (230, 1, 0, 0, 0, 0), (231, 1, 2, 1, 0, 0), (232, 1, 2, 3, 0, 0), (233, 2, 4, 80, 0, 0), (235, 1, 3, 3, 0, 0), (236, 1, 2, 3, 0, 0), (237, 1, 16, 0, 0, 0), (238, 1, 11, 0, 0, 0), (239, 2, 2, 4, 0, 0), (241, 1, 11, 0, 0, 0), (242, 1, 0, 0, 0, 0), (243, 1, 3, 1, 0, 0), (244, 2, 2, 4, 0, 0), (246, 1, 3, 2, 0, 0), (247, 3, 6, 255, 3, 0), (250, 2, 4, 10, 0, 0), (252, 3, 8, 258, 0, 0)]) rfl) ?_
            refine xg_t (xg_iload (va := (0, 3)) rfl rfl) ?_
            refine xg_t (xg_const) ?_
            refine xg_t (xg_icT (u := 3) (v := 3) rfl xnm0 xnm0 (by decide)) ?_
            refine xg_t (xg_blk (b := [(270, 3, 8, 394, 0, 0)]) rfl) ?_
            refine xg_t (xg_goto) ?_
            refine xg_t (xg_blk (b := [(394, 1, 0, 0, 0, 0), (395, 3, 1, 12, 10, 180), (398, 3, 7, 416, 1, 0), (401, 1, 0, 0, 0, 0), (402, 3, 1, 12, 7, 151), (405, 1, 3, 2, 0, 0), (406, 3, 6, 416, 1, 0), (409, 1, 0, 0, 0, 0), (410, 3, 13, 110, 96, 190), (413, 3, 8, 420, 0, 0)]) rfl) ?_
            refine xg_t (xg_aload (va := (2, 82)) rfl rfl) ?_
            refine xg_t (xg_getf (va := (0, f82_3454)) (hF3473.get (by decide) h82_3468) rfl) ?_
            by_cases hc3485 : f82_3454 = 0
            · refine xg_t (xg_ifF (u := f82_3454) rfl xnm0 (xj_neF hc3485)) ?_
              refine xg_t (xg_aload (va := (2, 82)) rfl rfl) ?_
              refine xg_t (xg_getf (va := (0, f82_3448)) (hF3473.get (by decide) h82_3468) rfl) ?_
              refine xg_t (xg_const) ?_
              by_cases hc3486 : f82_3448 = 2
              · refine xg_t (xg_icF (u := f82_3448) (v := 2) rfl xnm0 xnm0 (xj_neF hc3486)) ?_
                refine xg_t (xg_aload (va := (2, 82)) rfl rfl) ?_
                refine xg_cVv mX12_advance (vs := []) (rest := []) (cn1 := 0) (sl1 := 0) rfl (mAdvance (hI3472)) rfl (hF3473.get (by decide) h82_3468) rfl rfl rfl rfl rfl rfl (fun w3487 hq3488 => ?_)
                obtain ⟨hI3489, hF3490, hx3491⟩ := hq3488
                obtain ⟨hv3492, hv3493, hv3494, hv3495⟩ := hx3491
                have hf3497 := FA_fr hF3490 (by decide)
                have hs3498 := pk3477.2.2.2
                unfold PS at hs3498
                have pk3496 : PK w3470 w3487 := ⟨fun _ => by omega, hv3492, hv3495, (show fld w3487 82 10 = 0 ∨ FA w3487 ≠ 0 by omega)⟩
                have pk3499 : PK w w3487 := PK.tr pk3477 pk3496
                have os3500 : ∀ j, (j < 80 + 3 * u3254 ∨ 83 + 3 * u3254 ≤ j) → j < 140 → rwv w3487 86 j = rwv w 86 j := fun j hj hl => (rwv_fr hF3490 (by decide)).trans (os3478 j hj hl)
                have ix3501 : u3254 < 4 → rwv w3487 86 ((80 + (3 * u3254)) + 0) = n3312 := fun h => (rwv_fr hF3490 (by decide)).trans (ix3479 h)
                have ix3502 : u3254 < 4 → rwv w3487 86 ((80 + (3 * u3254)) + 1) = n3367 := fun h => (rwv_fr hF3490 (by decide)).trans (ix3480 h)
                have ix3503 : u3254 < 4 → rwv w3487 86 ((80 + (3 * u3254)) + 2) = n3426 := fun h => (rwv_fr hF3490 (by decide)).trans (hp3475 h)
                have rg3504 : FA w3487 ≠ 0 ∨ (1 ≤ n3312 ∧ n3312 ≤ 10) := rg3481.imp_left pk3496.1
                have rg3505 : FA w3487 ≠ 0 ∨ (1 ≤ n3367 ∧ n3367 ≤ 10) := rg3482.imp_left pk3496.1
                have rg3506 : FA w3487 ≠ 0 ∨ (1 ≤ n3426 ∧ n3426 ≤ 999) := rg3483.imp_left pk3496.1
                have ms3507 : mu w3487 < mu w := Nat.lt_of_le_of_lt pk3496.2.1 ms3484
                refine xg_t (xg_goto) ?_
                refine xg_t (xg_blk (b := [(420, 1, 0, 0, 0, 0), (421, 3, 1, 12, 11, 17), (424, 1, 2, 1, 0, 0), (425, 1, 39, 0, 0, 0), (426, 1, 10, 0, 0, 0), (427, 1, 3, 1, 0, 0), (428, 1, 11, 0, 0, 0), (429, 1, 17, 0, 0, 0), (430, 1, 0, 0, 0, 0), (431, 1, 19, 0, 0, 0), (432, 3, 1, 12, 14, 212), (435, 1, 3, 1, 0, 0), (436, 1, 11, 0, 0, 0), (437, 3, 14, 12, 14, 212), (440, 1, 12, 0, 0, 0)]) rfl) ?_
                obtain ⟨f82_3508, f82_3510, f82_3512, f82_3514, f82_3516, f82_3518, f82_3520, f82_3522, f82_3524, f82_3526, f82_3528, f82_3529, f82_3530, f82_3532, f82_3534, f82_3536, h82_3538, hb3509, hb3511, hb3513, hb3515, hb3517, hb3519, hb3521, hb3523, hb3525, hb3527, hb3531, hb3533, hb3535, hb3537, hb3539⟩ := (hI3489 82 (by decide) (by decide) : cp82 (wget w3487 82))
                have hf3540 : fld w3487 82 4 = f82_3512 := fld_of h82_3538
                have hf3541 : fld w3487 82 5 = f82_3514 := fld_of h82_3538
                have hf3542 : fld w3487 82 7 = f82_3518 := fld_of h82_3538
                have hf3543 : fld w3487 82 10 = f82_3524 := fld_of h82_3538
                have hf3544 : fld w3487 82 14 = f82_3526 := fld_of h82_3538
                have hu3545 : mu w3487 = 2 * (fld w3487 82 4 - fld w3487 82 5) + min 1 (fld w3487 82 7) := rfl
                have hf3546 := pk3499.2.2.1
                have hl3547 : f82_3526 ≤ 1000 := by omega
                refine xg_t (xg_aload (va := (2, 82)) rfl rfl) ?_
                refine xg_t (xg_getf (va := (2, 85)) h82_3538 rfl) ?_
                refine xg_t (xg_iload (va := (0, 3)) rfl rfl) ?_
                refine xg_t (xg_dup2 rfl) ?_
                refine xg_ialdB (n := 3) (B := 4294967295) ((((((((h85_37.fr hF3264 (by decide)).fr hF3311 (by decide)).fr hF3355 (by decide)).fr hF3366 (by decide)).fr hF3412 (by decide)).fr hF3425 (by decide)).fr hF3473 (by decide)).fr hF3490 (by decide)) (hb38) xnm0 (by omega) (fun u3548 hu3549 he3550 => ?_)
                have hl3551 : u3548 = u3254 := by omega
                refine xg_t (xg_const) ?_
                refine xg_t (xg_iadd (u := u3548) (v := 1) (z := u3548 + 1) xnm0 xnm0 (by omega)) ?_
                refine xg_iastK (n := 3) (u := u3548 + 1) ((((((((h85_37.fr hF3264 (by decide)).fr hF3311 (by decide)).fr hF3355 (by decide)).fr hF3366 (by decide)).fr hF3412 (by decide)).fr hF3425 (by decide)).fr hF3473 (by decide)).fr hF3490 (by decide)) xnm0 xnm0 rfl (by omega) (fun w3552 hr3553 hb3554 => ?_)
                refine xg_t (xg_aload (va := (2, 82)) rfl rfl) ?_
                refine xg_t (xg_dup rfl) ?_
                refine xg_t (xg_getf (va := (0, f82_3526)) (hb3554.get (by decide) h82_3538) rfl) ?_
                refine xg_t (xg_const) ?_
                refine xg_t (xg_iadd (u := f82_3526) (v := 1) (z := f82_3526 + 1) xnm0 xnm0 (by omega)) ?_
                refine xg_putI (fl1 := [(2, 83), (2, 84), (0, f82_3508), (0, f82_3510), (0, f82_3512), (0, f82_3514), (0, f82_3516), (0, f82_3518), (0, f82_3520), (0, f82_3522), (0, f82_3524), (2, 85), (2, 86), (2, 87), (0, f82_3526 + 1), (2, 88), (2, 89), (2, 90), (2, 91), (2, 92), (2, 93), (2, 94), (4, f82_3528), (4, f82_3529), (0, f82_3530), (2, 95), (2, 96), (2, 97), (2, 98), (2, 99), (2, 100), (2, 101), (2, 102), (0, f82_3532), (2, 103), (2, 104), (2, 105), (2, 106), (2, 107), (2, 108), (2, 109), (0, f82_3534), (0, f82_3536), (2, 110), (2, 111), (2, 112), (2, 113)]) (hb3554.get (by decide) h82_3538) rfl rfl rfl (fun w3555 hk3556 hb3557 => ?_)
                have hF3558 : xFr [82, 85] w3487 w3555 := ((xFr.of (S := [82, 85]) hb3554 (by decide)).tr (xFr.of (S := [82, 85]) hb3557 (by decide)))
                have hA3559 := FA_fr hF3558 (by decide)
                have hf3560 : fld w3555 82 4 = f82_3512 := fld_of hk3556
                have hf3561 : fld w3555 82 5 = f82_3514 := fld_of hk3556
                have hf3562 : fld w3555 82 7 = f82_3518 := fld_of hk3556
                have hf3563 : fld w3555 82 10 = f82_3524 := fld_of hk3556
                have hf3564 : fld w3555 82 14 = f82_3526 + 1 := fld_of hk3556
                have hu3565 : mu w3555 = 2 * (fld w3555 82 4 - fld w3555 82 5) + min 1 (fld w3555 82 7) := rfl
                have pq3566 := pk3499
                unfold PK PS at pq3566
                have hM3567 : ∀ s, s < 7 → s ≠ 3 → rwv w3555 85 s = rwv w 85 s := fun s hs hn => (rwv_of (hr3553.but hb3557 (by decide)) hs).trans ((if_neg hn).trans (rwv_of h85_37 hs).symm)
                have hM3568 : rwv w3555 85 3 = u3254 + 1 := (rwv_of (hr3553.but hb3557 (by decide)) (by decide)).trans ((if_pos rfl).trans (by omega))
                have hM3569 : ∀ s, s < 7 → rwv w3555 85 s ≤ rwv w 85 s + 1 := fun s hs => by
                  by_cases z : s = 3
                  · subst z; omega
                  · rw [hM3567 s hs z]; omega
                have hO3570 : ∀ j, (j < 80 + 3 * u3254 ∨ 83 + 3 * u3254 ≤ j) → j < 140 → rwv w3555 86 j = rwv w 86 j := fun j hj hl => (rwv_fr hF3558 (by decide)).trans (os3500 j hj hl)
                have hN3571 : FA w3555 ≠ 0 ∨ 4 ≤ u3254 ∨ True := Or.inr (Or.inr trivial)
                have hX3572 : FA w3555 ≠ 0 ∨ u3254 < 4 := by omega
                have hD3573 : FA w3555 ≠ 0 ∨ (DATA w → DATA w3555) := by
                  by_cases z : FA w3555 ≠ 0
                  · exact Or.inl z
                  · exact Or.inr (fun hd => hd.s3 hM3567 hK3257 hM3568 (hX3572.resolve_left z) hO3570 ((hN3571.resolve_left z).resolve_left (by have := hX3572.resolve_left z; omega)))
                exact xg_e ⟨w3555, ⟨rfl, rfl⟩, xMnv.up (S := [85, 82]) hI3489 ((xFr.of (S := [85, 82]) hb3554 (by decide)).tr (xFr.of (S := [85, 82]) hb3557 (by decide))) (List.forall_mem_cons.mpr ⟨(show cpI 7 52 4294967295 (wget w3555 85) from ⟨_, (hr3553.but hb3557 (by decide)), xrb (by omega) (hb38)⟩), List.forall_mem_cons.mpr ⟨(show cp82 (wget w3555 82) from ⟨f82_3508, f82_3510, f82_3512, f82_3514, f82_3516, f82_3518, f82_3520, f82_3522, f82_3524, f82_3526 + 1, f82_3528, f82_3529, f82_3530, f82_3532, f82_3534, f82_3536, hk3556, by omega, by omega, by omega, by omega, by omega, by omega, by omega, by omega, by omega, by omega, by omega, by omega, by omega, by omega, by omega⟩), fun _ h => absurd h List.not_mem_nil⟩⟩), (((((((((hF3264.up (by decide)).tr (hF3311.up (by decide))).tr (hF3355.up (by decide))).tr (hF3366.up (by decide))).tr (hF3412.up (by decide))).tr (hF3425.up (by decide))).tr (hF3473.up (by decide))).tr (hF3490.up (by decide))).tr ((xFr.of (S := [82, 83, 85, 86, 87]) hb3554 (by decide)).tr (xFr.of (S := [82, 83, 85, 86, 87]) hb3557 (by decide)))), ⟨fun h => by have := pq3566.1 h; omega, (show fld w3555 82 10 = 0 ∨ FA w3555 ≠ 0 by omega), Or.inr ⟨by have := ms3507; omega, by omega, hM3569⟩, hD3573⟩⟩
              · refine xg_t (xg_icT (u := f82_3448) (v := 2) rfl xnm0 xnm0 (xj_neT hc3486)) ?_
                refine xg_t (xg_blk (b := [(416, 1, 0, 0, 0, 0), (417, 3, 13, 140, 96, 183)]) rfl) ?_
                refine xg_t (xg_aload (va := (2, 82)) rfl rfl) ?_
                refine xg_cVv mX12_ends (vs := []) (rest := []) (cn1 := 0) (sl1 := 0) rfl (mEnds (hI3472) pk3477.2.2.2) rfl (hF3473.get (by decide) h82_3468) rfl rfl rfl rfl rfl rfl (fun w3574 hq3575 => ?_)
                obtain ⟨hI3576, hF3577, hx3578⟩ := hq3575
                obtain ⟨hv3579, hv3580, hv3581, hv3582⟩ := hx3578
                have pk3583 : PK w3470 w3574 := ⟨fun _ => hv3579, by omega, by omega, Or.inr hv3579⟩
                have pk3584 : PK w w3574 := PK.tr pk3477 pk3583
                have os3585 : ∀ j, (j < 80 + 3 * u3254 ∨ 83 + 3 * u3254 ≤ j) → j < 140 → rwv w3574 86 j = rwv w 86 j := fun j hj hl => (rwv_fr hF3577 (by decide)).trans (os3478 j hj hl)
                have ix3586 : u3254 < 4 → rwv w3574 86 ((80 + (3 * u3254)) + 0) = n3312 := fun h => (rwv_fr hF3577 (by decide)).trans (ix3479 h)
                have ix3587 : u3254 < 4 → rwv w3574 86 ((80 + (3 * u3254)) + 1) = n3367 := fun h => (rwv_fr hF3577 (by decide)).trans (ix3480 h)
                have ix3588 : u3254 < 4 → rwv w3574 86 ((80 + (3 * u3254)) + 2) = n3426 := fun h => (rwv_fr hF3577 (by decide)).trans (hp3475 h)
                have rg3589 : FA w3574 ≠ 0 ∨ (1 ≤ n3312 ∧ n3312 ≤ 10) := rg3481.imp_left pk3583.1
                have rg3590 : FA w3574 ≠ 0 ∨ (1 ≤ n3367 ∧ n3367 ≤ 10) := rg3482.imp_left pk3583.1
                have rg3591 : FA w3574 ≠ 0 ∨ (1 ≤ n3426 ∧ n3426 ≤ 999) := rg3483.imp_left pk3583.1
                have ms3592 : mu w3574 < mu w := Nat.lt_of_le_of_lt pk3583.2.1 ms3484
                refine xg_t (xg_blk (b := [(420, 1, 0, 0, 0, 0), (421, 3, 1, 12, 11, 17), (424, 1, 2, 1, 0, 0), (425, 1, 39, 0, 0, 0), (426, 1, 10, 0, 0, 0), (427, 1, 3, 1, 0, 0), (428, 1, 11, 0, 0, 0), (429, 1, 17, 0, 0, 0), (430, 1, 0, 0, 0, 0), (431, 1, 19, 0, 0, 0), (432, 3, 1, 12, 14, 212), (435, 1, 3, 1, 0, 0), (436, 1, 11, 0, 0, 0), (437, 3, 14, 12, 14, 212), (440, 1, 12, 0, 0, 0)]) rfl) ?_
                obtain ⟨f82_3593, f82_3595, f82_3597, f82_3599, f82_3601, f82_3603, f82_3605, f82_3607, f82_3609, f82_3611, f82_3613, f82_3614, f82_3615, f82_3617, f82_3619, f82_3621, h82_3623, hb3594, hb3596, hb3598, hb3600, hb3602, hb3604, hb3606, hb3608, hb3610, hb3612, hb3616, hb3618, hb3620, hb3622, hb3624⟩ := (hI3576 82 (by decide) (by decide) : cp82 (wget w3574 82))
                have hf3625 : fld w3574 82 4 = f82_3597 := fld_of h82_3623
                have hf3626 : fld w3574 82 5 = f82_3599 := fld_of h82_3623
                have hf3627 : fld w3574 82 7 = f82_3603 := fld_of h82_3623
                have hf3628 : fld w3574 82 10 = f82_3609 := fld_of h82_3623
                have hf3629 : fld w3574 82 14 = f82_3611 := fld_of h82_3623
                have hu3630 : mu w3574 = 2 * (fld w3574 82 4 - fld w3574 82 5) + min 1 (fld w3574 82 7) := rfl
                have hf3631 := pk3584.2.2.1
                have hl3632 : f82_3611 ≤ 1000 := by omega
                refine xg_t (xg_aload (va := (2, 82)) rfl rfl) ?_
                refine xg_t (xg_getf (va := (2, 85)) h82_3623 rfl) ?_
                refine xg_t (xg_iload (va := (0, 3)) rfl rfl) ?_
                refine xg_t (xg_dup2 rfl) ?_
                refine xg_ialdB (n := 3) (B := 4294967295) ((((((((h85_37.fr hF3264 (by decide)).fr hF3311 (by decide)).fr hF3355 (by decide)).fr hF3366 (by decide)).fr hF3412 (by decide)).fr hF3425 (by decide)).fr hF3473 (by decide)).fr hF3577 (by decide)) (hb38) xnm0 (by omega) (fun u3633 hu3634 he3635 => ?_)
                have hl3636 : u3633 = u3254 := by omega
                refine xg_t (xg_const) ?_
                refine xg_t (xg_iadd (u := u3633) (v := 1) (z := u3633 + 1) xnm0 xnm0 (by omega)) ?_
                refine xg_iastK (n := 3) (u := u3633 + 1) ((((((((h85_37.fr hF3264 (by decide)).fr hF3311 (by decide)).fr hF3355 (by decide)).fr hF3366 (by decide)).fr hF3412 (by decide)).fr hF3425 (by decide)).fr hF3473 (by decide)).fr hF3577 (by decide)) xnm0 xnm0 rfl (by omega) (fun w3637 hr3638 hb3639 => ?_)
                refine xg_t (xg_aload (va := (2, 82)) rfl rfl) ?_
                refine xg_t (xg_dup rfl) ?_
                refine xg_t (xg_getf (va := (0, f82_3611)) (hb3639.get (by decide) h82_3623) rfl) ?_
                refine xg_t (xg_const) ?_
                refine xg_t (xg_iadd (u := f82_3611) (v := 1) (z := f82_3611 + 1) xnm0 xnm0 (by omega)) ?_
                refine xg_putI (fl1 := [(2, 83), (2, 84), (0, f82_3593), (0, f82_3595), (0, f82_3597), (0, f82_3599), (0, f82_3601), (0, f82_3603), (0, f82_3605), (0, f82_3607), (0, f82_3609), (2, 85), (2, 86), (2, 87), (0, f82_3611 + 1), (2, 88), (2, 89), (2, 90), (2, 91), (2, 92), (2, 93), (2, 94), (4, f82_3613), (4, f82_3614), (0, f82_3615), (2, 95), (2, 96), (2, 97), (2, 98), (2, 99), (2, 100), (2, 101), (2, 102), (0, f82_3617), (2, 103), (2, 104), (2, 105), (2, 106), (2, 107), (2, 108), (2, 109), (0, f82_3619), (0, f82_3621), (2, 110), (2, 111), (2, 112), (2, 113)]) (hb3639.get (by decide) h82_3623) rfl rfl rfl (fun w3640 hk3641 hb3642 => ?_)
                have hF3643 : xFr [82, 85] w3574 w3640 := ((xFr.of (S := [82, 85]) hb3639 (by decide)).tr (xFr.of (S := [82, 85]) hb3642 (by decide)))
                have hA3644 := FA_fr hF3643 (by decide)
                have hf3645 : fld w3640 82 4 = f82_3597 := fld_of hk3641
                have hf3646 : fld w3640 82 5 = f82_3599 := fld_of hk3641
                have hf3647 : fld w3640 82 7 = f82_3603 := fld_of hk3641
                have hf3648 : fld w3640 82 10 = f82_3609 := fld_of hk3641
                have hf3649 : fld w3640 82 14 = f82_3611 + 1 := fld_of hk3641
                have hu3650 : mu w3640 = 2 * (fld w3640 82 4 - fld w3640 82 5) + min 1 (fld w3640 82 7) := rfl
                have pq3651 := pk3584
                unfold PK PS at pq3651
                have hM3652 : ∀ s, s < 7 → s ≠ 3 → rwv w3640 85 s = rwv w 85 s := fun s hs hn => (rwv_of (hr3638.but hb3642 (by decide)) hs).trans ((if_neg hn).trans (rwv_of h85_37 hs).symm)
                have hM3653 : rwv w3640 85 3 = u3254 + 1 := (rwv_of (hr3638.but hb3642 (by decide)) (by decide)).trans ((if_pos rfl).trans (by omega))
                have hM3654 : ∀ s, s < 7 → rwv w3640 85 s ≤ rwv w 85 s + 1 := fun s hs => by
                  by_cases z : s = 3
                  · subst z; omega
                  · rw [hM3652 s hs z]; omega
                have hO3655 : ∀ j, (j < 80 + 3 * u3254 ∨ 83 + 3 * u3254 ≤ j) → j < 140 → rwv w3640 86 j = rwv w 86 j := fun j hj hl => (rwv_fr hF3643 (by decide)).trans (os3585 j hj hl)
                have hN3656 : FA w3640 ≠ 0 ∨ 4 ≤ u3254 ∨ True := Or.inr (Or.inr trivial)
                have hX3657 : FA w3640 ≠ 0 ∨ u3254 < 4 := by omega
                have hD3658 : FA w3640 ≠ 0 ∨ (DATA w → DATA w3640) := by
                  by_cases z : FA w3640 ≠ 0
                  · exact Or.inl z
                  · exact Or.inr (fun hd => hd.s3 hM3652 hK3257 hM3653 (hX3657.resolve_left z) hO3655 ((hN3656.resolve_left z).resolve_left (by have := hX3657.resolve_left z; omega)))
                exact xg_e ⟨w3640, ⟨rfl, rfl⟩, xMnv.up (S := [85, 82]) hI3576 ((xFr.of (S := [85, 82]) hb3639 (by decide)).tr (xFr.of (S := [85, 82]) hb3642 (by decide))) (List.forall_mem_cons.mpr ⟨(show cpI 7 52 4294967295 (wget w3640 85) from ⟨_, (hr3638.but hb3642 (by decide)), xrb (by omega) (hb38)⟩), List.forall_mem_cons.mpr ⟨(show cp82 (wget w3640 82) from ⟨f82_3593, f82_3595, f82_3597, f82_3599, f82_3601, f82_3603, f82_3605, f82_3607, f82_3609, f82_3611 + 1, f82_3613, f82_3614, f82_3615, f82_3617, f82_3619, f82_3621, hk3641, by omega, by omega, by omega, by omega, by omega, by omega, by omega, by omega, by omega, by omega, by omega, by omega, by omega, by omega, by omega⟩), fun _ h => absurd h List.not_mem_nil⟩⟩), (((((((((hF3264.up (by decide)).tr (hF3311.up (by decide))).tr (hF3355.up (by decide))).tr (hF3366.up (by decide))).tr (hF3412.up (by decide))).tr (hF3425.up (by decide))).tr (hF3473.up (by decide))).tr (hF3577.up (by decide))).tr ((xFr.of (S := [82, 83, 85, 86, 87]) hb3639 (by decide)).tr (xFr.of (S := [82, 83, 85, 86, 87]) hb3642 (by decide)))), ⟨fun h => by have := pq3651.1 h; omega, (show fld w3640 82 10 = 0 ∨ FA w3640 ≠ 0 by omega), Or.inr ⟨by have := ms3592; omega, by omega, hM3654⟩, hD3658⟩⟩
            · refine xg_t (xg_ifT (u := f82_3454) rfl xnm0 (xj_neT hc3485)) ?_
              refine xg_t (xg_blk (b := [(416, 1, 0, 0, 0, 0), (417, 3, 13, 140, 96, 183)]) rfl) ?_
              refine xg_t (xg_aload (va := (2, 82)) rfl rfl) ?_
              refine xg_cVv mX12_ends (vs := []) (rest := []) (cn1 := 0) (sl1 := 0) rfl (mEnds (hI3472) pk3477.2.2.2) rfl (hF3473.get (by decide) h82_3468) rfl rfl rfl rfl rfl rfl (fun w3659 hq3660 => ?_)
              obtain ⟨hI3661, hF3662, hx3663⟩ := hq3660
              obtain ⟨hv3664, hv3665, hv3666, hv3667⟩ := hx3663
              have pk3668 : PK w3470 w3659 := ⟨fun _ => hv3664, by omega, by omega, Or.inr hv3664⟩
              have pk3669 : PK w w3659 := PK.tr pk3477 pk3668
              have os3670 : ∀ j, (j < 80 + 3 * u3254 ∨ 83 + 3 * u3254 ≤ j) → j < 140 → rwv w3659 86 j = rwv w 86 j := fun j hj hl => (rwv_fr hF3662 (by decide)).trans (os3478 j hj hl)
              have ix3671 : u3254 < 4 → rwv w3659 86 ((80 + (3 * u3254)) + 0) = n3312 := fun h => (rwv_fr hF3662 (by decide)).trans (ix3479 h)
              have ix3672 : u3254 < 4 → rwv w3659 86 ((80 + (3 * u3254)) + 1) = n3367 := fun h => (rwv_fr hF3662 (by decide)).trans (ix3480 h)
              have ix3673 : u3254 < 4 → rwv w3659 86 ((80 + (3 * u3254)) + 2) = n3426 := fun h => (rwv_fr hF3662 (by decide)).trans (hp3475 h)
              have rg3674 : FA w3659 ≠ 0 ∨ (1 ≤ n3312 ∧ n3312 ≤ 10) := rg3481.imp_left pk3668.1
              have rg3675 : FA w3659 ≠ 0 ∨ (1 ≤ n3367 ∧ n3367 ≤ 10) := rg3482.imp_left pk3668.1
              have rg3676 : FA w3659 ≠ 0 ∨ (1 ≤ n3426 ∧ n3426 ≤ 999) := rg3483.imp_left pk3668.1
              have ms3677 : mu w3659 < mu w := Nat.lt_of_le_of_lt pk3668.2.1 ms3484
              refine xg_t (xg_blk (b := [(420, 1, 0, 0, 0, 0), (421, 3, 1, 12, 11, 17), (424, 1, 2, 1, 0, 0), (425, 1, 39, 0, 0, 0), (426, 1, 10, 0, 0, 0), (427, 1, 3, 1, 0, 0), (428, 1, 11, 0, 0, 0), (429, 1, 17, 0, 0, 0), (430, 1, 0, 0, 0, 0), (431, 1, 19, 0, 0, 0), (432, 3, 1, 12, 14, 212), (435, 1, 3, 1, 0, 0), (436, 1, 11, 0, 0, 0), (437, 3, 14, 12, 14, 212), (440, 1, 12, 0, 0, 0)]) rfl) ?_
              obtain ⟨f82_3678, f82_3680, f82_3682, f82_3684, f82_3686, f82_3688, f82_3690, f82_3692, f82_3694, f82_3696, f82_3698, f82_3699, f82_3700, f82_3702, f82_3704, f82_3706, h82_3708, hb3679, hb3681, hb3683, hb3685, hb3687, hb3689, hb3691, hb3693, hb3695, hb3697, hb3701, hb3703, hb3705, hb3707, hb3709⟩ := (hI3661 82 (by decide) (by decide) : cp82 (wget w3659 82))
              have hf3710 : fld w3659 82 4 = f82_3682 := fld_of h82_3708
              have hf3711 : fld w3659 82 5 = f82_3684 := fld_of h82_3708
              have hf3712 : fld w3659 82 7 = f82_3688 := fld_of h82_3708
              have hf3713 : fld w3659 82 10 = f82_3694 := fld_of h82_3708
              have hf3714 : fld w3659 82 14 = f82_3696 := fld_of h82_3708
              have hu3715 : mu w3659 = 2 * (fld w3659 82 4 - fld w3659 82 5) + min 1 (fld w3659 82 7) := rfl
              have hf3716 := pk3669.2.2.1
              have hl3717 : f82_3696 ≤ 1000 := by omega
              refine xg_t (xg_aload (va := (2, 82)) rfl rfl) ?_
              refine xg_t (xg_getf (va := (2, 85)) h82_3708 rfl) ?_
              refine xg_t (xg_iload (va := (0, 3)) rfl rfl) ?_
              refine xg_t (xg_dup2 rfl) ?_
              refine xg_ialdB (n := 3) (B := 4294967295) ((((((((h85_37.fr hF3264 (by decide)).fr hF3311 (by decide)).fr hF3355 (by decide)).fr hF3366 (by decide)).fr hF3412 (by decide)).fr hF3425 (by decide)).fr hF3473 (by decide)).fr hF3662 (by decide)) (hb38) xnm0 (by omega) (fun u3718 hu3719 he3720 => ?_)
              have hl3721 : u3718 = u3254 := by omega
              refine xg_t (xg_const) ?_
              refine xg_t (xg_iadd (u := u3718) (v := 1) (z := u3718 + 1) xnm0 xnm0 (by omega)) ?_
              refine xg_iastK (n := 3) (u := u3718 + 1) ((((((((h85_37.fr hF3264 (by decide)).fr hF3311 (by decide)).fr hF3355 (by decide)).fr hF3366 (by decide)).fr hF3412 (by decide)).fr hF3425 (by decide)).fr hF3473 (by decide)).fr hF3662 (by decide)) xnm0 xnm0 rfl (by omega) (fun w3722 hr3723 hb3724 => ?_)
              refine xg_t (xg_aload (va := (2, 82)) rfl rfl) ?_
              refine xg_t (xg_dup rfl) ?_
              refine xg_t (xg_getf (va := (0, f82_3696)) (hb3724.get (by decide) h82_3708) rfl) ?_
              refine xg_t (xg_const) ?_
              refine xg_t (xg_iadd (u := f82_3696) (v := 1) (z := f82_3696 + 1) xnm0 xnm0 (by omega)) ?_
              refine xg_putI (fl1 := [(2, 83), (2, 84), (0, f82_3678), (0, f82_3680), (0, f82_3682), (0, f82_3684), (0, f82_3686), (0, f82_3688), (0, f82_3690), (0, f82_3692), (0, f82_3694), (2, 85), (2, 86), (2, 87), (0, f82_3696 + 1), (2, 88), (2, 89), (2, 90), (2, 91), (2, 92), (2, 93), (2, 94), (4, f82_3698), (4, f82_3699), (0, f82_3700), (2, 95), (2, 96), (2, 97), (2, 98), (2, 99), (2, 100), (2, 101), (2, 102), (0, f82_3702), (2, 103), (2, 104), (2, 105), (2, 106), (2, 107), (2, 108), (2, 109), (0, f82_3704), (0, f82_3706), (2, 110), (2, 111), (2, 112), (2, 113)]) (hb3724.get (by decide) h82_3708) rfl rfl rfl (fun w3725 hk3726 hb3727 => ?_)
              have hF3728 : xFr [82, 85] w3659 w3725 := ((xFr.of (S := [82, 85]) hb3724 (by decide)).tr (xFr.of (S := [82, 85]) hb3727 (by decide)))
              have hA3729 := FA_fr hF3728 (by decide)
              have hf3730 : fld w3725 82 4 = f82_3682 := fld_of hk3726
              have hf3731 : fld w3725 82 5 = f82_3684 := fld_of hk3726
              have hf3732 : fld w3725 82 7 = f82_3688 := fld_of hk3726
              have hf3733 : fld w3725 82 10 = f82_3694 := fld_of hk3726
              have hf3734 : fld w3725 82 14 = f82_3696 + 1 := fld_of hk3726
              have hu3735 : mu w3725 = 2 * (fld w3725 82 4 - fld w3725 82 5) + min 1 (fld w3725 82 7) := rfl
              have pq3736 := pk3669
              unfold PK PS at pq3736
              have hM3737 : ∀ s, s < 7 → s ≠ 3 → rwv w3725 85 s = rwv w 85 s := fun s hs hn => (rwv_of (hr3723.but hb3727 (by decide)) hs).trans ((if_neg hn).trans (rwv_of h85_37 hs).symm)
              have hM3738 : rwv w3725 85 3 = u3254 + 1 := (rwv_of (hr3723.but hb3727 (by decide)) (by decide)).trans ((if_pos rfl).trans (by omega))
              have hM3739 : ∀ s, s < 7 → rwv w3725 85 s ≤ rwv w 85 s + 1 := fun s hs => by
                by_cases z : s = 3
                · subst z; omega
                · rw [hM3737 s hs z]; omega
              have hO3740 : ∀ j, (j < 80 + 3 * u3254 ∨ 83 + 3 * u3254 ≤ j) → j < 140 → rwv w3725 86 j = rwv w 86 j := fun j hj hl => (rwv_fr hF3728 (by decide)).trans (os3670 j hj hl)
              have hN3741 : FA w3725 ≠ 0 ∨ 4 ≤ u3254 ∨ True := Or.inr (Or.inr trivial)
              have hX3742 : FA w3725 ≠ 0 ∨ u3254 < 4 := by omega
              have hD3743 : FA w3725 ≠ 0 ∨ (DATA w → DATA w3725) := by
                by_cases z : FA w3725 ≠ 0
                · exact Or.inl z
                · exact Or.inr (fun hd => hd.s3 hM3737 hK3257 hM3738 (hX3742.resolve_left z) hO3740 ((hN3741.resolve_left z).resolve_left (by have := hX3742.resolve_left z; omega)))
              exact xg_e ⟨w3725, ⟨rfl, rfl⟩, xMnv.up (S := [85, 82]) hI3661 ((xFr.of (S := [85, 82]) hb3724 (by decide)).tr (xFr.of (S := [85, 82]) hb3727 (by decide))) (List.forall_mem_cons.mpr ⟨(show cpI 7 52 4294967295 (wget w3725 85) from ⟨_, (hr3723.but hb3727 (by decide)), xrb (by omega) (hb38)⟩), List.forall_mem_cons.mpr ⟨(show cp82 (wget w3725 82) from ⟨f82_3678, f82_3680, f82_3682, f82_3684, f82_3686, f82_3688, f82_3690, f82_3692, f82_3694, f82_3696 + 1, f82_3698, f82_3699, f82_3700, f82_3702, f82_3704, f82_3706, hk3726, by omega, by omega, by omega, by omega, by omega, by omega, by omega, by omega, by omega, by omega, by omega, by omega, by omega, by omega, by omega⟩), fun _ h => absurd h List.not_mem_nil⟩⟩), (((((((((hF3264.up (by decide)).tr (hF3311.up (by decide))).tr (hF3355.up (by decide))).tr (hF3366.up (by decide))).tr (hF3412.up (by decide))).tr (hF3425.up (by decide))).tr (hF3473.up (by decide))).tr (hF3662.up (by decide))).tr ((xFr.of (S := [82, 83, 85, 86, 87]) hb3724 (by decide)).tr (xFr.of (S := [82, 83, 85, 86, 87]) hb3727 (by decide)))), ⟨fun h => by have := pq3736.1 h; omega, (show fld w3725 82 10 = 0 ∨ FA w3725 ≠ 0 by omega), Or.inr ⟨by have := ms3677; omega, by omega, hM3739⟩, hD3743⟩⟩
          · refine xg_t (xg_icF (u := u3254) (v := 4) rfl xnm0 xnm0 (xj_ltF (by omega) (by omega))) ?_
            refine xg_t (xg_aload (va := (2, 82)) rfl rfl) ?_
            refine xg_t (xg_const) ?_
            refine xg_t (xg_iload (va := (0, f82_9)) rfl rfl) ?_
            refine xg_cVv mX12_also (vs := [(0, 3), (0, f82_9)]) (rest := []) (cn1 := 0) (sl1 := 0) rfl (mAlso (hI) (by omega) (by omega) (by omega) (PK.rf hps).2.2.2) rfl h82_31 rfl rfl rfl rfl rfl rfl (fun w3744 hq3745 => ?_)
            obtain ⟨hI3746, hF3747, hx3748⟩ := hq3745
            have pk3749 : PK w w3744 := ⟨fun _ => hx3748, Nat.le_of_eq (mu_fr hF3747 (by decide)), fld_fr hF3747 (by decide), Or.inr hx3748⟩
            have pk3750 : PK w w3744 := PK.tr (PK.rf hps) pk3749
            have os3751 : ∀ j, (j < 80 + 3 * u3254 ∨ 83 + 3 * u3254 ≤ j) → j < 140 → rwv w3744 86 j = rwv w 86 j := fun j hj hl => (rwv_fr hF3747 (by decide)).trans ((fun j _ _ => rfl) j hj hl)
            have hf3752 := fld_fr (c := 82) (j := 7) hF3747 (by decide)
            refine xg_t (xg_blk (b := [(64, 1, 0, 0, 0, 0), (65, 3, 13, 110, 96, 190), (68, 1, 2, 1, 0, 0), (69, 39, 33, 362, 0, 9)]) rfl) ?_
            refine xg_t (xg_aload (va := (2, 82)) rfl rfl) ?_
            refine xg_cVv mX12_advance (vs := []) (rest := []) (cn1 := 0) (sl1 := 0) rfl (mAdvance (hI3746)) rfl (hF3747.get (by decide) h82_31) rfl rfl rfl rfl rfl rfl (fun w3753 hq3754 => ?_)
            obtain ⟨hI3755, hF3756, hx3757⟩ := hq3754
            obtain ⟨hv3758, hv3759, hv3760, hv3761⟩ := hx3757
            have hf3763 := FA_fr hF3756 (by decide)
            have hs3764 := pk3750.2.2.2
            unfold PS at hs3764
            have pk3762 : PK w3744 w3753 := ⟨fun _ => by omega, hv3758, hv3761, (show fld w3753 82 10 = 0 ∨ FA w3753 ≠ 0 by omega)⟩
            have pk3765 : PK w w3753 := PK.tr pk3750 pk3762
            have os3766 : ∀ j, (j < 80 + 3 * u3254 ∨ 83 + 3 * u3254 ≤ j) → j < 140 → rwv w3753 86 j = rwv w 86 j := fun j hj hl => (rwv_fr hF3756 (by decide)).trans (os3751 j hj hl)
            have rg3767 : FA w3753 ≠ 0 ∨ False := (Or.inl hx3748 : FA w3744 ≠ 0 ∨ False).imp_left pk3762.1
            have ms3768 : mu w3753 < mu w := Nat.lt_of_lt_of_le (hv3759 (by omega)) pk3750.2.1
            refine xg_t (xg_iload (va := (0, 3)) rfl rfl) ?_
            refine xg_t (xg_swt (ks := [(0, 108), (1, 116), (2, 180), (3, 221), (4, 273), (5, 326)]) (u := 3) (z := 221) rfl rfl rfl xnm0 (xsw_n (by omega) (xsw_n (by omega) (xsw_n (by omega) (xsw_y rfl))))) ?_
            refine xg_t (xg_blk (b := [(221, 1, 3, 0, 0, 0), (222, 2, 15, 4, 0, 0)]) rfl) ?_
            refine xg_t (xg_const) ?_
            refine xg_t (xg_istore (l1 := [(3, (0, u3254)), (2, (0, f82_9)), (1, (0, 3)), (0, (2, 82))]) rfl rfl rfl) ?_
            refine xg_t (xg_blk (b := [(224, 2, 2, 4, 0, 0), (226, 1, 3, 3, 0, 0), (227, 3, 6, 270, 3, 0), (230, 1, 0, 0, 0, 0), (231, 1, 2, 1, 0, 0), (232, 1, 2, 3, 0, 0), (233, 2, 4, 80, 0, 0), (235, 1, 3, 3, 0, 0), (236, 1, 2, 3, 0, 0), (237, 1, 16, 0, 0, 0), (238, 1, 11, 0, 0, 0), (239, 2, 2, 4, 0, 0), (241, 1, 11, 0, 0, 0), (242, 1, 0, 0, 0, 0), (243, 1, 3, 1, 0, 0), (244, 2, 2, 4, 0, 0), (246, 1, 3, 2, 0, 0), (247, 3, 6, 255, 3, 0), (250, 2, 4, 10, 0, 0), (252, 3, 8, 258, 0, 0)]) rfl) ?_
            refine xg_t (xg_iload (va := (0, 0)) rfl rfl) ?_
            refine xg_t (xg_const) ?_
            refine xg_t (xg_icF (u := 0) (v := 3) rfl xnm0 xnm0 (by decide)) ?_
            refine xg_t (xg_aload (va := (2, 82)) rfl rfl) ?_
            refine xg_t (xg_iload (va := (0, 3)) rfl rfl) ?_
            refine xg_t (xg_iload (va := (0, u3254)) rfl rfl) ?_
            refine xg_t (xg_bip) ?_
            refine xg_t (xg_const) ?_
            refine xg_t (xg_iload (va := (0, u3254)) rfl rfl) ?_
            refine xg_t (xg_imul (u := 3) (v := u3254) (z := 3 * u3254) xnm0 xnm0 (by omega)) ?_
            refine xg_t (xg_iadd (u := 80) (v := 3 * u3254) (z := 80 + (3 * u3254)) xnm0 xnm0 (by omega)) ?_
            refine xg_t (xg_iload (va := (0, 0)) rfl rfl) ?_
            refine xg_t (xg_iadd (u := 80 + (3 * u3254)) (v := 0) (z := (80 + (3 * u3254)) + 0) xnm0 xnm0 (by omega)) ?_
            refine xg_t (xg_aload (va := (2, 82)) rfl rfl) ?_
            refine xg_t (xg_const) ?_
            refine xg_t (xg_iload (va := (0, 0)) rfl rfl) ?_
            refine xg_t (xg_const) ?_
            refine xg_t (xg_icF (u := 0) (v := 2) rfl xnm0 xnm0 (by decide)) ?_
            refine xg_t (xg_bip) ?_
            refine xg_t (xg_goto) ?_
            refine xg_t (xg_blk (b := [(258, 3, 13, 199, 96, 196), (261, 3, 13, 211, 96, 200), (264, 3, 9, 4, 1, 0), (267, 3, 8, 224, 0, 0)]) rfl) ?_
            obtain ⟨f82_3769, f82_3771, f82_3773, f82_3775, f82_3777, f82_3779, f82_3781, f82_3783, f82_3785, f82_3787, f82_3789, f82_3790, f82_3791, f82_3793, f82_3795, f82_3797, h82_3799, hb3770, hb3772, hb3774, hb3776, hb3778, hb3780, hb3782, hb3784, hb3786, hb3788, hb3792, hb3794, hb3796, hb3798, hb3800⟩ := (hI3755 82 (by decide) (by decide) : cp82 (wget w3753 82))
            refine xg_cVi mX12_numbered (vs := [(0, 1), (0, 10)]) (rest := [(0, (80 + (3 * u3254)) + 0), (0, u3254), (0, 3), (2, 82)]) (cn1 := 0) (sl1 := 0) rfl (mNumbered (hI3755) (by omega) (by omega) pk3765.2.2.2) rfl h82_3799 rfl rfl rfl rfl rfl rfl (fun n3805 w3801 hq3802 => ?_)
            obtain ⟨hn3806, hI3803, hF3804⟩ := hq3802
            obtain ⟨hn3807, hn3808, hn3809⟩ := hn3806
            have pk3810 : PK w w3801 := PK.tr pk3765 hn3808
            have os3811 : ∀ j, (j < 80 + 3 * u3254 ∨ 83 + 3 * u3254 ≤ j) → j < 140 → rwv w3801 86 j = rwv w 86 j := fun j hj hl => (rwv_fr hF3804 (by decide)).trans (os3766 j hj hl)
            have rg3812 : FA w3801 ≠ 0 ∨ False := rg3767.imp_left hn3808.1
            have ms3813 : mu w3801 < mu w := Nat.lt_of_le_of_lt hn3808.2.1 ms3768
            obtain ⟨f82_3814, f82_3816, f82_3818, f82_3820, f82_3822, f82_3824, f82_3826, f82_3828, f82_3830, f82_3832, f82_3834, f82_3835, f82_3836, f82_3838, f82_3840, f82_3842, h82_3844, hb3815, hb3817, hb3819, hb3821, hb3823, hb3825, hb3827, hb3829, hb3831, hb3833, hb3837, hb3839, hb3841, hb3843, hb3845⟩ := (hI3803 82 (by decide) (by decide) : cp82 (wget w3801 82))
            refine xg_cVv mX12_puts (vs := [(0, 3), (0, u3254), (0, (80 + (3 * u3254)) + 0), (0, n3805)]) (rest := []) (cn1 := 0) (sl1 := 0) rfl (mPuts3 (hI3803) (by omega) (by omega) (by omega) (fun _ => by omega)) rfl h82_3844 rfl rfl rfl rfl rfl rfl (fun w3846 hq3847 => ?_)
            obtain ⟨hI3848, hF3849, hx3850⟩ := hq3847
            obtain ⟨hp3851, hp3852⟩ := hx3850
            have pk3853 : PK w w3846 := PK.tr pk3810 (PK.fr hF3849 (by decide) (by decide) pk3810.2.2.2)
            have os3854 : ∀ j, (j < 80 + 3 * u3254 ∨ 83 + 3 * u3254 ≤ j) → j < 140 → rwv w3846 86 j = rwv w 86 j := fun j hj hl => (hp3852 j (by omega) hl).trans (os3811 j hj hl)
            have rg3855 : FA w3846 ≠ 0 ∨ False := rg3812.imp_left (PK.fr hF3849 (by decide) (by decide) pk3810.2.2.2).1
            have rg3856 : FA w3846 ≠ 0 ∨ (1 ≤ n3805 ∧ n3805 ≤ 10) := hn3809.imp_left (PK.fr hF3849 (by decide) (by decide) pk3810.2.2.2).1
            have ms3857 : mu w3846 < mu w := Nat.lt_of_le_of_lt (PK.fr hF3849 (by decide) (by decide) pk3810.2.2.2).2.1 ms3813
            refine xg_t (xg_iinc (u := 0) (z := 1) (l1 := [(3, (0, u3254)), (2, (0, f82_9)), (1, (0, 3)), (0, (2, 82))]) rfl rfl (by decide) rfl) ?_
            refine xg_t (xg_goto) ?_
            refine xg_t (xg_blk (b := [(224, 2, 2, 4, 0, 0), (226, 1, 3, 3, 0, 0), (227, 3, 6, 270, 3, 0), (230, 1, 0, 0, 0, 0), (231, 1, 2, 1, 0, 0), (232, 1, 2, 3, 0, 0), (233, 2, 4, 80, 0, 0), (235, 1, 3, 3, 0, 0), (236, 1, 2, 3, 0, 0), (237, 1, 16, 0, 0, 0), (238, 1, 11, 0, 0, 0), (239, 2, 2, 4, 0, 0), (241, 1, 11, 0, 0, 0), (242, 1, 0, 0, 0, 0), (243, 1, 3, 1, 0, 0), (244, 2, 2, 4, 0, 0), (246, 1, 3, 2, 0, 0), (247, 3, 6, 255, 3, 0), (250, 2, 4, 10, 0, 0), (252, 3, 8, 258, 0, 0)]) rfl) ?_
            refine xg_t (xg_iload (va := (0, 1)) rfl rfl) ?_
            refine xg_t (xg_const) ?_
            refine xg_t (xg_icF (u := 1) (v := 3) rfl xnm0 xnm0 (by decide)) ?_
            refine xg_t (xg_aload (va := (2, 82)) rfl rfl) ?_
            refine xg_t (xg_iload (va := (0, 3)) rfl rfl) ?_
            refine xg_t (xg_iload (va := (0, u3254)) rfl rfl) ?_
            refine xg_t (xg_bip) ?_
            refine xg_t (xg_const) ?_
            refine xg_t (xg_iload (va := (0, u3254)) rfl rfl) ?_
            refine xg_t (xg_imul (u := 3) (v := u3254) (z := 3 * u3254) xnm0 xnm0 (by omega)) ?_
            refine xg_t (xg_iadd (u := 80) (v := 3 * u3254) (z := 80 + (3 * u3254)) xnm0 xnm0 (by omega)) ?_
            refine xg_t (xg_iload (va := (0, 1)) rfl rfl) ?_
            refine xg_t (xg_iadd (u := 80 + (3 * u3254)) (v := 1) (z := (80 + (3 * u3254)) + 1) xnm0 xnm0 (by omega)) ?_
            refine xg_t (xg_aload (va := (2, 82)) rfl rfl) ?_
            refine xg_t (xg_const) ?_
            refine xg_t (xg_iload (va := (0, 1)) rfl rfl) ?_
            refine xg_t (xg_const) ?_
            refine xg_t (xg_icF (u := 1) (v := 2) rfl xnm0 xnm0 (by decide)) ?_
            refine xg_t (xg_bip) ?_
            refine xg_t (xg_goto) ?_
            refine xg_t (xg_blk (b := [(258, 3, 13, 199, 96, 196), (261, 3, 13, 211, 96, 200), (264, 3, 9, 4, 1, 0), (267, 3, 8, 224, 0, 0)]) rfl) ?_
            refine xg_cVi mX12_numbered (vs := [(0, 1), (0, 10)]) (rest := [(0, (80 + (3 * u3254)) + 1), (0, u3254), (0, 3), (2, 82)]) (cn1 := 0) (sl1 := 0) rfl (mNumbered (hI3848) (by omega) (by omega) pk3853.2.2.2) rfl (hF3849.get (by decide) h82_3844) rfl rfl rfl rfl rfl rfl (fun n3862 w3858 hq3859 => ?_)
            obtain ⟨hn3863, hI3860, hF3861⟩ := hq3859
            obtain ⟨hn3864, hn3865, hn3866⟩ := hn3863
            have pk3867 : PK w w3858 := PK.tr pk3853 hn3865
            have os3868 : ∀ j, (j < 80 + 3 * u3254 ∨ 83 + 3 * u3254 ≤ j) → j < 140 → rwv w3858 86 j = rwv w 86 j := fun j hj hl => (rwv_fr hF3861 (by decide)).trans (os3854 j hj hl)
            have ix3869 : u3254 < 4 → rwv w3858 86 ((80 + (3 * u3254)) + 0) = n3805 := fun h => (rwv_fr hF3861 (by decide)).trans (hp3851 h)
            have rg3870 : FA w3858 ≠ 0 ∨ False := rg3855.imp_left hn3865.1
            have rg3871 : FA w3858 ≠ 0 ∨ (1 ≤ n3805 ∧ n3805 ≤ 10) := rg3856.imp_left hn3865.1
            have ms3872 : mu w3858 < mu w := Nat.lt_of_le_of_lt hn3865.2.1 ms3857
            obtain ⟨f82_3873, f82_3875, f82_3877, f82_3879, f82_3881, f82_3883, f82_3885, f82_3887, f82_3889, f82_3891, f82_3893, f82_3894, f82_3895, f82_3897, f82_3899, f82_3901, h82_3903, hb3874, hb3876, hb3878, hb3880, hb3882, hb3884, hb3886, hb3888, hb3890, hb3892, hb3896, hb3898, hb3900, hb3902, hb3904⟩ := (hI3860 82 (by decide) (by decide) : cp82 (wget w3858 82))
            refine xg_cVv mX12_puts (vs := [(0, 3), (0, u3254), (0, (80 + (3 * u3254)) + 1), (0, n3862)]) (rest := []) (cn1 := 0) (sl1 := 0) rfl (mPuts3 (hI3860) (by omega) (by omega) (by omega) (fun _ => by omega)) rfl h82_3903 rfl rfl rfl rfl rfl rfl (fun w3905 hq3906 => ?_)
            obtain ⟨hI3907, hF3908, hx3909⟩ := hq3906
            obtain ⟨hp3910, hp3911⟩ := hx3909
            have pk3912 : PK w w3905 := PK.tr pk3867 (PK.fr hF3908 (by decide) (by decide) pk3867.2.2.2)
            have os3913 : ∀ j, (j < 80 + 3 * u3254 ∨ 83 + 3 * u3254 ≤ j) → j < 140 → rwv w3905 86 j = rwv w 86 j := fun j hj hl => (hp3911 j (by omega) hl).trans (os3868 j hj hl)
            have ix3914 : u3254 < 4 → rwv w3905 86 ((80 + (3 * u3254)) + 0) = n3805 := fun h => (hp3911 _ (by omega) (by omega)).trans (ix3869 h)
            have rg3915 : FA w3905 ≠ 0 ∨ False := rg3870.imp_left (PK.fr hF3908 (by decide) (by decide) pk3867.2.2.2).1
            have rg3916 : FA w3905 ≠ 0 ∨ (1 ≤ n3805 ∧ n3805 ≤ 10) := rg3871.imp_left (PK.fr hF3908 (by decide) (by decide) pk3867.2.2.2).1
            have rg3917 : FA w3905 ≠ 0 ∨ (1 ≤ n3862 ∧ n3862 ≤ 10) := hn3866.imp_left (PK.fr hF3908 (by decide) (by decide) pk3867.2.2.2).1
            have ms3918 : mu w3905 < mu w := Nat.lt_of_le_of_lt (PK.fr hF3908 (by decide) (by decide) pk3867.2.2.2).2.1 ms3872
            refine xg_t (xg_iinc (u := 1) (z := 2) (l1 := [(3, (0, u3254)), (2, (0, f82_9)), (1, (0, 3)), (0, (2, 82))]) rfl rfl (by decide) rfl) ?_
            refine xg_t (xg_goto) ?_
            refine xg_t (xg_blk (b := [(224, 2, 2, 4, 0, 0), (226, 1, 3, 3, 0, 0), (227, 3, 6, 270, 3, 0), (230, 1, 0, 0, 0, 0), (231, 1, 2, 1, 0, 0), (232, 1, 2, 3, 0, 0), (233, 2, 4, 80, 0, 0), (235, 1, 3, 3, 0, 0), (236, 1, 2, 3, 0, 0), (237, 1, 16, 0, 0, 0), (238, 1, 11, 0, 0, 0), (239, 2, 2, 4, 0, 0), (241, 1, 11, 0, 0, 0), (242, 1, 0, 0, 0, 0), (243, 1, 3, 1, 0, 0), (244, 2, 2, 4, 0, 0), (246, 1, 3, 2, 0, 0), (247, 3, 6, 255, 3, 0), (250, 2, 4, 10, 0, 0), (252, 3, 8, 258, 0, 0)]) rfl) ?_
            refine xg_t (xg_iload (va := (0, 2)) rfl rfl) ?_
            refine xg_t (xg_const) ?_
            refine xg_t (xg_icF (u := 2) (v := 3) rfl xnm0 xnm0 (by decide)) ?_
            refine xg_t (xg_aload (va := (2, 82)) rfl rfl) ?_
            refine xg_t (xg_iload (va := (0, 3)) rfl rfl) ?_
            refine xg_t (xg_iload (va := (0, u3254)) rfl rfl) ?_
            refine xg_t (xg_bip) ?_
            refine xg_t (xg_const) ?_
            refine xg_t (xg_iload (va := (0, u3254)) rfl rfl) ?_
            refine xg_t (xg_imul (u := 3) (v := u3254) (z := 3 * u3254) xnm0 xnm0 (by omega)) ?_
            refine xg_t (xg_iadd (u := 80) (v := 3 * u3254) (z := 80 + (3 * u3254)) xnm0 xnm0 (by omega)) ?_
            refine xg_t (xg_iload (va := (0, 2)) rfl rfl) ?_
            refine xg_t (xg_iadd (u := 80 + (3 * u3254)) (v := 2) (z := (80 + (3 * u3254)) + 2) xnm0 xnm0 (by omega)) ?_
            refine xg_t (xg_aload (va := (2, 82)) rfl rfl) ?_
            refine xg_t (xg_const) ?_
            refine xg_t (xg_iload (va := (0, 2)) rfl rfl) ?_
            refine xg_t (xg_const) ?_
            refine xg_t (xg_icT (u := 2) (v := 2) rfl xnm0 xnm0 (by decide)) ?_
            refine xg_t (xg_blk (b := [(255, 3, 5, 999, 0, 0)]) rfl) ?_
            refine xg_t (xg_sip) ?_
            refine xg_t (xg_blk (b := [(258, 3, 13, 199, 96, 196), (261, 3, 13, 211, 96, 200), (264, 3, 9, 4, 1, 0), (267, 3, 8, 224, 0, 0)]) rfl) ?_
            refine xg_cVi mX12_numbered (vs := [(0, 1), (0, 999)]) (rest := [(0, (80 + (3 * u3254)) + 2), (0, u3254), (0, 3), (2, 82)]) (cn1 := 0) (sl1 := 0) rfl (mNumbered (hI3907) (by omega) (by omega) pk3912.2.2.2) rfl (hF3908.get (by decide) h82_3903) rfl rfl rfl rfl rfl rfl (fun n3923 w3919 hq3920 => ?_)
            obtain ⟨hn3924, hI3921, hF3922⟩ := hq3920
            obtain ⟨hn3925, hn3926, hn3927⟩ := hn3924
            have pk3928 : PK w w3919 := PK.tr pk3912 hn3926
            have os3929 : ∀ j, (j < 80 + 3 * u3254 ∨ 83 + 3 * u3254 ≤ j) → j < 140 → rwv w3919 86 j = rwv w 86 j := fun j hj hl => (rwv_fr hF3922 (by decide)).trans (os3913 j hj hl)
            have ix3930 : u3254 < 4 → rwv w3919 86 ((80 + (3 * u3254)) + 0) = n3805 := fun h => (rwv_fr hF3922 (by decide)).trans (ix3914 h)
            have ix3931 : u3254 < 4 → rwv w3919 86 ((80 + (3 * u3254)) + 1) = n3862 := fun h => (rwv_fr hF3922 (by decide)).trans (hp3910 h)
            have rg3932 : FA w3919 ≠ 0 ∨ False := rg3915.imp_left hn3926.1
            have rg3933 : FA w3919 ≠ 0 ∨ (1 ≤ n3805 ∧ n3805 ≤ 10) := rg3916.imp_left hn3926.1
            have rg3934 : FA w3919 ≠ 0 ∨ (1 ≤ n3862 ∧ n3862 ≤ 10) := rg3917.imp_left hn3926.1
            have ms3935 : mu w3919 < mu w := Nat.lt_of_le_of_lt hn3926.2.1 ms3918
            obtain ⟨f82_3936, f82_3938, f82_3940, f82_3942, f82_3944, f82_3946, f82_3948, f82_3950, f82_3952, f82_3954, f82_3956, f82_3957, f82_3958, f82_3960, f82_3962, f82_3964, h82_3966, hb3937, hb3939, hb3941, hb3943, hb3945, hb3947, hb3949, hb3951, hb3953, hb3955, hb3959, hb3961, hb3963, hb3965, hb3967⟩ := (hI3921 82 (by decide) (by decide) : cp82 (wget w3919 82))
            refine xg_cVv mX12_puts (vs := [(0, 3), (0, u3254), (0, (80 + (3 * u3254)) + 2), (0, n3923)]) (rest := []) (cn1 := 0) (sl1 := 0) rfl (mPuts3 (hI3921) (by omega) (by omega) (by omega) (fun _ => by omega)) rfl h82_3966 rfl rfl rfl rfl rfl rfl (fun w3968 hq3969 => ?_)
            obtain ⟨hI3970, hF3971, hx3972⟩ := hq3969
            obtain ⟨hp3973, hp3974⟩ := hx3972
            have pk3975 : PK w w3968 := PK.tr pk3928 (PK.fr hF3971 (by decide) (by decide) pk3928.2.2.2)
            have os3976 : ∀ j, (j < 80 + 3 * u3254 ∨ 83 + 3 * u3254 ≤ j) → j < 140 → rwv w3968 86 j = rwv w 86 j := fun j hj hl => (hp3974 j (by omega) hl).trans (os3929 j hj hl)
            have ix3977 : u3254 < 4 → rwv w3968 86 ((80 + (3 * u3254)) + 0) = n3805 := fun h => (hp3974 _ (by omega) (by omega)).trans (ix3930 h)
            have ix3978 : u3254 < 4 → rwv w3968 86 ((80 + (3 * u3254)) + 1) = n3862 := fun h => (hp3974 _ (by omega) (by omega)).trans (ix3931 h)
            have rg3979 : FA w3968 ≠ 0 ∨ False := rg3932.imp_left (PK.fr hF3971 (by decide) (by decide) pk3928.2.2.2).1
            have rg3980 : FA w3968 ≠ 0 ∨ (1 ≤ n3805 ∧ n3805 ≤ 10) := rg3933.imp_left (PK.fr hF3971 (by decide) (by decide) pk3928.2.2.2).1
            have rg3981 : FA w3968 ≠ 0 ∨ (1 ≤ n3862 ∧ n3862 ≤ 10) := rg3934.imp_left (PK.fr hF3971 (by decide) (by decide) pk3928.2.2.2).1
            have rg3982 : FA w3968 ≠ 0 ∨ (1 ≤ n3923 ∧ n3923 ≤ 999) := hn3927.imp_left (PK.fr hF3971 (by decide) (by decide) pk3928.2.2.2).1
            have ms3983 : mu w3968 < mu w := Nat.lt_of_le_of_lt (PK.fr hF3971 (by decide) (by decide) pk3928.2.2.2).2.1 ms3935
            refine xg_t (xg_iinc (u := 2) (z := 3) (l1 := [(3, (0, u3254)), (2, (0, f82_9)), (1, (0, 3)), (0, (2, 82))]) rfl rfl (by decide) rfl) ?_
            refine xg_t (xg_goto) ?_
            refine xg_t (xg_blk (b := [(224, 2, 2, 4, 0, 0), (226, 1, 3, 3, 0, 0), (227, 3, 6, 270, 3, 0), (230, 1, 0, 0, 0, 0), (231, 1, 2, 1, 0, 0), (232, 1, 2, 3, 0, 0), (233, 2, 4, 80, 0, 0), (235, 1, 3, 3, 0, 0), (236, 1, 2, 3, 0, 0), (237, 1, 16, 0, 0, 0), (238, 1, 11, 0, 0, 0), (239, 2, 2, 4, 0, 0), (241, 1, 11, 0, 0, 0), (242, 1, 0, 0, 0, 0), (243, 1, 3, 1, 0, 0), (244, 2, 2, 4, 0, 0), (246, 1, 3, 2, 0, 0), (247, 3, 6, 255, 3, 0), (250, 2, 4, 10, 0, 0), (252, 3, 8, 258, 0, 0)]) rfl) ?_
            refine xg_t (xg_iload (va := (0, 3)) rfl rfl) ?_
            refine xg_t (xg_const) ?_
            refine xg_t (xg_icT (u := 3) (v := 3) rfl xnm0 xnm0 (by decide)) ?_
            refine xg_t (xg_blk (b := [(270, 3, 8, 394, 0, 0)]) rfl) ?_
            refine xg_t (xg_goto) ?_
            refine xg_t (xg_blk (b := [(394, 1, 0, 0, 0, 0), (395, 3, 1, 12, 10, 180), (398, 3, 7, 416, 1, 0), (401, 1, 0, 0, 0, 0), (402, 3, 1, 12, 7, 151), (405, 1, 3, 2, 0, 0), (406, 3, 6, 416, 1, 0), (409, 1, 0, 0, 0, 0), (410, 3, 13, 110, 96, 190), (413, 3, 8, 420, 0, 0)]) rfl) ?_
            refine xg_t (xg_aload (va := (2, 82)) rfl rfl) ?_
            refine xg_t (xg_getf (va := (0, f82_3952)) (hF3971.get (by decide) h82_3966) rfl) ?_
            by_cases hc3984 : f82_3952 = 0
            · refine xg_t (xg_ifF (u := f82_3952) rfl xnm0 (xj_neF hc3984)) ?_
              refine xg_t (xg_aload (va := (2, 82)) rfl rfl) ?_
              refine xg_t (xg_getf (va := (0, f82_3946)) (hF3971.get (by decide) h82_3966) rfl) ?_
              refine xg_t (xg_const) ?_
              by_cases hc3985 : f82_3946 = 2
              · refine xg_t (xg_icF (u := f82_3946) (v := 2) rfl xnm0 xnm0 (xj_neF hc3985)) ?_
                refine xg_t (xg_aload (va := (2, 82)) rfl rfl) ?_
                refine xg_cVv mX12_advance (vs := []) (rest := []) (cn1 := 0) (sl1 := 0) rfl (mAdvance (hI3970)) rfl (hF3971.get (by decide) h82_3966) rfl rfl rfl rfl rfl rfl (fun w3986 hq3987 => ?_)
                obtain ⟨hI3988, hF3989, hx3990⟩ := hq3987
                obtain ⟨hv3991, hv3992, hv3993, hv3994⟩ := hx3990
                have hf3996 := FA_fr hF3989 (by decide)
                have hs3997 := pk3975.2.2.2
                unfold PS at hs3997
                have pk3995 : PK w3968 w3986 := ⟨fun _ => by omega, hv3991, hv3994, (show fld w3986 82 10 = 0 ∨ FA w3986 ≠ 0 by omega)⟩
                have pk3998 : PK w w3986 := PK.tr pk3975 pk3995
                have os3999 : ∀ j, (j < 80 + 3 * u3254 ∨ 83 + 3 * u3254 ≤ j) → j < 140 → rwv w3986 86 j = rwv w 86 j := fun j hj hl => (rwv_fr hF3989 (by decide)).trans (os3976 j hj hl)
                have ix4000 : u3254 < 4 → rwv w3986 86 ((80 + (3 * u3254)) + 0) = n3805 := fun h => (rwv_fr hF3989 (by decide)).trans (ix3977 h)
                have ix4001 : u3254 < 4 → rwv w3986 86 ((80 + (3 * u3254)) + 1) = n3862 := fun h => (rwv_fr hF3989 (by decide)).trans (ix3978 h)
                have ix4002 : u3254 < 4 → rwv w3986 86 ((80 + (3 * u3254)) + 2) = n3923 := fun h => (rwv_fr hF3989 (by decide)).trans (hp3973 h)
                have rg4003 : FA w3986 ≠ 0 ∨ False := rg3979.imp_left pk3995.1
                have rg4004 : FA w3986 ≠ 0 ∨ (1 ≤ n3805 ∧ n3805 ≤ 10) := rg3980.imp_left pk3995.1
                have rg4005 : FA w3986 ≠ 0 ∨ (1 ≤ n3862 ∧ n3862 ≤ 10) := rg3981.imp_left pk3995.1
                have rg4006 : FA w3986 ≠ 0 ∨ (1 ≤ n3923 ∧ n3923 ≤ 999) := rg3982.imp_left pk3995.1
                have ms4007 : mu w3986 < mu w := Nat.lt_of_le_of_lt pk3995.2.1 ms3983
                refine xg_t (xg_goto) ?_
                refine xg_t (xg_blk (b := [(420, 1, 0, 0, 0, 0), (421, 3, 1, 12, 11, 17), (424, 1, 2, 1, 0, 0), (425, 1, 39, 0, 0, 0), (426, 1, 10, 0, 0, 0), (427, 1, 3, 1, 0, 0), (428, 1, 11, 0, 0, 0), (429, 1, 17, 0, 0, 0), (430, 1, 0, 0, 0, 0), (431, 1, 19, 0, 0, 0), (432, 3, 1, 12, 14, 212), (435, 1, 3, 1, 0, 0), (436, 1, 11, 0, 0, 0), (437, 3, 14, 12, 14, 212), (440, 1, 12, 0, 0, 0)]) rfl) ?_
                obtain ⟨f82_4008, f82_4010, f82_4012, f82_4014, f82_4016, f82_4018, f82_4020, f82_4022, f82_4024, f82_4026, f82_4028, f82_4029, f82_4030, f82_4032, f82_4034, f82_4036, h82_4038, hb4009, hb4011, hb4013, hb4015, hb4017, hb4019, hb4021, hb4023, hb4025, hb4027, hb4031, hb4033, hb4035, hb4037, hb4039⟩ := (hI3988 82 (by decide) (by decide) : cp82 (wget w3986 82))
                have hf4040 : fld w3986 82 4 = f82_4012 := fld_of h82_4038
                have hf4041 : fld w3986 82 5 = f82_4014 := fld_of h82_4038
                have hf4042 : fld w3986 82 7 = f82_4018 := fld_of h82_4038
                have hf4043 : fld w3986 82 10 = f82_4024 := fld_of h82_4038
                have hf4044 : fld w3986 82 14 = f82_4026 := fld_of h82_4038
                have hu4045 : mu w3986 = 2 * (fld w3986 82 4 - fld w3986 82 5) + min 1 (fld w3986 82 7) := rfl
                have hf4046 := pk3998.2.2.1
                have hl4047 : f82_4026 ≤ 1000 := by omega
                refine xg_t (xg_aload (va := (2, 82)) rfl rfl) ?_
                refine xg_t (xg_getf (va := (2, 85)) h82_4038 rfl) ?_
                refine xg_t (xg_iload (va := (0, 3)) rfl rfl) ?_
                refine xg_t (xg_dup2 rfl) ?_
                refine xg_ialdB (n := 3) (B := 4294967295) (((((((((h85_37.fr hF3747 (by decide)).fr hF3756 (by decide)).fr hF3804 (by decide)).fr hF3849 (by decide)).fr hF3861 (by decide)).fr hF3908 (by decide)).fr hF3922 (by decide)).fr hF3971 (by decide)).fr hF3989 (by decide)) (hb38) xnm0 (by omega) (fun u4048 hu4049 he4050 => ?_)
                have hl4051 : u4048 = u3254 := by omega
                refine xg_t (xg_const) ?_
                refine xg_t (xg_iadd (u := u4048) (v := 1) (z := u4048 + 1) xnm0 xnm0 (by omega)) ?_
                refine xg_iastK (n := 3) (u := u4048 + 1) (((((((((h85_37.fr hF3747 (by decide)).fr hF3756 (by decide)).fr hF3804 (by decide)).fr hF3849 (by decide)).fr hF3861 (by decide)).fr hF3908 (by decide)).fr hF3922 (by decide)).fr hF3971 (by decide)).fr hF3989 (by decide)) xnm0 xnm0 rfl (by omega) (fun w4052 hr4053 hb4054 => ?_)
                refine xg_t (xg_aload (va := (2, 82)) rfl rfl) ?_
                refine xg_t (xg_dup rfl) ?_
                refine xg_t (xg_getf (va := (0, f82_4026)) (hb4054.get (by decide) h82_4038) rfl) ?_
                refine xg_t (xg_const) ?_
                refine xg_t (xg_iadd (u := f82_4026) (v := 1) (z := f82_4026 + 1) xnm0 xnm0 (by omega)) ?_
                refine xg_putI (fl1 := [(2, 83), (2, 84), (0, f82_4008), (0, f82_4010), (0, f82_4012), (0, f82_4014), (0, f82_4016), (0, f82_4018), (0, f82_4020), (0, f82_4022), (0, f82_4024), (2, 85), (2, 86), (2, 87), (0, f82_4026 + 1), (2, 88), (2, 89), (2, 90), (2, 91), (2, 92), (2, 93), (2, 94), (4, f82_4028), (4, f82_4029), (0, f82_4030), (2, 95), (2, 96), (2, 97), (2, 98), (2, 99), (2, 100), (2, 101), (2, 102), (0, f82_4032), (2, 103), (2, 104), (2, 105), (2, 106), (2, 107), (2, 108), (2, 109), (0, f82_4034), (0, f82_4036), (2, 110), (2, 111), (2, 112), (2, 113)]) (hb4054.get (by decide) h82_4038) rfl rfl rfl (fun w4055 hk4056 hb4057 => ?_)
                have hF4058 : xFr [82, 85] w3986 w4055 := ((xFr.of (S := [82, 85]) hb4054 (by decide)).tr (xFr.of (S := [82, 85]) hb4057 (by decide)))
                have hA4059 := FA_fr hF4058 (by decide)
                have hf4060 : fld w4055 82 4 = f82_4012 := fld_of hk4056
                have hf4061 : fld w4055 82 5 = f82_4014 := fld_of hk4056
                have hf4062 : fld w4055 82 7 = f82_4018 := fld_of hk4056
                have hf4063 : fld w4055 82 10 = f82_4024 := fld_of hk4056
                have hf4064 : fld w4055 82 14 = f82_4026 + 1 := fld_of hk4056
                have hu4065 : mu w4055 = 2 * (fld w4055 82 4 - fld w4055 82 5) + min 1 (fld w4055 82 7) := rfl
                have pq4066 := pk3998
                unfold PK PS at pq4066
                have hM4067 : ∀ s, s < 7 → s ≠ 3 → rwv w4055 85 s = rwv w 85 s := fun s hs hn => (rwv_of (hr4053.but hb4057 (by decide)) hs).trans ((if_neg hn).trans (rwv_of h85_37 hs).symm)
                have hM4068 : rwv w4055 85 3 = u3254 + 1 := (rwv_of (hr4053.but hb4057 (by decide)) (by decide)).trans ((if_pos rfl).trans (by omega))
                have hM4069 : ∀ s, s < 7 → rwv w4055 85 s ≤ rwv w 85 s + 1 := fun s hs => by
                  by_cases z : s = 3
                  · subst z; omega
                  · rw [hM4067 s hs z]; omega
                have hO4070 : ∀ j, (j < 80 + 3 * u3254 ∨ 83 + 3 * u3254 ≤ j) → j < 140 → rwv w4055 86 j = rwv w 86 j := fun j hj hl => (rwv_fr hF4058 (by decide)).trans (os3999 j hj hl)
                have hN4071 : FA w4055 ≠ 0 ∨ 4 ≤ u3254 ∨ True := Or.inr (Or.inr trivial)
                have hX4072 : FA w4055 ≠ 0 ∨ u3254 < 4 := by omega
                have hD4073 : FA w4055 ≠ 0 ∨ (DATA w → DATA w4055) := by
                  by_cases z : FA w4055 ≠ 0
                  · exact Or.inl z
                  · exact Or.inr (fun hd => hd.s3 hM4067 hK3257 hM4068 (hX4072.resolve_left z) hO4070 ((hN4071.resolve_left z).resolve_left (by have := hX4072.resolve_left z; omega)))
                exact xg_e ⟨w4055, ⟨rfl, rfl⟩, xMnv.up (S := [85, 82]) hI3988 ((xFr.of (S := [85, 82]) hb4054 (by decide)).tr (xFr.of (S := [85, 82]) hb4057 (by decide))) (List.forall_mem_cons.mpr ⟨(show cpI 7 52 4294967295 (wget w4055 85) from ⟨_, (hr4053.but hb4057 (by decide)), xrb (by omega) (hb38)⟩), List.forall_mem_cons.mpr ⟨(show cp82 (wget w4055 82) from ⟨f82_4008, f82_4010, f82_4012, f82_4014, f82_4016, f82_4018, f82_4020, f82_4022, f82_4024, f82_4026 + 1, f82_4028, f82_4029, f82_4030, f82_4032, f82_4034, f82_4036, hk4056, by omega, by omega, by omega, by omega, by omega, by omega, by omega, by omega, by omega, by omega, by omega, by omega, by omega, by omega, by omega⟩), fun _ h => absurd h List.not_mem_nil⟩⟩), ((((((((((hF3747.up (by decide)).tr (hF3756.up (by decide))).tr (hF3804.up (by decide))).tr (hF3849.up (by decide))).tr (hF3861.up (by decide))).tr (hF3908.up (by decide))).tr (hF3922.up (by decide))).tr (hF3971.up (by decide))).tr (hF3989.up (by decide))).tr ((xFr.of (S := [82, 83, 85, 86, 87]) hb4054 (by decide)).tr (xFr.of (S := [82, 83, 85, 86, 87]) hb4057 (by decide)))), ⟨fun h => by have := pq4066.1 h; omega, (show fld w4055 82 10 = 0 ∨ FA w4055 ≠ 0 by omega), Or.inr ⟨by have := ms4007; omega, by omega, hM4069⟩, hD4073⟩⟩
              · refine xg_t (xg_icT (u := f82_3946) (v := 2) rfl xnm0 xnm0 (xj_neT hc3985)) ?_
                refine xg_t (xg_blk (b := [(416, 1, 0, 0, 0, 0), (417, 3, 13, 140, 96, 183)]) rfl) ?_
                refine xg_t (xg_aload (va := (2, 82)) rfl rfl) ?_
                refine xg_cVv mX12_ends (vs := []) (rest := []) (cn1 := 0) (sl1 := 0) rfl (mEnds (hI3970) pk3975.2.2.2) rfl (hF3971.get (by decide) h82_3966) rfl rfl rfl rfl rfl rfl (fun w4074 hq4075 => ?_)
                obtain ⟨hI4076, hF4077, hx4078⟩ := hq4075
                obtain ⟨hv4079, hv4080, hv4081, hv4082⟩ := hx4078
                have pk4083 : PK w3968 w4074 := ⟨fun _ => hv4079, by omega, by omega, Or.inr hv4079⟩
                have pk4084 : PK w w4074 := PK.tr pk3975 pk4083
                have os4085 : ∀ j, (j < 80 + 3 * u3254 ∨ 83 + 3 * u3254 ≤ j) → j < 140 → rwv w4074 86 j = rwv w 86 j := fun j hj hl => (rwv_fr hF4077 (by decide)).trans (os3976 j hj hl)
                have ix4086 : u3254 < 4 → rwv w4074 86 ((80 + (3 * u3254)) + 0) = n3805 := fun h => (rwv_fr hF4077 (by decide)).trans (ix3977 h)
                have ix4087 : u3254 < 4 → rwv w4074 86 ((80 + (3 * u3254)) + 1) = n3862 := fun h => (rwv_fr hF4077 (by decide)).trans (ix3978 h)
                have ix4088 : u3254 < 4 → rwv w4074 86 ((80 + (3 * u3254)) + 2) = n3923 := fun h => (rwv_fr hF4077 (by decide)).trans (hp3973 h)
                have rg4089 : FA w4074 ≠ 0 ∨ False := rg3979.imp_left pk4083.1
                have rg4090 : FA w4074 ≠ 0 ∨ (1 ≤ n3805 ∧ n3805 ≤ 10) := rg3980.imp_left pk4083.1
                have rg4091 : FA w4074 ≠ 0 ∨ (1 ≤ n3862 ∧ n3862 ≤ 10) := rg3981.imp_left pk4083.1
                have rg4092 : FA w4074 ≠ 0 ∨ (1 ≤ n3923 ∧ n3923 ≤ 999) := rg3982.imp_left pk4083.1
                have ms4093 : mu w4074 < mu w := Nat.lt_of_le_of_lt pk4083.2.1 ms3983
                refine xg_t (xg_blk (b := [(420, 1, 0, 0, 0, 0), (421, 3, 1, 12, 11, 17), (424, 1, 2, 1, 0, 0), (425, 1, 39, 0, 0, 0), (426, 1, 10, 0, 0, 0), (427, 1, 3, 1, 0, 0), (428, 1, 11, 0, 0, 0), (429, 1, 17, 0, 0, 0), (430, 1, 0, 0, 0, 0), (431, 1, 19, 0, 0, 0), (432, 3, 1, 12, 14, 212), (435, 1, 3, 1, 0, 0), (436, 1, 11, 0, 0, 0), (437, 3, 14, 12, 14, 212), (440, 1, 12, 0, 0, 0)]) rfl) ?_
                obtain ⟨f82_4094, f82_4096, f82_4098, f82_4100, f82_4102, f82_4104, f82_4106, f82_4108, f82_4110, f82_4112, f82_4114, f82_4115, f82_4116, f82_4118, f82_4120, f82_4122, h82_4124, hb4095, hb4097, hb4099, hb4101, hb4103, hb4105, hb4107, hb4109, hb4111, hb4113, hb4117, hb4119, hb4121, hb4123, hb4125⟩ := (hI4076 82 (by decide) (by decide) : cp82 (wget w4074 82))
                have hf4126 : fld w4074 82 4 = f82_4098 := fld_of h82_4124
                have hf4127 : fld w4074 82 5 = f82_4100 := fld_of h82_4124
                have hf4128 : fld w4074 82 7 = f82_4104 := fld_of h82_4124
                have hf4129 : fld w4074 82 10 = f82_4110 := fld_of h82_4124
                have hf4130 : fld w4074 82 14 = f82_4112 := fld_of h82_4124
                have hu4131 : mu w4074 = 2 * (fld w4074 82 4 - fld w4074 82 5) + min 1 (fld w4074 82 7) := rfl
                have hf4132 := pk4084.2.2.1
                have hl4133 : f82_4112 ≤ 1000 := by omega
                refine xg_t (xg_aload (va := (2, 82)) rfl rfl) ?_
                refine xg_t (xg_getf (va := (2, 85)) h82_4124 rfl) ?_
                refine xg_t (xg_iload (va := (0, 3)) rfl rfl) ?_
                refine xg_t (xg_dup2 rfl) ?_
                refine xg_ialdB (n := 3) (B := 4294967295) (((((((((h85_37.fr hF3747 (by decide)).fr hF3756 (by decide)).fr hF3804 (by decide)).fr hF3849 (by decide)).fr hF3861 (by decide)).fr hF3908 (by decide)).fr hF3922 (by decide)).fr hF3971 (by decide)).fr hF4077 (by decide)) (hb38) xnm0 (by omega) (fun u4134 hu4135 he4136 => ?_)
                have hl4137 : u4134 = u3254 := by omega
                refine xg_t (xg_const) ?_
                refine xg_t (xg_iadd (u := u4134) (v := 1) (z := u4134 + 1) xnm0 xnm0 (by omega)) ?_
                refine xg_iastK (n := 3) (u := u4134 + 1) (((((((((h85_37.fr hF3747 (by decide)).fr hF3756 (by decide)).fr hF3804 (by decide)).fr hF3849 (by decide)).fr hF3861 (by decide)).fr hF3908 (by decide)).fr hF3922 (by decide)).fr hF3971 (by decide)).fr hF4077 (by decide)) xnm0 xnm0 rfl (by omega) (fun w4138 hr4139 hb4140 => ?_)
                refine xg_t (xg_aload (va := (2, 82)) rfl rfl) ?_
                refine xg_t (xg_dup rfl) ?_
                refine xg_t (xg_getf (va := (0, f82_4112)) (hb4140.get (by decide) h82_4124) rfl) ?_
                refine xg_t (xg_const) ?_
                refine xg_t (xg_iadd (u := f82_4112) (v := 1) (z := f82_4112 + 1) xnm0 xnm0 (by omega)) ?_
                refine xg_putI (fl1 := [(2, 83), (2, 84), (0, f82_4094), (0, f82_4096), (0, f82_4098), (0, f82_4100), (0, f82_4102), (0, f82_4104), (0, f82_4106), (0, f82_4108), (0, f82_4110), (2, 85), (2, 86), (2, 87), (0, f82_4112 + 1), (2, 88), (2, 89), (2, 90), (2, 91), (2, 92), (2, 93), (2, 94), (4, f82_4114), (4, f82_4115), (0, f82_4116), (2, 95), (2, 96), (2, 97), (2, 98), (2, 99), (2, 100), (2, 101), (2, 102), (0, f82_4118), (2, 103), (2, 104), (2, 105), (2, 106), (2, 107), (2, 108), (2, 109), (0, f82_4120), (0, f82_4122), (2, 110), (2, 111), (2, 112), (2, 113)]) (hb4140.get (by decide) h82_4124) rfl rfl rfl (fun w4141 hk4142 hb4143 => ?_)
                have hF4144 : xFr [82, 85] w4074 w4141 := ((xFr.of (S := [82, 85]) hb4140 (by decide)).tr (xFr.of (S := [82, 85]) hb4143 (by decide)))
                have hA4145 := FA_fr hF4144 (by decide)
                have hf4146 : fld w4141 82 4 = f82_4098 := fld_of hk4142
                have hf4147 : fld w4141 82 5 = f82_4100 := fld_of hk4142
                have hf4148 : fld w4141 82 7 = f82_4104 := fld_of hk4142
                have hf4149 : fld w4141 82 10 = f82_4110 := fld_of hk4142
                have hf4150 : fld w4141 82 14 = f82_4112 + 1 := fld_of hk4142
                have hu4151 : mu w4141 = 2 * (fld w4141 82 4 - fld w4141 82 5) + min 1 (fld w4141 82 7) := rfl
                have pq4152 := pk4084
                unfold PK PS at pq4152
                have hM4153 : ∀ s, s < 7 → s ≠ 3 → rwv w4141 85 s = rwv w 85 s := fun s hs hn => (rwv_of (hr4139.but hb4143 (by decide)) hs).trans ((if_neg hn).trans (rwv_of h85_37 hs).symm)
                have hM4154 : rwv w4141 85 3 = u3254 + 1 := (rwv_of (hr4139.but hb4143 (by decide)) (by decide)).trans ((if_pos rfl).trans (by omega))
                have hM4155 : ∀ s, s < 7 → rwv w4141 85 s ≤ rwv w 85 s + 1 := fun s hs => by
                  by_cases z : s = 3
                  · subst z; omega
                  · rw [hM4153 s hs z]; omega
                have hO4156 : ∀ j, (j < 80 + 3 * u3254 ∨ 83 + 3 * u3254 ≤ j) → j < 140 → rwv w4141 86 j = rwv w 86 j := fun j hj hl => (rwv_fr hF4144 (by decide)).trans (os4085 j hj hl)
                have hN4157 : FA w4141 ≠ 0 ∨ 4 ≤ u3254 ∨ True := Or.inr (Or.inr trivial)
                have hX4158 : FA w4141 ≠ 0 ∨ u3254 < 4 := by omega
                have hD4159 : FA w4141 ≠ 0 ∨ (DATA w → DATA w4141) := by
                  by_cases z : FA w4141 ≠ 0
                  · exact Or.inl z
                  · exact Or.inr (fun hd => hd.s3 hM4153 hK3257 hM4154 (hX4158.resolve_left z) hO4156 ((hN4157.resolve_left z).resolve_left (by have := hX4158.resolve_left z; omega)))
                exact xg_e ⟨w4141, ⟨rfl, rfl⟩, xMnv.up (S := [85, 82]) hI4076 ((xFr.of (S := [85, 82]) hb4140 (by decide)).tr (xFr.of (S := [85, 82]) hb4143 (by decide))) (List.forall_mem_cons.mpr ⟨(show cpI 7 52 4294967295 (wget w4141 85) from ⟨_, (hr4139.but hb4143 (by decide)), xrb (by omega) (hb38)⟩), List.forall_mem_cons.mpr ⟨(show cp82 (wget w4141 82) from ⟨f82_4094, f82_4096, f82_4098, f82_4100, f82_4102, f82_4104, f82_4106, f82_4108, f82_4110, f82_4112 + 1, f82_4114, f82_4115, f82_4116, f82_4118, f82_4120, f82_4122, hk4142, by omega, by omega, by omega, by omega, by omega, by omega, by omega, by omega, by omega, by omega, by omega, by omega, by omega, by omega, by omega⟩), fun _ h => absurd h List.not_mem_nil⟩⟩), ((((((((((hF3747.up (by decide)).tr (hF3756.up (by decide))).tr (hF3804.up (by decide))).tr (hF3849.up (by decide))).tr (hF3861.up (by decide))).tr (hF3908.up (by decide))).tr (hF3922.up (by decide))).tr (hF3971.up (by decide))).tr (hF4077.up (by decide))).tr ((xFr.of (S := [82, 83, 85, 86, 87]) hb4140 (by decide)).tr (xFr.of (S := [82, 83, 85, 86, 87]) hb4143 (by decide)))), ⟨fun h => by have := pq4152.1 h; omega, (show fld w4141 82 10 = 0 ∨ FA w4141 ≠ 0 by omega), Or.inr ⟨by have := ms4093; omega, by omega, hM4155⟩, hD4159⟩⟩
            · refine xg_t (xg_ifT (u := f82_3952) rfl xnm0 (xj_neT hc3984)) ?_
              refine xg_t (xg_blk (b := [(416, 1, 0, 0, 0, 0), (417, 3, 13, 140, 96, 183)]) rfl) ?_
              refine xg_t (xg_aload (va := (2, 82)) rfl rfl) ?_
              refine xg_cVv mX12_ends (vs := []) (rest := []) (cn1 := 0) (sl1 := 0) rfl (mEnds (hI3970) pk3975.2.2.2) rfl (hF3971.get (by decide) h82_3966) rfl rfl rfl rfl rfl rfl (fun w4160 hq4161 => ?_)
              obtain ⟨hI4162, hF4163, hx4164⟩ := hq4161
              obtain ⟨hv4165, hv4166, hv4167, hv4168⟩ := hx4164
              have pk4169 : PK w3968 w4160 := ⟨fun _ => hv4165, by omega, by omega, Or.inr hv4165⟩
              have pk4170 : PK w w4160 := PK.tr pk3975 pk4169
              have os4171 : ∀ j, (j < 80 + 3 * u3254 ∨ 83 + 3 * u3254 ≤ j) → j < 140 → rwv w4160 86 j = rwv w 86 j := fun j hj hl => (rwv_fr hF4163 (by decide)).trans (os3976 j hj hl)
              have ix4172 : u3254 < 4 → rwv w4160 86 ((80 + (3 * u3254)) + 0) = n3805 := fun h => (rwv_fr hF4163 (by decide)).trans (ix3977 h)
              have ix4173 : u3254 < 4 → rwv w4160 86 ((80 + (3 * u3254)) + 1) = n3862 := fun h => (rwv_fr hF4163 (by decide)).trans (ix3978 h)
              have ix4174 : u3254 < 4 → rwv w4160 86 ((80 + (3 * u3254)) + 2) = n3923 := fun h => (rwv_fr hF4163 (by decide)).trans (hp3973 h)
              have rg4175 : FA w4160 ≠ 0 ∨ False := rg3979.imp_left pk4169.1
              have rg4176 : FA w4160 ≠ 0 ∨ (1 ≤ n3805 ∧ n3805 ≤ 10) := rg3980.imp_left pk4169.1
              have rg4177 : FA w4160 ≠ 0 ∨ (1 ≤ n3862 ∧ n3862 ≤ 10) := rg3981.imp_left pk4169.1
              have rg4178 : FA w4160 ≠ 0 ∨ (1 ≤ n3923 ∧ n3923 ≤ 999) := rg3982.imp_left pk4169.1
              have ms4179 : mu w4160 < mu w := Nat.lt_of_le_of_lt pk4169.2.1 ms3983
              refine xg_t (xg_blk (b := [(420, 1, 0, 0, 0, 0), (421, 3, 1, 12, 11, 17), (424, 1, 2, 1, 0, 0), (425, 1, 39, 0, 0, 0), (426, 1, 10, 0, 0, 0), (427, 1, 3, 1, 0, 0), (428, 1, 11, 0, 0, 0), (429, 1, 17, 0, 0, 0), (430, 1, 0, 0, 0, 0), (431, 1, 19, 0, 0, 0), (432, 3, 1, 12, 14, 212), (435, 1, 3, 1, 0, 0), (436, 1, 11, 0, 0, 0), (437, 3, 14, 12, 14, 212), (440, 1, 12, 0, 0, 0)]) rfl) ?_
              obtain ⟨f82_4180, f82_4182, f82_4184, f82_4186, f82_4188, f82_4190, f82_4192, f82_4194, f82_4196, f82_4198, f82_4200, f82_4201, f82_4202, f82_4204, f82_4206, f82_4208, h82_4210, hb4181, hb4183, hb4185, hb4187, hb4189, hb4191, hb4193, hb4195, hb4197, hb4199, hb4203, hb4205, hb4207, hb4209, hb4211⟩ := (hI4162 82 (by decide) (by decide) : cp82 (wget w4160 82))
              have hf4212 : fld w4160 82 4 = f82_4184 := fld_of h82_4210
              have hf4213 : fld w4160 82 5 = f82_4186 := fld_of h82_4210
              have hf4214 : fld w4160 82 7 = f82_4190 := fld_of h82_4210
              have hf4215 : fld w4160 82 10 = f82_4196 := fld_of h82_4210
              have hf4216 : fld w4160 82 14 = f82_4198 := fld_of h82_4210
              have hu4217 : mu w4160 = 2 * (fld w4160 82 4 - fld w4160 82 5) + min 1 (fld w4160 82 7) := rfl
              have hf4218 := pk4170.2.2.1
              have hl4219 : f82_4198 ≤ 1000 := by omega
              refine xg_t (xg_aload (va := (2, 82)) rfl rfl) ?_
              refine xg_t (xg_getf (va := (2, 85)) h82_4210 rfl) ?_
              refine xg_t (xg_iload (va := (0, 3)) rfl rfl) ?_
              refine xg_t (xg_dup2 rfl) ?_
              refine xg_ialdB (n := 3) (B := 4294967295) (((((((((h85_37.fr hF3747 (by decide)).fr hF3756 (by decide)).fr hF3804 (by decide)).fr hF3849 (by decide)).fr hF3861 (by decide)).fr hF3908 (by decide)).fr hF3922 (by decide)).fr hF3971 (by decide)).fr hF4163 (by decide)) (hb38) xnm0 (by omega) (fun u4220 hu4221 he4222 => ?_)
              have hl4223 : u4220 = u3254 := by omega
              refine xg_t (xg_const) ?_
              refine xg_t (xg_iadd (u := u4220) (v := 1) (z := u4220 + 1) xnm0 xnm0 (by omega)) ?_
              refine xg_iastK (n := 3) (u := u4220 + 1) (((((((((h85_37.fr hF3747 (by decide)).fr hF3756 (by decide)).fr hF3804 (by decide)).fr hF3849 (by decide)).fr hF3861 (by decide)).fr hF3908 (by decide)).fr hF3922 (by decide)).fr hF3971 (by decide)).fr hF4163 (by decide)) xnm0 xnm0 rfl (by omega) (fun w4224 hr4225 hb4226 => ?_)
              refine xg_t (xg_aload (va := (2, 82)) rfl rfl) ?_
              refine xg_t (xg_dup rfl) ?_
              refine xg_t (xg_getf (va := (0, f82_4198)) (hb4226.get (by decide) h82_4210) rfl) ?_
              refine xg_t (xg_const) ?_
              refine xg_t (xg_iadd (u := f82_4198) (v := 1) (z := f82_4198 + 1) xnm0 xnm0 (by omega)) ?_
              refine xg_putI (fl1 := [(2, 83), (2, 84), (0, f82_4180), (0, f82_4182), (0, f82_4184), (0, f82_4186), (0, f82_4188), (0, f82_4190), (0, f82_4192), (0, f82_4194), (0, f82_4196), (2, 85), (2, 86), (2, 87), (0, f82_4198 + 1), (2, 88), (2, 89), (2, 90), (2, 91), (2, 92), (2, 93), (2, 94), (4, f82_4200), (4, f82_4201), (0, f82_4202), (2, 95), (2, 96), (2, 97), (2, 98), (2, 99), (2, 100), (2, 101), (2, 102), (0, f82_4204), (2, 103), (2, 104), (2, 105), (2, 106), (2, 107), (2, 108), (2, 109), (0, f82_4206), (0, f82_4208), (2, 110), (2, 111), (2, 112), (2, 113)]) (hb4226.get (by decide) h82_4210) rfl rfl rfl (fun w4227 hk4228 hb4229 => ?_)
              have hF4230 : xFr [82, 85] w4160 w4227 := ((xFr.of (S := [82, 85]) hb4226 (by decide)).tr (xFr.of (S := [82, 85]) hb4229 (by decide)))
              have hA4231 := FA_fr hF4230 (by decide)
              have hf4232 : fld w4227 82 4 = f82_4184 := fld_of hk4228
              have hf4233 : fld w4227 82 5 = f82_4186 := fld_of hk4228
              have hf4234 : fld w4227 82 7 = f82_4190 := fld_of hk4228
              have hf4235 : fld w4227 82 10 = f82_4196 := fld_of hk4228
              have hf4236 : fld w4227 82 14 = f82_4198 + 1 := fld_of hk4228
              have hu4237 : mu w4227 = 2 * (fld w4227 82 4 - fld w4227 82 5) + min 1 (fld w4227 82 7) := rfl
              have pq4238 := pk4170
              unfold PK PS at pq4238
              have hM4239 : ∀ s, s < 7 → s ≠ 3 → rwv w4227 85 s = rwv w 85 s := fun s hs hn => (rwv_of (hr4225.but hb4229 (by decide)) hs).trans ((if_neg hn).trans (rwv_of h85_37 hs).symm)
              have hM4240 : rwv w4227 85 3 = u3254 + 1 := (rwv_of (hr4225.but hb4229 (by decide)) (by decide)).trans ((if_pos rfl).trans (by omega))
              have hM4241 : ∀ s, s < 7 → rwv w4227 85 s ≤ rwv w 85 s + 1 := fun s hs => by
                by_cases z : s = 3
                · subst z; omega
                · rw [hM4239 s hs z]; omega
              have hO4242 : ∀ j, (j < 80 + 3 * u3254 ∨ 83 + 3 * u3254 ≤ j) → j < 140 → rwv w4227 86 j = rwv w 86 j := fun j hj hl => (rwv_fr hF4230 (by decide)).trans (os4171 j hj hl)
              have hN4243 : FA w4227 ≠ 0 ∨ 4 ≤ u3254 ∨ True := Or.inr (Or.inr trivial)
              have hX4244 : FA w4227 ≠ 0 ∨ u3254 < 4 := by omega
              have hD4245 : FA w4227 ≠ 0 ∨ (DATA w → DATA w4227) := by
                by_cases z : FA w4227 ≠ 0
                · exact Or.inl z
                · exact Or.inr (fun hd => hd.s3 hM4239 hK3257 hM4240 (hX4244.resolve_left z) hO4242 ((hN4243.resolve_left z).resolve_left (by have := hX4244.resolve_left z; omega)))
              exact xg_e ⟨w4227, ⟨rfl, rfl⟩, xMnv.up (S := [85, 82]) hI4162 ((xFr.of (S := [85, 82]) hb4226 (by decide)).tr (xFr.of (S := [85, 82]) hb4229 (by decide))) (List.forall_mem_cons.mpr ⟨(show cpI 7 52 4294967295 (wget w4227 85) from ⟨_, (hr4225.but hb4229 (by decide)), xrb (by omega) (hb38)⟩), List.forall_mem_cons.mpr ⟨(show cp82 (wget w4227 82) from ⟨f82_4180, f82_4182, f82_4184, f82_4186, f82_4188, f82_4190, f82_4192, f82_4194, f82_4196, f82_4198 + 1, f82_4200, f82_4201, f82_4202, f82_4204, f82_4206, f82_4208, hk4228, by omega, by omega, by omega, by omega, by omega, by omega, by omega, by omega, by omega, by omega, by omega, by omega, by omega, by omega, by omega⟩), fun _ h => absurd h List.not_mem_nil⟩⟩), ((((((((((hF3747.up (by decide)).tr (hF3756.up (by decide))).tr (hF3804.up (by decide))).tr (hF3849.up (by decide))).tr (hF3861.up (by decide))).tr (hF3908.up (by decide))).tr (hF3922.up (by decide))).tr (hF3971.up (by decide))).tr (hF4163.up (by decide))).tr ((xFr.of (S := [82, 83, 85, 86, 87]) hb4226 (by decide)).tr (xFr.of (S := [82, 83, 85, 86, 87]) hb4229 (by decide)))), ⟨fun h => by have := pq4238.1 h; omega, (show fld w4227 82 10 = 0 ∨ FA w4227 ≠ 0 by omega), Or.inr ⟨by have := ms4179; omega, by omega, hM4241⟩, hD4245⟩⟩
        · refine xg_t (xg_aload (va := (2, 82)) rfl rfl) ?_
          refine xg_t (xg_getf (va := (2, 85)) h82_31 rfl) ?_
          refine xg_t (xg_iload (va := (0, 4)) rfl rfl) ?_
          refine xg_ialdB (n := 4) (B := 4294967295) h85_37 (hb38) xnm0 (by omega) (fun u4246 hu4247 he4248 => ?_)
          have hK4249 : rwv w 85 4 = u4246 := (rwv_of h85_37 (by decide)).trans he4248
          have hm4250 := hmb 4 (by decide)
          have hl4251 : u4246 ≤ 1000 := by omega
          refine xg_t (xg_istore (l1 := [(2, (0, f82_9)), (1, (0, 4)), (0, (2, 82))]) rfl rfl rfl) ?_
          refine xg_t (xg_iload (va := (0, u4246)) rfl rfl) ?_
          refine xg_t (xg_iload (va := (0, 4)) rfl rfl) ?_
          refine xg_t (xg_cSr mX12_mostOf (vs := [(0, 4)]) (rest := [(0, u4246)]) (rs := [(0, 20), (0, u4246)]) (cn1 := 0) (sl1 := 0) rfl (mMostR4) rfl rfl rfl rfl rfl rfl rfl rfl) ?_
          by_cases hc4252 : u4246 < 20
          · refine xg_t (xg_icT (u := u4246) (v := 20) rfl xnm0 xnm0 (xj_ltT hc4252 (by omega))) ?_
            refine xg_t (xg_blk (b := [(64, 1, 0, 0, 0, 0), (65, 3, 13, 110, 96, 190), (68, 1, 2, 1, 0, 0), (69, 39, 33, 362, 0, 9)]) rfl) ?_
            refine xg_t (xg_aload (va := (2, 82)) rfl rfl) ?_
            refine xg_cVv mX12_advance (vs := []) (rest := []) (cn1 := 0) (sl1 := 0) rfl (mAdvance (hI)) rfl h82_31 rfl rfl rfl rfl rfl rfl (fun w4253 hq4254 => ?_)
            obtain ⟨hI4255, hF4256, hx4257⟩ := hq4254
            obtain ⟨hv4258, hv4259, hv4260, hv4261⟩ := hx4257
            have hf4263 := FA_fr hF4256 (by decide)
            have hs4264 := (PK.rf hps).2.2.2
            unfold PS at hs4264
            have pk4262 : PK w w4253 := ⟨fun _ => by omega, hv4258, hv4261, (show fld w4253 82 10 = 0 ∨ FA w4253 ≠ 0 by omega)⟩
            have pk4265 : PK w w4253 := PK.tr (PK.rf hps) pk4262
            have os4266 : ∀ j, (j < 100 + 2 * u4246 ∨ 102 + 2 * u4246 ≤ j) → j < 140 → rwv w4253 86 j = rwv w 86 j := fun j hj hl => (rwv_fr hF4256 (by decide)).trans ((fun j _ _ => rfl) j hj hl)
            have ms4267 : mu w4253 < mu w := Nat.lt_of_lt_of_le (hv4259 (by omega)) (PK.rf hps).2.1
            refine xg_t (xg_iload (va := (0, 4)) rfl rfl) ?_
            refine xg_t (xg_swt (ks := [(0, 108), (1, 116), (2, 180), (3, 221), (4, 273), (5, 326)]) (u := 4) (z := 273) rfl rfl rfl xnm0 (xsw_n (by omega) (xsw_n (by omega) (xsw_n (by omega) (xsw_n (by omega) (xsw_y rfl)))))) ?_
            refine xg_t (xg_blk (b := [(273, 1, 2, 3, 0, 0), (274, 2, 4, 20, 0, 0), (276, 3, 6, 286, 3, 0), (279, 1, 0, 0, 0, 0), (280, 3, 1, 12, 13, 23), (283, 1, 2, 3, 0, 0), (284, 1, 2, 2, 0, 0), (285, 1, 17, 0, 0, 0)]) rfl) ?_
            refine xg_t (xg_iload (va := (0, u4246)) rfl rfl) ?_
            refine xg_t (xg_bip) ?_
            refine xg_t (xg_icF (u := u4246) (v := 20) rfl xnm0 xnm0 (xj_geF (by omega) (by omega))) ?_
            refine xg_t (xg_aload (va := (2, 82)) rfl rfl) ?_
            obtain ⟨f82_4268, f82_4270, f82_4272, f82_4274, f82_4276, f82_4278, f82_4280, f82_4282, f82_4284, f82_4286, f82_4288, f82_4289, f82_4290, f82_4292, f82_4294, f82_4296, h82_4298, hb4269, hb4271, hb4273, hb4275, hb4277, hb4279, hb4281, hb4283, hb4285, hb4287, hb4291, hb4293, hb4295, hb4297, hb4299⟩ := (hI4255 82 (by decide) (by decide) : cp82 (wget w4253 82))
            refine xg_t (xg_getf (va := (2, 87)) h82_4298 rfl) ?_
            refine xg_t (xg_iload (va := (0, u4246)) rfl rfl) ?_
            refine xg_t (xg_iload (va := (0, f82_9)) rfl rfl) ?_
            refine xg_iastK (n := u4246) (u := f82_9) (h87_43.fr hF4256 (by decide)) xnm0 xnm0 rfl (by omega) (fun w4300 hr4301 hb4302 => ?_)
            refine xg_t (xg_blk (b := [(286, 1, 3, 0, 0, 0), (287, 2, 15, 4, 0, 0)]) rfl) ?_
            refine xg_t (xg_const) ?_
            refine xg_t (xg_istore (l1 := [(3, (0, u4246)), (2, (0, f82_9)), (1, (0, 4)), (0, (2, 82))]) rfl rfl rfl) ?_
            refine xg_t (xg_blk (b := [(289, 2, 2, 4, 0, 0), (291, 1, 3, 2, 0, 0), (292, 3, 6, 323, 3, 0), (295, 1, 0, 0, 0, 0), (296, 1, 2, 1, 0, 0), (297, 1, 2, 3, 0, 0), (298, 2, 4, 100, 0, 0), (300, 1, 3, 2, 0, 0), (301, 1, 2, 3, 0, 0), (302, 1, 16, 0, 0, 0), (303, 1, 11, 0, 0, 0), (304, 2, 2, 4, 0, 0), (306, 1, 11, 0, 0, 0), (307, 1, 0, 0, 0, 0), (308, 1, 3, 0, 0, 0), (309, 2, 4, 9, 0, 0), (311, 3, 13, 199, 96, 196), (314, 3, 13, 211, 96, 200), (317, 3, 9, 4, 1, 0), (320, 3, 8, 289, 0, 0)]) rfl) ?_
            refine xg_t (xg_iload (va := (0, 0)) rfl rfl) ?_
            refine xg_t (xg_const) ?_
            refine xg_t (xg_icF (u := 0) (v := 2) rfl xnm0 xnm0 (by decide)) ?_
            refine xg_t (xg_aload (va := (2, 82)) rfl rfl) ?_
            refine xg_t (xg_iload (va := (0, 4)) rfl rfl) ?_
            refine xg_t (xg_iload (va := (0, u4246)) rfl rfl) ?_
            refine xg_t (xg_bip) ?_
            refine xg_t (xg_const) ?_
            refine xg_t (xg_iload (va := (0, u4246)) rfl rfl) ?_
            refine xg_t (xg_imul (u := 2) (v := u4246) (z := 2 * u4246) xnm0 xnm0 (by omega)) ?_
            refine xg_t (xg_iadd (u := 100) (v := 2 * u4246) (z := 100 + (2 * u4246)) xnm0 xnm0 (by omega)) ?_
            refine xg_t (xg_iload (va := (0, 0)) rfl rfl) ?_
            refine xg_t (xg_iadd (u := 100 + (2 * u4246)) (v := 0) (z := (100 + (2 * u4246)) + 0) xnm0 xnm0 (by omega)) ?_
            refine xg_t (xg_aload (va := (2, 82)) rfl rfl) ?_
            refine xg_t (xg_const) ?_
            refine xg_t (xg_bip) ?_
            refine xg_cVi mX12_numbered (vs := [(0, 0), (0, 9)]) (rest := [(0, (100 + (2 * u4246)) + 0), (0, u4246), (0, 4), (2, 82)]) (cn1 := 0) (sl1 := 0) rfl (mNumbered (xMnv.up (S := [87]) hI4255 (xFr.of (S := [87]) hb4302 (by decide)) (List.forall_mem_cons.mpr ⟨(show cpI 20 54 4294967295 (wget w4300 87) from ⟨_, hr4301, xrb (by omega) (hb44)⟩), fun _ h => absurd h List.not_mem_nil⟩)) (by omega) (by omega) pk4265.2.2.2) rfl (hb4302.get (by decide) h82_4298) rfl rfl rfl rfl rfl rfl (fun n4307 w4303 hq4304 => ?_)
            obtain ⟨hn4308, hI4305, hF4306⟩ := hq4304
            obtain ⟨hn4309, hn4310, hn4311⟩ := hn4308
            have pk4312 : PK w w4303 := PK.tr pk4265 hn4310
            have os4313 : ∀ j, (j < 100 + 2 * u4246 ∨ 102 + 2 * u4246 ≤ j) → j < 140 → rwv w4303 86 j = rwv w 86 j := fun j hj hl => (rwv_fr hF4306 (by decide)).trans (os4266 j hj hl)
            have ms4314 : mu w4303 < mu w := Nat.lt_of_le_of_lt hn4310.2.1 ms4267
            obtain ⟨f82_4315, f82_4317, f82_4319, f82_4321, f82_4323, f82_4325, f82_4327, f82_4329, f82_4331, f82_4333, f82_4335, f82_4336, f82_4337, f82_4339, f82_4341, f82_4343, h82_4345, hb4316, hb4318, hb4320, hb4322, hb4324, hb4326, hb4328, hb4330, hb4332, hb4334, hb4338, hb4340, hb4342, hb4344, hb4346⟩ := (hI4305 82 (by decide) (by decide) : cp82 (wget w4303 82))
            refine xg_cVv mX12_puts (vs := [(0, 4), (0, u4246), (0, (100 + (2 * u4246)) + 0), (0, n4307)]) (rest := []) (cn1 := 0) (sl1 := 0) rfl (mPuts4 (hI4305) (by omega) (by omega) (by omega) (fun _ => by omega)) rfl h82_4345 rfl rfl rfl rfl rfl rfl (fun w4347 hq4348 => ?_)
            obtain ⟨hI4349, hF4350, hx4351⟩ := hq4348
            obtain ⟨hp4352, hp4353⟩ := hx4351
            have pk4354 : PK w w4347 := PK.tr pk4312 (PK.fr hF4350 (by decide) (by decide) pk4312.2.2.2)
            have os4355 : ∀ j, (j < 100 + 2 * u4246 ∨ 102 + 2 * u4246 ≤ j) → j < 140 → rwv w4347 86 j = rwv w 86 j := fun j hj hl => (hp4353 j (by omega) hl).trans (os4313 j hj hl)
            have rg4356 : FA w4347 ≠ 0 ∨ (0 ≤ n4307 ∧ n4307 ≤ 9) := hn4311.imp_left (PK.fr hF4350 (by decide) (by decide) pk4312.2.2.2).1
            have ms4357 : mu w4347 < mu w := Nat.lt_of_le_of_lt (PK.fr hF4350 (by decide) (by decide) pk4312.2.2.2).2.1 ms4314
            refine xg_t (xg_iinc (u := 0) (z := 1) (l1 := [(3, (0, u4246)), (2, (0, f82_9)), (1, (0, 4)), (0, (2, 82))]) rfl rfl (by decide) rfl) ?_
            refine xg_t (xg_goto) ?_
            refine xg_t (xg_blk (b := [(289, 2, 2, 4, 0, 0), (291, 1, 3, 2, 0, 0), (292, 3, 6, 323, 3, 0), (295, 1, 0, 0, 0, 0), (296, 1, 2, 1, 0, 0), (297, 1, 2, 3, 0, 0), (298, 2, 4, 100, 0, 0), (300, 1, 3, 2, 0, 0), (301, 1, 2, 3, 0, 0), (302, 1, 16, 0, 0, 0), (303, 1, 11, 0, 0, 0), (304, 2, 2, 4, 0, 0), (306, 1, 11, 0, 0, 0), (307, 1, 0, 0, 0, 0), (308, 1, 3, 0, 0, 0), (309, 2, 4, 9, 0, 0), (311, 3, 13, 199, 96, 196), (314, 3, 13, 211, 96, 200), (317, 3, 9, 4, 1, 0), (320, 3, 8, 289, 0, 0)]) rfl) ?_
            refine xg_t (xg_iload (va := (0, 1)) rfl rfl) ?_
            refine xg_t (xg_const) ?_
            refine xg_t (xg_icF (u := 1) (v := 2) rfl xnm0 xnm0 (by decide)) ?_
            refine xg_t (xg_aload (va := (2, 82)) rfl rfl) ?_
            refine xg_t (xg_iload (va := (0, 4)) rfl rfl) ?_
            refine xg_t (xg_iload (va := (0, u4246)) rfl rfl) ?_
            refine xg_t (xg_bip) ?_
            refine xg_t (xg_const) ?_
            refine xg_t (xg_iload (va := (0, u4246)) rfl rfl) ?_
            refine xg_t (xg_imul (u := 2) (v := u4246) (z := 2 * u4246) xnm0 xnm0 (by omega)) ?_
            refine xg_t (xg_iadd (u := 100) (v := 2 * u4246) (z := 100 + (2 * u4246)) xnm0 xnm0 (by omega)) ?_
            refine xg_t (xg_iload (va := (0, 1)) rfl rfl) ?_
            refine xg_t (xg_iadd (u := 100 + (2 * u4246)) (v := 1) (z := (100 + (2 * u4246)) + 1) xnm0 xnm0 (by omega)) ?_
            refine xg_t (xg_aload (va := (2, 82)) rfl rfl) ?_
            refine xg_t (xg_const) ?_
            refine xg_t (xg_bip) ?_
            refine xg_cVi mX12_numbered (vs := [(0, 0), (0, 9)]) (rest := [(0, (100 + (2 * u4246)) + 1), (0, u4246), (0, 4), (2, 82)]) (cn1 := 0) (sl1 := 0) rfl (mNumbered (hI4349) (by omega) (by omega) pk4354.2.2.2) rfl (hF4350.get (by decide) h82_4345) rfl rfl rfl rfl rfl rfl (fun n4362 w4358 hq4359 => ?_)
            obtain ⟨hn4363, hI4360, hF4361⟩ := hq4359
            obtain ⟨hn4364, hn4365, hn4366⟩ := hn4363
            have pk4367 : PK w w4358 := PK.tr pk4354 hn4365
            have os4368 : ∀ j, (j < 100 + 2 * u4246 ∨ 102 + 2 * u4246 ≤ j) → j < 140 → rwv w4358 86 j = rwv w 86 j := fun j hj hl => (rwv_fr hF4361 (by decide)).trans (os4355 j hj hl)
            have ix4369 : u4246 < 20 → rwv w4358 86 ((100 + (2 * u4246)) + 0) = n4307 := fun h => (rwv_fr hF4361 (by decide)).trans (hp4352 h)
            have rg4370 : FA w4358 ≠ 0 ∨ (0 ≤ n4307 ∧ n4307 ≤ 9) := rg4356.imp_left hn4365.1
            have ms4371 : mu w4358 < mu w := Nat.lt_of_le_of_lt hn4365.2.1 ms4357
            obtain ⟨f82_4372, f82_4374, f82_4376, f82_4378, f82_4380, f82_4382, f82_4384, f82_4386, f82_4388, f82_4390, f82_4392, f82_4393, f82_4394, f82_4396, f82_4398, f82_4400, h82_4402, hb4373, hb4375, hb4377, hb4379, hb4381, hb4383, hb4385, hb4387, hb4389, hb4391, hb4395, hb4397, hb4399, hb4401, hb4403⟩ := (hI4360 82 (by decide) (by decide) : cp82 (wget w4358 82))
            refine xg_cVv mX12_puts (vs := [(0, 4), (0, u4246), (0, (100 + (2 * u4246)) + 1), (0, n4362)]) (rest := []) (cn1 := 0) (sl1 := 0) rfl (mPuts4 (hI4360) (by omega) (by omega) (by omega) (fun _ => by omega)) rfl h82_4402 rfl rfl rfl rfl rfl rfl (fun w4404 hq4405 => ?_)
            obtain ⟨hI4406, hF4407, hx4408⟩ := hq4405
            obtain ⟨hp4409, hp4410⟩ := hx4408
            have pk4411 : PK w w4404 := PK.tr pk4367 (PK.fr hF4407 (by decide) (by decide) pk4367.2.2.2)
            have os4412 : ∀ j, (j < 100 + 2 * u4246 ∨ 102 + 2 * u4246 ≤ j) → j < 140 → rwv w4404 86 j = rwv w 86 j := fun j hj hl => (hp4410 j (by omega) hl).trans (os4368 j hj hl)
            have ix4413 : u4246 < 20 → rwv w4404 86 ((100 + (2 * u4246)) + 0) = n4307 := fun h => (hp4410 _ (by omega) (by omega)).trans (ix4369 h)
            have rg4414 : FA w4404 ≠ 0 ∨ (0 ≤ n4307 ∧ n4307 ≤ 9) := rg4370.imp_left (PK.fr hF4407 (by decide) (by decide) pk4367.2.2.2).1
            have rg4415 : FA w4404 ≠ 0 ∨ (0 ≤ n4362 ∧ n4362 ≤ 9) := hn4366.imp_left (PK.fr hF4407 (by decide) (by decide) pk4367.2.2.2).1
            have ms4416 : mu w4404 < mu w := Nat.lt_of_le_of_lt (PK.fr hF4407 (by decide) (by decide) pk4367.2.2.2).2.1 ms4371
            refine xg_t (xg_iinc (u := 1) (z := 2) (l1 := [(3, (0, u4246)), (2, (0, f82_9)), (1, (0, 4)), (0, (2, 82))]) rfl rfl (by decide) rfl) ?_
            refine xg_t (xg_goto) ?_
            refine xg_t (xg_blk (b := [(289, 2, 2, 4, 0, 0), (291, 1, 3, 2, 0, 0), (292, 3, 6, 323, 3, 0), (295, 1, 0, 0, 0, 0), (296, 1, 2, 1, 0, 0), (297, 1, 2, 3, 0, 0), (298, 2, 4, 100, 0, 0), (300, 1, 3, 2, 0, 0), (301, 1, 2, 3, 0, 0), (302, 1, 16, 0, 0, 0), (303, 1, 11, 0, 0, 0), (304, 2, 2, 4, 0, 0), (306, 1, 11, 0, 0, 0), (307, 1, 0, 0, 0, 0), (308, 1, 3, 0, 0, 0), (309, 2, 4, 9, 0, 0), (311, 3, 13, 199, 96, 196), (314, 3, 13, 211, 96, 200), (317, 3, 9, 4, 1, 0), (320, 3, 8, 289, 0, 0)]) rfl) ?_
            refine xg_t (xg_iload (va := (0, 2)) rfl rfl) ?_
            refine xg_t (xg_const) ?_
            refine xg_t (xg_icT (u := 2) (v := 2) rfl xnm0 xnm0 (by decide)) ?_
            refine xg_t (xg_blk (b := [(323, 3, 8, 394, 0, 0)]) rfl) ?_
            refine xg_t (xg_goto) ?_
            refine xg_t (xg_blk (b := [(394, 1, 0, 0, 0, 0), (395, 3, 1, 12, 10, 180), (398, 3, 7, 416, 1, 0), (401, 1, 0, 0, 0, 0), (402, 3, 1, 12, 7, 151), (405, 1, 3, 2, 0, 0), (406, 3, 6, 416, 1, 0), (409, 1, 0, 0, 0, 0), (410, 3, 13, 110, 96, 190), (413, 3, 8, 420, 0, 0)]) rfl) ?_
            refine xg_t (xg_aload (va := (2, 82)) rfl rfl) ?_
            refine xg_t (xg_getf (va := (0, f82_4388)) (hF4407.get (by decide) h82_4402) rfl) ?_
            by_cases hc4417 : f82_4388 = 0
            · refine xg_t (xg_ifF (u := f82_4388) rfl xnm0 (xj_neF hc4417)) ?_
              refine xg_t (xg_aload (va := (2, 82)) rfl rfl) ?_
              refine xg_t (xg_getf (va := (0, f82_4382)) (hF4407.get (by decide) h82_4402) rfl) ?_
              refine xg_t (xg_const) ?_
              by_cases hc4418 : f82_4382 = 2
              · refine xg_t (xg_icF (u := f82_4382) (v := 2) rfl xnm0 xnm0 (xj_neF hc4418)) ?_
                refine xg_t (xg_aload (va := (2, 82)) rfl rfl) ?_
                refine xg_cVv mX12_advance (vs := []) (rest := []) (cn1 := 0) (sl1 := 0) rfl (mAdvance (hI4406)) rfl (hF4407.get (by decide) h82_4402) rfl rfl rfl rfl rfl rfl (fun w4419 hq4420 => ?_)
                obtain ⟨hI4421, hF4422, hx4423⟩ := hq4420
                obtain ⟨hv4424, hv4425, hv4426, hv4427⟩ := hx4423
                have hf4429 := FA_fr hF4422 (by decide)
                have hs4430 := pk4411.2.2.2
                unfold PS at hs4430
                have pk4428 : PK w4404 w4419 := ⟨fun _ => by omega, hv4424, hv4427, (show fld w4419 82 10 = 0 ∨ FA w4419 ≠ 0 by omega)⟩
                have pk4431 : PK w w4419 := PK.tr pk4411 pk4428
                have os4432 : ∀ j, (j < 100 + 2 * u4246 ∨ 102 + 2 * u4246 ≤ j) → j < 140 → rwv w4419 86 j = rwv w 86 j := fun j hj hl => (rwv_fr hF4422 (by decide)).trans (os4412 j hj hl)
                have ix4433 : u4246 < 20 → rwv w4419 86 ((100 + (2 * u4246)) + 0) = n4307 := fun h => (rwv_fr hF4422 (by decide)).trans (ix4413 h)
                have ix4434 : u4246 < 20 → rwv w4419 86 ((100 + (2 * u4246)) + 1) = n4362 := fun h => (rwv_fr hF4422 (by decide)).trans (hp4409 h)
                have rg4435 : FA w4419 ≠ 0 ∨ (0 ≤ n4307 ∧ n4307 ≤ 9) := rg4414.imp_left pk4428.1
                have rg4436 : FA w4419 ≠ 0 ∨ (0 ≤ n4362 ∧ n4362 ≤ 9) := rg4415.imp_left pk4428.1
                have ms4437 : mu w4419 < mu w := Nat.lt_of_le_of_lt pk4428.2.1 ms4416
                refine xg_t (xg_goto) ?_
                refine xg_t (xg_blk (b := [(420, 1, 0, 0, 0, 0), (421, 3, 1, 12, 11, 17), (424, 1, 2, 1, 0, 0), (425, 1, 39, 0, 0, 0), (426, 1, 10, 0, 0, 0), (427, 1, 3, 1, 0, 0), (428, 1, 11, 0, 0, 0), (429, 1, 17, 0, 0, 0), (430, 1, 0, 0, 0, 0), (431, 1, 19, 0, 0, 0), (432, 3, 1, 12, 14, 212), (435, 1, 3, 1, 0, 0), (436, 1, 11, 0, 0, 0), (437, 3, 14, 12, 14, 212), (440, 1, 12, 0, 0, 0)]) rfl) ?_
                obtain ⟨f82_4438, f82_4440, f82_4442, f82_4444, f82_4446, f82_4448, f82_4450, f82_4452, f82_4454, f82_4456, f82_4458, f82_4459, f82_4460, f82_4462, f82_4464, f82_4466, h82_4468, hb4439, hb4441, hb4443, hb4445, hb4447, hb4449, hb4451, hb4453, hb4455, hb4457, hb4461, hb4463, hb4465, hb4467, hb4469⟩ := (hI4421 82 (by decide) (by decide) : cp82 (wget w4419 82))
                have hf4470 : fld w4419 82 4 = f82_4442 := fld_of h82_4468
                have hf4471 : fld w4419 82 5 = f82_4444 := fld_of h82_4468
                have hf4472 : fld w4419 82 7 = f82_4448 := fld_of h82_4468
                have hf4473 : fld w4419 82 10 = f82_4454 := fld_of h82_4468
                have hf4474 : fld w4419 82 14 = f82_4456 := fld_of h82_4468
                have hu4475 : mu w4419 = 2 * (fld w4419 82 4 - fld w4419 82 5) + min 1 (fld w4419 82 7) := rfl
                have hf4476 := pk4431.2.2.1
                have hl4477 : f82_4456 ≤ 1000 := by omega
                refine xg_t (xg_aload (va := (2, 82)) rfl rfl) ?_
                refine xg_t (xg_getf (va := (2, 85)) h82_4468 rfl) ?_
                refine xg_t (xg_iload (va := (0, 4)) rfl rfl) ?_
                refine xg_t (xg_dup2 rfl) ?_
                refine xg_ialdB (n := 4) (B := 4294967295) (((((((h85_37.fr hF4256 (by decide)).but hb4302 (by decide)).fr hF4306 (by decide)).fr hF4350 (by decide)).fr hF4361 (by decide)).fr hF4407 (by decide)).fr hF4422 (by decide)) (hb38) xnm0 (by omega) (fun u4478 hu4479 he4480 => ?_)
                have hl4481 : u4478 = u4246 := by omega
                refine xg_t (xg_const) ?_
                refine xg_t (xg_iadd (u := u4478) (v := 1) (z := u4478 + 1) xnm0 xnm0 (by omega)) ?_
                refine xg_iastK (n := 4) (u := u4478 + 1) (((((((h85_37.fr hF4256 (by decide)).but hb4302 (by decide)).fr hF4306 (by decide)).fr hF4350 (by decide)).fr hF4361 (by decide)).fr hF4407 (by decide)).fr hF4422 (by decide)) xnm0 xnm0 rfl (by omega) (fun w4482 hr4483 hb4484 => ?_)
                refine xg_t (xg_aload (va := (2, 82)) rfl rfl) ?_
                refine xg_t (xg_dup rfl) ?_
                refine xg_t (xg_getf (va := (0, f82_4456)) (hb4484.get (by decide) h82_4468) rfl) ?_
                refine xg_t (xg_const) ?_
                refine xg_t (xg_iadd (u := f82_4456) (v := 1) (z := f82_4456 + 1) xnm0 xnm0 (by omega)) ?_
                refine xg_putI (fl1 := [(2, 83), (2, 84), (0, f82_4438), (0, f82_4440), (0, f82_4442), (0, f82_4444), (0, f82_4446), (0, f82_4448), (0, f82_4450), (0, f82_4452), (0, f82_4454), (2, 85), (2, 86), (2, 87), (0, f82_4456 + 1), (2, 88), (2, 89), (2, 90), (2, 91), (2, 92), (2, 93), (2, 94), (4, f82_4458), (4, f82_4459), (0, f82_4460), (2, 95), (2, 96), (2, 97), (2, 98), (2, 99), (2, 100), (2, 101), (2, 102), (0, f82_4462), (2, 103), (2, 104), (2, 105), (2, 106), (2, 107), (2, 108), (2, 109), (0, f82_4464), (0, f82_4466), (2, 110), (2, 111), (2, 112), (2, 113)]) (hb4484.get (by decide) h82_4468) rfl rfl rfl (fun w4485 hk4486 hb4487 => ?_)
                have hF4488 : xFr [82, 85] w4419 w4485 := ((xFr.of (S := [82, 85]) hb4484 (by decide)).tr (xFr.of (S := [82, 85]) hb4487 (by decide)))
                have hA4489 := FA_fr hF4488 (by decide)
                have hf4490 : fld w4485 82 4 = f82_4442 := fld_of hk4486
                have hf4491 : fld w4485 82 5 = f82_4444 := fld_of hk4486
                have hf4492 : fld w4485 82 7 = f82_4448 := fld_of hk4486
                have hf4493 : fld w4485 82 10 = f82_4454 := fld_of hk4486
                have hf4494 : fld w4485 82 14 = f82_4456 + 1 := fld_of hk4486
                have hu4495 : mu w4485 = 2 * (fld w4485 82 4 - fld w4485 82 5) + min 1 (fld w4485 82 7) := rfl
                have pq4496 := pk4431
                unfold PK PS at pq4496
                have hM4497 : ∀ s, s < 7 → s ≠ 4 → rwv w4485 85 s = rwv w 85 s := fun s hs hn => (rwv_of (hr4483.but hb4487 (by decide)) hs).trans ((if_neg hn).trans (rwv_of h85_37 hs).symm)
                have hM4498 : rwv w4485 85 4 = u4246 + 1 := (rwv_of (hr4483.but hb4487 (by decide)) (by decide)).trans ((if_pos rfl).trans (by omega))
                have hM4499 : ∀ s, s < 7 → rwv w4485 85 s ≤ rwv w 85 s + 1 := fun s hs => by
                  by_cases z : s = 4
                  · subst z; omega
                  · rw [hM4497 s hs z]; omega
                have hO4500 : ∀ j, (j < 100 + 2 * u4246 ∨ 102 + 2 * u4246 ≤ j) → j < 140 → rwv w4485 86 j = rwv w 86 j := fun j hj hl => (rwv_fr hF4488 (by decide)).trans (os4432 j hj hl)
                have hN4501 : FA w4485 ≠ 0 ∨ 20 ≤ u4246 ∨ True := Or.inr (Or.inr trivial)
                have hX4502 : FA w4485 ≠ 0 ∨ u4246 < 20 := by omega
                have hD4503 : FA w4485 ≠ 0 ∨ (DATA w → DATA w4485) := by
                  by_cases z : FA w4485 ≠ 0
                  · exact Or.inl z
                  · exact Or.inr (fun hd => hd.s4 hM4497 hK4249 hM4498 (hX4502.resolve_left z) hO4500 ((hN4501.resolve_left z).resolve_left (by have := hX4502.resolve_left z; omega)))
                exact xg_e ⟨w4485, ⟨rfl, rfl⟩, xMnv.up (S := [85, 82]) hI4421 ((xFr.of (S := [85, 82]) hb4484 (by decide)).tr (xFr.of (S := [85, 82]) hb4487 (by decide))) (List.forall_mem_cons.mpr ⟨(show cpI 7 52 4294967295 (wget w4485 85) from ⟨_, (hr4483.but hb4487 (by decide)), xrb (by omega) (hb38)⟩), List.forall_mem_cons.mpr ⟨(show cp82 (wget w4485 82) from ⟨f82_4438, f82_4440, f82_4442, f82_4444, f82_4446, f82_4448, f82_4450, f82_4452, f82_4454, f82_4456 + 1, f82_4458, f82_4459, f82_4460, f82_4462, f82_4464, f82_4466, hk4486, by omega, by omega, by omega, by omega, by omega, by omega, by omega, by omega, by omega, by omega, by omega, by omega, by omega, by omega, by omega⟩), fun _ h => absurd h List.not_mem_nil⟩⟩), ((((((((hF4256.up (by decide)).tr (xFr.of (S := [82, 83, 85, 86, 87]) hb4302 (by decide))).tr (hF4306.up (by decide))).tr (hF4350.up (by decide))).tr (hF4361.up (by decide))).tr (hF4407.up (by decide))).tr (hF4422.up (by decide))).tr ((xFr.of (S := [82, 83, 85, 86, 87]) hb4484 (by decide)).tr (xFr.of (S := [82, 83, 85, 86, 87]) hb4487 (by decide)))), ⟨fun h => by have := pq4496.1 h; omega, (show fld w4485 82 10 = 0 ∨ FA w4485 ≠ 0 by omega), Or.inr ⟨by have := ms4437; omega, by omega, hM4499⟩, hD4503⟩⟩
              · refine xg_t (xg_icT (u := f82_4382) (v := 2) rfl xnm0 xnm0 (xj_neT hc4418)) ?_
                refine xg_t (xg_blk (b := [(416, 1, 0, 0, 0, 0), (417, 3, 13, 140, 96, 183)]) rfl) ?_
                refine xg_t (xg_aload (va := (2, 82)) rfl rfl) ?_
                refine xg_cVv mX12_ends (vs := []) (rest := []) (cn1 := 0) (sl1 := 0) rfl (mEnds (hI4406) pk4411.2.2.2) rfl (hF4407.get (by decide) h82_4402) rfl rfl rfl rfl rfl rfl (fun w4504 hq4505 => ?_)
                obtain ⟨hI4506, hF4507, hx4508⟩ := hq4505
                obtain ⟨hv4509, hv4510, hv4511, hv4512⟩ := hx4508
                have pk4513 : PK w4404 w4504 := ⟨fun _ => hv4509, by omega, by omega, Or.inr hv4509⟩
                have pk4514 : PK w w4504 := PK.tr pk4411 pk4513
                have os4515 : ∀ j, (j < 100 + 2 * u4246 ∨ 102 + 2 * u4246 ≤ j) → j < 140 → rwv w4504 86 j = rwv w 86 j := fun j hj hl => (rwv_fr hF4507 (by decide)).trans (os4412 j hj hl)
                have ix4516 : u4246 < 20 → rwv w4504 86 ((100 + (2 * u4246)) + 0) = n4307 := fun h => (rwv_fr hF4507 (by decide)).trans (ix4413 h)
                have ix4517 : u4246 < 20 → rwv w4504 86 ((100 + (2 * u4246)) + 1) = n4362 := fun h => (rwv_fr hF4507 (by decide)).trans (hp4409 h)
                have rg4518 : FA w4504 ≠ 0 ∨ (0 ≤ n4307 ∧ n4307 ≤ 9) := rg4414.imp_left pk4513.1
                have rg4519 : FA w4504 ≠ 0 ∨ (0 ≤ n4362 ∧ n4362 ≤ 9) := rg4415.imp_left pk4513.1
                have ms4520 : mu w4504 < mu w := Nat.lt_of_le_of_lt pk4513.2.1 ms4416
                refine xg_t (xg_blk (b := [(420, 1, 0, 0, 0, 0), (421, 3, 1, 12, 11, 17), (424, 1, 2, 1, 0, 0), (425, 1, 39, 0, 0, 0), (426, 1, 10, 0, 0, 0), (427, 1, 3, 1, 0, 0), (428, 1, 11, 0, 0, 0), (429, 1, 17, 0, 0, 0), (430, 1, 0, 0, 0, 0), (431, 1, 19, 0, 0, 0), (432, 3, 1, 12, 14, 212), (435, 1, 3, 1, 0, 0), (436, 1, 11, 0, 0, 0), (437, 3, 14, 12, 14, 212), (440, 1, 12, 0, 0, 0)]) rfl) ?_
                obtain ⟨f82_4521, f82_4523, f82_4525, f82_4527, f82_4529, f82_4531, f82_4533, f82_4535, f82_4537, f82_4539, f82_4541, f82_4542, f82_4543, f82_4545, f82_4547, f82_4549, h82_4551, hb4522, hb4524, hb4526, hb4528, hb4530, hb4532, hb4534, hb4536, hb4538, hb4540, hb4544, hb4546, hb4548, hb4550, hb4552⟩ := (hI4506 82 (by decide) (by decide) : cp82 (wget w4504 82))
                have hf4553 : fld w4504 82 4 = f82_4525 := fld_of h82_4551
                have hf4554 : fld w4504 82 5 = f82_4527 := fld_of h82_4551
                have hf4555 : fld w4504 82 7 = f82_4531 := fld_of h82_4551
                have hf4556 : fld w4504 82 10 = f82_4537 := fld_of h82_4551
                have hf4557 : fld w4504 82 14 = f82_4539 := fld_of h82_4551
                have hu4558 : mu w4504 = 2 * (fld w4504 82 4 - fld w4504 82 5) + min 1 (fld w4504 82 7) := rfl
                have hf4559 := pk4514.2.2.1
                have hl4560 : f82_4539 ≤ 1000 := by omega
                refine xg_t (xg_aload (va := (2, 82)) rfl rfl) ?_
                refine xg_t (xg_getf (va := (2, 85)) h82_4551 rfl) ?_
                refine xg_t (xg_iload (va := (0, 4)) rfl rfl) ?_
                refine xg_t (xg_dup2 rfl) ?_
                refine xg_ialdB (n := 4) (B := 4294967295) (((((((h85_37.fr hF4256 (by decide)).but hb4302 (by decide)).fr hF4306 (by decide)).fr hF4350 (by decide)).fr hF4361 (by decide)).fr hF4407 (by decide)).fr hF4507 (by decide)) (hb38) xnm0 (by omega) (fun u4561 hu4562 he4563 => ?_)
                have hl4564 : u4561 = u4246 := by omega
                refine xg_t (xg_const) ?_
                refine xg_t (xg_iadd (u := u4561) (v := 1) (z := u4561 + 1) xnm0 xnm0 (by omega)) ?_
                refine xg_iastK (n := 4) (u := u4561 + 1) (((((((h85_37.fr hF4256 (by decide)).but hb4302 (by decide)).fr hF4306 (by decide)).fr hF4350 (by decide)).fr hF4361 (by decide)).fr hF4407 (by decide)).fr hF4507 (by decide)) xnm0 xnm0 rfl (by omega) (fun w4565 hr4566 hb4567 => ?_)
                refine xg_t (xg_aload (va := (2, 82)) rfl rfl) ?_
                refine xg_t (xg_dup rfl) ?_
                refine xg_t (xg_getf (va := (0, f82_4539)) (hb4567.get (by decide) h82_4551) rfl) ?_
                refine xg_t (xg_const) ?_
                refine xg_t (xg_iadd (u := f82_4539) (v := 1) (z := f82_4539 + 1) xnm0 xnm0 (by omega)) ?_
                refine xg_putI (fl1 := [(2, 83), (2, 84), (0, f82_4521), (0, f82_4523), (0, f82_4525), (0, f82_4527), (0, f82_4529), (0, f82_4531), (0, f82_4533), (0, f82_4535), (0, f82_4537), (2, 85), (2, 86), (2, 87), (0, f82_4539 + 1), (2, 88), (2, 89), (2, 90), (2, 91), (2, 92), (2, 93), (2, 94), (4, f82_4541), (4, f82_4542), (0, f82_4543), (2, 95), (2, 96), (2, 97), (2, 98), (2, 99), (2, 100), (2, 101), (2, 102), (0, f82_4545), (2, 103), (2, 104), (2, 105), (2, 106), (2, 107), (2, 108), (2, 109), (0, f82_4547), (0, f82_4549), (2, 110), (2, 111), (2, 112), (2, 113)]) (hb4567.get (by decide) h82_4551) rfl rfl rfl (fun w4568 hk4569 hb4570 => ?_)
                have hF4571 : xFr [82, 85] w4504 w4568 := ((xFr.of (S := [82, 85]) hb4567 (by decide)).tr (xFr.of (S := [82, 85]) hb4570 (by decide)))
                have hA4572 := FA_fr hF4571 (by decide)
                have hf4573 : fld w4568 82 4 = f82_4525 := fld_of hk4569
                have hf4574 : fld w4568 82 5 = f82_4527 := fld_of hk4569
                have hf4575 : fld w4568 82 7 = f82_4531 := fld_of hk4569
                have hf4576 : fld w4568 82 10 = f82_4537 := fld_of hk4569
                have hf4577 : fld w4568 82 14 = f82_4539 + 1 := fld_of hk4569
                have hu4578 : mu w4568 = 2 * (fld w4568 82 4 - fld w4568 82 5) + min 1 (fld w4568 82 7) := rfl
                have pq4579 := pk4514
                unfold PK PS at pq4579
                have hM4580 : ∀ s, s < 7 → s ≠ 4 → rwv w4568 85 s = rwv w 85 s := fun s hs hn => (rwv_of (hr4566.but hb4570 (by decide)) hs).trans ((if_neg hn).trans (rwv_of h85_37 hs).symm)
                have hM4581 : rwv w4568 85 4 = u4246 + 1 := (rwv_of (hr4566.but hb4570 (by decide)) (by decide)).trans ((if_pos rfl).trans (by omega))
                have hM4582 : ∀ s, s < 7 → rwv w4568 85 s ≤ rwv w 85 s + 1 := fun s hs => by
                  by_cases z : s = 4
                  · subst z; omega
                  · rw [hM4580 s hs z]; omega
                have hO4583 : ∀ j, (j < 100 + 2 * u4246 ∨ 102 + 2 * u4246 ≤ j) → j < 140 → rwv w4568 86 j = rwv w 86 j := fun j hj hl => (rwv_fr hF4571 (by decide)).trans (os4515 j hj hl)
                have hN4584 : FA w4568 ≠ 0 ∨ 20 ≤ u4246 ∨ True := Or.inr (Or.inr trivial)
                have hX4585 : FA w4568 ≠ 0 ∨ u4246 < 20 := by omega
                have hD4586 : FA w4568 ≠ 0 ∨ (DATA w → DATA w4568) := by
                  by_cases z : FA w4568 ≠ 0
                  · exact Or.inl z
                  · exact Or.inr (fun hd => hd.s4 hM4580 hK4249 hM4581 (hX4585.resolve_left z) hO4583 ((hN4584.resolve_left z).resolve_left (by have := hX4585.resolve_left z; omega)))
                exact xg_e ⟨w4568, ⟨rfl, rfl⟩, xMnv.up (S := [85, 82]) hI4506 ((xFr.of (S := [85, 82]) hb4567 (by decide)).tr (xFr.of (S := [85, 82]) hb4570 (by decide))) (List.forall_mem_cons.mpr ⟨(show cpI 7 52 4294967295 (wget w4568 85) from ⟨_, (hr4566.but hb4570 (by decide)), xrb (by omega) (hb38)⟩), List.forall_mem_cons.mpr ⟨(show cp82 (wget w4568 82) from ⟨f82_4521, f82_4523, f82_4525, f82_4527, f82_4529, f82_4531, f82_4533, f82_4535, f82_4537, f82_4539 + 1, f82_4541, f82_4542, f82_4543, f82_4545, f82_4547, f82_4549, hk4569, by omega, by omega, by omega, by omega, by omega, by omega, by omega, by omega, by omega, by omega, by omega, by omega, by omega, by omega, by omega⟩), fun _ h => absurd h List.not_mem_nil⟩⟩), ((((((((hF4256.up (by decide)).tr (xFr.of (S := [82, 83, 85, 86, 87]) hb4302 (by decide))).tr (hF4306.up (by decide))).tr (hF4350.up (by decide))).tr (hF4361.up (by decide))).tr (hF4407.up (by decide))).tr (hF4507.up (by decide))).tr ((xFr.of (S := [82, 83, 85, 86, 87]) hb4567 (by decide)).tr (xFr.of (S := [82, 83, 85, 86, 87]) hb4570 (by decide)))), ⟨fun h => by have := pq4579.1 h; omega, (show fld w4568 82 10 = 0 ∨ FA w4568 ≠ 0 by omega), Or.inr ⟨by have := ms4520; omega, by omega, hM4582⟩, hD4586⟩⟩
            · refine xg_t (xg_ifT (u := f82_4388) rfl xnm0 (xj_neT hc4417)) ?_
              refine xg_t (xg_blk (b := [(416, 1, 0, 0, 0, 0), (417, 3, 13, 140, 96, 183)]) rfl) ?_
              refine xg_t (xg_aload (va := (2, 82)) rfl rfl) ?_
              refine xg_cVv mX12_ends (vs := []) (rest := []) (cn1 := 0) (sl1 := 0) rfl (mEnds (hI4406) pk4411.2.2.2) rfl (hF4407.get (by decide) h82_4402) rfl rfl rfl rfl rfl rfl (fun w4587 hq4588 => ?_)
              obtain ⟨hI4589, hF4590, hx4591⟩ := hq4588
              obtain ⟨hv4592, hv4593, hv4594, hv4595⟩ := hx4591
              have pk4596 : PK w4404 w4587 := ⟨fun _ => hv4592, by omega, by omega, Or.inr hv4592⟩
              have pk4597 : PK w w4587 := PK.tr pk4411 pk4596
              have os4598 : ∀ j, (j < 100 + 2 * u4246 ∨ 102 + 2 * u4246 ≤ j) → j < 140 → rwv w4587 86 j = rwv w 86 j := fun j hj hl => (rwv_fr hF4590 (by decide)).trans (os4412 j hj hl)
              have ix4599 : u4246 < 20 → rwv w4587 86 ((100 + (2 * u4246)) + 0) = n4307 := fun h => (rwv_fr hF4590 (by decide)).trans (ix4413 h)
              have ix4600 : u4246 < 20 → rwv w4587 86 ((100 + (2 * u4246)) + 1) = n4362 := fun h => (rwv_fr hF4590 (by decide)).trans (hp4409 h)
              have rg4601 : FA w4587 ≠ 0 ∨ (0 ≤ n4307 ∧ n4307 ≤ 9) := rg4414.imp_left pk4596.1
              have rg4602 : FA w4587 ≠ 0 ∨ (0 ≤ n4362 ∧ n4362 ≤ 9) := rg4415.imp_left pk4596.1
              have ms4603 : mu w4587 < mu w := Nat.lt_of_le_of_lt pk4596.2.1 ms4416
              refine xg_t (xg_blk (b := [(420, 1, 0, 0, 0, 0), (421, 3, 1, 12, 11, 17), (424, 1, 2, 1, 0, 0), (425, 1, 39, 0, 0, 0), (426, 1, 10, 0, 0, 0), (427, 1, 3, 1, 0, 0), (428, 1, 11, 0, 0, 0), (429, 1, 17, 0, 0, 0), (430, 1, 0, 0, 0, 0), (431, 1, 19, 0, 0, 0), (432, 3, 1, 12, 14, 212), (435, 1, 3, 1, 0, 0), (436, 1, 11, 0, 0, 0), (437, 3, 14, 12, 14, 212), (440, 1, 12, 0, 0, 0)]) rfl) ?_
              obtain ⟨f82_4604, f82_4606, f82_4608, f82_4610, f82_4612, f82_4614, f82_4616, f82_4618, f82_4620, f82_4622, f82_4624, f82_4625, f82_4626, f82_4628, f82_4630, f82_4632, h82_4634, hb4605, hb4607, hb4609, hb4611, hb4613, hb4615, hb4617, hb4619, hb4621, hb4623, hb4627, hb4629, hb4631, hb4633, hb4635⟩ := (hI4589 82 (by decide) (by decide) : cp82 (wget w4587 82))
              have hf4636 : fld w4587 82 4 = f82_4608 := fld_of h82_4634
              have hf4637 : fld w4587 82 5 = f82_4610 := fld_of h82_4634
              have hf4638 : fld w4587 82 7 = f82_4614 := fld_of h82_4634
              have hf4639 : fld w4587 82 10 = f82_4620 := fld_of h82_4634
              have hf4640 : fld w4587 82 14 = f82_4622 := fld_of h82_4634
              have hu4641 : mu w4587 = 2 * (fld w4587 82 4 - fld w4587 82 5) + min 1 (fld w4587 82 7) := rfl
              have hf4642 := pk4597.2.2.1
              have hl4643 : f82_4622 ≤ 1000 := by omega
              refine xg_t (xg_aload (va := (2, 82)) rfl rfl) ?_
              refine xg_t (xg_getf (va := (2, 85)) h82_4634 rfl) ?_
              refine xg_t (xg_iload (va := (0, 4)) rfl rfl) ?_
              refine xg_t (xg_dup2 rfl) ?_
              refine xg_ialdB (n := 4) (B := 4294967295) (((((((h85_37.fr hF4256 (by decide)).but hb4302 (by decide)).fr hF4306 (by decide)).fr hF4350 (by decide)).fr hF4361 (by decide)).fr hF4407 (by decide)).fr hF4590 (by decide)) (hb38) xnm0 (by omega) (fun u4644 hu4645 he4646 => ?_)
              have hl4647 : u4644 = u4246 := by omega
              refine xg_t (xg_const) ?_
              refine xg_t (xg_iadd (u := u4644) (v := 1) (z := u4644 + 1) xnm0 xnm0 (by omega)) ?_
              refine xg_iastK (n := 4) (u := u4644 + 1) (((((((h85_37.fr hF4256 (by decide)).but hb4302 (by decide)).fr hF4306 (by decide)).fr hF4350 (by decide)).fr hF4361 (by decide)).fr hF4407 (by decide)).fr hF4590 (by decide)) xnm0 xnm0 rfl (by omega) (fun w4648 hr4649 hb4650 => ?_)
              refine xg_t (xg_aload (va := (2, 82)) rfl rfl) ?_
              refine xg_t (xg_dup rfl) ?_
              refine xg_t (xg_getf (va := (0, f82_4622)) (hb4650.get (by decide) h82_4634) rfl) ?_
              refine xg_t (xg_const) ?_
              refine xg_t (xg_iadd (u := f82_4622) (v := 1) (z := f82_4622 + 1) xnm0 xnm0 (by omega)) ?_
              refine xg_putI (fl1 := [(2, 83), (2, 84), (0, f82_4604), (0, f82_4606), (0, f82_4608), (0, f82_4610), (0, f82_4612), (0, f82_4614), (0, f82_4616), (0, f82_4618), (0, f82_4620), (2, 85), (2, 86), (2, 87), (0, f82_4622 + 1), (2, 88), (2, 89), (2, 90), (2, 91), (2, 92), (2, 93), (2, 94), (4, f82_4624), (4, f82_4625), (0, f82_4626), (2, 95), (2, 96), (2, 97), (2, 98), (2, 99), (2, 100), (2, 101), (2, 102), (0, f82_4628), (2, 103), (2, 104), (2, 105), (2, 106), (2, 107), (2, 108), (2, 109), (0, f82_4630), (0, f82_4632), (2, 110), (2, 111), (2, 112), (2, 113)]) (hb4650.get (by decide) h82_4634) rfl rfl rfl (fun w4651 hk4652 hb4653 => ?_)
              have hF4654 : xFr [82, 85] w4587 w4651 := ((xFr.of (S := [82, 85]) hb4650 (by decide)).tr (xFr.of (S := [82, 85]) hb4653 (by decide)))
              have hA4655 := FA_fr hF4654 (by decide)
              have hf4656 : fld w4651 82 4 = f82_4608 := fld_of hk4652
              have hf4657 : fld w4651 82 5 = f82_4610 := fld_of hk4652
              have hf4658 : fld w4651 82 7 = f82_4614 := fld_of hk4652
              have hf4659 : fld w4651 82 10 = f82_4620 := fld_of hk4652
              have hf4660 : fld w4651 82 14 = f82_4622 + 1 := fld_of hk4652
              have hu4661 : mu w4651 = 2 * (fld w4651 82 4 - fld w4651 82 5) + min 1 (fld w4651 82 7) := rfl
              have pq4662 := pk4597
              unfold PK PS at pq4662
              have hM4663 : ∀ s, s < 7 → s ≠ 4 → rwv w4651 85 s = rwv w 85 s := fun s hs hn => (rwv_of (hr4649.but hb4653 (by decide)) hs).trans ((if_neg hn).trans (rwv_of h85_37 hs).symm)
              have hM4664 : rwv w4651 85 4 = u4246 + 1 := (rwv_of (hr4649.but hb4653 (by decide)) (by decide)).trans ((if_pos rfl).trans (by omega))
              have hM4665 : ∀ s, s < 7 → rwv w4651 85 s ≤ rwv w 85 s + 1 := fun s hs => by
                by_cases z : s = 4
                · subst z; omega
                · rw [hM4663 s hs z]; omega
              have hO4666 : ∀ j, (j < 100 + 2 * u4246 ∨ 102 + 2 * u4246 ≤ j) → j < 140 → rwv w4651 86 j = rwv w 86 j := fun j hj hl => (rwv_fr hF4654 (by decide)).trans (os4598 j hj hl)
              have hN4667 : FA w4651 ≠ 0 ∨ 20 ≤ u4246 ∨ True := Or.inr (Or.inr trivial)
              have hX4668 : FA w4651 ≠ 0 ∨ u4246 < 20 := by omega
              have hD4669 : FA w4651 ≠ 0 ∨ (DATA w → DATA w4651) := by
                by_cases z : FA w4651 ≠ 0
                · exact Or.inl z
                · exact Or.inr (fun hd => hd.s4 hM4663 hK4249 hM4664 (hX4668.resolve_left z) hO4666 ((hN4667.resolve_left z).resolve_left (by have := hX4668.resolve_left z; omega)))
              exact xg_e ⟨w4651, ⟨rfl, rfl⟩, xMnv.up (S := [85, 82]) hI4589 ((xFr.of (S := [85, 82]) hb4650 (by decide)).tr (xFr.of (S := [85, 82]) hb4653 (by decide))) (List.forall_mem_cons.mpr ⟨(show cpI 7 52 4294967295 (wget w4651 85) from ⟨_, (hr4649.but hb4653 (by decide)), xrb (by omega) (hb38)⟩), List.forall_mem_cons.mpr ⟨(show cp82 (wget w4651 82) from ⟨f82_4604, f82_4606, f82_4608, f82_4610, f82_4612, f82_4614, f82_4616, f82_4618, f82_4620, f82_4622 + 1, f82_4624, f82_4625, f82_4626, f82_4628, f82_4630, f82_4632, hk4652, by omega, by omega, by omega, by omega, by omega, by omega, by omega, by omega, by omega, by omega, by omega, by omega, by omega, by omega, by omega⟩), fun _ h => absurd h List.not_mem_nil⟩⟩), ((((((((hF4256.up (by decide)).tr (xFr.of (S := [82, 83, 85, 86, 87]) hb4302 (by decide))).tr (hF4306.up (by decide))).tr (hF4350.up (by decide))).tr (hF4361.up (by decide))).tr (hF4407.up (by decide))).tr (hF4590.up (by decide))).tr ((xFr.of (S := [82, 83, 85, 86, 87]) hb4650 (by decide)).tr (xFr.of (S := [82, 83, 85, 86, 87]) hb4653 (by decide)))), ⟨fun h => by have := pq4662.1 h; omega, (show fld w4651 82 10 = 0 ∨ FA w4651 ≠ 0 by omega), Or.inr ⟨by have := ms4603; omega, by omega, hM4665⟩, hD4669⟩⟩
          · refine xg_t (xg_icF (u := u4246) (v := 20) rfl xnm0 xnm0 (xj_ltF (by omega) (by omega))) ?_
            refine xg_t (xg_aload (va := (2, 82)) rfl rfl) ?_
            refine xg_t (xg_const) ?_
            refine xg_t (xg_iload (va := (0, f82_9)) rfl rfl) ?_
            refine xg_cVv mX12_also (vs := [(0, 3), (0, f82_9)]) (rest := []) (cn1 := 0) (sl1 := 0) rfl (mAlso (hI) (by omega) (by omega) (by omega) (PK.rf hps).2.2.2) rfl h82_31 rfl rfl rfl rfl rfl rfl (fun w4670 hq4671 => ?_)
            obtain ⟨hI4672, hF4673, hx4674⟩ := hq4671
            have pk4675 : PK w w4670 := ⟨fun _ => hx4674, Nat.le_of_eq (mu_fr hF4673 (by decide)), fld_fr hF4673 (by decide), Or.inr hx4674⟩
            have pk4676 : PK w w4670 := PK.tr (PK.rf hps) pk4675
            have os4677 : ∀ j, (j < 100 + 2 * u4246 ∨ 102 + 2 * u4246 ≤ j) → j < 140 → rwv w4670 86 j = rwv w 86 j := fun j hj hl => (rwv_fr hF4673 (by decide)).trans ((fun j _ _ => rfl) j hj hl)
            have hf4678 := fld_fr (c := 82) (j := 7) hF4673 (by decide)
            refine xg_t (xg_blk (b := [(64, 1, 0, 0, 0, 0), (65, 3, 13, 110, 96, 190), (68, 1, 2, 1, 0, 0), (69, 39, 33, 362, 0, 9)]) rfl) ?_
            refine xg_t (xg_aload (va := (2, 82)) rfl rfl) ?_
            refine xg_cVv mX12_advance (vs := []) (rest := []) (cn1 := 0) (sl1 := 0) rfl (mAdvance (hI4672)) rfl (hF4673.get (by decide) h82_31) rfl rfl rfl rfl rfl rfl (fun w4679 hq4680 => ?_)
            obtain ⟨hI4681, hF4682, hx4683⟩ := hq4680
            obtain ⟨hv4684, hv4685, hv4686, hv4687⟩ := hx4683
            have hf4689 := FA_fr hF4682 (by decide)
            have hs4690 := pk4676.2.2.2
            unfold PS at hs4690
            have pk4688 : PK w4670 w4679 := ⟨fun _ => by omega, hv4684, hv4687, (show fld w4679 82 10 = 0 ∨ FA w4679 ≠ 0 by omega)⟩
            have pk4691 : PK w w4679 := PK.tr pk4676 pk4688
            have os4692 : ∀ j, (j < 100 + 2 * u4246 ∨ 102 + 2 * u4246 ≤ j) → j < 140 → rwv w4679 86 j = rwv w 86 j := fun j hj hl => (rwv_fr hF4682 (by decide)).trans (os4677 j hj hl)
            have rg4693 : FA w4679 ≠ 0 ∨ False := (Or.inl hx4674 : FA w4670 ≠ 0 ∨ False).imp_left pk4688.1
            have ms4694 : mu w4679 < mu w := Nat.lt_of_lt_of_le (hv4685 (by omega)) pk4676.2.1
            refine xg_t (xg_iload (va := (0, 4)) rfl rfl) ?_
            refine xg_t (xg_swt (ks := [(0, 108), (1, 116), (2, 180), (3, 221), (4, 273), (5, 326)]) (u := 4) (z := 273) rfl rfl rfl xnm0 (xsw_n (by omega) (xsw_n (by omega) (xsw_n (by omega) (xsw_n (by omega) (xsw_y rfl)))))) ?_
            refine xg_t (xg_blk (b := [(273, 1, 2, 3, 0, 0), (274, 2, 4, 20, 0, 0), (276, 3, 6, 286, 3, 0), (279, 1, 0, 0, 0, 0), (280, 3, 1, 12, 13, 23), (283, 1, 2, 3, 0, 0), (284, 1, 2, 2, 0, 0), (285, 1, 17, 0, 0, 0)]) rfl) ?_
            refine xg_t (xg_iload (va := (0, u4246)) rfl rfl) ?_
            refine xg_t (xg_bip) ?_
            refine xg_t (xg_icT (u := u4246) (v := 20) rfl xnm0 xnm0 (xj_geT (by omega) (by omega))) ?_
            refine xg_t (xg_blk (b := [(286, 1, 3, 0, 0, 0), (287, 2, 15, 4, 0, 0)]) rfl) ?_
            refine xg_t (xg_const) ?_
            refine xg_t (xg_istore (l1 := [(3, (0, u4246)), (2, (0, f82_9)), (1, (0, 4)), (0, (2, 82))]) rfl rfl rfl) ?_
            refine xg_t (xg_blk (b := [(289, 2, 2, 4, 0, 0), (291, 1, 3, 2, 0, 0), (292, 3, 6, 323, 3, 0), (295, 1, 0, 0, 0, 0), (296, 1, 2, 1, 0, 0), (297, 1, 2, 3, 0, 0), (298, 2, 4, 100, 0, 0), (300, 1, 3, 2, 0, 0), (301, 1, 2, 3, 0, 0), (302, 1, 16, 0, 0, 0), (303, 1, 11, 0, 0, 0), (304, 2, 2, 4, 0, 0), (306, 1, 11, 0, 0, 0), (307, 1, 0, 0, 0, 0), (308, 1, 3, 0, 0, 0), (309, 2, 4, 9, 0, 0), (311, 3, 13, 199, 96, 196), (314, 3, 13, 211, 96, 200), (317, 3, 9, 4, 1, 0), (320, 3, 8, 289, 0, 0)]) rfl) ?_
            refine xg_t (xg_iload (va := (0, 0)) rfl rfl) ?_
            refine xg_t (xg_const) ?_
            refine xg_t (xg_icF (u := 0) (v := 2) rfl xnm0 xnm0 (by decide)) ?_
            refine xg_t (xg_aload (va := (2, 82)) rfl rfl) ?_
            refine xg_t (xg_iload (va := (0, 4)) rfl rfl) ?_
            refine xg_t (xg_iload (va := (0, u4246)) rfl rfl) ?_
            refine xg_t (xg_bip) ?_
            refine xg_t (xg_const) ?_
            refine xg_t (xg_iload (va := (0, u4246)) rfl rfl) ?_
            refine xg_t (xg_imul (u := 2) (v := u4246) (z := 2 * u4246) xnm0 xnm0 (by omega)) ?_
            refine xg_t (xg_iadd (u := 100) (v := 2 * u4246) (z := 100 + (2 * u4246)) xnm0 xnm0 (by omega)) ?_
            refine xg_t (xg_iload (va := (0, 0)) rfl rfl) ?_
            refine xg_t (xg_iadd (u := 100 + (2 * u4246)) (v := 0) (z := (100 + (2 * u4246)) + 0) xnm0 xnm0 (by omega)) ?_
            refine xg_t (xg_aload (va := (2, 82)) rfl rfl) ?_
            refine xg_t (xg_const) ?_
            refine xg_t (xg_bip) ?_
            obtain ⟨f82_4695, f82_4697, f82_4699, f82_4701, f82_4703, f82_4705, f82_4707, f82_4709, f82_4711, f82_4713, f82_4715, f82_4716, f82_4717, f82_4719, f82_4721, f82_4723, h82_4725, hb4696, hb4698, hb4700, hb4702, hb4704, hb4706, hb4708, hb4710, hb4712, hb4714, hb4718, hb4720, hb4722, hb4724, hb4726⟩ := (hI4681 82 (by decide) (by decide) : cp82 (wget w4679 82))
            refine xg_cVi mX12_numbered (vs := [(0, 0), (0, 9)]) (rest := [(0, (100 + (2 * u4246)) + 0), (0, u4246), (0, 4), (2, 82)]) (cn1 := 0) (sl1 := 0) rfl (mNumbered (hI4681) (by omega) (by omega) pk4691.2.2.2) rfl h82_4725 rfl rfl rfl rfl rfl rfl (fun n4731 w4727 hq4728 => ?_)
            obtain ⟨hn4732, hI4729, hF4730⟩ := hq4728
            obtain ⟨hn4733, hn4734, hn4735⟩ := hn4732
            have pk4736 : PK w w4727 := PK.tr pk4691 hn4734
            have os4737 : ∀ j, (j < 100 + 2 * u4246 ∨ 102 + 2 * u4246 ≤ j) → j < 140 → rwv w4727 86 j = rwv w 86 j := fun j hj hl => (rwv_fr hF4730 (by decide)).trans (os4692 j hj hl)
            have rg4738 : FA w4727 ≠ 0 ∨ False := rg4693.imp_left hn4734.1
            have ms4739 : mu w4727 < mu w := Nat.lt_of_le_of_lt hn4734.2.1 ms4694
            obtain ⟨f82_4740, f82_4742, f82_4744, f82_4746, f82_4748, f82_4750, f82_4752, f82_4754, f82_4756, f82_4758, f82_4760, f82_4761, f82_4762, f82_4764, f82_4766, f82_4768, h82_4770, hb4741, hb4743, hb4745, hb4747, hb4749, hb4751, hb4753, hb4755, hb4757, hb4759, hb4763, hb4765, hb4767, hb4769, hb4771⟩ := (hI4729 82 (by decide) (by decide) : cp82 (wget w4727 82))
            refine xg_cVv mX12_puts (vs := [(0, 4), (0, u4246), (0, (100 + (2 * u4246)) + 0), (0, n4731)]) (rest := []) (cn1 := 0) (sl1 := 0) rfl (mPuts4 (hI4729) (by omega) (by omega) (by omega) (fun _ => by omega)) rfl h82_4770 rfl rfl rfl rfl rfl rfl (fun w4772 hq4773 => ?_)
            obtain ⟨hI4774, hF4775, hx4776⟩ := hq4773
            obtain ⟨hp4777, hp4778⟩ := hx4776
            have pk4779 : PK w w4772 := PK.tr pk4736 (PK.fr hF4775 (by decide) (by decide) pk4736.2.2.2)
            have os4780 : ∀ j, (j < 100 + 2 * u4246 ∨ 102 + 2 * u4246 ≤ j) → j < 140 → rwv w4772 86 j = rwv w 86 j := fun j hj hl => (hp4778 j (by omega) hl).trans (os4737 j hj hl)
            have rg4781 : FA w4772 ≠ 0 ∨ False := rg4738.imp_left (PK.fr hF4775 (by decide) (by decide) pk4736.2.2.2).1
            have rg4782 : FA w4772 ≠ 0 ∨ (0 ≤ n4731 ∧ n4731 ≤ 9) := hn4735.imp_left (PK.fr hF4775 (by decide) (by decide) pk4736.2.2.2).1
            have ms4783 : mu w4772 < mu w := Nat.lt_of_le_of_lt (PK.fr hF4775 (by decide) (by decide) pk4736.2.2.2).2.1 ms4739
            refine xg_t (xg_iinc (u := 0) (z := 1) (l1 := [(3, (0, u4246)), (2, (0, f82_9)), (1, (0, 4)), (0, (2, 82))]) rfl rfl (by decide) rfl) ?_
            refine xg_t (xg_goto) ?_
            refine xg_t (xg_blk (b := [(289, 2, 2, 4, 0, 0), (291, 1, 3, 2, 0, 0), (292, 3, 6, 323, 3, 0), (295, 1, 0, 0, 0, 0), (296, 1, 2, 1, 0, 0), (297, 1, 2, 3, 0, 0), (298, 2, 4, 100, 0, 0), (300, 1, 3, 2, 0, 0), (301, 1, 2, 3, 0, 0), (302, 1, 16, 0, 0, 0), (303, 1, 11, 0, 0, 0), (304, 2, 2, 4, 0, 0), (306, 1, 11, 0, 0, 0), (307, 1, 0, 0, 0, 0), (308, 1, 3, 0, 0, 0), (309, 2, 4, 9, 0, 0), (311, 3, 13, 199, 96, 196), (314, 3, 13, 211, 96, 200), (317, 3, 9, 4, 1, 0), (320, 3, 8, 289, 0, 0)]) rfl) ?_
            refine xg_t (xg_iload (va := (0, 1)) rfl rfl) ?_
            refine xg_t (xg_const) ?_
            refine xg_t (xg_icF (u := 1) (v := 2) rfl xnm0 xnm0 (by decide)) ?_
            refine xg_t (xg_aload (va := (2, 82)) rfl rfl) ?_
            refine xg_t (xg_iload (va := (0, 4)) rfl rfl) ?_
            refine xg_t (xg_iload (va := (0, u4246)) rfl rfl) ?_
            refine xg_t (xg_bip) ?_
            refine xg_t (xg_const) ?_
            refine xg_t (xg_iload (va := (0, u4246)) rfl rfl) ?_
            refine xg_t (xg_imul (u := 2) (v := u4246) (z := 2 * u4246) xnm0 xnm0 (by omega)) ?_
            refine xg_t (xg_iadd (u := 100) (v := 2 * u4246) (z := 100 + (2 * u4246)) xnm0 xnm0 (by omega)) ?_
            refine xg_t (xg_iload (va := (0, 1)) rfl rfl) ?_
            refine xg_t (xg_iadd (u := 100 + (2 * u4246)) (v := 1) (z := (100 + (2 * u4246)) + 1) xnm0 xnm0 (by omega)) ?_
            refine xg_t (xg_aload (va := (2, 82)) rfl rfl) ?_
            refine xg_t (xg_const) ?_
            refine xg_t (xg_bip) ?_
            refine xg_cVi mX12_numbered (vs := [(0, 0), (0, 9)]) (rest := [(0, (100 + (2 * u4246)) + 1), (0, u4246), (0, 4), (2, 82)]) (cn1 := 0) (sl1 := 0) rfl (mNumbered (hI4774) (by omega) (by omega) pk4779.2.2.2) rfl (hF4775.get (by decide) h82_4770) rfl rfl rfl rfl rfl rfl (fun n4788 w4784 hq4785 => ?_)
            obtain ⟨hn4789, hI4786, hF4787⟩ := hq4785
            obtain ⟨hn4790, hn4791, hn4792⟩ := hn4789
            have pk4793 : PK w w4784 := PK.tr pk4779 hn4791
            have os4794 : ∀ j, (j < 100 + 2 * u4246 ∨ 102 + 2 * u4246 ≤ j) → j < 140 → rwv w4784 86 j = rwv w 86 j := fun j hj hl => (rwv_fr hF4787 (by decide)).trans (os4780 j hj hl)
            have ix4795 : u4246 < 20 → rwv w4784 86 ((100 + (2 * u4246)) + 0) = n4731 := fun h => (rwv_fr hF4787 (by decide)).trans (hp4777 h)
            have rg4796 : FA w4784 ≠ 0 ∨ False := rg4781.imp_left hn4791.1
            have rg4797 : FA w4784 ≠ 0 ∨ (0 ≤ n4731 ∧ n4731 ≤ 9) := rg4782.imp_left hn4791.1
            have ms4798 : mu w4784 < mu w := Nat.lt_of_le_of_lt hn4791.2.1 ms4783
            obtain ⟨f82_4799, f82_4801, f82_4803, f82_4805, f82_4807, f82_4809, f82_4811, f82_4813, f82_4815, f82_4817, f82_4819, f82_4820, f82_4821, f82_4823, f82_4825, f82_4827, h82_4829, hb4800, hb4802, hb4804, hb4806, hb4808, hb4810, hb4812, hb4814, hb4816, hb4818, hb4822, hb4824, hb4826, hb4828, hb4830⟩ := (hI4786 82 (by decide) (by decide) : cp82 (wget w4784 82))
            refine xg_cVv mX12_puts (vs := [(0, 4), (0, u4246), (0, (100 + (2 * u4246)) + 1), (0, n4788)]) (rest := []) (cn1 := 0) (sl1 := 0) rfl (mPuts4 (hI4786) (by omega) (by omega) (by omega) (fun _ => by omega)) rfl h82_4829 rfl rfl rfl rfl rfl rfl (fun w4831 hq4832 => ?_)
            obtain ⟨hI4833, hF4834, hx4835⟩ := hq4832
            obtain ⟨hp4836, hp4837⟩ := hx4835
            have pk4838 : PK w w4831 := PK.tr pk4793 (PK.fr hF4834 (by decide) (by decide) pk4793.2.2.2)
            have os4839 : ∀ j, (j < 100 + 2 * u4246 ∨ 102 + 2 * u4246 ≤ j) → j < 140 → rwv w4831 86 j = rwv w 86 j := fun j hj hl => (hp4837 j (by omega) hl).trans (os4794 j hj hl)
            have ix4840 : u4246 < 20 → rwv w4831 86 ((100 + (2 * u4246)) + 0) = n4731 := fun h => (hp4837 _ (by omega) (by omega)).trans (ix4795 h)
            have rg4841 : FA w4831 ≠ 0 ∨ False := rg4796.imp_left (PK.fr hF4834 (by decide) (by decide) pk4793.2.2.2).1
            have rg4842 : FA w4831 ≠ 0 ∨ (0 ≤ n4731 ∧ n4731 ≤ 9) := rg4797.imp_left (PK.fr hF4834 (by decide) (by decide) pk4793.2.2.2).1
            have rg4843 : FA w4831 ≠ 0 ∨ (0 ≤ n4788 ∧ n4788 ≤ 9) := hn4792.imp_left (PK.fr hF4834 (by decide) (by decide) pk4793.2.2.2).1
            have ms4844 : mu w4831 < mu w := Nat.lt_of_le_of_lt (PK.fr hF4834 (by decide) (by decide) pk4793.2.2.2).2.1 ms4798
            refine xg_t (xg_iinc (u := 1) (z := 2) (l1 := [(3, (0, u4246)), (2, (0, f82_9)), (1, (0, 4)), (0, (2, 82))]) rfl rfl (by decide) rfl) ?_
            refine xg_t (xg_goto) ?_
            refine xg_t (xg_blk (b := [(289, 2, 2, 4, 0, 0), (291, 1, 3, 2, 0, 0), (292, 3, 6, 323, 3, 0), (295, 1, 0, 0, 0, 0), (296, 1, 2, 1, 0, 0), (297, 1, 2, 3, 0, 0), (298, 2, 4, 100, 0, 0), (300, 1, 3, 2, 0, 0), (301, 1, 2, 3, 0, 0), (302, 1, 16, 0, 0, 0), (303, 1, 11, 0, 0, 0), (304, 2, 2, 4, 0, 0), (306, 1, 11, 0, 0, 0), (307, 1, 0, 0, 0, 0), (308, 1, 3, 0, 0, 0), (309, 2, 4, 9, 0, 0), (311, 3, 13, 199, 96, 196), (314, 3, 13, 211, 96, 200), (317, 3, 9, 4, 1, 0), (320, 3, 8, 289, 0, 0)]) rfl) ?_
            refine xg_t (xg_iload (va := (0, 2)) rfl rfl) ?_
            refine xg_t (xg_const) ?_
            refine xg_t (xg_icT (u := 2) (v := 2) rfl xnm0 xnm0 (by decide)) ?_
            refine xg_t (xg_blk (b := [(323, 3, 8, 394, 0, 0)]) rfl) ?_
            refine xg_t (xg_goto) ?_
            refine xg_t (xg_blk (b := [(394, 1, 0, 0, 0, 0), (395, 3, 1, 12, 10, 180), (398, 3, 7, 416, 1, 0), (401, 1, 0, 0, 0, 0), (402, 3, 1, 12, 7, 151), (405, 1, 3, 2, 0, 0), (406, 3, 6, 416, 1, 0), (409, 1, 0, 0, 0, 0), (410, 3, 13, 110, 96, 190), (413, 3, 8, 420, 0, 0)]) rfl) ?_
            refine xg_t (xg_aload (va := (2, 82)) rfl rfl) ?_
            refine xg_t (xg_getf (va := (0, f82_4815)) (hF4834.get (by decide) h82_4829) rfl) ?_
            by_cases hc4845 : f82_4815 = 0
            · refine xg_t (xg_ifF (u := f82_4815) rfl xnm0 (xj_neF hc4845)) ?_
              refine xg_t (xg_aload (va := (2, 82)) rfl rfl) ?_
              refine xg_t (xg_getf (va := (0, f82_4809)) (hF4834.get (by decide) h82_4829) rfl) ?_
              refine xg_t (xg_const) ?_
              by_cases hc4846 : f82_4809 = 2
              · refine xg_t (xg_icF (u := f82_4809) (v := 2) rfl xnm0 xnm0 (xj_neF hc4846)) ?_
                refine xg_t (xg_aload (va := (2, 82)) rfl rfl) ?_
                refine xg_cVv mX12_advance (vs := []) (rest := []) (cn1 := 0) (sl1 := 0) rfl (mAdvance (hI4833)) rfl (hF4834.get (by decide) h82_4829) rfl rfl rfl rfl rfl rfl (fun w4847 hq4848 => ?_)
                obtain ⟨hI4849, hF4850, hx4851⟩ := hq4848
                obtain ⟨hv4852, hv4853, hv4854, hv4855⟩ := hx4851
                have hf4857 := FA_fr hF4850 (by decide)
                have hs4858 := pk4838.2.2.2
                unfold PS at hs4858
                have pk4856 : PK w4831 w4847 := ⟨fun _ => by omega, hv4852, hv4855, (show fld w4847 82 10 = 0 ∨ FA w4847 ≠ 0 by omega)⟩
                have pk4859 : PK w w4847 := PK.tr pk4838 pk4856
                have os4860 : ∀ j, (j < 100 + 2 * u4246 ∨ 102 + 2 * u4246 ≤ j) → j < 140 → rwv w4847 86 j = rwv w 86 j := fun j hj hl => (rwv_fr hF4850 (by decide)).trans (os4839 j hj hl)
                have ix4861 : u4246 < 20 → rwv w4847 86 ((100 + (2 * u4246)) + 0) = n4731 := fun h => (rwv_fr hF4850 (by decide)).trans (ix4840 h)
                have ix4862 : u4246 < 20 → rwv w4847 86 ((100 + (2 * u4246)) + 1) = n4788 := fun h => (rwv_fr hF4850 (by decide)).trans (hp4836 h)
                have rg4863 : FA w4847 ≠ 0 ∨ False := rg4841.imp_left pk4856.1
                have rg4864 : FA w4847 ≠ 0 ∨ (0 ≤ n4731 ∧ n4731 ≤ 9) := rg4842.imp_left pk4856.1
                have rg4865 : FA w4847 ≠ 0 ∨ (0 ≤ n4788 ∧ n4788 ≤ 9) := rg4843.imp_left pk4856.1
                have ms4866 : mu w4847 < mu w := Nat.lt_of_le_of_lt pk4856.2.1 ms4844
                refine xg_t (xg_goto) ?_
                refine xg_t (xg_blk (b := [(420, 1, 0, 0, 0, 0), (421, 3, 1, 12, 11, 17), (424, 1, 2, 1, 0, 0), (425, 1, 39, 0, 0, 0), (426, 1, 10, 0, 0, 0), (427, 1, 3, 1, 0, 0), (428, 1, 11, 0, 0, 0), (429, 1, 17, 0, 0, 0), (430, 1, 0, 0, 0, 0), (431, 1, 19, 0, 0, 0), (432, 3, 1, 12, 14, 212), (435, 1, 3, 1, 0, 0), (436, 1, 11, 0, 0, 0), (437, 3, 14, 12, 14, 212), (440, 1, 12, 0, 0, 0)]) rfl) ?_
                obtain ⟨f82_4867, f82_4869, f82_4871, f82_4873, f82_4875, f82_4877, f82_4879, f82_4881, f82_4883, f82_4885, f82_4887, f82_4888, f82_4889, f82_4891, f82_4893, f82_4895, h82_4897, hb4868, hb4870, hb4872, hb4874, hb4876, hb4878, hb4880, hb4882, hb4884, hb4886, hb4890, hb4892, hb4894, hb4896, hb4898⟩ := (hI4849 82 (by decide) (by decide) : cp82 (wget w4847 82))
                have hf4899 : fld w4847 82 4 = f82_4871 := fld_of h82_4897
                have hf4900 : fld w4847 82 5 = f82_4873 := fld_of h82_4897
                have hf4901 : fld w4847 82 7 = f82_4877 := fld_of h82_4897
                have hf4902 : fld w4847 82 10 = f82_4883 := fld_of h82_4897
                have hf4903 : fld w4847 82 14 = f82_4885 := fld_of h82_4897
                have hu4904 : mu w4847 = 2 * (fld w4847 82 4 - fld w4847 82 5) + min 1 (fld w4847 82 7) := rfl
                have hf4905 := pk4859.2.2.1
                have hl4906 : f82_4885 ≤ 1000 := by omega
                refine xg_t (xg_aload (va := (2, 82)) rfl rfl) ?_
                refine xg_t (xg_getf (va := (2, 85)) h82_4897 rfl) ?_
                refine xg_t (xg_iload (va := (0, 4)) rfl rfl) ?_
                refine xg_t (xg_dup2 rfl) ?_
                refine xg_ialdB (n := 4) (B := 4294967295) (((((((h85_37.fr hF4673 (by decide)).fr hF4682 (by decide)).fr hF4730 (by decide)).fr hF4775 (by decide)).fr hF4787 (by decide)).fr hF4834 (by decide)).fr hF4850 (by decide)) (hb38) xnm0 (by omega) (fun u4907 hu4908 he4909 => ?_)
                have hl4910 : u4907 = u4246 := by omega
                refine xg_t (xg_const) ?_
                refine xg_t (xg_iadd (u := u4907) (v := 1) (z := u4907 + 1) xnm0 xnm0 (by omega)) ?_
                refine xg_iastK (n := 4) (u := u4907 + 1) (((((((h85_37.fr hF4673 (by decide)).fr hF4682 (by decide)).fr hF4730 (by decide)).fr hF4775 (by decide)).fr hF4787 (by decide)).fr hF4834 (by decide)).fr hF4850 (by decide)) xnm0 xnm0 rfl (by omega) (fun w4911 hr4912 hb4913 => ?_)
                refine xg_t (xg_aload (va := (2, 82)) rfl rfl) ?_
                refine xg_t (xg_dup rfl) ?_
                refine xg_t (xg_getf (va := (0, f82_4885)) (hb4913.get (by decide) h82_4897) rfl) ?_
                refine xg_t (xg_const) ?_
                refine xg_t (xg_iadd (u := f82_4885) (v := 1) (z := f82_4885 + 1) xnm0 xnm0 (by omega)) ?_
                refine xg_putI (fl1 := [(2, 83), (2, 84), (0, f82_4867), (0, f82_4869), (0, f82_4871), (0, f82_4873), (0, f82_4875), (0, f82_4877), (0, f82_4879), (0, f82_4881), (0, f82_4883), (2, 85), (2, 86), (2, 87), (0, f82_4885 + 1), (2, 88), (2, 89), (2, 90), (2, 91), (2, 92), (2, 93), (2, 94), (4, f82_4887), (4, f82_4888), (0, f82_4889), (2, 95), (2, 96), (2, 97), (2, 98), (2, 99), (2, 100), (2, 101), (2, 102), (0, f82_4891), (2, 103), (2, 104), (2, 105), (2, 106), (2, 107), (2, 108), (2, 109), (0, f82_4893), (0, f82_4895), (2, 110), (2, 111), (2, 112), (2, 113)]) (hb4913.get (by decide) h82_4897) rfl rfl rfl (fun w4914 hk4915 hb4916 => ?_)
                have hF4917 : xFr [82, 85] w4847 w4914 := ((xFr.of (S := [82, 85]) hb4913 (by decide)).tr (xFr.of (S := [82, 85]) hb4916 (by decide)))
                have hA4918 := FA_fr hF4917 (by decide)
                have hf4919 : fld w4914 82 4 = f82_4871 := fld_of hk4915
                have hf4920 : fld w4914 82 5 = f82_4873 := fld_of hk4915
                have hf4921 : fld w4914 82 7 = f82_4877 := fld_of hk4915
                have hf4922 : fld w4914 82 10 = f82_4883 := fld_of hk4915
                have hf4923 : fld w4914 82 14 = f82_4885 + 1 := fld_of hk4915
                have hu4924 : mu w4914 = 2 * (fld w4914 82 4 - fld w4914 82 5) + min 1 (fld w4914 82 7) := rfl
                have pq4925 := pk4859
                unfold PK PS at pq4925
                have hM4926 : ∀ s, s < 7 → s ≠ 4 → rwv w4914 85 s = rwv w 85 s := fun s hs hn => (rwv_of (hr4912.but hb4916 (by decide)) hs).trans ((if_neg hn).trans (rwv_of h85_37 hs).symm)
                have hM4927 : rwv w4914 85 4 = u4246 + 1 := (rwv_of (hr4912.but hb4916 (by decide)) (by decide)).trans ((if_pos rfl).trans (by omega))
                have hM4928 : ∀ s, s < 7 → rwv w4914 85 s ≤ rwv w 85 s + 1 := fun s hs => by
                  by_cases z : s = 4
                  · subst z; omega
                  · rw [hM4926 s hs z]; omega
                have hO4929 : ∀ j, (j < 100 + 2 * u4246 ∨ 102 + 2 * u4246 ≤ j) → j < 140 → rwv w4914 86 j = rwv w 86 j := fun j hj hl => (rwv_fr hF4917 (by decide)).trans (os4860 j hj hl)
                have hN4930 : FA w4914 ≠ 0 ∨ 20 ≤ u4246 ∨ True := Or.inr (Or.inr trivial)
                have hX4931 : FA w4914 ≠ 0 ∨ u4246 < 20 := by omega
                have hD4932 : FA w4914 ≠ 0 ∨ (DATA w → DATA w4914) := by
                  by_cases z : FA w4914 ≠ 0
                  · exact Or.inl z
                  · exact Or.inr (fun hd => hd.s4 hM4926 hK4249 hM4927 (hX4931.resolve_left z) hO4929 ((hN4930.resolve_left z).resolve_left (by have := hX4931.resolve_left z; omega)))
                exact xg_e ⟨w4914, ⟨rfl, rfl⟩, xMnv.up (S := [85, 82]) hI4849 ((xFr.of (S := [85, 82]) hb4913 (by decide)).tr (xFr.of (S := [85, 82]) hb4916 (by decide))) (List.forall_mem_cons.mpr ⟨(show cpI 7 52 4294967295 (wget w4914 85) from ⟨_, (hr4912.but hb4916 (by decide)), xrb (by omega) (hb38)⟩), List.forall_mem_cons.mpr ⟨(show cp82 (wget w4914 82) from ⟨f82_4867, f82_4869, f82_4871, f82_4873, f82_4875, f82_4877, f82_4879, f82_4881, f82_4883, f82_4885 + 1, f82_4887, f82_4888, f82_4889, f82_4891, f82_4893, f82_4895, hk4915, by omega, by omega, by omega, by omega, by omega, by omega, by omega, by omega, by omega, by omega, by omega, by omega, by omega, by omega, by omega⟩), fun _ h => absurd h List.not_mem_nil⟩⟩), ((((((((hF4673.up (by decide)).tr (hF4682.up (by decide))).tr (hF4730.up (by decide))).tr (hF4775.up (by decide))).tr (hF4787.up (by decide))).tr (hF4834.up (by decide))).tr (hF4850.up (by decide))).tr ((xFr.of (S := [82, 83, 85, 86, 87]) hb4913 (by decide)).tr (xFr.of (S := [82, 83, 85, 86, 87]) hb4916 (by decide)))), ⟨fun h => by have := pq4925.1 h; omega, (show fld w4914 82 10 = 0 ∨ FA w4914 ≠ 0 by omega), Or.inr ⟨by have := ms4866; omega, by omega, hM4928⟩, hD4932⟩⟩
              · refine xg_t (xg_icT (u := f82_4809) (v := 2) rfl xnm0 xnm0 (xj_neT hc4846)) ?_
                refine xg_t (xg_blk (b := [(416, 1, 0, 0, 0, 0), (417, 3, 13, 140, 96, 183)]) rfl) ?_
                refine xg_t (xg_aload (va := (2, 82)) rfl rfl) ?_
                refine xg_cVv mX12_ends (vs := []) (rest := []) (cn1 := 0) (sl1 := 0) rfl (mEnds (hI4833) pk4838.2.2.2) rfl (hF4834.get (by decide) h82_4829) rfl rfl rfl rfl rfl rfl (fun w4933 hq4934 => ?_)
                obtain ⟨hI4935, hF4936, hx4937⟩ := hq4934
                obtain ⟨hv4938, hv4939, hv4940, hv4941⟩ := hx4937
                have pk4942 : PK w4831 w4933 := ⟨fun _ => hv4938, by omega, by omega, Or.inr hv4938⟩
                have pk4943 : PK w w4933 := PK.tr pk4838 pk4942
                have os4944 : ∀ j, (j < 100 + 2 * u4246 ∨ 102 + 2 * u4246 ≤ j) → j < 140 → rwv w4933 86 j = rwv w 86 j := fun j hj hl => (rwv_fr hF4936 (by decide)).trans (os4839 j hj hl)
                have ix4945 : u4246 < 20 → rwv w4933 86 ((100 + (2 * u4246)) + 0) = n4731 := fun h => (rwv_fr hF4936 (by decide)).trans (ix4840 h)
                have ix4946 : u4246 < 20 → rwv w4933 86 ((100 + (2 * u4246)) + 1) = n4788 := fun h => (rwv_fr hF4936 (by decide)).trans (hp4836 h)
                have rg4947 : FA w4933 ≠ 0 ∨ False := rg4841.imp_left pk4942.1
                have rg4948 : FA w4933 ≠ 0 ∨ (0 ≤ n4731 ∧ n4731 ≤ 9) := rg4842.imp_left pk4942.1
                have rg4949 : FA w4933 ≠ 0 ∨ (0 ≤ n4788 ∧ n4788 ≤ 9) := rg4843.imp_left pk4942.1
                have ms4950 : mu w4933 < mu w := Nat.lt_of_le_of_lt pk4942.2.1 ms4844
                refine xg_t (xg_blk (b := [(420, 1, 0, 0, 0, 0), (421, 3, 1, 12, 11, 17), (424, 1, 2, 1, 0, 0), (425, 1, 39, 0, 0, 0), (426, 1, 10, 0, 0, 0), (427, 1, 3, 1, 0, 0), (428, 1, 11, 0, 0, 0), (429, 1, 17, 0, 0, 0), (430, 1, 0, 0, 0, 0), (431, 1, 19, 0, 0, 0), (432, 3, 1, 12, 14, 212), (435, 1, 3, 1, 0, 0), (436, 1, 11, 0, 0, 0), (437, 3, 14, 12, 14, 212), (440, 1, 12, 0, 0, 0)]) rfl) ?_
                obtain ⟨f82_4951, f82_4953, f82_4955, f82_4957, f82_4959, f82_4961, f82_4963, f82_4965, f82_4967, f82_4969, f82_4971, f82_4972, f82_4973, f82_4975, f82_4977, f82_4979, h82_4981, hb4952, hb4954, hb4956, hb4958, hb4960, hb4962, hb4964, hb4966, hb4968, hb4970, hb4974, hb4976, hb4978, hb4980, hb4982⟩ := (hI4935 82 (by decide) (by decide) : cp82 (wget w4933 82))
                have hf4983 : fld w4933 82 4 = f82_4955 := fld_of h82_4981
                have hf4984 : fld w4933 82 5 = f82_4957 := fld_of h82_4981
                have hf4985 : fld w4933 82 7 = f82_4961 := fld_of h82_4981
                have hf4986 : fld w4933 82 10 = f82_4967 := fld_of h82_4981
                have hf4987 : fld w4933 82 14 = f82_4969 := fld_of h82_4981
                have hu4988 : mu w4933 = 2 * (fld w4933 82 4 - fld w4933 82 5) + min 1 (fld w4933 82 7) := rfl
                have hf4989 := pk4943.2.2.1
                have hl4990 : f82_4969 ≤ 1000 := by omega
                refine xg_t (xg_aload (va := (2, 82)) rfl rfl) ?_
                refine xg_t (xg_getf (va := (2, 85)) h82_4981 rfl) ?_
                refine xg_t (xg_iload (va := (0, 4)) rfl rfl) ?_
                refine xg_t (xg_dup2 rfl) ?_
                refine xg_ialdB (n := 4) (B := 4294967295) (((((((h85_37.fr hF4673 (by decide)).fr hF4682 (by decide)).fr hF4730 (by decide)).fr hF4775 (by decide)).fr hF4787 (by decide)).fr hF4834 (by decide)).fr hF4936 (by decide)) (hb38) xnm0 (by omega) (fun u4991 hu4992 he4993 => ?_)
                have hl4994 : u4991 = u4246 := by omega
                refine xg_t (xg_const) ?_
                refine xg_t (xg_iadd (u := u4991) (v := 1) (z := u4991 + 1) xnm0 xnm0 (by omega)) ?_
                refine xg_iastK (n := 4) (u := u4991 + 1) (((((((h85_37.fr hF4673 (by decide)).fr hF4682 (by decide)).fr hF4730 (by decide)).fr hF4775 (by decide)).fr hF4787 (by decide)).fr hF4834 (by decide)).fr hF4936 (by decide)) xnm0 xnm0 rfl (by omega) (fun w4995 hr4996 hb4997 => ?_)
                refine xg_t (xg_aload (va := (2, 82)) rfl rfl) ?_
                refine xg_t (xg_dup rfl) ?_
                refine xg_t (xg_getf (va := (0, f82_4969)) (hb4997.get (by decide) h82_4981) rfl) ?_
                refine xg_t (xg_const) ?_
                refine xg_t (xg_iadd (u := f82_4969) (v := 1) (z := f82_4969 + 1) xnm0 xnm0 (by omega)) ?_
                refine xg_putI (fl1 := [(2, 83), (2, 84), (0, f82_4951), (0, f82_4953), (0, f82_4955), (0, f82_4957), (0, f82_4959), (0, f82_4961), (0, f82_4963), (0, f82_4965), (0, f82_4967), (2, 85), (2, 86), (2, 87), (0, f82_4969 + 1), (2, 88), (2, 89), (2, 90), (2, 91), (2, 92), (2, 93), (2, 94), (4, f82_4971), (4, f82_4972), (0, f82_4973), (2, 95), (2, 96), (2, 97), (2, 98), (2, 99), (2, 100), (2, 101), (2, 102), (0, f82_4975), (2, 103), (2, 104), (2, 105), (2, 106), (2, 107), (2, 108), (2, 109), (0, f82_4977), (0, f82_4979), (2, 110), (2, 111), (2, 112), (2, 113)]) (hb4997.get (by decide) h82_4981) rfl rfl rfl (fun w4998 hk4999 hb5000 => ?_)
                have hF5001 : xFr [82, 85] w4933 w4998 := ((xFr.of (S := [82, 85]) hb4997 (by decide)).tr (xFr.of (S := [82, 85]) hb5000 (by decide)))
                have hA5002 := FA_fr hF5001 (by decide)
                have hf5003 : fld w4998 82 4 = f82_4955 := fld_of hk4999
                have hf5004 : fld w4998 82 5 = f82_4957 := fld_of hk4999
                have hf5005 : fld w4998 82 7 = f82_4961 := fld_of hk4999
                have hf5006 : fld w4998 82 10 = f82_4967 := fld_of hk4999
                have hf5007 : fld w4998 82 14 = f82_4969 + 1 := fld_of hk4999
                have hu5008 : mu w4998 = 2 * (fld w4998 82 4 - fld w4998 82 5) + min 1 (fld w4998 82 7) := rfl
                have pq5009 := pk4943
                unfold PK PS at pq5009
                have hM5010 : ∀ s, s < 7 → s ≠ 4 → rwv w4998 85 s = rwv w 85 s := fun s hs hn => (rwv_of (hr4996.but hb5000 (by decide)) hs).trans ((if_neg hn).trans (rwv_of h85_37 hs).symm)
                have hM5011 : rwv w4998 85 4 = u4246 + 1 := (rwv_of (hr4996.but hb5000 (by decide)) (by decide)).trans ((if_pos rfl).trans (by omega))
                have hM5012 : ∀ s, s < 7 → rwv w4998 85 s ≤ rwv w 85 s + 1 := fun s hs => by
                  by_cases z : s = 4
                  · subst z; omega
                  · rw [hM5010 s hs z]; omega
                have hO5013 : ∀ j, (j < 100 + 2 * u4246 ∨ 102 + 2 * u4246 ≤ j) → j < 140 → rwv w4998 86 j = rwv w 86 j := fun j hj hl => (rwv_fr hF5001 (by decide)).trans (os4944 j hj hl)
                have hN5014 : FA w4998 ≠ 0 ∨ 20 ≤ u4246 ∨ True := Or.inr (Or.inr trivial)
                have hX5015 : FA w4998 ≠ 0 ∨ u4246 < 20 := by omega
                have hD5016 : FA w4998 ≠ 0 ∨ (DATA w → DATA w4998) := by
                  by_cases z : FA w4998 ≠ 0
                  · exact Or.inl z
                  · exact Or.inr (fun hd => hd.s4 hM5010 hK4249 hM5011 (hX5015.resolve_left z) hO5013 ((hN5014.resolve_left z).resolve_left (by have := hX5015.resolve_left z; omega)))
                exact xg_e ⟨w4998, ⟨rfl, rfl⟩, xMnv.up (S := [85, 82]) hI4935 ((xFr.of (S := [85, 82]) hb4997 (by decide)).tr (xFr.of (S := [85, 82]) hb5000 (by decide))) (List.forall_mem_cons.mpr ⟨(show cpI 7 52 4294967295 (wget w4998 85) from ⟨_, (hr4996.but hb5000 (by decide)), xrb (by omega) (hb38)⟩), List.forall_mem_cons.mpr ⟨(show cp82 (wget w4998 82) from ⟨f82_4951, f82_4953, f82_4955, f82_4957, f82_4959, f82_4961, f82_4963, f82_4965, f82_4967, f82_4969 + 1, f82_4971, f82_4972, f82_4973, f82_4975, f82_4977, f82_4979, hk4999, by omega, by omega, by omega, by omega, by omega, by omega, by omega, by omega, by omega, by omega, by omega, by omega, by omega, by omega, by omega⟩), fun _ h => absurd h List.not_mem_nil⟩⟩), ((((((((hF4673.up (by decide)).tr (hF4682.up (by decide))).tr (hF4730.up (by decide))).tr (hF4775.up (by decide))).tr (hF4787.up (by decide))).tr (hF4834.up (by decide))).tr (hF4936.up (by decide))).tr ((xFr.of (S := [82, 83, 85, 86, 87]) hb4997 (by decide)).tr (xFr.of (S := [82, 83, 85, 86, 87]) hb5000 (by decide)))), ⟨fun h => by have := pq5009.1 h; omega, (show fld w4998 82 10 = 0 ∨ FA w4998 ≠ 0 by omega), Or.inr ⟨by have := ms4950; omega, by omega, hM5012⟩, hD5016⟩⟩
            · refine xg_t (xg_ifT (u := f82_4815) rfl xnm0 (xj_neT hc4845)) ?_
              refine xg_t (xg_blk (b := [(416, 1, 0, 0, 0, 0), (417, 3, 13, 140, 96, 183)]) rfl) ?_
              refine xg_t (xg_aload (va := (2, 82)) rfl rfl) ?_
              refine xg_cVv mX12_ends (vs := []) (rest := []) (cn1 := 0) (sl1 := 0) rfl (mEnds (hI4833) pk4838.2.2.2) rfl (hF4834.get (by decide) h82_4829) rfl rfl rfl rfl rfl rfl (fun w5017 hq5018 => ?_)
              obtain ⟨hI5019, hF5020, hx5021⟩ := hq5018
              obtain ⟨hv5022, hv5023, hv5024, hv5025⟩ := hx5021
              have pk5026 : PK w4831 w5017 := ⟨fun _ => hv5022, by omega, by omega, Or.inr hv5022⟩
              have pk5027 : PK w w5017 := PK.tr pk4838 pk5026
              have os5028 : ∀ j, (j < 100 + 2 * u4246 ∨ 102 + 2 * u4246 ≤ j) → j < 140 → rwv w5017 86 j = rwv w 86 j := fun j hj hl => (rwv_fr hF5020 (by decide)).trans (os4839 j hj hl)
              have ix5029 : u4246 < 20 → rwv w5017 86 ((100 + (2 * u4246)) + 0) = n4731 := fun h => (rwv_fr hF5020 (by decide)).trans (ix4840 h)
              have ix5030 : u4246 < 20 → rwv w5017 86 ((100 + (2 * u4246)) + 1) = n4788 := fun h => (rwv_fr hF5020 (by decide)).trans (hp4836 h)
              have rg5031 : FA w5017 ≠ 0 ∨ False := rg4841.imp_left pk5026.1
              have rg5032 : FA w5017 ≠ 0 ∨ (0 ≤ n4731 ∧ n4731 ≤ 9) := rg4842.imp_left pk5026.1
              have rg5033 : FA w5017 ≠ 0 ∨ (0 ≤ n4788 ∧ n4788 ≤ 9) := rg4843.imp_left pk5026.1
              have ms5034 : mu w5017 < mu w := Nat.lt_of_le_of_lt pk5026.2.1 ms4844
              refine xg_t (xg_blk (b := [(420, 1, 0, 0, 0, 0), (421, 3, 1, 12, 11, 17), (424, 1, 2, 1, 0, 0), (425, 1, 39, 0, 0, 0), (426, 1, 10, 0, 0, 0), (427, 1, 3, 1, 0, 0), (428, 1, 11, 0, 0, 0), (429, 1, 17, 0, 0, 0), (430, 1, 0, 0, 0, 0), (431, 1, 19, 0, 0, 0), (432, 3, 1, 12, 14, 212), (435, 1, 3, 1, 0, 0), (436, 1, 11, 0, 0, 0), (437, 3, 14, 12, 14, 212), (440, 1, 12, 0, 0, 0)]) rfl) ?_
              obtain ⟨f82_5035, f82_5037, f82_5039, f82_5041, f82_5043, f82_5045, f82_5047, f82_5049, f82_5051, f82_5053, f82_5055, f82_5056, f82_5057, f82_5059, f82_5061, f82_5063, h82_5065, hb5036, hb5038, hb5040, hb5042, hb5044, hb5046, hb5048, hb5050, hb5052, hb5054, hb5058, hb5060, hb5062, hb5064, hb5066⟩ := (hI5019 82 (by decide) (by decide) : cp82 (wget w5017 82))
              have hf5067 : fld w5017 82 4 = f82_5039 := fld_of h82_5065
              have hf5068 : fld w5017 82 5 = f82_5041 := fld_of h82_5065
              have hf5069 : fld w5017 82 7 = f82_5045 := fld_of h82_5065
              have hf5070 : fld w5017 82 10 = f82_5051 := fld_of h82_5065
              have hf5071 : fld w5017 82 14 = f82_5053 := fld_of h82_5065
              have hu5072 : mu w5017 = 2 * (fld w5017 82 4 - fld w5017 82 5) + min 1 (fld w5017 82 7) := rfl
              have hf5073 := pk5027.2.2.1
              have hl5074 : f82_5053 ≤ 1000 := by omega
              refine xg_t (xg_aload (va := (2, 82)) rfl rfl) ?_
              refine xg_t (xg_getf (va := (2, 85)) h82_5065 rfl) ?_
              refine xg_t (xg_iload (va := (0, 4)) rfl rfl) ?_
              refine xg_t (xg_dup2 rfl) ?_
              refine xg_ialdB (n := 4) (B := 4294967295) (((((((h85_37.fr hF4673 (by decide)).fr hF4682 (by decide)).fr hF4730 (by decide)).fr hF4775 (by decide)).fr hF4787 (by decide)).fr hF4834 (by decide)).fr hF5020 (by decide)) (hb38) xnm0 (by omega) (fun u5075 hu5076 he5077 => ?_)
              have hl5078 : u5075 = u4246 := by omega
              refine xg_t (xg_const) ?_
              refine xg_t (xg_iadd (u := u5075) (v := 1) (z := u5075 + 1) xnm0 xnm0 (by omega)) ?_
              refine xg_iastK (n := 4) (u := u5075 + 1) (((((((h85_37.fr hF4673 (by decide)).fr hF4682 (by decide)).fr hF4730 (by decide)).fr hF4775 (by decide)).fr hF4787 (by decide)).fr hF4834 (by decide)).fr hF5020 (by decide)) xnm0 xnm0 rfl (by omega) (fun w5079 hr5080 hb5081 => ?_)
              refine xg_t (xg_aload (va := (2, 82)) rfl rfl) ?_
              refine xg_t (xg_dup rfl) ?_
              refine xg_t (xg_getf (va := (0, f82_5053)) (hb5081.get (by decide) h82_5065) rfl) ?_
              refine xg_t (xg_const) ?_
              refine xg_t (xg_iadd (u := f82_5053) (v := 1) (z := f82_5053 + 1) xnm0 xnm0 (by omega)) ?_
              refine xg_putI (fl1 := [(2, 83), (2, 84), (0, f82_5035), (0, f82_5037), (0, f82_5039), (0, f82_5041), (0, f82_5043), (0, f82_5045), (0, f82_5047), (0, f82_5049), (0, f82_5051), (2, 85), (2, 86), (2, 87), (0, f82_5053 + 1), (2, 88), (2, 89), (2, 90), (2, 91), (2, 92), (2, 93), (2, 94), (4, f82_5055), (4, f82_5056), (0, f82_5057), (2, 95), (2, 96), (2, 97), (2, 98), (2, 99), (2, 100), (2, 101), (2, 102), (0, f82_5059), (2, 103), (2, 104), (2, 105), (2, 106), (2, 107), (2, 108), (2, 109), (0, f82_5061), (0, f82_5063), (2, 110), (2, 111), (2, 112), (2, 113)]) (hb5081.get (by decide) h82_5065) rfl rfl rfl (fun w5082 hk5083 hb5084 => ?_)
              have hF5085 : xFr [82, 85] w5017 w5082 := ((xFr.of (S := [82, 85]) hb5081 (by decide)).tr (xFr.of (S := [82, 85]) hb5084 (by decide)))
              have hA5086 := FA_fr hF5085 (by decide)
              have hf5087 : fld w5082 82 4 = f82_5039 := fld_of hk5083
              have hf5088 : fld w5082 82 5 = f82_5041 := fld_of hk5083
              have hf5089 : fld w5082 82 7 = f82_5045 := fld_of hk5083
              have hf5090 : fld w5082 82 10 = f82_5051 := fld_of hk5083
              have hf5091 : fld w5082 82 14 = f82_5053 + 1 := fld_of hk5083
              have hu5092 : mu w5082 = 2 * (fld w5082 82 4 - fld w5082 82 5) + min 1 (fld w5082 82 7) := rfl
              have pq5093 := pk5027
              unfold PK PS at pq5093
              have hM5094 : ∀ s, s < 7 → s ≠ 4 → rwv w5082 85 s = rwv w 85 s := fun s hs hn => (rwv_of (hr5080.but hb5084 (by decide)) hs).trans ((if_neg hn).trans (rwv_of h85_37 hs).symm)
              have hM5095 : rwv w5082 85 4 = u4246 + 1 := (rwv_of (hr5080.but hb5084 (by decide)) (by decide)).trans ((if_pos rfl).trans (by omega))
              have hM5096 : ∀ s, s < 7 → rwv w5082 85 s ≤ rwv w 85 s + 1 := fun s hs => by
                by_cases z : s = 4
                · subst z; omega
                · rw [hM5094 s hs z]; omega
              have hO5097 : ∀ j, (j < 100 + 2 * u4246 ∨ 102 + 2 * u4246 ≤ j) → j < 140 → rwv w5082 86 j = rwv w 86 j := fun j hj hl => (rwv_fr hF5085 (by decide)).trans (os5028 j hj hl)
              have hN5098 : FA w5082 ≠ 0 ∨ 20 ≤ u4246 ∨ True := Or.inr (Or.inr trivial)
              have hX5099 : FA w5082 ≠ 0 ∨ u4246 < 20 := by omega
              have hD5100 : FA w5082 ≠ 0 ∨ (DATA w → DATA w5082) := by
                by_cases z : FA w5082 ≠ 0
                · exact Or.inl z
                · exact Or.inr (fun hd => hd.s4 hM5094 hK4249 hM5095 (hX5099.resolve_left z) hO5097 ((hN5098.resolve_left z).resolve_left (by have := hX5099.resolve_left z; omega)))
              exact xg_e ⟨w5082, ⟨rfl, rfl⟩, xMnv.up (S := [85, 82]) hI5019 ((xFr.of (S := [85, 82]) hb5081 (by decide)).tr (xFr.of (S := [85, 82]) hb5084 (by decide))) (List.forall_mem_cons.mpr ⟨(show cpI 7 52 4294967295 (wget w5082 85) from ⟨_, (hr5080.but hb5084 (by decide)), xrb (by omega) (hb38)⟩), List.forall_mem_cons.mpr ⟨(show cp82 (wget w5082 82) from ⟨f82_5035, f82_5037, f82_5039, f82_5041, f82_5043, f82_5045, f82_5047, f82_5049, f82_5051, f82_5053 + 1, f82_5055, f82_5056, f82_5057, f82_5059, f82_5061, f82_5063, hk5083, by omega, by omega, by omega, by omega, by omega, by omega, by omega, by omega, by omega, by omega, by omega, by omega, by omega, by omega, by omega⟩), fun _ h => absurd h List.not_mem_nil⟩⟩), ((((((((hF4673.up (by decide)).tr (hF4682.up (by decide))).tr (hF4730.up (by decide))).tr (hF4775.up (by decide))).tr (hF4787.up (by decide))).tr (hF4834.up (by decide))).tr (hF5020.up (by decide))).tr ((xFr.of (S := [82, 83, 85, 86, 87]) hb5081 (by decide)).tr (xFr.of (S := [82, 83, 85, 86, 87]) hb5084 (by decide)))), ⟨fun h => by have := pq5093.1 h; omega, (show fld w5082 82 10 = 0 ∨ FA w5082 ≠ 0 by omega), Or.inr ⟨by have := ms5034; omega, by omega, hM5096⟩, hD5100⟩⟩
        · refine xg_t (xg_aload (va := (2, 82)) rfl rfl) ?_
          refine xg_t (xg_getf (va := (2, 85)) h82_31 rfl) ?_
          refine xg_t (xg_iload (va := (0, 5)) rfl rfl) ?_
          refine xg_ialdB (n := 5) (B := 4294967295) h85_37 (hb38) xnm0 (by omega) (fun u5101 hu5102 he5103 => ?_)
          have hK5104 : rwv w 85 5 = u5101 := (rwv_of h85_37 (by decide)).trans he5103
          have hm5105 := hmb 5 (by decide)
          have hl5106 : u5101 ≤ 1000 := by omega
          refine xg_t (xg_istore (l1 := [(2, (0, f82_9)), (1, (0, 5)), (0, (2, 82))]) rfl rfl rfl) ?_
          refine xg_t (xg_iload (va := (0, u5101)) rfl rfl) ?_
          refine xg_t (xg_iload (va := (0, 5)) rfl rfl) ?_
          refine xg_t (xg_cSr mX12_mostOf (vs := [(0, 5)]) (rest := [(0, u5101)]) (rs := [(0, 1), (0, u5101)]) (cn1 := 0) (sl1 := 0) rfl (mMostR5) rfl rfl rfl rfl rfl rfl rfl rfl) ?_
          by_cases hc5107 : u5101 < 1
          · refine xg_t (xg_icT (u := u5101) (v := 1) rfl xnm0 xnm0 (xj_ltT hc5107 (by omega))) ?_
            refine xg_t (xg_blk (b := [(64, 1, 0, 0, 0, 0), (65, 3, 13, 110, 96, 190), (68, 1, 2, 1, 0, 0), (69, 39, 33, 362, 0, 9)]) rfl) ?_
            refine xg_t (xg_aload (va := (2, 82)) rfl rfl) ?_
            refine xg_cVv mX12_advance (vs := []) (rest := []) (cn1 := 0) (sl1 := 0) rfl (mAdvance (hI)) rfl h82_31 rfl rfl rfl rfl rfl rfl (fun w5108 hq5109 => ?_)
            obtain ⟨hI5110, hF5111, hx5112⟩ := hq5109
            obtain ⟨hv5113, hv5114, hv5115, hv5116⟩ := hx5112
            have hf5118 := FA_fr hF5111 (by decide)
            have hs5119 := (PK.rf hps).2.2.2
            unfold PS at hs5119
            have pk5117 : PK w w5108 := ⟨fun _ => by omega, hv5113, hv5116, (show fld w5108 82 10 = 0 ∨ FA w5108 ≠ 0 by omega)⟩
            have pk5120 : PK w w5108 := PK.tr (PK.rf hps) pk5117
            have os5121 : ∀ j, (j < 7 ∨ 9 ≤ j) → j < 140 → rwv w5108 86 j = rwv w 86 j := fun j hj hl => (rwv_fr hF5111 (by decide)).trans ((fun j _ _ => rfl) j hj hl)
            have ms5122 : mu w5108 < mu w := Nat.lt_of_lt_of_le (hv5114 (by omega)) (PK.rf hps).2.1
            refine xg_t (xg_iload (va := (0, 5)) rfl rfl) ?_
            refine xg_t (xg_swt (ks := [(0, 108), (1, 116), (2, 180), (3, 221), (4, 273), (5, 326)]) (u := 5) (z := 326) rfl rfl rfl xnm0 (xsw_n (by omega) (xsw_n (by omega) (xsw_n (by omega) (xsw_n (by omega) (xsw_n (by omega) (xsw_y rfl))))))) ?_
            refine xg_t (xg_blk (b := [(326, 1, 3, 0, 0, 0), (327, 2, 15, 4, 0, 0)]) rfl) ?_
            refine xg_t (xg_const) ?_
            refine xg_t (xg_istore (l1 := [(3, (0, u5101)), (2, (0, f82_9)), (1, (0, 5)), (0, (2, 82))]) rfl rfl rfl) ?_
            refine xg_t (xg_blk (b := [(329, 2, 2, 4, 0, 0), (331, 1, 3, 2, 0, 0), (332, 3, 6, 359, 3, 0), (335, 1, 0, 0, 0, 0), (336, 1, 2, 1, 0, 0), (337, 1, 2, 3, 0, 0), (338, 2, 4, 7, 0, 0), (340, 2, 2, 4, 0, 0), (342, 1, 11, 0, 0, 0), (343, 1, 0, 0, 0, 0), (344, 1, 3, 1, 0, 0), (345, 2, 4, 10, 0, 0), (347, 3, 13, 199, 96, 196), (350, 3, 13, 211, 96, 200), (353, 3, 9, 4, 1, 0), (356, 3, 8, 329, 0, 0)]) rfl) ?_
            refine xg_t (xg_iload (va := (0, 0)) rfl rfl) ?_
            refine xg_t (xg_const) ?_
            refine xg_t (xg_icF (u := 0) (v := 2) rfl xnm0 xnm0 (by decide)) ?_
            refine xg_t (xg_aload (va := (2, 82)) rfl rfl) ?_
            refine xg_t (xg_iload (va := (0, 5)) rfl rfl) ?_
            refine xg_t (xg_iload (va := (0, u5101)) rfl rfl) ?_
            refine xg_t (xg_bip) ?_
            refine xg_t (xg_iload (va := (0, 0)) rfl rfl) ?_
            refine xg_t (xg_iadd (u := 7) (v := 0) (z := 7) xnm0 xnm0 (by decide)) ?_
            refine xg_t (xg_aload (va := (2, 82)) rfl rfl) ?_
            refine xg_t (xg_const) ?_
            refine xg_t (xg_bip) ?_
            obtain ⟨f82_5123, f82_5125, f82_5127, f82_5129, f82_5131, f82_5133, f82_5135, f82_5137, f82_5139, f82_5141, f82_5143, f82_5144, f82_5145, f82_5147, f82_5149, f82_5151, h82_5153, hb5124, hb5126, hb5128, hb5130, hb5132, hb5134, hb5136, hb5138, hb5140, hb5142, hb5146, hb5148, hb5150, hb5152, hb5154⟩ := (hI5110 82 (by decide) (by decide) : cp82 (wget w5108 82))
            refine xg_cVi mX12_numbered (vs := [(0, 1), (0, 10)]) (rest := [(0, 7), (0, u5101), (0, 5), (2, 82)]) (cn1 := 0) (sl1 := 0) rfl (mNumbered (hI5110) (by omega) (by omega) pk5120.2.2.2) rfl h82_5153 rfl rfl rfl rfl rfl rfl (fun n5159 w5155 hq5156 => ?_)
            obtain ⟨hn5160, hI5157, hF5158⟩ := hq5156
            obtain ⟨hn5161, hn5162, hn5163⟩ := hn5160
            have pk5164 : PK w w5155 := PK.tr pk5120 hn5162
            have os5165 : ∀ j, (j < 7 ∨ 9 ≤ j) → j < 140 → rwv w5155 86 j = rwv w 86 j := fun j hj hl => (rwv_fr hF5158 (by decide)).trans (os5121 j hj hl)
            have ms5166 : mu w5155 < mu w := Nat.lt_of_le_of_lt hn5162.2.1 ms5122
            obtain ⟨f82_5167, f82_5169, f82_5171, f82_5173, f82_5175, f82_5177, f82_5179, f82_5181, f82_5183, f82_5185, f82_5187, f82_5188, f82_5189, f82_5191, f82_5193, f82_5195, h82_5197, hb5168, hb5170, hb5172, hb5174, hb5176, hb5178, hb5180, hb5182, hb5184, hb5186, hb5190, hb5192, hb5194, hb5196, hb5198⟩ := (hI5157 82 (by decide) (by decide) : cp82 (wget w5155 82))
            refine xg_cVv mX12_puts (vs := [(0, 5), (0, u5101), (0, 7), (0, n5159)]) (rest := []) (cn1 := 0) (sl1 := 0) rfl (mPuts5 (hI5157) (by omega) (by omega) (by omega) (fun _ => by omega)) rfl h82_5197 rfl rfl rfl rfl rfl rfl (fun w5199 hq5200 => ?_)
            obtain ⟨hI5201, hF5202, hx5203⟩ := hq5200
            obtain ⟨hp5204, hp5205⟩ := hx5203
            have pk5206 : PK w w5199 := PK.tr pk5164 (PK.fr hF5202 (by decide) (by decide) pk5164.2.2.2)
            have os5207 : ∀ j, (j < 7 ∨ 9 ≤ j) → j < 140 → rwv w5199 86 j = rwv w 86 j := fun j hj hl => (hp5205 j (by omega) hl).trans (os5165 j hj hl)
            have rg5208 : FA w5199 ≠ 0 ∨ (1 ≤ n5159 ∧ n5159 ≤ 10) := hn5163.imp_left (PK.fr hF5202 (by decide) (by decide) pk5164.2.2.2).1
            have ms5209 : mu w5199 < mu w := Nat.lt_of_le_of_lt (PK.fr hF5202 (by decide) (by decide) pk5164.2.2.2).2.1 ms5166
            refine xg_t (xg_iinc (u := 0) (z := 1) (l1 := [(3, (0, u5101)), (2, (0, f82_9)), (1, (0, 5)), (0, (2, 82))]) rfl rfl (by decide) rfl) ?_
            refine xg_t (xg_goto) ?_
            refine xg_t (xg_blk (b := [(329, 2, 2, 4, 0, 0), (331, 1, 3, 2, 0, 0), (332, 3, 6, 359, 3, 0), (335, 1, 0, 0, 0, 0), (336, 1, 2, 1, 0, 0), (337, 1, 2, 3, 0, 0), (338, 2, 4, 7, 0, 0), (340, 2, 2, 4, 0, 0), (342, 1, 11, 0, 0, 0), (343, 1, 0, 0, 0, 0), (344, 1, 3, 1, 0, 0), (345, 2, 4, 10, 0, 0), (347, 3, 13, 199, 96, 196), (350, 3, 13, 211, 96, 200), (353, 3, 9, 4, 1, 0), (356, 3, 8, 329, 0, 0)]) rfl) ?_
            refine xg_t (xg_iload (va := (0, 1)) rfl rfl) ?_
            refine xg_t (xg_const) ?_
            refine xg_t (xg_icF (u := 1) (v := 2) rfl xnm0 xnm0 (by decide)) ?_
            refine xg_t (xg_aload (va := (2, 82)) rfl rfl) ?_
            refine xg_t (xg_iload (va := (0, 5)) rfl rfl) ?_
            refine xg_t (xg_iload (va := (0, u5101)) rfl rfl) ?_
            refine xg_t (xg_bip) ?_
            refine xg_t (xg_iload (va := (0, 1)) rfl rfl) ?_
            refine xg_t (xg_iadd (u := 7) (v := 1) (z := 8) xnm0 xnm0 (by decide)) ?_
            refine xg_t (xg_aload (va := (2, 82)) rfl rfl) ?_
            refine xg_t (xg_const) ?_
            refine xg_t (xg_bip) ?_
            refine xg_cVi mX12_numbered (vs := [(0, 1), (0, 10)]) (rest := [(0, 8), (0, u5101), (0, 5), (2, 82)]) (cn1 := 0) (sl1 := 0) rfl (mNumbered (hI5201) (by omega) (by omega) pk5206.2.2.2) rfl (hF5202.get (by decide) h82_5197) rfl rfl rfl rfl rfl rfl (fun n5214 w5210 hq5211 => ?_)
            obtain ⟨hn5215, hI5212, hF5213⟩ := hq5211
            obtain ⟨hn5216, hn5217, hn5218⟩ := hn5215
            have pk5219 : PK w w5210 := PK.tr pk5206 hn5217
            have os5220 : ∀ j, (j < 7 ∨ 9 ≤ j) → j < 140 → rwv w5210 86 j = rwv w 86 j := fun j hj hl => (rwv_fr hF5213 (by decide)).trans (os5207 j hj hl)
            have ix5221 : u5101 < 1 → rwv w5210 86 (7) = n5159 := fun h => (rwv_fr hF5213 (by decide)).trans (hp5204 h)
            have rg5222 : FA w5210 ≠ 0 ∨ (1 ≤ n5159 ∧ n5159 ≤ 10) := rg5208.imp_left hn5217.1
            have ms5223 : mu w5210 < mu w := Nat.lt_of_le_of_lt hn5217.2.1 ms5209
            obtain ⟨f82_5224, f82_5226, f82_5228, f82_5230, f82_5232, f82_5234, f82_5236, f82_5238, f82_5240, f82_5242, f82_5244, f82_5245, f82_5246, f82_5248, f82_5250, f82_5252, h82_5254, hb5225, hb5227, hb5229, hb5231, hb5233, hb5235, hb5237, hb5239, hb5241, hb5243, hb5247, hb5249, hb5251, hb5253, hb5255⟩ := (hI5212 82 (by decide) (by decide) : cp82 (wget w5210 82))
            refine xg_cVv mX12_puts (vs := [(0, 5), (0, u5101), (0, 8), (0, n5214)]) (rest := []) (cn1 := 0) (sl1 := 0) rfl (mPuts5 (hI5212) (by omega) (by omega) (by omega) (fun _ => by omega)) rfl h82_5254 rfl rfl rfl rfl rfl rfl (fun w5256 hq5257 => ?_)
            obtain ⟨hI5258, hF5259, hx5260⟩ := hq5257
            obtain ⟨hp5261, hp5262⟩ := hx5260
            have pk5263 : PK w w5256 := PK.tr pk5219 (PK.fr hF5259 (by decide) (by decide) pk5219.2.2.2)
            have os5264 : ∀ j, (j < 7 ∨ 9 ≤ j) → j < 140 → rwv w5256 86 j = rwv w 86 j := fun j hj hl => (hp5262 j (by omega) hl).trans (os5220 j hj hl)
            have ix5265 : u5101 < 1 → rwv w5256 86 (7) = n5159 := fun h => (hp5262 _ (by omega) (by omega)).trans (ix5221 h)
            have rg5266 : FA w5256 ≠ 0 ∨ (1 ≤ n5159 ∧ n5159 ≤ 10) := rg5222.imp_left (PK.fr hF5259 (by decide) (by decide) pk5219.2.2.2).1
            have rg5267 : FA w5256 ≠ 0 ∨ (1 ≤ n5214 ∧ n5214 ≤ 10) := hn5218.imp_left (PK.fr hF5259 (by decide) (by decide) pk5219.2.2.2).1
            have ms5268 : mu w5256 < mu w := Nat.lt_of_le_of_lt (PK.fr hF5259 (by decide) (by decide) pk5219.2.2.2).2.1 ms5223
            refine xg_t (xg_iinc (u := 1) (z := 2) (l1 := [(3, (0, u5101)), (2, (0, f82_9)), (1, (0, 5)), (0, (2, 82))]) rfl rfl (by decide) rfl) ?_
            refine xg_t (xg_goto) ?_
            refine xg_t (xg_blk (b := [(329, 2, 2, 4, 0, 0), (331, 1, 3, 2, 0, 0), (332, 3, 6, 359, 3, 0), (335, 1, 0, 0, 0, 0), (336, 1, 2, 1, 0, 0), (337, 1, 2, 3, 0, 0), (338, 2, 4, 7, 0, 0), (340, 2, 2, 4, 0, 0), (342, 1, 11, 0, 0, 0), (343, 1, 0, 0, 0, 0), (344, 1, 3, 1, 0, 0), (345, 2, 4, 10, 0, 0), (347, 3, 13, 199, 96, 196), (350, 3, 13, 211, 96, 200), (353, 3, 9, 4, 1, 0), (356, 3, 8, 329, 0, 0)]) rfl) ?_
            refine xg_t (xg_iload (va := (0, 2)) rfl rfl) ?_
            refine xg_t (xg_const) ?_
            refine xg_t (xg_icT (u := 2) (v := 2) rfl xnm0 xnm0 (by decide)) ?_
            refine xg_t (xg_blk (b := [(359, 3, 8, 394, 0, 0)]) rfl) ?_
            refine xg_t (xg_goto) ?_
            refine xg_t (xg_blk (b := [(394, 1, 0, 0, 0, 0), (395, 3, 1, 12, 10, 180), (398, 3, 7, 416, 1, 0), (401, 1, 0, 0, 0, 0), (402, 3, 1, 12, 7, 151), (405, 1, 3, 2, 0, 0), (406, 3, 6, 416, 1, 0), (409, 1, 0, 0, 0, 0), (410, 3, 13, 110, 96, 190), (413, 3, 8, 420, 0, 0)]) rfl) ?_
            refine xg_t (xg_aload (va := (2, 82)) rfl rfl) ?_
            refine xg_t (xg_getf (va := (0, f82_5240)) (hF5259.get (by decide) h82_5254) rfl) ?_
            by_cases hc5269 : f82_5240 = 0
            · refine xg_t (xg_ifF (u := f82_5240) rfl xnm0 (xj_neF hc5269)) ?_
              refine xg_t (xg_aload (va := (2, 82)) rfl rfl) ?_
              refine xg_t (xg_getf (va := (0, f82_5234)) (hF5259.get (by decide) h82_5254) rfl) ?_
              refine xg_t (xg_const) ?_
              by_cases hc5270 : f82_5234 = 2
              · refine xg_t (xg_icF (u := f82_5234) (v := 2) rfl xnm0 xnm0 (xj_neF hc5270)) ?_
                refine xg_t (xg_aload (va := (2, 82)) rfl rfl) ?_
                refine xg_cVv mX12_advance (vs := []) (rest := []) (cn1 := 0) (sl1 := 0) rfl (mAdvance (hI5258)) rfl (hF5259.get (by decide) h82_5254) rfl rfl rfl rfl rfl rfl (fun w5271 hq5272 => ?_)
                obtain ⟨hI5273, hF5274, hx5275⟩ := hq5272
                obtain ⟨hv5276, hv5277, hv5278, hv5279⟩ := hx5275
                have hf5281 := FA_fr hF5274 (by decide)
                have hs5282 := pk5263.2.2.2
                unfold PS at hs5282
                have pk5280 : PK w5256 w5271 := ⟨fun _ => by omega, hv5276, hv5279, (show fld w5271 82 10 = 0 ∨ FA w5271 ≠ 0 by omega)⟩
                have pk5283 : PK w w5271 := PK.tr pk5263 pk5280
                have os5284 : ∀ j, (j < 7 ∨ 9 ≤ j) → j < 140 → rwv w5271 86 j = rwv w 86 j := fun j hj hl => (rwv_fr hF5274 (by decide)).trans (os5264 j hj hl)
                have ix5285 : u5101 < 1 → rwv w5271 86 (7) = n5159 := fun h => (rwv_fr hF5274 (by decide)).trans (ix5265 h)
                have ix5286 : u5101 < 1 → rwv w5271 86 (8) = n5214 := fun h => (rwv_fr hF5274 (by decide)).trans (hp5261 h)
                have rg5287 : FA w5271 ≠ 0 ∨ (1 ≤ n5159 ∧ n5159 ≤ 10) := rg5266.imp_left pk5280.1
                have rg5288 : FA w5271 ≠ 0 ∨ (1 ≤ n5214 ∧ n5214 ≤ 10) := rg5267.imp_left pk5280.1
                have ms5289 : mu w5271 < mu w := Nat.lt_of_le_of_lt pk5280.2.1 ms5268
                refine xg_t (xg_goto) ?_
                refine xg_t (xg_blk (b := [(420, 1, 0, 0, 0, 0), (421, 3, 1, 12, 11, 17), (424, 1, 2, 1, 0, 0), (425, 1, 39, 0, 0, 0), (426, 1, 10, 0, 0, 0), (427, 1, 3, 1, 0, 0), (428, 1, 11, 0, 0, 0), (429, 1, 17, 0, 0, 0), (430, 1, 0, 0, 0, 0), (431, 1, 19, 0, 0, 0), (432, 3, 1, 12, 14, 212), (435, 1, 3, 1, 0, 0), (436, 1, 11, 0, 0, 0), (437, 3, 14, 12, 14, 212), (440, 1, 12, 0, 0, 0)]) rfl) ?_
                obtain ⟨f82_5290, f82_5292, f82_5294, f82_5296, f82_5298, f82_5300, f82_5302, f82_5304, f82_5306, f82_5308, f82_5310, f82_5311, f82_5312, f82_5314, f82_5316, f82_5318, h82_5320, hb5291, hb5293, hb5295, hb5297, hb5299, hb5301, hb5303, hb5305, hb5307, hb5309, hb5313, hb5315, hb5317, hb5319, hb5321⟩ := (hI5273 82 (by decide) (by decide) : cp82 (wget w5271 82))
                have hf5322 : fld w5271 82 4 = f82_5294 := fld_of h82_5320
                have hf5323 : fld w5271 82 5 = f82_5296 := fld_of h82_5320
                have hf5324 : fld w5271 82 7 = f82_5300 := fld_of h82_5320
                have hf5325 : fld w5271 82 10 = f82_5306 := fld_of h82_5320
                have hf5326 : fld w5271 82 14 = f82_5308 := fld_of h82_5320
                have hu5327 : mu w5271 = 2 * (fld w5271 82 4 - fld w5271 82 5) + min 1 (fld w5271 82 7) := rfl
                have hf5328 := pk5283.2.2.1
                have hl5329 : f82_5308 ≤ 1000 := by omega
                refine xg_t (xg_aload (va := (2, 82)) rfl rfl) ?_
                refine xg_t (xg_getf (va := (2, 85)) h82_5320 rfl) ?_
                refine xg_t (xg_iload (va := (0, 5)) rfl rfl) ?_
                refine xg_t (xg_dup2 rfl) ?_
                refine xg_ialdB (n := 5) (B := 4294967295) ((((((h85_37.fr hF5111 (by decide)).fr hF5158 (by decide)).fr hF5202 (by decide)).fr hF5213 (by decide)).fr hF5259 (by decide)).fr hF5274 (by decide)) (hb38) xnm0 (by omega) (fun u5330 hu5331 he5332 => ?_)
                have hl5333 : u5330 = u5101 := by omega
                refine xg_t (xg_const) ?_
                refine xg_t (xg_iadd (u := u5330) (v := 1) (z := u5330 + 1) xnm0 xnm0 (by omega)) ?_
                refine xg_iastK (n := 5) (u := u5330 + 1) ((((((h85_37.fr hF5111 (by decide)).fr hF5158 (by decide)).fr hF5202 (by decide)).fr hF5213 (by decide)).fr hF5259 (by decide)).fr hF5274 (by decide)) xnm0 xnm0 rfl (by omega) (fun w5334 hr5335 hb5336 => ?_)
                refine xg_t (xg_aload (va := (2, 82)) rfl rfl) ?_
                refine xg_t (xg_dup rfl) ?_
                refine xg_t (xg_getf (va := (0, f82_5308)) (hb5336.get (by decide) h82_5320) rfl) ?_
                refine xg_t (xg_const) ?_
                refine xg_t (xg_iadd (u := f82_5308) (v := 1) (z := f82_5308 + 1) xnm0 xnm0 (by omega)) ?_
                refine xg_putI (fl1 := [(2, 83), (2, 84), (0, f82_5290), (0, f82_5292), (0, f82_5294), (0, f82_5296), (0, f82_5298), (0, f82_5300), (0, f82_5302), (0, f82_5304), (0, f82_5306), (2, 85), (2, 86), (2, 87), (0, f82_5308 + 1), (2, 88), (2, 89), (2, 90), (2, 91), (2, 92), (2, 93), (2, 94), (4, f82_5310), (4, f82_5311), (0, f82_5312), (2, 95), (2, 96), (2, 97), (2, 98), (2, 99), (2, 100), (2, 101), (2, 102), (0, f82_5314), (2, 103), (2, 104), (2, 105), (2, 106), (2, 107), (2, 108), (2, 109), (0, f82_5316), (0, f82_5318), (2, 110), (2, 111), (2, 112), (2, 113)]) (hb5336.get (by decide) h82_5320) rfl rfl rfl (fun w5337 hk5338 hb5339 => ?_)
                have hF5340 : xFr [82, 85] w5271 w5337 := ((xFr.of (S := [82, 85]) hb5336 (by decide)).tr (xFr.of (S := [82, 85]) hb5339 (by decide)))
                have hA5341 := FA_fr hF5340 (by decide)
                have hf5342 : fld w5337 82 4 = f82_5294 := fld_of hk5338
                have hf5343 : fld w5337 82 5 = f82_5296 := fld_of hk5338
                have hf5344 : fld w5337 82 7 = f82_5300 := fld_of hk5338
                have hf5345 : fld w5337 82 10 = f82_5306 := fld_of hk5338
                have hf5346 : fld w5337 82 14 = f82_5308 + 1 := fld_of hk5338
                have hu5347 : mu w5337 = 2 * (fld w5337 82 4 - fld w5337 82 5) + min 1 (fld w5337 82 7) := rfl
                have pq5348 := pk5283
                unfold PK PS at pq5348
                have hM5349 : ∀ s, s < 7 → s ≠ 5 → rwv w5337 85 s = rwv w 85 s := fun s hs hn => (rwv_of (hr5335.but hb5339 (by decide)) hs).trans ((if_neg hn).trans (rwv_of h85_37 hs).symm)
                have hM5350 : rwv w5337 85 5 = u5101 + 1 := (rwv_of (hr5335.but hb5339 (by decide)) (by decide)).trans ((if_pos rfl).trans (by omega))
                have hM5351 : ∀ s, s < 7 → rwv w5337 85 s ≤ rwv w 85 s + 1 := fun s hs => by
                  by_cases z : s = 5
                  · subst z; omega
                  · rw [hM5349 s hs z]; omega
                have hO5352 : ∀ j, (j < 7 ∨ 9 ≤ j) → j < 140 → rwv w5337 86 j = rwv w 86 j := fun j hj hl => (rwv_fr hF5340 (by decide)).trans (os5284 j hj hl)
                have hl5354 : u5101 < 1 → rwv w5337 86 (7) = n5159 := fun h => (rwv_fr hF5340 (by decide)).trans (ix5285 h)
                have hl5355 : u5101 < 1 → rwv w5337 86 (8) = n5214 := fun h => (rwv_fr hF5340 (by decide)).trans (ix5286 h)
                have hl5356 : FA w5271 ≠ 0 ∨ (1 ≤ n5159 ∧ n5159 ≤ 10) := rg5287
                have hl5357 : FA w5271 ≠ 0 ∨ (1 ≤ n5214 ∧ n5214 ≤ 10) := rg5288
                have hN5353 : FA w5337 ≠ 0 ∨ 1 ≤ u5101 ∨ (1 ≤ rwv w5337 86 7 ∧ rwv w5337 86 7 ≤ 10 ∧ 1 ≤ rwv w5337 86 8 ∧ rwv w5337 86 8 ≤ 10) := by omega
                have hX5358 : FA w5337 ≠ 0 ∨ u5101 < 1 := by omega
                have hD5359 : FA w5337 ≠ 0 ∨ (DATA w → DATA w5337) := by
                  by_cases z : FA w5337 ≠ 0
                  · exact Or.inl z
                  · exact Or.inr (fun hd => hd.s5 hM5349 hK5104 hM5350 (hX5358.resolve_left z) hO5352 ((hN5353.resolve_left z).resolve_left (by have := hX5358.resolve_left z; omega)))
                exact xg_e ⟨w5337, ⟨rfl, rfl⟩, xMnv.up (S := [85, 82]) hI5273 ((xFr.of (S := [85, 82]) hb5336 (by decide)).tr (xFr.of (S := [85, 82]) hb5339 (by decide))) (List.forall_mem_cons.mpr ⟨(show cpI 7 52 4294967295 (wget w5337 85) from ⟨_, (hr5335.but hb5339 (by decide)), xrb (by omega) (hb38)⟩), List.forall_mem_cons.mpr ⟨(show cp82 (wget w5337 82) from ⟨f82_5290, f82_5292, f82_5294, f82_5296, f82_5298, f82_5300, f82_5302, f82_5304, f82_5306, f82_5308 + 1, f82_5310, f82_5311, f82_5312, f82_5314, f82_5316, f82_5318, hk5338, by omega, by omega, by omega, by omega, by omega, by omega, by omega, by omega, by omega, by omega, by omega, by omega, by omega, by omega, by omega⟩), fun _ h => absurd h List.not_mem_nil⟩⟩), (((((((hF5111.up (by decide)).tr (hF5158.up (by decide))).tr (hF5202.up (by decide))).tr (hF5213.up (by decide))).tr (hF5259.up (by decide))).tr (hF5274.up (by decide))).tr ((xFr.of (S := [82, 83, 85, 86, 87]) hb5336 (by decide)).tr (xFr.of (S := [82, 83, 85, 86, 87]) hb5339 (by decide)))), ⟨fun h => by have := pq5348.1 h; omega, (show fld w5337 82 10 = 0 ∨ FA w5337 ≠ 0 by omega), Or.inr ⟨by have := ms5289; omega, by omega, hM5351⟩, hD5359⟩⟩
              · refine xg_t (xg_icT (u := f82_5234) (v := 2) rfl xnm0 xnm0 (xj_neT hc5270)) ?_
                refine xg_t (xg_blk (b := [(416, 1, 0, 0, 0, 0), (417, 3, 13, 140, 96, 183)]) rfl) ?_
                refine xg_t (xg_aload (va := (2, 82)) rfl rfl) ?_
                refine xg_cVv mX12_ends (vs := []) (rest := []) (cn1 := 0) (sl1 := 0) rfl (mEnds (hI5258) pk5263.2.2.2) rfl (hF5259.get (by decide) h82_5254) rfl rfl rfl rfl rfl rfl (fun w5360 hq5361 => ?_)
                obtain ⟨hI5362, hF5363, hx5364⟩ := hq5361
                obtain ⟨hv5365, hv5366, hv5367, hv5368⟩ := hx5364
                have pk5369 : PK w5256 w5360 := ⟨fun _ => hv5365, by omega, by omega, Or.inr hv5365⟩
                have pk5370 : PK w w5360 := PK.tr pk5263 pk5369
                have os5371 : ∀ j, (j < 7 ∨ 9 ≤ j) → j < 140 → rwv w5360 86 j = rwv w 86 j := fun j hj hl => (rwv_fr hF5363 (by decide)).trans (os5264 j hj hl)
                have ix5372 : u5101 < 1 → rwv w5360 86 (7) = n5159 := fun h => (rwv_fr hF5363 (by decide)).trans (ix5265 h)
                have ix5373 : u5101 < 1 → rwv w5360 86 (8) = n5214 := fun h => (rwv_fr hF5363 (by decide)).trans (hp5261 h)
                have rg5374 : FA w5360 ≠ 0 ∨ (1 ≤ n5159 ∧ n5159 ≤ 10) := rg5266.imp_left pk5369.1
                have rg5375 : FA w5360 ≠ 0 ∨ (1 ≤ n5214 ∧ n5214 ≤ 10) := rg5267.imp_left pk5369.1
                have ms5376 : mu w5360 < mu w := Nat.lt_of_le_of_lt pk5369.2.1 ms5268
                refine xg_t (xg_blk (b := [(420, 1, 0, 0, 0, 0), (421, 3, 1, 12, 11, 17), (424, 1, 2, 1, 0, 0), (425, 1, 39, 0, 0, 0), (426, 1, 10, 0, 0, 0), (427, 1, 3, 1, 0, 0), (428, 1, 11, 0, 0, 0), (429, 1, 17, 0, 0, 0), (430, 1, 0, 0, 0, 0), (431, 1, 19, 0, 0, 0), (432, 3, 1, 12, 14, 212), (435, 1, 3, 1, 0, 0), (436, 1, 11, 0, 0, 0), (437, 3, 14, 12, 14, 212), (440, 1, 12, 0, 0, 0)]) rfl) ?_
                obtain ⟨f82_5377, f82_5379, f82_5381, f82_5383, f82_5385, f82_5387, f82_5389, f82_5391, f82_5393, f82_5395, f82_5397, f82_5398, f82_5399, f82_5401, f82_5403, f82_5405, h82_5407, hb5378, hb5380, hb5382, hb5384, hb5386, hb5388, hb5390, hb5392, hb5394, hb5396, hb5400, hb5402, hb5404, hb5406, hb5408⟩ := (hI5362 82 (by decide) (by decide) : cp82 (wget w5360 82))
                have hf5409 : fld w5360 82 4 = f82_5381 := fld_of h82_5407
                have hf5410 : fld w5360 82 5 = f82_5383 := fld_of h82_5407
                have hf5411 : fld w5360 82 7 = f82_5387 := fld_of h82_5407
                have hf5412 : fld w5360 82 10 = f82_5393 := fld_of h82_5407
                have hf5413 : fld w5360 82 14 = f82_5395 := fld_of h82_5407
                have hu5414 : mu w5360 = 2 * (fld w5360 82 4 - fld w5360 82 5) + min 1 (fld w5360 82 7) := rfl
                have hf5415 := pk5370.2.2.1
                have hl5416 : f82_5395 ≤ 1000 := by omega
                refine xg_t (xg_aload (va := (2, 82)) rfl rfl) ?_
                refine xg_t (xg_getf (va := (2, 85)) h82_5407 rfl) ?_
                refine xg_t (xg_iload (va := (0, 5)) rfl rfl) ?_
                refine xg_t (xg_dup2 rfl) ?_
                refine xg_ialdB (n := 5) (B := 4294967295) ((((((h85_37.fr hF5111 (by decide)).fr hF5158 (by decide)).fr hF5202 (by decide)).fr hF5213 (by decide)).fr hF5259 (by decide)).fr hF5363 (by decide)) (hb38) xnm0 (by omega) (fun u5417 hu5418 he5419 => ?_)
                have hl5420 : u5417 = u5101 := by omega
                refine xg_t (xg_const) ?_
                refine xg_t (xg_iadd (u := u5417) (v := 1) (z := u5417 + 1) xnm0 xnm0 (by omega)) ?_
                refine xg_iastK (n := 5) (u := u5417 + 1) ((((((h85_37.fr hF5111 (by decide)).fr hF5158 (by decide)).fr hF5202 (by decide)).fr hF5213 (by decide)).fr hF5259 (by decide)).fr hF5363 (by decide)) xnm0 xnm0 rfl (by omega) (fun w5421 hr5422 hb5423 => ?_)
                refine xg_t (xg_aload (va := (2, 82)) rfl rfl) ?_
                refine xg_t (xg_dup rfl) ?_
                refine xg_t (xg_getf (va := (0, f82_5395)) (hb5423.get (by decide) h82_5407) rfl) ?_
                refine xg_t (xg_const) ?_
                refine xg_t (xg_iadd (u := f82_5395) (v := 1) (z := f82_5395 + 1) xnm0 xnm0 (by omega)) ?_
                refine xg_putI (fl1 := [(2, 83), (2, 84), (0, f82_5377), (0, f82_5379), (0, f82_5381), (0, f82_5383), (0, f82_5385), (0, f82_5387), (0, f82_5389), (0, f82_5391), (0, f82_5393), (2, 85), (2, 86), (2, 87), (0, f82_5395 + 1), (2, 88), (2, 89), (2, 90), (2, 91), (2, 92), (2, 93), (2, 94), (4, f82_5397), (4, f82_5398), (0, f82_5399), (2, 95), (2, 96), (2, 97), (2, 98), (2, 99), (2, 100), (2, 101), (2, 102), (0, f82_5401), (2, 103), (2, 104), (2, 105), (2, 106), (2, 107), (2, 108), (2, 109), (0, f82_5403), (0, f82_5405), (2, 110), (2, 111), (2, 112), (2, 113)]) (hb5423.get (by decide) h82_5407) rfl rfl rfl (fun w5424 hk5425 hb5426 => ?_)
                have hF5427 : xFr [82, 85] w5360 w5424 := ((xFr.of (S := [82, 85]) hb5423 (by decide)).tr (xFr.of (S := [82, 85]) hb5426 (by decide)))
                have hA5428 := FA_fr hF5427 (by decide)
                have hf5429 : fld w5424 82 4 = f82_5381 := fld_of hk5425
                have hf5430 : fld w5424 82 5 = f82_5383 := fld_of hk5425
                have hf5431 : fld w5424 82 7 = f82_5387 := fld_of hk5425
                have hf5432 : fld w5424 82 10 = f82_5393 := fld_of hk5425
                have hf5433 : fld w5424 82 14 = f82_5395 + 1 := fld_of hk5425
                have hu5434 : mu w5424 = 2 * (fld w5424 82 4 - fld w5424 82 5) + min 1 (fld w5424 82 7) := rfl
                have pq5435 := pk5370
                unfold PK PS at pq5435
                have hM5436 : ∀ s, s < 7 → s ≠ 5 → rwv w5424 85 s = rwv w 85 s := fun s hs hn => (rwv_of (hr5422.but hb5426 (by decide)) hs).trans ((if_neg hn).trans (rwv_of h85_37 hs).symm)
                have hM5437 : rwv w5424 85 5 = u5101 + 1 := (rwv_of (hr5422.but hb5426 (by decide)) (by decide)).trans ((if_pos rfl).trans (by omega))
                have hM5438 : ∀ s, s < 7 → rwv w5424 85 s ≤ rwv w 85 s + 1 := fun s hs => by
                  by_cases z : s = 5
                  · subst z; omega
                  · rw [hM5436 s hs z]; omega
                have hO5439 : ∀ j, (j < 7 ∨ 9 ≤ j) → j < 140 → rwv w5424 86 j = rwv w 86 j := fun j hj hl => (rwv_fr hF5427 (by decide)).trans (os5371 j hj hl)
                have hl5441 : u5101 < 1 → rwv w5424 86 (7) = n5159 := fun h => (rwv_fr hF5427 (by decide)).trans (ix5372 h)
                have hl5442 : u5101 < 1 → rwv w5424 86 (8) = n5214 := fun h => (rwv_fr hF5427 (by decide)).trans (ix5373 h)
                have hl5443 : FA w5360 ≠ 0 ∨ (1 ≤ n5159 ∧ n5159 ≤ 10) := rg5374
                have hl5444 : FA w5360 ≠ 0 ∨ (1 ≤ n5214 ∧ n5214 ≤ 10) := rg5375
                have hN5440 : FA w5424 ≠ 0 ∨ 1 ≤ u5101 ∨ (1 ≤ rwv w5424 86 7 ∧ rwv w5424 86 7 ≤ 10 ∧ 1 ≤ rwv w5424 86 8 ∧ rwv w5424 86 8 ≤ 10) := by omega
                have hX5445 : FA w5424 ≠ 0 ∨ u5101 < 1 := by omega
                have hD5446 : FA w5424 ≠ 0 ∨ (DATA w → DATA w5424) := by
                  by_cases z : FA w5424 ≠ 0
                  · exact Or.inl z
                  · exact Or.inr (fun hd => hd.s5 hM5436 hK5104 hM5437 (hX5445.resolve_left z) hO5439 ((hN5440.resolve_left z).resolve_left (by have := hX5445.resolve_left z; omega)))
                exact xg_e ⟨w5424, ⟨rfl, rfl⟩, xMnv.up (S := [85, 82]) hI5362 ((xFr.of (S := [85, 82]) hb5423 (by decide)).tr (xFr.of (S := [85, 82]) hb5426 (by decide))) (List.forall_mem_cons.mpr ⟨(show cpI 7 52 4294967295 (wget w5424 85) from ⟨_, (hr5422.but hb5426 (by decide)), xrb (by omega) (hb38)⟩), List.forall_mem_cons.mpr ⟨(show cp82 (wget w5424 82) from ⟨f82_5377, f82_5379, f82_5381, f82_5383, f82_5385, f82_5387, f82_5389, f82_5391, f82_5393, f82_5395 + 1, f82_5397, f82_5398, f82_5399, f82_5401, f82_5403, f82_5405, hk5425, by omega, by omega, by omega, by omega, by omega, by omega, by omega, by omega, by omega, by omega, by omega, by omega, by omega, by omega, by omega⟩), fun _ h => absurd h List.not_mem_nil⟩⟩), (((((((hF5111.up (by decide)).tr (hF5158.up (by decide))).tr (hF5202.up (by decide))).tr (hF5213.up (by decide))).tr (hF5259.up (by decide))).tr (hF5363.up (by decide))).tr ((xFr.of (S := [82, 83, 85, 86, 87]) hb5423 (by decide)).tr (xFr.of (S := [82, 83, 85, 86, 87]) hb5426 (by decide)))), ⟨fun h => by have := pq5435.1 h; omega, (show fld w5424 82 10 = 0 ∨ FA w5424 ≠ 0 by omega), Or.inr ⟨by have := ms5376; omega, by omega, hM5438⟩, hD5446⟩⟩
            · refine xg_t (xg_ifT (u := f82_5240) rfl xnm0 (xj_neT hc5269)) ?_
              refine xg_t (xg_blk (b := [(416, 1, 0, 0, 0, 0), (417, 3, 13, 140, 96, 183)]) rfl) ?_
              refine xg_t (xg_aload (va := (2, 82)) rfl rfl) ?_
              refine xg_cVv mX12_ends (vs := []) (rest := []) (cn1 := 0) (sl1 := 0) rfl (mEnds (hI5258) pk5263.2.2.2) rfl (hF5259.get (by decide) h82_5254) rfl rfl rfl rfl rfl rfl (fun w5447 hq5448 => ?_)
              obtain ⟨hI5449, hF5450, hx5451⟩ := hq5448
              obtain ⟨hv5452, hv5453, hv5454, hv5455⟩ := hx5451
              have pk5456 : PK w5256 w5447 := ⟨fun _ => hv5452, by omega, by omega, Or.inr hv5452⟩
              have pk5457 : PK w w5447 := PK.tr pk5263 pk5456
              have os5458 : ∀ j, (j < 7 ∨ 9 ≤ j) → j < 140 → rwv w5447 86 j = rwv w 86 j := fun j hj hl => (rwv_fr hF5450 (by decide)).trans (os5264 j hj hl)
              have ix5459 : u5101 < 1 → rwv w5447 86 (7) = n5159 := fun h => (rwv_fr hF5450 (by decide)).trans (ix5265 h)
              have ix5460 : u5101 < 1 → rwv w5447 86 (8) = n5214 := fun h => (rwv_fr hF5450 (by decide)).trans (hp5261 h)
              have rg5461 : FA w5447 ≠ 0 ∨ (1 ≤ n5159 ∧ n5159 ≤ 10) := rg5266.imp_left pk5456.1
              have rg5462 : FA w5447 ≠ 0 ∨ (1 ≤ n5214 ∧ n5214 ≤ 10) := rg5267.imp_left pk5456.1
              have ms5463 : mu w5447 < mu w := Nat.lt_of_le_of_lt pk5456.2.1 ms5268
              refine xg_t (xg_blk (b := [(420, 1, 0, 0, 0, 0), (421, 3, 1, 12, 11, 17), (424, 1, 2, 1, 0, 0), (425, 1, 39, 0, 0, 0), (426, 1, 10, 0, 0, 0), (427, 1, 3, 1, 0, 0), (428, 1, 11, 0, 0, 0), (429, 1, 17, 0, 0, 0), (430, 1, 0, 0, 0, 0), (431, 1, 19, 0, 0, 0), (432, 3, 1, 12, 14, 212), (435, 1, 3, 1, 0, 0), (436, 1, 11, 0, 0, 0), (437, 3, 14, 12, 14, 212), (440, 1, 12, 0, 0, 0)]) rfl) ?_
              obtain ⟨f82_5464, f82_5466, f82_5468, f82_5470, f82_5472, f82_5474, f82_5476, f82_5478, f82_5480, f82_5482, f82_5484, f82_5485, f82_5486, f82_5488, f82_5490, f82_5492, h82_5494, hb5465, hb5467, hb5469, hb5471, hb5473, hb5475, hb5477, hb5479, hb5481, hb5483, hb5487, hb5489, hb5491, hb5493, hb5495⟩ := (hI5449 82 (by decide) (by decide) : cp82 (wget w5447 82))
              have hf5496 : fld w5447 82 4 = f82_5468 := fld_of h82_5494
              have hf5497 : fld w5447 82 5 = f82_5470 := fld_of h82_5494
              have hf5498 : fld w5447 82 7 = f82_5474 := fld_of h82_5494
              have hf5499 : fld w5447 82 10 = f82_5480 := fld_of h82_5494
              have hf5500 : fld w5447 82 14 = f82_5482 := fld_of h82_5494
              have hu5501 : mu w5447 = 2 * (fld w5447 82 4 - fld w5447 82 5) + min 1 (fld w5447 82 7) := rfl
              have hf5502 := pk5457.2.2.1
              have hl5503 : f82_5482 ≤ 1000 := by omega
              refine xg_t (xg_aload (va := (2, 82)) rfl rfl) ?_
              refine xg_t (xg_getf (va := (2, 85)) h82_5494 rfl) ?_
              refine xg_t (xg_iload (va := (0, 5)) rfl rfl) ?_
              refine xg_t (xg_dup2 rfl) ?_
              refine xg_ialdB (n := 5) (B := 4294967295) ((((((h85_37.fr hF5111 (by decide)).fr hF5158 (by decide)).fr hF5202 (by decide)).fr hF5213 (by decide)).fr hF5259 (by decide)).fr hF5450 (by decide)) (hb38) xnm0 (by omega) (fun u5504 hu5505 he5506 => ?_)
              have hl5507 : u5504 = u5101 := by omega
              refine xg_t (xg_const) ?_
              refine xg_t (xg_iadd (u := u5504) (v := 1) (z := u5504 + 1) xnm0 xnm0 (by omega)) ?_
              refine xg_iastK (n := 5) (u := u5504 + 1) ((((((h85_37.fr hF5111 (by decide)).fr hF5158 (by decide)).fr hF5202 (by decide)).fr hF5213 (by decide)).fr hF5259 (by decide)).fr hF5450 (by decide)) xnm0 xnm0 rfl (by omega) (fun w5508 hr5509 hb5510 => ?_)
              refine xg_t (xg_aload (va := (2, 82)) rfl rfl) ?_
              refine xg_t (xg_dup rfl) ?_
              refine xg_t (xg_getf (va := (0, f82_5482)) (hb5510.get (by decide) h82_5494) rfl) ?_
              refine xg_t (xg_const) ?_
              refine xg_t (xg_iadd (u := f82_5482) (v := 1) (z := f82_5482 + 1) xnm0 xnm0 (by omega)) ?_
              refine xg_putI (fl1 := [(2, 83), (2, 84), (0, f82_5464), (0, f82_5466), (0, f82_5468), (0, f82_5470), (0, f82_5472), (0, f82_5474), (0, f82_5476), (0, f82_5478), (0, f82_5480), (2, 85), (2, 86), (2, 87), (0, f82_5482 + 1), (2, 88), (2, 89), (2, 90), (2, 91), (2, 92), (2, 93), (2, 94), (4, f82_5484), (4, f82_5485), (0, f82_5486), (2, 95), (2, 96), (2, 97), (2, 98), (2, 99), (2, 100), (2, 101), (2, 102), (0, f82_5488), (2, 103), (2, 104), (2, 105), (2, 106), (2, 107), (2, 108), (2, 109), (0, f82_5490), (0, f82_5492), (2, 110), (2, 111), (2, 112), (2, 113)]) (hb5510.get (by decide) h82_5494) rfl rfl rfl (fun w5511 hk5512 hb5513 => ?_)
              have hF5514 : xFr [82, 85] w5447 w5511 := ((xFr.of (S := [82, 85]) hb5510 (by decide)).tr (xFr.of (S := [82, 85]) hb5513 (by decide)))
              have hA5515 := FA_fr hF5514 (by decide)
              have hf5516 : fld w5511 82 4 = f82_5468 := fld_of hk5512
              have hf5517 : fld w5511 82 5 = f82_5470 := fld_of hk5512
              have hf5518 : fld w5511 82 7 = f82_5474 := fld_of hk5512
              have hf5519 : fld w5511 82 10 = f82_5480 := fld_of hk5512
              have hf5520 : fld w5511 82 14 = f82_5482 + 1 := fld_of hk5512
              have hu5521 : mu w5511 = 2 * (fld w5511 82 4 - fld w5511 82 5) + min 1 (fld w5511 82 7) := rfl
              have pq5522 := pk5457
              unfold PK PS at pq5522
              have hM5523 : ∀ s, s < 7 → s ≠ 5 → rwv w5511 85 s = rwv w 85 s := fun s hs hn => (rwv_of (hr5509.but hb5513 (by decide)) hs).trans ((if_neg hn).trans (rwv_of h85_37 hs).symm)
              have hM5524 : rwv w5511 85 5 = u5101 + 1 := (rwv_of (hr5509.but hb5513 (by decide)) (by decide)).trans ((if_pos rfl).trans (by omega))
              have hM5525 : ∀ s, s < 7 → rwv w5511 85 s ≤ rwv w 85 s + 1 := fun s hs => by
                by_cases z : s = 5
                · subst z; omega
                · rw [hM5523 s hs z]; omega
              have hO5526 : ∀ j, (j < 7 ∨ 9 ≤ j) → j < 140 → rwv w5511 86 j = rwv w 86 j := fun j hj hl => (rwv_fr hF5514 (by decide)).trans (os5458 j hj hl)
              have hl5528 : u5101 < 1 → rwv w5511 86 (7) = n5159 := fun h => (rwv_fr hF5514 (by decide)).trans (ix5459 h)
              have hl5529 : u5101 < 1 → rwv w5511 86 (8) = n5214 := fun h => (rwv_fr hF5514 (by decide)).trans (ix5460 h)
              have hl5530 : FA w5447 ≠ 0 ∨ (1 ≤ n5159 ∧ n5159 ≤ 10) := rg5461
              have hl5531 : FA w5447 ≠ 0 ∨ (1 ≤ n5214 ∧ n5214 ≤ 10) := rg5462
              have hN5527 : FA w5511 ≠ 0 ∨ 1 ≤ u5101 ∨ (1 ≤ rwv w5511 86 7 ∧ rwv w5511 86 7 ≤ 10 ∧ 1 ≤ rwv w5511 86 8 ∧ rwv w5511 86 8 ≤ 10) := by omega
              have hX5532 : FA w5511 ≠ 0 ∨ u5101 < 1 := by omega
              have hD5533 : FA w5511 ≠ 0 ∨ (DATA w → DATA w5511) := by
                by_cases z : FA w5511 ≠ 0
                · exact Or.inl z
                · exact Or.inr (fun hd => hd.s5 hM5523 hK5104 hM5524 (hX5532.resolve_left z) hO5526 ((hN5527.resolve_left z).resolve_left (by have := hX5532.resolve_left z; omega)))
              exact xg_e ⟨w5511, ⟨rfl, rfl⟩, xMnv.up (S := [85, 82]) hI5449 ((xFr.of (S := [85, 82]) hb5510 (by decide)).tr (xFr.of (S := [85, 82]) hb5513 (by decide))) (List.forall_mem_cons.mpr ⟨(show cpI 7 52 4294967295 (wget w5511 85) from ⟨_, (hr5509.but hb5513 (by decide)), xrb (by omega) (hb38)⟩), List.forall_mem_cons.mpr ⟨(show cp82 (wget w5511 82) from ⟨f82_5464, f82_5466, f82_5468, f82_5470, f82_5472, f82_5474, f82_5476, f82_5478, f82_5480, f82_5482 + 1, f82_5484, f82_5485, f82_5486, f82_5488, f82_5490, f82_5492, hk5512, by omega, by omega, by omega, by omega, by omega, by omega, by omega, by omega, by omega, by omega, by omega, by omega, by omega, by omega, by omega⟩), fun _ h => absurd h List.not_mem_nil⟩⟩), (((((((hF5111.up (by decide)).tr (hF5158.up (by decide))).tr (hF5202.up (by decide))).tr (hF5213.up (by decide))).tr (hF5259.up (by decide))).tr (hF5450.up (by decide))).tr ((xFr.of (S := [82, 83, 85, 86, 87]) hb5510 (by decide)).tr (xFr.of (S := [82, 83, 85, 86, 87]) hb5513 (by decide)))), ⟨fun h => by have := pq5522.1 h; omega, (show fld w5511 82 10 = 0 ∨ FA w5511 ≠ 0 by omega), Or.inr ⟨by have := ms5463; omega, by omega, hM5525⟩, hD5533⟩⟩
          · refine xg_t (xg_icF (u := u5101) (v := 1) rfl xnm0 xnm0 (xj_ltF (by omega) (by omega))) ?_
            refine xg_t (xg_aload (va := (2, 82)) rfl rfl) ?_
            refine xg_t (xg_const) ?_
            refine xg_t (xg_iload (va := (0, f82_9)) rfl rfl) ?_
            refine xg_cVv mX12_also (vs := [(0, 3), (0, f82_9)]) (rest := []) (cn1 := 0) (sl1 := 0) rfl (mAlso (hI) (by omega) (by omega) (by omega) (PK.rf hps).2.2.2) rfl h82_31 rfl rfl rfl rfl rfl rfl (fun w5534 hq5535 => ?_)
            obtain ⟨hI5536, hF5537, hx5538⟩ := hq5535
            have pk5539 : PK w w5534 := ⟨fun _ => hx5538, Nat.le_of_eq (mu_fr hF5537 (by decide)), fld_fr hF5537 (by decide), Or.inr hx5538⟩
            have pk5540 : PK w w5534 := PK.tr (PK.rf hps) pk5539
            have os5541 : ∀ j, (j < 7 ∨ 9 ≤ j) → j < 140 → rwv w5534 86 j = rwv w 86 j := fun j hj hl => (rwv_fr hF5537 (by decide)).trans ((fun j _ _ => rfl) j hj hl)
            have hf5542 := fld_fr (c := 82) (j := 7) hF5537 (by decide)
            refine xg_t (xg_blk (b := [(64, 1, 0, 0, 0, 0), (65, 3, 13, 110, 96, 190), (68, 1, 2, 1, 0, 0), (69, 39, 33, 362, 0, 9)]) rfl) ?_
            refine xg_t (xg_aload (va := (2, 82)) rfl rfl) ?_
            refine xg_cVv mX12_advance (vs := []) (rest := []) (cn1 := 0) (sl1 := 0) rfl (mAdvance (hI5536)) rfl (hF5537.get (by decide) h82_31) rfl rfl rfl rfl rfl rfl (fun w5543 hq5544 => ?_)
            obtain ⟨hI5545, hF5546, hx5547⟩ := hq5544
            obtain ⟨hv5548, hv5549, hv5550, hv5551⟩ := hx5547
            have hf5553 := FA_fr hF5546 (by decide)
            have hs5554 := pk5540.2.2.2
            unfold PS at hs5554
            have pk5552 : PK w5534 w5543 := ⟨fun _ => by omega, hv5548, hv5551, (show fld w5543 82 10 = 0 ∨ FA w5543 ≠ 0 by omega)⟩
            have pk5555 : PK w w5543 := PK.tr pk5540 pk5552
            have os5556 : ∀ j, (j < 7 ∨ 9 ≤ j) → j < 140 → rwv w5543 86 j = rwv w 86 j := fun j hj hl => (rwv_fr hF5546 (by decide)).trans (os5541 j hj hl)
            have rg5557 : FA w5543 ≠ 0 ∨ False := (Or.inl hx5538 : FA w5534 ≠ 0 ∨ False).imp_left pk5552.1
            have ms5558 : mu w5543 < mu w := Nat.lt_of_lt_of_le (hv5549 (by omega)) pk5540.2.1
            refine xg_t (xg_iload (va := (0, 5)) rfl rfl) ?_
            refine xg_t (xg_swt (ks := [(0, 108), (1, 116), (2, 180), (3, 221), (4, 273), (5, 326)]) (u := 5) (z := 326) rfl rfl rfl xnm0 (xsw_n (by omega) (xsw_n (by omega) (xsw_n (by omega) (xsw_n (by omega) (xsw_n (by omega) (xsw_y rfl))))))) ?_
            refine xg_t (xg_blk (b := [(326, 1, 3, 0, 0, 0), (327, 2, 15, 4, 0, 0)]) rfl) ?_
            refine xg_t (xg_const) ?_
            refine xg_t (xg_istore (l1 := [(3, (0, u5101)), (2, (0, f82_9)), (1, (0, 5)), (0, (2, 82))]) rfl rfl rfl) ?_
            refine xg_t (xg_blk (b := [(329, 2, 2, 4, 0, 0), (331, 1, 3, 2, 0, 0), (332, 3, 6, 359, 3, 0), (335, 1, 0, 0, 0, 0), (336, 1, 2, 1, 0, 0), (337, 1, 2, 3, 0, 0), (338, 2, 4, 7, 0, 0), (340, 2, 2, 4, 0, 0), (342, 1, 11, 0, 0, 0), (343, 1, 0, 0, 0, 0), (344, 1, 3, 1, 0, 0), (345, 2, 4, 10, 0, 0), (347, 3, 13, 199, 96, 196), (350, 3, 13, 211, 96, 200), (353, 3, 9, 4, 1, 0), (356, 3, 8, 329, 0, 0)]) rfl) ?_
            refine xg_t (xg_iload (va := (0, 0)) rfl rfl) ?_
            refine xg_t (xg_const) ?_
            refine xg_t (xg_icF (u := 0) (v := 2) rfl xnm0 xnm0 (by decide)) ?_
            refine xg_t (xg_aload (va := (2, 82)) rfl rfl) ?_
            refine xg_t (xg_iload (va := (0, 5)) rfl rfl) ?_
            refine xg_t (xg_iload (va := (0, u5101)) rfl rfl) ?_
            refine xg_t (xg_bip) ?_
            refine xg_t (xg_iload (va := (0, 0)) rfl rfl) ?_
            refine xg_t (xg_iadd (u := 7) (v := 0) (z := 7) xnm0 xnm0 (by decide)) ?_
            refine xg_t (xg_aload (va := (2, 82)) rfl rfl) ?_
            refine xg_t (xg_const) ?_
            refine xg_t (xg_bip) ?_
            obtain ⟨f82_5559, f82_5561, f82_5563, f82_5565, f82_5567, f82_5569, f82_5571, f82_5573, f82_5575, f82_5577, f82_5579, f82_5580, f82_5581, f82_5583, f82_5585, f82_5587, h82_5589, hb5560, hb5562, hb5564, hb5566, hb5568, hb5570, hb5572, hb5574, hb5576, hb5578, hb5582, hb5584, hb5586, hb5588, hb5590⟩ := (hI5545 82 (by decide) (by decide) : cp82 (wget w5543 82))
            refine xg_cVi mX12_numbered (vs := [(0, 1), (0, 10)]) (rest := [(0, 7), (0, u5101), (0, 5), (2, 82)]) (cn1 := 0) (sl1 := 0) rfl (mNumbered (hI5545) (by omega) (by omega) pk5555.2.2.2) rfl h82_5589 rfl rfl rfl rfl rfl rfl (fun n5595 w5591 hq5592 => ?_)
            obtain ⟨hn5596, hI5593, hF5594⟩ := hq5592
            obtain ⟨hn5597, hn5598, hn5599⟩ := hn5596
            have pk5600 : PK w w5591 := PK.tr pk5555 hn5598
            have os5601 : ∀ j, (j < 7 ∨ 9 ≤ j) → j < 140 → rwv w5591 86 j = rwv w 86 j := fun j hj hl => (rwv_fr hF5594 (by decide)).trans (os5556 j hj hl)
            have rg5602 : FA w5591 ≠ 0 ∨ False := rg5557.imp_left hn5598.1
            have ms5603 : mu w5591 < mu w := Nat.lt_of_le_of_lt hn5598.2.1 ms5558
            obtain ⟨f82_5604, f82_5606, f82_5608, f82_5610, f82_5612, f82_5614, f82_5616, f82_5618, f82_5620, f82_5622, f82_5624, f82_5625, f82_5626, f82_5628, f82_5630, f82_5632, h82_5634, hb5605, hb5607, hb5609, hb5611, hb5613, hb5615, hb5617, hb5619, hb5621, hb5623, hb5627, hb5629, hb5631, hb5633, hb5635⟩ := (hI5593 82 (by decide) (by decide) : cp82 (wget w5591 82))
            refine xg_cVv mX12_puts (vs := [(0, 5), (0, u5101), (0, 7), (0, n5595)]) (rest := []) (cn1 := 0) (sl1 := 0) rfl (mPuts5 (hI5593) (by omega) (by omega) (by omega) (fun _ => by omega)) rfl h82_5634 rfl rfl rfl rfl rfl rfl (fun w5636 hq5637 => ?_)
            obtain ⟨hI5638, hF5639, hx5640⟩ := hq5637
            obtain ⟨hp5641, hp5642⟩ := hx5640
            have pk5643 : PK w w5636 := PK.tr pk5600 (PK.fr hF5639 (by decide) (by decide) pk5600.2.2.2)
            have os5644 : ∀ j, (j < 7 ∨ 9 ≤ j) → j < 140 → rwv w5636 86 j = rwv w 86 j := fun j hj hl => (hp5642 j (by omega) hl).trans (os5601 j hj hl)
            have rg5645 : FA w5636 ≠ 0 ∨ False := rg5602.imp_left (PK.fr hF5639 (by decide) (by decide) pk5600.2.2.2).1
            have rg5646 : FA w5636 ≠ 0 ∨ (1 ≤ n5595 ∧ n5595 ≤ 10) := hn5599.imp_left (PK.fr hF5639 (by decide) (by decide) pk5600.2.2.2).1
            have ms5647 : mu w5636 < mu w := Nat.lt_of_le_of_lt (PK.fr hF5639 (by decide) (by decide) pk5600.2.2.2).2.1 ms5603
            refine xg_t (xg_iinc (u := 0) (z := 1) (l1 := [(3, (0, u5101)), (2, (0, f82_9)), (1, (0, 5)), (0, (2, 82))]) rfl rfl (by decide) rfl) ?_
            refine xg_t (xg_goto) ?_
            refine xg_t (xg_blk (b := [(329, 2, 2, 4, 0, 0), (331, 1, 3, 2, 0, 0), (332, 3, 6, 359, 3, 0), (335, 1, 0, 0, 0, 0), (336, 1, 2, 1, 0, 0), (337, 1, 2, 3, 0, 0), (338, 2, 4, 7, 0, 0), (340, 2, 2, 4, 0, 0), (342, 1, 11, 0, 0, 0), (343, 1, 0, 0, 0, 0), (344, 1, 3, 1, 0, 0), (345, 2, 4, 10, 0, 0), (347, 3, 13, 199, 96, 196), (350, 3, 13, 211, 96, 200), (353, 3, 9, 4, 1, 0), (356, 3, 8, 329, 0, 0)]) rfl) ?_
            refine xg_t (xg_iload (va := (0, 1)) rfl rfl) ?_
            refine xg_t (xg_const) ?_
            refine xg_t (xg_icF (u := 1) (v := 2) rfl xnm0 xnm0 (by decide)) ?_
            refine xg_t (xg_aload (va := (2, 82)) rfl rfl) ?_
            refine xg_t (xg_iload (va := (0, 5)) rfl rfl) ?_
            refine xg_t (xg_iload (va := (0, u5101)) rfl rfl) ?_
            refine xg_t (xg_bip) ?_
            refine xg_t (xg_iload (va := (0, 1)) rfl rfl) ?_
            refine xg_t (xg_iadd (u := 7) (v := 1) (z := 8) xnm0 xnm0 (by decide)) ?_
            refine xg_t (xg_aload (va := (2, 82)) rfl rfl) ?_
            refine xg_t (xg_const) ?_
            refine xg_t (xg_bip) ?_
            refine xg_cVi mX12_numbered (vs := [(0, 1), (0, 10)]) (rest := [(0, 8), (0, u5101), (0, 5), (2, 82)]) (cn1 := 0) (sl1 := 0) rfl (mNumbered (hI5638) (by omega) (by omega) pk5643.2.2.2) rfl (hF5639.get (by decide) h82_5634) rfl rfl rfl rfl rfl rfl (fun n5652 w5648 hq5649 => ?_)
            obtain ⟨hn5653, hI5650, hF5651⟩ := hq5649
            obtain ⟨hn5654, hn5655, hn5656⟩ := hn5653
            have pk5657 : PK w w5648 := PK.tr pk5643 hn5655
            have os5658 : ∀ j, (j < 7 ∨ 9 ≤ j) → j < 140 → rwv w5648 86 j = rwv w 86 j := fun j hj hl => (rwv_fr hF5651 (by decide)).trans (os5644 j hj hl)
            have ix5659 : u5101 < 1 → rwv w5648 86 (7) = n5595 := fun h => (rwv_fr hF5651 (by decide)).trans (hp5641 h)
            have rg5660 : FA w5648 ≠ 0 ∨ False := rg5645.imp_left hn5655.1
            have rg5661 : FA w5648 ≠ 0 ∨ (1 ≤ n5595 ∧ n5595 ≤ 10) := rg5646.imp_left hn5655.1
            have ms5662 : mu w5648 < mu w := Nat.lt_of_le_of_lt hn5655.2.1 ms5647
            obtain ⟨f82_5663, f82_5665, f82_5667, f82_5669, f82_5671, f82_5673, f82_5675, f82_5677, f82_5679, f82_5681, f82_5683, f82_5684, f82_5685, f82_5687, f82_5689, f82_5691, h82_5693, hb5664, hb5666, hb5668, hb5670, hb5672, hb5674, hb5676, hb5678, hb5680, hb5682, hb5686, hb5688, hb5690, hb5692, hb5694⟩ := (hI5650 82 (by decide) (by decide) : cp82 (wget w5648 82))
            refine xg_cVv mX12_puts (vs := [(0, 5), (0, u5101), (0, 8), (0, n5652)]) (rest := []) (cn1 := 0) (sl1 := 0) rfl (mPuts5 (hI5650) (by omega) (by omega) (by omega) (fun _ => by omega)) rfl h82_5693 rfl rfl rfl rfl rfl rfl (fun w5695 hq5696 => ?_)
            obtain ⟨hI5697, hF5698, hx5699⟩ := hq5696
            obtain ⟨hp5700, hp5701⟩ := hx5699
            have pk5702 : PK w w5695 := PK.tr pk5657 (PK.fr hF5698 (by decide) (by decide) pk5657.2.2.2)
            have os5703 : ∀ j, (j < 7 ∨ 9 ≤ j) → j < 140 → rwv w5695 86 j = rwv w 86 j := fun j hj hl => (hp5701 j (by omega) hl).trans (os5658 j hj hl)
            have ix5704 : u5101 < 1 → rwv w5695 86 (7) = n5595 := fun h => (hp5701 _ (by omega) (by omega)).trans (ix5659 h)
            have rg5705 : FA w5695 ≠ 0 ∨ False := rg5660.imp_left (PK.fr hF5698 (by decide) (by decide) pk5657.2.2.2).1
            have rg5706 : FA w5695 ≠ 0 ∨ (1 ≤ n5595 ∧ n5595 ≤ 10) := rg5661.imp_left (PK.fr hF5698 (by decide) (by decide) pk5657.2.2.2).1
            have rg5707 : FA w5695 ≠ 0 ∨ (1 ≤ n5652 ∧ n5652 ≤ 10) := hn5656.imp_left (PK.fr hF5698 (by decide) (by decide) pk5657.2.2.2).1
            have ms5708 : mu w5695 < mu w := Nat.lt_of_le_of_lt (PK.fr hF5698 (by decide) (by decide) pk5657.2.2.2).2.1 ms5662
            refine xg_t (xg_iinc (u := 1) (z := 2) (l1 := [(3, (0, u5101)), (2, (0, f82_9)), (1, (0, 5)), (0, (2, 82))]) rfl rfl (by decide) rfl) ?_
            refine xg_t (xg_goto) ?_
            refine xg_t (xg_blk (b := [(329, 2, 2, 4, 0, 0), (331, 1, 3, 2, 0, 0), (332, 3, 6, 359, 3, 0), (335, 1, 0, 0, 0, 0), (336, 1, 2, 1, 0, 0), (337, 1, 2, 3, 0, 0), (338, 2, 4, 7, 0, 0), (340, 2, 2, 4, 0, 0), (342, 1, 11, 0, 0, 0), (343, 1, 0, 0, 0, 0), (344, 1, 3, 1, 0, 0), (345, 2, 4, 10, 0, 0), (347, 3, 13, 199, 96, 196), (350, 3, 13, 211, 96, 200), (353, 3, 9, 4, 1, 0), (356, 3, 8, 329, 0, 0)]) rfl) ?_
            refine xg_t (xg_iload (va := (0, 2)) rfl rfl) ?_
            refine xg_t (xg_const) ?_
            refine xg_t (xg_icT (u := 2) (v := 2) rfl xnm0 xnm0 (by decide)) ?_
            refine xg_t (xg_blk (b := [(359, 3, 8, 394, 0, 0)]) rfl) ?_
            refine xg_t (xg_goto) ?_
            refine xg_t (xg_blk (b := [(394, 1, 0, 0, 0, 0), (395, 3, 1, 12, 10, 180), (398, 3, 7, 416, 1, 0), (401, 1, 0, 0, 0, 0), (402, 3, 1, 12, 7, 151), (405, 1, 3, 2, 0, 0), (406, 3, 6, 416, 1, 0), (409, 1, 0, 0, 0, 0), (410, 3, 13, 110, 96, 190), (413, 3, 8, 420, 0, 0)]) rfl) ?_
            refine xg_t (xg_aload (va := (2, 82)) rfl rfl) ?_
            refine xg_t (xg_getf (va := (0, f82_5679)) (hF5698.get (by decide) h82_5693) rfl) ?_
            by_cases hc5709 : f82_5679 = 0
            · refine xg_t (xg_ifF (u := f82_5679) rfl xnm0 (xj_neF hc5709)) ?_
              refine xg_t (xg_aload (va := (2, 82)) rfl rfl) ?_
              refine xg_t (xg_getf (va := (0, f82_5673)) (hF5698.get (by decide) h82_5693) rfl) ?_
              refine xg_t (xg_const) ?_
              by_cases hc5710 : f82_5673 = 2
              · refine xg_t (xg_icF (u := f82_5673) (v := 2) rfl xnm0 xnm0 (xj_neF hc5710)) ?_
                refine xg_t (xg_aload (va := (2, 82)) rfl rfl) ?_
                refine xg_cVv mX12_advance (vs := []) (rest := []) (cn1 := 0) (sl1 := 0) rfl (mAdvance (hI5697)) rfl (hF5698.get (by decide) h82_5693) rfl rfl rfl rfl rfl rfl (fun w5711 hq5712 => ?_)
                obtain ⟨hI5713, hF5714, hx5715⟩ := hq5712
                obtain ⟨hv5716, hv5717, hv5718, hv5719⟩ := hx5715
                have hf5721 := FA_fr hF5714 (by decide)
                have hs5722 := pk5702.2.2.2
                unfold PS at hs5722
                have pk5720 : PK w5695 w5711 := ⟨fun _ => by omega, hv5716, hv5719, (show fld w5711 82 10 = 0 ∨ FA w5711 ≠ 0 by omega)⟩
                have pk5723 : PK w w5711 := PK.tr pk5702 pk5720
                have os5724 : ∀ j, (j < 7 ∨ 9 ≤ j) → j < 140 → rwv w5711 86 j = rwv w 86 j := fun j hj hl => (rwv_fr hF5714 (by decide)).trans (os5703 j hj hl)
                have ix5725 : u5101 < 1 → rwv w5711 86 (7) = n5595 := fun h => (rwv_fr hF5714 (by decide)).trans (ix5704 h)
                have ix5726 : u5101 < 1 → rwv w5711 86 (8) = n5652 := fun h => (rwv_fr hF5714 (by decide)).trans (hp5700 h)
                have rg5727 : FA w5711 ≠ 0 ∨ False := rg5705.imp_left pk5720.1
                have rg5728 : FA w5711 ≠ 0 ∨ (1 ≤ n5595 ∧ n5595 ≤ 10) := rg5706.imp_left pk5720.1
                have rg5729 : FA w5711 ≠ 0 ∨ (1 ≤ n5652 ∧ n5652 ≤ 10) := rg5707.imp_left pk5720.1
                have ms5730 : mu w5711 < mu w := Nat.lt_of_le_of_lt pk5720.2.1 ms5708
                refine xg_t (xg_goto) ?_
                refine xg_t (xg_blk (b := [(420, 1, 0, 0, 0, 0), (421, 3, 1, 12, 11, 17), (424, 1, 2, 1, 0, 0), (425, 1, 39, 0, 0, 0), (426, 1, 10, 0, 0, 0), (427, 1, 3, 1, 0, 0), (428, 1, 11, 0, 0, 0), (429, 1, 17, 0, 0, 0), (430, 1, 0, 0, 0, 0), (431, 1, 19, 0, 0, 0), (432, 3, 1, 12, 14, 212), (435, 1, 3, 1, 0, 0), (436, 1, 11, 0, 0, 0), (437, 3, 14, 12, 14, 212), (440, 1, 12, 0, 0, 0)]) rfl) ?_
                obtain ⟨f82_5731, f82_5733, f82_5735, f82_5737, f82_5739, f82_5741, f82_5743, f82_5745, f82_5747, f82_5749, f82_5751, f82_5752, f82_5753, f82_5755, f82_5757, f82_5759, h82_5761, hb5732, hb5734, hb5736, hb5738, hb5740, hb5742, hb5744, hb5746, hb5748, hb5750, hb5754, hb5756, hb5758, hb5760, hb5762⟩ := (hI5713 82 (by decide) (by decide) : cp82 (wget w5711 82))
                have hf5763 : fld w5711 82 4 = f82_5735 := fld_of h82_5761
                have hf5764 : fld w5711 82 5 = f82_5737 := fld_of h82_5761
                have hf5765 : fld w5711 82 7 = f82_5741 := fld_of h82_5761
                have hf5766 : fld w5711 82 10 = f82_5747 := fld_of h82_5761
                have hf5767 : fld w5711 82 14 = f82_5749 := fld_of h82_5761
                have hu5768 : mu w5711 = 2 * (fld w5711 82 4 - fld w5711 82 5) + min 1 (fld w5711 82 7) := rfl
                have hf5769 := pk5723.2.2.1
                have hl5770 : f82_5749 ≤ 1000 := by omega
                refine xg_t (xg_aload (va := (2, 82)) rfl rfl) ?_
                refine xg_t (xg_getf (va := (2, 85)) h82_5761 rfl) ?_
                refine xg_t (xg_iload (va := (0, 5)) rfl rfl) ?_
                refine xg_t (xg_dup2 rfl) ?_
                refine xg_ialdB (n := 5) (B := 4294967295) (((((((h85_37.fr hF5537 (by decide)).fr hF5546 (by decide)).fr hF5594 (by decide)).fr hF5639 (by decide)).fr hF5651 (by decide)).fr hF5698 (by decide)).fr hF5714 (by decide)) (hb38) xnm0 (by omega) (fun u5771 hu5772 he5773 => ?_)
                have hl5774 : u5771 = u5101 := by omega
                refine xg_t (xg_const) ?_
                refine xg_t (xg_iadd (u := u5771) (v := 1) (z := u5771 + 1) xnm0 xnm0 (by omega)) ?_
                refine xg_iastK (n := 5) (u := u5771 + 1) (((((((h85_37.fr hF5537 (by decide)).fr hF5546 (by decide)).fr hF5594 (by decide)).fr hF5639 (by decide)).fr hF5651 (by decide)).fr hF5698 (by decide)).fr hF5714 (by decide)) xnm0 xnm0 rfl (by omega) (fun w5775 hr5776 hb5777 => ?_)
                refine xg_t (xg_aload (va := (2, 82)) rfl rfl) ?_
                refine xg_t (xg_dup rfl) ?_
                refine xg_t (xg_getf (va := (0, f82_5749)) (hb5777.get (by decide) h82_5761) rfl) ?_
                refine xg_t (xg_const) ?_
                refine xg_t (xg_iadd (u := f82_5749) (v := 1) (z := f82_5749 + 1) xnm0 xnm0 (by omega)) ?_
                refine xg_putI (fl1 := [(2, 83), (2, 84), (0, f82_5731), (0, f82_5733), (0, f82_5735), (0, f82_5737), (0, f82_5739), (0, f82_5741), (0, f82_5743), (0, f82_5745), (0, f82_5747), (2, 85), (2, 86), (2, 87), (0, f82_5749 + 1), (2, 88), (2, 89), (2, 90), (2, 91), (2, 92), (2, 93), (2, 94), (4, f82_5751), (4, f82_5752), (0, f82_5753), (2, 95), (2, 96), (2, 97), (2, 98), (2, 99), (2, 100), (2, 101), (2, 102), (0, f82_5755), (2, 103), (2, 104), (2, 105), (2, 106), (2, 107), (2, 108), (2, 109), (0, f82_5757), (0, f82_5759), (2, 110), (2, 111), (2, 112), (2, 113)]) (hb5777.get (by decide) h82_5761) rfl rfl rfl (fun w5778 hk5779 hb5780 => ?_)
                have hF5781 : xFr [82, 85] w5711 w5778 := ((xFr.of (S := [82, 85]) hb5777 (by decide)).tr (xFr.of (S := [82, 85]) hb5780 (by decide)))
                have hA5782 := FA_fr hF5781 (by decide)
                have hf5783 : fld w5778 82 4 = f82_5735 := fld_of hk5779
                have hf5784 : fld w5778 82 5 = f82_5737 := fld_of hk5779
                have hf5785 : fld w5778 82 7 = f82_5741 := fld_of hk5779
                have hf5786 : fld w5778 82 10 = f82_5747 := fld_of hk5779
                have hf5787 : fld w5778 82 14 = f82_5749 + 1 := fld_of hk5779
                have hu5788 : mu w5778 = 2 * (fld w5778 82 4 - fld w5778 82 5) + min 1 (fld w5778 82 7) := rfl
                have pq5789 := pk5723
                unfold PK PS at pq5789
                have hM5790 : ∀ s, s < 7 → s ≠ 5 → rwv w5778 85 s = rwv w 85 s := fun s hs hn => (rwv_of (hr5776.but hb5780 (by decide)) hs).trans ((if_neg hn).trans (rwv_of h85_37 hs).symm)
                have hM5791 : rwv w5778 85 5 = u5101 + 1 := (rwv_of (hr5776.but hb5780 (by decide)) (by decide)).trans ((if_pos rfl).trans (by omega))
                have hM5792 : ∀ s, s < 7 → rwv w5778 85 s ≤ rwv w 85 s + 1 := fun s hs => by
                  by_cases z : s = 5
                  · subst z; omega
                  · rw [hM5790 s hs z]; omega
                have hO5793 : ∀ j, (j < 7 ∨ 9 ≤ j) → j < 140 → rwv w5778 86 j = rwv w 86 j := fun j hj hl => (rwv_fr hF5781 (by decide)).trans (os5724 j hj hl)
                have hl5795 : u5101 < 1 → rwv w5778 86 (7) = n5595 := fun h => (rwv_fr hF5781 (by decide)).trans (ix5725 h)
                have hl5796 : u5101 < 1 → rwv w5778 86 (8) = n5652 := fun h => (rwv_fr hF5781 (by decide)).trans (ix5726 h)
                have hl5797 : FA w5711 ≠ 0 ∨ False := rg5727
                have hl5798 : FA w5711 ≠ 0 ∨ (1 ≤ n5595 ∧ n5595 ≤ 10) := rg5728
                have hl5799 : FA w5711 ≠ 0 ∨ (1 ≤ n5652 ∧ n5652 ≤ 10) := rg5729
                have hN5794 : FA w5778 ≠ 0 ∨ 1 ≤ u5101 ∨ (1 ≤ rwv w5778 86 7 ∧ rwv w5778 86 7 ≤ 10 ∧ 1 ≤ rwv w5778 86 8 ∧ rwv w5778 86 8 ≤ 10) := by omega
                have hX5800 : FA w5778 ≠ 0 ∨ u5101 < 1 := by omega
                have hD5801 : FA w5778 ≠ 0 ∨ (DATA w → DATA w5778) := by
                  by_cases z : FA w5778 ≠ 0
                  · exact Or.inl z
                  · exact Or.inr (fun hd => hd.s5 hM5790 hK5104 hM5791 (hX5800.resolve_left z) hO5793 ((hN5794.resolve_left z).resolve_left (by have := hX5800.resolve_left z; omega)))
                exact xg_e ⟨w5778, ⟨rfl, rfl⟩, xMnv.up (S := [85, 82]) hI5713 ((xFr.of (S := [85, 82]) hb5777 (by decide)).tr (xFr.of (S := [85, 82]) hb5780 (by decide))) (List.forall_mem_cons.mpr ⟨(show cpI 7 52 4294967295 (wget w5778 85) from ⟨_, (hr5776.but hb5780 (by decide)), xrb (by omega) (hb38)⟩), List.forall_mem_cons.mpr ⟨(show cp82 (wget w5778 82) from ⟨f82_5731, f82_5733, f82_5735, f82_5737, f82_5739, f82_5741, f82_5743, f82_5745, f82_5747, f82_5749 + 1, f82_5751, f82_5752, f82_5753, f82_5755, f82_5757, f82_5759, hk5779, by omega, by omega, by omega, by omega, by omega, by omega, by omega, by omega, by omega, by omega, by omega, by omega, by omega, by omega, by omega⟩), fun _ h => absurd h List.not_mem_nil⟩⟩), ((((((((hF5537.up (by decide)).tr (hF5546.up (by decide))).tr (hF5594.up (by decide))).tr (hF5639.up (by decide))).tr (hF5651.up (by decide))).tr (hF5698.up (by decide))).tr (hF5714.up (by decide))).tr ((xFr.of (S := [82, 83, 85, 86, 87]) hb5777 (by decide)).tr (xFr.of (S := [82, 83, 85, 86, 87]) hb5780 (by decide)))), ⟨fun h => by have := pq5789.1 h; omega, (show fld w5778 82 10 = 0 ∨ FA w5778 ≠ 0 by omega), Or.inr ⟨by have := ms5730; omega, by omega, hM5792⟩, hD5801⟩⟩
              · refine xg_t (xg_icT (u := f82_5673) (v := 2) rfl xnm0 xnm0 (xj_neT hc5710)) ?_
                refine xg_t (xg_blk (b := [(416, 1, 0, 0, 0, 0), (417, 3, 13, 140, 96, 183)]) rfl) ?_
                refine xg_t (xg_aload (va := (2, 82)) rfl rfl) ?_
                refine xg_cVv mX12_ends (vs := []) (rest := []) (cn1 := 0) (sl1 := 0) rfl (mEnds (hI5697) pk5702.2.2.2) rfl (hF5698.get (by decide) h82_5693) rfl rfl rfl rfl rfl rfl (fun w5802 hq5803 => ?_)
                obtain ⟨hI5804, hF5805, hx5806⟩ := hq5803
                obtain ⟨hv5807, hv5808, hv5809, hv5810⟩ := hx5806
                have pk5811 : PK w5695 w5802 := ⟨fun _ => hv5807, by omega, by omega, Or.inr hv5807⟩
                have pk5812 : PK w w5802 := PK.tr pk5702 pk5811
                have os5813 : ∀ j, (j < 7 ∨ 9 ≤ j) → j < 140 → rwv w5802 86 j = rwv w 86 j := fun j hj hl => (rwv_fr hF5805 (by decide)).trans (os5703 j hj hl)
                have ix5814 : u5101 < 1 → rwv w5802 86 (7) = n5595 := fun h => (rwv_fr hF5805 (by decide)).trans (ix5704 h)
                have ix5815 : u5101 < 1 → rwv w5802 86 (8) = n5652 := fun h => (rwv_fr hF5805 (by decide)).trans (hp5700 h)
                have rg5816 : FA w5802 ≠ 0 ∨ False := rg5705.imp_left pk5811.1
                have rg5817 : FA w5802 ≠ 0 ∨ (1 ≤ n5595 ∧ n5595 ≤ 10) := rg5706.imp_left pk5811.1
                have rg5818 : FA w5802 ≠ 0 ∨ (1 ≤ n5652 ∧ n5652 ≤ 10) := rg5707.imp_left pk5811.1
                have ms5819 : mu w5802 < mu w := Nat.lt_of_le_of_lt pk5811.2.1 ms5708
                refine xg_t (xg_blk (b := [(420, 1, 0, 0, 0, 0), (421, 3, 1, 12, 11, 17), (424, 1, 2, 1, 0, 0), (425, 1, 39, 0, 0, 0), (426, 1, 10, 0, 0, 0), (427, 1, 3, 1, 0, 0), (428, 1, 11, 0, 0, 0), (429, 1, 17, 0, 0, 0), (430, 1, 0, 0, 0, 0), (431, 1, 19, 0, 0, 0), (432, 3, 1, 12, 14, 212), (435, 1, 3, 1, 0, 0), (436, 1, 11, 0, 0, 0), (437, 3, 14, 12, 14, 212), (440, 1, 12, 0, 0, 0)]) rfl) ?_
                obtain ⟨f82_5820, f82_5822, f82_5824, f82_5826, f82_5828, f82_5830, f82_5832, f82_5834, f82_5836, f82_5838, f82_5840, f82_5841, f82_5842, f82_5844, f82_5846, f82_5848, h82_5850, hb5821, hb5823, hb5825, hb5827, hb5829, hb5831, hb5833, hb5835, hb5837, hb5839, hb5843, hb5845, hb5847, hb5849, hb5851⟩ := (hI5804 82 (by decide) (by decide) : cp82 (wget w5802 82))
                have hf5852 : fld w5802 82 4 = f82_5824 := fld_of h82_5850
                have hf5853 : fld w5802 82 5 = f82_5826 := fld_of h82_5850
                have hf5854 : fld w5802 82 7 = f82_5830 := fld_of h82_5850
                have hf5855 : fld w5802 82 10 = f82_5836 := fld_of h82_5850
                have hf5856 : fld w5802 82 14 = f82_5838 := fld_of h82_5850
                have hu5857 : mu w5802 = 2 * (fld w5802 82 4 - fld w5802 82 5) + min 1 (fld w5802 82 7) := rfl
                have hf5858 := pk5812.2.2.1
                have hl5859 : f82_5838 ≤ 1000 := by omega
                refine xg_t (xg_aload (va := (2, 82)) rfl rfl) ?_
                refine xg_t (xg_getf (va := (2, 85)) h82_5850 rfl) ?_
                refine xg_t (xg_iload (va := (0, 5)) rfl rfl) ?_
                refine xg_t (xg_dup2 rfl) ?_
                refine xg_ialdB (n := 5) (B := 4294967295) (((((((h85_37.fr hF5537 (by decide)).fr hF5546 (by decide)).fr hF5594 (by decide)).fr hF5639 (by decide)).fr hF5651 (by decide)).fr hF5698 (by decide)).fr hF5805 (by decide)) (hb38) xnm0 (by omega) (fun u5860 hu5861 he5862 => ?_)
                have hl5863 : u5860 = u5101 := by omega
                refine xg_t (xg_const) ?_
                refine xg_t (xg_iadd (u := u5860) (v := 1) (z := u5860 + 1) xnm0 xnm0 (by omega)) ?_
                refine xg_iastK (n := 5) (u := u5860 + 1) (((((((h85_37.fr hF5537 (by decide)).fr hF5546 (by decide)).fr hF5594 (by decide)).fr hF5639 (by decide)).fr hF5651 (by decide)).fr hF5698 (by decide)).fr hF5805 (by decide)) xnm0 xnm0 rfl (by omega) (fun w5864 hr5865 hb5866 => ?_)
                refine xg_t (xg_aload (va := (2, 82)) rfl rfl) ?_
                refine xg_t (xg_dup rfl) ?_
                refine xg_t (xg_getf (va := (0, f82_5838)) (hb5866.get (by decide) h82_5850) rfl) ?_
                refine xg_t (xg_const) ?_
                refine xg_t (xg_iadd (u := f82_5838) (v := 1) (z := f82_5838 + 1) xnm0 xnm0 (by omega)) ?_
                refine xg_putI (fl1 := [(2, 83), (2, 84), (0, f82_5820), (0, f82_5822), (0, f82_5824), (0, f82_5826), (0, f82_5828), (0, f82_5830), (0, f82_5832), (0, f82_5834), (0, f82_5836), (2, 85), (2, 86), (2, 87), (0, f82_5838 + 1), (2, 88), (2, 89), (2, 90), (2, 91), (2, 92), (2, 93), (2, 94), (4, f82_5840), (4, f82_5841), (0, f82_5842), (2, 95), (2, 96), (2, 97), (2, 98), (2, 99), (2, 100), (2, 101), (2, 102), (0, f82_5844), (2, 103), (2, 104), (2, 105), (2, 106), (2, 107), (2, 108), (2, 109), (0, f82_5846), (0, f82_5848), (2, 110), (2, 111), (2, 112), (2, 113)]) (hb5866.get (by decide) h82_5850) rfl rfl rfl (fun w5867 hk5868 hb5869 => ?_)
                have hF5870 : xFr [82, 85] w5802 w5867 := ((xFr.of (S := [82, 85]) hb5866 (by decide)).tr (xFr.of (S := [82, 85]) hb5869 (by decide)))
                have hA5871 := FA_fr hF5870 (by decide)
                have hf5872 : fld w5867 82 4 = f82_5824 := fld_of hk5868
                have hf5873 : fld w5867 82 5 = f82_5826 := fld_of hk5868
                have hf5874 : fld w5867 82 7 = f82_5830 := fld_of hk5868
                have hf5875 : fld w5867 82 10 = f82_5836 := fld_of hk5868
                have hf5876 : fld w5867 82 14 = f82_5838 + 1 := fld_of hk5868
                have hu5877 : mu w5867 = 2 * (fld w5867 82 4 - fld w5867 82 5) + min 1 (fld w5867 82 7) := rfl
                have pq5878 := pk5812
                unfold PK PS at pq5878
                have hM5879 : ∀ s, s < 7 → s ≠ 5 → rwv w5867 85 s = rwv w 85 s := fun s hs hn => (rwv_of (hr5865.but hb5869 (by decide)) hs).trans ((if_neg hn).trans (rwv_of h85_37 hs).symm)
                have hM5880 : rwv w5867 85 5 = u5101 + 1 := (rwv_of (hr5865.but hb5869 (by decide)) (by decide)).trans ((if_pos rfl).trans (by omega))
                have hM5881 : ∀ s, s < 7 → rwv w5867 85 s ≤ rwv w 85 s + 1 := fun s hs => by
                  by_cases z : s = 5
                  · subst z; omega
                  · rw [hM5879 s hs z]; omega
                have hO5882 : ∀ j, (j < 7 ∨ 9 ≤ j) → j < 140 → rwv w5867 86 j = rwv w 86 j := fun j hj hl => (rwv_fr hF5870 (by decide)).trans (os5813 j hj hl)
                have hl5884 : u5101 < 1 → rwv w5867 86 (7) = n5595 := fun h => (rwv_fr hF5870 (by decide)).trans (ix5814 h)
                have hl5885 : u5101 < 1 → rwv w5867 86 (8) = n5652 := fun h => (rwv_fr hF5870 (by decide)).trans (ix5815 h)
                have hl5886 : FA w5802 ≠ 0 ∨ False := rg5816
                have hl5887 : FA w5802 ≠ 0 ∨ (1 ≤ n5595 ∧ n5595 ≤ 10) := rg5817
                have hl5888 : FA w5802 ≠ 0 ∨ (1 ≤ n5652 ∧ n5652 ≤ 10) := rg5818
                have hN5883 : FA w5867 ≠ 0 ∨ 1 ≤ u5101 ∨ (1 ≤ rwv w5867 86 7 ∧ rwv w5867 86 7 ≤ 10 ∧ 1 ≤ rwv w5867 86 8 ∧ rwv w5867 86 8 ≤ 10) := by omega
                have hX5889 : FA w5867 ≠ 0 ∨ u5101 < 1 := by omega
                have hD5890 : FA w5867 ≠ 0 ∨ (DATA w → DATA w5867) := by
                  by_cases z : FA w5867 ≠ 0
                  · exact Or.inl z
                  · exact Or.inr (fun hd => hd.s5 hM5879 hK5104 hM5880 (hX5889.resolve_left z) hO5882 ((hN5883.resolve_left z).resolve_left (by have := hX5889.resolve_left z; omega)))
                exact xg_e ⟨w5867, ⟨rfl, rfl⟩, xMnv.up (S := [85, 82]) hI5804 ((xFr.of (S := [85, 82]) hb5866 (by decide)).tr (xFr.of (S := [85, 82]) hb5869 (by decide))) (List.forall_mem_cons.mpr ⟨(show cpI 7 52 4294967295 (wget w5867 85) from ⟨_, (hr5865.but hb5869 (by decide)), xrb (by omega) (hb38)⟩), List.forall_mem_cons.mpr ⟨(show cp82 (wget w5867 82) from ⟨f82_5820, f82_5822, f82_5824, f82_5826, f82_5828, f82_5830, f82_5832, f82_5834, f82_5836, f82_5838 + 1, f82_5840, f82_5841, f82_5842, f82_5844, f82_5846, f82_5848, hk5868, by omega, by omega, by omega, by omega, by omega, by omega, by omega, by omega, by omega, by omega, by omega, by omega, by omega, by omega, by omega⟩), fun _ h => absurd h List.not_mem_nil⟩⟩), ((((((((hF5537.up (by decide)).tr (hF5546.up (by decide))).tr (hF5594.up (by decide))).tr (hF5639.up (by decide))).tr (hF5651.up (by decide))).tr (hF5698.up (by decide))).tr (hF5805.up (by decide))).tr ((xFr.of (S := [82, 83, 85, 86, 87]) hb5866 (by decide)).tr (xFr.of (S := [82, 83, 85, 86, 87]) hb5869 (by decide)))), ⟨fun h => by have := pq5878.1 h; omega, (show fld w5867 82 10 = 0 ∨ FA w5867 ≠ 0 by omega), Or.inr ⟨by have := ms5819; omega, by omega, hM5881⟩, hD5890⟩⟩
            · refine xg_t (xg_ifT (u := f82_5679) rfl xnm0 (xj_neT hc5709)) ?_
              refine xg_t (xg_blk (b := [(416, 1, 0, 0, 0, 0), (417, 3, 13, 140, 96, 183)]) rfl) ?_
              refine xg_t (xg_aload (va := (2, 82)) rfl rfl) ?_
              refine xg_cVv mX12_ends (vs := []) (rest := []) (cn1 := 0) (sl1 := 0) rfl (mEnds (hI5697) pk5702.2.2.2) rfl (hF5698.get (by decide) h82_5693) rfl rfl rfl rfl rfl rfl (fun w5891 hq5892 => ?_)
              obtain ⟨hI5893, hF5894, hx5895⟩ := hq5892
              obtain ⟨hv5896, hv5897, hv5898, hv5899⟩ := hx5895
              have pk5900 : PK w5695 w5891 := ⟨fun _ => hv5896, by omega, by omega, Or.inr hv5896⟩
              have pk5901 : PK w w5891 := PK.tr pk5702 pk5900
              have os5902 : ∀ j, (j < 7 ∨ 9 ≤ j) → j < 140 → rwv w5891 86 j = rwv w 86 j := fun j hj hl => (rwv_fr hF5894 (by decide)).trans (os5703 j hj hl)
              have ix5903 : u5101 < 1 → rwv w5891 86 (7) = n5595 := fun h => (rwv_fr hF5894 (by decide)).trans (ix5704 h)
              have ix5904 : u5101 < 1 → rwv w5891 86 (8) = n5652 := fun h => (rwv_fr hF5894 (by decide)).trans (hp5700 h)
              have rg5905 : FA w5891 ≠ 0 ∨ False := rg5705.imp_left pk5900.1
              have rg5906 : FA w5891 ≠ 0 ∨ (1 ≤ n5595 ∧ n5595 ≤ 10) := rg5706.imp_left pk5900.1
              have rg5907 : FA w5891 ≠ 0 ∨ (1 ≤ n5652 ∧ n5652 ≤ 10) := rg5707.imp_left pk5900.1
              have ms5908 : mu w5891 < mu w := Nat.lt_of_le_of_lt pk5900.2.1 ms5708
              refine xg_t (xg_blk (b := [(420, 1, 0, 0, 0, 0), (421, 3, 1, 12, 11, 17), (424, 1, 2, 1, 0, 0), (425, 1, 39, 0, 0, 0), (426, 1, 10, 0, 0, 0), (427, 1, 3, 1, 0, 0), (428, 1, 11, 0, 0, 0), (429, 1, 17, 0, 0, 0), (430, 1, 0, 0, 0, 0), (431, 1, 19, 0, 0, 0), (432, 3, 1, 12, 14, 212), (435, 1, 3, 1, 0, 0), (436, 1, 11, 0, 0, 0), (437, 3, 14, 12, 14, 212), (440, 1, 12, 0, 0, 0)]) rfl) ?_
              obtain ⟨f82_5909, f82_5911, f82_5913, f82_5915, f82_5917, f82_5919, f82_5921, f82_5923, f82_5925, f82_5927, f82_5929, f82_5930, f82_5931, f82_5933, f82_5935, f82_5937, h82_5939, hb5910, hb5912, hb5914, hb5916, hb5918, hb5920, hb5922, hb5924, hb5926, hb5928, hb5932, hb5934, hb5936, hb5938, hb5940⟩ := (hI5893 82 (by decide) (by decide) : cp82 (wget w5891 82))
              have hf5941 : fld w5891 82 4 = f82_5913 := fld_of h82_5939
              have hf5942 : fld w5891 82 5 = f82_5915 := fld_of h82_5939
              have hf5943 : fld w5891 82 7 = f82_5919 := fld_of h82_5939
              have hf5944 : fld w5891 82 10 = f82_5925 := fld_of h82_5939
              have hf5945 : fld w5891 82 14 = f82_5927 := fld_of h82_5939
              have hu5946 : mu w5891 = 2 * (fld w5891 82 4 - fld w5891 82 5) + min 1 (fld w5891 82 7) := rfl
              have hf5947 := pk5901.2.2.1
              have hl5948 : f82_5927 ≤ 1000 := by omega
              refine xg_t (xg_aload (va := (2, 82)) rfl rfl) ?_
              refine xg_t (xg_getf (va := (2, 85)) h82_5939 rfl) ?_
              refine xg_t (xg_iload (va := (0, 5)) rfl rfl) ?_
              refine xg_t (xg_dup2 rfl) ?_
              refine xg_ialdB (n := 5) (B := 4294967295) (((((((h85_37.fr hF5537 (by decide)).fr hF5546 (by decide)).fr hF5594 (by decide)).fr hF5639 (by decide)).fr hF5651 (by decide)).fr hF5698 (by decide)).fr hF5894 (by decide)) (hb38) xnm0 (by omega) (fun u5949 hu5950 he5951 => ?_)
              have hl5952 : u5949 = u5101 := by omega
              refine xg_t (xg_const) ?_
              refine xg_t (xg_iadd (u := u5949) (v := 1) (z := u5949 + 1) xnm0 xnm0 (by omega)) ?_
              refine xg_iastK (n := 5) (u := u5949 + 1) (((((((h85_37.fr hF5537 (by decide)).fr hF5546 (by decide)).fr hF5594 (by decide)).fr hF5639 (by decide)).fr hF5651 (by decide)).fr hF5698 (by decide)).fr hF5894 (by decide)) xnm0 xnm0 rfl (by omega) (fun w5953 hr5954 hb5955 => ?_)
              refine xg_t (xg_aload (va := (2, 82)) rfl rfl) ?_
              refine xg_t (xg_dup rfl) ?_
              refine xg_t (xg_getf (va := (0, f82_5927)) (hb5955.get (by decide) h82_5939) rfl) ?_
              refine xg_t (xg_const) ?_
              refine xg_t (xg_iadd (u := f82_5927) (v := 1) (z := f82_5927 + 1) xnm0 xnm0 (by omega)) ?_
              refine xg_putI (fl1 := [(2, 83), (2, 84), (0, f82_5909), (0, f82_5911), (0, f82_5913), (0, f82_5915), (0, f82_5917), (0, f82_5919), (0, f82_5921), (0, f82_5923), (0, f82_5925), (2, 85), (2, 86), (2, 87), (0, f82_5927 + 1), (2, 88), (2, 89), (2, 90), (2, 91), (2, 92), (2, 93), (2, 94), (4, f82_5929), (4, f82_5930), (0, f82_5931), (2, 95), (2, 96), (2, 97), (2, 98), (2, 99), (2, 100), (2, 101), (2, 102), (0, f82_5933), (2, 103), (2, 104), (2, 105), (2, 106), (2, 107), (2, 108), (2, 109), (0, f82_5935), (0, f82_5937), (2, 110), (2, 111), (2, 112), (2, 113)]) (hb5955.get (by decide) h82_5939) rfl rfl rfl (fun w5956 hk5957 hb5958 => ?_)
              have hF5959 : xFr [82, 85] w5891 w5956 := ((xFr.of (S := [82, 85]) hb5955 (by decide)).tr (xFr.of (S := [82, 85]) hb5958 (by decide)))
              have hA5960 := FA_fr hF5959 (by decide)
              have hf5961 : fld w5956 82 4 = f82_5913 := fld_of hk5957
              have hf5962 : fld w5956 82 5 = f82_5915 := fld_of hk5957
              have hf5963 : fld w5956 82 7 = f82_5919 := fld_of hk5957
              have hf5964 : fld w5956 82 10 = f82_5925 := fld_of hk5957
              have hf5965 : fld w5956 82 14 = f82_5927 + 1 := fld_of hk5957
              have hu5966 : mu w5956 = 2 * (fld w5956 82 4 - fld w5956 82 5) + min 1 (fld w5956 82 7) := rfl
              have pq5967 := pk5901
              unfold PK PS at pq5967
              have hM5968 : ∀ s, s < 7 → s ≠ 5 → rwv w5956 85 s = rwv w 85 s := fun s hs hn => (rwv_of (hr5954.but hb5958 (by decide)) hs).trans ((if_neg hn).trans (rwv_of h85_37 hs).symm)
              have hM5969 : rwv w5956 85 5 = u5101 + 1 := (rwv_of (hr5954.but hb5958 (by decide)) (by decide)).trans ((if_pos rfl).trans (by omega))
              have hM5970 : ∀ s, s < 7 → rwv w5956 85 s ≤ rwv w 85 s + 1 := fun s hs => by
                by_cases z : s = 5
                · subst z; omega
                · rw [hM5968 s hs z]; omega
              have hO5971 : ∀ j, (j < 7 ∨ 9 ≤ j) → j < 140 → rwv w5956 86 j = rwv w 86 j := fun j hj hl => (rwv_fr hF5959 (by decide)).trans (os5902 j hj hl)
              have hl5973 : u5101 < 1 → rwv w5956 86 (7) = n5595 := fun h => (rwv_fr hF5959 (by decide)).trans (ix5903 h)
              have hl5974 : u5101 < 1 → rwv w5956 86 (8) = n5652 := fun h => (rwv_fr hF5959 (by decide)).trans (ix5904 h)
              have hl5975 : FA w5891 ≠ 0 ∨ False := rg5905
              have hl5976 : FA w5891 ≠ 0 ∨ (1 ≤ n5595 ∧ n5595 ≤ 10) := rg5906
              have hl5977 : FA w5891 ≠ 0 ∨ (1 ≤ n5652 ∧ n5652 ≤ 10) := rg5907
              have hN5972 : FA w5956 ≠ 0 ∨ 1 ≤ u5101 ∨ (1 ≤ rwv w5956 86 7 ∧ rwv w5956 86 7 ≤ 10 ∧ 1 ≤ rwv w5956 86 8 ∧ rwv w5956 86 8 ≤ 10) := by omega
              have hX5978 : FA w5956 ≠ 0 ∨ u5101 < 1 := by omega
              have hD5979 : FA w5956 ≠ 0 ∨ (DATA w → DATA w5956) := by
                by_cases z : FA w5956 ≠ 0
                · exact Or.inl z
                · exact Or.inr (fun hd => hd.s5 hM5968 hK5104 hM5969 (hX5978.resolve_left z) hO5971 ((hN5972.resolve_left z).resolve_left (by have := hX5978.resolve_left z; omega)))
              exact xg_e ⟨w5956, ⟨rfl, rfl⟩, xMnv.up (S := [85, 82]) hI5893 ((xFr.of (S := [85, 82]) hb5955 (by decide)).tr (xFr.of (S := [85, 82]) hb5958 (by decide))) (List.forall_mem_cons.mpr ⟨(show cpI 7 52 4294967295 (wget w5956 85) from ⟨_, (hr5954.but hb5958 (by decide)), xrb (by omega) (hb38)⟩), List.forall_mem_cons.mpr ⟨(show cp82 (wget w5956 82) from ⟨f82_5909, f82_5911, f82_5913, f82_5915, f82_5917, f82_5919, f82_5921, f82_5923, f82_5925, f82_5927 + 1, f82_5929, f82_5930, f82_5931, f82_5933, f82_5935, f82_5937, hk5957, by omega, by omega, by omega, by omega, by omega, by omega, by omega, by omega, by omega, by omega, by omega, by omega, by omega, by omega, by omega⟩), fun _ h => absurd h List.not_mem_nil⟩⟩), ((((((((hF5537.up (by decide)).tr (hF5546.up (by decide))).tr (hF5594.up (by decide))).tr (hF5639.up (by decide))).tr (hF5651.up (by decide))).tr (hF5698.up (by decide))).tr (hF5894.up (by decide))).tr ((xFr.of (S := [82, 83, 85, 86, 87]) hb5955 (by decide)).tr (xFr.of (S := [82, 83, 85, 86, 87]) hb5958 (by decide)))), ⟨fun h => by have := pq5967.1 h; omega, (show fld w5956 82 10 = 0 ∨ FA w5956 ≠ 0 by omega), Or.inr ⟨by have := ms5908; omega, by omega, hM5970⟩, hD5979⟩⟩
        · refine xg_t (xg_aload (va := (2, 82)) rfl rfl) ?_
          refine xg_t (xg_getf (va := (2, 85)) h82_31 rfl) ?_
          refine xg_t (xg_iload (va := (0, 6)) rfl rfl) ?_
          refine xg_ialdB (n := 6) (B := 4294967295) h85_37 (hb38) xnm0 (by omega) (fun u5980 hu5981 he5982 => ?_)
          have hK5983 : rwv w 85 6 = u5980 := (rwv_of h85_37 (by decide)).trans he5982
          have hm5984 := hmb 6 (by decide)
          have hl5985 : u5980 ≤ 1000 := by omega
          refine xg_t (xg_istore (l1 := [(2, (0, f82_9)), (1, (0, 6)), (0, (2, 82))]) rfl rfl rfl) ?_
          refine xg_t (xg_iload (va := (0, u5980)) rfl rfl) ?_
          refine xg_t (xg_iload (va := (0, 6)) rfl rfl) ?_
          refine xg_t (xg_cSr mX12_mostOf (vs := [(0, 6)]) (rest := [(0, u5980)]) (rs := [(0, 1), (0, u5980)]) (cn1 := 0) (sl1 := 0) rfl (mMostR6) rfl rfl rfl rfl rfl rfl rfl rfl) ?_
          by_cases hc5986 : u5980 < 1
          · refine xg_t (xg_icT (u := u5980) (v := 1) rfl xnm0 xnm0 (xj_ltT hc5986 (by omega))) ?_
            refine xg_t (xg_blk (b := [(64, 1, 0, 0, 0, 0), (65, 3, 13, 110, 96, 190), (68, 1, 2, 1, 0, 0), (69, 39, 33, 362, 0, 9)]) rfl) ?_
            refine xg_t (xg_aload (va := (2, 82)) rfl rfl) ?_
            refine xg_cVv mX12_advance (vs := []) (rest := []) (cn1 := 0) (sl1 := 0) rfl (mAdvance (hI)) rfl h82_31 rfl rfl rfl rfl rfl rfl (fun w5987 hq5988 => ?_)
            obtain ⟨hI5989, hF5990, hx5991⟩ := hq5988
            obtain ⟨hv5992, hv5993, hv5994, hv5995⟩ := hx5991
            have hf5997 := FA_fr hF5990 (by decide)
            have hs5998 := (PK.rf hps).2.2.2
            unfold PS at hs5998
            have pk5996 : PK w w5987 := ⟨fun _ => by omega, hv5992, hv5995, (show fld w5987 82 10 = 0 ∨ FA w5987 ≠ 0 by omega)⟩
            have pk5999 : PK w w5987 := PK.tr (PK.rf hps) pk5996
            have os6000 : ∀ j, (j < 5 ∨ 7 ≤ j) → j < 140 → rwv w5987 86 j = rwv w 86 j := fun j hj hl => (rwv_fr hF5990 (by decide)).trans ((fun j _ _ => rfl) j hj hl)
            have ms6001 : mu w5987 < mu w := Nat.lt_of_lt_of_le (hv5993 (by omega)) (PK.rf hps).2.1
            refine xg_t (xg_iload (va := (0, 6)) rfl rfl) ?_
            refine xg_t (xg_swt (ks := [(0, 108), (1, 116), (2, 180), (3, 221), (4, 273), (5, 326)]) (u := 6) (z := 362) rfl rfl rfl xnm0 (xsw_n (by omega) (xsw_n (by omega) (xsw_n (by omega) (xsw_n (by omega) (xsw_n (by omega) (xsw_n (by omega) (xsw_d)))))))) ?_
            refine xg_t (xg_blk (b := [(362, 1, 3, 0, 0, 0), (363, 2, 15, 4, 0, 0)]) rfl) ?_
            refine xg_t (xg_const) ?_
            refine xg_t (xg_istore (l1 := [(3, (0, u5980)), (2, (0, f82_9)), (1, (0, 6)), (0, (2, 82))]) rfl rfl rfl) ?_
            refine xg_t (xg_blk (b := [(365, 2, 2, 4, 0, 0), (367, 1, 3, 2, 0, 0), (368, 3, 6, 394, 3, 0), (371, 1, 0, 0, 0, 0), (372, 1, 2, 1, 0, 0), (373, 1, 2, 3, 0, 0), (374, 1, 3, 5, 0, 0), (375, 2, 2, 4, 0, 0), (377, 1, 11, 0, 0, 0), (378, 1, 0, 0, 0, 0), (379, 1, 3, 1, 0, 0), (380, 2, 4, 6, 0, 0), (382, 3, 13, 199, 96, 196), (385, 3, 13, 211, 96, 200), (388, 3, 9, 4, 1, 0), (391, 3, 8, 365, 0, 0)]) rfl) ?_
            refine xg_t (xg_iload (va := (0, 0)) rfl rfl) ?_
            refine xg_t (xg_const) ?_
            refine xg_t (xg_icF (u := 0) (v := 2) rfl xnm0 xnm0 (by decide)) ?_
            refine xg_t (xg_aload (va := (2, 82)) rfl rfl) ?_
            refine xg_t (xg_iload (va := (0, 6)) rfl rfl) ?_
            refine xg_t (xg_iload (va := (0, u5980)) rfl rfl) ?_
            refine xg_t (xg_const) ?_
            refine xg_t (xg_iload (va := (0, 0)) rfl rfl) ?_
            refine xg_t (xg_iadd (u := 5) (v := 0) (z := 5) xnm0 xnm0 (by decide)) ?_
            refine xg_t (xg_aload (va := (2, 82)) rfl rfl) ?_
            refine xg_t (xg_const) ?_
            refine xg_t (xg_bip) ?_
            obtain ⟨f82_6002, f82_6004, f82_6006, f82_6008, f82_6010, f82_6012, f82_6014, f82_6016, f82_6018, f82_6020, f82_6022, f82_6023, f82_6024, f82_6026, f82_6028, f82_6030, h82_6032, hb6003, hb6005, hb6007, hb6009, hb6011, hb6013, hb6015, hb6017, hb6019, hb6021, hb6025, hb6027, hb6029, hb6031, hb6033⟩ := (hI5989 82 (by decide) (by decide) : cp82 (wget w5987 82))
            refine xg_cVi mX12_numbered (vs := [(0, 1), (0, 6)]) (rest := [(0, 5), (0, u5980), (0, 6), (2, 82)]) (cn1 := 0) (sl1 := 0) rfl (mNumbered (hI5989) (by omega) (by omega) pk5999.2.2.2) rfl h82_6032 rfl rfl rfl rfl rfl rfl (fun n6038 w6034 hq6035 => ?_)
            obtain ⟨hn6039, hI6036, hF6037⟩ := hq6035
            obtain ⟨hn6040, hn6041, hn6042⟩ := hn6039
            have pk6043 : PK w w6034 := PK.tr pk5999 hn6041
            have os6044 : ∀ j, (j < 5 ∨ 7 ≤ j) → j < 140 → rwv w6034 86 j = rwv w 86 j := fun j hj hl => (rwv_fr hF6037 (by decide)).trans (os6000 j hj hl)
            have ms6045 : mu w6034 < mu w := Nat.lt_of_le_of_lt hn6041.2.1 ms6001
            obtain ⟨f82_6046, f82_6048, f82_6050, f82_6052, f82_6054, f82_6056, f82_6058, f82_6060, f82_6062, f82_6064, f82_6066, f82_6067, f82_6068, f82_6070, f82_6072, f82_6074, h82_6076, hb6047, hb6049, hb6051, hb6053, hb6055, hb6057, hb6059, hb6061, hb6063, hb6065, hb6069, hb6071, hb6073, hb6075, hb6077⟩ := (hI6036 82 (by decide) (by decide) : cp82 (wget w6034 82))
            refine xg_cVv mX12_puts (vs := [(0, 6), (0, u5980), (0, 5), (0, n6038)]) (rest := []) (cn1 := 0) (sl1 := 0) rfl (mPuts6 (hI6036) (by omega) (by omega) (by omega) (fun _ => by omega)) rfl h82_6076 rfl rfl rfl rfl rfl rfl (fun w6078 hq6079 => ?_)
            obtain ⟨hI6080, hF6081, hx6082⟩ := hq6079
            obtain ⟨hp6083, hp6084⟩ := hx6082
            have pk6085 : PK w w6078 := PK.tr pk6043 (PK.fr hF6081 (by decide) (by decide) pk6043.2.2.2)
            have os6086 : ∀ j, (j < 5 ∨ 7 ≤ j) → j < 140 → rwv w6078 86 j = rwv w 86 j := fun j hj hl => (hp6084 j (by omega) hl).trans (os6044 j hj hl)
            have rg6087 : FA w6078 ≠ 0 ∨ (1 ≤ n6038 ∧ n6038 ≤ 6) := hn6042.imp_left (PK.fr hF6081 (by decide) (by decide) pk6043.2.2.2).1
            have ms6088 : mu w6078 < mu w := Nat.lt_of_le_of_lt (PK.fr hF6081 (by decide) (by decide) pk6043.2.2.2).2.1 ms6045
            refine xg_t (xg_iinc (u := 0) (z := 1) (l1 := [(3, (0, u5980)), (2, (0, f82_9)), (1, (0, 6)), (0, (2, 82))]) rfl rfl (by decide) rfl) ?_
            refine xg_t (xg_goto) ?_
            refine xg_t (xg_blk (b := [(365, 2, 2, 4, 0, 0), (367, 1, 3, 2, 0, 0), (368, 3, 6, 394, 3, 0), (371, 1, 0, 0, 0, 0), (372, 1, 2, 1, 0, 0), (373, 1, 2, 3, 0, 0), (374, 1, 3, 5, 0, 0), (375, 2, 2, 4, 0, 0), (377, 1, 11, 0, 0, 0), (378, 1, 0, 0, 0, 0), (379, 1, 3, 1, 0, 0), (380, 2, 4, 6, 0, 0), (382, 3, 13, 199, 96, 196), (385, 3, 13, 211, 96, 200), (388, 3, 9, 4, 1, 0), (391, 3, 8, 365, 0, 0)]) rfl) ?_
            refine xg_t (xg_iload (va := (0, 1)) rfl rfl) ?_
            refine xg_t (xg_const) ?_
            refine xg_t (xg_icF (u := 1) (v := 2) rfl xnm0 xnm0 (by decide)) ?_
            refine xg_t (xg_aload (va := (2, 82)) rfl rfl) ?_
            refine xg_t (xg_iload (va := (0, 6)) rfl rfl) ?_
            refine xg_t (xg_iload (va := (0, u5980)) rfl rfl) ?_
            refine xg_t (xg_const) ?_
            refine xg_t (xg_iload (va := (0, 1)) rfl rfl) ?_
            refine xg_t (xg_iadd (u := 5) (v := 1) (z := 6) xnm0 xnm0 (by decide)) ?_
            refine xg_t (xg_aload (va := (2, 82)) rfl rfl) ?_
            refine xg_t (xg_const) ?_
            refine xg_t (xg_bip) ?_
            refine xg_cVi mX12_numbered (vs := [(0, 1), (0, 6)]) (rest := [(0, 6), (0, u5980), (0, 6), (2, 82)]) (cn1 := 0) (sl1 := 0) rfl (mNumbered (hI6080) (by omega) (by omega) pk6085.2.2.2) rfl (hF6081.get (by decide) h82_6076) rfl rfl rfl rfl rfl rfl (fun n6093 w6089 hq6090 => ?_)
            obtain ⟨hn6094, hI6091, hF6092⟩ := hq6090
            obtain ⟨hn6095, hn6096, hn6097⟩ := hn6094
            have pk6098 : PK w w6089 := PK.tr pk6085 hn6096
            have os6099 : ∀ j, (j < 5 ∨ 7 ≤ j) → j < 140 → rwv w6089 86 j = rwv w 86 j := fun j hj hl => (rwv_fr hF6092 (by decide)).trans (os6086 j hj hl)
            have ix6100 : u5980 < 1 → rwv w6089 86 (5) = n6038 := fun h => (rwv_fr hF6092 (by decide)).trans (hp6083 h)
            have rg6101 : FA w6089 ≠ 0 ∨ (1 ≤ n6038 ∧ n6038 ≤ 6) := rg6087.imp_left hn6096.1
            have ms6102 : mu w6089 < mu w := Nat.lt_of_le_of_lt hn6096.2.1 ms6088
            obtain ⟨f82_6103, f82_6105, f82_6107, f82_6109, f82_6111, f82_6113, f82_6115, f82_6117, f82_6119, f82_6121, f82_6123, f82_6124, f82_6125, f82_6127, f82_6129, f82_6131, h82_6133, hb6104, hb6106, hb6108, hb6110, hb6112, hb6114, hb6116, hb6118, hb6120, hb6122, hb6126, hb6128, hb6130, hb6132, hb6134⟩ := (hI6091 82 (by decide) (by decide) : cp82 (wget w6089 82))
            refine xg_cVv mX12_puts (vs := [(0, 6), (0, u5980), (0, 6), (0, n6093)]) (rest := []) (cn1 := 0) (sl1 := 0) rfl (mPuts6 (hI6091) (by omega) (by omega) (by omega) (fun _ => by omega)) rfl h82_6133 rfl rfl rfl rfl rfl rfl (fun w6135 hq6136 => ?_)
            obtain ⟨hI6137, hF6138, hx6139⟩ := hq6136
            obtain ⟨hp6140, hp6141⟩ := hx6139
            have pk6142 : PK w w6135 := PK.tr pk6098 (PK.fr hF6138 (by decide) (by decide) pk6098.2.2.2)
            have os6143 : ∀ j, (j < 5 ∨ 7 ≤ j) → j < 140 → rwv w6135 86 j = rwv w 86 j := fun j hj hl => (hp6141 j (by omega) hl).trans (os6099 j hj hl)
            have ix6144 : u5980 < 1 → rwv w6135 86 (5) = n6038 := fun h => (hp6141 _ (by omega) (by omega)).trans (ix6100 h)
            have rg6145 : FA w6135 ≠ 0 ∨ (1 ≤ n6038 ∧ n6038 ≤ 6) := rg6101.imp_left (PK.fr hF6138 (by decide) (by decide) pk6098.2.2.2).1
            have rg6146 : FA w6135 ≠ 0 ∨ (1 ≤ n6093 ∧ n6093 ≤ 6) := hn6097.imp_left (PK.fr hF6138 (by decide) (by decide) pk6098.2.2.2).1
            have ms6147 : mu w6135 < mu w := Nat.lt_of_le_of_lt (PK.fr hF6138 (by decide) (by decide) pk6098.2.2.2).2.1 ms6102
            refine xg_t (xg_iinc (u := 1) (z := 2) (l1 := [(3, (0, u5980)), (2, (0, f82_9)), (1, (0, 6)), (0, (2, 82))]) rfl rfl (by decide) rfl) ?_
            refine xg_t (xg_goto) ?_
            refine xg_t (xg_blk (b := [(365, 2, 2, 4, 0, 0), (367, 1, 3, 2, 0, 0), (368, 3, 6, 394, 3, 0), (371, 1, 0, 0, 0, 0), (372, 1, 2, 1, 0, 0), (373, 1, 2, 3, 0, 0), (374, 1, 3, 5, 0, 0), (375, 2, 2, 4, 0, 0), (377, 1, 11, 0, 0, 0), (378, 1, 0, 0, 0, 0), (379, 1, 3, 1, 0, 0), (380, 2, 4, 6, 0, 0), (382, 3, 13, 199, 96, 196), (385, 3, 13, 211, 96, 200), (388, 3, 9, 4, 1, 0), (391, 3, 8, 365, 0, 0)]) rfl) ?_
            refine xg_t (xg_iload (va := (0, 2)) rfl rfl) ?_
            refine xg_t (xg_const) ?_
            refine xg_t (xg_icT (u := 2) (v := 2) rfl xnm0 xnm0 (by decide)) ?_
            refine xg_t (xg_blk (b := [(394, 1, 0, 0, 0, 0), (395, 3, 1, 12, 10, 180), (398, 3, 7, 416, 1, 0), (401, 1, 0, 0, 0, 0), (402, 3, 1, 12, 7, 151), (405, 1, 3, 2, 0, 0), (406, 3, 6, 416, 1, 0), (409, 1, 0, 0, 0, 0), (410, 3, 13, 110, 96, 190), (413, 3, 8, 420, 0, 0)]) rfl) ?_
            refine xg_t (xg_aload (va := (2, 82)) rfl rfl) ?_
            refine xg_t (xg_getf (va := (0, f82_6119)) (hF6138.get (by decide) h82_6133) rfl) ?_
            by_cases hc6148 : f82_6119 = 0
            · refine xg_t (xg_ifF (u := f82_6119) rfl xnm0 (xj_neF hc6148)) ?_
              refine xg_t (xg_aload (va := (2, 82)) rfl rfl) ?_
              refine xg_t (xg_getf (va := (0, f82_6113)) (hF6138.get (by decide) h82_6133) rfl) ?_
              refine xg_t (xg_const) ?_
              by_cases hc6149 : f82_6113 = 2
              · refine xg_t (xg_icF (u := f82_6113) (v := 2) rfl xnm0 xnm0 (xj_neF hc6149)) ?_
                refine xg_t (xg_aload (va := (2, 82)) rfl rfl) ?_
                refine xg_cVv mX12_advance (vs := []) (rest := []) (cn1 := 0) (sl1 := 0) rfl (mAdvance (hI6137)) rfl (hF6138.get (by decide) h82_6133) rfl rfl rfl rfl rfl rfl (fun w6150 hq6151 => ?_)
                obtain ⟨hI6152, hF6153, hx6154⟩ := hq6151
                obtain ⟨hv6155, hv6156, hv6157, hv6158⟩ := hx6154
                have hf6160 := FA_fr hF6153 (by decide)
                have hs6161 := pk6142.2.2.2
                unfold PS at hs6161
                have pk6159 : PK w6135 w6150 := ⟨fun _ => by omega, hv6155, hv6158, (show fld w6150 82 10 = 0 ∨ FA w6150 ≠ 0 by omega)⟩
                have pk6162 : PK w w6150 := PK.tr pk6142 pk6159
                have os6163 : ∀ j, (j < 5 ∨ 7 ≤ j) → j < 140 → rwv w6150 86 j = rwv w 86 j := fun j hj hl => (rwv_fr hF6153 (by decide)).trans (os6143 j hj hl)
                have ix6164 : u5980 < 1 → rwv w6150 86 (5) = n6038 := fun h => (rwv_fr hF6153 (by decide)).trans (ix6144 h)
                have ix6165 : u5980 < 1 → rwv w6150 86 (6) = n6093 := fun h => (rwv_fr hF6153 (by decide)).trans (hp6140 h)
                have rg6166 : FA w6150 ≠ 0 ∨ (1 ≤ n6038 ∧ n6038 ≤ 6) := rg6145.imp_left pk6159.1
                have rg6167 : FA w6150 ≠ 0 ∨ (1 ≤ n6093 ∧ n6093 ≤ 6) := rg6146.imp_left pk6159.1
                have ms6168 : mu w6150 < mu w := Nat.lt_of_le_of_lt pk6159.2.1 ms6147
                refine xg_t (xg_goto) ?_
                refine xg_t (xg_blk (b := [(420, 1, 0, 0, 0, 0), (421, 3, 1, 12, 11, 17), (424, 1, 2, 1, 0, 0), (425, 1, 39, 0, 0, 0), (426, 1, 10, 0, 0, 0), (427, 1, 3, 1, 0, 0), (428, 1, 11, 0, 0, 0), (429, 1, 17, 0, 0, 0), (430, 1, 0, 0, 0, 0), (431, 1, 19, 0, 0, 0), (432, 3, 1, 12, 14, 212), (435, 1, 3, 1, 0, 0), (436, 1, 11, 0, 0, 0), (437, 3, 14, 12, 14, 212), (440, 1, 12, 0, 0, 0)]) rfl) ?_
                obtain ⟨f82_6169, f82_6171, f82_6173, f82_6175, f82_6177, f82_6179, f82_6181, f82_6183, f82_6185, f82_6187, f82_6189, f82_6190, f82_6191, f82_6193, f82_6195, f82_6197, h82_6199, hb6170, hb6172, hb6174, hb6176, hb6178, hb6180, hb6182, hb6184, hb6186, hb6188, hb6192, hb6194, hb6196, hb6198, hb6200⟩ := (hI6152 82 (by decide) (by decide) : cp82 (wget w6150 82))
                have hf6201 : fld w6150 82 4 = f82_6173 := fld_of h82_6199
                have hf6202 : fld w6150 82 5 = f82_6175 := fld_of h82_6199
                have hf6203 : fld w6150 82 7 = f82_6179 := fld_of h82_6199
                have hf6204 : fld w6150 82 10 = f82_6185 := fld_of h82_6199
                have hf6205 : fld w6150 82 14 = f82_6187 := fld_of h82_6199
                have hu6206 : mu w6150 = 2 * (fld w6150 82 4 - fld w6150 82 5) + min 1 (fld w6150 82 7) := rfl
                have hf6207 := pk6162.2.2.1
                have hl6208 : f82_6187 ≤ 1000 := by omega
                refine xg_t (xg_aload (va := (2, 82)) rfl rfl) ?_
                refine xg_t (xg_getf (va := (2, 85)) h82_6199 rfl) ?_
                refine xg_t (xg_iload (va := (0, 6)) rfl rfl) ?_
                refine xg_t (xg_dup2 rfl) ?_
                refine xg_ialdB (n := 6) (B := 4294967295) ((((((h85_37.fr hF5990 (by decide)).fr hF6037 (by decide)).fr hF6081 (by decide)).fr hF6092 (by decide)).fr hF6138 (by decide)).fr hF6153 (by decide)) (hb38) xnm0 (by omega) (fun u6209 hu6210 he6211 => ?_)
                have hl6212 : u6209 = u5980 := by omega
                refine xg_t (xg_const) ?_
                refine xg_t (xg_iadd (u := u6209) (v := 1) (z := u6209 + 1) xnm0 xnm0 (by omega)) ?_
                refine xg_iastK (n := 6) (u := u6209 + 1) ((((((h85_37.fr hF5990 (by decide)).fr hF6037 (by decide)).fr hF6081 (by decide)).fr hF6092 (by decide)).fr hF6138 (by decide)).fr hF6153 (by decide)) xnm0 xnm0 rfl (by omega) (fun w6213 hr6214 hb6215 => ?_)
                refine xg_t (xg_aload (va := (2, 82)) rfl rfl) ?_
                refine xg_t (xg_dup rfl) ?_
                refine xg_t (xg_getf (va := (0, f82_6187)) (hb6215.get (by decide) h82_6199) rfl) ?_
                refine xg_t (xg_const) ?_
                refine xg_t (xg_iadd (u := f82_6187) (v := 1) (z := f82_6187 + 1) xnm0 xnm0 (by omega)) ?_
                refine xg_putI (fl1 := [(2, 83), (2, 84), (0, f82_6169), (0, f82_6171), (0, f82_6173), (0, f82_6175), (0, f82_6177), (0, f82_6179), (0, f82_6181), (0, f82_6183), (0, f82_6185), (2, 85), (2, 86), (2, 87), (0, f82_6187 + 1), (2, 88), (2, 89), (2, 90), (2, 91), (2, 92), (2, 93), (2, 94), (4, f82_6189), (4, f82_6190), (0, f82_6191), (2, 95), (2, 96), (2, 97), (2, 98), (2, 99), (2, 100), (2, 101), (2, 102), (0, f82_6193), (2, 103), (2, 104), (2, 105), (2, 106), (2, 107), (2, 108), (2, 109), (0, f82_6195), (0, f82_6197), (2, 110), (2, 111), (2, 112), (2, 113)]) (hb6215.get (by decide) h82_6199) rfl rfl rfl (fun w6216 hk6217 hb6218 => ?_)
                have hF6219 : xFr [82, 85] w6150 w6216 := ((xFr.of (S := [82, 85]) hb6215 (by decide)).tr (xFr.of (S := [82, 85]) hb6218 (by decide)))
                have hA6220 := FA_fr hF6219 (by decide)
                have hf6221 : fld w6216 82 4 = f82_6173 := fld_of hk6217
                have hf6222 : fld w6216 82 5 = f82_6175 := fld_of hk6217
                have hf6223 : fld w6216 82 7 = f82_6179 := fld_of hk6217
                have hf6224 : fld w6216 82 10 = f82_6185 := fld_of hk6217
                have hf6225 : fld w6216 82 14 = f82_6187 + 1 := fld_of hk6217
                have hu6226 : mu w6216 = 2 * (fld w6216 82 4 - fld w6216 82 5) + min 1 (fld w6216 82 7) := rfl
                have pq6227 := pk6162
                unfold PK PS at pq6227
                have hM6228 : ∀ s, s < 7 → s ≠ 6 → rwv w6216 85 s = rwv w 85 s := fun s hs hn => (rwv_of (hr6214.but hb6218 (by decide)) hs).trans ((if_neg hn).trans (rwv_of h85_37 hs).symm)
                have hM6229 : rwv w6216 85 6 = u5980 + 1 := (rwv_of (hr6214.but hb6218 (by decide)) (by decide)).trans ((if_pos rfl).trans (by omega))
                have hM6230 : ∀ s, s < 7 → rwv w6216 85 s ≤ rwv w 85 s + 1 := fun s hs => by
                  by_cases z : s = 6
                  · subst z; omega
                  · rw [hM6228 s hs z]; omega
                have hO6231 : ∀ j, (j < 5 ∨ 7 ≤ j) → j < 140 → rwv w6216 86 j = rwv w 86 j := fun j hj hl => (rwv_fr hF6219 (by decide)).trans (os6163 j hj hl)
                have hl6233 : u5980 < 1 → rwv w6216 86 (5) = n6038 := fun h => (rwv_fr hF6219 (by decide)).trans (ix6164 h)
                have hl6234 : u5980 < 1 → rwv w6216 86 (6) = n6093 := fun h => (rwv_fr hF6219 (by decide)).trans (ix6165 h)
                have hl6235 : FA w6150 ≠ 0 ∨ (1 ≤ n6038 ∧ n6038 ≤ 6) := rg6166
                have hl6236 : FA w6150 ≠ 0 ∨ (1 ≤ n6093 ∧ n6093 ≤ 6) := rg6167
                have hN6232 : FA w6216 ≠ 0 ∨ 1 ≤ u5980 ∨ (1 ≤ rwv w6216 86 5 ∧ rwv w6216 86 5 ≤ 6 ∧ 1 ≤ rwv w6216 86 6 ∧ rwv w6216 86 6 ≤ 6) := by omega
                have hX6237 : FA w6216 ≠ 0 ∨ u5980 < 1 := by omega
                have hD6238 : FA w6216 ≠ 0 ∨ (DATA w → DATA w6216) := by
                  by_cases z : FA w6216 ≠ 0
                  · exact Or.inl z
                  · exact Or.inr (fun hd => hd.s6 hM6228 hK5983 hM6229 (hX6237.resolve_left z) hO6231 ((hN6232.resolve_left z).resolve_left (by have := hX6237.resolve_left z; omega)))
                exact xg_e ⟨w6216, ⟨rfl, rfl⟩, xMnv.up (S := [85, 82]) hI6152 ((xFr.of (S := [85, 82]) hb6215 (by decide)).tr (xFr.of (S := [85, 82]) hb6218 (by decide))) (List.forall_mem_cons.mpr ⟨(show cpI 7 52 4294967295 (wget w6216 85) from ⟨_, (hr6214.but hb6218 (by decide)), xrb (by omega) (hb38)⟩), List.forall_mem_cons.mpr ⟨(show cp82 (wget w6216 82) from ⟨f82_6169, f82_6171, f82_6173, f82_6175, f82_6177, f82_6179, f82_6181, f82_6183, f82_6185, f82_6187 + 1, f82_6189, f82_6190, f82_6191, f82_6193, f82_6195, f82_6197, hk6217, by omega, by omega, by omega, by omega, by omega, by omega, by omega, by omega, by omega, by omega, by omega, by omega, by omega, by omega, by omega⟩), fun _ h => absurd h List.not_mem_nil⟩⟩), (((((((hF5990.up (by decide)).tr (hF6037.up (by decide))).tr (hF6081.up (by decide))).tr (hF6092.up (by decide))).tr (hF6138.up (by decide))).tr (hF6153.up (by decide))).tr ((xFr.of (S := [82, 83, 85, 86, 87]) hb6215 (by decide)).tr (xFr.of (S := [82, 83, 85, 86, 87]) hb6218 (by decide)))), ⟨fun h => by have := pq6227.1 h; omega, (show fld w6216 82 10 = 0 ∨ FA w6216 ≠ 0 by omega), Or.inr ⟨by have := ms6168; omega, by omega, hM6230⟩, hD6238⟩⟩
              · refine xg_t (xg_icT (u := f82_6113) (v := 2) rfl xnm0 xnm0 (xj_neT hc6149)) ?_
                refine xg_t (xg_blk (b := [(416, 1, 0, 0, 0, 0), (417, 3, 13, 140, 96, 183)]) rfl) ?_
                refine xg_t (xg_aload (va := (2, 82)) rfl rfl) ?_
                refine xg_cVv mX12_ends (vs := []) (rest := []) (cn1 := 0) (sl1 := 0) rfl (mEnds (hI6137) pk6142.2.2.2) rfl (hF6138.get (by decide) h82_6133) rfl rfl rfl rfl rfl rfl (fun w6239 hq6240 => ?_)
                obtain ⟨hI6241, hF6242, hx6243⟩ := hq6240
                obtain ⟨hv6244, hv6245, hv6246, hv6247⟩ := hx6243
                have pk6248 : PK w6135 w6239 := ⟨fun _ => hv6244, by omega, by omega, Or.inr hv6244⟩
                have pk6249 : PK w w6239 := PK.tr pk6142 pk6248
                have os6250 : ∀ j, (j < 5 ∨ 7 ≤ j) → j < 140 → rwv w6239 86 j = rwv w 86 j := fun j hj hl => (rwv_fr hF6242 (by decide)).trans (os6143 j hj hl)
                have ix6251 : u5980 < 1 → rwv w6239 86 (5) = n6038 := fun h => (rwv_fr hF6242 (by decide)).trans (ix6144 h)
                have ix6252 : u5980 < 1 → rwv w6239 86 (6) = n6093 := fun h => (rwv_fr hF6242 (by decide)).trans (hp6140 h)
                have rg6253 : FA w6239 ≠ 0 ∨ (1 ≤ n6038 ∧ n6038 ≤ 6) := rg6145.imp_left pk6248.1
                have rg6254 : FA w6239 ≠ 0 ∨ (1 ≤ n6093 ∧ n6093 ≤ 6) := rg6146.imp_left pk6248.1
                have ms6255 : mu w6239 < mu w := Nat.lt_of_le_of_lt pk6248.2.1 ms6147
                refine xg_t (xg_blk (b := [(420, 1, 0, 0, 0, 0), (421, 3, 1, 12, 11, 17), (424, 1, 2, 1, 0, 0), (425, 1, 39, 0, 0, 0), (426, 1, 10, 0, 0, 0), (427, 1, 3, 1, 0, 0), (428, 1, 11, 0, 0, 0), (429, 1, 17, 0, 0, 0), (430, 1, 0, 0, 0, 0), (431, 1, 19, 0, 0, 0), (432, 3, 1, 12, 14, 212), (435, 1, 3, 1, 0, 0), (436, 1, 11, 0, 0, 0), (437, 3, 14, 12, 14, 212), (440, 1, 12, 0, 0, 0)]) rfl) ?_
                obtain ⟨f82_6256, f82_6258, f82_6260, f82_6262, f82_6264, f82_6266, f82_6268, f82_6270, f82_6272, f82_6274, f82_6276, f82_6277, f82_6278, f82_6280, f82_6282, f82_6284, h82_6286, hb6257, hb6259, hb6261, hb6263, hb6265, hb6267, hb6269, hb6271, hb6273, hb6275, hb6279, hb6281, hb6283, hb6285, hb6287⟩ := (hI6241 82 (by decide) (by decide) : cp82 (wget w6239 82))
                have hf6288 : fld w6239 82 4 = f82_6260 := fld_of h82_6286
                have hf6289 : fld w6239 82 5 = f82_6262 := fld_of h82_6286
                have hf6290 : fld w6239 82 7 = f82_6266 := fld_of h82_6286
                have hf6291 : fld w6239 82 10 = f82_6272 := fld_of h82_6286
                have hf6292 : fld w6239 82 14 = f82_6274 := fld_of h82_6286
                have hu6293 : mu w6239 = 2 * (fld w6239 82 4 - fld w6239 82 5) + min 1 (fld w6239 82 7) := rfl
                have hf6294 := pk6249.2.2.1
                have hl6295 : f82_6274 ≤ 1000 := by omega
                refine xg_t (xg_aload (va := (2, 82)) rfl rfl) ?_
                refine xg_t (xg_getf (va := (2, 85)) h82_6286 rfl) ?_
                refine xg_t (xg_iload (va := (0, 6)) rfl rfl) ?_
                refine xg_t (xg_dup2 rfl) ?_
                refine xg_ialdB (n := 6) (B := 4294967295) ((((((h85_37.fr hF5990 (by decide)).fr hF6037 (by decide)).fr hF6081 (by decide)).fr hF6092 (by decide)).fr hF6138 (by decide)).fr hF6242 (by decide)) (hb38) xnm0 (by omega) (fun u6296 hu6297 he6298 => ?_)
                have hl6299 : u6296 = u5980 := by omega
                refine xg_t (xg_const) ?_
                refine xg_t (xg_iadd (u := u6296) (v := 1) (z := u6296 + 1) xnm0 xnm0 (by omega)) ?_
                refine xg_iastK (n := 6) (u := u6296 + 1) ((((((h85_37.fr hF5990 (by decide)).fr hF6037 (by decide)).fr hF6081 (by decide)).fr hF6092 (by decide)).fr hF6138 (by decide)).fr hF6242 (by decide)) xnm0 xnm0 rfl (by omega) (fun w6300 hr6301 hb6302 => ?_)
                refine xg_t (xg_aload (va := (2, 82)) rfl rfl) ?_
                refine xg_t (xg_dup rfl) ?_
                refine xg_t (xg_getf (va := (0, f82_6274)) (hb6302.get (by decide) h82_6286) rfl) ?_
                refine xg_t (xg_const) ?_
                refine xg_t (xg_iadd (u := f82_6274) (v := 1) (z := f82_6274 + 1) xnm0 xnm0 (by omega)) ?_
                refine xg_putI (fl1 := [(2, 83), (2, 84), (0, f82_6256), (0, f82_6258), (0, f82_6260), (0, f82_6262), (0, f82_6264), (0, f82_6266), (0, f82_6268), (0, f82_6270), (0, f82_6272), (2, 85), (2, 86), (2, 87), (0, f82_6274 + 1), (2, 88), (2, 89), (2, 90), (2, 91), (2, 92), (2, 93), (2, 94), (4, f82_6276), (4, f82_6277), (0, f82_6278), (2, 95), (2, 96), (2, 97), (2, 98), (2, 99), (2, 100), (2, 101), (2, 102), (0, f82_6280), (2, 103), (2, 104), (2, 105), (2, 106), (2, 107), (2, 108), (2, 109), (0, f82_6282), (0, f82_6284), (2, 110), (2, 111), (2, 112), (2, 113)]) (hb6302.get (by decide) h82_6286) rfl rfl rfl (fun w6303 hk6304 hb6305 => ?_)
                have hF6306 : xFr [82, 85] w6239 w6303 := ((xFr.of (S := [82, 85]) hb6302 (by decide)).tr (xFr.of (S := [82, 85]) hb6305 (by decide)))
                have hA6307 := FA_fr hF6306 (by decide)
                have hf6308 : fld w6303 82 4 = f82_6260 := fld_of hk6304
                have hf6309 : fld w6303 82 5 = f82_6262 := fld_of hk6304
                have hf6310 : fld w6303 82 7 = f82_6266 := fld_of hk6304
                have hf6311 : fld w6303 82 10 = f82_6272 := fld_of hk6304
                have hf6312 : fld w6303 82 14 = f82_6274 + 1 := fld_of hk6304
                have hu6313 : mu w6303 = 2 * (fld w6303 82 4 - fld w6303 82 5) + min 1 (fld w6303 82 7) := rfl
                have pq6314 := pk6249
                unfold PK PS at pq6314
                have hM6315 : ∀ s, s < 7 → s ≠ 6 → rwv w6303 85 s = rwv w 85 s := fun s hs hn => (rwv_of (hr6301.but hb6305 (by decide)) hs).trans ((if_neg hn).trans (rwv_of h85_37 hs).symm)
                have hM6316 : rwv w6303 85 6 = u5980 + 1 := (rwv_of (hr6301.but hb6305 (by decide)) (by decide)).trans ((if_pos rfl).trans (by omega))
                have hM6317 : ∀ s, s < 7 → rwv w6303 85 s ≤ rwv w 85 s + 1 := fun s hs => by
                  by_cases z : s = 6
                  · subst z; omega
                  · rw [hM6315 s hs z]; omega
                have hO6318 : ∀ j, (j < 5 ∨ 7 ≤ j) → j < 140 → rwv w6303 86 j = rwv w 86 j := fun j hj hl => (rwv_fr hF6306 (by decide)).trans (os6250 j hj hl)
                have hl6320 : u5980 < 1 → rwv w6303 86 (5) = n6038 := fun h => (rwv_fr hF6306 (by decide)).trans (ix6251 h)
                have hl6321 : u5980 < 1 → rwv w6303 86 (6) = n6093 := fun h => (rwv_fr hF6306 (by decide)).trans (ix6252 h)
                have hl6322 : FA w6239 ≠ 0 ∨ (1 ≤ n6038 ∧ n6038 ≤ 6) := rg6253
                have hl6323 : FA w6239 ≠ 0 ∨ (1 ≤ n6093 ∧ n6093 ≤ 6) := rg6254
                have hN6319 : FA w6303 ≠ 0 ∨ 1 ≤ u5980 ∨ (1 ≤ rwv w6303 86 5 ∧ rwv w6303 86 5 ≤ 6 ∧ 1 ≤ rwv w6303 86 6 ∧ rwv w6303 86 6 ≤ 6) := by omega
                have hX6324 : FA w6303 ≠ 0 ∨ u5980 < 1 := by omega
                have hD6325 : FA w6303 ≠ 0 ∨ (DATA w → DATA w6303) := by
                  by_cases z : FA w6303 ≠ 0
                  · exact Or.inl z
                  · exact Or.inr (fun hd => hd.s6 hM6315 hK5983 hM6316 (hX6324.resolve_left z) hO6318 ((hN6319.resolve_left z).resolve_left (by have := hX6324.resolve_left z; omega)))
                exact xg_e ⟨w6303, ⟨rfl, rfl⟩, xMnv.up (S := [85, 82]) hI6241 ((xFr.of (S := [85, 82]) hb6302 (by decide)).tr (xFr.of (S := [85, 82]) hb6305 (by decide))) (List.forall_mem_cons.mpr ⟨(show cpI 7 52 4294967295 (wget w6303 85) from ⟨_, (hr6301.but hb6305 (by decide)), xrb (by omega) (hb38)⟩), List.forall_mem_cons.mpr ⟨(show cp82 (wget w6303 82) from ⟨f82_6256, f82_6258, f82_6260, f82_6262, f82_6264, f82_6266, f82_6268, f82_6270, f82_6272, f82_6274 + 1, f82_6276, f82_6277, f82_6278, f82_6280, f82_6282, f82_6284, hk6304, by omega, by omega, by omega, by omega, by omega, by omega, by omega, by omega, by omega, by omega, by omega, by omega, by omega, by omega, by omega⟩), fun _ h => absurd h List.not_mem_nil⟩⟩), (((((((hF5990.up (by decide)).tr (hF6037.up (by decide))).tr (hF6081.up (by decide))).tr (hF6092.up (by decide))).tr (hF6138.up (by decide))).tr (hF6242.up (by decide))).tr ((xFr.of (S := [82, 83, 85, 86, 87]) hb6302 (by decide)).tr (xFr.of (S := [82, 83, 85, 86, 87]) hb6305 (by decide)))), ⟨fun h => by have := pq6314.1 h; omega, (show fld w6303 82 10 = 0 ∨ FA w6303 ≠ 0 by omega), Or.inr ⟨by have := ms6255; omega, by omega, hM6317⟩, hD6325⟩⟩
            · refine xg_t (xg_ifT (u := f82_6119) rfl xnm0 (xj_neT hc6148)) ?_
              refine xg_t (xg_blk (b := [(416, 1, 0, 0, 0, 0), (417, 3, 13, 140, 96, 183)]) rfl) ?_
              refine xg_t (xg_aload (va := (2, 82)) rfl rfl) ?_
              refine xg_cVv mX12_ends (vs := []) (rest := []) (cn1 := 0) (sl1 := 0) rfl (mEnds (hI6137) pk6142.2.2.2) rfl (hF6138.get (by decide) h82_6133) rfl rfl rfl rfl rfl rfl (fun w6326 hq6327 => ?_)
              obtain ⟨hI6328, hF6329, hx6330⟩ := hq6327
              obtain ⟨hv6331, hv6332, hv6333, hv6334⟩ := hx6330
              have pk6335 : PK w6135 w6326 := ⟨fun _ => hv6331, by omega, by omega, Or.inr hv6331⟩
              have pk6336 : PK w w6326 := PK.tr pk6142 pk6335
              have os6337 : ∀ j, (j < 5 ∨ 7 ≤ j) → j < 140 → rwv w6326 86 j = rwv w 86 j := fun j hj hl => (rwv_fr hF6329 (by decide)).trans (os6143 j hj hl)
              have ix6338 : u5980 < 1 → rwv w6326 86 (5) = n6038 := fun h => (rwv_fr hF6329 (by decide)).trans (ix6144 h)
              have ix6339 : u5980 < 1 → rwv w6326 86 (6) = n6093 := fun h => (rwv_fr hF6329 (by decide)).trans (hp6140 h)
              have rg6340 : FA w6326 ≠ 0 ∨ (1 ≤ n6038 ∧ n6038 ≤ 6) := rg6145.imp_left pk6335.1
              have rg6341 : FA w6326 ≠ 0 ∨ (1 ≤ n6093 ∧ n6093 ≤ 6) := rg6146.imp_left pk6335.1
              have ms6342 : mu w6326 < mu w := Nat.lt_of_le_of_lt pk6335.2.1 ms6147
              refine xg_t (xg_blk (b := [(420, 1, 0, 0, 0, 0), (421, 3, 1, 12, 11, 17), (424, 1, 2, 1, 0, 0), (425, 1, 39, 0, 0, 0), (426, 1, 10, 0, 0, 0), (427, 1, 3, 1, 0, 0), (428, 1, 11, 0, 0, 0), (429, 1, 17, 0, 0, 0), (430, 1, 0, 0, 0, 0), (431, 1, 19, 0, 0, 0), (432, 3, 1, 12, 14, 212), (435, 1, 3, 1, 0, 0), (436, 1, 11, 0, 0, 0), (437, 3, 14, 12, 14, 212), (440, 1, 12, 0, 0, 0)]) rfl) ?_
              obtain ⟨f82_6343, f82_6345, f82_6347, f82_6349, f82_6351, f82_6353, f82_6355, f82_6357, f82_6359, f82_6361, f82_6363, f82_6364, f82_6365, f82_6367, f82_6369, f82_6371, h82_6373, hb6344, hb6346, hb6348, hb6350, hb6352, hb6354, hb6356, hb6358, hb6360, hb6362, hb6366, hb6368, hb6370, hb6372, hb6374⟩ := (hI6328 82 (by decide) (by decide) : cp82 (wget w6326 82))
              have hf6375 : fld w6326 82 4 = f82_6347 := fld_of h82_6373
              have hf6376 : fld w6326 82 5 = f82_6349 := fld_of h82_6373
              have hf6377 : fld w6326 82 7 = f82_6353 := fld_of h82_6373
              have hf6378 : fld w6326 82 10 = f82_6359 := fld_of h82_6373
              have hf6379 : fld w6326 82 14 = f82_6361 := fld_of h82_6373
              have hu6380 : mu w6326 = 2 * (fld w6326 82 4 - fld w6326 82 5) + min 1 (fld w6326 82 7) := rfl
              have hf6381 := pk6336.2.2.1
              have hl6382 : f82_6361 ≤ 1000 := by omega
              refine xg_t (xg_aload (va := (2, 82)) rfl rfl) ?_
              refine xg_t (xg_getf (va := (2, 85)) h82_6373 rfl) ?_
              refine xg_t (xg_iload (va := (0, 6)) rfl rfl) ?_
              refine xg_t (xg_dup2 rfl) ?_
              refine xg_ialdB (n := 6) (B := 4294967295) ((((((h85_37.fr hF5990 (by decide)).fr hF6037 (by decide)).fr hF6081 (by decide)).fr hF6092 (by decide)).fr hF6138 (by decide)).fr hF6329 (by decide)) (hb38) xnm0 (by omega) (fun u6383 hu6384 he6385 => ?_)
              have hl6386 : u6383 = u5980 := by omega
              refine xg_t (xg_const) ?_
              refine xg_t (xg_iadd (u := u6383) (v := 1) (z := u6383 + 1) xnm0 xnm0 (by omega)) ?_
              refine xg_iastK (n := 6) (u := u6383 + 1) ((((((h85_37.fr hF5990 (by decide)).fr hF6037 (by decide)).fr hF6081 (by decide)).fr hF6092 (by decide)).fr hF6138 (by decide)).fr hF6329 (by decide)) xnm0 xnm0 rfl (by omega) (fun w6387 hr6388 hb6389 => ?_)
              refine xg_t (xg_aload (va := (2, 82)) rfl rfl) ?_
              refine xg_t (xg_dup rfl) ?_
              refine xg_t (xg_getf (va := (0, f82_6361)) (hb6389.get (by decide) h82_6373) rfl) ?_
              refine xg_t (xg_const) ?_
              refine xg_t (xg_iadd (u := f82_6361) (v := 1) (z := f82_6361 + 1) xnm0 xnm0 (by omega)) ?_
              refine xg_putI (fl1 := [(2, 83), (2, 84), (0, f82_6343), (0, f82_6345), (0, f82_6347), (0, f82_6349), (0, f82_6351), (0, f82_6353), (0, f82_6355), (0, f82_6357), (0, f82_6359), (2, 85), (2, 86), (2, 87), (0, f82_6361 + 1), (2, 88), (2, 89), (2, 90), (2, 91), (2, 92), (2, 93), (2, 94), (4, f82_6363), (4, f82_6364), (0, f82_6365), (2, 95), (2, 96), (2, 97), (2, 98), (2, 99), (2, 100), (2, 101), (2, 102), (0, f82_6367), (2, 103), (2, 104), (2, 105), (2, 106), (2, 107), (2, 108), (2, 109), (0, f82_6369), (0, f82_6371), (2, 110), (2, 111), (2, 112), (2, 113)]) (hb6389.get (by decide) h82_6373) rfl rfl rfl (fun w6390 hk6391 hb6392 => ?_)
              have hF6393 : xFr [82, 85] w6326 w6390 := ((xFr.of (S := [82, 85]) hb6389 (by decide)).tr (xFr.of (S := [82, 85]) hb6392 (by decide)))
              have hA6394 := FA_fr hF6393 (by decide)
              have hf6395 : fld w6390 82 4 = f82_6347 := fld_of hk6391
              have hf6396 : fld w6390 82 5 = f82_6349 := fld_of hk6391
              have hf6397 : fld w6390 82 7 = f82_6353 := fld_of hk6391
              have hf6398 : fld w6390 82 10 = f82_6359 := fld_of hk6391
              have hf6399 : fld w6390 82 14 = f82_6361 + 1 := fld_of hk6391
              have hu6400 : mu w6390 = 2 * (fld w6390 82 4 - fld w6390 82 5) + min 1 (fld w6390 82 7) := rfl
              have pq6401 := pk6336
              unfold PK PS at pq6401
              have hM6402 : ∀ s, s < 7 → s ≠ 6 → rwv w6390 85 s = rwv w 85 s := fun s hs hn => (rwv_of (hr6388.but hb6392 (by decide)) hs).trans ((if_neg hn).trans (rwv_of h85_37 hs).symm)
              have hM6403 : rwv w6390 85 6 = u5980 + 1 := (rwv_of (hr6388.but hb6392 (by decide)) (by decide)).trans ((if_pos rfl).trans (by omega))
              have hM6404 : ∀ s, s < 7 → rwv w6390 85 s ≤ rwv w 85 s + 1 := fun s hs => by
                by_cases z : s = 6
                · subst z; omega
                · rw [hM6402 s hs z]; omega
              have hO6405 : ∀ j, (j < 5 ∨ 7 ≤ j) → j < 140 → rwv w6390 86 j = rwv w 86 j := fun j hj hl => (rwv_fr hF6393 (by decide)).trans (os6337 j hj hl)
              have hl6407 : u5980 < 1 → rwv w6390 86 (5) = n6038 := fun h => (rwv_fr hF6393 (by decide)).trans (ix6338 h)
              have hl6408 : u5980 < 1 → rwv w6390 86 (6) = n6093 := fun h => (rwv_fr hF6393 (by decide)).trans (ix6339 h)
              have hl6409 : FA w6326 ≠ 0 ∨ (1 ≤ n6038 ∧ n6038 ≤ 6) := rg6340
              have hl6410 : FA w6326 ≠ 0 ∨ (1 ≤ n6093 ∧ n6093 ≤ 6) := rg6341
              have hN6406 : FA w6390 ≠ 0 ∨ 1 ≤ u5980 ∨ (1 ≤ rwv w6390 86 5 ∧ rwv w6390 86 5 ≤ 6 ∧ 1 ≤ rwv w6390 86 6 ∧ rwv w6390 86 6 ≤ 6) := by omega
              have hX6411 : FA w6390 ≠ 0 ∨ u5980 < 1 := by omega
              have hD6412 : FA w6390 ≠ 0 ∨ (DATA w → DATA w6390) := by
                by_cases z : FA w6390 ≠ 0
                · exact Or.inl z
                · exact Or.inr (fun hd => hd.s6 hM6402 hK5983 hM6403 (hX6411.resolve_left z) hO6405 ((hN6406.resolve_left z).resolve_left (by have := hX6411.resolve_left z; omega)))
              exact xg_e ⟨w6390, ⟨rfl, rfl⟩, xMnv.up (S := [85, 82]) hI6328 ((xFr.of (S := [85, 82]) hb6389 (by decide)).tr (xFr.of (S := [85, 82]) hb6392 (by decide))) (List.forall_mem_cons.mpr ⟨(show cpI 7 52 4294967295 (wget w6390 85) from ⟨_, (hr6388.but hb6392 (by decide)), xrb (by omega) (hb38)⟩), List.forall_mem_cons.mpr ⟨(show cp82 (wget w6390 82) from ⟨f82_6343, f82_6345, f82_6347, f82_6349, f82_6351, f82_6353, f82_6355, f82_6357, f82_6359, f82_6361 + 1, f82_6363, f82_6364, f82_6365, f82_6367, f82_6369, f82_6371, hk6391, by omega, by omega, by omega, by omega, by omega, by omega, by omega, by omega, by omega, by omega, by omega, by omega, by omega, by omega, by omega⟩), fun _ h => absurd h List.not_mem_nil⟩⟩), (((((((hF5990.up (by decide)).tr (hF6037.up (by decide))).tr (hF6081.up (by decide))).tr (hF6092.up (by decide))).tr (hF6138.up (by decide))).tr (hF6329.up (by decide))).tr ((xFr.of (S := [82, 83, 85, 86, 87]) hb6389 (by decide)).tr (xFr.of (S := [82, 83, 85, 86, 87]) hb6392 (by decide)))), ⟨fun h => by have := pq6401.1 h; omega, (show fld w6390 82 10 = 0 ∨ FA w6390 ≠ 0 by omega), Or.inr ⟨by have := ms6342; omega, by omega, hM6404⟩, hD6412⟩⟩
          · refine xg_t (xg_icF (u := u5980) (v := 1) rfl xnm0 xnm0 (xj_ltF (by omega) (by omega))) ?_
            refine xg_t (xg_aload (va := (2, 82)) rfl rfl) ?_
            refine xg_t (xg_const) ?_
            refine xg_t (xg_iload (va := (0, f82_9)) rfl rfl) ?_
            refine xg_cVv mX12_also (vs := [(0, 3), (0, f82_9)]) (rest := []) (cn1 := 0) (sl1 := 0) rfl (mAlso (hI) (by omega) (by omega) (by omega) (PK.rf hps).2.2.2) rfl h82_31 rfl rfl rfl rfl rfl rfl (fun w6413 hq6414 => ?_)
            obtain ⟨hI6415, hF6416, hx6417⟩ := hq6414
            have pk6418 : PK w w6413 := ⟨fun _ => hx6417, Nat.le_of_eq (mu_fr hF6416 (by decide)), fld_fr hF6416 (by decide), Or.inr hx6417⟩
            have pk6419 : PK w w6413 := PK.tr (PK.rf hps) pk6418
            have os6420 : ∀ j, (j < 5 ∨ 7 ≤ j) → j < 140 → rwv w6413 86 j = rwv w 86 j := fun j hj hl => (rwv_fr hF6416 (by decide)).trans ((fun j _ _ => rfl) j hj hl)
            have hf6421 := fld_fr (c := 82) (j := 7) hF6416 (by decide)
            refine xg_t (xg_blk (b := [(64, 1, 0, 0, 0, 0), (65, 3, 13, 110, 96, 190), (68, 1, 2, 1, 0, 0), (69, 39, 33, 362, 0, 9)]) rfl) ?_
            refine xg_t (xg_aload (va := (2, 82)) rfl rfl) ?_
            refine xg_cVv mX12_advance (vs := []) (rest := []) (cn1 := 0) (sl1 := 0) rfl (mAdvance (hI6415)) rfl (hF6416.get (by decide) h82_31) rfl rfl rfl rfl rfl rfl (fun w6422 hq6423 => ?_)
            obtain ⟨hI6424, hF6425, hx6426⟩ := hq6423
            obtain ⟨hv6427, hv6428, hv6429, hv6430⟩ := hx6426
            have hf6432 := FA_fr hF6425 (by decide)
            have hs6433 := pk6419.2.2.2
            unfold PS at hs6433
            have pk6431 : PK w6413 w6422 := ⟨fun _ => by omega, hv6427, hv6430, (show fld w6422 82 10 = 0 ∨ FA w6422 ≠ 0 by omega)⟩
            have pk6434 : PK w w6422 := PK.tr pk6419 pk6431
            have os6435 : ∀ j, (j < 5 ∨ 7 ≤ j) → j < 140 → rwv w6422 86 j = rwv w 86 j := fun j hj hl => (rwv_fr hF6425 (by decide)).trans (os6420 j hj hl)
            have rg6436 : FA w6422 ≠ 0 ∨ False := (Or.inl hx6417 : FA w6413 ≠ 0 ∨ False).imp_left pk6431.1
            have ms6437 : mu w6422 < mu w := Nat.lt_of_lt_of_le (hv6428 (by omega)) pk6419.2.1
            refine xg_t (xg_iload (va := (0, 6)) rfl rfl) ?_
            refine xg_t (xg_swt (ks := [(0, 108), (1, 116), (2, 180), (3, 221), (4, 273), (5, 326)]) (u := 6) (z := 362) rfl rfl rfl xnm0 (xsw_n (by omega) (xsw_n (by omega) (xsw_n (by omega) (xsw_n (by omega) (xsw_n (by omega) (xsw_n (by omega) (xsw_d)))))))) ?_
            refine xg_t (xg_blk (b := [(362, 1, 3, 0, 0, 0), (363, 2, 15, 4, 0, 0)]) rfl) ?_
            refine xg_t (xg_const) ?_
            refine xg_t (xg_istore (l1 := [(3, (0, u5980)), (2, (0, f82_9)), (1, (0, 6)), (0, (2, 82))]) rfl rfl rfl) ?_
            refine xg_t (xg_blk (b := [(365, 2, 2, 4, 0, 0), (367, 1, 3, 2, 0, 0), (368, 3, 6, 394, 3, 0), (371, 1, 0, 0, 0, 0), (372, 1, 2, 1, 0, 0), (373, 1, 2, 3, 0, 0), (374, 1, 3, 5, 0, 0), (375, 2, 2, 4, 0, 0), (377, 1, 11, 0, 0, 0), (378, 1, 0, 0, 0, 0), (379, 1, 3, 1, 0, 0), (380, 2, 4, 6, 0, 0), (382, 3, 13, 199, 96, 196), (385, 3, 13, 211, 96, 200), (388, 3, 9, 4, 1, 0), (391, 3, 8, 365, 0, 0)]) rfl) ?_
            refine xg_t (xg_iload (va := (0, 0)) rfl rfl) ?_
            refine xg_t (xg_const) ?_
            refine xg_t (xg_icF (u := 0) (v := 2) rfl xnm0 xnm0 (by decide)) ?_
            refine xg_t (xg_aload (va := (2, 82)) rfl rfl) ?_
            refine xg_t (xg_iload (va := (0, 6)) rfl rfl) ?_
            refine xg_t (xg_iload (va := (0, u5980)) rfl rfl) ?_
            refine xg_t (xg_const) ?_
            refine xg_t (xg_iload (va := (0, 0)) rfl rfl) ?_
            refine xg_t (xg_iadd (u := 5) (v := 0) (z := 5) xnm0 xnm0 (by decide)) ?_
            refine xg_t (xg_aload (va := (2, 82)) rfl rfl) ?_
            refine xg_t (xg_const) ?_
            refine xg_t (xg_bip) ?_
            obtain ⟨f82_6438, f82_6440, f82_6442, f82_6444, f82_6446, f82_6448, f82_6450, f82_6452, f82_6454, f82_6456, f82_6458, f82_6459, f82_6460, f82_6462, f82_6464, f82_6466, h82_6468, hb6439, hb6441, hb6443, hb6445, hb6447, hb6449, hb6451, hb6453, hb6455, hb6457, hb6461, hb6463, hb6465, hb6467, hb6469⟩ := (hI6424 82 (by decide) (by decide) : cp82 (wget w6422 82))
            refine xg_cVi mX12_numbered (vs := [(0, 1), (0, 6)]) (rest := [(0, 5), (0, u5980), (0, 6), (2, 82)]) (cn1 := 0) (sl1 := 0) rfl (mNumbered (hI6424) (by omega) (by omega) pk6434.2.2.2) rfl h82_6468 rfl rfl rfl rfl rfl rfl (fun n6474 w6470 hq6471 => ?_)
            obtain ⟨hn6475, hI6472, hF6473⟩ := hq6471
            obtain ⟨hn6476, hn6477, hn6478⟩ := hn6475
            have pk6479 : PK w w6470 := PK.tr pk6434 hn6477
            have os6480 : ∀ j, (j < 5 ∨ 7 ≤ j) → j < 140 → rwv w6470 86 j = rwv w 86 j := fun j hj hl => (rwv_fr hF6473 (by decide)).trans (os6435 j hj hl)
            have rg6481 : FA w6470 ≠ 0 ∨ False := rg6436.imp_left hn6477.1
            have ms6482 : mu w6470 < mu w := Nat.lt_of_le_of_lt hn6477.2.1 ms6437
            obtain ⟨f82_6483, f82_6485, f82_6487, f82_6489, f82_6491, f82_6493, f82_6495, f82_6497, f82_6499, f82_6501, f82_6503, f82_6504, f82_6505, f82_6507, f82_6509, f82_6511, h82_6513, hb6484, hb6486, hb6488, hb6490, hb6492, hb6494, hb6496, hb6498, hb6500, hb6502, hb6506, hb6508, hb6510, hb6512, hb6514⟩ := (hI6472 82 (by decide) (by decide) : cp82 (wget w6470 82))
            refine xg_cVv mX12_puts (vs := [(0, 6), (0, u5980), (0, 5), (0, n6474)]) (rest := []) (cn1 := 0) (sl1 := 0) rfl (mPuts6 (hI6472) (by omega) (by omega) (by omega) (fun _ => by omega)) rfl h82_6513 rfl rfl rfl rfl rfl rfl (fun w6515 hq6516 => ?_)
            obtain ⟨hI6517, hF6518, hx6519⟩ := hq6516
            obtain ⟨hp6520, hp6521⟩ := hx6519
            have pk6522 : PK w w6515 := PK.tr pk6479 (PK.fr hF6518 (by decide) (by decide) pk6479.2.2.2)
            have os6523 : ∀ j, (j < 5 ∨ 7 ≤ j) → j < 140 → rwv w6515 86 j = rwv w 86 j := fun j hj hl => (hp6521 j (by omega) hl).trans (os6480 j hj hl)
            have rg6524 : FA w6515 ≠ 0 ∨ False := rg6481.imp_left (PK.fr hF6518 (by decide) (by decide) pk6479.2.2.2).1
            have rg6525 : FA w6515 ≠ 0 ∨ (1 ≤ n6474 ∧ n6474 ≤ 6) := hn6478.imp_left (PK.fr hF6518 (by decide) (by decide) pk6479.2.2.2).1
            have ms6526 : mu w6515 < mu w := Nat.lt_of_le_of_lt (PK.fr hF6518 (by decide) (by decide) pk6479.2.2.2).2.1 ms6482
            refine xg_t (xg_iinc (u := 0) (z := 1) (l1 := [(3, (0, u5980)), (2, (0, f82_9)), (1, (0, 6)), (0, (2, 82))]) rfl rfl (by decide) rfl) ?_
            refine xg_t (xg_goto) ?_
            refine xg_t (xg_blk (b := [(365, 2, 2, 4, 0, 0), (367, 1, 3, 2, 0, 0), (368, 3, 6, 394, 3, 0), (371, 1, 0, 0, 0, 0), (372, 1, 2, 1, 0, 0), (373, 1, 2, 3, 0, 0), (374, 1, 3, 5, 0, 0), (375, 2, 2, 4, 0, 0), (377, 1, 11, 0, 0, 0), (378, 1, 0, 0, 0, 0), (379, 1, 3, 1, 0, 0), (380, 2, 4, 6, 0, 0), (382, 3, 13, 199, 96, 196), (385, 3, 13, 211, 96, 200), (388, 3, 9, 4, 1, 0), (391, 3, 8, 365, 0, 0)]) rfl) ?_
            refine xg_t (xg_iload (va := (0, 1)) rfl rfl) ?_
            refine xg_t (xg_const) ?_
            refine xg_t (xg_icF (u := 1) (v := 2) rfl xnm0 xnm0 (by decide)) ?_
            refine xg_t (xg_aload (va := (2, 82)) rfl rfl) ?_
            refine xg_t (xg_iload (va := (0, 6)) rfl rfl) ?_
            refine xg_t (xg_iload (va := (0, u5980)) rfl rfl) ?_
            refine xg_t (xg_const) ?_
            refine xg_t (xg_iload (va := (0, 1)) rfl rfl) ?_
            refine xg_t (xg_iadd (u := 5) (v := 1) (z := 6) xnm0 xnm0 (by decide)) ?_
            refine xg_t (xg_aload (va := (2, 82)) rfl rfl) ?_
            refine xg_t (xg_const) ?_
            refine xg_t (xg_bip) ?_
            refine xg_cVi mX12_numbered (vs := [(0, 1), (0, 6)]) (rest := [(0, 6), (0, u5980), (0, 6), (2, 82)]) (cn1 := 0) (sl1 := 0) rfl (mNumbered (hI6517) (by omega) (by omega) pk6522.2.2.2) rfl (hF6518.get (by decide) h82_6513) rfl rfl rfl rfl rfl rfl (fun n6531 w6527 hq6528 => ?_)
            obtain ⟨hn6532, hI6529, hF6530⟩ := hq6528
            obtain ⟨hn6533, hn6534, hn6535⟩ := hn6532
            have pk6536 : PK w w6527 := PK.tr pk6522 hn6534
            have os6537 : ∀ j, (j < 5 ∨ 7 ≤ j) → j < 140 → rwv w6527 86 j = rwv w 86 j := fun j hj hl => (rwv_fr hF6530 (by decide)).trans (os6523 j hj hl)
            have ix6538 : u5980 < 1 → rwv w6527 86 (5) = n6474 := fun h => (rwv_fr hF6530 (by decide)).trans (hp6520 h)
            have rg6539 : FA w6527 ≠ 0 ∨ False := rg6524.imp_left hn6534.1
            have rg6540 : FA w6527 ≠ 0 ∨ (1 ≤ n6474 ∧ n6474 ≤ 6) := rg6525.imp_left hn6534.1
            have ms6541 : mu w6527 < mu w := Nat.lt_of_le_of_lt hn6534.2.1 ms6526
            obtain ⟨f82_6542, f82_6544, f82_6546, f82_6548, f82_6550, f82_6552, f82_6554, f82_6556, f82_6558, f82_6560, f82_6562, f82_6563, f82_6564, f82_6566, f82_6568, f82_6570, h82_6572, hb6543, hb6545, hb6547, hb6549, hb6551, hb6553, hb6555, hb6557, hb6559, hb6561, hb6565, hb6567, hb6569, hb6571, hb6573⟩ := (hI6529 82 (by decide) (by decide) : cp82 (wget w6527 82))
            refine xg_cVv mX12_puts (vs := [(0, 6), (0, u5980), (0, 6), (0, n6531)]) (rest := []) (cn1 := 0) (sl1 := 0) rfl (mPuts6 (hI6529) (by omega) (by omega) (by omega) (fun _ => by omega)) rfl h82_6572 rfl rfl rfl rfl rfl rfl (fun w6574 hq6575 => ?_)
            obtain ⟨hI6576, hF6577, hx6578⟩ := hq6575
            obtain ⟨hp6579, hp6580⟩ := hx6578
            have pk6581 : PK w w6574 := PK.tr pk6536 (PK.fr hF6577 (by decide) (by decide) pk6536.2.2.2)
            have os6582 : ∀ j, (j < 5 ∨ 7 ≤ j) → j < 140 → rwv w6574 86 j = rwv w 86 j := fun j hj hl => (hp6580 j (by omega) hl).trans (os6537 j hj hl)
            have ix6583 : u5980 < 1 → rwv w6574 86 (5) = n6474 := fun h => (hp6580 _ (by omega) (by omega)).trans (ix6538 h)
            have rg6584 : FA w6574 ≠ 0 ∨ False := rg6539.imp_left (PK.fr hF6577 (by decide) (by decide) pk6536.2.2.2).1
            have rg6585 : FA w6574 ≠ 0 ∨ (1 ≤ n6474 ∧ n6474 ≤ 6) := rg6540.imp_left (PK.fr hF6577 (by decide) (by decide) pk6536.2.2.2).1
            have rg6586 : FA w6574 ≠ 0 ∨ (1 ≤ n6531 ∧ n6531 ≤ 6) := hn6535.imp_left (PK.fr hF6577 (by decide) (by decide) pk6536.2.2.2).1
            have ms6587 : mu w6574 < mu w := Nat.lt_of_le_of_lt (PK.fr hF6577 (by decide) (by decide) pk6536.2.2.2).2.1 ms6541
            refine xg_t (xg_iinc (u := 1) (z := 2) (l1 := [(3, (0, u5980)), (2, (0, f82_9)), (1, (0, 6)), (0, (2, 82))]) rfl rfl (by decide) rfl) ?_
            refine xg_t (xg_goto) ?_
            refine xg_t (xg_blk (b := [(365, 2, 2, 4, 0, 0), (367, 1, 3, 2, 0, 0), (368, 3, 6, 394, 3, 0), (371, 1, 0, 0, 0, 0), (372, 1, 2, 1, 0, 0), (373, 1, 2, 3, 0, 0), (374, 1, 3, 5, 0, 0), (375, 2, 2, 4, 0, 0), (377, 1, 11, 0, 0, 0), (378, 1, 0, 0, 0, 0), (379, 1, 3, 1, 0, 0), (380, 2, 4, 6, 0, 0), (382, 3, 13, 199, 96, 196), (385, 3, 13, 211, 96, 200), (388, 3, 9, 4, 1, 0), (391, 3, 8, 365, 0, 0)]) rfl) ?_
            refine xg_t (xg_iload (va := (0, 2)) rfl rfl) ?_
            refine xg_t (xg_const) ?_
            refine xg_t (xg_icT (u := 2) (v := 2) rfl xnm0 xnm0 (by decide)) ?_
            refine xg_t (xg_blk (b := [(394, 1, 0, 0, 0, 0), (395, 3, 1, 12, 10, 180), (398, 3, 7, 416, 1, 0), (401, 1, 0, 0, 0, 0), (402, 3, 1, 12, 7, 151), (405, 1, 3, 2, 0, 0), (406, 3, 6, 416, 1, 0), (409, 1, 0, 0, 0, 0), (410, 3, 13, 110, 96, 190), (413, 3, 8, 420, 0, 0)]) rfl) ?_
            refine xg_t (xg_aload (va := (2, 82)) rfl rfl) ?_
            refine xg_t (xg_getf (va := (0, f82_6558)) (hF6577.get (by decide) h82_6572) rfl) ?_
            by_cases hc6588 : f82_6558 = 0
            · refine xg_t (xg_ifF (u := f82_6558) rfl xnm0 (xj_neF hc6588)) ?_
              refine xg_t (xg_aload (va := (2, 82)) rfl rfl) ?_
              refine xg_t (xg_getf (va := (0, f82_6552)) (hF6577.get (by decide) h82_6572) rfl) ?_
              refine xg_t (xg_const) ?_
              by_cases hc6589 : f82_6552 = 2
              · refine xg_t (xg_icF (u := f82_6552) (v := 2) rfl xnm0 xnm0 (xj_neF hc6589)) ?_
                refine xg_t (xg_aload (va := (2, 82)) rfl rfl) ?_
                refine xg_cVv mX12_advance (vs := []) (rest := []) (cn1 := 0) (sl1 := 0) rfl (mAdvance (hI6576)) rfl (hF6577.get (by decide) h82_6572) rfl rfl rfl rfl rfl rfl (fun w6590 hq6591 => ?_)
                obtain ⟨hI6592, hF6593, hx6594⟩ := hq6591
                obtain ⟨hv6595, hv6596, hv6597, hv6598⟩ := hx6594
                have hf6600 := FA_fr hF6593 (by decide)
                have hs6601 := pk6581.2.2.2
                unfold PS at hs6601
                have pk6599 : PK w6574 w6590 := ⟨fun _ => by omega, hv6595, hv6598, (show fld w6590 82 10 = 0 ∨ FA w6590 ≠ 0 by omega)⟩
                have pk6602 : PK w w6590 := PK.tr pk6581 pk6599
                have os6603 : ∀ j, (j < 5 ∨ 7 ≤ j) → j < 140 → rwv w6590 86 j = rwv w 86 j := fun j hj hl => (rwv_fr hF6593 (by decide)).trans (os6582 j hj hl)
                have ix6604 : u5980 < 1 → rwv w6590 86 (5) = n6474 := fun h => (rwv_fr hF6593 (by decide)).trans (ix6583 h)
                have ix6605 : u5980 < 1 → rwv w6590 86 (6) = n6531 := fun h => (rwv_fr hF6593 (by decide)).trans (hp6579 h)
                have rg6606 : FA w6590 ≠ 0 ∨ False := rg6584.imp_left pk6599.1
                have rg6607 : FA w6590 ≠ 0 ∨ (1 ≤ n6474 ∧ n6474 ≤ 6) := rg6585.imp_left pk6599.1
                have rg6608 : FA w6590 ≠ 0 ∨ (1 ≤ n6531 ∧ n6531 ≤ 6) := rg6586.imp_left pk6599.1
                have ms6609 : mu w6590 < mu w := Nat.lt_of_le_of_lt pk6599.2.1 ms6587
                refine xg_t (xg_goto) ?_
                refine xg_t (xg_blk (b := [(420, 1, 0, 0, 0, 0), (421, 3, 1, 12, 11, 17), (424, 1, 2, 1, 0, 0), (425, 1, 39, 0, 0, 0), (426, 1, 10, 0, 0, 0), (427, 1, 3, 1, 0, 0), (428, 1, 11, 0, 0, 0), (429, 1, 17, 0, 0, 0), (430, 1, 0, 0, 0, 0), (431, 1, 19, 0, 0, 0), (432, 3, 1, 12, 14, 212), (435, 1, 3, 1, 0, 0), (436, 1, 11, 0, 0, 0), (437, 3, 14, 12, 14, 212), (440, 1, 12, 0, 0, 0)]) rfl) ?_
                obtain ⟨f82_6610, f82_6612, f82_6614, f82_6616, f82_6618, f82_6620, f82_6622, f82_6624, f82_6626, f82_6628, f82_6630, f82_6631, f82_6632, f82_6634, f82_6636, f82_6638, h82_6640, hb6611, hb6613, hb6615, hb6617, hb6619, hb6621, hb6623, hb6625, hb6627, hb6629, hb6633, hb6635, hb6637, hb6639, hb6641⟩ := (hI6592 82 (by decide) (by decide) : cp82 (wget w6590 82))
                have hf6642 : fld w6590 82 4 = f82_6614 := fld_of h82_6640
                have hf6643 : fld w6590 82 5 = f82_6616 := fld_of h82_6640
                have hf6644 : fld w6590 82 7 = f82_6620 := fld_of h82_6640
                have hf6645 : fld w6590 82 10 = f82_6626 := fld_of h82_6640
                have hf6646 : fld w6590 82 14 = f82_6628 := fld_of h82_6640
                have hu6647 : mu w6590 = 2 * (fld w6590 82 4 - fld w6590 82 5) + min 1 (fld w6590 82 7) := rfl
                have hf6648 := pk6602.2.2.1
                have hl6649 : f82_6628 ≤ 1000 := by omega
                refine xg_t (xg_aload (va := (2, 82)) rfl rfl) ?_
                refine xg_t (xg_getf (va := (2, 85)) h82_6640 rfl) ?_
                refine xg_t (xg_iload (va := (0, 6)) rfl rfl) ?_
                refine xg_t (xg_dup2 rfl) ?_
                refine xg_ialdB (n := 6) (B := 4294967295) (((((((h85_37.fr hF6416 (by decide)).fr hF6425 (by decide)).fr hF6473 (by decide)).fr hF6518 (by decide)).fr hF6530 (by decide)).fr hF6577 (by decide)).fr hF6593 (by decide)) (hb38) xnm0 (by omega) (fun u6650 hu6651 he6652 => ?_)
                have hl6653 : u6650 = u5980 := by omega
                refine xg_t (xg_const) ?_
                refine xg_t (xg_iadd (u := u6650) (v := 1) (z := u6650 + 1) xnm0 xnm0 (by omega)) ?_
                refine xg_iastK (n := 6) (u := u6650 + 1) (((((((h85_37.fr hF6416 (by decide)).fr hF6425 (by decide)).fr hF6473 (by decide)).fr hF6518 (by decide)).fr hF6530 (by decide)).fr hF6577 (by decide)).fr hF6593 (by decide)) xnm0 xnm0 rfl (by omega) (fun w6654 hr6655 hb6656 => ?_)
                refine xg_t (xg_aload (va := (2, 82)) rfl rfl) ?_
                refine xg_t (xg_dup rfl) ?_
                refine xg_t (xg_getf (va := (0, f82_6628)) (hb6656.get (by decide) h82_6640) rfl) ?_
                refine xg_t (xg_const) ?_
                refine xg_t (xg_iadd (u := f82_6628) (v := 1) (z := f82_6628 + 1) xnm0 xnm0 (by omega)) ?_
                refine xg_putI (fl1 := [(2, 83), (2, 84), (0, f82_6610), (0, f82_6612), (0, f82_6614), (0, f82_6616), (0, f82_6618), (0, f82_6620), (0, f82_6622), (0, f82_6624), (0, f82_6626), (2, 85), (2, 86), (2, 87), (0, f82_6628 + 1), (2, 88), (2, 89), (2, 90), (2, 91), (2, 92), (2, 93), (2, 94), (4, f82_6630), (4, f82_6631), (0, f82_6632), (2, 95), (2, 96), (2, 97), (2, 98), (2, 99), (2, 100), (2, 101), (2, 102), (0, f82_6634), (2, 103), (2, 104), (2, 105), (2, 106), (2, 107), (2, 108), (2, 109), (0, f82_6636), (0, f82_6638), (2, 110), (2, 111), (2, 112), (2, 113)]) (hb6656.get (by decide) h82_6640) rfl rfl rfl (fun w6657 hk6658 hb6659 => ?_)
                have hF6660 : xFr [82, 85] w6590 w6657 := ((xFr.of (S := [82, 85]) hb6656 (by decide)).tr (xFr.of (S := [82, 85]) hb6659 (by decide)))
                have hA6661 := FA_fr hF6660 (by decide)
                have hf6662 : fld w6657 82 4 = f82_6614 := fld_of hk6658
                have hf6663 : fld w6657 82 5 = f82_6616 := fld_of hk6658
                have hf6664 : fld w6657 82 7 = f82_6620 := fld_of hk6658
                have hf6665 : fld w6657 82 10 = f82_6626 := fld_of hk6658
                have hf6666 : fld w6657 82 14 = f82_6628 + 1 := fld_of hk6658
                have hu6667 : mu w6657 = 2 * (fld w6657 82 4 - fld w6657 82 5) + min 1 (fld w6657 82 7) := rfl
                have pq6668 := pk6602
                unfold PK PS at pq6668
                have hM6669 : ∀ s, s < 7 → s ≠ 6 → rwv w6657 85 s = rwv w 85 s := fun s hs hn => (rwv_of (hr6655.but hb6659 (by decide)) hs).trans ((if_neg hn).trans (rwv_of h85_37 hs).symm)
                have hM6670 : rwv w6657 85 6 = u5980 + 1 := (rwv_of (hr6655.but hb6659 (by decide)) (by decide)).trans ((if_pos rfl).trans (by omega))
                have hM6671 : ∀ s, s < 7 → rwv w6657 85 s ≤ rwv w 85 s + 1 := fun s hs => by
                  by_cases z : s = 6
                  · subst z; omega
                  · rw [hM6669 s hs z]; omega
                have hO6672 : ∀ j, (j < 5 ∨ 7 ≤ j) → j < 140 → rwv w6657 86 j = rwv w 86 j := fun j hj hl => (rwv_fr hF6660 (by decide)).trans (os6603 j hj hl)
                have hl6674 : u5980 < 1 → rwv w6657 86 (5) = n6474 := fun h => (rwv_fr hF6660 (by decide)).trans (ix6604 h)
                have hl6675 : u5980 < 1 → rwv w6657 86 (6) = n6531 := fun h => (rwv_fr hF6660 (by decide)).trans (ix6605 h)
                have hl6676 : FA w6590 ≠ 0 ∨ False := rg6606
                have hl6677 : FA w6590 ≠ 0 ∨ (1 ≤ n6474 ∧ n6474 ≤ 6) := rg6607
                have hl6678 : FA w6590 ≠ 0 ∨ (1 ≤ n6531 ∧ n6531 ≤ 6) := rg6608
                have hN6673 : FA w6657 ≠ 0 ∨ 1 ≤ u5980 ∨ (1 ≤ rwv w6657 86 5 ∧ rwv w6657 86 5 ≤ 6 ∧ 1 ≤ rwv w6657 86 6 ∧ rwv w6657 86 6 ≤ 6) := by omega
                have hX6679 : FA w6657 ≠ 0 ∨ u5980 < 1 := by omega
                have hD6680 : FA w6657 ≠ 0 ∨ (DATA w → DATA w6657) := by
                  by_cases z : FA w6657 ≠ 0
                  · exact Or.inl z
                  · exact Or.inr (fun hd => hd.s6 hM6669 hK5983 hM6670 (hX6679.resolve_left z) hO6672 ((hN6673.resolve_left z).resolve_left (by have := hX6679.resolve_left z; omega)))
                exact xg_e ⟨w6657, ⟨rfl, rfl⟩, xMnv.up (S := [85, 82]) hI6592 ((xFr.of (S := [85, 82]) hb6656 (by decide)).tr (xFr.of (S := [85, 82]) hb6659 (by decide))) (List.forall_mem_cons.mpr ⟨(show cpI 7 52 4294967295 (wget w6657 85) from ⟨_, (hr6655.but hb6659 (by decide)), xrb (by omega) (hb38)⟩), List.forall_mem_cons.mpr ⟨(show cp82 (wget w6657 82) from ⟨f82_6610, f82_6612, f82_6614, f82_6616, f82_6618, f82_6620, f82_6622, f82_6624, f82_6626, f82_6628 + 1, f82_6630, f82_6631, f82_6632, f82_6634, f82_6636, f82_6638, hk6658, by omega, by omega, by omega, by omega, by omega, by omega, by omega, by omega, by omega, by omega, by omega, by omega, by omega, by omega, by omega⟩), fun _ h => absurd h List.not_mem_nil⟩⟩), ((((((((hF6416.up (by decide)).tr (hF6425.up (by decide))).tr (hF6473.up (by decide))).tr (hF6518.up (by decide))).tr (hF6530.up (by decide))).tr (hF6577.up (by decide))).tr (hF6593.up (by decide))).tr ((xFr.of (S := [82, 83, 85, 86, 87]) hb6656 (by decide)).tr (xFr.of (S := [82, 83, 85, 86, 87]) hb6659 (by decide)))), ⟨fun h => by have := pq6668.1 h; omega, (show fld w6657 82 10 = 0 ∨ FA w6657 ≠ 0 by omega), Or.inr ⟨by have := ms6609; omega, by omega, hM6671⟩, hD6680⟩⟩
              · refine xg_t (xg_icT (u := f82_6552) (v := 2) rfl xnm0 xnm0 (xj_neT hc6589)) ?_
                refine xg_t (xg_blk (b := [(416, 1, 0, 0, 0, 0), (417, 3, 13, 140, 96, 183)]) rfl) ?_
                refine xg_t (xg_aload (va := (2, 82)) rfl rfl) ?_
                refine xg_cVv mX12_ends (vs := []) (rest := []) (cn1 := 0) (sl1 := 0) rfl (mEnds (hI6576) pk6581.2.2.2) rfl (hF6577.get (by decide) h82_6572) rfl rfl rfl rfl rfl rfl (fun w6681 hq6682 => ?_)
                obtain ⟨hI6683, hF6684, hx6685⟩ := hq6682
                obtain ⟨hv6686, hv6687, hv6688, hv6689⟩ := hx6685
                have pk6690 : PK w6574 w6681 := ⟨fun _ => hv6686, by omega, by omega, Or.inr hv6686⟩
                have pk6691 : PK w w6681 := PK.tr pk6581 pk6690
                have os6692 : ∀ j, (j < 5 ∨ 7 ≤ j) → j < 140 → rwv w6681 86 j = rwv w 86 j := fun j hj hl => (rwv_fr hF6684 (by decide)).trans (os6582 j hj hl)
                have ix6693 : u5980 < 1 → rwv w6681 86 (5) = n6474 := fun h => (rwv_fr hF6684 (by decide)).trans (ix6583 h)
                have ix6694 : u5980 < 1 → rwv w6681 86 (6) = n6531 := fun h => (rwv_fr hF6684 (by decide)).trans (hp6579 h)
                have rg6695 : FA w6681 ≠ 0 ∨ False := rg6584.imp_left pk6690.1
                have rg6696 : FA w6681 ≠ 0 ∨ (1 ≤ n6474 ∧ n6474 ≤ 6) := rg6585.imp_left pk6690.1
                have rg6697 : FA w6681 ≠ 0 ∨ (1 ≤ n6531 ∧ n6531 ≤ 6) := rg6586.imp_left pk6690.1
                have ms6698 : mu w6681 < mu w := Nat.lt_of_le_of_lt pk6690.2.1 ms6587
                refine xg_t (xg_blk (b := [(420, 1, 0, 0, 0, 0), (421, 3, 1, 12, 11, 17), (424, 1, 2, 1, 0, 0), (425, 1, 39, 0, 0, 0), (426, 1, 10, 0, 0, 0), (427, 1, 3, 1, 0, 0), (428, 1, 11, 0, 0, 0), (429, 1, 17, 0, 0, 0), (430, 1, 0, 0, 0, 0), (431, 1, 19, 0, 0, 0), (432, 3, 1, 12, 14, 212), (435, 1, 3, 1, 0, 0), (436, 1, 11, 0, 0, 0), (437, 3, 14, 12, 14, 212), (440, 1, 12, 0, 0, 0)]) rfl) ?_
                obtain ⟨f82_6699, f82_6701, f82_6703, f82_6705, f82_6707, f82_6709, f82_6711, f82_6713, f82_6715, f82_6717, f82_6719, f82_6720, f82_6721, f82_6723, f82_6725, f82_6727, h82_6729, hb6700, hb6702, hb6704, hb6706, hb6708, hb6710, hb6712, hb6714, hb6716, hb6718, hb6722, hb6724, hb6726, hb6728, hb6730⟩ := (hI6683 82 (by decide) (by decide) : cp82 (wget w6681 82))
                have hf6731 : fld w6681 82 4 = f82_6703 := fld_of h82_6729
                have hf6732 : fld w6681 82 5 = f82_6705 := fld_of h82_6729
                have hf6733 : fld w6681 82 7 = f82_6709 := fld_of h82_6729
                have hf6734 : fld w6681 82 10 = f82_6715 := fld_of h82_6729
                have hf6735 : fld w6681 82 14 = f82_6717 := fld_of h82_6729
                have hu6736 : mu w6681 = 2 * (fld w6681 82 4 - fld w6681 82 5) + min 1 (fld w6681 82 7) := rfl
                have hf6737 := pk6691.2.2.1
                have hl6738 : f82_6717 ≤ 1000 := by omega
                refine xg_t (xg_aload (va := (2, 82)) rfl rfl) ?_
                refine xg_t (xg_getf (va := (2, 85)) h82_6729 rfl) ?_
                refine xg_t (xg_iload (va := (0, 6)) rfl rfl) ?_
                refine xg_t (xg_dup2 rfl) ?_
                refine xg_ialdB (n := 6) (B := 4294967295) (((((((h85_37.fr hF6416 (by decide)).fr hF6425 (by decide)).fr hF6473 (by decide)).fr hF6518 (by decide)).fr hF6530 (by decide)).fr hF6577 (by decide)).fr hF6684 (by decide)) (hb38) xnm0 (by omega) (fun u6739 hu6740 he6741 => ?_)
                have hl6742 : u6739 = u5980 := by omega
                refine xg_t (xg_const) ?_
                refine xg_t (xg_iadd (u := u6739) (v := 1) (z := u6739 + 1) xnm0 xnm0 (by omega)) ?_
                refine xg_iastK (n := 6) (u := u6739 + 1) (((((((h85_37.fr hF6416 (by decide)).fr hF6425 (by decide)).fr hF6473 (by decide)).fr hF6518 (by decide)).fr hF6530 (by decide)).fr hF6577 (by decide)).fr hF6684 (by decide)) xnm0 xnm0 rfl (by omega) (fun w6743 hr6744 hb6745 => ?_)
                refine xg_t (xg_aload (va := (2, 82)) rfl rfl) ?_
                refine xg_t (xg_dup rfl) ?_
                refine xg_t (xg_getf (va := (0, f82_6717)) (hb6745.get (by decide) h82_6729) rfl) ?_
                refine xg_t (xg_const) ?_
                refine xg_t (xg_iadd (u := f82_6717) (v := 1) (z := f82_6717 + 1) xnm0 xnm0 (by omega)) ?_
                refine xg_putI (fl1 := [(2, 83), (2, 84), (0, f82_6699), (0, f82_6701), (0, f82_6703), (0, f82_6705), (0, f82_6707), (0, f82_6709), (0, f82_6711), (0, f82_6713), (0, f82_6715), (2, 85), (2, 86), (2, 87), (0, f82_6717 + 1), (2, 88), (2, 89), (2, 90), (2, 91), (2, 92), (2, 93), (2, 94), (4, f82_6719), (4, f82_6720), (0, f82_6721), (2, 95), (2, 96), (2, 97), (2, 98), (2, 99), (2, 100), (2, 101), (2, 102), (0, f82_6723), (2, 103), (2, 104), (2, 105), (2, 106), (2, 107), (2, 108), (2, 109), (0, f82_6725), (0, f82_6727), (2, 110), (2, 111), (2, 112), (2, 113)]) (hb6745.get (by decide) h82_6729) rfl rfl rfl (fun w6746 hk6747 hb6748 => ?_)
                have hF6749 : xFr [82, 85] w6681 w6746 := ((xFr.of (S := [82, 85]) hb6745 (by decide)).tr (xFr.of (S := [82, 85]) hb6748 (by decide)))
                have hA6750 := FA_fr hF6749 (by decide)
                have hf6751 : fld w6746 82 4 = f82_6703 := fld_of hk6747
                have hf6752 : fld w6746 82 5 = f82_6705 := fld_of hk6747
                have hf6753 : fld w6746 82 7 = f82_6709 := fld_of hk6747
                have hf6754 : fld w6746 82 10 = f82_6715 := fld_of hk6747
                have hf6755 : fld w6746 82 14 = f82_6717 + 1 := fld_of hk6747
                have hu6756 : mu w6746 = 2 * (fld w6746 82 4 - fld w6746 82 5) + min 1 (fld w6746 82 7) := rfl
                have pq6757 := pk6691
                unfold PK PS at pq6757
                have hM6758 : ∀ s, s < 7 → s ≠ 6 → rwv w6746 85 s = rwv w 85 s := fun s hs hn => (rwv_of (hr6744.but hb6748 (by decide)) hs).trans ((if_neg hn).trans (rwv_of h85_37 hs).symm)
                have hM6759 : rwv w6746 85 6 = u5980 + 1 := (rwv_of (hr6744.but hb6748 (by decide)) (by decide)).trans ((if_pos rfl).trans (by omega))
                have hM6760 : ∀ s, s < 7 → rwv w6746 85 s ≤ rwv w 85 s + 1 := fun s hs => by
                  by_cases z : s = 6
                  · subst z; omega
                  · rw [hM6758 s hs z]; omega
                have hO6761 : ∀ j, (j < 5 ∨ 7 ≤ j) → j < 140 → rwv w6746 86 j = rwv w 86 j := fun j hj hl => (rwv_fr hF6749 (by decide)).trans (os6692 j hj hl)
                have hl6763 : u5980 < 1 → rwv w6746 86 (5) = n6474 := fun h => (rwv_fr hF6749 (by decide)).trans (ix6693 h)
                have hl6764 : u5980 < 1 → rwv w6746 86 (6) = n6531 := fun h => (rwv_fr hF6749 (by decide)).trans (ix6694 h)
                have hl6765 : FA w6681 ≠ 0 ∨ False := rg6695
                have hl6766 : FA w6681 ≠ 0 ∨ (1 ≤ n6474 ∧ n6474 ≤ 6) := rg6696
                have hl6767 : FA w6681 ≠ 0 ∨ (1 ≤ n6531 ∧ n6531 ≤ 6) := rg6697
                have hN6762 : FA w6746 ≠ 0 ∨ 1 ≤ u5980 ∨ (1 ≤ rwv w6746 86 5 ∧ rwv w6746 86 5 ≤ 6 ∧ 1 ≤ rwv w6746 86 6 ∧ rwv w6746 86 6 ≤ 6) := by omega
                have hX6768 : FA w6746 ≠ 0 ∨ u5980 < 1 := by omega
                have hD6769 : FA w6746 ≠ 0 ∨ (DATA w → DATA w6746) := by
                  by_cases z : FA w6746 ≠ 0
                  · exact Or.inl z
                  · exact Or.inr (fun hd => hd.s6 hM6758 hK5983 hM6759 (hX6768.resolve_left z) hO6761 ((hN6762.resolve_left z).resolve_left (by have := hX6768.resolve_left z; omega)))
                exact xg_e ⟨w6746, ⟨rfl, rfl⟩, xMnv.up (S := [85, 82]) hI6683 ((xFr.of (S := [85, 82]) hb6745 (by decide)).tr (xFr.of (S := [85, 82]) hb6748 (by decide))) (List.forall_mem_cons.mpr ⟨(show cpI 7 52 4294967295 (wget w6746 85) from ⟨_, (hr6744.but hb6748 (by decide)), xrb (by omega) (hb38)⟩), List.forall_mem_cons.mpr ⟨(show cp82 (wget w6746 82) from ⟨f82_6699, f82_6701, f82_6703, f82_6705, f82_6707, f82_6709, f82_6711, f82_6713, f82_6715, f82_6717 + 1, f82_6719, f82_6720, f82_6721, f82_6723, f82_6725, f82_6727, hk6747, by omega, by omega, by omega, by omega, by omega, by omega, by omega, by omega, by omega, by omega, by omega, by omega, by omega, by omega, by omega⟩), fun _ h => absurd h List.not_mem_nil⟩⟩), ((((((((hF6416.up (by decide)).tr (hF6425.up (by decide))).tr (hF6473.up (by decide))).tr (hF6518.up (by decide))).tr (hF6530.up (by decide))).tr (hF6577.up (by decide))).tr (hF6684.up (by decide))).tr ((xFr.of (S := [82, 83, 85, 86, 87]) hb6745 (by decide)).tr (xFr.of (S := [82, 83, 85, 86, 87]) hb6748 (by decide)))), ⟨fun h => by have := pq6757.1 h; omega, (show fld w6746 82 10 = 0 ∨ FA w6746 ≠ 0 by omega), Or.inr ⟨by have := ms6698; omega, by omega, hM6760⟩, hD6769⟩⟩
            · refine xg_t (xg_ifT (u := f82_6558) rfl xnm0 (xj_neT hc6588)) ?_
              refine xg_t (xg_blk (b := [(416, 1, 0, 0, 0, 0), (417, 3, 13, 140, 96, 183)]) rfl) ?_
              refine xg_t (xg_aload (va := (2, 82)) rfl rfl) ?_
              refine xg_cVv mX12_ends (vs := []) (rest := []) (cn1 := 0) (sl1 := 0) rfl (mEnds (hI6576) pk6581.2.2.2) rfl (hF6577.get (by decide) h82_6572) rfl rfl rfl rfl rfl rfl (fun w6770 hq6771 => ?_)
              obtain ⟨hI6772, hF6773, hx6774⟩ := hq6771
              obtain ⟨hv6775, hv6776, hv6777, hv6778⟩ := hx6774
              have pk6779 : PK w6574 w6770 := ⟨fun _ => hv6775, by omega, by omega, Or.inr hv6775⟩
              have pk6780 : PK w w6770 := PK.tr pk6581 pk6779
              have os6781 : ∀ j, (j < 5 ∨ 7 ≤ j) → j < 140 → rwv w6770 86 j = rwv w 86 j := fun j hj hl => (rwv_fr hF6773 (by decide)).trans (os6582 j hj hl)
              have ix6782 : u5980 < 1 → rwv w6770 86 (5) = n6474 := fun h => (rwv_fr hF6773 (by decide)).trans (ix6583 h)
              have ix6783 : u5980 < 1 → rwv w6770 86 (6) = n6531 := fun h => (rwv_fr hF6773 (by decide)).trans (hp6579 h)
              have rg6784 : FA w6770 ≠ 0 ∨ False := rg6584.imp_left pk6779.1
              have rg6785 : FA w6770 ≠ 0 ∨ (1 ≤ n6474 ∧ n6474 ≤ 6) := rg6585.imp_left pk6779.1
              have rg6786 : FA w6770 ≠ 0 ∨ (1 ≤ n6531 ∧ n6531 ≤ 6) := rg6586.imp_left pk6779.1
              have ms6787 : mu w6770 < mu w := Nat.lt_of_le_of_lt pk6779.2.1 ms6587
              refine xg_t (xg_blk (b := [(420, 1, 0, 0, 0, 0), (421, 3, 1, 12, 11, 17), (424, 1, 2, 1, 0, 0), (425, 1, 39, 0, 0, 0), (426, 1, 10, 0, 0, 0), (427, 1, 3, 1, 0, 0), (428, 1, 11, 0, 0, 0), (429, 1, 17, 0, 0, 0), (430, 1, 0, 0, 0, 0), (431, 1, 19, 0, 0, 0), (432, 3, 1, 12, 14, 212), (435, 1, 3, 1, 0, 0), (436, 1, 11, 0, 0, 0), (437, 3, 14, 12, 14, 212), (440, 1, 12, 0, 0, 0)]) rfl) ?_
              obtain ⟨f82_6788, f82_6790, f82_6792, f82_6794, f82_6796, f82_6798, f82_6800, f82_6802, f82_6804, f82_6806, f82_6808, f82_6809, f82_6810, f82_6812, f82_6814, f82_6816, h82_6818, hb6789, hb6791, hb6793, hb6795, hb6797, hb6799, hb6801, hb6803, hb6805, hb6807, hb6811, hb6813, hb6815, hb6817, hb6819⟩ := (hI6772 82 (by decide) (by decide) : cp82 (wget w6770 82))
              have hf6820 : fld w6770 82 4 = f82_6792 := fld_of h82_6818
              have hf6821 : fld w6770 82 5 = f82_6794 := fld_of h82_6818
              have hf6822 : fld w6770 82 7 = f82_6798 := fld_of h82_6818
              have hf6823 : fld w6770 82 10 = f82_6804 := fld_of h82_6818
              have hf6824 : fld w6770 82 14 = f82_6806 := fld_of h82_6818
              have hu6825 : mu w6770 = 2 * (fld w6770 82 4 - fld w6770 82 5) + min 1 (fld w6770 82 7) := rfl
              have hf6826 := pk6780.2.2.1
              have hl6827 : f82_6806 ≤ 1000 := by omega
              refine xg_t (xg_aload (va := (2, 82)) rfl rfl) ?_
              refine xg_t (xg_getf (va := (2, 85)) h82_6818 rfl) ?_
              refine xg_t (xg_iload (va := (0, 6)) rfl rfl) ?_
              refine xg_t (xg_dup2 rfl) ?_
              refine xg_ialdB (n := 6) (B := 4294967295) (((((((h85_37.fr hF6416 (by decide)).fr hF6425 (by decide)).fr hF6473 (by decide)).fr hF6518 (by decide)).fr hF6530 (by decide)).fr hF6577 (by decide)).fr hF6773 (by decide)) (hb38) xnm0 (by omega) (fun u6828 hu6829 he6830 => ?_)
              have hl6831 : u6828 = u5980 := by omega
              refine xg_t (xg_const) ?_
              refine xg_t (xg_iadd (u := u6828) (v := 1) (z := u6828 + 1) xnm0 xnm0 (by omega)) ?_
              refine xg_iastK (n := 6) (u := u6828 + 1) (((((((h85_37.fr hF6416 (by decide)).fr hF6425 (by decide)).fr hF6473 (by decide)).fr hF6518 (by decide)).fr hF6530 (by decide)).fr hF6577 (by decide)).fr hF6773 (by decide)) xnm0 xnm0 rfl (by omega) (fun w6832 hr6833 hb6834 => ?_)
              refine xg_t (xg_aload (va := (2, 82)) rfl rfl) ?_
              refine xg_t (xg_dup rfl) ?_
              refine xg_t (xg_getf (va := (0, f82_6806)) (hb6834.get (by decide) h82_6818) rfl) ?_
              refine xg_t (xg_const) ?_
              refine xg_t (xg_iadd (u := f82_6806) (v := 1) (z := f82_6806 + 1) xnm0 xnm0 (by omega)) ?_
              refine xg_putI (fl1 := [(2, 83), (2, 84), (0, f82_6788), (0, f82_6790), (0, f82_6792), (0, f82_6794), (0, f82_6796), (0, f82_6798), (0, f82_6800), (0, f82_6802), (0, f82_6804), (2, 85), (2, 86), (2, 87), (0, f82_6806 + 1), (2, 88), (2, 89), (2, 90), (2, 91), (2, 92), (2, 93), (2, 94), (4, f82_6808), (4, f82_6809), (0, f82_6810), (2, 95), (2, 96), (2, 97), (2, 98), (2, 99), (2, 100), (2, 101), (2, 102), (0, f82_6812), (2, 103), (2, 104), (2, 105), (2, 106), (2, 107), (2, 108), (2, 109), (0, f82_6814), (0, f82_6816), (2, 110), (2, 111), (2, 112), (2, 113)]) (hb6834.get (by decide) h82_6818) rfl rfl rfl (fun w6835 hk6836 hb6837 => ?_)
              have hF6838 : xFr [82, 85] w6770 w6835 := ((xFr.of (S := [82, 85]) hb6834 (by decide)).tr (xFr.of (S := [82, 85]) hb6837 (by decide)))
              have hA6839 := FA_fr hF6838 (by decide)
              have hf6840 : fld w6835 82 4 = f82_6792 := fld_of hk6836
              have hf6841 : fld w6835 82 5 = f82_6794 := fld_of hk6836
              have hf6842 : fld w6835 82 7 = f82_6798 := fld_of hk6836
              have hf6843 : fld w6835 82 10 = f82_6804 := fld_of hk6836
              have hf6844 : fld w6835 82 14 = f82_6806 + 1 := fld_of hk6836
              have hu6845 : mu w6835 = 2 * (fld w6835 82 4 - fld w6835 82 5) + min 1 (fld w6835 82 7) := rfl
              have pq6846 := pk6780
              unfold PK PS at pq6846
              have hM6847 : ∀ s, s < 7 → s ≠ 6 → rwv w6835 85 s = rwv w 85 s := fun s hs hn => (rwv_of (hr6833.but hb6837 (by decide)) hs).trans ((if_neg hn).trans (rwv_of h85_37 hs).symm)
              have hM6848 : rwv w6835 85 6 = u5980 + 1 := (rwv_of (hr6833.but hb6837 (by decide)) (by decide)).trans ((if_pos rfl).trans (by omega))
              have hM6849 : ∀ s, s < 7 → rwv w6835 85 s ≤ rwv w 85 s + 1 := fun s hs => by
                by_cases z : s = 6
                · subst z; omega
                · rw [hM6847 s hs z]; omega
              have hO6850 : ∀ j, (j < 5 ∨ 7 ≤ j) → j < 140 → rwv w6835 86 j = rwv w 86 j := fun j hj hl => (rwv_fr hF6838 (by decide)).trans (os6781 j hj hl)
              have hl6852 : u5980 < 1 → rwv w6835 86 (5) = n6474 := fun h => (rwv_fr hF6838 (by decide)).trans (ix6782 h)
              have hl6853 : u5980 < 1 → rwv w6835 86 (6) = n6531 := fun h => (rwv_fr hF6838 (by decide)).trans (ix6783 h)
              have hl6854 : FA w6770 ≠ 0 ∨ False := rg6784
              have hl6855 : FA w6770 ≠ 0 ∨ (1 ≤ n6474 ∧ n6474 ≤ 6) := rg6785
              have hl6856 : FA w6770 ≠ 0 ∨ (1 ≤ n6531 ∧ n6531 ≤ 6) := rg6786
              have hN6851 : FA w6835 ≠ 0 ∨ 1 ≤ u5980 ∨ (1 ≤ rwv w6835 86 5 ∧ rwv w6835 86 5 ≤ 6 ∧ 1 ≤ rwv w6835 86 6 ∧ rwv w6835 86 6 ≤ 6) := by omega
              have hX6857 : FA w6835 ≠ 0 ∨ u5980 < 1 := by omega
              have hD6858 : FA w6835 ≠ 0 ∨ (DATA w → DATA w6835) := by
                by_cases z : FA w6835 ≠ 0
                · exact Or.inl z
                · exact Or.inr (fun hd => hd.s6 hM6847 hK5983 hM6848 (hX6857.resolve_left z) hO6850 ((hN6851.resolve_left z).resolve_left (by have := hX6857.resolve_left z; omega)))
              exact xg_e ⟨w6835, ⟨rfl, rfl⟩, xMnv.up (S := [85, 82]) hI6772 ((xFr.of (S := [85, 82]) hb6834 (by decide)).tr (xFr.of (S := [85, 82]) hb6837 (by decide))) (List.forall_mem_cons.mpr ⟨(show cpI 7 52 4294967295 (wget w6835 85) from ⟨_, (hr6833.but hb6837 (by decide)), xrb (by omega) (hb38)⟩), List.forall_mem_cons.mpr ⟨(show cp82 (wget w6835 82) from ⟨f82_6788, f82_6790, f82_6792, f82_6794, f82_6796, f82_6798, f82_6800, f82_6802, f82_6804, f82_6806 + 1, f82_6808, f82_6809, f82_6810, f82_6812, f82_6814, f82_6816, hk6836, by omega, by omega, by omega, by omega, by omega, by omega, by omega, by omega, by omega, by omega, by omega, by omega, by omega, by omega, by omega⟩), fun _ h => absurd h List.not_mem_nil⟩⟩), ((((((((hF6416.up (by decide)).tr (hF6425.up (by decide))).tr (hF6473.up (by decide))).tr (hF6518.up (by decide))).tr (hF6530.up (by decide))).tr (hF6577.up (by decide))).tr (hF6773.up (by decide))).tr ((xFr.of (S := [82, 83, 85, 86, 87]) hb6834 (by decide)).tr (xFr.of (S := [82, 83, 85, 86, 87]) hb6837 (by decide)))), ⟨fun h => by have := pq6846.1 h; omega, (show fld w6835 82 10 = 0 ∨ FA w6835 ≠ 0 by omega), Or.inr ⟨by have := ms6787; omega, by omega, hM6849⟩, hD6858⟩⟩
      · refine xg_t (xg_ifF (u := (if 0 ≤ f82_15 ∧ f82_15 ≤ 6 then 1 else 0)) rfl xnm0 (xj_neF (xite0 hc47))) ?_
        refine xg_t (xg_blk (b := [(38, 1, 0, 0, 0, 0), (39, 3, 13, 140, 96, 183), (42, 1, 12, 0, 0, 0)]) rfl) ?_
        refine xg_t (xg_aload (va := (2, 82)) rfl rfl) ?_
        refine xg_cVv mX12_ends (vs := []) (rest := []) (cn1 := 0) (sl1 := 0) rfl (mEnds (hI) hps) rfl h82_31 rfl rfl rfl rfl rfl rfl (fun w6859 hq6860 => ?_)
        obtain ⟨hI6861, hF6862, hx6863⟩ := hq6860
        obtain ⟨hv6864, hv6865, hv6866, hv6867⟩ := hx6863
        obtain ⟨f82_6868, f82_6870, f82_6872, f82_6874, f82_6876, f82_6878, f82_6880, f82_6882, f82_6884, f82_6886, f82_6888, f82_6889, f82_6890, f82_6892, f82_6894, f82_6896, h82_6898, hb6869, hb6871, hb6873, hb6875, hb6877, hb6879, hb6881, hb6883, hb6885, hb6887, hb6891, hb6893, hb6895, hb6897, hb6899⟩ := (hI6861 82 (by decide) (by decide) : cp82 (wget w6859 82))
        exact xg_e ⟨w6859, ⟨rfl, rfl⟩, hI6861, (hF6862.up (by decide)), ⟨fun _ => hv6864, Or.inr hv6864, Or.inl ⟨hv6865, hv6866, hv6867, fun s hs => rwv_fr hF6862 (by decide)⟩, Or.inl hv6864⟩⟩
    · refine xg_t (xg_icT (u := f82_11) (v := 3) rfl xnm0 xnm0 (xj_neT hc46)) ?_
      refine xg_t (xg_blk (b := [(38, 1, 0, 0, 0, 0), (39, 3, 13, 140, 96, 183), (42, 1, 12, 0, 0, 0)]) rfl) ?_
      refine xg_t (xg_aload (va := (2, 82)) rfl rfl) ?_
      refine xg_cVv mX12_ends (vs := []) (rest := []) (cn1 := 0) (sl1 := 0) rfl (mEnds (hI) hps) rfl h82_31 rfl rfl rfl rfl rfl rfl (fun w6900 hq6901 => ?_)
      obtain ⟨hI6902, hF6903, hx6904⟩ := hq6901
      obtain ⟨hv6905, hv6906, hv6907, hv6908⟩ := hx6904
      obtain ⟨f82_6909, f82_6911, f82_6913, f82_6915, f82_6917, f82_6919, f82_6921, f82_6923, f82_6925, f82_6927, f82_6929, f82_6930, f82_6931, f82_6933, f82_6935, f82_6937, h82_6939, hb6910, hb6912, hb6914, hb6916, hb6918, hb6920, hb6922, hb6924, hb6926, hb6928, hb6932, hb6934, hb6936, hb6938, hb6940⟩ := (hI6902 82 (by decide) (by decide) : cp82 (wget w6900 82))
      exact xg_e ⟨w6900, ⟨rfl, rfl⟩, hI6902, (hF6903.up (by decide)), ⟨fun _ => hv6905, Or.inr hv6905, Or.inl ⟨hv6906, hv6907, hv6908, fun s hs => rwv_fr hF6903 (by decide)⟩, Or.inl hv6905⟩⟩
  · refine xg_t (xg_ifT (u := f82_17) rfl xnm0 (xj_neT hc45)) ?_
    refine xg_t (xg_blk (b := [(38, 1, 0, 0, 0, 0), (39, 3, 13, 140, 96, 183), (42, 1, 12, 0, 0, 0)]) rfl) ?_
    refine xg_t (xg_aload (va := (2, 82)) rfl rfl) ?_
    refine xg_cVv mX12_ends (vs := []) (rest := []) (cn1 := 0) (sl1 := 0) rfl (mEnds (hI) hps) rfl h82_31 rfl rfl rfl rfl rfl rfl (fun w6941 hq6942 => ?_)
    obtain ⟨hI6943, hF6944, hx6945⟩ := hq6942
    obtain ⟨hv6946, hv6947, hv6948, hv6949⟩ := hx6945
    obtain ⟨f82_6950, f82_6952, f82_6954, f82_6956, f82_6958, f82_6960, f82_6962, f82_6964, f82_6966, f82_6968, f82_6970, f82_6971, f82_6972, f82_6974, f82_6976, f82_6978, h82_6980, hb6951, hb6953, hb6955, hb6957, hb6959, hb6961, hb6963, hb6965, hb6967, hb6969, hb6973, hb6975, hb6977, hb6979, hb6981⟩ := (hI6943 82 (by decide) (by decide) : cp82 (wget w6941 82))
    exact xg_e ⟨w6941, ⟨rfl, rfl⟩, hI6943, (hF6944.up (by decide)), ⟨fun _ => hv6946, Or.inr hv6946, Or.inl ⟨hv6947, hv6948, hv6949, fun s hs => rwv_fr hF6944 (by decide)⟩, Or.inl hv6946⟩⟩
end XMB
