/-! the model: lines of films -/
def DATA (w : List (List xE)) : Prop := rwv w 85 0 ≤ 6 ∧ rwv w 85 1 ≤ 4 ∧ rwv w 85 2 ≤ 6 ∧ rwv w 85 3 ≤ 4 ∧ rwv w 85 4 ≤ 20 ∧ (1 ≤ rwv w 86 5 ∧ rwv w 86 5 ≤ 6) ∧ (1 ≤ rwv w 86 6 ∧ rwv w 86 6 ≤ 6) ∧ (1 ≤ rwv w 86 7 ∧ rwv w 86 7 ≤ 10) ∧ (1 ≤ rwv w 86 8 ∧ rwv w 86 8 ≤ 10) ∧ (∀ k i, k < rwv w 85 0 → i < 3 → 1 ≤ rwv w 86 (20 + 4 * k + i) ∧ rwv w 86 (20 + 4 * k + i) ≤ 99) ∧ ∀ k, k < rwv w 85 1 → 1 ≤ rwv w 86 (51 + 2 * k) ∧ rwv w 86 (51 + 2 * k) ≤ 999
theorem DATA.s0 {w w' : List (List xE)} {K : Nat} (h : DATA w) (hm : ∀ s, s < 7 → s ≠ 0 → rwv w' 85 s = rwv w 85 s) (hK : rwv w 85 0 = K) (hK' : rwv w' 85 0 = K + 1) (hl : K < 6) (hos : ∀ j, (j < 20 + 4 * K ∨ 24 + 4 * K ≤ j) → j < 140 → rwv w' 86 j = rwv w 86 j) (hn : 1 ≤ rwv w' 86 (20 + 4 * K + 0) ∧ rwv w' 86 (20 + 4 * K + 0) ≤ 99 ∧ 1 ≤ rwv w' 86 (20 + 4 * K + 1) ∧ rwv w' 86 (20 + 4 * K + 1) ≤ 99 ∧ 1 ≤ rwv w' 86 (20 + 4 * K + 2) ∧ rwv w' 86 (20 + 4 * K + 2) ≤ 99) : DATA w' := by
  obtain ⟨m0, m1, m2, m3, m4, r5, r6, r7, r8, d0, d1⟩ := h
  have e1 := hm 1 (by decide) (by decide)
  have e2 := hm 2 (by decide) (by decide)
  have e3 := hm 3 (by decide) (by decide)
  have e4 := hm 4 (by decide) (by decide)
  have f5 := hos 5 (by omega) (by decide)
  have f6 := hos 6 (by omega) (by decide)
  have f7 := hos 7 (by omega) (by decide)
  have f8 := hos 8 (by omega) (by decide)
  refine ⟨by omega, by omega, by omega, by omega, by omega, by omega, by omega, by omega, by omega, fun k i hk hi => ?_, fun k hk => ?_⟩
  · by_cases z : k = K
    · subst z
      rcases (show i = 0 ∨ i = 1 ∨ i = 2 by omega) with rfl | rfl | rfl <;> omega
    · rw [hos _ (by omega) (by omega)]
      exact d0 k i (by omega) hi
  · rw [hos _ (by omega) (by omega)]
    exact d1 k (by omega)
theorem DATA.s1 {w w' : List (List xE)} {K : Nat} (h : DATA w) (hm : ∀ s, s < 7 → s ≠ 1 → rwv w' 85 s = rwv w 85 s) (hK : rwv w 85 1 = K) (hK' : rwv w' 85 1 = K + 1) (hl : K < 4) (hos : ∀ j, (j < 50 + 2 * K ∨ 52 + 2 * K ≤ j) → j < 140 → rwv w' 86 j = rwv w 86 j) (hn : 1 ≤ rwv w' 86 (50 + 2 * K + 1) ∧ rwv w' 86 (50 + 2 * K + 1) ≤ 999) : DATA w' := by
  obtain ⟨m0, m1, m2, m3, m4, r5, r6, r7, r8, d0, d1⟩ := h
  have e0 := hm 0 (by decide) (by decide)
  have e2 := hm 2 (by decide) (by decide)
  have e3 := hm 3 (by decide) (by decide)
  have e4 := hm 4 (by decide) (by decide)
  have f5 := hos 5 (by omega) (by decide)
  have f6 := hos 6 (by omega) (by decide)
  have f7 := hos 7 (by omega) (by decide)
  have f8 := hos 8 (by omega) (by decide)
  refine ⟨by omega, by omega, by omega, by omega, by omega, by omega, by omega, by omega, by omega, fun k i hk hi => ?_, fun k hk => ?_⟩
  · rw [hos _ (by omega) (by omega)]
    exact d0 k i (by omega) hi
  · by_cases z : k = K
    · subst z
      have e : 51 + 2 * k = 50 + 2 * k + 1 := by omega
      rw [e]
      exact hn
    · rw [hos _ (by omega) (by omega)]
      exact d1 k (by omega)
theorem DATA.s2 {w w' : List (List xE)} {K : Nat} (h : DATA w) (hm : ∀ s, s < 7 → s ≠ 2 → rwv w' 85 s = rwv w 85 s) (hK : rwv w 85 2 = K) (hK' : rwv w' 85 2 = K + 1) (hl : K < 6) (hos : ∀ j, (j < 60 + 2 * K ∨ 62 + 2 * K ≤ j) → j < 140 → rwv w' 86 j = rwv w 86 j) (hn : True) : DATA w' := by
  obtain ⟨m0, m1, m2, m3, m4, r5, r6, r7, r8, d0, d1⟩ := h
  have e0 := hm 0 (by decide) (by decide)
  have e1 := hm 1 (by decide) (by decide)
  have e3 := hm 3 (by decide) (by decide)
  have e4 := hm 4 (by decide) (by decide)
  have f5 := hos 5 (by omega) (by decide)
  have f6 := hos 6 (by omega) (by decide)
  have f7 := hos 7 (by omega) (by decide)
  have f8 := hos 8 (by omega) (by decide)
  refine ⟨by omega, by omega, by omega, by omega, by omega, by omega, by omega, by omega, by omega, fun k i hk hi => ?_, fun k hk => ?_⟩
  · rw [hos _ (by omega) (by omega)]
    exact d0 k i (by omega) hi
  · rw [hos _ (by omega) (by omega)]
    exact d1 k (by omega)
theorem DATA.s3 {w w' : List (List xE)} {K : Nat} (h : DATA w) (hm : ∀ s, s < 7 → s ≠ 3 → rwv w' 85 s = rwv w 85 s) (hK : rwv w 85 3 = K) (hK' : rwv w' 85 3 = K + 1) (hl : K < 4) (hos : ∀ j, (j < 80 + 3 * K ∨ 83 + 3 * K ≤ j) → j < 140 → rwv w' 86 j = rwv w 86 j) (hn : True) : DATA w' := by
  obtain ⟨m0, m1, m2, m3, m4, r5, r6, r7, r8, d0, d1⟩ := h
  have e0 := hm 0 (by decide) (by decide)
  have e1 := hm 1 (by decide) (by decide)
  have e2 := hm 2 (by decide) (by decide)
  have e4 := hm 4 (by decide) (by decide)
  have f5 := hos 5 (by omega) (by decide)
  have f6 := hos 6 (by omega) (by decide)
  have f7 := hos 7 (by omega) (by decide)
  have f8 := hos 8 (by omega) (by decide)
  refine ⟨by omega, by omega, by omega, by omega, by omega, by omega, by omega, by omega, by omega, fun k i hk hi => ?_, fun k hk => ?_⟩
  · rw [hos _ (by omega) (by omega)]
    exact d0 k i (by omega) hi
  · rw [hos _ (by omega) (by omega)]
    exact d1 k (by omega)
theorem DATA.s4 {w w' : List (List xE)} {K : Nat} (h : DATA w) (hm : ∀ s, s < 7 → s ≠ 4 → rwv w' 85 s = rwv w 85 s) (hK : rwv w 85 4 = K) (hK' : rwv w' 85 4 = K + 1) (hl : K < 20) (hos : ∀ j, (j < 100 + 2 * K ∨ 102 + 2 * K ≤ j) → j < 140 → rwv w' 86 j = rwv w 86 j) (hn : True) : DATA w' := by
  obtain ⟨m0, m1, m2, m3, m4, r5, r6, r7, r8, d0, d1⟩ := h
  have e0 := hm 0 (by decide) (by decide)
  have e1 := hm 1 (by decide) (by decide)
  have e2 := hm 2 (by decide) (by decide)
  have e3 := hm 3 (by decide) (by decide)
  have f5 := hos 5 (by omega) (by decide)
  have f6 := hos 6 (by omega) (by decide)
  have f7 := hos 7 (by omega) (by decide)
  have f8 := hos 8 (by omega) (by decide)
  refine ⟨by omega, by omega, by omega, by omega, by omega, by omega, by omega, by omega, by omega, fun k i hk hi => ?_, fun k hk => ?_⟩
  · rw [hos _ (by omega) (by omega)]
    exact d0 k i (by omega) hi
  · rw [hos _ (by omega) (by omega)]
    exact d1 k (by omega)
theorem DATA.s5 {w w' : List (List xE)} {K : Nat} (h : DATA w) (hm : ∀ s, s < 7 → s ≠ 5 → rwv w' 85 s = rwv w 85 s) (hK : rwv w 85 5 = K) (hK' : rwv w' 85 5 = K + 1) (hl : K < 1) (hos : ∀ j, (j < 7 ∨ 9 ≤ j) → j < 140 → rwv w' 86 j = rwv w 86 j) (hn : 1 ≤ rwv w' 86 7 ∧ rwv w' 86 7 ≤ 10 ∧ 1 ≤ rwv w' 86 8 ∧ rwv w' 86 8 ≤ 10) : DATA w' := by
  obtain ⟨m0, m1, m2, m3, m4, r5, r6, r7, r8, d0, d1⟩ := h
  have e0 := hm 0 (by decide) (by decide)
  have e1 := hm 1 (by decide) (by decide)
  have e2 := hm 2 (by decide) (by decide)
  have e3 := hm 3 (by decide) (by decide)
  have e4 := hm 4 (by decide) (by decide)
  have f5 := hos 5 (by omega) (by decide)
  have f6 := hos 6 (by omega) (by decide)
  refine ⟨by omega, by omega, by omega, by omega, by omega, by omega, by omega, by omega, by omega, fun k i hk hi => ?_, fun k hk => ?_⟩
  · rw [hos _ (by omega) (by omega)]
    exact d0 k i (by omega) hi
  · rw [hos _ (by omega) (by omega)]
    exact d1 k (by omega)
theorem DATA.s6 {w w' : List (List xE)} {K : Nat} (h : DATA w) (hm : ∀ s, s < 7 → s ≠ 6 → rwv w' 85 s = rwv w 85 s) (hK : rwv w 85 6 = K) (hK' : rwv w' 85 6 = K + 1) (hl : K < 1) (hos : ∀ j, (j < 5 ∨ 7 ≤ j) → j < 140 → rwv w' 86 j = rwv w 86 j) (hn : 1 ≤ rwv w' 86 5 ∧ rwv w' 86 5 ≤ 6 ∧ 1 ≤ rwv w' 86 6 ∧ rwv w' 86 6 ≤ 6) : DATA w' := by
  obtain ⟨m0, m1, m2, m3, m4, r5, r6, r7, r8, d0, d1⟩ := h
  have e0 := hm 0 (by decide) (by decide)
  have e1 := hm 1 (by decide) (by decide)
  have e2 := hm 2 (by decide) (by decide)
  have e3 := hm 3 (by decide) (by decide)
  have e4 := hm 4 (by decide) (by decide)
  have f7 := hos 7 (by omega) (by decide)
  have f8 := hos 8 (by omega) (by decide)
  refine ⟨by omega, by omega, by omega, by omega, by omega, by omega, by omega, by omega, by omega, fun k i hk hi => ?_, fun k hk => ?_⟩
  · rw [hos _ (by omega) (by omega)]
    exact d0 k i (by omega) hi
  · rw [hos _ (by omega) (by omega)]
    exact d1 k (by omega)
section XMB
variable {d : Nat} {w : List (List xE)} {bd : List (Nat × Nat)} {fc : List (Nat × Nat × Bool)} {rr : Nat × Nat}
theorem mLifeTold {sa kk : Nat} (hI : xMnv w) (hsa : sa ≤ 4294967295) (hkk : kk ≤ 1001) : xPi d mX12_isLifeTold [(2, 82), (0, sa), (0, kk)] w bd fc rr (fun n w' => (n ≤ 1) ∧ xMnv w' ∧ xFr [] w w') := by
  refine xPi.of ?_
  show xTo d mX12_isLifeTold (0, [], [(0, (2, 82)), (1, (0, sa)), (2, (0, kk))], [], (w, bd, fc, 0, 0, rr)) (fun φ => ∃ n w', xEnd 4 [(0, n)] (w', bd, fc, 0, 0, rr) φ ∧ (n ≤ 1) ∧ xMnv w' ∧ xFr [] w w')
  obtain ⟨f82_1, f82_3, f82_5, f82_7, f82_9, f82_11, f82_13, f82_15, f82_17, f82_19, f82_21, f82_22, f82_23, f82_25, f82_27, f82_29, h82_31, hb2, hb4, hb6, hb8, hb10, hb12, hb14, hb16, hb18, hb20, hb24, hb26, hb28, hb30, hb32⟩ := (hI 82 (by decide) (by decide) : cp82 (wget w 82))
  obtain ⟨g86_33, h86_34, hb35⟩ := (hI 86 (by decide) (by decide) : cpI 140 53 4294967295 (wget w 86))
  have h86_34 : xRow w 86 140 53 g86_33 := h86_34
  refine xg_t (xg_blk (b := [(0, 1, 3, 0, 0, 0), (1, 1, 15, 3, 0, 0), (2, 1, 3, 0, 0, 0), (3, 2, 15, 4, 0, 0)]) rfl) ?_
  refine xg_t (xg_const) ?_
  refine xg_t (xg_istore (l1 := [(0, (2, 82)), (1, (0, sa)), (2, (0, kk))]) rfl rfl rfl) ?_
  refine xg_t (xg_const) ?_
  refine xg_t (xg_istore (l1 := [(3, (0, 0)), (0, (2, 82)), (1, (0, sa)), (2, (0, kk))]) rfl rfl rfl) ?_
  refine xg_t (xg_drop (l1 := [(0, (2, 82)), (1, (0, sa)), (2, (0, kk)), (3, (0, 0)), (4, (0, 0))]) (List.forall_mem_cons.mpr ⟨List.mem_cons_of_mem _ (List.mem_cons_of_mem _ (List.mem_cons_self)), List.forall_mem_cons.mpr ⟨List.mem_cons_of_mem _ (List.mem_cons_of_mem _ (List.mem_cons_of_mem _ (List.mem_cons_self))), List.forall_mem_cons.mpr ⟨List.mem_cons_of_mem _ (List.mem_cons_of_mem _ (List.mem_cons_of_mem _ (List.mem_cons_of_mem _ (List.mem_cons_self)))), List.forall_mem_cons.mpr ⟨List.mem_cons_of_mem _ (List.mem_cons_self), List.forall_mem_cons.mpr ⟨List.mem_cons_self, fun _ h => absurd h List.not_mem_nil⟩⟩⟩⟩⟩)) ?_
  have key36 : ∀ (m38 : Nat) (is_ ji : Nat) (w39 : List (List xE)), 4 - ji < m38 → is_ ≤ 1 → ji ≤ 4 → xMnv w39 → xFr [] w w39 → xTo d mX12_isLifeTold (5, [], [(0, (2, 82)), (1, (0, sa)), (2, (0, kk)), (3, (0, is_)), (4, (0, ji))], [], (w39, bd, fc, 0, 0, rr)) (fun φ => ∃ n w', xEnd 4 [(0, n)] (w', bd, fc, 0, 0, rr) φ ∧ (n ≤ 1) ∧ xMnv w' ∧ xFr [] w w') := by
    intro m38
    induction m38 with
    | zero => intro is_ ji w39 hz; exact absurd hz (Nat.not_lt_zero _)
    | succ m38 ih37 =>
      intro is_ ji w39 hm44 hn42 hn43 hI40 hF41
      refine xg_t (xg_blk (b := [(5, 2, 2, 4, 0, 0), (7, 1, 2, 2, 0, 0), (8, 3, 6, 49, 3, 0), (11, 2, 2, 4, 0, 0), (13, 1, 3, 4, 0, 0), (14, 3, 6, 49, 3, 0), (17, 1, 2, 3, 0, 0), (18, 3, 7, 37, 1, 0), (21, 1, 0, 0, 0, 0), (22, 3, 1, 12, 12, 20), (25, 2, 4, 50, 0, 0), (27, 1, 3, 2, 0, 0), (28, 2, 2, 4, 0, 0), (30, 1, 16, 0, 0, 0), (31, 1, 11, 0, 0, 0), (32, 1, 10, 0, 0, 0), (33, 1, 2, 1, 0, 0), (34, 3, 6, 41, 1, 0)]) rfl) ?_
      refine xg_t (xg_iload (va := (0, ji)) rfl rfl) ?_
      refine xg_t (xg_iload (va := (0, kk)) rfl rfl) ?_
      by_cases hc45 : ji < kk
      · refine xg_t (xg_icF (u := ji) (v := kk) rfl xnm0 xnm0 (xj_geF hc45 (by omega))) ?_
        refine xg_t (xg_iload (va := (0, ji)) rfl rfl) ?_
        refine xg_t (xg_const) ?_
        by_cases hc46 : ji < 4
        · refine xg_t (xg_icF (u := ji) (v := 4) rfl xnm0 xnm0 (xj_geF hc46 (by omega))) ?_
          refine xg_t (xg_iload (va := (0, is_)) rfl rfl) ?_
          by_cases hc47 : is_ = 0
          · refine xg_t (xg_ifF (u := is_) rfl xnm0 (xj_neF hc47)) ?_
            refine xg_t (xg_aload (va := (2, 82)) rfl rfl) ?_
            refine xg_t (xg_getf (va := (2, 86)) (hF41.get (by decide) h82_31) rfl) ?_
            refine xg_t (xg_bip) ?_
            refine xg_t (xg_const) ?_
            refine xg_t (xg_iload (va := (0, ji)) rfl rfl) ?_
            refine xg_t (xg_imul (u := 2) (v := ji) (z := 2 * ji) xnm0 xnm0 (by omega)) ?_
            refine xg_t (xg_iadd (u := 50) (v := 2 * ji) (z := 50 + (2 * ji)) xnm0 xnm0 (by omega)) ?_
            refine xg_ialdB (n := 50 + (2 * ji)) (B := 4294967295) (h86_34.fr hF41 (by decide)) (hb35) xnm0 (by omega) (fun u48 hu49 he50 => ?_)
            refine xg_t (xg_iload (va := (0, sa)) rfl rfl) ?_
            by_cases hc51 : u48 = sa
            · refine xg_t (xg_icF (u := u48) (v := sa) rfl xnm0 xnm0 (xj_neF hc51)) ?_
              refine xg_t (xg_blk (b := [(37, 1, 3, 1, 0, 0), (38, 3, 8, 42, 0, 0)]) rfl) ?_
              refine xg_t (xg_const) ?_
              refine xg_t (xg_goto) ?_
              refine xg_t (xg_blk (b := [(42, 1, 15, 3, 0, 0), (43, 3, 9, 4, 1, 0), (46, 3, 8, 5, 0, 0)]) rfl) ?_
              refine xg_t (xg_istore (l1 := [(0, (2, 82)), (1, (0, sa)), (2, (0, kk)), (4, (0, ji))]) rfl rfl rfl) ?_
              refine xg_t (xg_iinc (u := ji) (z := ji + 1) (l1 := [(3, (0, 1)), (0, (2, 82)), (1, (0, sa)), (2, (0, kk))]) rfl rfl (by omega) rfl) ?_
              refine xg_t (xg_goto) ?_
              refine xg_t (xg_drop (l1 := [(0, (2, 82)), (1, (0, sa)), (2, (0, kk)), (3, (0, 1)), (4, (0, ji + 1))]) (List.forall_mem_cons.mpr ⟨List.mem_cons_of_mem _ (List.mem_cons_of_mem _ (List.mem_cons_self)), List.forall_mem_cons.mpr ⟨List.mem_cons_of_mem _ (List.mem_cons_of_mem _ (List.mem_cons_of_mem _ (List.mem_cons_self))), List.forall_mem_cons.mpr ⟨List.mem_cons_of_mem _ (List.mem_cons_of_mem _ (List.mem_cons_of_mem _ (List.mem_cons_of_mem _ (List.mem_cons_self)))), List.forall_mem_cons.mpr ⟨List.mem_cons_of_mem _ (List.mem_cons_self), List.forall_mem_cons.mpr ⟨List.mem_cons_self, fun _ h => absurd h List.not_mem_nil⟩⟩⟩⟩⟩)) ?_
              exact ih37 1 (ji + 1) w39 (by omega) (by omega) (by omega) (hI40) (hF41)
            · refine xg_t (xg_icT (u := u48) (v := sa) rfl xnm0 xnm0 (xj_neT hc51)) ?_
              refine xg_t (xg_blk (b := [(41, 1, 3, 0, 0, 0)]) rfl) ?_
              refine xg_t (xg_const) ?_
              refine xg_t (xg_blk (b := [(42, 1, 15, 3, 0, 0), (43, 3, 9, 4, 1, 0), (46, 3, 8, 5, 0, 0)]) rfl) ?_
              refine xg_t (xg_istore (l1 := [(0, (2, 82)), (1, (0, sa)), (2, (0, kk)), (4, (0, ji))]) rfl rfl rfl) ?_
              refine xg_t (xg_iinc (u := ji) (z := ji + 1) (l1 := [(3, (0, 0)), (0, (2, 82)), (1, (0, sa)), (2, (0, kk))]) rfl rfl (by omega) rfl) ?_
              refine xg_t (xg_goto) ?_
              refine xg_t (xg_drop (l1 := [(0, (2, 82)), (1, (0, sa)), (2, (0, kk)), (3, (0, 0)), (4, (0, ji + 1))]) (List.forall_mem_cons.mpr ⟨List.mem_cons_of_mem _ (List.mem_cons_of_mem _ (List.mem_cons_self)), List.forall_mem_cons.mpr ⟨List.mem_cons_of_mem _ (List.mem_cons_of_mem _ (List.mem_cons_of_mem _ (List.mem_cons_self))), List.forall_mem_cons.mpr ⟨List.mem_cons_of_mem _ (List.mem_cons_of_mem _ (List.mem_cons_of_mem _ (List.mem_cons_of_mem _ (List.mem_cons_self)))), List.forall_mem_cons.mpr ⟨List.mem_cons_of_mem _ (List.mem_cons_self), List.forall_mem_cons.mpr ⟨List.mem_cons_self, fun _ h => absurd h List.not_mem_nil⟩⟩⟩⟩⟩)) ?_
              exact ih37 0 (ji + 1) w39 (by omega) (by omega) (by omega) (hI40) (hF41)
          · refine xg_t (xg_ifT (u := is_) rfl xnm0 (xj_neT hc47)) ?_
            refine xg_t (xg_blk (b := [(37, 1, 3, 1, 0, 0), (38, 3, 8, 42, 0, 0)]) rfl) ?_
            refine xg_t (xg_const) ?_
            refine xg_t (xg_goto) ?_
            refine xg_t (xg_blk (b := [(42, 1, 15, 3, 0, 0), (43, 3, 9, 4, 1, 0), (46, 3, 8, 5, 0, 0)]) rfl) ?_
            refine xg_t (xg_istore (l1 := [(0, (2, 82)), (1, (0, sa)), (2, (0, kk)), (4, (0, ji))]) rfl rfl rfl) ?_
            refine xg_t (xg_iinc (u := ji) (z := ji + 1) (l1 := [(3, (0, 1)), (0, (2, 82)), (1, (0, sa)), (2, (0, kk))]) rfl rfl (by omega) rfl) ?_
            refine xg_t (xg_goto) ?_
            refine xg_t (xg_drop (l1 := [(0, (2, 82)), (1, (0, sa)), (2, (0, kk)), (3, (0, 1)), (4, (0, ji + 1))]) (List.forall_mem_cons.mpr ⟨List.mem_cons_of_mem _ (List.mem_cons_of_mem _ (List.mem_cons_self)), List.forall_mem_cons.mpr ⟨List.mem_cons_of_mem _ (List.mem_cons_of_mem _ (List.mem_cons_of_mem _ (List.mem_cons_self))), List.forall_mem_cons.mpr ⟨List.mem_cons_of_mem _ (List.mem_cons_of_mem _ (List.mem_cons_of_mem _ (List.mem_cons_of_mem _ (List.mem_cons_self)))), List.forall_mem_cons.mpr ⟨List.mem_cons_of_mem _ (List.mem_cons_self), List.forall_mem_cons.mpr ⟨List.mem_cons_self, fun _ h => absurd h List.not_mem_nil⟩⟩⟩⟩⟩)) ?_
            exact ih37 1 (ji + 1) w39 (by omega) (by omega) (by omega) (hI40) (hF41)
        · refine xg_t (xg_icT (u := ji) (v := 4) rfl xnm0 xnm0 (xj_geT (by omega) (by omega))) ?_
          refine xg_t (xg_blk (b := [(49, 1, 2, 3, 0, 0), (50, 1, 12, 0, 1, 0)]) rfl) ?_
          refine xg_t (xg_iload (va := (0, is_)) rfl rfl) ?_
          exact xg_e ⟨is_, w39, ⟨xret_b (by omega), rfl⟩, by omega, hI40, hF41⟩
      · refine xg_t (xg_icT (u := ji) (v := kk) rfl xnm0 xnm0 (xj_geT (by omega) (by omega))) ?_
        refine xg_t (xg_blk (b := [(49, 1, 2, 3, 0, 0), (50, 1, 12, 0, 1, 0)]) rfl) ?_
        refine xg_t (xg_iload (va := (0, is_)) rfl rfl) ?_
        exact xg_e ⟨is_, w39, ⟨xret_b (by omega), rfl⟩, by omega, hI40, hF41⟩
  exact key36 _ 0 0 w (Nat.lt_succ_self _) (by omega) (by omega) (hI) (xFr.rf)
set_option maxHeartbeats 60000000 in
theorem mALineS0 {at_ : Nat} (hI : xMnv w) (hps : PS w) (hmb : ∀ s, s < 7 → rwv w 85 s ≤ 1000) (hln : fld w 82 14 ≤ 1000) (h7 : fld w 82 7 = 3) (hat : at_ ≤ 4294967295) : xTo (d + 7) mX12_aLine (43, [], [(2, (0, at_)), (1, (0, 0)), (0, (2, 82))], [], (w, bd, fc, 0, 0, rr)) (fun φ => ∃ w', xEnd 0 [] (w', bd, fc, 0, 0, rr) φ ∧ xMnv w' ∧ xFr [82, 83, 85, 86, 87] w w' ∧ ((FA w ≠ 0 → FA w' ≠ 0) ∧ PS w' ∧ ((fld w' 82 10 = 1 ∧ mu w' = mu w ∧ fld w' 82 14 = fld w 82 14 ∧ ∀ s, s < 7 → rwv w' 85 s = rwv w 85 s) ∨ (mu w' < mu w ∧ fld w' 82 14 = fld w 82 14 + 1 ∧ ∀ s, s < 7 → rwv w' 85 s ≤ rwv w 85 s + 1)) ∧ (FA w' ≠ 0 ∨ (DATA w → DATA w')))) := by
  obtain ⟨f82_1, f82_3, f82_5, f82_7, f82_9, f82_11, f82_13, f82_15, f82_17, f82_19, f82_21, f82_22, f82_23, f82_25, f82_27, f82_29, h82_31, hb2, hb4, hb6, hb8, hb10, hb12, hb14, hb16, hb18, hb20, hb24, hb26, hb28, hb30, hb32⟩ := (hI 82 (by decide) (by decide) : cp82 (wget w 82))
  have hf33 : fld w 82 7 = f82_11 := fld_of h82_31
  have hf34 : fld w 82 10 = f82_17 := fld_of h82_31
  have hf35 : fld w 82 14 = f82_19 := fld_of h82_31
  have hps_ : fld w 82 10 = 0 ∨ FA w ≠ 0 := hps
  obtain ⟨g85_36, h85_37, hb38⟩ := (hI 85 (by decide) (by decide) : cpI 7 52 4294967295 (wget w 85))
  have h85_37 : xRow w 85 7 52 g85_36 := h85_37
  obtain ⟨g86_39, h86_40, hb41⟩ := (hI 86 (by decide) (by decide) : cpI 140 53 4294967295 (wget w 86))
  have h86_40 : xRow w 86 140 53 g86_39 := h86_40
  obtain ⟨g87_42, h87_43, hb44⟩ := (hI 87 (by decide) (by decide) : cpI 20 54 4294967295 (wget w 87))
  have h87_43 : xRow w 87 20 54 g87_42 := h87_43
  refine xg_t (xg_blk (b := [(43, 1, 0, 0, 0, 0), (44, 3, 1, 12, 11, 17), (47, 1, 2, 1, 0, 0), (48, 1, 10, 0, 0, 0), (49, 1, 15, 3, 0, 0), (50, 1, 2, 3, 0, 0), (51, 1, 2, 1, 0, 0), (52, 3, 13, 194, 98, 193), (55, 3, 6, 64, 2, 0), (58, 1, 0, 0, 0, 0), (59, 1, 3, 3, 0, 0), (60, 1, 2, 2, 0, 0), (61, 3, 13, 115, 96, 186)]) rfl) ?_
  refine xg_t (xg_aload (va := (2, 82)) rfl rfl) ?_
  refine xg_t (xg_getf (va := (2, 85)) h82_31 rfl) ?_
  refine xg_t (xg_iload (va := (0, 0)) rfl rfl) ?_
  refine xg_ialdB (n := 0) (B := 4294967295) h85_37 (hb38) xnm0 (by omega) (fun u45 hu46 he47 => ?_)
  have hK48 : rwv w 85 0 = u45 := (rwv_of h85_37 (by decide)).trans he47
  have hm49 := hmb 0 (by decide)
  have hl50 : u45 ≤ 1000 := by omega
  refine xg_t (xg_istore (l1 := [(2, (0, at_)), (1, (0, 0)), (0, (2, 82))]) rfl rfl rfl) ?_
  refine xg_t (xg_iload (va := (0, u45)) rfl rfl) ?_
  refine xg_t (xg_iload (va := (0, 0)) rfl rfl) ?_
  refine xg_t (xg_cSr mX12_mostOf (vs := [(0, 0)]) (rest := [(0, u45)]) (rs := [(0, 6), (0, u45)]) (cn1 := 0) (sl1 := 0) rfl (mMostR0) rfl rfl rfl rfl rfl rfl rfl rfl) ?_
  by_cases hc51 : u45 < 6
  · refine xg_t (xg_icT (u := u45) (v := 6) rfl xnm0 xnm0 (xj_ltT hc51 (by omega))) ?_
    refine xg_t (xg_blk (b := [(64, 1, 0, 0, 0, 0), (65, 3, 13, 110, 96, 190), (68, 1, 2, 1, 0, 0), (69, 39, 33, 362, 0, 9)]) rfl) ?_
    refine xg_t (xg_aload (va := (2, 82)) rfl rfl) ?_
    refine xg_cVv mX12_advance (vs := []) (rest := []) (cn1 := 0) (sl1 := 0) rfl (mAdvance (hI)) rfl h82_31 rfl rfl rfl rfl rfl rfl (fun w52 hq53 => ?_)
    obtain ⟨hI54, hF55, hx56⟩ := hq53
    clear hb2 hb4 hb6 hb8 hb10 hb12 hb14 hb16 hb18 hb20 hb24 hb26 hb28 hb30
    obtain ⟨hv57, hv58, hv59, hv60⟩ := hx56
    have hf62 := FA_fr hF55 (by decide)
    have hs63 := (PK.rf hps).2.2.2
    unfold PS at hs63
    have pk61 : PK w w52 := ⟨fun _ => by omega, hv57, hv60, (show fld w52 82 10 = 0 ∨ FA w52 ≠ 0 by omega)⟩
    clear hs63
    have pk64 : PK w w52 := PK.tr (PK.rf hps) pk61
    have os65 : ∀ j, (j < 20 + 4 * u45 ∨ 24 + 4 * u45 ≤ j) → j < 140 → rwv w52 86 j = rwv w 86 j := fun j hj hl => (rwv_fr hF55 (by decide)).trans ((fun j _ _ => rfl) j hj hl)
    have ms66 : mu w52 < mu w := Nat.lt_of_lt_of_le (hv58 (by omega)) (PK.rf hps).2.1
    clear hv58
    have jn67 : ∀ (w68 : List (List xE)), xMnv w68 → xFr [82, 83, 85, 86, 87] w w68 → (PK w w68 ∧ (∀ j, (j < 20 + 4 * u45 ∨ 24 + 4 * u45 ≤ j) → j < 140 → rwv w68 86 j = rwv w 86 j) ∧ mu w68 < mu w ∧ (FA w68 ≠ 0 ∨ u45 < 6) ∧ (FA w68 ≠ 0 ∨ 6 ≤ u45 ∨ (1 ≤ rwv w68 86 (20 + 4 * u45 + 0) ∧ rwv w68 86 (20 + 4 * u45 + 0) ≤ 99 ∧ 1 ≤ rwv w68 86 (20 + 4 * u45 + 1) ∧ rwv w68 86 (20 + 4 * u45 + 1) ≤ 99 ∧ 1 ≤ rwv w68 86 (20 + 4 * u45 + 2) ∧ rwv w68 86 (20 + 4 * u45 + 2) ≤ 99))) → xTo (d + 7) mX12_aLine (394, [], [(0, (2, 82)), (1, (0, 0)), (3, (0, u45))], [], (w68, bd, fc, 0, 0, rr)) (fun φ => ∃ w', xEnd 0 [] (w', bd, fc, 0, 0, rr) φ ∧ xMnv w' ∧ xFr [82, 83, 85, 86, 87] w w' ∧ ((FA w ≠ 0 → FA w' ≠ 0) ∧ PS w' ∧ ((fld w' 82 10 = 1 ∧ mu w' = mu w ∧ fld w' 82 14 = fld w 82 14 ∧ ∀ s, s < 7 → rwv w' 85 s = rwv w 85 s) ∨ (mu w' < mu w ∧ fld w' 82 14 = fld w 82 14 + 1 ∧ ∀ s, s < 7 → rwv w' 85 s ≤ rwv w 85 s + 1)) ∧ (FA w' ≠ 0 ∨ (DATA w → DATA w')))) := by
      intro w68 hI69 hF70 he71
      obtain ⟨hj72, hj73, hj74, hj75, hj76⟩ := he71
      refine xg_t (xg_blk (b := [(394, 1, 0, 0, 0, 0), (395, 3, 1, 12, 10, 180), (398, 3, 7, 416, 1, 0), (401, 1, 0, 0, 0, 0), (402, 3, 1, 12, 7, 151), (405, 1, 3, 2, 0, 0), (406, 3, 6, 416, 1, 0), (409, 1, 0, 0, 0, 0), (410, 3, 13, 110, 96, 190), (413, 3, 8, 420, 0, 0)]) rfl) ?_
      refine xg_t (xg_aload (va := (2, 82)) rfl rfl) ?_
      obtain ⟨f82_77, f82_79, f82_81, f82_83, f82_85, f82_87, f82_89, f82_91, f82_93, f82_95, f82_97, f82_98, f82_99, f82_101, f82_103, f82_105, h82_107, hb78, hb80, hb82, hb84, hb86, hb88, hb90, hb92, hb94, hb96, hb100, hb102, hb104, hb106, hb108⟩ := (hI69 82 (by decide) (by decide) : cp82 (wget w68 82))
      refine xg_t (xg_getf (va := (0, f82_93)) h82_107 rfl) ?_
      by_cases hc109 : f82_93 = 0
      · refine xg_t (xg_ifF (u := f82_93) rfl xnm0 (xj_neF hc109)) ?_
        refine xg_t (xg_aload (va := (2, 82)) rfl rfl) ?_
        refine xg_t (xg_getf (va := (0, f82_87)) h82_107 rfl) ?_
        refine xg_t (xg_const) ?_
        by_cases hc110 : f82_87 = 2
        · refine xg_t (xg_icF (u := f82_87) (v := 2) rfl xnm0 xnm0 (xj_neF hc110)) ?_
          refine xg_t (xg_aload (va := (2, 82)) rfl rfl) ?_
          refine xg_cVv mX12_advance (vs := []) (rest := []) (cn1 := 0) (sl1 := 0) rfl (mAdvance (hI69)) rfl h82_107 rfl rfl rfl rfl rfl rfl (fun w111 hq112 => ?_)
          obtain ⟨hI113, hF114, hx115⟩ := hq112
          clear hb78 hb80 hb82 hb84 hb86 hb88 hb90 hb92 hb94 hb96 hb100 hb102 hb104 hb106
          obtain ⟨hv116, hv117, hv118, hv119⟩ := hx115
          have hf121 := FA_fr hF114 (by decide)
          have hs122 := hj72.2.2.2
          unfold PS at hs122
          have pk120 : PK w68 w111 := ⟨fun _ => by omega, hv116, hv119, (show fld w111 82 10 = 0 ∨ FA w111 ≠ 0 by omega)⟩
          clear hs122
          clear hv117
          have pk123 : PK w w111 := PK.tr hj72 pk120
          have os124 : ∀ j, (j < 20 + 4 * u45 ∨ 24 + 4 * u45 ≤ j) → j < 140 → rwv w111 86 j = rwv w 86 j := fun j hj hl => (rwv_fr hF114 (by decide)).trans (hj73 j hj hl)
          have rg125 : FA w111 ≠ 0 ∨ u45 < 6 := hj75.imp_left pk120.1
          have hl126 : rwv w111 86 (20 + 4 * u45 + 0) = rwv w68 86 (20 + 4 * u45 + 0) := rwv_fr hF114 (by decide)
          have hl127 : rwv w111 86 (20 + 4 * u45 + 1) = rwv w68 86 (20 + 4 * u45 + 1) := rwv_fr hF114 (by decide)
          have hl128 : rwv w111 86 (20 + 4 * u45 + 2) = rwv w68 86 (20 + 4 * u45 + 2) := rwv_fr hF114 (by decide)
          have nw129 : FA w111 ≠ 0 ∨ 6 ≤ u45 ∨ (1 ≤ rwv w111 86 (20 + 4 * u45 + 0) ∧ rwv w111 86 (20 + 4 * u45 + 0) ≤ 99 ∧ 1 ≤ rwv w111 86 (20 + 4 * u45 + 1) ∧ rwv w111 86 (20 + 4 * u45 + 1) ≤ 99 ∧ 1 ≤ rwv w111 86 (20 + 4 * u45 + 2) ∧ rwv w111 86 (20 + 4 * u45 + 2) ≤ 99) := by have q := hj76; have q1 := pk120.1; omega
          clear hj76
          have ms130 : mu w111 < mu w := Nat.lt_of_le_of_lt pk120.2.1 hj74
          clear hj75
          refine xg_t (xg_goto) ?_
          refine xg_t (xg_blk (b := [(420, 1, 0, 0, 0, 0), (421, 3, 1, 12, 11, 17), (424, 1, 2, 1, 0, 0), (425, 1, 39, 0, 0, 0), (426, 1, 10, 0, 0, 0), (427, 1, 3, 1, 0, 0), (428, 1, 11, 0, 0, 0), (429, 1, 17, 0, 0, 0), (430, 1, 0, 0, 0, 0), (431, 1, 19, 0, 0, 0), (432, 3, 1, 12, 14, 212), (435, 1, 3, 1, 0, 0), (436, 1, 11, 0, 0, 0), (437, 3, 14, 12, 14, 212), (440, 1, 12, 0, 0, 0)]) rfl) ?_
          obtain ⟨f82_131, f82_133, f82_135, f82_137, f82_139, f82_141, f82_143, f82_145, f82_147, f82_149, f82_151, f82_152, f82_153, f82_155, f82_157, f82_159, h82_161, hb132, hb134, hb136, hb138, hb140, hb142, hb144, hb146, hb148, hb150, hb154, hb156, hb158, hb160, hb162⟩ := (hI113 82 (by decide) (by decide) : cp82 (wget w111 82))
          have hf163 : fld w111 82 4 = f82_135 := fld_of h82_161
          have hf164 : fld w111 82 5 = f82_137 := fld_of h82_161
          have hf165 : fld w111 82 7 = f82_141 := fld_of h82_161
          have hf166 : fld w111 82 10 = f82_147 := fld_of h82_161
          have hf167 : fld w111 82 14 = f82_149 := fld_of h82_161
          have hu168 : mu w111 = 2 * (fld w111 82 4 - fld w111 82 5) + min 1 (fld w111 82 7) := rfl
          have hf169 := pk123.2.2.1
          have hl170 : f82_149 ≤ 1000 := by omega
          refine xg_t (xg_aload (va := (2, 82)) rfl rfl) ?_
          refine xg_t (xg_getf (va := (2, 85)) h82_161 rfl) ?_
          refine xg_t (xg_iload (va := (0, 0)) rfl rfl) ?_
          refine xg_t (xg_dup2 rfl) ?_
          obtain ⟨g85_171, h85_172, hb173⟩ := (hI113 85 (by decide) (by decide) : cpI 7 52 4294967295 (wget w111 85))
          have h85_172 : xRow w111 85 7 52 g85_171 := h85_172
          refine xg_ialdB (n := 0) (B := 4294967295) h85_172 (hb173) xnm0 (by omega) (fun u174 hu175 he176 => ?_)
          have hl177 : u174 = u45 := by omega
          refine xg_t (xg_const) ?_
          refine xg_t (xg_iadd (u := u174) (v := 1) (z := u174 + 1) xnm0 xnm0 (by omega)) ?_
          refine xg_iastK (n := 0) (u := u174 + 1) h85_172 xnm0 xnm0 rfl (by omega) (fun w178 hr179 hb180 => ?_)
          refine xg_t (xg_aload (va := (2, 82)) rfl rfl) ?_
          refine xg_t (xg_dup rfl) ?_
          refine xg_t (xg_getf (va := (0, f82_149)) (hb180.get (by decide) h82_161) rfl) ?_
          refine xg_t (xg_const) ?_
          refine xg_t (xg_iadd (u := f82_149) (v := 1) (z := f82_149 + 1) xnm0 xnm0 (by omega)) ?_
          refine xg_putI (fl1 := [(2, 83), (2, 84), (0, f82_131), (0, f82_133), (0, f82_135), (0, f82_137), (0, f82_139), (0, f82_141), (0, f82_143), (0, f82_145), (0, f82_147), (2, 85), (2, 86), (2, 87), (0, f82_149 + 1), (2, 88), (2, 89), (2, 90), (2, 91), (2, 92), (2, 93), (2, 94), (4, f82_151), (4, f82_152), (0, f82_153), (2, 95), (2, 96), (2, 97), (2, 98), (2, 99), (2, 100), (2, 101), (2, 102), (0, f82_155), (2, 103), (2, 104), (2, 105), (2, 106), (2, 107), (2, 108), (2, 109), (0, f82_157), (0, f82_159), (2, 110), (2, 111), (2, 112), (2, 113)]) (hb180.get (by decide) h82_161) rfl rfl rfl (fun w181 hk182 hb183 => ?_)
          have hF184 : xFr [82, 85] w111 w181 := ((xFr.of (S := [82, 85]) hb180 (by decide)).tr (xFr.of (S := [82, 85]) hb183 (by decide)))
          have hA185 := FA_fr hF184 (by decide)
          have hf186 : fld w181 82 4 = f82_135 := fld_of hk182
          have hf187 : fld w181 82 5 = f82_137 := fld_of hk182
          have hf188 : fld w181 82 7 = f82_141 := fld_of hk182
          have hf189 : fld w181 82 10 = f82_147 := fld_of hk182
          have hf190 : fld w181 82 14 = f82_149 + 1 := fld_of hk182
          have hu191 : mu w181 = 2 * (fld w181 82 4 - fld w181 82 5) + min 1 (fld w181 82 7) := rfl
          have pq192 := pk123
          unfold PK PS at pq192
          have hM193 : ∀ s, s < 7 → s ≠ 0 → rwv w181 85 s = rwv w 85 s := fun s hs hn => (rwv_of (hr179.but hb183 (by decide)) hs).trans ((if_neg hn).trans (rwv_of h85_37 hs).symm)
          have hM194 : rwv w181 85 0 = u45 + 1 := (rwv_of (hr179.but hb183 (by decide)) (by decide)).trans ((if_pos rfl).trans (by omega))
          have hM195 : ∀ s, s < 7 → rwv w181 85 s ≤ rwv w 85 s + 1 := fun s hs => by
            by_cases z : s = 0
            · subst z; omega
            · rw [hM193 s hs z]; omega
          have hO196 : ∀ j, (j < 20 + 4 * u45 ∨ 24 + 4 * u45 ≤ j) → j < 140 → rwv w181 86 j = rwv w 86 j := fun j hj hl => (rwv_fr hF184 (by decide)).trans (os124 j hj hl)
          have hl198 : FA w111 ≠ 0 ∨ u45 < 6 := rg125
          have hl199 : rwv w181 86 (20 + 4 * u45 + 0) = rwv w111 86 (20 + 4 * u45 + 0) := rwv_fr hF184 (by decide)
          have hl200 : rwv w181 86 (20 + 4 * u45 + 1) = rwv w111 86 (20 + 4 * u45 + 1) := rwv_fr hF184 (by decide)
          have hl201 : rwv w181 86 (20 + 4 * u45 + 2) = rwv w111 86 (20 + 4 * u45 + 2) := rwv_fr hF184 (by decide)
          have hN197 : FA w181 ≠ 0 ∨ 6 ≤ u45 ∨ (1 ≤ rwv w181 86 (20 + 4 * u45 + 0) ∧ rwv w181 86 (20 + 4 * u45 + 0) ≤ 99 ∧ 1 ≤ rwv w181 86 (20 + 4 * u45 + 1) ∧ rwv w181 86 (20 + 4 * u45 + 1) ≤ 99 ∧ 1 ≤ rwv w181 86 (20 + 4 * u45 + 2) ∧ rwv w181 86 (20 + 4 * u45 + 2) ≤ 99) := by have q := nw129; omega
          have hX202 : FA w181 ≠ 0 ∨ u45 < 6 := by omega
          have hD203 : FA w181 ≠ 0 ∨ (DATA w → DATA w181) := by
            by_cases z : FA w181 ≠ 0
            · exact Or.inl z
            · exact Or.inr (fun hd => hd.s0 hM193 hK48 hM194 (hX202.resolve_left z) hO196 ((hN197.resolve_left z).resolve_left (by have := hX202.resolve_left z; omega)))
          exact xg_e ⟨w181, ⟨rfl, rfl⟩, xMnv.up (S := [85, 82]) hI113 ((xFr.of (S := [85, 82]) hb180 (by decide)).tr (xFr.of (S := [85, 82]) hb183 (by decide))) (List.forall_mem_cons.mpr ⟨(show cpI 7 52 4294967295 (wget w181 85) from ⟨_, (hr179.but hb183 (by decide)), xrb (by omega) (hb173)⟩), List.forall_mem_cons.mpr ⟨(show cp82 (wget w181 82) from ⟨f82_131, f82_133, f82_135, f82_137, f82_139, f82_141, f82_143, f82_145, f82_147, f82_149 + 1, f82_151, f82_152, f82_153, f82_155, f82_157, f82_159, hk182, hb132, hb134, hb136, hb138, hb140, hb142, hb144, hb146, hb148, by omega, hb154, hb156, hb158, hb160, by omega⟩), fun _ h => absurd h List.not_mem_nil⟩⟩), ((hF70.tr (hF114.up (by decide))).tr ((xFr.of (S := [82, 83, 85, 86, 87]) hb180 (by decide)).tr (xFr.of (S := [82, 83, 85, 86, 87]) hb183 (by decide)))), ⟨fun h => by have := pq192.1 h; omega, (show fld w181 82 10 = 0 ∨ FA w181 ≠ 0 by omega), Or.inr ⟨by have := ms130; omega, by omega, hM195⟩, hD203⟩⟩
        · refine xg_t (xg_icT (u := f82_87) (v := 2) rfl xnm0 xnm0 (xj_neT hc110)) ?_
          refine xg_t (xg_blk (b := [(416, 1, 0, 0, 0, 0), (417, 3, 13, 140, 96, 183)]) rfl) ?_
          refine xg_t (xg_aload (va := (2, 82)) rfl rfl) ?_
          refine xg_cVv mX12_ends (vs := []) (rest := []) (cn1 := 0) (sl1 := 0) rfl (mEnds (hI69) hj72.2.2.2) rfl h82_107 rfl rfl rfl rfl rfl rfl (fun w204 hq205 => ?_)
          obtain ⟨hI206, hF207, hx208⟩ := hq205
          clear hb78 hb80 hb82 hb84 hb86 hb88 hb90 hb92 hb94 hb96 hb100 hb102 hb104 hb106
          obtain ⟨hv209, hv210, hv211, hv212⟩ := hx208
          have pk213 : PK w68 w204 := ⟨fun _ => hv209, by omega, by omega, Or.inr hv209⟩
          have pk214 : PK w w204 := PK.tr hj72 pk213
          have os215 : ∀ j, (j < 20 + 4 * u45 ∨ 24 + 4 * u45 ≤ j) → j < 140 → rwv w204 86 j = rwv w 86 j := fun j hj hl => (rwv_fr hF207 (by decide)).trans (hj73 j hj hl)
          have rg216 : FA w204 ≠ 0 ∨ u45 < 6 := hj75.imp_left pk213.1
          have hl217 : rwv w204 86 (20 + 4 * u45 + 0) = rwv w68 86 (20 + 4 * u45 + 0) := rwv_fr hF207 (by decide)
          have hl218 : rwv w204 86 (20 + 4 * u45 + 1) = rwv w68 86 (20 + 4 * u45 + 1) := rwv_fr hF207 (by decide)
          have hl219 : rwv w204 86 (20 + 4 * u45 + 2) = rwv w68 86 (20 + 4 * u45 + 2) := rwv_fr hF207 (by decide)
          have nw220 : FA w204 ≠ 0 ∨ 6 ≤ u45 ∨ (1 ≤ rwv w204 86 (20 + 4 * u45 + 0) ∧ rwv w204 86 (20 + 4 * u45 + 0) ≤ 99 ∧ 1 ≤ rwv w204 86 (20 + 4 * u45 + 1) ∧ rwv w204 86 (20 + 4 * u45 + 1) ≤ 99 ∧ 1 ≤ rwv w204 86 (20 + 4 * u45 + 2) ∧ rwv w204 86 (20 + 4 * u45 + 2) ≤ 99) := by have q := hj76; have q1 := pk213.1; omega
          clear hj76
          have ms221 : mu w204 < mu w := Nat.lt_of_le_of_lt pk213.2.1 hj74
          clear hj75
          refine xg_t (xg_blk (b := [(420, 1, 0, 0, 0, 0), (421, 3, 1, 12, 11, 17), (424, 1, 2, 1, 0, 0), (425, 1, 39, 0, 0, 0), (426, 1, 10, 0, 0, 0), (427, 1, 3, 1, 0, 0), (428, 1, 11, 0, 0, 0), (429, 1, 17, 0, 0, 0), (430, 1, 0, 0, 0, 0), (431, 1, 19, 0, 0, 0), (432, 3, 1, 12, 14, 212), (435, 1, 3, 1, 0, 0), (436, 1, 11, 0, 0, 0), (437, 3, 14, 12, 14, 212), (440, 1, 12, 0, 0, 0)]) rfl) ?_
          obtain ⟨f82_222, f82_224, f82_226, f82_228, f82_230, f82_232, f82_234, f82_236, f82_238, f82_240, f82_242, f82_243, f82_244, f82_246, f82_248, f82_250, h82_252, hb223, hb225, hb227, hb229, hb231, hb233, hb235, hb237, hb239, hb241, hb245, hb247, hb249, hb251, hb253⟩ := (hI206 82 (by decide) (by decide) : cp82 (wget w204 82))
          have hf254 : fld w204 82 4 = f82_226 := fld_of h82_252
          have hf255 : fld w204 82 5 = f82_228 := fld_of h82_252
          have hf256 : fld w204 82 7 = f82_232 := fld_of h82_252
          have hf257 : fld w204 82 10 = f82_238 := fld_of h82_252
          have hf258 : fld w204 82 14 = f82_240 := fld_of h82_252
          have hu259 : mu w204 = 2 * (fld w204 82 4 - fld w204 82 5) + min 1 (fld w204 82 7) := rfl
          have hf260 := pk214.2.2.1
          have hl261 : f82_240 ≤ 1000 := by omega
          refine xg_t (xg_aload (va := (2, 82)) rfl rfl) ?_
          refine xg_t (xg_getf (va := (2, 85)) h82_252 rfl) ?_
          refine xg_t (xg_iload (va := (0, 0)) rfl rfl) ?_
          refine xg_t (xg_dup2 rfl) ?_
          obtain ⟨g85_262, h85_263, hb264⟩ := (hI206 85 (by decide) (by decide) : cpI 7 52 4294967295 (wget w204 85))
          have h85_263 : xRow w204 85 7 52 g85_262 := h85_263
          refine xg_ialdB (n := 0) (B := 4294967295) h85_263 (hb264) xnm0 (by omega) (fun u265 hu266 he267 => ?_)
          have hl268 : u265 = u45 := by omega
          refine xg_t (xg_const) ?_
          refine xg_t (xg_iadd (u := u265) (v := 1) (z := u265 + 1) xnm0 xnm0 (by omega)) ?_
          refine xg_iastK (n := 0) (u := u265 + 1) h85_263 xnm0 xnm0 rfl (by omega) (fun w269 hr270 hb271 => ?_)
          refine xg_t (xg_aload (va := (2, 82)) rfl rfl) ?_
          refine xg_t (xg_dup rfl) ?_
          refine xg_t (xg_getf (va := (0, f82_240)) (hb271.get (by decide) h82_252) rfl) ?_
          refine xg_t (xg_const) ?_
          refine xg_t (xg_iadd (u := f82_240) (v := 1) (z := f82_240 + 1) xnm0 xnm0 (by omega)) ?_
          refine xg_putI (fl1 := [(2, 83), (2, 84), (0, f82_222), (0, f82_224), (0, f82_226), (0, f82_228), (0, f82_230), (0, f82_232), (0, f82_234), (0, f82_236), (0, f82_238), (2, 85), (2, 86), (2, 87), (0, f82_240 + 1), (2, 88), (2, 89), (2, 90), (2, 91), (2, 92), (2, 93), (2, 94), (4, f82_242), (4, f82_243), (0, f82_244), (2, 95), (2, 96), (2, 97), (2, 98), (2, 99), (2, 100), (2, 101), (2, 102), (0, f82_246), (2, 103), (2, 104), (2, 105), (2, 106), (2, 107), (2, 108), (2, 109), (0, f82_248), (0, f82_250), (2, 110), (2, 111), (2, 112), (2, 113)]) (hb271.get (by decide) h82_252) rfl rfl rfl (fun w272 hk273 hb274 => ?_)
          have hF275 : xFr [82, 85] w204 w272 := ((xFr.of (S := [82, 85]) hb271 (by decide)).tr (xFr.of (S := [82, 85]) hb274 (by decide)))
          have hA276 := FA_fr hF275 (by decide)
          have hf277 : fld w272 82 4 = f82_226 := fld_of hk273
          have hf278 : fld w272 82 5 = f82_228 := fld_of hk273
          have hf279 : fld w272 82 7 = f82_232 := fld_of hk273
          have hf280 : fld w272 82 10 = f82_238 := fld_of hk273
          have hf281 : fld w272 82 14 = f82_240 + 1 := fld_of hk273
          have hu282 : mu w272 = 2 * (fld w272 82 4 - fld w272 82 5) + min 1 (fld w272 82 7) := rfl
          have pq283 := pk214
          unfold PK PS at pq283
          have hM284 : ∀ s, s < 7 → s ≠ 0 → rwv w272 85 s = rwv w 85 s := fun s hs hn => (rwv_of (hr270.but hb274 (by decide)) hs).trans ((if_neg hn).trans (rwv_of h85_37 hs).symm)
          have hM285 : rwv w272 85 0 = u45 + 1 := (rwv_of (hr270.but hb274 (by decide)) (by decide)).trans ((if_pos rfl).trans (by omega))
          have hM286 : ∀ s, s < 7 → rwv w272 85 s ≤ rwv w 85 s + 1 := fun s hs => by
            by_cases z : s = 0
            · subst z; omega
            · rw [hM284 s hs z]; omega
          have hO287 : ∀ j, (j < 20 + 4 * u45 ∨ 24 + 4 * u45 ≤ j) → j < 140 → rwv w272 86 j = rwv w 86 j := fun j hj hl => (rwv_fr hF275 (by decide)).trans (os215 j hj hl)
          have hl289 : FA w204 ≠ 0 ∨ u45 < 6 := rg216
          have hl290 : rwv w272 86 (20 + 4 * u45 + 0) = rwv w204 86 (20 + 4 * u45 + 0) := rwv_fr hF275 (by decide)
          have hl291 : rwv w272 86 (20 + 4 * u45 + 1) = rwv w204 86 (20 + 4 * u45 + 1) := rwv_fr hF275 (by decide)
          have hl292 : rwv w272 86 (20 + 4 * u45 + 2) = rwv w204 86 (20 + 4 * u45 + 2) := rwv_fr hF275 (by decide)
          have hN288 : FA w272 ≠ 0 ∨ 6 ≤ u45 ∨ (1 ≤ rwv w272 86 (20 + 4 * u45 + 0) ∧ rwv w272 86 (20 + 4 * u45 + 0) ≤ 99 ∧ 1 ≤ rwv w272 86 (20 + 4 * u45 + 1) ∧ rwv w272 86 (20 + 4 * u45 + 1) ≤ 99 ∧ 1 ≤ rwv w272 86 (20 + 4 * u45 + 2) ∧ rwv w272 86 (20 + 4 * u45 + 2) ≤ 99) := by have q := nw220; omega
          have hX293 : FA w272 ≠ 0 ∨ u45 < 6 := by omega
          have hD294 : FA w272 ≠ 0 ∨ (DATA w → DATA w272) := by
            by_cases z : FA w272 ≠ 0
            · exact Or.inl z
            · exact Or.inr (fun hd => hd.s0 hM284 hK48 hM285 (hX293.resolve_left z) hO287 ((hN288.resolve_left z).resolve_left (by have := hX293.resolve_left z; omega)))
          exact xg_e ⟨w272, ⟨rfl, rfl⟩, xMnv.up (S := [85, 82]) hI206 ((xFr.of (S := [85, 82]) hb271 (by decide)).tr (xFr.of (S := [85, 82]) hb274 (by decide))) (List.forall_mem_cons.mpr ⟨(show cpI 7 52 4294967295 (wget w272 85) from ⟨_, (hr270.but hb274 (by decide)), xrb (by omega) (hb264)⟩), List.forall_mem_cons.mpr ⟨(show cp82 (wget w272 82) from ⟨f82_222, f82_224, f82_226, f82_228, f82_230, f82_232, f82_234, f82_236, f82_238, f82_240 + 1, f82_242, f82_243, f82_244, f82_246, f82_248, f82_250, hk273, hb223, hb225, hb227, hb229, hb231, hb233, hb235, hb237, hb239, by omega, hb245, hb247, hb249, hb251, by omega⟩), fun _ h => absurd h List.not_mem_nil⟩⟩), ((hF70.tr (hF207.up (by decide))).tr ((xFr.of (S := [82, 83, 85, 86, 87]) hb271 (by decide)).tr (xFr.of (S := [82, 83, 85, 86, 87]) hb274 (by decide)))), ⟨fun h => by have := pq283.1 h; omega, (show fld w272 82 10 = 0 ∨ FA w272 ≠ 0 by omega), Or.inr ⟨by have := ms221; omega, by omega, hM286⟩, hD294⟩⟩
      · refine xg_t (xg_ifT (u := f82_93) rfl xnm0 (xj_neT hc109)) ?_
        refine xg_t (xg_blk (b := [(416, 1, 0, 0, 0, 0), (417, 3, 13, 140, 96, 183)]) rfl) ?_
        refine xg_t (xg_aload (va := (2, 82)) rfl rfl) ?_
        refine xg_cVv mX12_ends (vs := []) (rest := []) (cn1 := 0) (sl1 := 0) rfl (mEnds (hI69) hj72.2.2.2) rfl h82_107 rfl rfl rfl rfl rfl rfl (fun w295 hq296 => ?_)
        obtain ⟨hI297, hF298, hx299⟩ := hq296
        clear hb78 hb80 hb82 hb84 hb86 hb88 hb90 hb92 hb94 hb96 hb100 hb102 hb104 hb106
        obtain ⟨hv300, hv301, hv302, hv303⟩ := hx299
        have pk304 : PK w68 w295 := ⟨fun _ => hv300, by omega, by omega, Or.inr hv300⟩
        have pk305 : PK w w295 := PK.tr hj72 pk304
        have os306 : ∀ j, (j < 20 + 4 * u45 ∨ 24 + 4 * u45 ≤ j) → j < 140 → rwv w295 86 j = rwv w 86 j := fun j hj hl => (rwv_fr hF298 (by decide)).trans (hj73 j hj hl)
        have rg307 : FA w295 ≠ 0 ∨ u45 < 6 := hj75.imp_left pk304.1
        have hl308 : rwv w295 86 (20 + 4 * u45 + 0) = rwv w68 86 (20 + 4 * u45 + 0) := rwv_fr hF298 (by decide)
        have hl309 : rwv w295 86 (20 + 4 * u45 + 1) = rwv w68 86 (20 + 4 * u45 + 1) := rwv_fr hF298 (by decide)
        have hl310 : rwv w295 86 (20 + 4 * u45 + 2) = rwv w68 86 (20 + 4 * u45 + 2) := rwv_fr hF298 (by decide)
        have nw311 : FA w295 ≠ 0 ∨ 6 ≤ u45 ∨ (1 ≤ rwv w295 86 (20 + 4 * u45 + 0) ∧ rwv w295 86 (20 + 4 * u45 + 0) ≤ 99 ∧ 1 ≤ rwv w295 86 (20 + 4 * u45 + 1) ∧ rwv w295 86 (20 + 4 * u45 + 1) ≤ 99 ∧ 1 ≤ rwv w295 86 (20 + 4 * u45 + 2) ∧ rwv w295 86 (20 + 4 * u45 + 2) ≤ 99) := by have q := hj76; have q1 := pk304.1; omega
        clear hj76
        have ms312 : mu w295 < mu w := Nat.lt_of_le_of_lt pk304.2.1 hj74
        clear hj75
        refine xg_t (xg_blk (b := [(420, 1, 0, 0, 0, 0), (421, 3, 1, 12, 11, 17), (424, 1, 2, 1, 0, 0), (425, 1, 39, 0, 0, 0), (426, 1, 10, 0, 0, 0), (427, 1, 3, 1, 0, 0), (428, 1, 11, 0, 0, 0), (429, 1, 17, 0, 0, 0), (430, 1, 0, 0, 0, 0), (431, 1, 19, 0, 0, 0), (432, 3, 1, 12, 14, 212), (435, 1, 3, 1, 0, 0), (436, 1, 11, 0, 0, 0), (437, 3, 14, 12, 14, 212), (440, 1, 12, 0, 0, 0)]) rfl) ?_
        obtain ⟨f82_313, f82_315, f82_317, f82_319, f82_321, f82_323, f82_325, f82_327, f82_329, f82_331, f82_333, f82_334, f82_335, f82_337, f82_339, f82_341, h82_343, hb314, hb316, hb318, hb320, hb322, hb324, hb326, hb328, hb330, hb332, hb336, hb338, hb340, hb342, hb344⟩ := (hI297 82 (by decide) (by decide) : cp82 (wget w295 82))
        have hf345 : fld w295 82 4 = f82_317 := fld_of h82_343
        have hf346 : fld w295 82 5 = f82_319 := fld_of h82_343
        have hf347 : fld w295 82 7 = f82_323 := fld_of h82_343
        have hf348 : fld w295 82 10 = f82_329 := fld_of h82_343
        have hf349 : fld w295 82 14 = f82_331 := fld_of h82_343
        have hu350 : mu w295 = 2 * (fld w295 82 4 - fld w295 82 5) + min 1 (fld w295 82 7) := rfl
        have hf351 := pk305.2.2.1
        have hl352 : f82_331 ≤ 1000 := by omega
        refine xg_t (xg_aload (va := (2, 82)) rfl rfl) ?_
        refine xg_t (xg_getf (va := (2, 85)) h82_343 rfl) ?_
        refine xg_t (xg_iload (va := (0, 0)) rfl rfl) ?_
        refine xg_t (xg_dup2 rfl) ?_
        obtain ⟨g85_353, h85_354, hb355⟩ := (hI297 85 (by decide) (by decide) : cpI 7 52 4294967295 (wget w295 85))
        have h85_354 : xRow w295 85 7 52 g85_353 := h85_354
        refine xg_ialdB (n := 0) (B := 4294967295) h85_354 (hb355) xnm0 (by omega) (fun u356 hu357 he358 => ?_)
        have hl359 : u356 = u45 := by omega
        refine xg_t (xg_const) ?_
        refine xg_t (xg_iadd (u := u356) (v := 1) (z := u356 + 1) xnm0 xnm0 (by omega)) ?_
        refine xg_iastK (n := 0) (u := u356 + 1) h85_354 xnm0 xnm0 rfl (by omega) (fun w360 hr361 hb362 => ?_)
        refine xg_t (xg_aload (va := (2, 82)) rfl rfl) ?_
        refine xg_t (xg_dup rfl) ?_
        refine xg_t (xg_getf (va := (0, f82_331)) (hb362.get (by decide) h82_343) rfl) ?_
        refine xg_t (xg_const) ?_
        refine xg_t (xg_iadd (u := f82_331) (v := 1) (z := f82_331 + 1) xnm0 xnm0 (by omega)) ?_
        refine xg_putI (fl1 := [(2, 83), (2, 84), (0, f82_313), (0, f82_315), (0, f82_317), (0, f82_319), (0, f82_321), (0, f82_323), (0, f82_325), (0, f82_327), (0, f82_329), (2, 85), (2, 86), (2, 87), (0, f82_331 + 1), (2, 88), (2, 89), (2, 90), (2, 91), (2, 92), (2, 93), (2, 94), (4, f82_333), (4, f82_334), (0, f82_335), (2, 95), (2, 96), (2, 97), (2, 98), (2, 99), (2, 100), (2, 101), (2, 102), (0, f82_337), (2, 103), (2, 104), (2, 105), (2, 106), (2, 107), (2, 108), (2, 109), (0, f82_339), (0, f82_341), (2, 110), (2, 111), (2, 112), (2, 113)]) (hb362.get (by decide) h82_343) rfl rfl rfl (fun w363 hk364 hb365 => ?_)
        have hF366 : xFr [82, 85] w295 w363 := ((xFr.of (S := [82, 85]) hb362 (by decide)).tr (xFr.of (S := [82, 85]) hb365 (by decide)))
        have hA367 := FA_fr hF366 (by decide)
        have hf368 : fld w363 82 4 = f82_317 := fld_of hk364
        have hf369 : fld w363 82 5 = f82_319 := fld_of hk364
        have hf370 : fld w363 82 7 = f82_323 := fld_of hk364
        have hf371 : fld w363 82 10 = f82_329 := fld_of hk364
        have hf372 : fld w363 82 14 = f82_331 + 1 := fld_of hk364
        have hu373 : mu w363 = 2 * (fld w363 82 4 - fld w363 82 5) + min 1 (fld w363 82 7) := rfl
        have pq374 := pk305
        unfold PK PS at pq374
        have hM375 : ∀ s, s < 7 → s ≠ 0 → rwv w363 85 s = rwv w 85 s := fun s hs hn => (rwv_of (hr361.but hb365 (by decide)) hs).trans ((if_neg hn).trans (rwv_of h85_37 hs).symm)
        have hM376 : rwv w363 85 0 = u45 + 1 := (rwv_of (hr361.but hb365 (by decide)) (by decide)).trans ((if_pos rfl).trans (by omega))
        have hM377 : ∀ s, s < 7 → rwv w363 85 s ≤ rwv w 85 s + 1 := fun s hs => by
          by_cases z : s = 0
          · subst z; omega
          · rw [hM375 s hs z]; omega
        have hO378 : ∀ j, (j < 20 + 4 * u45 ∨ 24 + 4 * u45 ≤ j) → j < 140 → rwv w363 86 j = rwv w 86 j := fun j hj hl => (rwv_fr hF366 (by decide)).trans (os306 j hj hl)
        have hl380 : FA w295 ≠ 0 ∨ u45 < 6 := rg307
        have hl381 : rwv w363 86 (20 + 4 * u45 + 0) = rwv w295 86 (20 + 4 * u45 + 0) := rwv_fr hF366 (by decide)
        have hl382 : rwv w363 86 (20 + 4 * u45 + 1) = rwv w295 86 (20 + 4 * u45 + 1) := rwv_fr hF366 (by decide)
        have hl383 : rwv w363 86 (20 + 4 * u45 + 2) = rwv w295 86 (20 + 4 * u45 + 2) := rwv_fr hF366 (by decide)
        have hN379 : FA w363 ≠ 0 ∨ 6 ≤ u45 ∨ (1 ≤ rwv w363 86 (20 + 4 * u45 + 0) ∧ rwv w363 86 (20 + 4 * u45 + 0) ≤ 99 ∧ 1 ≤ rwv w363 86 (20 + 4 * u45 + 1) ∧ rwv w363 86 (20 + 4 * u45 + 1) ≤ 99 ∧ 1 ≤ rwv w363 86 (20 + 4 * u45 + 2) ∧ rwv w363 86 (20 + 4 * u45 + 2) ≤ 99) := by have q := nw311; omega
        have hX384 : FA w363 ≠ 0 ∨ u45 < 6 := by omega
        have hD385 : FA w363 ≠ 0 ∨ (DATA w → DATA w363) := by
          by_cases z : FA w363 ≠ 0
          · exact Or.inl z
          · exact Or.inr (fun hd => hd.s0 hM375 hK48 hM376 (hX384.resolve_left z) hO378 ((hN379.resolve_left z).resolve_left (by have := hX384.resolve_left z; omega)))
        exact xg_e ⟨w363, ⟨rfl, rfl⟩, xMnv.up (S := [85, 82]) hI297 ((xFr.of (S := [85, 82]) hb362 (by decide)).tr (xFr.of (S := [85, 82]) hb365 (by decide))) (List.forall_mem_cons.mpr ⟨(show cpI 7 52 4294967295 (wget w363 85) from ⟨_, (hr361.but hb365 (by decide)), xrb (by omega) (hb355)⟩), List.forall_mem_cons.mpr ⟨(show cp82 (wget w363 82) from ⟨f82_313, f82_315, f82_317, f82_319, f82_321, f82_323, f82_325, f82_327, f82_329, f82_331 + 1, f82_333, f82_334, f82_335, f82_337, f82_339, f82_341, hk364, hb314, hb316, hb318, hb320, hb322, hb324, hb326, hb328, hb330, by omega, hb336, hb338, hb340, hb342, by omega⟩), fun _ h => absurd h List.not_mem_nil⟩⟩), ((hF70.tr (hF298.up (by decide))).tr ((xFr.of (S := [82, 83, 85, 86, 87]) hb362 (by decide)).tr (xFr.of (S := [82, 83, 85, 86, 87]) hb365 (by decide)))), ⟨fun h => by have := pq374.1 h; omega, (show fld w363 82 10 = 0 ∨ FA w363 ≠ 0 by omega), Or.inr ⟨by have := ms312; omega, by omega, hM377⟩, hD385⟩⟩
    refine xg_t (xg_iload (va := (0, 0)) rfl rfl) ?_
    refine xg_t (xg_swt (ks := [(0, 108), (1, 116), (2, 180), (3, 221), (4, 273), (5, 326)]) (u := 0) (z := 108) rfl rfl rfl xnm0 (xsw_y rfl)) ?_
    refine xg_t (xg_blk (b := [(108, 1, 0, 0, 0, 0), (109, 1, 2, 3, 0, 0), (110, 3, 13, 106, 96, 204), (113, 3, 8, 394, 0, 0)]) rfl) ?_
    refine xg_t (xg_aload (va := (2, 82)) rfl rfl) ?_
    refine xg_t (xg_iload (va := (0, u45)) rfl rfl) ?_
    obtain ⟨f82_386, f82_388, f82_390, f82_392, f82_394, f82_396, f82_398, f82_400, f82_402, f82_404, f82_406, f82_407, f82_408, f82_410, f82_412, f82_414, h82_416, hb387, hb389, hb391, hb393, hb395, hb397, hb399, hb401, hb403, hb405, hb409, hb411, hb413, hb415, hb417⟩ := (hI54 82 (by decide) (by decide) : cp82 (wget w52 82))
    refine xg_cVv mX12_aLayer (vs := [(0, u45)]) (rest := []) (cn1 := 0) (sl1 := 0) rfl (mALayer (hI54) (by omega) pk64.2.2.2) rfl h82_416 rfl rfl rfl rfl rfl rfl (fun w418 hq419 => ?_)
    obtain ⟨hI420, hF421, hx422⟩ := hq419
    clear hb387 hb389 hb391 hb393 hb395 hb397 hb399 hb401 hb403 hb405 hb409 hb411 hb413 hb415
    obtain ⟨pk423, os424, ly425⟩ := hx422
    have pk426 : PK w w418 := PK.tr pk64 pk423
    have os427 : ∀ j, (j < 20 + 4 * u45 ∨ 24 + 4 * u45 ≤ j) → j < 140 → rwv w418 86 j = rwv w 86 j := fun j hj hl => (os424 j hj hl).trans (os65 j hj hl)
    have ms428 : mu w418 < mu w := Nat.lt_of_le_of_lt pk423.2.1 ms66
    refine xg_t (xg_goto) ?_
    refine xg_t (xg_drop (l1 := [(0, (2, 82)), (1, (0, 0)), (3, (0, u45))]) (List.forall_mem_cons.mpr ⟨List.mem_cons_of_mem _ (List.mem_cons_of_mem _ (List.mem_cons_of_mem _ (List.mem_cons_self))), List.forall_mem_cons.mpr ⟨List.mem_cons_of_mem _ (List.mem_cons_of_mem _ (List.mem_cons_self)), List.forall_mem_cons.mpr ⟨List.mem_cons_self, fun _ h => absurd h List.not_mem_nil⟩⟩⟩)) ?_
    have hX429 : FA w418 ≠ 0 ∨ u45 < 6 := Or.inr (by omega)
    exact jn67 w418 (hI420) (((hF55.up (by decide)).tr (hF421.up (by decide)))) (⟨pk426, os427, ms428, hX429, ly425⟩)
  · refine xg_t (xg_icF (u := u45) (v := 6) rfl xnm0 xnm0 (xj_ltF (by omega) (by omega))) ?_
    refine xg_t (xg_aload (va := (2, 82)) rfl rfl) ?_
    refine xg_t (xg_const) ?_
    refine xg_t (xg_iload (va := (0, at_)) rfl rfl) ?_
    refine xg_cVv mX12_also (vs := [(0, 3), (0, at_)]) (rest := []) (cn1 := 0) (sl1 := 0) rfl (mAlso (hI) (by omega) (by omega) (by omega) (PK.rf hps).2.2.2) rfl h82_31 rfl rfl rfl rfl rfl rfl (fun w431 hq432 => ?_)
    obtain ⟨hI433, hF434, hx435⟩ := hq432
    have pk436 : PK w w431 := ⟨fun _ => hx435, Nat.le_of_eq (mu_fr hF434 (by decide)), fld_fr hF434 (by decide), Or.inr hx435⟩
    have pk437 : PK w w431 := PK.tr (PK.rf hps) pk436
    have os438 : ∀ j, (j < 20 + 4 * u45 ∨ 24 + 4 * u45 ≤ j) → j < 140 → rwv w431 86 j = rwv w 86 j := fun j hj hl => (rwv_fr hF434 (by decide)).trans ((fun j _ _ => rfl) j hj hl)
    have hf439 := fld_fr (c := 82) (j := 7) hF434 (by decide)
    refine xg_t (xg_blk (b := [(64, 1, 0, 0, 0, 0), (65, 3, 13, 110, 96, 190), (68, 1, 2, 1, 0, 0), (69, 39, 33, 362, 0, 9)]) rfl) ?_
    refine xg_t (xg_aload (va := (2, 82)) rfl rfl) ?_
    refine xg_cVv mX12_advance (vs := []) (rest := []) (cn1 := 0) (sl1 := 0) rfl (mAdvance (hI433)) rfl (hF434.get (by decide) h82_31) rfl rfl rfl rfl rfl rfl (fun w440 hq441 => ?_)
    obtain ⟨hI442, hF443, hx444⟩ := hq441
    clear hb2 hb4 hb6 hb8 hb10 hb12 hb14 hb16 hb18 hb20 hb24 hb26 hb28 hb30
    obtain ⟨hv445, hv446, hv447, hv448⟩ := hx444
    have hf450 := FA_fr hF443 (by decide)
    have hs451 := pk437.2.2.2
    unfold PS at hs451
    have pk449 : PK w431 w440 := ⟨fun _ => by omega, hv445, hv448, (show fld w440 82 10 = 0 ∨ FA w440 ≠ 0 by omega)⟩
    clear hs451
    have pk452 : PK w w440 := PK.tr pk437 pk449
    have os453 : ∀ j, (j < 20 + 4 * u45 ∨ 24 + 4 * u45 ≤ j) → j < 140 → rwv w440 86 j = rwv w 86 j := fun j hj hl => (rwv_fr hF443 (by decide)).trans (os438 j hj hl)
    have rg454 : FA w440 ≠ 0 ∨ 0 = 1 := (Or.inl hx435 : FA w431 ≠ 0 ∨ 0 = 1).imp_left pk449.1
    have ms455 : mu w440 < mu w := Nat.lt_of_lt_of_le (hv446 (by omega)) pk437.2.1
    clear hv446
    have jn456 : ∀ (w457 : List (List xE)), xMnv w457 → xFr [82, 83, 85, 86, 87] w w457 → (PK w w457 ∧ (∀ j, (j < 20 + 4 * u45 ∨ 24 + 4 * u45 ≤ j) → j < 140 → rwv w457 86 j = rwv w 86 j) ∧ mu w457 < mu w ∧ (FA w457 ≠ 0 ∨ u45 < 6) ∧ (FA w457 ≠ 0 ∨ 6 ≤ u45 ∨ (1 ≤ rwv w457 86 (20 + 4 * u45 + 0) ∧ rwv w457 86 (20 + 4 * u45 + 0) ≤ 99 ∧ 1 ≤ rwv w457 86 (20 + 4 * u45 + 1) ∧ rwv w457 86 (20 + 4 * u45 + 1) ≤ 99 ∧ 1 ≤ rwv w457 86 (20 + 4 * u45 + 2) ∧ rwv w457 86 (20 + 4 * u45 + 2) ≤ 99))) → xTo (d + 7) mX12_aLine (394, [], [(0, (2, 82)), (1, (0, 0)), (3, (0, u45))], [], (w457, bd, fc, 0, 0, rr)) (fun φ => ∃ w', xEnd 0 [] (w', bd, fc, 0, 0, rr) φ ∧ xMnv w' ∧ xFr [82, 83, 85, 86, 87] w w' ∧ ((FA w ≠ 0 → FA w' ≠ 0) ∧ PS w' ∧ ((fld w' 82 10 = 1 ∧ mu w' = mu w ∧ fld w' 82 14 = fld w 82 14 ∧ ∀ s, s < 7 → rwv w' 85 s = rwv w 85 s) ∨ (mu w' < mu w ∧ fld w' 82 14 = fld w 82 14 + 1 ∧ ∀ s, s < 7 → rwv w' 85 s ≤ rwv w 85 s + 1)) ∧ (FA w' ≠ 0 ∨ (DATA w → DATA w')))) := by
      intro w457 hI458 hF459 he460
      obtain ⟨hj461, hj462, hj463, hj464, hj465⟩ := he460
      refine xg_t (xg_blk (b := [(394, 1, 0, 0, 0, 0), (395, 3, 1, 12, 10, 180), (398, 3, 7, 416, 1, 0), (401, 1, 0, 0, 0, 0), (402, 3, 1, 12, 7, 151), (405, 1, 3, 2, 0, 0), (406, 3, 6, 416, 1, 0), (409, 1, 0, 0, 0, 0), (410, 3, 13, 110, 96, 190), (413, 3, 8, 420, 0, 0)]) rfl) ?_
      refine xg_t (xg_aload (va := (2, 82)) rfl rfl) ?_
      obtain ⟨f82_466, f82_468, f82_470, f82_472, f82_474, f82_476, f82_478, f82_480, f82_482, f82_484, f82_486, f82_487, f82_488, f82_490, f82_492, f82_494, h82_496, hb467, hb469, hb471, hb473, hb475, hb477, hb479, hb481, hb483, hb485, hb489, hb491, hb493, hb495, hb497⟩ := (hI458 82 (by decide) (by decide) : cp82 (wget w457 82))
      refine xg_t (xg_getf (va := (0, f82_482)) h82_496 rfl) ?_
      by_cases hc498 : f82_482 = 0
      · refine xg_t (xg_ifF (u := f82_482) rfl xnm0 (xj_neF hc498)) ?_
        refine xg_t (xg_aload (va := (2, 82)) rfl rfl) ?_
        refine xg_t (xg_getf (va := (0, f82_476)) h82_496 rfl) ?_
        refine xg_t (xg_const) ?_
        by_cases hc499 : f82_476 = 2
        · refine xg_t (xg_icF (u := f82_476) (v := 2) rfl xnm0 xnm0 (xj_neF hc499)) ?_
          refine xg_t (xg_aload (va := (2, 82)) rfl rfl) ?_
          refine xg_cVv mX12_advance (vs := []) (rest := []) (cn1 := 0) (sl1 := 0) rfl (mAdvance (hI458)) rfl h82_496 rfl rfl rfl rfl rfl rfl (fun w500 hq501 => ?_)
          obtain ⟨hI502, hF503, hx504⟩ := hq501
          clear hb467 hb469 hb471 hb473 hb475 hb477 hb479 hb481 hb483 hb485 hb489 hb491 hb493 hb495
          obtain ⟨hv505, hv506, hv507, hv508⟩ := hx504
          have hf510 := FA_fr hF503 (by decide)
          have hs511 := hj461.2.2.2
          unfold PS at hs511
          have pk509 : PK w457 w500 := ⟨fun _ => by omega, hv505, hv508, (show fld w500 82 10 = 0 ∨ FA w500 ≠ 0 by omega)⟩
          clear hs511
          clear hv506
          have pk512 : PK w w500 := PK.tr hj461 pk509
          have os513 : ∀ j, (j < 20 + 4 * u45 ∨ 24 + 4 * u45 ≤ j) → j < 140 → rwv w500 86 j = rwv w 86 j := fun j hj hl => (rwv_fr hF503 (by decide)).trans (hj462 j hj hl)
          have rg514 : FA w500 ≠ 0 ∨ u45 < 6 := hj464.imp_left pk509.1
          have hl515 : rwv w500 86 (20 + 4 * u45 + 0) = rwv w457 86 (20 + 4 * u45 + 0) := rwv_fr hF503 (by decide)
          have hl516 : rwv w500 86 (20 + 4 * u45 + 1) = rwv w457 86 (20 + 4 * u45 + 1) := rwv_fr hF503 (by decide)
          have hl517 : rwv w500 86 (20 + 4 * u45 + 2) = rwv w457 86 (20 + 4 * u45 + 2) := rwv_fr hF503 (by decide)
          have nw518 : FA w500 ≠ 0 ∨ 6 ≤ u45 ∨ (1 ≤ rwv w500 86 (20 + 4 * u45 + 0) ∧ rwv w500 86 (20 + 4 * u45 + 0) ≤ 99 ∧ 1 ≤ rwv w500 86 (20 + 4 * u45 + 1) ∧ rwv w500 86 (20 + 4 * u45 + 1) ≤ 99 ∧ 1 ≤ rwv w500 86 (20 + 4 * u45 + 2) ∧ rwv w500 86 (20 + 4 * u45 + 2) ≤ 99) := by have q := hj465; have q1 := pk509.1; omega
          clear hj465
          have ms519 : mu w500 < mu w := Nat.lt_of_le_of_lt pk509.2.1 hj463
          clear hj464
          refine xg_t (xg_goto) ?_
          refine xg_t (xg_blk (b := [(420, 1, 0, 0, 0, 0), (421, 3, 1, 12, 11, 17), (424, 1, 2, 1, 0, 0), (425, 1, 39, 0, 0, 0), (426, 1, 10, 0, 0, 0), (427, 1, 3, 1, 0, 0), (428, 1, 11, 0, 0, 0), (429, 1, 17, 0, 0, 0), (430, 1, 0, 0, 0, 0), (431, 1, 19, 0, 0, 0), (432, 3, 1, 12, 14, 212), (435, 1, 3, 1, 0, 0), (436, 1, 11, 0, 0, 0), (437, 3, 14, 12, 14, 212), (440, 1, 12, 0, 0, 0)]) rfl) ?_
          obtain ⟨f82_520, f82_522, f82_524, f82_526, f82_528, f82_530, f82_532, f82_534, f82_536, f82_538, f82_540, f82_541, f82_542, f82_544, f82_546, f82_548, h82_550, hb521, hb523, hb525, hb527, hb529, hb531, hb533, hb535, hb537, hb539, hb543, hb545, hb547, hb549, hb551⟩ := (hI502 82 (by decide) (by decide) : cp82 (wget w500 82))
          have hf552 : fld w500 82 4 = f82_524 := fld_of h82_550
          have hf553 : fld w500 82 5 = f82_526 := fld_of h82_550
          have hf554 : fld w500 82 7 = f82_530 := fld_of h82_550
          have hf555 : fld w500 82 10 = f82_536 := fld_of h82_550
          have hf556 : fld w500 82 14 = f82_538 := fld_of h82_550
          have hu557 : mu w500 = 2 * (fld w500 82 4 - fld w500 82 5) + min 1 (fld w500 82 7) := rfl
          have hf558 := pk512.2.2.1
          have hl559 : f82_538 ≤ 1000 := by omega
          refine xg_t (xg_aload (va := (2, 82)) rfl rfl) ?_
          refine xg_t (xg_getf (va := (2, 85)) h82_550 rfl) ?_
          refine xg_t (xg_iload (va := (0, 0)) rfl rfl) ?_
          refine xg_t (xg_dup2 rfl) ?_
          obtain ⟨g85_560, h85_561, hb562⟩ := (hI502 85 (by decide) (by decide) : cpI 7 52 4294967295 (wget w500 85))
          have h85_561 : xRow w500 85 7 52 g85_560 := h85_561
          refine xg_ialdB (n := 0) (B := 4294967295) h85_561 (hb562) xnm0 (by omega) (fun u563 hu564 he565 => ?_)
          have hl566 : u563 = u45 := by omega
          refine xg_t (xg_const) ?_
          refine xg_t (xg_iadd (u := u563) (v := 1) (z := u563 + 1) xnm0 xnm0 (by omega)) ?_
          refine xg_iastK (n := 0) (u := u563 + 1) h85_561 xnm0 xnm0 rfl (by omega) (fun w567 hr568 hb569 => ?_)
          refine xg_t (xg_aload (va := (2, 82)) rfl rfl) ?_
          refine xg_t (xg_dup rfl) ?_
          refine xg_t (xg_getf (va := (0, f82_538)) (hb569.get (by decide) h82_550) rfl) ?_
          refine xg_t (xg_const) ?_
          refine xg_t (xg_iadd (u := f82_538) (v := 1) (z := f82_538 + 1) xnm0 xnm0 (by omega)) ?_
          refine xg_putI (fl1 := [(2, 83), (2, 84), (0, f82_520), (0, f82_522), (0, f82_524), (0, f82_526), (0, f82_528), (0, f82_530), (0, f82_532), (0, f82_534), (0, f82_536), (2, 85), (2, 86), (2, 87), (0, f82_538 + 1), (2, 88), (2, 89), (2, 90), (2, 91), (2, 92), (2, 93), (2, 94), (4, f82_540), (4, f82_541), (0, f82_542), (2, 95), (2, 96), (2, 97), (2, 98), (2, 99), (2, 100), (2, 101), (2, 102), (0, f82_544), (2, 103), (2, 104), (2, 105), (2, 106), (2, 107), (2, 108), (2, 109), (0, f82_546), (0, f82_548), (2, 110), (2, 111), (2, 112), (2, 113)]) (hb569.get (by decide) h82_550) rfl rfl rfl (fun w570 hk571 hb572 => ?_)
          have hF573 : xFr [82, 85] w500 w570 := ((xFr.of (S := [82, 85]) hb569 (by decide)).tr (xFr.of (S := [82, 85]) hb572 (by decide)))
          have hA574 := FA_fr hF573 (by decide)
          have hf575 : fld w570 82 4 = f82_524 := fld_of hk571
          have hf576 : fld w570 82 5 = f82_526 := fld_of hk571
          have hf577 : fld w570 82 7 = f82_530 := fld_of hk571
          have hf578 : fld w570 82 10 = f82_536 := fld_of hk571
          have hf579 : fld w570 82 14 = f82_538 + 1 := fld_of hk571
          have hu580 : mu w570 = 2 * (fld w570 82 4 - fld w570 82 5) + min 1 (fld w570 82 7) := rfl
          have pq581 := pk512
          unfold PK PS at pq581
          have hM582 : ∀ s, s < 7 → s ≠ 0 → rwv w570 85 s = rwv w 85 s := fun s hs hn => (rwv_of (hr568.but hb572 (by decide)) hs).trans ((if_neg hn).trans (rwv_of h85_37 hs).symm)
          have hM583 : rwv w570 85 0 = u45 + 1 := (rwv_of (hr568.but hb572 (by decide)) (by decide)).trans ((if_pos rfl).trans (by omega))
          have hM584 : ∀ s, s < 7 → rwv w570 85 s ≤ rwv w 85 s + 1 := fun s hs => by
            by_cases z : s = 0
            · subst z; omega
            · rw [hM582 s hs z]; omega
          have hO585 : ∀ j, (j < 20 + 4 * u45 ∨ 24 + 4 * u45 ≤ j) → j < 140 → rwv w570 86 j = rwv w 86 j := fun j hj hl => (rwv_fr hF573 (by decide)).trans (os513 j hj hl)
          have hl587 : FA w500 ≠ 0 ∨ u45 < 6 := rg514
          have hl588 : rwv w570 86 (20 + 4 * u45 + 0) = rwv w500 86 (20 + 4 * u45 + 0) := rwv_fr hF573 (by decide)
          have hl589 : rwv w570 86 (20 + 4 * u45 + 1) = rwv w500 86 (20 + 4 * u45 + 1) := rwv_fr hF573 (by decide)
          have hl590 : rwv w570 86 (20 + 4 * u45 + 2) = rwv w500 86 (20 + 4 * u45 + 2) := rwv_fr hF573 (by decide)
          have hN586 : FA w570 ≠ 0 ∨ 6 ≤ u45 ∨ (1 ≤ rwv w570 86 (20 + 4 * u45 + 0) ∧ rwv w570 86 (20 + 4 * u45 + 0) ≤ 99 ∧ 1 ≤ rwv w570 86 (20 + 4 * u45 + 1) ∧ rwv w570 86 (20 + 4 * u45 + 1) ≤ 99 ∧ 1 ≤ rwv w570 86 (20 + 4 * u45 + 2) ∧ rwv w570 86 (20 + 4 * u45 + 2) ≤ 99) := by have q := nw518; omega
          have hX591 : FA w570 ≠ 0 ∨ u45 < 6 := by omega
          have hD592 : FA w570 ≠ 0 ∨ (DATA w → DATA w570) := by
            by_cases z : FA w570 ≠ 0
            · exact Or.inl z
            · exact Or.inr (fun hd => hd.s0 hM582 hK48 hM583 (hX591.resolve_left z) hO585 ((hN586.resolve_left z).resolve_left (by have := hX591.resolve_left z; omega)))
          exact xg_e ⟨w570, ⟨rfl, rfl⟩, xMnv.up (S := [85, 82]) hI502 ((xFr.of (S := [85, 82]) hb569 (by decide)).tr (xFr.of (S := [85, 82]) hb572 (by decide))) (List.forall_mem_cons.mpr ⟨(show cpI 7 52 4294967295 (wget w570 85) from ⟨_, (hr568.but hb572 (by decide)), xrb (by omega) (hb562)⟩), List.forall_mem_cons.mpr ⟨(show cp82 (wget w570 82) from ⟨f82_520, f82_522, f82_524, f82_526, f82_528, f82_530, f82_532, f82_534, f82_536, f82_538 + 1, f82_540, f82_541, f82_542, f82_544, f82_546, f82_548, hk571, hb521, hb523, hb525, hb527, hb529, hb531, hb533, hb535, hb537, by omega, hb543, hb545, hb547, hb549, by omega⟩), fun _ h => absurd h List.not_mem_nil⟩⟩), ((hF459.tr (hF503.up (by decide))).tr ((xFr.of (S := [82, 83, 85, 86, 87]) hb569 (by decide)).tr (xFr.of (S := [82, 83, 85, 86, 87]) hb572 (by decide)))), ⟨fun h => by have := pq581.1 h; omega, (show fld w570 82 10 = 0 ∨ FA w570 ≠ 0 by omega), Or.inr ⟨by have := ms519; omega, by omega, hM584⟩, hD592⟩⟩
        · refine xg_t (xg_icT (u := f82_476) (v := 2) rfl xnm0 xnm0 (xj_neT hc499)) ?_
          refine xg_t (xg_blk (b := [(416, 1, 0, 0, 0, 0), (417, 3, 13, 140, 96, 183)]) rfl) ?_
          refine xg_t (xg_aload (va := (2, 82)) rfl rfl) ?_
          refine xg_cVv mX12_ends (vs := []) (rest := []) (cn1 := 0) (sl1 := 0) rfl (mEnds (hI458) hj461.2.2.2) rfl h82_496 rfl rfl rfl rfl rfl rfl (fun w593 hq594 => ?_)
          obtain ⟨hI595, hF596, hx597⟩ := hq594
          clear hb467 hb469 hb471 hb473 hb475 hb477 hb479 hb481 hb483 hb485 hb489 hb491 hb493 hb495
          obtain ⟨hv598, hv599, hv600, hv601⟩ := hx597
          have pk602 : PK w457 w593 := ⟨fun _ => hv598, by omega, by omega, Or.inr hv598⟩
          have pk603 : PK w w593 := PK.tr hj461 pk602
          have os604 : ∀ j, (j < 20 + 4 * u45 ∨ 24 + 4 * u45 ≤ j) → j < 140 → rwv w593 86 j = rwv w 86 j := fun j hj hl => (rwv_fr hF596 (by decide)).trans (hj462 j hj hl)
          have rg605 : FA w593 ≠ 0 ∨ u45 < 6 := hj464.imp_left pk602.1
          have hl606 : rwv w593 86 (20 + 4 * u45 + 0) = rwv w457 86 (20 + 4 * u45 + 0) := rwv_fr hF596 (by decide)
          have hl607 : rwv w593 86 (20 + 4 * u45 + 1) = rwv w457 86 (20 + 4 * u45 + 1) := rwv_fr hF596 (by decide)
          have hl608 : rwv w593 86 (20 + 4 * u45 + 2) = rwv w457 86 (20 + 4 * u45 + 2) := rwv_fr hF596 (by decide)
          have nw609 : FA w593 ≠ 0 ∨ 6 ≤ u45 ∨ (1 ≤ rwv w593 86 (20 + 4 * u45 + 0) ∧ rwv w593 86 (20 + 4 * u45 + 0) ≤ 99 ∧ 1 ≤ rwv w593 86 (20 + 4 * u45 + 1) ∧ rwv w593 86 (20 + 4 * u45 + 1) ≤ 99 ∧ 1 ≤ rwv w593 86 (20 + 4 * u45 + 2) ∧ rwv w593 86 (20 + 4 * u45 + 2) ≤ 99) := by have q := hj465; have q1 := pk602.1; omega
          clear hj465
          have ms610 : mu w593 < mu w := Nat.lt_of_le_of_lt pk602.2.1 hj463
          clear hj464
          refine xg_t (xg_blk (b := [(420, 1, 0, 0, 0, 0), (421, 3, 1, 12, 11, 17), (424, 1, 2, 1, 0, 0), (425, 1, 39, 0, 0, 0), (426, 1, 10, 0, 0, 0), (427, 1, 3, 1, 0, 0), (428, 1, 11, 0, 0, 0), (429, 1, 17, 0, 0, 0), (430, 1, 0, 0, 0, 0), (431, 1, 19, 0, 0, 0), (432, 3, 1, 12, 14, 212), (435, 1, 3, 1, 0, 0), (436, 1, 11, 0, 0, 0), (437, 3, 14, 12, 14, 212), (440, 1, 12, 0, 0, 0)]) rfl) ?_
          obtain ⟨f82_611, f82_613, f82_615, f82_617, f82_619, f82_621, f82_623, f82_625, f82_627, f82_629, f82_631, f82_632, f82_633, f82_635, f82_637, f82_639, h82_641, hb612, hb614, hb616, hb618, hb620, hb622, hb624, hb626, hb628, hb630, hb634, hb636, hb638, hb640, hb642⟩ := (hI595 82 (by decide) (by decide) : cp82 (wget w593 82))
          have hf643 : fld w593 82 4 = f82_615 := fld_of h82_641
          have hf644 : fld w593 82 5 = f82_617 := fld_of h82_641
          have hf645 : fld w593 82 7 = f82_621 := fld_of h82_641
          have hf646 : fld w593 82 10 = f82_627 := fld_of h82_641
          have hf647 : fld w593 82 14 = f82_629 := fld_of h82_641
          have hu648 : mu w593 = 2 * (fld w593 82 4 - fld w593 82 5) + min 1 (fld w593 82 7) := rfl
          have hf649 := pk603.2.2.1
          have hl650 : f82_629 ≤ 1000 := by omega
          refine xg_t (xg_aload (va := (2, 82)) rfl rfl) ?_
          refine xg_t (xg_getf (va := (2, 85)) h82_641 rfl) ?_
          refine xg_t (xg_iload (va := (0, 0)) rfl rfl) ?_
          refine xg_t (xg_dup2 rfl) ?_
          obtain ⟨g85_651, h85_652, hb653⟩ := (hI595 85 (by decide) (by decide) : cpI 7 52 4294967295 (wget w593 85))
          have h85_652 : xRow w593 85 7 52 g85_651 := h85_652
          refine xg_ialdB (n := 0) (B := 4294967295) h85_652 (hb653) xnm0 (by omega) (fun u654 hu655 he656 => ?_)
          have hl657 : u654 = u45 := by omega
          refine xg_t (xg_const) ?_
          refine xg_t (xg_iadd (u := u654) (v := 1) (z := u654 + 1) xnm0 xnm0 (by omega)) ?_
          refine xg_iastK (n := 0) (u := u654 + 1) h85_652 xnm0 xnm0 rfl (by omega) (fun w658 hr659 hb660 => ?_)
          refine xg_t (xg_aload (va := (2, 82)) rfl rfl) ?_
          refine xg_t (xg_dup rfl) ?_
          refine xg_t (xg_getf (va := (0, f82_629)) (hb660.get (by decide) h82_641) rfl) ?_
          refine xg_t (xg_const) ?_
          refine xg_t (xg_iadd (u := f82_629) (v := 1) (z := f82_629 + 1) xnm0 xnm0 (by omega)) ?_
          refine xg_putI (fl1 := [(2, 83), (2, 84), (0, f82_611), (0, f82_613), (0, f82_615), (0, f82_617), (0, f82_619), (0, f82_621), (0, f82_623), (0, f82_625), (0, f82_627), (2, 85), (2, 86), (2, 87), (0, f82_629 + 1), (2, 88), (2, 89), (2, 90), (2, 91), (2, 92), (2, 93), (2, 94), (4, f82_631), (4, f82_632), (0, f82_633), (2, 95), (2, 96), (2, 97), (2, 98), (2, 99), (2, 100), (2, 101), (2, 102), (0, f82_635), (2, 103), (2, 104), (2, 105), (2, 106), (2, 107), (2, 108), (2, 109), (0, f82_637), (0, f82_639), (2, 110), (2, 111), (2, 112), (2, 113)]) (hb660.get (by decide) h82_641) rfl rfl rfl (fun w661 hk662 hb663 => ?_)
          have hF664 : xFr [82, 85] w593 w661 := ((xFr.of (S := [82, 85]) hb660 (by decide)).tr (xFr.of (S := [82, 85]) hb663 (by decide)))
          have hA665 := FA_fr hF664 (by decide)
          have hf666 : fld w661 82 4 = f82_615 := fld_of hk662
          have hf667 : fld w661 82 5 = f82_617 := fld_of hk662
          have hf668 : fld w661 82 7 = f82_621 := fld_of hk662
          have hf669 : fld w661 82 10 = f82_627 := fld_of hk662
          have hf670 : fld w661 82 14 = f82_629 + 1 := fld_of hk662
          have hu671 : mu w661 = 2 * (fld w661 82 4 - fld w661 82 5) + min 1 (fld w661 82 7) := rfl
          have pq672 := pk603
          unfold PK PS at pq672
          have hM673 : ∀ s, s < 7 → s ≠ 0 → rwv w661 85 s = rwv w 85 s := fun s hs hn => (rwv_of (hr659.but hb663 (by decide)) hs).trans ((if_neg hn).trans (rwv_of h85_37 hs).symm)
          have hM674 : rwv w661 85 0 = u45 + 1 := (rwv_of (hr659.but hb663 (by decide)) (by decide)).trans ((if_pos rfl).trans (by omega))
          have hM675 : ∀ s, s < 7 → rwv w661 85 s ≤ rwv w 85 s + 1 := fun s hs => by
            by_cases z : s = 0
            · subst z; omega
            · rw [hM673 s hs z]; omega
          have hO676 : ∀ j, (j < 20 + 4 * u45 ∨ 24 + 4 * u45 ≤ j) → j < 140 → rwv w661 86 j = rwv w 86 j := fun j hj hl => (rwv_fr hF664 (by decide)).trans (os604 j hj hl)
          have hl678 : FA w593 ≠ 0 ∨ u45 < 6 := rg605
          have hl679 : rwv w661 86 (20 + 4 * u45 + 0) = rwv w593 86 (20 + 4 * u45 + 0) := rwv_fr hF664 (by decide)
          have hl680 : rwv w661 86 (20 + 4 * u45 + 1) = rwv w593 86 (20 + 4 * u45 + 1) := rwv_fr hF664 (by decide)
          have hl681 : rwv w661 86 (20 + 4 * u45 + 2) = rwv w593 86 (20 + 4 * u45 + 2) := rwv_fr hF664 (by decide)
          have hN677 : FA w661 ≠ 0 ∨ 6 ≤ u45 ∨ (1 ≤ rwv w661 86 (20 + 4 * u45 + 0) ∧ rwv w661 86 (20 + 4 * u45 + 0) ≤ 99 ∧ 1 ≤ rwv w661 86 (20 + 4 * u45 + 1) ∧ rwv w661 86 (20 + 4 * u45 + 1) ≤ 99 ∧ 1 ≤ rwv w661 86 (20 + 4 * u45 + 2) ∧ rwv w661 86 (20 + 4 * u45 + 2) ≤ 99) := by have q := nw609; omega
          have hX682 : FA w661 ≠ 0 ∨ u45 < 6 := by omega
          have hD683 : FA w661 ≠ 0 ∨ (DATA w → DATA w661) := by
            by_cases z : FA w661 ≠ 0
            · exact Or.inl z
            · exact Or.inr (fun hd => hd.s0 hM673 hK48 hM674 (hX682.resolve_left z) hO676 ((hN677.resolve_left z).resolve_left (by have := hX682.resolve_left z; omega)))
          exact xg_e ⟨w661, ⟨rfl, rfl⟩, xMnv.up (S := [85, 82]) hI595 ((xFr.of (S := [85, 82]) hb660 (by decide)).tr (xFr.of (S := [85, 82]) hb663 (by decide))) (List.forall_mem_cons.mpr ⟨(show cpI 7 52 4294967295 (wget w661 85) from ⟨_, (hr659.but hb663 (by decide)), xrb (by omega) (hb653)⟩), List.forall_mem_cons.mpr ⟨(show cp82 (wget w661 82) from ⟨f82_611, f82_613, f82_615, f82_617, f82_619, f82_621, f82_623, f82_625, f82_627, f82_629 + 1, f82_631, f82_632, f82_633, f82_635, f82_637, f82_639, hk662, hb612, hb614, hb616, hb618, hb620, hb622, hb624, hb626, hb628, by omega, hb634, hb636, hb638, hb640, by omega⟩), fun _ h => absurd h List.not_mem_nil⟩⟩), ((hF459.tr (hF596.up (by decide))).tr ((xFr.of (S := [82, 83, 85, 86, 87]) hb660 (by decide)).tr (xFr.of (S := [82, 83, 85, 86, 87]) hb663 (by decide)))), ⟨fun h => by have := pq672.1 h; omega, (show fld w661 82 10 = 0 ∨ FA w661 ≠ 0 by omega), Or.inr ⟨by have := ms610; omega, by omega, hM675⟩, hD683⟩⟩
      · refine xg_t (xg_ifT (u := f82_482) rfl xnm0 (xj_neT hc498)) ?_
        refine xg_t (xg_blk (b := [(416, 1, 0, 0, 0, 0), (417, 3, 13, 140, 96, 183)]) rfl) ?_
        refine xg_t (xg_aload (va := (2, 82)) rfl rfl) ?_
        refine xg_cVv mX12_ends (vs := []) (rest := []) (cn1 := 0) (sl1 := 0) rfl (mEnds (hI458) hj461.2.2.2) rfl h82_496 rfl rfl rfl rfl rfl rfl (fun w684 hq685 => ?_)
        obtain ⟨hI686, hF687, hx688⟩ := hq685
        clear hb467 hb469 hb471 hb473 hb475 hb477 hb479 hb481 hb483 hb485 hb489 hb491 hb493 hb495
        obtain ⟨hv689, hv690, hv691, hv692⟩ := hx688
        have pk693 : PK w457 w684 := ⟨fun _ => hv689, by omega, by omega, Or.inr hv689⟩
        have pk694 : PK w w684 := PK.tr hj461 pk693
        have os695 : ∀ j, (j < 20 + 4 * u45 ∨ 24 + 4 * u45 ≤ j) → j < 140 → rwv w684 86 j = rwv w 86 j := fun j hj hl => (rwv_fr hF687 (by decide)).trans (hj462 j hj hl)
        have rg696 : FA w684 ≠ 0 ∨ u45 < 6 := hj464.imp_left pk693.1
        have hl697 : rwv w684 86 (20 + 4 * u45 + 0) = rwv w457 86 (20 + 4 * u45 + 0) := rwv_fr hF687 (by decide)
        have hl698 : rwv w684 86 (20 + 4 * u45 + 1) = rwv w457 86 (20 + 4 * u45 + 1) := rwv_fr hF687 (by decide)
        have hl699 : rwv w684 86 (20 + 4 * u45 + 2) = rwv w457 86 (20 + 4 * u45 + 2) := rwv_fr hF687 (by decide)
        have nw700 : FA w684 ≠ 0 ∨ 6 ≤ u45 ∨ (1 ≤ rwv w684 86 (20 + 4 * u45 + 0) ∧ rwv w684 86 (20 + 4 * u45 + 0) ≤ 99 ∧ 1 ≤ rwv w684 86 (20 + 4 * u45 + 1) ∧ rwv w684 86 (20 + 4 * u45 + 1) ≤ 99 ∧ 1 ≤ rwv w684 86 (20 + 4 * u45 + 2) ∧ rwv w684 86 (20 + 4 * u45 + 2) ≤ 99) := by have q := hj465; have q1 := pk693.1; omega
        clear hj465
        have ms701 : mu w684 < mu w := Nat.lt_of_le_of_lt pk693.2.1 hj463
        clear hj464
        refine xg_t (xg_blk (b := [(420, 1, 0, 0, 0, 0), (421, 3, 1, 12, 11, 17), (424, 1, 2, 1, 0, 0), (425, 1, 39, 0, 0, 0), (426, 1, 10, 0, 0, 0), (427, 1, 3, 1, 0, 0), (428, 1, 11, 0, 0, 0), (429, 1, 17, 0, 0, 0), (430, 1, 0, 0, 0, 0), (431, 1, 19, 0, 0, 0), (432, 3, 1, 12, 14, 212), (435, 1, 3, 1, 0, 0), (436, 1, 11, 0, 0, 0), (437, 3, 14, 12, 14, 212), (440, 1, 12, 0, 0, 0)]) rfl) ?_
        obtain ⟨f82_702, f82_704, f82_706, f82_708, f82_710, f82_712, f82_714, f82_716, f82_718, f82_720, f82_722, f82_723, f82_724, f82_726, f82_728, f82_730, h82_732, hb703, hb705, hb707, hb709, hb711, hb713, hb715, hb717, hb719, hb721, hb725, hb727, hb729, hb731, hb733⟩ := (hI686 82 (by decide) (by decide) : cp82 (wget w684 82))
        have hf734 : fld w684 82 4 = f82_706 := fld_of h82_732
        have hf735 : fld w684 82 5 = f82_708 := fld_of h82_732
        have hf736 : fld w684 82 7 = f82_712 := fld_of h82_732
        have hf737 : fld w684 82 10 = f82_718 := fld_of h82_732
        have hf738 : fld w684 82 14 = f82_720 := fld_of h82_732
        have hu739 : mu w684 = 2 * (fld w684 82 4 - fld w684 82 5) + min 1 (fld w684 82 7) := rfl
        have hf740 := pk694.2.2.1
        have hl741 : f82_720 ≤ 1000 := by omega
        refine xg_t (xg_aload (va := (2, 82)) rfl rfl) ?_
        refine xg_t (xg_getf (va := (2, 85)) h82_732 rfl) ?_
        refine xg_t (xg_iload (va := (0, 0)) rfl rfl) ?_
        refine xg_t (xg_dup2 rfl) ?_
        obtain ⟨g85_742, h85_743, hb744⟩ := (hI686 85 (by decide) (by decide) : cpI 7 52 4294967295 (wget w684 85))
        have h85_743 : xRow w684 85 7 52 g85_742 := h85_743
        refine xg_ialdB (n := 0) (B := 4294967295) h85_743 (hb744) xnm0 (by omega) (fun u745 hu746 he747 => ?_)
        have hl748 : u745 = u45 := by omega
        refine xg_t (xg_const) ?_
        refine xg_t (xg_iadd (u := u745) (v := 1) (z := u745 + 1) xnm0 xnm0 (by omega)) ?_
        refine xg_iastK (n := 0) (u := u745 + 1) h85_743 xnm0 xnm0 rfl (by omega) (fun w749 hr750 hb751 => ?_)
        refine xg_t (xg_aload (va := (2, 82)) rfl rfl) ?_
        refine xg_t (xg_dup rfl) ?_
        refine xg_t (xg_getf (va := (0, f82_720)) (hb751.get (by decide) h82_732) rfl) ?_
        refine xg_t (xg_const) ?_
        refine xg_t (xg_iadd (u := f82_720) (v := 1) (z := f82_720 + 1) xnm0 xnm0 (by omega)) ?_
        refine xg_putI (fl1 := [(2, 83), (2, 84), (0, f82_702), (0, f82_704), (0, f82_706), (0, f82_708), (0, f82_710), (0, f82_712), (0, f82_714), (0, f82_716), (0, f82_718), (2, 85), (2, 86), (2, 87), (0, f82_720 + 1), (2, 88), (2, 89), (2, 90), (2, 91), (2, 92), (2, 93), (2, 94), (4, f82_722), (4, f82_723), (0, f82_724), (2, 95), (2, 96), (2, 97), (2, 98), (2, 99), (2, 100), (2, 101), (2, 102), (0, f82_726), (2, 103), (2, 104), (2, 105), (2, 106), (2, 107), (2, 108), (2, 109), (0, f82_728), (0, f82_730), (2, 110), (2, 111), (2, 112), (2, 113)]) (hb751.get (by decide) h82_732) rfl rfl rfl (fun w752 hk753 hb754 => ?_)
        have hF755 : xFr [82, 85] w684 w752 := ((xFr.of (S := [82, 85]) hb751 (by decide)).tr (xFr.of (S := [82, 85]) hb754 (by decide)))
        have hA756 := FA_fr hF755 (by decide)
        have hf757 : fld w752 82 4 = f82_706 := fld_of hk753
        have hf758 : fld w752 82 5 = f82_708 := fld_of hk753
        have hf759 : fld w752 82 7 = f82_712 := fld_of hk753
        have hf760 : fld w752 82 10 = f82_718 := fld_of hk753
        have hf761 : fld w752 82 14 = f82_720 + 1 := fld_of hk753
        have hu762 : mu w752 = 2 * (fld w752 82 4 - fld w752 82 5) + min 1 (fld w752 82 7) := rfl
        have pq763 := pk694
        unfold PK PS at pq763
        have hM764 : ∀ s, s < 7 → s ≠ 0 → rwv w752 85 s = rwv w 85 s := fun s hs hn => (rwv_of (hr750.but hb754 (by decide)) hs).trans ((if_neg hn).trans (rwv_of h85_37 hs).symm)
        have hM765 : rwv w752 85 0 = u45 + 1 := (rwv_of (hr750.but hb754 (by decide)) (by decide)).trans ((if_pos rfl).trans (by omega))
        have hM766 : ∀ s, s < 7 → rwv w752 85 s ≤ rwv w 85 s + 1 := fun s hs => by
          by_cases z : s = 0
          · subst z; omega
          · rw [hM764 s hs z]; omega
        have hO767 : ∀ j, (j < 20 + 4 * u45 ∨ 24 + 4 * u45 ≤ j) → j < 140 → rwv w752 86 j = rwv w 86 j := fun j hj hl => (rwv_fr hF755 (by decide)).trans (os695 j hj hl)
        have hl769 : FA w684 ≠ 0 ∨ u45 < 6 := rg696
        have hl770 : rwv w752 86 (20 + 4 * u45 + 0) = rwv w684 86 (20 + 4 * u45 + 0) := rwv_fr hF755 (by decide)
        have hl771 : rwv w752 86 (20 + 4 * u45 + 1) = rwv w684 86 (20 + 4 * u45 + 1) := rwv_fr hF755 (by decide)
        have hl772 : rwv w752 86 (20 + 4 * u45 + 2) = rwv w684 86 (20 + 4 * u45 + 2) := rwv_fr hF755 (by decide)
        have hN768 : FA w752 ≠ 0 ∨ 6 ≤ u45 ∨ (1 ≤ rwv w752 86 (20 + 4 * u45 + 0) ∧ rwv w752 86 (20 + 4 * u45 + 0) ≤ 99 ∧ 1 ≤ rwv w752 86 (20 + 4 * u45 + 1) ∧ rwv w752 86 (20 + 4 * u45 + 1) ≤ 99 ∧ 1 ≤ rwv w752 86 (20 + 4 * u45 + 2) ∧ rwv w752 86 (20 + 4 * u45 + 2) ≤ 99) := by have q := nw700; omega
        have hX773 : FA w752 ≠ 0 ∨ u45 < 6 := by omega
        have hD774 : FA w752 ≠ 0 ∨ (DATA w → DATA w752) := by
          by_cases z : FA w752 ≠ 0
          · exact Or.inl z
          · exact Or.inr (fun hd => hd.s0 hM764 hK48 hM765 (hX773.resolve_left z) hO767 ((hN768.resolve_left z).resolve_left (by have := hX773.resolve_left z; omega)))
        exact xg_e ⟨w752, ⟨rfl, rfl⟩, xMnv.up (S := [85, 82]) hI686 ((xFr.of (S := [85, 82]) hb751 (by decide)).tr (xFr.of (S := [85, 82]) hb754 (by decide))) (List.forall_mem_cons.mpr ⟨(show cpI 7 52 4294967295 (wget w752 85) from ⟨_, (hr750.but hb754 (by decide)), xrb (by omega) (hb744)⟩), List.forall_mem_cons.mpr ⟨(show cp82 (wget w752 82) from ⟨f82_702, f82_704, f82_706, f82_708, f82_710, f82_712, f82_714, f82_716, f82_718, f82_720 + 1, f82_722, f82_723, f82_724, f82_726, f82_728, f82_730, hk753, hb703, hb705, hb707, hb709, hb711, hb713, hb715, hb717, hb719, by omega, hb725, hb727, hb729, hb731, by omega⟩), fun _ h => absurd h List.not_mem_nil⟩⟩), ((hF459.tr (hF687.up (by decide))).tr ((xFr.of (S := [82, 83, 85, 86, 87]) hb751 (by decide)).tr (xFr.of (S := [82, 83, 85, 86, 87]) hb754 (by decide)))), ⟨fun h => by have := pq763.1 h; omega, (show fld w752 82 10 = 0 ∨ FA w752 ≠ 0 by omega), Or.inr ⟨by have := ms701; omega, by omega, hM766⟩, hD774⟩⟩
    refine xg_t (xg_iload (va := (0, 0)) rfl rfl) ?_
    refine xg_t (xg_swt (ks := [(0, 108), (1, 116), (2, 180), (3, 221), (4, 273), (5, 326)]) (u := 0) (z := 108) rfl rfl rfl xnm0 (xsw_y rfl)) ?_
    refine xg_t (xg_blk (b := [(108, 1, 0, 0, 0, 0), (109, 1, 2, 3, 0, 0), (110, 3, 13, 106, 96, 204), (113, 3, 8, 394, 0, 0)]) rfl) ?_
    refine xg_t (xg_aload (va := (2, 82)) rfl rfl) ?_
    refine xg_t (xg_iload (va := (0, u45)) rfl rfl) ?_
    obtain ⟨f82_775, f82_777, f82_779, f82_781, f82_783, f82_785, f82_787, f82_789, f82_791, f82_793, f82_795, f82_796, f82_797, f82_799, f82_801, f82_803, h82_805, hb776, hb778, hb780, hb782, hb784, hb786, hb788, hb790, hb792, hb794, hb798, hb800, hb802, hb804, hb806⟩ := (hI442 82 (by decide) (by decide) : cp82 (wget w440 82))
    refine xg_cVv mX12_aLayer (vs := [(0, u45)]) (rest := []) (cn1 := 0) (sl1 := 0) rfl (mALayer (hI442) (by omega) pk452.2.2.2) rfl h82_805 rfl rfl rfl rfl rfl rfl (fun w807 hq808 => ?_)
    obtain ⟨hI809, hF810, hx811⟩ := hq808
    clear hb776 hb778 hb780 hb782 hb784 hb786 hb788 hb790 hb792 hb794 hb798 hb800 hb802 hb804
    obtain ⟨pk812, os813, ly814⟩ := hx811
    have pk815 : PK w w807 := PK.tr pk452 pk812
    have os816 : ∀ j, (j < 20 + 4 * u45 ∨ 24 + 4 * u45 ≤ j) → j < 140 → rwv w807 86 j = rwv w 86 j := fun j hj hl => (os813 j hj hl).trans (os453 j hj hl)
    have rg817 : FA w807 ≠ 0 ∨ 0 = 1 := rg454.imp_left pk812.1
    have ms818 : mu w807 < mu w := Nat.lt_of_le_of_lt pk812.2.1 ms455
    clear rg454
    refine xg_t (xg_goto) ?_
    refine xg_t (xg_drop (l1 := [(0, (2, 82)), (1, (0, 0)), (3, (0, u45))]) (List.forall_mem_cons.mpr ⟨List.mem_cons_of_mem _ (List.mem_cons_of_mem _ (List.mem_cons_of_mem _ (List.mem_cons_self))), List.forall_mem_cons.mpr ⟨List.mem_cons_of_mem _ (List.mem_cons_of_mem _ (List.mem_cons_self)), List.forall_mem_cons.mpr ⟨List.mem_cons_self, fun _ h => absurd h List.not_mem_nil⟩⟩⟩)) ?_
    have hX819 : FA w807 ≠ 0 ∨ u45 < 6 := Or.inl (by have q := rg817; omega)
    exact jn456 w807 (hI809) ((((hF434.up (by decide)).tr (hF443.up (by decide))).tr (hF810.up (by decide)))) (⟨pk815, os816, ms818, hX819, ly814⟩)
end XMB
