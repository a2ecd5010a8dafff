/-! the model: lines of films -/
def DATA (w : List (List xE)) : Prop := rwv w 85 0 ≤ 6 ∧ rwv w 85 1 ≤ 4 ∧ rwv w 85 2 ≤ 6 ∧ rwv w 85 3 ≤ 4 ∧ rwv w 85 4 ≤ 20 ∧ (1 ≤ rwv w 86 5 ∧ rwv w 86 5 ≤ 6) ∧ (1 ≤ rwv w 86 6 ∧ rwv w 86 6 ≤ 6) ∧ (1 ≤ rwv w 86 7 ∧ rwv w 86 7 ≤ 10) ∧ (1 ≤ rwv w 86 8 ∧ rwv w 86 8 ≤ 10) ∧ (∀ k i, k < rwv w 85 0 → i < 3 → 1 ≤ rwv w 86 (20 + 4 * k + i) ∧ rwv w 86 (20 + 4 * k + i) ≤ 99) ∧ ∀ k, k < rwv w 85 1 → 1 ≤ rwv w 86 (51 + 2 * k) ∧ rwv w 86 (51 + 2 * k) ≤ 999
theorem DATA.s0 {w w' : List (List xE)} {K : Nat} (h : DATA w) (hm : ∀ s, s < 7 → s ≠ 0 → rwv w' 85 s = rwv w 85 s) (hK : rwv w 85 0 = K) (hK' : rwv w' 85 0 = K + 1) (hl : K < 6) (hos : ∀ j, (j < 20 + 4 * K ∨ 24 + 4 * K ≤ j) → j < 140 → rwv w' 86 j = rwv w 86 j) (hn : 1 ≤ rwv w' 86 (20 + 4 * K + 0) ∧ rwv w' 86 (20 + 4 * K + 0) ≤ 99 ∧ 1 ≤ rwv w' 86 (20 + 4 * K + 1) ∧ rwv w' 86 (20 + 4 * K + 1) ≤ 99 ∧ 1 ≤ rwv w' 86 (20 + 4 * K + 2) ∧ rwv w' 86 (20 + 4 * K + 2) ≤ 99) : DATA w' := by
  obtain ⟨m0, m1, m2, m3, m4, r5, r6, r7, r8, d0, d1⟩ := h
  have e1 := hm 1 (by decide) (by decide)
  have e2 := hm 2 (by decide) (by decide)
  have e3 := hm 3 (by decide) (by decide)
  have e4 := hm 4 (by decide) (by decide)
  have f5 := hos 5 (by omega) (by decide)
  have f6 := hos 6 (by omega) (by decide)
  have f7 := hos 7 (by omega) (by decide)
  have f8 := hos 8 (by omega) (by decide)
  refine ⟨by omega, by omega, by omega, by omega, by omega, by omega, by omega, by omega, by omega, fun k i hk hi => ?_, fun k hk => ?_⟩
  · by_cases z : k = K
    · subst z
      rcases (show i = 0 ∨ i = 1 ∨ i = 2 by omega) with rfl | rfl | rfl <;> omega
    · rw [hos _ (by omega) (by omega)]
      exact d0 k i (by omega) hi
  · rw [hos _ (by omega) (by omega)]
    exact d1 k (by omega)
theorem DATA.s1 {w w' : List (List xE)} {K : Nat} (h : DATA w) (hm : ∀ s, s < 7 → s ≠ 1 → rwv w' 85 s = rwv w 85 s) (hK : rwv w 85 1 = K) (hK' : rwv w' 85 1 = K + 1) (hl : K < 4) (hos : ∀ j, (j < 50 + 2 * K ∨ 52 + 2 * K ≤ j) → j < 140 → rwv w' 86 j = rwv w 86 j) (hn : 1 ≤ rwv w' 86 (50 + 2 * K + 1) ∧ rwv w' 86 (50 + 2 * K + 1) ≤ 999) : DATA w' := by
  obtain ⟨m0, m1, m2, m3, m4, r5, r6, r7, r8, d0, d1⟩ := h
  have e0 := hm 0 (by decide) (by decide)
  have e2 := hm 2 (by decide) (by decide)
  have e3 := hm 3 (by decide) (by decide)
  have e4 := hm 4 (by decide) (by decide)
  have f5 := hos 5 (by omega) (by decide)
  have f6 := hos 6 (by omega) (by decide)
  have f7 := hos 7 (by omega) (by decide)
  have f8 := hos 8 (by omega) (by decide)
  refine ⟨by omega, by omega, by omega, by omega, by omega, by omega, by omega, by omega, by omega, fun k i hk hi => ?_, fun k hk => ?_⟩
  · rw [hos _ (by omega) (by omega)]
    exact d0 k i (by omega) hi
  · by_cases z : k = K
    · subst z
      have e : 51 + 2 * k = 50 + 2 * k + 1 := by omega
      rw [e]
      exact hn
    · rw [hos _ (by omega) (by omega)]
      exact d1 k (by omega)
theorem DATA.s2 {w w' : List (List xE)} {K : Nat} (h : DATA w) (hm : ∀ s, s < 7 → s ≠ 2 → rwv w' 85 s = rwv w 85 s) (hK : rwv w 85 2 = K) (hK' : rwv w' 85 2 = K + 1) (hl : K < 6) (hos : ∀ j, (j < 60 + 2 * K ∨ 62 + 2 * K ≤ j) → j < 140 → rwv w' 86 j = rwv w 86 j) (hn : True) : DATA w' := by
  obtain ⟨m0, m1, m2, m3, m4, r5, r6, r7, r8, d0, d1⟩ := h
  have e0 := hm 0 (by decide) (by decide)
  have e1 := hm 1 (by decide) (by decide)
  have e3 := hm 3 (by decide) (by decide)
  have e4 := hm 4 (by decide) (by decide)
  have f5 := hos 5 (by omega) (by decide)
  have f6 := hos 6 (by omega) (by decide)
  have f7 := hos 7 (by omega) (by decide)
  have f8 := hos 8 (by omega) (by decide)
  refine ⟨by omega, by omega, by omega, by omega, by omega, by omega, by omega, by omega, by omega, fun k i hk hi => ?_, fun k hk => ?_⟩
  · rw [hos _ (by omega) (by omega)]
    exact d0 k i (by omega) hi
  · rw [hos _ (by omega) (by omega)]
    exact d1 k (by omega)
theorem DATA.s3 {w w' : List (List xE)} {K : Nat} (h : DATA w) (hm : ∀ s, s < 7 → s ≠ 3 → rwv w' 85 s = rwv w 85 s) (hK : rwv w 85 3 = K) (hK' : rwv w' 85 3 = K + 1) (hl : K < 4) (hos : ∀ j, (j < 80 + 3 * K ∨ 83 + 3 * K ≤ j) → j < 140 → rwv w' 86 j = rwv w 86 j) (hn : True) : DATA w' := by
  obtain ⟨m0, m1, m2, m3, m4, r5, r6, r7, r8, d0, d1⟩ := h
  have e0 := hm 0 (by decide) (by decide)
  have e1 := hm 1 (by decide) (by decide)
  have e2 := hm 2 (by decide) (by decide)
  have e4 := hm 4 (by decide) (by decide)
  have f5 := hos 5 (by omega) (by decide)
  have f6 := hos 6 (by omega) (by decide)
  have f7 := hos 7 (by omega) (by decide)
  have f8 := hos 8 (by omega) (by decide)
  refine ⟨by omega, by omega, by omega, by omega, by omega, by omega, by omega, by omega, by omega, fun k i hk hi => ?_, fun k hk => ?_⟩
  · rw [hos _ (by omega) (by omega)]
    exact d0 k i (by omega) hi
  · rw [hos _ (by omega) (by omega)]
    exact d1 k (by omega)
theorem DATA.s4 {w w' : List (List xE)} {K : Nat} (h : DATA w) (hm : ∀ s, s < 7 → s ≠ 4 → rwv w' 85 s = rwv w 85 s) (hK : rwv w 85 4 = K) (hK' : rwv w' 85 4 = K + 1) (hl : K < 20) (hos : ∀ j, (j < 100 + 2 * K ∨ 102 + 2 * K ≤ j) → j < 140 → rwv w' 86 j = rwv w 86 j) (hn : True) : DATA w' := by
  obtain ⟨m0, m1, m2, m3, m4, r5, r6, r7, r8, d0, d1⟩ := h
  have e0 := hm 0 (by decide) (by decide)
  have e1 := hm 1 (by decide) (by decide)
  have e2 := hm 2 (by decide) (by decide)
  have e3 := hm 3 (by decide) (by decide)
  have f5 := hos 5 (by omega) (by decide)
  have f6 := hos 6 (by omega) (by decide)
  have f7 := hos 7 (by omega) (by decide)
  have f8 := hos 8 (by omega) (by decide)
  refine ⟨by omega, by omega, by omega, by omega, by omega, by omega, by omega, by omega, by omega, fun k i hk hi => ?_, fun k hk => ?_⟩
  · rw [hos _ (by omega) (by omega)]
    exact d0 k i (by omega) hi
  · rw [hos _ (by omega) (by omega)]
    exact d1 k (by omega)
theorem DATA.s5 {w w' : List (List xE)} {K : Nat} (h : DATA w) (hm : ∀ s, s < 7 → s ≠ 5 → rwv w' 85 s = rwv w 85 s) (hK : rwv w 85 5 = K) (hK' : rwv w' 85 5 = K + 1) (hl : K < 1) (hos : ∀ j, (j < 7 ∨ 9 ≤ j) → j < 140 → rwv w' 86 j = rwv w 86 j) (hn : 1 ≤ rwv w' 86 7 ∧ rwv w' 86 7 ≤ 10 ∧ 1 ≤ rwv w' 86 8 ∧ rwv w' 86 8 ≤ 10) : DATA w' := by
  obtain ⟨m0, m1, m2, m3, m4, r5, r6, r7, r8, d0, d1⟩ := h
  have e0 := hm 0 (by decide) (by decide)
  have e1 := hm 1 (by decide) (by decide)
  have e2 := hm 2 (by decide) (by decide)
  have e3 := hm 3 (by decide) (by decide)
  have e4 := hm 4 (by decide) (by decide)
  have f5 := hos 5 (by omega) (by decide)
  have f6 := hos 6 (by omega) (by decide)
  refine ⟨by omega, by omega, by omega, by omega, by omega, by omega, by omega, by omega, by omega, fun k i hk hi => ?_, fun k hk => ?_⟩
  · rw [hos _ (by omega) (by omega)]
    exact d0 k i (by omega) hi
  · rw [hos _ (by omega) (by omega)]
    exact d1 k (by omega)
theorem DATA.s6 {w w' : List (List xE)} {K : Nat} (h : DATA w) (hm : ∀ s, s < 7 → s ≠ 6 → rwv w' 85 s = rwv w 85 s) (hK : rwv w 85 6 = K) (hK' : rwv w' 85 6 = K + 1) (hl : K < 1) (hos : ∀ j, (j < 5 ∨ 7 ≤ j) → j < 140 → rwv w' 86 j = rwv w 86 j) (hn : 1 ≤ rwv w' 86 5 ∧ rwv w' 86 5 ≤ 6 ∧ 1 ≤ rwv w' 86 6 ∧ rwv w' 86 6 ≤ 6) : DATA w' := by
  obtain ⟨m0, m1, m2, m3, m4, r5, r6, r7, r8, d0, d1⟩ := h
  have e0 := hm 0 (by decide) (by decide)
  have e1 := hm 1 (by decide) (by decide)
  have e2 := hm 2 (by decide) (by decide)
  have e3 := hm 3 (by decide) (by decide)
  have e4 := hm 4 (by decide) (by decide)
  have f7 := hos 7 (by omega) (by decide)
  have f8 := hos 8 (by omega) (by decide)
  refine ⟨by omega, by omega, by omega, by omega, by omega, by omega, by omega, by omega, by omega, fun k i hk hi => ?_, fun k hk => ?_⟩
  · rw [hos _ (by omega) (by omega)]
    exact d0 k i (by omega) hi
  · rw [hos _ (by omega) (by omega)]
    exact d1 k (by omega)
section XMB
variable {d : Nat} {w : List (List xE)} {bd : List (Nat × Nat)} {fc : List (Nat × Nat × Bool)} {rr : Nat × Nat}
theorem mLifeTold {sa kk : Nat} (hI : xMnv w) (hsa : sa ≤ 4294967295) (hkk : kk ≤ 1001) : xPi d mX12_isLifeTold [(2, 82), (0, sa), (0, kk)] w bd fc rr (fun n w' => (n ≤ 1) ∧ xMnv w' ∧ xFr [] w w') := by
  refine xPi.of ?_
  show xTo d mX12_isLifeTold (0, [], [(0, (2, 82)), (1, (0, sa)), (2, (0, kk))], [], (w, bd, fc, 0, 0, rr)) (fun φ => ∃ n w', xEnd 4 [(0, n)] (w', bd, fc, 0, 0, rr) φ ∧ (n ≤ 1) ∧ xMnv w' ∧ xFr [] w w')
  obtain ⟨f82_1, f82_3, f82_5, f82_7, f82_9, f82_11, f82_13, f82_15, f82_17, f82_19, f82_21, f82_22, f82_23, f82_25, f82_27, f82_29, h82_31, hb2, hb4, hb6, hb8, hb10, hb12, hb14, hb16, hb18, hb20, hb24, hb26, hb28, hb30, hb32⟩ := (hI 82 (by decide) (by decide) : cp82 (wget w 82))
  obtain ⟨g86_33, h86_34, hb35⟩ := (hI 86 (by decide) (by decide) : cpI 140 53 4294967295 (wget w 86))
  have h86_34 : xRow w 86 140 53 g86_33 := h86_34
  refine xg_t (xg_blk (b := [(0, 1, 3, 0, 0, 0), (1, 1, 15, 3, 0, 0), (2, 1, 3, 0, 0, 0), (3, 2, 15, 4, 0, 0)]) rfl) ?_
  refine xg_t (xg_const) ?_
  refine xg_t (xg_istore (l1 := [(0, (2, 82)), (1, (0, sa)), (2, (0, kk))]) rfl rfl rfl) ?_
  refine xg_t (xg_const) ?_
  refine xg_t (xg_istore (l1 := [(3, (0, 0)), (0, (2, 82)), (1, (0, sa)), (2, (0, kk))]) rfl rfl rfl) ?_
  refine xg_t (xg_drop (l1 := [(0, (2, 82)), (1, (0, sa)), (2, (0, kk)), (3, (0, 0)), (4, (0, 0))]) (List.forall_mem_cons.mpr ⟨List.mem_cons_of_mem _ (List.mem_cons_of_mem _ (List.mem_cons_self)), List.forall_mem_cons.mpr ⟨List.mem_cons_of_mem _ (List.mem_cons_of_mem _ (List.mem_cons_of_mem _ (List.mem_cons_self))), List.forall_mem_cons.mpr ⟨List.mem_cons_of_mem _ (List.mem_cons_of_mem _ (List.mem_cons_of_mem _ (List.mem_cons_of_mem _ (List.mem_cons_self)))), List.forall_mem_cons.mpr ⟨List.mem_cons_of_mem _ (List.mem_cons_self), List.forall_mem_cons.mpr ⟨List.mem_cons_self, fun _ h => absurd h List.not_mem_nil⟩⟩⟩⟩⟩)) ?_
  have key36 : ∀ (m38 : Nat) (is_ ji : Nat) (w39 : List (List xE)), 4 - ji < m38 → is_ ≤ 1 → ji ≤ 4 → xMnv w39 → xFr [] w w39 → xTo d mX12_isLifeTold (5, [], [(0, (2, 82)), (1, (0, sa)), (2, (0, kk)), (3, (0, is_)), (4, (0, ji))], [], (w39, bd, fc, 0, 0, rr)) (fun φ => ∃ n w', xEnd 4 [(0, n)] (w', bd, fc, 0, 0, rr) φ ∧ (n ≤ 1) ∧ xMnv w' ∧ xFr [] w w') := by
    intro m38
    induction m38 with
    | zero => intro is_ ji w39 hz; exact absurd hz (Nat.not_lt_zero _)
    | succ m38 ih37 =>
      intro is_ ji w39 hm44 hn42 hn43 hI40 hF41
      refine xg_t (xg_blk (b := [(5, 2, 2, 4, 0, 0), (7, 1, 2, 2, 0, 0), (8, 3, 6, 49, 3, 0), (11, 2, 2, 4, 0, 0), (13, 1, 3, 4, 0, 0), (14, 3, 6, 49, 3, 0), (17, 1, 2, 3, 0, 0), (18, 3, 7, 37, 1, 0), (21, 1, 0, 0, 0, 0), (22, 3, 1, 12, 12, 20), (25, 2, 4, 50, 0, 0), (27, 1, 3, 2, 0, 0), (28, 2, 2, 4, 0, 0), (30, 1, 16, 0, 0, 0), (31, 1, 11, 0, 0, 0), (32, 1, 10, 0, 0, 0), (33, 1, 2, 1, 0, 0), (34, 3, 6, 41, 1, 0)]) rfl) ?_
      refine xg_t (xg_iload (va := (0, ji)) rfl rfl) ?_
      refine xg_t (xg_iload (va := (0, kk)) rfl rfl) ?_
      by_cases hc45 : ji < kk
      · refine xg_t (xg_icF (u := ji) (v := kk) rfl xnm0 xnm0 (xj_geF hc45 (by omega))) ?_
        refine xg_t (xg_iload (va := (0, ji)) rfl rfl) ?_
        refine xg_t (xg_const) ?_
        by_cases hc46 : ji < 4
        · refine xg_t (xg_icF (u := ji) (v := 4) rfl xnm0 xnm0 (xj_geF hc46 (by omega))) ?_
          refine xg_t (xg_iload (va := (0, is_)) rfl rfl) ?_
          by_cases hc47 : is_ = 0
          · refine xg_t (xg_ifF (u := is_) rfl xnm0 (xj_neF hc47)) ?_
            refine xg_t (xg_aload (va := (2, 82)) rfl rfl) ?_
            refine xg_t (xg_getf (va := (2, 86)) (hF41.get (by decide) h82_31) rfl) ?_
            refine xg_t (xg_bip) ?_
            refine xg_t (xg_const) ?_
            refine xg_t (xg_iload (va := (0, ji)) rfl rfl) ?_
            refine xg_t (xg_imul (u := 2) (v := ji) (z := 2 * ji) xnm0 xnm0 (by omega)) ?_
            refine xg_t (xg_iadd (u := 50) (v := 2 * ji) (z := 50 + (2 * ji)) xnm0 xnm0 (by omega)) ?_
            refine xg_ialdB (n := 50 + (2 * ji)) (B := 4294967295) (h86_34.fr hF41 (by decide)) (hb35) xnm0 (by omega) (fun u48 hu49 he50 => ?_)
            refine xg_t (xg_iload (va := (0, sa)) rfl rfl) ?_
            by_cases hc51 : u48 = sa
            · refine xg_t (xg_icF (u := u48) (v := sa) rfl xnm0 xnm0 (xj_neF hc51)) ?_
              refine xg_t (xg_blk (b := [(37, 1, 3, 1, 0, 0), (38, 3, 8, 42, 0, 0)]) rfl) ?_
              refine xg_t (xg_const) ?_
              refine xg_t (xg_goto) ?_
              refine xg_t (xg_blk (b := [(42, 1, 15, 3, 0, 0), (43, 3, 9, 4, 1, 0), (46, 3, 8, 5, 0, 0)]) rfl) ?_
              refine xg_t (xg_istore (l1 := [(0, (2, 82)), (1, (0, sa)), (2, (0, kk)), (4, (0, ji))]) rfl rfl rfl) ?_
              refine xg_t (xg_iinc (u := ji) (z := ji + 1) (l1 := [(3, (0, 1)), (0, (2, 82)), (1, (0, sa)), (2, (0, kk))]) rfl rfl (by omega) rfl) ?_
              refine xg_t (xg_goto) ?_
              refine xg_t (xg_drop (l1 := [(0, (2, 82)), (1, (0, sa)), (2, (0, kk)), (3, (0, 1)), (4, (0, ji + 1))]) (List.forall_mem_cons.mpr ⟨List.mem_cons_of_mem _ (List.mem_cons_of_mem _ (List.mem_cons_self)), List.forall_mem_cons.mpr ⟨List.mem_cons_of_mem _ (List.mem_cons_of_mem _ (List.mem_cons_of_mem _ (List.mem_cons_self))), List.forall_mem_cons.mpr ⟨List.mem_cons_of_mem _ (List.mem_cons_of_mem _ (List.mem_cons_of_mem _ (List.mem_cons_of_mem _ (List.mem_cons_self)))), List.forall_mem_cons.mpr ⟨List.mem_cons_of_mem _ (List.mem_cons_self), List.forall_mem_cons.mpr ⟨List.mem_cons_self, fun _ h => absurd h List.not_mem_nil⟩⟩⟩⟩⟩)) ?_
              exact ih37 1 (ji + 1) w39 (by omega) (by omega) (by omega) (hI40) (hF41)
            · refine xg_t (xg_icT (u := u48) (v := sa) rfl xnm0 xnm0 (xj_neT hc51)) ?_
              refine xg_t (xg_blk (b := [(41, 1, 3, 0, 0, 0)]) rfl) ?_
              refine xg_t (xg_const) ?_
              refine xg_t (xg_blk (b := [(42, 1, 15, 3, 0, 0), (43, 3, 9, 4, 1, 0), (46, 3, 8, 5, 0, 0)]) rfl) ?_
              refine xg_t (xg_istore (l1 := [(0, (2, 82)), (1, (0, sa)), (2, (0, kk)), (4, (0, ji))]) rfl rfl rfl) ?_
              refine xg_t (xg_iinc (u := ji) (z := ji + 1) (l1 := [(3, (0, 0)), (0, (2, 82)), (1, (0, sa)), (2, (0, kk))]) rfl rfl (by omega) rfl) ?_
              refine xg_t (xg_goto) ?_
              refine xg_t (xg_drop (l1 := [(0, (2, 82)), (1, (0, sa)), (2, (0, kk)), (3, (0, 0)), (4, (0, ji + 1))]) (List.forall_mem_cons.mpr ⟨List.mem_cons_of_mem _ (List.mem_cons_of_mem _ (List.mem_cons_self)), List.forall_mem_cons.mpr ⟨List.mem_cons_of_mem _ (List.mem_cons_of_mem _ (List.mem_cons_of_mem _ (List.mem_cons_self))), List.forall_mem_cons.mpr ⟨List.mem_cons_of_mem _ (List.mem_cons_of_mem _ (List.mem_cons_of_mem _ (List.mem_cons_of_mem _ (List.mem_cons_self)))), List.forall_mem_cons.mpr ⟨List.mem_cons_of_mem _ (List.mem_cons_self), List.forall_mem_cons.mpr ⟨List.mem_cons_self, fun _ h => absurd h List.not_mem_nil⟩⟩⟩⟩⟩)) ?_
              exact ih37 0 (ji + 1) w39 (by omega) (by omega) (by omega) (hI40) (hF41)
          · refine xg_t (xg_ifT (u := is_) rfl xnm0 (xj_neT hc47)) ?_
            refine xg_t (xg_blk (b := [(37, 1, 3, 1, 0, 0), (38, 3, 8, 42, 0, 0)]) rfl) ?_
            refine xg_t (xg_const) ?_
            refine xg_t (xg_goto) ?_
            refine xg_t (xg_blk (b := [(42, 1, 15, 3, 0, 0), (43, 3, 9, 4, 1, 0), (46, 3, 8, 5, 0, 0)]) rfl) ?_
            refine xg_t (xg_istore (l1 := [(0, (2, 82)), (1, (0, sa)), (2, (0, kk)), (4, (0, ji))]) rfl rfl rfl) ?_
            refine xg_t (xg_iinc (u := ji) (z := ji + 1) (l1 := [(3, (0, 1)), (0, (2, 82)), (1, (0, sa)), (2, (0, kk))]) rfl rfl (by omega) rfl) ?_
            refine xg_t (xg_goto) ?_
            refine xg_t (xg_drop (l1 := [(0, (2, 82)), (1, (0, sa)), (2, (0, kk)), (3, (0, 1)), (4, (0, ji + 1))]) (List.forall_mem_cons.mpr ⟨List.mem_cons_of_mem _ (List.mem_cons_of_mem _ (List.mem_cons_self)), List.forall_mem_cons.mpr ⟨List.mem_cons_of_mem _ (List.mem_cons_of_mem _ (List.mem_cons_of_mem _ (List.mem_cons_self))), List.forall_mem_cons.mpr ⟨List.mem_cons_of_mem _ (List.mem_cons_of_mem _ (List.mem_cons_of_mem _ (List.mem_cons_of_mem _ (List.mem_cons_self)))), List.forall_mem_cons.mpr ⟨List.mem_cons_of_mem _ (List.mem_cons_self), List.forall_mem_cons.mpr ⟨List.mem_cons_self, fun _ h => absurd h List.not_mem_nil⟩⟩⟩⟩⟩)) ?_
            exact ih37 1 (ji + 1) w39 (by omega) (by omega) (by omega) (hI40) (hF41)
        · refine xg_t (xg_icT (u := ji) (v := 4) rfl xnm0 xnm0 (xj_geT (by omega) (by omega))) ?_
          refine xg_t (xg_blk (b := [(49, 1, 2, 3, 0, 0), (50, 1, 12, 0, 1, 0)]) rfl) ?_
          refine xg_t (xg_iload (va := (0, is_)) rfl rfl) ?_
          exact xg_e ⟨is_, w39, ⟨xret_b (by omega), rfl⟩, by omega, hI40, hF41⟩
      · refine xg_t (xg_icT (u := ji) (v := kk) rfl xnm0 xnm0 (xj_geT (by omega) (by omega))) ?_
        refine xg_t (xg_blk (b := [(49, 1, 2, 3, 0, 0), (50, 1, 12, 0, 1, 0)]) rfl) ?_
        refine xg_t (xg_iload (va := (0, is_)) rfl rfl) ?_
        exact xg_e ⟨is_, w39, ⟨xret_b (by omega), rfl⟩, by omega, hI40, hF41⟩
  exact key36 _ 0 0 w (Nat.lt_succ_self _) (by omega) (by omega) (hI) (xFr.rf)
set_option maxHeartbeats 60000000 in
theorem mALineS0 {at_ : Nat} (hI : xMnv w) (hps : PS w) (hmb : ∀ s, s < 7 → rwv w 85 s ≤ 1000) (hln : fld w 82 14 ≤ 1000) (h7 : fld w 82 7 = 3) (hat : at_ ≤ 4294967295) : xTo (d + 7) mX12_aLine (43, [], [(2, (0, at_)), (1, (0, 0)), (0, (2, 82))], [], (w, bd, fc, 0, 0, rr)) (fun φ => ∃ w', xEnd 0 [] (w', bd, fc, 0, 0, rr) φ ∧ xMnv w' ∧ xFr [82, 83, 85, 86, 87] w w' ∧ ((FA w ≠ 0 → FA w' ≠ 0) ∧ PS w' ∧ ((fld w' 82 10 = 1 ∧ mu w' = mu w ∧ fld w' 82 14 = fld w 82 14 ∧ ∀ s, s < 7 → rwv w' 85 s = rwv w 85 s) ∨ (mu w' < mu w ∧ fld w' 82 14 = fld w 82 14 + 1 ∧ ∀ s, s < 7 → rwv w' 85 s ≤ rwv w 85 s + 1)) ∧ (FA w' ≠ 0 ∨ (DATA w → DATA w')))) := by
  obtain ⟨f82_1, f82_3, f82_5, f82_7, f82_9, f82_11, f82_13, f82_15, f82_17, f82_19, f82_21, f82_22, f82_23, f82_25, f82_27, f82_29, h82_31, hb2, hb4, hb6, hb8, hb10, hb12, hb14, hb16, hb18, hb20, hb24, hb26, hb28, hb30, hb32⟩ := (hI 82 (by decide) (by decide) : cp82 (wget w 82))
  have hf33 : fld w 82 7 = f82_11 := fld_of h82_31
  have hf34 : fld w 82 10 = f82_17 := fld_of h82_31
  have hf35 : fld w 82 14 = f82_19 := fld_of h82_31
  have hps_ : fld w 82 10 = 0 ∨ FA w ≠ 0 := hps
  obtain ⟨g85_36, h85_37, hb38⟩ := (hI 85 (by decide) (by decide) : cpI 7 52 4294967295 (wget w 85))
  have h85_37 : xRow w 85 7 52 g85_36 := h85_37
  obtain ⟨g86_39, h86_40, hb41⟩ := (hI 86 (by decide) (by decide) : cpI 140 53 4294967295 (wget w 86))
  have h86_40 : xRow w 86 140 53 g86_39 := h86_40
  obtain ⟨g87_42, h87_43, hb44⟩ := (hI 87 (by decide) (by decide) : cpI 20 54 4294967295 (wget w 87))
  have h87_43 : xRow w 87 20 54 g87_42 := h87_43
  refine xg_t (xg_blk (b := [(43, 1, 0, 0, 0, 0), (44, 3, 1, 12, 11, 17), (47, 1, 2, 1, 0, 0), (48, 1, 10, 0, 0, 0), (49, 1, 15, 3, 0, 0), (50, 1, 2, 3, 0, 0), (51, 1, 2, 1, 0, 0), (52, 3, 13, 194, 98, 193), (55, 3, 6, 64, 2, 0), (58, 1, 0, 0, 0, 0), (59, 1, 3, 3, 0, 0), (60, 1, 2, 2, 0, 0), (61, 3, 13, 115, 96, 186)]) rfl) ?_
  refine xg_t (xg_aload (va := (2, 82)) rfl rfl) ?_
  refine xg_t (xg_getf (va := (2, 85)) h82_31 rfl) ?_
  refine xg_t (xg_iload (va := (0, 0)) rfl rfl) ?_
  refine xg_ialdB (n := 0) (B := 4294967295) h85_37 (hb38) xnm0 (by omega) (fun u45 hu46 he47 => ?_)
  have hK48 : rwv w 85 0 = u45 := (rwv_of h85_37 (by decide)).trans he47
  have hm49 := hmb 0 (by decide)
  have hl50 : u45 ≤ 1000 := by omega
  refine xg_t (xg_istore (l1 := [(2, (0, at_)), (1, (0, 0)), (0, (2, 82))]) rfl rfl rfl) ?_
  refine xg_t (xg_iload (va := (0, u45)) rfl rfl) ?_
  refine xg_t (xg_iload (va := (0, 0)) rfl rfl) ?_
  refine xg_t (xg_cSr mX12_mostOf (vs := [(0, 0)]) (rest := [(0, u45)]) (rs := [(0, 6), (0, u45)]) (cn1 := 0) (sl1 := 0) rfl (mMostR0) rfl rfl rfl rfl rfl rfl rfl rfl) ?_
  by_cases hc51 : u45 < 6
  · refine xg_t (xg_icT (u := u45) (v := 6) rfl xnm0 xnm0 (xj_ltT hc51 (by omega))) ?_
    refine xg_t (xg_blk (b := [(64, 1, 0, 0, 0, 0), (65, 3, 13, 110, 96, 190), (68, 1, 2, 1, 0, 0), (69, 39, 33, 362, 0, 9)]) rfl) ?_
    refine xg_t (xg_aload (va := (2, 82)) rfl rfl) ?_
    refine xg_cVv mX12_advance (vs := []) (rest := []) (cn1 := 0) (sl1 := 0) rfl (mAdvance (hI)) rfl h82_31 rfl rfl rfl rfl rfl rfl (fun w52 hq53 => ?_)
    obtain ⟨hI54, hF55, hx56⟩ := hq53
    clear hb2 hb4 hb6 hb8 hb10 hb12 hb14 hb16 hb18 hb20 hb24 hb26 hb28 hb30
    obtain ⟨hv57, hv58, hv59, hv60⟩ := hx56
    have hf62 := FA_fr hF55 (by decide)
    have hs63 := (PK.rf hps).2.2.2
    unfold PS at hs63
    have pk61 : PK w w52 := ⟨fun _ => by omega, hv57, hv60, (show fld w52 82 10 = 0 ∨ FA w52 ≠ 0 by omega)⟩
    clear hs63
    have pk64 : PK w w52 := PK.tr (PK.rf hps) pk61
    have os65 : ∀ j, (j < 20 + 4 * u45 ∨ 24 + 4 * u45 ≤ j) → j < 140 → rwv w52 86 j = rwv w 86 j := fun j hj hl => (rwv_fr hF55 (by decide)).trans ((fun j _ _ => rfl) j hj hl)
    have mf66 : ∀ s, s < 7 → rwv w52 85 s = rwv w 85 s := fun s hs => (rwv_fr hF55 (by decide)).trans ((fun _ _ => rfl) s hs)
    have ms67 : mu w52 < mu w := Nat.lt_of_lt_of_le (hv58 (by omega)) (PK.rf hps).2.1
    clear hv58
    have jn68 : ∀ (w69 : List (List xE)), xMnv w69 → xFr [82, 83, 85, 86, 87] w w69 → (PK w w69 ∧ (∀ j, (j < 20 + 4 * u45 ∨ 24 + 4 * u45 ≤ j) → j < 140 → rwv w69 86 j = rwv w 86 j) ∧ mu w69 < mu w ∧ (∀ s, s < 7 → rwv w69 85 s = rwv w 85 s) ∧ (FA w69 ≠ 0 ∨ u45 < 6) ∧ (FA w69 ≠ 0 ∨ 6 ≤ u45 ∨ (1 ≤ rwv w69 86 (20 + 4 * u45 + 0) ∧ rwv w69 86 (20 + 4 * u45 + 0) ≤ 99 ∧ 1 ≤ rwv w69 86 (20 + 4 * u45 + 1) ∧ rwv w69 86 (20 + 4 * u45 + 1) ≤ 99 ∧ 1 ≤ rwv w69 86 (20 + 4 * u45 + 2) ∧ rwv w69 86 (20 + 4 * u45 + 2) ≤ 99))) → xTo (d + 7) mX12_aLine (394, [], [(0, (2, 82)), (1, (0, 0)), (3, (0, u45))], [], (w69, bd, fc, 0, 0, rr)) (fun φ => ∃ w', xEnd 0 [] (w', bd, fc, 0, 0, rr) φ ∧ xMnv w' ∧ xFr [82, 83, 85, 86, 87] w w' ∧ ((FA w ≠ 0 → FA w' ≠ 0) ∧ PS w' ∧ ((fld w' 82 10 = 1 ∧ mu w' = mu w ∧ fld w' 82 14 = fld w 82 14 ∧ ∀ s, s < 7 → rwv w' 85 s = rwv w 85 s) ∨ (mu w' < mu w ∧ fld w' 82 14 = fld w 82 14 + 1 ∧ ∀ s, s < 7 → rwv w' 85 s ≤ rwv w 85 s + 1)) ∧ (FA w' ≠ 0 ∨ (DATA w → DATA w')))) := by
      intro w69 hI70 hF71 he72
      obtain ⟨hj73, hj74, hj75, hj76, hj77, hj78⟩ := he72
      refine xg_t (xg_blk (b := [(394, 1, 0, 0, 0, 0), (395, 3, 1, 12, 10, 180), (398, 3, 7, 416, 1, 0), (401, 1, 0, 0, 0, 0), (402, 3, 1, 12, 7, 151), (405, 1, 3, 2, 0, 0), (406, 3, 6, 416, 1, 0), (409, 1, 0, 0, 0, 0), (410, 3, 13, 110, 96, 190), (413, 3, 8, 420, 0, 0)]) rfl) ?_
      refine xg_t (xg_aload (va := (2, 82)) rfl rfl) ?_
      obtain ⟨f82_79, f82_81, f82_83, f82_85, f82_87, f82_89, f82_91, f82_93, f82_95, f82_97, f82_99, f82_100, f82_101, f82_103, f82_105, f82_107, h82_109, hb80, hb82, hb84, hb86, hb88, hb90, hb92, hb94, hb96, hb98, hb102, hb104, hb106, hb108, hb110⟩ := (hI70 82 (by decide) (by decide) : cp82 (wget w69 82))
      refine xg_t (xg_getf (va := (0, f82_95)) h82_109 rfl) ?_
      by_cases hc111 : f82_95 = 0
      · refine xg_t (xg_ifF (u := f82_95) rfl xnm0 (xj_neF hc111)) ?_
        refine xg_t (xg_aload (va := (2, 82)) rfl rfl) ?_
        refine xg_t (xg_getf (va := (0, f82_89)) h82_109 rfl) ?_
        refine xg_t (xg_const) ?_
        by_cases hc112 : f82_89 = 2
        · refine xg_t (xg_icF (u := f82_89) (v := 2) rfl xnm0 xnm0 (xj_neF hc112)) ?_
          refine xg_t (xg_aload (va := (2, 82)) rfl rfl) ?_
          refine xg_cVv mX12_advance (vs := []) (rest := []) (cn1 := 0) (sl1 := 0) rfl (mAdvance (hI70)) rfl h82_109 rfl rfl rfl rfl rfl rfl (fun w113 hq114 => ?_)
          obtain ⟨hI115, hF116, hx117⟩ := hq114
          clear hb80 hb82 hb84 hb86 hb88 hb90 hb92 hb94 hb96 hb98 hb102 hb104 hb106 hb108
          obtain ⟨hv118, hv119, hv120, hv121⟩ := hx117
          have hf123 := FA_fr hF116 (by decide)
          have hs124 := hj73.2.2.2
          unfold PS at hs124
          have pk122 : PK w69 w113 := ⟨fun _ => by omega, hv118, hv121, (show fld w113 82 10 = 0 ∨ FA w113 ≠ 0 by omega)⟩
          clear hs124
          clear hv119
          have pk125 : PK w w113 := PK.tr hj73 pk122
          have os126 : ∀ j, (j < 20 + 4 * u45 ∨ 24 + 4 * u45 ≤ j) → j < 140 → rwv w113 86 j = rwv w 86 j := fun j hj hl => (rwv_fr hF116 (by decide)).trans (hj74 j hj hl)
          have rg127 : FA w113 ≠ 0 ∨ u45 < 6 := hj77.imp_left pk122.1
          have mf128 : ∀ s, s < 7 → rwv w113 85 s = rwv w 85 s := fun s hs => (rwv_fr hF116 (by decide)).trans (hj76 s hs)
          have hl129 : rwv w113 86 (20 + 4 * u45 + 0) = rwv w69 86 (20 + 4 * u45 + 0) := rwv_fr hF116 (by decide)
          have hl130 : rwv w113 86 (20 + 4 * u45 + 1) = rwv w69 86 (20 + 4 * u45 + 1) := rwv_fr hF116 (by decide)
          have hl131 : rwv w113 86 (20 + 4 * u45 + 2) = rwv w69 86 (20 + 4 * u45 + 2) := rwv_fr hF116 (by decide)
          have nw132 : FA w113 ≠ 0 ∨ 6 ≤ u45 ∨ (1 ≤ rwv w113 86 (20 + 4 * u45 + 0) ∧ rwv w113 86 (20 + 4 * u45 + 0) ≤ 99 ∧ 1 ≤ rwv w113 86 (20 + 4 * u45 + 1) ∧ rwv w113 86 (20 + 4 * u45 + 1) ≤ 99 ∧ 1 ≤ rwv w113 86 (20 + 4 * u45 + 2) ∧ rwv w113 86 (20 + 4 * u45 + 2) ≤ 99) := by have q := hj78; have q1 := pk122.1; omega
          clear hj78
          have ms133 : mu w113 < mu w := Nat.lt_of_le_of_lt pk122.2.1 hj75
          clear hj77
          refine xg_t (xg_goto) ?_
          refine xg_t (xg_blk (b := [(420, 1, 0, 0, 0, 0), (421, 3, 1, 12, 11, 17), (424, 1, 2, 1, 0, 0), (425, 1, 39, 0, 0, 0), (426, 1, 10, 0, 0, 0), (427, 1, 3, 1, 0, 0), (428, 1, 11, 0, 0, 0), (429, 1, 17, 0, 0, 0), (430, 1, 0, 0, 0, 0), (431, 1, 19, 0, 0, 0), (432, 3, 1, 12, 14, 212), (435, 1, 3, 1, 0, 0), (436, 1, 11, 0, 0, 0), (437, 3, 14, 12, 14, 212), (440, 1, 12, 0, 0, 0)]) rfl) ?_
          obtain ⟨f82_134, f82_136, f82_138, f82_140, f82_142, f82_144, f82_146, f82_148, f82_150, f82_152, f82_154, f82_155, f82_156, f82_158, f82_160, f82_162, h82_164, hb135, hb137, hb139, hb141, hb143, hb145, hb147, hb149, hb151, hb153, hb157, hb159, hb161, hb163, hb165⟩ := (hI115 82 (by decide) (by decide) : cp82 (wget w113 82))
          have hf166 : fld w113 82 4 = f82_138 := fld_of h82_164
          have hf167 : fld w113 82 5 = f82_140 := fld_of h82_164
          have hf168 : fld w113 82 7 = f82_144 := fld_of h82_164
          have hf169 : fld w113 82 10 = f82_150 := fld_of h82_164
          have hf170 : fld w113 82 14 = f82_152 := fld_of h82_164
          have hu171 : mu w113 = 2 * (fld w113 82 4 - fld w113 82 5) + min 1 (fld w113 82 7) := rfl
          have hf172 := pk125.2.2.1
          have hl173 : f82_152 ≤ 1000 := by omega
          refine xg_t (xg_aload (va := (2, 82)) rfl rfl) ?_
          refine xg_t (xg_getf (va := (2, 85)) h82_164 rfl) ?_
          refine xg_t (xg_iload (va := (0, 0)) rfl rfl) ?_
          refine xg_t (xg_dup2 rfl) ?_
          obtain ⟨g85_174, h85_175, hb176⟩ := (hI115 85 (by decide) (by decide) : cpI 7 52 4294967295 (wget w113 85))
          have h85_175 : xRow w113 85 7 52 g85_174 := h85_175
          refine xg_ialdB (n := 0) (B := 4294967295) h85_175 (hb176) xnm0 (by omega) (fun u177 hu178 he179 => ?_)
          have hl180 : u177 = u45 := by have q1 := rwv_of h85_175 (show 0 < 7 by decide); have q2 := mf128 0 (by decide); omega
          refine xg_t (xg_const) ?_
          refine xg_t (xg_iadd (u := u177) (v := 1) (z := u177 + 1) xnm0 xnm0 (by omega)) ?_
          refine xg_iastK (n := 0) (u := u177 + 1) h85_175 xnm0 xnm0 rfl (by omega) (fun w181 hr182 hb183 => ?_)
          refine xg_t (xg_aload (va := (2, 82)) rfl rfl) ?_
          refine xg_t (xg_dup rfl) ?_
          refine xg_t (xg_getf (va := (0, f82_152)) (hb183.get (by decide) h82_164) rfl) ?_
          refine xg_t (xg_const) ?_
          refine xg_t (xg_iadd (u := f82_152) (v := 1) (z := f82_152 + 1) xnm0 xnm0 (by omega)) ?_
          refine xg_putI (fl1 := [(2, 83), (2, 84), (0, f82_134), (0, f82_136), (0, f82_138), (0, f82_140), (0, f82_142), (0, f82_144), (0, f82_146), (0, f82_148), (0, f82_150), (2, 85), (2, 86), (2, 87), (0, f82_152 + 1), (2, 88), (2, 89), (2, 90), (2, 91), (2, 92), (2, 93), (2, 94), (4, f82_154), (4, f82_155), (0, f82_156), (2, 95), (2, 96), (2, 97), (2, 98), (2, 99), (2, 100), (2, 101), (2, 102), (0, f82_158), (2, 103), (2, 104), (2, 105), (2, 106), (2, 107), (2, 108), (2, 109), (0, f82_160), (0, f82_162), (2, 110), (2, 111), (2, 112), (2, 113)]) (hb183.get (by decide) h82_164) rfl rfl rfl (fun w184 hk185 hb186 => ?_)
          have hF187 : xFr [82, 85] w113 w184 := ((xFr.of (S := [82, 85]) hb183 (by decide)).tr (xFr.of (S := [82, 85]) hb186 (by decide)))
          have hA188 := FA_fr hF187 (by decide)
          have hf189 : fld w184 82 4 = f82_138 := fld_of hk185
          have hf190 : fld w184 82 5 = f82_140 := fld_of hk185
          have hf191 : fld w184 82 7 = f82_144 := fld_of hk185
          have hf192 : fld w184 82 10 = f82_150 := fld_of hk185
          have hf193 : fld w184 82 14 = f82_152 + 1 := fld_of hk185
          have hu194 : mu w184 = 2 * (fld w184 82 4 - fld w184 82 5) + min 1 (fld w184 82 7) := rfl
          have pq195 := pk125
          unfold PK PS at pq195
          have hM196 : ∀ s, s < 7 → s ≠ 0 → rwv w184 85 s = rwv w 85 s := fun s hs hn => (rwv_of (hr182.but hb186 (by decide)) hs).trans ((if_neg hn).trans ((rwv_of h85_175 hs).symm.trans (mf128 s hs)))
          have hM197 : rwv w184 85 0 = u45 + 1 := (rwv_of (hr182.but hb186 (by decide)) (by decide)).trans ((if_pos rfl).trans (by omega))
          have hM198 : ∀ s, s < 7 → rwv w184 85 s ≤ rwv w 85 s + 1 := fun s hs => by
            by_cases z : s = 0
            · subst z; omega
            · rw [hM196 s hs z]; omega
          have hO199 : ∀ j, (j < 20 + 4 * u45 ∨ 24 + 4 * u45 ≤ j) → j < 140 → rwv w184 86 j = rwv w 86 j := fun j hj hl => (rwv_fr hF187 (by decide)).trans (os126 j hj hl)
          have hl201 : FA w113 ≠ 0 ∨ u45 < 6 := rg127
          have hl202 : rwv w184 86 (20 + 4 * u45 + 0) = rwv w113 86 (20 + 4 * u45 + 0) := rwv_fr hF187 (by decide)
          have hl203 : rwv w184 86 (20 + 4 * u45 + 1) = rwv w113 86 (20 + 4 * u45 + 1) := rwv_fr hF187 (by decide)
          have hl204 : rwv w184 86 (20 + 4 * u45 + 2) = rwv w113 86 (20 + 4 * u45 + 2) := rwv_fr hF187 (by decide)
          have hN200 : FA w184 ≠ 0 ∨ 6 ≤ u45 ∨ (1 ≤ rwv w184 86 (20 + 4 * u45 + 0) ∧ rwv w184 86 (20 + 4 * u45 + 0) ≤ 99 ∧ 1 ≤ rwv w184 86 (20 + 4 * u45 + 1) ∧ rwv w184 86 (20 + 4 * u45 + 1) ≤ 99 ∧ 1 ≤ rwv w184 86 (20 + 4 * u45 + 2) ∧ rwv w184 86 (20 + 4 * u45 + 2) ≤ 99) := by have q := nw132; omega
          have hX205 : FA w184 ≠ 0 ∨ u45 < 6 := by omega
          have hD206 : FA w184 ≠ 0 ∨ (DATA w → DATA w184) := by
            by_cases z : FA w184 ≠ 0
            · exact Or.inl z
            · exact Or.inr (fun hd => hd.s0 hM196 hK48 hM197 (hX205.resolve_left z) hO199 ((hN200.resolve_left z).resolve_left (by have := hX205.resolve_left z; omega)))
          exact xg_e ⟨w184, ⟨rfl, rfl⟩, xMnv.up (S := [85, 82]) hI115 ((xFr.of (S := [85, 82]) hb183 (by decide)).tr (xFr.of (S := [85, 82]) hb186 (by decide))) (List.forall_mem_cons.mpr ⟨(show cpI 7 52 4294967295 (wget w184 85) from ⟨_, (hr182.but hb186 (by decide)), xrb (by omega) (hb176)⟩), List.forall_mem_cons.mpr ⟨(show cp82 (wget w184 82) from ⟨f82_134, f82_136, f82_138, f82_140, f82_142, f82_144, f82_146, f82_148, f82_150, f82_152 + 1, f82_154, f82_155, f82_156, f82_158, f82_160, f82_162, hk185, hb135, hb137, hb139, hb141, hb143, hb145, hb147, hb149, hb151, by omega, hb157, hb159, hb161, hb163, by omega⟩), fun _ h => absurd h List.not_mem_nil⟩⟩), ((hF71.tr (hF116.up (by decide))).tr ((xFr.of (S := [82, 83, 85, 86, 87]) hb183 (by decide)).tr (xFr.of (S := [82, 83, 85, 86, 87]) hb186 (by decide)))), ⟨fun h => by have := pq195.1 h; omega, (show fld w184 82 10 = 0 ∨ FA w184 ≠ 0 by omega), Or.inr ⟨by have := ms133; omega, by omega, hM198⟩, hD206⟩⟩
        · refine xg_t (xg_icT (u := f82_89) (v := 2) rfl xnm0 xnm0 (xj_neT hc112)) ?_
          refine xg_t (xg_blk (b := [(416, 1, 0, 0, 0, 0), (417, 3, 13, 140, 96, 183)]) rfl) ?_
          refine xg_t (xg_aload (va := (2, 82)) rfl rfl) ?_
          refine xg_cVv mX12_ends (vs := []) (rest := []) (cn1 := 0) (sl1 := 0) rfl (mEnds (hI70) hj73.2.2.2) rfl h82_109 rfl rfl rfl rfl rfl rfl (fun w207 hq208 => ?_)
          obtain ⟨hI209, hF210, hx211⟩ := hq208
          clear hb80 hb82 hb84 hb86 hb88 hb90 hb92 hb94 hb96 hb98 hb102 hb104 hb106 hb108
          obtain ⟨hv212, hv213, hv214, hv215⟩ := hx211
          have pk216 : PK w69 w207 := ⟨fun _ => hv212, by omega, by omega, Or.inr hv212⟩
          have pk217 : PK w w207 := PK.tr hj73 pk216
          have os218 : ∀ j, (j < 20 + 4 * u45 ∨ 24 + 4 * u45 ≤ j) → j < 140 → rwv w207 86 j = rwv w 86 j := fun j hj hl => (rwv_fr hF210 (by decide)).trans (hj74 j hj hl)
          have rg219 : FA w207 ≠ 0 ∨ u45 < 6 := hj77.imp_left pk216.1
          have mf220 : ∀ s, s < 7 → rwv w207 85 s = rwv w 85 s := fun s hs => (rwv_fr hF210 (by decide)).trans (hj76 s hs)
          have hl221 : rwv w207 86 (20 + 4 * u45 + 0) = rwv w69 86 (20 + 4 * u45 + 0) := rwv_fr hF210 (by decide)
          have hl222 : rwv w207 86 (20 + 4 * u45 + 1) = rwv w69 86 (20 + 4 * u45 + 1) := rwv_fr hF210 (by decide)
          have hl223 : rwv w207 86 (20 + 4 * u45 + 2) = rwv w69 86 (20 + 4 * u45 + 2) := rwv_fr hF210 (by decide)
          have nw224 : FA w207 ≠ 0 ∨ 6 ≤ u45 ∨ (1 ≤ rwv w207 86 (20 + 4 * u45 + 0) ∧ rwv w207 86 (20 + 4 * u45 + 0) ≤ 99 ∧ 1 ≤ rwv w207 86 (20 + 4 * u45 + 1) ∧ rwv w207 86 (20 + 4 * u45 + 1) ≤ 99 ∧ 1 ≤ rwv w207 86 (20 + 4 * u45 + 2) ∧ rwv w207 86 (20 + 4 * u45 + 2) ≤ 99) := by have q := hj78; have q1 := pk216.1; omega
          clear hj78
          have ms225 : mu w207 < mu w := Nat.lt_of_le_of_lt pk216.2.1 hj75
          clear hj77
          refine xg_t (xg_blk (b := [(420, 1, 0, 0, 0, 0), (421, 3, 1, 12, 11, 17), (424, 1, 2, 1, 0, 0), (425, 1, 39, 0, 0, 0), (426, 1, 10, 0, 0, 0), (427, 1, 3, 1, 0, 0), (428, 1, 11, 0, 0, 0), (429, 1, 17, 0, 0, 0), (430, 1, 0, 0, 0, 0), (431, 1, 19, 0, 0, 0), (432, 3, 1, 12, 14, 212), (435, 1, 3, 1, 0, 0), (436, 1, 11, 0, 0, 0), (437, 3, 14, 12, 14, 212), (440, 1, 12, 0, 0, 0)]) rfl) ?_
          obtain ⟨f82_226, f82_228, f82_230, f82_232, f82_234, f82_236, f82_238, f82_240, f82_242, f82_244, f82_246, f82_247, f82_248, f82_250, f82_252, f82_254, h82_256, hb227, hb229, hb231, hb233, hb235, hb237, hb239, hb241, hb243, hb245, hb249, hb251, hb253, hb255, hb257⟩ := (hI209 82 (by decide) (by decide) : cp82 (wget w207 82))
          have hf258 : fld w207 82 4 = f82_230 := fld_of h82_256
          have hf259 : fld w207 82 5 = f82_232 := fld_of h82_256
          have hf260 : fld w207 82 7 = f82_236 := fld_of h82_256
          have hf261 : fld w207 82 10 = f82_242 := fld_of h82_256
          have hf262 : fld w207 82 14 = f82_244 := fld_of h82_256
          have hu263 : mu w207 = 2 * (fld w207 82 4 - fld w207 82 5) + min 1 (fld w207 82 7) := rfl
          have hf264 := pk217.2.2.1
          have hl265 : f82_244 ≤ 1000 := by omega
          refine xg_t (xg_aload (va := (2, 82)) rfl rfl) ?_
          refine xg_t (xg_getf (va := (2, 85)) h82_256 rfl) ?_
          refine xg_t (xg_iload (va := (0, 0)) rfl rfl) ?_
          refine xg_t (xg_dup2 rfl) ?_
          obtain ⟨g85_266, h85_267, hb268⟩ := (hI209 85 (by decide) (by decide) : cpI 7 52 4294967295 (wget w207 85))
          have h85_267 : xRow w207 85 7 52 g85_266 := h85_267
          refine xg_ialdB (n := 0) (B := 4294967295) h85_267 (hb268) xnm0 (by omega) (fun u269 hu270 he271 => ?_)
          have hl272 : u269 = u45 := by have q1 := rwv_of h85_267 (show 0 < 7 by decide); have q2 := mf220 0 (by decide); omega
          refine xg_t (xg_const) ?_
          refine xg_t (xg_iadd (u := u269) (v := 1) (z := u269 + 1) xnm0 xnm0 (by omega)) ?_
          refine xg_iastK (n := 0) (u := u269 + 1) h85_267 xnm0 xnm0 rfl (by omega) (fun w273 hr274 hb275 => ?_)
          refine xg_t (xg_aload (va := (2, 82)) rfl rfl) ?_
          refine xg_t (xg_dup rfl) ?_
          refine xg_t (xg_getf (va := (0, f82_244)) (hb275.get (by decide) h82_256) rfl) ?_
          refine xg_t (xg_const) ?_
          refine xg_t (xg_iadd (u := f82_244) (v := 1) (z := f82_244 + 1) xnm0 xnm0 (by omega)) ?_
          refine xg_putI (fl1 := [(2, 83), (2, 84), (0, f82_226), (0, f82_228), (0, f82_230), (0, f82_232), (0, f82_234), (0, f82_236), (0, f82_238), (0, f82_240), (0, f82_242), (2, 85), (2, 86), (2, 87), (0, f82_244 + 1), (2, 88), (2, 89), (2, 90), (2, 91), (2, 92), (2, 93), (2, 94), (4, f82_246), (4, f82_247), (0, f82_248), (2, 95), (2, 96), (2, 97), (2, 98), (2, 99), (2, 100), (2, 101), (2, 102), (0, f82_250), (2, 103), (2, 104), (2, 105), (2, 106), (2, 107), (2, 108), (2, 109), (0, f82_252), (0, f82_254), (2, 110), (2, 111), (2, 112), (2, 113)]) (hb275.get (by decide) h82_256) rfl rfl rfl (fun w276 hk277 hb278 => ?_)
          have hF279 : xFr [82, 85] w207 w276 := ((xFr.of (S := [82, 85]) hb275 (by decide)).tr (xFr.of (S := [82, 85]) hb278 (by decide)))
          have hA280 := FA_fr hF279 (by decide)
          have hf281 : fld w276 82 4 = f82_230 := fld_of hk277
          have hf282 : fld w276 82 5 = f82_232 := fld_of hk277
          have hf283 : fld w276 82 7 = f82_236 := fld_of hk277
          have hf284 : fld w276 82 10 = f82_242 := fld_of hk277
          have hf285 : fld w276 82 14 = f82_244 + 1 := fld_of hk277
          have hu286 : mu w276 = 2 * (fld w276 82 4 - fld w276 82 5) + min 1 (fld w276 82 7) := rfl
          have pq287 := pk217
          unfold PK PS at pq287
          have hM288 : ∀ s, s < 7 → s ≠ 0 → rwv w276 85 s = rwv w 85 s := fun s hs hn => (rwv_of (hr274.but hb278 (by decide)) hs).trans ((if_neg hn).trans ((rwv_of h85_267 hs).symm.trans (mf220 s hs)))
          have hM289 : rwv w276 85 0 = u45 + 1 := (rwv_of (hr274.but hb278 (by decide)) (by decide)).trans ((if_pos rfl).trans (by omega))
          have hM290 : ∀ s, s < 7 → rwv w276 85 s ≤ rwv w 85 s + 1 := fun s hs => by
            by_cases z : s = 0
            · subst z; omega
            · rw [hM288 s hs z]; omega
          have hO291 : ∀ j, (j < 20 + 4 * u45 ∨ 24 + 4 * u45 ≤ j) → j < 140 → rwv w276 86 j = rwv w 86 j := fun j hj hl => (rwv_fr hF279 (by decide)).trans (os218 j hj hl)
          have hl293 : FA w207 ≠ 0 ∨ u45 < 6 := rg219
          have hl294 : rwv w276 86 (20 + 4 * u45 + 0) = rwv w207 86 (20 + 4 * u45 + 0) := rwv_fr hF279 (by decide)
          have hl295 : rwv w276 86 (20 + 4 * u45 + 1) = rwv w207 86 (20 + 4 * u45 + 1) := rwv_fr hF279 (by decide)
          have hl296 : rwv w276 86 (20 + 4 * u45 + 2) = rwv w207 86 (20 + 4 * u45 + 2) := rwv_fr hF279 (by decide)
          have hN292 : FA w276 ≠ 0 ∨ 6 ≤ u45 ∨ (1 ≤ rwv w276 86 (20 + 4 * u45 + 0) ∧ rwv w276 86 (20 + 4 * u45 + 0) ≤ 99 ∧ 1 ≤ rwv w276 86 (20 + 4 * u45 + 1) ∧ rwv w276 86 (20 + 4 * u45 + 1) ≤ 99 ∧ 1 ≤ rwv w276 86 (20 + 4 * u45 + 2) ∧ rwv w276 86 (20 + 4 * u45 + 2) ≤ 99) := by have q := nw224; omega
          have hX297 : FA w276 ≠ 0 ∨ u45 < 6 := by omega
          have hD298 : FA w276 ≠ 0 ∨ (DATA w → DATA w276) := by
            by_cases z : FA w276 ≠ 0
            · exact Or.inl z
            · exact Or.inr (fun hd => hd.s0 hM288 hK48 hM289 (hX297.resolve_left z) hO291 ((hN292.resolve_left z).resolve_left (by have := hX297.resolve_left z; omega)))
          exact xg_e ⟨w276, ⟨rfl, rfl⟩, xMnv.up (S := [85, 82]) hI209 ((xFr.of (S := [85, 82]) hb275 (by decide)).tr (xFr.of (S := [85, 82]) hb278 (by decide))) (List.forall_mem_cons.mpr ⟨(show cpI 7 52 4294967295 (wget w276 85) from ⟨_, (hr274.but hb278 (by decide)), xrb (by omega) (hb268)⟩), List.forall_mem_cons.mpr ⟨(show cp82 (wget w276 82) from ⟨f82_226, f82_228, f82_230, f82_232, f82_234, f82_236, f82_238, f82_240, f82_242, f82_244 + 1, f82_246, f82_247, f82_248, f82_250, f82_252, f82_254, hk277, hb227, hb229, hb231, hb233, hb235, hb237, hb239, hb241, hb243, by omega, hb249, hb251, hb253, hb255, by omega⟩), fun _ h => absurd h List.not_mem_nil⟩⟩), ((hF71.tr (hF210.up (by decide))).tr ((xFr.of (S := [82, 83, 85, 86, 87]) hb275 (by decide)).tr (xFr.of (S := [82, 83, 85, 86, 87]) hb278 (by decide)))), ⟨fun h => by have := pq287.1 h; omega, (show fld w276 82 10 = 0 ∨ FA w276 ≠ 0 by omega), Or.inr ⟨by have := ms225; omega, by omega, hM290⟩, hD298⟩⟩
      · refine xg_t (xg_ifT (u := f82_95) rfl xnm0 (xj_neT hc111)) ?_
        refine xg_t (xg_blk (b := [(416, 1, 0, 0, 0, 0), (417, 3, 13, 140, 96, 183)]) rfl) ?_
        refine xg_t (xg_aload (va := (2, 82)) rfl rfl) ?_
        refine xg_cVv mX12_ends (vs := []) (rest := []) (cn1 := 0) (sl1 := 0) rfl (mEnds (hI70) hj73.2.2.2) rfl h82_109 rfl rfl rfl rfl rfl rfl (fun w299 hq300 => ?_)
        obtain ⟨hI301, hF302, hx303⟩ := hq300
        clear hb80 hb82 hb84 hb86 hb88 hb90 hb92 hb94 hb96 hb98 hb102 hb104 hb106 hb108
        obtain ⟨hv304, hv305, hv306, hv307⟩ := hx303
        have pk308 : PK w69 w299 := ⟨fun _ => hv304, by omega, by omega, Or.inr hv304⟩
        have pk309 : PK w w299 := PK.tr hj73 pk308
        have os310 : ∀ j, (j < 20 + 4 * u45 ∨ 24 + 4 * u45 ≤ j) → j < 140 → rwv w299 86 j = rwv w 86 j := fun j hj hl => (rwv_fr hF302 (by decide)).trans (hj74 j hj hl)
        have rg311 : FA w299 ≠ 0 ∨ u45 < 6 := hj77.imp_left pk308.1
        have mf312 : ∀ s, s < 7 → rwv w299 85 s = rwv w 85 s := fun s hs => (rwv_fr hF302 (by decide)).trans (hj76 s hs)
        have hl313 : rwv w299 86 (20 + 4 * u45 + 0) = rwv w69 86 (20 + 4 * u45 + 0) := rwv_fr hF302 (by decide)
        have hl314 : rwv w299 86 (20 + 4 * u45 + 1) = rwv w69 86 (20 + 4 * u45 + 1) := rwv_fr hF302 (by decide)
        have hl315 : rwv w299 86 (20 + 4 * u45 + 2) = rwv w69 86 (20 + 4 * u45 + 2) := rwv_fr hF302 (by decide)
        have nw316 : FA w299 ≠ 0 ∨ 6 ≤ u45 ∨ (1 ≤ rwv w299 86 (20 + 4 * u45 + 0) ∧ rwv w299 86 (20 + 4 * u45 + 0) ≤ 99 ∧ 1 ≤ rwv w299 86 (20 + 4 * u45 + 1) ∧ rwv w299 86 (20 + 4 * u45 + 1) ≤ 99 ∧ 1 ≤ rwv w299 86 (20 + 4 * u45 + 2) ∧ rwv w299 86 (20 + 4 * u45 + 2) ≤ 99) := by have q := hj78; have q1 := pk308.1; omega
        clear hj78
        have ms317 : mu w299 < mu w := Nat.lt_of_le_of_lt pk308.2.1 hj75
        clear hj77
        refine xg_t (xg_blk (b := [(420, 1, 0, 0, 0, 0), (421, 3, 1, 12, 11, 17), (424, 1, 2, 1, 0, 0), (425, 1, 39, 0, 0, 0), (426, 1, 10, 0, 0, 0), (427, 1, 3, 1, 0, 0), (428, 1, 11, 0, 0, 0), (429, 1, 17, 0, 0, 0), (430, 1, 0, 0, 0, 0), (431, 1, 19, 0, 0, 0), (432, 3, 1, 12, 14, 212), (435, 1, 3, 1, 0, 0), (436, 1, 11, 0, 0, 0), (437, 3, 14, 12, 14, 212), (440, 1, 12, 0, 0, 0)]) rfl) ?_
        obtain ⟨f82_318, f82_320, f82_322, f82_324, f82_326, f82_328, f82_330, f82_332, f82_334, f82_336, f82_338, f82_339, f82_340, f82_342, f82_344, f82_346, h82_348, hb319, hb321, hb323, hb325, hb327, hb329, hb331, hb333, hb335, hb337, hb341, hb343, hb345, hb347, hb349⟩ := (hI301 82 (by decide) (by decide) : cp82 (wget w299 82))
        have hf350 : fld w299 82 4 = f82_322 := fld_of h82_348
        have hf351 : fld w299 82 5 = f82_324 := fld_of h82_348
        have hf352 : fld w299 82 7 = f82_328 := fld_of h82_348
        have hf353 : fld w299 82 10 = f82_334 := fld_of h82_348
        have hf354 : fld w299 82 14 = f82_336 := fld_of h82_348
        have hu355 : mu w299 = 2 * (fld w299 82 4 - fld w299 82 5) + min 1 (fld w299 82 7) := rfl
        have hf356 := pk309.2.2.1
        have hl357 : f82_336 ≤ 1000 := by omega
        refine xg_t (xg_aload (va := (2, 82)) rfl rfl) ?_
        refine xg_t (xg_getf (va := (2, 85)) h82_348 rfl) ?_
        refine xg_t (xg_iload (va := (0, 0)) rfl rfl) ?_
        refine xg_t (xg_dup2 rfl) ?_
        obtain ⟨g85_358, h85_359, hb360⟩ := (hI301 85 (by decide) (by decide) : cpI 7 52 4294967295 (wget w299 85))
        have h85_359 : xRow w299 85 7 52 g85_358 := h85_359
        refine xg_ialdB (n := 0) (B := 4294967295) h85_359 (hb360) xnm0 (by omega) (fun u361 hu362 he363 => ?_)
        have hl364 : u361 = u45 := by have q1 := rwv_of h85_359 (show 0 < 7 by decide); have q2 := mf312 0 (by decide); omega
        refine xg_t (xg_const) ?_
        refine xg_t (xg_iadd (u := u361) (v := 1) (z := u361 + 1) xnm0 xnm0 (by omega)) ?_
        refine xg_iastK (n := 0) (u := u361 + 1) h85_359 xnm0 xnm0 rfl (by omega) (fun w365 hr366 hb367 => ?_)
        refine xg_t (xg_aload (va := (2, 82)) rfl rfl) ?_
        refine xg_t (xg_dup rfl) ?_
        refine xg_t (xg_getf (va := (0, f82_336)) (hb367.get (by decide) h82_348) rfl) ?_
        refine xg_t (xg_const) ?_
        refine xg_t (xg_iadd (u := f82_336) (v := 1) (z := f82_336 + 1) xnm0 xnm0 (by omega)) ?_
        refine xg_putI (fl1 := [(2, 83), (2, 84), (0, f82_318), (0, f82_320), (0, f82_322), (0, f82_324), (0, f82_326), (0, f82_328), (0, f82_330), (0, f82_332), (0, f82_334), (2, 85), (2, 86), (2, 87), (0, f82_336 + 1), (2, 88), (2, 89), (2, 90), (2, 91), (2, 92), (2, 93), (2, 94), (4, f82_338), (4, f82_339), (0, f82_340), (2, 95), (2, 96), (2, 97), (2, 98), (2, 99), (2, 100), (2, 101), (2, 102), (0, f82_342), (2, 103), (2, 104), (2, 105), (2, 106), (2, 107), (2, 108), (2, 109), (0, f82_344), (0, f82_346), (2, 110), (2, 111), (2, 112), (2, 113)]) (hb367.get (by decide) h82_348) rfl rfl rfl (fun w368 hk369 hb370 => ?_)
        have hF371 : xFr [82, 85] w299 w368 := ((xFr.of (S := [82, 85]) hb367 (by decide)).tr (xFr.of (S := [82, 85]) hb370 (by decide)))
        have hA372 := FA_fr hF371 (by decide)
        have hf373 : fld w368 82 4 = f82_322 := fld_of hk369
        have hf374 : fld w368 82 5 = f82_324 := fld_of hk369
        have hf375 : fld w368 82 7 = f82_328 := fld_of hk369
        have hf376 : fld w368 82 10 = f82_334 := fld_of hk369
        have hf377 : fld w368 82 14 = f82_336 + 1 := fld_of hk369
        have hu378 : mu w368 = 2 * (fld w368 82 4 - fld w368 82 5) + min 1 (fld w368 82 7) := rfl
        have pq379 := pk309
        unfold PK PS at pq379
        have hM380 : ∀ s, s < 7 → s ≠ 0 → rwv w368 85 s = rwv w 85 s := fun s hs hn => (rwv_of (hr366.but hb370 (by decide)) hs).trans ((if_neg hn).trans ((rwv_of h85_359 hs).symm.trans (mf312 s hs)))
        have hM381 : rwv w368 85 0 = u45 + 1 := (rwv_of (hr366.but hb370 (by decide)) (by decide)).trans ((if_pos rfl).trans (by omega))
        have hM382 : ∀ s, s < 7 → rwv w368 85 s ≤ rwv w 85 s + 1 := fun s hs => by
          by_cases z : s = 0
          · subst z; omega
          · rw [hM380 s hs z]; omega
        have hO383 : ∀ j, (j < 20 + 4 * u45 ∨ 24 + 4 * u45 ≤ j) → j < 140 → rwv w368 86 j = rwv w 86 j := fun j hj hl => (rwv_fr hF371 (by decide)).trans (os310 j hj hl)
        have hl385 : FA w299 ≠ 0 ∨ u45 < 6 := rg311
        have hl386 : rwv w368 86 (20 + 4 * u45 + 0) = rwv w299 86 (20 + 4 * u45 + 0) := rwv_fr hF371 (by decide)
        have hl387 : rwv w368 86 (20 + 4 * u45 + 1) = rwv w299 86 (20 + 4 * u45 + 1) := rwv_fr hF371 (by decide)
        have hl388 : rwv w368 86 (20 + 4 * u45 + 2) = rwv w299 86 (20 + 4 * u45 + 2) := rwv_fr hF371 (by decide)
        have hN384 : FA w368 ≠ 0 ∨ 6 ≤ u45 ∨ (1 ≤ rwv w368 86 (20 + 4 * u45 + 0) ∧ rwv w368 86 (20 + 4 * u45 + 0) ≤ 99 ∧ 1 ≤ rwv w368 86 (20 + 4 * u45 + 1) ∧ rwv w368 86 (20 + 4 * u45 + 1) ≤ 99 ∧ 1 ≤ rwv w368 86 (20 + 4 * u45 + 2) ∧ rwv w368 86 (20 + 4 * u45 + 2) ≤ 99) := by have q := nw316; omega
        have hX389 : FA w368 ≠ 0 ∨ u45 < 6 := by omega
        have hD390 : FA w368 ≠ 0 ∨ (DATA w → DATA w368) := by
          by_cases z : FA w368 ≠ 0
          · exact Or.inl z
          · exact Or.inr (fun hd => hd.s0 hM380 hK48 hM381 (hX389.resolve_left z) hO383 ((hN384.resolve_left z).resolve_left (by have := hX389.resolve_left z; omega)))
        exact xg_e ⟨w368, ⟨rfl, rfl⟩, xMnv.up (S := [85, 82]) hI301 ((xFr.of (S := [85, 82]) hb367 (by decide)).tr (xFr.of (S := [85, 82]) hb370 (by decide))) (List.forall_mem_cons.mpr ⟨(show cpI 7 52 4294967295 (wget w368 85) from ⟨_, (hr366.but hb370 (by decide)), xrb (by omega) (hb360)⟩), List.forall_mem_cons.mpr ⟨(show cp82 (wget w368 82) from ⟨f82_318, f82_320, f82_322, f82_324, f82_326, f82_328, f82_330, f82_332, f82_334, f82_336 + 1, f82_338, f82_339, f82_340, f82_342, f82_344, f82_346, hk369, hb319, hb321, hb323, hb325, hb327, hb329, hb331, hb333, hb335, by omega, hb341, hb343, hb345, hb347, by omega⟩), fun _ h => absurd h List.not_mem_nil⟩⟩), ((hF71.tr (hF302.up (by decide))).tr ((xFr.of (S := [82, 83, 85, 86, 87]) hb367 (by decide)).tr (xFr.of (S := [82, 83, 85, 86, 87]) hb370 (by decide)))), ⟨fun h => by have := pq379.1 h; omega, (show fld w368 82 10 = 0 ∨ FA w368 ≠ 0 by omega), Or.inr ⟨by have := ms317; omega, by omega, hM382⟩, hD390⟩⟩
    refine xg_t (xg_iload (va := (0, 0)) rfl rfl) ?_
    refine xg_t (xg_swt (ks := [(0, 108), (1, 116), (2, 180), (3, 221), (4, 273), (5, 326)]) (u := 0) (z := 108) rfl rfl rfl xnm0 (xsw_y rfl)) ?_
    refine xg_t (xg_blk (b := [(108, 1, 0, 0, 0, 0), (109, 1, 2, 3, 0, 0), (110, 3, 13, 106, 96, 204), (113, 3, 8, 394, 0, 0)]) rfl) ?_
    refine xg_t (xg_aload (va := (2, 82)) rfl rfl) ?_
    refine xg_t (xg_iload (va := (0, u45)) rfl rfl) ?_
    obtain ⟨f82_391, f82_393, f82_395, f82_397, f82_399, f82_401, f82_403, f82_405, f82_407, f82_409, f82_411, f82_412, f82_413, f82_415, f82_417, f82_419, h82_421, hb392, hb394, hb396, hb398, hb400, hb402, hb404, hb406, hb408, hb410, hb414, hb416, hb418, hb420, hb422⟩ := (hI54 82 (by decide) (by decide) : cp82 (wget w52 82))
    refine xg_cVv mX12_aLayer (vs := [(0, u45)]) (rest := []) (cn1 := 0) (sl1 := 0) rfl (mALayer (hI54) (by omega) pk64.2.2.2) rfl h82_421 rfl rfl rfl rfl rfl rfl (fun w423 hq424 => ?_)
    obtain ⟨hI425, hF426, hx427⟩ := hq424
    clear hb392 hb394 hb396 hb398 hb400 hb402 hb404 hb406 hb408 hb410 hb414 hb416 hb418 hb420
    obtain ⟨pk428, os429, ly430⟩ := hx427
    have pk431 : PK w w423 := PK.tr pk64 pk428
    have os432 : ∀ j, (j < 20 + 4 * u45 ∨ 24 + 4 * u45 ≤ j) → j < 140 → rwv w423 86 j = rwv w 86 j := fun j hj hl => (os429 j hj hl).trans (os65 j hj hl)
    have mf433 : ∀ s, s < 7 → rwv w423 85 s = rwv w 85 s := fun s hs => (rwv_fr hF426 (by decide)).trans (mf66 s hs)
    have ms434 : mu w423 < mu w := Nat.lt_of_le_of_lt pk428.2.1 ms67
    refine xg_t (xg_goto) ?_
    refine xg_t (xg_drop (l1 := [(0, (2, 82)), (1, (0, 0)), (3, (0, u45))]) (List.forall_mem_cons.mpr ⟨List.mem_cons_of_mem _ (List.mem_cons_of_mem _ (List.mem_cons_of_mem _ (List.mem_cons_self))), List.forall_mem_cons.mpr ⟨List.mem_cons_of_mem _ (List.mem_cons_of_mem _ (List.mem_cons_self)), List.forall_mem_cons.mpr ⟨List.mem_cons_self, fun _ h => absurd h List.not_mem_nil⟩⟩⟩)) ?_
    have hX435 : FA w423 ≠ 0 ∨ u45 < 6 := Or.inr (by omega)
    exact jn68 w423 (hI425) (((hF55.up (by decide)).tr (hF426.up (by decide)))) (⟨pk431, os432, ms434, mf433, hX435, ly430⟩)
  · refine xg_t (xg_icF (u := u45) (v := 6) rfl xnm0 xnm0 (xj_ltF (by omega) (by omega))) ?_
    refine xg_t (xg_aload (va := (2, 82)) rfl rfl) ?_
    refine xg_t (xg_const) ?_
    refine xg_t (xg_iload (va := (0, at_)) rfl rfl) ?_
    refine xg_cVv mX12_also (vs := [(0, 3), (0, at_)]) (rest := []) (cn1 := 0) (sl1 := 0) rfl (mAlso (hI) (by omega) (by omega) (by omega) (PK.rf hps).2.2.2) rfl h82_31 rfl rfl rfl rfl rfl rfl (fun w437 hq438 => ?_)
    obtain ⟨hI439, hF440, hx441⟩ := hq438
    have pk442 : PK w w437 := ⟨fun _ => hx441, Nat.le_of_eq (mu_fr hF440 (by decide)), fld_fr hF440 (by decide), Or.inr hx441⟩
    have pk443 : PK w w437 := PK.tr (PK.rf hps) pk442
    have os444 : ∀ j, (j < 20 + 4 * u45 ∨ 24 + 4 * u45 ≤ j) → j < 140 → rwv w437 86 j = rwv w 86 j := fun j hj hl => (rwv_fr hF440 (by decide)).trans ((fun j _ _ => rfl) j hj hl)
    have mf445 : ∀ s, s < 7 → rwv w437 85 s = rwv w 85 s := fun s hs => (rwv_fr hF440 (by decide)).trans ((fun _ _ => rfl) s hs)
    have hf446 := fld_fr (c := 82) (j := 7) hF440 (by decide)
    refine xg_t (xg_blk (b := [(64, 1, 0, 0, 0, 0), (65, 3, 13, 110, 96, 190), (68, 1, 2, 1, 0, 0), (69, 39, 33, 362, 0, 9)]) rfl) ?_
    refine xg_t (xg_aload (va := (2, 82)) rfl rfl) ?_
    refine xg_cVv mX12_advance (vs := []) (rest := []) (cn1 := 0) (sl1 := 0) rfl (mAdvance (hI439)) rfl (hF440.get (by decide) h82_31) rfl rfl rfl rfl rfl rfl (fun w447 hq448 => ?_)
    obtain ⟨hI449, hF450, hx451⟩ := hq448
    clear hb2 hb4 hb6 hb8 hb10 hb12 hb14 hb16 hb18 hb20 hb24 hb26 hb28 hb30
    obtain ⟨hv452, hv453, hv454, hv455⟩ := hx451
    have hf457 := FA_fr hF450 (by decide)
    have hs458 := pk443.2.2.2
    unfold PS at hs458
    have pk456 : PK w437 w447 := ⟨fun _ => by omega, hv452, hv455, (show fld w447 82 10 = 0 ∨ FA w447 ≠ 0 by omega)⟩
    clear hs458
    have pk459 : PK w w447 := PK.tr pk443 pk456
    have os460 : ∀ j, (j < 20 + 4 * u45 ∨ 24 + 4 * u45 ≤ j) → j < 140 → rwv w447 86 j = rwv w 86 j := fun j hj hl => (rwv_fr hF450 (by decide)).trans (os444 j hj hl)
    have rg461 : FA w447 ≠ 0 ∨ 0 = 1 := (Or.inl hx441 : FA w437 ≠ 0 ∨ 0 = 1).imp_left pk456.1
    have mf462 : ∀ s, s < 7 → rwv w447 85 s = rwv w 85 s := fun s hs => (rwv_fr hF450 (by decide)).trans (mf445 s hs)
    have ms463 : mu w447 < mu w := Nat.lt_of_lt_of_le (hv453 (by omega)) pk443.2.1
    clear hv453
    have jn464 : ∀ (w465 : List (List xE)), xMnv w465 → xFr [82, 83, 85, 86, 87] w w465 → (PK w w465 ∧ (∀ j, (j < 20 + 4 * u45 ∨ 24 + 4 * u45 ≤ j) → j < 140 → rwv w465 86 j = rwv w 86 j) ∧ mu w465 < mu w ∧ (∀ s, s < 7 → rwv w465 85 s = rwv w 85 s) ∧ (FA w465 ≠ 0 ∨ u45 < 6) ∧ (FA w465 ≠ 0 ∨ 6 ≤ u45 ∨ (1 ≤ rwv w465 86 (20 + 4 * u45 + 0) ∧ rwv w465 86 (20 + 4 * u45 + 0) ≤ 99 ∧ 1 ≤ rwv w465 86 (20 + 4 * u45 + 1) ∧ rwv w465 86 (20 + 4 * u45 + 1) ≤ 99 ∧ 1 ≤ rwv w465 86 (20 + 4 * u45 + 2) ∧ rwv w465 86 (20 + 4 * u45 + 2) ≤ 99))) → xTo (d + 7) mX12_aLine (394, [], [(0, (2, 82)), (1, (0, 0)), (3, (0, u45))], [], (w465, bd, fc, 0, 0, rr)) (fun φ => ∃ w', xEnd 0 [] (w', bd, fc, 0, 0, rr) φ ∧ xMnv w' ∧ xFr [82, 83, 85, 86, 87] w w' ∧ ((FA w ≠ 0 → FA w' ≠ 0) ∧ PS w' ∧ ((fld w' 82 10 = 1 ∧ mu w' = mu w ∧ fld w' 82 14 = fld w 82 14 ∧ ∀ s, s < 7 → rwv w' 85 s = rwv w 85 s) ∨ (mu w' < mu w ∧ fld w' 82 14 = fld w 82 14 + 1 ∧ ∀ s, s < 7 → rwv w' 85 s ≤ rwv w 85 s + 1)) ∧ (FA w' ≠ 0 ∨ (DATA w → DATA w')))) := by
      intro w465 hI466 hF467 he468
      obtain ⟨hj469, hj470, hj471, hj472, hj473, hj474⟩ := he468
      refine xg_t (xg_blk (b := [(394, 1, 0, 0, 0, 0), (395, 3, 1, 12, 10, 180), (398, 3, 7, 416, 1, 0), (401, 1, 0, 0, 0, 0), (402, 3, 1, 12, 7, 151), (405, 1, 3, 2, 0, 0), (406, 3, 6, 416, 1, 0), (409, 1, 0, 0, 0, 0), (410, 3, 13, 110, 96, 190), (413, 3, 8, 420, 0, 0)]) rfl) ?_
      refine xg_t (xg_aload (va := (2, 82)) rfl rfl) ?_
      obtain ⟨f82_475, f82_477, f82_479, f82_481, f82_483, f82_485, f82_487, f82_489, f82_491, f82_493, f82_495, f82_496, f82_497, f82_499, f82_501, f82_503, h82_505, hb476, hb478, hb480, hb482, hb484, hb486, hb488, hb490, hb492, hb494, hb498, hb500, hb502, hb504, hb506⟩ := (hI466 82 (by decide) (by decide) : cp82 (wget w465 82))
      refine xg_t (xg_getf (va := (0, f82_491)) h82_505 rfl) ?_
      by_cases hc507 : f82_491 = 0
      · refine xg_t (xg_ifF (u := f82_491) rfl xnm0 (xj_neF hc507)) ?_
        refine xg_t (xg_aload (va := (2, 82)) rfl rfl) ?_
        refine xg_t (xg_getf (va := (0, f82_485)) h82_505 rfl) ?_
        refine xg_t (xg_const) ?_
        by_cases hc508 : f82_485 = 2
        · refine xg_t (xg_icF (u := f82_485) (v := 2) rfl xnm0 xnm0 (xj_neF hc508)) ?_
          refine xg_t (xg_aload (va := (2, 82)) rfl rfl) ?_
          refine xg_cVv mX12_advance (vs := []) (rest := []) (cn1 := 0) (sl1 := 0) rfl (mAdvance (hI466)) rfl h82_505 rfl rfl rfl rfl rfl rfl (fun w509 hq510 => ?_)
          obtain ⟨hI511, hF512, hx513⟩ := hq510
          clear hb476 hb478 hb480 hb482 hb484 hb486 hb488 hb490 hb492 hb494 hb498 hb500 hb502 hb504
          obtain ⟨hv514, hv515, hv516, hv517⟩ := hx513
          have hf519 := FA_fr hF512 (by decide)
          have hs520 := hj469.2.2.2
          unfold PS at hs520
          have pk518 : PK w465 w509 := ⟨fun _ => by omega, hv514, hv517, (show fld w509 82 10 = 0 ∨ FA w509 ≠ 0 by omega)⟩
          clear hs520
          clear hv515
          have pk521 : PK w w509 := PK.tr hj469 pk518
          have os522 : ∀ j, (j < 20 + 4 * u45 ∨ 24 + 4 * u45 ≤ j) → j < 140 → rwv w509 86 j = rwv w 86 j := fun j hj hl => (rwv_fr hF512 (by decide)).trans (hj470 j hj hl)
          have rg523 : FA w509 ≠ 0 ∨ u45 < 6 := hj473.imp_left pk518.1
          have mf524 : ∀ s, s < 7 → rwv w509 85 s = rwv w 85 s := fun s hs => (rwv_fr hF512 (by decide)).trans (hj472 s hs)
          have hl525 : rwv w509 86 (20 + 4 * u45 + 0) = rwv w465 86 (20 + 4 * u45 + 0) := rwv_fr hF512 (by decide)
          have hl526 : rwv w509 86 (20 + 4 * u45 + 1) = rwv w465 86 (20 + 4 * u45 + 1) := rwv_fr hF512 (by decide)
          have hl527 : rwv w509 86 (20 + 4 * u45 + 2) = rwv w465 86 (20 + 4 * u45 + 2) := rwv_fr hF512 (by decide)
          have nw528 : FA w509 ≠ 0 ∨ 6 ≤ u45 ∨ (1 ≤ rwv w509 86 (20 + 4 * u45 + 0) ∧ rwv w509 86 (20 + 4 * u45 + 0) ≤ 99 ∧ 1 ≤ rwv w509 86 (20 + 4 * u45 + 1) ∧ rwv w509 86 (20 + 4 * u45 + 1) ≤ 99 ∧ 1 ≤ rwv w509 86 (20 + 4 * u45 + 2) ∧ rwv w509 86 (20 + 4 * u45 + 2) ≤ 99) := by have q := hj474; have q1 := pk518.1; omega
          clear hj474
          have ms529 : mu w509 < mu w := Nat.lt_of_le_of_lt pk518.2.1 hj471
          clear hj473
          refine xg_t (xg_goto) ?_
          refine xg_t (xg_blk (b := [(420, 1, 0, 0, 0, 0), (421, 3, 1, 12, 11, 17), (424, 1, 2, 1, 0, 0), (425, 1, 39, 0, 0, 0), (426, 1, 10, 0, 0, 0), (427, 1, 3, 1, 0, 0), (428, 1, 11, 0, 0, 0), (429, 1, 17, 0, 0, 0), (430, 1, 0, 0, 0, 0), (431, 1, 19, 0, 0, 0), (432, 3, 1, 12, 14, 212), (435, 1, 3, 1, 0, 0), (436, 1, 11, 0, 0, 0), (437, 3, 14, 12, 14, 212), (440, 1, 12, 0, 0, 0)]) rfl) ?_
          obtain ⟨f82_530, f82_532, f82_534, f82_536, f82_538, f82_540, f82_542, f82_544, f82_546, f82_548, f82_550, f82_551, f82_552, f82_554, f82_556, f82_558, h82_560, hb531, hb533, hb535, hb537, hb539, hb541, hb543, hb545, hb547, hb549, hb553, hb555, hb557, hb559, hb561⟩ := (hI511 82 (by decide) (by decide) : cp82 (wget w509 82))
          have hf562 : fld w509 82 4 = f82_534 := fld_of h82_560
          have hf563 : fld w509 82 5 = f82_536 := fld_of h82_560
          have hf564 : fld w509 82 7 = f82_540 := fld_of h82_560
          have hf565 : fld w509 82 10 = f82_546 := fld_of h82_560
          have hf566 : fld w509 82 14 = f82_548 := fld_of h82_560
          have hu567 : mu w509 = 2 * (fld w509 82 4 - fld w509 82 5) + min 1 (fld w509 82 7) := rfl
          have hf568 := pk521.2.2.1
          have hl569 : f82_548 ≤ 1000 := by omega
          refine xg_t (xg_aload (va := (2, 82)) rfl rfl) ?_
          refine xg_t (xg_getf (va := (2, 85)) h82_560 rfl) ?_
          refine xg_t (xg_iload (va := (0, 0)) rfl rfl) ?_
          refine xg_t (xg_dup2 rfl) ?_
          obtain ⟨g85_570, h85_571, hb572⟩ := (hI511 85 (by decide) (by decide) : cpI 7 52 4294967295 (wget w509 85))
          have h85_571 : xRow w509 85 7 52 g85_570 := h85_571
          refine xg_ialdB (n := 0) (B := 4294967295) h85_571 (hb572) xnm0 (by omega) (fun u573 hu574 he575 => ?_)
          have hl576 : u573 = u45 := by have q1 := rwv_of h85_571 (show 0 < 7 by decide); have q2 := mf524 0 (by decide); omega
          refine xg_t (xg_const) ?_
          refine xg_t (xg_iadd (u := u573) (v := 1) (z := u573 + 1) xnm0 xnm0 (by omega)) ?_
          refine xg_iastK (n := 0) (u := u573 + 1) h85_571 xnm0 xnm0 rfl (by omega) (fun w577 hr578 hb579 => ?_)
          refine xg_t (xg_aload (va := (2, 82)) rfl rfl) ?_
          refine xg_t (xg_dup rfl) ?_
          refine xg_t (xg_getf (va := (0, f82_548)) (hb579.get (by decide) h82_560) rfl) ?_
          refine xg_t (xg_const) ?_
          refine xg_t (xg_iadd (u := f82_548) (v := 1) (z := f82_548 + 1) xnm0 xnm0 (by omega)) ?_
          refine xg_putI (fl1 := [(2, 83), (2, 84), (0, f82_530), (0, f82_532), (0, f82_534), (0, f82_536), (0, f82_538), (0, f82_540), (0, f82_542), (0, f82_544), (0, f82_546), (2, 85), (2, 86), (2, 87), (0, f82_548 + 1), (2, 88), (2, 89), (2, 90), (2, 91), (2, 92), (2, 93), (2, 94), (4, f82_550), (4, f82_551), (0, f82_552), (2, 95), (2, 96), (2, 97), (2, 98), (2, 99), (2, 100), (2, 101), (2, 102), (0, f82_554), (2, 103), (2, 104), (2, 105), (2, 106), (2, 107), (2, 108), (2, 109), (0, f82_556), (0, f82_558), (2, 110), (2, 111), (2, 112), (2, 113)]) (hb579.get (by decide) h82_560) rfl rfl rfl (fun w580 hk581 hb582 => ?_)
          have hF583 : xFr [82, 85] w509 w580 := ((xFr.of (S := [82, 85]) hb579 (by decide)).tr (xFr.of (S := [82, 85]) hb582 (by decide)))
          have hA584 := FA_fr hF583 (by decide)
          have hf585 : fld w580 82 4 = f82_534 := fld_of hk581
          have hf586 : fld w580 82 5 = f82_536 := fld_of hk581
          have hf587 : fld w580 82 7 = f82_540 := fld_of hk581
          have hf588 : fld w580 82 10 = f82_546 := fld_of hk581
          have hf589 : fld w580 82 14 = f82_548 + 1 := fld_of hk581
          have hu590 : mu w580 = 2 * (fld w580 82 4 - fld w580 82 5) + min 1 (fld w580 82 7) := rfl
          have pq591 := pk521
          unfold PK PS at pq591
          have hM592 : ∀ s, s < 7 → s ≠ 0 → rwv w580 85 s = rwv w 85 s := fun s hs hn => (rwv_of (hr578.but hb582 (by decide)) hs).trans ((if_neg hn).trans ((rwv_of h85_571 hs).symm.trans (mf524 s hs)))
          have hM593 : rwv w580 85 0 = u45 + 1 := (rwv_of (hr578.but hb582 (by decide)) (by decide)).trans ((if_pos rfl).trans (by omega))
          have hM594 : ∀ s, s < 7 → rwv w580 85 s ≤ rwv w 85 s + 1 := fun s hs => by
            by_cases z : s = 0
            · subst z; omega
            · rw [hM592 s hs z]; omega
          have hO595 : ∀ j, (j < 20 + 4 * u45 ∨ 24 + 4 * u45 ≤ j) → j < 140 → rwv w580 86 j = rwv w 86 j := fun j hj hl => (rwv_fr hF583 (by decide)).trans (os522 j hj hl)
          have hl597 : FA w509 ≠ 0 ∨ u45 < 6 := rg523
          have hl598 : rwv w580 86 (20 + 4 * u45 + 0) = rwv w509 86 (20 + 4 * u45 + 0) := rwv_fr hF583 (by decide)
          have hl599 : rwv w580 86 (20 + 4 * u45 + 1) = rwv w509 86 (20 + 4 * u45 + 1) := rwv_fr hF583 (by decide)
          have hl600 : rwv w580 86 (20 + 4 * u45 + 2) = rwv w509 86 (20 + 4 * u45 + 2) := rwv_fr hF583 (by decide)
          have hN596 : FA w580 ≠ 0 ∨ 6 ≤ u45 ∨ (1 ≤ rwv w580 86 (20 + 4 * u45 + 0) ∧ rwv w580 86 (20 + 4 * u45 + 0) ≤ 99 ∧ 1 ≤ rwv w580 86 (20 + 4 * u45 + 1) ∧ rwv w580 86 (20 + 4 * u45 + 1) ≤ 99 ∧ 1 ≤ rwv w580 86 (20 + 4 * u45 + 2) ∧ rwv w580 86 (20 + 4 * u45 + 2) ≤ 99) := by have q := nw528; omega
          have hX601 : FA w580 ≠ 0 ∨ u45 < 6 := by omega
          have hD602 : FA w580 ≠ 0 ∨ (DATA w → DATA w580) := by
            by_cases z : FA w580 ≠ 0
            · exact Or.inl z
            · exact Or.inr (fun hd => hd.s0 hM592 hK48 hM593 (hX601.resolve_left z) hO595 ((hN596.resolve_left z).resolve_left (by have := hX601.resolve_left z; omega)))
          exact xg_e ⟨w580, ⟨rfl, rfl⟩, xMnv.up (S := [85, 82]) hI511 ((xFr.of (S := [85, 82]) hb579 (by decide)).tr (xFr.of (S := [85, 82]) hb582 (by decide))) (List.forall_mem_cons.mpr ⟨(show cpI 7 52 4294967295 (wget w580 85) from ⟨_, (hr578.but hb582 (by decide)), xrb (by omega) (hb572)⟩), List.forall_mem_cons.mpr ⟨(show cp82 (wget w580 82) from ⟨f82_530, f82_532, f82_534, f82_536, f82_538, f82_540, f82_542, f82_544, f82_546, f82_548 + 1, f82_550, f82_551, f82_552, f82_554, f82_556, f82_558, hk581, hb531, hb533, hb535, hb537, hb539, hb541, hb543, hb545, hb547, by omega, hb553, hb555, hb557, hb559, by omega⟩), fun _ h => absurd h List.not_mem_nil⟩⟩), ((hF467.tr (hF512.up (by decide))).tr ((xFr.of (S := [82, 83, 85, 86, 87]) hb579 (by decide)).tr (xFr.of (S := [82, 83, 85, 86, 87]) hb582 (by decide)))), ⟨fun h => by have := pq591.1 h; omega, (show fld w580 82 10 = 0 ∨ FA w580 ≠ 0 by omega), Or.inr ⟨by have := ms529; omega, by omega, hM594⟩, hD602⟩⟩
        · refine xg_t (xg_icT (u := f82_485) (v := 2) rfl xnm0 xnm0 (xj_neT hc508)) ?_
          refine xg_t (xg_blk (b := [(416, 1, 0, 0, 0, 0), (417, 3, 13, 140, 96, 183)]) rfl) ?_
          refine xg_t (xg_aload (va := (2, 82)) rfl rfl) ?_
          refine xg_cVv mX12_ends (vs := []) (rest := []) (cn1 := 0) (sl1 := 0) rfl (mEnds (hI466) hj469.2.2.2) rfl h82_505 rfl rfl rfl rfl rfl rfl (fun w603 hq604 => ?_)
          obtain ⟨hI605, hF606, hx607⟩ := hq604
          clear hb476 hb478 hb480 hb482 hb484 hb486 hb488 hb490 hb492 hb494 hb498 hb500 hb502 hb504
          obtain ⟨hv608, hv609, hv610, hv611⟩ := hx607
          have pk612 : PK w465 w603 := ⟨fun _ => hv608, by omega, by omega, Or.inr hv608⟩
          have pk613 : PK w w603 := PK.tr hj469 pk612
          have os614 : ∀ j, (j < 20 + 4 * u45 ∨ 24 + 4 * u45 ≤ j) → j < 140 → rwv w603 86 j = rwv w 86 j := fun j hj hl => (rwv_fr hF606 (by decide)).trans (hj470 j hj hl)
          have rg615 : FA w603 ≠ 0 ∨ u45 < 6 := hj473.imp_left pk612.1
          have mf616 : ∀ s, s < 7 → rwv w603 85 s = rwv w 85 s := fun s hs => (rwv_fr hF606 (by decide)).trans (hj472 s hs)
          have hl617 : rwv w603 86 (20 + 4 * u45 + 0) = rwv w465 86 (20 + 4 * u45 + 0) := rwv_fr hF606 (by decide)
          have hl618 : rwv w603 86 (20 + 4 * u45 + 1) = rwv w465 86 (20 + 4 * u45 + 1) := rwv_fr hF606 (by decide)
          have hl619 : rwv w603 86 (20 + 4 * u45 + 2) = rwv w465 86 (20 + 4 * u45 + 2) := rwv_fr hF606 (by decide)
          have nw620 : FA w603 ≠ 0 ∨ 6 ≤ u45 ∨ (1 ≤ rwv w603 86 (20 + 4 * u45 + 0) ∧ rwv w603 86 (20 + 4 * u45 + 0) ≤ 99 ∧ 1 ≤ rwv w603 86 (20 + 4 * u45 + 1) ∧ rwv w603 86 (20 + 4 * u45 + 1) ≤ 99 ∧ 1 ≤ rwv w603 86 (20 + 4 * u45 + 2) ∧ rwv w603 86 (20 + 4 * u45 + 2) ≤ 99) := by have q := hj474; have q1 := pk612.1; omega
          clear hj474
          have ms621 : mu w603 < mu w := Nat.lt_of_le_of_lt pk612.2.1 hj471
          clear hj473
          refine xg_t (xg_blk (b := [(420, 1, 0, 0, 0, 0), (421, 3, 1, 12, 11, 17), (424, 1, 2, 1, 0, 0), (425, 1, 39, 0, 0, 0), (426, 1, 10, 0, 0, 0), (427, 1, 3, 1, 0, 0), (428, 1, 11, 0, 0, 0), (429, 1, 17, 0, 0, 0), (430, 1, 0, 0, 0, 0), (431, 1, 19, 0, 0, 0), (432, 3, 1, 12, 14, 212), (435, 1, 3, 1, 0, 0), (436, 1, 11, 0, 0, 0), (437, 3, 14, 12, 14, 212), (440, 1, 12, 0, 0, 0)]) rfl) ?_
          obtain ⟨f82_622, f82_624, f82_626, f82_628, f82_630, f82_632, f82_634, f82_636, f82_638, f82_640, f82_642, f82_643, f82_644, f82_646, f82_648, f82_650, h82_652, hb623, hb625, hb627, hb629, hb631, hb633, hb635, hb637, hb639, hb641, hb645, hb647, hb649, hb651, hb653⟩ := (hI605 82 (by decide) (by decide) : cp82 (wget w603 82))
          have hf654 : fld w603 82 4 = f82_626 := fld_of h82_652
          have hf655 : fld w603 82 5 = f82_628 := fld_of h82_652
          have hf656 : fld w603 82 7 = f82_632 := fld_of h82_652
          have hf657 : fld w603 82 10 = f82_638 := fld_of h82_652
          have hf658 : fld w603 82 14 = f82_640 := fld_of h82_652
          have hu659 : mu w603 = 2 * (fld w603 82 4 - fld w603 82 5) + min 1 (fld w603 82 7) := rfl
          have hf660 := pk613.2.2.1
          have hl661 : f82_640 ≤ 1000 := by omega
          refine xg_t (xg_aload (va := (2, 82)) rfl rfl) ?_
          refine xg_t (xg_getf (va := (2, 85)) h82_652 rfl) ?_
          refine xg_t (xg_iload (va := (0, 0)) rfl rfl) ?_
          refine xg_t (xg_dup2 rfl) ?_
          obtain ⟨g85_662, h85_663, hb664⟩ := (hI605 85 (by decide) (by decide) : cpI 7 52 4294967295 (wget w603 85))
          have h85_663 : xRow w603 85 7 52 g85_662 := h85_663
          refine xg_ialdB (n := 0) (B := 4294967295) h85_663 (hb664) xnm0 (by omega) (fun u665 hu666 he667 => ?_)
          have hl668 : u665 = u45 := by have q1 := rwv_of h85_663 (show 0 < 7 by decide); have q2 := mf616 0 (by decide); omega
          refine xg_t (xg_const) ?_
          refine xg_t (xg_iadd (u := u665) (v := 1) (z := u665 + 1) xnm0 xnm0 (by omega)) ?_
          refine xg_iastK (n := 0) (u := u665 + 1) h85_663 xnm0 xnm0 rfl (by omega) (fun w669 hr670 hb671 => ?_)
          refine xg_t (xg_aload (va := (2, 82)) rfl rfl) ?_
          refine xg_t (xg_dup rfl) ?_
          refine xg_t (xg_getf (va := (0, f82_640)) (hb671.get (by decide) h82_652) rfl) ?_
          refine xg_t (xg_const) ?_
          refine xg_t (xg_iadd (u := f82_640) (v := 1) (z := f82_640 + 1) xnm0 xnm0 (by omega)) ?_
          refine xg_putI (fl1 := [(2, 83), (2, 84), (0, f82_622), (0, f82_624), (0, f82_626), (0, f82_628), (0, f82_630), (0, f82_632), (0, f82_634), (0, f82_636), (0, f82_638), (2, 85), (2, 86), (2, 87), (0, f82_640 + 1), (2, 88), (2, 89), (2, 90), (2, 91), (2, 92), (2, 93), (2, 94), (4, f82_642), (4, f82_643), (0, f82_644), (2, 95), (2, 96), (2, 97), (2, 98), (2, 99), (2, 100), (2, 101), (2, 102), (0, f82_646), (2, 103), (2, 104), (2, 105), (2, 106), (2, 107), (2, 108), (2, 109), (0, f82_648), (0, f82_650), (2, 110), (2, 111), (2, 112), (2, 113)]) (hb671.get (by decide) h82_652) rfl rfl rfl (fun w672 hk673 hb674 => ?_)
          have hF675 : xFr [82, 85] w603 w672 := ((xFr.of (S := [82, 85]) hb671 (by decide)).tr (xFr.of (S := [82, 85]) hb674 (by decide)))
          have hA676 := FA_fr hF675 (by decide)
          have hf677 : fld w672 82 4 = f82_626 := fld_of hk673
          have hf678 : fld w672 82 5 = f82_628 := fld_of hk673
          have hf679 : fld w672 82 7 = f82_632 := fld_of hk673
          have hf680 : fld w672 82 10 = f82_638 := fld_of hk673
          have hf681 : fld w672 82 14 = f82_640 + 1 := fld_of hk673
          have hu682 : mu w672 = 2 * (fld w672 82 4 - fld w672 82 5) + min 1 (fld w672 82 7) := rfl
          have pq683 := pk613
          unfold PK PS at pq683
          have hM684 : ∀ s, s < 7 → s ≠ 0 → rwv w672 85 s = rwv w 85 s := fun s hs hn => (rwv_of (hr670.but hb674 (by decide)) hs).trans ((if_neg hn).trans ((rwv_of h85_663 hs).symm.trans (mf616 s hs)))
          have hM685 : rwv w672 85 0 = u45 + 1 := (rwv_of (hr670.but hb674 (by decide)) (by decide)).trans ((if_pos rfl).trans (by omega))
          have hM686 : ∀ s, s < 7 → rwv w672 85 s ≤ rwv w 85 s + 1 := fun s hs => by
            by_cases z : s = 0
            · subst z; omega
            · rw [hM684 s hs z]; omega
          have hO687 : ∀ j, (j < 20 + 4 * u45 ∨ 24 + 4 * u45 ≤ j) → j < 140 → rwv w672 86 j = rwv w 86 j := fun j hj hl => (rwv_fr hF675 (by decide)).trans (os614 j hj hl)
          have hl689 : FA w603 ≠ 0 ∨ u45 < 6 := rg615
          have hl690 : rwv w672 86 (20 + 4 * u45 + 0) = rwv w603 86 (20 + 4 * u45 + 0) := rwv_fr hF675 (by decide)
          have hl691 : rwv w672 86 (20 + 4 * u45 + 1) = rwv w603 86 (20 + 4 * u45 + 1) := rwv_fr hF675 (by decide)
          have hl692 : rwv w672 86 (20 + 4 * u45 + 2) = rwv w603 86 (20 + 4 * u45 + 2) := rwv_fr hF675 (by decide)
          have hN688 : FA w672 ≠ 0 ∨ 6 ≤ u45 ∨ (1 ≤ rwv w672 86 (20 + 4 * u45 + 0) ∧ rwv w672 86 (20 + 4 * u45 + 0) ≤ 99 ∧ 1 ≤ rwv w672 86 (20 + 4 * u45 + 1) ∧ rwv w672 86 (20 + 4 * u45 + 1) ≤ 99 ∧ 1 ≤ rwv w672 86 (20 + 4 * u45 + 2) ∧ rwv w672 86 (20 + 4 * u45 + 2) ≤ 99) := by have q := nw620; omega
          have hX693 : FA w672 ≠ 0 ∨ u45 < 6 := by omega
          have hD694 : FA w672 ≠ 0 ∨ (DATA w → DATA w672) := by
            by_cases z : FA w672 ≠ 0
            · exact Or.inl z
            · exact Or.inr (fun hd => hd.s0 hM684 hK48 hM685 (hX693.resolve_left z) hO687 ((hN688.resolve_left z).resolve_left (by have := hX693.resolve_left z; omega)))
          exact xg_e ⟨w672, ⟨rfl, rfl⟩, xMnv.up (S := [85, 82]) hI605 ((xFr.of (S := [85, 82]) hb671 (by decide)).tr (xFr.of (S := [85, 82]) hb674 (by decide))) (List.forall_mem_cons.mpr ⟨(show cpI 7 52 4294967295 (wget w672 85) from ⟨_, (hr670.but hb674 (by decide)), xrb (by omega) (hb664)⟩), List.forall_mem_cons.mpr ⟨(show cp82 (wget w672 82) from ⟨f82_622, f82_624, f82_626, f82_628, f82_630, f82_632, f82_634, f82_636, f82_638, f82_640 + 1, f82_642, f82_643, f82_644, f82_646, f82_648, f82_650, hk673, hb623, hb625, hb627, hb629, hb631, hb633, hb635, hb637, hb639, by omega, hb645, hb647, hb649, hb651, by omega⟩), fun _ h => absurd h List.not_mem_nil⟩⟩), ((hF467.tr (hF606.up (by decide))).tr ((xFr.of (S := [82, 83, 85, 86, 87]) hb671 (by decide)).tr (xFr.of (S := [82, 83, 85, 86, 87]) hb674 (by decide)))), ⟨fun h => by have := pq683.1 h; omega, (show fld w672 82 10 = 0 ∨ FA w672 ≠ 0 by omega), Or.inr ⟨by have := ms621; omega, by omega, hM686⟩, hD694⟩⟩
      · refine xg_t (xg_ifT (u := f82_491) rfl xnm0 (xj_neT hc507)) ?_
        refine xg_t (xg_blk (b := [(416, 1, 0, 0, 0, 0), (417, 3, 13, 140, 96, 183)]) rfl) ?_
        refine xg_t (xg_aload (va := (2, 82)) rfl rfl) ?_
        refine xg_cVv mX12_ends (vs := []) (rest := []) (cn1 := 0) (sl1 := 0) rfl (mEnds (hI466) hj469.2.2.2) rfl h82_505 rfl rfl rfl rfl rfl rfl (fun w695 hq696 => ?_)
        obtain ⟨hI697, hF698, hx699⟩ := hq696
        clear hb476 hb478 hb480 hb482 hb484 hb486 hb488 hb490 hb492 hb494 hb498 hb500 hb502 hb504
        obtain ⟨hv700, hv701, hv702, hv703⟩ := hx699
        have pk704 : PK w465 w695 := ⟨fun _ => hv700, by omega, by omega, Or.inr hv700⟩
        have pk705 : PK w w695 := PK.tr hj469 pk704
        have os706 : ∀ j, (j < 20 + 4 * u45 ∨ 24 + 4 * u45 ≤ j) → j < 140 → rwv w695 86 j = rwv w 86 j := fun j hj hl => (rwv_fr hF698 (by decide)).trans (hj470 j hj hl)
        have rg707 : FA w695 ≠ 0 ∨ u45 < 6 := hj473.imp_left pk704.1
        have mf708 : ∀ s, s < 7 → rwv w695 85 s = rwv w 85 s := fun s hs => (rwv_fr hF698 (by decide)).trans (hj472 s hs)
        have hl709 : rwv w695 86 (20 + 4 * u45 + 0) = rwv w465 86 (20 + 4 * u45 + 0) := rwv_fr hF698 (by decide)
        have hl710 : rwv w695 86 (20 + 4 * u45 + 1) = rwv w465 86 (20 + 4 * u45 + 1) := rwv_fr hF698 (by decide)
        have hl711 : rwv w695 86 (20 + 4 * u45 + 2) = rwv w465 86 (20 + 4 * u45 + 2) := rwv_fr hF698 (by decide)
        have nw712 : FA w695 ≠ 0 ∨ 6 ≤ u45 ∨ (1 ≤ rwv w695 86 (20 + 4 * u45 + 0) ∧ rwv w695 86 (20 + 4 * u45 + 0) ≤ 99 ∧ 1 ≤ rwv w695 86 (20 + 4 * u45 + 1) ∧ rwv w695 86 (20 + 4 * u45 + 1) ≤ 99 ∧ 1 ≤ rwv w695 86 (20 + 4 * u45 + 2) ∧ rwv w695 86 (20 + 4 * u45 + 2) ≤ 99) := by have q := hj474; have q1 := pk704.1; omega
        clear hj474
        have ms713 : mu w695 < mu w := Nat.lt_of_le_of_lt pk704.2.1 hj471
        clear hj473
        refine xg_t (xg_blk (b := [(420, 1, 0, 0, 0, 0), (421, 3, 1, 12, 11, 17), (424, 1, 2, 1, 0, 0), (425, 1, 39, 0, 0, 0), (426, 1, 10, 0, 0, 0), (427, 1, 3, 1, 0, 0), (428, 1, 11, 0, 0, 0), (429, 1, 17, 0, 0, 0), (430, 1, 0, 0, 0, 0), (431, 1, 19, 0, 0, 0), (432, 3, 1, 12, 14, 212), (435, 1, 3, 1, 0, 0), (436, 1, 11, 0, 0, 0), (437, 3, 14, 12, 14, 212), (440, 1, 12, 0, 0, 0)]) rfl) ?_
        obtain ⟨f82_714, f82_716, f82_718, f82_720, f82_722, f82_724, f82_726, f82_728, f82_730, f82_732, f82_734, f82_735, f82_736, f82_738, f82_740, f82_742, h82_744, hb715, hb717, hb719, hb721, hb723, hb725, hb727, hb729, hb731, hb733, hb737, hb739, hb741, hb743, hb745⟩ := (hI697 82 (by decide) (by decide) : cp82 (wget w695 82))
        have hf746 : fld w695 82 4 = f82_718 := fld_of h82_744
        have hf747 : fld w695 82 5 = f82_720 := fld_of h82_744
        have hf748 : fld w695 82 7 = f82_724 := fld_of h82_744
        have hf749 : fld w695 82 10 = f82_730 := fld_of h82_744
        have hf750 : fld w695 82 14 = f82_732 := fld_of h82_744
        have hu751 : mu w695 = 2 * (fld w695 82 4 - fld w695 82 5) + min 1 (fld w695 82 7) := rfl
        have hf752 := pk705.2.2.1
        have hl753 : f82_732 ≤ 1000 := by omega
        refine xg_t (xg_aload (va := (2, 82)) rfl rfl) ?_
        refine xg_t (xg_getf (va := (2, 85)) h82_744 rfl) ?_
        refine xg_t (xg_iload (va := (0, 0)) rfl rfl) ?_
        refine xg_t (xg_dup2 rfl) ?_
        obtain ⟨g85_754, h85_755, hb756⟩ := (hI697 85 (by decide) (by decide) : cpI 7 52 4294967295 (wget w695 85))
        have h85_755 : xRow w695 85 7 52 g85_754 := h85_755
        refine xg_ialdB (n := 0) (B := 4294967295) h85_755 (hb756) xnm0 (by omega) (fun u757 hu758 he759 => ?_)
        have hl760 : u757 = u45 := by have q1 := rwv_of h85_755 (show 0 < 7 by decide); have q2 := mf708 0 (by decide); omega
        refine xg_t (xg_const) ?_
        refine xg_t (xg_iadd (u := u757) (v := 1) (z := u757 + 1) xnm0 xnm0 (by omega)) ?_
        refine xg_iastK (n := 0) (u := u757 + 1) h85_755 xnm0 xnm0 rfl (by omega) (fun w761 hr762 hb763 => ?_)
        refine xg_t (xg_aload (va := (2, 82)) rfl rfl) ?_
        refine xg_t (xg_dup rfl) ?_
        refine xg_t (xg_getf (va := (0, f82_732)) (hb763.get (by decide) h82_744) rfl) ?_
        refine xg_t (xg_const) ?_
        refine xg_t (xg_iadd (u := f82_732) (v := 1) (z := f82_732 + 1) xnm0 xnm0 (by omega)) ?_
        refine xg_putI (fl1 := [(2, 83), (2, 84), (0, f82_714), (0, f82_716), (0, f82_718), (0, f82_720), (0, f82_722), (0, f82_724), (0, f82_726), (0, f82_728), (0, f82_730), (2, 85), (2, 86), (2, 87), (0, f82_732 + 1), (2, 88), (2, 89), (2, 90), (2, 91), (2, 92), (2, 93), (2, 94), (4, f82_734), (4, f82_735), (0, f82_736), (2, 95), (2, 96), (2, 97), (2, 98), (2, 99), (2, 100), (2, 101), (2, 102), (0, f82_738), (2, 103), (2, 104), (2, 105), (2, 106), (2, 107), (2, 108), (2, 109), (0, f82_740), (0, f82_742), (2, 110), (2, 111), (2, 112), (2, 113)]) (hb763.get (by decide) h82_744) rfl rfl rfl (fun w764 hk765 hb766 => ?_)
        have hF767 : xFr [82, 85] w695 w764 := ((xFr.of (S := [82, 85]) hb763 (by decide)).tr (xFr.of (S := [82, 85]) hb766 (by decide)))
        have hA768 := FA_fr hF767 (by decide)
        have hf769 : fld w764 82 4 = f82_718 := fld_of hk765
        have hf770 : fld w764 82 5 = f82_720 := fld_of hk765
        have hf771 : fld w764 82 7 = f82_724 := fld_of hk765
        have hf772 : fld w764 82 10 = f82_730 := fld_of hk765
        have hf773 : fld w764 82 14 = f82_732 + 1 := fld_of hk765
        have hu774 : mu w764 = 2 * (fld w764 82 4 - fld w764 82 5) + min 1 (fld w764 82 7) := rfl
        have pq775 := pk705
        unfold PK PS at pq775
        have hM776 : ∀ s, s < 7 → s ≠ 0 → rwv w764 85 s = rwv w 85 s := fun s hs hn => (rwv_of (hr762.but hb766 (by decide)) hs).trans ((if_neg hn).trans ((rwv_of h85_755 hs).symm.trans (mf708 s hs)))
        have hM777 : rwv w764 85 0 = u45 + 1 := (rwv_of (hr762.but hb766 (by decide)) (by decide)).trans ((if_pos rfl).trans (by omega))
        have hM778 : ∀ s, s < 7 → rwv w764 85 s ≤ rwv w 85 s + 1 := fun s hs => by
          by_cases z : s = 0
          · subst z; omega
          · rw [hM776 s hs z]; omega
        have hO779 : ∀ j, (j < 20 + 4 * u45 ∨ 24 + 4 * u45 ≤ j) → j < 140 → rwv w764 86 j = rwv w 86 j := fun j hj hl => (rwv_fr hF767 (by decide)).trans (os706 j hj hl)
        have hl781 : FA w695 ≠ 0 ∨ u45 < 6 := rg707
        have hl782 : rwv w764 86 (20 + 4 * u45 + 0) = rwv w695 86 (20 + 4 * u45 + 0) := rwv_fr hF767 (by decide)
        have hl783 : rwv w764 86 (20 + 4 * u45 + 1) = rwv w695 86 (20 + 4 * u45 + 1) := rwv_fr hF767 (by decide)
        have hl784 : rwv w764 86 (20 + 4 * u45 + 2) = rwv w695 86 (20 + 4 * u45 + 2) := rwv_fr hF767 (by decide)
        have hN780 : FA w764 ≠ 0 ∨ 6 ≤ u45 ∨ (1 ≤ rwv w764 86 (20 + 4 * u45 + 0) ∧ rwv w764 86 (20 + 4 * u45 + 0) ≤ 99 ∧ 1 ≤ rwv w764 86 (20 + 4 * u45 + 1) ∧ rwv w764 86 (20 + 4 * u45 + 1) ≤ 99 ∧ 1 ≤ rwv w764 86 (20 + 4 * u45 + 2) ∧ rwv w764 86 (20 + 4 * u45 + 2) ≤ 99) := by have q := nw712; omega
        have hX785 : FA w764 ≠ 0 ∨ u45 < 6 := by omega
        have hD786 : FA w764 ≠ 0 ∨ (DATA w → DATA w764) := by
          by_cases z : FA w764 ≠ 0
          · exact Or.inl z
          · exact Or.inr (fun hd => hd.s0 hM776 hK48 hM777 (hX785.resolve_left z) hO779 ((hN780.resolve_left z).resolve_left (by have := hX785.resolve_left z; omega)))
        exact xg_e ⟨w764, ⟨rfl, rfl⟩, xMnv.up (S := [85, 82]) hI697 ((xFr.of (S := [85, 82]) hb763 (by decide)).tr (xFr.of (S := [85, 82]) hb766 (by decide))) (List.forall_mem_cons.mpr ⟨(show cpI 7 52 4294967295 (wget w764 85) from ⟨_, (hr762.but hb766 (by decide)), xrb (by omega) (hb756)⟩), List.forall_mem_cons.mpr ⟨(show cp82 (wget w764 82) from ⟨f82_714, f82_716, f82_718, f82_720, f82_722, f82_724, f82_726, f82_728, f82_730, f82_732 + 1, f82_734, f82_735, f82_736, f82_738, f82_740, f82_742, hk765, hb715, hb717, hb719, hb721, hb723, hb725, hb727, hb729, hb731, by omega, hb737, hb739, hb741, hb743, by omega⟩), fun _ h => absurd h List.not_mem_nil⟩⟩), ((hF467.tr (hF698.up (by decide))).tr ((xFr.of (S := [82, 83, 85, 86, 87]) hb763 (by decide)).tr (xFr.of (S := [82, 83, 85, 86, 87]) hb766 (by decide)))), ⟨fun h => by have := pq775.1 h; omega, (show fld w764 82 10 = 0 ∨ FA w764 ≠ 0 by omega), Or.inr ⟨by have := ms713; omega, by omega, hM778⟩, hD786⟩⟩
    refine xg_t (xg_iload (va := (0, 0)) rfl rfl) ?_
    refine xg_t (xg_swt (ks := [(0, 108), (1, 116), (2, 180), (3, 221), (4, 273), (5, 326)]) (u := 0) (z := 108) rfl rfl rfl xnm0 (xsw_y rfl)) ?_
    refine xg_t (xg_blk (b := [(108, 1, 0, 0, 0, 0), (109, 1, 2, 3, 0, 0), (110, 3, 13, 106, 96, 204), (113, 3, 8, 394, 0, 0)]) rfl) ?_
    refine xg_t (xg_aload (va := (2, 82)) rfl rfl) ?_
    refine xg_t (xg_iload (va := (0, u45)) rfl rfl) ?_
    obtain ⟨f82_787, f82_789, f82_791, f82_793, f82_795, f82_797, f82_799, f82_801, f82_803, f82_805, f82_807, f82_808, f82_809, f82_811, f82_813, f82_815, h82_817, hb788, hb790, hb792, hb794, hb796, hb798, hb800, hb802, hb804, hb806, hb810, hb812, hb814, hb816, hb818⟩ := (hI449 82 (by decide) (by decide) : cp82 (wget w447 82))
    refine xg_cVv mX12_aLayer (vs := [(0, u45)]) (rest := []) (cn1 := 0) (sl1 := 0) rfl (mALayer (hI449) (by omega) pk459.2.2.2) rfl h82_817 rfl rfl rfl rfl rfl rfl (fun w819 hq820 => ?_)
    obtain ⟨hI821, hF822, hx823⟩ := hq820
    clear hb788 hb790 hb792 hb794 hb796 hb798 hb800 hb802 hb804 hb806 hb810 hb812 hb814 hb816
    obtain ⟨pk824, os825, ly826⟩ := hx823
    have pk827 : PK w w819 := PK.tr pk459 pk824
    have os828 : ∀ j, (j < 20 + 4 * u45 ∨ 24 + 4 * u45 ≤ j) → j < 140 → rwv w819 86 j = rwv w 86 j := fun j hj hl => (os825 j hj hl).trans (os460 j hj hl)
    have rg829 : FA w819 ≠ 0 ∨ 0 = 1 := rg461.imp_left pk824.1
    have mf830 : ∀ s, s < 7 → rwv w819 85 s = rwv w 85 s := fun s hs => (rwv_fr hF822 (by decide)).trans (mf462 s hs)
    have ms831 : mu w819 < mu w := Nat.lt_of_le_of_lt pk824.2.1 ms463
    clear rg461
    refine xg_t (xg_goto) ?_
    refine xg_t (xg_drop (l1 := [(0, (2, 82)), (1, (0, 0)), (3, (0, u45))]) (List.forall_mem_cons.mpr ⟨List.mem_cons_of_mem _ (List.mem_cons_of_mem _ (List.mem_cons_of_mem _ (List.mem_cons_self))), List.forall_mem_cons.mpr ⟨List.mem_cons_of_mem _ (List.mem_cons_of_mem _ (List.mem_cons_self)), List.forall_mem_cons.mpr ⟨List.mem_cons_self, fun _ h => absurd h List.not_mem_nil⟩⟩⟩)) ?_
    have hX832 : FA w819 ≠ 0 ∨ u45 < 6 := Or.inl (by have q := rg829; omega)
    exact jn464 w819 (hI821) ((((hF440.up (by decide)).tr (hF450.up (by decide))).tr (hF822.up (by decide)))) (⟨pk827, os828, ms831, mf830, hX832, ly826⟩)
end XMB
