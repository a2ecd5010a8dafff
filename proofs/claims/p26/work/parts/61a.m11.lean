/-! the model: lines of films -/
def DATA (w : List (List xE)) : Prop := rwv w 85 0 ≤ 6 ∧ rwv w 85 1 ≤ 4 ∧ rwv w 85 2 ≤ 6 ∧ rwv w 85 3 ≤ 4 ∧ rwv w 85 4 ≤ 20 ∧ (1 ≤ rwv w 86 5 ∧ rwv w 86 5 ≤ 6) ∧ (1 ≤ rwv w 86 6 ∧ rwv w 86 6 ≤ 6) ∧ (1 ≤ rwv w 86 7 ∧ rwv w 86 7 ≤ 10) ∧ (1 ≤ rwv w 86 8 ∧ rwv w 86 8 ≤ 10) ∧ (∀ k i, k < rwv w 85 0 → i < 3 → 1 ≤ rwv w 86 (20 + 4 * k + i) ∧ rwv w 86 (20 + 4 * k + i) ≤ 99) ∧ ∀ k, k < rwv w 85 1 → 1 ≤ rwv w 86 (51 + 2 * k) ∧ rwv w 86 (51 + 2 * k) ≤ 999
theorem DATA.s0 {w w' : List (List xE)} {K : Nat} (h : DATA w) (hm : ∀ s, s < 7 → s ≠ 0 → rwv w' 85 s = rwv w 85 s) (hK : rwv w 85 0 = K) (hK' : rwv w' 85 0 = K + 1) (hl : K < 6) (hos : ∀ j, (j < 20 + 4 * K ∨ 24 + 4 * K ≤ j) → j < 140 → rwv w' 86 j = rwv w 86 j) (hn : 1 ≤ rwv w' 86 (20 + 4 * K + 0) ∧ rwv w' 86 (20 + 4 * K + 0) ≤ 99 ∧ 1 ≤ rwv w' 86 (20 + 4 * K + 1) ∧ rwv w' 86 (20 + 4 * K + 1) ≤ 99 ∧ 1 ≤ rwv w' 86 (20 + 4 * K + 2) ∧ rwv w' 86 (20 + 4 * K + 2) ≤ 99) : DATA w' := by
  obtain ⟨m0, m1, m2, m3, m4, r5, r6, r7, r8, d0, d1⟩ := h
  have e1 := hm 1 (by decide) (by decide)
  have e2 := hm 2 (by decide) (by decide)
  have e3 := hm 3 (by decide) (by decide)
  have e4 := hm 4 (by decide) (by decide)
  have f5 := hos 5 (by omega) (by decide)
  have f6 := hos 6 (by omega) (by decide)
  have f7 := hos 7 (by omega) (by decide)
  have f8 := hos 8 (by omega) (by decide)
  refine ⟨by omega, by omega, by omega, by omega, by omega, by omega, by omega, by omega, by omega, fun k i hk hi => ?_, fun k hk => ?_⟩
  · by_cases z : k = K
    · subst z
      rcases (show i = 0 ∨ i = 1 ∨ i = 2 by omega) with rfl | rfl | rfl <;> omega
    · rw [hos _ (by omega) (by omega)]
      exact d0 k i (by omega) hi
  · rw [hos _ (by omega) (by omega)]
    exact d1 k (by omega)
theorem DATA.s1 {w w' : List (List xE)} {K : Nat} (h : DATA w) (hm : ∀ s, s < 7 → s ≠ 1 → rwv w' 85 s = rwv w 85 s) (hK : rwv w 85 1 = K) (hK' : rwv w' 85 1 = K + 1) (hl : K < 4) (hos : ∀ j, (j < 50 + 2 * K ∨ 52 + 2 * K ≤ j) → j < 140 → rwv w' 86 j = rwv w 86 j) (hn : 1 ≤ rwv w' 86 (50 + 2 * K + 1) ∧ rwv w' 86 (50 + 2 * K + 1) ≤ 999) : DATA w' := by
  obtain ⟨m0, m1, m2, m3, m4, r5, r6, r7, r8, d0, d1⟩ := h
  have e0 := hm 0 (by decide) (by decide)
  have e2 := hm 2 (by decide) (by decide)
  have e3 := hm 3 (by decide) (by decide)
  have e4 := hm 4 (by decide) (by decide)
  have f5 := hos 5 (by omega) (by decide)
  have f6 := hos 6 (by omega) (by decide)
  have f7 := hos 7 (by omega) (by decide)
  have f8 := hos 8 (by omega) (by decide)
  refine ⟨by omega, by omega, by omega, by omega, by omega, by omega, by omega, by omega, by omega, fun k i hk hi => ?_, fun k hk => ?_⟩
  · rw [hos _ (by omega) (by omega)]
    exact d0 k i (by omega) hi
  · by_cases z : k = K
    · subst z
      have e : 51 + 2 * k = 50 + 2 * k + 1 := by omega
      rw [e]
      exact hn
    · rw [hos _ (by omega) (by omega)]
      exact d1 k (by omega)
theorem DATA.s2 {w w' : List (List xE)} {K : Nat} (h : DATA w) (hm : ∀ s, s < 7 → s ≠ 2 → rwv w' 85 s = rwv w 85 s) (hK : rwv w 85 2 = K) (hK' : rwv w' 85 2 = K + 1) (hl : K < 6) (hos : ∀ j, (j < 60 + 2 * K ∨ 62 + 2 * K ≤ j) → j < 140 → rwv w' 86 j = rwv w 86 j) (hn : True) : DATA w' := by
  obtain ⟨m0, m1, m2, m3, m4, r5, r6, r7, r8, d0, d1⟩ := h
  have e0 := hm 0 (by decide) (by decide)
  have e1 := hm 1 (by decide) (by decide)
  have e3 := hm 3 (by decide) (by decide)
  have e4 := hm 4 (by decide) (by decide)
  have f5 := hos 5 (by omega) (by decide)
  have f6 := hos 6 (by omega) (by decide)
  have f7 := hos 7 (by omega) (by decide)
  have f8 := hos 8 (by omega) (by decide)
  refine ⟨by omega, by omega, by omega, by omega, by omega, by omega, by omega, by omega, by omega, fun k i hk hi => ?_, fun k hk => ?_⟩
  · rw [hos _ (by omega) (by omega)]
    exact d0 k i (by omega) hi
  · rw [hos _ (by omega) (by omega)]
    exact d1 k (by omega)
theorem DATA.s3 {w w' : List (List xE)} {K : Nat} (h : DATA w) (hm : ∀ s, s < 7 → s ≠ 3 → rwv w' 85 s = rwv w 85 s) (hK : rwv w 85 3 = K) (hK' : rwv w' 85 3 = K + 1) (hl : K < 4) (hos : ∀ j, (j < 80 + 3 * K ∨ 83 + 3 * K ≤ j) → j < 140 → rwv w' 86 j = rwv w 86 j) (hn : True) : DATA w' := by
  obtain ⟨m0, m1, m2, m3, m4, r5, r6, r7, r8, d0, d1⟩ := h
  have e0 := hm 0 (by decide) (by decide)
  have e1 := hm 1 (by decide) (by decide)
  have e2 := hm 2 (by decide) (by decide)
  have e4 := hm 4 (by decide) (by decide)
  have f5 := hos 5 (by omega) (by decide)
  have f6 := hos 6 (by omega) (by decide)
  have f7 := hos 7 (by omega) (by decide)
  have f8 := hos 8 (by omega) (by decide)
  refine ⟨by omega, by omega, by omega, by omega, by omega, by omega, by omega, by omega, by omega, fun k i hk hi => ?_, fun k hk => ?_⟩
  · rw [hos _ (by omega) (by omega)]
    exact d0 k i (by omega) hi
  · rw [hos _ (by omega) (by omega)]
    exact d1 k (by omega)
theorem DATA.s4 {w w' : List (List xE)} {K : Nat} (h : DATA w) (hm : ∀ s, s < 7 → s ≠ 4 → rwv w' 85 s = rwv w 85 s) (hK : rwv w 85 4 = K) (hK' : rwv w' 85 4 = K + 1) (hl : K < 20) (hos : ∀ j, (j < 100 + 2 * K ∨ 102 + 2 * K ≤ j) → j < 140 → rwv w' 86 j = rwv w 86 j) (hn : True) : DATA w' := by
  obtain ⟨m0, m1, m2, m3, m4, r5, r6, r7, r8, d0, d1⟩ := h
  have e0 := hm 0 (by decide) (by decide)
  have e1 := hm 1 (by decide) (by decide)
  have e2 := hm 2 (by decide) (by decide)
  have e3 := hm 3 (by decide) (by decide)
  have f5 := hos 5 (by omega) (by decide)
  have f6 := hos 6 (by omega) (by decide)
  have f7 := hos 7 (by omega) (by decide)
  have f8 := hos 8 (by omega) (by decide)
  refine ⟨by omega, by omega, by omega, by omega, by omega, by omega, by omega, by omega, by omega, fun k i hk hi => ?_, fun k hk => ?_⟩
  · rw [hos _ (by omega) (by omega)]
    exact d0 k i (by omega) hi
  · rw [hos _ (by omega) (by omega)]
    exact d1 k (by omega)
theorem DATA.s5 {w w' : List (List xE)} {K : Nat} (h : DATA w) (hm : ∀ s, s < 7 → s ≠ 5 → rwv w' 85 s = rwv w 85 s) (hK : rwv w 85 5 = K) (hK' : rwv w' 85 5 = K + 1) (hl : K < 1) (hos : ∀ j, (j < 7 ∨ 9 ≤ j) → j < 140 → rwv w' 86 j = rwv w 86 j) (hn : 1 ≤ rwv w' 86 7 ∧ rwv w' 86 7 ≤ 10 ∧ 1 ≤ rwv w' 86 8 ∧ rwv w' 86 8 ≤ 10) : DATA w' := by
  obtain ⟨m0, m1, m2, m3, m4, r5, r6, r7, r8, d0, d1⟩ := h
  have e0 := hm 0 (by decide) (by decide)
  have e1 := hm 1 (by decide) (by decide)
  have e2 := hm 2 (by decide) (by decide)
  have e3 := hm 3 (by decide) (by decide)
  have e4 := hm 4 (by decide) (by decide)
  have f5 := hos 5 (by omega) (by decide)
  have f6 := hos 6 (by omega) (by decide)
  refine ⟨by omega, by omega, by omega, by omega, by omega, by omega, by omega, by omega, by omega, fun k i hk hi => ?_, fun k hk => ?_⟩
  · rw [hos _ (by omega) (by omega)]
    exact d0 k i (by omega) hi
  · rw [hos _ (by omega) (by omega)]
    exact d1 k (by omega)
theorem DATA.s6 {w w' : List (List xE)} {K : Nat} (h : DATA w) (hm : ∀ s, s < 7 → s ≠ 6 → rwv w' 85 s = rwv w 85 s) (hK : rwv w 85 6 = K) (hK' : rwv w' 85 6 = K + 1) (hl : K < 1) (hos : ∀ j, (j < 5 ∨ 7 ≤ j) → j < 140 → rwv w' 86 j = rwv w 86 j) (hn : 1 ≤ rwv w' 86 5 ∧ rwv w' 86 5 ≤ 6 ∧ 1 ≤ rwv w' 86 6 ∧ rwv w' 86 6 ≤ 6) : DATA w' := by
  obtain ⟨m0, m1, m2, m3, m4, r5, r6, r7, r8, d0, d1⟩ := h
  have e0 := hm 0 (by decide) (by decide)
  have e1 := hm 1 (by decide) (by decide)
  have e2 := hm 2 (by decide) (by decide)
  have e3 := hm 3 (by decide) (by decide)
  have e4 := hm 4 (by decide) (by decide)
  have f7 := hos 7 (by omega) (by decide)
  have f8 := hos 8 (by omega) (by decide)
  refine ⟨by omega, by omega, by omega, by omega, by omega, by omega, by omega, by omega, by omega, fun k i hk hi => ?_, fun k hk => ?_⟩
  · rw [hos _ (by omega) (by omega)]
    exact d0 k i (by omega) hi
  · rw [hos _ (by omega) (by omega)]
    exact d1 k (by omega)
section XMB
variable {d : Nat} {w : List (List xE)} {bd : List (Nat × Nat)} {fc : List (Nat × Nat × Bool)} {rr : Nat × Nat}
theorem mLifeTold {sa kk : Nat} (hI : xMnv w) (hsa : sa ≤ 4294967295) (hkk : kk ≤ 1001) : xPi d mX12_isLifeTold [(2, 82), (0, sa), (0, kk)] w bd fc rr (fun n w' => (n ≤ 1) ∧ xMnv w' ∧ xFr [] w w') := by
  refine xPi.of ?_
  show xTo d mX12_isLifeTold (0, [], [(0, (2, 82)), (1, (0, sa)), (2, (0, kk))], [], (w, bd, fc, 0, 0, rr)) (fun φ => ∃ n w', xEnd 4 [(0, n)] (w', bd, fc, 0, 0, rr) φ ∧ (n ≤ 1) ∧ xMnv w' ∧ xFr [] w w')
  obtain ⟨f82_1, f82_3, f82_5, f82_7, f82_9, f82_11, f82_13, f82_15, f82_17, f82_19, f82_21, f82_22, f82_23, f82_25, f82_27, f82_29, h82_31, hb2, hb4, hb6, hb8, hb10, hb12, hb14, hb16, hb18, hb20, hb24, hb26, hb28, hb30, hb32⟩ := (hI 82 (by decide) (by decide) : cp82 (wget w 82))
  obtain ⟨g86_33, h86_34, hb35⟩ := (hI 86 (by decide) (by decide) : cpI 140 53 4294967295 (wget w 86))
  have h86_34 : xRow w 86 140 53 g86_33 := h86_34
  refine xg_t (xg_blk (b := [(0, 1, 3, 0, 0, 0), (1, 1, 15, 3, 0, 0), (2, 1, 3, 0, 0, 0), (3, 2, 15, 4, 0, 0)]) rfl) ?_
  refine xg_t (xg_const) ?_
  refine xg_t (xg_istore (l1 := [(0, (2, 82)), (1, (0, sa)), (2, (0, kk))]) rfl rfl rfl) ?_
  refine xg_t (xg_const) ?_
  refine xg_t (xg_istore (l1 := [(3, (0, 0)), (0, (2, 82)), (1, (0, sa)), (2, (0, kk))]) rfl rfl rfl) ?_
  refine xg_t (xg_drop (l1 := [(0, (2, 82)), (1, (0, sa)), (2, (0, kk)), (3, (0, 0)), (4, (0, 0))]) (List.forall_mem_cons.mpr ⟨List.mem_cons_of_mem _ (List.mem_cons_of_mem _ (List.mem_cons_self)), List.forall_mem_cons.mpr ⟨List.mem_cons_of_mem _ (List.mem_cons_of_mem _ (List.mem_cons_of_mem _ (List.mem_cons_self))), List.forall_mem_cons.mpr ⟨List.mem_cons_of_mem _ (List.mem_cons_of_mem _ (List.mem_cons_of_mem _ (List.mem_cons_of_mem _ (List.mem_cons_self)))), List.forall_mem_cons.mpr ⟨List.mem_cons_of_mem _ (List.mem_cons_self), List.forall_mem_cons.mpr ⟨List.mem_cons_self, fun _ h => absurd h List.not_mem_nil⟩⟩⟩⟩⟩)) ?_
  have key36 : ∀ (m38 : Nat) (is_ ji : Nat) (w39 : List (List xE)), 4 - ji < m38 → is_ ≤ 1 → ji ≤ 4 → xMnv w39 → xFr [] w w39 → xTo d mX12_isLifeTold (5, [], [(0, (2, 82)), (1, (0, sa)), (2, (0, kk)), (3, (0, is_)), (4, (0, ji))], [], (w39, bd, fc, 0, 0, rr)) (fun φ => ∃ n w', xEnd 4 [(0, n)] (w', bd, fc, 0, 0, rr) φ ∧ (n ≤ 1) ∧ xMnv w' ∧ xFr [] w w') := by
    intro m38
    induction m38 with
    | zero => intro is_ ji w39 hz; exact absurd hz (Nat.not_lt_zero _)
    | succ m38 ih37 =>
      intro is_ ji w39 hm44 hn42 hn43 hI40 hF41
      refine xg_t (xg_blk (b := [(5, 2, 2, 4, 0, 0), (7, 1, 2, 2, 0, 0), (8, 3, 6, 49, 3, 0), (11, 2, 2, 4, 0, 0), (13, 1, 3, 4, 0, 0), (14, 3, 6, 49, 3, 0), (17, 1, 2, 3, 0, 0), (18, 3, 7, 37, 1, 0), (21, 1, 0, 0, 0, 0), (22, 3, 1, 12, 12, 20), (25, 2, 4, 50, 0, 0), (27, 1, 3, 2, 0, 0), (28, 2, 2, 4, 0, 0), (30, 1, 16, 0, 0, 0), (31, 1, 11, 0, 0, 0), (32, 1, 10, 0, 0, 0), (33, 1, 2, 1, 0, 0), (34, 3, 6, 41, 1, 0)]) rfl) ?_
      refine xg_t (xg_iload (va := (0, ji)) rfl rfl) ?_
      refine xg_t (xg_iload (va := (0, kk)) rfl rfl) ?_
      by_cases hc45 : ji < kk
      · refine xg_t (xg_icF (u := ji) (v := kk) rfl xnm0 xnm0 (xj_geF hc45 (by omega))) ?_
        refine xg_t (xg_iload (va := (0, ji)) rfl rfl) ?_
        refine xg_t (xg_const) ?_
        by_cases hc46 : ji < 4
        · refine xg_t (xg_icF (u := ji) (v := 4) rfl xnm0 xnm0 (xj_geF hc46 (by omega))) ?_
          refine xg_t (xg_iload (va := (0, is_)) rfl rfl) ?_
          by_cases hc47 : is_ = 0
          · refine xg_t (xg_ifF (u := is_) rfl xnm0 (xj_neF hc47)) ?_
            refine xg_t (xg_aload (va := (2, 82)) rfl rfl) ?_
            refine xg_t (xg_getf (va := (2, 86)) (hF41.get (by decide) h82_31) rfl) ?_
            refine xg_t (xg_bip) ?_
            refine xg_t (xg_const) ?_
            refine xg_t (xg_iload (va := (0, ji)) rfl rfl) ?_
            refine xg_t (xg_imul (u := 2) (v := ji) (z := 2 * ji) xnm0 xnm0 (by omega)) ?_
            refine xg_t (xg_iadd (u := 50) (v := 2 * ji) (z := 50 + (2 * ji)) xnm0 xnm0 (by omega)) ?_
            refine xg_ialdB (n := 50 + (2 * ji)) (B := 4294967295) (h86_34.fr hF41 (by decide)) (hb35) xnm0 (by omega) (fun u48 hu49 he50 => ?_)
            refine xg_t (xg_iload (va := (0, sa)) rfl rfl) ?_
            by_cases hc51 : u48 = sa
            · refine xg_t (xg_icF (u := u48) (v := sa) rfl xnm0 xnm0 (xj_neF hc51)) ?_
              refine xg_t (xg_blk (b := [(37, 1, 3, 1, 0, 0), (38, 3, 8, 42, 0, 0)]) rfl) ?_
              refine xg_t (xg_const) ?_
              refine xg_t (xg_goto) ?_
              refine xg_t (xg_blk (b := [(42, 1, 15, 3, 0, 0), (43, 3, 9, 4, 1, 0), (46, 3, 8, 5, 0, 0)]) rfl) ?_
              refine xg_t (xg_istore (l1 := [(0, (2, 82)), (1, (0, sa)), (2, (0, kk)), (4, (0, ji))]) rfl rfl rfl) ?_
              refine xg_t (xg_iinc (u := ji) (z := ji + 1) (l1 := [(3, (0, 1)), (0, (2, 82)), (1, (0, sa)), (2, (0, kk))]) rfl rfl (by omega) rfl) ?_
              refine xg_t (xg_goto) ?_
              refine xg_t (xg_drop (l1 := [(0, (2, 82)), (1, (0, sa)), (2, (0, kk)), (3, (0, 1)), (4, (0, ji + 1))]) (List.forall_mem_cons.mpr ⟨List.mem_cons_of_mem _ (List.mem_cons_of_mem _ (List.mem_cons_self)), List.forall_mem_cons.mpr ⟨List.mem_cons_of_mem _ (List.mem_cons_of_mem _ (List.mem_cons_of_mem _ (List.mem_cons_self))), List.forall_mem_cons.mpr ⟨List.mem_cons_of_mem _ (List.mem_cons_of_mem _ (List.mem_cons_of_mem _ (List.mem_cons_of_mem _ (List.mem_cons_self)))), List.forall_mem_cons.mpr ⟨List.mem_cons_of_mem _ (List.mem_cons_self), List.forall_mem_cons.mpr ⟨List.mem_cons_self, fun _ h => absurd h List.not_mem_nil⟩⟩⟩⟩⟩)) ?_
              exact ih37 1 (ji + 1) w39 (by omega) (by omega) (by omega) (hI40) (hF41)
            · refine xg_t (xg_icT (u := u48) (v := sa) rfl xnm0 xnm0 (xj_neT hc51)) ?_
              refine xg_t (xg_blk (b := [(41, 1, 3, 0, 0, 0)]) rfl) ?_
              refine xg_t (xg_const) ?_
              refine xg_t (xg_blk (b := [(42, 1, 15, 3, 0, 0), (43, 3, 9, 4, 1, 0), (46, 3, 8, 5, 0, 0)]) rfl) ?_
              refine xg_t (xg_istore (l1 := [(0, (2, 82)), (1, (0, sa)), (2, (0, kk)), (4, (0, ji))]) rfl rfl rfl) ?_
              refine xg_t (xg_iinc (u := ji) (z := ji + 1) (l1 := [(3, (0, 0)), (0, (2, 82)), (1, (0, sa)), (2, (0, kk))]) rfl rfl (by omega) rfl) ?_
              refine xg_t (xg_goto) ?_
              refine xg_t (xg_drop (l1 := [(0, (2, 82)), (1, (0, sa)), (2, (0, kk)), (3, (0, 0)), (4, (0, ji + 1))]) (List.forall_mem_cons.mpr ⟨List.mem_cons_of_mem _ (List.mem_cons_of_mem _ (List.mem_cons_self)), List.forall_mem_cons.mpr ⟨List.mem_cons_of_mem _ (List.mem_cons_of_mem _ (List.mem_cons_of_mem _ (List.mem_cons_self))), List.forall_mem_cons.mpr ⟨List.mem_cons_of_mem _ (List.mem_cons_of_mem _ (List.mem_cons_of_mem _ (List.mem_cons_of_mem _ (List.mem_cons_self)))), List.forall_mem_cons.mpr ⟨List.mem_cons_of_mem _ (List.mem_cons_self), List.forall_mem_cons.mpr ⟨List.mem_cons_self, fun _ h => absurd h List.not_mem_nil⟩⟩⟩⟩⟩)) ?_
              exact ih37 0 (ji + 1) w39 (by omega) (by omega) (by omega) (hI40) (hF41)
          · refine xg_t (xg_ifT (u := is_) rfl xnm0 (xj_neT hc47)) ?_
            refine xg_t (xg_blk (b := [(37, 1, 3, 1, 0, 0), (38, 3, 8, 42, 0, 0)]) rfl) ?_
            refine xg_t (xg_const) ?_
            refine xg_t (xg_goto) ?_
            refine xg_t (xg_blk (b := [(42, 1, 15, 3, 0, 0), (43, 3, 9, 4, 1, 0), (46, 3, 8, 5, 0, 0)]) rfl) ?_
            refine xg_t (xg_istore (l1 := [(0, (2, 82)), (1, (0, sa)), (2, (0, kk)), (4, (0, ji))]) rfl rfl rfl) ?_
            refine xg_t (xg_iinc (u := ji) (z := ji + 1) (l1 := [(3, (0, 1)), (0, (2, 82)), (1, (0, sa)), (2, (0, kk))]) rfl rfl (by omega) rfl) ?_
            refine xg_t (xg_goto) ?_
            refine xg_t (xg_drop (l1 := [(0, (2, 82)), (1, (0, sa)), (2, (0, kk)), (3, (0, 1)), (4, (0, ji + 1))]) (List.forall_mem_cons.mpr ⟨List.mem_cons_of_mem _ (List.mem_cons_of_mem _ (List.mem_cons_self)), List.forall_mem_cons.mpr ⟨List.mem_cons_of_mem _ (List.mem_cons_of_mem _ (List.mem_cons_of_mem _ (List.mem_cons_self))), List.forall_mem_cons.mpr ⟨List.mem_cons_of_mem _ (List.mem_cons_of_mem _ (List.mem_cons_of_mem _ (List.mem_cons_of_mem _ (List.mem_cons_self)))), List.forall_mem_cons.mpr ⟨List.mem_cons_of_mem _ (List.mem_cons_self), List.forall_mem_cons.mpr ⟨List.mem_cons_self, fun _ h => absurd h List.not_mem_nil⟩⟩⟩⟩⟩)) ?_
            exact ih37 1 (ji + 1) w39 (by omega) (by omega) (by omega) (hI40) (hF41)
        · refine xg_t (xg_icT (u := ji) (v := 4) rfl xnm0 xnm0 (xj_geT (by omega) (by omega))) ?_
          refine xg_t (xg_blk (b := [(49, 1, 2, 3, 0, 0), (50, 1, 12, 0, 1, 0)]) rfl) ?_
          refine xg_t (xg_iload (va := (0, is_)) rfl rfl) ?_
          exact xg_e ⟨is_, w39, ⟨xret_b (by omega), rfl⟩, by omega, hI40, hF41⟩
      · refine xg_t (xg_icT (u := ji) (v := kk) rfl xnm0 xnm0 (xj_geT (by omega) (by omega))) ?_
        refine xg_t (xg_blk (b := [(49, 1, 2, 3, 0, 0), (50, 1, 12, 0, 1, 0)]) rfl) ?_
        refine xg_t (xg_iload (va := (0, is_)) rfl rfl) ?_
        exact xg_e ⟨is_, w39, ⟨xret_b (by omega), rfl⟩, by omega, hI40, hF41⟩
  exact key36 _ 0 0 w (Nat.lt_succ_self _) (by omega) (by omega) (hI) (xFr.rf)
set_option maxHeartbeats 60000000 in
theorem mALineS0 {at_ : Nat} (hI : xMnv w) (hps : PS w) (hmb : ∀ s, s < 7 → rwv w 85 s ≤ 1000) (hln : fld w 82 14 ≤ 1000) (h7 : fld w 82 7 = 3) (hat : at_ ≤ 4294967295) : xTo (d + 7) mX12_aLine (43, [], [(2, (0, at_)), (1, (0, 0)), (0, (2, 82))], [], (w, bd, fc, 0, 0, rr)) (fun φ => ∃ w', xEnd 0 [] (w', bd, fc, 0, 0, rr) φ ∧ xMnv w' ∧ xFr [82, 83, 85, 86, 87] w w' ∧ ((FA w ≠ 0 → FA w' ≠ 0) ∧ PS w' ∧ ((fld w' 82 10 = 1 ∧ mu w' = mu w ∧ fld w' 82 14 = fld w 82 14 ∧ ∀ s, s < 7 → rwv w' 85 s = rwv w 85 s) ∨ (mu w' < mu w ∧ fld w' 82 14 = fld w 82 14 + 1 ∧ ∀ s, s < 7 → rwv w' 85 s ≤ rwv w 85 s + 1)) ∧ (FA w' ≠ 0 ∨ (DATA w → DATA w')))) := by
  obtain ⟨f82_1, f82_3, f82_5, f82_7, f82_9, f82_11, f82_13, f82_15, f82_17, f82_19, f82_21, f82_22, f82_23, f82_25, f82_27, f82_29, h82_31, hb2, hb4, hb6, hb8, hb10, hb12, hb14, hb16, hb18, hb20, hb24, hb26, hb28, hb30, hb32⟩ := (hI 82 (by decide) (by decide) : cp82 (wget w 82))
  have hf33 : fld w 82 7 = f82_11 := fld_of h82_31
  have hf34 : fld w 82 10 = f82_17 := fld_of h82_31
  have hf35 : fld w 82 14 = f82_19 := fld_of h82_31
  have hps_ : fld w 82 10 = 0 ∨ FA w ≠ 0 := hps
  obtain ⟨g85_36, h85_37, hb38⟩ := (hI 85 (by decide) (by decide) : cpI 7 52 4294967295 (wget w 85))
  have h85_37 : xRow w 85 7 52 g85_36 := h85_37
  obtain ⟨g86_39, h86_40, hb41⟩ := (hI 86 (by decide) (by decide) : cpI 140 53 4294967295 (wget w 86))
  have h86_40 : xRow w 86 140 53 g86_39 := h86_40
  obtain ⟨g87_42, h87_43, hb44⟩ := (hI 87 (by decide) (by decide) : cpI 20 54 4294967295 (wget w 87))
  have h87_43 : xRow w 87 20 54 g87_42 := h87_43
  refine xg_t (xg_blk (b := [(43, 1, 0, 0, 0, 0), (44, 3, 1, 12, 11, 17), (47, 1, 2, 1, 0, 0), (48, 1, 10, 0, 0, 0), (49, 1, 15, 3, 0, 0), (50, 1, 2, 3, 0, 0), (51, 1, 2, 1, 0, 0), (52, 3, 13, 194, 98, 193), (55, 3, 6, 64, 2, 0), (58, 1, 0, 0, 0, 0), (59, 1, 3, 3, 0, 0), (60, 1, 2, 2, 0, 0), (61, 3, 13, 115, 96, 186)]) rfl) ?_
  refine xg_t (xg_aload (va := (2, 82)) rfl rfl) ?_
  refine xg_t (xg_getf (va := (2, 85)) h82_31 rfl) ?_
  refine xg_t (xg_iload (va := (0, 0)) rfl rfl) ?_
  refine xg_ialdB (n := 0) (B := 4294967295) h85_37 (hb38) xnm0 (by omega) (fun u45 hu46 he47 => ?_)
  have hK48 : rwv w 85 0 = u45 := (rwv_of h85_37 (by decide)).trans he47
  have hm49 := hmb 0 (by decide)
  have hl50 : u45 ≤ 1000 := by omega
  refine xg_t (xg_istore (l1 := [(2, (0, at_)), (1, (0, 0)), (0, (2, 82))]) rfl rfl rfl) ?_
  refine xg_t (xg_iload (va := (0, u45)) rfl rfl) ?_
  refine xg_t (xg_iload (va := (0, 0)) rfl rfl) ?_
  refine xg_t (xg_cSr mX12_mostOf (vs := [(0, 0)]) (rest := [(0, u45)]) (rs := [(0, 6), (0, u45)]) (cn1 := 0) (sl1 := 0) rfl (mMostR0) rfl rfl rfl rfl rfl rfl rfl rfl) ?_
  by_cases hc51 : u45 < 6
  · refine xg_t (xg_icT (u := u45) (v := 6) rfl xnm0 xnm0 (xj_ltT hc51 (by omega))) ?_
    refine xg_t (xg_blk (b := [(64, 1, 0, 0, 0, 0), (65, 3, 13, 110, 96, 190), (68, 1, 2, 1, 0, 0), (69, 39, 33, 362, 0, 9)]) rfl) ?_
    refine xg_t (xg_aload (va := (2, 82)) rfl rfl) ?_
    refine xg_cVv mX12_advance (vs := []) (rest := []) (cn1 := 0) (sl1 := 0) rfl (mAdvance (hI)) rfl h82_31 rfl rfl rfl rfl rfl rfl (fun w52 hq53 => ?_)
    obtain ⟨hI54, hF55, hx56⟩ := hq53
    clear hb2 hb4 hb6 hb8 hb10 hb12 hb14 hb16 hb18 hb20 hb24 hb26 hb28 hb30
    obtain ⟨hv57, hv58, hv59, hv60⟩ := hx56
    have hf62 := FA_fr hF55 (by decide)
    have hs63 := (PK.rf hps).2.2.2
    unfold PS at hs63
    have pk61 : PK w w52 := ⟨fun _ => by omega, hv57, hv60, (show fld w52 82 10 = 0 ∨ FA w52 ≠ 0 by omega)⟩
    clear hs63
    have pk64 : PK w w52 := PK.tr (PK.rf hps) pk61
    have os65 : ∀ j, (j < 20 + 4 * u45 ∨ 24 + 4 * u45 ≤ j) → j < 140 → rwv w52 86 j = rwv w 86 j := fun j hj hl => (rwv_fr hF55 (by decide)).trans ((fun j _ _ => rfl) j hj hl)
    have ms66 : mu w52 < mu w := Nat.lt_of_lt_of_le (hv58 (by omega)) (PK.rf hps).2.1
    clear hv58
    refine xg_t (xg_iload (va := (0, 0)) rfl rfl) ?_
    refine xg_t (xg_swt (ks := [(0, 108), (1, 116), (2, 180), (3, 221), (4, 273), (5, 326)]) (u := 0) (z := 108) rfl rfl rfl xnm0 (xsw_y rfl)) ?_
    refine xg_t (xg_blk (b := [(108, 1, 0, 0, 0, 0), (109, 1, 2, 3, 0, 0), (110, 3, 13, 106, 96, 204), (113, 3, 8, 394, 0, 0)]) rfl) ?_
    refine xg_t (xg_aload (va := (2, 82)) rfl rfl) ?_
    refine xg_t (xg_iload (va := (0, u45)) rfl rfl) ?_
    obtain ⟨f82_67, f82_69, f82_71, f82_73, f82_75, f82_77, f82_79, f82_81, f82_83, f82_85, f82_87, f82_88, f82_89, f82_91, f82_93, f82_95, h82_97, hb68, hb70, hb72, hb74, hb76, hb78, hb80, hb82, hb84, hb86, hb90, hb92, hb94, hb96, hb98⟩ := (hI54 82 (by decide) (by decide) : cp82 (wget w52 82))
    refine xg_cVv mX12_aLayer (vs := [(0, u45)]) (rest := []) (cn1 := 0) (sl1 := 0) rfl (mALayer (hI54) (by omega) pk64.2.2.2) rfl h82_97 rfl rfl rfl rfl rfl rfl (fun w99 hq100 => ?_)
    obtain ⟨hI101, hF102, hx103⟩ := hq100
    clear hb68 hb70 hb72 hb74 hb76 hb78 hb80 hb82 hb84 hb86 hb90 hb92 hb94 hb96
    obtain ⟨pk104, os105, ly106⟩ := hx103
    have pk107 : PK w w99 := PK.tr pk64 pk104
    have os108 : ∀ j, (j < 20 + 4 * u45 ∨ 24 + 4 * u45 ≤ j) → j < 140 → rwv w99 86 j = rwv w 86 j := fun j hj hl => (os105 j hj hl).trans (os65 j hj hl)
    have ms109 : mu w99 < mu w := Nat.lt_of_le_of_lt pk104.2.1 ms66
    refine xg_t (xg_goto) ?_
    refine xg_t (xg_blk (b := [(394, 1, 0, 0, 0, 0), (395, 3, 1, 12, 10, 180), (398, 3, 7, 416, 1, 0), (401, 1, 0, 0, 0, 0), (402, 3, 1, 12, 7, 151), (405, 1, 3, 2, 0, 0), (406, 3, 6, 416, 1, 0), (409, 1, 0, 0, 0, 0), (410, 3, 13, 110, 96, 190), (413, 3, 8, 420, 0, 0)]) rfl) ?_
    refine xg_t (xg_aload (va := (2, 82)) rfl rfl) ?_
    obtain ⟨f82_110, f82_112, f82_114, f82_116, f82_118, f82_120, f82_122, f82_124, f82_126, f82_128, f82_130, f82_131, f82_132, f82_134, f82_136, f82_138, h82_140, hb111, hb113, hb115, hb117, hb119, hb121, hb123, hb125, hb127, hb129, hb133, hb135, hb137, hb139, hb141⟩ := (hI101 82 (by decide) (by decide) : cp82 (wget w99 82))
    refine xg_t (xg_getf (va := (0, f82_126)) h82_140 rfl) ?_
    by_cases hc142 : f82_126 = 0
    · refine xg_t (xg_ifF (u := f82_126) rfl xnm0 (xj_neF hc142)) ?_
      refine xg_t (xg_aload (va := (2, 82)) rfl rfl) ?_
      refine xg_t (xg_getf (va := (0, f82_120)) h82_140 rfl) ?_
      refine xg_t (xg_const) ?_
      by_cases hc143 : f82_120 = 2
      · refine xg_t (xg_icF (u := f82_120) (v := 2) rfl xnm0 xnm0 (xj_neF hc143)) ?_
        refine xg_t (xg_aload (va := (2, 82)) rfl rfl) ?_
        refine xg_cVv mX12_advance (vs := []) (rest := []) (cn1 := 0) (sl1 := 0) rfl (mAdvance (hI101)) rfl h82_140 rfl rfl rfl rfl rfl rfl (fun w144 hq145 => ?_)
        obtain ⟨hI146, hF147, hx148⟩ := hq145
        clear hb111 hb113 hb115 hb117 hb119 hb121 hb123 hb125 hb127 hb129 hb133 hb135 hb137 hb139
        obtain ⟨hv149, hv150, hv151, hv152⟩ := hx148
        have hf154 := FA_fr hF147 (by decide)
        have hs155 := pk107.2.2.2
        unfold PS at hs155
        have pk153 : PK w99 w144 := ⟨fun _ => by omega, hv149, hv152, (show fld w144 82 10 = 0 ∨ FA w144 ≠ 0 by omega)⟩
        clear hs155
        clear hv150
        have pk156 : PK w w144 := PK.tr pk107 pk153
        have os157 : ∀ j, (j < 20 + 4 * u45 ∨ 24 + 4 * u45 ≤ j) → j < 140 → rwv w144 86 j = rwv w 86 j := fun j hj hl => (rwv_fr hF147 (by decide)).trans (os108 j hj hl)
        have hl158 : rwv w144 86 (20 + 4 * u45 + 0) = rwv w99 86 (20 + 4 * u45 + 0) := rwv_fr hF147 (by decide)
        have hl159 : rwv w144 86 (20 + 4 * u45 + 1) = rwv w99 86 (20 + 4 * u45 + 1) := rwv_fr hF147 (by decide)
        have hl160 : rwv w144 86 (20 + 4 * u45 + 2) = rwv w99 86 (20 + 4 * u45 + 2) := rwv_fr hF147 (by decide)
        have ly161 : FA w144 ≠ 0 ∨ 6 ≤ u45 ∨ (1 ≤ rwv w144 86 (20 + 4 * u45 + 0) ∧ rwv w144 86 (20 + 4 * u45 + 0) ≤ 99 ∧ 1 ≤ rwv w144 86 (20 + 4 * u45 + 1) ∧ rwv w144 86 (20 + 4 * u45 + 1) ≤ 99 ∧ 1 ≤ rwv w144 86 (20 + 4 * u45 + 2) ∧ rwv w144 86 (20 + 4 * u45 + 2) ≤ 99) := by have q := ly106; have q1 := pk153.1; omega
        have ms162 : mu w144 < mu w := Nat.lt_of_le_of_lt pk153.2.1 ms109
        clear ly106
        refine xg_t (xg_goto) ?_
        refine xg_t (xg_blk (b := [(420, 1, 0, 0, 0, 0), (421, 3, 1, 12, 11, 17), (424, 1, 2, 1, 0, 0), (425, 1, 39, 0, 0, 0), (426, 1, 10, 0, 0, 0), (427, 1, 3, 1, 0, 0), (428, 1, 11, 0, 0, 0), (429, 1, 17, 0, 0, 0), (430, 1, 0, 0, 0, 0), (431, 1, 19, 0, 0, 0), (432, 3, 1, 12, 14, 212), (435, 1, 3, 1, 0, 0), (436, 1, 11, 0, 0, 0), (437, 3, 14, 12, 14, 212), (440, 1, 12, 0, 0, 0)]) rfl) ?_
        obtain ⟨f82_163, f82_165, f82_167, f82_169, f82_171, f82_173, f82_175, f82_177, f82_179, f82_181, f82_183, f82_184, f82_185, f82_187, f82_189, f82_191, h82_193, hb164, hb166, hb168, hb170, hb172, hb174, hb176, hb178, hb180, hb182, hb186, hb188, hb190, hb192, hb194⟩ := (hI146 82 (by decide) (by decide) : cp82 (wget w144 82))
        have hf195 : fld w144 82 4 = f82_167 := fld_of h82_193
        have hf196 : fld w144 82 5 = f82_169 := fld_of h82_193
        have hf197 : fld w144 82 7 = f82_173 := fld_of h82_193
        have hf198 : fld w144 82 10 = f82_179 := fld_of h82_193
        have hf199 : fld w144 82 14 = f82_181 := fld_of h82_193
        have hu200 : mu w144 = 2 * (fld w144 82 4 - fld w144 82 5) + min 1 (fld w144 82 7) := rfl
        have hf201 := pk156.2.2.1
        have hl202 : f82_181 ≤ 1000 := by omega
        refine xg_t (xg_aload (va := (2, 82)) rfl rfl) ?_
        refine xg_t (xg_getf (va := (2, 85)) h82_193 rfl) ?_
        refine xg_t (xg_iload (va := (0, 0)) rfl rfl) ?_
        refine xg_t (xg_dup2 rfl) ?_
        refine xg_ialdB (n := 0) (B := 4294967295) (((h85_37.fr hF55 (by decide)).fr hF102 (by decide)).fr hF147 (by decide)) (hb38) xnm0 (by omega) (fun u203 hu204 he205 => ?_)
        have hl206 : u203 = u45 := by omega
        refine xg_t (xg_const) ?_
        refine xg_t (xg_iadd (u := u203) (v := 1) (z := u203 + 1) xnm0 xnm0 (by omega)) ?_
        refine xg_iastK (n := 0) (u := u203 + 1) (((h85_37.fr hF55 (by decide)).fr hF102 (by decide)).fr hF147 (by decide)) xnm0 xnm0 rfl (by omega) (fun w207 hr208 hb209 => ?_)
        refine xg_t (xg_aload (va := (2, 82)) rfl rfl) ?_
        refine xg_t (xg_dup rfl) ?_
        refine xg_t (xg_getf (va := (0, f82_181)) (hb209.get (by decide) h82_193) rfl) ?_
        refine xg_t (xg_const) ?_
        refine xg_t (xg_iadd (u := f82_181) (v := 1) (z := f82_181 + 1) xnm0 xnm0 (by omega)) ?_
        refine xg_putI (fl1 := [(2, 83), (2, 84), (0, f82_163), (0, f82_165), (0, f82_167), (0, f82_169), (0, f82_171), (0, f82_173), (0, f82_175), (0, f82_177), (0, f82_179), (2, 85), (2, 86), (2, 87), (0, f82_181 + 1), (2, 88), (2, 89), (2, 90), (2, 91), (2, 92), (2, 93), (2, 94), (4, f82_183), (4, f82_184), (0, f82_185), (2, 95), (2, 96), (2, 97), (2, 98), (2, 99), (2, 100), (2, 101), (2, 102), (0, f82_187), (2, 103), (2, 104), (2, 105), (2, 106), (2, 107), (2, 108), (2, 109), (0, f82_189), (0, f82_191), (2, 110), (2, 111), (2, 112), (2, 113)]) (hb209.get (by decide) h82_193) rfl rfl rfl (fun w210 hk211 hb212 => ?_)
        have hF213 : xFr [82, 85] w144 w210 := ((xFr.of (S := [82, 85]) hb209 (by decide)).tr (xFr.of (S := [82, 85]) hb212 (by decide)))
        have hA214 := FA_fr hF213 (by decide)
        have hf215 : fld w210 82 4 = f82_167 := fld_of hk211
        have hf216 : fld w210 82 5 = f82_169 := fld_of hk211
        have hf217 : fld w210 82 7 = f82_173 := fld_of hk211
        have hf218 : fld w210 82 10 = f82_179 := fld_of hk211
        have hf219 : fld w210 82 14 = f82_181 + 1 := fld_of hk211
        have hu220 : mu w210 = 2 * (fld w210 82 4 - fld w210 82 5) + min 1 (fld w210 82 7) := rfl
        have pq221 := pk156
        unfold PK PS at pq221
        have hM222 : ∀ s, s < 7 → s ≠ 0 → rwv w210 85 s = rwv w 85 s := fun s hs hn => (rwv_of (hr208.but hb212 (by decide)) hs).trans ((if_neg hn).trans (rwv_of h85_37 hs).symm)
        have hM223 : rwv w210 85 0 = u45 + 1 := (rwv_of (hr208.but hb212 (by decide)) (by decide)).trans ((if_pos rfl).trans (by omega))
        have hM224 : ∀ s, s < 7 → rwv w210 85 s ≤ rwv w 85 s + 1 := fun s hs => by
          by_cases z : s = 0
          · subst z; omega
          · rw [hM222 s hs z]; omega
        have hO225 : ∀ j, (j < 20 + 4 * u45 ∨ 24 + 4 * u45 ≤ j) → j < 140 → rwv w210 86 j = rwv w 86 j := fun j hj hl => (rwv_fr hF213 (by decide)).trans (os157 j hj hl)
        have hl227 := ly161
        have hl228 : rwv w210 86 (20 + 4 * u45 + 0) = rwv w144 86 (20 + 4 * u45 + 0) := rwv_fr hF213 (by decide)
        have hl229 : rwv w210 86 (20 + 4 * u45 + 1) = rwv w144 86 (20 + 4 * u45 + 1) := rwv_fr hF213 (by decide)
        have hl230 : rwv w210 86 (20 + 4 * u45 + 2) = rwv w144 86 (20 + 4 * u45 + 2) := rwv_fr hF213 (by decide)
        have hN226 : FA w210 ≠ 0 ∨ 6 ≤ u45 ∨ (1 ≤ rwv w210 86 (20 + 4 * u45 + 0) ∧ rwv w210 86 (20 + 4 * u45 + 0) ≤ 99 ∧ 1 ≤ rwv w210 86 (20 + 4 * u45 + 1) ∧ rwv w210 86 (20 + 4 * u45 + 1) ≤ 99 ∧ 1 ≤ rwv w210 86 (20 + 4 * u45 + 2) ∧ rwv w210 86 (20 + 4 * u45 + 2) ≤ 99) := by omega
        have hX231 : FA w210 ≠ 0 ∨ u45 < 6 := by omega
        have hD232 : FA w210 ≠ 0 ∨ (DATA w → DATA w210) := by
          by_cases z : FA w210 ≠ 0
          · exact Or.inl z
          · exact Or.inr (fun hd => hd.s0 hM222 hK48 hM223 (hX231.resolve_left z) hO225 ((hN226.resolve_left z).resolve_left (by have := hX231.resolve_left z; omega)))
        exact xg_e ⟨w210, ⟨rfl, rfl⟩, xMnv.up (S := [85, 82]) hI146 ((xFr.of (S := [85, 82]) hb209 (by decide)).tr (xFr.of (S := [85, 82]) hb212 (by decide))) (List.forall_mem_cons.mpr ⟨(show cpI 7 52 4294967295 (wget w210 85) from ⟨_, (hr208.but hb212 (by decide)), xrb (by omega) (hb38)⟩), List.forall_mem_cons.mpr ⟨(show cp82 (wget w210 82) from ⟨f82_163, f82_165, f82_167, f82_169, f82_171, f82_173, f82_175, f82_177, f82_179, f82_181 + 1, f82_183, f82_184, f82_185, f82_187, f82_189, f82_191, hk211, hb164, hb166, hb168, hb170, hb172, hb174, hb176, hb178, hb180, by omega, hb186, hb188, hb190, hb192, by omega⟩), fun _ h => absurd h List.not_mem_nil⟩⟩), ((((hF55.up (by decide)).tr (hF102.up (by decide))).tr (hF147.up (by decide))).tr ((xFr.of (S := [82, 83, 85, 86, 87]) hb209 (by decide)).tr (xFr.of (S := [82, 83, 85, 86, 87]) hb212 (by decide)))), ⟨fun h => by have := pq221.1 h; omega, (show fld w210 82 10 = 0 ∨ FA w210 ≠ 0 by omega), Or.inr ⟨by have := ms162; omega, by omega, hM224⟩, hD232⟩⟩
      · refine xg_t (xg_icT (u := f82_120) (v := 2) rfl xnm0 xnm0 (xj_neT hc143)) ?_
        refine xg_t (xg_blk (b := [(416, 1, 0, 0, 0, 0), (417, 3, 13, 140, 96, 183)]) rfl) ?_
        refine xg_t (xg_aload (va := (2, 82)) rfl rfl) ?_
        refine xg_cVv mX12_ends (vs := []) (rest := []) (cn1 := 0) (sl1 := 0) rfl (mEnds (hI101) pk107.2.2.2) rfl h82_140 rfl rfl rfl rfl rfl rfl (fun w233 hq234 => ?_)
        obtain ⟨hI235, hF236, hx237⟩ := hq234
        clear hb111 hb113 hb115 hb117 hb119 hb121 hb123 hb125 hb127 hb129 hb133 hb135 hb137 hb139
        obtain ⟨hv238, hv239, hv240, hv241⟩ := hx237
        have pk242 : PK w99 w233 := ⟨fun _ => hv238, by omega, by omega, Or.inr hv238⟩
        have pk243 : PK w w233 := PK.tr pk107 pk242
        have os244 : ∀ j, (j < 20 + 4 * u45 ∨ 24 + 4 * u45 ≤ j) → j < 140 → rwv w233 86 j = rwv w 86 j := fun j hj hl => (rwv_fr hF236 (by decide)).trans (os108 j hj hl)
        have hl245 : rwv w233 86 (20 + 4 * u45 + 0) = rwv w99 86 (20 + 4 * u45 + 0) := rwv_fr hF236 (by decide)
        have hl246 : rwv w233 86 (20 + 4 * u45 + 1) = rwv w99 86 (20 + 4 * u45 + 1) := rwv_fr hF236 (by decide)
        have hl247 : rwv w233 86 (20 + 4 * u45 + 2) = rwv w99 86 (20 + 4 * u45 + 2) := rwv_fr hF236 (by decide)
        have ly248 : FA w233 ≠ 0 ∨ 6 ≤ u45 ∨ (1 ≤ rwv w233 86 (20 + 4 * u45 + 0) ∧ rwv w233 86 (20 + 4 * u45 + 0) ≤ 99 ∧ 1 ≤ rwv w233 86 (20 + 4 * u45 + 1) ∧ rwv w233 86 (20 + 4 * u45 + 1) ≤ 99 ∧ 1 ≤ rwv w233 86 (20 + 4 * u45 + 2) ∧ rwv w233 86 (20 + 4 * u45 + 2) ≤ 99) := by have q := ly106; have q1 := pk242.1; omega
        have ms249 : mu w233 < mu w := Nat.lt_of_le_of_lt pk242.2.1 ms109
        clear ly106
        refine xg_t (xg_blk (b := [(420, 1, 0, 0, 0, 0), (421, 3, 1, 12, 11, 17), (424, 1, 2, 1, 0, 0), (425, 1, 39, 0, 0, 0), (426, 1, 10, 0, 0, 0), (427, 1, 3, 1, 0, 0), (428, 1, 11, 0, 0, 0), (429, 1, 17, 0, 0, 0), (430, 1, 0, 0, 0, 0), (431, 1, 19, 0, 0, 0), (432, 3, 1, 12, 14, 212), (435, 1, 3, 1, 0, 0), (436, 1, 11, 0, 0, 0), (437, 3, 14, 12, 14, 212), (440, 1, 12, 0, 0, 0)]) rfl) ?_
        obtain ⟨f82_250, f82_252, f82_254, f82_256, f82_258, f82_260, f82_262, f82_264, f82_266, f82_268, f82_270, f82_271, f82_272, f82_274, f82_276, f82_278, h82_280, hb251, hb253, hb255, hb257, hb259, hb261, hb263, hb265, hb267, hb269, hb273, hb275, hb277, hb279, hb281⟩ := (hI235 82 (by decide) (by decide) : cp82 (wget w233 82))
        have hf282 : fld w233 82 4 = f82_254 := fld_of h82_280
        have hf283 : fld w233 82 5 = f82_256 := fld_of h82_280
        have hf284 : fld w233 82 7 = f82_260 := fld_of h82_280
        have hf285 : fld w233 82 10 = f82_266 := fld_of h82_280
        have hf286 : fld w233 82 14 = f82_268 := fld_of h82_280
        have hu287 : mu w233 = 2 * (fld w233 82 4 - fld w233 82 5) + min 1 (fld w233 82 7) := rfl
        have hf288 := pk243.2.2.1
        have hl289 : f82_268 ≤ 1000 := by omega
        refine xg_t (xg_aload (va := (2, 82)) rfl rfl) ?_
        refine xg_t (xg_getf (va := (2, 85)) h82_280 rfl) ?_
        refine xg_t (xg_iload (va := (0, 0)) rfl rfl) ?_
        refine xg_t (xg_dup2 rfl) ?_
        refine xg_ialdB (n := 0) (B := 4294967295) (((h85_37.fr hF55 (by decide)).fr hF102 (by decide)).fr hF236 (by decide)) (hb38) xnm0 (by omega) (fun u290 hu291 he292 => ?_)
        have hl293 : u290 = u45 := by omega
        refine xg_t (xg_const) ?_
        refine xg_t (xg_iadd (u := u290) (v := 1) (z := u290 + 1) xnm0 xnm0 (by omega)) ?_
        refine xg_iastK (n := 0) (u := u290 + 1) (((h85_37.fr hF55 (by decide)).fr hF102 (by decide)).fr hF236 (by decide)) xnm0 xnm0 rfl (by omega) (fun w294 hr295 hb296 => ?_)
        refine xg_t (xg_aload (va := (2, 82)) rfl rfl) ?_
        refine xg_t (xg_dup rfl) ?_
        refine xg_t (xg_getf (va := (0, f82_268)) (hb296.get (by decide) h82_280) rfl) ?_
        refine xg_t (xg_const) ?_
        refine xg_t (xg_iadd (u := f82_268) (v := 1) (z := f82_268 + 1) xnm0 xnm0 (by omega)) ?_
        refine xg_putI (fl1 := [(2, 83), (2, 84), (0, f82_250), (0, f82_252), (0, f82_254), (0, f82_256), (0, f82_258), (0, f82_260), (0, f82_262), (0, f82_264), (0, f82_266), (2, 85), (2, 86), (2, 87), (0, f82_268 + 1), (2, 88), (2, 89), (2, 90), (2, 91), (2, 92), (2, 93), (2, 94), (4, f82_270), (4, f82_271), (0, f82_272), (2, 95), (2, 96), (2, 97), (2, 98), (2, 99), (2, 100), (2, 101), (2, 102), (0, f82_274), (2, 103), (2, 104), (2, 105), (2, 106), (2, 107), (2, 108), (2, 109), (0, f82_276), (0, f82_278), (2, 110), (2, 111), (2, 112), (2, 113)]) (hb296.get (by decide) h82_280) rfl rfl rfl (fun w297 hk298 hb299 => ?_)
        have hF300 : xFr [82, 85] w233 w297 := ((xFr.of (S := [82, 85]) hb296 (by decide)).tr (xFr.of (S := [82, 85]) hb299 (by decide)))
        have hA301 := FA_fr hF300 (by decide)
        have hf302 : fld w297 82 4 = f82_254 := fld_of hk298
        have hf303 : fld w297 82 5 = f82_256 := fld_of hk298
        have hf304 : fld w297 82 7 = f82_260 := fld_of hk298
        have hf305 : fld w297 82 10 = f82_266 := fld_of hk298
        have hf306 : fld w297 82 14 = f82_268 + 1 := fld_of hk298
        have hu307 : mu w297 = 2 * (fld w297 82 4 - fld w297 82 5) + min 1 (fld w297 82 7) := rfl
        have pq308 := pk243
        unfold PK PS at pq308
        have hM309 : ∀ s, s < 7 → s ≠ 0 → rwv w297 85 s = rwv w 85 s := fun s hs hn => (rwv_of (hr295.but hb299 (by decide)) hs).trans ((if_neg hn).trans (rwv_of h85_37 hs).symm)
        have hM310 : rwv w297 85 0 = u45 + 1 := (rwv_of (hr295.but hb299 (by decide)) (by decide)).trans ((if_pos rfl).trans (by omega))
        have hM311 : ∀ s, s < 7 → rwv w297 85 s ≤ rwv w 85 s + 1 := fun s hs => by
          by_cases z : s = 0
          · subst z; omega
          · rw [hM309 s hs z]; omega
        have hO312 : ∀ j, (j < 20 + 4 * u45 ∨ 24 + 4 * u45 ≤ j) → j < 140 → rwv w297 86 j = rwv w 86 j := fun j hj hl => (rwv_fr hF300 (by decide)).trans (os244 j hj hl)
        have hl314 := ly248
        have hl315 : rwv w297 86 (20 + 4 * u45 + 0) = rwv w233 86 (20 + 4 * u45 + 0) := rwv_fr hF300 (by decide)
        have hl316 : rwv w297 86 (20 + 4 * u45 + 1) = rwv w233 86 (20 + 4 * u45 + 1) := rwv_fr hF300 (by decide)
        have hl317 : rwv w297 86 (20 + 4 * u45 + 2) = rwv w233 86 (20 + 4 * u45 + 2) := rwv_fr hF300 (by decide)
        have hN313 : FA w297 ≠ 0 ∨ 6 ≤ u45 ∨ (1 ≤ rwv w297 86 (20 + 4 * u45 + 0) ∧ rwv w297 86 (20 + 4 * u45 + 0) ≤ 99 ∧ 1 ≤ rwv w297 86 (20 + 4 * u45 + 1) ∧ rwv w297 86 (20 + 4 * u45 + 1) ≤ 99 ∧ 1 ≤ rwv w297 86 (20 + 4 * u45 + 2) ∧ rwv w297 86 (20 + 4 * u45 + 2) ≤ 99) := by omega
        have hX318 : FA w297 ≠ 0 ∨ u45 < 6 := by omega
        have hD319 : FA w297 ≠ 0 ∨ (DATA w → DATA w297) := by
          by_cases z : FA w297 ≠ 0
          · exact Or.inl z
          · exact Or.inr (fun hd => hd.s0 hM309 hK48 hM310 (hX318.resolve_left z) hO312 ((hN313.resolve_left z).resolve_left (by have := hX318.resolve_left z; omega)))
        exact xg_e ⟨w297, ⟨rfl, rfl⟩, xMnv.up (S := [85, 82]) hI235 ((xFr.of (S := [85, 82]) hb296 (by decide)).tr (xFr.of (S := [85, 82]) hb299 (by decide))) (List.forall_mem_cons.mpr ⟨(show cpI 7 52 4294967295 (wget w297 85) from ⟨_, (hr295.but hb299 (by decide)), xrb (by omega) (hb38)⟩), List.forall_mem_cons.mpr ⟨(show cp82 (wget w297 82) from ⟨f82_250, f82_252, f82_254, f82_256, f82_258, f82_260, f82_262, f82_264, f82_266, f82_268 + 1, f82_270, f82_271, f82_272, f82_274, f82_276, f82_278, hk298, hb251, hb253, hb255, hb257, hb259, hb261, hb263, hb265, hb267, by omega, hb273, hb275, hb277, hb279, by omega⟩), fun _ h => absurd h List.not_mem_nil⟩⟩), ((((hF55.up (by decide)).tr (hF102.up (by decide))).tr (hF236.up (by decide))).tr ((xFr.of (S := [82, 83, 85, 86, 87]) hb296 (by decide)).tr (xFr.of (S := [82, 83, 85, 86, 87]) hb299 (by decide)))), ⟨fun h => by have := pq308.1 h; omega, (show fld w297 82 10 = 0 ∨ FA w297 ≠ 0 by omega), Or.inr ⟨by have := ms249; omega, by omega, hM311⟩, hD319⟩⟩
    · refine xg_t (xg_ifT (u := f82_126) rfl xnm0 (xj_neT hc142)) ?_
      refine xg_t (xg_blk (b := [(416, 1, 0, 0, 0, 0), (417, 3, 13, 140, 96, 183)]) rfl) ?_
      refine xg_t (xg_aload (va := (2, 82)) rfl rfl) ?_
      refine xg_cVv mX12_ends (vs := []) (rest := []) (cn1 := 0) (sl1 := 0) rfl (mEnds (hI101) pk107.2.2.2) rfl h82_140 rfl rfl rfl rfl rfl rfl (fun w320 hq321 => ?_)
      obtain ⟨hI322, hF323, hx324⟩ := hq321
      clear hb111 hb113 hb115 hb117 hb119 hb121 hb123 hb125 hb127 hb129 hb133 hb135 hb137 hb139
      obtain ⟨hv325, hv326, hv327, hv328⟩ := hx324
      have pk329 : PK w99 w320 := ⟨fun _ => hv325, by omega, by omega, Or.inr hv325⟩
      have pk330 : PK w w320 := PK.tr pk107 pk329
      have os331 : ∀ j, (j < 20 + 4 * u45 ∨ 24 + 4 * u45 ≤ j) → j < 140 → rwv w320 86 j = rwv w 86 j := fun j hj hl => (rwv_fr hF323 (by decide)).trans (os108 j hj hl)
      have hl332 : rwv w320 86 (20 + 4 * u45 + 0) = rwv w99 86 (20 + 4 * u45 + 0) := rwv_fr hF323 (by decide)
      have hl333 : rwv w320 86 (20 + 4 * u45 + 1) = rwv w99 86 (20 + 4 * u45 + 1) := rwv_fr hF323 (by decide)
      have hl334 : rwv w320 86 (20 + 4 * u45 + 2) = rwv w99 86 (20 + 4 * u45 + 2) := rwv_fr hF323 (by decide)
      have ly335 : FA w320 ≠ 0 ∨ 6 ≤ u45 ∨ (1 ≤ rwv w320 86 (20 + 4 * u45 + 0) ∧ rwv w320 86 (20 + 4 * u45 + 0) ≤ 99 ∧ 1 ≤ rwv w320 86 (20 + 4 * u45 + 1) ∧ rwv w320 86 (20 + 4 * u45 + 1) ≤ 99 ∧ 1 ≤ rwv w320 86 (20 + 4 * u45 + 2) ∧ rwv w320 86 (20 + 4 * u45 + 2) ≤ 99) := by have q := ly106; have q1 := pk329.1; omega
      have ms336 : mu w320 < mu w := Nat.lt_of_le_of_lt pk329.2.1 ms109
      clear ly106
      refine xg_t (xg_blk (b := [(420, 1, 0, 0, 0, 0), (421, 3, 1, 12, 11, 17), (424, 1, 2, 1, 0, 0), (425, 1, 39, 0, 0, 0), (426, 1, 10, 0, 0, 0), (427, 1, 3, 1, 0, 0), (428, 1, 11, 0, 0, 0), (429, 1, 17, 0, 0, 0), (430, 1, 0, 0, 0, 0), (431, 1, 19, 0, 0, 0), (432, 3, 1, 12, 14, 212), (435, 1, 3, 1, 0, 0), (436, 1, 11, 0, 0, 0), (437, 3, 14, 12, 14, 212), (440, 1, 12, 0, 0, 0)]) rfl) ?_
      obtain ⟨f82_337, f82_339, f82_341, f82_343, f82_345, f82_347, f82_349, f82_351, f82_353, f82_355, f82_357, f82_358, f82_359, f82_361, f82_363, f82_365, h82_367, hb338, hb340, hb342, hb344, hb346, hb348, hb350, hb352, hb354, hb356, hb360, hb362, hb364, hb366, hb368⟩ := (hI322 82 (by decide) (by decide) : cp82 (wget w320 82))
      have hf369 : fld w320 82 4 = f82_341 := fld_of h82_367
      have hf370 : fld w320 82 5 = f82_343 := fld_of h82_367
      have hf371 : fld w320 82 7 = f82_347 := fld_of h82_367
      have hf372 : fld w320 82 10 = f82_353 := fld_of h82_367
      have hf373 : fld w320 82 14 = f82_355 := fld_of h82_367
      have hu374 : mu w320 = 2 * (fld w320 82 4 - fld w320 82 5) + min 1 (fld w320 82 7) := rfl
      have hf375 := pk330.2.2.1
      have hl376 : f82_355 ≤ 1000 := by omega
      refine xg_t (xg_aload (va := (2, 82)) rfl rfl) ?_
      refine xg_t (xg_getf (va := (2, 85)) h82_367 rfl) ?_
      refine xg_t (xg_iload (va := (0, 0)) rfl rfl) ?_
      refine xg_t (xg_dup2 rfl) ?_
      refine xg_ialdB (n := 0) (B := 4294967295) (((h85_37.fr hF55 (by decide)).fr hF102 (by decide)).fr hF323 (by decide)) (hb38) xnm0 (by omega) (fun u377 hu378 he379 => ?_)
      have hl380 : u377 = u45 := by omega
      refine xg_t (xg_const) ?_
      refine xg_t (xg_iadd (u := u377) (v := 1) (z := u377 + 1) xnm0 xnm0 (by omega)) ?_
      refine xg_iastK (n := 0) (u := u377 + 1) (((h85_37.fr hF55 (by decide)).fr hF102 (by decide)).fr hF323 (by decide)) xnm0 xnm0 rfl (by omega) (fun w381 hr382 hb383 => ?_)
      refine xg_t (xg_aload (va := (2, 82)) rfl rfl) ?_
      refine xg_t (xg_dup rfl) ?_
      refine xg_t (xg_getf (va := (0, f82_355)) (hb383.get (by decide) h82_367) rfl) ?_
      refine xg_t (xg_const) ?_
      refine xg_t (xg_iadd (u := f82_355) (v := 1) (z := f82_355 + 1) xnm0 xnm0 (by omega)) ?_
      refine xg_putI (fl1 := [(2, 83), (2, 84), (0, f82_337), (0, f82_339), (0, f82_341), (0, f82_343), (0, f82_345), (0, f82_347), (0, f82_349), (0, f82_351), (0, f82_353), (2, 85), (2, 86), (2, 87), (0, f82_355 + 1), (2, 88), (2, 89), (2, 90), (2, 91), (2, 92), (2, 93), (2, 94), (4, f82_357), (4, f82_358), (0, f82_359), (2, 95), (2, 96), (2, 97), (2, 98), (2, 99), (2, 100), (2, 101), (2, 102), (0, f82_361), (2, 103), (2, 104), (2, 105), (2, 106), (2, 107), (2, 108), (2, 109), (0, f82_363), (0, f82_365), (2, 110), (2, 111), (2, 112), (2, 113)]) (hb383.get (by decide) h82_367) rfl rfl rfl (fun w384 hk385 hb386 => ?_)
      have hF387 : xFr [82, 85] w320 w384 := ((xFr.of (S := [82, 85]) hb383 (by decide)).tr (xFr.of (S := [82, 85]) hb386 (by decide)))
      have hA388 := FA_fr hF387 (by decide)
      have hf389 : fld w384 82 4 = f82_341 := fld_of hk385
      have hf390 : fld w384 82 5 = f82_343 := fld_of hk385
      have hf391 : fld w384 82 7 = f82_347 := fld_of hk385
      have hf392 : fld w384 82 10 = f82_353 := fld_of hk385
      have hf393 : fld w384 82 14 = f82_355 + 1 := fld_of hk385
      have hu394 : mu w384 = 2 * (fld w384 82 4 - fld w384 82 5) + min 1 (fld w384 82 7) := rfl
      have pq395 := pk330
      unfold PK PS at pq395
      have hM396 : ∀ s, s < 7 → s ≠ 0 → rwv w384 85 s = rwv w 85 s := fun s hs hn => (rwv_of (hr382.but hb386 (by decide)) hs).trans ((if_neg hn).trans (rwv_of h85_37 hs).symm)
      have hM397 : rwv w384 85 0 = u45 + 1 := (rwv_of (hr382.but hb386 (by decide)) (by decide)).trans ((if_pos rfl).trans (by omega))
      have hM398 : ∀ s, s < 7 → rwv w384 85 s ≤ rwv w 85 s + 1 := fun s hs => by
        by_cases z : s = 0
        · subst z; omega
        · rw [hM396 s hs z]; omega
      have hO399 : ∀ j, (j < 20 + 4 * u45 ∨ 24 + 4 * u45 ≤ j) → j < 140 → rwv w384 86 j = rwv w 86 j := fun j hj hl => (rwv_fr hF387 (by decide)).trans (os331 j hj hl)
      have hl401 := ly335
      have hl402 : rwv w384 86 (20 + 4 * u45 + 0) = rwv w320 86 (20 + 4 * u45 + 0) := rwv_fr hF387 (by decide)
      have hl403 : rwv w384 86 (20 + 4 * u45 + 1) = rwv w320 86 (20 + 4 * u45 + 1) := rwv_fr hF387 (by decide)
      have hl404 : rwv w384 86 (20 + 4 * u45 + 2) = rwv w320 86 (20 + 4 * u45 + 2) := rwv_fr hF387 (by decide)
      have hN400 : FA w384 ≠ 0 ∨ 6 ≤ u45 ∨ (1 ≤ rwv w384 86 (20 + 4 * u45 + 0) ∧ rwv w384 86 (20 + 4 * u45 + 0) ≤ 99 ∧ 1 ≤ rwv w384 86 (20 + 4 * u45 + 1) ∧ rwv w384 86 (20 + 4 * u45 + 1) ≤ 99 ∧ 1 ≤ rwv w384 86 (20 + 4 * u45 + 2) ∧ rwv w384 86 (20 + 4 * u45 + 2) ≤ 99) := by omega
      have hX405 : FA w384 ≠ 0 ∨ u45 < 6 := by omega
      have hD406 : FA w384 ≠ 0 ∨ (DATA w → DATA w384) := by
        by_cases z : FA w384 ≠ 0
        · exact Or.inl z
        · exact Or.inr (fun hd => hd.s0 hM396 hK48 hM397 (hX405.resolve_left z) hO399 ((hN400.resolve_left z).resolve_left (by have := hX405.resolve_left z; omega)))
      exact xg_e ⟨w384, ⟨rfl, rfl⟩, xMnv.up (S := [85, 82]) hI322 ((xFr.of (S := [85, 82]) hb383 (by decide)).tr (xFr.of (S := [85, 82]) hb386 (by decide))) (List.forall_mem_cons.mpr ⟨(show cpI 7 52 4294967295 (wget w384 85) from ⟨_, (hr382.but hb386 (by decide)), xrb (by omega) (hb38)⟩), List.forall_mem_cons.mpr ⟨(show cp82 (wget w384 82) from ⟨f82_337, f82_339, f82_341, f82_343, f82_345, f82_347, f82_349, f82_351, f82_353, f82_355 + 1, f82_357, f82_358, f82_359, f82_361, f82_363, f82_365, hk385, hb338, hb340, hb342, hb344, hb346, hb348, hb350, hb352, hb354, by omega, hb360, hb362, hb364, hb366, by omega⟩), fun _ h => absurd h List.not_mem_nil⟩⟩), ((((hF55.up (by decide)).tr (hF102.up (by decide))).tr (hF323.up (by decide))).tr ((xFr.of (S := [82, 83, 85, 86, 87]) hb383 (by decide)).tr (xFr.of (S := [82, 83, 85, 86, 87]) hb386 (by decide)))), ⟨fun h => by have := pq395.1 h; omega, (show fld w384 82 10 = 0 ∨ FA w384 ≠ 0 by omega), Or.inr ⟨by have := ms336; omega, by omega, hM398⟩, hD406⟩⟩
  · refine xg_t (xg_icF (u := u45) (v := 6) rfl xnm0 xnm0 (xj_ltF (by omega) (by omega))) ?_
    refine xg_t (xg_aload (va := (2, 82)) rfl rfl) ?_
    refine xg_t (xg_const) ?_
    refine xg_t (xg_iload (va := (0, at_)) rfl rfl) ?_
    refine xg_cVv mX12_also (vs := [(0, 3), (0, at_)]) (rest := []) (cn1 := 0) (sl1 := 0) rfl (mAlso (hI) (by omega) (by omega) (by omega) (PK.rf hps).2.2.2) rfl h82_31 rfl rfl rfl rfl rfl rfl (fun w407 hq408 => ?_)
    obtain ⟨hI409, hF410, hx411⟩ := hq408
    have pk412 : PK w w407 := ⟨fun _ => hx411, Nat.le_of_eq (mu_fr hF410 (by decide)), fld_fr hF410 (by decide), Or.inr hx411⟩
    have pk413 : PK w w407 := PK.tr (PK.rf hps) pk412
    have os414 : ∀ j, (j < 20 + 4 * u45 ∨ 24 + 4 * u45 ≤ j) → j < 140 → rwv w407 86 j = rwv w 86 j := fun j hj hl => (rwv_fr hF410 (by decide)).trans ((fun j _ _ => rfl) j hj hl)
    have hf415 := fld_fr (c := 82) (j := 7) hF410 (by decide)
    refine xg_t (xg_blk (b := [(64, 1, 0, 0, 0, 0), (65, 3, 13, 110, 96, 190), (68, 1, 2, 1, 0, 0), (69, 39, 33, 362, 0, 9)]) rfl) ?_
    refine xg_t (xg_aload (va := (2, 82)) rfl rfl) ?_
    refine xg_cVv mX12_advance (vs := []) (rest := []) (cn1 := 0) (sl1 := 0) rfl (mAdvance (hI409)) rfl (hF410.get (by decide) h82_31) rfl rfl rfl rfl rfl rfl (fun w416 hq417 => ?_)
    obtain ⟨hI418, hF419, hx420⟩ := hq417
    clear hb2 hb4 hb6 hb8 hb10 hb12 hb14 hb16 hb18 hb20 hb24 hb26 hb28 hb30
    obtain ⟨hv421, hv422, hv423, hv424⟩ := hx420
    have hf426 := FA_fr hF419 (by decide)
    have hs427 := pk413.2.2.2
    unfold PS at hs427
    have pk425 : PK w407 w416 := ⟨fun _ => by omega, hv421, hv424, (show fld w416 82 10 = 0 ∨ FA w416 ≠ 0 by omega)⟩
    clear hs427
    have pk428 : PK w w416 := PK.tr pk413 pk425
    have os429 : ∀ j, (j < 20 + 4 * u45 ∨ 24 + 4 * u45 ≤ j) → j < 140 → rwv w416 86 j = rwv w 86 j := fun j hj hl => (rwv_fr hF419 (by decide)).trans (os414 j hj hl)
    have rg430 : FA w416 ≠ 0 ∨ 0 = 1 := (Or.inl hx411 : FA w407 ≠ 0 ∨ 0 = 1).imp_left pk425.1
    have ms431 : mu w416 < mu w := Nat.lt_of_lt_of_le (hv422 (by omega)) pk413.2.1
    clear hv422
    refine xg_t (xg_iload (va := (0, 0)) rfl rfl) ?_
    refine xg_t (xg_swt (ks := [(0, 108), (1, 116), (2, 180), (3, 221), (4, 273), (5, 326)]) (u := 0) (z := 108) rfl rfl rfl xnm0 (xsw_y rfl)) ?_
    refine xg_t (xg_blk (b := [(108, 1, 0, 0, 0, 0), (109, 1, 2, 3, 0, 0), (110, 3, 13, 106, 96, 204), (113, 3, 8, 394, 0, 0)]) rfl) ?_
    refine xg_t (xg_aload (va := (2, 82)) rfl rfl) ?_
    refine xg_t (xg_iload (va := (0, u45)) rfl rfl) ?_
    obtain ⟨f82_432, f82_434, f82_436, f82_438, f82_440, f82_442, f82_444, f82_446, f82_448, f82_450, f82_452, f82_453, f82_454, f82_456, f82_458, f82_460, h82_462, hb433, hb435, hb437, hb439, hb441, hb443, hb445, hb447, hb449, hb451, hb455, hb457, hb459, hb461, hb463⟩ := (hI418 82 (by decide) (by decide) : cp82 (wget w416 82))
    refine xg_cVv mX12_aLayer (vs := [(0, u45)]) (rest := []) (cn1 := 0) (sl1 := 0) rfl (mALayer (hI418) (by omega) pk428.2.2.2) rfl h82_462 rfl rfl rfl rfl rfl rfl (fun w464 hq465 => ?_)
    obtain ⟨hI466, hF467, hx468⟩ := hq465
    clear hb433 hb435 hb437 hb439 hb441 hb443 hb445 hb447 hb449 hb451 hb455 hb457 hb459 hb461
    obtain ⟨pk469, os470, ly471⟩ := hx468
    have pk472 : PK w w464 := PK.tr pk428 pk469
    have os473 : ∀ j, (j < 20 + 4 * u45 ∨ 24 + 4 * u45 ≤ j) → j < 140 → rwv w464 86 j = rwv w 86 j := fun j hj hl => (os470 j hj hl).trans (os429 j hj hl)
    have rg474 : FA w464 ≠ 0 ∨ 0 = 1 := rg430.imp_left pk469.1
    have ms475 : mu w464 < mu w := Nat.lt_of_le_of_lt pk469.2.1 ms431
    clear rg430
    refine xg_t (xg_goto) ?_
    refine xg_t (xg_blk (b := [(394, 1, 0, 0, 0, 0), (395, 3, 1, 12, 10, 180), (398, 3, 7, 416, 1, 0), (401, 1, 0, 0, 0, 0), (402, 3, 1, 12, 7, 151), (405, 1, 3, 2, 0, 0), (406, 3, 6, 416, 1, 0), (409, 1, 0, 0, 0, 0), (410, 3, 13, 110, 96, 190), (413, 3, 8, 420, 0, 0)]) rfl) ?_
    refine xg_t (xg_aload (va := (2, 82)) rfl rfl) ?_
    obtain ⟨f82_476, f82_478, f82_480, f82_482, f82_484, f82_486, f82_488, f82_490, f82_492, f82_494, f82_496, f82_497, f82_498, f82_500, f82_502, f82_504, h82_506, hb477, hb479, hb481, hb483, hb485, hb487, hb489, hb491, hb493, hb495, hb499, hb501, hb503, hb505, hb507⟩ := (hI466 82 (by decide) (by decide) : cp82 (wget w464 82))
    refine xg_t (xg_getf (va := (0, f82_492)) h82_506 rfl) ?_
    by_cases hc508 : f82_492 = 0
    · refine xg_t (xg_ifF (u := f82_492) rfl xnm0 (xj_neF hc508)) ?_
      refine xg_t (xg_aload (va := (2, 82)) rfl rfl) ?_
      refine xg_t (xg_getf (va := (0, f82_486)) h82_506 rfl) ?_
      refine xg_t (xg_const) ?_
      by_cases hc509 : f82_486 = 2
      · refine xg_t (xg_icF (u := f82_486) (v := 2) rfl xnm0 xnm0 (xj_neF hc509)) ?_
        refine xg_t (xg_aload (va := (2, 82)) rfl rfl) ?_
        refine xg_cVv mX12_advance (vs := []) (rest := []) (cn1 := 0) (sl1 := 0) rfl (mAdvance (hI466)) rfl h82_506 rfl rfl rfl rfl rfl rfl (fun w510 hq511 => ?_)
        obtain ⟨hI512, hF513, hx514⟩ := hq511
        clear hb477 hb479 hb481 hb483 hb485 hb487 hb489 hb491 hb493 hb495 hb499 hb501 hb503 hb505
        obtain ⟨hv515, hv516, hv517, hv518⟩ := hx514
        have hf520 := FA_fr hF513 (by decide)
        have hs521 := pk472.2.2.2
        unfold PS at hs521
        have pk519 : PK w464 w510 := ⟨fun _ => by omega, hv515, hv518, (show fld w510 82 10 = 0 ∨ FA w510 ≠ 0 by omega)⟩
        clear hs521
        clear hv516
        have pk522 : PK w w510 := PK.tr pk472 pk519
        have os523 : ∀ j, (j < 20 + 4 * u45 ∨ 24 + 4 * u45 ≤ j) → j < 140 → rwv w510 86 j = rwv w 86 j := fun j hj hl => (rwv_fr hF513 (by decide)).trans (os473 j hj hl)
        have rg524 : FA w510 ≠ 0 ∨ 0 = 1 := rg474.imp_left pk519.1
        have hl525 : rwv w510 86 (20 + 4 * u45 + 0) = rwv w464 86 (20 + 4 * u45 + 0) := rwv_fr hF513 (by decide)
        have hl526 : rwv w510 86 (20 + 4 * u45 + 1) = rwv w464 86 (20 + 4 * u45 + 1) := rwv_fr hF513 (by decide)
        have hl527 : rwv w510 86 (20 + 4 * u45 + 2) = rwv w464 86 (20 + 4 * u45 + 2) := rwv_fr hF513 (by decide)
        have ly528 : FA w510 ≠ 0 ∨ 6 ≤ u45 ∨ (1 ≤ rwv w510 86 (20 + 4 * u45 + 0) ∧ rwv w510 86 (20 + 4 * u45 + 0) ≤ 99 ∧ 1 ≤ rwv w510 86 (20 + 4 * u45 + 1) ∧ rwv w510 86 (20 + 4 * u45 + 1) ≤ 99 ∧ 1 ≤ rwv w510 86 (20 + 4 * u45 + 2) ∧ rwv w510 86 (20 + 4 * u45 + 2) ≤ 99) := by have q := ly471; have q1 := pk519.1; omega
        have ms529 : mu w510 < mu w := Nat.lt_of_le_of_lt pk519.2.1 ms475
        clear rg474 ly471
        refine xg_t (xg_goto) ?_
        refine xg_t (xg_blk (b := [(420, 1, 0, 0, 0, 0), (421, 3, 1, 12, 11, 17), (424, 1, 2, 1, 0, 0), (425, 1, 39, 0, 0, 0), (426, 1, 10, 0, 0, 0), (427, 1, 3, 1, 0, 0), (428, 1, 11, 0, 0, 0), (429, 1, 17, 0, 0, 0), (430, 1, 0, 0, 0, 0), (431, 1, 19, 0, 0, 0), (432, 3, 1, 12, 14, 212), (435, 1, 3, 1, 0, 0), (436, 1, 11, 0, 0, 0), (437, 3, 14, 12, 14, 212), (440, 1, 12, 0, 0, 0)]) rfl) ?_
        obtain ⟨f82_530, f82_532, f82_534, f82_536, f82_538, f82_540, f82_542, f82_544, f82_546, f82_548, f82_550, f82_551, f82_552, f82_554, f82_556, f82_558, h82_560, hb531, hb533, hb535, hb537, hb539, hb541, hb543, hb545, hb547, hb549, hb553, hb555, hb557, hb559, hb561⟩ := (hI512 82 (by decide) (by decide) : cp82 (wget w510 82))
        have hf562 : fld w510 82 4 = f82_534 := fld_of h82_560
        have hf563 : fld w510 82 5 = f82_536 := fld_of h82_560
        have hf564 : fld w510 82 7 = f82_540 := fld_of h82_560
        have hf565 : fld w510 82 10 = f82_546 := fld_of h82_560
        have hf566 : fld w510 82 14 = f82_548 := fld_of h82_560
        have hu567 : mu w510 = 2 * (fld w510 82 4 - fld w510 82 5) + min 1 (fld w510 82 7) := rfl
        have hf568 := pk522.2.2.1
        have hl569 : f82_548 ≤ 1000 := by omega
        refine xg_t (xg_aload (va := (2, 82)) rfl rfl) ?_
        refine xg_t (xg_getf (va := (2, 85)) h82_560 rfl) ?_
        refine xg_t (xg_iload (va := (0, 0)) rfl rfl) ?_
        refine xg_t (xg_dup2 rfl) ?_
        refine xg_ialdB (n := 0) (B := 4294967295) ((((h85_37.fr hF410 (by decide)).fr hF419 (by decide)).fr hF467 (by decide)).fr hF513 (by decide)) (hb38) xnm0 (by omega) (fun u570 hu571 he572 => ?_)
        have hl573 : u570 = u45 := by omega
        refine xg_t (xg_const) ?_
        refine xg_t (xg_iadd (u := u570) (v := 1) (z := u570 + 1) xnm0 xnm0 (by omega)) ?_
        refine xg_iastK (n := 0) (u := u570 + 1) ((((h85_37.fr hF410 (by decide)).fr hF419 (by decide)).fr hF467 (by decide)).fr hF513 (by decide)) xnm0 xnm0 rfl (by omega) (fun w574 hr575 hb576 => ?_)
        refine xg_t (xg_aload (va := (2, 82)) rfl rfl) ?_
        refine xg_t (xg_dup rfl) ?_
        refine xg_t (xg_getf (va := (0, f82_548)) (hb576.get (by decide) h82_560) rfl) ?_
        refine xg_t (xg_const) ?_
        refine xg_t (xg_iadd (u := f82_548) (v := 1) (z := f82_548 + 1) xnm0 xnm0 (by omega)) ?_
        refine xg_putI (fl1 := [(2, 83), (2, 84), (0, f82_530), (0, f82_532), (0, f82_534), (0, f82_536), (0, f82_538), (0, f82_540), (0, f82_542), (0, f82_544), (0, f82_546), (2, 85), (2, 86), (2, 87), (0, f82_548 + 1), (2, 88), (2, 89), (2, 90), (2, 91), (2, 92), (2, 93), (2, 94), (4, f82_550), (4, f82_551), (0, f82_552), (2, 95), (2, 96), (2, 97), (2, 98), (2, 99), (2, 100), (2, 101), (2, 102), (0, f82_554), (2, 103), (2, 104), (2, 105), (2, 106), (2, 107), (2, 108), (2, 109), (0, f82_556), (0, f82_558), (2, 110), (2, 111), (2, 112), (2, 113)]) (hb576.get (by decide) h82_560) rfl rfl rfl (fun w577 hk578 hb579 => ?_)
        have hF580 : xFr [82, 85] w510 w577 := ((xFr.of (S := [82, 85]) hb576 (by decide)).tr (xFr.of (S := [82, 85]) hb579 (by decide)))
        have hA581 := FA_fr hF580 (by decide)
        have hf582 : fld w577 82 4 = f82_534 := fld_of hk578
        have hf583 : fld w577 82 5 = f82_536 := fld_of hk578
        have hf584 : fld w577 82 7 = f82_540 := fld_of hk578
        have hf585 : fld w577 82 10 = f82_546 := fld_of hk578
        have hf586 : fld w577 82 14 = f82_548 + 1 := fld_of hk578
        have hu587 : mu w577 = 2 * (fld w577 82 4 - fld w577 82 5) + min 1 (fld w577 82 7) := rfl
        have pq588 := pk522
        unfold PK PS at pq588
        have hM589 : ∀ s, s < 7 → s ≠ 0 → rwv w577 85 s = rwv w 85 s := fun s hs hn => (rwv_of (hr575.but hb579 (by decide)) hs).trans ((if_neg hn).trans (rwv_of h85_37 hs).symm)
        have hM590 : rwv w577 85 0 = u45 + 1 := (rwv_of (hr575.but hb579 (by decide)) (by decide)).trans ((if_pos rfl).trans (by omega))
        have hM591 : ∀ s, s < 7 → rwv w577 85 s ≤ rwv w 85 s + 1 := fun s hs => by
          by_cases z : s = 0
          · subst z; omega
          · rw [hM589 s hs z]; omega
        have hO592 : ∀ j, (j < 20 + 4 * u45 ∨ 24 + 4 * u45 ≤ j) → j < 140 → rwv w577 86 j = rwv w 86 j := fun j hj hl => (rwv_fr hF580 (by decide)).trans (os523 j hj hl)
        have hl594 : FA w510 ≠ 0 ∨ 0 = 1 := rg524
        have hl595 := ly528
        have hl596 : rwv w577 86 (20 + 4 * u45 + 0) = rwv w510 86 (20 + 4 * u45 + 0) := rwv_fr hF580 (by decide)
        have hl597 : rwv w577 86 (20 + 4 * u45 + 1) = rwv w510 86 (20 + 4 * u45 + 1) := rwv_fr hF580 (by decide)
        have hl598 : rwv w577 86 (20 + 4 * u45 + 2) = rwv w510 86 (20 + 4 * u45 + 2) := rwv_fr hF580 (by decide)
        have hN593 : FA w577 ≠ 0 ∨ 6 ≤ u45 ∨ (1 ≤ rwv w577 86 (20 + 4 * u45 + 0) ∧ rwv w577 86 (20 + 4 * u45 + 0) ≤ 99 ∧ 1 ≤ rwv w577 86 (20 + 4 * u45 + 1) ∧ rwv w577 86 (20 + 4 * u45 + 1) ≤ 99 ∧ 1 ≤ rwv w577 86 (20 + 4 * u45 + 2) ∧ rwv w577 86 (20 + 4 * u45 + 2) ≤ 99) := by omega
        have hX599 : FA w577 ≠ 0 ∨ u45 < 6 := by omega
        have hD600 : FA w577 ≠ 0 ∨ (DATA w → DATA w577) := by
          by_cases z : FA w577 ≠ 0
          · exact Or.inl z
          · exact Or.inr (fun hd => hd.s0 hM589 hK48 hM590 (hX599.resolve_left z) hO592 ((hN593.resolve_left z).resolve_left (by have := hX599.resolve_left z; omega)))
        exact xg_e ⟨w577, ⟨rfl, rfl⟩, xMnv.up (S := [85, 82]) hI512 ((xFr.of (S := [85, 82]) hb576 (by decide)).tr (xFr.of (S := [85, 82]) hb579 (by decide))) (List.forall_mem_cons.mpr ⟨(show cpI 7 52 4294967295 (wget w577 85) from ⟨_, (hr575.but hb579 (by decide)), xrb (by omega) (hb38)⟩), List.forall_mem_cons.mpr ⟨(show cp82 (wget w577 82) from ⟨f82_530, f82_532, f82_534, f82_536, f82_538, f82_540, f82_542, f82_544, f82_546, f82_548 + 1, f82_550, f82_551, f82_552, f82_554, f82_556, f82_558, hk578, hb531, hb533, hb535, hb537, hb539, hb541, hb543, hb545, hb547, by omega, hb553, hb555, hb557, hb559, by omega⟩), fun _ h => absurd h List.not_mem_nil⟩⟩), (((((hF410.up (by decide)).tr (hF419.up (by decide))).tr (hF467.up (by decide))).tr (hF513.up (by decide))).tr ((xFr.of (S := [82, 83, 85, 86, 87]) hb576 (by decide)).tr (xFr.of (S := [82, 83, 85, 86, 87]) hb579 (by decide)))), ⟨fun h => by have := pq588.1 h; omega, (show fld w577 82 10 = 0 ∨ FA w577 ≠ 0 by omega), Or.inr ⟨by have := ms529; omega, by omega, hM591⟩, hD600⟩⟩
      · refine xg_t (xg_icT (u := f82_486) (v := 2) rfl xnm0 xnm0 (xj_neT hc509)) ?_
        refine xg_t (xg_blk (b := [(416, 1, 0, 0, 0, 0), (417, 3, 13, 140, 96, 183)]) rfl) ?_
        refine xg_t (xg_aload (va := (2, 82)) rfl rfl) ?_
        refine xg_cVv mX12_ends (vs := []) (rest := []) (cn1 := 0) (sl1 := 0) rfl (mEnds (hI466) pk472.2.2.2) rfl h82_506 rfl rfl rfl rfl rfl rfl (fun w601 hq602 => ?_)
        obtain ⟨hI603, hF604, hx605⟩ := hq602
        clear hb477 hb479 hb481 hb483 hb485 hb487 hb489 hb491 hb493 hb495 hb499 hb501 hb503 hb505
        obtain ⟨hv606, hv607, hv608, hv609⟩ := hx605
        have pk610 : PK w464 w601 := ⟨fun _ => hv606, by omega, by omega, Or.inr hv606⟩
        have pk611 : PK w w601 := PK.tr pk472 pk610
        have os612 : ∀ j, (j < 20 + 4 * u45 ∨ 24 + 4 * u45 ≤ j) → j < 140 → rwv w601 86 j = rwv w 86 j := fun j hj hl => (rwv_fr hF604 (by decide)).trans (os473 j hj hl)
        have rg613 : FA w601 ≠ 0 ∨ 0 = 1 := rg474.imp_left pk610.1
        have hl614 : rwv w601 86 (20 + 4 * u45 + 0) = rwv w464 86 (20 + 4 * u45 + 0) := rwv_fr hF604 (by decide)
        have hl615 : rwv w601 86 (20 + 4 * u45 + 1) = rwv w464 86 (20 + 4 * u45 + 1) := rwv_fr hF604 (by decide)
        have hl616 : rwv w601 86 (20 + 4 * u45 + 2) = rwv w464 86 (20 + 4 * u45 + 2) := rwv_fr hF604 (by decide)
        have ly617 : FA w601 ≠ 0 ∨ 6 ≤ u45 ∨ (1 ≤ rwv w601 86 (20 + 4 * u45 + 0) ∧ rwv w601 86 (20 + 4 * u45 + 0) ≤ 99 ∧ 1 ≤ rwv w601 86 (20 + 4 * u45 + 1) ∧ rwv w601 86 (20 + 4 * u45 + 1) ≤ 99 ∧ 1 ≤ rwv w601 86 (20 + 4 * u45 + 2) ∧ rwv w601 86 (20 + 4 * u45 + 2) ≤ 99) := by have q := ly471; have q1 := pk610.1; omega
        have ms618 : mu w601 < mu w := Nat.lt_of_le_of_lt pk610.2.1 ms475
        clear rg474 ly471
        refine xg_t (xg_blk (b := [(420, 1, 0, 0, 0, 0), (421, 3, 1, 12, 11, 17), (424, 1, 2, 1, 0, 0), (425, 1, 39, 0, 0, 0), (426, 1, 10, 0, 0, 0), (427, 1, 3, 1, 0, 0), (428, 1, 11, 0, 0, 0), (429, 1, 17, 0, 0, 0), (430, 1, 0, 0, 0, 0), (431, 1, 19, 0, 0, 0), (432, 3, 1, 12, 14, 212), (435, 1, 3, 1, 0, 0), (436, 1, 11, 0, 0, 0), (437, 3, 14, 12, 14, 212), (440, 1, 12, 0, 0, 0)]) rfl) ?_
        obtain ⟨f82_619, f82_621, f82_623, f82_625, f82_627, f82_629, f82_631, f82_633, f82_635, f82_637, f82_639, f82_640, f82_641, f82_643, f82_645, f82_647, h82_649, hb620, hb622, hb624, hb626, hb628, hb630, hb632, hb634, hb636, hb638, hb642, hb644, hb646, hb648, hb650⟩ := (hI603 82 (by decide) (by decide) : cp82 (wget w601 82))
        have hf651 : fld w601 82 4 = f82_623 := fld_of h82_649
        have hf652 : fld w601 82 5 = f82_625 := fld_of h82_649
        have hf653 : fld w601 82 7 = f82_629 := fld_of h82_649
        have hf654 : fld w601 82 10 = f82_635 := fld_of h82_649
        have hf655 : fld w601 82 14 = f82_637 := fld_of h82_649
        have hu656 : mu w601 = 2 * (fld w601 82 4 - fld w601 82 5) + min 1 (fld w601 82 7) := rfl
        have hf657 := pk611.2.2.1
        have hl658 : f82_637 ≤ 1000 := by omega
        refine xg_t (xg_aload (va := (2, 82)) rfl rfl) ?_
        refine xg_t (xg_getf (va := (2, 85)) h82_649 rfl) ?_
        refine xg_t (xg_iload (va := (0, 0)) rfl rfl) ?_
        refine xg_t (xg_dup2 rfl) ?_
        refine xg_ialdB (n := 0) (B := 4294967295) ((((h85_37.fr hF410 (by decide)).fr hF419 (by decide)).fr hF467 (by decide)).fr hF604 (by decide)) (hb38) xnm0 (by omega) (fun u659 hu660 he661 => ?_)
        have hl662 : u659 = u45 := by omega
        refine xg_t (xg_const) ?_
        refine xg_t (xg_iadd (u := u659) (v := 1) (z := u659 + 1) xnm0 xnm0 (by omega)) ?_
        refine xg_iastK (n := 0) (u := u659 + 1) ((((h85_37.fr hF410 (by decide)).fr hF419 (by decide)).fr hF467 (by decide)).fr hF604 (by decide)) xnm0 xnm0 rfl (by omega) (fun w663 hr664 hb665 => ?_)
        refine xg_t (xg_aload (va := (2, 82)) rfl rfl) ?_
        refine xg_t (xg_dup rfl) ?_
        refine xg_t (xg_getf (va := (0, f82_637)) (hb665.get (by decide) h82_649) rfl) ?_
        refine xg_t (xg_const) ?_
        refine xg_t (xg_iadd (u := f82_637) (v := 1) (z := f82_637 + 1) xnm0 xnm0 (by omega)) ?_
        refine xg_putI (fl1 := [(2, 83), (2, 84), (0, f82_619), (0, f82_621), (0, f82_623), (0, f82_625), (0, f82_627), (0, f82_629), (0, f82_631), (0, f82_633), (0, f82_635), (2, 85), (2, 86), (2, 87), (0, f82_637 + 1), (2, 88), (2, 89), (2, 90), (2, 91), (2, 92), (2, 93), (2, 94), (4, f82_639), (4, f82_640), (0, f82_641), (2, 95), (2, 96), (2, 97), (2, 98), (2, 99), (2, 100), (2, 101), (2, 102), (0, f82_643), (2, 103), (2, 104), (2, 105), (2, 106), (2, 107), (2, 108), (2, 109), (0, f82_645), (0, f82_647), (2, 110), (2, 111), (2, 112), (2, 113)]) (hb665.get (by decide) h82_649) rfl rfl rfl (fun w666 hk667 hb668 => ?_)
        have hF669 : xFr [82, 85] w601 w666 := ((xFr.of (S := [82, 85]) hb665 (by decide)).tr (xFr.of (S := [82, 85]) hb668 (by decide)))
        have hA670 := FA_fr hF669 (by decide)
        have hf671 : fld w666 82 4 = f82_623 := fld_of hk667
        have hf672 : fld w666 82 5 = f82_625 := fld_of hk667
        have hf673 : fld w666 82 7 = f82_629 := fld_of hk667
        have hf674 : fld w666 82 10 = f82_635 := fld_of hk667
        have hf675 : fld w666 82 14 = f82_637 + 1 := fld_of hk667
        have hu676 : mu w666 = 2 * (fld w666 82 4 - fld w666 82 5) + min 1 (fld w666 82 7) := rfl
        have pq677 := pk611
        unfold PK PS at pq677
        have hM678 : ∀ s, s < 7 → s ≠ 0 → rwv w666 85 s = rwv w 85 s := fun s hs hn => (rwv_of (hr664.but hb668 (by decide)) hs).trans ((if_neg hn).trans (rwv_of h85_37 hs).symm)
        have hM679 : rwv w666 85 0 = u45 + 1 := (rwv_of (hr664.but hb668 (by decide)) (by decide)).trans ((if_pos rfl).trans (by omega))
        have hM680 : ∀ s, s < 7 → rwv w666 85 s ≤ rwv w 85 s + 1 := fun s hs => by
          by_cases z : s = 0
          · subst z; omega
          · rw [hM678 s hs z]; omega
        have hO681 : ∀ j, (j < 20 + 4 * u45 ∨ 24 + 4 * u45 ≤ j) → j < 140 → rwv w666 86 j = rwv w 86 j := fun j hj hl => (rwv_fr hF669 (by decide)).trans (os612 j hj hl)
        have hl683 : FA w601 ≠ 0 ∨ 0 = 1 := rg613
        have hl684 := ly617
        have hl685 : rwv w666 86 (20 + 4 * u45 + 0) = rwv w601 86 (20 + 4 * u45 + 0) := rwv_fr hF669 (by decide)
        have hl686 : rwv w666 86 (20 + 4 * u45 + 1) = rwv w601 86 (20 + 4 * u45 + 1) := rwv_fr hF669 (by decide)
        have hl687 : rwv w666 86 (20 + 4 * u45 + 2) = rwv w601 86 (20 + 4 * u45 + 2) := rwv_fr hF669 (by decide)
        have hN682 : FA w666 ≠ 0 ∨ 6 ≤ u45 ∨ (1 ≤ rwv w666 86 (20 + 4 * u45 + 0) ∧ rwv w666 86 (20 + 4 * u45 + 0) ≤ 99 ∧ 1 ≤ rwv w666 86 (20 + 4 * u45 + 1) ∧ rwv w666 86 (20 + 4 * u45 + 1) ≤ 99 ∧ 1 ≤ rwv w666 86 (20 + 4 * u45 + 2) ∧ rwv w666 86 (20 + 4 * u45 + 2) ≤ 99) := by omega
        have hX688 : FA w666 ≠ 0 ∨ u45 < 6 := by omega
        have hD689 : FA w666 ≠ 0 ∨ (DATA w → DATA w666) := by
          by_cases z : FA w666 ≠ 0
          · exact Or.inl z
          · exact Or.inr (fun hd => hd.s0 hM678 hK48 hM679 (hX688.resolve_left z) hO681 ((hN682.resolve_left z).resolve_left (by have := hX688.resolve_left z; omega)))
        exact xg_e ⟨w666, ⟨rfl, rfl⟩, xMnv.up (S := [85, 82]) hI603 ((xFr.of (S := [85, 82]) hb665 (by decide)).tr (xFr.of (S := [85, 82]) hb668 (by decide))) (List.forall_mem_cons.mpr ⟨(show cpI 7 52 4294967295 (wget w666 85) from ⟨_, (hr664.but hb668 (by decide)), xrb (by omega) (hb38)⟩), List.forall_mem_cons.mpr ⟨(show cp82 (wget w666 82) from ⟨f82_619, f82_621, f82_623, f82_625, f82_627, f82_629, f82_631, f82_633, f82_635, f82_637 + 1, f82_639, f82_640, f82_641, f82_643, f82_645, f82_647, hk667, hb620, hb622, hb624, hb626, hb628, hb630, hb632, hb634, hb636, by omega, hb642, hb644, hb646, hb648, by omega⟩), fun _ h => absurd h List.not_mem_nil⟩⟩), (((((hF410.up (by decide)).tr (hF419.up (by decide))).tr (hF467.up (by decide))).tr (hF604.up (by decide))).tr ((xFr.of (S := [82, 83, 85, 86, 87]) hb665 (by decide)).tr (xFr.of (S := [82, 83, 85, 86, 87]) hb668 (by decide)))), ⟨fun h => by have := pq677.1 h; omega, (show fld w666 82 10 = 0 ∨ FA w666 ≠ 0 by omega), Or.inr ⟨by have := ms618; omega, by omega, hM680⟩, hD689⟩⟩
    · refine xg_t (xg_ifT (u := f82_492) rfl xnm0 (xj_neT hc508)) ?_
      refine xg_t (xg_blk (b := [(416, 1, 0, 0, 0, 0), (417, 3, 13, 140, 96, 183)]) rfl) ?_
      refine xg_t (xg_aload (va := (2, 82)) rfl rfl) ?_
      refine xg_cVv mX12_ends (vs := []) (rest := []) (cn1 := 0) (sl1 := 0) rfl (mEnds (hI466) pk472.2.2.2) rfl h82_506 rfl rfl rfl rfl rfl rfl (fun w690 hq691 => ?_)
      obtain ⟨hI692, hF693, hx694⟩ := hq691
      clear hb477 hb479 hb481 hb483 hb485 hb487 hb489 hb491 hb493 hb495 hb499 hb501 hb503 hb505
      obtain ⟨hv695, hv696, hv697, hv698⟩ := hx694
      have pk699 : PK w464 w690 := ⟨fun _ => hv695, by omega, by omega, Or.inr hv695⟩
      have pk700 : PK w w690 := PK.tr pk472 pk699
      have os701 : ∀ j, (j < 20 + 4 * u45 ∨ 24 + 4 * u45 ≤ j) → j < 140 → rwv w690 86 j = rwv w 86 j := fun j hj hl => (rwv_fr hF693 (by decide)).trans (os473 j hj hl)
      have rg702 : FA w690 ≠ 0 ∨ 0 = 1 := rg474.imp_left pk699.1
      have hl703 : rwv w690 86 (20 + 4 * u45 + 0) = rwv w464 86 (20 + 4 * u45 + 0) := rwv_fr hF693 (by decide)
      have hl704 : rwv w690 86 (20 + 4 * u45 + 1) = rwv w464 86 (20 + 4 * u45 + 1) := rwv_fr hF693 (by decide)
      have hl705 : rwv w690 86 (20 + 4 * u45 + 2) = rwv w464 86 (20 + 4 * u45 + 2) := rwv_fr hF693 (by decide)
      have ly706 : FA w690 ≠ 0 ∨ 6 ≤ u45 ∨ (1 ≤ rwv w690 86 (20 + 4 * u45 + 0) ∧ rwv w690 86 (20 + 4 * u45 + 0) ≤ 99 ∧ 1 ≤ rwv w690 86 (20 + 4 * u45 + 1) ∧ rwv w690 86 (20 + 4 * u45 + 1) ≤ 99 ∧ 1 ≤ rwv w690 86 (20 + 4 * u45 + 2) ∧ rwv w690 86 (20 + 4 * u45 + 2) ≤ 99) := by have q := ly471; have q1 := pk699.1; omega
      have ms707 : mu w690 < mu w := Nat.lt_of_le_of_lt pk699.2.1 ms475
      clear rg474 ly471
      refine xg_t (xg_blk (b := [(420, 1, 0, 0, 0, 0), (421, 3, 1, 12, 11, 17), (424, 1, 2, 1, 0, 0), (425, 1, 39, 0, 0, 0), (426, 1, 10, 0, 0, 0), (427, 1, 3, 1, 0, 0), (428, 1, 11, 0, 0, 0), (429, 1, 17, 0, 0, 0), (430, 1, 0, 0, 0, 0), (431, 1, 19, 0, 0, 0), (432, 3, 1, 12, 14, 212), (435, 1, 3, 1, 0, 0), (436, 1, 11, 0, 0, 0), (437, 3, 14, 12, 14, 212), (440, 1, 12, 0, 0, 0)]) rfl) ?_
      obtain ⟨f82_708, f82_710, f82_712, f82_714, f82_716, f82_718, f82_720, f82_722, f82_724, f82_726, f82_728, f82_729, f82_730, f82_732, f82_734, f82_736, h82_738, hb709, hb711, hb713, hb715, hb717, hb719, hb721, hb723, hb725, hb727, hb731, hb733, hb735, hb737, hb739⟩ := (hI692 82 (by decide) (by decide) : cp82 (wget w690 82))
      have hf740 : fld w690 82 4 = f82_712 := fld_of h82_738
      have hf741 : fld w690 82 5 = f82_714 := fld_of h82_738
      have hf742 : fld w690 82 7 = f82_718 := fld_of h82_738
      have hf743 : fld w690 82 10 = f82_724 := fld_of h82_738
      have hf744 : fld w690 82 14 = f82_726 := fld_of h82_738
      have hu745 : mu w690 = 2 * (fld w690 82 4 - fld w690 82 5) + min 1 (fld w690 82 7) := rfl
      have hf746 := pk700.2.2.1
      have hl747 : f82_726 ≤ 1000 := by omega
      refine xg_t (xg_aload (va := (2, 82)) rfl rfl) ?_
      refine xg_t (xg_getf (va := (2, 85)) h82_738 rfl) ?_
      refine xg_t (xg_iload (va := (0, 0)) rfl rfl) ?_
      refine xg_t (xg_dup2 rfl) ?_
      refine xg_ialdB (n := 0) (B := 4294967295) ((((h85_37.fr hF410 (by decide)).fr hF419 (by decide)).fr hF467 (by decide)).fr hF693 (by decide)) (hb38) xnm0 (by omega) (fun u748 hu749 he750 => ?_)
      have hl751 : u748 = u45 := by omega
      refine xg_t (xg_const) ?_
      refine xg_t (xg_iadd (u := u748) (v := 1) (z := u748 + 1) xnm0 xnm0 (by omega)) ?_
      refine xg_iastK (n := 0) (u := u748 + 1) ((((h85_37.fr hF410 (by decide)).fr hF419 (by decide)).fr hF467 (by decide)).fr hF693 (by decide)) xnm0 xnm0 rfl (by omega) (fun w752 hr753 hb754 => ?_)
      refine xg_t (xg_aload (va := (2, 82)) rfl rfl) ?_
      refine xg_t (xg_dup rfl) ?_
      refine xg_t (xg_getf (va := (0, f82_726)) (hb754.get (by decide) h82_738) rfl) ?_
      refine xg_t (xg_const) ?_
      refine xg_t (xg_iadd (u := f82_726) (v := 1) (z := f82_726 + 1) xnm0 xnm0 (by omega)) ?_
      refine xg_putI (fl1 := [(2, 83), (2, 84), (0, f82_708), (0, f82_710), (0, f82_712), (0, f82_714), (0, f82_716), (0, f82_718), (0, f82_720), (0, f82_722), (0, f82_724), (2, 85), (2, 86), (2, 87), (0, f82_726 + 1), (2, 88), (2, 89), (2, 90), (2, 91), (2, 92), (2, 93), (2, 94), (4, f82_728), (4, f82_729), (0, f82_730), (2, 95), (2, 96), (2, 97), (2, 98), (2, 99), (2, 100), (2, 101), (2, 102), (0, f82_732), (2, 103), (2, 104), (2, 105), (2, 106), (2, 107), (2, 108), (2, 109), (0, f82_734), (0, f82_736), (2, 110), (2, 111), (2, 112), (2, 113)]) (hb754.get (by decide) h82_738) rfl rfl rfl (fun w755 hk756 hb757 => ?_)
      have hF758 : xFr [82, 85] w690 w755 := ((xFr.of (S := [82, 85]) hb754 (by decide)).tr (xFr.of (S := [82, 85]) hb757 (by decide)))
      have hA759 := FA_fr hF758 (by decide)
      have hf760 : fld w755 82 4 = f82_712 := fld_of hk756
      have hf761 : fld w755 82 5 = f82_714 := fld_of hk756
      have hf762 : fld w755 82 7 = f82_718 := fld_of hk756
      have hf763 : fld w755 82 10 = f82_724 := fld_of hk756
      have hf764 : fld w755 82 14 = f82_726 + 1 := fld_of hk756
      have hu765 : mu w755 = 2 * (fld w755 82 4 - fld w755 82 5) + min 1 (fld w755 82 7) := rfl
      have pq766 := pk700
      unfold PK PS at pq766
      have hM767 : ∀ s, s < 7 → s ≠ 0 → rwv w755 85 s = rwv w 85 s := fun s hs hn => (rwv_of (hr753.but hb757 (by decide)) hs).trans ((if_neg hn).trans (rwv_of h85_37 hs).symm)
      have hM768 : rwv w755 85 0 = u45 + 1 := (rwv_of (hr753.but hb757 (by decide)) (by decide)).trans ((if_pos rfl).trans (by omega))
      have hM769 : ∀ s, s < 7 → rwv w755 85 s ≤ rwv w 85 s + 1 := fun s hs => by
        by_cases z : s = 0
        · subst z; omega
        · rw [hM767 s hs z]; omega
      have hO770 : ∀ j, (j < 20 + 4 * u45 ∨ 24 + 4 * u45 ≤ j) → j < 140 → rwv w755 86 j = rwv w 86 j := fun j hj hl => (rwv_fr hF758 (by decide)).trans (os701 j hj hl)
      have hl772 : FA w690 ≠ 0 ∨ 0 = 1 := rg702
      have hl773 := ly706
      have hl774 : rwv w755 86 (20 + 4 * u45 + 0) = rwv w690 86 (20 + 4 * u45 + 0) := rwv_fr hF758 (by decide)
      have hl775 : rwv w755 86 (20 + 4 * u45 + 1) = rwv w690 86 (20 + 4 * u45 + 1) := rwv_fr hF758 (by decide)
      have hl776 : rwv w755 86 (20 + 4 * u45 + 2) = rwv w690 86 (20 + 4 * u45 + 2) := rwv_fr hF758 (by decide)
      have hN771 : FA w755 ≠ 0 ∨ 6 ≤ u45 ∨ (1 ≤ rwv w755 86 (20 + 4 * u45 + 0) ∧ rwv w755 86 (20 + 4 * u45 + 0) ≤ 99 ∧ 1 ≤ rwv w755 86 (20 + 4 * u45 + 1) ∧ rwv w755 86 (20 + 4 * u45 + 1) ≤ 99 ∧ 1 ≤ rwv w755 86 (20 + 4 * u45 + 2) ∧ rwv w755 86 (20 + 4 * u45 + 2) ≤ 99) := by omega
      have hX777 : FA w755 ≠ 0 ∨ u45 < 6 := by omega
      have hD778 : FA w755 ≠ 0 ∨ (DATA w → DATA w755) := by
        by_cases z : FA w755 ≠ 0
        · exact Or.inl z
        · exact Or.inr (fun hd => hd.s0 hM767 hK48 hM768 (hX777.resolve_left z) hO770 ((hN771.resolve_left z).resolve_left (by have := hX777.resolve_left z; omega)))
      exact xg_e ⟨w755, ⟨rfl, rfl⟩, xMnv.up (S := [85, 82]) hI692 ((xFr.of (S := [85, 82]) hb754 (by decide)).tr (xFr.of (S := [85, 82]) hb757 (by decide))) (List.forall_mem_cons.mpr ⟨(show cpI 7 52 4294967295 (wget w755 85) from ⟨_, (hr753.but hb757 (by decide)), xrb (by omega) (hb38)⟩), List.forall_mem_cons.mpr ⟨(show cp82 (wget w755 82) from ⟨f82_708, f82_710, f82_712, f82_714, f82_716, f82_718, f82_720, f82_722, f82_724, f82_726 + 1, f82_728, f82_729, f82_730, f82_732, f82_734, f82_736, hk756, hb709, hb711, hb713, hb715, hb717, hb719, hb721, hb723, hb725, by omega, hb731, hb733, hb735, hb737, by omega⟩), fun _ h => absurd h List.not_mem_nil⟩⟩), (((((hF410.up (by decide)).tr (hF419.up (by decide))).tr (hF467.up (by decide))).tr (hF693.up (by decide))).tr ((xFr.of (S := [82, 83, 85, 86, 87]) hb754 (by decide)).tr (xFr.of (S := [82, 83, 85, 86, 87]) hb757 (by decide)))), ⟨fun h => by have := pq766.1 h; omega, (show fld w755 82 10 = 0 ∨ FA w755 ≠ 0 by omega), Or.inr ⟨by have := ms707; omega, by omega, hM769⟩, hD778⟩⟩
end XMB
