section
/-! the model: lines of films -/
def DATA (w : List (List xE)) : Prop := rwv w 85 0 ≤ 6 ∧ rwv w 85 1 ≤ 4 ∧ rwv w 85 2 ≤ 6 ∧ rwv w 85 3 ≤ 4 ∧ rwv w 85 4 ≤ 20 ∧ (1 ≤ rwv w 86 5 ∧ rwv w 86 5 ≤ 6) ∧ (1 ≤ rwv w 86 6 ∧ rwv w 86 6 ≤ 6) ∧ (1 ≤ rwv w 86 7 ∧ rwv w 86 7 ≤ 10) ∧ (1 ≤ rwv w 86 8 ∧ rwv w 86 8 ≤ 10) ∧ (∀ k i, k < rwv w 85 0 → i < 3 → 1 ≤ rwv w 86 (20 + 4 * k + i) ∧ rwv w 86 (20 + 4 * k + i) ≤ 99) ∧ ∀ k, k < rwv w 85 1 → 1 ≤ rwv w 86 (51 + 2 * k) ∧ rwv w 86 (51 + 2 * k) ≤ 999
theorem DATA.s0 {w w' : List (List xE)} {K : Nat} (h : DATA w) (hm : ∀ s, s < 7 → s ≠ 0 → rwv w' 85 s = rwv w 85 s) (hK : rwv w 85 0 = K) (hK' : rwv w' 85 0 = K + 1) (hl : K < 6) (hos : ∀ j, (j < 20 + 4 * K ∨ 24 + 4 * K ≤ j) → j < 140 → rwv w' 86 j = rwv w 86 j) (hn : 1 ≤ rwv w' 86 (20 + 4 * K + 0) ∧ rwv w' 86 (20 + 4 * K + 0) ≤ 99 ∧ 1 ≤ rwv w' 86 (20 + 4 * K + 1) ∧ rwv w' 86 (20 + 4 * K + 1) ≤ 99 ∧ 1 ≤ rwv w' 86 (20 + 4 * K + 2) ∧ rwv w' 86 (20 + 4 * K + 2) ≤ 99) : DATA w' := by
  obtain ⟨m0, m1, m2, m3, m4, r5, r6, r7, r8, d0, d1⟩ := h
  have e1 := hm 1 (by decide) (by decide)
  have e2 := hm 2 (by decide) (by decide)
  have e3 := hm 3 (by decide) (by decide)
  have e4 := hm 4 (by decide) (by decide)
  have f5 := hos 5 (by omega) (by decide)
  have f6 := hos 6 (by omega) (by decide)
  have f7 := hos 7 (by omega) (by decide)
  have f8 := hos 8 (by omega) (by decide)
  refine ⟨by omega, by omega, by omega, by omega, by omega, by omega, by omega, by omega, by omega, fun k i hk hi => ?_, fun k hk => ?_⟩
  · by_cases z : k = K
    · subst z
      rcases (show i = 0 ∨ i = 1 ∨ i = 2 by omega) with rfl | rfl | rfl <;> omega
    · rw [hos _ (by omega) (by omega)]
      exact d0 k i (by omega) hi
  · rw [hos _ (by omega) (by omega)]
    exact d1 k (by omega)
theorem DATA.s1 {w w' : List (List xE)} {K : Nat} (h : DATA w) (hm : ∀ s, s < 7 → s ≠ 1 → rwv w' 85 s = rwv w 85 s) (hK : rwv w 85 1 = K) (hK' : rwv w' 85 1 = K + 1) (hl : K < 4) (hos : ∀ j, (j < 50 + 2 * K ∨ 52 + 2 * K ≤ j) → j < 140 → rwv w' 86 j = rwv w 86 j) (hn : 1 ≤ rwv w' 86 (50 + 2 * K + 1) ∧ rwv w' 86 (50 + 2 * K + 1) ≤ 999) : DATA w' := by
  obtain ⟨m0, m1, m2, m3, m4, r5, r6, r7, r8, d0, d1⟩ := h
  have e0 := hm 0 (by decide) (by decide)
  have e2 := hm 2 (by decide) (by decide)
  have e3 := hm 3 (by decide) (by decide)
  have e4 := hm 4 (by decide) (by decide)
  have f5 := hos 5 (by omega) (by decide)
  have f6 := hos 6 (by omega) (by decide)
  have f7 := hos 7 (by omega) (by decide)
  have f8 := hos 8 (by omega) (by decide)
  refine ⟨by omega, by omega, by omega, by omega, by omega, by omega, by omega, by omega, by omega, fun k i hk hi => ?_, fun k hk => ?_⟩
  · rw [hos _ (by omega) (by omega)]
    exact d0 k i (by omega) hi
  · by_cases z : k = K
    · subst z
      have e : 51 + 2 * k = 50 + 2 * k + 1 := by omega
      rw [e]
      exact hn
    · rw [hos _ (by omega) (by omega)]
      exact d1 k (by omega)
theorem DATA.s2 {w w' : List (List xE)} {K : Nat} (h : DATA w) (hm : ∀ s, s < 7 → s ≠ 2 → rwv w' 85 s = rwv w 85 s) (hK : rwv w 85 2 = K) (hK' : rwv w' 85 2 = K + 1) (hl : K < 6) (hos : ∀ j, (j < 60 + 2 * K ∨ 62 + 2 * K ≤ j) → j < 140 → rwv w' 86 j = rwv w 86 j) (hn : True) : DATA w' := by
  obtain ⟨m0, m1, m2, m3, m4, r5, r6, r7, r8, d0, d1⟩ := h
  have e0 := hm 0 (by decide) (by decide)
  have e1 := hm 1 (by decide) (by decide)
  have e3 := hm 3 (by decide) (by decide)
  have e4 := hm 4 (by decide) (by decide)
  have f5 := hos 5 (by omega) (by decide)
  have f6 := hos 6 (by omega) (by decide)
  have f7 := hos 7 (by omega) (by decide)
  have f8 := hos 8 (by omega) (by decide)
  refine ⟨by omega, by omega, by omega, by omega, by omega, by omega, by omega, by omega, by omega, fun k i hk hi => ?_, fun k hk => ?_⟩
  · rw [hos _ (by omega) (by omega)]
    exact d0 k i (by omega) hi
  · rw [hos _ (by omega) (by omega)]
    exact d1 k (by omega)
theorem DATA.s3 {w w' : List (List xE)} {K : Nat} (h : DATA w) (hm : ∀ s, s < 7 → s ≠ 3 → rwv w' 85 s = rwv w 85 s) (hK : rwv w 85 3 = K) (hK' : rwv w' 85 3 = K + 1) (hl : K < 4) (hos : ∀ j, (j < 80 + 3 * K ∨ 83 + 3 * K ≤ j) → j < 140 → rwv w' 86 j = rwv w 86 j) (hn : True) : DATA w' := by
  obtain ⟨m0, m1, m2, m3, m4, r5, r6, r7, r8, d0, d1⟩ := h
  have e0 := hm 0 (by decide) (by decide)
  have e1 := hm 1 (by decide) (by decide)
  have e2 := hm 2 (by decide) (by decide)
  have e4 := hm 4 (by decide) (by decide)
  have f5 := hos 5 (by omega) (by decide)
  have f6 := hos 6 (by omega) (by decide)
  have f7 := hos 7 (by omega) (by decide)
  have f8 := hos 8 (by omega) (by decide)
  refine ⟨by omega, by omega, by omega, by omega, by omega, by omega, by omega, by omega, by omega, fun k i hk hi => ?_, fun k hk => ?_⟩
  · rw [hos _ (by omega) (by omega)]
    exact d0 k i (by omega) hi
  · rw [hos _ (by omega) (by omega)]
    exact d1 k (by omega)
theorem DATA.s4 {w w' : List (List xE)} {K : Nat} (h : DATA w) (hm : ∀ s, s < 7 → s ≠ 4 → rwv w' 85 s = rwv w 85 s) (hK : rwv w 85 4 = K) (hK' : rwv w' 85 4 = K + 1) (hl : K < 20) (hos : ∀ j, (j < 100 + 2 * K ∨ 102 + 2 * K ≤ j) → j < 140 → rwv w' 86 j = rwv w 86 j) (hn : True) : DATA w' := by
  obtain ⟨m0, m1, m2, m3, m4, r5, r6, r7, r8, d0, d1⟩ := h
  have e0 := hm 0 (by decide) (by decide)
  have e1 := hm 1 (by decide) (by decide)
  have e2 := hm 2 (by decide) (by decide)
  have e3 := hm 3 (by decide) (by decide)
  have f5 := hos 5 (by omega) (by decide)
  have f6 := hos 6 (by omega) (by decide)
  have f7 := hos 7 (by omega) (by decide)
  have f8 := hos 8 (by omega) (by decide)
  refine ⟨by omega, by omega, by omega, by omega, by omega, by omega, by omega, by omega, by omega, fun k i hk hi => ?_, fun k hk => ?_⟩
  · rw [hos _ (by omega) (by omega)]
    exact d0 k i (by omega) hi
  · rw [hos _ (by omega) (by omega)]
    exact d1 k (by omega)
theorem DATA.s5 {w w' : List (List xE)} {K : Nat} (h : DATA w) (hm : ∀ s, s < 7 → s ≠ 5 → rwv w' 85 s = rwv w 85 s) (hK : rwv w 85 5 = K) (hK' : rwv w' 85 5 = K + 1) (hl : K < 1) (hos : ∀ j, (j < 7 ∨ 9 ≤ j) → j < 140 → rwv w' 86 j = rwv w 86 j) (hn : 1 ≤ rwv w' 86 7 ∧ rwv w' 86 7 ≤ 10 ∧ 1 ≤ rwv w' 86 8 ∧ rwv w' 86 8 ≤ 10) : DATA w' := by
  obtain ⟨m0, m1, m2, m3, m4, r5, r6, r7, r8, d0, d1⟩ := h
  have e0 := hm 0 (by decide) (by decide)
  have e1 := hm 1 (by decide) (by decide)
  have e2 := hm 2 (by decide) (by decide)
  have e3 := hm 3 (by decide) (by decide)
  have e4 := hm 4 (by decide) (by decide)
  have f5 := hos 5 (by omega) (by decide)
  have f6 := hos 6 (by omega) (by decide)
  refine ⟨by omega, by omega, by omega, by omega, by omega, by omega, by omega, by omega, by omega, fun k i hk hi => ?_, fun k hk => ?_⟩
  · rw [hos _ (by omega) (by omega)]
    exact d0 k i (by omega) hi
  · rw [hos _ (by omega) (by omega)]
    exact d1 k (by omega)
theorem DATA.s6 {w w' : List (List xE)} {K : Nat} (h : DATA w) (hm : ∀ s, s < 7 → s ≠ 6 → rwv w' 85 s = rwv w 85 s) (hK : rwv w 85 6 = K) (hK' : rwv w' 85 6 = K + 1) (hl : K < 1) (hos : ∀ j, (j < 5 ∨ 7 ≤ j) → j < 140 → rwv w' 86 j = rwv w 86 j) (hn : 1 ≤ rwv w' 86 5 ∧ rwv w' 86 5 ≤ 6 ∧ 1 ≤ rwv w' 86 6 ∧ rwv w' 86 6 ≤ 6) : DATA w' := by
  obtain ⟨m0, m1, m2, m3, m4, r5, r6, r7, r8, d0, d1⟩ := h
  have e0 := hm 0 (by decide) (by decide)
  have e1 := hm 1 (by decide) (by decide)
  have e2 := hm 2 (by decide) (by decide)
  have e3 := hm 3 (by decide) (by decide)
  have e4 := hm 4 (by decide) (by decide)
  have f7 := hos 7 (by omega) (by decide)
  have f8 := hos 8 (by omega) (by decide)
  refine ⟨by omega, by omega, by omega, by omega, by omega, by omega, by omega, by omega, by omega, fun k i hk hi => ?_, fun k hk => ?_⟩
  · rw [hos _ (by omega) (by omega)]
    exact d0 k i (by omega) hi
  · rw [hos _ (by omega) (by omega)]
    exact d1 k (by omega)
section XMB
variable {d : Nat} {w : List (List xE)} {bd : List (Nat × Nat)} {fc : List (Nat × Nat × Bool)} {rr : Nat × Nat}
theorem mLifeTold {sa kk : Nat} (hI : xMnv w) (hsa : sa ≤ 4294967295) (hkk : kk ≤ 1001) : xPi d mX12_isLifeTold [(2, 82), (0, sa), (0, kk)] w bd fc rr (fun n w' => (n ≤ 1) ∧ xMnv w' ∧ xFr [] w w') := by
  refine xPi.of ?_
  show xTo d mX12_isLifeTold (0, [], [(0, (2, 82)), (1, (0, sa)), (2, (0, kk))], [], (w, bd, fc, 0, 0, rr)) (fun φ => ∃ n w', xEnd 4 [(0, n)] (w', bd, fc, 0, 0, rr) φ ∧ (n ≤ 1) ∧ xMnv w' ∧ xFr [] w w')
  refine xoCh82 (xqc82 hI : cp82 (wget w 82)) (fun f82_1 f82_3 f82_5 f82_7 f82_9 f82_11 f82_13 f82_15 f82_17 f82_19 f82_21 f82_22 f82_23 f82_25 f82_27 f82_29 h82_31 hb2 hb4 hb6 hb8 hb10 hb12 hb14 hb16 hb18 hb20 hb24 hb26 hb28 hb30 hb32 => ?_)
  refine xoI (xqc86 hI : cpI 140 53 4294967295 (wget w 86)) (fun g86_33 h86_34 hb35 => ?_)
  refine xg_t (xg_blq rfl) ?_
  refine xg_t (xg_const) ?_
  refine xg_t (xg_istore (l1 := [(0, (2, 82)), (1, (0, sa)), (2, (0, kk))]) rfl rfl rfl) ?_
  refine xg_t (xg_const) ?_
  refine xg_t (xg_istore (l1 := [(3, (0, 0)), (0, (2, 82)), (1, (0, sa)), (2, (0, kk))]) rfl rfl rfl) ?_
  refine xg_t (xg_drop (l1 := [(0, (2, 82)), (1, (0, sa)), (2, (0, kk)), (3, (0, 0)), (4, (0, 0))]) (List.forall_mem_cons.mpr ⟨List.mem_cons_of_mem _ (List.mem_cons_of_mem _ (List.mem_cons_self)), List.forall_mem_cons.mpr ⟨List.mem_cons_of_mem _ (List.mem_cons_of_mem _ (List.mem_cons_of_mem _ (List.mem_cons_self))), List.forall_mem_cons.mpr ⟨List.mem_cons_of_mem _ (List.mem_cons_of_mem _ (List.mem_cons_of_mem _ (List.mem_cons_of_mem _ (List.mem_cons_self)))), List.forall_mem_cons.mpr ⟨List.mem_cons_of_mem _ (List.mem_cons_self), List.forall_mem_cons.mpr ⟨List.mem_cons_self, fun _ h => absurd h List.not_mem_nil⟩⟩⟩⟩⟩)) ?_
  have key36 : ∀ (m38 : Nat) (is_ ji : Nat) (w39 : List (List xE)), 4 - ji < m38 → is_ ≤ 1 → ji ≤ 4 → xMnv w39 → xFr [] w w39 → xTo d mX12_isLifeTold (5, [], [(0, (2, 82)), (1, (0, sa)), (2, (0, kk)), (3, (0, is_)), (4, (0, ji))], [], (w39, bd, fc, 0, 0, rr)) (fun φ => ∃ n w', xEnd 4 [(0, n)] (w', bd, fc, 0, 0, rr) φ ∧ (n ≤ 1) ∧ xMnv w' ∧ xFr [] w w') := by
    intro m38
    induction m38 with
    | zero => intro is_ ji w39 hz; exact absurd hz (Nat.not_lt_zero _)
    | succ m38 ih37 =>
      intro is_ ji w39 hm44 hn42 hn43 hI40 hF41
      refine xg_t (xg_blq rfl) ?_
      refine xg_t (xg_iload (va := (0, ji)) rfl rfl) ?_
      refine xg_t (xg_iload (va := (0, kk)) rfl rfl) ?_
      by_cases hc45 : ji < kk
      · refine xg_t (xg_icF (u := ji) (v := kk) rfl xnm0 xnm0 (xj_geF hc45 (by omega))) ?_
        refine xg_t (xg_iload (va := (0, ji)) rfl rfl) ?_
        refine xg_t (xg_const) ?_
        by_cases hc46 : ji < 4
        · refine xg_t (xg_icF (u := ji) (v := 4) rfl xnm0 xnm0 (xj_geF hc46 (by omega))) ?_
          refine xg_t (xg_iload (va := (0, is_)) rfl rfl) ?_
          by_cases hc47 : is_ = 0
          · refine xg_t (xg_ifF (u := is_) rfl xnm0 (xj_neF hc47)) ?_
            refine xg_t (xg_aload (va := (2, 82)) rfl rfl) ?_
            refine xg_t (xg_getf (va := (2, 86)) (hF41.get (by decide) h82_31) rfl) ?_
            refine xg_t (xg_bip) ?_
            refine xg_t (xg_const) ?_
            refine xg_t (xg_iload (va := (0, ji)) rfl rfl) ?_
            refine xg_t (xg_imul (u := 2) (v := ji) (z := 2 * ji) xnm0 xnm0 (by omega)) ?_
            refine xg_t (xg_iadd (u := 50) (v := 2 * ji) (z := 50 + (2 * ji)) xnm0 xnm0 (by omega)) ?_
            refine xg_ialdB (n := 50 + (2 * ji)) (B := 4294967295) (h86_34.fr hF41 (by decide)) (hb35) xnm0 (by omega) (fun u48 hu49 he50 => ?_)
            refine xg_t (xg_iload (va := (0, sa)) rfl rfl) ?_
            by_cases hc51 : u48 = sa
            · refine xg_t (xg_icF (u := u48) (v := sa) rfl xnm0 xnm0 (xj_neF hc51)) ?_
              refine xg_t (xg_blq rfl) ?_
              refine xg_t (xg_const) ?_
              refine xg_t (xg_goto) ?_
              refine xg_t (xg_blq rfl) ?_
              refine xg_t (xg_istore (l1 := [(0, (2, 82)), (1, (0, sa)), (2, (0, kk)), (4, (0, ji))]) rfl rfl rfl) ?_
              refine xg_t (xg_iinc (u := ji) (z := ji + 1) (l1 := [(3, (0, 1)), (0, (2, 82)), (1, (0, sa)), (2, (0, kk))]) rfl rfl (by omega) rfl) ?_
              refine xg_t (xg_goto) ?_
              refine xg_t (xg_drop (l1 := [(0, (2, 82)), (1, (0, sa)), (2, (0, kk)), (3, (0, 1)), (4, (0, ji + 1))]) (List.forall_mem_cons.mpr ⟨List.mem_cons_of_mem _ (List.mem_cons_of_mem _ (List.mem_cons_self)), List.forall_mem_cons.mpr ⟨List.mem_cons_of_mem _ (List.mem_cons_of_mem _ (List.mem_cons_of_mem _ (List.mem_cons_self))), List.forall_mem_cons.mpr ⟨List.mem_cons_of_mem _ (List.mem_cons_of_mem _ (List.mem_cons_of_mem _ (List.mem_cons_of_mem _ (List.mem_cons_self)))), List.forall_mem_cons.mpr ⟨List.mem_cons_of_mem _ (List.mem_cons_self), List.forall_mem_cons.mpr ⟨List.mem_cons_self, fun _ h => absurd h List.not_mem_nil⟩⟩⟩⟩⟩)) ?_
              exact ih37 1 (ji + 1) w39 (by omega) (by omega) (by omega) (hI40) (hF41)
            · refine xg_t (xg_icT (u := u48) (v := sa) rfl xnm0 xnm0 (xj_neT hc51)) ?_
              refine xg_t (xg_blq rfl) ?_
              refine xg_t (xg_const) ?_
              refine xg_t (xg_blq rfl) ?_
              refine xg_t (xg_istore (l1 := [(0, (2, 82)), (1, (0, sa)), (2, (0, kk)), (4, (0, ji))]) rfl rfl rfl) ?_
              refine xg_t (xg_iinc (u := ji) (z := ji + 1) (l1 := [(3, (0, 0)), (0, (2, 82)), (1, (0, sa)), (2, (0, kk))]) rfl rfl (by omega) rfl) ?_
              refine xg_t (xg_goto) ?_
              refine xg_t (xg_drop (l1 := [(0, (2, 82)), (1, (0, sa)), (2, (0, kk)), (3, (0, 0)), (4, (0, ji + 1))]) (List.forall_mem_cons.mpr ⟨List.mem_cons_of_mem _ (List.mem_cons_of_mem _ (List.mem_cons_self)), List.forall_mem_cons.mpr ⟨List.mem_cons_of_mem _ (List.mem_cons_of_mem _ (List.mem_cons_of_mem _ (List.mem_cons_self))), List.forall_mem_cons.mpr ⟨List.mem_cons_of_mem _ (List.mem_cons_of_mem _ (List.mem_cons_of_mem _ (List.mem_cons_of_mem _ (List.mem_cons_self)))), List.forall_mem_cons.mpr ⟨List.mem_cons_of_mem _ (List.mem_cons_self), List.forall_mem_cons.mpr ⟨List.mem_cons_self, fun _ h => absurd h List.not_mem_nil⟩⟩⟩⟩⟩)) ?_
              exact ih37 0 (ji + 1) w39 (by omega) (by omega) (by omega) (hI40) (hF41)
          · refine xg_t (xg_ifT (u := is_) rfl xnm0 (xj_neT hc47)) ?_
            refine xg_t (xg_blq rfl) ?_
            refine xg_t (xg_const) ?_
            refine xg_t (xg_goto) ?_
            refine xg_t (xg_blq rfl) ?_
            refine xg_t (xg_istore (l1 := [(0, (2, 82)), (1, (0, sa)), (2, (0, kk)), (4, (0, ji))]) rfl rfl rfl) ?_
            refine xg_t (xg_iinc (u := ji) (z := ji + 1) (l1 := [(3, (0, 1)), (0, (2, 82)), (1, (0, sa)), (2, (0, kk))]) rfl rfl (by omega) rfl) ?_
            refine xg_t (xg_goto) ?_
            refine xg_t (xg_drop (l1 := [(0, (2, 82)), (1, (0, sa)), (2, (0, kk)), (3, (0, 1)), (4, (0, ji + 1))]) (List.forall_mem_cons.mpr ⟨List.mem_cons_of_mem _ (List.mem_cons_of_mem _ (List.mem_cons_self)), List.forall_mem_cons.mpr ⟨List.mem_cons_of_mem _ (List.mem_cons_of_mem _ (List.mem_cons_of_mem _ (List.mem_cons_self))), List.forall_mem_cons.mpr ⟨List.mem_cons_of_mem _ (List.mem_cons_of_mem _ (List.mem_cons_of_mem _ (List.mem_cons_of_mem _ (List.mem_cons_self)))), List.forall_mem_cons.mpr ⟨List.mem_cons_of_mem _ (List.mem_cons_self), List.forall_mem_cons.mpr ⟨List.mem_cons_self, fun _ h => absurd h List.not_mem_nil⟩⟩⟩⟩⟩)) ?_
            exact ih37 1 (ji + 1) w39 (by omega) (by omega) (by omega) (hI40) (hF41)
        · refine xg_t (xg_icT (u := ji) (v := 4) rfl xnm0 xnm0 (xj_geT (by omega) (by omega))) ?_
          refine xg_t (xg_blq rfl) ?_
          refine xg_t (xg_iload (va := (0, is_)) rfl rfl) ?_
          exact xg_e ⟨is_, w39, ⟨xret_b (by omega), rfl⟩, by omega, hI40, hF41⟩
      · refine xg_t (xg_icT (u := ji) (v := kk) rfl xnm0 xnm0 (xj_geT (by omega) (by omega))) ?_
        refine xg_t (xg_blq rfl) ?_
        refine xg_t (xg_iload (va := (0, is_)) rfl rfl) ?_
        exact xg_e ⟨is_, w39, ⟨xret_b (by omega), rfl⟩, by omega, hI40, hF41⟩
  exact key36 _ 0 0 w (Nat.lt_succ_self _) (by omega) (by omega) (hI) (xFr.rf)
set_option maxHeartbeats 60000000 in
theorem mALineS0 {at_ : Nat} (hI : xMnv w) (hps : PS w) (hmb : ∀ s, s < 7 → rwv w 85 s ≤ 1000) (hln : fld w 82 14 ≤ 1000) (h7 : fld w 82 7 = 3) (hat : at_ ≤ 4294967295) : xTo (d + 7) mX12_aLine (43, [], [(2, (0, at_)), (1, (0, 0)), (0, (2, 82))], [], (w, bd, fc, 0, 0, rr)) (fun φ => ∃ w', xEnd 0 [] (w', bd, fc, 0, 0, rr) φ ∧ xMnv w' ∧ xFr [82, 83, 85, 86, 87] w w' ∧ ((FA w ≠ 0 → FA w' ≠ 0) ∧ PS w' ∧ ((fld w' 82 10 = 1 ∧ mu w' = mu w ∧ fld w' 82 14 = fld w 82 14 ∧ ∀ s, s < 7 → rwv w' 85 s = rwv w 85 s) ∨ (mu w' < mu w ∧ fld w' 82 14 = fld w 82 14 + 1 ∧ ∀ s, s < 7 → rwv w' 85 s ≤ rwv w 85 s + 1)) ∧ (FA w' ≠ 0 ∨ (DATA w → DATA w')) ∧ K83 w w')) := by
  refine xoCh82 (xqc82 hI : cp82 (wget w 82)) (fun f82_1 f82_3 f82_5 f82_7 f82_9 f82_11 f82_13 f82_15 f82_17 f82_19 f82_21 f82_22 f82_23 f82_25 f82_27 f82_29 h82_31 hb2 hb4 hb6 hb8 hb10 hb12 hb14 hb16 hb18 hb20 hb24 hb26 hb28 hb30 hb32 => ?_)
  have hf33 : fld w 82 7 = f82_11 := fld_of h82_31
  have hf34 : fld w 82 10 = f82_17 := fld_of h82_31
  have hf35 : fld w 82 14 = f82_19 := fld_of h82_31
  have hps_ : fld w 82 10 = 0 ∨ FA w ≠ 0 := hps
  refine xoI (xqc85 hI : cpI 7 52 4294967295 (wget w 85)) (fun g85_36 h85_37 hb38 => ?_)
  refine xoI (xqc86 hI : cpI 140 53 4294967295 (wget w 86)) (fun g86_39 h86_40 hb41 => ?_)
  refine xoI (xqc87 hI : cpI 20 54 4294967295 (wget w 87)) (fun g87_42 h87_43 hb44 => ?_)
  refine xg_t (xg_blq rfl) ?_
  refine xg_t (xg_aload (va := (2, 82)) rfl rfl) ?_
  refine xg_t (xg_getf (va := (2, 85)) h82_31 rfl) ?_
  refine xg_t (xg_iload (va := (0, 0)) rfl rfl) ?_
  refine xg_ialdB (n := 0) (B := 4294967295) h85_37 (hb38) xnm0 (by first | decide | omega) (fun u45 hu46 he47 => ?_)
  have hK48 : rwv w 85 0 = u45 := (rwv_of h85_37 (by decide)).trans he47
  have hm49 := hmb 0 (by decide)
  have hl50 : u45 ≤ 1000 := by omega
  refine xg_t (xg_istore (l1 := [(2, (0, at_)), (1, (0, 0)), (0, (2, 82))]) rfl rfl rfl) ?_
  refine xg_t (xg_iload (va := (0, u45)) rfl rfl) ?_
  refine xg_t (xg_iload (va := (0, 0)) rfl rfl) ?_
  refine xg_t (xg_cSr mX12_mostOf (vs := [(0, 0)]) (rest := [(0, u45)]) (rs := [(0, 6), (0, u45)]) (cn1 := 0) (sl1 := 0) rfl (mMostR0) rfl rfl rfl rfl rfl rfl rfl rfl) ?_
  by_cases hc51 : u45 < 6
  · refine xg_t (xg_icT (u := u45) (v := 6) rfl xnm0 xnm0 (xj_ltT hc51 (by omega))) ?_
    refine xg_t (xg_blq rfl) ?_
    refine xg_t (xg_aload (va := (2, 82)) rfl rfl) ?_
    refine xg_cVv mX12_advance (vs := []) (rest := []) (cn1 := 0) (sl1 := 0) rfl (mAdvance (hI)) rfl h82_31 rfl rfl rfl rfl rfl rfl (fun w52 hq53 => ?_)
    obtain ⟨hI54, hF55, hx56⟩ := hq53
    clear hb2 hb4 hb6 hb8 hb10 hb12 hb14 hb16 hb18 hb20 hb24 hb26 hb28 hb30
    obtain ⟨hv57, hv58, hv59, hv60⟩ := hx56
    have hf62 := FA_fr hF55 (by decide)
    have hs63 := (PK.rf hps).2.2.2.1
    unfold PS at hs63
    have pk61 : PK w w52 := ⟨fun _ => by omega, hv57, hv60, (show fld w52 82 10 = 0 ∨ FA w52 ≠ 0 by omega), K83.fr hF55 (by decide)⟩
    clear hs63
    have pk64 : PK w w52 := PK.tr (PK.rf hps) pk61
    have os65 : ∀ j, (j < 20 + 4 * u45 ∨ 24 + 4 * u45 ≤ j) → j < 140 → rwv w52 86 j = rwv w 86 j := fun j hj hl => (rwv_fr hF55 (by decide)).trans ((fun j _ _ => rfl) j hj hl)
    have mf66 : ∀ s, s < 7 → rwv w52 85 s = rwv w 85 s := fun s hs => (rwv_fr hF55 (by decide)).trans ((fun _ _ => rfl) s hs)
    have ms67 : mu w52 < mu w := Nat.lt_of_lt_of_le (hv58 (by omega)) (PK.rf hps).2.1
    clear hv58
    have jn68 : ∀ (w69 : List (List xE)), xMnv w69 → xFr [82, 83, 85, 86, 87] w w69 → (PK w w69 ∧ (∀ j, (j < 20 + 4 * u45 ∨ 24 + 4 * u45 ≤ j) → j < 140 → rwv w69 86 j = rwv w 86 j) ∧ mu w69 < mu w ∧ (∀ s, s < 7 → rwv w69 85 s = rwv w 85 s) ∧ (FA w69 ≠ 0 ∨ u45 < 6) ∧ (FA w69 ≠ 0 ∨ 6 ≤ u45 ∨ (1 ≤ rwv w69 86 (20 + 4 * u45 + 0) ∧ rwv w69 86 (20 + 4 * u45 + 0) ≤ 99 ∧ 1 ≤ rwv w69 86 (20 + 4 * u45 + 1) ∧ rwv w69 86 (20 + 4 * u45 + 1) ≤ 99 ∧ 1 ≤ rwv w69 86 (20 + 4 * u45 + 2) ∧ rwv w69 86 (20 + 4 * u45 + 2) ≤ 99))) → xTo (d + 7) mX12_aLine (394, [], [(0, (2, 82)), (1, (0, 0)), (3, (0, u45))], [], (w69, bd, fc, 0, 0, rr)) (fun φ => ∃ w', xEnd 0 [] (w', bd, fc, 0, 0, rr) φ ∧ xMnv w' ∧ xFr [82, 83, 85, 86, 87] w w' ∧ ((FA w ≠ 0 → FA w' ≠ 0) ∧ PS w' ∧ ((fld w' 82 10 = 1 ∧ mu w' = mu w ∧ fld w' 82 14 = fld w 82 14 ∧ ∀ s, s < 7 → rwv w' 85 s = rwv w 85 s) ∨ (mu w' < mu w ∧ fld w' 82 14 = fld w 82 14 + 1 ∧ ∀ s, s < 7 → rwv w' 85 s ≤ rwv w 85 s + 1)) ∧ (FA w' ≠ 0 ∨ (DATA w → DATA w')) ∧ K83 w w')) := by
      intro w69 hI70 hF71 he72
      obtain ⟨hj73, hj74, hj75, hj76, hj77, hj78⟩ := he72
      refine xg_t (xg_blq rfl) ?_
      refine xg_t (xg_aload (va := (2, 82)) rfl rfl) ?_
      refine xoCh82 (xqc82 hI70 : cp82 (wget w69 82)) (fun f82_79 f82_81 f82_83 f82_85 f82_87 f82_89 f82_91 f82_93 f82_95 f82_97 f82_99 f82_100 f82_101 f82_103 f82_105 f82_107 h82_109 hb80 hb82 hb84 hb86 hb88 hb90 hb92 hb94 hb96 hb98 hb102 hb104 hb106 hb108 hb110 => ?_)
      refine xg_t (xg_getf (va := (0, f82_95)) h82_109 rfl) ?_
      by_cases hc111 : f82_95 = 0
      · refine xg_t (xg_ifF (u := f82_95) rfl xnm0 (xj_neF hc111)) ?_
        refine xg_t (xg_aload (va := (2, 82)) rfl rfl) ?_
        refine xg_t (xg_getf (va := (0, f82_89)) h82_109 rfl) ?_
        refine xg_t (xg_const) ?_
        by_cases hc112 : f82_89 = 2
        · refine xg_t (xg_icF (u := f82_89) (v := 2) rfl xnm0 xnm0 (xj_neF hc112)) ?_
          refine xg_t (xg_aload (va := (2, 82)) rfl rfl) ?_
          refine xg_cVv mX12_advance (vs := []) (rest := []) (cn1 := 0) (sl1 := 0) rfl (mAdvance (hI70)) rfl h82_109 rfl rfl rfl rfl rfl rfl (fun w113 hq114 => ?_)
          obtain ⟨hI115, hF116, hx117⟩ := hq114
          clear hb80 hb82 hb84 hb86 hb88 hb90 hb92 hb94 hb96 hb98 hb102 hb104 hb106 hb108
          obtain ⟨hv118, hv119, hv120, hv121⟩ := hx117
          have hf123 := FA_fr hF116 (by decide)
          have hs124 := hj73.2.2.2.1
          unfold PS at hs124
          have pk122 : PK w69 w113 := ⟨fun _ => by omega, hv118, hv121, (show fld w113 82 10 = 0 ∨ FA w113 ≠ 0 by omega), K83.fr hF116 (by decide)⟩
          clear hs124
          clear hv119
          have pk125 : PK w w113 := PK.tr hj73 pk122
          have os126 : ∀ j, (j < 20 + 4 * u45 ∨ 24 + 4 * u45 ≤ j) → j < 140 → rwv w113 86 j = rwv w 86 j := fun j hj hl => (rwv_fr hF116 (by decide)).trans (hj74 j hj hl)
          have rg127 : FA w113 ≠ 0 ∨ u45 < 6 := hj77.imp_left pk122.1
          have mf128 : ∀ s, s < 7 → rwv w113 85 s = rwv w 85 s := fun s hs => (rwv_fr hF116 (by decide)).trans (hj76 s hs)
          have hl129 : rwv w113 86 (20 + 4 * u45 + 0) = rwv w69 86 (20 + 4 * u45 + 0) := rwv_fr hF116 (by decide)
          have hl130 : rwv w113 86 (20 + 4 * u45 + 1) = rwv w69 86 (20 + 4 * u45 + 1) := rwv_fr hF116 (by decide)
          have hl131 : rwv w113 86 (20 + 4 * u45 + 2) = rwv w69 86 (20 + 4 * u45 + 2) := rwv_fr hF116 (by decide)
          have nw132 : FA w113 ≠ 0 ∨ 6 ≤ u45 ∨ (1 ≤ rwv w113 86 (20 + 4 * u45 + 0) ∧ rwv w113 86 (20 + 4 * u45 + 0) ≤ 99 ∧ 1 ≤ rwv w113 86 (20 + 4 * u45 + 1) ∧ rwv w113 86 (20 + 4 * u45 + 1) ≤ 99 ∧ 1 ≤ rwv w113 86 (20 + 4 * u45 + 2) ∧ rwv w113 86 (20 + 4 * u45 + 2) ≤ 99) := by have q := hj78; have q1 := pk122.1; omega
          clear hj78
          have ms133 : mu w113 < mu w := Nat.lt_of_le_of_lt pk122.2.1 hj75
          clear hj77
          refine xg_t (xg_goto) ?_
          refine xg_t (xg_blq rfl) ?_
          refine xoCh82 (xqc82 hI115 : cp82 (wget w113 82)) (fun f82_134 f82_136 f82_138 f82_140 f82_142 f82_144 f82_146 f82_148 f82_150 f82_152 f82_154 f82_155 f82_156 f82_158 f82_160 f82_162 h82_164 hb135 hb137 hb139 hb141 hb143 hb145 hb147 hb149 hb151 hb153 hb157 hb159 hb161 hb163 hb165 => ?_)
          have hf166 : fld w113 82 4 = f82_138 := fld_of h82_164
          have hf167 : fld w113 82 5 = f82_140 := fld_of h82_164
          have hf168 : fld w113 82 7 = f82_144 := fld_of h82_164
          have hf169 : fld w113 82 10 = f82_150 := fld_of h82_164
          have hf170 : fld w113 82 14 = f82_152 := fld_of h82_164
          have hu171 : mu w113 = 2 * (fld w113 82 4 - fld w113 82 5) + min 1 (fld w113 82 7) := rfl
          have hf172 := pk125.2.2.1
          have hl173 : f82_152 ≤ 1000 := by omega
          refine xg_t (xg_aload (va := (2, 82)) rfl rfl) ?_
          refine xg_t (xg_getf (va := (2, 85)) h82_164 rfl) ?_
          refine xg_t (xg_iload (va := (0, 0)) rfl rfl) ?_
          refine xg_t (xg_dup2 rfl) ?_
          refine xoI (xqc85 hI115 : cpI 7 52 4294967295 (wget w113 85)) (fun g85_174 h85_175 hb176 => ?_)
          refine xg_ialdB (n := 0) (B := 4294967295) h85_175 (hb176) xnm0 (by first | decide | omega) (fun u177 hu178 he179 => ?_)
          have hl180 : u177 = u45 := by have q1 := rwv_of h85_175 (show 0 < 7 by decide); have q2 := mf128 0 (by decide); omega
          refine xg_t (xg_const) ?_
          refine xg_t (xg_iadd (u := u177) (v := 1) (z := u177 + 1) xnm0 xnm0 (by omega)) ?_
          refine xg_iastK (n := 0) (u := u177 + 1) h85_175 xnm0 xnm0 rfl (by first | decide | omega) (fun w181 hr182 hb183 => ?_)
          refine xg_t (xg_aload (va := (2, 82)) rfl rfl) ?_
          refine xg_t (xg_dup rfl) ?_
          refine xg_t (xg_getf (va := (0, f82_152)) (hb183.get (by decide) h82_164) rfl) ?_
          have hn184 := id hb153
          unfold xHid at hn184
          refine xg_t (xg_const) ?_
          refine xg_t (xg_iadd (u := f82_152) (v := 1) (z := f82_152 + 1) xnm0 xnm0 (by omega)) ?_
          refine xg_putI (fl1 := [(2, 83), (2, 84), (0, f82_134), (0, f82_136), (0, f82_138), (0, f82_140), (0, f82_142), (0, f82_144), (0, f82_146), (0, f82_148), (0, f82_150), (2, 85), (2, 86), (2, 87), (0, f82_152 + 1), (2, 88), (2, 89), (2, 90), (2, 91), (2, 92), (2, 93), (2, 94), (4, f82_154), (4, f82_155), (0, f82_156), (2, 95), (2, 96), (2, 97), (2, 98), (2, 99), (2, 100), (2, 101), (2, 102), (0, f82_158), (2, 103), (2, 104), (2, 105), (2, 106), (2, 107), (2, 108), (2, 109), (0, f82_160), (0, f82_162), (2, 110), (2, 111), (2, 112), (2, 113)]) (hb183.get (by decide) h82_164) rfl rfl rfl (fun w185 hk186 hb187 => ?_)
          have hF188 : xFr [82, 85] w113 w185 := ((xFr.of (S := [82, 85]) hb183 (by decide)).tr (xFr.of (S := [82, 85]) hb187 (by decide)))
          have hA189 := FA_fr hF188 (by decide)
          have hf190 : fld w185 82 4 = f82_138 := fld_of hk186
          have hf191 : fld w185 82 5 = f82_140 := fld_of hk186
          have hf192 : fld w185 82 7 = f82_144 := fld_of hk186
          have hf193 : fld w185 82 10 = f82_150 := fld_of hk186
          have hf194 : fld w185 82 14 = f82_152 + 1 := fld_of hk186
          have hu195 : mu w185 = 2 * (fld w185 82 4 - fld w185 82 5) + min 1 (fld w185 82 7) := rfl
          have pq196 := pk125
          unfold PK PS at pq196
          have hM197 : ∀ s, s < 7 → s ≠ 0 → rwv w185 85 s = rwv w 85 s := fun s hs hn => (rwv_of (hr182.but hb187 (by decide)) hs).trans ((if_neg hn).trans ((rwv_of h85_175 hs).symm.trans (mf128 s hs)))
          have hM198 : rwv w185 85 0 = u45 + 1 := (rwv_of (hr182.but hb187 (by decide)) (by decide)).trans ((if_pos rfl).trans (by omega))
          have hM199 : ∀ s, s < 7 → rwv w185 85 s ≤ rwv w 85 s + 1 := fun s hs => by
            by_cases z : s = 0
            · subst z; omega
            · rw [hM197 s hs z]; omega
          have hO200 : ∀ j, (j < 20 + 4 * u45 ∨ 24 + 4 * u45 ≤ j) → j < 140 → rwv w185 86 j = rwv w 86 j := fun j hj hl => (rwv_fr hF188 (by decide)).trans (os126 j hj hl)
          have hl202 : FA w113 ≠ 0 ∨ u45 < 6 := rg127
          have hl203 : rwv w185 86 (20 + 4 * u45 + 0) = rwv w113 86 (20 + 4 * u45 + 0) := rwv_fr hF188 (by decide)
          have hl204 : rwv w185 86 (20 + 4 * u45 + 1) = rwv w113 86 (20 + 4 * u45 + 1) := rwv_fr hF188 (by decide)
          have hl205 : rwv w185 86 (20 + 4 * u45 + 2) = rwv w113 86 (20 + 4 * u45 + 2) := rwv_fr hF188 (by decide)
          have hN201 : FA w185 ≠ 0 ∨ 6 ≤ u45 ∨ (1 ≤ rwv w185 86 (20 + 4 * u45 + 0) ∧ rwv w185 86 (20 + 4 * u45 + 0) ≤ 99 ∧ 1 ≤ rwv w185 86 (20 + 4 * u45 + 1) ∧ rwv w185 86 (20 + 4 * u45 + 1) ≤ 99 ∧ 1 ≤ rwv w185 86 (20 + 4 * u45 + 2) ∧ rwv w185 86 (20 + 4 * u45 + 2) ≤ 99) := by have q := nw132; omega
          have hX206 : FA w185 ≠ 0 ∨ u45 < 6 := by omega
          have hD207 : FA w185 ≠ 0 ∨ (DATA w → DATA w185) := by
            by_cases z : FA w185 ≠ 0
            · exact Or.inl z
            · exact Or.inr (fun hd => hd.s0 hM197 hK48 hM198 (hX206.resolve_left z) hO200 ((hN201.resolve_left z).resolve_left (by have := hX206.resolve_left z; omega)))
          exact xg_e ⟨w185, ⟨rfl, rfl⟩, xMnv.up (S := [85, 82]) hI115 ((xFr.of (S := [85, 82]) hb183 (by decide)).tr (xFr.of (S := [85, 82]) hb187 (by decide))) (List.forall_mem_cons.mpr ⟨xqu85 (show cpI 7 52 4294967295 (wget w185 85) from ⟨_, (hr182.but hb187 (by decide)), xrb (by omega) (hb176)⟩), List.forall_mem_cons.mpr ⟨xqu82 (show cp82 (wget w185 82) from xmC82 f82_134 f82_136 f82_138 f82_140 f82_142 f82_144 f82_146 f82_148 f82_150 (f82_152 + 1) f82_154 f82_155 f82_156 f82_158 f82_160 f82_162 hk186 hb135 hb137 hb139 hb141 hb143 hb145 hb147 hb149 hb151 (by omega) hb157 hb159 hb161 hb163 (by omega)), fun _ h => absurd h List.not_mem_nil⟩⟩), ((hF71.tr (hF116.up (by decide))).tr ((xFr.of (S := [82, 83, 85, 86, 87]) hb183 (by decide)).tr (xFr.of (S := [82, 83, 85, 86, 87]) hb187 (by decide)))), ⟨fun h => by have := pq196.1 h; omega, (show fld w185 82 10 = 0 ∨ FA w185 ≠ 0 by omega), Or.inr ⟨by have := ms133; omega, by omega, hM199⟩, hD207, pk125.2.2.2.2.tr (K83.fr hF188 (by decide))⟩⟩
        · refine xg_t (xg_icT (u := f82_89) (v := 2) rfl xnm0 xnm0 (xj_neT hc112)) ?_
          refine xg_t (xg_blq rfl) ?_
          refine xg_t (xg_aload (va := (2, 82)) rfl rfl) ?_
          refine xg_cVv mX12_ends (vs := []) (rest := []) (cn1 := 0) (sl1 := 0) rfl (mEnds (hI70) hj73.2.2.2.1) rfl h82_109 rfl rfl rfl rfl rfl rfl (fun w208 hq209 => ?_)
          obtain ⟨hI210, hF211, hx212⟩ := hq209
          clear hb80 hb82 hb84 hb86 hb88 hb90 hb92 hb94 hb96 hb98 hb102 hb104 hb106 hb108
          obtain ⟨hv213, hv214, hv215, hv216, hv217⟩ := hx212
          have pk218 : PK w69 w208 := ⟨fun _ => hv213, by omega, by omega, Or.inr hv213, hv217⟩
          have pk219 : PK w w208 := PK.tr hj73 pk218
          have os220 : ∀ j, (j < 20 + 4 * u45 ∨ 24 + 4 * u45 ≤ j) → j < 140 → rwv w208 86 j = rwv w 86 j := fun j hj hl => (rwv_fr hF211 (by decide)).trans (hj74 j hj hl)
          have rg221 : FA w208 ≠ 0 ∨ u45 < 6 := hj77.imp_left pk218.1
          have mf222 : ∀ s, s < 7 → rwv w208 85 s = rwv w 85 s := fun s hs => (rwv_fr hF211 (by decide)).trans (hj76 s hs)
          have hl223 : rwv w208 86 (20 + 4 * u45 + 0) = rwv w69 86 (20 + 4 * u45 + 0) := rwv_fr hF211 (by decide)
          have hl224 : rwv w208 86 (20 + 4 * u45 + 1) = rwv w69 86 (20 + 4 * u45 + 1) := rwv_fr hF211 (by decide)
          have hl225 : rwv w208 86 (20 + 4 * u45 + 2) = rwv w69 86 (20 + 4 * u45 + 2) := rwv_fr hF211 (by decide)
          have nw226 : FA w208 ≠ 0 ∨ 6 ≤ u45 ∨ (1 ≤ rwv w208 86 (20 + 4 * u45 + 0) ∧ rwv w208 86 (20 + 4 * u45 + 0) ≤ 99 ∧ 1 ≤ rwv w208 86 (20 + 4 * u45 + 1) ∧ rwv w208 86 (20 + 4 * u45 + 1) ≤ 99 ∧ 1 ≤ rwv w208 86 (20 + 4 * u45 + 2) ∧ rwv w208 86 (20 + 4 * u45 + 2) ≤ 99) := by have q := hj78; have q1 := pk218.1; omega
          clear hj78
          have ms227 : mu w208 < mu w := Nat.lt_of_le_of_lt pk218.2.1 hj75
          clear hj77
          refine xg_t (xg_blq rfl) ?_
          refine xoCh82 (xqc82 hI210 : cp82 (wget w208 82)) (fun f82_228 f82_230 f82_232 f82_234 f82_236 f82_238 f82_240 f82_242 f82_244 f82_246 f82_248 f82_249 f82_250 f82_252 f82_254 f82_256 h82_258 hb229 hb231 hb233 hb235 hb237 hb239 hb241 hb243 hb245 hb247 hb251 hb253 hb255 hb257 hb259 => ?_)
          have hf260 : fld w208 82 4 = f82_232 := fld_of h82_258
          have hf261 : fld w208 82 5 = f82_234 := fld_of h82_258
          have hf262 : fld w208 82 7 = f82_238 := fld_of h82_258
          have hf263 : fld w208 82 10 = f82_244 := fld_of h82_258
          have hf264 : fld w208 82 14 = f82_246 := fld_of h82_258
          have hu265 : mu w208 = 2 * (fld w208 82 4 - fld w208 82 5) + min 1 (fld w208 82 7) := rfl
          have hf266 := pk219.2.2.1
          have hl267 : f82_246 ≤ 1000 := by omega
          refine xg_t (xg_aload (va := (2, 82)) rfl rfl) ?_
          refine xg_t (xg_getf (va := (2, 85)) h82_258 rfl) ?_
          refine xg_t (xg_iload (va := (0, 0)) rfl rfl) ?_
          refine xg_t (xg_dup2 rfl) ?_
          refine xoI (xqc85 hI210 : cpI 7 52 4294967295 (wget w208 85)) (fun g85_268 h85_269 hb270 => ?_)
          refine xg_ialdB (n := 0) (B := 4294967295) h85_269 (hb270) xnm0 (by first | decide | omega) (fun u271 hu272 he273 => ?_)
          have hl274 : u271 = u45 := by have q1 := rwv_of h85_269 (show 0 < 7 by decide); have q2 := mf222 0 (by decide); omega
          refine xg_t (xg_const) ?_
          refine xg_t (xg_iadd (u := u271) (v := 1) (z := u271 + 1) xnm0 xnm0 (by omega)) ?_
          refine xg_iastK (n := 0) (u := u271 + 1) h85_269 xnm0 xnm0 rfl (by first | decide | omega) (fun w275 hr276 hb277 => ?_)
          refine xg_t (xg_aload (va := (2, 82)) rfl rfl) ?_
          refine xg_t (xg_dup rfl) ?_
          refine xg_t (xg_getf (va := (0, f82_246)) (hb277.get (by decide) h82_258) rfl) ?_
          have hn278 := id hb247
          unfold xHid at hn278
          refine xg_t (xg_const) ?_
          refine xg_t (xg_iadd (u := f82_246) (v := 1) (z := f82_246 + 1) xnm0 xnm0 (by omega)) ?_
          refine xg_putI (fl1 := [(2, 83), (2, 84), (0, f82_228), (0, f82_230), (0, f82_232), (0, f82_234), (0, f82_236), (0, f82_238), (0, f82_240), (0, f82_242), (0, f82_244), (2, 85), (2, 86), (2, 87), (0, f82_246 + 1), (2, 88), (2, 89), (2, 90), (2, 91), (2, 92), (2, 93), (2, 94), (4, f82_248), (4, f82_249), (0, f82_250), (2, 95), (2, 96), (2, 97), (2, 98), (2, 99), (2, 100), (2, 101), (2, 102), (0, f82_252), (2, 103), (2, 104), (2, 105), (2, 106), (2, 107), (2, 108), (2, 109), (0, f82_254), (0, f82_256), (2, 110), (2, 111), (2, 112), (2, 113)]) (hb277.get (by decide) h82_258) rfl rfl rfl (fun w279 hk280 hb281 => ?_)
          have hF282 : xFr [82, 85] w208 w279 := ((xFr.of (S := [82, 85]) hb277 (by decide)).tr (xFr.of (S := [82, 85]) hb281 (by decide)))
          have hA283 := FA_fr hF282 (by decide)
          have hf284 : fld w279 82 4 = f82_232 := fld_of hk280
          have hf285 : fld w279 82 5 = f82_234 := fld_of hk280
          have hf286 : fld w279 82 7 = f82_238 := fld_of hk280
          have hf287 : fld w279 82 10 = f82_244 := fld_of hk280
          have hf288 : fld w279 82 14 = f82_246 + 1 := fld_of hk280
          have hu289 : mu w279 = 2 * (fld w279 82 4 - fld w279 82 5) + min 1 (fld w279 82 7) := rfl
          have pq290 := pk219
          unfold PK PS at pq290
          have hM291 : ∀ s, s < 7 → s ≠ 0 → rwv w279 85 s = rwv w 85 s := fun s hs hn => (rwv_of (hr276.but hb281 (by decide)) hs).trans ((if_neg hn).trans ((rwv_of h85_269 hs).symm.trans (mf222 s hs)))
          have hM292 : rwv w279 85 0 = u45 + 1 := (rwv_of (hr276.but hb281 (by decide)) (by decide)).trans ((if_pos rfl).trans (by omega))
          have hM293 : ∀ s, s < 7 → rwv w279 85 s ≤ rwv w 85 s + 1 := fun s hs => by
            by_cases z : s = 0
            · subst z; omega
            · rw [hM291 s hs z]; omega
          have hO294 : ∀ j, (j < 20 + 4 * u45 ∨ 24 + 4 * u45 ≤ j) → j < 140 → rwv w279 86 j = rwv w 86 j := fun j hj hl => (rwv_fr hF282 (by decide)).trans (os220 j hj hl)
          have hl296 : FA w208 ≠ 0 ∨ u45 < 6 := rg221
          have hl297 : rwv w279 86 (20 + 4 * u45 + 0) = rwv w208 86 (20 + 4 * u45 + 0) := rwv_fr hF282 (by decide)
          have hl298 : rwv w279 86 (20 + 4 * u45 + 1) = rwv w208 86 (20 + 4 * u45 + 1) := rwv_fr hF282 (by decide)
          have hl299 : rwv w279 86 (20 + 4 * u45 + 2) = rwv w208 86 (20 + 4 * u45 + 2) := rwv_fr hF282 (by decide)
          have hN295 : FA w279 ≠ 0 ∨ 6 ≤ u45 ∨ (1 ≤ rwv w279 86 (20 + 4 * u45 + 0) ∧ rwv w279 86 (20 + 4 * u45 + 0) ≤ 99 ∧ 1 ≤ rwv w279 86 (20 + 4 * u45 + 1) ∧ rwv w279 86 (20 + 4 * u45 + 1) ≤ 99 ∧ 1 ≤ rwv w279 86 (20 + 4 * u45 + 2) ∧ rwv w279 86 (20 + 4 * u45 + 2) ≤ 99) := by have q := nw226; omega
          have hX300 : FA w279 ≠ 0 ∨ u45 < 6 := by omega
          have hD301 : FA w279 ≠ 0 ∨ (DATA w → DATA w279) := by
            by_cases z : FA w279 ≠ 0
            · exact Or.inl z
            · exact Or.inr (fun hd => hd.s0 hM291 hK48 hM292 (hX300.resolve_left z) hO294 ((hN295.resolve_left z).resolve_left (by have := hX300.resolve_left z; omega)))
          exact xg_e ⟨w279, ⟨rfl, rfl⟩, xMnv.up (S := [85, 82]) hI210 ((xFr.of (S := [85, 82]) hb277 (by decide)).tr (xFr.of (S := [85, 82]) hb281 (by decide))) (List.forall_mem_cons.mpr ⟨xqu85 (show cpI 7 52 4294967295 (wget w279 85) from ⟨_, (hr276.but hb281 (by decide)), xrb (by omega) (hb270)⟩), List.forall_mem_cons.mpr ⟨xqu82 (show cp82 (wget w279 82) from xmC82 f82_228 f82_230 f82_232 f82_234 f82_236 f82_238 f82_240 f82_242 f82_244 (f82_246 + 1) f82_248 f82_249 f82_250 f82_252 f82_254 f82_256 hk280 hb229 hb231 hb233 hb235 hb237 hb239 hb241 hb243 hb245 (by omega) hb251 hb253 hb255 hb257 (by omega)), fun _ h => absurd h List.not_mem_nil⟩⟩), ((hF71.tr (hF211.up (by decide))).tr ((xFr.of (S := [82, 83, 85, 86, 87]) hb277 (by decide)).tr (xFr.of (S := [82, 83, 85, 86, 87]) hb281 (by decide)))), ⟨fun h => by have := pq290.1 h; omega, (show fld w279 82 10 = 0 ∨ FA w279 ≠ 0 by omega), Or.inr ⟨by have := ms227; omega, by omega, hM293⟩, hD301, pk219.2.2.2.2.tr (K83.fr hF282 (by decide))⟩⟩
      · refine xg_t (xg_ifT (u := f82_95) rfl xnm0 (xj_neT hc111)) ?_
        refine xg_t (xg_blq rfl) ?_
        refine xg_t (xg_aload (va := (2, 82)) rfl rfl) ?_
        refine xg_cVv mX12_ends (vs := []) (rest := []) (cn1 := 0) (sl1 := 0) rfl (mEnds (hI70) hj73.2.2.2.1) rfl h82_109 rfl rfl rfl rfl rfl rfl (fun w302 hq303 => ?_)
        obtain ⟨hI304, hF305, hx306⟩ := hq303
        clear hb80 hb82 hb84 hb86 hb88 hb90 hb92 hb94 hb96 hb98 hb102 hb104 hb106 hb108
        obtain ⟨hv307, hv308, hv309, hv310, hv311⟩ := hx306
        have pk312 : PK w69 w302 := ⟨fun _ => hv307, by omega, by omega, Or.inr hv307, hv311⟩
        have pk313 : PK w w302 := PK.tr hj73 pk312
        have os314 : ∀ j, (j < 20 + 4 * u45 ∨ 24 + 4 * u45 ≤ j) → j < 140 → rwv w302 86 j = rwv w 86 j := fun j hj hl => (rwv_fr hF305 (by decide)).trans (hj74 j hj hl)
        have rg315 : FA w302 ≠ 0 ∨ u45 < 6 := hj77.imp_left pk312.1
        have mf316 : ∀ s, s < 7 → rwv w302 85 s = rwv w 85 s := fun s hs => (rwv_fr hF305 (by decide)).trans (hj76 s hs)
        have hl317 : rwv w302 86 (20 + 4 * u45 + 0) = rwv w69 86 (20 + 4 * u45 + 0) := rwv_fr hF305 (by decide)
        have hl318 : rwv w302 86 (20 + 4 * u45 + 1) = rwv w69 86 (20 + 4 * u45 + 1) := rwv_fr hF305 (by decide)
        have hl319 : rwv w302 86 (20 + 4 * u45 + 2) = rwv w69 86 (20 + 4 * u45 + 2) := rwv_fr hF305 (by decide)
        have nw320 : FA w302 ≠ 0 ∨ 6 ≤ u45 ∨ (1 ≤ rwv w302 86 (20 + 4 * u45 + 0) ∧ rwv w302 86 (20 + 4 * u45 + 0) ≤ 99 ∧ 1 ≤ rwv w302 86 (20 + 4 * u45 + 1) ∧ rwv w302 86 (20 + 4 * u45 + 1) ≤ 99 ∧ 1 ≤ rwv w302 86 (20 + 4 * u45 + 2) ∧ rwv w302 86 (20 + 4 * u45 + 2) ≤ 99) := by have q := hj78; have q1 := pk312.1; omega
        clear hj78
        have ms321 : mu w302 < mu w := Nat.lt_of_le_of_lt pk312.2.1 hj75
        clear hj77
        refine xg_t (xg_blq rfl) ?_
        refine xoCh82 (xqc82 hI304 : cp82 (wget w302 82)) (fun f82_322 f82_324 f82_326 f82_328 f82_330 f82_332 f82_334 f82_336 f82_338 f82_340 f82_342 f82_343 f82_344 f82_346 f82_348 f82_350 h82_352 hb323 hb325 hb327 hb329 hb331 hb333 hb335 hb337 hb339 hb341 hb345 hb347 hb349 hb351 hb353 => ?_)
        have hf354 : fld w302 82 4 = f82_326 := fld_of h82_352
        have hf355 : fld w302 82 5 = f82_328 := fld_of h82_352
        have hf356 : fld w302 82 7 = f82_332 := fld_of h82_352
        have hf357 : fld w302 82 10 = f82_338 := fld_of h82_352
        have hf358 : fld w302 82 14 = f82_340 := fld_of h82_352
        have hu359 : mu w302 = 2 * (fld w302 82 4 - fld w302 82 5) + min 1 (fld w302 82 7) := rfl
        have hf360 := pk313.2.2.1
        have hl361 : f82_340 ≤ 1000 := by omega
        refine xg_t (xg_aload (va := (2, 82)) rfl rfl) ?_
        refine xg_t (xg_getf (va := (2, 85)) h82_352 rfl) ?_
        refine xg_t (xg_iload (va := (0, 0)) rfl rfl) ?_
        refine xg_t (xg_dup2 rfl) ?_
        refine xoI (xqc85 hI304 : cpI 7 52 4294967295 (wget w302 85)) (fun g85_362 h85_363 hb364 => ?_)
        refine xg_ialdB (n := 0) (B := 4294967295) h85_363 (hb364) xnm0 (by first | decide | omega) (fun u365 hu366 he367 => ?_)
        have hl368 : u365 = u45 := by have q1 := rwv_of h85_363 (show 0 < 7 by decide); have q2 := mf316 0 (by decide); omega
        refine xg_t (xg_const) ?_
        refine xg_t (xg_iadd (u := u365) (v := 1) (z := u365 + 1) xnm0 xnm0 (by omega)) ?_
        refine xg_iastK (n := 0) (u := u365 + 1) h85_363 xnm0 xnm0 rfl (by first | decide | omega) (fun w369 hr370 hb371 => ?_)
        refine xg_t (xg_aload (va := (2, 82)) rfl rfl) ?_
        refine xg_t (xg_dup rfl) ?_
        refine xg_t (xg_getf (va := (0, f82_340)) (hb371.get (by decide) h82_352) rfl) ?_
        have hn372 := id hb341
        unfold xHid at hn372
        refine xg_t (xg_const) ?_
        refine xg_t (xg_iadd (u := f82_340) (v := 1) (z := f82_340 + 1) xnm0 xnm0 (by omega)) ?_
        refine xg_putI (fl1 := [(2, 83), (2, 84), (0, f82_322), (0, f82_324), (0, f82_326), (0, f82_328), (0, f82_330), (0, f82_332), (0, f82_334), (0, f82_336), (0, f82_338), (2, 85), (2, 86), (2, 87), (0, f82_340 + 1), (2, 88), (2, 89), (2, 90), (2, 91), (2, 92), (2, 93), (2, 94), (4, f82_342), (4, f82_343), (0, f82_344), (2, 95), (2, 96), (2, 97), (2, 98), (2, 99), (2, 100), (2, 101), (2, 102), (0, f82_346), (2, 103), (2, 104), (2, 105), (2, 106), (2, 107), (2, 108), (2, 109), (0, f82_348), (0, f82_350), (2, 110), (2, 111), (2, 112), (2, 113)]) (hb371.get (by decide) h82_352) rfl rfl rfl (fun w373 hk374 hb375 => ?_)
        have hF376 : xFr [82, 85] w302 w373 := ((xFr.of (S := [82, 85]) hb371 (by decide)).tr (xFr.of (S := [82, 85]) hb375 (by decide)))
        have hA377 := FA_fr hF376 (by decide)
        have hf378 : fld w373 82 4 = f82_326 := fld_of hk374
        have hf379 : fld w373 82 5 = f82_328 := fld_of hk374
        have hf380 : fld w373 82 7 = f82_332 := fld_of hk374
        have hf381 : fld w373 82 10 = f82_338 := fld_of hk374
        have hf382 : fld w373 82 14 = f82_340 + 1 := fld_of hk374
        have hu383 : mu w373 = 2 * (fld w373 82 4 - fld w373 82 5) + min 1 (fld w373 82 7) := rfl
        have pq384 := pk313
        unfold PK PS at pq384
        have hM385 : ∀ s, s < 7 → s ≠ 0 → rwv w373 85 s = rwv w 85 s := fun s hs hn => (rwv_of (hr370.but hb375 (by decide)) hs).trans ((if_neg hn).trans ((rwv_of h85_363 hs).symm.trans (mf316 s hs)))
        have hM386 : rwv w373 85 0 = u45 + 1 := (rwv_of (hr370.but hb375 (by decide)) (by decide)).trans ((if_pos rfl).trans (by omega))
        have hM387 : ∀ s, s < 7 → rwv w373 85 s ≤ rwv w 85 s + 1 := fun s hs => by
          by_cases z : s = 0
          · subst z; omega
          · rw [hM385 s hs z]; omega
        have hO388 : ∀ j, (j < 20 + 4 * u45 ∨ 24 + 4 * u45 ≤ j) → j < 140 → rwv w373 86 j = rwv w 86 j := fun j hj hl => (rwv_fr hF376 (by decide)).trans (os314 j hj hl)
        have hl390 : FA w302 ≠ 0 ∨ u45 < 6 := rg315
        have hl391 : rwv w373 86 (20 + 4 * u45 + 0) = rwv w302 86 (20 + 4 * u45 + 0) := rwv_fr hF376 (by decide)
        have hl392 : rwv w373 86 (20 + 4 * u45 + 1) = rwv w302 86 (20 + 4 * u45 + 1) := rwv_fr hF376 (by decide)
        have hl393 : rwv w373 86 (20 + 4 * u45 + 2) = rwv w302 86 (20 + 4 * u45 + 2) := rwv_fr hF376 (by decide)
        have hN389 : FA w373 ≠ 0 ∨ 6 ≤ u45 ∨ (1 ≤ rwv w373 86 (20 + 4 * u45 + 0) ∧ rwv w373 86 (20 + 4 * u45 + 0) ≤ 99 ∧ 1 ≤ rwv w373 86 (20 + 4 * u45 + 1) ∧ rwv w373 86 (20 + 4 * u45 + 1) ≤ 99 ∧ 1 ≤ rwv w373 86 (20 + 4 * u45 + 2) ∧ rwv w373 86 (20 + 4 * u45 + 2) ≤ 99) := by have q := nw320; omega
        have hX394 : FA w373 ≠ 0 ∨ u45 < 6 := by omega
        have hD395 : FA w373 ≠ 0 ∨ (DATA w → DATA w373) := by
          by_cases z : FA w373 ≠ 0
          · exact Or.inl z
          · exact Or.inr (fun hd => hd.s0 hM385 hK48 hM386 (hX394.resolve_left z) hO388 ((hN389.resolve_left z).resolve_left (by have := hX394.resolve_left z; omega)))
        exact xg_e ⟨w373, ⟨rfl, rfl⟩, xMnv.up (S := [85, 82]) hI304 ((xFr.of (S := [85, 82]) hb371 (by decide)).tr (xFr.of (S := [85, 82]) hb375 (by decide))) (List.forall_mem_cons.mpr ⟨xqu85 (show cpI 7 52 4294967295 (wget w373 85) from ⟨_, (hr370.but hb375 (by decide)), xrb (by omega) (hb364)⟩), List.forall_mem_cons.mpr ⟨xqu82 (show cp82 (wget w373 82) from xmC82 f82_322 f82_324 f82_326 f82_328 f82_330 f82_332 f82_334 f82_336 f82_338 (f82_340 + 1) f82_342 f82_343 f82_344 f82_346 f82_348 f82_350 hk374 hb323 hb325 hb327 hb329 hb331 hb333 hb335 hb337 hb339 (by omega) hb345 hb347 hb349 hb351 (by omega)), fun _ h => absurd h List.not_mem_nil⟩⟩), ((hF71.tr (hF305.up (by decide))).tr ((xFr.of (S := [82, 83, 85, 86, 87]) hb371 (by decide)).tr (xFr.of (S := [82, 83, 85, 86, 87]) hb375 (by decide)))), ⟨fun h => by have := pq384.1 h; omega, (show fld w373 82 10 = 0 ∨ FA w373 ≠ 0 by omega), Or.inr ⟨by have := ms321; omega, by omega, hM387⟩, hD395, pk313.2.2.2.2.tr (K83.fr hF376 (by decide))⟩⟩
    refine xg_t (xg_iload (va := (0, 0)) rfl rfl) ?_
    refine xg_t (xg_swt (ks := [(0, 108), (1, 116), (2, 180), (3, 221), (4, 273), (5, 326)]) (u := 0) (z := 108) rfl rfl rfl xnm0 (xsw_y rfl)) ?_
    refine xg_t (xg_blq rfl) ?_
    refine xg_t (xg_aload (va := (2, 82)) rfl rfl) ?_
    refine xg_t (xg_iload (va := (0, u45)) rfl rfl) ?_
    refine xoCh82 (xqc82 hI54 : cp82 (wget w52 82)) (fun f82_396 f82_398 f82_400 f82_402 f82_404 f82_406 f82_408 f82_410 f82_412 f82_414 f82_416 f82_417 f82_418 f82_420 f82_422 f82_424 h82_426 hb397 hb399 hb401 hb403 hb405 hb407 hb409 hb411 hb413 hb415 hb419 hb421 hb423 hb425 hb427 => ?_)
    refine xg_cVv mX12_aLayer (vs := [(0, u45)]) (rest := []) (cn1 := 0) (sl1 := 0) rfl (mALayer (hI54) (by omega) pk64.2.2.2.1) rfl h82_426 rfl rfl rfl rfl rfl rfl (fun w428 hq429 => ?_)
    obtain ⟨hI430, hF431, hx432⟩ := hq429
    clear hb397 hb399 hb401 hb403 hb405 hb407 hb409 hb411 hb413 hb415 hb419 hb421 hb423 hb425
    obtain ⟨pk433, os434, ly435⟩ := hx432
    have pk436 : PK w w428 := PK.tr pk64 pk433
    have os437 : ∀ j, (j < 20 + 4 * u45 ∨ 24 + 4 * u45 ≤ j) → j < 140 → rwv w428 86 j = rwv w 86 j := fun j hj hl => (os434 j hj hl).trans (os65 j hj hl)
    have mf438 : ∀ s, s < 7 → rwv w428 85 s = rwv w 85 s := fun s hs => (rwv_fr hF431 (by decide)).trans (mf66 s hs)
    have ms439 : mu w428 < mu w := Nat.lt_of_le_of_lt pk433.2.1 ms67
    refine xg_t (xg_goto) ?_
    refine xg_t (xg_drop (l1 := [(0, (2, 82)), (1, (0, 0)), (3, (0, u45))]) (List.forall_mem_cons.mpr ⟨List.mem_cons_of_mem _ (List.mem_cons_of_mem _ (List.mem_cons_of_mem _ (List.mem_cons_self))), List.forall_mem_cons.mpr ⟨List.mem_cons_of_mem _ (List.mem_cons_of_mem _ (List.mem_cons_self)), List.forall_mem_cons.mpr ⟨List.mem_cons_self, fun _ h => absurd h List.not_mem_nil⟩⟩⟩)) ?_
    have hX440 : FA w428 ≠ 0 ∨ u45 < 6 := Or.inr (by omega)
    exact jn68 w428 (hI430) (((hF55.up (by decide)).tr (hF431.up (by decide)))) (⟨pk436, os437, ms439, mf438, hX440, ly435⟩)
  · refine xg_t (xg_icF (u := u45) (v := 6) rfl xnm0 xnm0 (xj_ltF (by omega) (by omega))) ?_
    refine xg_t (xg_aload (va := (2, 82)) rfl rfl) ?_
    refine xg_t (xg_const) ?_
    refine xg_t (xg_iload (va := (0, at_)) rfl rfl) ?_
    refine xg_cVv mX12_also (vs := [(0, 3), (0, at_)]) (rest := []) (cn1 := 0) (sl1 := 0) rfl (mAlso (hI) (by omega) (by omega) (by omega) (PK.rf hps).2.2.2.1) rfl h82_31 rfl rfl rfl rfl rfl rfl (fun w442 hq443 => ?_)
    obtain ⟨hI444, hF445, hx446⟩ := hq443
    obtain ⟨hv448, hv449⟩ := hx446
    have pk447 : PK w w442 := ⟨fun _ => hv448, Nat.le_of_eq (mu_fr hF445 (by decide)), fld_fr hF445 (by decide), Or.inr hv448, hv449⟩
    have pk450 : PK w w442 := PK.tr (PK.rf hps) pk447
    have os451 : ∀ j, (j < 20 + 4 * u45 ∨ 24 + 4 * u45 ≤ j) → j < 140 → rwv w442 86 j = rwv w 86 j := fun j hj hl => (rwv_fr hF445 (by decide)).trans ((fun j _ _ => rfl) j hj hl)
    have mf452 : ∀ s, s < 7 → rwv w442 85 s = rwv w 85 s := fun s hs => (rwv_fr hF445 (by decide)).trans ((fun _ _ => rfl) s hs)
    have hf453 := fld_fr (c := 82) (j := 7) hF445 (by decide)
    refine xg_t (xg_blq rfl) ?_
    refine xg_t (xg_aload (va := (2, 82)) rfl rfl) ?_
    refine xg_cVv mX12_advance (vs := []) (rest := []) (cn1 := 0) (sl1 := 0) rfl (mAdvance (hI444)) rfl (hF445.get (by decide) h82_31) rfl rfl rfl rfl rfl rfl (fun w454 hq455 => ?_)
    obtain ⟨hI456, hF457, hx458⟩ := hq455
    clear hb2 hb4 hb6 hb8 hb10 hb12 hb14 hb16 hb18 hb20 hb24 hb26 hb28 hb30
    obtain ⟨hv459, hv460, hv461, hv462⟩ := hx458
    have hf464 := FA_fr hF457 (by decide)
    have hs465 := pk450.2.2.2.1
    unfold PS at hs465
    have pk463 : PK w442 w454 := ⟨fun _ => by omega, hv459, hv462, (show fld w454 82 10 = 0 ∨ FA w454 ≠ 0 by omega), K83.fr hF457 (by decide)⟩
    clear hs465
    have pk466 : PK w w454 := PK.tr pk450 pk463
    have os467 : ∀ j, (j < 20 + 4 * u45 ∨ 24 + 4 * u45 ≤ j) → j < 140 → rwv w454 86 j = rwv w 86 j := fun j hj hl => (rwv_fr hF457 (by decide)).trans (os451 j hj hl)
    have rg468 : FA w454 ≠ 0 ∨ 0 = 1 := (Or.inl hv448 : FA w442 ≠ 0 ∨ 0 = 1).imp_left pk463.1
    have mf469 : ∀ s, s < 7 → rwv w454 85 s = rwv w 85 s := fun s hs => (rwv_fr hF457 (by decide)).trans (mf452 s hs)
    have ms470 : mu w454 < mu w := Nat.lt_of_lt_of_le (hv460 (by omega)) pk450.2.1
    clear hv460
    have jn471 : ∀ (w472 : List (List xE)), xMnv w472 → xFr [82, 83, 85, 86, 87] w w472 → (PK w w472 ∧ (∀ j, (j < 20 + 4 * u45 ∨ 24 + 4 * u45 ≤ j) → j < 140 → rwv w472 86 j = rwv w 86 j) ∧ mu w472 < mu w ∧ (∀ s, s < 7 → rwv w472 85 s = rwv w 85 s) ∧ (FA w472 ≠ 0 ∨ u45 < 6) ∧ (FA w472 ≠ 0 ∨ 6 ≤ u45 ∨ (1 ≤ rwv w472 86 (20 + 4 * u45 + 0) ∧ rwv w472 86 (20 + 4 * u45 + 0) ≤ 99 ∧ 1 ≤ rwv w472 86 (20 + 4 * u45 + 1) ∧ rwv w472 86 (20 + 4 * u45 + 1) ≤ 99 ∧ 1 ≤ rwv w472 86 (20 + 4 * u45 + 2) ∧ rwv w472 86 (20 + 4 * u45 + 2) ≤ 99))) → xTo (d + 7) mX12_aLine (394, [], [(0, (2, 82)), (1, (0, 0)), (3, (0, u45))], [], (w472, bd, fc, 0, 0, rr)) (fun φ => ∃ w', xEnd 0 [] (w', bd, fc, 0, 0, rr) φ ∧ xMnv w' ∧ xFr [82, 83, 85, 86, 87] w w' ∧ ((FA w ≠ 0 → FA w' ≠ 0) ∧ PS w' ∧ ((fld w' 82 10 = 1 ∧ mu w' = mu w ∧ fld w' 82 14 = fld w 82 14 ∧ ∀ s, s < 7 → rwv w' 85 s = rwv w 85 s) ∨ (mu w' < mu w ∧ fld w' 82 14 = fld w 82 14 + 1 ∧ ∀ s, s < 7 → rwv w' 85 s ≤ rwv w 85 s + 1)) ∧ (FA w' ≠ 0 ∨ (DATA w → DATA w')) ∧ K83 w w')) := by
      intro w472 hI473 hF474 he475
      obtain ⟨hj476, hj477, hj478, hj479, hj480, hj481⟩ := he475
      refine xg_t (xg_blq rfl) ?_
      refine xg_t (xg_aload (va := (2, 82)) rfl rfl) ?_
      refine xoCh82 (xqc82 hI473 : cp82 (wget w472 82)) (fun f82_482 f82_484 f82_486 f82_488 f82_490 f82_492 f82_494 f82_496 f82_498 f82_500 f82_502 f82_503 f82_504 f82_506 f82_508 f82_510 h82_512 hb483 hb485 hb487 hb489 hb491 hb493 hb495 hb497 hb499 hb501 hb505 hb507 hb509 hb511 hb513 => ?_)
      refine xg_t (xg_getf (va := (0, f82_498)) h82_512 rfl) ?_
      by_cases hc514 : f82_498 = 0
      · refine xg_t (xg_ifF (u := f82_498) rfl xnm0 (xj_neF hc514)) ?_
        refine xg_t (xg_aload (va := (2, 82)) rfl rfl) ?_
        refine xg_t (xg_getf (va := (0, f82_492)) h82_512 rfl) ?_
        refine xg_t (xg_const) ?_
        by_cases hc515 : f82_492 = 2
        · refine xg_t (xg_icF (u := f82_492) (v := 2) rfl xnm0 xnm0 (xj_neF hc515)) ?_
          refine xg_t (xg_aload (va := (2, 82)) rfl rfl) ?_
          refine xg_cVv mX12_advance (vs := []) (rest := []) (cn1 := 0) (sl1 := 0) rfl (mAdvance (hI473)) rfl h82_512 rfl rfl rfl rfl rfl rfl (fun w516 hq517 => ?_)
          obtain ⟨hI518, hF519, hx520⟩ := hq517
          clear hb483 hb485 hb487 hb489 hb491 hb493 hb495 hb497 hb499 hb501 hb505 hb507 hb509 hb511
          obtain ⟨hv521, hv522, hv523, hv524⟩ := hx520
          have hf526 := FA_fr hF519 (by decide)
          have hs527 := hj476.2.2.2.1
          unfold PS at hs527
          have pk525 : PK w472 w516 := ⟨fun _ => by omega, hv521, hv524, (show fld w516 82 10 = 0 ∨ FA w516 ≠ 0 by omega), K83.fr hF519 (by decide)⟩
          clear hs527
          clear hv522
          have pk528 : PK w w516 := PK.tr hj476 pk525
          have os529 : ∀ j, (j < 20 + 4 * u45 ∨ 24 + 4 * u45 ≤ j) → j < 140 → rwv w516 86 j = rwv w 86 j := fun j hj hl => (rwv_fr hF519 (by decide)).trans (hj477 j hj hl)
          have rg530 : FA w516 ≠ 0 ∨ u45 < 6 := hj480.imp_left pk525.1
          have mf531 : ∀ s, s < 7 → rwv w516 85 s = rwv w 85 s := fun s hs => (rwv_fr hF519 (by decide)).trans (hj479 s hs)
          have hl532 : rwv w516 86 (20 + 4 * u45 + 0) = rwv w472 86 (20 + 4 * u45 + 0) := rwv_fr hF519 (by decide)
          have hl533 : rwv w516 86 (20 + 4 * u45 + 1) = rwv w472 86 (20 + 4 * u45 + 1) := rwv_fr hF519 (by decide)
          have hl534 : rwv w516 86 (20 + 4 * u45 + 2) = rwv w472 86 (20 + 4 * u45 + 2) := rwv_fr hF519 (by decide)
          have nw535 : FA w516 ≠ 0 ∨ 6 ≤ u45 ∨ (1 ≤ rwv w516 86 (20 + 4 * u45 + 0) ∧ rwv w516 86 (20 + 4 * u45 + 0) ≤ 99 ∧ 1 ≤ rwv w516 86 (20 + 4 * u45 + 1) ∧ rwv w516 86 (20 + 4 * u45 + 1) ≤ 99 ∧ 1 ≤ rwv w516 86 (20 + 4 * u45 + 2) ∧ rwv w516 86 (20 + 4 * u45 + 2) ≤ 99) := by have q := hj481; have q1 := pk525.1; omega
          clear hj481
          have ms536 : mu w516 < mu w := Nat.lt_of_le_of_lt pk525.2.1 hj478
          clear hj480
          refine xg_t (xg_goto) ?_
          refine xg_t (xg_blq rfl) ?_
          refine xoCh82 (xqc82 hI518 : cp82 (wget w516 82)) (fun f82_537 f82_539 f82_541 f82_543 f82_545 f82_547 f82_549 f82_551 f82_553 f82_555 f82_557 f82_558 f82_559 f82_561 f82_563 f82_565 h82_567 hb538 hb540 hb542 hb544 hb546 hb548 hb550 hb552 hb554 hb556 hb560 hb562 hb564 hb566 hb568 => ?_)
          have hf569 : fld w516 82 4 = f82_541 := fld_of h82_567
          have hf570 : fld w516 82 5 = f82_543 := fld_of h82_567
          have hf571 : fld w516 82 7 = f82_547 := fld_of h82_567
          have hf572 : fld w516 82 10 = f82_553 := fld_of h82_567
          have hf573 : fld w516 82 14 = f82_555 := fld_of h82_567
          have hu574 : mu w516 = 2 * (fld w516 82 4 - fld w516 82 5) + min 1 (fld w516 82 7) := rfl
          have hf575 := pk528.2.2.1
          have hl576 : f82_555 ≤ 1000 := by omega
          refine xg_t (xg_aload (va := (2, 82)) rfl rfl) ?_
          refine xg_t (xg_getf (va := (2, 85)) h82_567 rfl) ?_
          refine xg_t (xg_iload (va := (0, 0)) rfl rfl) ?_
          refine xg_t (xg_dup2 rfl) ?_
          refine xoI (xqc85 hI518 : cpI 7 52 4294967295 (wget w516 85)) (fun g85_577 h85_578 hb579 => ?_)
          refine xg_ialdB (n := 0) (B := 4294967295) h85_578 (hb579) xnm0 (by first | decide | omega) (fun u580 hu581 he582 => ?_)
          have hl583 : u580 = u45 := by have q1 := rwv_of h85_578 (show 0 < 7 by decide); have q2 := mf531 0 (by decide); omega
          refine xg_t (xg_const) ?_
          refine xg_t (xg_iadd (u := u580) (v := 1) (z := u580 + 1) xnm0 xnm0 (by omega)) ?_
          refine xg_iastK (n := 0) (u := u580 + 1) h85_578 xnm0 xnm0 rfl (by first | decide | omega) (fun w584 hr585 hb586 => ?_)
          refine xg_t (xg_aload (va := (2, 82)) rfl rfl) ?_
          refine xg_t (xg_dup rfl) ?_
          refine xg_t (xg_getf (va := (0, f82_555)) (hb586.get (by decide) h82_567) rfl) ?_
          have hn587 := id hb556
          unfold xHid at hn587
          refine xg_t (xg_const) ?_
          refine xg_t (xg_iadd (u := f82_555) (v := 1) (z := f82_555 + 1) xnm0 xnm0 (by omega)) ?_
          refine xg_putI (fl1 := [(2, 83), (2, 84), (0, f82_537), (0, f82_539), (0, f82_541), (0, f82_543), (0, f82_545), (0, f82_547), (0, f82_549), (0, f82_551), (0, f82_553), (2, 85), (2, 86), (2, 87), (0, f82_555 + 1), (2, 88), (2, 89), (2, 90), (2, 91), (2, 92), (2, 93), (2, 94), (4, f82_557), (4, f82_558), (0, f82_559), (2, 95), (2, 96), (2, 97), (2, 98), (2, 99), (2, 100), (2, 101), (2, 102), (0, f82_561), (2, 103), (2, 104), (2, 105), (2, 106), (2, 107), (2, 108), (2, 109), (0, f82_563), (0, f82_565), (2, 110), (2, 111), (2, 112), (2, 113)]) (hb586.get (by decide) h82_567) rfl rfl rfl (fun w588 hk589 hb590 => ?_)
          have hF591 : xFr [82, 85] w516 w588 := ((xFr.of (S := [82, 85]) hb586 (by decide)).tr (xFr.of (S := [82, 85]) hb590 (by decide)))
          have hA592 := FA_fr hF591 (by decide)
          have hf593 : fld w588 82 4 = f82_541 := fld_of hk589
          have hf594 : fld w588 82 5 = f82_543 := fld_of hk589
          have hf595 : fld w588 82 7 = f82_547 := fld_of hk589
          have hf596 : fld w588 82 10 = f82_553 := fld_of hk589
          have hf597 : fld w588 82 14 = f82_555 + 1 := fld_of hk589
          have hu598 : mu w588 = 2 * (fld w588 82 4 - fld w588 82 5) + min 1 (fld w588 82 7) := rfl
          have pq599 := pk528
          unfold PK PS at pq599
          have hM600 : ∀ s, s < 7 → s ≠ 0 → rwv w588 85 s = rwv w 85 s := fun s hs hn => (rwv_of (hr585.but hb590 (by decide)) hs).trans ((if_neg hn).trans ((rwv_of h85_578 hs).symm.trans (mf531 s hs)))
          have hM601 : rwv w588 85 0 = u45 + 1 := (rwv_of (hr585.but hb590 (by decide)) (by decide)).trans ((if_pos rfl).trans (by omega))
          have hM602 : ∀ s, s < 7 → rwv w588 85 s ≤ rwv w 85 s + 1 := fun s hs => by
            by_cases z : s = 0
            · subst z; omega
            · rw [hM600 s hs z]; omega
          have hO603 : ∀ j, (j < 20 + 4 * u45 ∨ 24 + 4 * u45 ≤ j) → j < 140 → rwv w588 86 j = rwv w 86 j := fun j hj hl => (rwv_fr hF591 (by decide)).trans (os529 j hj hl)
          have hl605 : FA w516 ≠ 0 ∨ u45 < 6 := rg530
          have hl606 : rwv w588 86 (20 + 4 * u45 + 0) = rwv w516 86 (20 + 4 * u45 + 0) := rwv_fr hF591 (by decide)
          have hl607 : rwv w588 86 (20 + 4 * u45 + 1) = rwv w516 86 (20 + 4 * u45 + 1) := rwv_fr hF591 (by decide)
          have hl608 : rwv w588 86 (20 + 4 * u45 + 2) = rwv w516 86 (20 + 4 * u45 + 2) := rwv_fr hF591 (by decide)
          have hN604 : FA w588 ≠ 0 ∨ 6 ≤ u45 ∨ (1 ≤ rwv w588 86 (20 + 4 * u45 + 0) ∧ rwv w588 86 (20 + 4 * u45 + 0) ≤ 99 ∧ 1 ≤ rwv w588 86 (20 + 4 * u45 + 1) ∧ rwv w588 86 (20 + 4 * u45 + 1) ≤ 99 ∧ 1 ≤ rwv w588 86 (20 + 4 * u45 + 2) ∧ rwv w588 86 (20 + 4 * u45 + 2) ≤ 99) := by have q := nw535; omega
          have hX609 : FA w588 ≠ 0 ∨ u45 < 6 := by omega
          have hD610 : FA w588 ≠ 0 ∨ (DATA w → DATA w588) := by
            by_cases z : FA w588 ≠ 0
            · exact Or.inl z
            · exact Or.inr (fun hd => hd.s0 hM600 hK48 hM601 (hX609.resolve_left z) hO603 ((hN604.resolve_left z).resolve_left (by have := hX609.resolve_left z; omega)))
          exact xg_e ⟨w588, ⟨rfl, rfl⟩, xMnv.up (S := [85, 82]) hI518 ((xFr.of (S := [85, 82]) hb586 (by decide)).tr (xFr.of (S := [85, 82]) hb590 (by decide))) (List.forall_mem_cons.mpr ⟨xqu85 (show cpI 7 52 4294967295 (wget w588 85) from ⟨_, (hr585.but hb590 (by decide)), xrb (by omega) (hb579)⟩), List.forall_mem_cons.mpr ⟨xqu82 (show cp82 (wget w588 82) from xmC82 f82_537 f82_539 f82_541 f82_543 f82_545 f82_547 f82_549 f82_551 f82_553 (f82_555 + 1) f82_557 f82_558 f82_559 f82_561 f82_563 f82_565 hk589 hb538 hb540 hb542 hb544 hb546 hb548 hb550 hb552 hb554 (by omega) hb560 hb562 hb564 hb566 (by omega)), fun _ h => absurd h List.not_mem_nil⟩⟩), ((hF474.tr (hF519.up (by decide))).tr ((xFr.of (S := [82, 83, 85, 86, 87]) hb586 (by decide)).tr (xFr.of (S := [82, 83, 85, 86, 87]) hb590 (by decide)))), ⟨fun h => by have := pq599.1 h; omega, (show fld w588 82 10 = 0 ∨ FA w588 ≠ 0 by omega), Or.inr ⟨by have := ms536; omega, by omega, hM602⟩, hD610, pk528.2.2.2.2.tr (K83.fr hF591 (by decide))⟩⟩
        · refine xg_t (xg_icT (u := f82_492) (v := 2) rfl xnm0 xnm0 (xj_neT hc515)) ?_
          refine xg_t (xg_blq rfl) ?_
          refine xg_t (xg_aload (va := (2, 82)) rfl rfl) ?_
          refine xg_cVv mX12_ends (vs := []) (rest := []) (cn1 := 0) (sl1 := 0) rfl (mEnds (hI473) hj476.2.2.2.1) rfl h82_512 rfl rfl rfl rfl rfl rfl (fun w611 hq612 => ?_)
          obtain ⟨hI613, hF614, hx615⟩ := hq612
          clear hb483 hb485 hb487 hb489 hb491 hb493 hb495 hb497 hb499 hb501 hb505 hb507 hb509 hb511
          obtain ⟨hv616, hv617, hv618, hv619, hv620⟩ := hx615
          have pk621 : PK w472 w611 := ⟨fun _ => hv616, by omega, by omega, Or.inr hv616, hv620⟩
          have pk622 : PK w w611 := PK.tr hj476 pk621
          have os623 : ∀ j, (j < 20 + 4 * u45 ∨ 24 + 4 * u45 ≤ j) → j < 140 → rwv w611 86 j = rwv w 86 j := fun j hj hl => (rwv_fr hF614 (by decide)).trans (hj477 j hj hl)
          have rg624 : FA w611 ≠ 0 ∨ u45 < 6 := hj480.imp_left pk621.1
          have mf625 : ∀ s, s < 7 → rwv w611 85 s = rwv w 85 s := fun s hs => (rwv_fr hF614 (by decide)).trans (hj479 s hs)
          have hl626 : rwv w611 86 (20 + 4 * u45 + 0) = rwv w472 86 (20 + 4 * u45 + 0) := rwv_fr hF614 (by decide)
          have hl627 : rwv w611 86 (20 + 4 * u45 + 1) = rwv w472 86 (20 + 4 * u45 + 1) := rwv_fr hF614 (by decide)
          have hl628 : rwv w611 86 (20 + 4 * u45 + 2) = rwv w472 86 (20 + 4 * u45 + 2) := rwv_fr hF614 (by decide)
          have nw629 : FA w611 ≠ 0 ∨ 6 ≤ u45 ∨ (1 ≤ rwv w611 86 (20 + 4 * u45 + 0) ∧ rwv w611 86 (20 + 4 * u45 + 0) ≤ 99 ∧ 1 ≤ rwv w611 86 (20 + 4 * u45 + 1) ∧ rwv w611 86 (20 + 4 * u45 + 1) ≤ 99 ∧ 1 ≤ rwv w611 86 (20 + 4 * u45 + 2) ∧ rwv w611 86 (20 + 4 * u45 + 2) ≤ 99) := by have q := hj481; have q1 := pk621.1; omega
          clear hj481
          have ms630 : mu w611 < mu w := Nat.lt_of_le_of_lt pk621.2.1 hj478
          clear hj480
          refine xg_t (xg_blq rfl) ?_
          refine xoCh82 (xqc82 hI613 : cp82 (wget w611 82)) (fun f82_631 f82_633 f82_635 f82_637 f82_639 f82_641 f82_643 f82_645 f82_647 f82_649 f82_651 f82_652 f82_653 f82_655 f82_657 f82_659 h82_661 hb632 hb634 hb636 hb638 hb640 hb642 hb644 hb646 hb648 hb650 hb654 hb656 hb658 hb660 hb662 => ?_)
          have hf663 : fld w611 82 4 = f82_635 := fld_of h82_661
          have hf664 : fld w611 82 5 = f82_637 := fld_of h82_661
          have hf665 : fld w611 82 7 = f82_641 := fld_of h82_661
          have hf666 : fld w611 82 10 = f82_647 := fld_of h82_661
          have hf667 : fld w611 82 14 = f82_649 := fld_of h82_661
          have hu668 : mu w611 = 2 * (fld w611 82 4 - fld w611 82 5) + min 1 (fld w611 82 7) := rfl
          have hf669 := pk622.2.2.1
          have hl670 : f82_649 ≤ 1000 := by omega
          refine xg_t (xg_aload (va := (2, 82)) rfl rfl) ?_
          refine xg_t (xg_getf (va := (2, 85)) h82_661 rfl) ?_
          refine xg_t (xg_iload (va := (0, 0)) rfl rfl) ?_
          refine xg_t (xg_dup2 rfl) ?_
          refine xoI (xqc85 hI613 : cpI 7 52 4294967295 (wget w611 85)) (fun g85_671 h85_672 hb673 => ?_)
          refine xg_ialdB (n := 0) (B := 4294967295) h85_672 (hb673) xnm0 (by first | decide | omega) (fun u674 hu675 he676 => ?_)
          have hl677 : u674 = u45 := by have q1 := rwv_of h85_672 (show 0 < 7 by decide); have q2 := mf625 0 (by decide); omega
          refine xg_t (xg_const) ?_
          refine xg_t (xg_iadd (u := u674) (v := 1) (z := u674 + 1) xnm0 xnm0 (by omega)) ?_
          refine xg_iastK (n := 0) (u := u674 + 1) h85_672 xnm0 xnm0 rfl (by first | decide | omega) (fun w678 hr679 hb680 => ?_)
          refine xg_t (xg_aload (va := (2, 82)) rfl rfl) ?_
          refine xg_t (xg_dup rfl) ?_
          refine xg_t (xg_getf (va := (0, f82_649)) (hb680.get (by decide) h82_661) rfl) ?_
          have hn681 := id hb650
          unfold xHid at hn681
          refine xg_t (xg_const) ?_
          refine xg_t (xg_iadd (u := f82_649) (v := 1) (z := f82_649 + 1) xnm0 xnm0 (by omega)) ?_
          refine xg_putI (fl1 := [(2, 83), (2, 84), (0, f82_631), (0, f82_633), (0, f82_635), (0, f82_637), (0, f82_639), (0, f82_641), (0, f82_643), (0, f82_645), (0, f82_647), (2, 85), (2, 86), (2, 87), (0, f82_649 + 1), (2, 88), (2, 89), (2, 90), (2, 91), (2, 92), (2, 93), (2, 94), (4, f82_651), (4, f82_652), (0, f82_653), (2, 95), (2, 96), (2, 97), (2, 98), (2, 99), (2, 100), (2, 101), (2, 102), (0, f82_655), (2, 103), (2, 104), (2, 105), (2, 106), (2, 107), (2, 108), (2, 109), (0, f82_657), (0, f82_659), (2, 110), (2, 111), (2, 112), (2, 113)]) (hb680.get (by decide) h82_661) rfl rfl rfl (fun w682 hk683 hb684 => ?_)
          have hF685 : xFr [82, 85] w611 w682 := ((xFr.of (S := [82, 85]) hb680 (by decide)).tr (xFr.of (S := [82, 85]) hb684 (by decide)))
          have hA686 := FA_fr hF685 (by decide)
          have hf687 : fld w682 82 4 = f82_635 := fld_of hk683
          have hf688 : fld w682 82 5 = f82_637 := fld_of hk683
          have hf689 : fld w682 82 7 = f82_641 := fld_of hk683
          have hf690 : fld w682 82 10 = f82_647 := fld_of hk683
          have hf691 : fld w682 82 14 = f82_649 + 1 := fld_of hk683
          have hu692 : mu w682 = 2 * (fld w682 82 4 - fld w682 82 5) + min 1 (fld w682 82 7) := rfl
          have pq693 := pk622
          unfold PK PS at pq693
          have hM694 : ∀ s, s < 7 → s ≠ 0 → rwv w682 85 s = rwv w 85 s := fun s hs hn => (rwv_of (hr679.but hb684 (by decide)) hs).trans ((if_neg hn).trans ((rwv_of h85_672 hs).symm.trans (mf625 s hs)))
          have hM695 : rwv w682 85 0 = u45 + 1 := (rwv_of (hr679.but hb684 (by decide)) (by decide)).trans ((if_pos rfl).trans (by omega))
          have hM696 : ∀ s, s < 7 → rwv w682 85 s ≤ rwv w 85 s + 1 := fun s hs => by
            by_cases z : s = 0
            · subst z; omega
            · rw [hM694 s hs z]; omega
          have hO697 : ∀ j, (j < 20 + 4 * u45 ∨ 24 + 4 * u45 ≤ j) → j < 140 → rwv w682 86 j = rwv w 86 j := fun j hj hl => (rwv_fr hF685 (by decide)).trans (os623 j hj hl)
          have hl699 : FA w611 ≠ 0 ∨ u45 < 6 := rg624
          have hl700 : rwv w682 86 (20 + 4 * u45 + 0) = rwv w611 86 (20 + 4 * u45 + 0) := rwv_fr hF685 (by decide)
          have hl701 : rwv w682 86 (20 + 4 * u45 + 1) = rwv w611 86 (20 + 4 * u45 + 1) := rwv_fr hF685 (by decide)
          have hl702 : rwv w682 86 (20 + 4 * u45 + 2) = rwv w611 86 (20 + 4 * u45 + 2) := rwv_fr hF685 (by decide)
          have hN698 : FA w682 ≠ 0 ∨ 6 ≤ u45 ∨ (1 ≤ rwv w682 86 (20 + 4 * u45 + 0) ∧ rwv w682 86 (20 + 4 * u45 + 0) ≤ 99 ∧ 1 ≤ rwv w682 86 (20 + 4 * u45 + 1) ∧ rwv w682 86 (20 + 4 * u45 + 1) ≤ 99 ∧ 1 ≤ rwv w682 86 (20 + 4 * u45 + 2) ∧ rwv w682 86 (20 + 4 * u45 + 2) ≤ 99) := by have q := nw629; omega
          have hX703 : FA w682 ≠ 0 ∨ u45 < 6 := by omega
          have hD704 : FA w682 ≠ 0 ∨ (DATA w → DATA w682) := by
            by_cases z : FA w682 ≠ 0
            · exact Or.inl z
            · exact Or.inr (fun hd => hd.s0 hM694 hK48 hM695 (hX703.resolve_left z) hO697 ((hN698.resolve_left z).resolve_left (by have := hX703.resolve_left z; omega)))
          exact xg_e ⟨w682, ⟨rfl, rfl⟩, xMnv.up (S := [85, 82]) hI613 ((xFr.of (S := [85, 82]) hb680 (by decide)).tr (xFr.of (S := [85, 82]) hb684 (by decide))) (List.forall_mem_cons.mpr ⟨xqu85 (show cpI 7 52 4294967295 (wget w682 85) from ⟨_, (hr679.but hb684 (by decide)), xrb (by omega) (hb673)⟩), List.forall_mem_cons.mpr ⟨xqu82 (show cp82 (wget w682 82) from xmC82 f82_631 f82_633 f82_635 f82_637 f82_639 f82_641 f82_643 f82_645 f82_647 (f82_649 + 1) f82_651 f82_652 f82_653 f82_655 f82_657 f82_659 hk683 hb632 hb634 hb636 hb638 hb640 hb642 hb644 hb646 hb648 (by omega) hb654 hb656 hb658 hb660 (by omega)), fun _ h => absurd h List.not_mem_nil⟩⟩), ((hF474.tr (hF614.up (by decide))).tr ((xFr.of (S := [82, 83, 85, 86, 87]) hb680 (by decide)).tr (xFr.of (S := [82, 83, 85, 86, 87]) hb684 (by decide)))), ⟨fun h => by have := pq693.1 h; omega, (show fld w682 82 10 = 0 ∨ FA w682 ≠ 0 by omega), Or.inr ⟨by have := ms630; omega, by omega, hM696⟩, hD704, pk622.2.2.2.2.tr (K83.fr hF685 (by decide))⟩⟩
      · refine xg_t (xg_ifT (u := f82_498) rfl xnm0 (xj_neT hc514)) ?_
        refine xg_t (xg_blq rfl) ?_
        refine xg_t (xg_aload (va := (2, 82)) rfl rfl) ?_
        refine xg_cVv mX12_ends (vs := []) (rest := []) (cn1 := 0) (sl1 := 0) rfl (mEnds (hI473) hj476.2.2.2.1) rfl h82_512 rfl rfl rfl rfl rfl rfl (fun w705 hq706 => ?_)
        obtain ⟨hI707, hF708, hx709⟩ := hq706
        clear hb483 hb485 hb487 hb489 hb491 hb493 hb495 hb497 hb499 hb501 hb505 hb507 hb509 hb511
        obtain ⟨hv710, hv711, hv712, hv713, hv714⟩ := hx709
        have pk715 : PK w472 w705 := ⟨fun _ => hv710, by omega, by omega, Or.inr hv710, hv714⟩
        have pk716 : PK w w705 := PK.tr hj476 pk715
        have os717 : ∀ j, (j < 20 + 4 * u45 ∨ 24 + 4 * u45 ≤ j) → j < 140 → rwv w705 86 j = rwv w 86 j := fun j hj hl => (rwv_fr hF708 (by decide)).trans (hj477 j hj hl)
        have rg718 : FA w705 ≠ 0 ∨ u45 < 6 := hj480.imp_left pk715.1
        have mf719 : ∀ s, s < 7 → rwv w705 85 s = rwv w 85 s := fun s hs => (rwv_fr hF708 (by decide)).trans (hj479 s hs)
        have hl720 : rwv w705 86 (20 + 4 * u45 + 0) = rwv w472 86 (20 + 4 * u45 + 0) := rwv_fr hF708 (by decide)
        have hl721 : rwv w705 86 (20 + 4 * u45 + 1) = rwv w472 86 (20 + 4 * u45 + 1) := rwv_fr hF708 (by decide)
        have hl722 : rwv w705 86 (20 + 4 * u45 + 2) = rwv w472 86 (20 + 4 * u45 + 2) := rwv_fr hF708 (by decide)
        have nw723 : FA w705 ≠ 0 ∨ 6 ≤ u45 ∨ (1 ≤ rwv w705 86 (20 + 4 * u45 + 0) ∧ rwv w705 86 (20 + 4 * u45 + 0) ≤ 99 ∧ 1 ≤ rwv w705 86 (20 + 4 * u45 + 1) ∧ rwv w705 86 (20 + 4 * u45 + 1) ≤ 99 ∧ 1 ≤ rwv w705 86 (20 + 4 * u45 + 2) ∧ rwv w705 86 (20 + 4 * u45 + 2) ≤ 99) := by have q := hj481; have q1 := pk715.1; omega
        clear hj481
        have ms724 : mu w705 < mu w := Nat.lt_of_le_of_lt pk715.2.1 hj478
        clear hj480
        refine xg_t (xg_blq rfl) ?_
        refine xoCh82 (xqc82 hI707 : cp82 (wget w705 82)) (fun f82_725 f82_727 f82_729 f82_731 f82_733 f82_735 f82_737 f82_739 f82_741 f82_743 f82_745 f82_746 f82_747 f82_749 f82_751 f82_753 h82_755 hb726 hb728 hb730 hb732 hb734 hb736 hb738 hb740 hb742 hb744 hb748 hb750 hb752 hb754 hb756 => ?_)
        have hf757 : fld w705 82 4 = f82_729 := fld_of h82_755
        have hf758 : fld w705 82 5 = f82_731 := fld_of h82_755
        have hf759 : fld w705 82 7 = f82_735 := fld_of h82_755
        have hf760 : fld w705 82 10 = f82_741 := fld_of h82_755
        have hf761 : fld w705 82 14 = f82_743 := fld_of h82_755
        have hu762 : mu w705 = 2 * (fld w705 82 4 - fld w705 82 5) + min 1 (fld w705 82 7) := rfl
        have hf763 := pk716.2.2.1
        have hl764 : f82_743 ≤ 1000 := by omega
        refine xg_t (xg_aload (va := (2, 82)) rfl rfl) ?_
        refine xg_t (xg_getf (va := (2, 85)) h82_755 rfl) ?_
        refine xg_t (xg_iload (va := (0, 0)) rfl rfl) ?_
        refine xg_t (xg_dup2 rfl) ?_
        refine xoI (xqc85 hI707 : cpI 7 52 4294967295 (wget w705 85)) (fun g85_765 h85_766 hb767 => ?_)
        refine xg_ialdB (n := 0) (B := 4294967295) h85_766 (hb767) xnm0 (by first | decide | omega) (fun u768 hu769 he770 => ?_)
        have hl771 : u768 = u45 := by have q1 := rwv_of h85_766 (show 0 < 7 by decide); have q2 := mf719 0 (by decide); omega
        refine xg_t (xg_const) ?_
        refine xg_t (xg_iadd (u := u768) (v := 1) (z := u768 + 1) xnm0 xnm0 (by omega)) ?_
        refine xg_iastK (n := 0) (u := u768 + 1) h85_766 xnm0 xnm0 rfl (by first | decide | omega) (fun w772 hr773 hb774 => ?_)
        refine xg_t (xg_aload (va := (2, 82)) rfl rfl) ?_
        refine xg_t (xg_dup rfl) ?_
        refine xg_t (xg_getf (va := (0, f82_743)) (hb774.get (by decide) h82_755) rfl) ?_
        have hn775 := id hb744
        unfold xHid at hn775
        refine xg_t (xg_const) ?_
        refine xg_t (xg_iadd (u := f82_743) (v := 1) (z := f82_743 + 1) xnm0 xnm0 (by omega)) ?_
        refine xg_putI (fl1 := [(2, 83), (2, 84), (0, f82_725), (0, f82_727), (0, f82_729), (0, f82_731), (0, f82_733), (0, f82_735), (0, f82_737), (0, f82_739), (0, f82_741), (2, 85), (2, 86), (2, 87), (0, f82_743 + 1), (2, 88), (2, 89), (2, 90), (2, 91), (2, 92), (2, 93), (2, 94), (4, f82_745), (4, f82_746), (0, f82_747), (2, 95), (2, 96), (2, 97), (2, 98), (2, 99), (2, 100), (2, 101), (2, 102), (0, f82_749), (2, 103), (2, 104), (2, 105), (2, 106), (2, 107), (2, 108), (2, 109), (0, f82_751), (0, f82_753), (2, 110), (2, 111), (2, 112), (2, 113)]) (hb774.get (by decide) h82_755) rfl rfl rfl (fun w776 hk777 hb778 => ?_)
        have hF779 : xFr [82, 85] w705 w776 := ((xFr.of (S := [82, 85]) hb774 (by decide)).tr (xFr.of (S := [82, 85]) hb778 (by decide)))
        have hA780 := FA_fr hF779 (by decide)
        have hf781 : fld w776 82 4 = f82_729 := fld_of hk777
        have hf782 : fld w776 82 5 = f82_731 := fld_of hk777
        have hf783 : fld w776 82 7 = f82_735 := fld_of hk777
        have hf784 : fld w776 82 10 = f82_741 := fld_of hk777
        have hf785 : fld w776 82 14 = f82_743 + 1 := fld_of hk777
        have hu786 : mu w776 = 2 * (fld w776 82 4 - fld w776 82 5) + min 1 (fld w776 82 7) := rfl
        have pq787 := pk716
        unfold PK PS at pq787
        have hM788 : ∀ s, s < 7 → s ≠ 0 → rwv w776 85 s = rwv w 85 s := fun s hs hn => (rwv_of (hr773.but hb778 (by decide)) hs).trans ((if_neg hn).trans ((rwv_of h85_766 hs).symm.trans (mf719 s hs)))
        have hM789 : rwv w776 85 0 = u45 + 1 := (rwv_of (hr773.but hb778 (by decide)) (by decide)).trans ((if_pos rfl).trans (by omega))
        have hM790 : ∀ s, s < 7 → rwv w776 85 s ≤ rwv w 85 s + 1 := fun s hs => by
          by_cases z : s = 0
          · subst z; omega
          · rw [hM788 s hs z]; omega
        have hO791 : ∀ j, (j < 20 + 4 * u45 ∨ 24 + 4 * u45 ≤ j) → j < 140 → rwv w776 86 j = rwv w 86 j := fun j hj hl => (rwv_fr hF779 (by decide)).trans (os717 j hj hl)
        have hl793 : FA w705 ≠ 0 ∨ u45 < 6 := rg718
        have hl794 : rwv w776 86 (20 + 4 * u45 + 0) = rwv w705 86 (20 + 4 * u45 + 0) := rwv_fr hF779 (by decide)
        have hl795 : rwv w776 86 (20 + 4 * u45 + 1) = rwv w705 86 (20 + 4 * u45 + 1) := rwv_fr hF779 (by decide)
        have hl796 : rwv w776 86 (20 + 4 * u45 + 2) = rwv w705 86 (20 + 4 * u45 + 2) := rwv_fr hF779 (by decide)
        have hN792 : FA w776 ≠ 0 ∨ 6 ≤ u45 ∨ (1 ≤ rwv w776 86 (20 + 4 * u45 + 0) ∧ rwv w776 86 (20 + 4 * u45 + 0) ≤ 99 ∧ 1 ≤ rwv w776 86 (20 + 4 * u45 + 1) ∧ rwv w776 86 (20 + 4 * u45 + 1) ≤ 99 ∧ 1 ≤ rwv w776 86 (20 + 4 * u45 + 2) ∧ rwv w776 86 (20 + 4 * u45 + 2) ≤ 99) := by have q := nw723; omega
        have hX797 : FA w776 ≠ 0 ∨ u45 < 6 := by omega
        have hD798 : FA w776 ≠ 0 ∨ (DATA w → DATA w776) := by
          by_cases z : FA w776 ≠ 0
          · exact Or.inl z
          · exact Or.inr (fun hd => hd.s0 hM788 hK48 hM789 (hX797.resolve_left z) hO791 ((hN792.resolve_left z).resolve_left (by have := hX797.resolve_left z; omega)))
        exact xg_e ⟨w776, ⟨rfl, rfl⟩, xMnv.up (S := [85, 82]) hI707 ((xFr.of (S := [85, 82]) hb774 (by decide)).tr (xFr.of (S := [85, 82]) hb778 (by decide))) (List.forall_mem_cons.mpr ⟨xqu85 (show cpI 7 52 4294967295 (wget w776 85) from ⟨_, (hr773.but hb778 (by decide)), xrb (by omega) (hb767)⟩), List.forall_mem_cons.mpr ⟨xqu82 (show cp82 (wget w776 82) from xmC82 f82_725 f82_727 f82_729 f82_731 f82_733 f82_735 f82_737 f82_739 f82_741 (f82_743 + 1) f82_745 f82_746 f82_747 f82_749 f82_751 f82_753 hk777 hb726 hb728 hb730 hb732 hb734 hb736 hb738 hb740 hb742 (by omega) hb748 hb750 hb752 hb754 (by omega)), fun _ h => absurd h List.not_mem_nil⟩⟩), ((hF474.tr (hF708.up (by decide))).tr ((xFr.of (S := [82, 83, 85, 86, 87]) hb774 (by decide)).tr (xFr.of (S := [82, 83, 85, 86, 87]) hb778 (by decide)))), ⟨fun h => by have := pq787.1 h; omega, (show fld w776 82 10 = 0 ∨ FA w776 ≠ 0 by omega), Or.inr ⟨by have := ms724; omega, by omega, hM790⟩, hD798, pk716.2.2.2.2.tr (K83.fr hF779 (by decide))⟩⟩
    refine xg_t (xg_iload (va := (0, 0)) rfl rfl) ?_
    refine xg_t (xg_swt (ks := [(0, 108), (1, 116), (2, 180), (3, 221), (4, 273), (5, 326)]) (u := 0) (z := 108) rfl rfl rfl xnm0 (xsw_y rfl)) ?_
    refine xg_t (xg_blq rfl) ?_
    refine xg_t (xg_aload (va := (2, 82)) rfl rfl) ?_
    refine xg_t (xg_iload (va := (0, u45)) rfl rfl) ?_
    refine xoCh82 (xqc82 hI456 : cp82 (wget w454 82)) (fun f82_799 f82_801 f82_803 f82_805 f82_807 f82_809 f82_811 f82_813 f82_815 f82_817 f82_819 f82_820 f82_821 f82_823 f82_825 f82_827 h82_829 hb800 hb802 hb804 hb806 hb808 hb810 hb812 hb814 hb816 hb818 hb822 hb824 hb826 hb828 hb830 => ?_)
    refine xg_cVv mX12_aLayer (vs := [(0, u45)]) (rest := []) (cn1 := 0) (sl1 := 0) rfl (mALayer (hI456) (by omega) pk466.2.2.2.1) rfl h82_829 rfl rfl rfl rfl rfl rfl (fun w831 hq832 => ?_)
    obtain ⟨hI833, hF834, hx835⟩ := hq832
    clear hb800 hb802 hb804 hb806 hb808 hb810 hb812 hb814 hb816 hb818 hb822 hb824 hb826 hb828
    obtain ⟨pk836, os837, ly838⟩ := hx835
    have pk839 : PK w w831 := PK.tr pk466 pk836
    have os840 : ∀ j, (j < 20 + 4 * u45 ∨ 24 + 4 * u45 ≤ j) → j < 140 → rwv w831 86 j = rwv w 86 j := fun j hj hl => (os837 j hj hl).trans (os467 j hj hl)
    have rg841 : FA w831 ≠ 0 ∨ 0 = 1 := rg468.imp_left pk836.1
    have mf842 : ∀ s, s < 7 → rwv w831 85 s = rwv w 85 s := fun s hs => (rwv_fr hF834 (by decide)).trans (mf469 s hs)
    have ms843 : mu w831 < mu w := Nat.lt_of_le_of_lt pk836.2.1 ms470
    clear rg468
    refine xg_t (xg_goto) ?_
    refine xg_t (xg_drop (l1 := [(0, (2, 82)), (1, (0, 0)), (3, (0, u45))]) (List.forall_mem_cons.mpr ⟨List.mem_cons_of_mem _ (List.mem_cons_of_mem _ (List.mem_cons_of_mem _ (List.mem_cons_self))), List.forall_mem_cons.mpr ⟨List.mem_cons_of_mem _ (List.mem_cons_of_mem _ (List.mem_cons_self)), List.forall_mem_cons.mpr ⟨List.mem_cons_self, fun _ h => absurd h List.not_mem_nil⟩⟩⟩)) ?_
    have hX844 : FA w831 ≠ 0 ∨ u45 < 6 := Or.inl (by have q := rg841; omega)
    exact jn471 w831 (hI833) ((((hF445.up (by decide)).tr (hF457.up (by decide))).tr (hF834.up (by decide)))) (⟨pk839, os840, ms843, mf842, hX844, ly838⟩)
end XMB
end
section
/-! the model: lines of films, more -/
section XMB
variable {d : Nat} {w : List (List xE)} {bd : List (Nat × Nat)} {fc : List (Nat × Nat × Bool)} {rr : Nat × Nat}
set_option maxHeartbeats 60000000 in
theorem mALineS1 {at_ : Nat} (hI : xMnv w) (hps : PS w) (hmb : ∀ s, s < 7 → rwv w 85 s ≤ 1000) (hln : fld w 82 14 ≤ 1000) (h7 : fld w 82 7 = 3) (hat : at_ ≤ 4294967295) : xTo (d + 7) mX12_aLine (43, [], [(2, (0, at_)), (1, (0, 1)), (0, (2, 82))], [], (w, bd, fc, 0, 0, rr)) (fun φ => ∃ w', xEnd 0 [] (w', bd, fc, 0, 0, rr) φ ∧ xMnv w' ∧ xFr [82, 83, 85, 86, 87] w w' ∧ ((FA w ≠ 0 → FA w' ≠ 0) ∧ PS w' ∧ ((fld w' 82 10 = 1 ∧ mu w' = mu w ∧ fld w' 82 14 = fld w 82 14 ∧ ∀ s, s < 7 → rwv w' 85 s = rwv w 85 s) ∨ (mu w' < mu w ∧ fld w' 82 14 = fld w 82 14 + 1 ∧ ∀ s, s < 7 → rwv w' 85 s ≤ rwv w 85 s + 1)) ∧ (FA w' ≠ 0 ∨ (DATA w → DATA w')) ∧ K83 w w')) := by
  refine xoCh82 (xqc82 hI : cp82 (wget w 82)) (fun f82_1 f82_3 f82_5 f82_7 f82_9 f82_11 f82_13 f82_15 f82_17 f82_19 f82_21 f82_22 f82_23 f82_25 f82_27 f82_29 h82_31 hb2 hb4 hb6 hb8 hb10 hb12 hb14 hb16 hb18 hb20 hb24 hb26 hb28 hb30 hb32 => ?_)
  have hf33 : fld w 82 7 = f82_11 := fld_of h82_31
  have hf34 : fld w 82 10 = f82_17 := fld_of h82_31
  have hf35 : fld w 82 14 = f82_19 := fld_of h82_31
  have hps_ : fld w 82 10 = 0 ∨ FA w ≠ 0 := hps
  refine xoI (xqc85 hI : cpI 7 52 4294967295 (wget w 85)) (fun g85_36 h85_37 hb38 => ?_)
  refine xoI (xqc86 hI : cpI 140 53 4294967295 (wget w 86)) (fun g86_39 h86_40 hb41 => ?_)
  refine xoI (xqc87 hI : cpI 20 54 4294967295 (wget w 87)) (fun g87_42 h87_43 hb44 => ?_)
  refine xg_t (xg_blq rfl) ?_
  refine xg_t (xg_aload (va := (2, 82)) rfl rfl) ?_
  refine xg_t (xg_getf (va := (2, 85)) h82_31 rfl) ?_
  refine xg_t (xg_iload (va := (0, 1)) rfl rfl) ?_
  refine xg_ialdB (n := 1) (B := 4294967295) h85_37 (hb38) xnm0 (by first | decide | omega) (fun u45 hu46 he47 => ?_)
  have hK48 : rwv w 85 1 = u45 := (rwv_of h85_37 (by decide)).trans he47
  have hm49 := hmb 1 (by decide)
  have hl50 : u45 ≤ 1000 := by omega
  refine xg_t (xg_istore (l1 := [(2, (0, at_)), (1, (0, 1)), (0, (2, 82))]) rfl rfl rfl) ?_
  refine xg_t (xg_iload (va := (0, u45)) rfl rfl) ?_
  refine xg_t (xg_iload (va := (0, 1)) rfl rfl) ?_
  refine xg_t (xg_cSr mX12_mostOf (vs := [(0, 1)]) (rest := [(0, u45)]) (rs := [(0, 4), (0, u45)]) (cn1 := 0) (sl1 := 0) rfl (mMostR1) rfl rfl rfl rfl rfl rfl rfl rfl) ?_
  by_cases hc51 : u45 < 4
  · refine xg_t (xg_icT (u := u45) (v := 4) rfl xnm0 xnm0 (xj_ltT hc51 (by omega))) ?_
    refine xg_t (xg_blq rfl) ?_
    refine xg_t (xg_aload (va := (2, 82)) rfl rfl) ?_
    refine xg_cVv mX12_advance (vs := []) (rest := []) (cn1 := 0) (sl1 := 0) rfl (mAdvance (hI)) rfl h82_31 rfl rfl rfl rfl rfl rfl (fun w52 hq53 => ?_)
    obtain ⟨hI54, hF55, hx56⟩ := hq53
    clear hb2 hb4 hb6 hb8 hb10 hb12 hb14 hb16 hb18 hb20 hb24 hb26 hb28 hb30
    obtain ⟨hv57, hv58, hv59, hv60⟩ := hx56
    have hf62 := FA_fr hF55 (by decide)
    have hs63 := (PK.rf hps).2.2.2.1
    unfold PS at hs63
    have pk61 : PK w w52 := ⟨fun _ => by omega, hv57, hv60, (show fld w52 82 10 = 0 ∨ FA w52 ≠ 0 by omega), K83.fr hF55 (by decide)⟩
    clear hs63
    have pk64 : PK w w52 := PK.tr (PK.rf hps) pk61
    have os65 : ∀ j, (j < 50 + 2 * u45 ∨ 52 + 2 * u45 ≤ j) → j < 140 → rwv w52 86 j = rwv w 86 j := fun j hj hl => (rwv_fr hF55 (by decide)).trans ((fun j _ _ => rfl) j hj hl)
    have mf66 : ∀ s, s < 7 → rwv w52 85 s = rwv w 85 s := fun s hs => (rwv_fr hF55 (by decide)).trans ((fun _ _ => rfl) s hs)
    have ms67 : mu w52 < mu w := Nat.lt_of_lt_of_le (hv58 (by omega)) (PK.rf hps).2.1
    clear hv58
    have jn68 : ∀ (w69 : List (List xE)), xMnv w69 → xFr [82, 83, 85, 86, 87] w w69 → (PK w w69 ∧ (∀ j, (j < 50 + 2 * u45 ∨ 52 + 2 * u45 ≤ j) → j < 140 → rwv w69 86 j = rwv w 86 j) ∧ mu w69 < mu w ∧ (∀ s, s < 7 → rwv w69 85 s = rwv w 85 s) ∧ (FA w69 ≠ 0 ∨ u45 < 4) ∧ (FA w69 ≠ 0 ∨ 4 ≤ u45 ∨ (1 ≤ rwv w69 86 (50 + 2 * u45 + 1) ∧ rwv w69 86 (50 + 2 * u45 + 1) ≤ 999))) → xTo (d + 7) mX12_aLine (394, [], [(0, (2, 82)), (1, (0, 1)), (3, (0, u45))], [], (w69, bd, fc, 0, 0, rr)) (fun φ => ∃ w', xEnd 0 [] (w', bd, fc, 0, 0, rr) φ ∧ xMnv w' ∧ xFr [82, 83, 85, 86, 87] w w' ∧ ((FA w ≠ 0 → FA w' ≠ 0) ∧ PS w' ∧ ((fld w' 82 10 = 1 ∧ mu w' = mu w ∧ fld w' 82 14 = fld w 82 14 ∧ ∀ s, s < 7 → rwv w' 85 s = rwv w 85 s) ∨ (mu w' < mu w ∧ fld w' 82 14 = fld w 82 14 + 1 ∧ ∀ s, s < 7 → rwv w' 85 s ≤ rwv w 85 s + 1)) ∧ (FA w' ≠ 0 ∨ (DATA w → DATA w')) ∧ K83 w w')) := by
      intro w69 hI70 hF71 he72
      obtain ⟨hj73, hj74, hj75, hj76, hj77, hj78⟩ := he72
      refine xg_t (xg_blq rfl) ?_
      refine xg_t (xg_aload (va := (2, 82)) rfl rfl) ?_
      refine xoCh82 (xqc82 hI70 : cp82 (wget w69 82)) (fun f82_79 f82_81 f82_83 f82_85 f82_87 f82_89 f82_91 f82_93 f82_95 f82_97 f82_99 f82_100 f82_101 f82_103 f82_105 f82_107 h82_109 hb80 hb82 hb84 hb86 hb88 hb90 hb92 hb94 hb96 hb98 hb102 hb104 hb106 hb108 hb110 => ?_)
      refine xg_t (xg_getf (va := (0, f82_95)) h82_109 rfl) ?_
      by_cases hc111 : f82_95 = 0
      · refine xg_t (xg_ifF (u := f82_95) rfl xnm0 (xj_neF hc111)) ?_
        refine xg_t (xg_aload (va := (2, 82)) rfl rfl) ?_
        refine xg_t (xg_getf (va := (0, f82_89)) h82_109 rfl) ?_
        refine xg_t (xg_const) ?_
        by_cases hc112 : f82_89 = 2
        · refine xg_t (xg_icF (u := f82_89) (v := 2) rfl xnm0 xnm0 (xj_neF hc112)) ?_
          refine xg_t (xg_aload (va := (2, 82)) rfl rfl) ?_
          refine xg_cVv mX12_advance (vs := []) (rest := []) (cn1 := 0) (sl1 := 0) rfl (mAdvance (hI70)) rfl h82_109 rfl rfl rfl rfl rfl rfl (fun w113 hq114 => ?_)
          obtain ⟨hI115, hF116, hx117⟩ := hq114
          clear hb80 hb82 hb84 hb86 hb88 hb90 hb92 hb94 hb96 hb98 hb102 hb104 hb106 hb108
          obtain ⟨hv118, hv119, hv120, hv121⟩ := hx117
          have hf123 := FA_fr hF116 (by decide)
          have hs124 := hj73.2.2.2.1
          unfold PS at hs124
          have pk122 : PK w69 w113 := ⟨fun _ => by omega, hv118, hv121, (show fld w113 82 10 = 0 ∨ FA w113 ≠ 0 by omega), K83.fr hF116 (by decide)⟩
          clear hs124
          clear hv119
          have pk125 : PK w w113 := PK.tr hj73 pk122
          have os126 : ∀ j, (j < 50 + 2 * u45 ∨ 52 + 2 * u45 ≤ j) → j < 140 → rwv w113 86 j = rwv w 86 j := fun j hj hl => (rwv_fr hF116 (by decide)).trans (hj74 j hj hl)
          have rg127 : FA w113 ≠ 0 ∨ u45 < 4 := hj77.imp_left pk122.1
          have mf128 : ∀ s, s < 7 → rwv w113 85 s = rwv w 85 s := fun s hs => (rwv_fr hF116 (by decide)).trans (hj76 s hs)
          have hl129 : rwv w113 86 (50 + 2 * u45 + 1) = rwv w69 86 (50 + 2 * u45 + 1) := rwv_fr hF116 (by decide)
          have nw130 : FA w113 ≠ 0 ∨ 4 ≤ u45 ∨ (1 ≤ rwv w113 86 (50 + 2 * u45 + 1) ∧ rwv w113 86 (50 + 2 * u45 + 1) ≤ 999) := by have q := hj78; have q1 := pk122.1; omega
          clear hj78
          have ms131 : mu w113 < mu w := Nat.lt_of_le_of_lt pk122.2.1 hj75
          clear hj77
          refine xg_t (xg_goto) ?_
          refine xg_t (xg_blq rfl) ?_
          refine xoCh82 (xqc82 hI115 : cp82 (wget w113 82)) (fun f82_132 f82_134 f82_136 f82_138 f82_140 f82_142 f82_144 f82_146 f82_148 f82_150 f82_152 f82_153 f82_154 f82_156 f82_158 f82_160 h82_162 hb133 hb135 hb137 hb139 hb141 hb143 hb145 hb147 hb149 hb151 hb155 hb157 hb159 hb161 hb163 => ?_)
          have hf164 : fld w113 82 4 = f82_136 := fld_of h82_162
          have hf165 : fld w113 82 5 = f82_138 := fld_of h82_162
          have hf166 : fld w113 82 7 = f82_142 := fld_of h82_162
          have hf167 : fld w113 82 10 = f82_148 := fld_of h82_162
          have hf168 : fld w113 82 14 = f82_150 := fld_of h82_162
          have hu169 : mu w113 = 2 * (fld w113 82 4 - fld w113 82 5) + min 1 (fld w113 82 7) := rfl
          have hf170 := pk125.2.2.1
          have hl171 : f82_150 ≤ 1000 := by omega
          refine xg_t (xg_aload (va := (2, 82)) rfl rfl) ?_
          refine xg_t (xg_getf (va := (2, 85)) h82_162 rfl) ?_
          refine xg_t (xg_iload (va := (0, 1)) rfl rfl) ?_
          refine xg_t (xg_dup2 rfl) ?_
          refine xoI (xqc85 hI115 : cpI 7 52 4294967295 (wget w113 85)) (fun g85_172 h85_173 hb174 => ?_)
          refine xg_ialdB (n := 1) (B := 4294967295) h85_173 (hb174) xnm0 (by first | decide | omega) (fun u175 hu176 he177 => ?_)
          have hl178 : u175 = u45 := by have q1 := rwv_of h85_173 (show 1 < 7 by decide); have q2 := mf128 1 (by decide); omega
          refine xg_t (xg_const) ?_
          refine xg_t (xg_iadd (u := u175) (v := 1) (z := u175 + 1) xnm0 xnm0 (by omega)) ?_
          refine xg_iastK (n := 1) (u := u175 + 1) h85_173 xnm0 xnm0 rfl (by first | decide | omega) (fun w179 hr180 hb181 => ?_)
          refine xg_t (xg_aload (va := (2, 82)) rfl rfl) ?_
          refine xg_t (xg_dup rfl) ?_
          refine xg_t (xg_getf (va := (0, f82_150)) (hb181.get (by decide) h82_162) rfl) ?_
          have hn182 := id hb151
          unfold xHid at hn182
          refine xg_t (xg_const) ?_
          refine xg_t (xg_iadd (u := f82_150) (v := 1) (z := f82_150 + 1) xnm0 xnm0 (by omega)) ?_
          refine xg_putI (fl1 := [(2, 83), (2, 84), (0, f82_132), (0, f82_134), (0, f82_136), (0, f82_138), (0, f82_140), (0, f82_142), (0, f82_144), (0, f82_146), (0, f82_148), (2, 85), (2, 86), (2, 87), (0, f82_150 + 1), (2, 88), (2, 89), (2, 90), (2, 91), (2, 92), (2, 93), (2, 94), (4, f82_152), (4, f82_153), (0, f82_154), (2, 95), (2, 96), (2, 97), (2, 98), (2, 99), (2, 100), (2, 101), (2, 102), (0, f82_156), (2, 103), (2, 104), (2, 105), (2, 106), (2, 107), (2, 108), (2, 109), (0, f82_158), (0, f82_160), (2, 110), (2, 111), (2, 112), (2, 113)]) (hb181.get (by decide) h82_162) rfl rfl rfl (fun w183 hk184 hb185 => ?_)
          have hF186 : xFr [82, 85] w113 w183 := ((xFr.of (S := [82, 85]) hb181 (by decide)).tr (xFr.of (S := [82, 85]) hb185 (by decide)))
          have hA187 := FA_fr hF186 (by decide)
          have hf188 : fld w183 82 4 = f82_136 := fld_of hk184
          have hf189 : fld w183 82 5 = f82_138 := fld_of hk184
          have hf190 : fld w183 82 7 = f82_142 := fld_of hk184
          have hf191 : fld w183 82 10 = f82_148 := fld_of hk184
          have hf192 : fld w183 82 14 = f82_150 + 1 := fld_of hk184
          have hu193 : mu w183 = 2 * (fld w183 82 4 - fld w183 82 5) + min 1 (fld w183 82 7) := rfl
          have pq194 := pk125
          unfold PK PS at pq194
          have hM195 : ∀ s, s < 7 → s ≠ 1 → rwv w183 85 s = rwv w 85 s := fun s hs hn => (rwv_of (hr180.but hb185 (by decide)) hs).trans ((if_neg hn).trans ((rwv_of h85_173 hs).symm.trans (mf128 s hs)))
          have hM196 : rwv w183 85 1 = u45 + 1 := (rwv_of (hr180.but hb185 (by decide)) (by decide)).trans ((if_pos rfl).trans (by omega))
          have hM197 : ∀ s, s < 7 → rwv w183 85 s ≤ rwv w 85 s + 1 := fun s hs => by
            by_cases z : s = 1
            · subst z; omega
            · rw [hM195 s hs z]; omega
          have hO198 : ∀ j, (j < 50 + 2 * u45 ∨ 52 + 2 * u45 ≤ j) → j < 140 → rwv w183 86 j = rwv w 86 j := fun j hj hl => (rwv_fr hF186 (by decide)).trans (os126 j hj hl)
          have hl200 : FA w113 ≠ 0 ∨ u45 < 4 := rg127
          have hl201 : rwv w183 86 (50 + 2 * u45 + 1) = rwv w113 86 (50 + 2 * u45 + 1) := rwv_fr hF186 (by decide)
          have hN199 : FA w183 ≠ 0 ∨ 4 ≤ u45 ∨ (1 ≤ rwv w183 86 (50 + 2 * u45 + 1) ∧ rwv w183 86 (50 + 2 * u45 + 1) ≤ 999) := by have q := nw130; omega
          have hX202 : FA w183 ≠ 0 ∨ u45 < 4 := by omega
          have hD203 : FA w183 ≠ 0 ∨ (DATA w → DATA w183) := by
            by_cases z : FA w183 ≠ 0
            · exact Or.inl z
            · exact Or.inr (fun hd => hd.s1 hM195 hK48 hM196 (hX202.resolve_left z) hO198 ((hN199.resolve_left z).resolve_left (by have := hX202.resolve_left z; omega)))
          exact xg_e ⟨w183, ⟨rfl, rfl⟩, xMnv.up (S := [85, 82]) hI115 ((xFr.of (S := [85, 82]) hb181 (by decide)).tr (xFr.of (S := [85, 82]) hb185 (by decide))) (List.forall_mem_cons.mpr ⟨xqu85 (show cpI 7 52 4294967295 (wget w183 85) from ⟨_, (hr180.but hb185 (by decide)), xrb (by omega) (hb174)⟩), List.forall_mem_cons.mpr ⟨xqu82 (show cp82 (wget w183 82) from xmC82 f82_132 f82_134 f82_136 f82_138 f82_140 f82_142 f82_144 f82_146 f82_148 (f82_150 + 1) f82_152 f82_153 f82_154 f82_156 f82_158 f82_160 hk184 hb133 hb135 hb137 hb139 hb141 hb143 hb145 hb147 hb149 (by omega) hb155 hb157 hb159 hb161 (by omega)), fun _ h => absurd h List.not_mem_nil⟩⟩), ((hF71.tr (hF116.up (by decide))).tr ((xFr.of (S := [82, 83, 85, 86, 87]) hb181 (by decide)).tr (xFr.of (S := [82, 83, 85, 86, 87]) hb185 (by decide)))), ⟨fun h => by have := pq194.1 h; omega, (show fld w183 82 10 = 0 ∨ FA w183 ≠ 0 by omega), Or.inr ⟨by have := ms131; omega, by omega, hM197⟩, hD203, pk125.2.2.2.2.tr (K83.fr hF186 (by decide))⟩⟩
        · refine xg_t (xg_icT (u := f82_89) (v := 2) rfl xnm0 xnm0 (xj_neT hc112)) ?_
          refine xg_t (xg_blq rfl) ?_
          refine xg_t (xg_aload (va := (2, 82)) rfl rfl) ?_
          refine xg_cVv mX12_ends (vs := []) (rest := []) (cn1 := 0) (sl1 := 0) rfl (mEnds (hI70) hj73.2.2.2.1) rfl h82_109 rfl rfl rfl rfl rfl rfl (fun w204 hq205 => ?_)
          obtain ⟨hI206, hF207, hx208⟩ := hq205
          clear hb80 hb82 hb84 hb86 hb88 hb90 hb92 hb94 hb96 hb98 hb102 hb104 hb106 hb108
          obtain ⟨hv209, hv210, hv211, hv212, hv213⟩ := hx208
          have pk214 : PK w69 w204 := ⟨fun _ => hv209, by omega, by omega, Or.inr hv209, hv213⟩
          have pk215 : PK w w204 := PK.tr hj73 pk214
          have os216 : ∀ j, (j < 50 + 2 * u45 ∨ 52 + 2 * u45 ≤ j) → j < 140 → rwv w204 86 j = rwv w 86 j := fun j hj hl => (rwv_fr hF207 (by decide)).trans (hj74 j hj hl)
          have rg217 : FA w204 ≠ 0 ∨ u45 < 4 := hj77.imp_left pk214.1
          have mf218 : ∀ s, s < 7 → rwv w204 85 s = rwv w 85 s := fun s hs => (rwv_fr hF207 (by decide)).trans (hj76 s hs)
          have hl219 : rwv w204 86 (50 + 2 * u45 + 1) = rwv w69 86 (50 + 2 * u45 + 1) := rwv_fr hF207 (by decide)
          have nw220 : FA w204 ≠ 0 ∨ 4 ≤ u45 ∨ (1 ≤ rwv w204 86 (50 + 2 * u45 + 1) ∧ rwv w204 86 (50 + 2 * u45 + 1) ≤ 999) := by have q := hj78; have q1 := pk214.1; omega
          clear hj78
          have ms221 : mu w204 < mu w := Nat.lt_of_le_of_lt pk214.2.1 hj75
          clear hj77
          refine xg_t (xg_blq rfl) ?_
          refine xoCh82 (xqc82 hI206 : cp82 (wget w204 82)) (fun f82_222 f82_224 f82_226 f82_228 f82_230 f82_232 f82_234 f82_236 f82_238 f82_240 f82_242 f82_243 f82_244 f82_246 f82_248 f82_250 h82_252 hb223 hb225 hb227 hb229 hb231 hb233 hb235 hb237 hb239 hb241 hb245 hb247 hb249 hb251 hb253 => ?_)
          have hf254 : fld w204 82 4 = f82_226 := fld_of h82_252
          have hf255 : fld w204 82 5 = f82_228 := fld_of h82_252
          have hf256 : fld w204 82 7 = f82_232 := fld_of h82_252
          have hf257 : fld w204 82 10 = f82_238 := fld_of h82_252
          have hf258 : fld w204 82 14 = f82_240 := fld_of h82_252
          have hu259 : mu w204 = 2 * (fld w204 82 4 - fld w204 82 5) + min 1 (fld w204 82 7) := rfl
          have hf260 := pk215.2.2.1
          have hl261 : f82_240 ≤ 1000 := by omega
          refine xg_t (xg_aload (va := (2, 82)) rfl rfl) ?_
          refine xg_t (xg_getf (va := (2, 85)) h82_252 rfl) ?_
          refine xg_t (xg_iload (va := (0, 1)) rfl rfl) ?_
          refine xg_t (xg_dup2 rfl) ?_
          refine xoI (xqc85 hI206 : cpI 7 52 4294967295 (wget w204 85)) (fun g85_262 h85_263 hb264 => ?_)
          refine xg_ialdB (n := 1) (B := 4294967295) h85_263 (hb264) xnm0 (by first | decide | omega) (fun u265 hu266 he267 => ?_)
          have hl268 : u265 = u45 := by have q1 := rwv_of h85_263 (show 1 < 7 by decide); have q2 := mf218 1 (by decide); omega
          refine xg_t (xg_const) ?_
          refine xg_t (xg_iadd (u := u265) (v := 1) (z := u265 + 1) xnm0 xnm0 (by omega)) ?_
          refine xg_iastK (n := 1) (u := u265 + 1) h85_263 xnm0 xnm0 rfl (by first | decide | omega) (fun w269 hr270 hb271 => ?_)
          refine xg_t (xg_aload (va := (2, 82)) rfl rfl) ?_
          refine xg_t (xg_dup rfl) ?_
          refine xg_t (xg_getf (va := (0, f82_240)) (hb271.get (by decide) h82_252) rfl) ?_
          have hn272 := id hb241
          unfold xHid at hn272
          refine xg_t (xg_const) ?_
          refine xg_t (xg_iadd (u := f82_240) (v := 1) (z := f82_240 + 1) xnm0 xnm0 (by omega)) ?_
          refine xg_putI (fl1 := [(2, 83), (2, 84), (0, f82_222), (0, f82_224), (0, f82_226), (0, f82_228), (0, f82_230), (0, f82_232), (0, f82_234), (0, f82_236), (0, f82_238), (2, 85), (2, 86), (2, 87), (0, f82_240 + 1), (2, 88), (2, 89), (2, 90), (2, 91), (2, 92), (2, 93), (2, 94), (4, f82_242), (4, f82_243), (0, f82_244), (2, 95), (2, 96), (2, 97), (2, 98), (2, 99), (2, 100), (2, 101), (2, 102), (0, f82_246), (2, 103), (2, 104), (2, 105), (2, 106), (2, 107), (2, 108), (2, 109), (0, f82_248), (0, f82_250), (2, 110), (2, 111), (2, 112), (2, 113)]) (hb271.get (by decide) h82_252) rfl rfl rfl (fun w273 hk274 hb275 => ?_)
          have hF276 : xFr [82, 85] w204 w273 := ((xFr.of (S := [82, 85]) hb271 (by decide)).tr (xFr.of (S := [82, 85]) hb275 (by decide)))
          have hA277 := FA_fr hF276 (by decide)
          have hf278 : fld w273 82 4 = f82_226 := fld_of hk274
          have hf279 : fld w273 82 5 = f82_228 := fld_of hk274
          have hf280 : fld w273 82 7 = f82_232 := fld_of hk274
          have hf281 : fld w273 82 10 = f82_238 := fld_of hk274
          have hf282 : fld w273 82 14 = f82_240 + 1 := fld_of hk274
          have hu283 : mu w273 = 2 * (fld w273 82 4 - fld w273 82 5) + min 1 (fld w273 82 7) := rfl
          have pq284 := pk215
          unfold PK PS at pq284
          have hM285 : ∀ s, s < 7 → s ≠ 1 → rwv w273 85 s = rwv w 85 s := fun s hs hn => (rwv_of (hr270.but hb275 (by decide)) hs).trans ((if_neg hn).trans ((rwv_of h85_263 hs).symm.trans (mf218 s hs)))
          have hM286 : rwv w273 85 1 = u45 + 1 := (rwv_of (hr270.but hb275 (by decide)) (by decide)).trans ((if_pos rfl).trans (by omega))
          have hM287 : ∀ s, s < 7 → rwv w273 85 s ≤ rwv w 85 s + 1 := fun s hs => by
            by_cases z : s = 1
            · subst z; omega
            · rw [hM285 s hs z]; omega
          have hO288 : ∀ j, (j < 50 + 2 * u45 ∨ 52 + 2 * u45 ≤ j) → j < 140 → rwv w273 86 j = rwv w 86 j := fun j hj hl => (rwv_fr hF276 (by decide)).trans (os216 j hj hl)
          have hl290 : FA w204 ≠ 0 ∨ u45 < 4 := rg217
          have hl291 : rwv w273 86 (50 + 2 * u45 + 1) = rwv w204 86 (50 + 2 * u45 + 1) := rwv_fr hF276 (by decide)
          have hN289 : FA w273 ≠ 0 ∨ 4 ≤ u45 ∨ (1 ≤ rwv w273 86 (50 + 2 * u45 + 1) ∧ rwv w273 86 (50 + 2 * u45 + 1) ≤ 999) := by have q := nw220; omega
          have hX292 : FA w273 ≠ 0 ∨ u45 < 4 := by omega
          have hD293 : FA w273 ≠ 0 ∨ (DATA w → DATA w273) := by
            by_cases z : FA w273 ≠ 0
            · exact Or.inl z
            · exact Or.inr (fun hd => hd.s1 hM285 hK48 hM286 (hX292.resolve_left z) hO288 ((hN289.resolve_left z).resolve_left (by have := hX292.resolve_left z; omega)))
          exact xg_e ⟨w273, ⟨rfl, rfl⟩, xMnv.up (S := [85, 82]) hI206 ((xFr.of (S := [85, 82]) hb271 (by decide)).tr (xFr.of (S := [85, 82]) hb275 (by decide))) (List.forall_mem_cons.mpr ⟨xqu85 (show cpI 7 52 4294967295 (wget w273 85) from ⟨_, (hr270.but hb275 (by decide)), xrb (by omega) (hb264)⟩), List.forall_mem_cons.mpr ⟨xqu82 (show cp82 (wget w273 82) from xmC82 f82_222 f82_224 f82_226 f82_228 f82_230 f82_232 f82_234 f82_236 f82_238 (f82_240 + 1) f82_242 f82_243 f82_244 f82_246 f82_248 f82_250 hk274 hb223 hb225 hb227 hb229 hb231 hb233 hb235 hb237 hb239 (by omega) hb245 hb247 hb249 hb251 (by omega)), fun _ h => absurd h List.not_mem_nil⟩⟩), ((hF71.tr (hF207.up (by decide))).tr ((xFr.of (S := [82, 83, 85, 86, 87]) hb271 (by decide)).tr (xFr.of (S := [82, 83, 85, 86, 87]) hb275 (by decide)))), ⟨fun h => by have := pq284.1 h; omega, (show fld w273 82 10 = 0 ∨ FA w273 ≠ 0 by omega), Or.inr ⟨by have := ms221; omega, by omega, hM287⟩, hD293, pk215.2.2.2.2.tr (K83.fr hF276 (by decide))⟩⟩
      · refine xg_t (xg_ifT (u := f82_95) rfl xnm0 (xj_neT hc111)) ?_
        refine xg_t (xg_blq rfl) ?_
        refine xg_t (xg_aload (va := (2, 82)) rfl rfl) ?_
        refine xg_cVv mX12_ends (vs := []) (rest := []) (cn1 := 0) (sl1 := 0) rfl (mEnds (hI70) hj73.2.2.2.1) rfl h82_109 rfl rfl rfl rfl rfl rfl (fun w294 hq295 => ?_)
        obtain ⟨hI296, hF297, hx298⟩ := hq295
        clear hb80 hb82 hb84 hb86 hb88 hb90 hb92 hb94 hb96 hb98 hb102 hb104 hb106 hb108
        obtain ⟨hv299, hv300, hv301, hv302, hv303⟩ := hx298
        have pk304 : PK w69 w294 := ⟨fun _ => hv299, by omega, by omega, Or.inr hv299, hv303⟩
        have pk305 : PK w w294 := PK.tr hj73 pk304
        have os306 : ∀ j, (j < 50 + 2 * u45 ∨ 52 + 2 * u45 ≤ j) → j < 140 → rwv w294 86 j = rwv w 86 j := fun j hj hl => (rwv_fr hF297 (by decide)).trans (hj74 j hj hl)
        have rg307 : FA w294 ≠ 0 ∨ u45 < 4 := hj77.imp_left pk304.1
        have mf308 : ∀ s, s < 7 → rwv w294 85 s = rwv w 85 s := fun s hs => (rwv_fr hF297 (by decide)).trans (hj76 s hs)
        have hl309 : rwv w294 86 (50 + 2 * u45 + 1) = rwv w69 86 (50 + 2 * u45 + 1) := rwv_fr hF297 (by decide)
        have nw310 : FA w294 ≠ 0 ∨ 4 ≤ u45 ∨ (1 ≤ rwv w294 86 (50 + 2 * u45 + 1) ∧ rwv w294 86 (50 + 2 * u45 + 1) ≤ 999) := by have q := hj78; have q1 := pk304.1; omega
        clear hj78
        have ms311 : mu w294 < mu w := Nat.lt_of_le_of_lt pk304.2.1 hj75
        clear hj77
        refine xg_t (xg_blq rfl) ?_
        refine xoCh82 (xqc82 hI296 : cp82 (wget w294 82)) (fun f82_312 f82_314 f82_316 f82_318 f82_320 f82_322 f82_324 f82_326 f82_328 f82_330 f82_332 f82_333 f82_334 f82_336 f82_338 f82_340 h82_342 hb313 hb315 hb317 hb319 hb321 hb323 hb325 hb327 hb329 hb331 hb335 hb337 hb339 hb341 hb343 => ?_)
        have hf344 : fld w294 82 4 = f82_316 := fld_of h82_342
        have hf345 : fld w294 82 5 = f82_318 := fld_of h82_342
        have hf346 : fld w294 82 7 = f82_322 := fld_of h82_342
        have hf347 : fld w294 82 10 = f82_328 := fld_of h82_342
        have hf348 : fld w294 82 14 = f82_330 := fld_of h82_342
        have hu349 : mu w294 = 2 * (fld w294 82 4 - fld w294 82 5) + min 1 (fld w294 82 7) := rfl
        have hf350 := pk305.2.2.1
        have hl351 : f82_330 ≤ 1000 := by omega
        refine xg_t (xg_aload (va := (2, 82)) rfl rfl) ?_
        refine xg_t (xg_getf (va := (2, 85)) h82_342 rfl) ?_
        refine xg_t (xg_iload (va := (0, 1)) rfl rfl) ?_
        refine xg_t (xg_dup2 rfl) ?_
        refine xoI (xqc85 hI296 : cpI 7 52 4294967295 (wget w294 85)) (fun g85_352 h85_353 hb354 => ?_)
        refine xg_ialdB (n := 1) (B := 4294967295) h85_353 (hb354) xnm0 (by first | decide | omega) (fun u355 hu356 he357 => ?_)
        have hl358 : u355 = u45 := by have q1 := rwv_of h85_353 (show 1 < 7 by decide); have q2 := mf308 1 (by decide); omega
        refine xg_t (xg_const) ?_
        refine xg_t (xg_iadd (u := u355) (v := 1) (z := u355 + 1) xnm0 xnm0 (by omega)) ?_
        refine xg_iastK (n := 1) (u := u355 + 1) h85_353 xnm0 xnm0 rfl (by first | decide | omega) (fun w359 hr360 hb361 => ?_)
        refine xg_t (xg_aload (va := (2, 82)) rfl rfl) ?_
        refine xg_t (xg_dup rfl) ?_
        refine xg_t (xg_getf (va := (0, f82_330)) (hb361.get (by decide) h82_342) rfl) ?_
        have hn362 := id hb331
        unfold xHid at hn362
        refine xg_t (xg_const) ?_
        refine xg_t (xg_iadd (u := f82_330) (v := 1) (z := f82_330 + 1) xnm0 xnm0 (by omega)) ?_
        refine xg_putI (fl1 := [(2, 83), (2, 84), (0, f82_312), (0, f82_314), (0, f82_316), (0, f82_318), (0, f82_320), (0, f82_322), (0, f82_324), (0, f82_326), (0, f82_328), (2, 85), (2, 86), (2, 87), (0, f82_330 + 1), (2, 88), (2, 89), (2, 90), (2, 91), (2, 92), (2, 93), (2, 94), (4, f82_332), (4, f82_333), (0, f82_334), (2, 95), (2, 96), (2, 97), (2, 98), (2, 99), (2, 100), (2, 101), (2, 102), (0, f82_336), (2, 103), (2, 104), (2, 105), (2, 106), (2, 107), (2, 108), (2, 109), (0, f82_338), (0, f82_340), (2, 110), (2, 111), (2, 112), (2, 113)]) (hb361.get (by decide) h82_342) rfl rfl rfl (fun w363 hk364 hb365 => ?_)
        have hF366 : xFr [82, 85] w294 w363 := ((xFr.of (S := [82, 85]) hb361 (by decide)).tr (xFr.of (S := [82, 85]) hb365 (by decide)))
        have hA367 := FA_fr hF366 (by decide)
        have hf368 : fld w363 82 4 = f82_316 := fld_of hk364
        have hf369 : fld w363 82 5 = f82_318 := fld_of hk364
        have hf370 : fld w363 82 7 = f82_322 := fld_of hk364
        have hf371 : fld w363 82 10 = f82_328 := fld_of hk364
        have hf372 : fld w363 82 14 = f82_330 + 1 := fld_of hk364
        have hu373 : mu w363 = 2 * (fld w363 82 4 - fld w363 82 5) + min 1 (fld w363 82 7) := rfl
        have pq374 := pk305
        unfold PK PS at pq374
        have hM375 : ∀ s, s < 7 → s ≠ 1 → rwv w363 85 s = rwv w 85 s := fun s hs hn => (rwv_of (hr360.but hb365 (by decide)) hs).trans ((if_neg hn).trans ((rwv_of h85_353 hs).symm.trans (mf308 s hs)))
        have hM376 : rwv w363 85 1 = u45 + 1 := (rwv_of (hr360.but hb365 (by decide)) (by decide)).trans ((if_pos rfl).trans (by omega))
        have hM377 : ∀ s, s < 7 → rwv w363 85 s ≤ rwv w 85 s + 1 := fun s hs => by
          by_cases z : s = 1
          · subst z; omega
          · rw [hM375 s hs z]; omega
        have hO378 : ∀ j, (j < 50 + 2 * u45 ∨ 52 + 2 * u45 ≤ j) → j < 140 → rwv w363 86 j = rwv w 86 j := fun j hj hl => (rwv_fr hF366 (by decide)).trans (os306 j hj hl)
        have hl380 : FA w294 ≠ 0 ∨ u45 < 4 := rg307
        have hl381 : rwv w363 86 (50 + 2 * u45 + 1) = rwv w294 86 (50 + 2 * u45 + 1) := rwv_fr hF366 (by decide)
        have hN379 : FA w363 ≠ 0 ∨ 4 ≤ u45 ∨ (1 ≤ rwv w363 86 (50 + 2 * u45 + 1) ∧ rwv w363 86 (50 + 2 * u45 + 1) ≤ 999) := by have q := nw310; omega
        have hX382 : FA w363 ≠ 0 ∨ u45 < 4 := by omega
        have hD383 : FA w363 ≠ 0 ∨ (DATA w → DATA w363) := by
          by_cases z : FA w363 ≠ 0
          · exact Or.inl z
          · exact Or.inr (fun hd => hd.s1 hM375 hK48 hM376 (hX382.resolve_left z) hO378 ((hN379.resolve_left z).resolve_left (by have := hX382.resolve_left z; omega)))
        exact xg_e ⟨w363, ⟨rfl, rfl⟩, xMnv.up (S := [85, 82]) hI296 ((xFr.of (S := [85, 82]) hb361 (by decide)).tr (xFr.of (S := [85, 82]) hb365 (by decide))) (List.forall_mem_cons.mpr ⟨xqu85 (show cpI 7 52 4294967295 (wget w363 85) from ⟨_, (hr360.but hb365 (by decide)), xrb (by omega) (hb354)⟩), List.forall_mem_cons.mpr ⟨xqu82 (show cp82 (wget w363 82) from xmC82 f82_312 f82_314 f82_316 f82_318 f82_320 f82_322 f82_324 f82_326 f82_328 (f82_330 + 1) f82_332 f82_333 f82_334 f82_336 f82_338 f82_340 hk364 hb313 hb315 hb317 hb319 hb321 hb323 hb325 hb327 hb329 (by omega) hb335 hb337 hb339 hb341 (by omega)), fun _ h => absurd h List.not_mem_nil⟩⟩), ((hF71.tr (hF297.up (by decide))).tr ((xFr.of (S := [82, 83, 85, 86, 87]) hb361 (by decide)).tr (xFr.of (S := [82, 83, 85, 86, 87]) hb365 (by decide)))), ⟨fun h => by have := pq374.1 h; omega, (show fld w363 82 10 = 0 ∨ FA w363 ≠ 0 by omega), Or.inr ⟨by have := ms311; omega, by omega, hM377⟩, hD383, pk305.2.2.2.2.tr (K83.fr hF366 (by decide))⟩⟩
    refine xg_t (xg_iload (va := (0, 1)) rfl rfl) ?_
    refine xg_t (xg_swt (ks := [(0, 108), (1, 116), (2, 180), (3, 221), (4, 273), (5, 326)]) (u := 1) (z := 116) rfl rfl rfl xnm0 (xsw_n (by omega) (xsw_y rfl))) ?_
    refine xg_t (xg_blq rfl) ?_
    refine xg_t (xg_aload (va := (2, 82)) rfl rfl) ?_
    refine xg_t (xg_const) ?_
    refine xg_t (xg_bip) ?_
    refine xoCh82 (xqc82 hI54 : cp82 (wget w52 82)) (fun f82_384 f82_386 f82_388 f82_390 f82_392 f82_394 f82_396 f82_398 f82_400 f82_402 f82_404 f82_405 f82_406 f82_408 f82_410 f82_412 h82_414 hb385 hb387 hb389 hb391 hb393 hb395 hb397 hb399 hb401 hb403 hb407 hb409 hb411 hb413 hb415 => ?_)
    refine xg_cVi mX12_numbered (vs := [(0, 0), (0, 99)]) (rest := []) (cn1 := 0) (sl1 := 0) rfl (mNumbered (hI54) (by omega) (by omega) pk64.2.2.2.1) rfl h82_414 rfl rfl rfl rfl rfl rfl (fun n420 w416 hq417 => ?_)
    obtain ⟨hn421, hI418, hF419⟩ := hq417
    clear hb385 hb387 hb389 hb391 hb393 hb395 hb397 hb399 hb401 hb403 hb407 hb409 hb411 hb413
    obtain ⟨hn422, hn423, hn424⟩ := hn421
    have pk425 : PK w w416 := PK.tr pk64 hn423
    have os426 : ∀ j, (j < 50 + 2 * u45 ∨ 52 + 2 * u45 ≤ j) → j < 140 → rwv w416 86 j = rwv w 86 j := fun j hj hl => (rwv_fr hF419 (by decide)).trans (os65 j hj hl)
    have mf427 : ∀ s, s < 7 → rwv w416 85 s = rwv w 85 s := fun s hs => (rwv_fr hF419 (by decide)).trans (mf66 s hs)
    have ms428 : mu w416 < mu w := Nat.lt_of_le_of_lt hn423.2.1 ms67
    refine xg_t (xg_istore (l1 := [(3, (0, u45)), (2, (0, at_)), (1, (0, 1)), (0, (2, 82))]) rfl rfl rfl) ?_
    refine xg_t (xg_aload (va := (2, 82)) rfl rfl) ?_
    refine xg_t (xg_iload (va := (0, n420)) rfl rfl) ?_
    refine xg_t (xg_iload (va := (0, u45)) rfl rfl) ?_
    refine xoCh82 (xqc82 hI418 : cp82 (wget w416 82)) (fun f82_429 f82_431 f82_433 f82_435 f82_437 f82_439 f82_441 f82_443 f82_445 f82_447 f82_449 f82_450 f82_451 f82_453 f82_455 f82_457 h82_459 hb430 hb432 hb434 hb436 hb438 hb440 hb442 hb444 hb446 hb448 hb452 hb454 hb456 hb458 hb460 => ?_)
    refine xg_cVi mX12_isLifeTold (vs := [(0, n420), (0, u45)]) (rest := []) (cn1 := 0) (sl1 := 0) rfl (mLifeTold (hI418) (by omega) (by omega)) rfl h82_459 rfl rfl rfl rfl rfl rfl (fun n465 w461 hq462 => ?_)
    obtain ⟨hn466, hI463, hF464⟩ := hq462
    have pk467 : PK w w461 := PK.tr pk425 (PK.fr hF464 (by decide) (by decide) pk425.2.2.2.1)
    have os468 : ∀ j, (j < 50 + 2 * u45 ∨ 52 + 2 * u45 ≤ j) → j < 140 → rwv w461 86 j = rwv w 86 j := fun j hj hl => (rwv_fr hF464 (by decide)).trans (os426 j hj hl)
    have rg469 : FA w461 ≠ 0 ∨ (0 ≤ n420 ∧ n420 ≤ 99) := hn424.imp_left (PK.fr hF464 (by decide) (by decide) pk425.2.2.2.1).1
    have mf470 : ∀ s, s < 7 → rwv w461 85 s = rwv w 85 s := fun s hs => (rwv_fr hF464 (by decide)).trans (mf427 s hs)
    have ms471 : mu w461 < mu w := Nat.lt_of_le_of_lt (PK.fr hF464 (by decide) (by decide) pk425.2.2.2.1).2.1 ms428
    clear hn424
    by_cases hc472 : n465 = 0
    · refine xg_t (xg_ifT (u := n465) rfl xnm0 (xj_eqT hc472)) ?_
      refine xg_t (xg_blq rfl) ?_
      refine xg_t (xg_aload (va := (2, 82)) rfl rfl) ?_
      refine xg_t (xg_iload (va := (0, 1)) rfl rfl) ?_
      refine xg_t (xg_iload (va := (0, u45)) rfl rfl) ?_
      refine xg_t (xg_bip) ?_
      refine xg_t (xg_const) ?_
      refine xg_t (xg_iload (va := (0, u45)) rfl rfl) ?_
      refine xg_t (xg_imul (u := 2) (v := u45) (z := 2 * u45) xnm0 xnm0 (by omega)) ?_
      refine xg_t (xg_iadd (u := 50) (v := 2 * u45) (z := 50 + (2 * u45)) xnm0 xnm0 (by omega)) ?_
      refine xg_t (xg_iload (va := (0, n420)) rfl rfl) ?_
      refine xg_cVv mX12_puts (vs := [(0, 1), (0, u45), (0, 50 + (2 * u45)), (0, n420)]) (rest := []) (cn1 := 0) (sl1 := 0) rfl (mPuts1 (hI463) (by omega) (by omega) (by omega) (fun _ => by omega)) rfl (hF464.get (by decide) h82_459) rfl rfl rfl rfl rfl rfl (fun w473 hq474 => ?_)
      obtain ⟨hI475, hF476, hx477⟩ := hq474
      obtain ⟨hp478, hp479⟩ := hx477
      have pk480 : PK w w473 := PK.tr pk467 (PK.fr hF476 (by decide) (by decide) pk467.2.2.2.1)
      have os481 : ∀ j, (j < 50 + 2 * u45 ∨ 52 + 2 * u45 ≤ j) → j < 140 → rwv w473 86 j = rwv w 86 j := fun j hj hl => (hp479 j (by omega) hl).trans (os468 j hj hl)
      have rg482 : FA w473 ≠ 0 ∨ (0 ≤ n420 ∧ n420 ≤ 99) := rg469.imp_left (PK.fr hF476 (by decide) (by decide) pk467.2.2.2.1).1
      have mf483 : ∀ s, s < 7 → rwv w473 85 s = rwv w 85 s := fun s hs => (rwv_fr hF476 (by decide)).trans (mf470 s hs)
      have ms484 : mu w473 < mu w := Nat.lt_of_le_of_lt (PK.fr hF476 (by decide) (by decide) pk467.2.2.2.1).2.1 ms471
      clear rg469
      refine xg_t (xg_aload (va := (2, 82)) rfl rfl) ?_
      refine xg_t (xg_iload (va := (0, 1)) rfl rfl) ?_
      refine xg_t (xg_iload (va := (0, u45)) rfl rfl) ?_
      refine xg_t (xg_bip) ?_
      refine xg_t (xg_const) ?_
      refine xg_t (xg_iload (va := (0, u45)) rfl rfl) ?_
      refine xg_t (xg_imul (u := 2) (v := u45) (z := 2 * u45) xnm0 xnm0 (by omega)) ?_
      refine xg_t (xg_iadd (u := 50) (v := 2 * u45) (z := 50 + (2 * u45)) xnm0 xnm0 (by omega)) ?_
      refine xg_t (xg_const) ?_
      refine xg_t (xg_iadd (u := 50 + (2 * u45)) (v := 1) (z := (50 + (2 * u45)) + 1) xnm0 xnm0 (by omega)) ?_
      refine xg_t (xg_aload (va := (2, 82)) rfl rfl) ?_
      refine xg_t (xg_const) ?_
      refine xg_t (xg_sip) ?_
      refine xg_cVi mX12_numbered (vs := [(0, 1), (0, 999)]) (rest := [(0, (50 + (2 * u45)) + 1), (0, u45), (0, 1), (2, 82)]) (cn1 := 0) (sl1 := 0) rfl (mNumbered (hI475) (by omega) (by omega) pk480.2.2.2.1) rfl (hF476.get (by decide) (hF464.get (by decide) h82_459)) rfl rfl rfl rfl rfl rfl (fun n489 w485 hq486 => ?_)
      obtain ⟨hn490, hI487, hF488⟩ := hq486
      clear hb430 hb432 hb434 hb436 hb438 hb440 hb442 hb444 hb446 hb448 hb452 hb454 hb456 hb458
      obtain ⟨hn491, hn492, hn493⟩ := hn490
      have pk494 : PK w w485 := PK.tr pk480 hn492
      have os495 : ∀ j, (j < 50 + 2 * u45 ∨ 52 + 2 * u45 ≤ j) → j < 140 → rwv w485 86 j = rwv w 86 j := fun j hj hl => (rwv_fr hF488 (by decide)).trans (os481 j hj hl)
      have ix496 : u45 < 4 → rwv w485 86 (50 + (2 * u45)) = n420 := fun h => (rwv_fr hF488 (by decide)).trans (hp478 h)
      have rg497 : FA w485 ≠ 0 ∨ (0 ≤ n420 ∧ n420 ≤ 99) := rg482.imp_left hn492.1
      have mf498 : ∀ s, s < 7 → rwv w485 85 s = rwv w 85 s := fun s hs => (rwv_fr hF488 (by decide)).trans (mf483 s hs)
      have ms499 : mu w485 < mu w := Nat.lt_of_le_of_lt hn492.2.1 ms484
      clear hp478 rg482
      refine xoCh82 (xqc82 hI487 : cp82 (wget w485 82)) (fun f82_500 f82_502 f82_504 f82_506 f82_508 f82_510 f82_512 f82_514 f82_516 f82_518 f82_520 f82_521 f82_522 f82_524 f82_526 f82_528 h82_530 hb501 hb503 hb505 hb507 hb509 hb511 hb513 hb515 hb517 hb519 hb523 hb525 hb527 hb529 hb531 => ?_)
      refine xg_cVv mX12_puts (vs := [(0, 1), (0, u45), (0, (50 + (2 * u45)) + 1), (0, n489)]) (rest := []) (cn1 := 0) (sl1 := 0) rfl (mPuts1 (hI487) (by omega) (by omega) (by omega) (fun _ => by omega)) rfl h82_530 rfl rfl rfl rfl rfl rfl (fun w532 hq533 => ?_)
      obtain ⟨hI534, hF535, hx536⟩ := hq533
      obtain ⟨hp537, hp538⟩ := hx536
      have pk539 : PK w w532 := PK.tr pk494 (PK.fr hF535 (by decide) (by decide) pk494.2.2.2.1)
      have os540 : ∀ j, (j < 50 + 2 * u45 ∨ 52 + 2 * u45 ≤ j) → j < 140 → rwv w532 86 j = rwv w 86 j := fun j hj hl => (hp538 j (by omega) hl).trans (os495 j hj hl)
      have ix541 : u45 < 4 → rwv w532 86 (50 + (2 * u45)) = n420 := fun h => (hp538 _ (by omega) (by omega)).trans (ix496 h)
      have rg542 : FA w532 ≠ 0 ∨ (0 ≤ n420 ∧ n420 ≤ 99) := rg497.imp_left (PK.fr hF535 (by decide) (by decide) pk494.2.2.2.1).1
      have rg543 : FA w532 ≠ 0 ∨ (1 ≤ n489 ∧ n489 ≤ 999) := hn493.imp_left (PK.fr hF535 (by decide) (by decide) pk494.2.2.2.1).1
      have mf544 : ∀ s, s < 7 → rwv w532 85 s = rwv w 85 s := fun s hs => (rwv_fr hF535 (by decide)).trans (mf498 s hs)
      have ms545 : mu w532 < mu w := Nat.lt_of_le_of_lt (PK.fr hF535 (by decide) (by decide) pk494.2.2.2.1).2.1 ms499
      clear ix496 rg497 hn493
      refine xg_t (xg_goto) ?_
      refine xg_t (xg_drop (l1 := [(0, (2, 82)), (1, (0, 1)), (3, (0, u45))]) (List.forall_mem_cons.mpr ⟨List.mem_cons_of_mem _ (List.mem_cons_of_mem _ (List.mem_cons_of_mem _ (List.mem_cons_of_mem _ (List.mem_cons_self)))), List.forall_mem_cons.mpr ⟨List.mem_cons_of_mem _ (List.mem_cons_of_mem _ (List.mem_cons_of_mem _ (List.mem_cons_self))), List.forall_mem_cons.mpr ⟨List.mem_cons_of_mem _ (List.mem_cons_self), fun _ h => absurd h List.not_mem_nil⟩⟩⟩)) ?_
      have hX546 : FA w532 ≠ 0 ∨ u45 < 4 := Or.inr (by omega)
      have hN547 : FA w532 ≠ 0 ∨ 4 ≤ u45 ∨ (1 ≤ rwv w532 86 (50 + 2 * u45 + 1) ∧ rwv w532 86 (50 + 2 * u45 + 1) ≤ 999) := by
        have hl548 : u45 < 4 → rwv w532 86 (50 + (2 * u45)) = n420 := ix541
        have hl549 : u45 < 4 → rwv w532 86 ((50 + (2 * u45)) + 1) = n489 := hp537
        have hl550 := rg542
        have hl551 := rg543
        omega
      exact jn68 w532 (hI534) (((((((hF55.up (by decide)).tr (hF419.up (by decide))).tr (hF464.up (by decide))).tr (hF476.up (by decide))).tr (hF488.up (by decide))).tr (hF535.up (by decide)))) (⟨pk539, os540, ms545, mf544, hX546, hN547⟩)
    · refine xg_t (xg_ifF (u := n465) rfl xnm0 (xj_eqF hc472)) ?_
      refine xg_t (xg_aload (va := (2, 82)) rfl rfl) ?_
      refine xg_t (xg_const) ?_
      refine xg_t (xg_iload (va := (0, at_)) rfl rfl) ?_
      refine xg_cVv mX12_also (vs := [(0, 3), (0, at_)]) (rest := []) (cn1 := 0) (sl1 := 0) rfl (mAlso (hI463) (by omega) (by omega) (by omega) pk467.2.2.2.1) rfl (hF464.get (by decide) h82_459) rfl rfl rfl rfl rfl rfl (fun w552 hq553 => ?_)
      obtain ⟨hI554, hF555, hx556⟩ := hq553
      obtain ⟨hv558, hv559⟩ := hx556
      have pk557 : PK w461 w552 := ⟨fun _ => hv558, Nat.le_of_eq (mu_fr hF555 (by decide)), fld_fr hF555 (by decide), Or.inr hv558, hv559⟩
      have pk560 : PK w w552 := PK.tr pk467 pk557
      have os561 : ∀ j, (j < 50 + 2 * u45 ∨ 52 + 2 * u45 ≤ j) → j < 140 → rwv w552 86 j = rwv w 86 j := fun j hj hl => (rwv_fr hF555 (by decide)).trans (os468 j hj hl)
      have rg562 : FA w552 ≠ 0 ∨ (0 ≤ n420 ∧ n420 ≤ 99) := rg469.imp_left pk557.1
      have mf563 : ∀ s, s < 7 → rwv w552 85 s = rwv w 85 s := fun s hs => (rwv_fr hF555 (by decide)).trans (mf470 s hs)
      have ms564 : mu w552 < mu w := Nat.lt_of_le_of_lt pk557.2.1 ms471
      clear rg469
      refine xg_t (xg_blq rfl) ?_
      refine xg_t (xg_aload (va := (2, 82)) rfl rfl) ?_
      refine xg_t (xg_iload (va := (0, 1)) rfl rfl) ?_
      refine xg_t (xg_iload (va := (0, u45)) rfl rfl) ?_
      refine xg_t (xg_bip) ?_
      refine xg_t (xg_const) ?_
      refine xg_t (xg_iload (va := (0, u45)) rfl rfl) ?_
      refine xg_t (xg_imul (u := 2) (v := u45) (z := 2 * u45) xnm0 xnm0 (by omega)) ?_
      refine xg_t (xg_iadd (u := 50) (v := 2 * u45) (z := 50 + (2 * u45)) xnm0 xnm0 (by omega)) ?_
      refine xg_t (xg_iload (va := (0, n420)) rfl rfl) ?_
      refine xg_cVv mX12_puts (vs := [(0, 1), (0, u45), (0, 50 + (2 * u45)), (0, n420)]) (rest := []) (cn1 := 0) (sl1 := 0) rfl (mPuts1 (hI554) (by omega) (by omega) (by omega) (fun _ => by omega)) rfl (hF555.get (by decide) (hF464.get (by decide) h82_459)) rfl rfl rfl rfl rfl rfl (fun w565 hq566 => ?_)
      obtain ⟨hI567, hF568, hx569⟩ := hq566
      obtain ⟨hp570, hp571⟩ := hx569
      have pk572 : PK w w565 := PK.tr pk560 (PK.fr hF568 (by decide) (by decide) pk560.2.2.2.1)
      have os573 : ∀ j, (j < 50 + 2 * u45 ∨ 52 + 2 * u45 ≤ j) → j < 140 → rwv w565 86 j = rwv w 86 j := fun j hj hl => (hp571 j (by omega) hl).trans (os561 j hj hl)
      have rg574 : FA w565 ≠ 0 ∨ (0 ≤ n420 ∧ n420 ≤ 99) := rg562.imp_left (PK.fr hF568 (by decide) (by decide) pk560.2.2.2.1).1
      have rg575 : FA w565 ≠ 0 ∨ 0 = 1 := (Or.inl hv558 : FA w552 ≠ 0 ∨ 0 = 1).imp_left (PK.fr hF568 (by decide) (by decide) pk560.2.2.2.1).1
      have mf576 : ∀ s, s < 7 → rwv w565 85 s = rwv w 85 s := fun s hs => (rwv_fr hF568 (by decide)).trans (mf563 s hs)
      have ms577 : mu w565 < mu w := Nat.lt_of_le_of_lt (PK.fr hF568 (by decide) (by decide) pk560.2.2.2.1).2.1 ms564
      clear rg562
      refine xg_t (xg_aload (va := (2, 82)) rfl rfl) ?_
      refine xg_t (xg_iload (va := (0, 1)) rfl rfl) ?_
      refine xg_t (xg_iload (va := (0, u45)) rfl rfl) ?_
      refine xg_t (xg_bip) ?_
      refine xg_t (xg_const) ?_
      refine xg_t (xg_iload (va := (0, u45)) rfl rfl) ?_
      refine xg_t (xg_imul (u := 2) (v := u45) (z := 2 * u45) xnm0 xnm0 (by omega)) ?_
      refine xg_t (xg_iadd (u := 50) (v := 2 * u45) (z := 50 + (2 * u45)) xnm0 xnm0 (by omega)) ?_
      refine xg_t (xg_const) ?_
      refine xg_t (xg_iadd (u := 50 + (2 * u45)) (v := 1) (z := (50 + (2 * u45)) + 1) xnm0 xnm0 (by omega)) ?_
      refine xg_t (xg_aload (va := (2, 82)) rfl rfl) ?_
      refine xg_t (xg_const) ?_
      refine xg_t (xg_sip) ?_
      refine xg_cVi mX12_numbered (vs := [(0, 1), (0, 999)]) (rest := [(0, (50 + (2 * u45)) + 1), (0, u45), (0, 1), (2, 82)]) (cn1 := 0) (sl1 := 0) rfl (mNumbered (hI567) (by omega) (by omega) pk572.2.2.2.1) rfl (hF568.get (by decide) (hF555.get (by decide) (hF464.get (by decide) h82_459))) rfl rfl rfl rfl rfl rfl (fun n582 w578 hq579 => ?_)
      obtain ⟨hn583, hI580, hF581⟩ := hq579
      clear hb430 hb432 hb434 hb436 hb438 hb440 hb442 hb444 hb446 hb448 hb452 hb454 hb456 hb458
      obtain ⟨hn584, hn585, hn586⟩ := hn583
      have pk587 : PK w w578 := PK.tr pk572 hn585
      have os588 : ∀ j, (j < 50 + 2 * u45 ∨ 52 + 2 * u45 ≤ j) → j < 140 → rwv w578 86 j = rwv w 86 j := fun j hj hl => (rwv_fr hF581 (by decide)).trans (os573 j hj hl)
      have ix589 : u45 < 4 → rwv w578 86 (50 + (2 * u45)) = n420 := fun h => (rwv_fr hF581 (by decide)).trans (hp570 h)
      have rg590 : FA w578 ≠ 0 ∨ (0 ≤ n420 ∧ n420 ≤ 99) := rg574.imp_left hn585.1
      have rg591 : FA w578 ≠ 0 ∨ 0 = 1 := rg575.imp_left hn585.1
      have mf592 : ∀ s, s < 7 → rwv w578 85 s = rwv w 85 s := fun s hs => (rwv_fr hF581 (by decide)).trans (mf576 s hs)
      have ms593 : mu w578 < mu w := Nat.lt_of_le_of_lt hn585.2.1 ms577
      clear hp570 rg574 rg575
      refine xoCh82 (xqc82 hI580 : cp82 (wget w578 82)) (fun f82_594 f82_596 f82_598 f82_600 f82_602 f82_604 f82_606 f82_608 f82_610 f82_612 f82_614 f82_615 f82_616 f82_618 f82_620 f82_622 h82_624 hb595 hb597 hb599 hb601 hb603 hb605 hb607 hb609 hb611 hb613 hb617 hb619 hb621 hb623 hb625 => ?_)
      refine xg_cVv mX12_puts (vs := [(0, 1), (0, u45), (0, (50 + (2 * u45)) + 1), (0, n582)]) (rest := []) (cn1 := 0) (sl1 := 0) rfl (mPuts1 (hI580) (by omega) (by omega) (by omega) (fun _ => by omega)) rfl h82_624 rfl rfl rfl rfl rfl rfl (fun w626 hq627 => ?_)
      obtain ⟨hI628, hF629, hx630⟩ := hq627
      obtain ⟨hp631, hp632⟩ := hx630
      have pk633 : PK w w626 := PK.tr pk587 (PK.fr hF629 (by decide) (by decide) pk587.2.2.2.1)
      have os634 : ∀ j, (j < 50 + 2 * u45 ∨ 52 + 2 * u45 ≤ j) → j < 140 → rwv w626 86 j = rwv w 86 j := fun j hj hl => (hp632 j (by omega) hl).trans (os588 j hj hl)
      have ix635 : u45 < 4 → rwv w626 86 (50 + (2 * u45)) = n420 := fun h => (hp632 _ (by omega) (by omega)).trans (ix589 h)
      have rg636 : FA w626 ≠ 0 ∨ (0 ≤ n420 ∧ n420 ≤ 99) := rg590.imp_left (PK.fr hF629 (by decide) (by decide) pk587.2.2.2.1).1
      have rg637 : FA w626 ≠ 0 ∨ 0 = 1 := rg591.imp_left (PK.fr hF629 (by decide) (by decide) pk587.2.2.2.1).1
      have rg638 : FA w626 ≠ 0 ∨ (1 ≤ n582 ∧ n582 ≤ 999) := hn586.imp_left (PK.fr hF629 (by decide) (by decide) pk587.2.2.2.1).1
      have mf639 : ∀ s, s < 7 → rwv w626 85 s = rwv w 85 s := fun s hs => (rwv_fr hF629 (by decide)).trans (mf592 s hs)
      have ms640 : mu w626 < mu w := Nat.lt_of_le_of_lt (PK.fr hF629 (by decide) (by decide) pk587.2.2.2.1).2.1 ms593
      clear ix589 rg590 rg591 hn586
      refine xg_t (xg_goto) ?_
      refine xg_t (xg_drop (l1 := [(0, (2, 82)), (1, (0, 1)), (3, (0, u45))]) (List.forall_mem_cons.mpr ⟨List.mem_cons_of_mem _ (List.mem_cons_of_mem _ (List.mem_cons_of_mem _ (List.mem_cons_of_mem _ (List.mem_cons_self)))), List.forall_mem_cons.mpr ⟨List.mem_cons_of_mem _ (List.mem_cons_of_mem _ (List.mem_cons_of_mem _ (List.mem_cons_self))), List.forall_mem_cons.mpr ⟨List.mem_cons_of_mem _ (List.mem_cons_self), fun _ h => absurd h List.not_mem_nil⟩⟩⟩)) ?_
      have hX641 : FA w626 ≠ 0 ∨ u45 < 4 := Or.inl (by have q := rg637; omega)
      have hN642 : FA w626 ≠ 0 ∨ 4 ≤ u45 ∨ (1 ≤ rwv w626 86 (50 + 2 * u45 + 1) ∧ rwv w626 86 (50 + 2 * u45 + 1) ≤ 999) := by
        have hl643 : u45 < 4 → rwv w626 86 (50 + (2 * u45)) = n420 := ix635
        have hl644 : u45 < 4 → rwv w626 86 ((50 + (2 * u45)) + 1) = n582 := hp631
        have hl645 := rg636
        have hl646 := rg638
        omega
      exact jn68 w626 (hI628) ((((((((hF55.up (by decide)).tr (hF419.up (by decide))).tr (hF464.up (by decide))).tr (hF555.up (by decide))).tr (hF568.up (by decide))).tr (hF581.up (by decide))).tr (hF629.up (by decide)))) (⟨pk633, os634, ms640, mf639, hX641, hN642⟩)
  · refine xg_t (xg_icF (u := u45) (v := 4) rfl xnm0 xnm0 (xj_ltF (by omega) (by omega))) ?_
    refine xg_t (xg_aload (va := (2, 82)) rfl rfl) ?_
    refine xg_t (xg_const) ?_
    refine xg_t (xg_iload (va := (0, at_)) rfl rfl) ?_
    refine xg_cVv mX12_also (vs := [(0, 3), (0, at_)]) (rest := []) (cn1 := 0) (sl1 := 0) rfl (mAlso (hI) (by omega) (by omega) (by omega) (PK.rf hps).2.2.2.1) rfl h82_31 rfl rfl rfl rfl rfl rfl (fun w647 hq648 => ?_)
    obtain ⟨hI649, hF650, hx651⟩ := hq648
    obtain ⟨hv653, hv654⟩ := hx651
    have pk652 : PK w w647 := ⟨fun _ => hv653, Nat.le_of_eq (mu_fr hF650 (by decide)), fld_fr hF650 (by decide), Or.inr hv653, hv654⟩
    have pk655 : PK w w647 := PK.tr (PK.rf hps) pk652
    have os656 : ∀ j, (j < 50 + 2 * u45 ∨ 52 + 2 * u45 ≤ j) → j < 140 → rwv w647 86 j = rwv w 86 j := fun j hj hl => (rwv_fr hF650 (by decide)).trans ((fun j _ _ => rfl) j hj hl)
    have mf657 : ∀ s, s < 7 → rwv w647 85 s = rwv w 85 s := fun s hs => (rwv_fr hF650 (by decide)).trans ((fun _ _ => rfl) s hs)
    have hf658 := fld_fr (c := 82) (j := 7) hF650 (by decide)
    refine xg_t (xg_blq rfl) ?_
    refine xg_t (xg_aload (va := (2, 82)) rfl rfl) ?_
    refine xg_cVv mX12_advance (vs := []) (rest := []) (cn1 := 0) (sl1 := 0) rfl (mAdvance (hI649)) rfl (hF650.get (by decide) h82_31) rfl rfl rfl rfl rfl rfl (fun w659 hq660 => ?_)
    obtain ⟨hI661, hF662, hx663⟩ := hq660
    clear hb2 hb4 hb6 hb8 hb10 hb12 hb14 hb16 hb18 hb20 hb24 hb26 hb28 hb30
    obtain ⟨hv664, hv665, hv666, hv667⟩ := hx663
    have hf669 := FA_fr hF662 (by decide)
    have hs670 := pk655.2.2.2.1
    unfold PS at hs670
    have pk668 : PK w647 w659 := ⟨fun _ => by omega, hv664, hv667, (show fld w659 82 10 = 0 ∨ FA w659 ≠ 0 by omega), K83.fr hF662 (by decide)⟩
    clear hs670
    have pk671 : PK w w659 := PK.tr pk655 pk668
    have os672 : ∀ j, (j < 50 + 2 * u45 ∨ 52 + 2 * u45 ≤ j) → j < 140 → rwv w659 86 j = rwv w 86 j := fun j hj hl => (rwv_fr hF662 (by decide)).trans (os656 j hj hl)
    have rg673 : FA w659 ≠ 0 ∨ 0 = 1 := (Or.inl hv653 : FA w647 ≠ 0 ∨ 0 = 1).imp_left pk668.1
    have mf674 : ∀ s, s < 7 → rwv w659 85 s = rwv w 85 s := fun s hs => (rwv_fr hF662 (by decide)).trans (mf657 s hs)
    have ms675 : mu w659 < mu w := Nat.lt_of_lt_of_le (hv665 (by omega)) pk655.2.1
    clear hv665
    have jn676 : ∀ (w677 : List (List xE)), xMnv w677 → xFr [82, 83, 85, 86, 87] w w677 → (PK w w677 ∧ (∀ j, (j < 50 + 2 * u45 ∨ 52 + 2 * u45 ≤ j) → j < 140 → rwv w677 86 j = rwv w 86 j) ∧ mu w677 < mu w ∧ (∀ s, s < 7 → rwv w677 85 s = rwv w 85 s) ∧ (FA w677 ≠ 0 ∨ u45 < 4) ∧ (FA w677 ≠ 0 ∨ 4 ≤ u45 ∨ (1 ≤ rwv w677 86 (50 + 2 * u45 + 1) ∧ rwv w677 86 (50 + 2 * u45 + 1) ≤ 999))) → xTo (d + 7) mX12_aLine (394, [], [(0, (2, 82)), (1, (0, 1)), (3, (0, u45))], [], (w677, bd, fc, 0, 0, rr)) (fun φ => ∃ w', xEnd 0 [] (w', bd, fc, 0, 0, rr) φ ∧ xMnv w' ∧ xFr [82, 83, 85, 86, 87] w w' ∧ ((FA w ≠ 0 → FA w' ≠ 0) ∧ PS w' ∧ ((fld w' 82 10 = 1 ∧ mu w' = mu w ∧ fld w' 82 14 = fld w 82 14 ∧ ∀ s, s < 7 → rwv w' 85 s = rwv w 85 s) ∨ (mu w' < mu w ∧ fld w' 82 14 = fld w 82 14 + 1 ∧ ∀ s, s < 7 → rwv w' 85 s ≤ rwv w 85 s + 1)) ∧ (FA w' ≠ 0 ∨ (DATA w → DATA w')) ∧ K83 w w')) := by
      intro w677 hI678 hF679 he680
      obtain ⟨hj681, hj682, hj683, hj684, hj685, hj686⟩ := he680
      refine xg_t (xg_blq rfl) ?_
      refine xg_t (xg_aload (va := (2, 82)) rfl rfl) ?_
      refine xoCh82 (xqc82 hI678 : cp82 (wget w677 82)) (fun f82_687 f82_689 f82_691 f82_693 f82_695 f82_697 f82_699 f82_701 f82_703 f82_705 f82_707 f82_708 f82_709 f82_711 f82_713 f82_715 h82_717 hb688 hb690 hb692 hb694 hb696 hb698 hb700 hb702 hb704 hb706 hb710 hb712 hb714 hb716 hb718 => ?_)
      refine xg_t (xg_getf (va := (0, f82_703)) h82_717 rfl) ?_
      by_cases hc719 : f82_703 = 0
      · refine xg_t (xg_ifF (u := f82_703) rfl xnm0 (xj_neF hc719)) ?_
        refine xg_t (xg_aload (va := (2, 82)) rfl rfl) ?_
        refine xg_t (xg_getf (va := (0, f82_697)) h82_717 rfl) ?_
        refine xg_t (xg_const) ?_
        by_cases hc720 : f82_697 = 2
        · refine xg_t (xg_icF (u := f82_697) (v := 2) rfl xnm0 xnm0 (xj_neF hc720)) ?_
          refine xg_t (xg_aload (va := (2, 82)) rfl rfl) ?_
          refine xg_cVv mX12_advance (vs := []) (rest := []) (cn1 := 0) (sl1 := 0) rfl (mAdvance (hI678)) rfl h82_717 rfl rfl rfl rfl rfl rfl (fun w721 hq722 => ?_)
          obtain ⟨hI723, hF724, hx725⟩ := hq722
          clear hb688 hb690 hb692 hb694 hb696 hb698 hb700 hb702 hb704 hb706 hb710 hb712 hb714 hb716
          obtain ⟨hv726, hv727, hv728, hv729⟩ := hx725
          have hf731 := FA_fr hF724 (by decide)
          have hs732 := hj681.2.2.2.1
          unfold PS at hs732
          have pk730 : PK w677 w721 := ⟨fun _ => by omega, hv726, hv729, (show fld w721 82 10 = 0 ∨ FA w721 ≠ 0 by omega), K83.fr hF724 (by decide)⟩
          clear hs732
          clear hv727
          have pk733 : PK w w721 := PK.tr hj681 pk730
          have os734 : ∀ j, (j < 50 + 2 * u45 ∨ 52 + 2 * u45 ≤ j) → j < 140 → rwv w721 86 j = rwv w 86 j := fun j hj hl => (rwv_fr hF724 (by decide)).trans (hj682 j hj hl)
          have rg735 : FA w721 ≠ 0 ∨ u45 < 4 := hj685.imp_left pk730.1
          have mf736 : ∀ s, s < 7 → rwv w721 85 s = rwv w 85 s := fun s hs => (rwv_fr hF724 (by decide)).trans (hj684 s hs)
          have hl737 : rwv w721 86 (50 + 2 * u45 + 1) = rwv w677 86 (50 + 2 * u45 + 1) := rwv_fr hF724 (by decide)
          have nw738 : FA w721 ≠ 0 ∨ 4 ≤ u45 ∨ (1 ≤ rwv w721 86 (50 + 2 * u45 + 1) ∧ rwv w721 86 (50 + 2 * u45 + 1) ≤ 999) := by have q := hj686; have q1 := pk730.1; omega
          clear hj686
          have ms739 : mu w721 < mu w := Nat.lt_of_le_of_lt pk730.2.1 hj683
          clear hj685
          refine xg_t (xg_goto) ?_
          refine xg_t (xg_blq rfl) ?_
          refine xoCh82 (xqc82 hI723 : cp82 (wget w721 82)) (fun f82_740 f82_742 f82_744 f82_746 f82_748 f82_750 f82_752 f82_754 f82_756 f82_758 f82_760 f82_761 f82_762 f82_764 f82_766 f82_768 h82_770 hb741 hb743 hb745 hb747 hb749 hb751 hb753 hb755 hb757 hb759 hb763 hb765 hb767 hb769 hb771 => ?_)
          have hf772 : fld w721 82 4 = f82_744 := fld_of h82_770
          have hf773 : fld w721 82 5 = f82_746 := fld_of h82_770
          have hf774 : fld w721 82 7 = f82_750 := fld_of h82_770
          have hf775 : fld w721 82 10 = f82_756 := fld_of h82_770
          have hf776 : fld w721 82 14 = f82_758 := fld_of h82_770
          have hu777 : mu w721 = 2 * (fld w721 82 4 - fld w721 82 5) + min 1 (fld w721 82 7) := rfl
          have hf778 := pk733.2.2.1
          have hl779 : f82_758 ≤ 1000 := by omega
          refine xg_t (xg_aload (va := (2, 82)) rfl rfl) ?_
          refine xg_t (xg_getf (va := (2, 85)) h82_770 rfl) ?_
          refine xg_t (xg_iload (va := (0, 1)) rfl rfl) ?_
          refine xg_t (xg_dup2 rfl) ?_
          refine xoI (xqc85 hI723 : cpI 7 52 4294967295 (wget w721 85)) (fun g85_780 h85_781 hb782 => ?_)
          refine xg_ialdB (n := 1) (B := 4294967295) h85_781 (hb782) xnm0 (by first | decide | omega) (fun u783 hu784 he785 => ?_)
          have hl786 : u783 = u45 := by have q1 := rwv_of h85_781 (show 1 < 7 by decide); have q2 := mf736 1 (by decide); omega
          refine xg_t (xg_const) ?_
          refine xg_t (xg_iadd (u := u783) (v := 1) (z := u783 + 1) xnm0 xnm0 (by omega)) ?_
          refine xg_iastK (n := 1) (u := u783 + 1) h85_781 xnm0 xnm0 rfl (by first | decide | omega) (fun w787 hr788 hb789 => ?_)
          refine xg_t (xg_aload (va := (2, 82)) rfl rfl) ?_
          refine xg_t (xg_dup rfl) ?_
          refine xg_t (xg_getf (va := (0, f82_758)) (hb789.get (by decide) h82_770) rfl) ?_
          have hn790 := id hb759
          unfold xHid at hn790
          refine xg_t (xg_const) ?_
          refine xg_t (xg_iadd (u := f82_758) (v := 1) (z := f82_758 + 1) xnm0 xnm0 (by omega)) ?_
          refine xg_putI (fl1 := [(2, 83), (2, 84), (0, f82_740), (0, f82_742), (0, f82_744), (0, f82_746), (0, f82_748), (0, f82_750), (0, f82_752), (0, f82_754), (0, f82_756), (2, 85), (2, 86), (2, 87), (0, f82_758 + 1), (2, 88), (2, 89), (2, 90), (2, 91), (2, 92), (2, 93), (2, 94), (4, f82_760), (4, f82_761), (0, f82_762), (2, 95), (2, 96), (2, 97), (2, 98), (2, 99), (2, 100), (2, 101), (2, 102), (0, f82_764), (2, 103), (2, 104), (2, 105), (2, 106), (2, 107), (2, 108), (2, 109), (0, f82_766), (0, f82_768), (2, 110), (2, 111), (2, 112), (2, 113)]) (hb789.get (by decide) h82_770) rfl rfl rfl (fun w791 hk792 hb793 => ?_)
          have hF794 : xFr [82, 85] w721 w791 := ((xFr.of (S := [82, 85]) hb789 (by decide)).tr (xFr.of (S := [82, 85]) hb793 (by decide)))
          have hA795 := FA_fr hF794 (by decide)
          have hf796 : fld w791 82 4 = f82_744 := fld_of hk792
          have hf797 : fld w791 82 5 = f82_746 := fld_of hk792
          have hf798 : fld w791 82 7 = f82_750 := fld_of hk792
          have hf799 : fld w791 82 10 = f82_756 := fld_of hk792
          have hf800 : fld w791 82 14 = f82_758 + 1 := fld_of hk792
          have hu801 : mu w791 = 2 * (fld w791 82 4 - fld w791 82 5) + min 1 (fld w791 82 7) := rfl
          have pq802 := pk733
          unfold PK PS at pq802
          have hM803 : ∀ s, s < 7 → s ≠ 1 → rwv w791 85 s = rwv w 85 s := fun s hs hn => (rwv_of (hr788.but hb793 (by decide)) hs).trans ((if_neg hn).trans ((rwv_of h85_781 hs).symm.trans (mf736 s hs)))
          have hM804 : rwv w791 85 1 = u45 + 1 := (rwv_of (hr788.but hb793 (by decide)) (by decide)).trans ((if_pos rfl).trans (by omega))
          have hM805 : ∀ s, s < 7 → rwv w791 85 s ≤ rwv w 85 s + 1 := fun s hs => by
            by_cases z : s = 1
            · subst z; omega
            · rw [hM803 s hs z]; omega
          have hO806 : ∀ j, (j < 50 + 2 * u45 ∨ 52 + 2 * u45 ≤ j) → j < 140 → rwv w791 86 j = rwv w 86 j := fun j hj hl => (rwv_fr hF794 (by decide)).trans (os734 j hj hl)
          have hl808 : FA w721 ≠ 0 ∨ u45 < 4 := rg735
          have hl809 : rwv w791 86 (50 + 2 * u45 + 1) = rwv w721 86 (50 + 2 * u45 + 1) := rwv_fr hF794 (by decide)
          have hN807 : FA w791 ≠ 0 ∨ 4 ≤ u45 ∨ (1 ≤ rwv w791 86 (50 + 2 * u45 + 1) ∧ rwv w791 86 (50 + 2 * u45 + 1) ≤ 999) := by have q := nw738; omega
          have hX810 : FA w791 ≠ 0 ∨ u45 < 4 := by omega
          have hD811 : FA w791 ≠ 0 ∨ (DATA w → DATA w791) := by
            by_cases z : FA w791 ≠ 0
            · exact Or.inl z
            · exact Or.inr (fun hd => hd.s1 hM803 hK48 hM804 (hX810.resolve_left z) hO806 ((hN807.resolve_left z).resolve_left (by have := hX810.resolve_left z; omega)))
          exact xg_e ⟨w791, ⟨rfl, rfl⟩, xMnv.up (S := [85, 82]) hI723 ((xFr.of (S := [85, 82]) hb789 (by decide)).tr (xFr.of (S := [85, 82]) hb793 (by decide))) (List.forall_mem_cons.mpr ⟨xqu85 (show cpI 7 52 4294967295 (wget w791 85) from ⟨_, (hr788.but hb793 (by decide)), xrb (by omega) (hb782)⟩), List.forall_mem_cons.mpr ⟨xqu82 (show cp82 (wget w791 82) from xmC82 f82_740 f82_742 f82_744 f82_746 f82_748 f82_750 f82_752 f82_754 f82_756 (f82_758 + 1) f82_760 f82_761 f82_762 f82_764 f82_766 f82_768 hk792 hb741 hb743 hb745 hb747 hb749 hb751 hb753 hb755 hb757 (by omega) hb763 hb765 hb767 hb769 (by omega)), fun _ h => absurd h List.not_mem_nil⟩⟩), ((hF679.tr (hF724.up (by decide))).tr ((xFr.of (S := [82, 83, 85, 86, 87]) hb789 (by decide)).tr (xFr.of (S := [82, 83, 85, 86, 87]) hb793 (by decide)))), ⟨fun h => by have := pq802.1 h; omega, (show fld w791 82 10 = 0 ∨ FA w791 ≠ 0 by omega), Or.inr ⟨by have := ms739; omega, by omega, hM805⟩, hD811, pk733.2.2.2.2.tr (K83.fr hF794 (by decide))⟩⟩
        · refine xg_t (xg_icT (u := f82_697) (v := 2) rfl xnm0 xnm0 (xj_neT hc720)) ?_
          refine xg_t (xg_blq rfl) ?_
          refine xg_t (xg_aload (va := (2, 82)) rfl rfl) ?_
          refine xg_cVv mX12_ends (vs := []) (rest := []) (cn1 := 0) (sl1 := 0) rfl (mEnds (hI678) hj681.2.2.2.1) rfl h82_717 rfl rfl rfl rfl rfl rfl (fun w812 hq813 => ?_)
          obtain ⟨hI814, hF815, hx816⟩ := hq813
          clear hb688 hb690 hb692 hb694 hb696 hb698 hb700 hb702 hb704 hb706 hb710 hb712 hb714 hb716
          obtain ⟨hv817, hv818, hv819, hv820, hv821⟩ := hx816
          have pk822 : PK w677 w812 := ⟨fun _ => hv817, by omega, by omega, Or.inr hv817, hv821⟩
          have pk823 : PK w w812 := PK.tr hj681 pk822
          have os824 : ∀ j, (j < 50 + 2 * u45 ∨ 52 + 2 * u45 ≤ j) → j < 140 → rwv w812 86 j = rwv w 86 j := fun j hj hl => (rwv_fr hF815 (by decide)).trans (hj682 j hj hl)
          have rg825 : FA w812 ≠ 0 ∨ u45 < 4 := hj685.imp_left pk822.1
          have mf826 : ∀ s, s < 7 → rwv w812 85 s = rwv w 85 s := fun s hs => (rwv_fr hF815 (by decide)).trans (hj684 s hs)
          have hl827 : rwv w812 86 (50 + 2 * u45 + 1) = rwv w677 86 (50 + 2 * u45 + 1) := rwv_fr hF815 (by decide)
          have nw828 : FA w812 ≠ 0 ∨ 4 ≤ u45 ∨ (1 ≤ rwv w812 86 (50 + 2 * u45 + 1) ∧ rwv w812 86 (50 + 2 * u45 + 1) ≤ 999) := by have q := hj686; have q1 := pk822.1; omega
          clear hj686
          have ms829 : mu w812 < mu w := Nat.lt_of_le_of_lt pk822.2.1 hj683
          clear hj685
          refine xg_t (xg_blq rfl) ?_
          refine xoCh82 (xqc82 hI814 : cp82 (wget w812 82)) (fun f82_830 f82_832 f82_834 f82_836 f82_838 f82_840 f82_842 f82_844 f82_846 f82_848 f82_850 f82_851 f82_852 f82_854 f82_856 f82_858 h82_860 hb831 hb833 hb835 hb837 hb839 hb841 hb843 hb845 hb847 hb849 hb853 hb855 hb857 hb859 hb861 => ?_)
          have hf862 : fld w812 82 4 = f82_834 := fld_of h82_860
          have hf863 : fld w812 82 5 = f82_836 := fld_of h82_860
          have hf864 : fld w812 82 7 = f82_840 := fld_of h82_860
          have hf865 : fld w812 82 10 = f82_846 := fld_of h82_860
          have hf866 : fld w812 82 14 = f82_848 := fld_of h82_860
          have hu867 : mu w812 = 2 * (fld w812 82 4 - fld w812 82 5) + min 1 (fld w812 82 7) := rfl
          have hf868 := pk823.2.2.1
          have hl869 : f82_848 ≤ 1000 := by omega
          refine xg_t (xg_aload (va := (2, 82)) rfl rfl) ?_
          refine xg_t (xg_getf (va := (2, 85)) h82_860 rfl) ?_
          refine xg_t (xg_iload (va := (0, 1)) rfl rfl) ?_
          refine xg_t (xg_dup2 rfl) ?_
          refine xoI (xqc85 hI814 : cpI 7 52 4294967295 (wget w812 85)) (fun g85_870 h85_871 hb872 => ?_)
          refine xg_ialdB (n := 1) (B := 4294967295) h85_871 (hb872) xnm0 (by first | decide | omega) (fun u873 hu874 he875 => ?_)
          have hl876 : u873 = u45 := by have q1 := rwv_of h85_871 (show 1 < 7 by decide); have q2 := mf826 1 (by decide); omega
          refine xg_t (xg_const) ?_
          refine xg_t (xg_iadd (u := u873) (v := 1) (z := u873 + 1) xnm0 xnm0 (by omega)) ?_
          refine xg_iastK (n := 1) (u := u873 + 1) h85_871 xnm0 xnm0 rfl (by first | decide | omega) (fun w877 hr878 hb879 => ?_)
          refine xg_t (xg_aload (va := (2, 82)) rfl rfl) ?_
          refine xg_t (xg_dup rfl) ?_
          refine xg_t (xg_getf (va := (0, f82_848)) (hb879.get (by decide) h82_860) rfl) ?_
          have hn880 := id hb849
          unfold xHid at hn880
          refine xg_t (xg_const) ?_
          refine xg_t (xg_iadd (u := f82_848) (v := 1) (z := f82_848 + 1) xnm0 xnm0 (by omega)) ?_
          refine xg_putI (fl1 := [(2, 83), (2, 84), (0, f82_830), (0, f82_832), (0, f82_834), (0, f82_836), (0, f82_838), (0, f82_840), (0, f82_842), (0, f82_844), (0, f82_846), (2, 85), (2, 86), (2, 87), (0, f82_848 + 1), (2, 88), (2, 89), (2, 90), (2, 91), (2, 92), (2, 93), (2, 94), (4, f82_850), (4, f82_851), (0, f82_852), (2, 95), (2, 96), (2, 97), (2, 98), (2, 99), (2, 100), (2, 101), (2, 102), (0, f82_854), (2, 103), (2, 104), (2, 105), (2, 106), (2, 107), (2, 108), (2, 109), (0, f82_856), (0, f82_858), (2, 110), (2, 111), (2, 112), (2, 113)]) (hb879.get (by decide) h82_860) rfl rfl rfl (fun w881 hk882 hb883 => ?_)
          have hF884 : xFr [82, 85] w812 w881 := ((xFr.of (S := [82, 85]) hb879 (by decide)).tr (xFr.of (S := [82, 85]) hb883 (by decide)))
          have hA885 := FA_fr hF884 (by decide)
          have hf886 : fld w881 82 4 = f82_834 := fld_of hk882
          have hf887 : fld w881 82 5 = f82_836 := fld_of hk882
          have hf888 : fld w881 82 7 = f82_840 := fld_of hk882
          have hf889 : fld w881 82 10 = f82_846 := fld_of hk882
          have hf890 : fld w881 82 14 = f82_848 + 1 := fld_of hk882
          have hu891 : mu w881 = 2 * (fld w881 82 4 - fld w881 82 5) + min 1 (fld w881 82 7) := rfl
          have pq892 := pk823
          unfold PK PS at pq892
          have hM893 : ∀ s, s < 7 → s ≠ 1 → rwv w881 85 s = rwv w 85 s := fun s hs hn => (rwv_of (hr878.but hb883 (by decide)) hs).trans ((if_neg hn).trans ((rwv_of h85_871 hs).symm.trans (mf826 s hs)))
          have hM894 : rwv w881 85 1 = u45 + 1 := (rwv_of (hr878.but hb883 (by decide)) (by decide)).trans ((if_pos rfl).trans (by omega))
          have hM895 : ∀ s, s < 7 → rwv w881 85 s ≤ rwv w 85 s + 1 := fun s hs => by
            by_cases z : s = 1
            · subst z; omega
            · rw [hM893 s hs z]; omega
          have hO896 : ∀ j, (j < 50 + 2 * u45 ∨ 52 + 2 * u45 ≤ j) → j < 140 → rwv w881 86 j = rwv w 86 j := fun j hj hl => (rwv_fr hF884 (by decide)).trans (os824 j hj hl)
          have hl898 : FA w812 ≠ 0 ∨ u45 < 4 := rg825
          have hl899 : rwv w881 86 (50 + 2 * u45 + 1) = rwv w812 86 (50 + 2 * u45 + 1) := rwv_fr hF884 (by decide)
          have hN897 : FA w881 ≠ 0 ∨ 4 ≤ u45 ∨ (1 ≤ rwv w881 86 (50 + 2 * u45 + 1) ∧ rwv w881 86 (50 + 2 * u45 + 1) ≤ 999) := by have q := nw828; omega
          have hX900 : FA w881 ≠ 0 ∨ u45 < 4 := by omega
          have hD901 : FA w881 ≠ 0 ∨ (DATA w → DATA w881) := by
            by_cases z : FA w881 ≠ 0
            · exact Or.inl z
            · exact Or.inr (fun hd => hd.s1 hM893 hK48 hM894 (hX900.resolve_left z) hO896 ((hN897.resolve_left z).resolve_left (by have := hX900.resolve_left z; omega)))
          exact xg_e ⟨w881, ⟨rfl, rfl⟩, xMnv.up (S := [85, 82]) hI814 ((xFr.of (S := [85, 82]) hb879 (by decide)).tr (xFr.of (S := [85, 82]) hb883 (by decide))) (List.forall_mem_cons.mpr ⟨xqu85 (show cpI 7 52 4294967295 (wget w881 85) from ⟨_, (hr878.but hb883 (by decide)), xrb (by omega) (hb872)⟩), List.forall_mem_cons.mpr ⟨xqu82 (show cp82 (wget w881 82) from xmC82 f82_830 f82_832 f82_834 f82_836 f82_838 f82_840 f82_842 f82_844 f82_846 (f82_848 + 1) f82_850 f82_851 f82_852 f82_854 f82_856 f82_858 hk882 hb831 hb833 hb835 hb837 hb839 hb841 hb843 hb845 hb847 (by omega) hb853 hb855 hb857 hb859 (by omega)), fun _ h => absurd h List.not_mem_nil⟩⟩), ((hF679.tr (hF815.up (by decide))).tr ((xFr.of (S := [82, 83, 85, 86, 87]) hb879 (by decide)).tr (xFr.of (S := [82, 83, 85, 86, 87]) hb883 (by decide)))), ⟨fun h => by have := pq892.1 h; omega, (show fld w881 82 10 = 0 ∨ FA w881 ≠ 0 by omega), Or.inr ⟨by have := ms829; omega, by omega, hM895⟩, hD901, pk823.2.2.2.2.tr (K83.fr hF884 (by decide))⟩⟩
      · refine xg_t (xg_ifT (u := f82_703) rfl xnm0 (xj_neT hc719)) ?_
        refine xg_t (xg_blq rfl) ?_
        refine xg_t (xg_aload (va := (2, 82)) rfl rfl) ?_
        refine xg_cVv mX12_ends (vs := []) (rest := []) (cn1 := 0) (sl1 := 0) rfl (mEnds (hI678) hj681.2.2.2.1) rfl h82_717 rfl rfl rfl rfl rfl rfl (fun w902 hq903 => ?_)
        obtain ⟨hI904, hF905, hx906⟩ := hq903
        clear hb688 hb690 hb692 hb694 hb696 hb698 hb700 hb702 hb704 hb706 hb710 hb712 hb714 hb716
        obtain ⟨hv907, hv908, hv909, hv910, hv911⟩ := hx906
        have pk912 : PK w677 w902 := ⟨fun _ => hv907, by omega, by omega, Or.inr hv907, hv911⟩
        have pk913 : PK w w902 := PK.tr hj681 pk912
        have os914 : ∀ j, (j < 50 + 2 * u45 ∨ 52 + 2 * u45 ≤ j) → j < 140 → rwv w902 86 j = rwv w 86 j := fun j hj hl => (rwv_fr hF905 (by decide)).trans (hj682 j hj hl)
        have rg915 : FA w902 ≠ 0 ∨ u45 < 4 := hj685.imp_left pk912.1
        have mf916 : ∀ s, s < 7 → rwv w902 85 s = rwv w 85 s := fun s hs => (rwv_fr hF905 (by decide)).trans (hj684 s hs)
        have hl917 : rwv w902 86 (50 + 2 * u45 + 1) = rwv w677 86 (50 + 2 * u45 + 1) := rwv_fr hF905 (by decide)
        have nw918 : FA w902 ≠ 0 ∨ 4 ≤ u45 ∨ (1 ≤ rwv w902 86 (50 + 2 * u45 + 1) ∧ rwv w902 86 (50 + 2 * u45 + 1) ≤ 999) := by have q := hj686; have q1 := pk912.1; omega
        clear hj686
        have ms919 : mu w902 < mu w := Nat.lt_of_le_of_lt pk912.2.1 hj683
        clear hj685
        refine xg_t (xg_blq rfl) ?_
        refine xoCh82 (xqc82 hI904 : cp82 (wget w902 82)) (fun f82_920 f82_922 f82_924 f82_926 f82_928 f82_930 f82_932 f82_934 f82_936 f82_938 f82_940 f82_941 f82_942 f82_944 f82_946 f82_948 h82_950 hb921 hb923 hb925 hb927 hb929 hb931 hb933 hb935 hb937 hb939 hb943 hb945 hb947 hb949 hb951 => ?_)
        have hf952 : fld w902 82 4 = f82_924 := fld_of h82_950
        have hf953 : fld w902 82 5 = f82_926 := fld_of h82_950
        have hf954 : fld w902 82 7 = f82_930 := fld_of h82_950
        have hf955 : fld w902 82 10 = f82_936 := fld_of h82_950
        have hf956 : fld w902 82 14 = f82_938 := fld_of h82_950
        have hu957 : mu w902 = 2 * (fld w902 82 4 - fld w902 82 5) + min 1 (fld w902 82 7) := rfl
        have hf958 := pk913.2.2.1
        have hl959 : f82_938 ≤ 1000 := by omega
        refine xg_t (xg_aload (va := (2, 82)) rfl rfl) ?_
        refine xg_t (xg_getf (va := (2, 85)) h82_950 rfl) ?_
        refine xg_t (xg_iload (va := (0, 1)) rfl rfl) ?_
        refine xg_t (xg_dup2 rfl) ?_
        refine xoI (xqc85 hI904 : cpI 7 52 4294967295 (wget w902 85)) (fun g85_960 h85_961 hb962 => ?_)
        refine xg_ialdB (n := 1) (B := 4294967295) h85_961 (hb962) xnm0 (by first | decide | omega) (fun u963 hu964 he965 => ?_)
        have hl966 : u963 = u45 := by have q1 := rwv_of h85_961 (show 1 < 7 by decide); have q2 := mf916 1 (by decide); omega
        refine xg_t (xg_const) ?_
        refine xg_t (xg_iadd (u := u963) (v := 1) (z := u963 + 1) xnm0 xnm0 (by omega)) ?_
        refine xg_iastK (n := 1) (u := u963 + 1) h85_961 xnm0 xnm0 rfl (by first | decide | omega) (fun w967 hr968 hb969 => ?_)
        refine xg_t (xg_aload (va := (2, 82)) rfl rfl) ?_
        refine xg_t (xg_dup rfl) ?_
        refine xg_t (xg_getf (va := (0, f82_938)) (hb969.get (by decide) h82_950) rfl) ?_
        have hn970 := id hb939
        unfold xHid at hn970
        refine xg_t (xg_const) ?_
        refine xg_t (xg_iadd (u := f82_938) (v := 1) (z := f82_938 + 1) xnm0 xnm0 (by omega)) ?_
        refine xg_putI (fl1 := [(2, 83), (2, 84), (0, f82_920), (0, f82_922), (0, f82_924), (0, f82_926), (0, f82_928), (0, f82_930), (0, f82_932), (0, f82_934), (0, f82_936), (2, 85), (2, 86), (2, 87), (0, f82_938 + 1), (2, 88), (2, 89), (2, 90), (2, 91), (2, 92), (2, 93), (2, 94), (4, f82_940), (4, f82_941), (0, f82_942), (2, 95), (2, 96), (2, 97), (2, 98), (2, 99), (2, 100), (2, 101), (2, 102), (0, f82_944), (2, 103), (2, 104), (2, 105), (2, 106), (2, 107), (2, 108), (2, 109), (0, f82_946), (0, f82_948), (2, 110), (2, 111), (2, 112), (2, 113)]) (hb969.get (by decide) h82_950) rfl rfl rfl (fun w971 hk972 hb973 => ?_)
        have hF974 : xFr [82, 85] w902 w971 := ((xFr.of (S := [82, 85]) hb969 (by decide)).tr (xFr.of (S := [82, 85]) hb973 (by decide)))
        have hA975 := FA_fr hF974 (by decide)
        have hf976 : fld w971 82 4 = f82_924 := fld_of hk972
        have hf977 : fld w971 82 5 = f82_926 := fld_of hk972
        have hf978 : fld w971 82 7 = f82_930 := fld_of hk972
        have hf979 : fld w971 82 10 = f82_936 := fld_of hk972
        have hf980 : fld w971 82 14 = f82_938 + 1 := fld_of hk972
        have hu981 : mu w971 = 2 * (fld w971 82 4 - fld w971 82 5) + min 1 (fld w971 82 7) := rfl
        have pq982 := pk913
        unfold PK PS at pq982
        have hM983 : ∀ s, s < 7 → s ≠ 1 → rwv w971 85 s = rwv w 85 s := fun s hs hn => (rwv_of (hr968.but hb973 (by decide)) hs).trans ((if_neg hn).trans ((rwv_of h85_961 hs).symm.trans (mf916 s hs)))
        have hM984 : rwv w971 85 1 = u45 + 1 := (rwv_of (hr968.but hb973 (by decide)) (by decide)).trans ((if_pos rfl).trans (by omega))
        have hM985 : ∀ s, s < 7 → rwv w971 85 s ≤ rwv w 85 s + 1 := fun s hs => by
          by_cases z : s = 1
          · subst z; omega
          · rw [hM983 s hs z]; omega
        have hO986 : ∀ j, (j < 50 + 2 * u45 ∨ 52 + 2 * u45 ≤ j) → j < 140 → rwv w971 86 j = rwv w 86 j := fun j hj hl => (rwv_fr hF974 (by decide)).trans (os914 j hj hl)
        have hl988 : FA w902 ≠ 0 ∨ u45 < 4 := rg915
        have hl989 : rwv w971 86 (50 + 2 * u45 + 1) = rwv w902 86 (50 + 2 * u45 + 1) := rwv_fr hF974 (by decide)
        have hN987 : FA w971 ≠ 0 ∨ 4 ≤ u45 ∨ (1 ≤ rwv w971 86 (50 + 2 * u45 + 1) ∧ rwv w971 86 (50 + 2 * u45 + 1) ≤ 999) := by have q := nw918; omega
        have hX990 : FA w971 ≠ 0 ∨ u45 < 4 := by omega
        have hD991 : FA w971 ≠ 0 ∨ (DATA w → DATA w971) := by
          by_cases z : FA w971 ≠ 0
          · exact Or.inl z
          · exact Or.inr (fun hd => hd.s1 hM983 hK48 hM984 (hX990.resolve_left z) hO986 ((hN987.resolve_left z).resolve_left (by have := hX990.resolve_left z; omega)))
        exact xg_e ⟨w971, ⟨rfl, rfl⟩, xMnv.up (S := [85, 82]) hI904 ((xFr.of (S := [85, 82]) hb969 (by decide)).tr (xFr.of (S := [85, 82]) hb973 (by decide))) (List.forall_mem_cons.mpr ⟨xqu85 (show cpI 7 52 4294967295 (wget w971 85) from ⟨_, (hr968.but hb973 (by decide)), xrb (by omega) (hb962)⟩), List.forall_mem_cons.mpr ⟨xqu82 (show cp82 (wget w971 82) from xmC82 f82_920 f82_922 f82_924 f82_926 f82_928 f82_930 f82_932 f82_934 f82_936 (f82_938 + 1) f82_940 f82_941 f82_942 f82_944 f82_946 f82_948 hk972 hb921 hb923 hb925 hb927 hb929 hb931 hb933 hb935 hb937 (by omega) hb943 hb945 hb947 hb949 (by omega)), fun _ h => absurd h List.not_mem_nil⟩⟩), ((hF679.tr (hF905.up (by decide))).tr ((xFr.of (S := [82, 83, 85, 86, 87]) hb969 (by decide)).tr (xFr.of (S := [82, 83, 85, 86, 87]) hb973 (by decide)))), ⟨fun h => by have := pq982.1 h; omega, (show fld w971 82 10 = 0 ∨ FA w971 ≠ 0 by omega), Or.inr ⟨by have := ms919; omega, by omega, hM985⟩, hD991, pk913.2.2.2.2.tr (K83.fr hF974 (by decide))⟩⟩
    refine xg_t (xg_iload (va := (0, 1)) rfl rfl) ?_
    refine xg_t (xg_swt (ks := [(0, 108), (1, 116), (2, 180), (3, 221), (4, 273), (5, 326)]) (u := 1) (z := 116) rfl rfl rfl xnm0 (xsw_n (by omega) (xsw_y rfl))) ?_
    refine xg_t (xg_blq rfl) ?_
    refine xg_t (xg_aload (va := (2, 82)) rfl rfl) ?_
    refine xg_t (xg_const) ?_
    refine xg_t (xg_bip) ?_
    refine xoCh82 (xqc82 hI661 : cp82 (wget w659 82)) (fun f82_992 f82_994 f82_996 f82_998 f82_1000 f82_1002 f82_1004 f82_1006 f82_1008 f82_1010 f82_1012 f82_1013 f82_1014 f82_1016 f82_1018 f82_1020 h82_1022 hb993 hb995 hb997 hb999 hb1001 hb1003 hb1005 hb1007 hb1009 hb1011 hb1015 hb1017 hb1019 hb1021 hb1023 => ?_)
    refine xg_cVi mX12_numbered (vs := [(0, 0), (0, 99)]) (rest := []) (cn1 := 0) (sl1 := 0) rfl (mNumbered (hI661) (by omega) (by omega) pk671.2.2.2.1) rfl h82_1022 rfl rfl rfl rfl rfl rfl (fun n1028 w1024 hq1025 => ?_)
    obtain ⟨hn1029, hI1026, hF1027⟩ := hq1025
    clear hb993 hb995 hb997 hb999 hb1001 hb1003 hb1005 hb1007 hb1009 hb1011 hb1015 hb1017 hb1019 hb1021
    obtain ⟨hn1030, hn1031, hn1032⟩ := hn1029
    have pk1033 : PK w w1024 := PK.tr pk671 hn1031
    have os1034 : ∀ j, (j < 50 + 2 * u45 ∨ 52 + 2 * u45 ≤ j) → j < 140 → rwv w1024 86 j = rwv w 86 j := fun j hj hl => (rwv_fr hF1027 (by decide)).trans (os672 j hj hl)
    have rg1035 : FA w1024 ≠ 0 ∨ 0 = 1 := rg673.imp_left hn1031.1
    have mf1036 : ∀ s, s < 7 → rwv w1024 85 s = rwv w 85 s := fun s hs => (rwv_fr hF1027 (by decide)).trans (mf674 s hs)
    have ms1037 : mu w1024 < mu w := Nat.lt_of_le_of_lt hn1031.2.1 ms675
    clear rg673
    refine xg_t (xg_istore (l1 := [(3, (0, u45)), (2, (0, at_)), (1, (0, 1)), (0, (2, 82))]) rfl rfl rfl) ?_
    refine xg_t (xg_aload (va := (2, 82)) rfl rfl) ?_
    refine xg_t (xg_iload (va := (0, n1028)) rfl rfl) ?_
    refine xg_t (xg_iload (va := (0, u45)) rfl rfl) ?_
    refine xoCh82 (xqc82 hI1026 : cp82 (wget w1024 82)) (fun f82_1038 f82_1040 f82_1042 f82_1044 f82_1046 f82_1048 f82_1050 f82_1052 f82_1054 f82_1056 f82_1058 f82_1059 f82_1060 f82_1062 f82_1064 f82_1066 h82_1068 hb1039 hb1041 hb1043 hb1045 hb1047 hb1049 hb1051 hb1053 hb1055 hb1057 hb1061 hb1063 hb1065 hb1067 hb1069 => ?_)
    refine xg_cVi mX12_isLifeTold (vs := [(0, n1028), (0, u45)]) (rest := []) (cn1 := 0) (sl1 := 0) rfl (mLifeTold (hI1026) (by omega) (by omega)) rfl h82_1068 rfl rfl rfl rfl rfl rfl (fun n1074 w1070 hq1071 => ?_)
    obtain ⟨hn1075, hI1072, hF1073⟩ := hq1071
    have pk1076 : PK w w1070 := PK.tr pk1033 (PK.fr hF1073 (by decide) (by decide) pk1033.2.2.2.1)
    have os1077 : ∀ j, (j < 50 + 2 * u45 ∨ 52 + 2 * u45 ≤ j) → j < 140 → rwv w1070 86 j = rwv w 86 j := fun j hj hl => (rwv_fr hF1073 (by decide)).trans (os1034 j hj hl)
    have rg1078 : FA w1070 ≠ 0 ∨ 0 = 1 := rg1035.imp_left (PK.fr hF1073 (by decide) (by decide) pk1033.2.2.2.1).1
    have rg1079 : FA w1070 ≠ 0 ∨ (0 ≤ n1028 ∧ n1028 ≤ 99) := hn1032.imp_left (PK.fr hF1073 (by decide) (by decide) pk1033.2.2.2.1).1
    have mf1080 : ∀ s, s < 7 → rwv w1070 85 s = rwv w 85 s := fun s hs => (rwv_fr hF1073 (by decide)).trans (mf1036 s hs)
    have ms1081 : mu w1070 < mu w := Nat.lt_of_le_of_lt (PK.fr hF1073 (by decide) (by decide) pk1033.2.2.2.1).2.1 ms1037
    clear rg1035 hn1032
    by_cases hc1082 : n1074 = 0
    · refine xg_t (xg_ifT (u := n1074) rfl xnm0 (xj_eqT hc1082)) ?_
      refine xg_t (xg_blq rfl) ?_
      refine xg_t (xg_aload (va := (2, 82)) rfl rfl) ?_
      refine xg_t (xg_iload (va := (0, 1)) rfl rfl) ?_
      refine xg_t (xg_iload (va := (0, u45)) rfl rfl) ?_
      refine xg_t (xg_bip) ?_
      refine xg_t (xg_const) ?_
      refine xg_t (xg_iload (va := (0, u45)) rfl rfl) ?_
      refine xg_t (xg_imul (u := 2) (v := u45) (z := 2 * u45) xnm0 xnm0 (by omega)) ?_
      refine xg_t (xg_iadd (u := 50) (v := 2 * u45) (z := 50 + (2 * u45)) xnm0 xnm0 (by omega)) ?_
      refine xg_t (xg_iload (va := (0, n1028)) rfl rfl) ?_
      refine xg_cVv mX12_puts (vs := [(0, 1), (0, u45), (0, 50 + (2 * u45)), (0, n1028)]) (rest := []) (cn1 := 0) (sl1 := 0) rfl (mPuts1 (hI1072) (by omega) (by omega) (by omega) (fun _ => by omega)) rfl (hF1073.get (by decide) h82_1068) rfl rfl rfl rfl rfl rfl (fun w1083 hq1084 => ?_)
      obtain ⟨hI1085, hF1086, hx1087⟩ := hq1084
      obtain ⟨hp1088, hp1089⟩ := hx1087
      have pk1090 : PK w w1083 := PK.tr pk1076 (PK.fr hF1086 (by decide) (by decide) pk1076.2.2.2.1)
      have os1091 : ∀ j, (j < 50 + 2 * u45 ∨ 52 + 2 * u45 ≤ j) → j < 140 → rwv w1083 86 j = rwv w 86 j := fun j hj hl => (hp1089 j (by omega) hl).trans (os1077 j hj hl)
      have rg1092 : FA w1083 ≠ 0 ∨ 0 = 1 := rg1078.imp_left (PK.fr hF1086 (by decide) (by decide) pk1076.2.2.2.1).1
      have rg1093 : FA w1083 ≠ 0 ∨ (0 ≤ n1028 ∧ n1028 ≤ 99) := rg1079.imp_left (PK.fr hF1086 (by decide) (by decide) pk1076.2.2.2.1).1
      have mf1094 : ∀ s, s < 7 → rwv w1083 85 s = rwv w 85 s := fun s hs => (rwv_fr hF1086 (by decide)).trans (mf1080 s hs)
      have ms1095 : mu w1083 < mu w := Nat.lt_of_le_of_lt (PK.fr hF1086 (by decide) (by decide) pk1076.2.2.2.1).2.1 ms1081
      clear rg1078 rg1079
      refine xg_t (xg_aload (va := (2, 82)) rfl rfl) ?_
      refine xg_t (xg_iload (va := (0, 1)) rfl rfl) ?_
      refine xg_t (xg_iload (va := (0, u45)) rfl rfl) ?_
      refine xg_t (xg_bip) ?_
      refine xg_t (xg_const) ?_
      refine xg_t (xg_iload (va := (0, u45)) rfl rfl) ?_
      refine xg_t (xg_imul (u := 2) (v := u45) (z := 2 * u45) xnm0 xnm0 (by omega)) ?_
      refine xg_t (xg_iadd (u := 50) (v := 2 * u45) (z := 50 + (2 * u45)) xnm0 xnm0 (by omega)) ?_
      refine xg_t (xg_const) ?_
      refine xg_t (xg_iadd (u := 50 + (2 * u45)) (v := 1) (z := (50 + (2 * u45)) + 1) xnm0 xnm0 (by omega)) ?_
      refine xg_t (xg_aload (va := (2, 82)) rfl rfl) ?_
      refine xg_t (xg_const) ?_
      refine xg_t (xg_sip) ?_
      refine xg_cVi mX12_numbered (vs := [(0, 1), (0, 999)]) (rest := [(0, (50 + (2 * u45)) + 1), (0, u45), (0, 1), (2, 82)]) (cn1 := 0) (sl1 := 0) rfl (mNumbered (hI1085) (by omega) (by omega) pk1090.2.2.2.1) rfl (hF1086.get (by decide) (hF1073.get (by decide) h82_1068)) rfl rfl rfl rfl rfl rfl (fun n1100 w1096 hq1097 => ?_)
      obtain ⟨hn1101, hI1098, hF1099⟩ := hq1097
      clear hb1039 hb1041 hb1043 hb1045 hb1047 hb1049 hb1051 hb1053 hb1055 hb1057 hb1061 hb1063 hb1065 hb1067
      obtain ⟨hn1102, hn1103, hn1104⟩ := hn1101
      have pk1105 : PK w w1096 := PK.tr pk1090 hn1103
      have os1106 : ∀ j, (j < 50 + 2 * u45 ∨ 52 + 2 * u45 ≤ j) → j < 140 → rwv w1096 86 j = rwv w 86 j := fun j hj hl => (rwv_fr hF1099 (by decide)).trans (os1091 j hj hl)
      have ix1107 : u45 < 4 → rwv w1096 86 (50 + (2 * u45)) = n1028 := fun h => (rwv_fr hF1099 (by decide)).trans (hp1088 h)
      have rg1108 : FA w1096 ≠ 0 ∨ 0 = 1 := rg1092.imp_left hn1103.1
      have rg1109 : FA w1096 ≠ 0 ∨ (0 ≤ n1028 ∧ n1028 ≤ 99) := rg1093.imp_left hn1103.1
      have mf1110 : ∀ s, s < 7 → rwv w1096 85 s = rwv w 85 s := fun s hs => (rwv_fr hF1099 (by decide)).trans (mf1094 s hs)
      have ms1111 : mu w1096 < mu w := Nat.lt_of_le_of_lt hn1103.2.1 ms1095
      clear hp1088 rg1092 rg1093
      refine xoCh82 (xqc82 hI1098 : cp82 (wget w1096 82)) (fun f82_1112 f82_1114 f82_1116 f82_1118 f82_1120 f82_1122 f82_1124 f82_1126 f82_1128 f82_1130 f82_1132 f82_1133 f82_1134 f82_1136 f82_1138 f82_1140 h82_1142 hb1113 hb1115 hb1117 hb1119 hb1121 hb1123 hb1125 hb1127 hb1129 hb1131 hb1135 hb1137 hb1139 hb1141 hb1143 => ?_)
      refine xg_cVv mX12_puts (vs := [(0, 1), (0, u45), (0, (50 + (2 * u45)) + 1), (0, n1100)]) (rest := []) (cn1 := 0) (sl1 := 0) rfl (mPuts1 (hI1098) (by omega) (by omega) (by omega) (fun _ => by omega)) rfl h82_1142 rfl rfl rfl rfl rfl rfl (fun w1144 hq1145 => ?_)
      obtain ⟨hI1146, hF1147, hx1148⟩ := hq1145
      obtain ⟨hp1149, hp1150⟩ := hx1148
      have pk1151 : PK w w1144 := PK.tr pk1105 (PK.fr hF1147 (by decide) (by decide) pk1105.2.2.2.1)
      have os1152 : ∀ j, (j < 50 + 2 * u45 ∨ 52 + 2 * u45 ≤ j) → j < 140 → rwv w1144 86 j = rwv w 86 j := fun j hj hl => (hp1150 j (by omega) hl).trans (os1106 j hj hl)
      have ix1153 : u45 < 4 → rwv w1144 86 (50 + (2 * u45)) = n1028 := fun h => (hp1150 _ (by omega) (by omega)).trans (ix1107 h)
      have rg1154 : FA w1144 ≠ 0 ∨ 0 = 1 := rg1108.imp_left (PK.fr hF1147 (by decide) (by decide) pk1105.2.2.2.1).1
      have rg1155 : FA w1144 ≠ 0 ∨ (0 ≤ n1028 ∧ n1028 ≤ 99) := rg1109.imp_left (PK.fr hF1147 (by decide) (by decide) pk1105.2.2.2.1).1
      have rg1156 : FA w1144 ≠ 0 ∨ (1 ≤ n1100 ∧ n1100 ≤ 999) := hn1104.imp_left (PK.fr hF1147 (by decide) (by decide) pk1105.2.2.2.1).1
      have mf1157 : ∀ s, s < 7 → rwv w1144 85 s = rwv w 85 s := fun s hs => (rwv_fr hF1147 (by decide)).trans (mf1110 s hs)
      have ms1158 : mu w1144 < mu w := Nat.lt_of_le_of_lt (PK.fr hF1147 (by decide) (by decide) pk1105.2.2.2.1).2.1 ms1111
      clear ix1107 rg1108 rg1109 hn1104
      refine xg_t (xg_goto) ?_
      refine xg_t (xg_drop (l1 := [(0, (2, 82)), (1, (0, 1)), (3, (0, u45))]) (List.forall_mem_cons.mpr ⟨List.mem_cons_of_mem _ (List.mem_cons_of_mem _ (List.mem_cons_of_mem _ (List.mem_cons_of_mem _ (List.mem_cons_self)))), List.forall_mem_cons.mpr ⟨List.mem_cons_of_mem _ (List.mem_cons_of_mem _ (List.mem_cons_of_mem _ (List.mem_cons_self))), List.forall_mem_cons.mpr ⟨List.mem_cons_of_mem _ (List.mem_cons_self), fun _ h => absurd h List.not_mem_nil⟩⟩⟩)) ?_
      have hX1159 : FA w1144 ≠ 0 ∨ u45 < 4 := Or.inl (by have q := rg1154; omega)
      have hN1160 : FA w1144 ≠ 0 ∨ 4 ≤ u45 ∨ (1 ≤ rwv w1144 86 (50 + 2 * u45 + 1) ∧ rwv w1144 86 (50 + 2 * u45 + 1) ≤ 999) := by
        have hl1161 : u45 < 4 → rwv w1144 86 (50 + (2 * u45)) = n1028 := ix1153
        have hl1162 : u45 < 4 → rwv w1144 86 ((50 + (2 * u45)) + 1) = n1100 := hp1149
        have hl1163 := rg1155
        have hl1164 := rg1156
        omega
      exact jn676 w1144 (hI1146) ((((((((hF650.up (by decide)).tr (hF662.up (by decide))).tr (hF1027.up (by decide))).tr (hF1073.up (by decide))).tr (hF1086.up (by decide))).tr (hF1099.up (by decide))).tr (hF1147.up (by decide)))) (⟨pk1151, os1152, ms1158, mf1157, hX1159, hN1160⟩)
    · refine xg_t (xg_ifF (u := n1074) rfl xnm0 (xj_eqF hc1082)) ?_
      refine xg_t (xg_aload (va := (2, 82)) rfl rfl) ?_
      refine xg_t (xg_const) ?_
      refine xg_t (xg_iload (va := (0, at_)) rfl rfl) ?_
      refine xg_cVv mX12_also (vs := [(0, 3), (0, at_)]) (rest := []) (cn1 := 0) (sl1 := 0) rfl (mAlso (hI1072) (by omega) (by omega) (by omega) pk1076.2.2.2.1) rfl (hF1073.get (by decide) h82_1068) rfl rfl rfl rfl rfl rfl (fun w1165 hq1166 => ?_)
      obtain ⟨hI1167, hF1168, hx1169⟩ := hq1166
      obtain ⟨hv1171, hv1172⟩ := hx1169
      have pk1170 : PK w1070 w1165 := ⟨fun _ => hv1171, Nat.le_of_eq (mu_fr hF1168 (by decide)), fld_fr hF1168 (by decide), Or.inr hv1171, hv1172⟩
      have pk1173 : PK w w1165 := PK.tr pk1076 pk1170
      have os1174 : ∀ j, (j < 50 + 2 * u45 ∨ 52 + 2 * u45 ≤ j) → j < 140 → rwv w1165 86 j = rwv w 86 j := fun j hj hl => (rwv_fr hF1168 (by decide)).trans (os1077 j hj hl)
      have rg1175 : FA w1165 ≠ 0 ∨ 0 = 1 := rg1078.imp_left pk1170.1
      have rg1176 : FA w1165 ≠ 0 ∨ (0 ≤ n1028 ∧ n1028 ≤ 99) := rg1079.imp_left pk1170.1
      have mf1177 : ∀ s, s < 7 → rwv w1165 85 s = rwv w 85 s := fun s hs => (rwv_fr hF1168 (by decide)).trans (mf1080 s hs)
      have ms1178 : mu w1165 < mu w := Nat.lt_of_le_of_lt pk1170.2.1 ms1081
      clear rg1078 rg1079
      refine xg_t (xg_blq rfl) ?_
      refine xg_t (xg_aload (va := (2, 82)) rfl rfl) ?_
      refine xg_t (xg_iload (va := (0, 1)) rfl rfl) ?_
      refine xg_t (xg_iload (va := (0, u45)) rfl rfl) ?_
      refine xg_t (xg_bip) ?_
      refine xg_t (xg_const) ?_
      refine xg_t (xg_iload (va := (0, u45)) rfl rfl) ?_
      refine xg_t (xg_imul (u := 2) (v := u45) (z := 2 * u45) xnm0 xnm0 (by omega)) ?_
      refine xg_t (xg_iadd (u := 50) (v := 2 * u45) (z := 50 + (2 * u45)) xnm0 xnm0 (by omega)) ?_
      refine xg_t (xg_iload (va := (0, n1028)) rfl rfl) ?_
      refine xg_cVv mX12_puts (vs := [(0, 1), (0, u45), (0, 50 + (2 * u45)), (0, n1028)]) (rest := []) (cn1 := 0) (sl1 := 0) rfl (mPuts1 (hI1167) (by omega) (by omega) (by omega) (fun _ => by omega)) rfl (hF1168.get (by decide) (hF1073.get (by decide) h82_1068)) rfl rfl rfl rfl rfl rfl (fun w1179 hq1180 => ?_)
      obtain ⟨hI1181, hF1182, hx1183⟩ := hq1180
      obtain ⟨hp1184, hp1185⟩ := hx1183
      have pk1186 : PK w w1179 := PK.tr pk1173 (PK.fr hF1182 (by decide) (by decide) pk1173.2.2.2.1)
      have os1187 : ∀ j, (j < 50 + 2 * u45 ∨ 52 + 2 * u45 ≤ j) → j < 140 → rwv w1179 86 j = rwv w 86 j := fun j hj hl => (hp1185 j (by omega) hl).trans (os1174 j hj hl)
      have rg1188 : FA w1179 ≠ 0 ∨ 0 = 1 := rg1175.imp_left (PK.fr hF1182 (by decide) (by decide) pk1173.2.2.2.1).1
      have rg1189 : FA w1179 ≠ 0 ∨ (0 ≤ n1028 ∧ n1028 ≤ 99) := rg1176.imp_left (PK.fr hF1182 (by decide) (by decide) pk1173.2.2.2.1).1
      have rg1190 : FA w1179 ≠ 0 ∨ 0 = 1 := (Or.inl hv1171 : FA w1165 ≠ 0 ∨ 0 = 1).imp_left (PK.fr hF1182 (by decide) (by decide) pk1173.2.2.2.1).1
      have mf1191 : ∀ s, s < 7 → rwv w1179 85 s = rwv w 85 s := fun s hs => (rwv_fr hF1182 (by decide)).trans (mf1177 s hs)
      have ms1192 : mu w1179 < mu w := Nat.lt_of_le_of_lt (PK.fr hF1182 (by decide) (by decide) pk1173.2.2.2.1).2.1 ms1178
      clear rg1175 rg1176
      refine xg_t (xg_aload (va := (2, 82)) rfl rfl) ?_
      refine xg_t (xg_iload (va := (0, 1)) rfl rfl) ?_
      refine xg_t (xg_iload (va := (0, u45)) rfl rfl) ?_
      refine xg_t (xg_bip) ?_
      refine xg_t (xg_const) ?_
      refine xg_t (xg_iload (va := (0, u45)) rfl rfl) ?_
      refine xg_t (xg_imul (u := 2) (v := u45) (z := 2 * u45) xnm0 xnm0 (by omega)) ?_
      refine xg_t (xg_iadd (u := 50) (v := 2 * u45) (z := 50 + (2 * u45)) xnm0 xnm0 (by omega)) ?_
      refine xg_t (xg_const) ?_
      refine xg_t (xg_iadd (u := 50 + (2 * u45)) (v := 1) (z := (50 + (2 * u45)) + 1) xnm0 xnm0 (by omega)) ?_
      refine xg_t (xg_aload (va := (2, 82)) rfl rfl) ?_
      refine xg_t (xg_const) ?_
      refine xg_t (xg_sip) ?_
      refine xg_cVi mX12_numbered (vs := [(0, 1), (0, 999)]) (rest := [(0, (50 + (2 * u45)) + 1), (0, u45), (0, 1), (2, 82)]) (cn1 := 0) (sl1 := 0) rfl (mNumbered (hI1181) (by omega) (by omega) pk1186.2.2.2.1) rfl (hF1182.get (by decide) (hF1168.get (by decide) (hF1073.get (by decide) h82_1068))) rfl rfl rfl rfl rfl rfl (fun n1197 w1193 hq1194 => ?_)
      obtain ⟨hn1198, hI1195, hF1196⟩ := hq1194
      clear hb1039 hb1041 hb1043 hb1045 hb1047 hb1049 hb1051 hb1053 hb1055 hb1057 hb1061 hb1063 hb1065 hb1067
      obtain ⟨hn1199, hn1200, hn1201⟩ := hn1198
      have pk1202 : PK w w1193 := PK.tr pk1186 hn1200
      have os1203 : ∀ j, (j < 50 + 2 * u45 ∨ 52 + 2 * u45 ≤ j) → j < 140 → rwv w1193 86 j = rwv w 86 j := fun j hj hl => (rwv_fr hF1196 (by decide)).trans (os1187 j hj hl)
      have ix1204 : u45 < 4 → rwv w1193 86 (50 + (2 * u45)) = n1028 := fun h => (rwv_fr hF1196 (by decide)).trans (hp1184 h)
      have rg1205 : FA w1193 ≠ 0 ∨ 0 = 1 := rg1188.imp_left hn1200.1
      have rg1206 : FA w1193 ≠ 0 ∨ (0 ≤ n1028 ∧ n1028 ≤ 99) := rg1189.imp_left hn1200.1
      have rg1207 : FA w1193 ≠ 0 ∨ 0 = 1 := rg1190.imp_left hn1200.1
      have mf1208 : ∀ s, s < 7 → rwv w1193 85 s = rwv w 85 s := fun s hs => (rwv_fr hF1196 (by decide)).trans (mf1191 s hs)
      have ms1209 : mu w1193 < mu w := Nat.lt_of_le_of_lt hn1200.2.1 ms1192
      clear hp1184 rg1188 rg1189 rg1190
      refine xoCh82 (xqc82 hI1195 : cp82 (wget w1193 82)) (fun f82_1210 f82_1212 f82_1214 f82_1216 f82_1218 f82_1220 f82_1222 f82_1224 f82_1226 f82_1228 f82_1230 f82_1231 f82_1232 f82_1234 f82_1236 f82_1238 h82_1240 hb1211 hb1213 hb1215 hb1217 hb1219 hb1221 hb1223 hb1225 hb1227 hb1229 hb1233 hb1235 hb1237 hb1239 hb1241 => ?_)
      refine xg_cVv mX12_puts (vs := [(0, 1), (0, u45), (0, (50 + (2 * u45)) + 1), (0, n1197)]) (rest := []) (cn1 := 0) (sl1 := 0) rfl (mPuts1 (hI1195) (by omega) (by omega) (by omega) (fun _ => by omega)) rfl h82_1240 rfl rfl rfl rfl rfl rfl (fun w1242 hq1243 => ?_)
      obtain ⟨hI1244, hF1245, hx1246⟩ := hq1243
      obtain ⟨hp1247, hp1248⟩ := hx1246
      have pk1249 : PK w w1242 := PK.tr pk1202 (PK.fr hF1245 (by decide) (by decide) pk1202.2.2.2.1)
      have os1250 : ∀ j, (j < 50 + 2 * u45 ∨ 52 + 2 * u45 ≤ j) → j < 140 → rwv w1242 86 j = rwv w 86 j := fun j hj hl => (hp1248 j (by omega) hl).trans (os1203 j hj hl)
      have ix1251 : u45 < 4 → rwv w1242 86 (50 + (2 * u45)) = n1028 := fun h => (hp1248 _ (by omega) (by omega)).trans (ix1204 h)
      have rg1252 : FA w1242 ≠ 0 ∨ 0 = 1 := rg1205.imp_left (PK.fr hF1245 (by decide) (by decide) pk1202.2.2.2.1).1
      have rg1253 : FA w1242 ≠ 0 ∨ (0 ≤ n1028 ∧ n1028 ≤ 99) := rg1206.imp_left (PK.fr hF1245 (by decide) (by decide) pk1202.2.2.2.1).1
      have rg1254 : FA w1242 ≠ 0 ∨ 0 = 1 := rg1207.imp_left (PK.fr hF1245 (by decide) (by decide) pk1202.2.2.2.1).1
      have rg1255 : FA w1242 ≠ 0 ∨ (1 ≤ n1197 ∧ n1197 ≤ 999) := hn1201.imp_left (PK.fr hF1245 (by decide) (by decide) pk1202.2.2.2.1).1
      have mf1256 : ∀ s, s < 7 → rwv w1242 85 s = rwv w 85 s := fun s hs => (rwv_fr hF1245 (by decide)).trans (mf1208 s hs)
      have ms1257 : mu w1242 < mu w := Nat.lt_of_le_of_lt (PK.fr hF1245 (by decide) (by decide) pk1202.2.2.2.1).2.1 ms1209
      clear ix1204 rg1205 rg1206 rg1207 hn1201
      refine xg_t (xg_goto) ?_
      refine xg_t (xg_drop (l1 := [(0, (2, 82)), (1, (0, 1)), (3, (0, u45))]) (List.forall_mem_cons.mpr ⟨List.mem_cons_of_mem _ (List.mem_cons_of_mem _ (List.mem_cons_of_mem _ (List.mem_cons_of_mem _ (List.mem_cons_self)))), List.forall_mem_cons.mpr ⟨List.mem_cons_of_mem _ (List.mem_cons_of_mem _ (List.mem_cons_of_mem _ (List.mem_cons_self))), List.forall_mem_cons.mpr ⟨List.mem_cons_of_mem _ (List.mem_cons_self), fun _ h => absurd h List.not_mem_nil⟩⟩⟩)) ?_
      have hX1258 : FA w1242 ≠ 0 ∨ u45 < 4 := Or.inl (by have q := rg1252; omega)
      have hN1259 : FA w1242 ≠ 0 ∨ 4 ≤ u45 ∨ (1 ≤ rwv w1242 86 (50 + 2 * u45 + 1) ∧ rwv w1242 86 (50 + 2 * u45 + 1) ≤ 999) := by
        have hl1260 : u45 < 4 → rwv w1242 86 (50 + (2 * u45)) = n1028 := ix1251
        have hl1261 : u45 < 4 → rwv w1242 86 ((50 + (2 * u45)) + 1) = n1197 := hp1247
        have hl1262 := rg1253
        have hl1263 := rg1255
        omega
      exact jn676 w1242 (hI1244) (((((((((hF650.up (by decide)).tr (hF662.up (by decide))).tr (hF1027.up (by decide))).tr (hF1073.up (by decide))).tr (hF1168.up (by decide))).tr (hF1182.up (by decide))).tr (hF1196.up (by decide))).tr (hF1245.up (by decide)))) (⟨pk1249, os1250, ms1257, mf1256, hX1258, hN1259⟩)
end XMB
end
