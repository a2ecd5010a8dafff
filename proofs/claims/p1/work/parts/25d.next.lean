/-! next(what): what the methods do, by chains -/
section XNE
variable {d l s u k i j n un t v : Nat} {w : List (List xE)} {bd : List (Nat × Nat)} {fc : List (Nat × Nat × Bool)} {rr : Nat × Nat} {kl ns nf nn fr nx : Nat} {fm : List xV} {f g : Nat → Nat}
/-- how many of the first n laws hold the one, the other -/
def xcr (s : Nat) : Nat → Nat → Nat
  | 0, _ => 0
  | n + 1, j => xcr s n j + if 8 * xun n s ≤ 10 * 2 ^ j then 1 else 0
def xwh (s : Nat) : Nat → Nat → Nat
  | 0, _ => 0
  | n + 1, j => xwh s n j + if 10 * 2 ^ j < 12 * xun n s then 1 else 0
theorem xcr_le : ∀ n, xcr s n j ≤ n
  | 0 => Nat.le_refl 0
  | n + 1 => by
    have := xcr_le n
    show xcr s n j + (if 8 * xun n s ≤ 10 * 2 ^ j then 1 else 0) ≤ n + 1
    split <;> omega
theorem xwh_le : ∀ n, xwh s n j ≤ n
  | 0 => Nat.le_refl 0
  | n + 1 => by
    have := xwh_le n
    show xwh s n j + (if 10 * 2 ^ j < 12 * xun n s then 1 else 0) ≤ n + 1
    split <;> omega
def xgr (n : Nat) : Nat := max (xcr (n / 15 + 1) 240 (n % 15)) (xwh (n / 15 + 1) 240 (n % 15))
/-- the best of the first n tries -/
def xbest (b0 : Nat) : Nat → Nat × Nat × Nat
  | 0 => (b0, 0, 0)
  | n + 1 => if xgr n < (xbest b0 n).1 then (xgr n, n / 15 + 1, 10 * 2 ^ (n % 15)) else xbest b0 n
theorem xgr_le : xgr n ≤ 240 := Nat.max_le.mpr ⟨xcr_le 240, xwh_le 240⟩
theorem xbest_le {b0 : Nat} (hb : 240 ≤ b0) : ∀ n, (xbest b0 n).1 ≤ b0
  | 0 => Nat.le_refl b0
  | n + 1 => by
    have h := xbest_le hb n
    have h2 : xgr n ≤ 240 := xgr_le
    unfold xbest
    split
    · show xgr n ≤ b0
      omega
    · exact h
theorem xbest_eq : ∀ n, xbest 241 (n + 1) = xbest 1000 (n + 1)
  | 0 => by
    have h : xgr 0 ≤ 240 := xgr_le
    unfold xbest
    rw [if_pos (show xgr 0 < (xbest 241 0).1 by show xgr 0 < 241; omega), if_pos (show xgr 0 < (xbest 1000 0).1 by show xgr 0 < 1000; omega)]
  | n + 1 => by
    unfold xbest
    rw [xbest_eq n]
theorem x2j (h : j < 15) : 2 ^ j ≤ 16384 := Nat.pow_le_pow_right (n := 2) (by decide) (by omega : j ≤ 14)
theorem xadd01 {a : Nat} {p : Prop} {_ : Decidable p} (h : a ≤ 1000) : (a + (if p then 1 else 0)) % 4294967296 = a + (if p then 1 else 0) := by split <;> omega
theorem xshl (h : j < 15) : 10 * 2 ^ j % 4294967296 = 10 * 2 ^ j := by
  have := x2j h
  exact Nat.mod_eq_of_lt (by omega)
theorem xmx_ok : ((Nat.blt 0 (d + 1) && true) && true) = true := by
  rw [xblt_t (Nat.succ_pos d)]
  rfl
theorem xupd {c : Nat → Nat} : (if j + 1 ≤ i then (if i = j then f j + c j else f i) + c i else (if i = j then f j + c j else f i)) = if j ≤ i then f i + c i else f i := by
  rcases Nat.lt_trichotomy i j with h | h | h
  · rw [if_neg (by omega), if_neg (by omega), if_neg (by omega)]
  · subst h
    rw [if_neg (by omega), if_pos rfl, if_pos (Nat.le_refl _)]
  · rw [if_pos (by omega), if_neg (by omega), if_pos (by omega)]
def xOt (w w' : List (List xE)) : Prop := ∀ k, k ≠ 76 → k ≠ 78 → k ≠ 79 → wget w' k = wget w k
def xO2 (w w' : List (List xE)) : Prop := ∀ k, k ≠ 78 → k ≠ 79 → wget w' k = wget w k
theorem xRow.o2 {w' : List (List xE)} {L : Nat} (h : xRow w k L t f) (ho : xO2 w w') (h1 : k ≠ 78) (h2 : k ≠ 79) : xRow w' k L t f := by
  obtain ⟨us, e1, e2⟩ := h
  exact ⟨us, (ho k h1 h2).trans e1, e2⟩
theorem xRow.ot {w' : List (List xE)} {L : Nat} (h : xRow w k L t f) (ho : xOt w w') (h0 : k ≠ 76) (h1 : k ≠ 78) (h2 : k ≠ 79) : xRow w' k L t f := by
  obtain ⟨us, e1, e2⟩ := h
  exact ⟨us, (ho k h0 h1 h2).trans e1, e2⟩
theorem fl_lp : ∀ (n i : Nat) (w : List (List xE)) (f : Nat → Nat), i + n = 15 → xRow w k 15 t f → (∀ j, j < i → f j = 0) → xTo d mJ7_fill_53178 (5, [], [(0, (2, k)), (1, (0, 0)), (2, (0, i)), (3, (0, 15))], [], (w, bd, fc, 0, 0, rr)) (fun φ => ∃ w', xEnd 0 [] (w', bd, fc, 0, 0, rr) φ ∧ xRow w' k 15 t (fun _ => 0) ∧ xBut k w w')
  | 0, i, w, f, hn, h, h0 => by
    refine xg_t (xg_blk (b := [(5, 1, 2, 2, 0, 0), (6, 1, 2, 3, 0, 0), (7, 3, 6, 20, 3, 0), (10, 1, 0, 0, 0, 0), (11, 1, 2, 2, 0, 0), (12, 1, 2, 1, 0, 0), (13, 1, 17, 0, 0, 0), (14, 3, 9, 2, 1, 0), (17, 3, 8, 5, 0, 0)]) rfl) ?_
    refine xg_t (xg_iload (va := (0, i)) rfl rfl) ?_
    refine xg_t (xg_iload (va := (0, 15)) rfl rfl) ?_
    refine xg_t (xg_icT (u := i) (v := 15) rfl xnm0 xnm0 (xj_geT (by omega) (by omega))) ?_
    refine xg_t (xg_blk (b := [(20, 1, 12, 0, 0, 0)]) rfl) ?_
    exact xg_e ⟨w, ⟨rfl, rfl⟩, h.to (fun j hj => h0 j (by omega)), xBut.rf⟩
  | n + 1, i, w, f, hn, h, h0 => by
    refine xg_t (xg_blk (b := [(5, 1, 2, 2, 0, 0), (6, 1, 2, 3, 0, 0), (7, 3, 6, 20, 3, 0), (10, 1, 0, 0, 0, 0), (11, 1, 2, 2, 0, 0), (12, 1, 2, 1, 0, 0), (13, 1, 17, 0, 0, 0), (14, 3, 9, 2, 1, 0), (17, 3, 8, 5, 0, 0)]) rfl) ?_
    refine xg_t (xg_iload (va := (0, i)) rfl rfl) ?_
    refine xg_t (xg_iload (va := (0, 15)) rfl rfl) ?_
    refine xg_t (xg_icF (u := i) (v := 15) rfl xnm0 xnm0 (xj_geF (by omega) (by omega))) ?_
    refine xg_t (xg_aload (va := (2, k)) rfl rfl) ?_
    refine xg_t (xg_iload (va := (0, i)) rfl rfl) ?_
    refine xg_t (xg_iload (va := (0, 0)) rfl rfl) ?_
    refine xg_iastK (n := i) (u := 0) h xnm0 xnm0 rfl (by omega) (fun w1 hr1 hb1 => ?_)
    refine xg_t (xg_iinc (u := i) (z := i + 1) (l1 := [(0, (2, k)), (1, (0, 0)), (3, (0, 15))]) rfl rfl (by omega) rfl) ?_
    refine xg_t (xg_goto) ?_
    refine xg_t (xg_drop (l1 := [(0, (2, k)), (1, (0, 0)), (2, (0, i + 1)), (3, (0, 15))]) (List.forall_mem_cons.mpr ⟨List.mem_cons_of_mem _ (List.mem_cons_self), List.forall_mem_cons.mpr ⟨List.mem_cons_of_mem _ (List.mem_cons_of_mem _ (List.mem_cons_self)), List.forall_mem_cons.mpr ⟨List.mem_cons_self, List.forall_mem_cons.mpr ⟨List.mem_cons_of_mem _ (List.mem_cons_of_mem _ (List.mem_cons_of_mem _ (List.mem_cons_self))), fun _ h => absurd h List.not_mem_nil⟩⟩⟩⟩)) ?_
    refine (fl_lp n (i + 1) w1 (fun j => if j = i then 0 else f j) (by omega) hr1 (fun j hj => ?_)).imp (fun φ h => ?_)
    · show (if j = i then 0 else f j) = 0
      split
      · rfl
      · exact h0 j (by omega)
    · obtain ⟨w', e1, e2, e3⟩ := h
      exact ⟨w', e1, e2, hb1.tr e3⟩
theorem fill_ok (h : xRow w k 15 t f) : xPq d mJ7_fill_53178 [(2, k), (0, 0)] w bd fc rr [] (fun w' => xRow w' k 15 t (fun _ => 0) ∧ xBut k w w') := by
  obtain ⟨us, hus, -⟩ := id h
  refine xPq.of ?_
  show xTo d mJ7_fill_53178 (0, [], [(0, (2, k)), (1, (0, 0))], [], (w, bd, fc, 0, 0, rr)) (fun φ => ∃ w', xEnd 0 [] (w', bd, fc, 0, 0, rr) φ ∧ xRow w' k 15 t (fun _ => 0) ∧ xBut k w w')
  refine xg_t (xg_blk (b := [(0, 1, 3, 0, 0, 0), (1, 1, 15, 2, 0, 0), (2, 1, 0, 0, 0, 0), (3, 1, 31, 0, 0, 0), (4, 1, 15, 3, 0, 0)]) rfl) ?_
  refine xg_t (xg_const) ?_
  refine xg_t (xg_istore (l1 := [(0, (2, k)), (1, (0, 0))]) rfl rfl rfl) ?_
  refine xg_t (xg_aload (va := (2, k)) rfl rfl) ?_
  refine xg_t (xg_alen hus) ?_
  refine xg_t (xg_istore (l1 := [(2, (0, 0)), (0, (2, k)), (1, (0, 0))]) rfl rfl rfl) ?_
  refine xg_t (xg_drop (l1 := [(0, (2, k)), (1, (0, 0)), (2, (0, 0)), (3, (0, 15))]) (List.forall_mem_cons.mpr ⟨List.mem_cons_of_mem _ (List.mem_cons_of_mem _ (List.mem_cons_self)), List.forall_mem_cons.mpr ⟨List.mem_cons_of_mem _ (List.mem_cons_of_mem _ (List.mem_cons_of_mem _ (List.mem_cons_self))), List.forall_mem_cons.mpr ⟨List.mem_cons_of_mem _ (List.mem_cons_self), List.forall_mem_cons.mpr ⟨List.mem_cons_self, fun _ h => absurd h List.not_mem_nil⟩⟩⟩⟩)) ?_
  exact fl_lp 15 0 w f rfl h (fun j hj => absurd hj (Nat.not_lt_zero j))
theorem ct_in (hun : un ≤ 43740) : ∀ (n j : Nat) (w : List (List xE)) (f g : Nat → Nat), j + n = 15 → xLw w kl ns nf nn fr nx → xRow w 78 15 46 f → xRow w 79 15 47 g → (∀ i, j ≤ i → f i ≤ 1000) → (∀ i, j ≤ i → g i ≤ 1000) → xTo d mCT (43, [], [(0, (2, 76)), (1, (0, s)), (2, (0, l)), (3, (0, un)), (4, (0, j))], [], (w, bd, fc, 0, 0, rr)) (fun φ => ∃ w', φ = (110, [], [(0, (2, 76)), (1, (0, s)), (2, (0, l)), (3, (0, un)), (4, (0, 15))], [], (w', bd, fc, 0, 0, rr)) ∧ xRow w' 78 15 46 (fun i => if j ≤ i then f i + (if 8 * un ≤ 10 * 2 ^ i then 1 else 0) else f i) ∧ xRow w' 79 15 47 (fun i => if j ≤ i then g i + (if 10 * 2 ^ i < 12 * un then 1 else 0) else g i) ∧ xO2 w w')
  | 0, j, w, f, g, hn, h76, hf, hg, bf, bg => by
    obtain rfl : j = 15 := by omega
    refine xg_t (xg_blk (b := [(43, 2, 2, 4, 0, 0), (45, 2, 4, 15, 0, 0), (47, 3, 6, 110, 3, 0), (50, 1, 0, 0, 0, 0), (51, 3, 1, 4, 2, 15), (54, 2, 2, 4, 0, 0), (56, 1, 39, 0, 0, 0), (57, 1, 10, 0, 0, 0), (58, 2, 4, 10, 0, 0), (60, 2, 2, 4, 0, 0), (62, 1, 26, 0, 0, 0), (63, 2, 4, 8, 0, 0), (65, 1, 2, 3, 0, 0), (66, 1, 16, 0, 0, 0), (67, 3, 6, 74, 2, 0), (70, 1, 3, 1, 0, 0), (71, 3, 8, 75, 0, 0)]) rfl) ?_
    refine xg_t (xg_iload (va := (0, 15)) rfl rfl) ?_
    refine xg_t (xg_bip) ?_
    refine xg_t (xg_icT (u := 15) (v := 15) rfl xnm0 xnm0 (xj_geT (by omega) (by omega))) ?_
    exact xg_e ⟨w, rfl, hf.to (fun i hi => (if_neg (by omega)).symm), hg.to (fun i hi => (if_neg (by omega)).symm), fun _ _ _ => rfl⟩
  | n + 1, j, w, f, g, hn, h76, hf, hg, bf, bg => by
    have hj := x2j (show j < 15 by omega)
    refine xg_t (xg_blk (b := [(43, 2, 2, 4, 0, 0), (45, 2, 4, 15, 0, 0), (47, 3, 6, 110, 3, 0), (50, 1, 0, 0, 0, 0), (51, 3, 1, 4, 2, 15), (54, 2, 2, 4, 0, 0), (56, 1, 39, 0, 0, 0), (57, 1, 10, 0, 0, 0), (58, 2, 4, 10, 0, 0), (60, 2, 2, 4, 0, 0), (62, 1, 26, 0, 0, 0), (63, 2, 4, 8, 0, 0), (65, 1, 2, 3, 0, 0), (66, 1, 16, 0, 0, 0), (67, 3, 6, 74, 2, 0), (70, 1, 3, 1, 0, 0), (71, 3, 8, 75, 0, 0)]) rfl) ?_
    refine xg_t (xg_iload (va := (0, j)) rfl rfl) ?_
    refine xg_t (xg_bip) ?_
    refine xg_t (xg_icF (u := j) (v := 15) rfl xnm0 xnm0 (xj_geF (by omega) (by omega))) ?_
    refine xg_t (xg_aload (va := (2, 76)) rfl rfl) ?_
    refine xg_t (xg_getf (va := (2, 78)) h76 rfl) ?_
    refine xg_t (xg_iload (va := (0, j)) rfl rfl) ?_
    refine xg_t (xg_dup2 rfl) ?_
    refine xg_t (xg_ialdR (n := j) (u := f j) hf xnm0 (by omega) (rfl)) ?_
    refine xg_t (xg_bip) ?_
    refine xg_t (xg_iload (va := (0, j)) rfl rfl) ?_
    refine xg_t (xg_ishl (u := 10) (v := j) (z := 10 * 2 ^ j) xnm0 xnm0 (by omega) (xshl (by omega))) ?_
    refine xg_t (xg_bip) ?_
    refine xg_t (xg_iload (va := (0, un)) rfl rfl) ?_
    refine xg_t (xg_imul (u := 8) (v := un) (z := 8 * un) xnm0 xnm0 (by omega)) ?_
    refine xTo.bind (P := fun φ => φ = (75, [], [(0, (2, 76)), (1, (0, s)), (2, (0, l)), (3, (0, un)), (4, (0, j))], [(0, if 8 * un ≤ 10 * 2 ^ j then 1 else 0), (0, f j), (0, j), (2, 78)], (w, bd, fc, 0, 0, rr))) ?_ ?_
    · by_cases hc : 8 * un ≤ 10 * 2 ^ j
      · rw [if_pos hc]
        refine xg_t (xg_icF (u := 10 * 2 ^ j) (v := 8 * un) rfl xnm0 xnm0 (xj_ltF hc (by omega))) ?_
        refine xg_t (xg_const) ?_
        refine xg_t (xg_goto) ?_
        exact xg_e rfl
      · rw [if_neg hc]
        refine xg_t (xg_icT (u := 10 * 2 ^ j) (v := 8 * un) rfl xnm0 xnm0 (xj_ltT (by omega) (by omega))) ?_
        refine xg_t (xg_blk (b := [(74, 1, 3, 0, 0, 0)]) rfl) ?_
        refine xg_t (xg_const) ?_
        exact xg_e rfl
    intro φ hφ
    subst hφ
    refine xg_t (xg_blk (b := [(75, 1, 11, 0, 0, 0), (76, 1, 17, 0, 0, 0), (77, 1, 0, 0, 0, 0), (78, 3, 1, 4, 3, 18), (81, 2, 2, 4, 0, 0), (83, 1, 39, 0, 0, 0), (84, 1, 10, 0, 0, 0), (85, 2, 4, 10, 0, 0), (87, 2, 2, 4, 0, 0), (89, 1, 26, 0, 0, 0), (90, 2, 4, 12, 0, 0), (92, 1, 2, 3, 0, 0), (93, 1, 16, 0, 0, 0), (94, 3, 6, 101, 3, 0), (97, 1, 3, 1, 0, 0), (98, 3, 8, 102, 0, 0)]) rfl) ?_
    refine xg_t (xg_iadd (u := f j) (v := if 8 * un ≤ 10 * 2 ^ j then 1 else 0) (z := f j + (if 8 * un ≤ 10 * 2 ^ j then 1 else 0)) xnm0 xnm0 (xadd01 (bf j (Nat.le_refl j)))) ?_
    refine xg_iastK (n := j) (u := f j + (if 8 * un ≤ 10 * 2 ^ j then 1 else 0)) hf xnm0 xnm0 rfl (by omega) (fun w1 hr1 hb1 => ?_)
    refine xg_t (xg_aload (va := (2, 76)) rfl rfl) ?_
    refine xg_t (xg_getf (va := (2, 79)) (hb1.get (by decide) h76) rfl) ?_
    refine xg_t (xg_iload (va := (0, j)) rfl rfl) ?_
    refine xg_t (xg_dup2 rfl) ?_
    refine xg_t (xg_ialdR (n := j) (u := g j) (hg.but hb1 (by decide)) xnm0 (by omega) (rfl)) ?_
    refine xg_t (xg_bip) ?_
    refine xg_t (xg_iload (va := (0, j)) rfl rfl) ?_
    refine xg_t (xg_ishl (u := 10) (v := j) (z := 10 * 2 ^ j) xnm0 xnm0 (by omega) (xshl (by omega))) ?_
    refine xg_t (xg_bip) ?_
    refine xg_t (xg_iload (va := (0, un)) rfl rfl) ?_
    refine xg_t (xg_imul (u := 12) (v := un) (z := 12 * un) xnm0 xnm0 (by omega)) ?_
    refine xTo.bind (P := fun φ => φ = (102, [], [(0, (2, 76)), (1, (0, s)), (2, (0, l)), (3, (0, un)), (4, (0, j))], [(0, if 10 * 2 ^ j < 12 * un then 1 else 0), (0, g j), (0, j), (2, 79)], (w1, bd, fc, 0, 0, rr))) ?_ ?_
    · by_cases hc : 10 * 2 ^ j < 12 * un
      · rw [if_pos hc]
        refine xg_t (xg_icF (u := 10 * 2 ^ j) (v := 12 * un) rfl xnm0 xnm0 (xj_geF hc (by omega))) ?_
        refine xg_t (xg_const) ?_
        refine xg_t (xg_goto) ?_
        exact xg_e rfl
      · rw [if_neg hc]
        refine xg_t (xg_icT (u := 10 * 2 ^ j) (v := 12 * un) rfl xnm0 xnm0 (xj_geT (by omega) (by omega))) ?_
        refine xg_t (xg_blk (b := [(101, 1, 3, 0, 0, 0)]) rfl) ?_
        refine xg_t (xg_const) ?_
        exact xg_e rfl
    intro φ hφ
    subst hφ
    refine xg_t (xg_blk (b := [(102, 1, 11, 0, 0, 0), (103, 1, 17, 0, 0, 0), (104, 3, 9, 4, 1, 0), (107, 3, 8, 43, 0, 0)]) rfl) ?_
    refine xg_t (xg_iadd (u := g j) (v := if 10 * 2 ^ j < 12 * un then 1 else 0) (z := g j + (if 10 * 2 ^ j < 12 * un then 1 else 0)) xnm0 xnm0 (xadd01 (bg j (Nat.le_refl j)))) ?_
    refine xg_iastK (n := j) (u := g j + (if 10 * 2 ^ j < 12 * un then 1 else 0)) (hg.but hb1 (by decide)) xnm0 xnm0 rfl (by omega) (fun w2 hr2 hb2 => ?_)
    refine xg_t (xg_iinc (u := j) (z := j + 1) (l1 := [(0, (2, 76)), (1, (0, s)), (2, (0, l)), (3, (0, un))]) rfl rfl (by omega) rfl) ?_
    refine xg_t (xg_goto) ?_
    refine xg_t (xg_drop (l1 := [(0, (2, 76)), (1, (0, s)), (2, (0, l)), (3, (0, un)), (4, (0, j + 1))]) (List.forall_mem_cons.mpr ⟨List.mem_cons_of_mem _ (List.mem_cons_self), List.forall_mem_cons.mpr ⟨List.mem_cons_of_mem _ (List.mem_cons_of_mem _ (List.mem_cons_self)), List.forall_mem_cons.mpr ⟨List.mem_cons_of_mem _ (List.mem_cons_of_mem _ (List.mem_cons_of_mem _ (List.mem_cons_self))), List.forall_mem_cons.mpr ⟨List.mem_cons_of_mem _ (List.mem_cons_of_mem _ (List.mem_cons_of_mem _ (List.mem_cons_of_mem _ (List.mem_cons_self)))), List.forall_mem_cons.mpr ⟨List.mem_cons_self, fun _ h => absurd h List.not_mem_nil⟩⟩⟩⟩⟩)) ?_
    refine (ct_in hun n (j + 1) w2 (fun i => if i = j then f j + (if 8 * un ≤ 10 * 2 ^ j then 1 else 0) else f i) (fun i => if i = j then g j + (if 10 * 2 ^ j < 12 * un then 1 else 0) else g i) (by omega) (hb2.get (by decide) (hb1.get (by decide) h76)) (hr1.but hb2 (by decide)) hr2 (fun i hi => ?_) (fun i hi => ?_)).imp (fun φ h => ?_)
    · show (if i = j then f j + (if 8 * un ≤ 10 * 2 ^ j then 1 else 0) else f i) ≤ 1000
      rw [if_neg (by omega)]
      exact bf i (by omega)
    · show (if i = j then g j + (if 10 * 2 ^ j < 12 * un then 1 else 0) else g i) ≤ 1000
      rw [if_neg (by omega)]
      exact bg i (by omega)
    · obtain ⟨w', e1, e2, e3, e4⟩ := h
      exact ⟨w', e1, e2.to (fun i hi => xupd (c := fun i => if 8 * un ≤ 10 * 2 ^ i then 1 else 0)), e3.to (fun i hi => xupd (f := g) (c := fun i => if 10 * 2 ^ i < 12 * un then 1 else 0)), fun k h1 h2 => (e4 k h1 h2).trans ((hb2 k h2).trans (hb1 k h1))⟩
theorem ct_lp (h1 : 1 ≤ s) (h2 : s ≤ 9) : ∀ (n l : Nat) (w : List (List xE)), l + n = 240 → xLw w kl ns nf nn fr nx → xC77 w → xRow w 78 15 46 (xcr s l) → xRow w 79 15 47 (xwh s l) → xTo (d + 1) mCT (18, [], [(0, (2, 76)), (1, (0, s)), (2, (0, l))], [], (w, bd, fc, 0, 0, rr)) (fun φ => ∃ w', xEnd 0 [] (w', bd, fc, 0, 0, rr) φ ∧ xRow w' 78 15 46 (xcr s 240) ∧ xRow w' 79 15 47 (xwh s 240) ∧ xO2 w w')
  | 0, l, w, hn, h76, h77, hf, hg => by
    obtain rfl : l = 240 := by omega
    refine xg_t (xg_blk (b := [(18, 1, 2, 2, 0, 0), (19, 3, 5, 240, 0, 0), (22, 3, 6, 116, 3, 0), (25, 1, 0, 0, 0, 0), (26, 3, 1, 4, 1, 11), (29, 1, 2, 2, 0, 0), (30, 1, 10, 0, 0, 0), (31, 3, 7, 110, 1, 0), (34, 1, 2, 2, 0, 0), (35, 1, 2, 1, 0, 0), (36, 3, 13, 203, 34, 54), (39, 1, 15, 3, 0, 0), (40, 1, 3, 0, 0, 0), (41, 2, 15, 4, 0, 0)]) rfl) ?_
    refine xg_t (xg_iload (va := (0, 240)) rfl rfl) ?_
    refine xg_t (xg_sip) ?_
    refine xg_t (xg_icT (u := 240) (v := 240) rfl xnm0 xnm0 (xj_geT (by omega) (by omega))) ?_
    refine xg_t (xg_blk (b := [(116, 1, 12, 0, 0, 0)]) rfl) ?_
    exact xg_e ⟨w, ⟨rfl, rfl⟩, hf, hg, fun _ _ _ => rfl⟩
  | n + 1, l, w, hn, h76, h77, hf, hg => by
    refine xg_t (xg_blk (b := [(18, 1, 2, 2, 0, 0), (19, 3, 5, 240, 0, 0), (22, 3, 6, 116, 3, 0), (25, 1, 0, 0, 0, 0), (26, 3, 1, 4, 1, 11), (29, 1, 2, 2, 0, 0), (30, 1, 10, 0, 0, 0), (31, 3, 7, 110, 1, 0), (34, 1, 2, 2, 0, 0), (35, 1, 2, 1, 0, 0), (36, 3, 13, 203, 34, 54), (39, 1, 15, 3, 0, 0), (40, 1, 3, 0, 0, 0), (41, 2, 15, 4, 0, 0)]) rfl) ?_
    refine xg_t (xg_iload (va := (0, l)) rfl rfl) ?_
    refine xg_t (xg_sip) ?_
    refine xg_t (xg_icF (u := l) (v := 240) rfl xnm0 xnm0 (xj_geF (by omega) (by omega))) ?_
    refine xg_t (xg_aload (va := (2, 76)) rfl rfl) ?_
    refine xg_t (xg_getf (va := (2, 77)) h76 rfl) ?_
    refine xg_t (xg_iload (va := (0, l)) rfl rfl) ?_
    refine xg_t (xg_ialdR (n := l) (u := 0) h77 xnm0 (by omega) (rfl)) ?_
    refine xg_t (xg_ifF (u := 0) rfl xnm0 (xj_neF rfl)) ?_
    refine xg_t (xg_iload (va := (0, l)) rfl rfl) ?_
    refine xg_t (xg_iload (va := (0, s)) rfl rfl) ?_
    refine xg_t (xg_cSr mX4_unitAt (vs := [(0, l), (0, s)]) (rest := []) (rs := [(0, xun l s)]) (cn1 := 0) (sl1 := 0) rfl (unitAt_ok (by omega) h1 h2) rfl rfl rfl rfl rfl rfl rfl rfl) ?_
    refine xg_t (xg_istore (l1 := [(0, (2, 76)), (1, (0, s)), (2, (0, l))]) rfl rfl rfl) ?_
    refine xg_t (xg_const) ?_
    refine xg_t (xg_istore (l1 := [(3, (0, xun l s)), (0, (2, 76)), (1, (0, s)), (2, (0, l))]) rfl rfl rfl) ?_
    refine xg_t (xg_drop (l1 := [(0, (2, 76)), (1, (0, s)), (2, (0, l)), (3, (0, xun l s)), (4, (0, 0))]) (List.forall_mem_cons.mpr ⟨List.mem_cons_of_mem _ (List.mem_cons_of_mem _ (List.mem_cons_self)), List.forall_mem_cons.mpr ⟨List.mem_cons_of_mem _ (List.mem_cons_of_mem _ (List.mem_cons_of_mem _ (List.mem_cons_self))), List.forall_mem_cons.mpr ⟨List.mem_cons_of_mem _ (List.mem_cons_of_mem _ (List.mem_cons_of_mem _ (List.mem_cons_of_mem _ (List.mem_cons_self)))), List.forall_mem_cons.mpr ⟨List.mem_cons_of_mem _ (List.mem_cons_self), List.forall_mem_cons.mpr ⟨List.mem_cons_self, fun _ h => absurd h List.not_mem_nil⟩⟩⟩⟩⟩)) ?_
    refine (ct_in (xun_le (by omega) h1) 15 0 w (xcr s l) (xwh s l) rfl h76 hf hg (fun i _ => Nat.le_trans (xcr_le l) (by omega)) (fun i _ => Nat.le_trans (xwh_le l) (by omega))).bind (fun φ h => ?_)
    obtain ⟨w1, rfl, r1, r2, ho⟩ := h
    refine xg_t (xg_blk (b := [(110, 3, 9, 2, 1, 0), (113, 3, 8, 18, 0, 0)]) rfl) ?_
    refine xg_t (xg_iinc (u := l) (z := l + 1) (l1 := [(0, (2, 76)), (1, (0, s)), (3, (0, xun l s)), (4, (0, 15))]) rfl rfl (by omega) rfl) ?_
    refine xg_t (xg_goto) ?_
    refine xg_t (xg_drop (l1 := [(0, (2, 76)), (1, (0, s)), (2, (0, l + 1))]) (List.forall_mem_cons.mpr ⟨List.mem_cons_of_mem _ (List.mem_cons_self), List.forall_mem_cons.mpr ⟨List.mem_cons_of_mem _ (List.mem_cons_of_mem _ (List.mem_cons_self)), List.forall_mem_cons.mpr ⟨List.mem_cons_self, fun _ h => absurd h List.not_mem_nil⟩⟩⟩)) ?_
    refine (ct_lp h1 h2 n (l + 1) w1 (by omega) ((ho 76 (by decide) (by decide)).trans h76) (h77.o2 ho (by decide) (by decide)) (r1.to (fun i _ => if_pos (Nat.zero_le i))) (r2.to (fun i _ => if_pos (Nat.zero_le i)))).imp (fun φ h => ?_)
    obtain ⟨w', e1, e2, e3, e4⟩ := h
    exact ⟨w', e1, e2, e3, fun k q1 q2 => (e4 k q1 q2).trans (ho k q1 q2)⟩
theorem countTries_ok (h1 : 1 ≤ s) (h2 : s ≤ 9) (h76 : xLw w kl ns nf nn fr nx) (h77 : xC77 w) (hf : xRow w 78 15 46 f) (hg : xRow w 79 15 47 g) : xPq (d + 1) mCT [(2, 76), (0, s)] w bd fc rr [] (fun w' => xRow w' 78 15 46 (xcr s 240) ∧ xRow w' 79 15 47 (xwh s 240) ∧ xO2 w w') := by
  refine xPq.of ?_
  show xTo (d + 1) mCT (0, [], [(0, (2, 76)), (1, (0, s))], [], (w, bd, fc, 0, 0, rr)) (fun φ => ∃ w', xEnd 0 [] (w', bd, fc, 0, 0, rr) φ ∧ xRow w' 78 15 46 (xcr s 240) ∧ xRow w' 79 15 47 (xwh s 240) ∧ xO2 w w')
  refine xg_t (xg_blk (b := [(0, 1, 0, 0, 0, 0), (1, 3, 1, 4, 2, 15), (4, 1, 3, 0, 0, 0), (5, 3, 13, 1, 2, 94), (8, 1, 0, 0, 0, 0), (9, 3, 1, 4, 3, 18), (12, 1, 3, 0, 0, 0), (13, 3, 13, 1, 2, 94), (16, 1, 3, 0, 0, 0), (17, 1, 15, 2, 0, 0)]) rfl) ?_
  refine xg_t (xg_aload (va := (2, 76)) rfl rfl) ?_
  refine xg_t (xg_getf (va := (2, 78)) h76 rfl) ?_
  refine xg_t (xg_const) ?_
  refine xg_cS mJ7_fill_53178 (vs := [(2, 78), (0, 0)]) (rest := []) (rs := []) (cn1 := 0) (sl1 := 0) rfl (fill_ok hf) rfl rfl rfl rfl rfl rfl rfl rfl (fun w1 q1 => ?_)
  refine xg_t (xg_aload (va := (2, 76)) rfl rfl) ?_
  refine xg_t (xg_getf (va := (2, 79)) (q1.2.get (by decide) h76) rfl) ?_
  refine xg_t (xg_const) ?_
  refine xg_cS mJ7_fill_53178 (vs := [(2, 79), (0, 0)]) (rest := []) (rs := []) (cn1 := 0) (sl1 := 0) rfl (fill_ok (hg.but q1.2 (by decide))) rfl rfl rfl rfl rfl rfl rfl rfl (fun w2 q2 => ?_)
  refine xg_t (xg_const) ?_
  refine xg_t (xg_istore (l1 := [(0, (2, 76)), (1, (0, s))]) rfl rfl rfl) ?_
  refine xg_t (xg_drop (l1 := [(0, (2, 76)), (1, (0, s)), (2, (0, 0))]) (List.forall_mem_cons.mpr ⟨List.mem_cons_of_mem _ (List.mem_cons_self), List.forall_mem_cons.mpr ⟨List.mem_cons_of_mem _ (List.mem_cons_of_mem _ (List.mem_cons_self)), List.forall_mem_cons.mpr ⟨List.mem_cons_self, fun _ h => absurd h List.not_mem_nil⟩⟩⟩)) ?_
  refine (ct_lp h1 h2 240 0 w2 rfl (q2.2.get (by decide) (q1.2.get (by decide) h76)) ((h77.but q1.2 (by decide)).but q2.2 (by decide)) ((q1.1.but q2.2 (by decide)).to (fun i _ => rfl)) (q2.1.to (fun i _ => rfl))).imp (fun φ h => ?_)
  obtain ⟨w', e1, e2, e3, e4⟩ := h
  exact ⟨w', e1, e2, e3, fun k p1 p2 => (e4 k p1 p2).trans ((q2.2 k p2).trans (q1.2 k p1))⟩
theorem xN1 (h1 : 1 ≤ s) (hj : j < 15) : (15 * (s - 1) + j) / 15 + 1 = s := by omega
theorem xN2 (hj : j < 15) : (15 * (s - 1) + j) % 15 = j := by omega
theorem xgr_at (h1 : 1 ≤ s) (hj : j < 15) : xgr (15 * (s - 1) + j) = max (xcr s 240 j) (xwh s 240 j) := by
  unfold xgr
  rw [xN1 h1 hj, xN2 hj]
theorem xbest_t (h1 : 1 ≤ s) (hj : j < 15) (hc : max (xcr s 240 j) (xwh s 240 j) < (xbest 241 (15 * (s - 1) + j)).1) : xbest 241 (15 * (s - 1) + (j + 1)) = (max (xcr s 240 j) (xwh s 240 j), s, 10 * 2 ^ j) := by
  show (if xgr (15 * (s - 1) + j) < (xbest 241 (15 * (s - 1) + j)).1 then (xgr (15 * (s - 1) + j), (15 * (s - 1) + j) / 15 + 1, 10 * 2 ^ ((15 * (s - 1) + j) % 15)) else (xbest 241 (15 * (s - 1) + j))) = _
  rw [xgr_at h1 hj, if_pos hc, xN1 h1 hj, xN2 hj]
theorem xbest_f (h1 : 1 ≤ s) (hj : j < 15) (hc : ¬ max (xcr s 240 j) (xwh s 240 j) < (xbest 241 (15 * (s - 1) + j)).1) : xbest 241 (15 * (s - 1) + (j + 1)) = (xbest 241 (15 * (s - 1) + j)) := by
  show (if xgr (15 * (s - 1) + j) < (xbest 241 (15 * (s - 1) + j)).1 then (xgr (15 * (s - 1) + j), (15 * (s - 1) + j) / 15 + 1, 10 * 2 ^ ((15 * (s - 1) + j) % 15)) else (xbest 241 (15 * (s - 1) + j))) = _
  rw [xgr_at h1 hj, if_neg hc]
theorem rn_in (h1 : 1 ≤ s) : ∀ (n j : Nat) (w : List (List xE)), j + n = 15 → xLw w 240 (xbest 241 (15 * (s - 1) + j)).2.1 (xbest 241 (15 * (s - 1) + j)).2.2 (xbest 241 (15 * (s - 1) + j)).1 1 0 → xRow w 78 15 46 (xcr s 240) → xRow w 79 15 47 (xwh s 240) → xTo (d + 1) mRN (30, [], [(0, (2, 76)), (1, (0, s)), (2, (0, j))], [], (w, bd, fc, 0, 0, rr)) (fun φ => ∃ w', φ = (84, [], [(0, (2, 76)), (1, (0, s)), (2, (0, 15))], [], (w', bd, fc, 0, 0, rr)) ∧ xLw w' 240 (xbest 241 (15 * (s - 1) + 15)).2.1 (xbest 241 (15 * (s - 1) + 15)).2.2 (xbest 241 (15 * (s - 1) + 15)).1 1 0 ∧ xBut 76 w w')
  | 0, j, w, hn, h76, hf, hg => by
    obtain rfl : j = 15 := by omega
    refine xg_t (xg_blk (b := [(30, 1, 2, 2, 0, 0), (31, 2, 4, 15, 0, 0), (33, 3, 6, 84, 3, 0), (36, 1, 0, 0, 0, 0), (37, 3, 1, 4, 2, 15), (40, 1, 2, 2, 0, 0), (41, 1, 10, 0, 0, 0), (42, 1, 0, 0, 0, 0), (43, 3, 1, 4, 3, 18), (46, 1, 2, 2, 0, 0), (47, 1, 10, 0, 0, 0), (48, 3, 62, 0, 0, 68), (51, 1, 15, 3, 0, 0), (52, 1, 2, 3, 0, 0), (53, 1, 0, 0, 0, 0), (54, 3, 1, 4, 8, 81), (57, 3, 6, 78, 3, 0), (60, 1, 0, 0, 0, 0), (61, 1, 2, 3, 0, 0), (62, 3, 14, 4, 8, 81), (65, 1, 0, 0, 0, 0), (66, 1, 2, 1, 0, 0), (67, 3, 14, 4, 6, 88), (70, 1, 0, 0, 0, 0), (71, 2, 4, 10, 0, 0), (73, 1, 2, 2, 0, 0), (74, 1, 26, 0, 0, 0), (75, 3, 14, 4, 7, 91)]) rfl) ?_
    refine xg_t (xg_iload (va := (0, 15)) rfl rfl) ?_
    refine xg_t (xg_bip) ?_
    refine xg_t (xg_icT (u := 15) (v := 15) rfl xnm0 xnm0 (xj_geT (by omega) (by omega))) ?_
    exact xg_e ⟨w, rfl, h76, xBut.rf⟩
  | n + 1, j, w, hn, h76, hf, hg => by
    have c1 : xcr s 240 j ≤ 240 := xcr_le 240
    have c2 : xwh s 240 j ≤ 240 := xwh_le 240
    have c3 : (xbest 241 (15 * (s - 1) + j)).1 ≤ 241 := xbest_le (by decide) _
    have c4 : max (xcr s 240 j) (xwh s 240 j) ≤ 240 := Nat.max_le.mpr ⟨c1, c2⟩
    refine xg_t (xg_blk (b := [(30, 1, 2, 2, 0, 0), (31, 2, 4, 15, 0, 0), (33, 3, 6, 84, 3, 0), (36, 1, 0, 0, 0, 0), (37, 3, 1, 4, 2, 15), (40, 1, 2, 2, 0, 0), (41, 1, 10, 0, 0, 0), (42, 1, 0, 0, 0, 0), (43, 3, 1, 4, 3, 18), (46, 1, 2, 2, 0, 0), (47, 1, 10, 0, 0, 0), (48, 3, 62, 0, 0, 68), (51, 1, 15, 3, 0, 0), (52, 1, 2, 3, 0, 0), (53, 1, 0, 0, 0, 0), (54, 3, 1, 4, 8, 81), (57, 3, 6, 78, 3, 0), (60, 1, 0, 0, 0, 0), (61, 1, 2, 3, 0, 0), (62, 3, 14, 4, 8, 81), (65, 1, 0, 0, 0, 0), (66, 1, 2, 1, 0, 0), (67, 3, 14, 4, 6, 88), (70, 1, 0, 0, 0, 0), (71, 2, 4, 10, 0, 0), (73, 1, 2, 2, 0, 0), (74, 1, 26, 0, 0, 0), (75, 3, 14, 4, 7, 91)]) rfl) ?_
    refine xg_t (xg_iload (va := (0, j)) rfl rfl) ?_
    refine xg_t (xg_bip) ?_
    refine xg_t (xg_icF (u := j) (v := 15) rfl xnm0 xnm0 (xj_geF (by omega) (by omega))) ?_
    refine xg_t (xg_aload (va := (2, 76)) rfl rfl) ?_
    refine xg_t (xg_getf (va := (2, 78)) h76 rfl) ?_
    refine xg_t (xg_iload (va := (0, j)) rfl rfl) ?_
    refine xg_t (xg_ialdR (n := j) (u := xcr s 240 j) hf xnm0 (by omega) (rfl)) ?_
    refine xg_t (xg_aload (va := (2, 76)) rfl rfl) ?_
    refine xg_t (xg_getf (va := (2, 79)) h76 rfl) ?_
    refine xg_t (xg_iload (va := (0, j)) rfl rfl) ?_
    refine xg_t (xg_ialdR (n := j) (u := xwh s 240 j) hg xnm0 (by omega) (rfl)) ?_
    refine xg_t (xg_max (u := xcr s 240 j) (v := xwh s 240 j) (z := max (xcr s 240 j) (xwh s 240 j)) xnm0 xnm0 xmx_ok (by omega) (by omega) (rfl)) ?_
    refine xg_t (xg_istore (l1 := [(0, (2, 76)), (1, (0, s)), (2, (0, j))]) rfl rfl rfl) ?_
    refine xg_t (xg_iload (va := (0, max (xcr s 240 j) (xwh s 240 j))) rfl rfl) ?_
    refine xg_t (xg_aload (va := (2, 76)) rfl rfl) ?_
    refine xg_t (xg_getf (va := (0, (xbest 241 (15 * (s - 1) + j)).1)) h76 rfl) ?_
    by_cases hc : max (xcr s 240 j) (xwh s 240 j) < (xbest 241 (15 * (s - 1) + j)).1
    · have e := xbest_t h1 (by omega) hc
      refine xg_t (xg_icF (u := max (xcr s 240 j) (xwh s 240 j)) (v := (xbest 241 (15 * (s - 1) + j)).1) rfl xnm0 xnm0 (xj_geF hc (by omega))) ?_
      refine xg_t (xg_aload (va := (2, 76)) rfl rfl) ?_
      refine xg_t (xg_iload (va := (0, max (xcr s 240 j) (xwh s 240 j))) rfl rfl) ?_
      refine xg_putI (fl1 := [(2, 20), (2, 77), (2, 78), (2, 79), (0, 240), (0, 0), (0, (xbest 241 (15 * (s - 1) + j)).2.1), (0, (xbest 241 (15 * (s - 1) + j)).2.2), (0, max (xcr s 240 j) (xwh s 240 j)), (0, 1), (0, 0), (0, 0)]) h76 rfl rfl rfl (fun w1 h1a hb1 => ?_)
      refine xg_t (xg_aload (va := (2, 76)) rfl rfl) ?_
      refine xg_t (xg_iload (va := (0, s)) rfl rfl) ?_
      refine xg_putI (fl1 := [(2, 20), (2, 77), (2, 78), (2, 79), (0, 240), (0, 0), (0, s), (0, (xbest 241 (15 * (s - 1) + j)).2.2), (0, max (xcr s 240 j) (xwh s 240 j)), (0, 1), (0, 0), (0, 0)]) h1a rfl rfl rfl (fun w2 h2a hb2 => ?_)
      refine xg_t (xg_aload (va := (2, 76)) rfl rfl) ?_
      refine xg_t (xg_bip) ?_
      refine xg_t (xg_iload (va := (0, j)) rfl rfl) ?_
      refine xg_t (xg_ishl (u := 10) (v := j) (z := 10 * 2 ^ j) xnm0 xnm0 (by omega) (xshl (by omega))) ?_
      refine xg_putI (fl1 := [(2, 20), (2, 77), (2, 78), (2, 79), (0, 240), (0, 0), (0, s), (0, 10 * 2 ^ j), (0, max (xcr s 240 j) (xwh s 240 j)), (0, 1), (0, 0), (0, 0)]) h2a rfl rfl rfl (fun w3 h3a hb3 => ?_)
      refine xg_t (xg_blk (b := [(78, 3, 9, 2, 1, 0), (81, 3, 8, 30, 0, 0)]) rfl) ?_
      refine xg_t (xg_iinc (u := j) (z := j + 1) (l1 := [(3, (0, max (xcr s 240 j) (xwh s 240 j))), (0, (2, 76)), (1, (0, s))]) rfl rfl (by omega) rfl) ?_
      refine xg_t (xg_goto) ?_
      refine xg_t (xg_drop (l1 := [(0, (2, 76)), (1, (0, s)), (2, (0, j + 1))]) (List.forall_mem_cons.mpr ⟨List.mem_cons_of_mem _ (List.mem_cons_of_mem _ (List.mem_cons_self)), List.forall_mem_cons.mpr ⟨List.mem_cons_of_mem _ (List.mem_cons_of_mem _ (List.mem_cons_of_mem _ (List.mem_cons_self))), List.forall_mem_cons.mpr ⟨List.mem_cons_self, fun _ h => absurd h List.not_mem_nil⟩⟩⟩)) ?_
      refine (rn_in h1 n (j + 1) w3 (by omega) (by rw [e]; exact h3a) (((hf.but hb1 (by decide)).but hb2 (by decide)).but hb3 (by decide)) (((hg.but hb1 (by decide)).but hb2 (by decide)).but hb3 (by decide))).imp (fun φ h => ?_)
      obtain ⟨w', e1, e2, e3⟩ := h
      exact ⟨w', e1, e2, ((hb1.tr hb2).tr hb3).tr e3⟩
    · have e := xbest_f h1 (by omega) hc
      refine xg_t (xg_icT (u := max (xcr s 240 j) (xwh s 240 j)) (v := (xbest 241 (15 * (s - 1) + j)).1) rfl xnm0 xnm0 (xj_geT (by omega) (by omega))) ?_
      refine xg_t (xg_blk (b := [(78, 3, 9, 2, 1, 0), (81, 3, 8, 30, 0, 0)]) rfl) ?_
      refine xg_t (xg_iinc (u := j) (z := j + 1) (l1 := [(3, (0, max (xcr s 240 j) (xwh s 240 j))), (0, (2, 76)), (1, (0, s))]) rfl rfl (by omega) rfl) ?_
      refine xg_t (xg_goto) ?_
      refine xg_t (xg_drop (l1 := [(0, (2, 76)), (1, (0, s)), (2, (0, j + 1))]) (List.forall_mem_cons.mpr ⟨List.mem_cons_of_mem _ (List.mem_cons_of_mem _ (List.mem_cons_self)), List.forall_mem_cons.mpr ⟨List.mem_cons_of_mem _ (List.mem_cons_of_mem _ (List.mem_cons_of_mem _ (List.mem_cons_self))), List.forall_mem_cons.mpr ⟨List.mem_cons_self, fun _ h => absurd h List.not_mem_nil⟩⟩⟩)) ?_
      exact rn_in h1 n (j + 1) w (by omega) (by rw [e]; exact h76) hf hg
theorem rn_lp : ∀ (n s : Nat) (w : List (List xE)), s + n = 10 → 1 ≤ s → xLw w 240 (xbest 241 (15 * (s - 1))).2.1 (xbest 241 (15 * (s - 1))).2.2 (xbest 241 (15 * (s - 1))).1 1 0 → xC77 w → (∃ f, xRow w 78 15 46 f) → (∃ g, xRow w 79 15 47 g) → xTo (d + 2) mRN (17, [], [(0, (2, 76)), (1, (0, s))], [], (w, bd, fc, 0, 0, rr)) (fun φ => ∃ w', xEnd 0 [] (w', bd, fc, 0, 0, rr) φ ∧ xLw w' 240 (xbest 241 135).2.1 (xbest 241 135).2.2 (xbest 241 135).1 1 1 ∧ xOt w w')
  | 0, s, w, hn, h1, h76, h77, hf, hg => by
    obtain rfl : s = 10 := by omega
    refine xg_t (xg_blk (b := [(17, 1, 2, 1, 0, 0), (18, 2, 4, 9, 0, 0), (20, 3, 6, 90, 4, 0), (23, 1, 0, 0, 0, 0), (24, 1, 2, 1, 0, 0)]) rfl) ?_
    refine xg_t (xg_iload (va := (0, 10)) rfl rfl) ?_
    refine xg_t (xg_bip) ?_
    refine xg_t (xg_icT (u := 10) (v := 9) rfl xnm0 xnm0 (xj_gtT (by omega) (by omega))) ?_
    refine xg_t (xg_blk (b := [(90, 1, 0, 0, 0, 0), (91, 1, 3, 1, 0, 0), (92, 3, 59, 4, 11, 32), (95, 1, 12, 0, 0, 0)]) rfl) ?_
    refine xg_t (xg_aload (va := (2, 76)) rfl rfl) ?_
    refine xg_t (xg_const) ?_
    refine xg_putZ (fl1 := [(2, 20), (2, 77), (2, 78), (2, 79), (0, 240), (0, 0), (0, (xbest 241 (15 * (10 - 1))).2.1), (0, (xbest 241 (15 * (10 - 1))).2.2), (0, (xbest 241 (15 * (10 - 1))).1), (0, 1), (0, 0), (0, 1)]) h76 rfl rfl rfl (fun w1 h76a hb1 => ?_)
    rw [show 15 * (10 - 1) = 135 from rfl] at h76a
    exact xg_e ⟨w1, ⟨rfl, rfl⟩, h76a, fun k q0 _ _ => hb1 k q0⟩
  | n + 1, s, w, hn, h1, h76, h77, hf, hg => by
    obtain ⟨f, hf⟩ := hf
    obtain ⟨g, hg⟩ := hg
    refine xg_t (xg_blk (b := [(17, 1, 2, 1, 0, 0), (18, 2, 4, 9, 0, 0), (20, 3, 6, 90, 4, 0), (23, 1, 0, 0, 0, 0), (24, 1, 2, 1, 0, 0)]) rfl) ?_
    refine xg_t (xg_iload (va := (0, s)) rfl rfl) ?_
    refine xg_t (xg_bip) ?_
    refine xg_t (xg_icF (u := s) (v := 9) rfl xnm0 xnm0 (xj_gtF (by omega) (by omega))) ?_
    refine xg_t (xg_aload (va := (2, 76)) rfl rfl) ?_
    refine xg_t (xg_iload (va := (0, s)) rfl rfl) ?_
    refine xg_cX (M' := mCT) (ci := 4) (vs := [(0, s)]) (rest := []) (rs := []) (cn1 := 0) (sl1 := 0) nd2 vCT nl4 nl5 nl6 rfl rfl (countTries_ok h1 (by omega) h76 h77 hf hg) h76 rfl rfl rfl rfl rfl rfl rfl (fun w1 q1 => ?_)
    refine xg_t (xg_blk (b := [(28, 1, 3, 0, 0, 0), (29, 1, 15, 2, 0, 0)]) rfl) ?_
    refine xg_t (xg_const) ?_
    refine xg_t (xg_istore (l1 := [(0, (2, 76)), (1, (0, s))]) rfl rfl rfl) ?_
    refine xg_t (xg_drop (l1 := [(0, (2, 76)), (1, (0, s)), (2, (0, 0))]) (List.forall_mem_cons.mpr ⟨List.mem_cons_of_mem _ (List.mem_cons_self), List.forall_mem_cons.mpr ⟨List.mem_cons_of_mem _ (List.mem_cons_of_mem _ (List.mem_cons_self)), List.forall_mem_cons.mpr ⟨List.mem_cons_self, fun _ h => absurd h List.not_mem_nil⟩⟩⟩)) ?_
    refine (rn_in h1 15 0 w1 rfl ((q1.2.2 76 (by decide) (by decide)).trans h76) q1.1 q1.2.1).bind (fun φ h => ?_)
    obtain ⟨w2, rfl, g1, g2⟩ := h
    refine xg_t (xg_blk (b := [(84, 3, 9, 1, 1, 0), (87, 3, 8, 17, 0, 0)]) rfl) ?_
    refine xg_t (xg_iinc (u := s) (z := s + 1) (l1 := [(0, (2, 76)), (2, (0, 15))]) rfl rfl (by omega) rfl) ?_
    refine xg_t (xg_goto) ?_
    refine xg_t (xg_drop (l1 := [(0, (2, 76)), (1, (0, s + 1))]) (List.forall_mem_cons.mpr ⟨List.mem_cons_of_mem _ (List.mem_cons_self), List.forall_mem_cons.mpr ⟨List.mem_cons_self, fun _ h => absurd h List.not_mem_nil⟩⟩)) ?_
    have e : 15 * (s + 1 - 1) = 15 * (s - 1) + 15 := by omega
    refine (rn_lp n (s + 1) w2 (by omega) (by omega) (by rw [e]; exact g1) ((h77.o2 q1.2.2 (by decide) (by decide)).but g2 (by decide)) ⟨_, q1.1.but g2 (by decide)⟩ ⟨_, q1.2.1.but g2 (by decide)⟩).imp (fun φ h => ?_)
    obtain ⟨w', e1, e2, e3⟩ := h
    exact ⟨w', e1, e2, fun k p0 p1 p2 => (e3 k p0 p1 p2).trans ((g2 k p0).trans (q1.2.2 k p1 p2))⟩
theorem refreshNext_ok (h76 : xLw w 240 0 0 0 1 0) (h77 : xC77 w) (hf : xRow w 78 15 46 f) (hg : xRow w 79 15 47 g) : xPq (d + 2) mRN [(2, 76)] w bd fc rr [] (fun w' => xLw w' 240 (xbest 241 135).2.1 (xbest 241 135).2.2 (xbest 241 135).1 1 1 ∧ xOt w w') := by
  refine xPq.of ?_
  show xTo (d + 2) mRN (0, [], [(0, (2, 76))], [], (w, bd, fc, 0, 0, rr)) (fun φ => ∃ w', xEnd 0 [] (w', bd, fc, 0, 0, rr) φ ∧ xLw w' 240 (xbest 241 135).2.1 (xbest 241 135).2.2 (xbest 241 135).1 1 1 ∧ xOt w w')
  refine xg_t (xg_blk (b := [(0, 1, 0, 0, 0, 0), (1, 3, 1, 4, 11, 32), (4, 3, 7, 8, 0, 0), (7, 1, 12, 0, 0, 0)]) rfl) ?_
  refine xg_t (xg_aload (va := (2, 76)) rfl rfl) ?_
  refine xg_t (xg_getf (va := (0, 0)) h76 rfl) ?_
  refine xg_t (xg_ifT (u := 0) rfl xnm0 (xj_eqT rfl)) ?_
  refine xg_t (xg_blk (b := [(8, 1, 0, 0, 0, 0), (9, 3, 5, 241, 0, 0), (12, 3, 14, 4, 8, 81), (15, 1, 3, 1, 0, 0), (16, 1, 15, 1, 0, 0)]) rfl) ?_
  refine xg_t (xg_aload (va := (2, 76)) rfl rfl) ?_
  refine xg_t (xg_sip) ?_
  refine xg_putI (fl1 := [(2, 20), (2, 77), (2, 78), (2, 79), (0, 240), (0, 0), (0, 0), (0, 0), (0, 241), (0, 1), (0, 0), (0, 0)]) h76 rfl rfl rfl (fun w1 h76a hb1 => ?_)
  refine xg_t (xg_const) ?_
  refine xg_t (xg_istore (l1 := [(0, (2, 76))]) rfl rfl rfl) ?_
  refine xg_t (xg_drop (l1 := [(0, (2, 76)), (1, (0, 1))]) (List.forall_mem_cons.mpr ⟨List.mem_cons_of_mem _ (List.mem_cons_self), List.forall_mem_cons.mpr ⟨List.mem_cons_self, fun _ h => absurd h List.not_mem_nil⟩⟩)) ?_
  refine (rn_lp 9 1 w1 rfl (by decide) h76a (h77.but hb1 (by decide)) ⟨_, hf.but hb1 (by decide)⟩ ⟨_, hg.but hb1 (by decide)⟩).imp (fun φ h => ?_)
  obtain ⟨w', e1, e2, e3⟩ := h
  exact ⟨w', e1, e2, fun k p0 p1 p2 => (e3 k p0 p1 p2).trans (hb1 k p0)⟩
theorem xg_sw {x : Nat} {o0 o1 o2 : Nat} {p0 pc ln ix : Nat} {M : xM} {tl : List xI} {lo : xLo} {st : List xV} {hp : xH} {tg : Nat} (hks : xget xsws ix = some [(0, 40), (1, 48), (2, 56)]) (h0 : xeq hp.2.1 (xnm hp.2.1 (1, 1)) (0, 0) = (o0, 0, 0)) (h1 : xeq hp.2.1 (xnm hp.2.1 (1, 1)) (0, 1) = (o1, 0, 0)) (h2 : xeq hp.2.1 (xnm hp.2.1 (1, 1)) (0, 2) = (o2, 0, 0)) (ht : (o0 = 1 ∧ tg = 40) ∨ (o0 = 0 ∧ o1 = 1 ∧ tg = 48) ∨ (o0 = 0 ∧ o1 = 0 ∧ o2 = 1 ∧ tg = 56) ∨ (o0 = 0 ∧ o1 = 0 ∧ o2 = 0 ∧ tg = x)) : xLd d M (p0, (pc, ln, 33, x, 0, ix) :: tl, lo, (1, 1) :: st, hp) [(tg, [], lo, st, hp)] := by
  refine xg_op (f := xh_switch) rfl ?_
  show xob (xget xsws ix) (fun ks => xswg xidk d M (pc, ln, 33, x, 0, ix) tl lo ((1, 1) :: st) st hp (xnm hp.2.1 (1, 1)) ks) = _
  rw [hks]
  show xans (xeq hp.2.1 (xnm hp.2.1 (1, 1)) (0, 0)) hp (fun t => cond t (xidk d M (40, [], lo, st, hp)) (xans (xeq hp.2.1 (xnm hp.2.1 (1, 1)) (0, 1)) hp (fun t => cond t (xidk d M (48, [], lo, st, hp)) (xans (xeq hp.2.1 (xnm hp.2.1 (1, 1)) (0, 2)) hp (fun t => cond t (xidk d M (56, [], lo, st, hp)) (xidk d M (x, [], lo, st, hp))) _)) _)) _ = _
  rw [h0, h1, h2]
  rcases ht with ⟨rfl, rfl⟩ | ⟨rfl, rfl, rfl⟩ | ⟨rfl, rfl, rfl, rfl⟩ | ⟨rfl, rfl, rfl, rfl⟩ <;> rfl
/-- what the class's next answers -/
def xnv (tg : Nat) : Nat := if tg = 40 then (xbest 241 135).2.1 else if tg = 48 then (xbest 241 135).2.2 else if tg = 56 then (xbest 241 135).1 else 4294967295
theorem next11_ok (h0 : xC0 w) (h76 : xLw w 0 0 0 0 0 0) (h20 : xC20 w) (h77 : xC77 w) (hf : xRow w 78 15 46 f) (hg : xRow w 79 15 47 g) {o0 o1 o2 : Nat} (s0 : xeq bd (xnm bd (1, 1)) (0, 0) = (o0, 0, 0)) (s1 : xeq bd (xnm bd (1, 1)) (0, 1) = (o1, 0, 0)) (s2 : xeq bd (xnm bd (1, 1)) (0, 2) = (o2, 0, 0)) {tg : Nat} (ht : (o0 = 1 ∧ tg = 40) ∨ (o0 = 0 ∧ o1 = 1 ∧ tg = 48) ∨ (o0 = 0 ∧ o1 = 0 ∧ o2 = 1 ∧ tg = 56) ∨ (o0 = 0 ∧ o1 = 0 ∧ o2 = 0 ∧ tg = 64)) : xPq (d + 3) mX11_next [(2, 0), (1, 1)] w bd fc rr [(0, xnv tg)] (xOt w) := by
  suffices h : xTo (d + 3) mNX (0, [], [(0, (2, 0)), (1, (1, 1))], [], (w, bd, fc, 0, 0, rr)) (fun φ => ∃ w', xEnd 1 [(0, xnv tg)] (w', bd, fc, 0, 0, rr) φ ∧ xOt w w') by
    obtain ⟨φ, q1, w', q2, q3⟩ := h
    exact ⟨w', q3, φ, nx_tab q1, q2.1, q2.2⟩
  refine xg_t (xg_blk (b := [(0, 1, 0, 0, 0, 0), (1, 3, 1, 11, 8, 79), (4, 3, 13, 199, 32, 327), (7, 1, 0, 0, 0, 0), (8, 3, 1, 11, 8, 79)]) rfl) ?_
  refine xg_t (xg_aload (va := (2, 0)) rfl rfl) ?_
  refine xg_t (xg_getf (va := (2, 76)) h0 rfl) ?_
  refine xg_cV mX4_refresh (vs := []) (rest := []) (rs := []) (cn1 := 0) (sl1 := 0) rfl (refresh_ok h76 h20 h77) rfl h76 rfl rfl rfl rfl rfl rfl rfl (fun w1 hq => ?_)
  refine xg_t (xg_aload (va := (2, 0)) rfl rfl) ?_
  refine xg_t (xg_getf (va := (2, 76)) (hq.2.get (by decide) h0) rfl) ?_
  refine xg_cX (M' := mRN) (ci := 4) (vs := []) (rest := []) (rs := []) (cn1 := 0) (sl1 := 0) nd1 vRN nl1 nl2 nl3 rfl rfl (refreshNext_ok hq.1 (h77.but hq.2 (by decide)) (hf.but hq.2 (by decide)) (hg.but hq.2 (by decide))) hq.1 rfl rfl rfl rfl rfl rfl rfl (fun w2 q2 => ?_)
  refine xg_t (xg_blk (b := [(14, 1, 2, 1, 0, 0), (15, 25, 33, 64, 0, 7)]) rfl) ?_
  refine xg_t (xg_iload (va := (1, 1)) rfl rfl) ?_
  refine xg_t (xg_sw (ix := 7) (tg := tg) rfl s0 s1 s2 ht) ?_
  have h4 : tg = 40 ∨ tg = 48 ∨ tg = 56 ∨ tg = 64 := by omega
  rcases h4 with h4 | h4 | h4 | h4
  · have e : tg = 40 := by omega
    subst e
    refine xg_t (xg_blk (b := [(40, 1, 0, 0, 0, 0), (41, 3, 1, 11, 8, 79), (44, 3, 1, 4, 6, 349), (47, 1, 12, 0, 1, 0)]) rfl) ?_
    refine xg_t (xg_aload (va := (2, 0)) rfl rfl) ?_
    refine xg_t (xg_getf (va := (2, 76)) ((q2.2 0 (by decide) (by decide) (by decide)).trans (hq.2.get (by decide) h0)) rfl) ?_
    refine xg_t (xg_getf (va := (0, (xbest 241 135).2.1)) q2.1 rfl) ?_
    exact xg_e ⟨w2, ⟨rfl, rfl⟩, fun k p0 p1 p2 => (q2.2 k p0 p1 p2).trans (hq.2 k p0)⟩
  · have e : tg = 48 := by omega
    subst e
    refine xg_t (xg_blk (b := [(48, 1, 0, 0, 0, 0), (49, 3, 1, 11, 8, 79), (52, 3, 1, 4, 7, 352), (55, 1, 12, 0, 1, 0)]) rfl) ?_
    refine xg_t (xg_aload (va := (2, 0)) rfl rfl) ?_
    refine xg_t (xg_getf (va := (2, 76)) ((q2.2 0 (by decide) (by decide) (by decide)).trans (hq.2.get (by decide) h0)) rfl) ?_
    refine xg_t (xg_getf (va := (0, (xbest 241 135).2.2)) q2.1 rfl) ?_
    exact xg_e ⟨w2, ⟨rfl, rfl⟩, fun k p0 p1 p2 => (q2.2 k p0 p1 p2).trans (hq.2 k p0)⟩
  · have e : tg = 56 := by omega
    subst e
    refine xg_t (xg_blk (b := [(56, 1, 0, 0, 0, 0), (57, 3, 1, 11, 8, 79), (60, 3, 1, 4, 8, 355), (63, 1, 12, 0, 1, 0)]) rfl) ?_
    refine xg_t (xg_aload (va := (2, 0)) rfl rfl) ?_
    refine xg_t (xg_getf (va := (2, 76)) ((q2.2 0 (by decide) (by decide) (by decide)).trans (hq.2.get (by decide) h0)) rfl) ?_
    refine xg_t (xg_getf (va := (0, (xbest 241 135).1)) q2.1 rfl) ?_
    exact xg_e ⟨w2, ⟨rfl, rfl⟩, fun k p0 p1 p2 => (q2.2 k p0 p1 p2).trans (hq.2 k p0)⟩
  · have e : tg = 64 := by omega
    subst e
    refine xg_t (xg_blk (b := [(64, 1, 3, 4294967295, 0, 0), (65, 1, 12, 0, 1, 0)]) rfl) ?_
    refine xg_t (xg_const) ?_
    exact xg_e ⟨w2, ⟨rfl, rfl⟩, fun k p0 p1 p2 => (q2.2 k p0 p1 p2).trans (hq.2 k p0)⟩
end XNE
