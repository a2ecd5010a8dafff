/-! law(k): what the methods do, by chains -/
section XLA
variable {d l s u k i : Nat} {w : List (List xE)} {bd : List (Nat × Nat)} {fc : List (Nat × Nat × Bool)} {rr : Nat × Nat} {kl ns nf nn fr nx : Nat} {fm : List xV} {t3 : Nat} {us3 : List (Nat × xV)}
def xun (l s : Nat) : Nat := (l % 60 + 1) * (10 - s) ^ (l / 60)
theorem xun_le (hl : l < 240) (h1 : 1 ≤ s) : xun l s ≤ 43740 := by
  unfold xun
  have h2 : (10 - s) ^ (l / 60) ≤ 9 ^ 3 := Nat.le_trans (Nat.pow_le_pow_left (by omega : 10 - s ≤ 9) _) (Nat.pow_le_pow_right (by decide) (by omega))
  exact Nat.mul_le_mul (by omega : l % 60 + 1 ≤ 60) h2
theorem xun_lt (hl : l < 240) (h1 : 1 ≤ s) : (l % 60 + 1) * (10 - s) ^ (l / 60) < 2147483648 := by
  have := xun_le hl h1
  unfold xun at this
  omega
theorem xpw {a b : Nat} : a * (10 - s) ^ (b + 1) = a * (10 - s) * (10 - s) ^ b := by rw [Nat.pow_succ, Nat.mul_comm ((10 - s) ^ b), Nat.mul_assoc]
theorem xpl {a b : Nat} (h2 : s ≤ 9) (hb : a * (10 - s) * (10 - s) ^ b < 2147483648) : a * (10 - s) < 2147483648 := Nat.lt_of_le_of_lt (Nat.le_mul_of_pos_right _ (Nat.pow_pos (by omega))) hb
theorem un_lp (h1 : 1 ≤ s) (h2 : s ≤ 9) : ∀ (b a : Nat), b < 4 → a * (10 - s) ^ b < 2147483648 → xTo d mX4_unitAt (12, [], [(0, (0, l)), (1, (0, s)), (2, (0, a)), (3, (0, b))], [], (w, bd, fc, 0, 0, rr)) (xEnd 1 [(0, a * (10 - s) ^ b)] (w, bd, fc, 0, 0, rr))
  | 0, a, h4, hb => by
    rw [Nat.pow_zero, Nat.mul_one]
    refine xg_t (xg_blk (b := [(12, 1, 2, 3, 0, 0), (13, 3, 7, 29, 5, 0), (16, 1, 2, 2, 0, 0), (17, 2, 4, 10, 0, 0), (19, 1, 2, 1, 0, 0), (20, 1, 18, 0, 0, 0), (21, 1, 16, 0, 0, 0), (22, 1, 15, 2, 0, 0), (23, 3, 9, 3, 4294967295, 0), (26, 3, 8, 12, 0, 0)]) rfl) ?_
    refine xg_t (xg_iload (va := (0, 0)) rfl rfl) ?_
    refine xg_t (xg_ifT (u := 0) rfl xnm0 (xj_leT (Nat.le_refl 0) (by decide))) ?_
    refine xg_t (xg_blk (b := [(29, 1, 2, 2, 0, 0), (30, 1, 12, 0, 1, 0)]) rfl) ?_
    refine xg_t (xg_iload (va := (0, a)) rfl rfl) ?_
    exact xg_e ⟨rfl, rfl⟩
  | b + 1, a, h4, hb => by
    rw [xpw] at hb ⊢
    refine xg_t (xg_blk (b := [(12, 1, 2, 3, 0, 0), (13, 3, 7, 29, 5, 0), (16, 1, 2, 2, 0, 0), (17, 2, 4, 10, 0, 0), (19, 1, 2, 1, 0, 0), (20, 1, 18, 0, 0, 0), (21, 1, 16, 0, 0, 0), (22, 1, 15, 2, 0, 0), (23, 3, 9, 3, 4294967295, 0), (26, 3, 8, 12, 0, 0)]) rfl) ?_
    refine xg_t (xg_iload (va := (0, b + 1)) rfl rfl) ?_
    refine xg_t (xg_ifF (u := b + 1) rfl xnm0 (xj_leF (Nat.succ_pos b) (by omega))) ?_
    refine xg_t (xg_iload (va := (0, a)) rfl rfl) ?_
    refine xg_t (xg_bip) ?_
    refine xg_t (xg_iload (va := (0, s)) rfl rfl) ?_
    refine xg_t (xg_isub (u := 10) (v := s) (z := 10 - s) xnm0 xnm0 (by omega)) ?_
    refine xg_t (xg_imul (u := a) (v := 10 - s) (z := a * (10 - s)) xnm0 xnm0 (Nat.mod_eq_of_lt (Nat.lt_trans (xpl h2 hb) (by decide)))) ?_
    refine xg_t (xg_istore (l1 := [(0, (0, l)), (1, (0, s)), (3, (0, b + 1))]) rfl rfl rfl) ?_
    refine xg_t (xg_iinc (u := b + 1) (z := b) (l1 := [(2, (0, a * (10 - s))), (0, (0, l)), (1, (0, s))]) rfl rfl (by omega) rfl) ?_
    refine xg_t (xg_goto) ?_
    refine xg_t (xg_drop (l1 := [(0, (0, l)), (1, (0, s)), (2, (0, a * (10 - s))), (3, (0, b))]) (List.forall_mem_cons.mpr ⟨List.mem_cons_of_mem _ (List.mem_cons_of_mem _ (List.mem_cons_self)), List.forall_mem_cons.mpr ⟨List.mem_cons_of_mem _ (List.mem_cons_of_mem _ (List.mem_cons_of_mem _ (List.mem_cons_self))), List.forall_mem_cons.mpr ⟨List.mem_cons_of_mem _ (List.mem_cons_self), List.forall_mem_cons.mpr ⟨List.mem_cons_self, fun _ h => absurd h List.not_mem_nil⟩⟩⟩⟩)) ?_
    exact un_lp h1 h2 b (a * (10 - s)) (by omega) hb
theorem unitAt_ok (hl : l < 240) (h1 : 1 ≤ s) (h2 : s ≤ 9) : xPr d mX4_unitAt [(0, l), (0, s)] w bd fc rr [(0, xun l s)] w := by
  refine xPr.of ?_
  show xTo d mX4_unitAt (0, [], [(0, (0, l)), (1, (0, s))], [], (w, bd, fc, 0, 0, rr)) (xEnd 1 [(0, (l % 60 + 1) * (10 - s) ^ (l / 60))] (w, bd, fc, 0, 0, rr))
  refine xg_t (xg_blk (b := [(0, 1, 2, 0, 0, 0), (1, 2, 4, 60, 0, 0), (3, 1, 21, 0, 0, 0), (4, 1, 3, 1, 0, 0), (5, 1, 11, 0, 0, 0), (6, 1, 15, 2, 0, 0), (7, 1, 2, 0, 0, 0), (8, 2, 4, 60, 0, 0), (10, 1, 20, 0, 0, 0), (11, 1, 15, 3, 0, 0)]) rfl) ?_
  refine xg_t (xg_iload (va := (0, l)) rfl rfl) ?_
  refine xg_t (xg_bip) ?_
  refine xg_t (xg_irem (u := l) (v := 60) (z := l % 60) xnm0 xnm0 (by omega) (by decide) (by decide) (rfl)) ?_
  refine xg_t (xg_const) ?_
  refine xg_t (xg_iadd (u := l % 60) (v := 1) (z := l % 60 + 1) xnm0 xnm0 (by omega)) ?_
  refine xg_t (xg_istore (l1 := [(0, (0, l)), (1, (0, s))]) rfl rfl rfl) ?_
  refine xg_t (xg_iload (va := (0, l)) rfl rfl) ?_
  refine xg_t (xg_bip) ?_
  refine xg_t (xg_idiv (u := l) (v := 60) (z := l / 60) xnm0 xnm0 (by omega) (by decide) (by decide) (rfl)) ?_
  refine xg_t (xg_istore (l1 := [(2, (0, l % 60 + 1)), (0, (0, l)), (1, (0, s))]) rfl rfl rfl) ?_
  refine xg_t (xg_drop (l1 := [(0, (0, l)), (1, (0, s)), (2, (0, l % 60 + 1)), (3, (0, l / 60))]) (List.forall_mem_cons.mpr ⟨List.mem_cons_of_mem _ (List.mem_cons_of_mem _ (List.mem_cons_self)), List.forall_mem_cons.mpr ⟨List.mem_cons_of_mem _ (List.mem_cons_of_mem _ (List.mem_cons_of_mem _ (List.mem_cons_self))), List.forall_mem_cons.mpr ⟨List.mem_cons_of_mem _ (List.mem_cons_self), List.forall_mem_cons.mpr ⟨List.mem_cons_self, fun _ h => absurd h List.not_mem_nil⟩⟩⟩⟩)) ?_
  exact un_lp h1 h2 (l / 60) (l % 60 + 1) (by omega) (xun_lt hl h1)
theorem la_lp (hl : l < 240) (h1 : 1 ≤ s) (h2 : s ≤ 9) : ∀ (b a k : Nat), k + b = l / 60 → a * (10 - s) ^ b < 2147483648 → xTo d mX12_lawAt (9, [], [(0, (0, l)), (1, (0, s)), (2, (0, a)), (3, (0, k))], [], (w, bd, fc, 0, 0, rr)) (xEnd 1 [(0, a * (10 - s) ^ b)] (w, bd, fc, 0, 0, rr))
  | 0, a, k, h4, hb => by
    rw [Nat.pow_zero, Nat.mul_one]
    refine xg_t (xg_blk (b := [(9, 1, 2, 3, 0, 0), (10, 1, 2, 0, 0, 0), (11, 2, 4, 60, 0, 0), (13, 1, 20, 0, 0, 0), (14, 3, 6, 30, 3, 0), (17, 1, 2, 2, 0, 0), (18, 2, 4, 10, 0, 0), (20, 1, 2, 1, 0, 0), (21, 1, 18, 0, 0, 0), (22, 1, 16, 0, 0, 0), (23, 1, 15, 2, 0, 0), (24, 3, 9, 3, 1, 0), (27, 3, 8, 9, 0, 0)]) rfl) ?_
    refine xg_t (xg_iload (va := (0, k)) rfl rfl) ?_
    refine xg_t (xg_iload (va := (0, l)) rfl rfl) ?_
    refine xg_t (xg_bip) ?_
    refine xg_t (xg_idiv (u := l) (v := 60) (z := l / 60) xnm0 xnm0 (by omega) (by decide) (by decide) (rfl)) ?_
    refine xg_t (xg_icT (u := k) (v := l / 60) rfl xnm0 xnm0 (xj_geT (by omega) (by omega))) ?_
    refine xg_t (xg_blk (b := [(30, 1, 2, 2, 0, 0), (31, 1, 12, 0, 1, 0)]) rfl) ?_
    refine xg_t (xg_iload (va := (0, a)) rfl rfl) ?_
    exact xg_e ⟨rfl, rfl⟩
  | b + 1, a, k, h4, hb => by
    rw [xpw] at hb ⊢
    refine xg_t (xg_blk (b := [(9, 1, 2, 3, 0, 0), (10, 1, 2, 0, 0, 0), (11, 2, 4, 60, 0, 0), (13, 1, 20, 0, 0, 0), (14, 3, 6, 30, 3, 0), (17, 1, 2, 2, 0, 0), (18, 2, 4, 10, 0, 0), (20, 1, 2, 1, 0, 0), (21, 1, 18, 0, 0, 0), (22, 1, 16, 0, 0, 0), (23, 1, 15, 2, 0, 0), (24, 3, 9, 3, 1, 0), (27, 3, 8, 9, 0, 0)]) rfl) ?_
    refine xg_t (xg_iload (va := (0, k)) rfl rfl) ?_
    refine xg_t (xg_iload (va := (0, l)) rfl rfl) ?_
    refine xg_t (xg_bip) ?_
    refine xg_t (xg_idiv (u := l) (v := 60) (z := l / 60) xnm0 xnm0 (by omega) (by decide) (by decide) (rfl)) ?_
    refine xg_t (xg_icF (u := k) (v := l / 60) rfl xnm0 xnm0 (xj_geF (by omega) (by omega))) ?_
    refine xg_t (xg_iload (va := (0, a)) rfl rfl) ?_
    refine xg_t (xg_bip) ?_
    refine xg_t (xg_iload (va := (0, s)) rfl rfl) ?_
    refine xg_t (xg_isub (u := 10) (v := s) (z := 10 - s) xnm0 xnm0 (by omega)) ?_
    refine xg_t (xg_imul (u := a) (v := 10 - s) (z := a * (10 - s)) xnm0 xnm0 (Nat.mod_eq_of_lt (Nat.lt_trans (xpl h2 hb) (by decide)))) ?_
    refine xg_t (xg_istore (l1 := [(0, (0, l)), (1, (0, s)), (3, (0, k))]) rfl rfl rfl) ?_
    refine xg_t (xg_iinc (u := k) (z := k + 1) (l1 := [(2, (0, a * (10 - s))), (0, (0, l)), (1, (0, s))]) rfl rfl (by omega) rfl) ?_
    refine xg_t (xg_goto) ?_
    refine xg_t (xg_drop (l1 := [(0, (0, l)), (1, (0, s)), (2, (0, a * (10 - s))), (3, (0, k + 1))]) (List.forall_mem_cons.mpr ⟨List.mem_cons_of_mem _ (List.mem_cons_of_mem _ (List.mem_cons_self)), List.forall_mem_cons.mpr ⟨List.mem_cons_of_mem _ (List.mem_cons_of_mem _ (List.mem_cons_of_mem _ (List.mem_cons_self))), List.forall_mem_cons.mpr ⟨List.mem_cons_of_mem _ (List.mem_cons_self), List.forall_mem_cons.mpr ⟨List.mem_cons_self, fun _ h => absurd h List.not_mem_nil⟩⟩⟩⟩)) ?_
    exact la_lp hl h1 h2 b (a * (10 - s)) (k + 1) (by omega) hb
theorem lawAt_ok (hl : l < 240) (h1 : 1 ≤ s) (h2 : s ≤ 9) : xPr d mX12_lawAt [(0, l), (0, s)] w bd fc rr [(0, xun l s)] w := by
  refine xPr.of ?_
  show xTo d mX12_lawAt (0, [], [(0, (0, l)), (1, (0, s))], [], (w, bd, fc, 0, 0, rr)) (xEnd 1 [(0, (l % 60 + 1) * (10 - s) ^ (l / 60))] (w, bd, fc, 0, 0, rr))
  refine xg_t (xg_blk (b := [(0, 1, 2, 0, 0, 0), (1, 2, 4, 60, 0, 0), (3, 1, 21, 0, 0, 0), (4, 1, 3, 1, 0, 0), (5, 1, 11, 0, 0, 0), (6, 1, 15, 2, 0, 0), (7, 1, 3, 0, 0, 0), (8, 1, 15, 3, 0, 0)]) rfl) ?_
  refine xg_t (xg_iload (va := (0, l)) rfl rfl) ?_
  refine xg_t (xg_bip) ?_
  refine xg_t (xg_irem (u := l) (v := 60) (z := l % 60) xnm0 xnm0 (by omega) (by decide) (by decide) (rfl)) ?_
  refine xg_t (xg_const) ?_
  refine xg_t (xg_iadd (u := l % 60) (v := 1) (z := l % 60 + 1) xnm0 xnm0 (by omega)) ?_
  refine xg_t (xg_istore (l1 := [(0, (0, l)), (1, (0, s))]) rfl rfl rfl) ?_
  refine xg_t (xg_const) ?_
  refine xg_t (xg_istore (l1 := [(2, (0, l % 60 + 1)), (0, (0, l)), (1, (0, s))]) rfl rfl rfl) ?_
  refine xg_t (xg_drop (l1 := [(0, (0, l)), (1, (0, s)), (2, (0, l % 60 + 1)), (3, (0, 0))]) (List.forall_mem_cons.mpr ⟨List.mem_cons_of_mem _ (List.mem_cons_of_mem _ (List.mem_cons_self)), List.forall_mem_cons.mpr ⟨List.mem_cons_of_mem _ (List.mem_cons_of_mem _ (List.mem_cons_of_mem _ (List.mem_cons_self))), List.forall_mem_cons.mpr ⟨List.mem_cons_of_mem _ (List.mem_cons_self), List.forall_mem_cons.mpr ⟨List.mem_cons_self, fun _ h => absurd h List.not_mem_nil⟩⟩⟩⟩)) ?_
  exact la_lp hl h1 h2 (l / 60) (l % 60 + 1) 0 (by omega) (xun_lt hl h1)
abbrev xLw (w : List (List xE)) (kl ns nf nn fr nx : Nat) : Prop := wget w 76 = some (.inl (4, [(2, 20), (2, 77), (2, 78), (2, 79), (0, kl), (0, 0), (0, ns), (0, nf), (0, nn), (0, fr), (0, 0), (0, nx)]))
abbrev xC20 (w : List (List xE)) : Prop := wget w 20 = some (.inl (5, [(0, 12), (0, 4), (2, 21), (0, 0)]))
abbrev xC0 (w : List (List xE)) : Prop := wget w 0 = some (.inl (11, [(2, 1), (2, 26), (2, 27), (2, 43), (2, 49), (2, 58), (2, 68), (2, 72), (2, 76), (2, 80), (2, 81)]))
abbrev xC77 (w : List (List xE)) : Prop := xRow w 77 240 45 (fun _ => 0)
abbrev xC111 (w : List (List xE)) : Prop := xRow w 111 240 78 (fun _ => 0)
/-- the model's cells that are read -/
def xMo (w : List (List xE)) : Prop := (∃ fm, wget w 82 = some (.inl (12, fm)) ∧ xget fm 0 = some (2, 83) ∧ xget fm 44 = some (2, 111)) ∧ (∃ t us, wget w 83 = some (.inr (0, 5360, t, us)) ∧ xat 0 us 901 = (0, 0)) ∧ xC111 w
theorem ta_ok (h76 : xLw w kl ns nf nn fr nx) (h20 : xC20 w) : xPr d mX4_testsAgainst [(2, 76), (0, i)] w bd fc rr [(0, 0)] w := by
  refine xPr.of ?_
  show xTo d mX4_testsAgainst (0, [], [(0, (2, 76)), (1, (0, i))], [], (w, bd, fc, 0, 0, rr)) (xEnd 1 [(0, 0)] (w, bd, fc, 0, 0, rr))
  refine xg_t (xg_blk (b := [(0, 1, 3, 0, 0, 0), (1, 1, 15, 2, 0, 0), (2, 1, 3, 0, 0, 0), (3, 1, 15, 3, 0, 0)]) rfl) ?_
  refine xg_t (xg_const) ?_
  refine xg_t (xg_istore (l1 := [(0, (2, 76)), (1, (0, i))]) rfl rfl rfl) ?_
  refine xg_t (xg_const) ?_
  refine xg_t (xg_istore (l1 := [(2, (0, 0)), (0, (2, 76)), (1, (0, i))]) rfl rfl rfl) ?_
  refine xg_t (xg_blk (b := [(4, 1, 2, 3, 0, 0), (5, 1, 0, 0, 0, 0), (6, 3, 1, 4, 0, 21), (9, 3, 1, 5, 3, 43), (12, 3, 6, 128, 3, 0), (15, 1, 2, 1, 0, 0), (16, 1, 0, 0, 0, 0), (17, 3, 1, 4, 0, 21), (20, 1, 2, 3, 0, 0), (21, 1, 3, 0, 0, 0), (22, 3, 13, 206, 40, 50), (25, 3, 13, 203, 34, 54), (28, 2, 15, 4, 0, 0), (30, 1, 0, 0, 0, 0), (31, 3, 1, 4, 0, 21), (34, 1, 2, 3, 0, 0), (35, 1, 3, 1, 0, 0), (36, 3, 13, 206, 40, 50), (39, 2, 15, 5, 0, 0), (41, 1, 0, 0, 0, 0), (42, 3, 1, 4, 0, 21), (45, 1, 2, 3, 0, 0), (46, 1, 3, 3, 0, 0), (47, 3, 13, 206, 40, 50), (50, 2, 15, 6, 0, 0), (52, 2, 2, 6, 0, 0), (54, 3, 7, 71, 0, 0), (57, 2, 2, 5, 0, 0), (59, 2, 4, 8, 0, 0), (61, 2, 2, 4, 0, 0), (63, 1, 16, 0, 0, 0), (64, 3, 6, 71, 3, 0), (67, 1, 3, 1, 0, 0), (68, 3, 8, 72, 0, 0)]) rfl) ?_
  refine xg_t (xg_iload (va := (0, 0)) rfl rfl) ?_
  refine xg_t (xg_aload (va := (2, 76)) rfl rfl) ?_
  refine xg_t (xg_getf (va := (2, 20)) h76 rfl) ?_
  refine xg_t (xg_getf (va := (0, 0)) h20 rfl) ?_
  refine xg_t (xg_icT (u := 0) (v := 0) rfl xnm0 xnm0 (xj_geT (Nat.le_refl 0) (by decide))) ?_
  refine xg_t (xg_blk (b := [(128, 1, 2, 2, 0, 0), (129, 1, 12, 0, 1, 0)]) rfl) ?_
  refine xg_t (xg_iload (va := (0, 0)) rfl rfl) ?_
  exact xg_e ⟨rfl, rfl⟩
theorem rf_lp : ∀ (n i : Nat) (w : List (List xE)), i + n = 240 → xLw w i ns nf nn 0 nx → xC20 w → xC77 w → xTo (d + 1) mX4_refresh (15, [], [(0, (2, 76)), (1, (0, i))], [], (w, bd, fc, 0, 0, rr)) (fun φ => ∃ w', xEnd 0 [] (w', bd, fc, 0, 0, rr) φ ∧ xLw w' 240 ns nf nn 1 nx ∧ xBut 76 w w')
  | 0, i, w, hn, h76, h20, h77 => by
    have hi : i = 240 := by omega
    refine xg_t (xg_blk (b := [(15, 1, 2, 1, 0, 0), (16, 3, 5, 240, 0, 0), (19, 3, 6, 58, 3, 0), (22, 1, 0, 0, 0, 0), (23, 3, 1, 4, 1, 11), (26, 1, 2, 1, 0, 0), (27, 1, 0, 0, 0, 0), (28, 1, 2, 1, 0, 0), (29, 3, 13, 202, 32, 39), (32, 1, 17, 0, 0, 0), (33, 1, 0, 0, 0, 0), (34, 3, 1, 4, 1, 11), (37, 1, 2, 1, 0, 0), (38, 1, 10, 0, 0, 0), (39, 3, 7, 52, 1, 0), (42, 1, 0, 0, 0, 0), (43, 1, 19, 0, 0, 0), (44, 3, 1, 4, 4, 35), (47, 1, 3, 1, 0, 0), (48, 1, 11, 0, 0, 0), (49, 3, 14, 4, 4, 35)]) rfl) ?_
    refine xg_t (xg_iload (va := (0, i)) rfl rfl) ?_
    refine xg_t (xg_sip) ?_
    refine xg_t (xg_icT (u := i) (v := 240) rfl xnm0 xnm0 (xj_geT (by omega) (by omega))) ?_
    refine xg_t (xg_blk (b := [(58, 1, 0, 0, 0, 0), (59, 1, 3, 1, 0, 0), (60, 3, 59, 4, 9, 25), (63, 1, 12, 0, 0, 0)]) rfl) ?_
    refine xg_t (xg_aload (va := (2, 76)) rfl rfl) ?_
    refine xg_t (xg_const) ?_
    refine xg_putZ (fl1 := [(2, 20), (2, 77), (2, 78), (2, 79), (0, i), (0, 0), (0, ns), (0, nf), (0, nn), (0, 1), (0, 0), (0, nx)]) h76 rfl rfl rfl (fun w1 h76a hb1 => ?_)
    refine xg_e ⟨w1, ⟨rfl, rfl⟩, ?_, hb1⟩
    rw [hi] at h76a
    exact h76a
  | n + 1, i, w, hn, h76, h20, h77 => by
    refine xg_t (xg_blk (b := [(15, 1, 2, 1, 0, 0), (16, 3, 5, 240, 0, 0), (19, 3, 6, 58, 3, 0), (22, 1, 0, 0, 0, 0), (23, 3, 1, 4, 1, 11), (26, 1, 2, 1, 0, 0), (27, 1, 0, 0, 0, 0), (28, 1, 2, 1, 0, 0), (29, 3, 13, 202, 32, 39), (32, 1, 17, 0, 0, 0), (33, 1, 0, 0, 0, 0), (34, 3, 1, 4, 1, 11), (37, 1, 2, 1, 0, 0), (38, 1, 10, 0, 0, 0), (39, 3, 7, 52, 1, 0), (42, 1, 0, 0, 0, 0), (43, 1, 19, 0, 0, 0), (44, 3, 1, 4, 4, 35), (47, 1, 3, 1, 0, 0), (48, 1, 11, 0, 0, 0), (49, 3, 14, 4, 4, 35)]) rfl) ?_
    refine xg_t (xg_iload (va := (0, i)) rfl rfl) ?_
    refine xg_t (xg_sip) ?_
    refine xg_t (xg_icF (u := i) (v := 240) rfl xnm0 xnm0 (xj_geF (by omega) (by omega))) ?_
    refine xg_t (xg_aload (va := (2, 76)) rfl rfl) ?_
    refine xg_t (xg_getf (va := (2, 77)) h76 rfl) ?_
    refine xg_t (xg_iload (va := (0, i)) rfl rfl) ?_
    refine xg_t (xg_aload (va := (2, 76)) rfl rfl) ?_
    refine xg_t (xg_iload (va := (0, i)) rfl rfl) ?_
    refine xg_t (xg_cVr mX4_testsAgainst (vs := [(0, i)]) (rest := [(0, i), (2, 77)]) (rs := [(0, 0), (0, i), (2, 77)]) (cn1 := 0) (sl1 := 0) rfl (ta_ok h76 h20) rfl h76 rfl rfl rfl rfl rfl rfl rfl) ?_
    refine xg_t (xg_iastR (n := i) (u := 0) h77 xnm0 xnm0 rfl (by omega) (rfl)) ?_
    refine xg_t (xg_aload (va := (2, 76)) rfl rfl) ?_
    refine xg_t (xg_getf (va := (2, 77)) h76 rfl) ?_
    refine xg_t (xg_iload (va := (0, i)) rfl rfl) ?_
    refine xg_t (xg_ialdR (n := i) (u := 0) h77 xnm0 (by omega) (rfl)) ?_
    refine xg_t (xg_ifF (u := 0) rfl xnm0 (xj_neF rfl)) ?_
    refine xg_t (xg_aload (va := (2, 76)) rfl rfl) ?_
    refine xg_t (xg_dup rfl) ?_
    refine xg_t (xg_getf (va := (0, i)) h76 rfl) ?_
    refine xg_t (xg_const) ?_
    refine xg_t (xg_iadd (u := i) (v := 1) (z := i + 1) xnm0 xnm0 (by omega)) ?_
    refine xg_putI (fl1 := [(2, 20), (2, 77), (2, 78), (2, 79), (0, i + 1), (0, 0), (0, ns), (0, nf), (0, nn), (0, 0), (0, 0), (0, nx)]) h76 rfl rfl rfl (fun w1 h76a hb1 => ?_)
    refine xg_t (xg_blk (b := [(52, 3, 9, 1, 1, 0), (55, 3, 8, 15, 0, 0)]) rfl) ?_
    refine xg_t (xg_iinc (u := i) (z := i + 1) (l1 := [(0, (2, 76))]) rfl rfl (by omega) rfl) ?_
    refine xg_t (xg_goto) ?_
    refine xg_t (xg_drop (l1 := [(0, (2, 76)), (1, (0, i + 1))]) (List.forall_mem_cons.mpr ⟨List.mem_cons_of_mem _ (List.mem_cons_self), List.forall_mem_cons.mpr ⟨List.mem_cons_self, fun _ h => absurd h List.not_mem_nil⟩⟩)) ?_
    refine (rf_lp n (i + 1) w1 (by omega) h76a (hb1.get (by decide) h20) (h77.but hb1 (by decide))).imp (fun φ h => ?_)
    obtain ⟨w', e1, e2, e3⟩ := h
    exact ⟨w', e1, e2, hb1.tr e3⟩
theorem refresh_ok (h76 : xLw w kl ns nf nn 0 nx) (h20 : xC20 w) (h77 : xC77 w) : xPq (d + 1) mX4_refresh [(2, 76)] w bd fc rr [] (fun w' => xLw w' 240 ns nf nn 1 nx ∧ xBut 76 w w') := by
  refine xPq.of ?_
  show xTo (d + 1) mX4_refresh (0, [], [(0, (2, 76))], [], (w, bd, fc, 0, 0, rr)) (fun φ => ∃ w', xEnd 0 [] (w', bd, fc, 0, 0, rr) φ ∧ xLw w' 240 ns nf nn 1 nx ∧ xBut 76 w w')
  refine xg_t (xg_blk (b := [(0, 1, 0, 0, 0, 0), (1, 3, 1, 4, 9, 25), (4, 3, 7, 8, 0, 0), (7, 1, 12, 0, 0, 0)]) rfl) ?_
  refine xg_t (xg_aload (va := (2, 76)) rfl rfl) ?_
  refine xg_t (xg_getf (va := (0, 0)) h76 rfl) ?_
  refine xg_t (xg_ifT (u := 0) rfl xnm0 (xj_eqT rfl)) ?_
  refine xg_t (xg_blk (b := [(8, 1, 0, 0, 0, 0), (9, 1, 3, 0, 0, 0), (10, 3, 14, 4, 4, 35), (13, 1, 3, 0, 0, 0), (14, 1, 15, 1, 0, 0)]) rfl) ?_
  refine xg_t (xg_aload (va := (2, 76)) rfl rfl) ?_
  refine xg_t (xg_const) ?_
  refine xg_putI (fl1 := [(2, 20), (2, 77), (2, 78), (2, 79), (0, 0), (0, 0), (0, ns), (0, nf), (0, nn), (0, 0), (0, 0), (0, nx)]) h76 rfl rfl rfl (fun w1 h76a hb1 => ?_)
  refine xg_t (xg_const) ?_
  refine xg_t (xg_istore (l1 := [(0, (2, 76))]) rfl rfl rfl) ?_
  refine xg_t (xg_drop (l1 := [(0, (2, 76)), (1, (0, 0))]) (List.forall_mem_cons.mpr ⟨List.mem_cons_of_mem _ (List.mem_cons_self), List.forall_mem_cons.mpr ⟨List.mem_cons_self, fun _ h => absurd h List.not_mem_nil⟩⟩)) ?_
  refine (rf_lp 240 0 w1 rfl h76a (hb1.get (by decide) h20) (h77.but hb1 (by decide))).imp (fun φ h => ?_)
  obtain ⟨w', e1, e2, e3⟩ := h
  exact ⟨w', e1, e2, hb1.tr e3⟩
theorem ka_lp (hk : xnm bd (1, 1) = (0, u)) (hu : u < 240) (h76 : xLw w kl ns nf nn fr nx) (h77 : xC77 w) : ∀ (n i : Nat), i + n = u → xTo d mX4_keptAt (4, [], [(0, (2, 76)), (1, (1, 1)), (2, (0, i)), (3, (0, i))], [], (w, bd, fc, 0, 0, rr)) (xEnd 1 [(0, 100 * (u / 60) + u % 60 + 1)] (w, bd, fc, 0, 0, rr))
  | 0, i, hn => by
    have hi : i = u := by omega
    refine xg_t (xg_blk (b := [(4, 1, 2, 3, 0, 0), (5, 3, 5, 240, 0, 0), (8, 3, 6, 49, 3, 0), (11, 1, 0, 0, 0, 0), (12, 3, 1, 4, 1, 11), (15, 1, 2, 3, 0, 0), (16, 1, 10, 0, 0, 0), (17, 3, 7, 43, 1, 0), (20, 1, 2, 2, 0, 0), (21, 1, 2, 1, 0, 0), (22, 3, 6, 40, 1, 0), (25, 2, 4, 100, 0, 0), (27, 1, 2, 3, 0, 0), (28, 2, 4, 60, 0, 0), (30, 1, 20, 0, 0, 0), (31, 1, 16, 0, 0, 0), (32, 1, 2, 3, 0, 0), (33, 2, 4, 60, 0, 0), (35, 1, 21, 0, 0, 0), (36, 1, 11, 0, 0, 0), (37, 1, 3, 1, 0, 0), (38, 1, 11, 0, 0, 0), (39, 1, 12, 0, 1, 0)]) rfl) ?_
    refine xg_t (xg_iload (va := (0, i)) rfl rfl) ?_
    refine xg_t (xg_sip) ?_
    refine xg_t (xg_icF (u := i) (v := 240) rfl xnm0 xnm0 (xj_geF (by omega) (by omega))) ?_
    refine xg_t (xg_aload (va := (2, 76)) rfl rfl) ?_
    refine xg_t (xg_getf (va := (2, 77)) h76 rfl) ?_
    refine xg_t (xg_iload (va := (0, i)) rfl rfl) ?_
    refine xg_t (xg_ialdR (n := i) (u := 0) h77 xnm0 (by omega) (rfl)) ?_
    refine xg_t (xg_ifF (u := 0) rfl xnm0 (xj_neF rfl)) ?_
    refine xg_t (xg_iload (va := (0, i)) rfl rfl) ?_
    refine xg_t (xg_iload (va := (1, 1)) rfl rfl) ?_
    refine xg_t (xg_icF (u := i) (v := u) rfl xnm0 hk (xj_neF hi)) ?_
    refine xg_t (xg_bip) ?_
    refine xg_t (xg_iload (va := (0, i)) rfl rfl) ?_
    refine xg_t (xg_bip) ?_
    refine xg_t (xg_idiv (u := i) (v := 60) (z := i / 60) xnm0 xnm0 (by omega) (by decide) (by decide) (rfl)) ?_
    refine xg_t (xg_imul (u := 100) (v := i / 60) (z := 100 * (i / 60)) xnm0 xnm0 (by omega)) ?_
    refine xg_t (xg_iload (va := (0, i)) rfl rfl) ?_
    refine xg_t (xg_bip) ?_
    refine xg_t (xg_irem (u := i) (v := 60) (z := i % 60) xnm0 xnm0 (by omega) (by decide) (by decide) (rfl)) ?_
    refine xg_t (xg_iadd (u := 100 * (i / 60)) (v := i % 60) (z := 100 * (i / 60) + i % 60) xnm0 xnm0 (by omega)) ?_
    refine xg_t (xg_const) ?_
    refine xg_t (xg_iadd (u := 100 * (i / 60) + i % 60) (v := 1) (z := 100 * (i / 60) + i % 60 + 1) xnm0 xnm0 (by omega)) ?_
    exact xg_e ⟨by rw [← hi]; rfl, rfl⟩
  | n + 1, i, hn => by
    refine xg_t (xg_blk (b := [(4, 1, 2, 3, 0, 0), (5, 3, 5, 240, 0, 0), (8, 3, 6, 49, 3, 0), (11, 1, 0, 0, 0, 0), (12, 3, 1, 4, 1, 11), (15, 1, 2, 3, 0, 0), (16, 1, 10, 0, 0, 0), (17, 3, 7, 43, 1, 0), (20, 1, 2, 2, 0, 0), (21, 1, 2, 1, 0, 0), (22, 3, 6, 40, 1, 0), (25, 2, 4, 100, 0, 0), (27, 1, 2, 3, 0, 0), (28, 2, 4, 60, 0, 0), (30, 1, 20, 0, 0, 0), (31, 1, 16, 0, 0, 0), (32, 1, 2, 3, 0, 0), (33, 2, 4, 60, 0, 0), (35, 1, 21, 0, 0, 0), (36, 1, 11, 0, 0, 0), (37, 1, 3, 1, 0, 0), (38, 1, 11, 0, 0, 0), (39, 1, 12, 0, 1, 0)]) rfl) ?_
    refine xg_t (xg_iload (va := (0, i)) rfl rfl) ?_
    refine xg_t (xg_sip) ?_
    refine xg_t (xg_icF (u := i) (v := 240) rfl xnm0 xnm0 (xj_geF (by omega) (by omega))) ?_
    refine xg_t (xg_aload (va := (2, 76)) rfl rfl) ?_
    refine xg_t (xg_getf (va := (2, 77)) h76 rfl) ?_
    refine xg_t (xg_iload (va := (0, i)) rfl rfl) ?_
    refine xg_t (xg_ialdR (n := i) (u := 0) h77 xnm0 (by omega) (rfl)) ?_
    refine xg_t (xg_ifF (u := 0) rfl xnm0 (xj_neF rfl)) ?_
    refine xg_t (xg_iload (va := (0, i)) rfl rfl) ?_
    refine xg_t (xg_iload (va := (1, 1)) rfl rfl) ?_
    refine xg_t (xg_icT (u := i) (v := u) rfl xnm0 hk (xj_neT (by omega))) ?_
    refine xg_t (xg_blk (b := [(40, 3, 9, 2, 1, 0)]) rfl) ?_
    refine xg_t (xg_iinc (u := i) (z := i + 1) (l1 := [(0, (2, 76)), (1, (1, 1)), (3, (0, i))]) rfl rfl (by omega) rfl) ?_
    refine xg_t (xg_blk (b := [(43, 3, 9, 3, 1, 0), (46, 3, 8, 4, 0, 0)]) rfl) ?_
    refine xg_t (xg_iinc (u := i) (z := i + 1) (l1 := [(2, (0, i + 1)), (0, (2, 76)), (1, (1, 1))]) rfl rfl (by omega) rfl) ?_
    refine xg_t (xg_goto) ?_
    refine xg_t (xg_drop (l1 := [(0, (2, 76)), (1, (1, 1)), (2, (0, i + 1)), (3, (0, i + 1))]) (List.forall_mem_cons.mpr ⟨List.mem_cons_of_mem _ (List.mem_cons_of_mem _ (List.mem_cons_self)), List.forall_mem_cons.mpr ⟨List.mem_cons_of_mem _ (List.mem_cons_of_mem _ (List.mem_cons_of_mem _ (List.mem_cons_self))), List.forall_mem_cons.mpr ⟨List.mem_cons_of_mem _ (List.mem_cons_self), List.forall_mem_cons.mpr ⟨List.mem_cons_self, fun _ h => absurd h List.not_mem_nil⟩⟩⟩⟩)) ?_
    exact ka_lp hk hu h76 h77 n (i + 1) (by omega)
theorem keptAt_ok (hk : xnm bd (1, 1) = (0, u)) (hu : u < 240) (h76 : xLw w kl ns nf nn fr nx) (h77 : xC77 w) : xPr d mX4_keptAt [(2, 76), (1, 1)] w bd fc rr [(0, 100 * (u / 60) + u % 60 + 1)] w := by
  refine xPr.of ?_
  show xTo d mX4_keptAt (0, [], [(0, (2, 76)), (1, (1, 1))], [], (w, bd, fc, 0, 0, rr)) (xEnd 1 [(0, 100 * (u / 60) + u % 60 + 1)] (w, bd, fc, 0, 0, rr))
  refine xg_t (xg_blk (b := [(0, 1, 3, 0, 0, 0), (1, 1, 15, 2, 0, 0), (2, 1, 3, 0, 0, 0), (3, 1, 15, 3, 0, 0)]) rfl) ?_
  refine xg_t (xg_const) ?_
  refine xg_t (xg_istore (l1 := [(0, (2, 76)), (1, (1, 1))]) rfl rfl rfl) ?_
  refine xg_t (xg_const) ?_
  refine xg_t (xg_istore (l1 := [(2, (0, 0)), (0, (2, 76)), (1, (1, 1))]) rfl rfl rfl) ?_
  refine xg_t (xg_drop (l1 := [(0, (2, 76)), (1, (1, 1)), (2, (0, 0)), (3, (0, 0))]) (List.forall_mem_cons.mpr ⟨List.mem_cons_of_mem _ (List.mem_cons_of_mem _ (List.mem_cons_self)), List.forall_mem_cons.mpr ⟨List.mem_cons_of_mem _ (List.mem_cons_of_mem _ (List.mem_cons_of_mem _ (List.mem_cons_self))), List.forall_mem_cons.mpr ⟨List.mem_cons_of_mem _ (List.mem_cons_self), List.forall_mem_cons.mpr ⟨List.mem_cons_self, fun _ h => absurd h List.not_mem_nil⟩⟩⟩⟩)) ?_
  exact ka_lp hk hu h76 h77 u 0 (by omega)
theorem law11_ok (hk : xnm bd (1, 1) = (0, u)) (hu : u < 240) (h0 : xC0 w) (h76 : xLw w kl ns nf nn 0 nx) (h20 : xC20 w) (h77 : xC77 w) : xPq (d + 2) mX11_law [(2, 0), (1, 1)] w bd fc rr [(0, 100 * (u / 60) + u % 60 + 1)] (xBut 76 w) := by
  refine xPq.of ?_
  show xTo (d + 2) mX11_law (0, [], [(0, (2, 0)), (1, (1, 1))], [], (w, bd, fc, 0, 0, rr)) (fun φ => ∃ w', xEnd 1 [(0, 100 * (u / 60) + u % 60 + 1)] (w', bd, fc, 0, 0, rr) φ ∧ xBut 76 w w')
  refine xg_t (xg_blk (b := [(0, 1, 0, 0, 0, 0), (1, 3, 1, 11, 8, 79), (4, 3, 13, 199, 32, 327), (7, 1, 2, 1, 0, 0), (8, 3, 7, 22, 2, 0), (11, 1, 2, 1, 0, 0), (12, 1, 0, 0, 0, 0), (13, 3, 1, 11, 8, 79), (16, 3, 1, 4, 4, 328), (19, 3, 6, 24, 2, 0)]) rfl) ?_
  refine xg_t (xg_aload (va := (2, 0)) rfl rfl) ?_
  refine xg_t (xg_getf (va := (2, 76)) h0 rfl) ?_
  refine xg_cV mX4_refresh (vs := []) (rest := []) (rs := []) (cn1 := 0) (sl1 := 0) rfl (refresh_ok h76 h20 h77) rfl h76 rfl rfl rfl rfl rfl rfl rfl (fun w1 hq => ?_)
  refine xg_t (xg_iload (va := (1, 1)) rfl rfl) ?_
  refine xg_t (xg_ifF (u := u) rfl hk (xj_ltF (Nat.zero_le u) (by omega))) ?_
  refine xg_t (xg_iload (va := (1, 1)) rfl rfl) ?_
  refine xg_t (xg_aload (va := (2, 0)) rfl rfl) ?_
  refine xg_t (xg_getf (va := (2, 76)) (hq.2.get (by decide) h0) rfl) ?_
  refine xg_t (xg_getf (va := (0, 240)) hq.1 rfl) ?_
  refine xg_t (xg_icT (u := u) (v := 240) rfl hk xnm0 (xj_ltT hu (by decide))) ?_
  refine xg_t (xg_blk (b := [(24, 1, 0, 0, 0, 0), (25, 3, 1, 11, 8, 79), (28, 1, 2, 1, 0, 0), (29, 3, 13, 198, 32, 331), (32, 1, 12, 0, 1, 0)]) rfl) ?_
  refine xg_t (xg_aload (va := (2, 0)) rfl rfl) ?_
  refine xg_t (xg_getf (va := (2, 76)) (hq.2.get (by decide) h0) rfl) ?_
  refine xg_t (xg_iload (va := (1, 1)) rfl rfl) ?_
  refine xg_t (xg_cVr mX4_keptAt (vs := [(1, 1)]) (rest := []) (rs := [(0, 100 * (u / 60) + u % 60 + 1)]) (cn1 := 0) (sl1 := 0) rfl (keptAt_ok hk hu hq.1 (h77.but hq.2 (by decide))) rfl hq.1 rfl rfl rfl rfl rfl rfl rfl) ?_
  exact xg_e ⟨w1, ⟨rfl, rfl⟩, hq.2⟩
theorem kp_lp (h82 : wget w 82 = some (.inl (12, fm))) (f0 : xget fm 0 = some (2, 83)) (f44 : xget fm 44 = some (2, 111)) (h83 : wget w 83 = some (.inr (0, 5360, t3, us3))) (e83 : xat 0 us3 901 = (0, 0)) (h111 : xC111 w) : ∀ (n i : Nat), i + n = 240 → xTo d mX12_keeps (2, [], [(0, (2, 82)), (1, (0, i))], [], (w, bd, fc, 0, 0, rr)) (xEnd 0 [] (w, bd, fc, 0, 0, rr))
  | 0, i, hn => by
    refine xg_t (xg_blk (b := [(2, 1, 2, 1, 0, 0), (3, 3, 5, 240, 0, 0), (6, 3, 6, 148, 3, 0), (9, 1, 0, 0, 0, 0), (10, 3, 1, 12, 44, 96), (13, 1, 2, 1, 0, 0), (14, 1, 3, 0, 0, 0), (15, 1, 17, 0, 0, 0), (16, 1, 3, 0, 0, 0), (17, 1, 15, 2, 0, 0)]) rfl) ?_
    refine xg_t (xg_iload (va := (0, i)) rfl rfl) ?_
    refine xg_t (xg_sip) ?_
    refine xg_t (xg_icT (u := i) (v := 240) rfl xnm0 xnm0 (xj_geT (by omega) (by omega))) ?_
    refine xg_t (xg_blk (b := [(148, 1, 12, 0, 0, 0)]) rfl) ?_
    exact xg_e ⟨rfl, rfl⟩
  | n + 1, i, hn => by
    refine xg_t (xg_blk (b := [(2, 1, 2, 1, 0, 0), (3, 3, 5, 240, 0, 0), (6, 3, 6, 148, 3, 0), (9, 1, 0, 0, 0, 0), (10, 3, 1, 12, 44, 96), (13, 1, 2, 1, 0, 0), (14, 1, 3, 0, 0, 0), (15, 1, 17, 0, 0, 0), (16, 1, 3, 0, 0, 0), (17, 1, 15, 2, 0, 0)]) rfl) ?_
    refine xg_t (xg_iload (va := (0, i)) rfl rfl) ?_
    refine xg_t (xg_sip) ?_
    refine xg_t (xg_icF (u := i) (v := 240) rfl xnm0 xnm0 (xj_geF (by omega) (by omega))) ?_
    refine xg_t (xg_aload (va := (2, 82)) rfl rfl) ?_
    refine xg_t (xg_getf (va := (2, 111)) h82 f44) ?_
    refine xg_t (xg_iload (va := (0, i)) rfl rfl) ?_
    refine xg_t (xg_const) ?_
    refine xg_t (xg_iastR (n := i) (u := 0) h111 xnm0 xnm0 rfl (by omega) (rfl)) ?_
    refine xg_t (xg_const) ?_
    refine xg_t (xg_istore (l1 := [(0, (2, 82)), (1, (0, i))]) rfl rfl rfl) ?_
    refine xg_t (xg_blk (b := [(18, 1, 2, 2, 0, 0), (19, 1, 0, 0, 0, 0), (20, 3, 1, 12, 0, 7), (23, 3, 5, 901, 0, 0), (26, 1, 10, 0, 0, 0), (27, 3, 6, 142, 3, 0), (30, 3, 5, 970, 0, 0), (33, 1, 3, 4, 0, 0), (34, 1, 2, 2, 0, 0), (35, 1, 16, 0, 0, 0), (36, 1, 11, 0, 0, 0), (37, 1, 15, 3, 0, 0), (38, 1, 2, 1, 0, 0), (39, 1, 0, 0, 0, 0), (40, 3, 1, 12, 0, 7), (43, 1, 2, 3, 0, 0), (44, 1, 10, 0, 0, 0), (45, 3, 13, 139, 98, 397), (48, 2, 15, 4, 0, 0), (50, 1, 0, 0, 0, 0), (51, 3, 1, 12, 0, 7), (54, 1, 2, 3, 0, 0), (55, 1, 3, 3, 0, 0), (56, 1, 11, 0, 0, 0), (57, 1, 10, 0, 0, 0), (58, 3, 7, 77, 0, 0), (61, 1, 0, 0, 0, 0), (62, 3, 1, 12, 0, 7), (65, 1, 2, 3, 0, 0), (66, 1, 3, 1, 0, 0), (67, 1, 11, 0, 0, 0), (68, 1, 10, 0, 0, 0), (69, 2, 4, 8, 0, 0), (71, 2, 2, 4, 0, 0), (73, 1, 16, 0, 0, 0), (74, 3, 6, 116, 2, 0)]) rfl) ?_
    refine xg_t (xg_iload (va := (0, 0)) rfl rfl) ?_
    refine xg_t (xg_aload (va := (2, 82)) rfl rfl) ?_
    refine xg_t (xg_getf (va := (2, 83)) h82 f0) ?_
    refine xg_t (xg_sip) ?_
    refine xg_t (xg_iald (n := 901) (vb := (0, 0)) h83 xnm0 (by decide) (e83)) ?_
    refine xg_t (xg_icT (u := 0) (v := 0) rfl xnm0 xnm0 (xj_geT (Nat.le_refl 0) (by decide))) ?_
    refine xg_t (xg_blk (b := [(142, 3, 9, 1, 1, 0), (145, 3, 8, 2, 0, 0)]) rfl) ?_
    refine xg_t (xg_iinc (u := i) (z := i + 1) (l1 := [(2, (0, 0)), (0, (2, 82))]) rfl rfl (by omega) rfl) ?_
    refine xg_t (xg_goto) ?_
    refine xg_t (xg_drop (l1 := [(0, (2, 82)), (1, (0, i + 1))]) (List.forall_mem_cons.mpr ⟨List.mem_cons_of_mem _ (List.mem_cons_of_mem _ (List.mem_cons_self)), List.forall_mem_cons.mpr ⟨List.mem_cons_self, fun _ h => absurd h List.not_mem_nil⟩⟩)) ?_
    exact kp_lp h82 f0 f44 h83 e83 h111 n (i + 1) (by omega)
theorem keeps_ok (hm : xMo w) : xPr d mX12_keeps [(2, 82)] w bd fc rr [] w := by
  obtain ⟨⟨fm, h82, f0, f44⟩, ⟨t3, us3, h83, e83⟩, h111⟩ := hm
  refine xPr.of ?_
  show xTo d mX12_keeps (0, [], [(0, (2, 82))], [], (w, bd, fc, 0, 0, rr)) (xEnd 0 [] (w, bd, fc, 0, 0, rr))
  refine xg_t (xg_blk (b := [(0, 1, 3, 0, 0, 0), (1, 1, 15, 1, 0, 0)]) rfl) ?_
  refine xg_t (xg_const) ?_
  refine xg_t (xg_istore (l1 := [(0, (2, 82))]) rfl rfl rfl) ?_
  refine xg_t (xg_drop (l1 := [(0, (2, 82)), (1, (0, 0))]) (List.forall_mem_cons.mpr ⟨List.mem_cons_of_mem _ (List.mem_cons_self), List.forall_mem_cons.mpr ⟨List.mem_cons_self, fun _ h => absurd h List.not_mem_nil⟩⟩)) ?_
  exact kp_lp h82 f0 f44 h83 e83 h111 240 0 rfl
theorem allTests_ok (hm : xMo w) : xPr d mX12_allTests [(2, 82)] w bd fc rr [(0, 0)] w := by
  obtain ⟨⟨fm, h82, f0, f44⟩, ⟨t3, us3, h83, e83⟩, h111⟩ := hm
  refine xPr.of ?_
  show xTo d mX12_allTests (0, [], [(0, (2, 82))], [], (w, bd, fc, 0, 0, rr)) (xEnd 1 [(0, 0)] (w, bd, fc, 0, 0, rr))
  refine xg_t (xg_blk (b := [(0, 1, 3, 1, 0, 0), (1, 1, 0, 0, 0, 0), (2, 3, 1, 12, 0, 7), (5, 3, 5, 901, 0, 0), (8, 1, 10, 0, 0, 0), (9, 1, 26, 0, 0, 0), (10, 1, 3, 1, 0, 0), (11, 1, 18, 0, 0, 0), (12, 1, 12, 0, 1, 0)]) rfl) ?_
  refine xg_t (xg_const) ?_
  refine xg_t (xg_aload (va := (2, 82)) rfl rfl) ?_
  refine xg_t (xg_getf (va := (2, 83)) h82 f0) ?_
  refine xg_t (xg_sip) ?_
  refine xg_t (xg_iald (n := 901) (vb := (0, 0)) h83 xnm0 (by decide) (e83)) ?_
  refine xg_t (xg_ishl (u := 1) (v := 0) (z := 1) xnm0 xnm0 (by decide) (by decide)) ?_
  refine xg_t (xg_const) ?_
  refine xg_t (xg_isub (u := 1) (v := 1) (z := 0) xnm0 xnm0 (by decide)) ?_
  exact xg_e ⟨rfl, rfl⟩
theorem isLaw_ok (hm : xMo w) (hi : i < 240) : xPr (d + 1) mX12_isLaw [(2, 82), (0, i)] w bd fc rr [(0, 1)] w := by
  obtain ⟨⟨fm, h82, f0, f44⟩, ⟨t3, us3, h83, e83⟩, h111⟩ := id hm
  refine xPr.of ?_
  show xTo (d + 1) mX12_isLaw (0, [], [(0, (2, 82)), (1, (0, i))], [], (w, bd, fc, 0, 0, rr)) (xEnd 4 [(0, 1)] (w, bd, fc, 0, 0, rr))
  refine xg_t (xg_blk (b := [(0, 1, 0, 0, 0, 0), (1, 3, 1, 12, 44, 96), (4, 1, 2, 1, 0, 0), (5, 1, 10, 0, 0, 0), (6, 1, 0, 0, 0, 0), (7, 3, 13, 88, 96, 400), (10, 3, 6, 17, 1, 0), (13, 1, 3, 1, 0, 0), (14, 3, 8, 18, 0, 0)]) rfl) ?_
  refine xg_t (xg_aload (va := (2, 82)) rfl rfl) ?_
  refine xg_t (xg_getf (va := (2, 111)) h82 f44) ?_
  refine xg_t (xg_iload (va := (0, i)) rfl rfl) ?_
  refine xg_t (xg_ialdR (n := i) (u := 0) h111 xnm0 (hi) (rfl)) ?_
  refine xg_t (xg_aload (va := (2, 82)) rfl rfl) ?_
  refine xg_t (xg_cVr mX12_allTests (vs := []) (rest := [(0, 0)]) (rs := [(0, 0), (0, 0)]) (cn1 := 0) (sl1 := 0) rfl (allTests_ok hm) rfl h82 rfl rfl rfl rfl rfl rfl rfl) ?_
  refine xg_t (xg_icF (u := 0) (v := 0) rfl xnm0 xnm0 (xj_neF rfl)) ?_
  refine xg_t (xg_const) ?_
  refine xg_t (xg_goto) ?_
  refine xg_t (xg_blk (b := [(18, 1, 12, 0, 1, 0)]) rfl) ?_
  exact xg_e ⟨rfl, rfl⟩
theorem lw_lp (hk : xnm bd (1, 1) = (0, u)) (hu : u < 240) (hm : xMo w) (h82 : wget w 82 = some (.inl (12, fm))) : ∀ (n i : Nat), i + n = u → xTo (d + 2) mX12_law (8, [], [(0, (2, 82)), (1, (1, 1)), (2, (0, i)), (3, (0, i))], [], (w, bd, fc, 0, 0, rr)) (xEnd 1 [(0, 100 * (u / 60) + u % 60 + 1)] (w, bd, fc, 0, 0, rr))
  | 0, i, hn => by
    have hi : i = u := by omega
    refine xg_t (xg_blk (b := [(8, 1, 2, 3, 0, 0), (9, 3, 5, 240, 0, 0), (12, 3, 6, 55, 3, 0), (15, 1, 0, 0, 0, 0), (16, 1, 2, 3, 0, 0), (17, 3, 13, 129, 96, 406), (20, 3, 7, 26, 1, 0), (23, 3, 8, 49, 0, 0)]) rfl) ?_
    refine xg_t (xg_iload (va := (0, i)) rfl rfl) ?_
    refine xg_t (xg_sip) ?_
    refine xg_t (xg_icF (u := i) (v := 240) rfl xnm0 xnm0 (xj_geF (by omega) (by omega))) ?_
    refine xg_t (xg_aload (va := (2, 82)) rfl rfl) ?_
    refine xg_t (xg_iload (va := (0, i)) rfl rfl) ?_
    refine xg_t (xg_cVr mX12_isLaw (vs := [(0, i)]) (rest := []) (rs := [(0, 1)]) (cn1 := 0) (sl1 := 0) rfl (isLaw_ok hm (by omega)) rfl h82 rfl rfl rfl rfl rfl rfl rfl) ?_
    refine xg_t (xg_ifT (u := 1) rfl xnm0 (xj_neT (by decide))) ?_
    refine xg_t (xg_blk (b := [(26, 1, 2, 2, 0, 0), (27, 1, 2, 1, 0, 0), (28, 3, 6, 46, 1, 0), (31, 2, 4, 100, 0, 0), (33, 1, 2, 3, 0, 0), (34, 2, 4, 60, 0, 0), (36, 1, 20, 0, 0, 0), (37, 1, 16, 0, 0, 0), (38, 1, 2, 3, 0, 0), (39, 2, 4, 60, 0, 0), (41, 1, 21, 0, 0, 0), (42, 1, 11, 0, 0, 0), (43, 1, 3, 1, 0, 0), (44, 1, 11, 0, 0, 0), (45, 1, 12, 0, 1, 0)]) rfl) ?_
    refine xg_t (xg_iload (va := (0, i)) rfl rfl) ?_
    refine xg_t (xg_iload (va := (1, 1)) rfl rfl) ?_
    refine xg_t (xg_icF (u := i) (v := u) rfl xnm0 hk (xj_neF hi)) ?_
    refine xg_t (xg_bip) ?_
    refine xg_t (xg_iload (va := (0, i)) rfl rfl) ?_
    refine xg_t (xg_bip) ?_
    refine xg_t (xg_idiv (u := i) (v := 60) (z := i / 60) xnm0 xnm0 (by omega) (by decide) (by decide) (rfl)) ?_
    refine xg_t (xg_imul (u := 100) (v := i / 60) (z := 100 * (i / 60)) xnm0 xnm0 (by omega)) ?_
    refine xg_t (xg_iload (va := (0, i)) rfl rfl) ?_
    refine xg_t (xg_bip) ?_
    refine xg_t (xg_irem (u := i) (v := 60) (z := i % 60) xnm0 xnm0 (by omega) (by decide) (by decide) (rfl)) ?_
    refine xg_t (xg_iadd (u := 100 * (i / 60)) (v := i % 60) (z := 100 * (i / 60) + i % 60) xnm0 xnm0 (by omega)) ?_
    refine xg_t (xg_const) ?_
    refine xg_t (xg_iadd (u := 100 * (i / 60) + i % 60) (v := 1) (z := 100 * (i / 60) + i % 60 + 1) xnm0 xnm0 (by omega)) ?_
    exact xg_e ⟨by rw [← hi]; rfl, rfl⟩
  | n + 1, i, hn => by
    refine xg_t (xg_blk (b := [(8, 1, 2, 3, 0, 0), (9, 3, 5, 240, 0, 0), (12, 3, 6, 55, 3, 0), (15, 1, 0, 0, 0, 0), (16, 1, 2, 3, 0, 0), (17, 3, 13, 129, 96, 406), (20, 3, 7, 26, 1, 0), (23, 3, 8, 49, 0, 0)]) rfl) ?_
    refine xg_t (xg_iload (va := (0, i)) rfl rfl) ?_
    refine xg_t (xg_sip) ?_
    refine xg_t (xg_icF (u := i) (v := 240) rfl xnm0 xnm0 (xj_geF (by omega) (by omega))) ?_
    refine xg_t (xg_aload (va := (2, 82)) rfl rfl) ?_
    refine xg_t (xg_iload (va := (0, i)) rfl rfl) ?_
    refine xg_t (xg_cVr mX12_isLaw (vs := [(0, i)]) (rest := []) (rs := [(0, 1)]) (cn1 := 0) (sl1 := 0) rfl (isLaw_ok hm (by omega)) rfl h82 rfl rfl rfl rfl rfl rfl rfl) ?_
    refine xg_t (xg_ifT (u := 1) rfl xnm0 (xj_neT (by decide))) ?_
    refine xg_t (xg_blk (b := [(26, 1, 2, 2, 0, 0), (27, 1, 2, 1, 0, 0), (28, 3, 6, 46, 1, 0), (31, 2, 4, 100, 0, 0), (33, 1, 2, 3, 0, 0), (34, 2, 4, 60, 0, 0), (36, 1, 20, 0, 0, 0), (37, 1, 16, 0, 0, 0), (38, 1, 2, 3, 0, 0), (39, 2, 4, 60, 0, 0), (41, 1, 21, 0, 0, 0), (42, 1, 11, 0, 0, 0), (43, 1, 3, 1, 0, 0), (44, 1, 11, 0, 0, 0), (45, 1, 12, 0, 1, 0)]) rfl) ?_
    refine xg_t (xg_iload (va := (0, i)) rfl rfl) ?_
    refine xg_t (xg_iload (va := (1, 1)) rfl rfl) ?_
    refine xg_t (xg_icT (u := i) (v := u) rfl xnm0 hk (xj_neT (by omega))) ?_
    refine xg_t (xg_blk (b := [(46, 3, 9, 2, 1, 0)]) rfl) ?_
    refine xg_t (xg_iinc (u := i) (z := i + 1) (l1 := [(0, (2, 82)), (1, (1, 1)), (3, (0, i))]) rfl rfl (by omega) rfl) ?_
    refine xg_t (xg_blk (b := [(49, 3, 9, 3, 1, 0), (52, 3, 8, 8, 0, 0)]) rfl) ?_
    refine xg_t (xg_iinc (u := i) (z := i + 1) (l1 := [(2, (0, i + 1)), (0, (2, 82)), (1, (1, 1))]) rfl rfl (by omega) rfl) ?_
    refine xg_t (xg_goto) ?_
    refine xg_t (xg_drop (l1 := [(0, (2, 82)), (1, (1, 1)), (2, (0, i + 1)), (3, (0, i + 1))]) (List.forall_mem_cons.mpr ⟨List.mem_cons_of_mem _ (List.mem_cons_of_mem _ (List.mem_cons_self)), List.forall_mem_cons.mpr ⟨List.mem_cons_of_mem _ (List.mem_cons_of_mem _ (List.mem_cons_of_mem _ (List.mem_cons_self))), List.forall_mem_cons.mpr ⟨List.mem_cons_of_mem _ (List.mem_cons_self), List.forall_mem_cons.mpr ⟨List.mem_cons_self, fun _ h => absurd h List.not_mem_nil⟩⟩⟩⟩)) ?_
    exact lw_lp hk hu hm h82 n (i + 1) (by omega)
theorem law12_ok (hk : xnm bd (1, 1) = (0, u)) (hu : u < 240) (hm : xMo w) : xPr (d + 2) mX12_law [(2, 82), (1, 1)] w bd fc rr [(0, 100 * (u / 60) + u % 60 + 1)] w := by
  obtain ⟨⟨fm, h82, f0, f44⟩, -⟩ := id hm
  refine xPr.of ?_
  show xTo (d + 2) mX12_law (0, [], [(0, (2, 82)), (1, (1, 1))], [], (w, bd, fc, 0, 0, rr)) (xEnd 1 [(0, 100 * (u / 60) + u % 60 + 1)] (w, bd, fc, 0, 0, rr))
  refine xg_t (xg_blk (b := [(0, 1, 0, 0, 0, 0), (1, 3, 13, 135, 96, 403), (4, 1, 3, 0, 0, 0), (5, 1, 15, 2, 0, 0), (6, 1, 3, 0, 0, 0), (7, 1, 15, 3, 0, 0)]) rfl) ?_
  refine xg_t (xg_aload (va := (2, 82)) rfl rfl) ?_
  refine xg_t (xg_cVr mX12_keeps (vs := []) (rest := []) (rs := []) (cn1 := 0) (sl1 := 0) rfl (keeps_ok hm) rfl h82 rfl rfl rfl rfl rfl rfl rfl) ?_
  refine xg_t (xg_const) ?_
  refine xg_t (xg_istore (l1 := [(0, (2, 82)), (1, (1, 1))]) rfl rfl rfl) ?_
  refine xg_t (xg_const) ?_
  refine xg_t (xg_istore (l1 := [(2, (0, 0)), (0, (2, 82)), (1, (1, 1))]) rfl rfl rfl) ?_
  refine xg_t (xg_drop (l1 := [(0, (2, 82)), (1, (1, 1)), (2, (0, 0)), (3, (0, 0))]) (List.forall_mem_cons.mpr ⟨List.mem_cons_of_mem _ (List.mem_cons_of_mem _ (List.mem_cons_self)), List.forall_mem_cons.mpr ⟨List.mem_cons_of_mem _ (List.mem_cons_of_mem _ (List.mem_cons_of_mem _ (List.mem_cons_self))), List.forall_mem_cons.mpr ⟨List.mem_cons_of_mem _ (List.mem_cons_self), List.forall_mem_cons.mpr ⟨List.mem_cons_self, fun _ h => absurd h List.not_mem_nil⟩⟩⟩⟩)) ?_
  exact lw_lp hk hu hm h82 u 0 (by omega)
end XLA
