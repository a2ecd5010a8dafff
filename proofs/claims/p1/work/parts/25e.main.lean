/-! the model's next; the law's cases of law and next -/
section XMN
variable {d l u k i j n v p0 pc ln x y ix : Nat} {w w1 : List (List xE)} {bd : List (Nat × Nat)} {fc : List (Nat × Nat × Bool)} {rr : Nat × Nat} {fm : List xV} {lw sp fo : Nat} {M : xM} {tl : List xI} {lo : xLo} {st : List xV} {hp : xH} {va vb : xV}
theorem xg_icqT (ia : (xisi va && xisi vb) = true) (hq : xask hp.2.1 hp.2.2.1 y (xnm hp.2.1 va) (xnm hp.2.1 vb) = (1, 0, 0)) (hy : Nat.beq (y % 2) 0 = true) : xLd d M (p0, (pc, ln, 6, x, y, ix) :: tl, lo, vb :: va :: st, hp) [(x, [], lo, st, hp)] := by
  refine xg_op (f := xh_icmp) rfl ?_
  show xif (xisi va && xisi vb) (xbr xidk d M (pc, ln, 6, x, y, ix) tl lo (vb :: va :: st) st hp (xnm hp.2.1 va) (xnm hp.2.1 vb)) = _
  rw [ia]
  show xans (xask hp.2.1 hp.2.2.1 y (xnm hp.2.1 va) (xnm hp.2.1 vb)) hp (fun t => cond (Nat.beq (y % 2) 0) (cond t (xidk d M (x, [], lo, st, hp)) (xidk d M (pc + ln, tl, lo, st, hp))) (cond t (xidk d M (pc + ln, tl, lo, st, hp)) (xidk d M (x, [], lo, st, hp)))) _ = _
  rw [hq, hy]
  rfl
theorem xg_icqF (ia : (xisi va && xisi vb) = true) (hq : xask hp.2.1 hp.2.2.1 y (xnm hp.2.1 va) (xnm hp.2.1 vb) = (0, 0, 0)) (hy : Nat.beq (y % 2) 0 = true) : xLd d M (p0, (pc, ln, 6, x, y, ix) :: tl, lo, vb :: va :: st, hp) [(pc + ln, tl, lo, st, hp)] := by
  refine xg_op (f := xh_icmp) rfl ?_
  show xif (xisi va && xisi vb) (xbr xidk d M (pc, ln, 6, x, y, ix) tl lo (vb :: va :: st) st hp (xnm hp.2.1 va) (xnm hp.2.1 vb)) = _
  rw [ia]
  show xans (xask hp.2.1 hp.2.2.1 y (xnm hp.2.1 va) (xnm hp.2.1 vb)) hp (fun t => cond (Nat.beq (y % 2) 0) (cond t (xidk d M (x, [], lo, st, hp)) (xidk d M (pc + ln, tl, lo, st, hp))) (cond t (xidk d M (pc + ln, tl, lo, st, hp)) (xidk d M (x, [], lo, st, hp)))) _ = _
  rw [hq, hy]
  rfl
theorem isIn_t (hk : xnm bd (1, 1) = (0, u)) (hu : u ≤ 2) : xPr d mX12_isIn [(1, 1), (0, 0), (0, 2)] w bd fc rr [(0, 1)] w := by
  refine xPr.of ?_
  show xTo d mX12_isIn (0, [], [(0, (1, 1)), (1, (0, 0)), (2, (0, 2))], [], (w, bd, fc, 0, 0, rr)) (xEnd 4 [(0, 1)] (w, bd, fc, 0, 0, rr))
  refine xg_t (xg_blk (b := [(0, 1, 2, 0, 0, 0), (1, 1, 2, 1, 0, 0), (2, 3, 6, 14, 2, 0), (5, 1, 2, 0, 0, 0), (6, 1, 2, 2, 0, 0), (7, 3, 6, 14, 4, 0), (10, 1, 3, 1, 0, 0), (11, 3, 8, 15, 0, 0)]) rfl) ?_
  refine xg_t (xg_iload (va := (1, 1)) rfl rfl) ?_
  refine xg_t (xg_iload (va := (0, 0)) rfl rfl) ?_
  refine xg_t (xg_icF (u := u) (v := 0) rfl hk xnm0 (xj_ltF (Nat.zero_le u) (by omega))) ?_
  refine xg_t (xg_iload (va := (1, 1)) rfl rfl) ?_
  refine xg_t (xg_iload (va := (0, 2)) rfl rfl) ?_
  refine xg_t (xg_icF (u := u) (v := 2) rfl hk xnm0 (xj_gtF hu (by decide))) ?_
  refine xg_t (xg_const) ?_
  refine xg_t (xg_goto) ?_
  refine xg_t (xg_blk (b := [(15, 1, 12, 0, 1, 0)]) rfl) ?_
  exact xg_e ⟨rfl, rfl⟩
theorem isIn_f (hq : xask bd fc 2 (xnm bd (1, 1)) (0, 0) = (1, 0, 0) ∨ (xask bd fc 2 (xnm bd (1, 1)) (0, 0) = (0, 0, 0) ∧ xask bd fc 4 (xnm bd (1, 1)) (0, 2) = (1, 0, 0))) : xPr d mX12_isIn [(1, 1), (0, 0), (0, 2)] w bd fc rr [(0, 0)] w := by
  refine xPr.of ?_
  show xTo d mX12_isIn (0, [], [(0, (1, 1)), (1, (0, 0)), (2, (0, 2))], [], (w, bd, fc, 0, 0, rr)) (xEnd 4 [(0, 0)] (w, bd, fc, 0, 0, rr))
  refine xg_t (xg_blk (b := [(0, 1, 2, 0, 0, 0), (1, 1, 2, 1, 0, 0), (2, 3, 6, 14, 2, 0), (5, 1, 2, 0, 0, 0), (6, 1, 2, 2, 0, 0), (7, 3, 6, 14, 4, 0), (10, 1, 3, 1, 0, 0), (11, 3, 8, 15, 0, 0)]) rfl) ?_
  refine xg_t (xg_iload (va := (1, 1)) rfl rfl) ?_
  refine xg_t (xg_iload (va := (0, 0)) rfl rfl) ?_
  rcases hq with h | h
  · show xTo d mX12_isIn _ _
    refine xg_t (xg_icqT rfl h rfl) ?_
    refine xg_t (xg_blk (b := [(14, 1, 3, 0, 0, 0)]) rfl) ?_
    refine xg_t (xg_const) ?_
    refine xg_t (xg_blk (b := [(15, 1, 12, 0, 1, 0)]) rfl) ?_
    exact xg_e ⟨rfl, rfl⟩
  · show xTo d mX12_isIn _ _
    refine xg_t (xg_icqF rfl h.1 rfl) ?_
    refine xg_t (xg_iload (va := (1, 1)) rfl rfl) ?_
    refine xg_t (xg_iload (va := (0, 2)) rfl rfl) ?_
    refine xg_t (xg_icqT rfl h.2 rfl) ?_
    refine xg_t (xg_blk (b := [(14, 1, 3, 0, 0, 0)]) rfl) ?_
    refine xg_t (xg_const) ?_
    refine xg_t (xg_blk (b := [(15, 1, 12, 0, 1, 0)]) rfl) ?_
    exact xg_e ⟨rfl, rfl⟩
theorem next12_f (hq : xask bd fc 2 (xnm bd (1, 1)) (0, 0) = (1, 0, 0) ∨ (xask bd fc 2 (xnm bd (1, 1)) (0, 0) = (0, 0, 0) ∧ xask bd fc 4 (xnm bd (1, 1)) (0, 2) = (1, 0, 0))) : xPr (d + 2) mX12_next [(2, 82), (1, 1)] w bd fc rr [(0, 4294967295)] w := by
  refine xPr.of ?_
  show xTo (d + 2) mX12_next (0, [], [(0, (2, 82)), (1, (1, 1))], [], (w, bd, fc, 0, 0, rr)) (xEnd 1 [(0, 4294967295)] (w, bd, fc, 0, 0, rr))
  refine xg_t (xg_blk (b := [(0, 1, 2, 1, 0, 0), (1, 1, 3, 0, 0, 0), (2, 1, 3, 2, 0, 0), (3, 3, 13, 126, 98, 105), (6, 3, 7, 11, 1, 0), (9, 1, 3, 4294967295, 0, 0), (10, 1, 12, 0, 1, 0)]) rfl) ?_
  refine xg_t (xg_iload (va := (1, 1)) rfl rfl) ?_
  refine xg_t (xg_const) ?_
  refine xg_t (xg_const) ?_
  refine xg_t (xg_cSr mX12_isIn (vs := [(1, 1), (0, 0), (0, 2)]) (rest := []) (rs := [(0, 0)]) (cn1 := 0) (sl1 := 0) rfl (isIn_f hq) rfl rfl rfl rfl rfl rfl rfl rfl) ?_
  refine xg_t (xg_ifF (u := 0) rfl xnm0 (xj_neF rfl)) ?_
  refine xg_t (xg_const) ?_
  exact xg_e ⟨rfl, rfl⟩
theorem nx_in (hm : xMo w) (h82 : wget w 82 = some (.inl (12, fm))) (h1 : 1 ≤ v) (h2 : v ≤ 9) (hj : j < 15) : ∀ (n l : Nat), l + n = 240 → xTo (d + 2) mX12_next (63, [], [(0, (2, 82)), (1, (1, 1)), (2, (0, sp)), (3, (0, fo)), (4, (0, lw)), (5, (0, k)), (6, (0, v)), (7, (0, 10 * 2 ^ j)), (8, (0, xcr v l j)), (9, (0, xwh v l j)), (10, (0, l))], [], (w, bd, fc, 0, 0, rr)) (fun φ => φ = (139, [], [(0, (2, 82)), (1, (1, 1)), (2, (0, sp)), (3, (0, fo)), (4, (0, lw)), (5, (0, k)), (6, (0, v)), (7, (0, 10 * 2 ^ j)), (8, (0, xcr v 240 j)), (9, (0, xwh v 240 j)), (10, (0, 240))], [], (w, bd, fc, 0, 0, rr)))
  | 0, l, hn => by
    obtain rfl : l = 240 := by omega
    refine xg_t (xg_blk (b := [(63, 2, 2, 10, 0, 0), (65, 3, 5, 240, 0, 0), (68, 3, 6, 139, 3, 0), (71, 1, 0, 0, 0, 0), (72, 2, 2, 10, 0, 0), (74, 3, 13, 129, 96, 406), (77, 3, 7, 83, 1, 0), (80, 3, 8, 133, 0, 0)]) rfl) ?_
    refine xg_t (xg_iload (va := (0, 240)) rfl rfl) ?_
    refine xg_t (xg_sip) ?_
    refine xg_t (xg_icT (u := 240) (v := 240) rfl xnm0 xnm0 (xj_geT (by omega) (by omega))) ?_
    exact xg_e rfl
  | n + 1, l, hn => by
    have hun := xun_le (show l < 240 by omega) h1
    have hj2 := x2j hj
    refine xg_t (xg_blk (b := [(63, 2, 2, 10, 0, 0), (65, 3, 5, 240, 0, 0), (68, 3, 6, 139, 3, 0), (71, 1, 0, 0, 0, 0), (72, 2, 2, 10, 0, 0), (74, 3, 13, 129, 96, 406), (77, 3, 7, 83, 1, 0), (80, 3, 8, 133, 0, 0)]) rfl) ?_
    refine xg_t (xg_iload (va := (0, l)) rfl rfl) ?_
    refine xg_t (xg_sip) ?_
    refine xg_t (xg_icF (u := l) (v := 240) rfl xnm0 xnm0 (xj_geF (by omega) (by omega))) ?_
    refine xg_t (xg_aload (va := (2, 82)) rfl rfl) ?_
    refine xg_t (xg_iload (va := (0, l)) rfl rfl) ?_
    refine xg_t (xg_cVr mX12_isLaw (vs := [(0, l)]) (rest := []) (rs := [(0, 1)]) (cn1 := 0) (sl1 := 0) rfl (isLaw_ok hm (by omega)) rfl h82 rfl rfl rfl rfl rfl rfl rfl) ?_
    refine xg_t (xg_ifT (u := 1) rfl xnm0 (xj_neT (by decide))) ?_
    refine xg_t (xg_blk (b := [(83, 2, 2, 8, 0, 0), (85, 2, 2, 7, 0, 0), (87, 2, 4, 8, 0, 0), (89, 2, 2, 10, 0, 0), (91, 2, 2, 6, 0, 0), (93, 3, 13, 139, 98, 397), (96, 1, 16, 0, 0, 0), (97, 3, 6, 104, 2, 0), (100, 1, 3, 1, 0, 0), (101, 3, 8, 105, 0, 0)]) rfl) ?_
    refine xg_t (xg_iload (va := (0, xcr v l j)) rfl rfl) ?_
    refine xg_t (xg_iload (va := (0, 10 * 2 ^ j)) rfl rfl) ?_
    refine xg_t (xg_bip) ?_
    refine xg_t (xg_iload (va := (0, l)) rfl rfl) ?_
    refine xg_t (xg_iload (va := (0, v)) rfl rfl) ?_
    refine xg_t (xg_cSr mX12_lawAt (vs := [(0, l), (0, v)]) (rest := [(0, 8), (0, 10 * 2 ^ j), (0, xcr v l j)]) (rs := [(0, xun l v), (0, 8), (0, 10 * 2 ^ j), (0, xcr v l j)]) (cn1 := 0) (sl1 := 0) rfl (lawAt_ok (by omega) h1 h2) rfl rfl rfl rfl rfl rfl rfl rfl) ?_
    refine xg_t (xg_imul (u := 8) (v := xun l v) (z := 8 * xun l v) xnm0 xnm0 (by omega)) ?_
    refine xTo.bind (P := fun φ => φ = (105, [], [(0, (2, 82)), (1, (1, 1)), (2, (0, sp)), (3, (0, fo)), (4, (0, lw)), (5, (0, k)), (6, (0, v)), (7, (0, 10 * 2 ^ j)), (8, (0, xcr v l j)), (9, (0, xwh v l j)), (10, (0, l))], [(0, if 8 * xun l v ≤ 10 * 2 ^ j then 1 else 0), (0, xcr v l j)], (w, bd, fc, 0, 0, rr))) ?_ ?_
    · by_cases hc : 8 * xun l v ≤ 10 * 2 ^ j
      · rw [if_pos hc]
        refine xg_t (xg_icF (u := 10 * 2 ^ j) (v := 8 * xun l v) rfl xnm0 xnm0 (xj_ltF hc (by omega))) ?_
        refine xg_t (xg_const) ?_
        refine xg_t (xg_goto) ?_
        exact xg_e rfl
      · rw [if_neg hc]
        refine xg_t (xg_icT (u := 10 * 2 ^ j) (v := 8 * xun l v) rfl xnm0 xnm0 (xj_ltT (by omega) (by omega))) ?_
        refine xg_t (xg_blk (b := [(104, 1, 3, 0, 0, 0)]) rfl) ?_
        refine xg_t (xg_const) ?_
        exact xg_e rfl
    intro φ hφ
    subst hφ
    refine xg_t (xg_blk (b := [(105, 1, 11, 0, 0, 0), (106, 2, 15, 8, 0, 0), (108, 2, 2, 9, 0, 0), (110, 2, 2, 7, 0, 0), (112, 2, 4, 12, 0, 0), (114, 2, 2, 10, 0, 0), (116, 2, 2, 6, 0, 0), (118, 3, 13, 139, 98, 397), (121, 1, 16, 0, 0, 0), (122, 3, 6, 129, 3, 0), (125, 1, 3, 1, 0, 0), (126, 3, 8, 130, 0, 0)]) rfl) ?_
    refine xg_t (xg_iadd (u := xcr v l j) (v := if 8 * xun l v ≤ 10 * 2 ^ j then 1 else 0) (z := xcr v l j + (if 8 * xun l v ≤ 10 * 2 ^ j then 1 else 0)) xnm0 xnm0 (xadd01 (Nat.le_trans (xcr_le l) (by omega)))) ?_
    refine xg_t (xg_istore (l1 := [(0, (2, 82)), (1, (1, 1)), (2, (0, sp)), (3, (0, fo)), (4, (0, lw)), (5, (0, k)), (6, (0, v)), (7, (0, 10 * 2 ^ j)), (9, (0, xwh v l j)), (10, (0, l))]) rfl rfl rfl) ?_
    refine xg_t (xg_iload (va := (0, xwh v l j)) rfl rfl) ?_
    refine xg_t (xg_iload (va := (0, 10 * 2 ^ j)) rfl rfl) ?_
    refine xg_t (xg_bip) ?_
    refine xg_t (xg_iload (va := (0, l)) rfl rfl) ?_
    refine xg_t (xg_iload (va := (0, v)) rfl rfl) ?_
    refine xg_t (xg_cSr mX12_lawAt (vs := [(0, l), (0, v)]) (rest := [(0, 12), (0, 10 * 2 ^ j), (0, xwh v l j)]) (rs := [(0, xun l v), (0, 12), (0, 10 * 2 ^ j), (0, xwh v l j)]) (cn1 := 0) (sl1 := 0) rfl (lawAt_ok (by omega) h1 h2) rfl rfl rfl rfl rfl rfl rfl rfl) ?_
    refine xg_t (xg_imul (u := 12) (v := xun l v) (z := 12 * xun l v) xnm0 xnm0 (by omega)) ?_
    refine xTo.bind (P := fun φ => φ = (130, [], [(8, (0, xcr v l j + (if 8 * xun l v ≤ 10 * 2 ^ j then 1 else 0))), (0, (2, 82)), (1, (1, 1)), (2, (0, sp)), (3, (0, fo)), (4, (0, lw)), (5, (0, k)), (6, (0, v)), (7, (0, 10 * 2 ^ j)), (9, (0, xwh v l j)), (10, (0, l))], [(0, if 10 * 2 ^ j < 12 * xun l v then 1 else 0), (0, xwh v l j)], (w, bd, fc, 0, 0, rr))) ?_ ?_
    · by_cases hc : 10 * 2 ^ j < 12 * xun l v
      · rw [if_pos hc]
        refine xg_t (xg_icF (u := 10 * 2 ^ j) (v := 12 * xun l v) rfl xnm0 xnm0 (xj_geF hc (by omega))) ?_
        refine xg_t (xg_const) ?_
        refine xg_t (xg_goto) ?_
        exact xg_e rfl
      · rw [if_neg hc]
        refine xg_t (xg_icT (u := 10 * 2 ^ j) (v := 12 * xun l v) rfl xnm0 xnm0 (xj_geT (by omega) (by omega))) ?_
        refine xg_t (xg_blk (b := [(129, 1, 3, 0, 0, 0)]) rfl) ?_
        refine xg_t (xg_const) ?_
        exact xg_e rfl
    intro φ hφ
    subst hφ
    refine xg_t (xg_blk (b := [(130, 1, 11, 0, 0, 0), (131, 2, 15, 9, 0, 0)]) rfl) ?_
    refine xg_t (xg_iadd (u := xwh v l j) (v := if 10 * 2 ^ j < 12 * xun l v then 1 else 0) (z := xwh v l j + (if 10 * 2 ^ j < 12 * xun l v then 1 else 0)) xnm0 xnm0 (xadd01 (Nat.le_trans (xwh_le l) (by omega)))) ?_
    refine xg_t (xg_istore (l1 := [(8, (0, xcr v l j + (if 8 * xun l v ≤ 10 * 2 ^ j then 1 else 0))), (0, (2, 82)), (1, (1, 1)), (2, (0, sp)), (3, (0, fo)), (4, (0, lw)), (5, (0, k)), (6, (0, v)), (7, (0, 10 * 2 ^ j)), (10, (0, l))]) rfl rfl rfl) ?_
    refine xg_t (xg_blk (b := [(133, 3, 9, 10, 1, 0), (136, 3, 8, 63, 0, 0)]) rfl) ?_
    refine xg_t (xg_iinc (u := l) (z := l + 1) (l1 := [(9, (0, xwh v l j + (if 10 * 2 ^ j < 12 * xun l v then 1 else 0))), (8, (0, xcr v l j + (if 8 * xun l v ≤ 10 * 2 ^ j then 1 else 0))), (0, (2, 82)), (1, (1, 1)), (2, (0, sp)), (3, (0, fo)), (4, (0, lw)), (5, (0, k)), (6, (0, v)), (7, (0, 10 * 2 ^ j))]) rfl rfl (by omega) rfl) ?_
    refine xg_t (xg_goto) ?_
    refine xg_t (xg_drop (l1 := [(0, (2, 82)), (1, (1, 1)), (2, (0, sp)), (3, (0, fo)), (4, (0, lw)), (5, (0, k)), (6, (0, v)), (7, (0, 10 * 2 ^ j)), (8, (0, xcr v l j + (if 8 * xun l v ≤ 10 * 2 ^ j then 1 else 0))), (9, (0, xwh v l j + (if 10 * 2 ^ j < 12 * xun l v then 1 else 0))), (10, (0, l + 1))]) (List.forall_mem_cons.mpr ⟨List.mem_cons_of_mem _ (List.mem_cons_of_mem _ (List.mem_cons_of_mem _ (List.mem_cons_self))), List.forall_mem_cons.mpr ⟨List.mem_cons_of_mem _ (List.mem_cons_of_mem _ (List.mem_cons_of_mem _ (List.mem_cons_of_mem _ (List.mem_cons_self)))), List.forall_mem_cons.mpr ⟨List.mem_cons_of_mem _ (List.mem_cons_of_mem _ (List.mem_cons_of_mem _ (List.mem_cons_of_mem _ (List.mem_cons_of_mem _ (List.mem_cons_self))))), List.forall_mem_cons.mpr ⟨List.mem_cons_of_mem _ (List.mem_cons_of_mem _ (List.mem_cons_of_mem _ (List.mem_cons_of_mem _ (List.mem_cons_of_mem _ (List.mem_cons_of_mem _ (List.mem_cons_self)))))), List.forall_mem_cons.mpr ⟨List.mem_cons_of_mem _ (List.mem_cons_of_mem _ (List.mem_cons_of_mem _ (List.mem_cons_of_mem _ (List.mem_cons_of_mem _ (List.mem_cons_of_mem _ (List.mem_cons_of_mem _ (List.mem_cons_self))))))), List.forall_mem_cons.mpr ⟨List.mem_cons_of_mem _ (List.mem_cons_of_mem _ (List.mem_cons_of_mem _ (List.mem_cons_of_mem _ (List.mem_cons_of_mem _ (List.mem_cons_of_mem _ (List.mem_cons_of_mem _ (List.mem_cons_of_mem _ (List.mem_cons_self)))))))), List.forall_mem_cons.mpr ⟨List.mem_cons_of_mem _ (List.mem_cons_of_mem _ (List.mem_cons_of_mem _ (List.mem_cons_of_mem _ (List.mem_cons_of_mem _ (List.mem_cons_of_mem _ (List.mem_cons_of_mem _ (List.mem_cons_of_mem _ (List.mem_cons_of_mem _ (List.mem_cons_self))))))))), List.forall_mem_cons.mpr ⟨List.mem_cons_of_mem _ (List.mem_cons_of_mem _ (List.mem_cons_of_mem _ (List.mem_cons_of_mem _ (List.mem_cons_of_mem _ (List.mem_cons_of_mem _ (List.mem_cons_of_mem _ (List.mem_cons_of_mem _ (List.mem_cons_of_mem _ (List.mem_cons_of_mem _ (List.mem_cons_self)))))))))), List.forall_mem_cons.mpr ⟨List.mem_cons_of_mem _ (List.mem_cons_of_mem _ (List.mem_cons_self)), List.forall_mem_cons.mpr ⟨List.mem_cons_of_mem _ (List.mem_cons_self), List.forall_mem_cons.mpr ⟨List.mem_cons_self, fun _ h => absurd h List.not_mem_nil⟩⟩⟩⟩⟩⟩⟩⟩⟩⟩⟩)) ?_
    exact nx_in hm h82 h1 h2 hj n (l + 1) (by omega)
theorem nx_lp (hm : xMo w) (h82 : wget w 82 = some (.inl (12, fm))) : ∀ (n k : Nat), k + n = 135 → xTo (d + 2) mX12_next (27, [], [(0, (2, 82)), (1, (1, 1)), (2, (0, (xbest 1000 k).2.1)), (3, (0, (xbest 1000 k).2.2)), (4, (0, (xbest 1000 k).1)), (5, (0, k))], [], (w, bd, fc, 0, 0, rr)) (fun φ => φ = (181, [], [(0, (2, 82)), (1, (1, 1)), (2, (0, (xbest 1000 135).2.1)), (3, (0, (xbest 1000 135).2.2)), (4, (0, (xbest 1000 135).1)), (5, (0, 135))], [], (w, bd, fc, 0, 0, rr)))
  | 0, k, hn => by
    obtain rfl : k = 135 := by omega
    refine xg_t (xg_blk (b := [(27, 2, 2, 5, 0, 0), (29, 3, 5, 135, 0, 0), (32, 3, 6, 181, 3, 0), (35, 2, 2, 5, 0, 0), (37, 2, 4, 15, 0, 0), (39, 1, 20, 0, 0, 0), (40, 1, 3, 1, 0, 0), (41, 1, 11, 0, 0, 0), (42, 2, 15, 6, 0, 0), (44, 2, 4, 10, 0, 0), (46, 2, 2, 5, 0, 0), (48, 2, 4, 15, 0, 0), (50, 1, 21, 0, 0, 0), (51, 1, 26, 0, 0, 0), (52, 2, 15, 7, 0, 0), (54, 1, 3, 0, 0, 0), (55, 2, 15, 8, 0, 0), (57, 1, 3, 0, 0, 0), (58, 2, 15, 9, 0, 0), (60, 1, 3, 0, 0, 0), (61, 2, 15, 10, 0, 0)]) rfl) ?_
    refine xg_t (xg_iload (va := (0, 135)) rfl rfl) ?_
    refine xg_t (xg_sip) ?_
    refine xg_t (xg_icT (u := 135) (v := 135) rfl xnm0 xnm0 (xj_geT (by omega) (by omega))) ?_
    exact xg_e rfl
  | n + 1, k, hn => by
    have c1 : xcr (k / 15 + 1) 240 (k % 15) ≤ 240 := xcr_le 240
    have c2 : xwh (k / 15 + 1) 240 (k % 15) ≤ 240 := xwh_le 240
    have c3 : (xbest 1000 k).1 ≤ 1000 := xbest_le (by decide) _
    have c4 : max (xcr (k / 15 + 1) 240 (k % 15)) (xwh (k / 15 + 1) 240 (k % 15)) ≤ 240 := Nat.max_le.mpr ⟨c1, c2⟩
    refine xg_t (xg_blk (b := [(27, 2, 2, 5, 0, 0), (29, 3, 5, 135, 0, 0), (32, 3, 6, 181, 3, 0), (35, 2, 2, 5, 0, 0), (37, 2, 4, 15, 0, 0), (39, 1, 20, 0, 0, 0), (40, 1, 3, 1, 0, 0), (41, 1, 11, 0, 0, 0), (42, 2, 15, 6, 0, 0), (44, 2, 4, 10, 0, 0), (46, 2, 2, 5, 0, 0), (48, 2, 4, 15, 0, 0), (50, 1, 21, 0, 0, 0), (51, 1, 26, 0, 0, 0), (52, 2, 15, 7, 0, 0), (54, 1, 3, 0, 0, 0), (55, 2, 15, 8, 0, 0), (57, 1, 3, 0, 0, 0), (58, 2, 15, 9, 0, 0), (60, 1, 3, 0, 0, 0), (61, 2, 15, 10, 0, 0)]) rfl) ?_
    refine xg_t (xg_iload (va := (0, k)) rfl rfl) ?_
    refine xg_t (xg_sip) ?_
    refine xg_t (xg_icF (u := k) (v := 135) rfl xnm0 xnm0 (xj_geF (by omega) (by omega))) ?_
    refine xg_t (xg_iload (va := (0, k)) rfl rfl) ?_
    refine xg_t (xg_bip) ?_
    refine xg_t (xg_idiv (u := k) (v := 15) (z := k / 15) xnm0 xnm0 (by omega) (by decide) (by decide) (rfl)) ?_
    refine xg_t (xg_const) ?_
    refine xg_t (xg_iadd (u := k / 15) (v := 1) (z := k / 15 + 1) xnm0 xnm0 (by omega)) ?_
    refine xg_t (xg_istore (l1 := [(0, (2, 82)), (1, (1, 1)), (2, (0, (xbest 1000 k).2.1)), (3, (0, (xbest 1000 k).2.2)), (4, (0, (xbest 1000 k).1)), (5, (0, k))]) rfl rfl rfl) ?_
    refine xg_t (xg_bip) ?_
    refine xg_t (xg_iload (va := (0, k)) rfl rfl) ?_
    refine xg_t (xg_bip) ?_
    refine xg_t (xg_irem (u := k) (v := 15) (z := k % 15) xnm0 xnm0 (by omega) (by decide) (by decide) (rfl)) ?_
    refine xg_t (xg_ishl (u := 10) (v := k % 15) (z := 10 * 2 ^ (k % 15)) xnm0 xnm0 (by omega) (xshl (by omega))) ?_
    refine xg_t (xg_istore (l1 := [(6, (0, k / 15 + 1)), (0, (2, 82)), (1, (1, 1)), (2, (0, (xbest 1000 k).2.1)), (3, (0, (xbest 1000 k).2.2)), (4, (0, (xbest 1000 k).1)), (5, (0, k))]) rfl rfl rfl) ?_
    refine xg_t (xg_const) ?_
    refine xg_t (xg_istore (l1 := [(7, (0, 10 * 2 ^ (k % 15))), (6, (0, k / 15 + 1)), (0, (2, 82)), (1, (1, 1)), (2, (0, (xbest 1000 k).2.1)), (3, (0, (xbest 1000 k).2.2)), (4, (0, (xbest 1000 k).1)), (5, (0, k))]) rfl rfl rfl) ?_
    refine xg_t (xg_const) ?_
    refine xg_t (xg_istore (l1 := [(8, (0, 0)), (7, (0, 10 * 2 ^ (k % 15))), (6, (0, k / 15 + 1)), (0, (2, 82)), (1, (1, 1)), (2, (0, (xbest 1000 k).2.1)), (3, (0, (xbest 1000 k).2.2)), (4, (0, (xbest 1000 k).1)), (5, (0, k))]) rfl rfl rfl) ?_
    refine xg_t (xg_const) ?_
    refine xg_t (xg_istore (l1 := [(9, (0, 0)), (8, (0, 0)), (7, (0, 10 * 2 ^ (k % 15))), (6, (0, k / 15 + 1)), (0, (2, 82)), (1, (1, 1)), (2, (0, (xbest 1000 k).2.1)), (3, (0, (xbest 1000 k).2.2)), (4, (0, (xbest 1000 k).1)), (5, (0, k))]) rfl rfl rfl) ?_
    refine xg_t (xg_drop (l1 := [(0, (2, 82)), (1, (1, 1)), (2, (0, (xbest 1000 k).2.1)), (3, (0, (xbest 1000 k).2.2)), (4, (0, (xbest 1000 k).1)), (5, (0, k)), (6, (0, k / 15 + 1)), (7, (0, 10 * 2 ^ (k % 15))), (8, (0, 0)), (9, (0, 0)), (10, (0, 0))]) (List.forall_mem_cons.mpr ⟨List.mem_cons_of_mem _ (List.mem_cons_of_mem _ (List.mem_cons_of_mem _ (List.mem_cons_of_mem _ (List.mem_cons_of_mem _ (List.mem_cons_self))))), List.forall_mem_cons.mpr ⟨List.mem_cons_of_mem _ (List.mem_cons_of_mem _ (List.mem_cons_of_mem _ (List.mem_cons_of_mem _ (List.mem_cons_of_mem _ (List.mem_cons_of_mem _ (List.mem_cons_self)))))), List.forall_mem_cons.mpr ⟨List.mem_cons_of_mem _ (List.mem_cons_of_mem _ (List.mem_cons_of_mem _ (List.mem_cons_of_mem _ (List.mem_cons_of_mem _ (List.mem_cons_of_mem _ (List.mem_cons_of_mem _ (List.mem_cons_self))))))), List.forall_mem_cons.mpr ⟨List.mem_cons_of_mem _ (List.mem_cons_of_mem _ (List.mem_cons_of_mem _ (List.mem_cons_of_mem _ (List.mem_cons_of_mem _ (List.mem_cons_of_mem _ (List.mem_cons_of_mem _ (List.mem_cons_of_mem _ (List.mem_cons_self)))))))), List.forall_mem_cons.mpr ⟨List.mem_cons_of_mem _ (List.mem_cons_of_mem _ (List.mem_cons_of_mem _ (List.mem_cons_of_mem _ (List.mem_cons_of_mem _ (List.mem_cons_of_mem _ (List.mem_cons_of_mem _ (List.mem_cons_of_mem _ (List.mem_cons_of_mem _ (List.mem_cons_self))))))))), List.forall_mem_cons.mpr ⟨List.mem_cons_of_mem _ (List.mem_cons_of_mem _ (List.mem_cons_of_mem _ (List.mem_cons_of_mem _ (List.mem_cons_of_mem _ (List.mem_cons_of_mem _ (List.mem_cons_of_mem _ (List.mem_cons_of_mem _ (List.mem_cons_of_mem _ (List.mem_cons_of_mem _ (List.mem_cons_self)))))))))), List.forall_mem_cons.mpr ⟨List.mem_cons_of_mem _ (List.mem_cons_of_mem _ (List.mem_cons_of_mem _ (List.mem_cons_of_mem _ (List.mem_cons_self)))), List.forall_mem_cons.mpr ⟨List.mem_cons_of_mem _ (List.mem_cons_of_mem _ (List.mem_cons_of_mem _ (List.mem_cons_self))), List.forall_mem_cons.mpr ⟨List.mem_cons_of_mem _ (List.mem_cons_of_mem _ (List.mem_cons_self)), List.forall_mem_cons.mpr ⟨List.mem_cons_of_mem _ (List.mem_cons_self), List.forall_mem_cons.mpr ⟨List.mem_cons_self, fun _ h => absurd h List.not_mem_nil⟩⟩⟩⟩⟩⟩⟩⟩⟩⟩⟩)) ?_
    refine (nx_in (v := k / 15 + 1) (j := k % 15) hm h82 (by omega) (by omega) (by omega) 240 0 rfl).bind (fun φ h => ?_)
    subst h
    refine xg_t (xg_blk (b := [(139, 2, 2, 8, 0, 0), (141, 2, 2, 9, 0, 0), (143, 3, 6, 151, 5, 0), (146, 2, 2, 8, 0, 0), (148, 3, 8, 153, 0, 0)]) rfl) ?_
    refine xg_t (xg_iload (va := (0, xcr (k / 15 + 1) 240 (k % 15))) rfl rfl) ?_
    refine xg_t (xg_iload (va := (0, xwh (k / 15 + 1) 240 (k % 15))) rfl rfl) ?_
    refine xTo.bind (P := fun φ => φ = (153, [], [(0, (2, 82)), (1, (1, 1)), (2, (0, (xbest 1000 k).2.1)), (3, (0, (xbest 1000 k).2.2)), (4, (0, (xbest 1000 k).1)), (5, (0, k)), (6, (0, k / 15 + 1)), (7, (0, 10 * 2 ^ (k % 15))), (8, (0, xcr (k / 15 + 1) 240 (k % 15))), (9, (0, xwh (k / 15 + 1) 240 (k % 15))), (10, (0, 240))], [(0, max (xcr (k / 15 + 1) 240 (k % 15)) (xwh (k / 15 + 1) 240 (k % 15)))], (w, bd, fc, 0, 0, rr))) ?_ ?_
    · by_cases hc : xwh (k / 15 + 1) 240 (k % 15) < xcr (k / 15 + 1) 240 (k % 15)
      · rw [Nat.max_eq_left (Nat.le_of_lt hc)]
        refine xg_t (xg_icF (u := xcr (k / 15 + 1) 240 (k % 15)) (v := xwh (k / 15 + 1) 240 (k % 15)) rfl xnm0 xnm0 (xj_leF hc (by omega))) ?_
        refine xg_t (xg_iload (va := (0, xcr (k / 15 + 1) 240 (k % 15))) rfl rfl) ?_
        refine xg_t (xg_goto) ?_
        exact xg_e rfl
      · rw [Nat.max_eq_right (Nat.le_of_not_lt hc)]
        refine xg_t (xg_icT (u := xcr (k / 15 + 1) 240 (k % 15)) (v := xwh (k / 15 + 1) 240 (k % 15)) rfl xnm0 xnm0 (xj_leT (by omega) (by omega))) ?_
        refine xg_t (xg_blk (b := [(151, 2, 2, 9, 0, 0)]) rfl) ?_
        refine xg_t (xg_iload (va := (0, xwh (k / 15 + 1) 240 (k % 15))) rfl rfl) ?_
        exact xg_e rfl
    intro φ hφ
    subst hφ
    refine xg_t (xg_blk (b := [(153, 2, 15, 10, 0, 0), (155, 2, 2, 10, 0, 0), (157, 2, 2, 4, 0, 0), (159, 3, 6, 165, 2, 0), (162, 3, 8, 175, 0, 0)]) rfl) ?_
    refine xg_t (xg_istore (l1 := [(0, (2, 82)), (1, (1, 1)), (2, (0, (xbest 1000 k).2.1)), (3, (0, (xbest 1000 k).2.2)), (4, (0, (xbest 1000 k).1)), (5, (0, k)), (6, (0, k / 15 + 1)), (7, (0, 10 * 2 ^ (k % 15))), (8, (0, xcr (k / 15 + 1) 240 (k % 15))), (9, (0, xwh (k / 15 + 1) 240 (k % 15)))]) rfl rfl rfl) ?_
    refine xg_t (xg_iload (va := (0, max (xcr (k / 15 + 1) 240 (k % 15)) (xwh (k / 15 + 1) 240 (k % 15)))) rfl rfl) ?_
    refine xg_t (xg_iload (va := (0, (xbest 1000 k).1)) rfl rfl) ?_
    by_cases hc : max (xcr (k / 15 + 1) 240 (k % 15)) (xwh (k / 15 + 1) 240 (k % 15)) < (xbest 1000 k).1
    · have e : xbest 1000 (k + 1) = (max (xcr (k / 15 + 1) 240 (k % 15)) (xwh (k / 15 + 1) 240 (k % 15)), k / 15 + 1, 10 * 2 ^ (k % 15)) := if_pos (show xgr k < (xbest 1000 k).1 from hc)
      have q := nx_lp hm h82 n (k + 1) (by omega)
      rw [e] at q
      refine xg_t (xg_icT (u := max (xcr (k / 15 + 1) 240 (k % 15)) (xwh (k / 15 + 1) 240 (k % 15))) (v := (xbest 1000 k).1) rfl xnm0 xnm0 (xj_ltT hc (by omega))) ?_
      refine xg_t (xg_blk (b := [(165, 2, 2, 10, 0, 0), (167, 2, 15, 4, 0, 0), (169, 2, 2, 6, 0, 0), (171, 1, 15, 2, 0, 0), (172, 2, 2, 7, 0, 0), (174, 1, 15, 3, 0, 0)]) rfl) ?_
      refine xg_t (xg_iload (va := (0, max (xcr (k / 15 + 1) 240 (k % 15)) (xwh (k / 15 + 1) 240 (k % 15)))) rfl rfl) ?_
      refine xg_t (xg_istore (l1 := [(10, (0, max (xcr (k / 15 + 1) 240 (k % 15)) (xwh (k / 15 + 1) 240 (k % 15)))), (0, (2, 82)), (1, (1, 1)), (2, (0, (xbest 1000 k).2.1)), (3, (0, (xbest 1000 k).2.2)), (5, (0, k)), (6, (0, k / 15 + 1)), (7, (0, 10 * 2 ^ (k % 15))), (8, (0, xcr (k / 15 + 1) 240 (k % 15))), (9, (0, xwh (k / 15 + 1) 240 (k % 15)))]) rfl rfl rfl) ?_
      refine xg_t (xg_iload (va := (0, k / 15 + 1)) rfl rfl) ?_
      refine xg_t (xg_istore (l1 := [(4, (0, max (xcr (k / 15 + 1) 240 (k % 15)) (xwh (k / 15 + 1) 240 (k % 15)))), (10, (0, max (xcr (k / 15 + 1) 240 (k % 15)) (xwh (k / 15 + 1) 240 (k % 15)))), (0, (2, 82)), (1, (1, 1)), (3, (0, (xbest 1000 k).2.2)), (5, (0, k)), (6, (0, k / 15 + 1)), (7, (0, 10 * 2 ^ (k % 15))), (8, (0, xcr (k / 15 + 1) 240 (k % 15))), (9, (0, xwh (k / 15 + 1) 240 (k % 15)))]) rfl rfl rfl) ?_
      refine xg_t (xg_iload (va := (0, 10 * 2 ^ (k % 15))) rfl rfl) ?_
      refine xg_t (xg_istore (l1 := [(2, (0, k / 15 + 1)), (4, (0, max (xcr (k / 15 + 1) 240 (k % 15)) (xwh (k / 15 + 1) 240 (k % 15)))), (10, (0, max (xcr (k / 15 + 1) 240 (k % 15)) (xwh (k / 15 + 1) 240 (k % 15)))), (0, (2, 82)), (1, (1, 1)), (5, (0, k)), (6, (0, k / 15 + 1)), (7, (0, 10 * 2 ^ (k % 15))), (8, (0, xcr (k / 15 + 1) 240 (k % 15))), (9, (0, xwh (k / 15 + 1) 240 (k % 15)))]) rfl rfl rfl) ?_
      refine xg_t (xg_blk (b := [(175, 3, 9, 5, 1, 0), (178, 3, 8, 27, 0, 0)]) rfl) ?_
      refine xg_t (xg_iinc (u := k) (z := k + 1) (l1 := [(3, (0, 10 * 2 ^ (k % 15))), (2, (0, k / 15 + 1)), (4, (0, max (xcr (k / 15 + 1) 240 (k % 15)) (xwh (k / 15 + 1) 240 (k % 15)))), (10, (0, max (xcr (k / 15 + 1) 240 (k % 15)) (xwh (k / 15 + 1) 240 (k % 15)))), (0, (2, 82)), (1, (1, 1)), (6, (0, k / 15 + 1)), (7, (0, 10 * 2 ^ (k % 15))), (8, (0, xcr (k / 15 + 1) 240 (k % 15))), (9, (0, xwh (k / 15 + 1) 240 (k % 15)))]) rfl rfl (by omega) rfl) ?_
      refine xg_t (xg_goto) ?_
      refine xg_t (xg_drop (l1 := [(0, (2, 82)), (1, (1, 1)), (2, (0, k / 15 + 1)), (3, (0, 10 * 2 ^ (k % 15))), (4, (0, max (xcr (k / 15 + 1) 240 (k % 15)) (xwh (k / 15 + 1) 240 (k % 15)))), (5, (0, k + 1))]) (List.forall_mem_cons.mpr ⟨List.mem_cons_of_mem _ (List.mem_cons_of_mem _ (List.mem_cons_of_mem _ (List.mem_cons_of_mem _ (List.mem_cons_of_mem _ (List.mem_cons_self))))), List.forall_mem_cons.mpr ⟨List.mem_cons_of_mem _ (List.mem_cons_of_mem _ (List.mem_cons_of_mem _ (List.mem_cons_of_mem _ (List.mem_cons_of_mem _ (List.mem_cons_of_mem _ (List.mem_cons_self)))))), List.forall_mem_cons.mpr ⟨List.mem_cons_of_mem _ (List.mem_cons_of_mem _ (List.mem_cons_self)), List.forall_mem_cons.mpr ⟨List.mem_cons_of_mem _ (List.mem_cons_self), List.forall_mem_cons.mpr ⟨List.mem_cons_of_mem _ (List.mem_cons_of_mem _ (List.mem_cons_of_mem _ (List.mem_cons_self))), List.forall_mem_cons.mpr ⟨List.mem_cons_self, fun _ h => absurd h List.not_mem_nil⟩⟩⟩⟩⟩⟩)) ?_
      exact q
    · have e : xbest 1000 (k + 1) = (xbest 1000 k) := if_neg (show ¬ xgr k < (xbest 1000 k).1 from hc)
      have q := nx_lp hm h82 n (k + 1) (by omega)
      rw [e] at q
      refine xg_t (xg_icF (u := max (xcr (k / 15 + 1) 240 (k % 15)) (xwh (k / 15 + 1) 240 (k % 15))) (v := (xbest 1000 k).1) rfl xnm0 xnm0 (xj_ltF (by omega) (by omega))) ?_
      refine xg_t (xg_goto) ?_
      refine xg_t (xg_blk (b := [(175, 3, 9, 5, 1, 0), (178, 3, 8, 27, 0, 0)]) rfl) ?_
      refine xg_t (xg_iinc (u := k) (z := k + 1) (l1 := [(10, (0, max (xcr (k / 15 + 1) 240 (k % 15)) (xwh (k / 15 + 1) 240 (k % 15)))), (0, (2, 82)), (1, (1, 1)), (2, (0, (xbest 1000 k).2.1)), (3, (0, (xbest 1000 k).2.2)), (4, (0, (xbest 1000 k).1)), (6, (0, k / 15 + 1)), (7, (0, 10 * 2 ^ (k % 15))), (8, (0, xcr (k / 15 + 1) 240 (k % 15))), (9, (0, xwh (k / 15 + 1) 240 (k % 15)))]) rfl rfl (by omega) rfl) ?_
      refine xg_t (xg_goto) ?_
      refine xg_t (xg_drop (l1 := [(0, (2, 82)), (1, (1, 1)), (2, (0, (xbest 1000 k).2.1)), (3, (0, (xbest 1000 k).2.2)), (4, (0, (xbest 1000 k).1)), (5, (0, k + 1))]) (List.forall_mem_cons.mpr ⟨List.mem_cons_of_mem _ (List.mem_cons_of_mem _ (List.mem_cons_self)), List.forall_mem_cons.mpr ⟨List.mem_cons_of_mem _ (List.mem_cons_of_mem _ (List.mem_cons_of_mem _ (List.mem_cons_self))), List.forall_mem_cons.mpr ⟨List.mem_cons_of_mem _ (List.mem_cons_of_mem _ (List.mem_cons_of_mem _ (List.mem_cons_of_mem _ (List.mem_cons_self)))), List.forall_mem_cons.mpr ⟨List.mem_cons_of_mem _ (List.mem_cons_of_mem _ (List.mem_cons_of_mem _ (List.mem_cons_of_mem _ (List.mem_cons_of_mem _ (List.mem_cons_self))))), List.forall_mem_cons.mpr ⟨List.mem_cons_of_mem _ (List.mem_cons_of_mem _ (List.mem_cons_of_mem _ (List.mem_cons_of_mem _ (List.mem_cons_of_mem _ (List.mem_cons_of_mem _ (List.mem_cons_self)))))), List.forall_mem_cons.mpr ⟨List.mem_cons_self, fun _ h => absurd h List.not_mem_nil⟩⟩⟩⟩⟩⟩)) ?_
      exact q
theorem next12_t (hk : xnm bd (1, 1) = (0, u)) (hu : u ≤ 2) (hm : xMo w) {z : Nat} (hz : (u = 0 ∧ z = (xbest 1000 135).2.1) ∨ (u = 1 ∧ z = (xbest 1000 135).2.2) ∨ (u = 2 ∧ z = (xbest 1000 135).1)) : xPr (d + 2) mX12_next [(2, 82), (1, 1)] w bd fc rr [(0, z)] w := by
  obtain ⟨⟨fm, h82, f0, f44⟩, -⟩ := id hm
  refine xPr.of ?_
  show xTo (d + 2) mX12_next (0, [], [(0, (2, 82)), (1, (1, 1))], [], (w, bd, fc, 0, 0, rr)) (xEnd 1 [(0, z)] (w, bd, fc, 0, 0, rr))
  refine xg_t (xg_blk (b := [(0, 1, 2, 1, 0, 0), (1, 1, 3, 0, 0, 0), (2, 1, 3, 2, 0, 0), (3, 3, 13, 126, 98, 105), (6, 3, 7, 11, 1, 0), (9, 1, 3, 4294967295, 0, 0), (10, 1, 12, 0, 1, 0)]) rfl) ?_
  refine xg_t (xg_iload (va := (1, 1)) rfl rfl) ?_
  refine xg_t (xg_const) ?_
  refine xg_t (xg_const) ?_
  refine xg_t (xg_cSr mX12_isIn (vs := [(1, 1), (0, 0), (0, 2)]) (rest := []) (rs := [(0, 1)]) (cn1 := 0) (sl1 := 0) rfl (isIn_t hk hu) rfl rfl rfl rfl rfl rfl rfl rfl) ?_
  refine xg_t (xg_ifT (u := 1) rfl xnm0 (xj_neT (by decide))) ?_
  refine xg_t (xg_blk (b := [(11, 1, 0, 0, 0, 0), (12, 3, 13, 135, 96, 403), (15, 1, 3, 0, 0, 0), (16, 1, 15, 2, 0, 0), (17, 1, 3, 0, 0, 0), (18, 1, 15, 3, 0, 0), (19, 3, 5, 1000, 0, 0), (22, 2, 15, 4, 0, 0), (24, 1, 3, 0, 0, 0), (25, 2, 15, 5, 0, 0)]) rfl) ?_
  refine xg_t (xg_aload (va := (2, 82)) rfl rfl) ?_
  refine xg_t (xg_cVr mX12_keeps (vs := []) (rest := []) (rs := []) (cn1 := 0) (sl1 := 0) rfl (keeps_ok hm) rfl h82 rfl rfl rfl rfl rfl rfl rfl) ?_
  refine xg_t (xg_const) ?_
  refine xg_t (xg_istore (l1 := [(0, (2, 82)), (1, (1, 1))]) rfl rfl rfl) ?_
  refine xg_t (xg_const) ?_
  refine xg_t (xg_istore (l1 := [(2, (0, 0)), (0, (2, 82)), (1, (1, 1))]) rfl rfl rfl) ?_
  refine xg_t (xg_sip) ?_
  refine xg_t (xg_istore (l1 := [(3, (0, 0)), (2, (0, 0)), (0, (2, 82)), (1, (1, 1))]) rfl rfl rfl) ?_
  refine xg_t (xg_const) ?_
  refine xg_t (xg_istore (l1 := [(4, (0, 1000)), (3, (0, 0)), (2, (0, 0)), (0, (2, 82)), (1, (1, 1))]) rfl rfl rfl) ?_
  refine xg_t (xg_drop (l1 := [(0, (2, 82)), (1, (1, 1)), (2, (0, 0)), (3, (0, 0)), (4, (0, 1000)), (5, (0, 0))]) (List.forall_mem_cons.mpr ⟨List.mem_cons_of_mem _ (List.mem_cons_of_mem _ (List.mem_cons_of_mem _ (List.mem_cons_of_mem _ (List.mem_cons_self)))), List.forall_mem_cons.mpr ⟨List.mem_cons_of_mem _ (List.mem_cons_of_mem _ (List.mem_cons_of_mem _ (List.mem_cons_of_mem _ (List.mem_cons_of_mem _ (List.mem_cons_self))))), List.forall_mem_cons.mpr ⟨List.mem_cons_of_mem _ (List.mem_cons_of_mem _ (List.mem_cons_of_mem _ (List.mem_cons_self))), List.forall_mem_cons.mpr ⟨List.mem_cons_of_mem _ (List.mem_cons_of_mem _ (List.mem_cons_self)), List.forall_mem_cons.mpr ⟨List.mem_cons_of_mem _ (List.mem_cons_self), List.forall_mem_cons.mpr ⟨List.mem_cons_self, fun _ h => absurd h List.not_mem_nil⟩⟩⟩⟩⟩⟩)) ?_
  refine (nx_lp hm h82 135 0 rfl).bind (fun φ h => ?_)
  subst h
  rcases hz with ⟨hu0, hz⟩ | ⟨hu0, hz⟩ | ⟨hu0, hz⟩
  · rw [hz]
    refine xg_t (xg_blk (b := [(181, 1, 2, 1, 0, 0), (182, 3, 7, 189, 1, 0), (185, 1, 2, 2, 0, 0), (186, 3, 8, 200, 0, 0)]) rfl) ?_
    refine xg_t (xg_iload (va := (1, 1)) rfl rfl) ?_
    refine xg_t (xg_ifF (u := u) rfl hk (xj_neF hu0)) ?_
    refine xg_t (xg_iload (va := (0, (xbest 1000 135).2.1)) rfl rfl) ?_
    refine xg_t (xg_goto) ?_
    refine xg_t (xg_blk (b := [(200, 1, 12, 0, 1, 0)]) rfl) ?_
    exact xg_e ⟨rfl, rfl⟩
  · rw [hz]
    refine xg_t (xg_blk (b := [(181, 1, 2, 1, 0, 0), (182, 3, 7, 189, 1, 0), (185, 1, 2, 2, 0, 0), (186, 3, 8, 200, 0, 0)]) rfl) ?_
    refine xg_t (xg_iload (va := (1, 1)) rfl rfl) ?_
    refine xg_t (xg_ifT (u := u) rfl hk (xj_neT (by omega))) ?_
    refine xg_t (xg_blk (b := [(189, 1, 2, 1, 0, 0), (190, 1, 3, 1, 0, 0), (191, 3, 6, 198, 1, 0), (194, 1, 2, 3, 0, 0), (195, 3, 8, 200, 0, 0)]) rfl) ?_
    refine xg_t (xg_iload (va := (1, 1)) rfl rfl) ?_
    refine xg_t (xg_const) ?_
    refine xg_t (xg_icF (u := u) (v := 1) rfl hk xnm0 (xj_neF hu0)) ?_
    refine xg_t (xg_iload (va := (0, (xbest 1000 135).2.2)) rfl rfl) ?_
    refine xg_t (xg_goto) ?_
    refine xg_t (xg_blk (b := [(200, 1, 12, 0, 1, 0)]) rfl) ?_
    exact xg_e ⟨rfl, rfl⟩
  · rw [hz]
    refine xg_t (xg_blk (b := [(181, 1, 2, 1, 0, 0), (182, 3, 7, 189, 1, 0), (185, 1, 2, 2, 0, 0), (186, 3, 8, 200, 0, 0)]) rfl) ?_
    refine xg_t (xg_iload (va := (1, 1)) rfl rfl) ?_
    refine xg_t (xg_ifT (u := u) rfl hk (xj_neT (by omega))) ?_
    refine xg_t (xg_blk (b := [(189, 1, 2, 1, 0, 0), (190, 1, 3, 1, 0, 0), (191, 3, 6, 198, 1, 0), (194, 1, 2, 3, 0, 0), (195, 3, 8, 200, 0, 0)]) rfl) ?_
    refine xg_t (xg_iload (va := (1, 1)) rfl rfl) ?_
    refine xg_t (xg_const) ?_
    refine xg_t (xg_icT (u := u) (v := 1) rfl hk xnm0 (xj_neT (by omega))) ?_
    refine xg_t (xg_blk (b := [(198, 2, 2, 4, 0, 0)]) rfl) ?_
    refine xg_t (xg_iload (va := (0, (xbest 1000 135).1)) rfl rfl) ?_
    refine xg_t (xg_blk (b := [(200, 1, 12, 0, 1, 0)]) rfl) ?_
    exact xg_e ⟨rfl, rfl⟩
theorem xg_iscr1 : xLd d M (p0, (pc, ln, 10, x, y, ix) :: tl, lo, (0, 1) :: (7, 0) :: st, hp) [(pc + ln, tl, lo, (1, 1) :: st, hp)] := xg_op (f := xh_iaload) rfl rfl
theorem xg_alen7 : xLd d M (p0, (pc, ln, 31, x, y, ix) :: tl, lo, (7, 0) :: st, hp) [(pc + ln, tl, lo, (0, 7) :: st, hp)] := xg_op (f := xh_alen) rfl rfl
theorem xMo.ot (h : xMo w) (ho : xOt w w1) : xMo w1 := by
  obtain ⟨⟨fm, h82, f0, f44⟩, ⟨t3, us3, h83, e83⟩, h111⟩ := h
  exact ⟨⟨fm, (ho 82 (by decide) (by decide) (by decide)).trans h82, f0, f44⟩, ⟨t3, us3, (ho 83 (by decide) (by decide) (by decide)).trans h83, e83⟩, h111.ot ho (by decide) (by decide) (by decide)⟩
theorem m_c0 : xC0 xW0 := rfl
theorem m_c20 : xC20 xW0 := rfl
theorem m_c76 : xLw xW0 0 0 0 0 0 0 := rfl
theorem m_c77 : xC77 xW0 := ⟨[], rfl, fun _ _ => rfl⟩
theorem m_c78 : xRow xW0 78 15 46 (fun _ => 0) := ⟨[], rfl, fun _ _ => rfl⟩
theorem m_c79 : xRow xW0 79 15 47 (fun _ => 0) := ⟨[], rfl, fun _ _ => rfl⟩
theorem m_mo : xMo xW0 := ⟨⟨_, rfl, rfl, rfl⟩, ⟨_, _, rfl, rfl⟩, ⟨[], rfl, fun _ _ => rfl⟩⟩
def xFin (φ : xS) : Prop := xret 4 φ = some [(0, 1)] ∧ Nat.ble φ.2.2.2.2.2.2.2.1 600000 = true ∧ Nat.ble φ.2.2.2.2.2.2.2.2.1 7302250 = true
theorem main_law (hk : xnm bd (1, 1) = (0, u)) (hu : u < 240) : xTo 1000 mLa (1479, [], [(3, (0, 0)), (2, (2, 82)), (1, (2, 0)), (0, (7, 0))], [], (xW0, bd, [], 114, 46853, 81, 114)) xFin := by
  refine xg_t (xg_blk (b := [(1479, 1, 0, 1, 0, 0), (1480, 1, 0, 0, 0, 0), (1481, 1, 2, 3, 0, 0), (1482, 1, 3, 1, 0, 0), (1483, 1, 11, 0, 0, 0), (1484, 1, 10, 0, 0, 0), (1485, 3, 13, 54, 88, 188), (1488, 1, 0, 2, 0, 0), (1489, 1, 0, 0, 0, 0), (1490, 1, 2, 3, 0, 0), (1491, 1, 3, 1, 0, 0), (1492, 1, 11, 0, 0, 0), (1493, 1, 10, 0, 0, 0), (1494, 3, 13, 138, 96, 191), (1497, 3, 6, 1705, 0, 0), (1500, 1, 3, 0, 0, 0), (1501, 1, 12, 0, 1, 0)]) rfl) ?_
  refine xg_t (xg_aload (va := (2, 0)) rfl rfl) ?_
  refine xg_t (xg_aload (va := (7, 0)) rfl rfl) ?_
  refine xg_t (xg_iload (va := (0, 0)) rfl rfl) ?_
  refine xg_t (xg_const) ?_
  refine xg_t (xg_iadd (u := 0) (v := 1) (z := 1) xnm0 xnm0 (rfl)) ?_
  refine xg_t (xg_iscr1) ?_
  refine xg_cV mX11_law (vs := [(1, 1)]) (rest := []) (rs := [(0, 100 * (u / 60) + u % 60 + 1)]) (cn1 := 114) (sl1 := 46853) rfl (law11_ok (d := 997) hk hu m_c0 m_c76 m_c20 m_c77) rfl m_c0 rfl rfl rfl rfl rfl rfl rfl (fun w1 q1 => ?_)
  refine xg_t (xg_aload (va := (2, 82)) rfl rfl) ?_
  refine xg_t (xg_aload (va := (7, 0)) rfl rfl) ?_
  refine xg_t (xg_iload (va := (0, 0)) rfl rfl) ?_
  refine xg_t (xg_const) ?_
  refine xg_t (xg_iadd (u := 0) (v := 1) (z := 1) xnm0 xnm0 (rfl)) ?_
  have hm := m_mo.ot (fun k q0 _ _ => q1 k q0)
  obtain ⟨⟨fm, h82, f0, f44⟩, -⟩ := id hm
  refine xg_t (xg_iscr1) ?_
  refine xg_t (xg_cVr mX12_law (vs := [(1, 1)]) (rest := [(0, 100 * (u / 60) + u % 60 + 1)]) (rs := [(0, 100 * (u / 60) + u % 60 + 1), (0, 100 * (u / 60) + u % 60 + 1)]) (cn1 := 114) (sl1 := 46853) rfl (law12_ok (d := 997) hk hu hm) rfl h82 rfl rfl rfl rfl rfl rfl rfl) ?_
  refine xg_t (xg_icT (u := 100 * (u / 60) + u % 60 + 1) (v := 100 * (u / 60) + u % 60 + 1) rfl xnm0 xnm0 (xj_eqT (rfl))) ?_
  refine xg_t (xg_blk (b := [(1705, 3, 9, 3, 7, 0), (1708, 3, 8, 18, 0, 0)]) rfl) ?_
  refine xg_t (xg_iinc (u := 0) (z := 7) (l1 := [(2, (2, 82)), (1, (2, 0)), (0, (7, 0))]) rfl rfl (rfl) rfl) ?_
  refine xg_t (xg_goto) ?_
  refine xg_t (xg_blk (b := [(18, 1, 2, 3, 0, 0), (19, 1, 0, 0, 0, 0), (20, 1, 31, 0, 0, 0), (21, 2, 4, 7, 0, 0), (23, 1, 18, 0, 0, 0), (24, 3, 6, 1711, 4, 0), (27, 1, 0, 0, 0, 0), (28, 1, 2, 3, 0, 0), (29, 1, 10, 0, 0, 0), (30, 2, 4, 63, 0, 0), (32, 1, 30, 0, 0, 0)]) rfl) ?_
  refine xg_t (xg_iload (va := (0, 7)) rfl rfl) ?_
  refine xg_t (xg_aload (va := (7, 0)) rfl rfl) ?_
  refine xg_t (xg_alen7) ?_
  refine xg_t (xg_bip) ?_
  refine xg_t (xg_isub (u := 7) (v := 7) (z := 0) xnm0 xnm0 (by decide)) ?_
  refine xg_t (xg_icT (u := 7) (v := 0) rfl xnm0 xnm0 (xj_gtT (by decide) (by decide))) ?_
  refine xg_t (xg_blk (b := [(1711, 1, 3, 1, 0, 0), (1712, 1, 12, 0, 1, 0)]) rfl) ?_
  refine xg_t (xg_const) ?_
  exact xg_e ⟨rfl, rfl, rfl⟩
theorem main_next (tg z : Nat) {o0 o1 o2 : Nat} (s0 : xeq bd (xnm bd (1, 1)) (0, 0) = (o0, 0, 0)) (s1 : xeq bd (xnm bd (1, 1)) (0, 1) = (o1, 0, 0)) (s2 : xeq bd (xnm bd (1, 1)) (0, 2) = (o2, 0, 0)) (ht : (o0 = 1 ∧ tg = 40) ∨ (o0 = 0 ∧ o1 = 1 ∧ tg = 48) ∨ (o0 = 0 ∧ o1 = 0 ∧ o2 = 1 ∧ tg = 56) ∨ (o0 = 0 ∧ o1 = 0 ∧ o2 = 0 ∧ tg = 64)) (h12 : ∀ w rr, xMo w → xPr 999 mX12_next [(2, 82), (1, 1)] w bd [] rr [(0, z)] w) (hz : xnv tg = z) : xTo 1000 mLa (1574, [], [(3, (0, 0)), (2, (2, 82)), (1, (2, 0)), (0, (7, 0))], [], (xW0, bd, [], 114, 46853, 81, 114)) xFin := by
  refine xg_t (xg_blk (b := [(1574, 1, 0, 1, 0, 0), (1575, 1, 0, 0, 0, 0), (1576, 1, 2, 3, 0, 0), (1577, 1, 3, 1, 0, 0), (1578, 1, 11, 0, 0, 0), (1579, 1, 10, 0, 0, 0), (1580, 3, 13, 63, 88, 201), (1583, 1, 0, 2, 0, 0), (1584, 1, 0, 0, 0, 0), (1585, 1, 2, 3, 0, 0), (1586, 1, 3, 1, 0, 0), (1587, 1, 11, 0, 0, 0), (1588, 1, 10, 0, 0, 0), (1589, 3, 13, 152, 96, 204), (1592, 3, 6, 1705, 0, 0), (1595, 1, 3, 0, 0, 0), (1596, 1, 12, 0, 1, 0)]) rfl) ?_
  refine xg_t (xg_aload (va := (2, 0)) rfl rfl) ?_
  refine xg_t (xg_aload (va := (7, 0)) rfl rfl) ?_
  refine xg_t (xg_iload (va := (0, 0)) rfl rfl) ?_
  refine xg_t (xg_const) ?_
  refine xg_t (xg_iadd (u := 0) (v := 1) (z := 1) xnm0 xnm0 (rfl)) ?_
  refine xg_t (xg_iscr1) ?_
  refine xg_cV mX11_next (vs := [(1, 1)]) (rest := []) (rs := [(0, xnv tg)]) (cn1 := 114) (sl1 := 46853) rfl (next11_ok (d := 996) m_c0 m_c76 m_c20 m_c77 m_c78 m_c79 s0 s1 s2 ht) rfl m_c0 rfl rfl rfl rfl rfl rfl rfl (fun w1 q1 => ?_)
  refine xg_t (xg_aload (va := (2, 82)) rfl rfl) ?_
  refine xg_t (xg_aload (va := (7, 0)) rfl rfl) ?_
  refine xg_t (xg_iload (va := (0, 0)) rfl rfl) ?_
  refine xg_t (xg_const) ?_
  refine xg_t (xg_iadd (u := 0) (v := 1) (z := 1) xnm0 xnm0 (rfl)) ?_
  have hm := m_mo.ot q1
  obtain ⟨⟨fm, h82, f0, f44⟩, -⟩ := id hm
  refine xg_t (xg_iscr1) ?_
  refine xg_t (xg_cVr mX12_next (vs := [(1, 1)]) (rest := [(0, xnv tg)]) (rs := [(0, z), (0, xnv tg)]) (cn1 := 114) (sl1 := 46853) rfl (h12 _ _ hm) rfl h82 rfl rfl rfl rfl rfl rfl rfl) ?_
  refine xg_t (xg_icT (u := xnv tg) (v := z) rfl xnm0 xnm0 (xj_eqT (hz))) ?_
  refine xg_t (xg_blk (b := [(1705, 3, 9, 3, 7, 0), (1708, 3, 8, 18, 0, 0)]) rfl) ?_
  refine xg_t (xg_iinc (u := 0) (z := 7) (l1 := [(2, (2, 82)), (1, (2, 0)), (0, (7, 0))]) rfl rfl (rfl) rfl) ?_
  refine xg_t (xg_goto) ?_
  refine xg_t (xg_blk (b := [(18, 1, 2, 3, 0, 0), (19, 1, 0, 0, 0, 0), (20, 1, 31, 0, 0, 0), (21, 2, 4, 7, 0, 0), (23, 1, 18, 0, 0, 0), (24, 3, 6, 1711, 4, 0), (27, 1, 0, 0, 0, 0), (28, 1, 2, 3, 0, 0), (29, 1, 10, 0, 0, 0), (30, 2, 4, 63, 0, 0), (32, 1, 30, 0, 0, 0)]) rfl) ?_
  refine xg_t (xg_iload (va := (0, 7)) rfl rfl) ?_
  refine xg_t (xg_aload (va := (7, 0)) rfl rfl) ?_
  refine xg_t (xg_alen7) ?_
  refine xg_t (xg_bip) ?_
  refine xg_t (xg_isub (u := 7) (v := 7) (z := 0) xnm0 xnm0 (by decide)) ?_
  refine xg_t (xg_icT (u := 7) (v := 0) rfl xnm0 xnm0 (xj_gtT (by decide) (by decide))) ?_
  refine xg_t (xg_blk (b := [(1711, 1, 3, 1, 0, 0), (1712, 1, 12, 0, 1, 0)]) rfl) ?_
  refine xg_t (xg_const) ?_
  exact xg_e ⟨rfl, rfl, rfl⟩
end XMN
