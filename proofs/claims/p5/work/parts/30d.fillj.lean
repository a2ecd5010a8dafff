/-! a row of longs filled -/
section XFJ
variable {d k v L t : Nat} {w : List (List xE)} {bd : List (Nat × Nat)} {fc : List (Nat × Nat × Bool)} {rr : Nat × Nat} {f : Nat → Nat}
theorem fj_lp (hL : L < 2147483648) : ∀ (n i : Nat) (w : List (List xE)) (f : Nat → Nat), i + n = L → xRk 3 4 w k L t f → xTo d mJ7_fill_d0a16 (6, [], [(0, (2, k)), (1, (4, v)), (3, (0, i)), (4, (0, L))], [], (w, bd, fc, 0, 0, rr)) (fun φ => ∃ w', xEnd 0 [] (w', bd, fc, 0, 0, rr) φ ∧ ∃ g, xRk 3 4 w' k L t g ∧ xBut k w w')
  | 0, i, w, f, hn, h => by
    refine xg_t (xg_blk (b := [(6, 1, 2, 3, 0, 0), (7, 2, 2, 4, 0, 0), (9, 3, 6, 22, 3, 0), (12, 1, 0, 0, 0, 0), (13, 1, 2, 3, 0, 0), (14, 1, 53, 1, 0, 0), (15, 1, 65, 0, 0, 0), (16, 3, 9, 3, 1, 0), (19, 3, 8, 6, 0, 0)]) rfl) ?_
    refine xg_t (xg_iload (va := (0, i)) rfl rfl) ?_
    refine xg_t (xg_iload (va := (0, L)) rfl rfl) ?_
    refine xg_t (xg_icT (u := i) (v := L) rfl xnm0 xnm0 (xj_geT (by omega) (by omega))) ?_
    refine xg_t (xg_blk (b := [(22, 1, 12, 0, 0, 0)]) rfl) ?_
    exact xg_e ⟨w, ⟨rfl, rfl⟩, f, h, xBut.rf⟩
  | n + 1, i, w, f, hn, h => by
    refine xg_t (xg_blk (b := [(6, 1, 2, 3, 0, 0), (7, 2, 2, 4, 0, 0), (9, 3, 6, 22, 3, 0), (12, 1, 0, 0, 0, 0), (13, 1, 2, 3, 0, 0), (14, 1, 53, 1, 0, 0), (15, 1, 65, 0, 0, 0), (16, 3, 9, 3, 1, 0), (19, 3, 8, 6, 0, 0)]) rfl) ?_
    refine xg_t (xg_iload (va := (0, i)) rfl rfl) ?_
    refine xg_t (xg_iload (va := (0, L)) rfl rfl) ?_
    refine xg_t (xg_icF (u := i) (v := L) rfl xnm0 xnm0 (xj_geF (by omega) (by omega))) ?_
    refine xg_t (xg_aload (va := (2, k)) rfl rfl) ?_
    refine xg_t (xg_iload (va := (0, i)) rfl rfl) ?_
    refine xg_t (xg_lload (u := v) rfl) ?_
    refine xg_last (n := i) (u := v) h xnm0 (by omega) (fun w1 hr2 hb3 => ?_)
    refine xg_t (xg_iinc (u := i) (z := i + 1) (l1 := [(0, (2, k)), (1, (4, v)), (4, (0, L))]) rfl rfl (by omega) rfl) ?_
    refine xg_t (xg_goto) ?_
    refine xg_t (xg_drop (l1 := [(0, (2, k)), (1, (4, v)), (3, (0, i + 1)), (4, (0, L))]) (List.forall_mem_cons.mpr ⟨List.mem_cons_of_mem _ (List.mem_cons_self), List.forall_mem_cons.mpr ⟨List.mem_cons_of_mem _ (List.mem_cons_of_mem _ (List.mem_cons_self)), List.forall_mem_cons.mpr ⟨List.mem_cons_self, List.forall_mem_cons.mpr ⟨List.mem_cons_of_mem _ (List.mem_cons_of_mem _ (List.mem_cons_of_mem _ (List.mem_cons_self))), fun _ h => absurd h List.not_mem_nil⟩⟩⟩⟩)) ?_
    refine (fj_lp hL n (i + 1) w1 (fun j => if j = i then v else f j) (by omega) hr2).imp (fun φ h => ?_)
    obtain ⟨w', e1, g, e2, e3⟩ := h
    exact ⟨w', e1, g, e2, hb3.tr e3⟩
theorem fillJ (h : xRk 3 4 w k L t f) (hL : L < 2147483648) : xPq d mJ7_fill_d0a16 [(2, k), (4, v)] w bd fc rr [] (fun w' => ∃ g, xRk 3 4 w' k L t g ∧ xBut k w w') := by
  obtain ⟨us, hus, -⟩ := id h
  refine xPq.of ?_
  show xTo d mJ7_fill_d0a16 (0, [], [(0, (2, k)), (1, (4, v))], [], (w, bd, fc, 0, 0, rr)) (fun φ => ∃ w', xEnd 0 [] (w', bd, fc, 0, 0, rr) φ ∧ ∃ g, xRk 3 4 w' k L t g ∧ xBut k w w')
  refine xg_t (xg_blk (b := [(0, 1, 3, 0, 0, 0), (1, 1, 15, 3, 0, 0), (2, 1, 0, 0, 0, 0), (3, 1, 31, 0, 0, 0), (4, 2, 15, 4, 0, 0)]) rfl) ?_
  refine xg_t (xg_const) ?_
  refine xg_t (xg_istore (l1 := [(0, (2, k)), (1, (4, v))]) rfl rfl rfl) ?_
  refine xg_t (xg_aload (va := (2, k)) rfl rfl) ?_
  refine xg_t (xg_alen hus) ?_
  refine xg_t (xg_istore (l1 := [(3, (0, 0)), (0, (2, k)), (1, (4, v))]) rfl rfl rfl) ?_
  refine xg_t (xg_drop (l1 := [(0, (2, k)), (1, (4, v)), (3, (0, 0)), (4, (0, L))]) (List.forall_mem_cons.mpr ⟨List.mem_cons_of_mem _ (List.mem_cons_of_mem _ (List.mem_cons_self)), List.forall_mem_cons.mpr ⟨List.mem_cons_of_mem _ (List.mem_cons_of_mem _ (List.mem_cons_of_mem _ (List.mem_cons_self))), List.forall_mem_cons.mpr ⟨List.mem_cons_of_mem _ (List.mem_cons_self), List.forall_mem_cons.mpr ⟨List.mem_cons_self, fun _ h => absurd h List.not_mem_nil⟩⟩⟩⟩)) ?_
  exact fj_lp hL L 0 w f (by omega) h
end XFJ
