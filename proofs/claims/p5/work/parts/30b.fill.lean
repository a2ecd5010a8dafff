/-! a row filled -/
section XFI
variable {d k v L t : Nat} {w : List (List xE)} {bd : List (Nat × Nat)} {fc : List (Nat × Nat × Bool)} {rr : Nat × Nat} {f : Nat → Nat}
theorem fl_lp (hL : L < 2147483648) : ∀ (n i : Nat) (w : List (List xE)) (f : Nat → Nat), i + n = L → xRow w k L t f → (∀ j, j < i → f j = v) → xTo d mJ7_fill_53178 (5, [], [(0, (2, k)), (1, (0, v)), (2, (0, i)), (3, (0, L))], [], (w, bd, fc, 0, 0, rr)) (fun φ => ∃ w', xEnd 0 [] (w', bd, fc, 0, 0, rr) φ ∧ xRow w' k L t (fun _ => v) ∧ xBut k w w')
  | 0, i, w, f, hn, h, h0 => by
    refine xg_t (xg_blk (b := [(5, 1, 2, 2, 0, 0), (6, 1, 2, 3, 0, 0), (7, 3, 6, 20, 3, 0), (10, 1, 0, 0, 0, 0), (11, 1, 2, 2, 0, 0), (12, 1, 2, 1, 0, 0), (13, 1, 17, 0, 0, 0), (14, 3, 9, 2, 1, 0), (17, 3, 8, 5, 0, 0)]) rfl) ?_
    refine xg_t (xg_iload (va := (0, i)) rfl rfl) ?_
    refine xg_t (xg_iload (va := (0, L)) rfl rfl) ?_
    refine xg_t (xg_icT (u := i) (v := L) rfl xnm0 xnm0 (xj_geT (by omega) (by omega))) ?_
    refine xg_t (xg_blk (b := [(20, 1, 12, 0, 0, 0)]) rfl) ?_
    exact xg_e ⟨w, ⟨rfl, rfl⟩, h.to (fun j hj => h0 j (by omega)), xBut.rf⟩
  | n + 1, i, w, f, hn, h, h0 => by
    refine xg_t (xg_blk (b := [(5, 1, 2, 2, 0, 0), (6, 1, 2, 3, 0, 0), (7, 3, 6, 20, 3, 0), (10, 1, 0, 0, 0, 0), (11, 1, 2, 2, 0, 0), (12, 1, 2, 1, 0, 0), (13, 1, 17, 0, 0, 0), (14, 3, 9, 2, 1, 0), (17, 3, 8, 5, 0, 0)]) rfl) ?_
    refine xg_t (xg_iload (va := (0, i)) rfl rfl) ?_
    refine xg_t (xg_iload (va := (0, L)) rfl rfl) ?_
    refine xg_t (xg_icF (u := i) (v := L) rfl xnm0 xnm0 (xj_geF (by omega) (by omega))) ?_
    refine xg_t (xg_aload (va := (2, k)) rfl rfl) ?_
    refine xg_t (xg_iload (va := (0, i)) rfl rfl) ?_
    refine xg_t (xg_iload (va := (0, v)) rfl rfl) ?_
    refine xg_iastK (n := i) (u := v) h xnm0 xnm0 rfl (by omega) (fun w1 hr2 hb3 => ?_)
    refine xg_t (xg_iinc (u := i) (z := i + 1) (l1 := [(0, (2, k)), (1, (0, v)), (3, (0, L))]) rfl rfl (by omega) rfl) ?_
    refine xg_t (xg_goto) ?_
    refine xg_t (xg_drop (l1 := [(0, (2, k)), (1, (0, v)), (2, (0, i + 1)), (3, (0, L))]) (List.forall_mem_cons.mpr ⟨List.mem_cons_of_mem _ (List.mem_cons_self), List.forall_mem_cons.mpr ⟨List.mem_cons_of_mem _ (List.mem_cons_of_mem _ (List.mem_cons_self)), List.forall_mem_cons.mpr ⟨List.mem_cons_self, List.forall_mem_cons.mpr ⟨List.mem_cons_of_mem _ (List.mem_cons_of_mem _ (List.mem_cons_of_mem _ (List.mem_cons_self))), fun _ h => absurd h List.not_mem_nil⟩⟩⟩⟩)) ?_
    refine (fl_lp hL n (i + 1) w1 (fun j => if j = i then v else f j) (by omega) hr2 (fun j hj => ?_)).imp (fun φ h => ?_)
    · show (if j = i then v else f j) = v
      split
      · rfl
      · exact h0 j (by omega)
    · obtain ⟨w', e1, e2, e3⟩ := h
      exact ⟨w', e1, e2, hb3.tr e3⟩
theorem fillI (h : xRow w k L t f) (hL : L < 2147483648) : xPq d mJ7_fill_53178 [(2, k), (0, v)] w bd fc rr [] (fun w' => xRow w' k L t (fun _ => v) ∧ xBut k w w') := by
  obtain ⟨us, hus, -⟩ := id h
  refine xPq.of ?_
  show xTo d mJ7_fill_53178 (0, [], [(0, (2, k)), (1, (0, v))], [], (w, bd, fc, 0, 0, rr)) (fun φ => ∃ w', xEnd 0 [] (w', bd, fc, 0, 0, rr) φ ∧ xRow w' k L t (fun _ => v) ∧ xBut k w w')
  refine xg_t (xg_blk (b := [(0, 1, 3, 0, 0, 0), (1, 1, 15, 2, 0, 0), (2, 1, 0, 0, 0, 0), (3, 1, 31, 0, 0, 0), (4, 1, 15, 3, 0, 0)]) rfl) ?_
  refine xg_t (xg_const) ?_
  refine xg_t (xg_istore (l1 := [(0, (2, k)), (1, (0, v))]) rfl rfl rfl) ?_
  refine xg_t (xg_aload (va := (2, k)) rfl rfl) ?_
  refine xg_t (xg_alen hus) ?_
  refine xg_t (xg_istore (l1 := [(2, (0, 0)), (0, (2, k)), (1, (0, v))]) rfl rfl rfl) ?_
  refine xg_t (xg_drop (l1 := [(0, (2, k)), (1, (0, v)), (2, (0, 0)), (3, (0, L))]) (List.forall_mem_cons.mpr ⟨List.mem_cons_of_mem _ (List.mem_cons_of_mem _ (List.mem_cons_self)), List.forall_mem_cons.mpr ⟨List.mem_cons_of_mem _ (List.mem_cons_of_mem _ (List.mem_cons_of_mem _ (List.mem_cons_self))), List.forall_mem_cons.mpr ⟨List.mem_cons_of_mem _ (List.mem_cons_self), List.forall_mem_cons.mpr ⟨List.mem_cons_self, fun _ h => absurd h List.not_mem_nil⟩⟩⟩⟩)) ?_
  exact fl_lp hL L 0 w f (by omega) h (fun j hj => absurd hj (Nat.not_lt_zero j))
end XFI
