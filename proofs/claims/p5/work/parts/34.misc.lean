/-! isIn; what is told: its small methods -/
section XMI
variable {d : Nat} {w : List (List xE)} {bd : List (Nat × Nat)} {fc : List (Nat × Nat × Bool)} {rr : Nat × Nat}
theorem isIn_ok {a b c : Nat} (ha : a ≤ 4294967295) (hb : b ≤ 2147483647) (hc : c ≤ 2147483647) : xPr d mX11_isIn [(0, a), (0, b), (0, c)] w bd fc rr [(0, if b ≤ a ∧ a ≤ c then 1 else 0)] w := by
  refine xPr.of ?_
  show xTo d mX11_isIn (0, [], [(0, (0, a)), (1, (0, b)), (2, (0, c))], [], (w, bd, fc, 0, 0, rr)) (xEnd 4 [(0, if b ≤ a ∧ a ≤ c then 1 else 0)] (w, bd, fc, 0, 0, rr))
  refine xg_t (xg_blk (b := [(0, 1, 2, 0, 0, 0), (1, 1, 2, 1, 0, 0), (2, 3, 6, 14, 2, 0), (5, 1, 2, 0, 0, 0), (6, 1, 2, 2, 0, 0), (7, 3, 6, 14, 4, 0), (10, 1, 3, 1, 0, 0), (11, 3, 8, 15, 0, 0)]) rfl) ?_
  refine xg_t (xg_iload (va := (0, a)) rfl rfl) ?_
  refine xg_t (xg_iload (va := (0, b)) rfl rfl) ?_
  by_cases hc1 : xbs a < xbs b
  · have hc1u := hc1
    unfold xbs at hc1u
    have hn2 : b ≤ 2147483647 := by omega
    refine xg_t (xg_icT (u := a) (v := b) rfl xnm0 xnm0 (xjs_ltT hc1)) ?_
    refine xg_t (xg_blk (b := [(14, 1, 3, 0, 0, 0)]) rfl) ?_
    refine xg_t (xg_const) ?_
    refine xg_t (xg_blk (b := [(15, 1, 12, 0, 1, 0)]) rfl) ?_
    rw [if_neg (show ¬ (b ≤ a ∧ a ≤ c) by omega)]
    exact xg_e ⟨rfl, rfl⟩
  · have hc1u := hc1
    unfold xbs at hc1u
    have hn3 : a ≤ 2147483647 := by omega
    have hn4 : b ≤ 2147483647 := by omega
    refine xg_t (xg_icF (u := a) (v := b) rfl xnm0 xnm0 (xjs_ltF hc1)) ?_
    refine xg_t (xg_iload (va := (0, a)) rfl rfl) ?_
    refine xg_t (xg_iload (va := (0, c)) rfl rfl) ?_
    by_cases hc5 : c < a
    · refine xg_t (xg_icT (u := a) (v := c) rfl xnm0 xnm0 (xj_gtT hc5 (by omega))) ?_
      refine xg_t (xg_blk (b := [(14, 1, 3, 0, 0, 0)]) rfl) ?_
      refine xg_t (xg_const) ?_
      refine xg_t (xg_blk (b := [(15, 1, 12, 0, 1, 0)]) rfl) ?_
      rw [if_neg (show ¬ (b ≤ a ∧ a ≤ c) by omega)]
      exact xg_e ⟨rfl, rfl⟩
    · refine xg_t (xg_icF (u := a) (v := c) rfl xnm0 xnm0 (xj_gtF (by omega) (by omega))) ?_
      refine xg_t (xg_const) ?_
      refine xg_t (xg_goto) ?_
      refine xg_t (xg_blk (b := [(15, 1, 12, 0, 1, 0)]) rfl) ?_
      rw [if_pos (show b ≤ a ∧ a ≤ c by omega)]
      exact xg_e ⟨rfl, rfl⟩
theorem tdFindCrack {ra ro co : Nat} (hI : xInv w) (h1 : ra ≤ 1) (h2 : ro ≤ 4294967295) (h3 : co ≤ 4294967295) : xPi (d + 1) mX9_findCrack [(2, 1), (0, ra), (0, ro), (0, co)] w bd fc rr (fun n w' => (n ≤ 4294967295) ∧ xInv w' ∧ xFr [] w w') := by
  refine xPi.of ?_
  show xTo (d + 1) mX9_findCrack (0, [], [(0, (2, 1)), (1, (0, ra)), (2, (0, ro)), (3, (0, co))], [], (w, bd, fc, 0, 0, rr)) (fun φ => ∃ n w', xEnd 1 [(0, n)] (w', bd, fc, 0, 0, rr) φ ∧ (n ≤ 4294967295) ∧ xInv w' ∧ xFr [] w w')
  obtain ⟨f1_1, f1_3, f1_5, f1_7, f1_9, f1_11, h1_13, hb2, hb4, hb6, hb8, hb10, hb12⟩ := (hI 1 (by decide) : cp1 (wget w 1))
  obtain ⟨f14_14, h14_16, hb15⟩ := (hI 14 (by decide) : cp14 (wget w 14))
  obtain ⟨g15_17, h15_18, hb19⟩ := (hI 15 (by decide) : cpI 200 6 4294967295 (wget w 15))
  have h15_18 : xRow w 15 200 6 g15_17 := h15_18
  refine xg_t (xg_blk (b := [(0, 1, 2, 1, 0, 0), (1, 3, 7, 8, 0, 0), (4, 1, 3, 1, 0, 0), (5, 3, 8, 9, 0, 0)]) rfl) ?_
  refine xg_t (xg_iload (va := (0, ra)) rfl rfl) ?_
  by_cases hc20 : ra = 0
  · refine xg_t (xg_ifT (u := ra) rfl xnm0 (xj_eqT hc20)) ?_
    refine xg_t (xg_blk (b := [(8, 1, 3, 0, 0, 0)]) rfl) ?_
    refine xg_t (xg_const) ?_
    refine xg_t (xg_blk (b := [(9, 2, 15, 4, 0, 0), (11, 1, 3, 0, 0, 0), (12, 2, 15, 5, 0, 0)]) rfl) ?_
    refine xg_t (xg_istore (l1 := [(0, (2, 1)), (1, (0, ra)), (2, (0, ro)), (3, (0, co))]) rfl rfl rfl) ?_
    refine xg_t (xg_const) ?_
    refine xg_t (xg_istore (l1 := [(4, (0, 0)), (0, (2, 1)), (1, (0, ra)), (2, (0, ro)), (3, (0, co))]) rfl rfl rfl) ?_
    refine xg_t (xg_drop (l1 := [(0, (2, 1)), (1, (0, ra)), (2, (0, ro)), (3, (0, co)), (4, (0, 0)), (5, (0, 0))]) (List.forall_mem_cons.mpr ⟨List.mem_cons_of_mem _ (List.mem_cons_of_mem _ (List.mem_cons_self)), List.forall_mem_cons.mpr ⟨List.mem_cons_of_mem _ (List.mem_cons_of_mem _ (List.mem_cons_of_mem _ (List.mem_cons_self))), List.forall_mem_cons.mpr ⟨List.mem_cons_of_mem _ (List.mem_cons_of_mem _ (List.mem_cons_of_mem _ (List.mem_cons_of_mem _ (List.mem_cons_self)))), List.forall_mem_cons.mpr ⟨List.mem_cons_of_mem _ (List.mem_cons_of_mem _ (List.mem_cons_of_mem _ (List.mem_cons_of_mem _ (List.mem_cons_of_mem _ (List.mem_cons_self))))), List.forall_mem_cons.mpr ⟨List.mem_cons_of_mem _ (List.mem_cons_self), List.forall_mem_cons.mpr ⟨List.mem_cons_self, fun _ h => absurd h List.not_mem_nil⟩⟩⟩⟩⟩⟩)) ?_
    have key21 : ∀ (m23 : Nat) (ki : Nat) (w24 : List (List xE)), 40 - ki < m23 → ki ≤ 40 → xInv w24 → xFr [] w w24 → xTo (d + 1) mX9_findCrack (14, [], [(0, (2, 1)), (1, (0, ra)), (2, (0, ro)), (3, (0, co)), (4, (0, 0)), (5, (0, ki))], [], (w24, bd, fc, 0, 0, rr)) (fun φ => ∃ n w', xEnd 1 [(0, n)] (w', bd, fc, 0, 0, rr) φ ∧ (n ≤ 4294967295) ∧ xInv w' ∧ xFr [] w w') := by
      intro m23
      induction m23 with
      | zero => intro ki w24 hz; exact absurd hz (Nat.not_lt_zero _)
      | succ m23 ih22 =>
        intro ki w24 hm28 hn27 hI25 hF26
        refine xg_t (xg_blk (b := [(14, 2, 2, 5, 0, 0), (16, 1, 0, 0, 0, 0), (17, 3, 1, 9, 5, 31), (20, 3, 1, 5, 3, 63), (23, 3, 6, 78, 3, 0), (26, 1, 0, 0, 0, 0), (27, 3, 1, 9, 5, 31), (30, 2, 2, 5, 0, 0), (32, 1, 3, 0, 0, 0), (33, 3, 13, 285, 40, 66), (36, 2, 2, 4, 0, 0), (38, 3, 6, 72, 1, 0), (41, 1, 0, 0, 0, 0), (42, 3, 1, 9, 5, 31), (45, 2, 2, 5, 0, 0), (47, 1, 3, 1, 0, 0), (48, 3, 13, 285, 40, 66), (51, 1, 2, 2, 0, 0), (52, 3, 6, 72, 1, 0), (55, 1, 0, 0, 0, 0), (56, 3, 1, 9, 5, 31), (59, 2, 2, 5, 0, 0), (61, 1, 3, 2, 0, 0), (62, 3, 13, 285, 40, 66), (65, 1, 2, 3, 0, 0), (66, 3, 6, 72, 1, 0), (69, 2, 2, 5, 0, 0), (71, 1, 12, 0, 1, 0)]) rfl) ?_
        refine xg_t (xg_iload (va := (0, ki)) rfl rfl) ?_
        refine xg_t (xg_aload (va := (2, 1)) rfl rfl) ?_
        refine xg_t (xg_getf (va := (2, 14)) (hF26.get (by decide) h1_13) rfl) ?_
        refine xg_t (xg_getf (va := (0, f14_14)) (hF26.get (by decide) h14_16) rfl) ?_
        by_cases hc29 : ki < f14_14
        · refine xg_t (xg_icF (u := ki) (v := f14_14) rfl xnm0 xnm0 (xj_geF hc29 (by omega))) ?_
          refine xg_t (xg_aload (va := (2, 1)) rfl rfl) ?_
          refine xg_t (xg_getf (va := (2, 14)) (hF26.get (by decide) h1_13) rfl) ?_
          refine xg_t (xg_iload (va := (0, ki)) rfl rfl) ?_
          refine xg_t (xg_const) ?_
          refine xg_k (xg_cVr mX5_get (vs := [(0, ki), (0, 0)]) (rest := []) (rs := [(0, if ki < f14_14 ∧ 0 < 5 then g15_17 (ki * 5 + 0) else 4294967295)]) (cn1 := 0) (sl1 := 0) rfl (rget_ok (lim := 40) (wd := 5) (sz := f14_14) (hF26.get (by decide) h14_16) (h15_18.fr hF26 (by decide)) (by decide) (by omega) (by decide) (by decide) (by omega) (by omega)) rfl (hF26.get (by decide) h14_16) rfl rfl rfl rfl rfl rfl rfl) (xiteb (hb19)) (fun z30 hz31 => ?_)
          refine xg_t (xg_iload (va := (0, 0)) rfl rfl) ?_
          by_cases hc32 : z30 = 0
          · refine xg_t (xg_icF (u := z30) (v := 0) rfl xnm0 xnm0 (xj_neF hc32)) ?_
            refine xg_t (xg_aload (va := (2, 1)) rfl rfl) ?_
            refine xg_t (xg_getf (va := (2, 14)) (hF26.get (by decide) h1_13) rfl) ?_
            refine xg_t (xg_iload (va := (0, ki)) rfl rfl) ?_
            refine xg_t (xg_const) ?_
            refine xg_k (xg_cVr mX5_get (vs := [(0, ki), (0, 1)]) (rest := []) (rs := [(0, if ki < f14_14 ∧ 1 < 5 then g15_17 (ki * 5 + 1) else 4294967295)]) (cn1 := 0) (sl1 := 0) rfl (rget_ok (lim := 40) (wd := 5) (sz := f14_14) (hF26.get (by decide) h14_16) (h15_18.fr hF26 (by decide)) (by decide) (by omega) (by decide) (by decide) (by omega) (by omega)) rfl (hF26.get (by decide) h14_16) rfl rfl rfl rfl rfl rfl rfl) (xiteb (hb19)) (fun z33 hz34 => ?_)
            refine xg_t (xg_iload (va := (0, ro)) rfl rfl) ?_
            by_cases hc35 : z33 = ro
            · refine xg_t (xg_icF (u := z33) (v := ro) rfl xnm0 xnm0 (xj_neF hc35)) ?_
              refine xg_t (xg_aload (va := (2, 1)) rfl rfl) ?_
              refine xg_t (xg_getf (va := (2, 14)) (hF26.get (by decide) h1_13) rfl) ?_
              refine xg_t (xg_iload (va := (0, ki)) rfl rfl) ?_
              refine xg_t (xg_const) ?_
              refine xg_k (xg_cVr mX5_get (vs := [(0, ki), (0, 2)]) (rest := []) (rs := [(0, if ki < f14_14 ∧ 2 < 5 then g15_17 (ki * 5 + 2) else 4294967295)]) (cn1 := 0) (sl1 := 0) rfl (rget_ok (lim := 40) (wd := 5) (sz := f14_14) (hF26.get (by decide) h14_16) (h15_18.fr hF26 (by decide)) (by decide) (by omega) (by decide) (by decide) (by omega) (by omega)) rfl (hF26.get (by decide) h14_16) rfl rfl rfl rfl rfl rfl rfl) (xiteb (hb19)) (fun z36 hz37 => ?_)
              refine xg_t (xg_iload (va := (0, co)) rfl rfl) ?_
              by_cases hc38 : z36 = co
              · refine xg_t (xg_icF (u := z36) (v := co) rfl xnm0 xnm0 (xj_neF hc38)) ?_
                refine xg_t (xg_iload (va := (0, ki)) rfl rfl) ?_
                exact xg_e ⟨ki, w24, ⟨rfl, rfl⟩, by omega, hI25, hF26⟩
              · refine xg_t (xg_icT (u := z36) (v := co) rfl xnm0 xnm0 (xj_neT hc38)) ?_
                refine xg_t (xg_blk (b := [(72, 3, 9, 5, 1, 0), (75, 3, 8, 14, 0, 0)]) rfl) ?_
                refine xg_t (xg_iinc (u := ki) (z := ki + 1) (l1 := [(0, (2, 1)), (1, (0, ra)), (2, (0, ro)), (3, (0, co)), (4, (0, 0))]) rfl rfl (by omega) rfl) ?_
                refine xg_t (xg_goto) ?_
                refine xg_t (xg_drop (l1 := [(0, (2, 1)), (1, (0, ra)), (2, (0, ro)), (3, (0, co)), (4, (0, 0)), (5, (0, ki + 1))]) (List.forall_mem_cons.mpr ⟨List.mem_cons_of_mem _ (List.mem_cons_self), List.forall_mem_cons.mpr ⟨List.mem_cons_of_mem _ (List.mem_cons_of_mem _ (List.mem_cons_self)), List.forall_mem_cons.mpr ⟨List.mem_cons_of_mem _ (List.mem_cons_of_mem _ (List.mem_cons_of_mem _ (List.mem_cons_self))), List.forall_mem_cons.mpr ⟨List.mem_cons_of_mem _ (List.mem_cons_of_mem _ (List.mem_cons_of_mem _ (List.mem_cons_of_mem _ (List.mem_cons_self)))), List.forall_mem_cons.mpr ⟨List.mem_cons_of_mem _ (List.mem_cons_of_mem _ (List.mem_cons_of_mem _ (List.mem_cons_of_mem _ (List.mem_cons_of_mem _ (List.mem_cons_self))))), List.forall_mem_cons.mpr ⟨List.mem_cons_self, fun _ h => absurd h List.not_mem_nil⟩⟩⟩⟩⟩⟩)) ?_
                exact ih22 (ki + 1) w24 (by omega) (by omega) (hI25) (hF26)
            · refine xg_t (xg_icT (u := z33) (v := ro) rfl xnm0 xnm0 (xj_neT hc35)) ?_
              refine xg_t (xg_blk (b := [(72, 3, 9, 5, 1, 0), (75, 3, 8, 14, 0, 0)]) rfl) ?_
              refine xg_t (xg_iinc (u := ki) (z := ki + 1) (l1 := [(0, (2, 1)), (1, (0, ra)), (2, (0, ro)), (3, (0, co)), (4, (0, 0))]) rfl rfl (by omega) rfl) ?_
              refine xg_t (xg_goto) ?_
              refine xg_t (xg_drop (l1 := [(0, (2, 1)), (1, (0, ra)), (2, (0, ro)), (3, (0, co)), (4, (0, 0)), (5, (0, ki + 1))]) (List.forall_mem_cons.mpr ⟨List.mem_cons_of_mem _ (List.mem_cons_self), List.forall_mem_cons.mpr ⟨List.mem_cons_of_mem _ (List.mem_cons_of_mem _ (List.mem_cons_self)), List.forall_mem_cons.mpr ⟨List.mem_cons_of_mem _ (List.mem_cons_of_mem _ (List.mem_cons_of_mem _ (List.mem_cons_self))), List.forall_mem_cons.mpr ⟨List.mem_cons_of_mem _ (List.mem_cons_of_mem _ (List.mem_cons_of_mem _ (List.mem_cons_of_mem _ (List.mem_cons_self)))), List.forall_mem_cons.mpr ⟨List.mem_cons_of_mem _ (List.mem_cons_of_mem _ (List.mem_cons_of_mem _ (List.mem_cons_of_mem _ (List.mem_cons_of_mem _ (List.mem_cons_self))))), List.forall_mem_cons.mpr ⟨List.mem_cons_self, fun _ h => absurd h List.not_mem_nil⟩⟩⟩⟩⟩⟩)) ?_
              exact ih22 (ki + 1) w24 (by omega) (by omega) (hI25) (hF26)
          · refine xg_t (xg_icT (u := z30) (v := 0) rfl xnm0 xnm0 (xj_neT hc32)) ?_
            refine xg_t (xg_blk (b := [(72, 3, 9, 5, 1, 0), (75, 3, 8, 14, 0, 0)]) rfl) ?_
            refine xg_t (xg_iinc (u := ki) (z := ki + 1) (l1 := [(0, (2, 1)), (1, (0, ra)), (2, (0, ro)), (3, (0, co)), (4, (0, 0))]) rfl rfl (by omega) rfl) ?_
            refine xg_t (xg_goto) ?_
            refine xg_t (xg_drop (l1 := [(0, (2, 1)), (1, (0, ra)), (2, (0, ro)), (3, (0, co)), (4, (0, 0)), (5, (0, ki + 1))]) (List.forall_mem_cons.mpr ⟨List.mem_cons_of_mem _ (List.mem_cons_self), List.forall_mem_cons.mpr ⟨List.mem_cons_of_mem _ (List.mem_cons_of_mem _ (List.mem_cons_self)), List.forall_mem_cons.mpr ⟨List.mem_cons_of_mem _ (List.mem_cons_of_mem _ (List.mem_cons_of_mem _ (List.mem_cons_self))), List.forall_mem_cons.mpr ⟨List.mem_cons_of_mem _ (List.mem_cons_of_mem _ (List.mem_cons_of_mem _ (List.mem_cons_of_mem _ (List.mem_cons_self)))), List.forall_mem_cons.mpr ⟨List.mem_cons_of_mem _ (List.mem_cons_of_mem _ (List.mem_cons_of_mem _ (List.mem_cons_of_mem _ (List.mem_cons_of_mem _ (List.mem_cons_self))))), List.forall_mem_cons.mpr ⟨List.mem_cons_self, fun _ h => absurd h List.not_mem_nil⟩⟩⟩⟩⟩⟩)) ?_
            exact ih22 (ki + 1) w24 (by omega) (by omega) (hI25) (hF26)
        · refine xg_t (xg_icT (u := ki) (v := f14_14) rfl xnm0 xnm0 (xj_geT (by omega) (by omega))) ?_
          refine xg_t (xg_blk (b := [(78, 1, 3, 4294967295, 0, 0), (79, 1, 12, 0, 1, 0)]) rfl) ?_
          refine xg_t (xg_const) ?_
          exact xg_e ⟨4294967295, w24, ⟨rfl, rfl⟩, by omega, hI25, hF26⟩
    exact key21 _ 0 w (Nat.lt_succ_self _) (by omega) (hI) (xFr.rf)
  · refine xg_t (xg_ifF (u := ra) rfl xnm0 (xj_eqF hc20)) ?_
    refine xg_t (xg_const) ?_
    refine xg_t (xg_goto) ?_
    refine xg_t (xg_blk (b := [(9, 2, 15, 4, 0, 0), (11, 1, 3, 0, 0, 0), (12, 2, 15, 5, 0, 0)]) rfl) ?_
    refine xg_t (xg_istore (l1 := [(0, (2, 1)), (1, (0, ra)), (2, (0, ro)), (3, (0, co))]) rfl rfl rfl) ?_
    refine xg_t (xg_const) ?_
    refine xg_t (xg_istore (l1 := [(4, (0, 1)), (0, (2, 1)), (1, (0, ra)), (2, (0, ro)), (3, (0, co))]) rfl rfl rfl) ?_
    refine xg_t (xg_drop (l1 := [(0, (2, 1)), (1, (0, ra)), (2, (0, ro)), (3, (0, co)), (4, (0, 1)), (5, (0, 0))]) (List.forall_mem_cons.mpr ⟨List.mem_cons_of_mem _ (List.mem_cons_of_mem _ (List.mem_cons_self)), List.forall_mem_cons.mpr ⟨List.mem_cons_of_mem _ (List.mem_cons_of_mem _ (List.mem_cons_of_mem _ (List.mem_cons_self))), List.forall_mem_cons.mpr ⟨List.mem_cons_of_mem _ (List.mem_cons_of_mem _ (List.mem_cons_of_mem _ (List.mem_cons_of_mem _ (List.mem_cons_self)))), List.forall_mem_cons.mpr ⟨List.mem_cons_of_mem _ (List.mem_cons_of_mem _ (List.mem_cons_of_mem _ (List.mem_cons_of_mem _ (List.mem_cons_of_mem _ (List.mem_cons_self))))), List.forall_mem_cons.mpr ⟨List.mem_cons_of_mem _ (List.mem_cons_self), List.forall_mem_cons.mpr ⟨List.mem_cons_self, fun _ h => absurd h List.not_mem_nil⟩⟩⟩⟩⟩⟩)) ?_
    have key39 : ∀ (m41 : Nat) (ki : Nat) (w42 : List (List xE)), 40 - ki < m41 → ki ≤ 40 → xInv w42 → xFr [] w w42 → xTo (d + 1) mX9_findCrack (14, [], [(0, (2, 1)), (1, (0, ra)), (2, (0, ro)), (3, (0, co)), (4, (0, 1)), (5, (0, ki))], [], (w42, bd, fc, 0, 0, rr)) (fun φ => ∃ n w', xEnd 1 [(0, n)] (w', bd, fc, 0, 0, rr) φ ∧ (n ≤ 4294967295) ∧ xInv w' ∧ xFr [] w w') := by
      intro m41
      induction m41 with
      | zero => intro ki w42 hz; exact absurd hz (Nat.not_lt_zero _)
      | succ m41 ih40 =>
        intro ki w42 hm46 hn45 hI43 hF44
        refine xg_t (xg_blk (b := [(14, 2, 2, 5, 0, 0), (16, 1, 0, 0, 0, 0), (17, 3, 1, 9, 5, 31), (20, 3, 1, 5, 3, 63), (23, 3, 6, 78, 3, 0), (26, 1, 0, 0, 0, 0), (27, 3, 1, 9, 5, 31), (30, 2, 2, 5, 0, 0), (32, 1, 3, 0, 0, 0), (33, 3, 13, 285, 40, 66), (36, 2, 2, 4, 0, 0), (38, 3, 6, 72, 1, 0), (41, 1, 0, 0, 0, 0), (42, 3, 1, 9, 5, 31), (45, 2, 2, 5, 0, 0), (47, 1, 3, 1, 0, 0), (48, 3, 13, 285, 40, 66), (51, 1, 2, 2, 0, 0), (52, 3, 6, 72, 1, 0), (55, 1, 0, 0, 0, 0), (56, 3, 1, 9, 5, 31), (59, 2, 2, 5, 0, 0), (61, 1, 3, 2, 0, 0), (62, 3, 13, 285, 40, 66), (65, 1, 2, 3, 0, 0), (66, 3, 6, 72, 1, 0), (69, 2, 2, 5, 0, 0), (71, 1, 12, 0, 1, 0)]) rfl) ?_
        refine xg_t (xg_iload (va := (0, ki)) rfl rfl) ?_
        refine xg_t (xg_aload (va := (2, 1)) rfl rfl) ?_
        refine xg_t (xg_getf (va := (2, 14)) (hF44.get (by decide) h1_13) rfl) ?_
        refine xg_t (xg_getf (va := (0, f14_14)) (hF44.get (by decide) h14_16) rfl) ?_
        by_cases hc47 : ki < f14_14
        · refine xg_t (xg_icF (u := ki) (v := f14_14) rfl xnm0 xnm0 (xj_geF hc47 (by omega))) ?_
          refine xg_t (xg_aload (va := (2, 1)) rfl rfl) ?_
          refine xg_t (xg_getf (va := (2, 14)) (hF44.get (by decide) h1_13) rfl) ?_
          refine xg_t (xg_iload (va := (0, ki)) rfl rfl) ?_
          refine xg_t (xg_const) ?_
          refine xg_k (xg_cVr mX5_get (vs := [(0, ki), (0, 0)]) (rest := []) (rs := [(0, if ki < f14_14 ∧ 0 < 5 then g15_17 (ki * 5 + 0) else 4294967295)]) (cn1 := 0) (sl1 := 0) rfl (rget_ok (lim := 40) (wd := 5) (sz := f14_14) (hF44.get (by decide) h14_16) (h15_18.fr hF44 (by decide)) (by decide) (by omega) (by decide) (by decide) (by omega) (by omega)) rfl (hF44.get (by decide) h14_16) rfl rfl rfl rfl rfl rfl rfl) (xiteb (hb19)) (fun z48 hz49 => ?_)
          refine xg_t (xg_iload (va := (0, 1)) rfl rfl) ?_
          by_cases hc50 : z48 = 1
          · refine xg_t (xg_icF (u := z48) (v := 1) rfl xnm0 xnm0 (xj_neF hc50)) ?_
            refine xg_t (xg_aload (va := (2, 1)) rfl rfl) ?_
            refine xg_t (xg_getf (va := (2, 14)) (hF44.get (by decide) h1_13) rfl) ?_
            refine xg_t (xg_iload (va := (0, ki)) rfl rfl) ?_
            refine xg_t (xg_const) ?_
            refine xg_k (xg_cVr mX5_get (vs := [(0, ki), (0, 1)]) (rest := []) (rs := [(0, if ki < f14_14 ∧ 1 < 5 then g15_17 (ki * 5 + 1) else 4294967295)]) (cn1 := 0) (sl1 := 0) rfl (rget_ok (lim := 40) (wd := 5) (sz := f14_14) (hF44.get (by decide) h14_16) (h15_18.fr hF44 (by decide)) (by decide) (by omega) (by decide) (by decide) (by omega) (by omega)) rfl (hF44.get (by decide) h14_16) rfl rfl rfl rfl rfl rfl rfl) (xiteb (hb19)) (fun z51 hz52 => ?_)
            refine xg_t (xg_iload (va := (0, ro)) rfl rfl) ?_
            by_cases hc53 : z51 = ro
            · refine xg_t (xg_icF (u := z51) (v := ro) rfl xnm0 xnm0 (xj_neF hc53)) ?_
              refine xg_t (xg_aload (va := (2, 1)) rfl rfl) ?_
              refine xg_t (xg_getf (va := (2, 14)) (hF44.get (by decide) h1_13) rfl) ?_
              refine xg_t (xg_iload (va := (0, ki)) rfl rfl) ?_
              refine xg_t (xg_const) ?_
              refine xg_k (xg_cVr mX5_get (vs := [(0, ki), (0, 2)]) (rest := []) (rs := [(0, if ki < f14_14 ∧ 2 < 5 then g15_17 (ki * 5 + 2) else 4294967295)]) (cn1 := 0) (sl1 := 0) rfl (rget_ok (lim := 40) (wd := 5) (sz := f14_14) (hF44.get (by decide) h14_16) (h15_18.fr hF44 (by decide)) (by decide) (by omega) (by decide) (by decide) (by omega) (by omega)) rfl (hF44.get (by decide) h14_16) rfl rfl rfl rfl rfl rfl rfl) (xiteb (hb19)) (fun z54 hz55 => ?_)
              refine xg_t (xg_iload (va := (0, co)) rfl rfl) ?_
              by_cases hc56 : z54 = co
              · refine xg_t (xg_icF (u := z54) (v := co) rfl xnm0 xnm0 (xj_neF hc56)) ?_
                refine xg_t (xg_iload (va := (0, ki)) rfl rfl) ?_
                exact xg_e ⟨ki, w42, ⟨rfl, rfl⟩, by omega, hI43, hF44⟩
              · refine xg_t (xg_icT (u := z54) (v := co) rfl xnm0 xnm0 (xj_neT hc56)) ?_
                refine xg_t (xg_blk (b := [(72, 3, 9, 5, 1, 0), (75, 3, 8, 14, 0, 0)]) rfl) ?_
                refine xg_t (xg_iinc (u := ki) (z := ki + 1) (l1 := [(0, (2, 1)), (1, (0, ra)), (2, (0, ro)), (3, (0, co)), (4, (0, 1))]) rfl rfl (by omega) rfl) ?_
                refine xg_t (xg_goto) ?_
                refine xg_t (xg_drop (l1 := [(0, (2, 1)), (1, (0, ra)), (2, (0, ro)), (3, (0, co)), (4, (0, 1)), (5, (0, ki + 1))]) (List.forall_mem_cons.mpr ⟨List.mem_cons_of_mem _ (List.mem_cons_self), List.forall_mem_cons.mpr ⟨List.mem_cons_of_mem _ (List.mem_cons_of_mem _ (List.mem_cons_self)), List.forall_mem_cons.mpr ⟨List.mem_cons_of_mem _ (List.mem_cons_of_mem _ (List.mem_cons_of_mem _ (List.mem_cons_self))), List.forall_mem_cons.mpr ⟨List.mem_cons_of_mem _ (List.mem_cons_of_mem _ (List.mem_cons_of_mem _ (List.mem_cons_of_mem _ (List.mem_cons_self)))), List.forall_mem_cons.mpr ⟨List.mem_cons_of_mem _ (List.mem_cons_of_mem _ (List.mem_cons_of_mem _ (List.mem_cons_of_mem _ (List.mem_cons_of_mem _ (List.mem_cons_self))))), List.forall_mem_cons.mpr ⟨List.mem_cons_self, fun _ h => absurd h List.not_mem_nil⟩⟩⟩⟩⟩⟩)) ?_
                exact ih40 (ki + 1) w42 (by omega) (by omega) (hI43) (hF44)
            · refine xg_t (xg_icT (u := z51) (v := ro) rfl xnm0 xnm0 (xj_neT hc53)) ?_
              refine xg_t (xg_blk (b := [(72, 3, 9, 5, 1, 0), (75, 3, 8, 14, 0, 0)]) rfl) ?_
              refine xg_t (xg_iinc (u := ki) (z := ki + 1) (l1 := [(0, (2, 1)), (1, (0, ra)), (2, (0, ro)), (3, (0, co)), (4, (0, 1))]) rfl rfl (by omega) rfl) ?_
              refine xg_t (xg_goto) ?_
              refine xg_t (xg_drop (l1 := [(0, (2, 1)), (1, (0, ra)), (2, (0, ro)), (3, (0, co)), (4, (0, 1)), (5, (0, ki + 1))]) (List.forall_mem_cons.mpr ⟨List.mem_cons_of_mem _ (List.mem_cons_self), List.forall_mem_cons.mpr ⟨List.mem_cons_of_mem _ (List.mem_cons_of_mem _ (List.mem_cons_self)), List.forall_mem_cons.mpr ⟨List.mem_cons_of_mem _ (List.mem_cons_of_mem _ (List.mem_cons_of_mem _ (List.mem_cons_self))), List.forall_mem_cons.mpr ⟨List.mem_cons_of_mem _ (List.mem_cons_of_mem _ (List.mem_cons_of_mem _ (List.mem_cons_of_mem _ (List.mem_cons_self)))), List.forall_mem_cons.mpr ⟨List.mem_cons_of_mem _ (List.mem_cons_of_mem _ (List.mem_cons_of_mem _ (List.mem_cons_of_mem _ (List.mem_cons_of_mem _ (List.mem_cons_self))))), List.forall_mem_cons.mpr ⟨List.mem_cons_self, fun _ h => absurd h List.not_mem_nil⟩⟩⟩⟩⟩⟩)) ?_
              exact ih40 (ki + 1) w42 (by omega) (by omega) (hI43) (hF44)
          · refine xg_t (xg_icT (u := z48) (v := 1) rfl xnm0 xnm0 (xj_neT hc50)) ?_
            refine xg_t (xg_blk (b := [(72, 3, 9, 5, 1, 0), (75, 3, 8, 14, 0, 0)]) rfl) ?_
            refine xg_t (xg_iinc (u := ki) (z := ki + 1) (l1 := [(0, (2, 1)), (1, (0, ra)), (2, (0, ro)), (3, (0, co)), (4, (0, 1))]) rfl rfl (by omega) rfl) ?_
            refine xg_t (xg_goto) ?_
            refine xg_t (xg_drop (l1 := [(0, (2, 1)), (1, (0, ra)), (2, (0, ro)), (3, (0, co)), (4, (0, 1)), (5, (0, ki + 1))]) (List.forall_mem_cons.mpr ⟨List.mem_cons_of_mem _ (List.mem_cons_self), List.forall_mem_cons.mpr ⟨List.mem_cons_of_mem _ (List.mem_cons_of_mem _ (List.mem_cons_self)), List.forall_mem_cons.mpr ⟨List.mem_cons_of_mem _ (List.mem_cons_of_mem _ (List.mem_cons_of_mem _ (List.mem_cons_self))), List.forall_mem_cons.mpr ⟨List.mem_cons_of_mem _ (List.mem_cons_of_mem _ (List.mem_cons_of_mem _ (List.mem_cons_of_mem _ (List.mem_cons_self)))), List.forall_mem_cons.mpr ⟨List.mem_cons_of_mem _ (List.mem_cons_of_mem _ (List.mem_cons_of_mem _ (List.mem_cons_of_mem _ (List.mem_cons_of_mem _ (List.mem_cons_self))))), List.forall_mem_cons.mpr ⟨List.mem_cons_self, fun _ h => absurd h List.not_mem_nil⟩⟩⟩⟩⟩⟩)) ?_
            exact ih40 (ki + 1) w42 (by omega) (by omega) (hI43) (hF44)
        · refine xg_t (xg_icT (u := ki) (v := f14_14) rfl xnm0 xnm0 (xj_geT (by omega) (by omega))) ?_
          refine xg_t (xg_blk (b := [(78, 1, 3, 4294967295, 0, 0), (79, 1, 12, 0, 1, 0)]) rfl) ?_
          refine xg_t (xg_const) ?_
          exact xg_e ⟨4294967295, w42, ⟨rfl, rfl⟩, by omega, hI43, hF44⟩
    exact key39 _ 0 w (Nat.lt_succ_self _) (by omega) (hI) (xFr.rf)
theorem tdCracksInView (hI : xInv w)  : xPi (d + 1) mX9_cracksInView [(2, 1)] w bd fc rr (fun n w' => (n ≤ 40) ∧ xInv w' ∧ xFr [] w w') := by
  refine xPi.of ?_
  show xTo (d + 1) mX9_cracksInView (0, [], [(0, (2, 1))], [], (w, bd, fc, 0, 0, rr)) (fun φ => ∃ n w', xEnd 1 [(0, n)] (w', bd, fc, 0, 0, rr) φ ∧ (n ≤ 40) ∧ xInv w' ∧ xFr [] w w')
  obtain ⟨f1_1, f1_3, f1_5, f1_7, f1_9, f1_11, h1_13, hb2, hb4, hb6, hb8, hb10, hb12⟩ := (hI 1 (by decide) : cp1 (wget w 1))
  obtain ⟨f14_14, h14_16, hb15⟩ := (hI 14 (by decide) : cp14 (wget w 14))
  obtain ⟨g15_17, h15_18, hb19⟩ := (hI 15 (by decide) : cpI 200 6 4294967295 (wget w 15))
  have h15_18 : xRow w 15 200 6 g15_17 := h15_18
  refine xg_t (xg_blk (b := [(0, 1, 0, 0, 0, 0), (1, 3, 1, 9, 7, 35), (4, 1, 3, 4294967295, 0, 0), (5, 3, 6, 16, 1, 0), (8, 1, 0, 0, 0, 0), (9, 3, 1, 9, 5, 31), (12, 3, 1, 5, 3, 63), (15, 1, 12, 0, 1, 0)]) rfl) ?_
  refine xg_t (xg_aload (va := (2, 1)) rfl rfl) ?_
  refine xg_t (xg_getf (va := (0, f1_9)) h1_13 rfl) ?_
  refine xg_t (xg_const) ?_
  by_cases hc20 : f1_9 = 4294967295
  · refine xg_t (xg_icF (u := f1_9) (v := 4294967295) rfl xnm0 xnm0 (xj_neF hc20)) ?_
    refine xg_t (xg_aload (va := (2, 1)) rfl rfl) ?_
    refine xg_t (xg_getf (va := (2, 14)) h1_13 rfl) ?_
    refine xg_t (xg_getf (va := (0, f14_14)) h14_16 rfl) ?_
    exact xg_e ⟨f14_14, w, ⟨rfl, rfl⟩, by omega, hI, xFr.rf⟩
  · refine xg_t (xg_icT (u := f1_9) (v := 4294967295) rfl xnm0 xnm0 (xj_neT hc20)) ?_
    refine xg_t (xg_blk (b := [(16, 1, 3, 0, 0, 0), (17, 1, 15, 1, 0, 0)]) rfl) ?_
    refine xg_t (xg_const) ?_
    refine xg_t (xg_istore (l1 := [(0, (2, 1))]) rfl rfl rfl) ?_
    refine xg_t (xg_drop (l1 := [(0, (2, 1)), (1, (0, 0))]) (List.forall_mem_cons.mpr ⟨List.mem_cons_of_mem _ (List.mem_cons_self), List.forall_mem_cons.mpr ⟨List.mem_cons_self, fun _ h => absurd h List.not_mem_nil⟩⟩)) ?_
    have key21 : ∀ (m23 : Nat) (se : Nat) (w24 : List (List xE)), 40 - se < m23 → se ≤ 40 → xInv w24 → xFr [] w w24 → xTo (d + 1) mX9_cracksInView (18, [], [(0, (2, 1)), (1, (0, se))], [], (w24, bd, fc, 0, 0, rr)) (fun φ => ∃ n w', xEnd 1 [(0, n)] (w', bd, fc, 0, 0, rr) φ ∧ (n ≤ 40) ∧ xInv w' ∧ xFr [] w w') := by
      intro m23
      induction m23 with
      | zero => intro se w24 hz; exact absurd hz (Nat.not_lt_zero _)
      | succ m23 ih22 =>
        intro se w24 hm28 hn27 hI25 hF26
        refine xg_t (xg_blk (b := [(18, 1, 2, 1, 0, 0), (19, 1, 0, 0, 0, 0), (20, 3, 1, 9, 5, 31), (23, 3, 1, 5, 3, 63), (26, 3, 6, 51, 3, 0), (29, 1, 0, 0, 0, 0), (30, 3, 1, 9, 5, 31), (33, 1, 2, 1, 0, 0), (34, 1, 3, 3, 0, 0), (35, 3, 13, 285, 40, 66), (38, 1, 0, 0, 0, 0), (39, 3, 1, 9, 7, 35), (42, 3, 6, 51, 4, 0), (45, 3, 9, 1, 1, 0), (48, 3, 8, 18, 0, 0)]) rfl) ?_
        refine xg_t (xg_iload (va := (0, se)) rfl rfl) ?_
        refine xg_t (xg_aload (va := (2, 1)) rfl rfl) ?_
        refine xg_t (xg_getf (va := (2, 14)) (hF26.get (by decide) h1_13) rfl) ?_
        refine xg_t (xg_getf (va := (0, f14_14)) (hF26.get (by decide) h14_16) rfl) ?_
        by_cases hc29 : se < f14_14
        · refine xg_t (xg_icF (u := se) (v := f14_14) rfl xnm0 xnm0 (xj_geF hc29 (by omega))) ?_
          refine xg_t (xg_aload (va := (2, 1)) rfl rfl) ?_
          refine xg_t (xg_getf (va := (2, 14)) (hF26.get (by decide) h1_13) rfl) ?_
          refine xg_t (xg_iload (va := (0, se)) rfl rfl) ?_
          refine xg_t (xg_const) ?_
          refine xg_k (xg_cVr mX5_get (vs := [(0, se), (0, 3)]) (rest := []) (rs := [(0, if se < f14_14 ∧ 3 < 5 then g15_17 (se * 5 + 3) else 4294967295)]) (cn1 := 0) (sl1 := 0) rfl (rget_ok (lim := 40) (wd := 5) (sz := f14_14) (hF26.get (by decide) h14_16) (h15_18.fr hF26 (by decide)) (by decide) (by omega) (by decide) (by decide) (by omega) (by omega)) rfl (hF26.get (by decide) h14_16) rfl rfl rfl rfl rfl rfl rfl) (xiteb (hb19)) (fun z30 hz31 => ?_)
          refine xg_t (xg_aload (va := (2, 1)) rfl rfl) ?_
          refine xg_t (xg_getf (va := (0, f1_9)) (hF26.get (by decide) h1_13) rfl) ?_
          by_cases hc32 : xbs f1_9 < xbs z30
          · have hc32u := hc32
            unfold xbs at hc32u
            refine xg_t (xg_icT (u := z30) (v := f1_9) rfl xnm0 xnm0 (xjs_gtT hc32)) ?_
            refine xg_t (xg_blk (b := [(51, 1, 2, 1, 0, 0), (52, 1, 12, 0, 1, 0)]) rfl) ?_
            refine xg_t (xg_iload (va := (0, se)) rfl rfl) ?_
            exact xg_e ⟨se, w24, ⟨rfl, rfl⟩, by omega, hI25, hF26⟩
          · have hc32u := hc32
            unfold xbs at hc32u
            refine xg_t (xg_icF (u := z30) (v := f1_9) rfl xnm0 xnm0 (xjs_gtF hc32)) ?_
            refine xg_t (xg_iinc (u := se) (z := se + 1) (l1 := [(0, (2, 1))]) rfl rfl (by omega) rfl) ?_
            refine xg_t (xg_goto) ?_
            refine xg_t (xg_drop (l1 := [(0, (2, 1)), (1, (0, se + 1))]) (List.forall_mem_cons.mpr ⟨List.mem_cons_of_mem _ (List.mem_cons_self), List.forall_mem_cons.mpr ⟨List.mem_cons_self, fun _ h => absurd h List.not_mem_nil⟩⟩)) ?_
            exact ih22 (se + 1) w24 (by omega) (by omega) (hI25) (hF26)
        · refine xg_t (xg_icT (u := se) (v := f14_14) rfl xnm0 xnm0 (xj_geT (by omega) (by omega))) ?_
          refine xg_t (xg_blk (b := [(51, 1, 2, 1, 0, 0), (52, 1, 12, 0, 1, 0)]) rfl) ?_
          refine xg_t (xg_iload (va := (0, se)) rfl rfl) ?_
          exact xg_e ⟨se, w24, ⟨rfl, rfl⟩, by omega, hI25, hF26⟩
    exact key21 _ 0 w (Nat.lt_succ_self _) (by omega) (hI) (xFr.rf)
end XMI
