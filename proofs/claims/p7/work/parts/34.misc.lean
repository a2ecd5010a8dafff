/-! isIn; what is told: its small methods -/
section XMI
variable {d : Nat} {w : List (List xE)} {bd : List (Nat × Nat)} {fc : List (Nat × Nat × Bool)} {rr : Nat × Nat}
theorem isIn_ok {a b c : Nat} (ha : a ≤ 4294967295) (hb : b ≤ 2147483647) (hc : c ≤ 2147483647) : xPr d mX11_isIn [(0, a), (0, b), (0, c)] w bd fc rr [(0, if b ≤ a ∧ a ≤ c then 1 else 0)] w := by
  refine xPr.of ?_
  show xTo d mX11_isIn (0, [], [(0, (0, a)), (1, (0, b)), (2, (0, c))], [], (w, bd, fc, 0, 0, rr)) (xEnd 4 [(0, if b ≤ a ∧ a ≤ c then 1 else 0)] (w, bd, fc, 0, 0, rr))
  refine xg_t (xg_blk (b := [(0, 1, 2, 0, 0, 0), (1, 1, 2, 1, 0, 0), (2, 3, 6, 14, 2, 0), (5, 1, 2, 0, 0, 0), (6, 1, 2, 2, 0, 0), (7, 3, 6, 14, 4, 0), (10, 1, 3, 1, 0, 0), (11, 3, 8, 15, 0, 0)]) rfl) ?_
  refine xg_t (xg_iload (va := (0, a)) rfl rfl) ?_
  refine xg_t (xg_iload (va := (0, b)) rfl rfl) ?_
  by_cases hc1 : xbs a < xbs b
  · have hc1u := hc1
    unfold xbs at hc1u
    have hn2 : b ≤ 2147483647 := by omega
    refine xg_t (xg_icT (u := a) (v := b) rfl xnm0 xnm0 (xjs_ltT hc1)) ?_
    refine xg_t (xg_blk (b := [(14, 1, 3, 0, 0, 0)]) rfl) ?_
    refine xg_t (xg_const) ?_
    refine xg_t (xg_blk (b := [(15, 1, 12, 0, 1, 0)]) rfl) ?_
    rw [if_neg (show ¬ (b ≤ a ∧ a ≤ c) by omega)]
    exact xg_e ⟨rfl, rfl⟩
  · have hc1u := hc1
    unfold xbs at hc1u
    have hn3 : a ≤ 2147483647 := by omega
    have hn4 : b ≤ 2147483647 := by omega
    refine xg_t (xg_icF (u := a) (v := b) rfl xnm0 xnm0 (xjs_ltF hc1)) ?_
    refine xg_t (xg_iload (va := (0, a)) rfl rfl) ?_
    refine xg_t (xg_iload (va := (0, c)) rfl rfl) ?_
    by_cases hc5 : c < a
    · refine xg_t (xg_icT (u := a) (v := c) rfl xnm0 xnm0 (xj_gtT hc5 (by omega))) ?_
      refine xg_t (xg_blk (b := [(14, 1, 3, 0, 0, 0)]) rfl) ?_
      refine xg_t (xg_const) ?_
      refine xg_t (xg_blk (b := [(15, 1, 12, 0, 1, 0)]) rfl) ?_
      rw [if_neg (show ¬ (b ≤ a ∧ a ≤ c) by omega)]
      exact xg_e ⟨rfl, rfl⟩
    · refine xg_t (xg_icF (u := a) (v := c) rfl xnm0 xnm0 (xj_gtF (by omega) (by omega))) ?_
      refine xg_t (xg_const) ?_
      refine xg_t (xg_goto) ?_
      refine xg_t (xg_blk (b := [(15, 1, 12, 0, 1, 0)]) rfl) ?_
      rw [if_pos (show b ≤ a ∧ a ≤ c by omega)]
      exact xg_e ⟨rfl, rfl⟩
theorem tdFindCrack {ra ro co : Nat} (hI : xInv w) (h1 : ra ≤ 1) (h2 : ro ≤ 4294967295) (h3 : co ≤ 4294967295) : xPi (d + 1) mX9_findCrack [(2, 1), (0, ra), (0, ro), (0, co)] w bd fc rr (fun n w' => (n ≤ 4294967295) ∧ xInv w' ∧ xFr [] w w') := by
  refine xPi.of ?_
  show xTo (d + 1) mX9_findCrack (0, [], [(0, (2, 1)), (1, (0, ra)), (2, (0, ro)), (3, (0, co))], [], (w, bd, fc, 0, 0, rr)) (fun φ => ∃ n w', xEnd 1 [(0, n)] (w', bd, fc, 0, 0, rr) φ ∧ (n ≤ 4294967295) ∧ xInv w' ∧ xFr [] w w')
  obtain ⟨f1_1, f1_3, f1_5, f1_7, f1_9, f1_11, h1_13, hb2, hb4, hb6, hb8, hb10, hb12⟩ := (hI 1 (by decide) : cp1 (wget w 1))
  obtain ⟨f14_14, h14_16, hb15⟩ := (hI 14 (by decide) : cp14 (wget w 14))
  obtain ⟨g15_17, h15_18, hb19⟩ := (hI 15 (by decide) : cpI 200 6 4294967295 (wget w 15))
  have h15_18 : xRow w 15 200 6 g15_17 := h15_18
  refine xg_t (xg_blk (b := [(0, 1, 2, 1, 0, 0), (1, 3, 7, 8, 0, 0), (4, 1, 3, 1, 0, 0), (5, 3, 8, 9, 0, 0)]) rfl) ?_
  refine xg_t (xg_iload (va := (0, ra)) rfl rfl) ?_
  by_cases hc20 : ra = 0
  · refine xg_t (xg_ifT (u := ra) rfl xnm0 (xj_eqT hc20)) ?_
    refine xg_t (xg_blk (b := [(8, 1, 3, 0, 0, 0)]) rfl) ?_
    refine xg_t (xg_const) ?_
    refine xg_t (xg_blk (b := [(9, 2, 15, 4, 0, 0), (11, 1, 3, 0, 0, 0), (12, 2, 15, 5, 0, 0)]) rfl) ?_
    refine xg_t (xg_istore (l1 := [(0, (2, 1)), (1, (0, ra)), (2, (0, ro)), (3, (0, co))]) rfl rfl rfl) ?_
    refine xg_t (xg_const) ?_
    refine xg_t (xg_istore (l1 := [(4, (0, 0)), (0, (2, 1)), (1, (0, ra)), (2, (0, ro)), (3, (0, co))]) rfl rfl rfl) ?_
    refine xg_t (xg_drop (l1 := [(0, (2, 1)), (1, (0, ra)), (2, (0, ro)), (3, (0, co)), (4, (0, 0)), (5, (0, 0))]) (List.forall_mem_cons.mpr ⟨List.mem_cons_of_mem _ (List.mem_cons_of_mem _ (List.mem_cons_self)), List.forall_mem_cons.mpr ⟨List.mem_cons_of_mem _ (List.mem_cons_of_mem _ (List.mem_cons_of_mem _ (List.mem_cons_self))), List.forall_mem_cons.mpr ⟨List.mem_cons_of_mem _ (List.mem_cons_of_mem _ (List.mem_cons_of_mem _ (List.mem_cons_of_mem _ (List.mem_cons_self)))), List.forall_mem_cons.mpr ⟨List.mem_cons_of_mem _ (List.mem_cons_of_mem _ (List.mem_cons_of_mem _ (List.mem_cons_of_mem _ (List.mem_cons_of_mem _ (List.mem_cons_self))))), List.forall_mem_cons.mpr ⟨List.mem_cons_of_mem _ (List.mem_cons_self), List.forall_mem_cons.mpr ⟨List.mem_cons_self, fun _ h => absurd h List.not_mem_nil⟩⟩⟩⟩⟩⟩)) ?_
    have key21 : ∀ (m23 : Nat) (ki : Nat) (w24 : List (List xE)), 40 - ki < m23 → ki ≤ 40 → xInv w24 → xFr [] w w24 → xTo (d + 1) mX9_findCrack (14, [], [(0, (2, 1)), (1, (0, ra)), (2, (0, ro)), (3, (0, co)), (4, (0, 0)), (5, (0, ki))], [], (w24, bd, fc, 0, 0, rr)) (fun φ => ∃ n w', xEnd 1 [(0, n)] (w', bd, fc, 0, 0, rr) φ ∧ (n ≤ 4294967295) ∧ xInv w' ∧ xFr [] w w') := by
      intro m23
      induction m23 with
      | zero => intro ki w24 hz; exact absurd hz (Nat.not_lt_zero _)
      | succ m23 ih22 =>
        intro ki w24 hm28 hn27 hI25 hF26
        refine xg_t (xg_blk (b := [(14, 2, 2, 5, 0, 0), (16, 1, 0, 0, 0, 0), (17, 3, 1, 9, 5, 31), (20, 3, 1, 5, 3, 63), (23, 3, 6, 78, 3, 0), (26, 1, 0, 0, 0, 0), (27, 3, 1, 9, 5, 31), (30, 2, 2, 5, 0, 0), (32, 1, 3, 0, 0, 0), (33, 3, 13, 285, 40, 66), (36, 2, 2, 4, 0, 0), (38, 3, 6, 72, 1, 0), (41, 1, 0, 0, 0, 0), (42, 3, 1, 9, 5, 31), (45, 2, 2, 5, 0, 0), (47, 1, 3, 1, 0, 0), (48, 3, 13, 285, 40, 66), (51, 1, 2, 2, 0, 0), (52, 3, 6, 72, 1, 0), (55, 1, 0, 0, 0, 0), (56, 3, 1, 9, 5, 31), (59, 2, 2, 5, 0, 0), (61, 1, 3, 2, 0, 0), (62, 3, 13, 285, 40, 66), (65, 1, 2, 3, 0, 0), (66, 3, 6, 72, 1, 0), (69, 2, 2, 5, 0, 0), (71, 1, 12, 0, 1, 0)]) rfl) ?_
        refine xg_t (xg_iload (va := (0, ki)) rfl rfl) ?_
        refine xg_t (xg_aload (va := (2, 1)) rfl rfl) ?_
        refine xg_t (xg_getf (va := (2, 14)) (hF26.get (by decide) h1_13) rfl) ?_
        refine xg_t (xg_getf (va := (0, f14_14)) (hF26.get (by decide) h14_16) rfl) ?_
        by_cases hc29 : ki < f14_14
        · refine xg_t (xg_icF (u := ki) (v := f14_14) rfl xnm0 xnm0 (xj_geF hc29 (by omega))) ?_
          refine xg_t (xg_aload (va := (2, 1)) rfl rfl) ?_
          refine xg_t (xg_getf (va := (2, 14)) (hF26.get (by decide) h1_13) rfl) ?_
          refine xg_t (xg_iload (va := (0, ki)) rfl rfl) ?_
          refine xg_t (xg_const) ?_
          refine xg_k (xg_cVr mX5_get (vs := [(0, ki), (0, 0)]) (rest := []) (rs := [(0, if ki < f14_14 ∧ 0 < 5 then g15_17 (ki * 5 + 0) else 4294967295)]) (cn1 := 0) (sl1 := 0) rfl (rget_ok (lim := 40) (wd := 5) (sz := f14_14) (hF26.get (by decide) h14_16) (h15_18.fr hF26 (by decide)) (by decide) (by omega) (by decide) (by decide) (by omega) (by omega)) rfl (hF26.get (by decide) h14_16) rfl rfl rfl rfl rfl rfl rfl) (xiteb (hb19)) (fun z30 hz31 => ?_)
          refine xg_t (xg_iload (va := (0, 0)) rfl rfl) ?_
          by_cases hc32 : z30 = 0
          · refine xg_t (xg_icF (u := z30) (v := 0) rfl xnm0 xnm0 (xj_neF hc32)) ?_
            refine xg_t (xg_aload (va := (2, 1)) rfl rfl) ?_
            refine xg_t (xg_getf (va := (2, 14)) (hF26.get (by decide) h1_13) rfl) ?_
            refine xg_t (xg_iload (va := (0, ki)) rfl rfl) ?_
            refine xg_t (xg_const) ?_
            refine xg_k (xg_cVr mX5_get (vs := [(0, ki), (0, 1)]) (rest := []) (rs := [(0, if ki < f14_14 ∧ 1 < 5 then g15_17 (ki * 5 + 1) else 4294967295)]) (cn1 := 0) (sl1 := 0) rfl (rget_ok (lim := 40) (wd := 5) (sz := f14_14) (hF26.get (by decide) h14_16) (h15_18.fr hF26 (by decide)) (by decide) (by omega) (by decide) (by decide) (by omega) (by omega)) rfl (hF26.get (by decide) h14_16) rfl rfl rfl rfl rfl rfl rfl) (xiteb (hb19)) (fun z33 hz34 => ?_)
            refine xg_t (xg_iload (va := (0, ro)) rfl rfl) ?_
            by_cases hc35 : z33 = ro
            · refine xg_t (xg_icF (u := z33) (v := ro) rfl xnm0 xnm0 (xj_neF hc35)) ?_
              refine xg_t (xg_aload (va := (2, 1)) rfl rfl) ?_
              refine xg_t (xg_getf (va := (2, 14)) (hF26.get (by decide) h1_13) rfl) ?_
              refine xg_t (xg_iload (va := (0, ki)) rfl rfl) ?_
              refine xg_t (xg_const) ?_
              refine xg_k (xg_cVr mX5_get (vs := [(0, ki), (0, 2)]) (rest := []) (rs := [(0, if ki < f14_14 ∧ 2 < 5 then g15_17 (ki * 5 + 2) else 4294967295)]) (cn1 := 0) (sl1 := 0) rfl (rget_ok (lim := 40) (wd := 5) (sz := f14_14) (hF26.get (by decide) h14_16) (h15_18.fr hF26 (by decide)) (by decide) (by omega) (by decide) (by decide) (by omega) (by omega)) rfl (hF26.get (by decide) h14_16) rfl rfl rfl rfl rfl rfl rfl) (xiteb (hb19)) (fun z36 hz37 => ?_)
              refine xg_t (xg_iload (va := (0, co)) rfl rfl) ?_
              by_cases hc38 : z36 = co
              · refine xg_t (xg_icF (u := z36) (v := co) rfl xnm0 xnm0 (xj_neF hc38)) ?_
                refine xg_t (xg_iload (va := (0, ki)) rfl rfl) ?_
                exact xg_e ⟨ki, w24, ⟨rfl, rfl⟩, by omega, hI25, hF26⟩
              · refine xg_t (xg_icT (u := z36) (v := co) rfl xnm0 xnm0 (xj_neT hc38)) ?_
                refine xg_t (xg_blk (b := [(72, 3, 9, 5, 1, 0), (75, 3, 8, 14, 0, 0)]) rfl) ?_
                refine xg_t (xg_iinc (u := ki) (z := ki + 1) (l1 := [(0, (2, 1)), (1, (0, ra)), (2, (0, ro)), (3, (0, co)), (4, (0, 0))]) rfl rfl (by omega) rfl) ?_
                refine xg_t (xg_goto) ?_
                refine xg_t (xg_drop (l1 := [(0, (2, 1)), (1, (0, ra)), (2, (0, ro)), (3, (0, co)), (4, (0, 0)), (5, (0, ki + 1))]) (List.forall_mem_cons.mpr ⟨List.mem_cons_of_mem _ (List.mem_cons_self), List.forall_mem_cons.mpr ⟨List.mem_cons_of_mem _ (List.mem_cons_of_mem _ (List.mem_cons_self)), List.forall_mem_cons.mpr ⟨List.mem_cons_of_mem _ (List.mem_cons_of_mem _ (List.mem_cons_of_mem _ (List.mem_cons_self))), List.forall_mem_cons.mpr ⟨List.mem_cons_of_mem _ (List.mem_cons_of_mem _ (List.mem_cons_of_mem _ (List.mem_cons_of_mem _ (List.mem_cons_self)))), List.forall_mem_cons.mpr ⟨List.mem_cons_of_mem _ (List.mem_cons_of_mem _ (List.mem_cons_of_mem _ (List.mem_cons_of_mem _ (List.mem_cons_of_mem _ (List.mem_cons_self))))), List.forall_mem_cons.mpr ⟨List.mem_cons_self, fun _ h => absurd h List.not_mem_nil⟩⟩⟩⟩⟩⟩)) ?_
                exact ih22 (ki + 1) w24 (by omega) (by omega) (hI25) (hF26)
            · refine xg_t (xg_icT (u := z33) (v := ro) rfl xnm0 xnm0 (xj_neT hc35)) ?_
              refine xg_t (xg_blk (b := [(72, 3, 9, 5, 1, 0), (75, 3, 8, 14, 0, 0)]) rfl) ?_
              refine xg_t (xg_iinc (u := ki) (z := ki + 1) (l1 := [(0, (2, 1)), (1, (0, ra)), (2, (0, ro)), (3, (0, co)), (4, (0, 0))]) rfl rfl (by omega) rfl) ?_
              refine xg_t (xg_goto) ?_
              refine xg_t (xg_drop (l1 := [(0, (2, 1)), (1, (0, ra)), (2, (0, ro)), (3, (0, co)), (4, (0, 0)), (5, (0, ki + 1))]) (List.forall_mem_cons.mpr ⟨List.mem_cons_of_mem _ (List.mem_cons_self), List.forall_mem_cons.mpr ⟨List.mem_cons_of_mem _ (List.mem_cons_of_mem _ (List.mem_cons_self)), List.forall_mem_cons.mpr ⟨List.mem_cons_of_mem _ (List.mem_cons_of_mem _ (List.mem_cons_of_mem _ (List.mem_cons_self))), List.forall_mem_cons.mpr ⟨List.mem_cons_of_mem _ (List.mem_cons_of_mem _ (List.mem_cons_of_mem _ (List.mem_cons_of_mem _ (List.mem_cons_self)))), List.forall_mem_cons.mpr ⟨List.mem_cons_of_mem _ (List.mem_cons_of_mem _ (List.mem_cons_of_mem _ (List.mem_cons_of_mem _ (List.mem_cons_of_mem _ (List.mem_cons_self))))), List.forall_mem_cons.mpr ⟨List.mem_cons_self, fun _ h => absurd h List.not_mem_nil⟩⟩⟩⟩⟩⟩)) ?_
              exact ih22 (ki + 1) w24 (by omega) (by omega) (hI25) (hF26)
          · refine xg_t (xg_icT (u := z30) (v := 0) rfl xnm0 xnm0 (xj_neT hc32)) ?_
            refine xg_t (xg_blk (b := [(72, 3, 9, 5, 1, 0), (75, 3, 8, 14, 0, 0)]) rfl) ?_
            refine xg_t (xg_iinc (u := ki) (z := ki + 1) (l1 := [(0, (2, 1)), (1, (0, ra)), (2, (0, ro)), (3, (0, co)), (4, (0, 0))]) rfl rfl (by omega) rfl) ?_
            refine xg_t (xg_goto) ?_
            refine xg_t (xg_drop (l1 := [(0, (2, 1)), (1, (0, ra)), (2, (0, ro)), (3, (0, co)), (4, (0, 0)), (5, (0, ki + 1))]) (List.forall_mem_cons.mpr ⟨List.mem_cons_of_mem _ (List.mem_cons_self), List.forall_mem_cons.mpr ⟨List.mem_cons_of_mem _ (List.mem_cons_of_mem _ (List.mem_cons_self)), List.forall_mem_cons.mpr ⟨List.mem_cons_of_mem _ (List.mem_cons_of_mem _ (List.mem_cons_of_mem _ (List.mem_cons_self))), List.forall_mem_cons.mpr ⟨List.mem_cons_of_mem _ (List.mem_cons_of_mem _ (List.mem_cons_of_mem _ (List.mem_cons_of_mem _ (List.mem_cons_self)))), List.forall_mem_cons.mpr ⟨List.mem_cons_of_mem _ (List.mem_cons_of_mem _ (List.mem_cons_of_mem _ (List.mem_cons_of_mem _ (List.mem_cons_of_mem _ (List.mem_cons_self))))), List.forall_mem_cons.mpr ⟨List.mem_cons_self, fun _ h => absurd h List.not_mem_nil⟩⟩⟩⟩⟩⟩)) ?_
            exact ih22 (ki + 1) w24 (by omega) (by omega) (hI25) (hF26)
        · refine xg_t (xg_icT (u := ki) (v := f14_14) rfl xnm0 xnm0 (xj_geT (by omega) (by omega))) ?_
          refine xg_t (xg_blk (b := [(78, 1, 3, 4294967295, 0, 0), (79, 1, 12, 0, 1, 0)]) rfl) ?_
          refine xg_t (xg_const) ?_
          exact xg_e ⟨4294967295, w24, ⟨rfl, rfl⟩, by omega, hI25, hF26⟩
    exact key21 _ 0 w (Nat.lt_succ_self _) (by omega) (hI) (xFr.rf)
  · refine xg_t (xg_ifF (u := ra) rfl xnm0 (xj_eqF hc20)) ?_
    refine xg_t (xg_const) ?_
    refine xg_t (xg_goto) ?_
    refine xg_t (xg_blk (b := [(9, 2, 15, 4, 0, 0), (11, 1, 3, 0, 0, 0), (12, 2, 15, 5, 0, 0)]) rfl) ?_
    refine xg_t (xg_istore (l1 := [(0, (2, 1)), (1, (0, ra)), (2, (0, ro)), (3, (0, co))]) rfl rfl rfl) ?_
    refine xg_t (xg_const) ?_
    refine xg_t (xg_istore (l1 := [(4, (0, 1)), (0, (2, 1)), (1, (0, ra)), (2, (0, ro)), (3, (0, co))]) rfl rfl rfl) ?_
    refine xg_t (xg_drop (l1 := [(0, (2, 1)), (1, (0, ra)), (2, (0, ro)), (3, (0, co)), (4, (0, 1)), (5, (0, 0))]) (List.forall_mem_cons.mpr ⟨List.mem_cons_of_mem _ (List.mem_cons_of_mem _ (List.mem_cons_self)), List.forall_mem_cons.mpr ⟨List.mem_cons_of_mem _ (List.mem_cons_of_mem _ (List.mem_cons_of_mem _ (List.mem_cons_self))), List.forall_mem_cons.mpr ⟨List.mem_cons_of_mem _ (List.mem_cons_of_mem _ (List.mem_cons_of_mem _ (List.mem_cons_of_mem _ (List.mem_cons_self)))), List.forall_mem_cons.mpr ⟨List.mem_cons_of_mem _ (List.mem_cons_of_mem _ (List.mem_cons_of_mem _ (List.mem_cons_of_mem _ (List.mem_cons_of_mem _ (List.mem_cons_self))))), List.forall_mem_cons.mpr ⟨List.mem_cons_of_mem _ (List.mem_cons_self), List.forall_mem_cons.mpr ⟨List.mem_cons_self, fun _ h => absurd h List.not_mem_nil⟩⟩⟩⟩⟩⟩)) ?_
    have key39 : ∀ (m41 : Nat) (ki : Nat) (w42 : List (List xE)), 40 - ki < m41 → ki ≤ 40 → xInv w42 → xFr [] w w42 → xTo (d + 1) mX9_findCrack (14, [], [(0, (2, 1)), (1, (0, ra)), (2, (0, ro)), (3, (0, co)), (4, (0, 1)), (5, (0, ki))], [], (w42, bd, fc, 0, 0, rr)) (fun φ => ∃ n w', xEnd 1 [(0, n)] (w', bd, fc, 0, 0, rr) φ ∧ (n ≤ 4294967295) ∧ xInv w' ∧ xFr [] w w') := by
      intro m41
      induction m41 with
      | zero => intro ki w42 hz; exact absurd hz (Nat.not_lt_zero _)
      | succ m41 ih40 =>
        intro ki w42 hm46 hn45 hI43 hF44
        refine xg_t (xg_blk (b := [(14, 2, 2, 5, 0, 0), (16, 1, 0, 0, 0, 0), (17, 3, 1, 9, 5, 31), (20, 3, 1, 5, 3, 63), (23, 3, 6, 78, 3, 0), (26, 1, 0, 0, 0, 0), (27, 3, 1, 9, 5, 31), (30, 2, 2, 5, 0, 0), (32, 1, 3, 0, 0, 0), (33, 3, 13, 285, 40, 66), (36, 2, 2, 4, 0, 0), (38, 3, 6, 72, 1, 0), (41, 1, 0, 0, 0, 0), (42, 3, 1, 9, 5, 31), (45, 2, 2, 5, 0, 0), (47, 1, 3, 1, 0, 0), (48, 3, 13, 285, 40, 66), (51, 1, 2, 2, 0, 0), (52, 3, 6, 72, 1, 0), (55, 1, 0, 0, 0, 0), (56, 3, 1, 9, 5, 31), (59, 2, 2, 5, 0, 0), (61, 1, 3, 2, 0, 0), (62, 3, 13, 285, 40, 66), (65, 1, 2, 3, 0, 0), (66, 3, 6, 72, 1, 0), (69, 2, 2, 5, 0, 0), (71, 1, 12, 0, 1, 0)]) rfl) ?_
        refine xg_t (xg_iload (va := (0, ki)) rfl rfl) ?_
        refine xg_t (xg_aload (va := (2, 1)) rfl rfl) ?_
        refine xg_t (xg_getf (va := (2, 14)) (hF44.get (by decide) h1_13) rfl) ?_
        refine xg_t (xg_getf (va := (0, f14_14)) (hF44.get (by decide) h14_16) rfl) ?_
        by_cases hc47 : ki < f14_14
        · refine xg_t (xg_icF (u := ki) (v := f14_14) rfl xnm0 xnm0 (xj_geF hc47 (by omega))) ?_
          refine xg_t (xg_aload (va := (2, 1)) rfl rfl) ?_
          refine xg_t (xg_getf (va := (2, 14)) (hF44.get (by decide) h1_13) rfl) ?_
          refine xg_t (xg_iload (va := (0, ki)) rfl rfl) ?_
          refine xg_t (xg_const) ?_
          refine xg_k (xg_cVr mX5_get (vs := [(0, ki), (0, 0)]) (rest := []) (rs := [(0, if ki < f14_14 ∧ 0 < 5 then g15_17 (ki * 5 + 0) else 4294967295)]) (cn1 := 0) (sl1 := 0) rfl (rget_ok (lim := 40) (wd := 5) (sz := f14_14) (hF44.get (by decide) h14_16) (h15_18.fr hF44 (by decide)) (by decide) (by omega) (by decide) (by decide) (by omega) (by omega)) rfl (hF44.get (by decide) h14_16) rfl rfl rfl rfl rfl rfl rfl) (xiteb (hb19)) (fun z48 hz49 => ?_)
          refine xg_t (xg_iload (va := (0, 1)) rfl rfl) ?_
          by_cases hc50 : z48 = 1
          · refine xg_t (xg_icF (u := z48) (v := 1) rfl xnm0 xnm0 (xj_neF hc50)) ?_
            refine xg_t (xg_aload (va := (2, 1)) rfl rfl) ?_
            refine xg_t (xg_getf (va := (2, 14)) (hF44.get (by decide) h1_13) rfl) ?_
            refine xg_t (xg_iload (va := (0, ki)) rfl rfl) ?_
            refine xg_t (xg_const) ?_
            refine xg_k (xg_cVr mX5_get (vs := [(0, ki), (0, 1)]) (rest := []) (rs := [(0, if ki < f14_14 ∧ 1 < 5 then g15_17 (ki * 5 + 1) else 4294967295)]) (cn1 := 0) (sl1 := 0) rfl (rget_ok (lim := 40) (wd := 5) (sz := f14_14) (hF44.get (by decide) h14_16) (h15_18.fr hF44 (by decide)) (by decide) (by omega) (by decide) (by decide) (by omega) (by omega)) rfl (hF44.get (by decide) h14_16) rfl rfl rfl rfl rfl rfl rfl) (xiteb (hb19)) (fun z51 hz52 => ?_)
            refine xg_t (xg_iload (va := (0, ro)) rfl rfl) ?_
            by_cases hc53 : z51 = ro
            · refine xg_t (xg_icF (u := z51) (v := ro) rfl xnm0 xnm0 (xj_neF hc53)) ?_
              refine xg_t (xg_aload (va := (2, 1)) rfl rfl) ?_
              refine xg_t (xg_getf (va := (2, 14)) (hF44.get (by decide) h1_13) rfl) ?_
              refine xg_t (xg_iload (va := (0, ki)) rfl rfl) ?_
              refine xg_t (xg_const) ?_
              refine xg_k (xg_cVr mX5_get (vs := [(0, ki), (0, 2)]) (rest := []) (rs := [(0, if ki < f14_14 ∧ 2 < 5 then g15_17 (ki * 5 + 2) else 4294967295)]) (cn1 := 0) (sl1 := 0) rfl (rget_ok (lim := 40) (wd := 5) (sz := f14_14) (hF44.get (by decide) h14_16) (h15_18.fr hF44 (by decide)) (by decide) (by omega) (by decide) (by decide) (by omega) (by omega)) rfl (hF44.get (by decide) h14_16) rfl rfl rfl rfl rfl rfl rfl) (xiteb (hb19)) (fun z54 hz55 => ?_)
              refine xg_t (xg_iload (va := (0, co)) rfl rfl) ?_
              by_cases hc56 : z54 = co
              · refine xg_t (xg_icF (u := z54) (v := co) rfl xnm0 xnm0 (xj_neF hc56)) ?_
                refine xg_t (xg_iload (va := (0, ki)) rfl rfl) ?_
                exact xg_e ⟨ki, w42, ⟨rfl, rfl⟩, by omega, hI43, hF44⟩
              · refine xg_t (xg_icT (u := z54) (v := co) rfl xnm0 xnm0 (xj_neT hc56)) ?_
                refine xg_t (xg_blk (b := [(72, 3, 9, 5, 1, 0), (75, 3, 8, 14, 0, 0)]) rfl) ?_
                refine xg_t (xg_iinc (u := ki) (z := ki + 1) (l1 := [(0, (2, 1)), (1, (0, ra)), (2, (0, ro)), (3, (0, co)), (4, (0, 1))]) rfl rfl (by omega) rfl) ?_
                refine xg_t (xg_goto) ?_
                refine xg_t (xg_drop (l1 := [(0, (2, 1)), (1, (0, ra)), (2, (0, ro)), (3, (0, co)), (4, (0, 1)), (5, (0, ki + 1))]) (List.forall_mem_cons.mpr ⟨List.mem_cons_of_mem _ (List.mem_cons_self), List.forall_mem_cons.mpr ⟨List.mem_cons_of_mem _ (List.mem_cons_of_mem _ (List.mem_cons_self)), List.forall_mem_cons.mpr ⟨List.mem_cons_of_mem _ (List.mem_cons_of_mem _ (List.mem_cons_of_mem _ (List.mem_cons_self))), List.forall_mem_cons.mpr ⟨List.mem_cons_of_mem _ (List.mem_cons_of_mem _ (List.mem_cons_of_mem _ (List.mem_cons_of_mem _ (List.mem_cons_self)))), List.forall_mem_cons.mpr ⟨List.mem_cons_of_mem _ (List.mem_cons_of_mem _ (List.mem_cons_of_mem _ (List.mem_cons_of_mem _ (List.mem_cons_of_mem _ (List.mem_cons_self))))), List.forall_mem_cons.mpr ⟨List.mem_cons_self, fun _ h => absurd h List.not_mem_nil⟩⟩⟩⟩⟩⟩)) ?_
                exact ih40 (ki + 1) w42 (by omega) (by omega) (hI43) (hF44)
            · refine xg_t (xg_icT (u := z51) (v := ro) rfl xnm0 xnm0 (xj_neT hc53)) ?_
              refine xg_t (xg_blk (b := [(72, 3, 9, 5, 1, 0), (75, 3, 8, 14, 0, 0)]) rfl) ?_
              refine xg_t (xg_iinc (u := ki) (z := ki + 1) (l1 := [(0, (2, 1)), (1, (0, ra)), (2, (0, ro)), (3, (0, co)), (4, (0, 1))]) rfl rfl (by omega) rfl) ?_
              refine xg_t (xg_goto) ?_
              refine xg_t (xg_drop (l1 := [(0, (2, 1)), (1, (0, ra)), (2, (0, ro)), (3, (0, co)), (4, (0, 1)), (5, (0, ki + 1))]) (List.forall_mem_cons.mpr ⟨List.mem_cons_of_mem _ (List.mem_cons_self), List.forall_mem_cons.mpr ⟨List.mem_cons_of_mem _ (List.mem_cons_of_mem _ (List.mem_cons_self)), List.forall_mem_cons.mpr ⟨List.mem_cons_of_mem _ (List.mem_cons_of_mem _ (List.mem_cons_of_mem _ (List.mem_cons_self))), List.forall_mem_cons.mpr ⟨List.mem_cons_of_mem _ (List.mem_cons_of_mem _ (List.mem_cons_of_mem _ (List.mem_cons_of_mem _ (List.mem_cons_self)))), List.forall_mem_cons.mpr ⟨List.mem_cons_of_mem _ (List.mem_cons_of_mem _ (List.mem_cons_of_mem _ (List.mem_cons_of_mem _ (List.mem_cons_of_mem _ (List.mem_cons_self))))), List.forall_mem_cons.mpr ⟨List.mem_cons_self, fun _ h => absurd h List.not_mem_nil⟩⟩⟩⟩⟩⟩)) ?_
              exact ih40 (ki + 1) w42 (by omega) (by omega) (hI43) (hF44)
          · refine xg_t (xg_icT (u := z48) (v := 1) rfl xnm0 xnm0 (xj_neT hc50)) ?_
            refine xg_t (xg_blk (b := [(72, 3, 9, 5, 1, 0), (75, 3, 8, 14, 0, 0)]) rfl) ?_
            refine xg_t (xg_iinc (u := ki) (z := ki + 1) (l1 := [(0, (2, 1)), (1, (0, ra)), (2, (0, ro)), (3, (0, co)), (4, (0, 1))]) rfl rfl (by omega) rfl) ?_
            refine xg_t (xg_goto) ?_
            refine xg_t (xg_drop (l1 := [(0, (2, 1)), (1, (0, ra)), (2, (0, ro)), (3, (0, co)), (4, (0, 1)), (5, (0, ki + 1))]) (List.forall_mem_cons.mpr ⟨List.mem_cons_of_mem _ (List.mem_cons_self), List.forall_mem_cons.mpr ⟨List.mem_cons_of_mem _ (List.mem_cons_of_mem _ (List.mem_cons_self)), List.forall_mem_cons.mpr ⟨List.mem_cons_of_mem _ (List.mem_cons_of_mem _ (List.mem_cons_of_mem _ (List.mem_cons_self))), List.forall_mem_cons.mpr ⟨List.mem_cons_of_mem _ (List.mem_cons_of_mem _ (List.mem_cons_of_mem _ (List.mem_cons_of_mem _ (List.mem_cons_self)))), List.forall_mem_cons.mpr ⟨List.mem_cons_of_mem _ (List.mem_cons_of_mem _ (List.mem_cons_of_mem _ (List.mem_cons_of_mem _ (List.mem_cons_of_mem _ (List.mem_cons_self))))), List.forall_mem_cons.mpr ⟨List.mem_cons_self, fun _ h => absurd h List.not_mem_nil⟩⟩⟩⟩⟩⟩)) ?_
            exact ih40 (ki + 1) w42 (by omega) (by omega) (hI43) (hF44)
        · refine xg_t (xg_icT (u := ki) (v := f14_14) rfl xnm0 xnm0 (xj_geT (by omega) (by omega))) ?_
          refine xg_t (xg_blk (b := [(78, 1, 3, 4294967295, 0, 0), (79, 1, 12, 0, 1, 0)]) rfl) ?_
          refine xg_t (xg_const) ?_
          exact xg_e ⟨4294967295, w42, ⟨rfl, rfl⟩, by omega, hI43, hF44⟩
    exact key39 _ 0 w (Nat.lt_succ_self _) (by omega) (hI) (xFr.rf)
theorem tdCracksInView (hI : xInv w)  : xPi (d + 1) mX9_cracksInView [(2, 1)] w bd fc rr (fun n w' => (n ≤ 40) ∧ xInv w' ∧ xFr [] w w') := by
  refine xPi.of ?_
  show xTo (d + 1) mX9_cracksInView (0, [], [(0, (2, 1))], [], (w, bd, fc, 0, 0, rr)) (fun φ => ∃ n w', xEnd 1 [(0, n)] (w', bd, fc, 0, 0, rr) φ ∧ (n ≤ 40) ∧ xInv w' ∧ xFr [] w w')
  obtain ⟨f1_1, f1_3, f1_5, f1_7, f1_9, f1_11, h1_13, hb2, hb4, hb6, hb8, hb10, hb12⟩ := (hI 1 (by decide) : cp1 (wget w 1))
  obtain ⟨f14_14, h14_16, hb15⟩ := (hI 14 (by decide) : cp14 (wget w 14))
  obtain ⟨g15_17, h15_18, hb19⟩ := (hI 15 (by decide) : cpI 200 6 4294967295 (wget w 15))
  have h15_18 : xRow w 15 200 6 g15_17 := h15_18
  refine xg_t (xg_blk (b := [(0, 1, 0, 0, 0, 0), (1, 3, 1, 9, 7, 35), (4, 1, 3, 4294967295, 0, 0), (5, 3, 6, 16, 1, 0), (8, 1, 0, 0, 0, 0), (9, 3, 1, 9, 5, 31), (12, 3, 1, 5, 3, 63), (15, 1, 12, 0, 1, 0)]) rfl) ?_
  refine xg_t (xg_aload (va := (2, 1)) rfl rfl) ?_
  refine xg_t (xg_getf (va := (0, f1_9)) h1_13 rfl) ?_
  refine xg_t (xg_const) ?_
  by_cases hc20 : f1_9 = 4294967295
  · refine xg_t (xg_icF (u := f1_9) (v := 4294967295) rfl xnm0 xnm0 (xj_neF hc20)) ?_
    refine xg_t (xg_aload (va := (2, 1)) rfl rfl) ?_
    refine xg_t (xg_getf (va := (2, 14)) h1_13 rfl) ?_
    refine xg_t (xg_getf (va := (0, f14_14)) h14_16 rfl) ?_
    exact xg_e ⟨f14_14, w, ⟨rfl, rfl⟩, by omega, hI, xFr.rf⟩
  · refine xg_t (xg_icT (u := f1_9) (v := 4294967295) rfl xnm0 xnm0 (xj_neT hc20)) ?_
    refine xg_t (xg_blk (b := [(16, 1, 3, 0, 0, 0), (17, 1, 15, 1, 0, 0)]) rfl) ?_
    refine xg_t (xg_const) ?_
    refine xg_t (xg_istore (l1 := [(0, (2, 1))]) rfl rfl rfl) ?_
    refine xg_t (xg_drop (l1 := [(0, (2, 1)), (1, (0, 0))]) (List.forall_mem_cons.mpr ⟨List.mem_cons_of_mem _ (List.mem_cons_self), List.forall_mem_cons.mpr ⟨List.mem_cons_self, fun _ h => absurd h List.not_mem_nil⟩⟩)) ?_
    have key21 : ∀ (m23 : Nat) (se : Nat) (w24 : List (List xE)), 40 - se < m23 → se ≤ 40 → xInv w24 → xFr [] w w24 → xTo (d + 1) mX9_cracksInView (18, [], [(0, (2, 1)), (1, (0, se))], [], (w24, bd, fc, 0, 0, rr)) (fun φ => ∃ n w', xEnd 1 [(0, n)] (w', bd, fc, 0, 0, rr) φ ∧ (n ≤ 40) ∧ xInv w' ∧ xFr [] w w') := by
      intro m23
      induction m23 with
      | zero => intro se w24 hz; exact absurd hz (Nat.not_lt_zero _)
      | succ m23 ih22 =>
        intro se w24 hm28 hn27 hI25 hF26
        refine xg_t (xg_blk (b := [(18, 1, 2, 1, 0, 0), (19, 1, 0, 0, 0, 0), (20, 3, 1, 9, 5, 31), (23, 3, 1, 5, 3, 63), (26, 3, 6, 51, 3, 0), (29, 1, 0, 0, 0, 0), (30, 3, 1, 9, 5, 31), (33, 1, 2, 1, 0, 0), (34, 1, 3, 3, 0, 0), (35, 3, 13, 285, 40, 66), (38, 1, 0, 0, 0, 0), (39, 3, 1, 9, 7, 35), (42, 3, 6, 51, 4, 0), (45, 3, 9, 1, 1, 0), (48, 3, 8, 18, 0, 0)]) rfl) ?_
        refine xg_t (xg_iload (va := (0, se)) rfl rfl) ?_
        refine xg_t (xg_aload (va := (2, 1)) rfl rfl) ?_
        refine xg_t (xg_getf (va := (2, 14)) (hF26.get (by decide) h1_13) rfl) ?_
        refine xg_t (xg_getf (va := (0, f14_14)) (hF26.get (by decide) h14_16) rfl) ?_
        by_cases hc29 : se < f14_14
        · refine xg_t (xg_icF (u := se) (v := f14_14) rfl xnm0 xnm0 (xj_geF hc29 (by omega))) ?_
          refine xg_t (xg_aload (va := (2, 1)) rfl rfl) ?_
          refine xg_t (xg_getf (va := (2, 14)) (hF26.get (by decide) h1_13) rfl) ?_
          refine xg_t (xg_iload (va := (0, se)) rfl rfl) ?_
          refine xg_t (xg_const) ?_
          refine xg_k (xg_cVr mX5_get (vs := [(0, se), (0, 3)]) (rest := []) (rs := [(0, if se < f14_14 ∧ 3 < 5 then g15_17 (se * 5 + 3) else 4294967295)]) (cn1 := 0) (sl1 := 0) rfl (rget_ok (lim := 40) (wd := 5) (sz := f14_14) (hF26.get (by decide) h14_16) (h15_18.fr hF26 (by decide)) (by decide) (by omega) (by decide) (by decide) (by omega) (by omega)) rfl (hF26.get (by decide) h14_16) rfl rfl rfl rfl rfl rfl rfl) (xiteb (hb19)) (fun z30 hz31 => ?_)
          refine xg_t (xg_aload (va := (2, 1)) rfl rfl) ?_
          refine xg_t (xg_getf (va := (0, f1_9)) (hF26.get (by decide) h1_13) rfl) ?_
          by_cases hc32 : xbs f1_9 < xbs z30
          · have hc32u := hc32
            unfold xbs at hc32u
            refine xg_t (xg_icT (u := z30) (v := f1_9) rfl xnm0 xnm0 (xjs_gtT hc32)) ?_
            refine xg_t (xg_blk (b := [(51, 1, 2, 1, 0, 0), (52, 1, 12, 0, 1, 0)]) rfl) ?_
            refine xg_t (xg_iload (va := (0, se)) rfl rfl) ?_
            exact xg_e ⟨se, w24, ⟨rfl, rfl⟩, by omega, hI25, hF26⟩
          · have hc32u := hc32
            unfold xbs at hc32u
            refine xg_t (xg_icF (u := z30) (v := f1_9) rfl xnm0 xnm0 (xjs_gtF hc32)) ?_
            refine xg_t (xg_iinc (u := se) (z := se + 1) (l1 := [(0, (2, 1))]) rfl rfl (by omega) rfl) ?_
            refine xg_t (xg_goto) ?_
            refine xg_t (xg_drop (l1 := [(0, (2, 1)), (1, (0, se + 1))]) (List.forall_mem_cons.mpr ⟨List.mem_cons_of_mem _ (List.mem_cons_self), List.forall_mem_cons.mpr ⟨List.mem_cons_self, fun _ h => absurd h List.not_mem_nil⟩⟩)) ?_
            exact ih22 (se + 1) w24 (by omega) (by omega) (hI25) (hF26)
        · refine xg_t (xg_icT (u := se) (v := f14_14) rfl xnm0 xnm0 (xj_geT (by omega) (by omega))) ?_
          refine xg_t (xg_blk (b := [(51, 1, 2, 1, 0, 0), (52, 1, 12, 0, 1, 0)]) rfl) ?_
          refine xg_t (xg_iload (va := (0, se)) rfl rfl) ?_
          exact xg_e ⟨se, w24, ⟨rfl, rfl⟩, by omega, hI25, hF26⟩
    exact key21 _ 0 w (Nat.lt_succ_self _) (by omega) (hI) (xFr.rf)
theorem tdTake {fa pl : Nat} (hI : xInv w) (h1 : fa ≤ 4294967295) (h2 : pl ≤ 4294967295) : xPq d mX9_take [(2, 1), (0, fa), (0, pl)] w bd fc rr [] (fun w' => xInv w' ∧ xFr [1] w w') := by
  refine xPq.of ?_
  show xTo d mX9_take (0, [], [(0, (2, 1)), (1, (0, fa)), (2, (0, pl))], [], (w, bd, fc, 0, 0, rr)) (fun φ => ∃ w', xEnd 0 [] (w', bd, fc, 0, 0, rr) φ ∧ xInv w' ∧ xFr [1] w w')
  refine xg_t (xg_blk (b := [(0, 1, 0, 0, 0, 0), (1, 1, 3, 0, 0, 0), (2, 3, 14, 9, 1, 57), (5, 1, 0, 0, 0, 0), (6, 1, 2, 1, 0, 0), (7, 3, 14, 9, 2, 60), (10, 1, 0, 0, 0, 0), (11, 1, 2, 1, 0, 0), (12, 3, 7, 19, 1, 0), (15, 1, 3, 4294967295, 0, 0), (16, 3, 8, 20, 0, 0)]) rfl) ?_
  refine xg_t (xg_aload (va := (2, 1)) rfl rfl) ?_
  refine xg_t (xg_const) ?_
  obtain ⟨f1_1, f1_3, f1_5, f1_7, f1_9, f1_11, h1_13, hb2, hb4, hb6, hb8, hb10, hb12⟩ := (hI 1 (by decide) : cp1 (wget w 1))
  refine xg_putI (fl1 := [(2, 2), (0, 0), (0, f1_3), (0, f1_5), (2, 3), (2, 14), (0, f1_7), (0, f1_9), (2, 16), (0, f1_11), (2, 18), (2, 20), (2, 22), (2, 24)]) h1_13 rfl rfl rfl (fun w14 hk15 hb16 => ?_)
  refine xg_t (xg_aload (va := (2, 1)) rfl rfl) ?_
  refine xg_t (xg_iload (va := (0, fa)) rfl rfl) ?_
  refine xg_putI (fl1 := [(2, 2), (0, 0), (0, fa), (0, f1_5), (2, 3), (2, 14), (0, f1_7), (0, f1_9), (2, 16), (0, f1_11), (2, 18), (2, 20), (2, 22), (2, 24)]) hk15 rfl rfl rfl (fun w17 hk18 hb19 => ?_)
  refine xg_t (xg_aload (va := (2, 1)) rfl rfl) ?_
  refine xg_t (xg_iload (va := (0, fa)) rfl rfl) ?_
  by_cases hc20 : fa = 0
  · refine xg_t (xg_ifF (u := fa) rfl xnm0 (xj_neF hc20)) ?_
    refine xg_t (xg_const) ?_
    refine xg_t (xg_goto) ?_
    refine xg_t (xg_blk (b := [(20, 3, 14, 9, 3, 15), (23, 1, 12, 0, 0, 0)]) rfl) ?_
    refine xg_putI (fl1 := [(2, 2), (0, 0), (0, fa), (0, 4294967295), (2, 3), (2, 14), (0, f1_7), (0, f1_9), (2, 16), (0, f1_11), (2, 18), (2, 20), (2, 22), (2, 24)]) hk18 rfl rfl rfl (fun w21 hk22 hb23 => ?_)
    exact xg_e ⟨w21, ⟨rfl, rfl⟩, xInv.up (S := [1]) hI (((xFr.of (S := [1]) hb16 (by decide)).tr (xFr.of (S := [1]) hb19 (by decide))).tr (xFr.of (S := [1]) hb23 (by decide))) (List.forall_mem_cons.mpr ⟨(show cp1 (wget w21 1) from ⟨0, fa, 4294967295, f1_7, f1_9, f1_11, hk22, by omega, by omega, by omega, by omega, by omega, by omega⟩), fun _ h => absurd h List.not_mem_nil⟩), (((xFr.of (S := [1]) hb16 (by decide)).tr (xFr.of (S := [1]) hb19 (by decide))).tr (xFr.of (S := [1]) hb23 (by decide)))⟩
  · refine xg_t (xg_ifT (u := fa) rfl xnm0 (xj_neT hc20)) ?_
    refine xg_t (xg_blk (b := [(19, 1, 2, 2, 0, 0)]) rfl) ?_
    refine xg_t (xg_iload (va := (0, pl)) rfl rfl) ?_
    refine xg_t (xg_blk (b := [(20, 3, 14, 9, 3, 15), (23, 1, 12, 0, 0, 0)]) rfl) ?_
    refine xg_putI (fl1 := [(2, 2), (0, 0), (0, fa), (0, pl), (2, 3), (2, 14), (0, f1_7), (0, f1_9), (2, 16), (0, f1_11), (2, 18), (2, 20), (2, 22), (2, 24)]) hk18 rfl rfl rfl (fun w24 hk25 hb26 => ?_)
    exact xg_e ⟨w24, ⟨rfl, rfl⟩, xInv.up (S := [1]) hI (((xFr.of (S := [1]) hb16 (by decide)).tr (xFr.of (S := [1]) hb19 (by decide))).tr (xFr.of (S := [1]) hb26 (by decide))) (List.forall_mem_cons.mpr ⟨(show cp1 (wget w24 1) from ⟨0, fa, pl, f1_7, f1_9, f1_11, hk25, by omega, by omega, by omega, by omega, by omega, by omega⟩), fun _ h => absurd h List.not_mem_nil⟩), (((xFr.of (S := [1]) hb16 (by decide)).tr (xFr.of (S := [1]) hb19 (by decide))).tr (xFr.of (S := [1]) hb26 (by decide)))⟩
theorem tdAppend {nu : Nat} (hI : xInv w) (h1 : nu ≤ 4294967295) : xPq d mX9_append [(2, 1), (0, nu)] w bd fc rr [] (fun w' => xInv w' ∧ xFr [1, 2] w w') := by
  refine xPq.of ?_
  show xTo d mX9_append (0, [], [(0, (2, 1)), (1, (0, nu))], [], (w, bd, fc, 0, 0, rr)) (fun φ => ∃ w', xEnd 0 [] (w', bd, fc, 0, 0, rr) φ ∧ xInv w' ∧ xFr [1, 2] w w')
  refine xg_t (xg_blk (b := [(0, 2, 4, 24, 0, 0), (2, 1, 15, 2, 0, 0)]) rfl) ?_
  refine xg_t (xg_bip) ?_
  refine xg_t (xg_istore (l1 := [(0, (2, 1)), (1, (0, nu))]) rfl rfl rfl) ?_
  refine xg_t (xg_drop (l1 := [(0, (2, 1)), (1, (0, nu)), (2, (0, 24))]) (List.forall_mem_cons.mpr ⟨List.mem_cons_of_mem _ (List.mem_cons_self), List.forall_mem_cons.mpr ⟨List.mem_cons_of_mem _ (List.mem_cons_of_mem _ (List.mem_cons_self)), List.forall_mem_cons.mpr ⟨List.mem_cons_self, fun _ h => absurd h List.not_mem_nil⟩⟩⟩)) ?_
  have key1 : ∀ (m3 : Nat) (sh : Nat) (w4 : List (List xE)), (sh + 8) % 4294967296 < m3 → sh ≤ 4294967295 → xInv w4 → xFr [1, 2] w w4 → sh % 8 = 0 ∧ (sh ≤ 24 ∨ sh = 4294967288) → xTo d mX9_append (3, [], [(0, (2, 1)), (1, (0, nu)), (2, (0, sh))], [], (w4, bd, fc, 0, 0, rr)) (fun φ => ∃ w', xEnd 0 [] (w', bd, fc, 0, 0, rr) φ ∧ xInv w' ∧ xFr [1, 2] w w') := by
    intro m3
    induction m3 with
    | zero => intro sh w4 hz; exact absurd hz (Nat.not_lt_zero _)
    | succ m3 ih2 =>
      intro sh w4 hm9 hn7 hI5 hF6 he8
      refine xg_t (xg_blk (b := [(3, 1, 2, 2, 0, 0), (4, 3, 7, 46, 2, 0), (7, 1, 0, 0, 0, 0), (8, 3, 1, 9, 1, 57), (11, 3, 5, 500, 0, 0), (14, 3, 6, 46, 3, 0), (17, 1, 0, 0, 0, 0), (18, 3, 1, 9, 0, 11), (21, 1, 0, 0, 0, 0), (22, 3, 1, 9, 1, 57), (25, 1, 2, 1, 0, 0), (26, 1, 2, 2, 0, 0), (27, 1, 29, 0, 0, 0), (28, 1, 41, 0, 0, 0), (29, 1, 28, 0, 0, 0), (30, 1, 0, 0, 0, 0), (31, 1, 19, 0, 0, 0), (32, 3, 1, 9, 1, 57), (35, 1, 3, 1, 0, 0), (36, 1, 11, 0, 0, 0), (37, 3, 14, 9, 1, 57), (40, 3, 9, 2, 4294967288, 0), (43, 3, 8, 3, 0, 0)]) rfl) ?_
      refine xg_t (xg_iload (va := (0, sh)) rfl rfl) ?_
      by_cases hc10 : sh < 2147483648
      · refine xg_t (xg_ifF (u := sh) rfl xnm0 (xjz_ltF hc10)) ?_
        refine xg_t (xg_aload (va := (2, 1)) rfl rfl) ?_
        obtain ⟨f1_11, f1_13, f1_15, f1_17, f1_19, f1_21, h1_23, hb12, hb14, hb16, hb18, hb20, hb22⟩ := (hI5 1 (by decide) : cp1 (wget w4 1))
        refine xg_t (xg_getf (va := (0, f1_11)) h1_23 rfl) ?_
        refine xg_t (xg_sip) ?_
        by_cases hc24 : f1_11 < 500
        · refine xg_t (xg_icF (u := f1_11) (v := 500) rfl xnm0 xnm0 (xj_geF hc24 (by omega))) ?_
          refine xg_t (xg_aload (va := (2, 1)) rfl rfl) ?_
          refine xg_t (xg_getf (va := (2, 2)) h1_23 rfl) ?_
          refine xg_t (xg_aload (va := (2, 1)) rfl rfl) ?_
          refine xg_t (xg_getf (va := (0, f1_11)) h1_23 rfl) ?_
          refine xg_t (xg_iload (va := (0, nu)) rfl rfl) ?_
          refine xg_t (xg_iload (va := (0, sh)) rfl rfl) ?_
          refine xg_k (xg_ishrG (u := nu) (v := sh) xnm0 xnm0) (xpt_lt _) (fun z25 hz26 => ?_)
          refine xg_k (xg_i2b (u := z25) xnm0) (xpt_lt _) (fun z27 hz28 => ?_)
          obtain ⟨g2_29, h2_30, hb31⟩ := (hI5 2 (by decide) : cpY 500 0 (wget w4 2))
          have h2_30 : xRk 1 0 w4 2 500 0 g2_29 := h2_30
          refine xg_bastY (n := f1_11) (u := z27) h2_30 xnm0 xnm0 rfl (by omega) (fun w32 hr33 hb34 => ?_)
          refine xg_t (xg_aload (va := (2, 1)) rfl rfl) ?_
          refine xg_t (xg_dup rfl) ?_
          refine xg_t (xg_getf (va := (0, f1_11)) (hb34.get (by decide) h1_23) rfl) ?_
          refine xg_t (xg_const) ?_
          refine xg_t (xg_iadd (u := f1_11) (v := 1) (z := f1_11 + 1) xnm0 xnm0 (by omega)) ?_
          refine xg_putI (fl1 := [(2, 2), (0, f1_11 + 1), (0, f1_13), (0, f1_15), (2, 3), (2, 14), (0, f1_17), (0, f1_19), (2, 16), (0, f1_21), (2, 18), (2, 20), (2, 22), (2, 24)]) (hb34.get (by decide) h1_23) rfl rfl rfl (fun w35 hk36 hb37 => ?_)
          refine xg_t (xg_iinc (u := sh) (z := (sh + 4294967288) % 4294967296) (l1 := [(0, (2, 1)), (1, (0, nu))]) rfl rfl (rfl) rfl) ?_
          refine xg_t (xg_goto) ?_
          refine xg_t (xg_drop (l1 := [(0, (2, 1)), (1, (0, nu)), (2, (0, (sh + 4294967288) % 4294967296))]) (List.forall_mem_cons.mpr ⟨List.mem_cons_of_mem _ (List.mem_cons_self), List.forall_mem_cons.mpr ⟨List.mem_cons_of_mem _ (List.mem_cons_of_mem _ (List.mem_cons_self)), List.forall_mem_cons.mpr ⟨List.mem_cons_self, fun _ h => absurd h List.not_mem_nil⟩⟩⟩)) ?_
          exact ih2 ((sh + 4294967288) % 4294967296) w35 (by omega) (by omega) (xInv.up (S := [2, 1]) hI5 ((xFr.of (S := [2, 1]) hb34 (by decide)).tr (xFr.of (S := [2, 1]) hb37 (by decide))) (List.forall_mem_cons.mpr ⟨(show cpY 500 0 (wget w35 2) from ⟨_, (hr33.but hb37 (by decide)), xrbY (xby_byt _) (hb31)⟩), List.forall_mem_cons.mpr ⟨(show cp1 (wget w35 1) from ⟨f1_11 + 1, f1_13, f1_15, f1_17, f1_19, f1_21, hk36, by omega, by omega, by omega, by omega, by omega, by omega⟩), fun _ h => absurd h List.not_mem_nil⟩⟩)) ((hF6.tr ((xFr.of (S := [1, 2]) hb34 (by decide)).tr (xFr.of (S := [1, 2]) hb37 (by decide))))) (by omega)
        · refine xg_t (xg_icT (u := f1_11) (v := 500) rfl xnm0 xnm0 (xj_geT (by omega) (by omega))) ?_
          refine xg_t (xg_blk (b := [(46, 1, 12, 0, 0, 0)]) rfl) ?_
          exact xg_e ⟨w4, ⟨rfl, rfl⟩, hI5, hF6⟩
      · refine xg_t (xg_ifT (u := sh) rfl xnm0 (xjz_ltT (by omega) (by omega))) ?_
        refine xg_t (xg_blk (b := [(46, 1, 12, 0, 0, 0)]) rfl) ?_
        exact xg_e ⟨w4, ⟨rfl, rfl⟩, hI5, hF6⟩
  exact key1 _ 24 w (Nat.lt_succ_self _) (by omega) (hI) (xFr.rf) (by omega)
end XMI
