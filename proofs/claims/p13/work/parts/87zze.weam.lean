section
/-! the model: layers that tire -/
section XWM
variable {d : Nat} {w : List (List xE)} {bd : List (Nat × Nat)} {fc : List (Nat × Nat × Bool)} {rr : Nat × Nat}
theorem mLifeOfX {R0 O0 : Nat → Nat} {cn : Nat} {la ro : Nat} (hI : xMnv w) (hla : la ≤ 5) (hro : ro ≤ 9999) (hbd : bdm w R0 O0 cn) (hp : la < cn) (hS : ∀ k, k < rwv w 83 1 → rwv w 83 (50 + 2 * k) ≤ 99) : xPi (d + 1) mX12_lifeOf [(2, 82), (0, la), (0, ro)] w bd fc rr (fun n w' => ((n = 4294967295 ∧ wli (fun j => rwv w 83 (50 + j)) (bU R0 O0 cn la) (bfr R0 O0 cn la) ro (rwv w 83 1) = 0) ∨ (n < rwv w 83 1 ∧ wli (fun j => rwv w 83 (50 + j)) (bU R0 O0 cn la) (bfr R0 O0 cn la) ro (rwv w 83 1) = n + 1)) ∧ xMnv w' ∧ xFr [] w w') := by
  refine xPi.of ?_
  show xTo (d + 1) mX12_lifeOf (0, [], [(0, (2, 82)), (1, (0, la)), (2, (0, ro))], [], (w, bd, fc, 0, 0, rr)) (fun φ => ∃ n w', xEnd 1 [(0, n)] (w', bd, fc, 0, 0, rr) φ ∧ ((n = 4294967295 ∧ wli (fun j => rwv w 83 (50 + j)) (bU R0 O0 cn la) (bfr R0 O0 cn la) ro (rwv w 83 1) = 0) ∨ (n < rwv w 83 1 ∧ wli (fun j => rwv w 83 (50 + j)) (bU R0 O0 cn la) (bfr R0 O0 cn la) ro (rwv w 83 1) = n + 1)) ∧ xMnv w' ∧ xFr [] w w')
  refine xoCh82 (hI 82 (by decide) (by decide) : cp82 (wget w 82)) (fun f82_1 f82_3 f82_5 f82_7 f82_9 f82_11 f82_13 f82_15 f82_17 f82_19 f82_21 f82_22 f82_23 f82_25 f82_27 f82_29 h82_31 hb2 hb4 hb6 hb8 hb10 hb12 hb14 hb16 hb18 hb20 hb24 hb26 hb28 hb30 hb32 => ?_)
  refine xoX83 (hI 83 (by decide) (by decide) : cpx83 (wget w 83)) (fun g83_33 h83_34 hb35 hx36 => ?_)
  have hl1 : rwv w 83 1 ≤ 4 := by rw [rwv_of h83_34 (by omega)]; exact hx36.l1
  have hl2 : rwv w 83 2 ≤ 6 := by rw [rwv_of h83_34 (by omega)]; exact hx36.l2
  obtain ⟨g93_37, h93_38⟩ := (hI 93 (by decide) (by decide) : cpJ 6 60 (wget w 93))
  have h93_38 : xRk 3 4 w 93 6 60 g93_37 := h93_38
  obtain ⟨g94_40, h94_41⟩ := (hI 94 (by decide) (by decide) : cpJ 6 61 (wget w 94))
  have h94_41 : xRk 3 4 w 94 6 61 g94_40 := h94_41
  refine xg_t (xg_blk (b := [(0, 1, 3, 4294967295, 0, 0), (1, 1, 15, 3, 0, 0), (2, 1, 3, 0, 0, 0), (3, 2, 15, 4, 0, 0)]) rfl) ?_
  refine xg_t (xg_const) ?_
  refine xg_t (xg_istore (l1 := [(0, (2, 82)), (1, (0, la)), (2, (0, ro))]) rfl rfl rfl) ?_
  refine xg_t (xg_const) ?_
  refine xg_t (xg_istore (l1 := [(3, (0, 4294967295)), (0, (2, 82)), (1, (0, la)), (2, (0, ro))]) rfl rfl rfl) ?_
  refine xg_t (xg_drop (l1 := [(0, (2, 82)), (1, (0, la)), (2, (0, ro)), (3, (0, 4294967295)), (4, (0, 0))]) (List.forall_mem_cons.mpr ⟨List.mem_cons_of_mem _ (List.mem_cons_of_mem _ (List.mem_cons_self)), List.forall_mem_cons.mpr ⟨List.mem_cons_of_mem _ (List.mem_cons_of_mem _ (List.mem_cons_of_mem _ (List.mem_cons_self))), List.forall_mem_cons.mpr ⟨List.mem_cons_of_mem _ (List.mem_cons_of_mem _ (List.mem_cons_of_mem _ (List.mem_cons_of_mem _ (List.mem_cons_self)))), List.forall_mem_cons.mpr ⟨List.mem_cons_of_mem _ (List.mem_cons_self), List.forall_mem_cons.mpr ⟨List.mem_cons_self, fun _ h => absurd h List.not_mem_nil⟩⟩⟩⟩⟩)) ?_
  have key43 : ∀ (m45 : Nat) (bb ki : Nat) (w46 : List (List xE)), 4 - ki < m45 → bb ≤ 4294967295 → ki ≤ 4 → xMnv w46 → xFr [] w w46 → ((bb = 4294967295 ∧ wli (fun j => rwv w 83 (50 + j)) (bU R0 O0 cn la) (bfr R0 O0 cn la) ro ki = 0) ∨ (bb < ki ∧ wli (fun j => rwv w 83 (50 + j)) (bU R0 O0 cn la) (bfr R0 O0 cn la) ro ki = bb + 1)) ∧ ki ≤ rwv w 83 1 → xTo (d + 1) mX12_lifeOf (5, [], [(0, (2, 82)), (1, (0, la)), (2, (0, ro)), (3, (0, bb)), (4, (0, ki))], [], (w46, bd, fc, 0, 0, rr)) (fun φ => ∃ n w', xEnd 1 [(0, n)] (w', bd, fc, 0, 0, rr) φ ∧ ((n = 4294967295 ∧ wli (fun j => rwv w 83 (50 + j)) (bU R0 O0 cn la) (bfr R0 O0 cn la) ro (rwv w 83 1) = 0) ∨ (n < rwv w 83 1 ∧ wli (fun j => rwv w 83 (50 + j)) (bU R0 O0 cn la) (bfr R0 O0 cn la) ro (rwv w 83 1) = n + 1)) ∧ xMnv w' ∧ xFr [] w w') := by
    intro m45
    induction m45 with
    | zero => intro bb ki w46 hz; exact absurd hz (Nat.not_lt_zero _)
    | succ m45 ih44 =>
      intro bb ki w46 hm52 hn49 hn50 hI47 hF48 he51
      obtain ⟨hw0, hkn⟩ := he51
      refine xg_t (xg_blk (b := [(5, 2, 2, 4, 0, 0), (7, 1, 0, 0, 0, 0), (8, 3, 1, 12, 0, 7), (11, 1, 3, 1, 0, 0), (12, 1, 10, 0, 0, 0), (13, 3, 6, 92, 3, 0), (16, 1, 0, 0, 0, 0), (17, 3, 1, 12, 0, 7), (20, 2, 4, 50, 0, 0), (22, 1, 3, 2, 0, 0), (23, 2, 2, 4, 0, 0), (25, 1, 16, 0, 0, 0), (26, 1, 11, 0, 0, 0), (27, 1, 10, 0, 0, 0), (28, 2, 15, 5, 0, 0), (30, 3, 52, 1000, 0, 231), (33, 1, 0, 0, 0, 0), (34, 3, 1, 12, 21, 45), (37, 1, 2, 1, 0, 0), (38, 1, 64, 0, 0, 0), (39, 3, 13, 221, 98, 227), (42, 1, 55, 0, 0, 0), (43, 2, 2, 5, 0, 0), (45, 1, 49, 0, 0, 0), (46, 1, 2, 2, 0, 0), (47, 1, 49, 0, 0, 0), (48, 1, 55, 0, 0, 0), (49, 1, 0, 0, 0, 0), (50, 3, 1, 12, 20, 42), (53, 1, 2, 1, 0, 0), (54, 1, 64, 0, 0, 0), (55, 1, 55, 0, 0, 0), (56, 1, 57, 0, 0, 0), (57, 3, 7, 63, 3, 0), (60, 3, 8, 86, 0, 0)]) rfl) ?_
      refine xg_t (xg_iload (va := (0, ki)) rfl rfl) ?_
      refine xg_t (xg_aload (va := (2, 82)) rfl rfl) ?_
      refine xg_t (xg_getf (va := (2, 83)) (hF48.get (by decide) h82_31) rfl) ?_
      refine xg_t (xg_const) ?_
      refine xg_ialdB (n := 1) (B := 4294967295) (h83_34.fr hF48 (by decide)) (hb35) xnm0 (by first | decide | omega) (fun u53 hu54 he55 => ?_)
      have hl56 : u53 ≤ 4 := by rw [← he55]; exact hx36.l1
      have hq57 : rwv w 83 1 = u53 := (rwv_of h83_34 (by omega)).trans he55
      by_cases hc58 : ki < u53
      · refine xg_t (xg_icF (u := ki) (v := u53) rfl xnm0 xnm0 (xj_geF hc58 (by omega))) ?_
        refine xg_t (xg_aload (va := (2, 82)) rfl rfl) ?_
        refine xg_t (xg_getf (va := (2, 83)) (hF48.get (by decide) h82_31) rfl) ?_
        refine xg_t (xg_bip) ?_
        refine xg_t (xg_const) ?_
        refine xg_t (xg_iload (va := (0, ki)) rfl rfl) ?_
        refine xg_t (xg_imul (u := 2) (v := ki) (z := 2 * ki) xnm0 xnm0 (by omega)) ?_
        refine xg_t (xg_iadd (u := 50) (v := 2 * ki) (z := 50 + (2 * ki)) xnm0 xnm0 (by omega)) ?_
        refine xg_ialdB (n := 50 + (2 * ki)) (B := 4294967295) (h83_34.fr hF48 (by decide)) (hb35) xnm0 (by omega) (fun u59 hu60 he61 => ?_)
        have hL62 : rwv w 83 (50 + 2 * ki) = u59 := (rwv_of (j := 50 + 2 * ki) h83_34 (by omega)).trans ((congrArg g83_33 (show 50 + 2 * ki = 50 + (2 * ki) by omega)).trans he61)
        have hl63 : u59 ≤ 99 := by have q := hS ki (by omega); omega
        refine xg_t (xg_istore (l1 := [(0, (2, 82)), (1, (0, la)), (2, (0, ro)), (3, (0, bb)), (4, (0, ki))]) rfl rfl rfl) ?_
        refine xg_t (xg_ldc2) ?_
        refine xg_t (xg_aload (va := (2, 82)) rfl rfl) ?_
        refine xg_t (xg_getf (va := (2, 94)) (hF48.get (by decide) h82_31) rfl) ?_
        refine xg_t (xg_iload (va := (0, la)) rfl rfl) ?_
        obtain ⟨l64, hz65⟩ : ∃ z, g94_40 la = z := ⟨_, rfl⟩
        refine xg_t (xg_lald (n := la) (h94_41.fr hF48 (by decide)) xnm0 (by omega) hz65) ?_
        have hU66 : lN l64 = bfr R0 O0 cn la := by
          rw [← hz65, ← rwk_of (j := la) h94_41 (by omega)]
          exact (hbd la (by omega)).2.2.2.2
        refine xg_cSj mX12_size0 (vs := [(4, l64)]) (rest := [(4, 1000)]) (cn1 := 0) (sl1 := 0) rfl (mSize0X (hI47)) rfl rfl rfl rfl rfl rfl rfl (fun l71 w67 hq68 => ?_)
        obtain ⟨hn72, hI69, hF70⟩ := hq68
        refine xg_klE (xg_lmul (u := 1000) (v := l71)) (fun l73 hz74 => ?_)
        refine xg_t (xg_iload (va := (0, u59)) rfl rfl) ?_
        refine xg_t (xg_i2l (u := u59) xnm0) ?_
        refine xg_t (xg_lre (b := u59) (by rw [xlp_eq]; exact nI_l (by omega))) ?_
        refine xg_t (xg_iload (va := (0, ro)) rfl rfl) ?_
        refine xg_t (xg_i2l (u := ro) xnm0) ?_
        refine xg_t (xg_lre (b := ro) (by rw [xlp_eq]; exact nI_l (by omega))) ?_
        refine xg_t (xg_lmul (u := u59) (v := ro)) ?_
        refine xg_t (xg_lre (b := u59 * ro) (by rw [xlp_eq]; exact lN_mul _ _)) ?_
        refine xg_t (xg_aload (va := (2, 82)) rfl rfl) ?_
        refine xg_t (xg_getf (va := (2, 93)) (hF70.get (by decide) (hF48.get (by decide) h82_31)) rfl) ?_
        refine xg_t (xg_iload (va := (0, la)) rfl rfl) ?_
        obtain ⟨l75, hz76⟩ : ∃ z, g93_37 la = z := ⟨_, rfl⟩
        refine xg_t (xg_lald (n := la) ((h93_38.fr hF48 (by decide)).fr hF70 (by decide)) xnm0 (by omega) hz76) ?_
        have hU77 : bU R0 O0 cn la = l75 := ((hbd la (by omega)).2.2.2.1).symm.trans ((rwk_of h93_38 (by omega)).trans hz76)
        refine xg_t (xg_lmul (u := u59 * ro) (v := l75)) ?_
        refine xg_t (xg_lre (b := (u59 * ro) * l75) (by rw [xlp_eq]; exact lN_mul _ _)) ?_
        refine xg_t (xg_lcmp (u := l73) (v := (u59 * ro) * l75)) ?_
        by_cases hc78 : lN l73 < lN ((u59 * ro) * l75)
        · have hP79 : lN 1000 * iab (bfr R0 O0 cn la) < lN (rwv w 83 (50 + 2 * ki) * ro * bU R0 O0 cn la) := by
            rw [hL62, hU77, ← hU66, ← hn72, ← hz74]
            exact hc78
          refine xg_t (xg_ifF (u := xpt (lg_cmp (lN l73) (lN ((u59 * ro) * l75)))) rfl xnm0 (xlj_geF hc78)) ?_
          refine xg_t (xg_goto) ?_
          refine xg_t (xg_blk (b := [(86, 3, 9, 4, 1, 0), (89, 3, 8, 5, 0, 0)]) rfl) ?_
          refine xg_t (xg_iinc (u := ki) (z := ki + 1) (l1 := [(5, (0, u59)), (0, (2, 82)), (1, (0, la)), (2, (0, ro)), (3, (0, bb))]) rfl rfl (by omega) rfl) ?_
          refine xg_t (xg_goto) ?_
          refine xg_t (xg_drop (l1 := [(0, (2, 82)), (1, (0, la)), (2, (0, ro)), (3, (0, bb)), (4, (0, ki + 1))]) (List.forall_mem_cons.mpr ⟨List.mem_cons_of_mem _ (List.mem_cons_of_mem _ (List.mem_cons_self)), List.forall_mem_cons.mpr ⟨List.mem_cons_of_mem _ (List.mem_cons_of_mem _ (List.mem_cons_of_mem _ (List.mem_cons_self))), List.forall_mem_cons.mpr ⟨List.mem_cons_of_mem _ (List.mem_cons_of_mem _ (List.mem_cons_of_mem _ (List.mem_cons_of_mem _ (List.mem_cons_self)))), List.forall_mem_cons.mpr ⟨List.mem_cons_of_mem _ (List.mem_cons_of_mem _ (List.mem_cons_of_mem _ (List.mem_cons_of_mem _ (List.mem_cons_of_mem _ (List.mem_cons_self))))), List.forall_mem_cons.mpr ⟨List.mem_cons_self, fun _ h => absurd h List.not_mem_nil⟩⟩⟩⟩⟩)) ?_
          have hw80 : wli (fun j => rwv w 83 (50 + j)) (bU R0 O0 cn la) (bfr R0 O0 cn la) ro (ki + 1) = wli (fun j => rwv w 83 (50 + j)) (bU R0 O0 cn la) (bfr R0 O0 cn la) ro ki := wli_n1 hP79
          have hw81 : (bb = 4294967295 ∧ wli (fun j => rwv w 83 (50 + j)) (bU R0 O0 cn la) (bfr R0 O0 cn la) ro (ki + 1) = 0) ∨ (bb < ki + 1 ∧ wli (fun j => rwv w 83 (50 + j)) (bU R0 O0 cn la) (bfr R0 O0 cn la) ro (ki + 1) = bb + 1) := by
            rw [hw80]
            exact hw0.imp id (fun q => ⟨by omega, q.2⟩)
          exact ih44 bb (ki + 1) w67 (by omega) (by omega) (by omega) (hI69) ((hF48.tr (hF70.up (by decide)))) (⟨hw81, by omega⟩)
        · have hP82 : ¬ (lN 1000 * iab (bfr R0 O0 cn la) < lN (rwv w 83 (50 + 2 * ki) * ro * bU R0 O0 cn la)) := by
            rw [hL62, hU77, ← hU66, ← hn72, ← hz74]
            exact hc78
          refine xg_t (xg_ifT (u := xpt (lg_cmp (lN l73) (lN ((u59 * ro) * l75)))) rfl xnm0 (xlj_geT hc78)) ?_
          refine xg_t (xg_blk (b := [(63, 1, 2, 3, 0, 0), (64, 3, 7, 83, 2, 0), (67, 2, 2, 5, 0, 0), (69, 1, 0, 0, 0, 0), (70, 3, 1, 12, 0, 7), (73, 2, 4, 50, 0, 0), (75, 1, 3, 2, 0, 0), (76, 1, 2, 3, 0, 0), (77, 1, 16, 0, 0, 0), (78, 1, 11, 0, 0, 0), (79, 1, 10, 0, 0, 0), (80, 3, 6, 86, 5, 0)]) rfl) ?_
          refine xg_t (xg_iload (va := (0, bb)) rfl rfl) ?_
          by_cases hc83 : bb < 2147483648
          · have hn84 : bb ≤ 3 := by omega
            refine xg_t (xg_ifF (u := bb) rfl xnm0 (xjz_ltF hc83)) ?_
            refine xg_t (xg_iload (va := (0, u59)) rfl rfl) ?_
            refine xg_t (xg_aload (va := (2, 82)) rfl rfl) ?_
            refine xg_t (xg_getf (va := (2, 83)) (hF70.get (by decide) (hF48.get (by decide) h82_31)) rfl) ?_
            refine xg_t (xg_bip) ?_
            refine xg_t (xg_const) ?_
            refine xg_t (xg_iload (va := (0, bb)) rfl rfl) ?_
            refine xg_t (xg_imul (u := 2) (v := bb) (z := 2 * bb) xnm0 xnm0 (by omega)) ?_
            refine xg_t (xg_iadd (u := 50) (v := 2 * bb) (z := 50 + (2 * bb)) xnm0 xnm0 (by omega)) ?_
            refine xg_ialdB (n := 50 + (2 * bb)) (B := 4294967295) ((h83_34.fr hF48 (by decide)).fr hF70 (by decide)) (hb35) xnm0 (by omega) (fun u85 hu86 he87 => ?_)
            have hL88 : rwv w 83 (50 + 2 * bb) = u85 := (rwv_of (j := 50 + 2 * bb) h83_34 (by omega)).trans ((congrArg g83_33 (show 50 + 2 * bb = 50 + (2 * bb) by omega)).trans he87)
            have hl89 : u85 ≤ 99 := by have q := hS bb (by omega); omega
            by_cases hc90 : u85 < u59
            · refine xg_t (xg_icF (u := u59) (v := u85) rfl xnm0 xnm0 (xj_leF hc90 (by omega))) ?_
              refine xg_t (xg_blk (b := [(83, 2, 2, 4, 0, 0), (85, 1, 15, 3, 0, 0)]) rfl) ?_
              refine xg_t (xg_iload (va := (0, ki)) rfl rfl) ?_
              refine xg_t (xg_istore (l1 := [(5, (0, u59)), (0, (2, 82)), (1, (0, la)), (2, (0, ro)), (4, (0, ki))]) rfl rfl rfl) ?_
              refine xg_t (xg_blk (b := [(86, 3, 9, 4, 1, 0), (89, 3, 8, 5, 0, 0)]) rfl) ?_
              refine xg_t (xg_iinc (u := ki) (z := ki + 1) (l1 := [(3, (0, ki)), (5, (0, u59)), (0, (2, 82)), (1, (0, la)), (2, (0, ro))]) rfl rfl (by omega) rfl) ?_
              refine xg_t (xg_goto) ?_
              refine xg_t (xg_drop (l1 := [(0, (2, 82)), (1, (0, la)), (2, (0, ro)), (3, (0, ki)), (4, (0, ki + 1))]) (List.forall_mem_cons.mpr ⟨List.mem_cons_of_mem _ (List.mem_cons_of_mem _ (List.mem_cons_of_mem _ (List.mem_cons_self))), List.forall_mem_cons.mpr ⟨List.mem_cons_of_mem _ (List.mem_cons_of_mem _ (List.mem_cons_of_mem _ (List.mem_cons_of_mem _ (List.mem_cons_self)))), List.forall_mem_cons.mpr ⟨List.mem_cons_of_mem _ (List.mem_cons_of_mem _ (List.mem_cons_of_mem _ (List.mem_cons_of_mem _ (List.mem_cons_of_mem _ (List.mem_cons_self))))), List.forall_mem_cons.mpr ⟨List.mem_cons_of_mem _ (List.mem_cons_self), List.forall_mem_cons.mpr ⟨List.mem_cons_self, fun _ h => absurd h List.not_mem_nil⟩⟩⟩⟩⟩)) ?_
              have hw91 : wli (fun j => rwv w 83 (50 + j)) (bU R0 O0 cn la) (bfr R0 O0 cn la) ro (ki + 1) = ki + 1 := wli_y hP82 (by
                rcases hw0 with ⟨q1, q3⟩ | ⟨q1, q3⟩
                · exact Or.inl q3
                · rw [q3, Nat.add_sub_cancel]
                  show _ ∨ rwv w 83 (50 + 2 * bb) < rwv w 83 (50 + 2 * ki)
                  rw [hL88, hL62]
                  exact Or.inr (by omega))
              exact ih44 ki (ki + 1) w67 (by omega) (by omega) (by omega) (hI69) ((hF48.tr (hF70.up (by decide)))) (⟨Or.inr ⟨by omega, hw91⟩, by omega⟩)
            · refine xg_t (xg_icT (u := u59) (v := u85) rfl xnm0 xnm0 (xj_leT (by omega) (by omega))) ?_
              refine xg_t (xg_blk (b := [(86, 3, 9, 4, 1, 0), (89, 3, 8, 5, 0, 0)]) rfl) ?_
              refine xg_t (xg_iinc (u := ki) (z := ki + 1) (l1 := [(5, (0, u59)), (0, (2, 82)), (1, (0, la)), (2, (0, ro)), (3, (0, bb))]) rfl rfl (by omega) rfl) ?_
              refine xg_t (xg_goto) ?_
              refine xg_t (xg_drop (l1 := [(0, (2, 82)), (1, (0, la)), (2, (0, ro)), (3, (0, bb)), (4, (0, ki + 1))]) (List.forall_mem_cons.mpr ⟨List.mem_cons_of_mem _ (List.mem_cons_of_mem _ (List.mem_cons_self)), List.forall_mem_cons.mpr ⟨List.mem_cons_of_mem _ (List.mem_cons_of_mem _ (List.mem_cons_of_mem _ (List.mem_cons_self))), List.forall_mem_cons.mpr ⟨List.mem_cons_of_mem _ (List.mem_cons_of_mem _ (List.mem_cons_of_mem _ (List.mem_cons_of_mem _ (List.mem_cons_self)))), List.forall_mem_cons.mpr ⟨List.mem_cons_of_mem _ (List.mem_cons_of_mem _ (List.mem_cons_of_mem _ (List.mem_cons_of_mem _ (List.mem_cons_of_mem _ (List.mem_cons_self))))), List.forall_mem_cons.mpr ⟨List.mem_cons_self, fun _ h => absurd h List.not_mem_nil⟩⟩⟩⟩⟩)) ?_
              have hw92 : wli (fun j => rwv w 83 (50 + j)) (bU R0 O0 cn la) (bfr R0 O0 cn la) ro (ki + 1) = wli (fun j => rwv w 83 (50 + j)) (bU R0 O0 cn la) (bfr R0 O0 cn la) ro ki := wli_n2 (by
                rcases hw0 with ⟨q1, q3⟩ | ⟨q1, q3⟩
                · exfalso; omega
                · rw [q3, Nat.add_sub_cancel]
                  show ¬ (_ ∨ rwv w 83 (50 + 2 * bb) < rwv w 83 (50 + 2 * ki))
                  rw [hL88, hL62]
                  omega)
              have hw93 : (bb = 4294967295 ∧ wli (fun j => rwv w 83 (50 + j)) (bU R0 O0 cn la) (bfr R0 O0 cn la) ro (ki + 1) = 0) ∨ (bb < ki + 1 ∧ wli (fun j => rwv w 83 (50 + j)) (bU R0 O0 cn la) (bfr R0 O0 cn la) ro (ki + 1) = bb + 1) := by
                rw [hw92]
                exact hw0.imp id (fun q => ⟨by omega, q.2⟩)
              exact ih44 bb (ki + 1) w67 (by omega) (by omega) (by omega) (hI69) ((hF48.tr (hF70.up (by decide)))) (⟨hw93, by omega⟩)
          · refine xg_t (xg_ifT (u := bb) rfl xnm0 (xjz_ltT (by omega) (by omega))) ?_
            refine xg_t (xg_blk (b := [(83, 2, 2, 4, 0, 0), (85, 1, 15, 3, 0, 0)]) rfl) ?_
            refine xg_t (xg_iload (va := (0, ki)) rfl rfl) ?_
            refine xg_t (xg_istore (l1 := [(5, (0, u59)), (0, (2, 82)), (1, (0, la)), (2, (0, ro)), (4, (0, ki))]) rfl rfl rfl) ?_
            refine xg_t (xg_blk (b := [(86, 3, 9, 4, 1, 0), (89, 3, 8, 5, 0, 0)]) rfl) ?_
            refine xg_t (xg_iinc (u := ki) (z := ki + 1) (l1 := [(3, (0, ki)), (5, (0, u59)), (0, (2, 82)), (1, (0, la)), (2, (0, ro))]) rfl rfl (by omega) rfl) ?_
            refine xg_t (xg_goto) ?_
            refine xg_t (xg_drop (l1 := [(0, (2, 82)), (1, (0, la)), (2, (0, ro)), (3, (0, ki)), (4, (0, ki + 1))]) (List.forall_mem_cons.mpr ⟨List.mem_cons_of_mem _ (List.mem_cons_of_mem _ (List.mem_cons_of_mem _ (List.mem_cons_self))), List.forall_mem_cons.mpr ⟨List.mem_cons_of_mem _ (List.mem_cons_of_mem _ (List.mem_cons_of_mem _ (List.mem_cons_of_mem _ (List.mem_cons_self)))), List.forall_mem_cons.mpr ⟨List.mem_cons_of_mem _ (List.mem_cons_of_mem _ (List.mem_cons_of_mem _ (List.mem_cons_of_mem _ (List.mem_cons_of_mem _ (List.mem_cons_self))))), List.forall_mem_cons.mpr ⟨List.mem_cons_of_mem _ (List.mem_cons_self), List.forall_mem_cons.mpr ⟨List.mem_cons_self, fun _ h => absurd h List.not_mem_nil⟩⟩⟩⟩⟩)) ?_
            have hw94 : wli (fun j => rwv w 83 (50 + j)) (bU R0 O0 cn la) (bfr R0 O0 cn la) ro (ki + 1) = ki + 1 := wli_y hP82 (by
              rcases hw0 with ⟨q1, q3⟩ | ⟨q1, q3⟩
              · exact Or.inl q3
              · exfalso; omega)
            exact ih44 ki (ki + 1) w67 (by omega) (by omega) (by omega) (hI69) ((hF48.tr (hF70.up (by decide)))) (⟨Or.inr ⟨by omega, hw94⟩, by omega⟩)
      · refine xg_t (xg_icT (u := ki) (v := u53) rfl xnm0 xnm0 (xj_geT (by omega) (by omega))) ?_
        refine xg_t (xg_blk (b := [(92, 1, 2, 3, 0, 0), (93, 1, 12, 0, 1, 0)]) rfl) ?_
        refine xg_t (xg_iload (va := (0, bb)) rfl rfl) ?_
        have hkf : ki = rwv w 83 1 := by omega
        have hk95 := hw0
        rw [hkf] at hk95
        exact xg_e ⟨bb, w46, ⟨rfl, rfl⟩, hk95, hI47, hF48⟩
  exact key43 _ 4294967295 0 w (Nat.lt_succ_self _) (by omega) (by omega) (hI) (xFr.rf) (⟨Or.inl ⟨rfl, rfl⟩, Nat.zero_le _⟩)
theorem mTiresX {R0 O0 : Nat → Nat} {cn : Nat} {la nn : Nat} (hI : xMnv w) (hla : la ≤ 5) (hnn : nn ≤ 6) (hbd : bdm w R0 O0 cn) (hp : la < cn) (hS : ∀ k, k < rwv w 83 1 → rwv w 83 (50 + 2 * k) ≤ 99) (hv : ∀ k, k < rwv w 83 1 → 1 ≤ rwv w 83 (50 + (2 * k + 1)) ∧ rwv w 83 (50 + (2 * k + 1)) ≤ 999) (hR : ∀ i, i < rwv w 83 2 → (1 ≤ rwv w 83 (60 + (2 * i + 1)) ∧ rwv w 83 (60 + (2 * i + 1)) ≤ 9999) ∧ rwv w 83 (60 + 2 * i) ≤ 9999) (hn2 : nn ≤ rwv w 83 2) : xPq (d + 2) mX12_tires [(2, 82), (0, la), (0, nn)] w bd fc rr [] (fun w' => xMnv w' ∧ xFr [82] w w' ∧ (fld w' 82 23 = (pr (fun j => rwv w 83 (50 + j)) (rwv w 83 1)) ∧ fld w' 82 22 = (wml (fun j => rwv w 83 (50 + j)) (fun i => wli (fun j => rwv w 83 (50 + j)) (bU R0 O0 cn la) (bfr R0 O0 cn la) (rwv w 83 (60 + (2 * i + 1))) (rwv w 83 1)) (fun i => rwv w 83 (60 + 2 * i)) (pr (fun j => rwv w 83 (50 + j)) (rwv w 83 1)) nn))) := by
  refine xPq.of ?_
  show xTo (d + 2) mX12_tires (0, [], [(0, (2, 82)), (1, (0, la)), (2, (0, nn))], [], (w, bd, fc, 0, 0, rr)) (fun φ => ∃ w', xEnd 0 [] (w', bd, fc, 0, 0, rr) φ ∧ xMnv w' ∧ xFr [82] w w' ∧ (fld w' 82 23 = (pr (fun j => rwv w 83 (50 + j)) (rwv w 83 1)) ∧ fld w' 82 22 = (wml (fun j => rwv w 83 (50 + j)) (fun i => wli (fun j => rwv w 83 (50 + j)) (bU R0 O0 cn la) (bfr R0 O0 cn la) (rwv w 83 (60 + (2 * i + 1))) (rwv w 83 1)) (fun i => rwv w 83 (60 + 2 * i)) (pr (fun j => rwv w 83 (50 + j)) (rwv w 83 1)) nn)))
  refine xoCh82 (hI 82 (by decide) (by decide) : cp82 (wget w 82)) (fun f82_1 f82_3 f82_5 f82_7 f82_9 f82_11 f82_13 f82_15 f82_17 f82_19 f82_21 f82_22 f82_23 f82_25 f82_27 f82_29 h82_31 hb2 hb4 hb6 hb8 hb10 hb12 hb14 hb16 hb18 hb20 hb24 hb26 hb28 hb30 hb32 => ?_)
  refine xoX83 (hI 83 (by decide) (by decide) : cpx83 (wget w 83)) (fun g83_33 h83_34 hb35 hx36 => ?_)
  have hl1 : rwv w 83 1 ≤ 4 := by rw [rwv_of h83_34 (by omega)]; exact hx36.l1
  have hl2 : rwv w 83 2 ≤ 6 := by rw [rwv_of h83_34 (by omega)]; exact hx36.l2
  refine xg_t (xg_blk (b := [(0, 1, 0, 0, 0, 0), (1, 1, 51, 1, 0, 0), (2, 3, 71, 12, 23, 263), (5, 1, 0, 0, 0, 0), (6, 1, 51, 0, 0, 0), (7, 3, 71, 12, 22, 267), (10, 1, 3, 0, 0, 0), (11, 1, 15, 3, 0, 0)]) rfl) ?_
  refine xg_t (xg_aload (va := (2, 82)) rfl rfl) ?_
  refine xg_t (xg_lconst) ?_
  refine xg_putJ (fl1 := [(2, 83), (2, 84), (0, f82_1), (0, f82_3), (0, f82_5), (0, f82_7), (0, f82_9), (0, f82_11), (0, f82_13), (0, f82_15), (0, f82_17), (2, 85), (2, 86), (2, 87), (0, f82_19), (2, 88), (2, 89), (2, 90), (2, 91), (2, 92), (2, 93), (2, 94), (4, f82_21), (4, 1), (0, f82_23), (2, 95), (2, 96), (2, 97), (2, 98), (2, 99), (2, 100), (2, 101), (2, 102), (0, f82_25), (2, 103), (2, 104), (2, 105), (2, 106), (2, 107), (2, 108), (2, 109), (0, f82_27), (0, f82_29), (2, 110), (2, 111), (2, 112), (2, 113)]) h82_31 rfl rfl (fun w37 hk38 hb39 => ?_)
  refine xg_t (xg_aload (va := (2, 82)) rfl rfl) ?_
  refine xg_t (xg_lconst) ?_
  refine xg_putJ (fl1 := [(2, 83), (2, 84), (0, f82_1), (0, f82_3), (0, f82_5), (0, f82_7), (0, f82_9), (0, f82_11), (0, f82_13), (0, f82_15), (0, f82_17), (2, 85), (2, 86), (2, 87), (0, f82_19), (2, 88), (2, 89), (2, 90), (2, 91), (2, 92), (2, 93), (2, 94), (4, 0), (4, 1), (0, f82_23), (2, 95), (2, 96), (2, 97), (2, 98), (2, 99), (2, 100), (2, 101), (2, 102), (0, f82_25), (2, 103), (2, 104), (2, 105), (2, 106), (2, 107), (2, 108), (2, 109), (0, f82_27), (0, f82_29), (2, 110), (2, 111), (2, 112), (2, 113)]) hk38 rfl rfl (fun w40 hk41 hb42 => ?_)
  refine xg_t (xg_const) ?_
  refine xg_t (xg_istore (l1 := [(0, (2, 82)), (1, (0, la)), (2, (0, nn))]) rfl rfl rfl) ?_
  refine xg_t (xg_drop (l1 := [(0, (2, 82)), (1, (0, la)), (2, (0, nn)), (3, (0, 0))]) (List.forall_mem_cons.mpr ⟨List.mem_cons_of_mem _ (List.mem_cons_self), List.forall_mem_cons.mpr ⟨List.mem_cons_of_mem _ (List.mem_cons_of_mem _ (List.mem_cons_self)), List.forall_mem_cons.mpr ⟨List.mem_cons_of_mem _ (List.mem_cons_of_mem _ (List.mem_cons_of_mem _ (List.mem_cons_self))), List.forall_mem_cons.mpr ⟨List.mem_cons_self, fun _ h => absurd h List.not_mem_nil⟩⟩⟩⟩)) ?_
  have key43 : ∀ (m45 : Nat) (ki : Nat) (w46 : List (List xE)), 4 - ki < m45 → ki ≤ 4 → xMnv w46 → xFr [82] w w46 → fld w46 82 23 = pr (fun j => rwv w 83 (50 + j)) ki ∧ ki ≤ rwv w 83 1 ∧ fld w46 82 22 = 0 → xTo (d + 2) mX12_tires (12, [], [(0, (2, 82)), (1, (0, la)), (2, (0, nn)), (3, (0, ki))], [], (w46, bd, fc, 0, 0, rr)) (fun φ => ∃ w', xEnd 0 [] (w', bd, fc, 0, 0, rr) φ ∧ xMnv w' ∧ xFr [82] w w' ∧ (fld w' 82 23 = (pr (fun j => rwv w 83 (50 + j)) (rwv w 83 1)) ∧ fld w' 82 22 = (wml (fun j => rwv w 83 (50 + j)) (fun i => wli (fun j => rwv w 83 (50 + j)) (bU R0 O0 cn la) (bfr R0 O0 cn la) (rwv w 83 (60 + (2 * i + 1))) (rwv w 83 1)) (fun i => rwv w 83 (60 + 2 * i)) (pr (fun j => rwv w 83 (50 + j)) (rwv w 83 1)) nn))) := by
    intro m45
    induction m45 with
    | zero => intro ki w46 hz; exact absurd hz (Nat.not_lt_zero _)
    | succ m45 ih44 =>
      intro ki w46 hm51 hn49 hI47 hF48 he50
      refine xoCh82 (hI47 82 (by decide) (by decide) : cp82 (wget w46 82)) (fun f82_52 f82_54 f82_56 f82_58 f82_60 f82_62 f82_64 f82_66 f82_68 f82_70 f82_72 f82_73 f82_74 f82_76 f82_78 f82_80 h82_82 hb53 hb55 hb57 hb59 hb61 hb63 hb65 hb67 hb69 hb71 hb75 hb77 hb79 hb81 hb83 => ?_)
      obtain ⟨hw0, hkn, hp22⟩ := he50
      have hq84 : fld w46 82 23 = f82_73 := fld_of h82_82
      have hq85 : fld w46 82 22 = f82_72 := fld_of h82_82
      rw [hq84] at hw0
      rw [hq85] at hp22
      refine xg_t (xg_blk (b := [(12, 1, 2, 3, 0, 0), (13, 1, 0, 0, 0, 0), (14, 3, 1, 12, 0, 7), (17, 1, 3, 1, 0, 0), (18, 1, 10, 0, 0, 0), (19, 3, 6, 51, 3, 0), (22, 1, 0, 0, 0, 0), (23, 1, 19, 0, 0, 0), (24, 3, 1, 12, 23, 263), (27, 1, 0, 0, 0, 0), (28, 3, 1, 12, 0, 7), (31, 2, 4, 50, 0, 0), (33, 1, 3, 2, 0, 0), (34, 1, 2, 3, 0, 0), (35, 1, 16, 0, 0, 0), (36, 1, 11, 0, 0, 0), (37, 1, 3, 1, 0, 0), (38, 1, 11, 0, 0, 0), (39, 1, 10, 0, 0, 0), (40, 1, 49, 0, 0, 0), (41, 1, 55, 0, 0, 0), (42, 3, 71, 12, 23, 263), (45, 3, 9, 3, 1, 0), (48, 3, 8, 12, 0, 0)]) rfl) ?_
      refine xg_t (xg_iload (va := (0, ki)) rfl rfl) ?_
      refine xg_t (xg_aload (va := (2, 82)) rfl rfl) ?_
      refine xg_t (xg_getf (va := (2, 83)) h82_82 rfl) ?_
      refine xg_t (xg_const) ?_
      refine xg_ialdB (n := 1) (B := 4294967295) (h83_34.fr hF48 (by decide)) (hb35) xnm0 (by first | decide | omega) (fun u86 hu87 he88 => ?_)
      have hl89 : u86 ≤ 4 := by rw [← he88]; exact hx36.l1
      have hq90 : rwv w 83 1 = u86 := (rwv_of h83_34 (by omega)).trans he88
      by_cases hc91 : ki < u86
      · refine xg_t (xg_icF (u := ki) (v := u86) rfl xnm0 xnm0 (xj_geF hc91 (by omega))) ?_
        refine xg_t (xg_aload (va := (2, 82)) rfl rfl) ?_
        refine xg_t (xg_dup rfl) ?_
        refine xg_t (xg_getf (va := (4, f82_73)) h82_82 rfl) ?_
        refine xg_t (xg_aload (va := (2, 82)) rfl rfl) ?_
        refine xg_t (xg_getf (va := (2, 83)) h82_82 rfl) ?_
        refine xg_t (xg_bip) ?_
        refine xg_t (xg_const) ?_
        refine xg_t (xg_iload (va := (0, ki)) rfl rfl) ?_
        refine xg_t (xg_imul (u := 2) (v := ki) (z := 2 * ki) xnm0 xnm0 (by omega)) ?_
        refine xg_t (xg_iadd (u := 50) (v := 2 * ki) (z := 50 + (2 * ki)) xnm0 xnm0 (by omega)) ?_
        refine xg_t (xg_const) ?_
        refine xg_t (xg_iadd (u := 50 + (2 * ki)) (v := 1) (z := (50 + (2 * ki)) + 1) xnm0 xnm0 (by omega)) ?_
        refine xg_ialdB (n := (50 + (2 * ki)) + 1) (B := 4294967295) (h83_34.fr hF48 (by decide)) (hb35) xnm0 (by omega) (fun u92 hu93 he94 => ?_)
        have hL95 : rwv w 83 (50 + (2 * ki + 1)) = u92 := (rwv_of (j := 50 + (2 * ki + 1)) h83_34 (by omega)).trans ((congrArg g83_33 (show 50 + (2 * ki + 1) = (50 + (2 * ki)) + 1 by omega)).trans he94)
        have hl96 : 1 ≤ u92 ∧ u92 ≤ 999 := by have q := hv ki (by omega); rw [hL95] at q; exact q
        refine xg_t (xg_i2l (u := u92) xnm0) ?_
        refine xg_t (xg_lre (b := u92) (by rw [xlp_eq]; exact nI_l (by omega))) ?_
        refine xg_t (xg_lmul (u := f82_73) (v := u92)) ?_
        refine xg_t (xg_lre (b := f82_73 * u92) (by rw [xlp_eq]; exact lN_mul _ _)) ?_
        refine xg_putJ (fl1 := [(2, 83), (2, 84), (0, f82_52), (0, f82_54), (0, f82_56), (0, f82_58), (0, f82_60), (0, f82_62), (0, f82_64), (0, f82_66), (0, f82_68), (2, 85), (2, 86), (2, 87), (0, f82_70), (2, 88), (2, 89), (2, 90), (2, 91), (2, 92), (2, 93), (2, 94), (4, f82_72), (4, f82_73 * u92), (0, f82_74), (2, 95), (2, 96), (2, 97), (2, 98), (2, 99), (2, 100), (2, 101), (2, 102), (0, f82_76), (2, 103), (2, 104), (2, 105), (2, 106), (2, 107), (2, 108), (2, 109), (0, f82_78), (0, f82_80), (2, 110), (2, 111), (2, 112), (2, 113)]) h82_82 rfl rfl (fun w97 hk98 hb99 => ?_)
        refine xg_t (xg_iinc (u := ki) (z := ki + 1) (l1 := [(0, (2, 82)), (1, (0, la)), (2, (0, nn))]) rfl rfl (by omega) rfl) ?_
        refine xg_t (xg_goto) ?_
        refine xg_t (xg_drop (l1 := [(0, (2, 82)), (1, (0, la)), (2, (0, nn)), (3, (0, ki + 1))]) (List.forall_mem_cons.mpr ⟨List.mem_cons_of_mem _ (List.mem_cons_self), List.forall_mem_cons.mpr ⟨List.mem_cons_of_mem _ (List.mem_cons_of_mem _ (List.mem_cons_self)), List.forall_mem_cons.mpr ⟨List.mem_cons_of_mem _ (List.mem_cons_of_mem _ (List.mem_cons_of_mem _ (List.mem_cons_self))), List.forall_mem_cons.mpr ⟨List.mem_cons_self, fun _ h => absurd h List.not_mem_nil⟩⟩⟩⟩)) ?_
        have hk100 : fld w97 82 23 = pr (fun j => rwv w 83 (50 + j)) (ki + 1) := by
          rw [fld_of hk98]
          show f82_73 * u92 = pr (fun j => rwv w 83 (50 + j)) ki * rwv w 83 (50 + (2 * ki + 1))
          rw [← hw0, hL95]
        exact ih44 (ki + 1) w97 (by omega) (by omega) (xMnv.up (S := [82]) hI47 (xFr.of (S := [82]) hb99 (by decide)) (List.forall_mem_cons.mpr ⟨(show cp82 (wget w97 82) from xmC82 f82_52 f82_54 f82_56 f82_58 f82_60 f82_62 f82_64 f82_66 f82_68 f82_70 f82_72 (f82_73 * u92) f82_74 f82_76 f82_78 f82_80 hk98 hb53 hb55 hb57 hb59 hb61 hb63 hb65 hb67 hb69 hb71 hb75 hb77 hb79 hb81 (by omega)), fun _ h => absurd h List.not_mem_nil⟩)) ((hF48.tr (xFr.of (S := [82]) hb99 (by decide)))) (⟨hk100, by omega, (fld_of hk98).trans hp22⟩)
      · refine xg_t (xg_icT (u := ki) (v := u86) rfl xnm0 xnm0 (xj_geT (by omega) (by omega))) ?_
        refine xg_t (xg_blk (b := [(51, 1, 3, 0, 0, 0), (52, 1, 15, 3, 0, 0)]) rfl) ?_
        refine xg_t (xg_const) ?_
        refine xg_t (xg_istore (l1 := [(0, (2, 82)), (1, (0, la)), (2, (0, nn))]) rfl rfl rfl) ?_
        refine xg_t (xg_drop (l1 := [(0, (2, 82)), (1, (0, la)), (2, (0, nn)), (3, (0, 0))]) (List.forall_mem_cons.mpr ⟨List.mem_cons_of_mem _ (List.mem_cons_self), List.forall_mem_cons.mpr ⟨List.mem_cons_of_mem _ (List.mem_cons_of_mem _ (List.mem_cons_self)), List.forall_mem_cons.mpr ⟨List.mem_cons_of_mem _ (List.mem_cons_of_mem _ (List.mem_cons_of_mem _ (List.mem_cons_self))), List.forall_mem_cons.mpr ⟨List.mem_cons_self, fun _ h => absurd h List.not_mem_nil⟩⟩⟩⟩)) ?_
        have hk107 : fld w46 82 23 = (pr (fun j => rwv w 83 (50 + j)) (rwv w 83 1)) := by
          rw [fld_of h82_82]
          exact hw0.trans (congrArg (pr (fun j => rwv w 83 (50 + j))) (show ki = rwv w 83 1 by omega))
        have hk108 : fld w46 82 22 = 0 := by
          rw [fld_of h82_82]
          exact hp22
        have key101 : ∀ (m103 : Nat) (ii : Nat) (w104 : List (List xE)), 6 - ii < m103 → ii ≤ 6 → xMnv w104 → xFr [82] w w104 → (fld w104 82 23 = (pr (fun j => rwv w 83 (50 + j)) (rwv w 83 1)) ∧ fld w104 82 22 = (wml (fun j => rwv w 83 (50 + j)) (fun i => wli (fun j => rwv w 83 (50 + j)) (bU R0 O0 cn la) (bfr R0 O0 cn la) (rwv w 83 (60 + (2 * i + 1))) (rwv w 83 1)) (fun i => rwv w 83 (60 + 2 * i)) (pr (fun j => rwv w 83 (50 + j)) (rwv w 83 1)) ii)) ∧ ii ≤ nn → xTo (d + 2) mX12_tires (53, [], [(0, (2, 82)), (1, (0, la)), (2, (0, nn)), (3, (0, ii))], [], (w104, bd, fc, 0, 0, rr)) (fun φ => ∃ w', xEnd 0 [] (w', bd, fc, 0, 0, rr) φ ∧ xMnv w' ∧ xFr [82] w w' ∧ (fld w' 82 23 = (pr (fun j => rwv w 83 (50 + j)) (rwv w 83 1)) ∧ fld w' 82 22 = (wml (fun j => rwv w 83 (50 + j)) (fun i => wli (fun j => rwv w 83 (50 + j)) (bU R0 O0 cn la) (bfr R0 O0 cn la) (rwv w 83 (60 + (2 * i + 1))) (rwv w 83 1)) (fun i => rwv w 83 (60 + 2 * i)) (pr (fun j => rwv w 83 (50 + j)) (rwv w 83 1)) nn))) := by
          intro m103
          induction m103 with
          | zero => intro ii w104 hz; exact absurd hz (Nat.not_lt_zero _)
          | succ m103 ih102 =>
            intro ii w104 hm111 hn109 hI105 hF106 he110
            refine xoCh82 (hI105 82 (by decide) (by decide) : cp82 (wget w104 82)) (fun f82_112 f82_114 f82_116 f82_118 f82_120 f82_122 f82_124 f82_126 f82_128 f82_130 f82_132 f82_133 f82_134 f82_136 f82_138 f82_140 h82_142 hb113 hb115 hb117 hb119 hb121 hb123 hb125 hb127 hb129 hb131 hb135 hb137 hb139 hb141 hb143 => ?_)
            obtain ⟨⟨hC0, hP0⟩, hin⟩ := he110
            have hq144 : fld w104 82 23 = f82_133 := fld_of h82_142
            have hq145 : fld w104 82 22 = f82_132 := fld_of h82_142
            rw [hq144] at hC0
            rw [hq145] at hP0
            have hcr : 1 ≤ f82_133 ∧ f82_133 ≤ 996005996001 := by rw [hC0]; exact pr_le hv (by omega)
            refine xg_t (xg_blk (b := [(53, 1, 2, 3, 0, 0), (54, 1, 2, 2, 0, 0), (55, 3, 6, 131, 3, 0), (58, 1, 0, 0, 0, 0), (59, 1, 2, 1, 0, 0), (60, 1, 0, 0, 0, 0), (61, 3, 1, 12, 0, 7), (64, 2, 4, 60, 0, 0), (66, 1, 3, 2, 0, 0), (67, 1, 2, 3, 0, 0), (68, 1, 16, 0, 0, 0), (69, 1, 11, 0, 0, 0), (70, 1, 3, 1, 0, 0), (71, 1, 11, 0, 0, 0), (72, 1, 10, 0, 0, 0), (73, 3, 13, 188, 96, 270), (76, 2, 15, 4, 0, 0), (78, 2, 2, 4, 0, 0), (80, 3, 7, 125, 2, 0), (83, 1, 0, 0, 0, 0), (84, 1, 19, 0, 0, 0), (85, 3, 1, 12, 22, 267), (88, 1, 0, 0, 0, 0), (89, 3, 1, 12, 23, 263), (92, 1, 0, 0, 0, 0), (93, 3, 1, 12, 0, 7), (96, 2, 4, 50, 0, 0), (98, 1, 3, 2, 0, 0), (99, 2, 2, 4, 0, 0), (101, 1, 16, 0, 0, 0), (102, 1, 11, 0, 0, 0), (103, 1, 3, 1, 0, 0), (104, 1, 11, 0, 0, 0), (105, 1, 10, 0, 0, 0), (106, 1, 49, 0, 0, 0), (107, 1, 67, 0, 0, 0), (108, 1, 0, 0, 0, 0), (109, 3, 1, 12, 0, 7), (112, 2, 4, 60, 0, 0), (114, 1, 3, 2, 0, 0), (115, 1, 2, 3, 0, 0), (116, 1, 16, 0, 0, 0), (117, 1, 11, 0, 0, 0), (118, 1, 10, 0, 0, 0), (119, 1, 49, 0, 0, 0), (120, 1, 55, 0, 0, 0), (121, 1, 56, 0, 0, 0), (122, 3, 71, 12, 22, 267)]) rfl) ?_
            refine xg_t (xg_iload (va := (0, ii)) rfl rfl) ?_
            refine xg_t (xg_iload (va := (0, nn)) rfl rfl) ?_
            by_cases hc146 : ii < nn
            · refine xg_t (xg_icF (u := ii) (v := nn) rfl xnm0 xnm0 (xj_geF hc146 (by omega))) ?_
              refine xg_t (xg_aload (va := (2, 82)) rfl rfl) ?_
              refine xg_t (xg_iload (va := (0, la)) rfl rfl) ?_
              refine xg_t (xg_aload (va := (2, 82)) rfl rfl) ?_
              refine xg_t (xg_getf (va := (2, 83)) h82_142 rfl) ?_
              refine xg_t (xg_bip) ?_
              refine xg_t (xg_const) ?_
              refine xg_t (xg_iload (va := (0, ii)) rfl rfl) ?_
              refine xg_t (xg_imul (u := 2) (v := ii) (z := 2 * ii) xnm0 xnm0 (by omega)) ?_
              refine xg_t (xg_iadd (u := 60) (v := 2 * ii) (z := 60 + (2 * ii)) xnm0 xnm0 (by omega)) ?_
              refine xg_t (xg_const) ?_
              refine xg_t (xg_iadd (u := 60 + (2 * ii)) (v := 1) (z := (60 + (2 * ii)) + 1) xnm0 xnm0 (by omega)) ?_
              refine xg_ialdB (n := (60 + (2 * ii)) + 1) (B := 4294967295) (h83_34.fr hF106 (by decide)) (hb35) xnm0 (by omega) (fun u147 hu148 he149 => ?_)
              have hL150 : rwv w 83 (60 + (2 * ii + 1)) = u147 := (rwv_of (j := 60 + (2 * ii + 1)) h83_34 (by omega)).trans ((congrArg g83_33 (show 60 + (2 * ii + 1) = (60 + (2 * ii)) + 1 by omega)).trans he149)
              have hl151 := hR ii (by omega)
              rw [hL150] at hl151
              have hl152 : 1 ≤ u147 ∧ u147 ≤ 9999 := hl151.1
              have hf153 : xFr [82] w w104 := hF106
              have e83154 : rwv w104 83 = rwv w 83 := rwf_eq (hf153.1 83 (by decide))
              have hb155 : bdm w104 R0 O0 cn := hbd.kp (fun c h1 h2 => hf153.1 c (fun z => by have q := List.mem_singleton.mp z; omega))
              refine xg_cVi mX12_lifeOf (vs := [(0, la), (0, u147)]) (rest := []) (cn1 := 0) (sl1 := 0) rfl (mLifeOfX (hI105) (by omega) (by omega) hb155 hp (by rw [e83154]; exact hS)) rfl h82_142 rfl rfl rfl rfl rfl rfl (fun n160 w156 hq157 => ?_)
              obtain ⟨hn161, hI158, hF159⟩ := hq157
              rw [e83154] at hn161
              refine xg_t (xg_istore (l1 := [(0, (2, 82)), (1, (0, la)), (2, (0, nn)), (3, (0, ii))]) rfl rfl rfl) ?_
              refine xg_t (xg_iload (va := (0, n160)) rfl rfl) ?_
              by_cases hc162 : n160 < 2147483648
              · have hn163 : n160 ≤ 3 := by omega
                refine xg_t (xg_ifF (u := n160) rfl xnm0 (xjz_ltF hc162)) ?_
                refine xg_t (xg_aload (va := (2, 82)) rfl rfl) ?_
                refine xg_t (xg_dup rfl) ?_
                refine xg_t (xg_getf (va := (4, f82_132)) (hF159.get (by decide) h82_142) rfl) ?_
                refine xg_t (xg_aload (va := (2, 82)) rfl rfl) ?_
                refine xg_t (xg_getf (va := (4, f82_133)) (hF159.get (by decide) h82_142) rfl) ?_
                refine xg_t (xg_aload (va := (2, 82)) rfl rfl) ?_
                refine xg_t (xg_getf (va := (2, 83)) (hF159.get (by decide) h82_142) rfl) ?_
                refine xg_t (xg_bip) ?_
                refine xg_t (xg_const) ?_
                refine xg_t (xg_iload (va := (0, n160)) rfl rfl) ?_
                refine xg_t (xg_imul (u := 2) (v := n160) (z := 2 * n160) xnm0 xnm0 (by omega)) ?_
                refine xg_t (xg_iadd (u := 50) (v := 2 * n160) (z := 50 + (2 * n160)) xnm0 xnm0 (by omega)) ?_
                refine xg_t (xg_const) ?_
                refine xg_t (xg_iadd (u := 50 + (2 * n160)) (v := 1) (z := (50 + (2 * n160)) + 1) xnm0 xnm0 (by omega)) ?_
                refine xg_ialdB (n := (50 + (2 * n160)) + 1) (B := 4294967295) ((h83_34.fr hF106 (by decide)).fr hF159 (by decide)) (hb35) xnm0 (by omega) (fun u164 hu165 he166 => ?_)
                have hL167 : rwv w 83 (50 + (2 * n160 + 1)) = u164 := (rwv_of (j := 50 + (2 * n160 + 1)) h83_34 (by omega)).trans ((congrArg g83_33 (show 50 + (2 * n160 + 1) = (50 + (2 * n160)) + 1 by omega)).trans he166)
                have hl168 : 1 ≤ u164 ∧ u164 ≤ 999 := by have q := hv n160 (by omega); rw [hL167] at q; exact q
                refine xg_t (xg_i2l (u := u164) xnm0) ?_
                refine xg_t (xg_lre (b := u164) (by rw [xlp_eq]; exact nI_l (by omega))) ?_
                refine xg_t (xg_ldiv (u := f82_133) (v := u164) (lN_ne0 (by omega) (by omega))) ?_
                refine xg_t (xg_lre (b := f82_133 / u164) (by rw [xlp_eq]; exact pk_lDiv (by omega) (by omega) (by omega))) ?_
                refine xg_t (xg_aload (va := (2, 82)) rfl rfl) ?_
                refine xg_t (xg_getf (va := (2, 83)) (hF159.get (by decide) h82_142) rfl) ?_
                refine xg_t (xg_bip) ?_
                refine xg_t (xg_const) ?_
                refine xg_t (xg_iload (va := (0, ii)) rfl rfl) ?_
                refine xg_t (xg_imul (u := 2) (v := ii) (z := 2 * ii) xnm0 xnm0 (by omega)) ?_
                refine xg_t (xg_iadd (u := 60) (v := 2 * ii) (z := 60 + (2 * ii)) xnm0 xnm0 (by omega)) ?_
                refine xg_ialdB (n := 60 + (2 * ii)) (B := 4294967295) ((h83_34.fr hF106 (by decide)).fr hF159 (by decide)) (hb35) xnm0 (by omega) (fun u169 hu170 he171 => ?_)
                have hL172 : rwv w 83 (60 + 2 * ii) = u169 := (rwv_of (j := 60 + 2 * ii) h83_34 (by omega)).trans ((congrArg g83_33 (show 60 + 2 * ii = 60 + (2 * ii) by omega)).trans he171)
                have hl173 := hR ii (by omega)
                rw [hL172] at hl173
                have hl174 : u169 ≤ 9999 := hl173.2
                refine xg_t (xg_i2l (u := u169) xnm0) ?_
                refine xg_t (xg_lre (b := u169) (by rw [xlp_eq]; exact nI_l (by omega))) ?_
                refine xg_t (xg_lmul (u := f82_133 / u164) (v := u169)) ?_
                refine xg_t (xg_lre (b := (f82_133 / u164) * u169) (by rw [xlp_eq]; exact lN_mul _ _)) ?_
                refine xg_t (xg_ladd (u := f82_132) (v := (f82_133 / u164) * u169)) ?_
                refine xg_t (xg_lre (b := f82_132 + ((f82_133 / u164) * u169)) (by rw [xlp_eq]; exact lN_add _ _)) ?_
                refine xg_putJ (fl1 := [(2, 83), (2, 84), (0, f82_112), (0, f82_114), (0, f82_116), (0, f82_118), (0, f82_120), (0, f82_122), (0, f82_124), (0, f82_126), (0, f82_128), (2, 85), (2, 86), (2, 87), (0, f82_130), (2, 88), (2, 89), (2, 90), (2, 91), (2, 92), (2, 93), (2, 94), (4, f82_132 + ((f82_133 / u164) * u169)), (4, f82_133), (0, f82_134), (2, 95), (2, 96), (2, 97), (2, 98), (2, 99), (2, 100), (2, 101), (2, 102), (0, f82_136), (2, 103), (2, 104), (2, 105), (2, 106), (2, 107), (2, 108), (2, 109), (0, f82_138), (0, f82_140), (2, 110), (2, 111), (2, 112), (2, 113)]) (hF159.get (by decide) h82_142) rfl rfl (fun w175 hk176 hb177 => ?_)
                refine xg_t (xg_blk (b := [(125, 3, 9, 3, 1, 0), (128, 3, 8, 53, 0, 0)]) rfl) ?_
                refine xg_t (xg_iinc (u := ii) (z := ii + 1) (l1 := [(4, (0, n160)), (0, (2, 82)), (1, (0, la)), (2, (0, nn))]) rfl rfl (by omega) rfl) ?_
                refine xg_t (xg_goto) ?_
                refine xg_t (xg_drop (l1 := [(0, (2, 82)), (1, (0, la)), (2, (0, nn)), (3, (0, ii + 1))]) (List.forall_mem_cons.mpr ⟨List.mem_cons_of_mem _ (List.mem_cons_of_mem _ (List.mem_cons_self)), List.forall_mem_cons.mpr ⟨List.mem_cons_of_mem _ (List.mem_cons_of_mem _ (List.mem_cons_of_mem _ (List.mem_cons_self))), List.forall_mem_cons.mpr ⟨List.mem_cons_of_mem _ (List.mem_cons_of_mem _ (List.mem_cons_of_mem _ (List.mem_cons_of_mem _ (List.mem_cons_self)))), List.forall_mem_cons.mpr ⟨List.mem_cons_self, fun _ h => absurd h List.not_mem_nil⟩⟩⟩⟩)) ?_
                have hk179 : fld w175 82 23 = (pr (fun j => rwv w 83 (50 + j)) (rwv w 83 1)) := (fld_of hk176).trans hC0
                have hl180 : (fun i => wli (fun j => rwv w 83 (50 + j)) (bU R0 O0 cn la) (bfr R0 O0 cn la) (rwv w 83 (60 + (2 * i + 1))) (rwv w 83 1)) ii = n160 + 1 := by
                  show wli (fun j => rwv w 83 (50 + j)) (bU R0 O0 cn la) (bfr R0 O0 cn la) (rwv w 83 (60 + (2 * ii + 1))) (rwv w 83 1) = _
                  rw [hL150]
                  rcases hn161 with ⟨q1, q2⟩ | ⟨q1, q2⟩
                  · exfalso; omega
                  · exact q2
                have hk178 : fld w175 82 22 = (wml (fun j => rwv w 83 (50 + j)) (fun i => wli (fun j => rwv w 83 (50 + j)) (bU R0 O0 cn la) (bfr R0 O0 cn la) (rwv w 83 (60 + (2 * i + 1))) (rwv w 83 1)) (fun i => rwv w 83 (60 + 2 * i)) (pr (fun j => rwv w 83 (50 + j)) (rwv w 83 1)) (ii + 1)) := by
                  rw [fld_of hk176]
                  show f82_132 + ((f82_133 / u164) * u169) = (wml (fun j => rwv w 83 (50 + j)) (fun i => wli (fun j => rwv w 83 (50 + j)) (bU R0 O0 cn la) (bfr R0 O0 cn la) (rwv w 83 (60 + (2 * i + 1))) (rwv w 83 1)) (fun i => rwv w 83 (60 + 2 * i)) (pr (fun j => rwv w 83 (50 + j)) (rwv w 83 1)) ii) + (if (fun i => wli (fun j => rwv w 83 (50 + j)) (bU R0 O0 cn la) (bfr R0 O0 cn la) (rwv w 83 (60 + (2 * i + 1))) (rwv w 83 1)) ii = 0 then 0 else (pr (fun j => rwv w 83 (50 + j)) (rwv w 83 1)) / (fun j => rwv w 83 (50 + j)) (2 * ((fun i => wli (fun j => rwv w 83 (50 + j)) (bU R0 O0 cn la) (bfr R0 O0 cn la) (rwv w 83 (60 + (2 * i + 1))) (rwv w 83 1)) ii - 1) + 1) * (fun i => rwv w 83 (60 + 2 * i)) ii)
                  rw [hl180, if_neg (by omega), Nat.add_sub_cancel, ← hP0, ← hC0]
                  show _ = _ + _ / rwv w 83 (50 + (2 * n160 + 1)) * rwv w 83 (60 + 2 * ii)
                  rw [hL167, hL172]
                exact ih102 (ii + 1) w175 (by omega) (by omega) (xMnv.up (S := [82]) hI158 (xFr.of (S := [82]) hb177 (by decide)) (List.forall_mem_cons.mpr ⟨(show cp82 (wget w175 82) from xmC82 f82_112 f82_114 f82_116 f82_118 f82_120 f82_122 f82_124 f82_126 f82_128 f82_130 (f82_132 + ((f82_133 / u164) * u169)) f82_133 f82_134 f82_136 f82_138 f82_140 hk176 hb113 hb115 hb117 hb119 hb121 hb123 hb125 hb127 hb129 hb131 hb135 hb137 hb139 hb141 (by omega)), fun _ h => absurd h List.not_mem_nil⟩)) (((hF106.tr (hF159.up (by decide))).tr (xFr.of (S := [82]) hb177 (by decide)))) (⟨⟨hk179, hk178⟩, by omega⟩)
              · refine xg_t (xg_ifT (u := n160) rfl xnm0 (xjz_ltT (by omega) (by omega))) ?_
                refine xg_t (xg_blk (b := [(125, 3, 9, 3, 1, 0), (128, 3, 8, 53, 0, 0)]) rfl) ?_
                refine xg_t (xg_iinc (u := ii) (z := ii + 1) (l1 := [(4, (0, n160)), (0, (2, 82)), (1, (0, la)), (2, (0, nn))]) rfl rfl (by omega) rfl) ?_
                refine xg_t (xg_goto) ?_
                refine xg_t (xg_drop (l1 := [(0, (2, 82)), (1, (0, la)), (2, (0, nn)), (3, (0, ii + 1))]) (List.forall_mem_cons.mpr ⟨List.mem_cons_of_mem _ (List.mem_cons_of_mem _ (List.mem_cons_self)), List.forall_mem_cons.mpr ⟨List.mem_cons_of_mem _ (List.mem_cons_of_mem _ (List.mem_cons_of_mem _ (List.mem_cons_self))), List.forall_mem_cons.mpr ⟨List.mem_cons_of_mem _ (List.mem_cons_of_mem _ (List.mem_cons_of_mem _ (List.mem_cons_of_mem _ (List.mem_cons_self)))), List.forall_mem_cons.mpr ⟨List.mem_cons_self, fun _ h => absurd h List.not_mem_nil⟩⟩⟩⟩)) ?_
                have hk182 : fld w156 82 23 = (pr (fun j => rwv w 83 (50 + j)) (rwv w 83 1)) := (fld_of (hF159.get (by decide) h82_142)).trans hC0
                have hl183 : (fun i => wli (fun j => rwv w 83 (50 + j)) (bU R0 O0 cn la) (bfr R0 O0 cn la) (rwv w 83 (60 + (2 * i + 1))) (rwv w 83 1)) ii = 0 := by
                  show wli (fun j => rwv w 83 (50 + j)) (bU R0 O0 cn la) (bfr R0 O0 cn la) (rwv w 83 (60 + (2 * ii + 1))) (rwv w 83 1) = _
                  rw [hL150]
                  rcases hn161 with ⟨q1, q2⟩ | ⟨q1, q2⟩
                  · exact q2
                  · exfalso; omega
                have hk181 : fld w156 82 22 = (wml (fun j => rwv w 83 (50 + j)) (fun i => wli (fun j => rwv w 83 (50 + j)) (bU R0 O0 cn la) (bfr R0 O0 cn la) (rwv w 83 (60 + (2 * i + 1))) (rwv w 83 1)) (fun i => rwv w 83 (60 + 2 * i)) (pr (fun j => rwv w 83 (50 + j)) (rwv w 83 1)) (ii + 1)) := by
                  rw [fld_of (hF159.get (by decide) h82_142)]
                  show f82_132 = (wml (fun j => rwv w 83 (50 + j)) (fun i => wli (fun j => rwv w 83 (50 + j)) (bU R0 O0 cn la) (bfr R0 O0 cn la) (rwv w 83 (60 + (2 * i + 1))) (rwv w 83 1)) (fun i => rwv w 83 (60 + 2 * i)) (pr (fun j => rwv w 83 (50 + j)) (rwv w 83 1)) ii) + (if (fun i => wli (fun j => rwv w 83 (50 + j)) (bU R0 O0 cn la) (bfr R0 O0 cn la) (rwv w 83 (60 + (2 * i + 1))) (rwv w 83 1)) ii = 0 then 0 else (pr (fun j => rwv w 83 (50 + j)) (rwv w 83 1)) / (fun j => rwv w 83 (50 + j)) (2 * ((fun i => wli (fun j => rwv w 83 (50 + j)) (bU R0 O0 cn la) (bfr R0 O0 cn la) (rwv w 83 (60 + (2 * i + 1))) (rwv w 83 1)) ii - 1) + 1) * (fun i => rwv w 83 (60 + 2 * i)) ii)
                  rw [hl183, if_pos rfl, Nat.add_zero]
                  exact hP0
                exact ih102 (ii + 1) w156 (by omega) (by omega) (hI158) ((hF106.tr (hF159.up (by decide)))) (⟨⟨hk182, hk181⟩, by omega⟩)
            · refine xg_t (xg_icT (u := ii) (v := nn) rfl xnm0 xnm0 (xj_geT (by omega) (by omega))) ?_
              refine xg_t (xg_blk (b := [(131, 1, 12, 0, 0, 0)]) rfl) ?_
              exact xg_e ⟨w104, ⟨rfl, rfl⟩, hI105, hF106, ⟨(fld_of h82_142).trans hC0, (fld_of h82_142).trans (hP0.trans (congrArg (wml (fun j => rwv w 83 (50 + j)) (fun i => wli (fun j => rwv w 83 (50 + j)) (bU R0 O0 cn la) (bfr R0 O0 cn la) (rwv w 83 (60 + (2 * i + 1))) (rwv w 83 1)) (fun i => rwv w 83 (60 + 2 * i)) (pr (fun j => rwv w 83 (50 + j)) (rwv w 83 1))) (show ii = nn by omega)))⟩⟩
        exact key101 _ 0 w46 (Nat.lt_succ_self _) (by omega) (hI47) (hF48) (⟨⟨hk107, hk108⟩, Nat.zero_le _⟩)
  exact key43 _ 0 w40 (Nat.lt_succ_self _) (by omega) (xMnv.up (S := [82]) hI ((xFr.of (S := [82]) hb39 (by decide)).tr (xFr.of (S := [82]) hb42 (by decide))) (List.forall_mem_cons.mpr ⟨(show cp82 (wget w40 82) from xmC82 f82_1 f82_3 f82_5 f82_7 f82_9 f82_11 f82_13 f82_15 f82_17 f82_19 0 1 f82_23 f82_25 f82_27 f82_29 hk41 hb2 hb4 hb6 hb8 hb10 hb12 hb14 hb16 hb18 hb20 hb24 hb26 hb28 hb30 (by omega)), fun _ h => absurd h List.not_mem_nil⟩)) (((xFr.of (S := [82]) hb39 (by decide)).tr (xFr.of (S := [82]) hb42 (by decide)))) (⟨fld_of hk41, Nat.zero_le _, fld_of hk41⟩)
theorem mTiredX {la nn_ : Nat} (hI : xMnv w) (hla : la ≤ 4294967295) (hnn_ : nn_ ≤ 4294967295) (hS : ∀ k, k < rwv w 83 1 → rwv w 83 (50 + 2 * k) ≤ 99) (hv : ∀ k, k < rwv w 83 1 → 1 ≤ rwv w 83 (50 + (2 * k + 1)) ∧ rwv w 83 (50 + (2 * k + 1)) ≤ 999) (hR : ∀ i, i < rwv w 83 2 → (1 ≤ rwv w 83 (60 + (2 * i + 1)) ∧ rwv w 83 (60 + (2 * i + 1)) ≤ 9999) ∧ rwv w 83 (60 + 2 * i) ≤ 9999) : xPi (d + 3) mX12_tired [(2, 82), (0, la), (0, nn_)] w bd fc rr (fun n w' => (((la < rwv w 83 0 ∧ nn_ ≤ rwv w 83 2) ∧ n = xpt (lN (1000 * (wml (fun j => rwv w 83 (50 + j)) (fun i => wli (fun j => rwv w 83 (50 + j)) (bU (fun j => rwv w 83 (20 + j)) (fun q => q) (rwv w 83 0) la) (bfr (fun j => rwv w 83 (20 + j)) (fun q => q) (rwv w 83 0) la) (rwv w 83 (60 + (2 * i + 1))) (rwv w 83 1)) (fun i => rwv w 83 (60 + 2 * i)) (pr (fun j => rwv w 83 (50 + j)) (rwv w 83 1)) nn_) / (pr (fun j => rwv w 83 (50 + j)) (rwv w 83 1)))).toInt32) ∨ (¬ (la < rwv w 83 0 ∧ nn_ ≤ rwv w 83 2) ∧ n = 4294967295)) ∧ xMnv w' ∧ xFr [82, 88, 90, 91, 92, 93, 94] w w') := by
  refine xPi.of ?_
  show xTo (d + 3) mX12_tired (0, [], [(0, (2, 82)), (1, (0, la)), (2, (0, nn_))], [], (w, bd, fc, 0, 0, rr)) (fun φ => ∃ n w', xEnd 1 [(0, n)] (w', bd, fc, 0, 0, rr) φ ∧ (((la < rwv w 83 0 ∧ nn_ ≤ rwv w 83 2) ∧ n = xpt (lN (1000 * (wml (fun j => rwv w 83 (50 + j)) (fun i => wli (fun j => rwv w 83 (50 + j)) (bU (fun j => rwv w 83 (20 + j)) (fun q => q) (rwv w 83 0) la) (bfr (fun j => rwv w 83 (20 + j)) (fun q => q) (rwv w 83 0) la) (rwv w 83 (60 + (2 * i + 1))) (rwv w 83 1)) (fun i => rwv w 83 (60 + 2 * i)) (pr (fun j => rwv w 83 (50 + j)) (rwv w 83 1)) nn_) / (pr (fun j => rwv w 83 (50 + j)) (rwv w 83 1)))).toInt32) ∨ (¬ (la < rwv w 83 0 ∧ nn_ ≤ rwv w 83 2) ∧ n = 4294967295)) ∧ xMnv w' ∧ xFr [82, 88, 90, 91, 92, 93, 94] w w')
  refine xoCh82 (hI 82 (by decide) (by decide) : cp82 (wget w 82)) (fun f82_1 f82_3 f82_5 f82_7 f82_9 f82_11 f82_13 f82_15 f82_17 f82_19 f82_21 f82_22 f82_23 f82_25 f82_27 f82_29 h82_31 hb2 hb4 hb6 hb8 hb10 hb12 hb14 hb16 hb18 hb20 hb24 hb26 hb28 hb30 hb32 => ?_)
  refine xoX83 (hI 83 (by decide) (by decide) : cpx83 (wget w 83)) (fun g83_33 h83_34 hb35 hx36 => ?_)
  have hl1 : rwv w 83 1 ≤ 4 := by rw [rwv_of h83_34 (by omega)]; exact hx36.l1
  have hl2 : rwv w 83 2 ≤ 6 := by rw [rwv_of h83_34 (by omega)]; exact hx36.l2
  have hl0 := xMnv.l0 hI
  refine xg_t (xg_blk (b := [(0, 1, 0, 0, 0, 0), (1, 1, 2, 1, 0, 0), (2, 1, 3, 0, 0, 0), (3, 3, 13, 168, 96, 241), (6, 3, 7, 23, 0, 0), (9, 1, 2, 2, 0, 0), (10, 1, 3, 0, 0, 0), (11, 1, 0, 0, 0, 0), (12, 3, 1, 12, 0, 7), (15, 1, 3, 2, 0, 0), (16, 1, 10, 0, 0, 0), (17, 3, 13, 161, 98, 105), (20, 3, 7, 25, 1, 0)]) rfl) ?_
  refine xg_t (xg_aload (va := (2, 82)) rfl rfl) ?_
  refine xg_t (xg_iload (va := (0, la)) rfl rfl) ?_
  refine xg_t (xg_const) ?_
  refine xg_cVi mX12_isOf (vs := [(0, la), (0, 0)]) (rest := []) (cn1 := 0) (sl1 := 0) rfl (mOf0X (hI) (by omega)) rfl h82_31 rfl rfl rfl rfl rfl rfl (fun n41 w37 hq38 => ?_)
  obtain ⟨hn42, hI39, hF40⟩ := hq38
  by_cases hc43 : n41 = 0
  · refine xg_t (xg_ifT (u := n41) rfl xnm0 (xj_eqT hc43)) ?_
    refine xg_t (xg_blk (b := [(23, 1, 3, 4294967295, 0, 0), (24, 1, 12, 0, 1, 0)]) rfl) ?_
    refine xg_t (xg_const) ?_
    exact xg_e ⟨4294967295, w37, ⟨rfl, rfl⟩, Or.inr ⟨by omega, rfl⟩, hI39, (hF40.up (by decide))⟩
  · refine xg_t (xg_ifF (u := n41) rfl xnm0 (xj_eqF hc43)) ?_
    refine xg_t (xg_iload (va := (0, nn_)) rfl rfl) ?_
    refine xg_t (xg_const) ?_
    refine xg_t (xg_aload (va := (2, 82)) rfl rfl) ?_
    refine xg_t (xg_getf (va := (2, 83)) (hF40.get (by decide) h82_31) rfl) ?_
    refine xg_t (xg_const) ?_
    refine xg_ialdB (n := 2) (B := 4294967295) (h83_34.fr hF40 (by decide)) (hb35) xnm0 (by first | decide | omega) (fun u44 hu45 he46 => ?_)
    have hl47 : u44 ≤ 6 := by rw [← he46]; exact hx36.l2
    have hq48 : rwv w 83 2 = u44 := (rwv_of h83_34 (by omega)).trans he46
    refine xg_t (xg_cSr mX12_isIn (vs := [(0, nn_), (0, 0), (0, u44)]) (rest := []) (rs := [(0, if 0 ≤ nn_ ∧ nn_ ≤ u44 then 1 else 0)]) (cn1 := 0) (sl1 := 0) rfl (mIsIn (by omega) (by omega) (by omega)) rfl rfl rfl rfl rfl rfl rfl rfl) ?_
    by_cases hc49 : 0 ≤ nn_ ∧ nn_ ≤ u44
    · refine xg_t (xg_ifT (u := (if 0 ≤ nn_ ∧ nn_ ≤ u44 then 1 else 0)) rfl xnm0 (xj_neT (xite1 hc49))) ?_
      refine xg_t (xg_blk (b := [(25, 1, 0, 0, 0, 0), (26, 3, 13, 116, 96, 244), (29, 1, 0, 0, 0, 0), (30, 1, 2, 1, 0, 0), (31, 1, 2, 2, 0, 0), (32, 3, 13, 231, 96, 273), (35, 3, 52, 1000, 0, 231), (38, 1, 0, 0, 0, 0), (39, 3, 1, 12, 22, 267), (42, 1, 55, 0, 0, 0), (43, 1, 0, 0, 0, 0), (44, 3, 1, 12, 23, 263), (47, 1, 67, 0, 0, 0), (48, 1, 50, 0, 0, 0), (49, 1, 12, 0, 1, 0)]) rfl) ?_
      refine xg_t (xg_aload (va := (2, 82)) rfl rfl) ?_
      refine xg_cVv mX12_asTold (vs := []) (rest := []) (cn1 := 0) (sl1 := 0) rfl (mAsToldX (hI39)) rfl (hF40.get (by decide) h82_31) rfl rfl rfl rfl rfl rfl (fun w50 hq51 => ?_)
      obtain ⟨hI52, hF53, hx54⟩ := hq51
      obtain ⟨hbd, ho88⟩ := hx54
      have hfr_ : xFr [82, 88, 90, 91, 92, 93, 94] w w37 := (hF40.up (by decide))
      have e83_ : rwv w37 83 = rwv w 83 := rwf_eq (hfr_.1 83 (by decide))
      rw [e83_] at hbd
      have e83 : rwv w50 83 = rwv w 83 := (rwf_eq (hF53.1 83 (by decide))).trans e83_
      refine xoI (hI52 90 (by decide) (by decide) : cpI 6 57 4294967295 (wget w50 90)) (fun g90_55 h90_56 hb57 => ?_)
      refine xoI (hI52 91 (by decide) (by decide) : cpI 6 58 5 (wget w50 91)) (fun g91_58 h91_59 hb60 => ?_)
      obtain ⟨g92_61, h92_62⟩ := (hI52 92 (by decide) (by decide) : cpJ 6 59 (wget w50 92))
      have h92_62 : xRk 3 4 w50 92 6 59 g92_61 := h92_62
      obtain ⟨g93_64, h93_65⟩ := (hI52 93 (by decide) (by decide) : cpJ 6 60 (wget w50 93))
      have h93_65 : xRk 3 4 w50 93 6 60 g93_64 := h93_65
      obtain ⟨g94_67, h94_68⟩ := (hI52 94 (by decide) (by decide) : cpJ 6 61 (wget w50 94))
      have h94_68 : xRk 3 4 w50 94 6 61 g94_67 := h94_68
      refine xg_t (xg_aload (va := (2, 82)) rfl rfl) ?_
      refine xg_t (xg_iload (va := (0, la)) rfl rfl) ?_
      refine xg_t (xg_iload (va := (0, nn_)) rfl rfl) ?_
      have hf70 : xFr [82, 88, 90, 91, 92, 93, 94] w w50 := ((hF40.up (by decide)).tr (hF53.up (by decide)))
      have e8371 : rwv w50 83 = rwv w 83 := rwf_eq (hf70.1 83 (by decide))
      refine xg_cVv mX12_tires (vs := [(0, la), (0, nn_)]) (rest := []) (cn1 := 0) (sl1 := 0) rfl (mTiresX (hI52) (by omega) (by omega) hbd (by omega) (by rw [e8371]; exact hS) (by rw [e8371]; exact hv) (by rw [e8371]; exact hR) (by rw [e8371]; omega)) rfl (hF53.get (by decide) (hF40.get (by decide) h82_31)) rfl rfl rfl rfl rfl rfl (fun w72 hq73 => ?_)
      obtain ⟨hI74, hF75, hx76⟩ := hq73
      refine xoCh82 (hI74 82 (by decide) (by decide) : cp82 (wget w72 82)) (fun f82_77 f82_79 f82_81 f82_83 f82_85 f82_87 f82_89 f82_91 f82_93 f82_95 f82_97 f82_98 f82_99 f82_101 f82_103 f82_105 h82_107 hb78 hb80 hb82 hb84 hb86 hb88 hb90 hb92 hb94 hb96 hb100 hb102 hb104 hb106 hb108 => ?_)
      obtain ⟨hC109, hP110⟩ := hx76
      have qa111 : fld w72 82 23 = f82_98 := fld_of h82_107
      have qb112 : fld w72 82 22 = f82_97 := fld_of h82_107
      rw [e8371, qa111] at hC109
      rw [e8371, qb112] at hP110
      have hcr : 1 ≤ f82_98 ∧ f82_98 ≤ 996005996001 := by rw [hC109]; exact pr_le hv hl1
      have hpr : f82_97 ≤ 997002999 * 9999 * 6 := by
        rw [hP110]
        refine Nat.le_trans (sg_le (B := 997002999 * 9999) (fun i hi => ?_)) (Nat.mul_le_mul_left _ (show nn_ ≤ 6 by omega))
        show (if (fun i => wli (fun j => rwv w 83 (50 + j)) (bU (fun j => rwv w 83 (20 + j)) (fun q => q) (rwv w 83 0) la) (bfr (fun j => rwv w 83 (20 + j)) (fun q => q) (rwv w 83 0) la) (rwv w 83 (60 + (2 * i + 1))) (rwv w 83 1)) i = 0 then 0 else (pr (fun j => rwv w 83 (50 + j)) (rwv w 83 1)) / rwv w 83 (50 + (2 * ((fun i => wli (fun j => rwv w 83 (50 + j)) (bU (fun j => rwv w 83 (20 + j)) (fun q => q) (rwv w 83 0) la) (bfr (fun j => rwv w 83 (20 + j)) (fun q => q) (rwv w 83 0) la) (rwv w 83 (60 + (2 * i + 1))) (rwv w 83 1)) i - 1) + 1)) * rwv w 83 (60 + 2 * i)) ≤ _
        have l : (fun i => wli (fun j => rwv w 83 (50 + j)) (bU (fun j => rwv w 83 (20 + j)) (fun q => q) (rwv w 83 0) la) (bfr (fun j => rwv w 83 (20 + j)) (fun q => q) (rwv w 83 0) la) (rwv w 83 (60 + (2 * i + 1))) (rwv w 83 1)) i ≤ rwv w 83 1 := wli_le
        split
        · exact Nat.zero_le _
        · exact Nat.mul_le_mul (prk_le4 (v := (fun j => rwv w 83 (50 + j))) hv (by omega) hl1) (hR i (by omega)).2
      have hb113 : bdm w72 (fun j => rwv w 83 (20 + j)) (fun q => q) (rwv w 83 0) := hbd.kp (fun c h1 h2 => hF75.1 c (fun z => by have q := List.mem_singleton.mp z; omega))
      refine xg_t (xg_ldc2) ?_
      refine xg_t (xg_aload (va := (2, 82)) rfl rfl) ?_
      refine xg_t (xg_getf (va := (4, f82_97)) h82_107 rfl) ?_
      refine xg_t (xg_lmul (u := 1000) (v := f82_97)) ?_
      refine xg_t (xg_lre (b := 1000 * f82_97) (by rw [xlp_eq]; exact lN_mul _ _)) ?_
      refine xg_t (xg_aload (va := (2, 82)) rfl rfl) ?_
      refine xg_t (xg_getf (va := (4, f82_98)) h82_107 rfl) ?_
      refine xg_t (xg_ldiv (u := 1000 * f82_97) (v := f82_98) (lN_ne0 (by omega) (by omega))) ?_
      refine xg_t (xg_lre (b := (1000 * f82_97) / f82_98) (by rw [xlp_eq]; exact pk_lDiv (by omega) (by omega) (by omega))) ?_
      refine xg_kE (xg_l2i (u := (1000 * f82_97) / f82_98)) (xpt_lt _) (fun z114 hz115 he116 => ?_)
      have hk117 : z114 = xpt (lN (1000 * (wml (fun j => rwv w 83 (50 + j)) (fun i => wli (fun j => rwv w 83 (50 + j)) (bU (fun j => rwv w 83 (20 + j)) (fun q => q) (rwv w 83 0) la) (bfr (fun j => rwv w 83 (20 + j)) (fun q => q) (rwv w 83 0) la) (rwv w 83 (60 + (2 * i + 1))) (rwv w 83 1)) (fun i => rwv w 83 (60 + 2 * i)) (pr (fun j => rwv w 83 (50 + j)) (rwv w 83 1)) nn_) / (pr (fun j => rwv w 83 (50 + j)) (rwv w 83 1)))).toInt32 := by
        rw [← hP110, ← hC109]
        exact he116.symm
      exact xg_e ⟨z114, w72, ⟨rfl, rfl⟩, Or.inl ⟨by omega, hk117⟩, hI74, (((hF40.up (by decide)).tr (hF53.up (by decide))).tr (hF75.up (by decide)))⟩
    · refine xg_t (xg_ifF (u := (if 0 ≤ nn_ ∧ nn_ ≤ u44 then 1 else 0)) rfl xnm0 (xj_neF (xite0 hc49))) ?_
      refine xg_t (xg_blk (b := [(23, 1, 3, 4294967295, 0, 0), (24, 1, 12, 0, 1, 0)]) rfl) ?_
      refine xg_t (xg_const) ?_
      exact xg_e ⟨4294967295, w37, ⟨rfl, rfl⟩, Or.inr ⟨by omega, rfl⟩, hI39, (hF40.up (by decide))⟩
end XWM
end
section
/-! what numbers of the film and of hands can be; layers that tire, alike -/
def vF (R : Nat → Nat) : Prop := (R 0 ≤ 6 ∧ R 1 ≤ 4 ∧ R 2 ≤ 6 ∧ R 3 ≤ 4 ∧ R 4 ≤ 20) ∧ ((1 ≤ R 5 ∧ R 5 ≤ 6) ∧ (1 ≤ R 6 ∧ R 6 ≤ 6) ∧ (1 ≤ R 7 ∧ R 7 ≤ 10) ∧ (1 ≤ R 8 ∧ R 8 ≤ 10)) ∧ (∀ k, k < R 0 → R (20 + (4 * k + 3)) ≤ 1) ∧ (∀ k, k < R 1 → R (50 + 2 * k) ≤ 99 ∧ 1 ≤ R (50 + (2 * k + 1)) ∧ R (50 + (2 * k + 1)) ≤ 999) ∧ (∀ i, i < R 2 → (1 ≤ R (60 + (2 * i + 1)) ∧ R (60 + (2 * i + 1)) ≤ 9999) ∧ 1 ≤ R (60 + 2 * i) ∧ R (60 + 2 * i) ≤ 9999) ∧ (∀ k, k < R 3 → (1 ≤ R (80 + 3 * k) ∧ R (80 + 3 * k) ≤ 10) ∧ (1 ≤ R (80 + (3 * k + 1)) ∧ R (80 + (3 * k + 1)) ≤ 10) ∧ 1 ≤ R (80 + (3 * k + 2)) ∧ R (80 + (3 * k + 2)) ≤ 999) ∧ ∀ k, k < R 4 → R (100 + 2 * k) ≤ 9 ∧ R (100 + (2 * k + 1)) ≤ 9
def vH (R : Nat → Nat) : Prop := R 900 ≤ 4 ∧ ∀ h, h < R 900 → (1 ≤ R (950 + 3 * h) ∧ R (950 + 3 * h) ≤ 999) ∧ (1 ≤ R (950 + (3 * h + 1)) ∧ R (950 + (3 * h + 1)) ≤ 999) ∧ 1 ≤ R (950 + (3 * h + 2)) ∧ R (950 + (3 * h + 2)) ≤ 9999
theorem vF.cg {R R' : Nat → Nat} (h : vF R) (e : ∀ j, (j < 9 ∨ (20 ≤ j ∧ j < 140)) → R' j = R j) : vF R' := by
  obtain ⟨⟨a0, a1, a2, a3, a4⟩, hb, c, d, f, g, i⟩ := h
  have e0 := e 0 (by omega)
  have e1 := e 1 (by omega)
  have e2 := e 2 (by omega)
  have e3 := e 3 (by omega)
  have e4 := e 4 (by omega)
  refine ⟨⟨by omega, by omega, by omega, by omega, by omega⟩, ?_, fun k hk => ?_, fun k hk => ?_, fun k hk => ?_, fun k hk => ?_, fun k hk => ?_⟩
  · rw [e 5 (by omega), e 6 (by omega), e 7 (by omega), e 8 (by omega)]
    exact hb
  · rw [e _ (by omega)]
    exact c k (by omega)
  · rw [e (50 + 2 * k) (by omega), e (50 + (2 * k + 1)) (by omega)]
    exact d k (by omega)
  · rw [e (60 + 2 * k) (by omega), e (60 + (2 * k + 1)) (by omega)]
    exact f k (by omega)
  · rw [e (80 + 3 * k) (by omega), e (80 + (3 * k + 1)) (by omega), e (80 + (3 * k + 2)) (by omega)]
    exact g k (by omega)
  · rw [e (100 + 2 * k) (by omega), e (100 + (2 * k + 1)) (by omega)]
    exact i k (by omega)
theorem vH.cg {R R' : Nat → Nat} (h : vH R) (e : ∀ j, (j = 900 ∨ (950 ≤ j ∧ j < 962)) → R' j = R j) : vH R' := by
  obtain ⟨a, b⟩ := h
  have e0 := e 900 (by omega)
  refine ⟨by omega, fun k hk => ?_⟩
  rw [e (950 + 3 * k) (by omega), e (950 + (3 * k + 1)) (by omega), e (950 + (3 * k + 2)) (by omega)]
  exact b k (by omega)
/-- a film told: its numbers can be -/
theorem FLA.gF {B : Nat → Nat} {nn n : Nat} {w : List (List xE)} (h : FLA B nn w n) : vF (rwv w 83) := by
  obtain ⟨⟨g0, g1, g2, g3, g4, -, gz⟩, gR⟩ := h
  have l0 : lnC B nn 0 n ≤ 6 := lnC_lim (s := 0) gz (by decide)
  have l1 : lnC B nn 1 n ≤ 4 := lnC_lim (s := 1) gz (by decide)
  have l2 : lnC B nn 2 n ≤ 6 := lnC_lim (s := 2) gz (by decide)
  have l3 : lnC B nn 3 n ≤ 4 := lnC_lim (s := 3) gz (by decide)
  have l4 : lnC B nn 4 n ≤ 20 := lnC_lim (s := 4) gz (by decide)
  have hit : ∀ s m, m < lnC B nn s n → ∃ i, (∀ t, t < wds s → XA w s m t = vln B nn (lnP B nn i) t) ∧ (lst0 s ≤ vln B nn (lnP B nn i) 0 ∧ vln B nn (lnP B nn i) 0 ≤ grt0 s) ∧ (lst1 s ≤ vln B nn (lnP B nn i) 1 ∧ vln B nn (lnP B nn i) 1 ≤ grt1 s) ∧ (nnm s = 3 → 1 ≤ vln B nn (lnP B nn i) 2 ∧ vln B nn (lnP B nn i) 2 ≤ grt2 s) := by
    intro s m hm
    obtain ⟨i, h1, h2, h3⟩ := lnC_hit n hm
    have a := flt_v h2 (flA_all gz i h1)
    refine ⟨i, fun t ht => ?_, a.2.1, a.2.2.1, a.2.2.2⟩
    have b := gR.1 i h1 t (by rw [h2]; exact ht)
    rw [h2, h3] at b
    exact b
  have s5 : (1 ≤ rwv w 83 7 ∧ rwv w 83 7 ≤ 10) ∧ (1 ≤ rwv w 83 8 ∧ rwv w 83 8 ≤ 10) := by
    by_cases z : lnC B nn 5 n = 0
    · obtain ⟨a, b⟩ := gR.2 5 (Or.inl rfl) z
      have a : rwv w 83 7 = 1 := a
      have b : rwv w 83 8 = 1 := b
      omega
    · obtain ⟨i, a, b, c, -⟩ := hit 5 0 (by omega)
      have a0 : rwv w 83 7 = _ := a 0 (by decide)
      have a1 : rwv w 83 8 = _ := a 1 (by decide)
      rw [a0, a1]
      exact ⟨b, c⟩
  have s6 : (1 ≤ rwv w 83 5 ∧ rwv w 83 5 ≤ 6) ∧ (1 ≤ rwv w 83 6 ∧ rwv w 83 6 ≤ 6) := by
    by_cases z : lnC B nn 6 n = 0
    · obtain ⟨a, b⟩ := gR.2 6 (Or.inr rfl) z
      have a : rwv w 83 5 = 1 := a
      have b : rwv w 83 6 = 1 := b
      omega
    · obtain ⟨i, a, b, c, -⟩ := hit 6 0 (by omega)
      have a0 : rwv w 83 5 = _ := a 0 (by decide)
      have a1 : rwv w 83 6 = _ := a 1 (by decide)
      rw [a0, a1]
      exact ⟨b, c⟩
  refine ⟨⟨by omega, by omega, by omega, by omega, by omega⟩, ⟨s6.1, s6.2, s5.1, s5.2⟩, fun k hk => ?_, fun k hk => ?_, fun k hk => ?_, fun k hk => ?_, fun k hk => ?_⟩
  · obtain ⟨i, a, -⟩ := hit 0 k (by omega)
    have a3 : rwv w 83 (20 + 4 * k + 3) = vln B nn (lnP B nn i) 3 := a 3 (by decide)
    have e : vln B nn (lnP B nn i) 3 ≤ 1 := by
      show (if twk B nn (vlp B nn (lnP B nn i) 3) = 20325509 then 1 else 0) ≤ 1
      split <;> decide
    rw [← Nat.add_assoc, a3]
    exact e
  · obtain ⟨i, a, b, c, -⟩ := hit 1 k (by omega)
    have a0 : rwv w 83 (50 + 2 * k) = _ := a 0 (by decide)
    have a1 : rwv w 83 (50 + 2 * k + 1) = _ := a 1 (by decide)
    rw [← Nat.add_assoc, a0, a1]
    exact ⟨b.2, c⟩
  · obtain ⟨i, a, b, c, -⟩ := hit 2 k (by omega)
    have a0 : rwv w 83 (60 + 2 * k) = _ := a 0 (by decide)
    have a1 : rwv w 83 (60 + 2 * k + 1) = _ := a 1 (by decide)
    rw [← Nat.add_assoc, a0, a1]
    exact ⟨c, b⟩
  · obtain ⟨i, a, b, c, d⟩ := hit 3 k (by omega)
    have a0 : rwv w 83 (80 + 3 * k) = _ := a 0 (by decide)
    have a1 : rwv w 83 (80 + 3 * k + 1) = _ := a 1 (by decide)
    have a2 : rwv w 83 (80 + 3 * k + 2) = _ := a 2 (by decide)
    rw [← Nat.add_assoc, ← Nat.add_assoc, a0, a1, a2]
    exact ⟨b, c, d (by decide)⟩
  · obtain ⟨i, a, b, c, -⟩ := hit 4 k (by omega)
    have a0 : rwv w 83 (100 + 2 * k) = _ := a 0 (by decide)
    have a1 : rwv w 83 (100 + 2 * k + 1) = _ := a 1 (by decide)
    rw [← Nat.add_assoc, a0, a1]
    exact ⟨b.2, c.2⟩
/-- a hand told -/
theorem vH.hand {w1 w2 : List (List xE)} {n2 fi fo ro : Nat} (h : vH (rwv w1 83)) (hG : ((n2 = rwv w1 83 900 ∧ rwv w1 83 900 < 4 ∧ ((1 ≤ fi ∧ fi ≤ 999) ∧ (1 ≤ fo ∧ fo ≤ 999) ∧ (1 ≤ ro ∧ ro ≤ 9999)) ∧ rwv w2 83 900 = rwv w1 83 900 + 1) ∨ (n2 = 4294967295 ∧ ¬ (rwv w1 83 900 < 4 ∧ ((1 ≤ fi ∧ fi ≤ 999) ∧ (1 ≤ fo ∧ fo ≤ 999) ∧ (1 ≤ ro ∧ ro ≤ 9999))) ∧ rwv w2 83 900 = rwv w1 83 900)) ∧ (n2 ≠ 4294967295 → rwv w2 83 (950 + 3 * rwv w1 83 900) = fi ∧ rwv w2 83 (950 + 3 * rwv w1 83 900 + 1) = fo ∧ rwv w2 83 (950 + 3 * rwv w1 83 900 + 2) = ro) ∧ (∀ j, (j ≠ 900 ∧ (j < 950 + 3 * rwv w1 83 900 ∨ 953 + 3 * rwv w1 83 900 ≤ j)) → j < 5360 → rwv w2 83 j = rwv w1 83 j)) : vH (rwv w2 83) := by
  obtain ⟨g1, g2, g3⟩ := hG
  obtain ⟨a, b⟩ := h
  rcases g1 with ⟨z1, z2, z3, z4⟩ | ⟨z1, -, z3⟩
  · obtain ⟨v0, v1, v2⟩ := g2 (by omega)
    refine ⟨by omega, fun k hk => ?_⟩
    by_cases e : k = rwv w1 83 900
    · rw [e, v0, ← Nat.add_assoc, ← Nat.add_assoc, v1, v2]
      exact ⟨z3.1, z3.2.1, z3.2.2⟩
    · rw [g3 (950 + 3 * k) (by omega) (by omega), g3 (950 + (3 * k + 1)) (by omega) (by omega), g3 (950 + (3 * k + 2)) (by omega) (by omega)]
      exact b k (by omega)
  · refine ⟨by omega, fun k hk => ?_⟩
    rw [g3 (950 + 3 * k) (by omega) (by omega), g3 (950 + (3 * k + 1)) (by omega) (by omega), g3 (950 + (3 * k + 2)) (by omega) (by omega)]
    exact b k (by omega)
/-- alike, and the numbers can be -/
def a6 (w : List (List xE)) (b k : Nat) : Prop := al w b k ∧ vF (fun j => rwv w 83 (1340 * k + j)) ∧ vH (fun j => rwv w 83 (1340 * k + j))
theorem a6.cp {w w' : List (List xE)} {D S k k' : Nat} (h : a6 w S k) (e : tdE w' D w S) (r : ∀ j, j < 1340 → rwv w' 83 (1340 * k' + j) = rwv w 83 (1340 * k + j)) : a6 w' D k' := ⟨h.1.cp e r, h.2.1.cg (fun j hj => r j (by omega)), h.2.2.cg (fun j hj => r j (by omega))⟩
theorem a6.kp {w w' : List (List xE)} {b k : Nat} (h : a6 w b k) (hc : ∀ o, o < 25 → wget w' (b + o) = wget w (b + o)) (hr : ∀ j, 1340 * k ≤ j → j < 1340 * k + 1340 → rwv w' 83 j = rwv w 83 j) : a6 w' b k := h.cp (tdE.rf.tr0 hc (fun _ _ => rfl)) (fun j hj => hr _ (by omega) (by omega))
theorem blk0 {w : List (List xE)} : (fun j => rwv w 83 (1340 * 0 + j)) = rwv w 83 := by
  funext j
  rw [Nat.mul_zero, Nat.zero_add]
theorem a6.gF {w : List (List xE)} (h : a6 w 1 0) : vF (rwv w 83) := by
  have q := h.2.1
  rw [blk0] at q
  exact q
theorem a6.gH {w : List (List xE)} (h : a6 w 1 0) : vH (rwv w 83) := by
  have q := h.2.2
  rw [blk0] at q
  exact q
theorem a6.mk {w : List (List xE)} (h : al w 1 0) (hF : vF (rwv w 83)) (hH : vH (rwv w 83)) : a6 w 1 0 := by
  refine ⟨h, ?_, ?_⟩
  · rw [blk0]
    exact hF
  · rw [blk0]
    exact hH
/-! lives and folds, in both -/
theorem a6.s6 {w : List (List xE)} (h : a6 w 1 0) : fld w 6 3 = rwv w 83 1 := h.1.2.2.1.2.2.1.sz
theorem a6.s8 {w : List (List xE)} (h : a6 w 1 0) : fld w 8 3 = rwv w 83 2 := h.1.2.2.1.2.2.2.1.sz
theorem a6.g7 {w : List (List xE)} {j : Nat} (h : a6 w 1 0) (hj : j < 2 * fld w 6 3) : rwv w 7 j = rwv w 83 (50 + j) := h.1.2.2.1.2.2.1.get (show j < fld w 6 3 * 2 by omega)
theorem a6.g9 {w : List (List xE)} {j : Nat} (h : a6 w 1 0) (hj : j < 2 * fld w 8 3) : rwv w 9 j = rwv w 83 (60 + j) := h.1.2.2.1.2.2.2.1.get (show j < fld w 8 3 * 2 by omega)
theorem a6.hS {w : List (List xE)} (h : a6 w 1 0) : ∀ k, k < fld w 6 3 → rwv w 7 (2 * k) ≤ 99 := fun k hk => by
  have s := h.s6
  rw [h.g7 (by omega)]
  exact (h.gF.2.2.2.1 k (by omega)).1
theorem a6.hv {w : List (List xE)} (h : a6 w 1 0) : ∀ k, k < fld w 6 3 → 1 ≤ rwv w 7 (2 * k + 1) ∧ rwv w 7 (2 * k + 1) ≤ 999 := fun k hk => by
  have s := h.s6
  rw [h.g7 (by omega)]
  exact (h.gF.2.2.2.1 k (by omega)).2
theorem a6.hR {w : List (List xE)} (h : a6 w 1 0) : ∀ i, i < fld w 8 3 → (1 ≤ rwv w 9 (2 * i + 1) ∧ rwv w 9 (2 * i + 1) ≤ 9999) ∧ rwv w 9 (2 * i) ≤ 9999 := fun k hk => by
  have s := h.s8
  rw [h.g9 (by omega), h.g9 (by omega)]
  have q := h.gF.2.2.2.2.1 k (by omega)
  exact ⟨q.1, q.2.2⟩
theorem a6.mS {w : List (List xE)} (h : a6 w 1 0) : ∀ k, k < rwv w 83 1 → rwv w 83 (50 + 2 * k) ≤ 99 := fun k hk => (h.gF.2.2.2.1 k hk).1
theorem a6.mv {w : List (List xE)} (h : a6 w 1 0) : ∀ k, k < rwv w 83 1 → 1 ≤ rwv w 83 (50 + (2 * k + 1)) ∧ rwv w 83 (50 + (2 * k + 1)) ≤ 999 := fun k hk => (h.gF.2.2.2.1 k hk).2
theorem a6.mR {w : List (List xE)} (h : a6 w 1 0) : ∀ i, i < rwv w 83 2 → (1 ≤ rwv w 83 (60 + (2 * i + 1)) ∧ rwv w 83 (60 + (2 * i + 1)) ≤ 9999) ∧ rwv w 83 (60 + 2 * i) ≤ 9999 := fun k hk => by
  have q := h.gF.2.2.2.2.1 k hk
  exact ⟨q.1, q.2.2⟩
theorem a6.s18 {w : List (List xE)} (h : a6 w 1 0) : fld w 18 3 = rwv w 83 900 := h.1.2.2.2.2.1.sz
theorem a6.g19 {w : List (List xE)} {j : Nat} (h : a6 w 1 0) (hj : j < 3 * fld w 18 3) : rwv w 19 j = rwv w 83 (950 + j) := h.1.2.2.2.2.1.get (show j < fld w 18 3 * 3 by omega)
theorem a6.mH {w : List (List xE)} (h : a6 w 1 0) : ∀ k, k < rwv w 83 900 → (1 ≤ rwv w 83 (950 + 3 * k) ∧ rwv w 83 (950 + 3 * k) ≤ 999) ∧ (1 ≤ rwv w 83 (950 + (3 * k + 1)) ∧ rwv w 83 (950 + (3 * k + 1)) ≤ 999) ∧ 1 ≤ rwv w 83 (950 + (3 * k + 2)) ∧ rwv w 83 (950 + (3 * k + 2)) ≤ 9999 := h.gH.2
theorem a6.hH {w : List (List xE)} (h : a6 w 1 0) : ∀ k, k < fld w 18 3 → (1 ≤ rwv w 19 (3 * k) ∧ rwv w 19 (3 * k) ≤ 999) ∧ (1 ≤ rwv w 19 (3 * k + 1) ∧ rwv w 19 (3 * k + 1) ≤ 999) ∧ 1 ≤ rwv w 19 (3 * k + 2) ∧ rwv w 19 (3 * k + 2) ≤ 9999 := fun k hk => by
  have s := h.s18
  rw [h.g19 (j := 3 * k) (by omega), h.g19 (j := 3 * k + 1) (by omega), h.g19 (j := 3 * k + 2) (by omega)]
  exact h.mH k (by omega)
/-- the model's sum is that of the class, a life by itself -/
theorem a6.tir {w : List (List xE)} {la m : Nat} (h : a6 w 1 0) (hl : la < fld w 4 3) (hm : m ≤ fld w 8 3) : (wml (fun j => rwv w 83 (50 + j)) (fun i => wli (fun j => rwv w 83 (50 + j)) (bU (fun j => rwv w 83 (20 + j)) (fun q => q) (rwv w 83 0) la) (bfr (fun j => rwv w 83 (20 + j)) (fun q => q) (rwv w 83 0) la) (rwv w 83 (60 + (2 * i + 1))) (rwv w 83 1)) (fun i => rwv w 83 (60 + 2 * i)) (pr (fun j => rwv w 83 (50 + j)) (rwv w 83 1)) m) = (pr (rwv w 7) (fld w 6 3)) * wwh (rwv w 7) (wfd (fun i => wli (rwv w 7) (bU (rwv w 5) (fun q => q) (fld w 4 3) la) (bfr (rwv w 5) (fun q => q) (fld w 4 3) la) (rwv w 9 (2 * i + 1)) (fld w 6 3)) (fun i => rwv w 9 (2 * i)) m) (fld w 6 3) + wpt (rwv w 7) (wfd (fun i => wli (rwv w 7) (bU (rwv w 5) (fun q => q) (fld w 4 3) la) (bfr (rwv w 5) (fun q => q) (fld w 4 3) la) (rwv w 9 (2 * i + 1)) (fld w 6 3)) (fun i => rwv w 9 (2 * i)) m) (pr (rwv w 7) (fld w 6 3)) (fld w 6 3) ∧ (pr (fun j => rwv w 83 (50 + j)) (rwv w 83 1)) = (pr (rwv w 7) (fld w 6 3)) ∧ 1 ≤ (pr (rwv w 7) (fld w 6 3)) := by
  have z := al.beq h.1
  have s0 := h.1.s0
  have s6 := h.s6
  have s8 := h.s8
  have e7 : ∀ j, j < 2 * fld w 6 3 → (fun j => rwv w 83 (50 + j)) j = (rwv w 7) j := fun j hj => (h.g7 hj).symm
  have eC : (pr (fun j => rwv w 83 (50 + j)) (rwv w 83 1)) = (pr (rwv w 7) (fld w 6 3)) := by
    rw [← s6]
    exact pr_cg e7
  have li : ∀ i, i < m → (fun i => wli (fun j => rwv w 83 (50 + j)) (bU (fun j => rwv w 83 (20 + j)) (fun q => q) (rwv w 83 0) la) (bfr (fun j => rwv w 83 (20 + j)) (fun q => q) (rwv w 83 0) la) (rwv w 83 (60 + (2 * i + 1))) (rwv w 83 1)) i = (fun i => wli (rwv w 7) (bU (rwv w 5) (fun q => q) (fld w 4 3) la) (bfr (rwv w 5) (fun q => q) (fld w 4 3) la) (rwv w 9 (2 * i + 1)) (fld w 6 3)) i ∧ (fun i => rwv w 83 (60 + 2 * i)) i = (fun i => rwv w 9 (2 * i)) i := by
    intro i hi
    refine ⟨?_, (h.g9 (j := 2 * i) (by omega)).symm⟩
    show wli (fun j => rwv w 83 (50 + j)) (bU (fun j => rwv w 83 (20 + j)) (fun q => q) (rwv w 83 0) la) (bfr (fun j => rwv w 83 (20 + j)) (fun q => q) (rwv w 83 0) la) (rwv w 83 (60 + (2 * i + 1))) (rwv w 83 1) = wli (rwv w 7) (bU (rwv w 5) (fun q => q) (fld w 4 3) la) (bfr (rwv w 5) (fun q => q) (fld w 4 3) la) (rwv w 9 (2 * i + 1)) (fld w 6 3)
    rw [← s0, ← s6, ← h.g9 (j := 2 * i + 1) (by omega), (bOU_cg z hl).2, bfr_cg z hl]
    exact wli_cg e7 (Nat.le_refl _)
  refine ⟨?_, eC, (pr_le h.hv (by have := h.gF.1.2.1; omega)).1⟩
  have le : ∀ i, i < m → (fun i => wli (fun j => rwv w 83 (50 + j)) (bU (fun j => rwv w 83 (20 + j)) (fun q => q) (rwv w 83 0) la) (bfr (fun j => rwv w 83 (20 + j)) (fun q => q) (rwv w 83 0) la) (rwv w 83 (60 + (2 * i + 1))) (rwv w 83 1)) i ≤ rwv w 83 1 := fun i _ => wli_le
  rw [wml_eq (n := rwv w 83 1) le, eC]
  have q : sg (fun k => (pr (rwv w 7) (fld w 6 3)) / (fun j => rwv w 83 (50 + j)) (2 * k + 1) * wfd (fun i => wli (fun j => rwv w 83 (50 + j)) (bU (fun j => rwv w 83 (20 + j)) (fun q => q) (rwv w 83 0) la) (bfr (fun j => rwv w 83 (20 + j)) (fun q => q) (rwv w 83 0) la) (rwv w 83 (60 + (2 * i + 1))) (rwv w 83 1)) (fun i => rwv w 83 (60 + 2 * i)) m k) (rwv w 83 1) = sg (fun k => (pr (rwv w 7) (fld w 6 3)) / (rwv w 7) (2 * k + 1) * (wfd (fun i => wli (rwv w 7) (bU (rwv w 5) (fun q => q) (fld w 4 3) la) (bfr (rwv w 5) (fun q => q) (fld w 4 3) la) (rwv w 9 (2 * i + 1)) (fld w 6 3)) (fun i => rwv w 9 (2 * i)) m) k) (rwv w 83 1) := sg_cg (fun k hk => by
    show (pr (rwv w 7) (fld w 6 3)) / (fun j => rwv w 83 (50 + j)) (2 * k + 1) * wfd (fun i => wli (fun j => rwv w 83 (50 + j)) (bU (fun j => rwv w 83 (20 + j)) (fun q => q) (rwv w 83 0) la) (bfr (fun j => rwv w 83 (20 + j)) (fun q => q) (rwv w 83 0) la) (rwv w 83 (60 + (2 * i + 1))) (rwv w 83 1)) (fun i => rwv w 83 (60 + 2 * i)) m k = (pr (rwv w 7) (fld w 6 3)) / (rwv w 7) (2 * k + 1) * (wfd (fun i => wli (rwv w 7) (bU (rwv w 5) (fun q => q) (fld w 4 3) la) (bfr (rwv w 5) (fun q => q) (fld w 4 3) la) (rwv w 9 (2 * i + 1)) (fld w 6 3)) (fun i => rwv w 9 (2 * i)) m) k
    rw [e7 _ (by omega), wfd_cg li])
  rw [q, ← s6]
  exact wsum (fun k hk => ⟨(h.hv k hk).1, pr_dvd hk⟩)
end
section
/-! hands, in both -/
theorem a6.brk {w : List (List xE)} {la ti ro : Nat} (h : a6 w 1 0) (hl : la < fld w 4 3) : (0 < wwh (rwv w 7) (wfd (fun i => if i = fld w 8 3 then wli (rwv w 7) (bU (rwv w 5) (fun q => q) (fld w 4 3) la) (bfr (rwv w 5) (fun q => q) (fld w 4 3) la) ro (fld w 6 3) else wli (rwv w 7) (bU (rwv w 5) (fun q => q) (fld w 4 3) la) (bfr (rwv w 5) (fun q => q) (fld w 4 3) la) (rwv w 9 (2 * i + 1)) (fld w 6 3)) (fun i => if i = fld w 8 3 then ti else rwv w 9 (2 * i)) (fld w 8 3 + 1)) (fld w 6 3) ∨ pr (rwv w 7) (fld w 6 3) ≤ wpt (rwv w 7) (wfd (fun i => if i = fld w 8 3 then wli (rwv w 7) (bU (rwv w 5) (fun q => q) (fld w 4 3) la) (bfr (rwv w 5) (fun q => q) (fld w 4 3) la) ro (fld w 6 3) else wli (rwv w 7) (bU (rwv w 5) (fun q => q) (fld w 4 3) la) (bfr (rwv w 5) (fun q => q) (fld w 4 3) la) (rwv w 9 (2 * i + 1)) (fld w 6 3)) (fun i => if i = fld w 8 3 then ti else rwv w 9 (2 * i)) (fld w 8 3 + 1)) (pr (rwv w 7) (fld w 6 3)) (fld w 6 3)) ↔ ¬ ((wml (fun j => rwv w 83 (50 + j)) (fun i => if i = rwv w 83 2 then wli (fun j => rwv w 83 (50 + j)) (bU (fun j => rwv w 83 (20 + j)) (fun q => q) (rwv w 83 0) la) (bfr (fun j => rwv w 83 (20 + j)) (fun q => q) (rwv w 83 0) la) ro (rwv w 83 1) else wli (fun j => rwv w 83 (50 + j)) (bU (fun j => rwv w 83 (20 + j)) (fun q => q) (rwv w 83 0) la) (bfr (fun j => rwv w 83 (20 + j)) (fun q => q) (rwv w 83 0) la) (rwv w 83 (60 + (2 * i + 1))) (rwv w 83 1)) (fun i => if i = rwv w 83 2 then ti else rwv w 83 (60 + 2 * i)) (pr (fun j => rwv w 83 (50 + j)) (rwv w 83 1)) (rwv w 83 2 + 1)) < (pr (fun j => rwv w 83 (50 + j)) (rwv w 83 1))) := by
  have z := al.beq h.1
  have s0 := h.1.s0
  have s6 := h.s6
  have s8 := h.s8
  have e7 : ∀ j, j < 2 * fld w 6 3 → (fun j => rwv w 83 (50 + j)) j = (rwv w 7) j := fun j hj => (h.g7 hj).symm
  have eC : (pr (fun j => rwv w 83 (50 + j)) (rwv w 83 1)) = (pr (rwv w 7) (fld w 6 3)) := by
    rw [← s6]
    exact pr_cg e7
  have hc := (pr_le h.hv (by have := h.gF.1.2.1; omega)).1
  have li : ∀ i, i < rwv w 83 2 + 1 → (fun i => if i = rwv w 83 2 then wli (fun j => rwv w 83 (50 + j)) (bU (fun j => rwv w 83 (20 + j)) (fun q => q) (rwv w 83 0) la) (bfr (fun j => rwv w 83 (20 + j)) (fun q => q) (rwv w 83 0) la) ro (rwv w 83 1) else wli (fun j => rwv w 83 (50 + j)) (bU (fun j => rwv w 83 (20 + j)) (fun q => q) (rwv w 83 0) la) (bfr (fun j => rwv w 83 (20 + j)) (fun q => q) (rwv w 83 0) la) (rwv w 83 (60 + (2 * i + 1))) (rwv w 83 1)) i = (fun i => if i = fld w 8 3 then wli (rwv w 7) (bU (rwv w 5) (fun q => q) (fld w 4 3) la) (bfr (rwv w 5) (fun q => q) (fld w 4 3) la) ro (fld w 6 3) else wli (rwv w 7) (bU (rwv w 5) (fun q => q) (fld w 4 3) la) (bfr (rwv w 5) (fun q => q) (fld w 4 3) la) (rwv w 9 (2 * i + 1)) (fld w 6 3)) i ∧ (fun i => if i = rwv w 83 2 then ti else rwv w 83 (60 + 2 * i)) i = (fun i => if i = fld w 8 3 then ti else rwv w 9 (2 * i)) i := by
    intro i hi
    show (if i = rwv w 83 2 then wli (fun j => rwv w 83 (50 + j)) (bU (fun j => rwv w 83 (20 + j)) (fun q => q) (rwv w 83 0) la) (bfr (fun j => rwv w 83 (20 + j)) (fun q => q) (rwv w 83 0) la) ro (rwv w 83 1) else wli (fun j => rwv w 83 (50 + j)) (bU (fun j => rwv w 83 (20 + j)) (fun q => q) (rwv w 83 0) la) (bfr (fun j => rwv w 83 (20 + j)) (fun q => q) (rwv w 83 0) la) (rwv w 83 (60 + (2 * i + 1))) (rwv w 83 1)) = (if i = fld w 8 3 then wli (rwv w 7) (bU (rwv w 5) (fun q => q) (fld w 4 3) la) (bfr (rwv w 5) (fun q => q) (fld w 4 3) la) ro (fld w 6 3) else wli (rwv w 7) (bU (rwv w 5) (fun q => q) (fld w 4 3) la) (bfr (rwv w 5) (fun q => q) (fld w 4 3) la) (rwv w 9 (2 * i + 1)) (fld w 6 3)) ∧ (if i = rwv w 83 2 then ti else rwv w 83 (60 + 2 * i)) = (if i = fld w 8 3 then ti else rwv w 9 (2 * i))
    rw [← s0, ← s6, (bOU_cg z hl).2, bfr_cg z hl]
    by_cases e : i = rwv w 83 2
    · rw [if_pos e, if_pos e, if_pos (e.trans s8.symm), if_pos (e.trans s8.symm)]
      exact ⟨wli_cg e7 (Nat.le_refl _), rfl⟩
    · rw [if_neg e, if_neg e, if_neg (fun q => e (q.trans s8)), if_neg (fun q => e (q.trans s8)), ← h.g9 (j := 2 * i + 1) (by omega), ← h.g9 (j := 2 * i) (by omega)]
      exact ⟨wli_cg e7 (Nat.le_refl _), rfl⟩
  have le : ∀ i, i < rwv w 83 2 + 1 → (fun i => if i = rwv w 83 2 then wli (fun j => rwv w 83 (50 + j)) (bU (fun j => rwv w 83 (20 + j)) (fun q => q) (rwv w 83 0) la) (bfr (fun j => rwv w 83 (20 + j)) (fun q => q) (rwv w 83 0) la) ro (rwv w 83 1) else wli (fun j => rwv w 83 (50 + j)) (bU (fun j => rwv w 83 (20 + j)) (fun q => q) (rwv w 83 0) la) (bfr (fun j => rwv w 83 (20 + j)) (fun q => q) (rwv w 83 0) la) (rwv w 83 (60 + (2 * i + 1))) (rwv w 83 1)) i ≤ rwv w 83 1 := by
    intro i hi
    show (if i = rwv w 83 2 then wli (fun j => rwv w 83 (50 + j)) (bU (fun j => rwv w 83 (20 + j)) (fun q => q) (rwv w 83 0) la) (bfr (fun j => rwv w 83 (20 + j)) (fun q => q) (rwv w 83 0) la) ro (rwv w 83 1) else wli (fun j => rwv w 83 (50 + j)) (bU (fun j => rwv w 83 (20 + j)) (fun q => q) (rwv w 83 0) la) (bfr (fun j => rwv w 83 (20 + j)) (fun q => q) (rwv w 83 0) la) (rwv w 83 (60 + (2 * i + 1))) (rwv w 83 1)) ≤ rwv w 83 1
    split
    · exact wli_le
    · exact wli_le
  have sm : (wml (fun j => rwv w 83 (50 + j)) (fun i => if i = rwv w 83 2 then wli (fun j => rwv w 83 (50 + j)) (bU (fun j => rwv w 83 (20 + j)) (fun q => q) (rwv w 83 0) la) (bfr (fun j => rwv w 83 (20 + j)) (fun q => q) (rwv w 83 0) la) ro (rwv w 83 1) else wli (fun j => rwv w 83 (50 + j)) (bU (fun j => rwv w 83 (20 + j)) (fun q => q) (rwv w 83 0) la) (bfr (fun j => rwv w 83 (20 + j)) (fun q => q) (rwv w 83 0) la) (rwv w 83 (60 + (2 * i + 1))) (rwv w 83 1)) (fun i => if i = rwv w 83 2 then ti else rwv w 83 (60 + 2 * i)) (pr (fun j => rwv w 83 (50 + j)) (rwv w 83 1)) (rwv w 83 2 + 1)) = (pr (rwv w 7) (fld w 6 3)) * wwh (rwv w 7) (wfd (fun i => if i = fld w 8 3 then wli (rwv w 7) (bU (rwv w 5) (fun q => q) (fld w 4 3) la) (bfr (rwv w 5) (fun q => q) (fld w 4 3) la) ro (fld w 6 3) else wli (rwv w 7) (bU (rwv w 5) (fun q => q) (fld w 4 3) la) (bfr (rwv w 5) (fun q => q) (fld w 4 3) la) (rwv w 9 (2 * i + 1)) (fld w 6 3)) (fun i => if i = fld w 8 3 then ti else rwv w 9 (2 * i)) (fld w 8 3 + 1)) (fld w 6 3) + wpt (rwv w 7) (wfd (fun i => if i = fld w 8 3 then wli (rwv w 7) (bU (rwv w 5) (fun q => q) (fld w 4 3) la) (bfr (rwv w 5) (fun q => q) (fld w 4 3) la) ro (fld w 6 3) else wli (rwv w 7) (bU (rwv w 5) (fun q => q) (fld w 4 3) la) (bfr (rwv w 5) (fun q => q) (fld w 4 3) la) (rwv w 9 (2 * i + 1)) (fld w 6 3)) (fun i => if i = fld w 8 3 then ti else rwv w 9 (2 * i)) (fld w 8 3 + 1)) (pr (rwv w 7) (fld w 6 3)) (fld w 6 3) := by
    rw [wml_eq (n := rwv w 83 1) le, eC]
    have q : sg (fun k => (pr (rwv w 7) (fld w 6 3)) / (fun j => rwv w 83 (50 + j)) (2 * k + 1) * wfd (fun i => if i = rwv w 83 2 then wli (fun j => rwv w 83 (50 + j)) (bU (fun j => rwv w 83 (20 + j)) (fun q => q) (rwv w 83 0) la) (bfr (fun j => rwv w 83 (20 + j)) (fun q => q) (rwv w 83 0) la) ro (rwv w 83 1) else wli (fun j => rwv w 83 (50 + j)) (bU (fun j => rwv w 83 (20 + j)) (fun q => q) (rwv w 83 0) la) (bfr (fun j => rwv w 83 (20 + j)) (fun q => q) (rwv w 83 0) la) (rwv w 83 (60 + (2 * i + 1))) (rwv w 83 1)) (fun i => if i = rwv w 83 2 then ti else rwv w 83 (60 + 2 * i)) (rwv w 83 2 + 1) k) (rwv w 83 1) = sg (fun k => (pr (rwv w 7) (fld w 6 3)) / (rwv w 7) (2 * k + 1) * (wfd (fun i => if i = fld w 8 3 then wli (rwv w 7) (bU (rwv w 5) (fun q => q) (fld w 4 3) la) (bfr (rwv w 5) (fun q => q) (fld w 4 3) la) ro (fld w 6 3) else wli (rwv w 7) (bU (rwv w 5) (fun q => q) (fld w 4 3) la) (bfr (rwv w 5) (fun q => q) (fld w 4 3) la) (rwv w 9 (2 * i + 1)) (fld w 6 3)) (fun i => if i = fld w 8 3 then ti else rwv w 9 (2 * i)) (fld w 8 3 + 1)) k) (rwv w 83 1) := sg_cg (fun k hk => by
      show (pr (rwv w 7) (fld w 6 3)) / (fun j => rwv w 83 (50 + j)) (2 * k + 1) * wfd (fun i => if i = rwv w 83 2 then wli (fun j => rwv w 83 (50 + j)) (bU (fun j => rwv w 83 (20 + j)) (fun q => q) (rwv w 83 0) la) (bfr (fun j => rwv w 83 (20 + j)) (fun q => q) (rwv w 83 0) la) ro (rwv w 83 1) else wli (fun j => rwv w 83 (50 + j)) (bU (fun j => rwv w 83 (20 + j)) (fun q => q) (rwv w 83 0) la) (bfr (fun j => rwv w 83 (20 + j)) (fun q => q) (rwv w 83 0) la) (rwv w 83 (60 + (2 * i + 1))) (rwv w 83 1)) (fun i => if i = rwv w 83 2 then ti else rwv w 83 (60 + 2 * i)) (rwv w 83 2 + 1) k = (pr (rwv w 7) (fld w 6 3)) / (rwv w 7) (2 * k + 1) * (wfd (fun i => if i = fld w 8 3 then wli (rwv w 7) (bU (rwv w 5) (fun q => q) (fld w 4 3) la) (bfr (rwv w 5) (fun q => q) (fld w 4 3) la) ro (fld w 6 3) else wli (rwv w 7) (bU (rwv w 5) (fun q => q) (fld w 4 3) la) (bfr (rwv w 5) (fun q => q) (fld w 4 3) la) (rwv w 9 (2 * i + 1)) (fld w 6 3)) (fun i => if i = fld w 8 3 then ti else rwv w 9 (2 * i)) (fld w 8 3 + 1)) k
      rw [e7 _ (by omega), wfd_cg li, ← s8])
    rw [q, ← s6]
    exact wsum (fun k hk => ⟨(h.hv k hk).1, pr_dvd hk⟩)
  rw [wout_eq hc, sm, eC]
  omega
theorem a6.brh {w : List (List xE)} {ha ye : Nat} (h : a6 w 1 0) (hh : ha < fld w 18 3) : (∃ p, p < fld w 4 3 ∧ (0 < wwh (rwv w 7) (wfd (fun i => if i = fld w 8 3 then wli (rwv w 7) (bU (rwv w 5) (fun q => q) (fld w 4 3) p) (bfr (rwv w 5) (fun q => q) (fld w 4 3) p) (rwv w 19 (3 * ha + 2)) (fld w 6 3) else wli (rwv w 7) (bU (rwv w 5) (fun q => q) (fld w 4 3) p) (bfr (rwv w 5) (fun q => q) (fld w 4 3) p) (rwv w 9 (2 * i + 1)) (fld w 6 3)) (fun i => if i = fld w 8 3 then (365 * ye * rwv w 19 (3 * ha + 1)) else rwv w 9 (2 * i)) (fld w 8 3 + 1)) (fld w 6 3) ∨ pr (rwv w 7) (fld w 6 3) ≤ wpt (rwv w 7) (wfd (fun i => if i = fld w 8 3 then wli (rwv w 7) (bU (rwv w 5) (fun q => q) (fld w 4 3) p) (bfr (rwv w 5) (fun q => q) (fld w 4 3) p) (rwv w 19 (3 * ha + 2)) (fld w 6 3) else wli (rwv w 7) (bU (rwv w 5) (fun q => q) (fld w 4 3) p) (bfr (rwv w 5) (fun q => q) (fld w 4 3) p) (rwv w 9 (2 * i + 1)) (fld w 6 3)) (fun i => if i = fld w 8 3 then (365 * ye * rwv w 19 (3 * ha + 1)) else rwv w 9 (2 * i)) (fld w 8 3 + 1)) (pr (rwv w 7) (fld w 6 3)) (fld w 6 3))) ↔ (∃ p, p < rwv w 83 0 ∧ ¬ ((wml (fun j => rwv w 83 (50 + j)) (fun i => if i = rwv w 83 2 then wli (fun j => rwv w 83 (50 + j)) (bU (fun j => rwv w 83 (20 + j)) (fun q => q) (rwv w 83 0) p) (bfr (fun j => rwv w 83 (20 + j)) (fun q => q) (rwv w 83 0) p) (rwv w 83 (950 + (3 * ha + 2))) (rwv w 83 1) else wli (fun j => rwv w 83 (50 + j)) (bU (fun j => rwv w 83 (20 + j)) (fun q => q) (rwv w 83 0) p) (bfr (fun j => rwv w 83 (20 + j)) (fun q => q) (rwv w 83 0) p) (rwv w 83 (60 + (2 * i + 1))) (rwv w 83 1)) (fun i => if i = rwv w 83 2 then (365 * ye * rwv w 83 (950 + (3 * ha + 1))) else rwv w 83 (60 + 2 * i)) (pr (fun j => rwv w 83 (50 + j)) (rwv w 83 1)) (rwv w 83 2 + 1)) < (pr (fun j => rwv w 83 (50 + j)) (rwv w 83 1)))) := by
  have s0 := h.1.s0
  rw [h.g19 (j := 3 * ha + 1) (by omega), h.g19 (j := 3 * ha + 2) (by omega)]
  constructor
  · rintro ⟨p, h1, h2⟩
    exact ⟨p, by omega, (h.brk h1).mp h2⟩
  · rintro ⟨p, h1, h2⟩
    exact ⟨p, by omega, (h.brk (by omega)).mpr h2⟩
theorem a6.shr {w : List (List xE)} {ye n n' : Nat} (h : a6 w 1 0) (hc : ((∃ b : Nat → Nat, (∀ h, h < fld w 18 3 → b h ≤ 1 ∧ (b h = 1 ↔ (∃ p, p < fld w 4 3 ∧ (0 < wwh (rwv w 7) (wfd (fun i => if i = fld w 8 3 then wli (rwv w 7) (bU (rwv w 5) (fun q => q) (fld w 4 3) p) (bfr (rwv w 5) (fun q => q) (fld w 4 3) p) (rwv w 19 (3 * h + 2)) (fld w 6 3) else wli (rwv w 7) (bU (rwv w 5) (fun q => q) (fld w 4 3) p) (bfr (rwv w 5) (fun q => q) (fld w 4 3) p) (rwv w 9 (2 * i + 1)) (fld w 6 3)) (fun i => if i = fld w 8 3 then (365 * ye * rwv w 19 (3 * h + 1)) else rwv w 9 (2 * i)) (fld w 8 3 + 1)) (fld w 6 3) ∨ pr (rwv w 7) (fld w 6 3) ≤ wpt (rwv w 7) (wfd (fun i => if i = fld w 8 3 then wli (rwv w 7) (bU (rwv w 5) (fun q => q) (fld w 4 3) p) (bfr (rwv w 5) (fun q => q) (fld w 4 3) p) (rwv w 19 (3 * h + 2)) (fld w 6 3) else wli (rwv w 7) (bU (rwv w 5) (fun q => q) (fld w 4 3) p) (bfr (rwv w 5) (fun q => q) (fld w 4 3) p) (rwv w 9 (2 * i + 1)) (fld w 6 3)) (fun i => if i = fld w 8 3 then (365 * ye * rwv w 19 (3 * h + 1)) else rwv w 9 (2 * i)) (fld w 8 3 + 1)) (pr (rwv w 7) (fld w 6 3)) (fld w 6 3))))) ∧ n = (if sg (fun h => rwv w 19 (3 * h)) (fld w 18 3) = 0 then 0 else 1000 * sg (fun h => b h * rwv w 19 (3 * h)) (fld w 18 3) / sg (fun h => rwv w 19 (3 * h)) (fld w 18 3))) ∧ n ≤ 1000)) (hm : ((∃ b : Nat → Nat, (∀ h, h < rwv w 83 900 → b h ≤ 1 ∧ (b h = 1 ↔ (∃ p, p < rwv w 83 0 ∧ ¬ ((wml (fun j => rwv w 83 (50 + j)) (fun i => if i = rwv w 83 2 then wli (fun j => rwv w 83 (50 + j)) (bU (fun j => rwv w 83 (20 + j)) (fun q => q) (rwv w 83 0) p) (bfr (fun j => rwv w 83 (20 + j)) (fun q => q) (rwv w 83 0) p) (rwv w 83 (950 + (3 * h + 2))) (rwv w 83 1) else wli (fun j => rwv w 83 (50 + j)) (bU (fun j => rwv w 83 (20 + j)) (fun q => q) (rwv w 83 0) p) (bfr (fun j => rwv w 83 (20 + j)) (fun q => q) (rwv w 83 0) p) (rwv w 83 (60 + (2 * i + 1))) (rwv w 83 1)) (fun i => if i = rwv w 83 2 then (365 * ye * rwv w 83 (950 + (3 * h + 1))) else rwv w 83 (60 + 2 * i)) (pr (fun j => rwv w 83 (50 + j)) (rwv w 83 1)) (rwv w 83 2 + 1)) < (pr (fun j => rwv w 83 (50 + j)) (rwv w 83 1)))))) ∧ n' = (if sg (fun h => rwv w 83 (950 + 3 * h)) (rwv w 83 900) = 0 then 0 else 1000 * sg (fun h => b h * rwv w 83 (950 + 3 * h)) (rwv w 83 900) / sg (fun h => rwv w 83 (950 + 3 * h)) (rwv w 83 900))) ∧ n' ≤ 1000)) : n = n' := by
  obtain ⟨⟨b, hb, e1⟩, -⟩ := hc
  obtain ⟨⟨b', hb', e2⟩, -⟩ := hm
  have s18 := h.s18
  have eb : ∀ k, k < fld w 18 3 → b' k = b k := by
    intro k hk
    obtain ⟨x1, x2⟩ := hb k hk
    obtain ⟨y1, y2⟩ := hb' k (by omega)
    rw [← h.brh hk] at y2
    by_cases z : b k = 1
    · rw [z, y2.mpr (x2.mp z)]
    · have z' : ¬ b' k = 1 := fun q => z (x2.mpr (y2.mp q))
      omega
  have ea : sg (fun h => rwv w 83 (950 + 3 * h)) (rwv w 83 900) = sg (fun h => rwv w 19 (3 * h)) (fld w 18 3) := by
    rw [← s18]
    exact sg_cg (fun k hk => (h.g19 (j := 3 * k) (by omega)).symm)
  have es : sg (fun h => b' h * rwv w 83 (950 + 3 * h)) (rwv w 83 900) = sg (fun h => b h * rwv w 19 (3 * h)) (fld w 18 3) := by
    rw [← s18]
    exact sg_cg (fun k hk => by
      show b' k * rwv w 83 (950 + 3 * k) = b k * rwv w 19 (3 * k)
      rw [eb k hk, h.g19 (j := 3 * k) (by omega)])
  rw [e1, e2, ea, es]
end
