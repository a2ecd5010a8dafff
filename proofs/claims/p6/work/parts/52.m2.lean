/-! the model: lamps, laws -/
section XM2
variable {d : Nat} {w : List (List xE)} {bd : List (Nat × Nat)} {fc : List (Nat × Nat × Bool)} {rr : Nat × Nat}
theorem mAges (hI : xMnv w)  : xPq d mX12_ages [(2, 82)] w bd fc rr [] (fun w' => xMnv w' ∧ xFr [103] w w') := by
  refine xPq.of ?_
  show xTo d mX12_ages (0, [], [(0, (2, 82))], [], (w, bd, fc, 0, 0, rr)) (fun φ => ∃ w', xEnd 0 [] (w', bd, fc, 0, 0, rr) φ ∧ xMnv w' ∧ xFr [103] w w')
  refine xoCh82 (xqc82 hI : cp82 (wget w 82)) (fun f82_1 f82_3 f82_5 f82_7 f82_9 f82_11 f82_13 f82_15 f82_17 f82_19 f82_21 f82_22 f82_23 f82_25 f82_27 f82_29 h82_31 hb2 hb4 hb6 hb8 hb10 hb12 hb14 hb16 hb18 hb20 hb24 hb26 hb28 hb30 hb32 => ?_)
  refine xoX83 (xqc83 hI : cpx83 (wget w 83)) (fun g83_33 h83_34 hb35 hx36 => ?_)
  refine xg_t (xg_blq rfl) ?_
  refine xg_t (xg_const) ?_
  refine xg_t (xg_istore (l1 := [(0, (2, 82))]) rfl rfl rfl) ?_
  refine xg_t (xg_drop (l1 := [(0, (2, 82)), (1, (0, 0))]) (List.forall_mem_cons.mpr ⟨List.mem_cons_of_mem _ (List.mem_cons_self), List.forall_mem_cons.mpr ⟨List.mem_cons_self, fun _ h => absurd h List.not_mem_nil⟩⟩)) ?_
  have key37 : ∀ (m39 : Nat) (ki : Nat) (w40 : List (List xE)), 36 - ki < m39 → ki ≤ 36 → xMnv w40 → xFr [103] w w40 → xTo d mX12_ages (2, [], [(0, (2, 82)), (1, (0, ki))], [], (w40, bd, fc, 0, 0, rr)) (fun φ => ∃ w', xEnd 0 [] (w', bd, fc, 0, 0, rr) φ ∧ xMnv w' ∧ xFr [103] w w') := by
    intro m39
    induction m39 with
    | zero => intro ki w40 hz; exact absurd hz (Nat.not_lt_zero _)
    | succ m39 ih38 =>
      intro ki w40 hm44 hn43 hI41 hF42
      refine xg_t (xg_blq rfl) ?_
      refine xg_t (xg_iload (va := (0, ki)) rfl rfl) ?_
      refine xg_t (xg_bip) ?_
      by_cases hc45 : ki < 36
      · refine xg_t (xg_icF (u := ki) (v := 36) rfl xnm0 xnm0 (xj_geF hc45 (by omega))) ?_
        refine xg_t (xg_aload (va := (2, 82)) rfl rfl) ?_
        refine xg_t (xg_getf (va := (2, 103)) (hF42.get (by decide) h82_31) rfl) ?_
        refine xg_t (xg_iload (va := (0, ki)) rfl rfl) ?_
        refine xg_t (xg_const) ?_
        refine xoI (xqc103 hI41 : cpI 36 70 4294967295 (wget w40 103)) (fun g103_46 h103_47 hb48 => ?_)
        refine xg_iastK (n := ki) (u := 0) h103_47 xnm0 xnm0 rfl (by omega) (fun w49 hr50 hb51 => ?_)
        refine xg_t (xg_iinc (u := ki) (z := ki + 1) (l1 := [(0, (2, 82))]) rfl rfl (by omega) rfl) ?_
        refine xg_t (xg_goto) ?_
        refine xg_t (xg_drop (l1 := [(0, (2, 82)), (1, (0, ki + 1))]) (List.forall_mem_cons.mpr ⟨List.mem_cons_of_mem _ (List.mem_cons_self), List.forall_mem_cons.mpr ⟨List.mem_cons_self, fun _ h => absurd h List.not_mem_nil⟩⟩)) ?_
        exact ih38 (ki + 1) w49 (by omega) (by omega) (xMnv.up (S := [103]) hI41 (xFr.of (S := [103]) hb51 (by decide)) (List.forall_mem_cons.mpr ⟨xqu103 (show cpI 36 70 4294967295 (wget w49 103) from ⟨_, hr50, xrb (by omega) (hb48)⟩), fun _ h => absurd h List.not_mem_nil⟩)) ((hF42.tr (xFr.of (S := [103]) hb51 (by decide))))
      · refine xg_t (xg_icT (u := ki) (v := 36) rfl xnm0 xnm0 (xj_geT (by omega) (by omega))) ?_
        refine xg_t (xg_blq rfl) ?_
        refine xg_t (xg_const) ?_
        refine xg_t (xg_istore (l1 := [(0, (2, 82))]) rfl rfl rfl) ?_
        refine xg_t (xg_drop (l1 := [(0, (2, 82)), (1, (0, 0))]) (List.forall_mem_cons.mpr ⟨List.mem_cons_of_mem _ (List.mem_cons_self), List.forall_mem_cons.mpr ⟨List.mem_cons_self, fun _ h => absurd h List.not_mem_nil⟩⟩)) ?_
        have key52 : ∀ (m54 : Nat) (pi_ : Nat) (w55 : List (List xE)), 12 - pi_ < m54 → pi_ ≤ 12 → xMnv w55 → xFr [103] w w55 → xTo d mX12_ages (23, [], [(0, (2, 82)), (1, (0, pi_))], [], (w55, bd, fc, 0, 0, rr)) (fun φ => ∃ w', xEnd 0 [] (w', bd, fc, 0, 0, rr) φ ∧ xMnv w' ∧ xFr [103] w w') := by
          intro m54
          induction m54 with
          | zero => intro pi_ w55 hz; exact absurd hz (Nat.not_lt_zero _)
          | succ m54 ih53 =>
            intro pi_ w55 hm59 hn58 hI56 hF57
            refine xg_t (xg_blq rfl) ?_
            refine xg_t (xg_iload (va := (0, pi_)) rfl rfl) ?_
            refine xg_t (xg_aload (va := (2, 82)) rfl rfl) ?_
            refine xg_t (xg_getf (va := (2, 83)) (hF57.get (by decide) h82_31) rfl) ?_
            refine xg_t (xg_bip) ?_
            refine xg_ialdB (n := 10) (B := 4294967295) (h83_34.fr hF57 (by decide)) (hb35) xnm0 (by first | decide | omega) (fun u60 hu61 he62 => ?_)
            have hl63 : u60 ≤ 12 := by rw [← he62]; exact hx36.l10
            by_cases hc64 : pi_ < u60
            · refine xg_t (xg_icF (u := pi_) (v := u60) rfl xnm0 xnm0 (xj_geF hc64 (by omega))) ?_
              refine xg_t (xg_sip) ?_
              refine xg_t (xg_bip) ?_
              refine xg_t (xg_iload (va := (0, pi_)) rfl rfl) ?_
              refine xg_t (xg_imul (u := 6) (v := pi_) (z := 6 * pi_) xnm0 xnm0 (by omega)) ?_
              refine xg_t (xg_iadd (u := 300) (v := 6 * pi_) (z := 300 + (6 * pi_)) xnm0 xnm0 (by omega)) ?_
              refine xg_t (xg_istore (l1 := [(0, (2, 82)), (1, (0, pi_))]) rfl rfl rfl) ?_
              refine xg_t (xg_aload (va := (2, 82)) rfl rfl) ?_
              refine xg_t (xg_getf (va := (2, 83)) (hF57.get (by decide) h82_31) rfl) ?_
              refine xg_t (xg_iload (va := (0, 300 + (6 * pi_))) rfl rfl) ?_
              refine xg_ialdB (n := 300 + (6 * pi_)) (B := 4294967295) (h83_34.fr hF57 (by decide)) (hb35) xnm0 (by omega) (fun u65 hu66 he67 => ?_)
              have hl68 : u65 ≤ 5 := by rw [← he67]; exact hx36.pic (i := 0) (show pi_ < g83_33 10 by omega) (by decide)
              refine xg_t (xg_istore (l1 := [(2, (0, 300 + (6 * pi_))), (0, (2, 82)), (1, (0, pi_))]) rfl rfl rfl) ?_
              refine xg_t (xg_drop (l1 := [(0, (2, 82)), (1, (0, pi_)), (2, (0, 300 + (6 * pi_))), (3, (0, u65))]) (List.forall_mem_cons.mpr ⟨List.mem_cons_of_mem _ (List.mem_cons_of_mem _ (List.mem_cons_self)), List.forall_mem_cons.mpr ⟨List.mem_cons_of_mem _ (List.mem_cons_of_mem _ (List.mem_cons_of_mem _ (List.mem_cons_self))), List.forall_mem_cons.mpr ⟨List.mem_cons_of_mem _ (List.mem_cons_self), List.forall_mem_cons.mpr ⟨List.mem_cons_self, fun _ h => absurd h List.not_mem_nil⟩⟩⟩⟩)) ?_
              have key69 : ∀ (m71 : Nat) (ri : Nat) (w72 : List (List xE)), 6 - ri < m71 → ri ≤ 6 → xMnv w72 → xFr [103] w w72 → xTo d mX12_ages (50, [], [(0, (2, 82)), (1, (0, pi_)), (2, (0, 300 + (6 * pi_))), (3, (0, ri))], [], (w72, bd, fc, 0, 0, rr)) (fun φ => ∃ w', xEnd 0 [] (w', bd, fc, 0, 0, rr) φ ∧ xMnv w' ∧ xFr [103] w w') := by
                intro m71
                induction m71 with
                | zero => intro ri w72 hz; exact absurd hz (Nat.not_lt_zero _)
                | succ m71 ih70 =>
                  intro ri w72 hm76 hn75 hI73 hF74
                  refine xg_t (xg_blq rfl) ?_
                  refine xg_t (xg_iload (va := (0, ri)) rfl rfl) ?_
                  refine xg_t (xg_aload (va := (2, 82)) rfl rfl) ?_
                  refine xg_t (xg_getf (va := (2, 83)) (hF74.get (by decide) h82_31) rfl) ?_
                  refine xg_t (xg_iload (va := (0, 300 + (6 * pi_))) rfl rfl) ?_
                  refine xg_t (xg_const) ?_
                  refine xg_t (xg_iadd (u := 300 + (6 * pi_)) (v := 1) (z := (300 + (6 * pi_)) + 1) xnm0 xnm0 (by omega)) ?_
                  refine xg_ialdB (n := (300 + (6 * pi_)) + 1) (B := 4294967295) (h83_34.fr hF74 (by decide)) (hb35) xnm0 (by omega) (fun u77 hu78 he79 => ?_)
                  have hl80 : u77 ≤ 5 := by rw [← he79]; exact hx36.pic (i := 1) (show pi_ < g83_33 10 by omega) (by decide)
                  by_cases hc81 : u77 < ri
                  · refine xg_t (xg_icT (u := ri) (v := u77) rfl xnm0 xnm0 (xj_gtT hc81 (by omega))) ?_
                    refine xg_t (xg_blq rfl) ?_
                    refine xg_t (xg_iinc (u := pi_) (z := pi_ + 1) (l1 := [(0, (2, 82)), (2, (0, 300 + (6 * pi_))), (3, (0, ri))]) rfl rfl (by omega) rfl) ?_
                    refine xg_t (xg_goto) ?_
                    refine xg_t (xg_drop (l1 := [(0, (2, 82)), (1, (0, pi_ + 1))]) (List.forall_mem_cons.mpr ⟨List.mem_cons_of_mem _ (List.mem_cons_self), List.forall_mem_cons.mpr ⟨List.mem_cons_self, fun _ h => absurd h List.not_mem_nil⟩⟩)) ?_
                    exact ih53 (pi_ + 1) w72 (by omega) (by omega) (hI73) (hF74)
                  · refine xg_t (xg_icF (u := ri) (v := u77) rfl xnm0 xnm0 (xj_gtF (by omega) (by omega))) ?_
                    refine xg_t (xg_aload (va := (2, 82)) rfl rfl) ?_
                    refine xg_t (xg_getf (va := (2, 83)) (hF74.get (by decide) h82_31) rfl) ?_
                    refine xg_t (xg_iload (va := (0, 300 + (6 * pi_))) rfl rfl) ?_
                    refine xg_t (xg_const) ?_
                    refine xg_t (xg_iadd (u := 300 + (6 * pi_)) (v := 2) (z := (300 + (6 * pi_)) + 2) xnm0 xnm0 (by omega)) ?_
                    refine xg_ialdB (n := (300 + (6 * pi_)) + 2) (B := 4294967295) (h83_34.fr hF74 (by decide)) (hb35) xnm0 (by omega) (fun u82 hu83 he84 => ?_)
                    have hl85 : u82 ≤ 5 := by rw [← he84]; exact hx36.pic (i := 2) (show pi_ < g83_33 10 by omega) (by decide)
                    refine xg_t (xg_istore (l1 := [(0, (2, 82)), (1, (0, pi_)), (2, (0, 300 + (6 * pi_))), (3, (0, ri))]) rfl rfl rfl) ?_
                    refine xg_t (xg_drop (l1 := [(0, (2, 82)), (1, (0, pi_)), (2, (0, 300 + (6 * pi_))), (3, (0, ri)), (4, (0, u82))]) (List.forall_mem_cons.mpr ⟨List.mem_cons_of_mem _ (List.mem_cons_self), List.forall_mem_cons.mpr ⟨List.mem_cons_of_mem _ (List.mem_cons_of_mem _ (List.mem_cons_self)), List.forall_mem_cons.mpr ⟨List.mem_cons_of_mem _ (List.mem_cons_of_mem _ (List.mem_cons_of_mem _ (List.mem_cons_self))), List.forall_mem_cons.mpr ⟨List.mem_cons_of_mem _ (List.mem_cons_of_mem _ (List.mem_cons_of_mem _ (List.mem_cons_of_mem _ (List.mem_cons_self)))), List.forall_mem_cons.mpr ⟨List.mem_cons_self, fun _ h => absurd h List.not_mem_nil⟩⟩⟩⟩⟩)) ?_
                    have key86 : ∀ (m88 : Nat) (ci : Nat) (w89 : List (List xE)), 6 - ci < m88 → ci ≤ 6 → xMnv w89 → xFr [103] w w89 → xTo d mX12_ages (72, [], [(0, (2, 82)), (1, (0, pi_)), (2, (0, 300 + (6 * pi_))), (3, (0, ri)), (4, (0, ci))], [], (w89, bd, fc, 0, 0, rr)) (fun φ => ∃ w', xEnd 0 [] (w', bd, fc, 0, 0, rr) φ ∧ xMnv w' ∧ xFr [103] w w') := by
                      intro m88
                      induction m88 with
                      | zero => intro ci w89 hz; exact absurd hz (Nat.not_lt_zero _)
                      | succ m88 ih87 =>
                        intro ci w89 hm93 hn92 hI90 hF91
                        refine xg_t (xg_blq rfl) ?_
                        refine xg_t (xg_iload (va := (0, ci)) rfl rfl) ?_
                        refine xg_t (xg_aload (va := (2, 82)) rfl rfl) ?_
                        refine xg_t (xg_getf (va := (2, 83)) (hF91.get (by decide) h82_31) rfl) ?_
                        refine xg_t (xg_iload (va := (0, 300 + (6 * pi_))) rfl rfl) ?_
                        refine xg_t (xg_const) ?_
                        refine xg_t (xg_iadd (u := 300 + (6 * pi_)) (v := 3) (z := (300 + (6 * pi_)) + 3) xnm0 xnm0 (by omega)) ?_
                        refine xg_ialdB (n := (300 + (6 * pi_)) + 3) (B := 4294967295) (h83_34.fr hF91 (by decide)) (hb35) xnm0 (by omega) (fun u94 hu95 he96 => ?_)
                        have hl97 : u94 ≤ 5 := by rw [← he96]; exact hx36.pic (i := 3) (show pi_ < g83_33 10 by omega) (by decide)
                        by_cases hc98 : u94 < ci
                        · refine xg_t (xg_icT (u := ci) (v := u94) rfl xnm0 xnm0 (xj_gtT hc98 (by omega))) ?_
                          refine xg_t (xg_blq rfl) ?_
                          refine xg_t (xg_iinc (u := ri) (z := ri + 1) (l1 := [(0, (2, 82)), (1, (0, pi_)), (2, (0, 300 + (6 * pi_))), (4, (0, ci))]) rfl rfl (by omega) rfl) ?_
                          refine xg_t (xg_goto) ?_
                          refine xg_t (xg_drop (l1 := [(0, (2, 82)), (1, (0, pi_)), (2, (0, 300 + (6 * pi_))), (3, (0, ri + 1))]) (List.forall_mem_cons.mpr ⟨List.mem_cons_of_mem _ (List.mem_cons_self), List.forall_mem_cons.mpr ⟨List.mem_cons_of_mem _ (List.mem_cons_of_mem _ (List.mem_cons_self)), List.forall_mem_cons.mpr ⟨List.mem_cons_of_mem _ (List.mem_cons_of_mem _ (List.mem_cons_of_mem _ (List.mem_cons_self))), List.forall_mem_cons.mpr ⟨List.mem_cons_self, fun _ h => absurd h List.not_mem_nil⟩⟩⟩⟩)) ?_
                          exact ih70 (ri + 1) w89 (by omega) (by omega) (hI90) (hF91)
                        · refine xg_t (xg_icF (u := ci) (v := u94) rfl xnm0 xnm0 (xj_gtF (by omega) (by omega))) ?_
                          refine xg_t (xg_aload (va := (2, 82)) rfl rfl) ?_
                          refine xg_t (xg_getf (va := (2, 103)) (hF91.get (by decide) h82_31) rfl) ?_
                          refine xg_t (xg_bip) ?_
                          refine xg_t (xg_iload (va := (0, ri)) rfl rfl) ?_
                          refine xg_t (xg_imul (u := 6) (v := ri) (z := 6 * ri) xnm0 xnm0 (by omega)) ?_
                          refine xg_t (xg_iload (va := (0, ci)) rfl rfl) ?_
                          refine xg_t (xg_iadd (u := 6 * ri) (v := ci) (z := (6 * ri) + ci) xnm0 xnm0 (by omega)) ?_
                          refine xg_t (xg_dup2 rfl) ?_
                          refine xoI (xqc103 hI90 : cpI 36 70 4294967295 (wget w89 103)) (fun g103_99 h103_100 hb101 => ?_)
                          refine xg_ialdB (n := (6 * ri) + ci) (B := 4294967295) h103_100 (hb101) xnm0 (by omega) (fun u102 hu103 he104 => ?_)
                          refine xg_t (xg_aload (va := (2, 82)) rfl rfl) ?_
                          refine xg_t (xg_getf (va := (2, 83)) (hF91.get (by decide) h82_31) rfl) ?_
                          refine xg_t (xg_iload (va := (0, 300 + (6 * pi_))) rfl rfl) ?_
                          refine xg_t (xg_const) ?_
                          refine xg_t (xg_iadd (u := 300 + (6 * pi_)) (v := 4) (z := (300 + (6 * pi_)) + 4) xnm0 xnm0 (by omega)) ?_
                          refine xg_ialdB (n := (300 + (6 * pi_)) + 4) (B := 4294967295) (h83_34.fr hF91 (by decide)) (hb35) xnm0 (by omega) (fun u105 hu106 he107 => ?_)
                          refine xg_t (xg_aload (va := (2, 82)) rfl rfl) ?_
                          refine xg_t (xg_getf (va := (2, 83)) (hF91.get (by decide) h82_31) rfl) ?_
                          refine xg_t (xg_iload (va := (0, 300 + (6 * pi_))) rfl rfl) ?_
                          refine xg_t (xg_const) ?_
                          refine xg_t (xg_iadd (u := 300 + (6 * pi_)) (v := 5) (z := (300 + (6 * pi_)) + 5) xnm0 xnm0 (by omega)) ?_
                          refine xg_ialdB (n := (300 + (6 * pi_)) + 5) (B := 4294967295) (h83_34.fr hF91 (by decide)) (hb35) xnm0 (by omega) (fun u108 hu109 he110 => ?_)
                          refine xg_k (xg_imul (u := u105) (v := u108) (z := (u105 * u108) % 4294967296) xnm0 xnm0 rfl) (Nat.mod_lt _ (by decide)) (fun z111 hz112 => ?_)
                          refine xg_k (xg_iadd (u := u102) (v := z111) (z := (u102 + z111) % 4294967296) xnm0 xnm0 rfl) (Nat.mod_lt _ (by decide)) (fun z113 hz114 => ?_)
                          refine xg_iastK (n := (6 * ri) + ci) (u := z113) h103_100 xnm0 xnm0 rfl (by omega) (fun w115 hr116 hb117 => ?_)
                          refine xg_t (xg_iinc (u := ci) (z := ci + 1) (l1 := [(0, (2, 82)), (1, (0, pi_)), (2, (0, 300 + (6 * pi_))), (3, (0, ri))]) rfl rfl (by omega) rfl) ?_
                          refine xg_t (xg_goto) ?_
                          refine xg_t (xg_drop (l1 := [(0, (2, 82)), (1, (0, pi_)), (2, (0, 300 + (6 * pi_))), (3, (0, ri)), (4, (0, ci + 1))]) (List.forall_mem_cons.mpr ⟨List.mem_cons_of_mem _ (List.mem_cons_self), List.forall_mem_cons.mpr ⟨List.mem_cons_of_mem _ (List.mem_cons_of_mem _ (List.mem_cons_self)), List.forall_mem_cons.mpr ⟨List.mem_cons_of_mem _ (List.mem_cons_of_mem _ (List.mem_cons_of_mem _ (List.mem_cons_self))), List.forall_mem_cons.mpr ⟨List.mem_cons_of_mem _ (List.mem_cons_of_mem _ (List.mem_cons_of_mem _ (List.mem_cons_of_mem _ (List.mem_cons_self)))), List.forall_mem_cons.mpr ⟨List.mem_cons_self, fun _ h => absurd h List.not_mem_nil⟩⟩⟩⟩⟩)) ?_
                          exact ih87 (ci + 1) w115 (by omega) (by omega) (xMnv.up (S := [103]) hI90 (xFr.of (S := [103]) hb117 (by decide)) (List.forall_mem_cons.mpr ⟨xqu103 (show cpI 36 70 4294967295 (wget w115 103) from ⟨_, hr116, xrb (by omega) (hb101)⟩), fun _ h => absurd h List.not_mem_nil⟩)) ((hF91.tr (xFr.of (S := [103]) hb117 (by decide))))
                    exact key86 _ u82 w72 (Nat.lt_succ_self _) (by omega) (hI73) (hF74)
              exact key69 _ u65 w55 (Nat.lt_succ_self _) (by omega) (hI56) (hF57)
            · refine xg_t (xg_icT (u := pi_) (v := u60) rfl xnm0 xnm0 (xj_geT (by omega) (by omega))) ?_
              refine xg_t (xg_blq rfl) ?_
              exact xg_e ⟨w55, ⟨rfl, rfl⟩, hI56, hF57⟩
        exact key52 _ 0 w40 (Nat.lt_succ_self _) (by omega) (hI41) (hF42)
  exact key37 _ 0 w (Nat.lt_succ_self _) (by omega) (hI) (xFr.rf)
theorem mLeftOf {kk : Nat} (hI : xMnv w) (hkk : kk ≤ 35) : xPi d mX12_leftOf [(2, 82), (0, kk)] w bd fc rr (fun n w' => (n ≤ 4294967295) ∧ xMnv w' ∧ xFr [] w w') := by
  refine xPi.of ?_
  show xTo d mX12_leftOf (0, [], [(0, (2, 82)), (1, (0, kk))], [], (w, bd, fc, 0, 0, rr)) (fun φ => ∃ n w', xEnd 1 [(0, n)] (w', bd, fc, 0, 0, rr) φ ∧ (n ≤ 4294967295) ∧ xMnv w' ∧ xFr [] w w')
  refine xoCh82 (xqc82 hI : cp82 (wget w 82)) (fun f82_1 f82_3 f82_5 f82_7 f82_9 f82_11 f82_13 f82_15 f82_17 f82_19 f82_21 f82_22 f82_23 f82_25 f82_27 f82_29 h82_31 hb2 hb4 hb6 hb8 hb10 hb12 hb14 hb16 hb18 hb20 hb24 hb26 hb28 hb30 hb32 => ?_)
  refine xoI (xqc103 hI : cpI 36 70 4294967295 (wget w 103)) (fun g103_33 h103_34 hb35 => ?_)
  refine xg_t (xg_blq rfl) ?_
  refine xg_t (xg_aload (va := (2, 82)) rfl rfl) ?_
  refine xg_t (xg_getf (va := (2, 103)) h82_31 rfl) ?_
  refine xg_t (xg_iload (va := (0, kk)) rfl rfl) ?_
  refine xg_ialdB (n := kk) (B := 4294967295) h103_34 (hb35) xnm0 (by omega) (fun u36 hu37 he38 => ?_)
  refine xg_t (xg_bip) ?_
  refine xg_k (xg_idivG (u := u36) (v := 10) (by decide) xnm0 xnm0) (xpt_lt _) (fun z39 hz40 => ?_)
  refine xg_t (xg_sip) ?_
  by_cases hc41 : xbs 1000 < xbs z39
  · have hc41u := hc41
    unfold xbs at hc41u
    have hn42 : z39 ≤ 2147483647 := by omega
    refine xg_t (xg_icF (u := z39) (v := 1000) rfl xnm0 xnm0 (xjs_leF hc41)) ?_
    refine xg_t (xg_const) ?_
    refine xg_t (xg_goto) ?_
    refine xg_t (xg_blq rfl) ?_
    exact xg_e ⟨0, w, ⟨rfl, rfl⟩, by first | decide | omega, hI, xFr.rf⟩
  · have hc41u := hc41
    unfold xbs at hc41u
    refine xg_t (xg_icT (u := z39) (v := 1000) rfl xnm0 xnm0 (xjs_leT hc41)) ?_
    refine xg_t (xg_blq rfl) ?_
    refine xg_t (xg_sip) ?_
    refine xg_t (xg_aload (va := (2, 82)) rfl rfl) ?_
    refine xg_t (xg_getf (va := (2, 103)) h82_31 rfl) ?_
    refine xg_t (xg_iload (va := (0, kk)) rfl rfl) ?_
    refine xg_ialdB (n := kk) (B := 4294967295) h103_34 (hb35) xnm0 (by omega) (fun u43 hu44 he45 => ?_)
    refine xg_t (xg_bip) ?_
    refine xg_k (xg_idivG (u := u43) (v := 10) (by decide) xnm0 xnm0) (xpt_lt _) (fun z46 hz47 => ?_)
    refine xg_k (xg_isub (u := 1000) (v := z46) (z := (1000 + (4294967296 - z46)) % 4294967296) xnm0 xnm0 rfl) (Nat.mod_lt _ (by decide)) (fun z48 hz49 => ?_)
    refine xg_t (xg_blq rfl) ?_
    exact xg_e ⟨z48, w, ⟨rfl, rfl⟩, by omega, hI, xFr.rf⟩
theorem mLeft {ra ca : Nat} (hI : xMnv w) (hra : ra ≤ 4294967295) (hca : ca ≤ 4294967295) : xPi (d + 2) mX12_left [(2, 82), (0, ra), (0, ca)] w bd fc rr (fun n w' => (n ≤ 4294967295) ∧ xMnv w' ∧ xFr [103] w w') := by
  refine xPi.of ?_
  show xTo (d + 2) mX12_left (0, [], [(0, (2, 82)), (1, (0, ra)), (2, (0, ca))], [], (w, bd, fc, 0, 0, rr)) (fun φ => ∃ n w', xEnd 1 [(0, n)] (w', bd, fc, 0, 0, rr) φ ∧ (n ≤ 4294967295) ∧ xMnv w' ∧ xFr [103] w w')
  refine xoCh82 (xqc82 hI : cp82 (wget w 82)) (fun f82_1 f82_3 f82_5 f82_7 f82_9 f82_11 f82_13 f82_15 f82_17 f82_19 f82_21 f82_22 f82_23 f82_25 f82_27 f82_29 h82_31 hb2 hb4 hb6 hb8 hb10 hb12 hb14 hb16 hb18 hb20 hb24 hb26 hb28 hb30 hb32 => ?_)
  refine xoX83 (xqc83 hI : cpx83 (wget w 83)) (fun g83_33 h83_34 hb35 hx36 => ?_)
  refine xg_t (xg_blq rfl) ?_
  refine xg_t (xg_aload (va := (2, 82)) rfl rfl) ?_
  refine xg_t (xg_iload (va := (0, ra)) rfl rfl) ?_
  refine xg_t (xg_iload (va := (0, ca)) rfl rfl) ?_
  have hl37 := hx36.l5
  have hl38 := hx36.l6
  refine xg_cVi mX12_isPoint (vs := [(0, ra), (0, ca)]) (rest := []) (cn1 := 0) (sl1 := 0) rfl (mPoint (hI) (by omega) (by omega) h83_34 hb35 hx36) rfl h82_31 rfl rfl rfl rfl rfl rfl (fun n43 w39 hq40 => ?_)
  obtain ⟨hn44, hI41, hF42⟩ := hq40
  by_cases hc45 : n43 = 0
  · refine xg_t (xg_ifF (u := n43) rfl xnm0 (xj_neF hc45)) ?_
    refine xg_t (xg_const) ?_
    exact xg_e ⟨4294967295, w39, ⟨rfl, rfl⟩, by first | decide | omega, hI41, (hF42.up (by decide))⟩
  · refine xg_t (xg_ifT (u := n43) rfl xnm0 (xj_neT hc45)) ?_
    refine xg_t (xg_blq rfl) ?_
    refine xg_t (xg_aload (va := (2, 82)) rfl rfl) ?_
    refine xg_cVv mX12_ages (vs := []) (rest := []) (cn1 := 0) (sl1 := 0) rfl (mAges (hI41)) rfl (hF42.get (by decide) h82_31) rfl rfl rfl rfl rfl rfl (fun w46 hq47 => ?_)
    obtain ⟨hI48, hF49⟩ := hq47
    refine xg_t (xg_aload (va := (2, 82)) rfl rfl) ?_
    refine xg_t (xg_bip) ?_
    refine xg_t (xg_iload (va := (0, ra)) rfl rfl) ?_
    refine xg_t (xg_imul (u := 6) (v := ra) (z := 6 * ra) xnm0 xnm0 (by omega)) ?_
    refine xg_t (xg_iload (va := (0, ca)) rfl rfl) ?_
    refine xg_t (xg_iadd (u := 6 * ra) (v := ca) (z := (6 * ra) + ca) xnm0 xnm0 (by omega)) ?_
    refine xg_cVi mX12_leftOf (vs := [(0, (6 * ra) + ca)]) (rest := []) (cn1 := 0) (sl1 := 0) rfl (mLeftOf (hI48) (by omega)) rfl (hF49.get (by decide) (hF42.get (by decide) h82_31)) rfl rfl rfl rfl rfl rfl (fun n54 w50 hq51 => ?_)
    obtain ⟨hn55, hI52, hF53⟩ := hq51
    exact xg_e ⟨n54, w50, ⟨rfl, rfl⟩, by omega, hI52, (((hF42.up (by decide)).tr (hF49.up (by decide))).tr (hF53.up (by decide)))⟩
theorem mUnlike (hI : xMnv w)  : xPi (d + 2) mX12_unlike [(2, 82)] w bd fc rr (fun n w' => (n ≤ 4294967295) ∧ xMnv w' ∧ xFr [103] w w') := by
  refine xPi.of ?_
  show xTo (d + 2) mX12_unlike (0, [], [(0, (2, 82))], [], (w, bd, fc, 0, 0, rr)) (fun φ => ∃ n w', xEnd 1 [(0, n)] (w', bd, fc, 0, 0, rr) φ ∧ (n ≤ 4294967295) ∧ xMnv w' ∧ xFr [103] w w')
  refine xoCh82 (xqc82 hI : cp82 (wget w 82)) (fun f82_1 f82_3 f82_5 f82_7 f82_9 f82_11 f82_13 f82_15 f82_17 f82_19 f82_21 f82_22 f82_23 f82_25 f82_27 f82_29 h82_31 hb2 hb4 hb6 hb8 hb10 hb12 hb14 hb16 hb18 hb20 hb24 hb26 hb28 hb30 hb32 => ?_)
  refine xoX83 (xqc83 hI : cpx83 (wget w 83)) (fun g83_33 h83_34 hb35 hx36 => ?_)
  refine xg_t (xg_blq rfl) ?_
  refine xg_t (xg_aload (va := (2, 82)) rfl rfl) ?_
  refine xg_cVv mX12_ages (vs := []) (rest := []) (cn1 := 0) (sl1 := 0) rfl (mAges (hI)) rfl h82_31 rfl rfl rfl rfl rfl rfl (fun w37 hq38 => ?_)
  obtain ⟨hI39, hF40⟩ := hq38
  refine xg_t (xg_sip) ?_
  refine xg_t (xg_istore (l1 := [(0, (2, 82))]) rfl rfl rfl) ?_
  refine xg_t (xg_const) ?_
  refine xg_t (xg_istore (l1 := [(1, (0, 1000)), (0, (2, 82))]) rfl rfl rfl) ?_
  refine xg_t (xg_const) ?_
  refine xg_t (xg_istore (l1 := [(2, (0, 0)), (1, (0, 1000)), (0, (2, 82))]) rfl rfl rfl) ?_
  refine xg_t (xg_drop (l1 := [(0, (2, 82)), (1, (0, 1000)), (2, (0, 0)), (3, (0, 0))]) (List.forall_mem_cons.mpr ⟨List.mem_cons_of_mem _ (List.mem_cons_of_mem _ (List.mem_cons_of_mem _ (List.mem_cons_self))), List.forall_mem_cons.mpr ⟨List.mem_cons_of_mem _ (List.mem_cons_of_mem _ (List.mem_cons_self)), List.forall_mem_cons.mpr ⟨List.mem_cons_of_mem _ (List.mem_cons_self), List.forall_mem_cons.mpr ⟨List.mem_cons_self, fun _ h => absurd h List.not_mem_nil⟩⟩⟩⟩)) ?_
  have key41 : ∀ (m43 : Nat) (lw hg ki : Nat) (w44 : List (List xE)), 36 - ki < m43 → lw ≤ 4294967295 → hg ≤ 4294967295 → ki ≤ 36 → xMnv w44 → xFr [103] w w44 → xTo (d + 2) mX12_unlike (12, [], [(0, (2, 82)), (1, (0, lw)), (2, (0, hg)), (3, (0, ki))], [], (w44, bd, fc, 0, 0, rr)) (fun φ => ∃ n w', xEnd 1 [(0, n)] (w', bd, fc, 0, 0, rr) φ ∧ (n ≤ 4294967295) ∧ xMnv w' ∧ xFr [103] w w') := by
    intro m43
    induction m43 with
    | zero => intro lw hg ki w44 hz; exact absurd hz (Nat.not_lt_zero _)
    | succ m43 ih42 =>
      intro lw hg ki w44 hm50 hn47 hn48 hn49 hI45 hF46
      refine xg_t (xg_blq rfl) ?_
      refine xg_t (xg_iload (va := (0, ki)) rfl rfl) ?_
      refine xg_t (xg_bip) ?_
      by_cases hc51 : ki < 36
      · refine xg_t (xg_icF (u := ki) (v := 36) rfl xnm0 xnm0 (xj_geF hc51 (by omega))) ?_
        refine xg_t (xg_aload (va := (2, 82)) rfl rfl) ?_
        refine xg_t (xg_iload (va := (0, ki)) rfl rfl) ?_
        refine xg_t (xg_bip) ?_
        refine xg_t (xg_idiv (u := ki) (v := 6) (z := ki / 6) xnm0 xnm0 (by omega) (by decide) (by decide) (rfl)) ?_
        refine xg_t (xg_iload (va := (0, ki)) rfl rfl) ?_
        refine xg_t (xg_bip) ?_
        refine xg_t (xg_irem (u := ki) (v := 6) (z := ki % 6) xnm0 xnm0 (by omega) (by decide) (by decide) (rfl)) ?_
        have hl52 := hx36.l5
        have hl53 := hx36.l6
        refine xg_cVi mX12_isPoint (vs := [(0, ki / 6), (0, ki % 6)]) (rest := []) (cn1 := 0) (sl1 := 0) rfl (mPoint (hI45) (by omega) (by omega) (h83_34.fr hF46 (by decide)) hb35 hx36) rfl (hF46.get (by decide) h82_31) rfl rfl rfl rfl rfl rfl (fun n58 w54 hq55 => ?_)
        obtain ⟨hn59, hI56, hF57⟩ := hq55
        by_cases hc60 : n58 = 0
        · refine xg_t (xg_ifF (u := n58) rfl xnm0 (xj_neF hc60)) ?_
          refine xg_t (xg_goto) ?_
          refine xg_t (xg_blq rfl) ?_
          refine xg_t (xg_iinc (u := ki) (z := ki + 1) (l1 := [(0, (2, 82)), (1, (0, lw)), (2, (0, hg))]) rfl rfl (by omega) rfl) ?_
          refine xg_t (xg_goto) ?_
          refine xg_t (xg_drop (l1 := [(0, (2, 82)), (1, (0, lw)), (2, (0, hg)), (3, (0, ki + 1))]) (List.forall_mem_cons.mpr ⟨List.mem_cons_of_mem _ (List.mem_cons_self), List.forall_mem_cons.mpr ⟨List.mem_cons_of_mem _ (List.mem_cons_of_mem _ (List.mem_cons_self)), List.forall_mem_cons.mpr ⟨List.mem_cons_of_mem _ (List.mem_cons_of_mem _ (List.mem_cons_of_mem _ (List.mem_cons_self))), List.forall_mem_cons.mpr ⟨List.mem_cons_self, fun _ h => absurd h List.not_mem_nil⟩⟩⟩⟩)) ?_
          exact ih42 lw hg (ki + 1) w54 (by omega) (by omega) (by omega) (by omega) (hI56) ((hF46.tr (hF57.up (by decide))))
        · refine xg_t (xg_ifT (u := n58) rfl xnm0 (xj_neT hc60)) ?_
          refine xg_t (xg_blq rfl) ?_
          refine xg_t (xg_aload (va := (2, 82)) rfl rfl) ?_
          refine xg_t (xg_iload (va := (0, ki)) rfl rfl) ?_
          refine xg_cVi mX12_leftOf (vs := [(0, ki)]) (rest := []) (cn1 := 0) (sl1 := 0) rfl (mLeftOf (hI56) (by omega)) rfl (hF57.get (by decide) (hF46.get (by decide) h82_31)) rfl rfl rfl rfl rfl rfl (fun n65 w61 hq62 => ?_)
          obtain ⟨hn66, hI63, hF64⟩ := hq62
          refine xg_t (xg_iload (va := (0, lw)) rfl rfl) ?_
          by_cases hc67 : xbs n65 < xbs lw
          · have hc67u := hc67
            unfold xbs at hc67u
            refine xg_t (xg_icF (u := n65) (v := lw) rfl xnm0 xnm0 (xjs_geF hc67)) ?_
            refine xg_t (xg_aload (va := (2, 82)) rfl rfl) ?_
            refine xg_t (xg_iload (va := (0, ki)) rfl rfl) ?_
            refine xg_cVi mX12_leftOf (vs := [(0, ki)]) (rest := []) (cn1 := 0) (sl1 := 0) rfl (mLeftOf (hI63) (by omega)) rfl (hF64.get (by decide) (hF57.get (by decide) (hF46.get (by decide) h82_31))) rfl rfl rfl rfl rfl rfl (fun n72 w68 hq69 => ?_)
            obtain ⟨hn73, hI70, hF71⟩ := hq69
            refine xg_t (xg_goto) ?_
            refine xg_t (xg_blq rfl) ?_
            refine xg_t (xg_istore (l1 := [(0, (2, 82)), (2, (0, hg)), (3, (0, ki))]) rfl rfl rfl) ?_
            refine xg_t (xg_aload (va := (2, 82)) rfl rfl) ?_
            refine xg_t (xg_iload (va := (0, ki)) rfl rfl) ?_
            refine xg_cVi mX12_leftOf (vs := [(0, ki)]) (rest := []) (cn1 := 0) (sl1 := 0) rfl (mLeftOf (hI70) (by omega)) rfl (hF71.get (by decide) (hF64.get (by decide) (hF57.get (by decide) (hF46.get (by decide) h82_31)))) rfl rfl rfl rfl rfl rfl (fun n78 w74 hq75 => ?_)
            obtain ⟨hn79, hI76, hF77⟩ := hq75
            refine xg_t (xg_iload (va := (0, hg)) rfl rfl) ?_
            by_cases hc80 : xbs hg < xbs n78
            · have hc80u := hc80
              unfold xbs at hc80u
              refine xg_t (xg_icF (u := n78) (v := hg) rfl xnm0 xnm0 (xjs_leF hc80)) ?_
              refine xg_t (xg_aload (va := (2, 82)) rfl rfl) ?_
              refine xg_t (xg_iload (va := (0, ki)) rfl rfl) ?_
              refine xg_cVi mX12_leftOf (vs := [(0, ki)]) (rest := []) (cn1 := 0) (sl1 := 0) rfl (mLeftOf (hI76) (by omega)) rfl (hF77.get (by decide) (hF71.get (by decide) (hF64.get (by decide) (hF57.get (by decide) (hF46.get (by decide) h82_31))))) rfl rfl rfl rfl rfl rfl (fun n85 w81 hq82 => ?_)
              obtain ⟨hn86, hI83, hF84⟩ := hq82
              refine xg_t (xg_goto) ?_
              refine xg_t (xg_blq rfl) ?_
              refine xg_t (xg_istore (l1 := [(1, (0, n72)), (0, (2, 82)), (3, (0, ki))]) rfl rfl rfl) ?_
              refine xg_t (xg_blq rfl) ?_
              refine xg_t (xg_iinc (u := ki) (z := ki + 1) (l1 := [(2, (0, n85)), (1, (0, n72)), (0, (2, 82))]) rfl rfl (by omega) rfl) ?_
              refine xg_t (xg_goto) ?_
              refine xg_t (xg_drop (l1 := [(0, (2, 82)), (1, (0, n72)), (2, (0, n85)), (3, (0, ki + 1))]) (List.forall_mem_cons.mpr ⟨List.mem_cons_of_mem _ (List.mem_cons_of_mem _ (List.mem_cons_of_mem _ (List.mem_cons_self))), List.forall_mem_cons.mpr ⟨List.mem_cons_of_mem _ (List.mem_cons_of_mem _ (List.mem_cons_self)), List.forall_mem_cons.mpr ⟨List.mem_cons_of_mem _ (List.mem_cons_self), List.forall_mem_cons.mpr ⟨List.mem_cons_self, fun _ h => absurd h List.not_mem_nil⟩⟩⟩⟩)) ?_
              exact ih42 n72 n85 (ki + 1) w81 (by omega) (by omega) (by omega) (by omega) (hI83) ((((((hF46.tr (hF57.up (by decide))).tr (hF64.up (by decide))).tr (hF71.up (by decide))).tr (hF77.up (by decide))).tr (hF84.up (by decide))))
            · have hc80u := hc80
              unfold xbs at hc80u
              refine xg_t (xg_icT (u := n78) (v := hg) rfl xnm0 xnm0 (xjs_leT hc80)) ?_
              refine xg_t (xg_blq rfl) ?_
              refine xg_t (xg_iload (va := (0, hg)) rfl rfl) ?_
              refine xg_t (xg_blq rfl) ?_
              refine xg_t (xg_istore (l1 := [(1, (0, n72)), (0, (2, 82)), (3, (0, ki))]) rfl rfl rfl) ?_
              refine xg_t (xg_blq rfl) ?_
              refine xg_t (xg_iinc (u := ki) (z := ki + 1) (l1 := [(2, (0, hg)), (1, (0, n72)), (0, (2, 82))]) rfl rfl (by omega) rfl) ?_
              refine xg_t (xg_goto) ?_
              refine xg_t (xg_drop (l1 := [(0, (2, 82)), (1, (0, n72)), (2, (0, hg)), (3, (0, ki + 1))]) (List.forall_mem_cons.mpr ⟨List.mem_cons_of_mem _ (List.mem_cons_of_mem _ (List.mem_cons_of_mem _ (List.mem_cons_self))), List.forall_mem_cons.mpr ⟨List.mem_cons_of_mem _ (List.mem_cons_of_mem _ (List.mem_cons_self)), List.forall_mem_cons.mpr ⟨List.mem_cons_of_mem _ (List.mem_cons_self), List.forall_mem_cons.mpr ⟨List.mem_cons_self, fun _ h => absurd h List.not_mem_nil⟩⟩⟩⟩)) ?_
              exact ih42 n72 hg (ki + 1) w74 (by omega) (by omega) (by omega) (by omega) (hI76) (((((hF46.tr (hF57.up (by decide))).tr (hF64.up (by decide))).tr (hF71.up (by decide))).tr (hF77.up (by decide))))
          · have hc67u := hc67
            unfold xbs at hc67u
            refine xg_t (xg_icT (u := n65) (v := lw) rfl xnm0 xnm0 (xjs_geT hc67)) ?_
            refine xg_t (xg_blq rfl) ?_
            refine xg_t (xg_iload (va := (0, lw)) rfl rfl) ?_
            refine xg_t (xg_blq rfl) ?_
            refine xg_t (xg_istore (l1 := [(0, (2, 82)), (2, (0, hg)), (3, (0, ki))]) rfl rfl rfl) ?_
            refine xg_t (xg_aload (va := (2, 82)) rfl rfl) ?_
            refine xg_t (xg_iload (va := (0, ki)) rfl rfl) ?_
            refine xg_cVi mX12_leftOf (vs := [(0, ki)]) (rest := []) (cn1 := 0) (sl1 := 0) rfl (mLeftOf (hI63) (by omega)) rfl (hF64.get (by decide) (hF57.get (by decide) (hF46.get (by decide) h82_31))) rfl rfl rfl rfl rfl rfl (fun n91 w87 hq88 => ?_)
            obtain ⟨hn92, hI89, hF90⟩ := hq88
            refine xg_t (xg_iload (va := (0, hg)) rfl rfl) ?_
            by_cases hc93 : xbs hg < xbs n91
            · have hc93u := hc93
              unfold xbs at hc93u
              refine xg_t (xg_icF (u := n91) (v := hg) rfl xnm0 xnm0 (xjs_leF hc93)) ?_
              refine xg_t (xg_aload (va := (2, 82)) rfl rfl) ?_
              refine xg_t (xg_iload (va := (0, ki)) rfl rfl) ?_
              refine xg_cVi mX12_leftOf (vs := [(0, ki)]) (rest := []) (cn1 := 0) (sl1 := 0) rfl (mLeftOf (hI89) (by omega)) rfl (hF90.get (by decide) (hF64.get (by decide) (hF57.get (by decide) (hF46.get (by decide) h82_31)))) rfl rfl rfl rfl rfl rfl (fun n98 w94 hq95 => ?_)
              obtain ⟨hn99, hI96, hF97⟩ := hq95
              refine xg_t (xg_goto) ?_
              refine xg_t (xg_blq rfl) ?_
              refine xg_t (xg_istore (l1 := [(1, (0, lw)), (0, (2, 82)), (3, (0, ki))]) rfl rfl rfl) ?_
              refine xg_t (xg_blq rfl) ?_
              refine xg_t (xg_iinc (u := ki) (z := ki + 1) (l1 := [(2, (0, n98)), (1, (0, lw)), (0, (2, 82))]) rfl rfl (by omega) rfl) ?_
              refine xg_t (xg_goto) ?_
              refine xg_t (xg_drop (l1 := [(0, (2, 82)), (1, (0, lw)), (2, (0, n98)), (3, (0, ki + 1))]) (List.forall_mem_cons.mpr ⟨List.mem_cons_of_mem _ (List.mem_cons_of_mem _ (List.mem_cons_of_mem _ (List.mem_cons_self))), List.forall_mem_cons.mpr ⟨List.mem_cons_of_mem _ (List.mem_cons_of_mem _ (List.mem_cons_self)), List.forall_mem_cons.mpr ⟨List.mem_cons_of_mem _ (List.mem_cons_self), List.forall_mem_cons.mpr ⟨List.mem_cons_self, fun _ h => absurd h List.not_mem_nil⟩⟩⟩⟩)) ?_
              exact ih42 lw n98 (ki + 1) w94 (by omega) (by omega) (by omega) (by omega) (hI96) (((((hF46.tr (hF57.up (by decide))).tr (hF64.up (by decide))).tr (hF90.up (by decide))).tr (hF97.up (by decide))))
            · have hc93u := hc93
              unfold xbs at hc93u
              refine xg_t (xg_icT (u := n91) (v := hg) rfl xnm0 xnm0 (xjs_leT hc93)) ?_
              refine xg_t (xg_blq rfl) ?_
              refine xg_t (xg_iload (va := (0, hg)) rfl rfl) ?_
              refine xg_t (xg_blq rfl) ?_
              refine xg_t (xg_istore (l1 := [(1, (0, lw)), (0, (2, 82)), (3, (0, ki))]) rfl rfl rfl) ?_
              refine xg_t (xg_blq rfl) ?_
              refine xg_t (xg_iinc (u := ki) (z := ki + 1) (l1 := [(2, (0, hg)), (1, (0, lw)), (0, (2, 82))]) rfl rfl (by omega) rfl) ?_
              refine xg_t (xg_goto) ?_
              refine xg_t (xg_drop (l1 := [(0, (2, 82)), (1, (0, lw)), (2, (0, hg)), (3, (0, ki + 1))]) (List.forall_mem_cons.mpr ⟨List.mem_cons_of_mem _ (List.mem_cons_of_mem _ (List.mem_cons_of_mem _ (List.mem_cons_self))), List.forall_mem_cons.mpr ⟨List.mem_cons_of_mem _ (List.mem_cons_of_mem _ (List.mem_cons_self)), List.forall_mem_cons.mpr ⟨List.mem_cons_of_mem _ (List.mem_cons_self), List.forall_mem_cons.mpr ⟨List.mem_cons_self, fun _ h => absurd h List.not_mem_nil⟩⟩⟩⟩)) ?_
              exact ih42 lw hg (ki + 1) w87 (by omega) (by omega) (by omega) (by omega) (hI89) ((((hF46.tr (hF57.up (by decide))).tr (hF64.up (by decide))).tr (hF90.up (by decide))))
      · refine xg_t (xg_icT (u := ki) (v := 36) rfl xnm0 xnm0 (xj_geT (by omega) (by omega))) ?_
        refine xg_t (xg_blq rfl) ?_
        refine xg_t (xg_iload (va := (0, hg)) rfl rfl) ?_
        refine xg_t (xg_iload (va := (0, lw)) rfl rfl) ?_
        refine xg_k (xg_isub (u := hg) (v := lw) (z := (hg + (4294967296 - lw)) % 4294967296) xnm0 xnm0 rfl) (Nat.mod_lt _ (by decide)) (fun z100 hz101 => ?_)
        exact xg_e ⟨z100, w44, ⟨rfl, rfl⟩, by omega, hI45, hF46⟩
  exact key41 _ 1000 0 0 w37 (Nat.lt_succ_self _) (by omega) (by omega) (by omega) (hI39) ((hF40.up (by decide)))
theorem mWetAt {ra ca : Nat} (hI : xMnv w) (hra : ra ≤ 4294967295) (hca : ca ≤ 4294967295) : xPi (d + 2) mX12_wetAt [(2, 82), (0, ra), (0, ca)] w bd fc rr (fun n w' => (n ≤ 4294967295) ∧ xMnv w' ∧ xFr [] w w') := by
  refine xPi.of ?_
  show xTo (d + 2) mX12_wetAt (0, [], [(0, (2, 82)), (1, (0, ra)), (2, (0, ca))], [], (w, bd, fc, 0, 0, rr)) (fun φ => ∃ n w', xEnd 1 [(0, n)] (w', bd, fc, 0, 0, rr) φ ∧ (n ≤ 4294967295) ∧ xMnv w' ∧ xFr [] w w')
  refine xoCh82 (xqc82 hI : cp82 (wget w 82)) (fun f82_1 f82_3 f82_5 f82_7 f82_9 f82_11 f82_13 f82_15 f82_17 f82_19 f82_21 f82_22 f82_23 f82_25 f82_27 f82_29 h82_31 hb2 hb4 hb6 hb8 hb10 hb12 hb14 hb16 hb18 hb20 hb24 hb26 hb28 hb30 hb32 => ?_)
  refine xoX83 (xqc83 hI : cpx83 (wget w 83)) (fun g83_33 h83_34 hb35 hx36 => ?_)
  refine xoI (xqc104 hI : cpI 36 71 4294967295 (wget w 104)) (fun g104_37 h104_38 hb39 => ?_)
  refine xg_t (xg_blq rfl) ?_
  refine xg_t (xg_aload (va := (2, 82)) rfl rfl) ?_
  refine xg_t (xg_iload (va := (0, ra)) rfl rfl) ?_
  refine xg_t (xg_iload (va := (0, ca)) rfl rfl) ?_
  have hl40 := hx36.l5
  have hl41 := hx36.l6
  refine xg_cVi mX12_isPoint (vs := [(0, ra), (0, ca)]) (rest := []) (cn1 := 0) (sl1 := 0) rfl (mPoint (hI) (by omega) (by omega) h83_34 hb35 hx36) rfl h82_31 rfl rfl rfl rfl rfl rfl (fun n46 w42 hq43 => ?_)
  obtain ⟨hn47, hI44, hF45⟩ := hq43
  by_cases hc48 : n46 = 0
  · refine xg_t (xg_ifT (u := n46) rfl xnm0 (xj_eqT hc48)) ?_
    refine xg_t (xg_blq rfl) ?_
    refine xg_t (xg_bip) ?_
    refine xg_t (xg_blq rfl) ?_
    exact xg_e ⟨100, w42, ⟨rfl, rfl⟩, by first | decide | omega, hI44, (hF45.up (by decide))⟩
  · refine xg_t (xg_ifF (u := n46) rfl xnm0 (xj_eqF hc48)) ?_
    refine xg_t (xg_aload (va := (2, 82)) rfl rfl) ?_
    refine xg_t (xg_getf (va := (2, 104)) (hF45.get (by decide) h82_31) rfl) ?_
    refine xg_t (xg_bip) ?_
    refine xg_t (xg_iload (va := (0, ra)) rfl rfl) ?_
    refine xg_t (xg_imul (u := 6) (v := ra) (z := 6 * ra) xnm0 xnm0 (by omega)) ?_
    refine xg_t (xg_iload (va := (0, ca)) rfl rfl) ?_
    refine xg_t (xg_iadd (u := 6 * ra) (v := ca) (z := (6 * ra) + ca) xnm0 xnm0 (by omega)) ?_
    refine xg_ialdB (n := (6 * ra) + ca) (B := 4294967295) (h104_38.fr hF45 (by decide)) (hb39) xnm0 (by omega) (fun u49 hu50 he51 => ?_)
    refine xg_t (xg_goto) ?_
    refine xg_t (xg_blq rfl) ?_
    exact xg_e ⟨u49, w42, ⟨rfl, rfl⟩, by omega, hI44, (hF45.up (by decide))⟩
theorem mDamps (hI : xMnv w)  : xPq (d + 3) mX12_damps [(2, 82)] w bd fc rr [] (fun w' => xMnv w' ∧ xFr [104, 105] w w') := by
  refine xPq.of ?_
  show xTo (d + 3) mX12_damps (0, [], [(0, (2, 82))], [], (w, bd, fc, 0, 0, rr)) (fun φ => ∃ w', xEnd 0 [] (w', bd, fc, 0, 0, rr) φ ∧ xMnv w' ∧ xFr [104, 105] w w')
  refine xoCh82 (xqc82 hI : cp82 (wget w 82)) (fun f82_1 f82_3 f82_5 f82_7 f82_9 f82_11 f82_13 f82_15 f82_17 f82_19 f82_21 f82_22 f82_23 f82_25 f82_27 f82_29 h82_31 hb2 hb4 hb6 hb8 hb10 hb12 hb14 hb16 hb18 hb20 hb24 hb26 hb28 hb30 hb32 => ?_)
  refine xoX83 (xqc83 hI : cpx83 (wget w 83)) (fun g83_33 h83_34 hb35 hx36 => ?_)
  refine xg_t (xg_blq rfl) ?_
  refine xg_t (xg_const) ?_
  refine xg_t (xg_istore (l1 := [(0, (2, 82))]) rfl rfl rfl) ?_
  refine xg_t (xg_drop (l1 := [(0, (2, 82)), (1, (0, 0))]) (List.forall_mem_cons.mpr ⟨List.mem_cons_of_mem _ (List.mem_cons_self), List.forall_mem_cons.mpr ⟨List.mem_cons_self, fun _ h => absurd h List.not_mem_nil⟩⟩)) ?_
  have key37 : ∀ (m39 : Nat) (ki : Nat) (w40 : List (List xE)), 36 - ki < m39 → ki ≤ 36 → xMnv w40 → xFr [104, 105] w w40 → xTo (d + 3) mX12_damps (2, [], [(0, (2, 82)), (1, (0, ki))], [], (w40, bd, fc, 0, 0, rr)) (fun φ => ∃ w', xEnd 0 [] (w', bd, fc, 0, 0, rr) φ ∧ xMnv w' ∧ xFr [104, 105] w w') := by
    intro m39
    induction m39 with
    | zero => intro ki w40 hz; exact absurd hz (Nat.not_lt_zero _)
    | succ m39 ih38 =>
      intro ki w40 hm44 hn43 hI41 hF42
      refine xg_t (xg_blq rfl) ?_
      refine xg_t (xg_iload (va := (0, ki)) rfl rfl) ?_
      refine xg_t (xg_bip) ?_
      by_cases hc45 : ki < 36
      · refine xg_t (xg_icF (u := ki) (v := 36) rfl xnm0 xnm0 (xj_geF hc45 (by omega))) ?_
        refine xg_t (xg_aload (va := (2, 82)) rfl rfl) ?_
        refine xg_t (xg_getf (va := (2, 104)) (hF42.get (by decide) h82_31) rfl) ?_
        refine xg_t (xg_iload (va := (0, ki)) rfl rfl) ?_
        refine xg_t (xg_const) ?_
        refine xoI (xqc104 hI41 : cpI 36 71 4294967295 (wget w40 104)) (fun g104_46 h104_47 hb48 => ?_)
        refine xg_iastK (n := ki) (u := 0) h104_47 xnm0 xnm0 rfl (by omega) (fun w49 hr50 hb51 => ?_)
        refine xg_t (xg_iinc (u := ki) (z := ki + 1) (l1 := [(0, (2, 82))]) rfl rfl (by omega) rfl) ?_
        refine xg_t (xg_goto) ?_
        refine xg_t (xg_drop (l1 := [(0, (2, 82)), (1, (0, ki + 1))]) (List.forall_mem_cons.mpr ⟨List.mem_cons_of_mem _ (List.mem_cons_self), List.forall_mem_cons.mpr ⟨List.mem_cons_self, fun _ h => absurd h List.not_mem_nil⟩⟩)) ?_
        exact ih38 (ki + 1) w49 (by omega) (by omega) (xMnv.up (S := [104]) hI41 (xFr.of (S := [104]) hb51 (by decide)) (List.forall_mem_cons.mpr ⟨xqu104 (show cpI 36 71 4294967295 (wget w49 104) from ⟨_, hr50, xrb (by omega) (hb48)⟩), fun _ h => absurd h List.not_mem_nil⟩)) ((hF42.tr (xFr.of (S := [104, 105]) hb51 (by decide))))
      · refine xg_t (xg_icT (u := ki) (v := 36) rfl xnm0 xnm0 (xj_geT (by omega) (by omega))) ?_
        refine xg_t (xg_blq rfl) ?_
        refine xg_t (xg_const) ?_
        refine xg_t (xg_istore (l1 := [(0, (2, 82))]) rfl rfl rfl) ?_
        refine xg_t (xg_drop (l1 := [(0, (2, 82)), (1, (0, 0))]) (List.forall_mem_cons.mpr ⟨List.mem_cons_of_mem _ (List.mem_cons_self), List.forall_mem_cons.mpr ⟨List.mem_cons_self, fun _ h => absurd h List.not_mem_nil⟩⟩)) ?_
        have key52 : ∀ (m54 : Nat) (di : Nat) (w55 : List (List xE)), 200 - di < m54 → di ≤ 200 → xMnv w55 → xFr [104, 105] w w55 → xTo (d + 3) mX12_damps (23, [], [(0, (2, 82)), (1, (0, di))], [], (w55, bd, fc, 0, 0, rr)) (fun φ => ∃ w', xEnd 0 [] (w', bd, fc, 0, 0, rr) φ ∧ xMnv w' ∧ xFr [104, 105] w w') := by
          intro m54
          induction m54 with
          | zero => intro di w55 hz; exact absurd hz (Nat.not_lt_zero _)
          | succ m54 ih53 =>
            intro di w55 hm59 hn58 hI56 hF57
            refine xg_t (xg_blq rfl) ?_
            refine xg_t (xg_iload (va := (0, di)) rfl rfl) ?_
            refine xg_t (xg_aload (va := (2, 82)) rfl rfl) ?_
            refine xg_t (xg_getf (va := (2, 83)) (hF57.get (by decide) h82_31) rfl) ?_
            refine xg_t (xg_bip) ?_
            refine xg_ialdB (n := 13) (B := 4294967295) (h83_34.fr hF57 (by decide)) (hb35) xnm0 (by first | decide | omega) (fun u60 hu61 he62 => ?_)
            have hl63 : u60 ≤ 200 := by rw [← he62]; exact hx36.l13
            by_cases hc64 : di < u60
            · refine xg_t (xg_icF (u := di) (v := u60) rfl xnm0 xnm0 (xj_geF hc64 (by omega))) ?_
              refine xg_t (xg_const) ?_
              refine xg_t (xg_istore (l1 := [(0, (2, 82)), (1, (0, di))]) rfl rfl rfl) ?_
              refine xg_t (xg_drop (l1 := [(0, (2, 82)), (1, (0, di)), (2, (0, 0))]) (List.forall_mem_cons.mpr ⟨List.mem_cons_of_mem _ (List.mem_cons_self), List.forall_mem_cons.mpr ⟨List.mem_cons_of_mem _ (List.mem_cons_of_mem _ (List.mem_cons_self)), List.forall_mem_cons.mpr ⟨List.mem_cons_self, fun _ h => absurd h List.not_mem_nil⟩⟩⟩)) ?_
              have key65 : ∀ (m67 : Nat) (kj : Nat) (w68 : List (List xE)), 36 - kj < m67 → kj ≤ 36 → xMnv w68 → xFr [104, 105] w w68 → xTo (d + 3) mX12_damps (36, [], [(0, (2, 82)), (1, (0, di)), (2, (0, kj))], [], (w68, bd, fc, 0, 0, rr)) (fun φ => ∃ w', xEnd 0 [] (w', bd, fc, 0, 0, rr) φ ∧ xMnv w' ∧ xFr [104, 105] w w') := by
                intro m67
                induction m67 with
                | zero => intro kj w68 hz; exact absurd hz (Nat.not_lt_zero _)
                | succ m67 ih66 =>
                  intro kj w68 hm72 hn71 hI69 hF70
                  refine xg_t (xg_blq rfl) ?_
                  refine xg_t (xg_iload (va := (0, kj)) rfl rfl) ?_
                  refine xg_t (xg_bip) ?_
                  by_cases hc73 : kj < 36
                  · refine xg_t (xg_icF (u := kj) (v := 36) rfl xnm0 xnm0 (xj_geF hc73 (by omega))) ?_
                    refine xg_t (xg_iload (va := (0, kj)) rfl rfl) ?_
                    refine xg_t (xg_bip) ?_
                    refine xg_t (xg_idiv (u := kj) (v := 6) (z := kj / 6) xnm0 xnm0 (by omega) (by decide) (by decide) (rfl)) ?_
                    refine xg_t (xg_istore (l1 := [(0, (2, 82)), (1, (0, di)), (2, (0, kj))]) rfl rfl rfl) ?_
                    refine xg_t (xg_iload (va := (0, kj)) rfl rfl) ?_
                    refine xg_t (xg_bip) ?_
                    refine xg_t (xg_irem (u := kj) (v := 6) (z := kj % 6) xnm0 xnm0 (by omega) (by decide) (by decide) (rfl)) ?_
                    refine xg_t (xg_istore (l1 := [(3, (0, kj / 6)), (0, (2, 82)), (1, (0, di)), (2, (0, kj))]) rfl rfl rfl) ?_
                    refine xg_t (xg_aload (va := (2, 82)) rfl rfl) ?_
                    refine xg_t (xg_getf (va := (2, 105)) (hF70.get (by decide) h82_31) rfl) ?_
                    refine xg_t (xg_iload (va := (0, kj)) rfl rfl) ?_
                    refine xg_t (xg_aload (va := (2, 82)) rfl rfl) ?_
                    refine xg_t (xg_iload (va := (0, kj / 6)) rfl rfl) ?_
                    refine xg_t (xg_iload (va := (0, kj % 6)) rfl rfl) ?_
                    have hl74 := hx36.l5
                    have hl75 := hx36.l6
                    refine xg_cVi mX12_isPoint (vs := [(0, kj / 6), (0, kj % 6)]) (rest := [(0, kj), (2, 105)]) (cn1 := 0) (sl1 := 0) rfl (mPoint (hI69) (by omega) (by omega) (h83_34.fr hF70 (by decide)) hb35 hx36) rfl (hF70.get (by decide) h82_31) rfl rfl rfl rfl rfl rfl (fun n80 w76 hq77 => ?_)
                    obtain ⟨hn81, hI78, hF79⟩ := hq77
                    by_cases hc82 : n80 = 0
                    · refine xg_t (xg_ifT (u := n80) rfl xnm0 (xj_eqT hc82)) ?_
                      refine xg_t (xg_blq rfl) ?_
                      refine xg_t (xg_const) ?_
                      refine xg_t (xg_blq rfl) ?_
                      refine xoI (xqc105 hI78 : cpI 36 72 4294967295 (wget w76 105)) (fun g105_83 h105_84 hb85 => ?_)
                      refine xg_iastK (n := kj) (u := 0) h105_84 xnm0 xnm0 rfl (by omega) (fun w86 hr87 hb88 => ?_)
                      refine xg_t (xg_iinc (u := kj) (z := kj + 1) (l1 := [(4, (0, kj % 6)), (3, (0, kj / 6)), (0, (2, 82)), (1, (0, di))]) rfl rfl (by omega) rfl) ?_
                      refine xg_t (xg_goto) ?_
                      refine xg_t (xg_drop (l1 := [(0, (2, 82)), (1, (0, di)), (2, (0, kj + 1))]) (List.forall_mem_cons.mpr ⟨List.mem_cons_of_mem _ (List.mem_cons_of_mem _ (List.mem_cons_of_mem _ (List.mem_cons_self))), List.forall_mem_cons.mpr ⟨List.mem_cons_of_mem _ (List.mem_cons_of_mem _ (List.mem_cons_of_mem _ (List.mem_cons_of_mem _ (List.mem_cons_self)))), List.forall_mem_cons.mpr ⟨List.mem_cons_self, fun _ h => absurd h List.not_mem_nil⟩⟩⟩)) ?_
                      exact ih66 (kj + 1) w86 (by omega) (by omega) (xMnv.up (S := [105]) hI78 (xFr.of (S := [105]) hb88 (by decide)) (List.forall_mem_cons.mpr ⟨xqu105 (show cpI 36 72 4294967295 (wget w86 105) from ⟨_, hr87, xrb (by omega) (hb85)⟩), fun _ h => absurd h List.not_mem_nil⟩)) (((hF70.tr (hF79.up (by decide))).tr (xFr.of (S := [104, 105]) hb88 (by decide))))
                    · refine xg_t (xg_ifF (u := n80) rfl xnm0 (xj_eqF hc82)) ?_
                      refine xg_t (xg_const) ?_
                      refine xg_t (xg_aload (va := (2, 82)) rfl rfl) ?_
                      refine xg_t (xg_getf (va := (2, 104)) (hF79.get (by decide) (hF70.get (by decide) h82_31)) rfl) ?_
                      refine xg_t (xg_iload (va := (0, kj)) rfl rfl) ?_
                      refine xoI (xqc104 hI78 : cpI 36 71 4294967295 (wget w76 104)) (fun g104_89 h104_90 hb91 => ?_)
                      refine xg_ialdB (n := kj) (B := 4294967295) h104_90 (hb91) xnm0 (by omega) (fun u92 hu93 he94 => ?_)
                      refine xg_k (xg_imul (u := 4) (v := u92) (z := (4 * u92) % 4294967296) xnm0 xnm0 rfl) (Nat.mod_lt _ (by decide)) (fun z95 hz96 => ?_)
                      refine xg_t (xg_aload (va := (2, 82)) rfl rfl) ?_
                      refine xg_t (xg_iload (va := (0, kj / 6)) rfl rfl) ?_
                      refine xg_t (xg_const) ?_
                      refine xg_k (xg_isub (u := kj / 6) (v := 1) (z := ((kj / 6) + (4294967296 - 1)) % 4294967296) xnm0 xnm0 rfl) (Nat.mod_lt _ (by decide)) (fun z97 hz98 => ?_)
                      refine xg_t (xg_iload (va := (0, kj % 6)) rfl rfl) ?_
                      refine xg_cVi mX12_wetAt (vs := [(0, z97), (0, kj % 6)]) (rest := [(0, z95), (0, kj), (2, 105)]) (cn1 := 0) (sl1 := 0) rfl (mWetAt (hI78) (by omega) (by omega)) rfl (hF79.get (by decide) (hF70.get (by decide) h82_31)) rfl rfl rfl rfl rfl rfl (fun n103 w99 hq100 => ?_)
                      obtain ⟨hn104, hI101, hF102⟩ := hq100
                      refine xg_k (xg_iadd (u := z95) (v := n103) (z := (z95 + n103) % 4294967296) xnm0 xnm0 rfl) (Nat.mod_lt _ (by decide)) (fun z105 hz106 => ?_)
                      refine xg_t (xg_aload (va := (2, 82)) rfl rfl) ?_
                      refine xg_t (xg_iload (va := (0, kj / 6)) rfl rfl) ?_
                      refine xg_t (xg_const) ?_
                      refine xg_t (xg_iadd (u := kj / 6) (v := 1) (z := (kj / 6) + 1) xnm0 xnm0 (by omega)) ?_
                      refine xg_t (xg_iload (va := (0, kj % 6)) rfl rfl) ?_
                      refine xg_cVi mX12_wetAt (vs := [(0, (kj / 6) + 1), (0, kj % 6)]) (rest := [(0, z105), (0, kj), (2, 105)]) (cn1 := 0) (sl1 := 0) rfl (mWetAt (hI101) (by omega) (by omega)) rfl (hF102.get (by decide) (hF79.get (by decide) (hF70.get (by decide) h82_31))) rfl rfl rfl rfl rfl rfl (fun n111 w107 hq108 => ?_)
                      obtain ⟨hn112, hI109, hF110⟩ := hq108
                      refine xg_k (xg_iadd (u := z105) (v := n111) (z := (z105 + n111) % 4294967296) xnm0 xnm0 rfl) (Nat.mod_lt _ (by decide)) (fun z113 hz114 => ?_)
                      refine xg_t (xg_aload (va := (2, 82)) rfl rfl) ?_
                      refine xg_t (xg_iload (va := (0, kj / 6)) rfl rfl) ?_
                      refine xg_t (xg_iload (va := (0, kj % 6)) rfl rfl) ?_
                      refine xg_t (xg_const) ?_
                      refine xg_k (xg_isub (u := kj % 6) (v := 1) (z := ((kj % 6) + (4294967296 - 1)) % 4294967296) xnm0 xnm0 rfl) (Nat.mod_lt _ (by decide)) (fun z115 hz116 => ?_)
                      refine xg_cVi mX12_wetAt (vs := [(0, kj / 6), (0, z115)]) (rest := [(0, z113), (0, kj), (2, 105)]) (cn1 := 0) (sl1 := 0) rfl (mWetAt (hI109) (by omega) (by omega)) rfl (hF110.get (by decide) (hF102.get (by decide) (hF79.get (by decide) (hF70.get (by decide) h82_31)))) rfl rfl rfl rfl rfl rfl (fun n121 w117 hq118 => ?_)
                      obtain ⟨hn122, hI119, hF120⟩ := hq118
                      refine xg_k (xg_iadd (u := z113) (v := n121) (z := (z113 + n121) % 4294967296) xnm0 xnm0 rfl) (Nat.mod_lt _ (by decide)) (fun z123 hz124 => ?_)
                      refine xg_t (xg_aload (va := (2, 82)) rfl rfl) ?_
                      refine xg_t (xg_iload (va := (0, kj / 6)) rfl rfl) ?_
                      refine xg_t (xg_iload (va := (0, kj % 6)) rfl rfl) ?_
                      refine xg_t (xg_const) ?_
                      refine xg_t (xg_iadd (u := kj % 6) (v := 1) (z := (kj % 6) + 1) xnm0 xnm0 (by omega)) ?_
                      refine xg_cVi mX12_wetAt (vs := [(0, kj / 6), (0, (kj % 6) + 1)]) (rest := [(0, z123), (0, kj), (2, 105)]) (cn1 := 0) (sl1 := 0) rfl (mWetAt (hI119) (by omega) (by omega)) rfl (hF120.get (by decide) (hF110.get (by decide) (hF102.get (by decide) (hF79.get (by decide) (hF70.get (by decide) h82_31))))) rfl rfl rfl rfl rfl rfl (fun n129 w125 hq126 => ?_)
                      obtain ⟨hn130, hI127, hF128⟩ := hq126
                      refine xg_k (xg_iadd (u := z123) (v := n129) (z := (z123 + n129) % 4294967296) xnm0 xnm0 rfl) (Nat.mod_lt _ (by decide)) (fun z131 hz132 => ?_)
                      refine xg_t (xg_bip) ?_
                      refine xg_k (xg_idivG (u := z131) (v := 8) (by decide) xnm0 xnm0) (xpt_lt _) (fun z133 hz134 => ?_)
                      refine xg_t (xg_goto) ?_
                      refine xg_t (xg_blq rfl) ?_
                      refine xoI (xqc105 hI127 : cpI 36 72 4294967295 (wget w125 105)) (fun g105_135 h105_136 hb137 => ?_)
                      refine xg_iastK (n := kj) (u := z133) h105_136 xnm0 xnm0 rfl (by omega) (fun w138 hr139 hb140 => ?_)
                      refine xg_t (xg_iinc (u := kj) (z := kj + 1) (l1 := [(4, (0, kj % 6)), (3, (0, kj / 6)), (0, (2, 82)), (1, (0, di))]) rfl rfl (by omega) rfl) ?_
                      refine xg_t (xg_goto) ?_
                      refine xg_t (xg_drop (l1 := [(0, (2, 82)), (1, (0, di)), (2, (0, kj + 1))]) (List.forall_mem_cons.mpr ⟨List.mem_cons_of_mem _ (List.mem_cons_of_mem _ (List.mem_cons_of_mem _ (List.mem_cons_self))), List.forall_mem_cons.mpr ⟨List.mem_cons_of_mem _ (List.mem_cons_of_mem _ (List.mem_cons_of_mem _ (List.mem_cons_of_mem _ (List.mem_cons_self)))), List.forall_mem_cons.mpr ⟨List.mem_cons_self, fun _ h => absurd h List.not_mem_nil⟩⟩⟩)) ?_
                      exact ih66 (kj + 1) w138 (by omega) (by omega) (xMnv.up (S := [105]) hI127 (xFr.of (S := [105]) hb140 (by decide)) (List.forall_mem_cons.mpr ⟨xqu105 (show cpI 36 72 4294967295 (wget w138 105) from ⟨_, hr139, xrb (by omega) (hb137)⟩), fun _ h => absurd h List.not_mem_nil⟩)) (((((((hF70.tr (hF79.up (by decide))).tr (hF102.up (by decide))).tr (hF110.up (by decide))).tr (hF120.up (by decide))).tr (hF128.up (by decide))).tr (xFr.of (S := [104, 105]) hb140 (by decide))))
                  · refine xg_t (xg_icT (u := kj) (v := 36) rfl xnm0 xnm0 (xj_geT (by omega) (by omega))) ?_
                    refine xg_t (xg_blq rfl) ?_
                    refine xg_t (xg_const) ?_
                    refine xg_t (xg_istore (l1 := [(0, (2, 82)), (1, (0, di))]) rfl rfl rfl) ?_
                    refine xg_t (xg_drop (l1 := [(0, (2, 82)), (1, (0, di)), (2, (0, 0))]) (List.forall_mem_cons.mpr ⟨List.mem_cons_of_mem _ (List.mem_cons_self), List.forall_mem_cons.mpr ⟨List.mem_cons_of_mem _ (List.mem_cons_of_mem _ (List.mem_cons_self)), List.forall_mem_cons.mpr ⟨List.mem_cons_self, fun _ h => absurd h List.not_mem_nil⟩⟩⟩)) ?_
                    have key141 : ∀ (m143 : Nat) (kl : Nat) (w144 : List (List xE)), 36 - kl < m143 → kl ≤ 36 → xMnv w144 → xFr [104, 105] w w144 → xTo (d + 3) mX12_damps (132, [], [(0, (2, 82)), (1, (0, di)), (2, (0, kl))], [], (w144, bd, fc, 0, 0, rr)) (fun φ => ∃ w', xEnd 0 [] (w', bd, fc, 0, 0, rr) φ ∧ xMnv w' ∧ xFr [104, 105] w w') := by
                      intro m143
                      induction m143 with
                      | zero => intro kl w144 hz; exact absurd hz (Nat.not_lt_zero _)
                      | succ m143 ih142 =>
                        intro kl w144 hm148 hn147 hI145 hF146
                        refine xg_t (xg_blq rfl) ?_
                        refine xg_t (xg_iload (va := (0, kl)) rfl rfl) ?_
                        refine xg_t (xg_bip) ?_
                        by_cases hc149 : kl < 36
                        · refine xg_t (xg_icF (u := kl) (v := 36) rfl xnm0 xnm0 (xj_geF hc149 (by omega))) ?_
                          refine xg_t (xg_aload (va := (2, 82)) rfl rfl) ?_
                          refine xg_t (xg_getf (va := (2, 104)) (hF146.get (by decide) h82_31) rfl) ?_
                          refine xg_t (xg_iload (va := (0, kl)) rfl rfl) ?_
                          refine xg_t (xg_aload (va := (2, 82)) rfl rfl) ?_
                          refine xg_t (xg_getf (va := (2, 105)) (hF146.get (by decide) h82_31) rfl) ?_
                          refine xg_t (xg_iload (va := (0, kl)) rfl rfl) ?_
                          refine xoI (xqc105 hI145 : cpI 36 72 4294967295 (wget w144 105)) (fun g105_150 h105_151 hb152 => ?_)
                          refine xg_ialdB (n := kl) (B := 4294967295) h105_151 (hb152) xnm0 (by omega) (fun u153 hu154 he155 => ?_)
                          refine xoI (xqc104 hI145 : cpI 36 71 4294967295 (wget w144 104)) (fun g104_156 h104_157 hb158 => ?_)
                          refine xg_iastK (n := kl) (u := u153) h104_157 xnm0 xnm0 rfl (by omega) (fun w159 hr160 hb161 => ?_)
                          refine xg_t (xg_iinc (u := kl) (z := kl + 1) (l1 := [(0, (2, 82)), (1, (0, di))]) rfl rfl (by omega) rfl) ?_
                          refine xg_t (xg_goto) ?_
                          refine xg_t (xg_drop (l1 := [(0, (2, 82)), (1, (0, di)), (2, (0, kl + 1))]) (List.forall_mem_cons.mpr ⟨List.mem_cons_of_mem _ (List.mem_cons_self), List.forall_mem_cons.mpr ⟨List.mem_cons_of_mem _ (List.mem_cons_of_mem _ (List.mem_cons_self)), List.forall_mem_cons.mpr ⟨List.mem_cons_self, fun _ h => absurd h List.not_mem_nil⟩⟩⟩)) ?_
                          exact ih142 (kl + 1) w159 (by omega) (by omega) (xMnv.up (S := [104]) hI145 (xFr.of (S := [104]) hb161 (by decide)) (List.forall_mem_cons.mpr ⟨xqu104 (show cpI 36 71 4294967295 (wget w159 104) from ⟨_, hr160, xrb (by omega) (hb158)⟩), fun _ h => absurd h List.not_mem_nil⟩)) ((hF146.tr (xFr.of (S := [104, 105]) hb161 (by decide))))
                        · refine xg_t (xg_icT (u := kl) (v := 36) rfl xnm0 xnm0 (xj_geT (by omega) (by omega))) ?_
                          refine xg_t (xg_blq rfl) ?_
                          refine xg_t (xg_iinc (u := di) (z := di + 1) (l1 := [(0, (2, 82)), (2, (0, kl))]) rfl rfl (by omega) rfl) ?_
                          refine xg_t (xg_goto) ?_
                          refine xg_t (xg_drop (l1 := [(0, (2, 82)), (1, (0, di + 1))]) (List.forall_mem_cons.mpr ⟨List.mem_cons_of_mem _ (List.mem_cons_self), List.forall_mem_cons.mpr ⟨List.mem_cons_self, fun _ h => absurd h List.not_mem_nil⟩⟩)) ?_
                          exact ih53 (di + 1) w144 (by omega) (by omega) (hI145) (hF146)
                    exact key141 _ 0 w68 (Nat.lt_succ_self _) (by omega) (hI69) (hF70)
              exact key65 _ 0 w55 (Nat.lt_succ_self _) (by omega) (hI56) (hF57)
            · refine xg_t (xg_icT (u := di) (v := u60) rfl xnm0 xnm0 (xj_geT (by omega) (by omega))) ?_
              refine xg_t (xg_blq rfl) ?_
              exact xg_e ⟨w55, ⟨rfl, rfl⟩, hI56, hF57⟩
        exact key52 _ 0 w40 (Nat.lt_succ_self _) (by omega) (hI41) (hF42)
  exact key37 _ 0 w (Nat.lt_succ_self _) (by omega) (hI) (xFr.rf)
theorem mDamp {ra ca : Nat} (hI : xMnv w) (hra : ra ≤ 4294967295) (hca : ca ≤ 4294967295) : xPi (d + 4) mX12_damp [(2, 82), (0, ra), (0, ca)] w bd fc rr (fun n w' => (n ≤ 4294967295) ∧ xMnv w' ∧ xFr [104, 105] w w') := by
  refine xPi.of ?_
  show xTo (d + 4) mX12_damp (0, [], [(0, (2, 82)), (1, (0, ra)), (2, (0, ca))], [], (w, bd, fc, 0, 0, rr)) (fun φ => ∃ n w', xEnd 1 [(0, n)] (w', bd, fc, 0, 0, rr) φ ∧ (n ≤ 4294967295) ∧ xMnv w' ∧ xFr [104, 105] w w')
  refine xoCh82 (xqc82 hI : cp82 (wget w 82)) (fun f82_1 f82_3 f82_5 f82_7 f82_9 f82_11 f82_13 f82_15 f82_17 f82_19 f82_21 f82_22 f82_23 f82_25 f82_27 f82_29 h82_31 hb2 hb4 hb6 hb8 hb10 hb12 hb14 hb16 hb18 hb20 hb24 hb26 hb28 hb30 hb32 => ?_)
  refine xoX83 (xqc83 hI : cpx83 (wget w 83)) (fun g83_33 h83_34 hb35 hx36 => ?_)
  refine xg_t (xg_blq rfl) ?_
  refine xg_t (xg_aload (va := (2, 82)) rfl rfl) ?_
  refine xg_t (xg_iload (va := (0, ra)) rfl rfl) ?_
  refine xg_t (xg_iload (va := (0, ca)) rfl rfl) ?_
  have hl37 := hx36.l5
  have hl38 := hx36.l6
  refine xg_cVi mX12_isPoint (vs := [(0, ra), (0, ca)]) (rest := []) (cn1 := 0) (sl1 := 0) rfl (mPoint (hI) (by omega) (by omega) h83_34 hb35 hx36) rfl h82_31 rfl rfl rfl rfl rfl rfl (fun n43 w39 hq40 => ?_)
  obtain ⟨hn44, hI41, hF42⟩ := hq40
  by_cases hc45 : n43 = 0
  · refine xg_t (xg_ifF (u := n43) rfl xnm0 (xj_neF hc45)) ?_
    refine xg_t (xg_const) ?_
    exact xg_e ⟨4294967295, w39, ⟨rfl, rfl⟩, by first | decide | omega, hI41, (hF42.up (by decide))⟩
  · refine xg_t (xg_ifT (u := n43) rfl xnm0 (xj_neT hc45)) ?_
    refine xg_t (xg_blq rfl) ?_
    refine xg_t (xg_aload (va := (2, 82)) rfl rfl) ?_
    refine xg_cVv mX12_damps (vs := []) (rest := []) (cn1 := 0) (sl1 := 0) rfl (mDamps (hI41)) rfl (hF42.get (by decide) h82_31) rfl rfl rfl rfl rfl rfl (fun w46 hq47 => ?_)
    obtain ⟨hI48, hF49⟩ := hq47
    refine xg_t (xg_aload (va := (2, 82)) rfl rfl) ?_
    refine xg_t (xg_getf (va := (2, 104)) (hF49.get (by decide) (hF42.get (by decide) h82_31)) rfl) ?_
    refine xg_t (xg_bip) ?_
    refine xg_t (xg_iload (va := (0, ra)) rfl rfl) ?_
    refine xg_t (xg_imul (u := 6) (v := ra) (z := 6 * ra) xnm0 xnm0 (by omega)) ?_
    refine xg_t (xg_iload (va := (0, ca)) rfl rfl) ?_
    refine xg_t (xg_iadd (u := 6 * ra) (v := ca) (z := (6 * ra) + ca) xnm0 xnm0 (by omega)) ?_
    refine xoI (xqc104 hI48 : cpI 36 71 4294967295 (wget w46 104)) (fun g104_50 h104_51 hb52 => ?_)
    refine xg_ialdB (n := (6 * ra) + ca) (B := 4294967295) h104_51 (hb52) xnm0 (by omega) (fun u53 hu54 he55 => ?_)
    exact xg_e ⟨u53, w46, ⟨rfl, rfl⟩, by omega, hI48, ((hF42.up (by decide)).tr (hF49.up (by decide)))⟩
theorem mLastsOf {sh : Nat} (hI : xMnv w) (hsh : sh ≤ 5) : xPi (d + 2) mX12_lastsOf [(2, 82), (0, sh)] w bd fc rr (fun n w' => (n ≤ 1000) ∧ xMnv w' ∧ xFr [103, 110] w w') := by
  refine xPi.of ?_
  show xTo (d + 2) mX12_lastsOf (0, [], [(0, (2, 82)), (1, (0, sh))], [], (w, bd, fc, 0, 0, rr)) (fun φ => ∃ n w', xEnd 1 [(0, n)] (w', bd, fc, 0, 0, rr) φ ∧ (n ≤ 1000) ∧ xMnv w' ∧ xFr [103, 110] w w')
  refine xoCh82 (xqc82 hI : cp82 (wget w 82)) (fun f82_1 f82_3 f82_5 f82_7 f82_9 f82_11 f82_13 f82_15 f82_17 f82_19 f82_21 f82_22 f82_23 f82_25 f82_27 f82_29 h82_31 hb2 hb4 hb6 hb8 hb10 hb12 hb14 hb16 hb18 hb20 hb24 hb26 hb28 hb30 hb32 => ?_)
  refine xoX83 (xqc83 hI : cpx83 (wget w 83)) (fun g83_33 h83_34 hb35 hx36 => ?_)
  refine xg_t (xg_blq rfl) ?_
  refine xg_t (xg_aload (va := (2, 82)) rfl rfl) ?_
  refine xg_cVv mX12_ages (vs := []) (rest := []) (cn1 := 0) (sl1 := 0) rfl (mAges (hI)) rfl h82_31 rfl rfl rfl rfl rfl rfl (fun w37 hq38 => ?_)
  obtain ⟨hI39, hF40⟩ := hq38
  refine xg_t (xg_const) ?_
  refine xg_t (xg_istore (l1 := [(0, (2, 82)), (1, (0, sh))]) rfl rfl rfl) ?_
  refine xg_t (xg_drop (l1 := [(0, (2, 82)), (1, (0, sh)), (2, (0, 0))]) (List.forall_mem_cons.mpr ⟨List.mem_cons_of_mem _ (List.mem_cons_self), List.forall_mem_cons.mpr ⟨List.mem_cons_of_mem _ (List.mem_cons_of_mem _ (List.mem_cons_self)), List.forall_mem_cons.mpr ⟨List.mem_cons_self, fun _ h => absurd h List.not_mem_nil⟩⟩⟩)) ?_
  have key41 : ∀ (m43 : Nat) (ki : Nat) (w44 : List (List xE)), 36 - ki < m43 → ki ≤ 36 → xMnv w44 → xFr [103, 110] w w44 → xTo (d + 2) mX12_lastsOf (6, [], [(0, (2, 82)), (1, (0, sh)), (2, (0, ki))], [], (w44, bd, fc, 0, 0, rr)) (fun φ => ∃ n w', xEnd 1 [(0, n)] (w', bd, fc, 0, 0, rr) φ ∧ (n ≤ 1000) ∧ xMnv w' ∧ xFr [103, 110] w w') := by
    intro m43
    induction m43 with
    | zero => intro ki w44 hz; exact absurd hz (Nat.not_lt_zero _)
    | succ m43 ih42 =>
      intro ki w44 hm48 hn47 hI45 hF46
      refine xg_t (xg_blq rfl) ?_
      refine xg_t (xg_iload (va := (0, ki)) rfl rfl) ?_
      refine xg_t (xg_bip) ?_
      by_cases hc49 : ki < 36
      · refine xg_t (xg_icF (u := ki) (v := 36) rfl xnm0 xnm0 (xj_geF hc49 (by omega))) ?_
        refine xg_t (xg_aload (va := (2, 82)) rfl rfl) ?_
        refine xg_t (xg_getf (va := (2, 110)) (hF46.get (by decide) h82_31) rfl) ?_
        refine xg_t (xg_iload (va := (0, ki)) rfl rfl) ?_
        refine xg_t (xg_const) ?_
        refine xoI (xqc110 hI45 : cpI 36 77 4294967295 (wget w44 110)) (fun g110_50 h110_51 hb52 => ?_)
        refine xg_iastK (n := ki) (u := 0) h110_51 xnm0 xnm0 rfl (by omega) (fun w53 hr54 hb55 => ?_)
        refine xg_t (xg_iinc (u := ki) (z := ki + 1) (l1 := [(0, (2, 82)), (1, (0, sh))]) rfl rfl (by omega) rfl) ?_
        refine xg_t (xg_goto) ?_
        refine xg_t (xg_drop (l1 := [(0, (2, 82)), (1, (0, sh)), (2, (0, ki + 1))]) (List.forall_mem_cons.mpr ⟨List.mem_cons_of_mem _ (List.mem_cons_self), List.forall_mem_cons.mpr ⟨List.mem_cons_of_mem _ (List.mem_cons_of_mem _ (List.mem_cons_self)), List.forall_mem_cons.mpr ⟨List.mem_cons_self, fun _ h => absurd h List.not_mem_nil⟩⟩⟩)) ?_
        exact ih42 (ki + 1) w53 (by omega) (by omega) (xMnv.up (S := [110]) hI45 (xFr.of (S := [110]) hb55 (by decide)) (List.forall_mem_cons.mpr ⟨xqu110 (show cpI 36 77 4294967295 (wget w53 110) from ⟨_, hr54, xrb (by omega) (hb52)⟩), fun _ h => absurd h List.not_mem_nil⟩)) ((hF46.tr (xFr.of (S := [103, 110]) hb55 (by decide))))
      · refine xg_t (xg_icT (u := ki) (v := 36) rfl xnm0 xnm0 (xj_geT (by omega) (by omega))) ?_
        refine xg_t (xg_blq rfl) ?_
        refine xg_t (xg_const) ?_
        refine xg_t (xg_istore (l1 := [(0, (2, 82)), (1, (0, sh))]) rfl rfl rfl) ?_
        refine xg_t (xg_drop (l1 := [(0, (2, 82)), (1, (0, sh)), (2, (0, 0))]) (List.forall_mem_cons.mpr ⟨List.mem_cons_of_mem _ (List.mem_cons_self), List.forall_mem_cons.mpr ⟨List.mem_cons_of_mem _ (List.mem_cons_of_mem _ (List.mem_cons_self)), List.forall_mem_cons.mpr ⟨List.mem_cons_self, fun _ h => absurd h List.not_mem_nil⟩⟩⟩)) ?_
        have key56 : ∀ (m58 : Nat) (ni : Nat) (w59 : List (List xE)), 1000 - ni < m58 → ni ≤ 1000 → xMnv w59 → xFr [103, 110] w w59 → xTo (d + 2) mX12_lastsOf (27, [], [(0, (2, 82)), (1, (0, sh)), (2, (0, ni))], [], (w59, bd, fc, 0, 0, rr)) (fun φ => ∃ n w', xEnd 1 [(0, n)] (w', bd, fc, 0, 0, rr) φ ∧ (n ≤ 1000) ∧ xMnv w' ∧ xFr [103, 110] w w') := by
          intro m58
          induction m58 with
          | zero => intro ni w59 hz; exact absurd hz (Nat.not_lt_zero _)
          | succ m58 ih57 =>
            intro ni w59 hm63 hn62 hI60 hF61
            refine xg_t (xg_blq rfl) ?_
            refine xg_t (xg_iload (va := (0, ni)) rfl rfl) ?_
            refine xg_t (xg_sip) ?_
            by_cases hc64 : ni < 1000
            · refine xg_t (xg_icF (u := ni) (v := 1000) rfl xnm0 xnm0 (xj_geF hc64 (by omega))) ?_
              refine xg_t (xg_const) ?_
              refine xg_t (xg_istore (l1 := [(0, (2, 82)), (1, (0, sh)), (2, (0, ni))]) rfl rfl rfl) ?_
              refine xg_t (xg_const) ?_
              refine xg_t (xg_istore (l1 := [(3, (0, 1)), (0, (2, 82)), (1, (0, sh)), (2, (0, ni))]) rfl rfl rfl) ?_
              refine xg_t (xg_drop (l1 := [(0, (2, 82)), (1, (0, sh)), (2, (0, ni)), (3, (0, 1)), (4, (0, 0))]) (List.forall_mem_cons.mpr ⟨List.mem_cons_of_mem _ (List.mem_cons_of_mem _ (List.mem_cons_self)), List.forall_mem_cons.mpr ⟨List.mem_cons_of_mem _ (List.mem_cons_of_mem _ (List.mem_cons_of_mem _ (List.mem_cons_self))), List.forall_mem_cons.mpr ⟨List.mem_cons_of_mem _ (List.mem_cons_of_mem _ (List.mem_cons_of_mem _ (List.mem_cons_of_mem _ (List.mem_cons_self)))), List.forall_mem_cons.mpr ⟨List.mem_cons_of_mem _ (List.mem_cons_self), List.forall_mem_cons.mpr ⟨List.mem_cons_self, fun _ h => absurd h List.not_mem_nil⟩⟩⟩⟩⟩)) ?_
              have key65 : ∀ (m67 : Nat) (be kj : Nat) (w68 : List (List xE)), 36 - kj < m67 → be ≤ 1 → kj ≤ 36 → xMnv w68 → xFr [103, 110] w w68 → xTo (d + 2) mX12_lastsOf (39, [], [(0, (2, 82)), (1, (0, sh)), (2, (0, ni)), (3, (0, be)), (4, (0, kj))], [], (w68, bd, fc, 0, 0, rr)) (fun φ => ∃ n w', xEnd 1 [(0, n)] (w', bd, fc, 0, 0, rr) φ ∧ (n ≤ 1000) ∧ xMnv w' ∧ xFr [103, 110] w w') := by
                intro m67
                induction m67 with
                | zero => intro be kj w68 hz; exact absurd hz (Nat.not_lt_zero _)
                | succ m67 ih66 =>
                  intro be kj w68 hm73 hn71 hn72 hI69 hF70
                  refine xg_t (xg_blq rfl) ?_
                  refine xg_t (xg_iload (va := (0, kj)) rfl rfl) ?_
                  refine xg_t (xg_bip) ?_
                  by_cases hc74 : kj < 36
                  · refine xg_t (xg_icF (u := kj) (v := 36) rfl xnm0 xnm0 (xj_geF hc74 (by omega))) ?_
                    refine xg_t (xg_aload (va := (2, 82)) rfl rfl) ?_
                    refine xg_t (xg_iload (va := (0, kj)) rfl rfl) ?_
                    refine xg_t (xg_bip) ?_
                    refine xg_t (xg_idiv (u := kj) (v := 6) (z := kj / 6) xnm0 xnm0 (by omega) (by decide) (by decide) (rfl)) ?_
                    refine xg_t (xg_iload (va := (0, kj)) rfl rfl) ?_
                    refine xg_t (xg_bip) ?_
                    refine xg_t (xg_irem (u := kj) (v := 6) (z := kj % 6) xnm0 xnm0 (by omega) (by decide) (by decide) (rfl)) ?_
                    have hl75 := hx36.l5
                    have hl76 := hx36.l6
                    refine xg_cVi mX12_isPoint (vs := [(0, kj / 6), (0, kj % 6)]) (rest := []) (cn1 := 0) (sl1 := 0) rfl (mPoint (hI69) (by omega) (by omega) (h83_34.fr hF70 (by decide)) hb35 hx36) rfl (hF70.get (by decide) h82_31) rfl rfl rfl rfl rfl rfl (fun n81 w77 hq78 => ?_)
                    obtain ⟨hn82, hI79, hF80⟩ := hq78
                    by_cases hc83 : n81 = 0
                    · refine xg_t (xg_ifF (u := n81) rfl xnm0 (xj_neF hc83)) ?_
                      refine xg_t (xg_goto) ?_
                      refine xg_t (xg_blq rfl) ?_
                      refine xg_t (xg_iinc (u := kj) (z := kj + 1) (l1 := [(0, (2, 82)), (1, (0, sh)), (2, (0, ni)), (3, (0, be))]) rfl rfl (by omega) rfl) ?_
                      refine xg_t (xg_goto) ?_
                      refine xg_t (xg_drop (l1 := [(0, (2, 82)), (1, (0, sh)), (2, (0, ni)), (3, (0, be)), (4, (0, kj + 1))]) (List.forall_mem_cons.mpr ⟨List.mem_cons_of_mem _ (List.mem_cons_self), List.forall_mem_cons.mpr ⟨List.mem_cons_of_mem _ (List.mem_cons_of_mem _ (List.mem_cons_self)), List.forall_mem_cons.mpr ⟨List.mem_cons_of_mem _ (List.mem_cons_of_mem _ (List.mem_cons_of_mem _ (List.mem_cons_self))), List.forall_mem_cons.mpr ⟨List.mem_cons_of_mem _ (List.mem_cons_of_mem _ (List.mem_cons_of_mem _ (List.mem_cons_of_mem _ (List.mem_cons_self)))), List.forall_mem_cons.mpr ⟨List.mem_cons_self, fun _ h => absurd h List.not_mem_nil⟩⟩⟩⟩⟩)) ?_
                      exact ih66 be (kj + 1) w77 (by omega) (by omega) (by omega) (hI79) ((hF70.tr (hF80.up (by decide))))
                    · refine xg_t (xg_ifT (u := n81) rfl xnm0 (xj_neT hc83)) ?_
                      refine xg_t (xg_blq rfl) ?_
                      refine xg_t (xg_aload (va := (2, 82)) rfl rfl) ?_
                      refine xg_t (xg_getf (va := (2, 110)) (hF80.get (by decide) (hF70.get (by decide) h82_31)) rfl) ?_
                      refine xg_t (xg_iload (va := (0, kj)) rfl rfl) ?_
                      refine xg_t (xg_dup2 rfl) ?_
                      refine xoI (xqc110 hI79 : cpI 36 77 4294967295 (wget w77 110)) (fun g110_84 h110_85 hb86 => ?_)
                      refine xg_ialdB (n := kj) (B := 4294967295) h110_85 (hb86) xnm0 (by omega) (fun u87 hu88 he89 => ?_)
                      refine xg_t (xg_aload (va := (2, 82)) rfl rfl) ?_
                      refine xg_t (xg_getf (va := (2, 103)) (hF80.get (by decide) (hF70.get (by decide) h82_31)) rfl) ?_
                      refine xg_t (xg_iload (va := (0, kj)) rfl rfl) ?_
                      refine xg_t (xg_bip) ?_
                      refine xg_t (xg_idiv (u := kj) (v := 6) (z := kj / 6) xnm0 xnm0 (by omega) (by decide) (by decide) (rfl)) ?_
                      refine xg_t (xg_bip) ?_
                      refine xg_t (xg_imul (u := kj / 6) (v := 6) (z := (kj / 6) * 6) xnm0 xnm0 (by omega)) ?_
                      refine xg_t (xg_iload (va := (0, kj)) rfl rfl) ?_
                      refine xg_t (xg_bip) ?_
                      refine xg_t (xg_irem (u := kj) (v := 6) (z := kj % 6) xnm0 xnm0 (by omega) (by decide) (by decide) (rfl)) ?_
                      refine xg_t (xg_iload (va := (0, ni)) rfl rfl) ?_
                      refine xg_t (xg_iload (va := (0, sh)) rfl rfl) ?_
                      have hm90 : ni * sh ≤ 999 * 5 := Nat.mul_le_mul (by omega) (by omega)
                      refine xg_t (xg_imul (u := ni) (v := sh) (z := ni * sh) xnm0 xnm0 (Nat.mod_eq_of_lt (by omega))) ?_
                      refine xg_t (xg_iadd (u := kj % 6) (v := ni * sh) (z := (kj % 6) + (ni * sh)) xnm0 xnm0 (by omega)) ?_
                      refine xg_t (xg_aload (va := (2, 82)) rfl rfl) ?_
                      refine xg_t (xg_getf (va := (2, 83)) (hF80.get (by decide) (hF70.get (by decide) h82_31)) rfl) ?_
                      refine xg_t (xg_bip) ?_
                      refine xg_ialdB (n := 6) (B := 4294967295) ((h83_34.fr hF70 (by decide)).fr hF80 (by decide)) (hb35) xnm0 (by first | decide | omega) (fun u91 hu92 he93 => ?_)
                      have hl94 : u91 ≤ 6 := by rw [← he93]; exact hx36.l6
                      have hl95 : 1 ≤ u91 := by omega
                      have hm96 := Nat.mod_lt ((kj % 6) + (ni * sh)) (show 0 < u91 by omega)
                      refine xg_t (xg_irem (u := (kj % 6) + (ni * sh)) (v := u91) (z := ((kj % 6) + (ni * sh)) % u91) xnm0 xnm0 (by omega) (by omega) (by omega) (rfl)) ?_
                      refine xg_t (xg_iadd (u := (kj / 6) * 6) (v := ((kj % 6) + (ni * sh)) % u91) (z := ((kj / 6) * 6) + (((kj % 6) + (ni * sh)) % u91)) xnm0 xnm0 (by omega)) ?_
                      refine xoI (xqc103 hI79 : cpI 36 70 4294967295 (wget w77 103)) (fun g103_97 h103_98 hb99 => ?_)
                      refine xg_ialdB (n := ((kj / 6) * 6) + (((kj % 6) + (ni * sh)) % u91)) (B := 4294967295) h103_98 (hb99) xnm0 (by omega) (fun u100 hu101 he102 => ?_)
                      refine xg_k (xg_iadd (u := u87) (v := u100) (z := (u87 + u100) % 4294967296) xnm0 xnm0 rfl) (Nat.mod_lt _ (by decide)) (fun z103 hz104 => ?_)
                      refine xg_iastK (n := kj) (u := z103) h110_85 xnm0 xnm0 rfl (by omega) (fun w105 hr106 hb107 => ?_)
                      refine xg_t (xg_iload (va := (0, be)) rfl rfl) ?_
                      by_cases hc108 : be = 0
                      · refine xg_t (xg_ifT (u := be) rfl xnm0 (xj_eqT hc108)) ?_
                        refine xg_t (xg_blq rfl) ?_
                        refine xg_t (xg_const) ?_
                        refine xg_t (xg_blq rfl) ?_
                        refine xg_t (xg_istore (l1 := [(0, (2, 82)), (1, (0, sh)), (2, (0, ni)), (4, (0, kj))]) rfl rfl rfl) ?_
                        refine xg_t (xg_blq rfl) ?_
                        refine xg_t (xg_iinc (u := kj) (z := kj + 1) (l1 := [(3, (0, 0)), (0, (2, 82)), (1, (0, sh)), (2, (0, ni))]) rfl rfl (by omega) rfl) ?_
                        refine xg_t (xg_goto) ?_
                        refine xg_t (xg_drop (l1 := [(0, (2, 82)), (1, (0, sh)), (2, (0, ni)), (3, (0, 0)), (4, (0, kj + 1))]) (List.forall_mem_cons.mpr ⟨List.mem_cons_of_mem _ (List.mem_cons_of_mem _ (List.mem_cons_self)), List.forall_mem_cons.mpr ⟨List.mem_cons_of_mem _ (List.mem_cons_of_mem _ (List.mem_cons_of_mem _ (List.mem_cons_self))), List.forall_mem_cons.mpr ⟨List.mem_cons_of_mem _ (List.mem_cons_of_mem _ (List.mem_cons_of_mem _ (List.mem_cons_of_mem _ (List.mem_cons_self)))), List.forall_mem_cons.mpr ⟨List.mem_cons_of_mem _ (List.mem_cons_self), List.forall_mem_cons.mpr ⟨List.mem_cons_self, fun _ h => absurd h List.not_mem_nil⟩⟩⟩⟩⟩)) ?_
                        exact ih66 0 (kj + 1) w105 (by omega) (by omega) (by omega) (xMnv.up (S := [110]) hI79 (xFr.of (S := [110]) hb107 (by decide)) (List.forall_mem_cons.mpr ⟨xqu110 (show cpI 36 77 4294967295 (wget w105 110) from ⟨_, hr106, xrb (by omega) (hb86)⟩), fun _ h => absurd h List.not_mem_nil⟩)) (((hF70.tr (hF80.up (by decide))).tr (xFr.of (S := [103, 110]) hb107 (by decide))))
                      · refine xg_t (xg_ifF (u := be) rfl xnm0 (xj_eqF hc108)) ?_
                        refine xg_t (xg_aload (va := (2, 82)) rfl rfl) ?_
                        refine xg_t (xg_getf (va := (2, 110)) (hb107.get (by decide) (hF80.get (by decide) (hF70.get (by decide) h82_31))) rfl) ?_
                        refine xg_t (xg_iload (va := (0, kj)) rfl rfl) ?_
                        refine xg_ialdB (n := kj) (B := 4294967295) hr106 (xrb (by omega) (hb86)) xnm0 (by omega) (fun u109 hu110 he111 => ?_)
                        refine xg_t (xg_sip) ?_
                        by_cases hc112 : xbs u109 < xbs 10000
                        · have hc112u := hc112
                          unfold xbs at hc112u
                          refine xg_t (xg_icF (u := u109) (v := 10000) rfl xnm0 xnm0 (xjs_geF hc112)) ?_
                          refine xg_t (xg_const) ?_
                          refine xg_t (xg_goto) ?_
                          refine xg_t (xg_blq rfl) ?_
                          refine xg_t (xg_istore (l1 := [(0, (2, 82)), (1, (0, sh)), (2, (0, ni)), (4, (0, kj))]) rfl rfl rfl) ?_
                          refine xg_t (xg_blq rfl) ?_
                          refine xg_t (xg_iinc (u := kj) (z := kj + 1) (l1 := [(3, (0, 1)), (0, (2, 82)), (1, (0, sh)), (2, (0, ni))]) rfl rfl (by omega) rfl) ?_
                          refine xg_t (xg_goto) ?_
                          refine xg_t (xg_drop (l1 := [(0, (2, 82)), (1, (0, sh)), (2, (0, ni)), (3, (0, 1)), (4, (0, kj + 1))]) (List.forall_mem_cons.mpr ⟨List.mem_cons_of_mem _ (List.mem_cons_of_mem _ (List.mem_cons_self)), List.forall_mem_cons.mpr ⟨List.mem_cons_of_mem _ (List.mem_cons_of_mem _ (List.mem_cons_of_mem _ (List.mem_cons_self))), List.forall_mem_cons.mpr ⟨List.mem_cons_of_mem _ (List.mem_cons_of_mem _ (List.mem_cons_of_mem _ (List.mem_cons_of_mem _ (List.mem_cons_self)))), List.forall_mem_cons.mpr ⟨List.mem_cons_of_mem _ (List.mem_cons_self), List.forall_mem_cons.mpr ⟨List.mem_cons_self, fun _ h => absurd h List.not_mem_nil⟩⟩⟩⟩⟩)) ?_
                          exact ih66 1 (kj + 1) w105 (by omega) (by omega) (by omega) (xMnv.up (S := [110]) hI79 (xFr.of (S := [110]) hb107 (by decide)) (List.forall_mem_cons.mpr ⟨xqu110 (show cpI 36 77 4294967295 (wget w105 110) from ⟨_, hr106, xrb (by omega) (hb86)⟩), fun _ h => absurd h List.not_mem_nil⟩)) (((hF70.tr (hF80.up (by decide))).tr (xFr.of (S := [103, 110]) hb107 (by decide))))
                        · have hc112u := hc112
                          unfold xbs at hc112u
                          have hn113 : u109 ≤ 2147483647 := by omega
                          refine xg_t (xg_icT (u := u109) (v := 10000) rfl xnm0 xnm0 (xjs_geT hc112)) ?_
                          refine xg_t (xg_blq rfl) ?_
                          refine xg_t (xg_const) ?_
                          refine xg_t (xg_blq rfl) ?_
                          refine xg_t (xg_istore (l1 := [(0, (2, 82)), (1, (0, sh)), (2, (0, ni)), (4, (0, kj))]) rfl rfl rfl) ?_
                          refine xg_t (xg_blq rfl) ?_
                          refine xg_t (xg_iinc (u := kj) (z := kj + 1) (l1 := [(3, (0, 0)), (0, (2, 82)), (1, (0, sh)), (2, (0, ni))]) rfl rfl (by omega) rfl) ?_
                          refine xg_t (xg_goto) ?_
                          refine xg_t (xg_drop (l1 := [(0, (2, 82)), (1, (0, sh)), (2, (0, ni)), (3, (0, 0)), (4, (0, kj + 1))]) (List.forall_mem_cons.mpr ⟨List.mem_cons_of_mem _ (List.mem_cons_of_mem _ (List.mem_cons_self)), List.forall_mem_cons.mpr ⟨List.mem_cons_of_mem _ (List.mem_cons_of_mem _ (List.mem_cons_of_mem _ (List.mem_cons_self))), List.forall_mem_cons.mpr ⟨List.mem_cons_of_mem _ (List.mem_cons_of_mem _ (List.mem_cons_of_mem _ (List.mem_cons_of_mem _ (List.mem_cons_self)))), List.forall_mem_cons.mpr ⟨List.mem_cons_of_mem _ (List.mem_cons_self), List.forall_mem_cons.mpr ⟨List.mem_cons_self, fun _ h => absurd h List.not_mem_nil⟩⟩⟩⟩⟩)) ?_
                          exact ih66 0 (kj + 1) w105 (by omega) (by omega) (by omega) (xMnv.up (S := [110]) hI79 (xFr.of (S := [110]) hb107 (by decide)) (List.forall_mem_cons.mpr ⟨xqu110 (show cpI 36 77 4294967295 (wget w105 110) from ⟨_, hr106, xrb (by omega) (hb86)⟩), fun _ h => absurd h List.not_mem_nil⟩)) (((hF70.tr (hF80.up (by decide))).tr (xFr.of (S := [103, 110]) hb107 (by decide))))
                  · refine xg_t (xg_icT (u := kj) (v := 36) rfl xnm0 xnm0 (xj_geT (by omega) (by omega))) ?_
                    refine xg_t (xg_blq rfl) ?_
                    refine xg_t (xg_iload (va := (0, be)) rfl rfl) ?_
                    by_cases hc114 : be = 0
                    · refine xg_t (xg_ifF (u := be) rfl xnm0 (xj_neF hc114)) ?_
                      refine xg_t (xg_iload (va := (0, ni)) rfl rfl) ?_
                      exact xg_e ⟨ni, w68, ⟨rfl, rfl⟩, by omega, hI69, hF70⟩
                    · refine xg_t (xg_ifT (u := be) rfl xnm0 (xj_neT hc114)) ?_
                      refine xg_t (xg_blq rfl) ?_
                      refine xg_t (xg_iinc (u := ni) (z := ni + 1) (l1 := [(0, (2, 82)), (1, (0, sh)), (3, (0, be)), (4, (0, kj))]) rfl rfl (by omega) rfl) ?_
                      refine xg_t (xg_goto) ?_
                      refine xg_t (xg_drop (l1 := [(0, (2, 82)), (1, (0, sh)), (2, (0, ni + 1))]) (List.forall_mem_cons.mpr ⟨List.mem_cons_of_mem _ (List.mem_cons_self), List.forall_mem_cons.mpr ⟨List.mem_cons_of_mem _ (List.mem_cons_of_mem _ (List.mem_cons_self)), List.forall_mem_cons.mpr ⟨List.mem_cons_self, fun _ h => absurd h List.not_mem_nil⟩⟩⟩)) ?_
                      exact ih57 (ni + 1) w68 (by omega) (by omega) (hI69) (hF70)
              exact key65 _ 1 0 w59 (Nat.lt_succ_self _) (by omega) (by omega) (hI60) (hF61)
            · refine xg_t (xg_icT (u := ni) (v := 1000) rfl xnm0 xnm0 (xj_geT (by omega) (by omega))) ?_
              refine xg_t (xg_blq rfl) ?_
              refine xg_t (xg_sip) ?_
              exact xg_e ⟨1000, w59, ⟨rfl, rfl⟩, by first | decide | omega, hI60, hF61⟩
        exact key56 _ 0 w44 (Nat.lt_succ_self _) (by omega) (hI45) (hF46)
  exact key41 _ 0 w37 (Nat.lt_succ_self _) (by omega) (hI39) ((hF40.up (by decide)))
theorem mLasts {sh : Nat} (hI : xMnv w) (hsh : sh ≤ 4294967295) : xPi (d + 3) mX12_lasts [(2, 82), (0, sh)] w bd fc rr (fun n w' => (n ≤ 4294967295) ∧ xMnv w' ∧ xFr [103, 110] w w') := by
  refine xPi.of ?_
  show xTo (d + 3) mX12_lasts (0, [], [(0, (2, 82)), (1, (0, sh))], [], (w, bd, fc, 0, 0, rr)) (fun φ => ∃ n w', xEnd 1 [(0, n)] (w', bd, fc, 0, 0, rr) φ ∧ (n ≤ 4294967295) ∧ xMnv w' ∧ xFr [103, 110] w w')
  refine xoCh82 (xqc82 hI : cp82 (wget w 82)) (fun f82_1 f82_3 f82_5 f82_7 f82_9 f82_11 f82_13 f82_15 f82_17 f82_19 f82_21 f82_22 f82_23 f82_25 f82_27 f82_29 h82_31 hb2 hb4 hb6 hb8 hb10 hb12 hb14 hb16 hb18 hb20 hb24 hb26 hb28 hb30 hb32 => ?_)
  refine xoX83 (xqc83 hI : cpx83 (wget w 83)) (fun g83_33 h83_34 hb35 hx36 => ?_)
  refine xg_t (xg_blq rfl) ?_
  refine xg_t (xg_iload (va := (0, sh)) rfl rfl) ?_
  refine xg_t (xg_const) ?_
  refine xg_t (xg_const) ?_
  refine xg_t (xg_cSr mX12_isIn (vs := [(0, sh), (0, 0), (0, 5)]) (rest := []) (rs := [(0, if 0 ≤ sh ∧ sh ≤ 5 then 1 else 0)]) (cn1 := 0) (sl1 := 0) rfl (mIsIn (by omega) (by omega) (by omega)) rfl rfl rfl rfl rfl rfl rfl rfl) ?_
  by_cases hc37 : 0 ≤ sh ∧ sh ≤ 5
  · refine xg_t (xg_ifF (u := (if 0 ≤ sh ∧ sh ≤ 5 then 1 else 0)) rfl xnm0 (xj_eqF (xite1 hc37))) ?_
    refine xg_t (xg_aload (va := (2, 82)) rfl rfl) ?_
    refine xg_t (xg_getf (va := (2, 83)) h82_31 rfl) ?_
    refine xg_t (xg_bip) ?_
    refine xg_ialdB (n := 10) (B := 4294967295) h83_34 (hb35) xnm0 (by first | decide | omega) (fun u38 hu39 he40 => ?_)
    have hl41 : u38 ≤ 12 := by rw [← he40]; exact hx36.l10
    by_cases hc42 : 0 < u38
    · refine xg_t (xg_ifF (u := u38) rfl xnm0 (xj_leF hc42 (by omega))) ?_
      refine xg_t (xg_aload (va := (2, 82)) rfl rfl) ?_
      refine xg_t (xg_iload (va := (0, sh)) rfl rfl) ?_
      refine xg_cVi mX12_lastsOf (vs := [(0, sh)]) (rest := []) (cn1 := 0) (sl1 := 0) rfl (mLastsOf (hI) (by omega)) rfl h82_31 rfl rfl rfl rfl rfl rfl (fun n47 w43 hq44 => ?_)
      obtain ⟨hn48, hI45, hF46⟩ := hq44
      refine xg_t (xg_goto) ?_
      refine xg_t (xg_blq rfl) ?_
      exact xg_e ⟨n47, w43, ⟨rfl, rfl⟩, by omega, hI45, (hF46.up (by decide))⟩
    · refine xg_t (xg_ifT (u := u38) rfl xnm0 (xj_leT (by omega) (by omega))) ?_
      refine xg_t (xg_blq rfl) ?_
      refine xg_t (xg_const) ?_
      refine xg_t (xg_blq rfl) ?_
      exact xg_e ⟨4294967295, w, ⟨rfl, rfl⟩, by first | decide | omega, hI, xFr.rf⟩
  · refine xg_t (xg_ifT (u := (if 0 ≤ sh ∧ sh ≤ 5 then 1 else 0)) rfl xnm0 (xj_eqT (xite0 hc37))) ?_
    refine xg_t (xg_blq rfl) ?_
    refine xg_t (xg_const) ?_
    refine xg_t (xg_blq rfl) ?_
    exact xg_e ⟨4294967295, w, ⟨rfl, rfl⟩, by first | decide | omega, hI, xFr.rf⟩
theorem mShift (hI : xMnv w)  : xPi (d + 3) mX12_shift [(2, 82)] w bd fc rr (fun n w' => (n ≤ 4294967295) ∧ xMnv w' ∧ xFr [103, 110] w w') := by
  refine xPi.of ?_
  show xTo (d + 3) mX12_shift (0, [], [(0, (2, 82))], [], (w, bd, fc, 0, 0, rr)) (fun φ => ∃ n w', xEnd 1 [(0, n)] (w', bd, fc, 0, 0, rr) φ ∧ (n ≤ 4294967295) ∧ xMnv w' ∧ xFr [103, 110] w w')
  refine xoCh82 (xqc82 hI : cp82 (wget w 82)) (fun f82_1 f82_3 f82_5 f82_7 f82_9 f82_11 f82_13 f82_15 f82_17 f82_19 f82_21 f82_22 f82_23 f82_25 f82_27 f82_29 h82_31 hb2 hb4 hb6 hb8 hb10 hb12 hb14 hb16 hb18 hb20 hb24 hb26 hb28 hb30 hb32 => ?_)
  refine xoX83 (xqc83 hI : cpx83 (wget w 83)) (fun g83_33 h83_34 hb35 hx36 => ?_)
  refine xg_t (xg_blq rfl) ?_
  refine xg_t (xg_aload (va := (2, 82)) rfl rfl) ?_
  refine xg_t (xg_getf (va := (2, 83)) h82_31 rfl) ?_
  refine xg_t (xg_bip) ?_
  refine xg_ialdB (n := 10) (B := 4294967295) h83_34 (hb35) xnm0 (by first | decide | omega) (fun u37 hu38 he39 => ?_)
  have hl40 : u37 ≤ 12 := by rw [← he39]; exact hx36.l10
  by_cases hc41 : u37 = 0
  · refine xg_t (xg_ifF (u := u37) rfl xnm0 (xj_neF hc41)) ?_
    refine xg_t (xg_const) ?_
    exact xg_e ⟨4294967295, w, ⟨rfl, rfl⟩, by first | decide | omega, hI, xFr.rf⟩
  · refine xg_t (xg_ifT (u := u37) rfl xnm0 (xj_neT hc41)) ?_
    refine xg_t (xg_blq rfl) ?_
    refine xg_t (xg_const) ?_
    refine xg_t (xg_istore (l1 := [(0, (2, 82))]) rfl rfl rfl) ?_
    refine xg_t (xg_const) ?_
    refine xg_t (xg_istore (l1 := [(1, (0, 0)), (0, (2, 82))]) rfl rfl rfl) ?_
    refine xg_t (xg_drop (l1 := [(0, (2, 82)), (1, (0, 0)), (2, (0, 1))]) (List.forall_mem_cons.mpr ⟨List.mem_cons_of_mem _ (List.mem_cons_of_mem _ (List.mem_cons_self)), List.forall_mem_cons.mpr ⟨List.mem_cons_of_mem _ (List.mem_cons_self), List.forall_mem_cons.mpr ⟨List.mem_cons_self, fun _ h => absurd h List.not_mem_nil⟩⟩⟩)) ?_
    have key42 : ∀ (m44 : Nat) (bb si : Nat) (w45 : List (List xE)), 6 - si < m44 → bb ≤ 5 → si ≤ 6 → xMnv w45 → xFr [103, 110] w w45 → xTo (d + 3) mX12_shift (16, [], [(0, (2, 82)), (1, (0, bb)), (2, (0, si))], [], (w45, bd, fc, 0, 0, rr)) (fun φ => ∃ n w', xEnd 1 [(0, n)] (w', bd, fc, 0, 0, rr) φ ∧ (n ≤ 4294967295) ∧ xMnv w' ∧ xFr [103, 110] w w') := by
      intro m44
      induction m44 with
      | zero => intro bb si w45 hz; exact absurd hz (Nat.not_lt_zero _)
      | succ m44 ih43 =>
        intro bb si w45 hm50 hn48 hn49 hI46 hF47
        refine xg_t (xg_blq rfl) ?_
        refine xg_t (xg_iload (va := (0, si)) rfl rfl) ?_
        refine xg_t (xg_bip) ?_
        by_cases hc51 : si < 6
        · refine xg_t (xg_icF (u := si) (v := 6) rfl xnm0 xnm0 (xj_geF hc51 (by omega))) ?_
          refine xg_t (xg_aload (va := (2, 82)) rfl rfl) ?_
          refine xg_t (xg_iload (va := (0, si)) rfl rfl) ?_
          refine xg_cVi mX12_lastsOf (vs := [(0, si)]) (rest := []) (cn1 := 0) (sl1 := 0) rfl (mLastsOf (hI46) (by omega)) rfl (hF47.get (by decide) h82_31) rfl rfl rfl rfl rfl rfl (fun n56 w52 hq53 => ?_)
          obtain ⟨hn57, hI54, hF55⟩ := hq53
          refine xg_t (xg_aload (va := (2, 82)) rfl rfl) ?_
          refine xg_t (xg_iload (va := (0, bb)) rfl rfl) ?_
          refine xg_cVi mX12_lastsOf (vs := [(0, bb)]) (rest := [(0, n56)]) (cn1 := 0) (sl1 := 0) rfl (mLastsOf (hI54) (by omega)) rfl (hF55.get (by decide) (hF47.get (by decide) h82_31)) rfl rfl rfl rfl rfl rfl (fun n62 w58 hq59 => ?_)
          obtain ⟨hn63, hI60, hF61⟩ := hq59
          by_cases hc64 : n62 < n56
          · refine xg_t (xg_icF (u := n56) (v := n62) rfl xnm0 xnm0 (xj_leF hc64 (by omega))) ?_
            refine xg_t (xg_iload (va := (0, si)) rfl rfl) ?_
            refine xg_t (xg_istore (l1 := [(0, (2, 82)), (2, (0, si))]) rfl rfl rfl) ?_
            refine xg_t (xg_blq rfl) ?_
            refine xg_t (xg_iinc (u := si) (z := si + 1) (l1 := [(1, (0, si)), (0, (2, 82))]) rfl rfl (by omega) rfl) ?_
            refine xg_t (xg_goto) ?_
            refine xg_t (xg_drop (l1 := [(0, (2, 82)), (1, (0, si)), (2, (0, si + 1))]) (List.forall_mem_cons.mpr ⟨List.mem_cons_of_mem _ (List.mem_cons_of_mem _ (List.mem_cons_self)), List.forall_mem_cons.mpr ⟨List.mem_cons_of_mem _ (List.mem_cons_self), List.forall_mem_cons.mpr ⟨List.mem_cons_self, fun _ h => absurd h List.not_mem_nil⟩⟩⟩)) ?_
            exact ih43 si (si + 1) w58 (by omega) (by omega) (by omega) (hI60) (((hF47.tr (hF55.up (by decide))).tr (hF61.up (by decide))))
          · refine xg_t (xg_icT (u := n56) (v := n62) rfl xnm0 xnm0 (xj_leT (by omega) (by omega))) ?_
            refine xg_t (xg_blq rfl) ?_
            refine xg_t (xg_iinc (u := si) (z := si + 1) (l1 := [(0, (2, 82)), (1, (0, bb))]) rfl rfl (by omega) rfl) ?_
            refine xg_t (xg_goto) ?_
            refine xg_t (xg_drop (l1 := [(0, (2, 82)), (1, (0, bb)), (2, (0, si + 1))]) (List.forall_mem_cons.mpr ⟨List.mem_cons_of_mem _ (List.mem_cons_self), List.forall_mem_cons.mpr ⟨List.mem_cons_of_mem _ (List.mem_cons_of_mem _ (List.mem_cons_self)), List.forall_mem_cons.mpr ⟨List.mem_cons_self, fun _ h => absurd h List.not_mem_nil⟩⟩⟩)) ?_
            exact ih43 bb (si + 1) w58 (by omega) (by omega) (by omega) (hI60) (((hF47.tr (hF55.up (by decide))).tr (hF61.up (by decide))))
        · refine xg_t (xg_icT (u := si) (v := 6) rfl xnm0 xnm0 (xj_geT (by omega) (by omega))) ?_
          refine xg_t (xg_blq rfl) ?_
          refine xg_t (xg_iload (va := (0, bb)) rfl rfl) ?_
          exact xg_e ⟨bb, w45, ⟨rfl, rfl⟩, by omega, hI46, hF47⟩
    exact key42 _ 0 1 w (Nat.lt_succ_self _) (by omega) (by omega) (hI) (xFr.rf)
theorem mLawAt {la sp : Nat} (hI : xMnv w) (hla : la ≤ 239) (hsp : sp ≤ 4294967295) : xPi d mX12_lawAt [(0, la), (0, sp)] w bd fc rr (fun n w' => (n ≤ 4294967295) ∧ xMnv w' ∧ xFr [] w w') := by
  refine xPi.of ?_
  show xTo d mX12_lawAt (0, [], [(0, (0, la)), (1, (0, sp))], [], (w, bd, fc, 0, 0, rr)) (fun φ => ∃ n w', xEnd 1 [(0, n)] (w', bd, fc, 0, 0, rr) φ ∧ (n ≤ 4294967295) ∧ xMnv w' ∧ xFr [] w w')
  refine xg_t (xg_blq rfl) ?_
  refine xg_t (xg_iload (va := (0, la)) rfl rfl) ?_
  refine xg_t (xg_bip) ?_
  refine xg_t (xg_irem (u := la) (v := 60) (z := la % 60) xnm0 xnm0 (by omega) (by decide) (by decide) (rfl)) ?_
  refine xg_t (xg_const) ?_
  refine xg_t (xg_iadd (u := la % 60) (v := 1) (z := (la % 60) + 1) xnm0 xnm0 (by omega)) ?_
  refine xg_t (xg_istore (l1 := [(0, (0, la)), (1, (0, sp))]) rfl rfl rfl) ?_
  refine xg_t (xg_const) ?_
  refine xg_t (xg_istore (l1 := [(2, (0, (la % 60) + 1)), (0, (0, la)), (1, (0, sp))]) rfl rfl rfl) ?_
  refine xg_t (xg_drop (l1 := [(0, (0, la)), (1, (0, sp)), (2, (0, (la % 60) + 1)), (3, (0, 0))]) (List.forall_mem_cons.mpr ⟨List.mem_cons_of_mem _ (List.mem_cons_of_mem _ (List.mem_cons_self)), List.forall_mem_cons.mpr ⟨List.mem_cons_of_mem _ (List.mem_cons_of_mem _ (List.mem_cons_of_mem _ (List.mem_cons_self))), List.forall_mem_cons.mpr ⟨List.mem_cons_of_mem _ (List.mem_cons_self), List.forall_mem_cons.mpr ⟨List.mem_cons_self, fun _ h => absurd h List.not_mem_nil⟩⟩⟩⟩)) ?_
  have key1 : ∀ (m3 : Nat) (vv ki : Nat) (w4 : List (List xE)), 4 - ki < m3 → vv ≤ 4294967295 → ki ≤ 4 → xMnv w4 → xFr [] w w4 → xTo d mX12_lawAt (9, [], [(0, (0, la)), (1, (0, sp)), (2, (0, vv)), (3, (0, ki))], [], (w4, bd, fc, 0, 0, rr)) (fun φ => ∃ n w', xEnd 1 [(0, n)] (w', bd, fc, 0, 0, rr) φ ∧ (n ≤ 4294967295) ∧ xMnv w' ∧ xFr [] w w') := by
    intro m3
    induction m3 with
    | zero => intro vv ki w4 hz; exact absurd hz (Nat.not_lt_zero _)
    | succ m3 ih2 =>
      intro vv ki w4 hm9 hn7 hn8 hI5 hF6
      refine xg_t (xg_blq rfl) ?_
      refine xg_t (xg_iload (va := (0, ki)) rfl rfl) ?_
      refine xg_t (xg_iload (va := (0, la)) rfl rfl) ?_
      refine xg_t (xg_bip) ?_
      refine xg_t (xg_idiv (u := la) (v := 60) (z := la / 60) xnm0 xnm0 (by omega) (by decide) (by decide) (rfl)) ?_
      by_cases hc10 : ki < (la / 60)
      · refine xg_t (xg_icF (u := ki) (v := la / 60) rfl xnm0 xnm0 (xj_geF hc10 (by omega))) ?_
        refine xg_t (xg_iload (va := (0, vv)) rfl rfl) ?_
        refine xg_t (xg_bip) ?_
        refine xg_t (xg_iload (va := (0, sp)) rfl rfl) ?_
        refine xg_k (xg_isub (u := 10) (v := sp) (z := (10 + (4294967296 - sp)) % 4294967296) xnm0 xnm0 rfl) (Nat.mod_lt _ (by decide)) (fun z11 hz12 => ?_)
        refine xg_k (xg_imul (u := vv) (v := z11) (z := (vv * z11) % 4294967296) xnm0 xnm0 rfl) (Nat.mod_lt _ (by decide)) (fun z13 hz14 => ?_)
        refine xg_t (xg_istore (l1 := [(0, (0, la)), (1, (0, sp)), (3, (0, ki))]) rfl rfl rfl) ?_
        refine xg_t (xg_iinc (u := ki) (z := ki + 1) (l1 := [(2, (0, z13)), (0, (0, la)), (1, (0, sp))]) rfl rfl (by omega) rfl) ?_
        refine xg_t (xg_goto) ?_
        refine xg_t (xg_drop (l1 := [(0, (0, la)), (1, (0, sp)), (2, (0, z13)), (3, (0, ki + 1))]) (List.forall_mem_cons.mpr ⟨List.mem_cons_of_mem _ (List.mem_cons_of_mem _ (List.mem_cons_self)), List.forall_mem_cons.mpr ⟨List.mem_cons_of_mem _ (List.mem_cons_of_mem _ (List.mem_cons_of_mem _ (List.mem_cons_self))), List.forall_mem_cons.mpr ⟨List.mem_cons_of_mem _ (List.mem_cons_self), List.forall_mem_cons.mpr ⟨List.mem_cons_self, fun _ h => absurd h List.not_mem_nil⟩⟩⟩⟩)) ?_
        exact ih2 z13 (ki + 1) w4 (by omega) (by omega) (by omega) (hI5) (hF6)
      · refine xg_t (xg_icT (u := ki) (v := la / 60) rfl xnm0 xnm0 (xj_geT (by omega) (by omega))) ?_
        refine xg_t (xg_blq rfl) ?_
        refine xg_t (xg_iload (va := (0, vv)) rfl rfl) ?_
        exact xg_e ⟨vv, w4, ⟨rfl, rfl⟩, by omega, hI5, hF6⟩
  exact key1 _ ((la % 60) + 1) 0 w (Nat.lt_succ_self _) (by omega) (by omega) (hI) (xFr.rf)
theorem mKeeps (hI : xMnv w)  : xPq (d + 1) mX12_keeps [(2, 82)] w bd fc rr [] (fun w' => xMnv w' ∧ xFr [111] w w') := by
  refine xPq.of ?_
  show xTo (d + 1) mX12_keeps (0, [], [(0, (2, 82))], [], (w, bd, fc, 0, 0, rr)) (fun φ => ∃ w', xEnd 0 [] (w', bd, fc, 0, 0, rr) φ ∧ xMnv w' ∧ xFr [111] w w')
  refine xoCh82 (xqc82 hI : cp82 (wget w 82)) (fun f82_1 f82_3 f82_5 f82_7 f82_9 f82_11 f82_13 f82_15 f82_17 f82_19 f82_21 f82_22 f82_23 f82_25 f82_27 f82_29 h82_31 hb2 hb4 hb6 hb8 hb10 hb12 hb14 hb16 hb18 hb20 hb24 hb26 hb28 hb30 hb32 => ?_)
  refine xoX83 (xqc83 hI : cpx83 (wget w 83)) (fun g83_33 h83_34 hb35 hx36 => ?_)
  refine xg_t (xg_blq rfl) ?_
  refine xg_t (xg_const) ?_
  refine xg_t (xg_istore (l1 := [(0, (2, 82))]) rfl rfl rfl) ?_
  refine xg_t (xg_drop (l1 := [(0, (2, 82)), (1, (0, 0))]) (List.forall_mem_cons.mpr ⟨List.mem_cons_of_mem _ (List.mem_cons_self), List.forall_mem_cons.mpr ⟨List.mem_cons_self, fun _ h => absurd h List.not_mem_nil⟩⟩)) ?_
  have key37 : ∀ (m39 : Nat) (li : Nat) (w40 : List (List xE)), 240 - li < m39 → li ≤ 240 → xMnv w40 → xFr [111] w w40 → xTo (d + 1) mX12_keeps (2, [], [(0, (2, 82)), (1, (0, li))], [], (w40, bd, fc, 0, 0, rr)) (fun φ => ∃ w', xEnd 0 [] (w', bd, fc, 0, 0, rr) φ ∧ xMnv w' ∧ xFr [111] w w') := by
    intro m39
    induction m39 with
    | zero => intro li w40 hz; exact absurd hz (Nat.not_lt_zero _)
    | succ m39 ih38 =>
      intro li w40 hm44 hn43 hI41 hF42
      refine xg_t (xg_blq rfl) ?_
      refine xg_t (xg_iload (va := (0, li)) rfl rfl) ?_
      refine xg_t (xg_sip) ?_
      by_cases hc45 : li < 240
      · refine xg_t (xg_icF (u := li) (v := 240) rfl xnm0 xnm0 (xj_geF hc45 (by omega))) ?_
        refine xg_t (xg_aload (va := (2, 82)) rfl rfl) ?_
        refine xg_t (xg_getf (va := (2, 111)) (hF42.get (by decide) h82_31) rfl) ?_
        refine xg_t (xg_iload (va := (0, li)) rfl rfl) ?_
        refine xg_t (xg_const) ?_
        refine xoI (xqc111 hI41 : cpI 240 78 4294967295 (wget w40 111)) (fun g111_46 h111_47 hb48 => ?_)
        refine xg_iastK (n := li) (u := 0) h111_47 xnm0 xnm0 rfl (by omega) (fun w49 hr50 hb51 => ?_)
        refine xg_t (xg_const) ?_
        refine xg_t (xg_istore (l1 := [(0, (2, 82)), (1, (0, li))]) rfl rfl rfl) ?_
        refine xg_t (xg_drop (l1 := [(0, (2, 82)), (1, (0, li)), (2, (0, 0))]) (List.forall_mem_cons.mpr ⟨List.mem_cons_of_mem _ (List.mem_cons_self), List.forall_mem_cons.mpr ⟨List.mem_cons_of_mem _ (List.mem_cons_of_mem _ (List.mem_cons_self)), List.forall_mem_cons.mpr ⟨List.mem_cons_self, fun _ h => absurd h List.not_mem_nil⟩⟩⟩)) ?_
        have key52 : ∀ (m54 : Nat) (ki : Nat) (w55 : List (List xE)), 12 - ki < m54 → ki ≤ 12 → xMnv w55 → xFr [111] w w55 → xTo (d + 1) mX12_keeps (18, [], [(0, (2, 82)), (1, (0, li)), (2, (0, ki))], [], (w55, bd, fc, 0, 0, rr)) (fun φ => ∃ w', xEnd 0 [] (w', bd, fc, 0, 0, rr) φ ∧ xMnv w' ∧ xFr [111] w w') := by
          intro m54
          induction m54 with
          | zero => intro ki w55 hz; exact absurd hz (Nat.not_lt_zero _)
          | succ m54 ih53 =>
            intro ki w55 hm59 hn58 hI56 hF57
            refine xg_t (xg_blq rfl) ?_
            refine xg_t (xg_iload (va := (0, ki)) rfl rfl) ?_
            refine xg_t (xg_aload (va := (2, 82)) rfl rfl) ?_
            refine xg_t (xg_getf (va := (2, 83)) (hF57.get (by decide) h82_31) rfl) ?_
            refine xg_t (xg_sip) ?_
            refine xg_ialdB (n := 901) (B := 4294967295) (h83_34.fr hF57 (by decide)) (hb35) xnm0 (by first | decide | omega) (fun u60 hu61 he62 => ?_)
            have hl63 : u60 ≤ 12 := by rw [← he62]; exact hx36.l901
            by_cases hc64 : ki < u60
            · refine xg_t (xg_icF (u := ki) (v := u60) rfl xnm0 xnm0 (xj_geF hc64 (by omega))) ?_
              refine xg_t (xg_sip) ?_
              refine xg_t (xg_const) ?_
              refine xg_t (xg_iload (va := (0, ki)) rfl rfl) ?_
              refine xg_t (xg_imul (u := 4) (v := ki) (z := 4 * ki) xnm0 xnm0 (by omega)) ?_
              refine xg_t (xg_iadd (u := 970) (v := 4 * ki) (z := 970 + (4 * ki)) xnm0 xnm0 (by omega)) ?_
              refine xg_t (xg_istore (l1 := [(0, (2, 82)), (1, (0, li)), (2, (0, ki))]) rfl rfl rfl) ?_
              refine xg_t (xg_iload (va := (0, li)) rfl rfl) ?_
              refine xg_t (xg_aload (va := (2, 82)) rfl rfl) ?_
              refine xg_t (xg_getf (va := (2, 83)) (hF57.get (by decide) h82_31) rfl) ?_
              refine xg_t (xg_iload (va := (0, 970 + (4 * ki))) rfl rfl) ?_
              refine xg_ialdB (n := 970 + (4 * ki)) (B := 4294967295) (h83_34.fr hF57 (by decide)) (hb35) xnm0 (by omega) (fun u65 hu66 he67 => ?_)
              refine xg_cSi mX12_lawAt (vs := [(0, li), (0, u65)]) (rest := []) (cn1 := 0) (sl1 := 0) rfl (mLawAt (hI56) (by omega) (by omega)) rfl rfl rfl rfl rfl rfl rfl (fun n72 w68 hq69 => ?_)
              obtain ⟨hn73, hI70, hF71⟩ := hq69
              refine xg_t (xg_istore (l1 := [(3, (0, 970 + (4 * ki))), (0, (2, 82)), (1, (0, li)), (2, (0, ki))]) rfl rfl rfl) ?_
              refine xg_t (xg_aload (va := (2, 82)) rfl rfl) ?_
              refine xg_t (xg_getf (va := (2, 83)) (hF71.get (by decide) (hF57.get (by decide) h82_31)) rfl) ?_
              refine xg_t (xg_iload (va := (0, 970 + (4 * ki))) rfl rfl) ?_
              refine xg_t (xg_const) ?_
              refine xg_t (xg_iadd (u := 970 + (4 * ki)) (v := 3) (z := (970 + (4 * ki)) + 3) xnm0 xnm0 (by omega)) ?_
              refine xg_ialdB (n := (970 + (4 * ki)) + 3) (B := 4294967295) ((h83_34.fr hF57 (by decide)).fr hF71 (by decide)) (hb35) xnm0 (by omega) (fun u74 hu75 he76 => ?_)
              by_cases hc77 : u74 = 0
              · refine xg_t (xg_ifT (u := u74) rfl xnm0 (xj_eqT hc77)) ?_
                refine xg_t (xg_blq rfl) ?_
                refine xg_t (xg_aload (va := (2, 82)) rfl rfl) ?_
                refine xg_t (xg_getf (va := (2, 83)) (hF71.get (by decide) (hF57.get (by decide) h82_31)) rfl) ?_
                refine xg_t (xg_iload (va := (0, 970 + (4 * ki))) rfl rfl) ?_
                refine xg_t (xg_const) ?_
                refine xg_t (xg_iadd (u := 970 + (4 * ki)) (v := 3) (z := (970 + (4 * ki)) + 3) xnm0 xnm0 (by omega)) ?_
                refine xg_ialdB (n := (970 + (4 * ki)) + 3) (B := 4294967295) ((h83_34.fr hF57 (by decide)).fr hF71 (by decide)) (hb35) xnm0 (by omega) (fun u78 hu79 he80 => ?_)
                refine xg_t (xg_aload (va := (2, 82)) rfl rfl) ?_
                refine xg_t (xg_getf (va := (2, 83)) (hF71.get (by decide) (hF57.get (by decide) h82_31)) rfl) ?_
                refine xg_t (xg_iload (va := (0, 970 + (4 * ki))) rfl rfl) ?_
                refine xg_t (xg_const) ?_
                refine xg_t (xg_iadd (u := 970 + (4 * ki)) (v := 2) (z := (970 + (4 * ki)) + 2) xnm0 xnm0 (by omega)) ?_
                refine xg_ialdB (n := (970 + (4 * ki)) + 2) (B := 4294967295) ((h83_34.fr hF57 (by decide)).fr hF71 (by decide)) (hb35) xnm0 (by omega) (fun u81 hu82 he83 => ?_)
                by_cases hc84 : u78 = u81
                · refine xg_t (xg_icT (u := u78) (v := u81) rfl xnm0 xnm0 (xj_eqT hc84)) ?_
                  refine xg_t (xg_blq rfl) ?_
                  refine xg_t (xg_const) ?_
                  refine xg_t (xg_goto) ?_
                  refine xg_t (xg_blq rfl) ?_
                  refine xg_t (xg_istore (l1 := [(4, (0, n72)), (3, (0, 970 + (4 * ki))), (0, (2, 82)), (1, (0, li)), (2, (0, ki))]) rfl rfl rfl) ?_
                  refine xg_t (xg_iload (va := (0, 1)) rfl rfl) ?_
                  refine xg_t (xg_ifF (u := 1) rfl xnm0 (by decide)) ?_
                  refine xg_t (xg_aload (va := (2, 82)) rfl rfl) ?_
                  refine xg_t (xg_getf (va := (2, 111)) (hF71.get (by decide) (hF57.get (by decide) h82_31)) rfl) ?_
                  refine xg_t (xg_iload (va := (0, li)) rfl rfl) ?_
                  refine xg_t (xg_dup2 rfl) ?_
                  refine xoI (xqc111 hI70 : cpI 240 78 4294967295 (wget w68 111)) (fun g111_85 h111_86 hb87 => ?_)
                  refine xg_ialdB (n := li) (B := 4294967295) h111_86 (hb87) xnm0 (by omega) (fun u88 hu89 he90 => ?_)
                  refine xg_t (xg_const) ?_
                  refine xg_t (xg_iload (va := (0, ki)) rfl rfl) ?_
                  refine xg_k (xg_ishlG (u := 1) (v := ki) xnm0 xnm0) (xpt_lt _) (fun z91 hz92 => ?_)
                  refine xg_k (xg_ior (z := Nat.lor u88 z91) (u := u88) (v := z91) xnm0 xnm0 rfl) (xlor_lt (by omega) (by omega)) (fun z93 hz94 => ?_)
                  refine xg_iastK (n := li) (u := z93) h111_86 xnm0 xnm0 rfl (by omega) (fun w95 hr96 hb97 => ?_)
                  refine xg_t (xg_blq rfl) ?_
                  refine xg_t (xg_iinc (u := ki) (z := ki + 1) (l1 := [(5, (0, 1)), (4, (0, n72)), (3, (0, 970 + (4 * ki))), (0, (2, 82)), (1, (0, li))]) rfl rfl (by omega) rfl) ?_
                  refine xg_t (xg_goto) ?_
                  refine xg_t (xg_drop (l1 := [(0, (2, 82)), (1, (0, li)), (2, (0, ki + 1))]) (List.forall_mem_cons.mpr ⟨List.mem_cons_of_mem _ (List.mem_cons_of_mem _ (List.mem_cons_of_mem _ (List.mem_cons_of_mem _ (List.mem_cons_self)))), List.forall_mem_cons.mpr ⟨List.mem_cons_of_mem _ (List.mem_cons_of_mem _ (List.mem_cons_of_mem _ (List.mem_cons_of_mem _ (List.mem_cons_of_mem _ (List.mem_cons_self))))), List.forall_mem_cons.mpr ⟨List.mem_cons_self, fun _ h => absurd h List.not_mem_nil⟩⟩⟩)) ?_
                  exact ih53 (ki + 1) w95 (by omega) (by omega) (xMnv.up (S := [111]) hI70 (xFr.of (S := [111]) hb97 (by decide)) (List.forall_mem_cons.mpr ⟨xqu111 (show cpI 240 78 4294967295 (wget w95 111) from ⟨_, hr96, xrb (by omega) (hb87)⟩), fun _ h => absurd h List.not_mem_nil⟩)) (((hF57.tr (hF71.up (by decide))).tr (xFr.of (S := [111]) hb97 (by decide))))
                · refine xg_t (xg_icF (u := u78) (v := u81) rfl xnm0 xnm0 (xj_eqF hc84)) ?_
                  refine xg_t (xg_aload (va := (2, 82)) rfl rfl) ?_
                  refine xg_t (xg_getf (va := (2, 83)) (hF71.get (by decide) (hF57.get (by decide) h82_31)) rfl) ?_
                  refine xg_t (xg_iload (va := (0, 970 + (4 * ki))) rfl rfl) ?_
                  refine xg_t (xg_const) ?_
                  refine xg_t (xg_iadd (u := 970 + (4 * ki)) (v := 1) (z := (970 + (4 * ki)) + 1) xnm0 xnm0 (by omega)) ?_
                  refine xg_ialdB (n := (970 + (4 * ki)) + 1) (B := 4294967295) ((h83_34.fr hF57 (by decide)).fr hF71 (by decide)) (hb35) xnm0 (by omega) (fun u98 hu99 he100 => ?_)
                  refine xg_t (xg_bip) ?_
                  refine xg_t (xg_iload (va := (0, n72)) rfl rfl) ?_
                  refine xg_k (xg_imul (u := 12) (v := n72) (z := (12 * n72) % 4294967296) xnm0 xnm0 rfl) (Nat.mod_lt _ (by decide)) (fun z101 hz102 => ?_)
                  by_cases hc103 : xbs u98 < xbs z101
                  · have hc103u := hc103
                    unfold xbs at hc103u
                    refine xg_t (xg_icF (u := u98) (v := z101) rfl xnm0 xnm0 (xjs_geF hc103)) ?_
                    refine xg_t (xg_blq rfl) ?_
                    refine xg_t (xg_const) ?_
                    refine xg_t (xg_goto) ?_
                    refine xg_t (xg_blq rfl) ?_
                    refine xg_t (xg_istore (l1 := [(4, (0, n72)), (3, (0, 970 + (4 * ki))), (0, (2, 82)), (1, (0, li)), (2, (0, ki))]) rfl rfl rfl) ?_
                    refine xg_t (xg_iload (va := (0, 1)) rfl rfl) ?_
                    refine xg_t (xg_ifF (u := 1) rfl xnm0 (by decide)) ?_
                    refine xg_t (xg_aload (va := (2, 82)) rfl rfl) ?_
                    refine xg_t (xg_getf (va := (2, 111)) (hF71.get (by decide) (hF57.get (by decide) h82_31)) rfl) ?_
                    refine xg_t (xg_iload (va := (0, li)) rfl rfl) ?_
                    refine xg_t (xg_dup2 rfl) ?_
                    refine xoI (xqc111 hI70 : cpI 240 78 4294967295 (wget w68 111)) (fun g111_104 h111_105 hb106 => ?_)
                    refine xg_ialdB (n := li) (B := 4294967295) h111_105 (hb106) xnm0 (by omega) (fun u107 hu108 he109 => ?_)
                    refine xg_t (xg_const) ?_
                    refine xg_t (xg_iload (va := (0, ki)) rfl rfl) ?_
                    refine xg_k (xg_ishlG (u := 1) (v := ki) xnm0 xnm0) (xpt_lt _) (fun z110 hz111 => ?_)
                    refine xg_k (xg_ior (z := Nat.lor u107 z110) (u := u107) (v := z110) xnm0 xnm0 rfl) (xlor_lt (by omega) (by omega)) (fun z112 hz113 => ?_)
                    refine xg_iastK (n := li) (u := z112) h111_105 xnm0 xnm0 rfl (by omega) (fun w114 hr115 hb116 => ?_)
                    refine xg_t (xg_blq rfl) ?_
                    refine xg_t (xg_iinc (u := ki) (z := ki + 1) (l1 := [(5, (0, 1)), (4, (0, n72)), (3, (0, 970 + (4 * ki))), (0, (2, 82)), (1, (0, li))]) rfl rfl (by omega) rfl) ?_
                    refine xg_t (xg_goto) ?_
                    refine xg_t (xg_drop (l1 := [(0, (2, 82)), (1, (0, li)), (2, (0, ki + 1))]) (List.forall_mem_cons.mpr ⟨List.mem_cons_of_mem _ (List.mem_cons_of_mem _ (List.mem_cons_of_mem _ (List.mem_cons_of_mem _ (List.mem_cons_self)))), List.forall_mem_cons.mpr ⟨List.mem_cons_of_mem _ (List.mem_cons_of_mem _ (List.mem_cons_of_mem _ (List.mem_cons_of_mem _ (List.mem_cons_of_mem _ (List.mem_cons_self))))), List.forall_mem_cons.mpr ⟨List.mem_cons_self, fun _ h => absurd h List.not_mem_nil⟩⟩⟩)) ?_
                    exact ih53 (ki + 1) w114 (by omega) (by omega) (xMnv.up (S := [111]) hI70 (xFr.of (S := [111]) hb116 (by decide)) (List.forall_mem_cons.mpr ⟨xqu111 (show cpI 240 78 4294967295 (wget w114 111) from ⟨_, hr115, xrb (by omega) (hb106)⟩), fun _ h => absurd h List.not_mem_nil⟩)) (((hF57.tr (hF71.up (by decide))).tr (xFr.of (S := [111]) hb116 (by decide))))
                  · have hc103u := hc103
                    unfold xbs at hc103u
                    refine xg_t (xg_icT (u := u98) (v := z101) rfl xnm0 xnm0 (xjs_geT hc103)) ?_
                    refine xg_t (xg_blq rfl) ?_
                    refine xg_t (xg_const) ?_
                    refine xg_t (xg_blq rfl) ?_
                    refine xg_t (xg_istore (l1 := [(4, (0, n72)), (3, (0, 970 + (4 * ki))), (0, (2, 82)), (1, (0, li)), (2, (0, ki))]) rfl rfl rfl) ?_
                    refine xg_t (xg_iload (va := (0, 0)) rfl rfl) ?_
                    refine xg_t (xg_ifT (u := 0) rfl xnm0 (by decide)) ?_
                    refine xg_t (xg_blq rfl) ?_
                    refine xg_t (xg_iinc (u := ki) (z := ki + 1) (l1 := [(5, (0, 0)), (4, (0, n72)), (3, (0, 970 + (4 * ki))), (0, (2, 82)), (1, (0, li))]) rfl rfl (by omega) rfl) ?_
                    refine xg_t (xg_goto) ?_
                    refine xg_t (xg_drop (l1 := [(0, (2, 82)), (1, (0, li)), (2, (0, ki + 1))]) (List.forall_mem_cons.mpr ⟨List.mem_cons_of_mem _ (List.mem_cons_of_mem _ (List.mem_cons_of_mem _ (List.mem_cons_of_mem _ (List.mem_cons_self)))), List.forall_mem_cons.mpr ⟨List.mem_cons_of_mem _ (List.mem_cons_of_mem _ (List.mem_cons_of_mem _ (List.mem_cons_of_mem _ (List.mem_cons_of_mem _ (List.mem_cons_self))))), List.forall_mem_cons.mpr ⟨List.mem_cons_self, fun _ h => absurd h List.not_mem_nil⟩⟩⟩)) ?_
                    exact ih53 (ki + 1) w68 (by omega) (by omega) (hI70) ((hF57.tr (hF71.up (by decide))))
              · refine xg_t (xg_ifF (u := u74) rfl xnm0 (xj_eqF hc77)) ?_
                refine xg_t (xg_aload (va := (2, 82)) rfl rfl) ?_
                refine xg_t (xg_getf (va := (2, 83)) (hF71.get (by decide) (hF57.get (by decide) h82_31)) rfl) ?_
                refine xg_t (xg_iload (va := (0, 970 + (4 * ki))) rfl rfl) ?_
                refine xg_t (xg_const) ?_
                refine xg_t (xg_iadd (u := 970 + (4 * ki)) (v := 1) (z := (970 + (4 * ki)) + 1) xnm0 xnm0 (by omega)) ?_
                refine xg_ialdB (n := (970 + (4 * ki)) + 1) (B := 4294967295) ((h83_34.fr hF57 (by decide)).fr hF71 (by decide)) (hb35) xnm0 (by omega) (fun u117 hu118 he119 => ?_)
                refine xg_t (xg_bip) ?_
                refine xg_t (xg_iload (va := (0, n72)) rfl rfl) ?_
                refine xg_k (xg_imul (u := 8) (v := n72) (z := (8 * n72) % 4294967296) xnm0 xnm0 rfl) (Nat.mod_lt _ (by decide)) (fun z120 hz121 => ?_)
                by_cases hc122 : xbs u117 < xbs z120
                · have hc122u := hc122
                  unfold xbs at hc122u
                  refine xg_t (xg_icT (u := u117) (v := z120) rfl xnm0 xnm0 (xjs_ltT hc122)) ?_
                  refine xg_t (xg_blq rfl) ?_
                  refine xg_t (xg_const) ?_
                  refine xg_t (xg_blq rfl) ?_
                  refine xg_t (xg_istore (l1 := [(4, (0, n72)), (3, (0, 970 + (4 * ki))), (0, (2, 82)), (1, (0, li)), (2, (0, ki))]) rfl rfl rfl) ?_
                  refine xg_t (xg_iload (va := (0, 0)) rfl rfl) ?_
                  refine xg_t (xg_ifT (u := 0) rfl xnm0 (by decide)) ?_
                  refine xg_t (xg_blq rfl) ?_
                  refine xg_t (xg_iinc (u := ki) (z := ki + 1) (l1 := [(5, (0, 0)), (4, (0, n72)), (3, (0, 970 + (4 * ki))), (0, (2, 82)), (1, (0, li))]) rfl rfl (by omega) rfl) ?_
                  refine xg_t (xg_goto) ?_
                  refine xg_t (xg_drop (l1 := [(0, (2, 82)), (1, (0, li)), (2, (0, ki + 1))]) (List.forall_mem_cons.mpr ⟨List.mem_cons_of_mem _ (List.mem_cons_of_mem _ (List.mem_cons_of_mem _ (List.mem_cons_of_mem _ (List.mem_cons_self)))), List.forall_mem_cons.mpr ⟨List.mem_cons_of_mem _ (List.mem_cons_of_mem _ (List.mem_cons_of_mem _ (List.mem_cons_of_mem _ (List.mem_cons_of_mem _ (List.mem_cons_self))))), List.forall_mem_cons.mpr ⟨List.mem_cons_self, fun _ h => absurd h List.not_mem_nil⟩⟩⟩)) ?_
                  exact ih53 (ki + 1) w68 (by omega) (by omega) (hI70) ((hF57.tr (hF71.up (by decide))))
                · have hc122u := hc122
                  unfold xbs at hc122u
                  refine xg_t (xg_icF (u := u117) (v := z120) rfl xnm0 xnm0 (xjs_ltF hc122)) ?_
                  refine xg_t (xg_blq rfl) ?_
                  refine xg_t (xg_aload (va := (2, 82)) rfl rfl) ?_
                  refine xg_t (xg_getf (va := (2, 83)) (hF71.get (by decide) (hF57.get (by decide) h82_31)) rfl) ?_
                  refine xg_t (xg_iload (va := (0, 970 + (4 * ki))) rfl rfl) ?_
                  refine xg_t (xg_const) ?_
                  refine xg_t (xg_iadd (u := 970 + (4 * ki)) (v := 3) (z := (970 + (4 * ki)) + 3) xnm0 xnm0 (by omega)) ?_
                  refine xg_ialdB (n := (970 + (4 * ki)) + 3) (B := 4294967295) ((h83_34.fr hF57 (by decide)).fr hF71 (by decide)) (hb35) xnm0 (by omega) (fun u123 hu124 he125 => ?_)
                  refine xg_t (xg_aload (va := (2, 82)) rfl rfl) ?_
                  refine xg_t (xg_getf (va := (2, 83)) (hF71.get (by decide) (hF57.get (by decide) h82_31)) rfl) ?_
                  refine xg_t (xg_iload (va := (0, 970 + (4 * ki))) rfl rfl) ?_
                  refine xg_t (xg_const) ?_
                  refine xg_t (xg_iadd (u := 970 + (4 * ki)) (v := 2) (z := (970 + (4 * ki)) + 2) xnm0 xnm0 (by omega)) ?_
                  refine xg_ialdB (n := (970 + (4 * ki)) + 2) (B := 4294967295) ((h83_34.fr hF57 (by decide)).fr hF71 (by decide)) (hb35) xnm0 (by omega) (fun u126 hu127 he128 => ?_)
                  by_cases hc129 : u123 = u126
                  · refine xg_t (xg_icT (u := u123) (v := u126) rfl xnm0 xnm0 (xj_eqT hc129)) ?_
                    refine xg_t (xg_blq rfl) ?_
                    refine xg_t (xg_const) ?_
                    refine xg_t (xg_goto) ?_
                    refine xg_t (xg_blq rfl) ?_
                    refine xg_t (xg_istore (l1 := [(4, (0, n72)), (3, (0, 970 + (4 * ki))), (0, (2, 82)), (1, (0, li)), (2, (0, ki))]) rfl rfl rfl) ?_
                    refine xg_t (xg_iload (va := (0, 1)) rfl rfl) ?_
                    refine xg_t (xg_ifF (u := 1) rfl xnm0 (by decide)) ?_
                    refine xg_t (xg_aload (va := (2, 82)) rfl rfl) ?_
                    refine xg_t (xg_getf (va := (2, 111)) (hF71.get (by decide) (hF57.get (by decide) h82_31)) rfl) ?_
                    refine xg_t (xg_iload (va := (0, li)) rfl rfl) ?_
                    refine xg_t (xg_dup2 rfl) ?_
                    refine xoI (xqc111 hI70 : cpI 240 78 4294967295 (wget w68 111)) (fun g111_130 h111_131 hb132 => ?_)
                    refine xg_ialdB (n := li) (B := 4294967295) h111_131 (hb132) xnm0 (by omega) (fun u133 hu134 he135 => ?_)
                    refine xg_t (xg_const) ?_
                    refine xg_t (xg_iload (va := (0, ki)) rfl rfl) ?_
                    refine xg_k (xg_ishlG (u := 1) (v := ki) xnm0 xnm0) (xpt_lt _) (fun z136 hz137 => ?_)
                    refine xg_k (xg_ior (z := Nat.lor u133 z136) (u := u133) (v := z136) xnm0 xnm0 rfl) (xlor_lt (by omega) (by omega)) (fun z138 hz139 => ?_)
                    refine xg_iastK (n := li) (u := z138) h111_131 xnm0 xnm0 rfl (by omega) (fun w140 hr141 hb142 => ?_)
                    refine xg_t (xg_blq rfl) ?_
                    refine xg_t (xg_iinc (u := ki) (z := ki + 1) (l1 := [(5, (0, 1)), (4, (0, n72)), (3, (0, 970 + (4 * ki))), (0, (2, 82)), (1, (0, li))]) rfl rfl (by omega) rfl) ?_
                    refine xg_t (xg_goto) ?_
                    refine xg_t (xg_drop (l1 := [(0, (2, 82)), (1, (0, li)), (2, (0, ki + 1))]) (List.forall_mem_cons.mpr ⟨List.mem_cons_of_mem _ (List.mem_cons_of_mem _ (List.mem_cons_of_mem _ (List.mem_cons_of_mem _ (List.mem_cons_self)))), List.forall_mem_cons.mpr ⟨List.mem_cons_of_mem _ (List.mem_cons_of_mem _ (List.mem_cons_of_mem _ (List.mem_cons_of_mem _ (List.mem_cons_of_mem _ (List.mem_cons_self))))), List.forall_mem_cons.mpr ⟨List.mem_cons_self, fun _ h => absurd h List.not_mem_nil⟩⟩⟩)) ?_
                    exact ih53 (ki + 1) w140 (by omega) (by omega) (xMnv.up (S := [111]) hI70 (xFr.of (S := [111]) hb142 (by decide)) (List.forall_mem_cons.mpr ⟨xqu111 (show cpI 240 78 4294967295 (wget w140 111) from ⟨_, hr141, xrb (by omega) (hb132)⟩), fun _ h => absurd h List.not_mem_nil⟩)) (((hF57.tr (hF71.up (by decide))).tr (xFr.of (S := [111]) hb142 (by decide))))
                  · refine xg_t (xg_icF (u := u123) (v := u126) rfl xnm0 xnm0 (xj_eqF hc129)) ?_
                    refine xg_t (xg_aload (va := (2, 82)) rfl rfl) ?_
                    refine xg_t (xg_getf (va := (2, 83)) (hF71.get (by decide) (hF57.get (by decide) h82_31)) rfl) ?_
                    refine xg_t (xg_iload (va := (0, 970 + (4 * ki))) rfl rfl) ?_
                    refine xg_t (xg_const) ?_
                    refine xg_t (xg_iadd (u := 970 + (4 * ki)) (v := 1) (z := (970 + (4 * ki)) + 1) xnm0 xnm0 (by omega)) ?_
                    refine xg_ialdB (n := (970 + (4 * ki)) + 1) (B := 4294967295) ((h83_34.fr hF57 (by decide)).fr hF71 (by decide)) (hb35) xnm0 (by omega) (fun u143 hu144 he145 => ?_)
                    refine xg_t (xg_bip) ?_
                    refine xg_t (xg_iload (va := (0, n72)) rfl rfl) ?_
                    refine xg_k (xg_imul (u := 12) (v := n72) (z := (12 * n72) % 4294967296) xnm0 xnm0 rfl) (Nat.mod_lt _ (by decide)) (fun z146 hz147 => ?_)
                    by_cases hc148 : xbs u143 < xbs z146
                    · have hc148u := hc148
                      unfold xbs at hc148u
                      refine xg_t (xg_icF (u := u143) (v := z146) rfl xnm0 xnm0 (xjs_geF hc148)) ?_
                      refine xg_t (xg_blq rfl) ?_
                      refine xg_t (xg_const) ?_
                      refine xg_t (xg_goto) ?_
                      refine xg_t (xg_blq rfl) ?_
                      refine xg_t (xg_istore (l1 := [(4, (0, n72)), (3, (0, 970 + (4 * ki))), (0, (2, 82)), (1, (0, li)), (2, (0, ki))]) rfl rfl rfl) ?_
                      refine xg_t (xg_iload (va := (0, 1)) rfl rfl) ?_
                      refine xg_t (xg_ifF (u := 1) rfl xnm0 (by decide)) ?_
                      refine xg_t (xg_aload (va := (2, 82)) rfl rfl) ?_
                      refine xg_t (xg_getf (va := (2, 111)) (hF71.get (by decide) (hF57.get (by decide) h82_31)) rfl) ?_
                      refine xg_t (xg_iload (va := (0, li)) rfl rfl) ?_
                      refine xg_t (xg_dup2 rfl) ?_
                      refine xoI (xqc111 hI70 : cpI 240 78 4294967295 (wget w68 111)) (fun g111_149 h111_150 hb151 => ?_)
                      refine xg_ialdB (n := li) (B := 4294967295) h111_150 (hb151) xnm0 (by omega) (fun u152 hu153 he154 => ?_)
                      refine xg_t (xg_const) ?_
                      refine xg_t (xg_iload (va := (0, ki)) rfl rfl) ?_
                      refine xg_k (xg_ishlG (u := 1) (v := ki) xnm0 xnm0) (xpt_lt _) (fun z155 hz156 => ?_)
                      refine xg_k (xg_ior (z := Nat.lor u152 z155) (u := u152) (v := z155) xnm0 xnm0 rfl) (xlor_lt (by omega) (by omega)) (fun z157 hz158 => ?_)
                      refine xg_iastK (n := li) (u := z157) h111_150 xnm0 xnm0 rfl (by omega) (fun w159 hr160 hb161 => ?_)
                      refine xg_t (xg_blq rfl) ?_
                      refine xg_t (xg_iinc (u := ki) (z := ki + 1) (l1 := [(5, (0, 1)), (4, (0, n72)), (3, (0, 970 + (4 * ki))), (0, (2, 82)), (1, (0, li))]) rfl rfl (by omega) rfl) ?_
                      refine xg_t (xg_goto) ?_
                      refine xg_t (xg_drop (l1 := [(0, (2, 82)), (1, (0, li)), (2, (0, ki + 1))]) (List.forall_mem_cons.mpr ⟨List.mem_cons_of_mem _ (List.mem_cons_of_mem _ (List.mem_cons_of_mem _ (List.mem_cons_of_mem _ (List.mem_cons_self)))), List.forall_mem_cons.mpr ⟨List.mem_cons_of_mem _ (List.mem_cons_of_mem _ (List.mem_cons_of_mem _ (List.mem_cons_of_mem _ (List.mem_cons_of_mem _ (List.mem_cons_self))))), List.forall_mem_cons.mpr ⟨List.mem_cons_self, fun _ h => absurd h List.not_mem_nil⟩⟩⟩)) ?_
                      exact ih53 (ki + 1) w159 (by omega) (by omega) (xMnv.up (S := [111]) hI70 (xFr.of (S := [111]) hb161 (by decide)) (List.forall_mem_cons.mpr ⟨xqu111 (show cpI 240 78 4294967295 (wget w159 111) from ⟨_, hr160, xrb (by omega) (hb151)⟩), fun _ h => absurd h List.not_mem_nil⟩)) (((hF57.tr (hF71.up (by decide))).tr (xFr.of (S := [111]) hb161 (by decide))))
                    · have hc148u := hc148
                      unfold xbs at hc148u
                      refine xg_t (xg_icT (u := u143) (v := z146) rfl xnm0 xnm0 (xjs_geT hc148)) ?_
                      refine xg_t (xg_blq rfl) ?_
                      refine xg_t (xg_const) ?_
                      refine xg_t (xg_blq rfl) ?_
                      refine xg_t (xg_istore (l1 := [(4, (0, n72)), (3, (0, 970 + (4 * ki))), (0, (2, 82)), (1, (0, li)), (2, (0, ki))]) rfl rfl rfl) ?_
                      refine xg_t (xg_iload (va := (0, 0)) rfl rfl) ?_
                      refine xg_t (xg_ifT (u := 0) rfl xnm0 (by decide)) ?_
                      refine xg_t (xg_blq rfl) ?_
                      refine xg_t (xg_iinc (u := ki) (z := ki + 1) (l1 := [(5, (0, 0)), (4, (0, n72)), (3, (0, 970 + (4 * ki))), (0, (2, 82)), (1, (0, li))]) rfl rfl (by omega) rfl) ?_
                      refine xg_t (xg_goto) ?_
                      refine xg_t (xg_drop (l1 := [(0, (2, 82)), (1, (0, li)), (2, (0, ki + 1))]) (List.forall_mem_cons.mpr ⟨List.mem_cons_of_mem _ (List.mem_cons_of_mem _ (List.mem_cons_of_mem _ (List.mem_cons_of_mem _ (List.mem_cons_self)))), List.forall_mem_cons.mpr ⟨List.mem_cons_of_mem _ (List.mem_cons_of_mem _ (List.mem_cons_of_mem _ (List.mem_cons_of_mem _ (List.mem_cons_of_mem _ (List.mem_cons_self))))), List.forall_mem_cons.mpr ⟨List.mem_cons_self, fun _ h => absurd h List.not_mem_nil⟩⟩⟩)) ?_
                      exact ih53 (ki + 1) w68 (by omega) (by omega) (hI70) ((hF57.tr (hF71.up (by decide))))
            · refine xg_t (xg_icT (u := ki) (v := u60) rfl xnm0 xnm0 (xj_geT (by omega) (by omega))) ?_
              refine xg_t (xg_blq rfl) ?_
              refine xg_t (xg_iinc (u := li) (z := li + 1) (l1 := [(0, (2, 82)), (2, (0, ki))]) rfl rfl (by omega) rfl) ?_
              refine xg_t (xg_goto) ?_
              refine xg_t (xg_drop (l1 := [(0, (2, 82)), (1, (0, li + 1))]) (List.forall_mem_cons.mpr ⟨List.mem_cons_of_mem _ (List.mem_cons_self), List.forall_mem_cons.mpr ⟨List.mem_cons_self, fun _ h => absurd h List.not_mem_nil⟩⟩)) ?_
              exact ih38 (li + 1) w55 (by omega) (by omega) (hI56) (hF57)
        exact key52 _ 0 w49 (Nat.lt_succ_self _) (by omega) (xMnv.up (S := [111]) hI41 (xFr.of (S := [111]) hb51 (by decide)) (List.forall_mem_cons.mpr ⟨xqu111 (show cpI 240 78 4294967295 (wget w49 111) from ⟨_, hr50, xrb (by omega) (hb48)⟩), fun _ h => absurd h List.not_mem_nil⟩)) ((hF42.tr (xFr.of (S := [111]) hb51 (by decide))))
      · refine xg_t (xg_icT (u := li) (v := 240) rfl xnm0 xnm0 (xj_geT (by omega) (by omega))) ?_
        refine xg_t (xg_blq rfl) ?_
        exact xg_e ⟨w40, ⟨rfl, rfl⟩, hI41, hF42⟩
  exact key37 _ 0 w (Nat.lt_succ_self _) (by omega) (hI) (xFr.rf)
theorem mAllTests (hI : xMnv w)  : xPi d mX12_allTests [(2, 82)] w bd fc rr (fun n w' => (n ≤ 4095) ∧ xMnv w' ∧ xFr [] w w') := by
  refine xPi.of ?_
  show xTo d mX12_allTests (0, [], [(0, (2, 82))], [], (w, bd, fc, 0, 0, rr)) (fun φ => ∃ n w', xEnd 1 [(0, n)] (w', bd, fc, 0, 0, rr) φ ∧ (n ≤ 4095) ∧ xMnv w' ∧ xFr [] w w')
  refine xoCh82 (xqc82 hI : cp82 (wget w 82)) (fun f82_1 f82_3 f82_5 f82_7 f82_9 f82_11 f82_13 f82_15 f82_17 f82_19 f82_21 f82_22 f82_23 f82_25 f82_27 f82_29 h82_31 hb2 hb4 hb6 hb8 hb10 hb12 hb14 hb16 hb18 hb20 hb24 hb26 hb28 hb30 hb32 => ?_)
  refine xoX83 (xqc83 hI : cpx83 (wget w 83)) (fun g83_33 h83_34 hb35 hx36 => ?_)
  refine xg_t (xg_blq rfl) ?_
  refine xg_t (xg_const) ?_
  refine xg_t (xg_aload (va := (2, 82)) rfl rfl) ?_
  refine xg_t (xg_getf (va := (2, 83)) h82_31 rfl) ?_
  refine xg_t (xg_sip) ?_
  refine xg_ialdB (n := 901) (B := 4294967295) h83_34 (hb35) xnm0 (by first | decide | omega) (fun u37 hu38 he39 => ?_)
  have hl40 : u37 ≤ 12 := by rw [← he39]; exact hx36.l901
  have hz42 : 2 ^ u37 ≤ 4096 := by
    have k : ∀ n, n ≤ 12 → 2 ^ n ≤ 4096 := by decide
    exact k _ (by omega)
  have hz43 : 1 ≤ 2 ^ u37 := Nat.one_le_two_pow
  refine xg_t (xg_ishl (u := 1) (v := u37) (z := 2 ^ u37) xnm0 xnm0 (by omega) (by rw [Nat.one_mul]; exact Nat.mod_eq_of_lt (by omega))) ?_
  generalize 2 ^ u37 = z41 at hz42 hz43 ⊢
  refine xg_t (xg_const) ?_
  refine xg_t (xg_isub (u := z41) (v := 1) (z := z41 - 1) xnm0 xnm0 (by omega)) ?_
  exact xg_e ⟨z41 - 1, w, ⟨rfl, rfl⟩, by omega, hI, xFr.rf⟩
theorem mIsLaw {la : Nat} (hI : xMnv w) (hla : la ≤ 239) : xPi (d + 1) mX12_isLaw [(2, 82), (0, la)] w bd fc rr (fun n w' => (n ≤ 1) ∧ xMnv w' ∧ xFr [] w w') := by
  refine xPi.of ?_
  show xTo (d + 1) mX12_isLaw (0, [], [(0, (2, 82)), (1, (0, la))], [], (w, bd, fc, 0, 0, rr)) (fun φ => ∃ n w', xEnd 4 [(0, n)] (w', bd, fc, 0, 0, rr) φ ∧ (n ≤ 1) ∧ xMnv w' ∧ xFr [] w w')
  refine xoCh82 (xqc82 hI : cp82 (wget w 82)) (fun f82_1 f82_3 f82_5 f82_7 f82_9 f82_11 f82_13 f82_15 f82_17 f82_19 f82_21 f82_22 f82_23 f82_25 f82_27 f82_29 h82_31 hb2 hb4 hb6 hb8 hb10 hb12 hb14 hb16 hb18 hb20 hb24 hb26 hb28 hb30 hb32 => ?_)
  refine xoI (xqc111 hI : cpI 240 78 4294967295 (wget w 111)) (fun g111_33 h111_34 hb35 => ?_)
  refine xg_t (xg_blq rfl) ?_
  refine xg_t (xg_aload (va := (2, 82)) rfl rfl) ?_
  refine xg_t (xg_getf (va := (2, 111)) h82_31 rfl) ?_
  refine xg_t (xg_iload (va := (0, la)) rfl rfl) ?_
  refine xg_ialdB (n := la) (B := 4294967295) h111_34 (hb35) xnm0 (by omega) (fun u36 hu37 he38 => ?_)
  refine xg_t (xg_aload (va := (2, 82)) rfl rfl) ?_
  refine xg_cVi mX12_allTests (vs := []) (rest := [(0, u36)]) (cn1 := 0) (sl1 := 0) rfl (mAllTests (hI)) rfl h82_31 rfl rfl rfl rfl rfl rfl (fun n43 w39 hq40 => ?_)
  obtain ⟨hn44, hI41, hF42⟩ := hq40
  by_cases hc45 : u36 = n43
  · refine xg_t (xg_icF (u := u36) (v := n43) rfl xnm0 xnm0 (xj_neF hc45)) ?_
    refine xg_t (xg_const) ?_
    refine xg_t (xg_goto) ?_
    refine xg_t (xg_blq rfl) ?_
    exact xg_e ⟨1, w39, ⟨rfl, rfl⟩, by first | decide | omega, hI41, (hF42.up (by decide))⟩
  · refine xg_t (xg_icT (u := u36) (v := n43) rfl xnm0 xnm0 (xj_neT hc45)) ?_
    refine xg_t (xg_blq rfl) ?_
    refine xg_t (xg_const) ?_
    refine xg_t (xg_blq rfl) ?_
    exact xg_e ⟨0, w39, ⟨rfl, rfl⟩, by first | decide | omega, hI41, (hF42.up (by decide))⟩
theorem mManyKept (hI : xMnv w)  : xPi (d + 2) mX12_manyKept [(2, 82)] w bd fc rr (fun n w' => (n ≤ 4294967295) ∧ xMnv w' ∧ xFr [111] w w') := by
  refine xPi.of ?_
  show xTo (d + 2) mX12_manyKept (0, [], [(0, (2, 82))], [], (w, bd, fc, 0, 0, rr)) (fun φ => ∃ n w', xEnd 1 [(0, n)] (w', bd, fc, 0, 0, rr) φ ∧ (n ≤ 4294967295) ∧ xMnv w' ∧ xFr [111] w w')
  refine xoCh82 (xqc82 hI : cp82 (wget w 82)) (fun f82_1 f82_3 f82_5 f82_7 f82_9 f82_11 f82_13 f82_15 f82_17 f82_19 f82_21 f82_22 f82_23 f82_25 f82_27 f82_29 h82_31 hb2 hb4 hb6 hb8 hb10 hb12 hb14 hb16 hb18 hb20 hb24 hb26 hb28 hb30 hb32 => ?_)
  refine xoX83 (xqc83 hI : cpx83 (wget w 83)) (fun g83_33 h83_34 hb35 hx36 => ?_)
  refine xg_t (xg_blq rfl) ?_
  refine xg_t (xg_aload (va := (2, 82)) rfl rfl) ?_
  refine xg_cVv mX12_keeps (vs := []) (rest := []) (cn1 := 0) (sl1 := 0) rfl (mKeeps (hI)) rfl h82_31 rfl rfl rfl rfl rfl rfl (fun w37 hq38 => ?_)
  obtain ⟨hI39, hF40⟩ := hq38
  refine xg_t (xg_const) ?_
  refine xg_t (xg_istore (l1 := [(0, (2, 82))]) rfl rfl rfl) ?_
  refine xg_t (xg_const) ?_
  refine xg_t (xg_istore (l1 := [(1, (0, 0)), (0, (2, 82))]) rfl rfl rfl) ?_
  refine xg_t (xg_drop (l1 := [(0, (2, 82)), (1, (0, 0)), (2, (0, 0))]) (List.forall_mem_cons.mpr ⟨List.mem_cons_of_mem _ (List.mem_cons_of_mem _ (List.mem_cons_self)), List.forall_mem_cons.mpr ⟨List.mem_cons_of_mem _ (List.mem_cons_self), List.forall_mem_cons.mpr ⟨List.mem_cons_self, fun _ h => absurd h List.not_mem_nil⟩⟩⟩)) ?_
  have key41 : ∀ (m43 : Nat) (nn li : Nat) (w44 : List (List xE)), 240 - li < m43 → nn ≤ 4294967295 → li ≤ 240 → xMnv w44 → xFr [111] w w44 → xTo (d + 2) mX12_manyKept (8, [], [(0, (2, 82)), (1, (0, nn)), (2, (0, li))], [], (w44, bd, fc, 0, 0, rr)) (fun φ => ∃ n w', xEnd 1 [(0, n)] (w', bd, fc, 0, 0, rr) φ ∧ (n ≤ 4294967295) ∧ xMnv w' ∧ xFr [111] w w') := by
    intro m43
    induction m43 with
    | zero => intro nn li w44 hz; exact absurd hz (Nat.not_lt_zero _)
    | succ m43 ih42 =>
      intro nn li w44 hm49 hn47 hn48 hI45 hF46
      refine xg_t (xg_blq rfl) ?_
      refine xg_t (xg_iload (va := (0, li)) rfl rfl) ?_
      refine xg_t (xg_sip) ?_
      by_cases hc50 : li < 240
      · refine xg_t (xg_icF (u := li) (v := 240) rfl xnm0 xnm0 (xj_geF hc50 (by omega))) ?_
        refine xg_t (xg_iload (va := (0, nn)) rfl rfl) ?_
        refine xg_t (xg_aload (va := (2, 82)) rfl rfl) ?_
        refine xg_t (xg_iload (va := (0, li)) rfl rfl) ?_
        refine xg_cVi mX12_isLaw (vs := [(0, li)]) (rest := [(0, nn)]) (cn1 := 0) (sl1 := 0) rfl (mIsLaw (hI45) (by omega)) rfl (hF46.get (by decide) h82_31) rfl rfl rfl rfl rfl rfl (fun n55 w51 hq52 => ?_)
        obtain ⟨hn56, hI53, hF54⟩ := hq52
        by_cases hc57 : n55 = 0
        · refine xg_t (xg_ifT (u := n55) rfl xnm0 (xj_eqT hc57)) ?_
          refine xg_t (xg_blq rfl) ?_
          refine xg_t (xg_const) ?_
          refine xg_t (xg_blq rfl) ?_
          refine xg_k (xg_iadd (u := nn) (v := 0) (z := (nn + 0) % 4294967296) xnm0 xnm0 rfl) (Nat.mod_lt _ (by decide)) (fun z58 hz59 => ?_)
          refine xg_t (xg_istore (l1 := [(0, (2, 82)), (2, (0, li))]) rfl rfl rfl) ?_
          refine xg_t (xg_iinc (u := li) (z := li + 1) (l1 := [(1, (0, z58)), (0, (2, 82))]) rfl rfl (by omega) rfl) ?_
          refine xg_t (xg_goto) ?_
          refine xg_t (xg_drop (l1 := [(0, (2, 82)), (1, (0, z58)), (2, (0, li + 1))]) (List.forall_mem_cons.mpr ⟨List.mem_cons_of_mem _ (List.mem_cons_of_mem _ (List.mem_cons_self)), List.forall_mem_cons.mpr ⟨List.mem_cons_of_mem _ (List.mem_cons_self), List.forall_mem_cons.mpr ⟨List.mem_cons_self, fun _ h => absurd h List.not_mem_nil⟩⟩⟩)) ?_
          exact ih42 z58 (li + 1) w51 (by omega) (by omega) (by omega) (hI53) ((hF46.tr (hF54.up (by decide))))
        · refine xg_t (xg_ifF (u := n55) rfl xnm0 (xj_eqF hc57)) ?_
          refine xg_t (xg_const) ?_
          refine xg_t (xg_goto) ?_
          refine xg_t (xg_blq rfl) ?_
          refine xg_k (xg_iadd (u := nn) (v := 1) (z := (nn + 1) % 4294967296) xnm0 xnm0 rfl) (Nat.mod_lt _ (by decide)) (fun z60 hz61 => ?_)
          refine xg_t (xg_istore (l1 := [(0, (2, 82)), (2, (0, li))]) rfl rfl rfl) ?_
          refine xg_t (xg_iinc (u := li) (z := li + 1) (l1 := [(1, (0, z60)), (0, (2, 82))]) rfl rfl (by omega) rfl) ?_
          refine xg_t (xg_goto) ?_
          refine xg_t (xg_drop (l1 := [(0, (2, 82)), (1, (0, z60)), (2, (0, li + 1))]) (List.forall_mem_cons.mpr ⟨List.mem_cons_of_mem _ (List.mem_cons_of_mem _ (List.mem_cons_self)), List.forall_mem_cons.mpr ⟨List.mem_cons_of_mem _ (List.mem_cons_self), List.forall_mem_cons.mpr ⟨List.mem_cons_self, fun _ h => absurd h List.not_mem_nil⟩⟩⟩)) ?_
          exact ih42 z60 (li + 1) w51 (by omega) (by omega) (by omega) (hI53) ((hF46.tr (hF54.up (by decide))))
      · refine xg_t (xg_icT (u := li) (v := 240) rfl xnm0 xnm0 (xj_geT (by omega) (by omega))) ?_
        refine xg_t (xg_blq rfl) ?_
        refine xg_t (xg_iload (va := (0, nn)) rfl rfl) ?_
        exact xg_e ⟨nn, w44, ⟨rfl, rfl⟩, by omega, hI45, hF46⟩
  exact key41 _ 0 0 w37 (Nat.lt_succ_self _) (by omega) (by omega) (hI39) ((hF40.up (by decide)))
theorem mKept (hI : xMnv w)  : xPi (d + 3) mX12_kept [(2, 82)] w bd fc rr (fun n w' => (n ≤ 4294967295) ∧ xMnv w' ∧ xFr [111] w w') := by
  refine xPi.of ?_
  show xTo (d + 3) mX12_kept (0, [], [(0, (2, 82))], [], (w, bd, fc, 0, 0, rr)) (fun φ => ∃ n w', xEnd 1 [(0, n)] (w', bd, fc, 0, 0, rr) φ ∧ (n ≤ 4294967295) ∧ xMnv w' ∧ xFr [111] w w')
  refine xoCh82 (xqc82 hI : cp82 (wget w 82)) (fun f82_1 f82_3 f82_5 f82_7 f82_9 f82_11 f82_13 f82_15 f82_17 f82_19 f82_21 f82_22 f82_23 f82_25 f82_27 f82_29 h82_31 hb2 hb4 hb6 hb8 hb10 hb12 hb14 hb16 hb18 hb20 hb24 hb26 hb28 hb30 hb32 => ?_)
  refine xoX83 (xqc83 hI : cpx83 (wget w 83)) (fun g83_33 h83_34 hb35 hx36 => ?_)
  refine xg_t (xg_blq rfl) ?_
  refine xg_t (xg_aload (va := (2, 82)) rfl rfl) ?_
  refine xg_cVi mX12_manyKept (vs := []) (rest := []) (cn1 := 0) (sl1 := 0) rfl (mManyKept (hI)) rfl h82_31 rfl rfl rfl rfl rfl rfl (fun n41 w37 hq38 => ?_)
  obtain ⟨hn42, hI39, hF40⟩ := hq38
  exact xg_e ⟨n41, w37, ⟨rfl, rfl⟩, by omega, hI39, (hF40.up (by decide))⟩
theorem mLaw {kk : Nat} (hI : xMnv w) (hkk : kk ≤ 4294967295) : xPi (d + 2) mX12_law [(2, 82), (0, kk)] w bd fc rr (fun n w' => (n ≤ 4294967295) ∧ xMnv w' ∧ xFr [111] w w') := by
  refine xPi.of ?_
  show xTo (d + 2) mX12_law (0, [], [(0, (2, 82)), (1, (0, kk))], [], (w, bd, fc, 0, 0, rr)) (fun φ => ∃ n w', xEnd 1 [(0, n)] (w', bd, fc, 0, 0, rr) φ ∧ (n ≤ 4294967295) ∧ xMnv w' ∧ xFr [111] w w')
  refine xoCh82 (xqc82 hI : cp82 (wget w 82)) (fun f82_1 f82_3 f82_5 f82_7 f82_9 f82_11 f82_13 f82_15 f82_17 f82_19 f82_21 f82_22 f82_23 f82_25 f82_27 f82_29 h82_31 hb2 hb4 hb6 hb8 hb10 hb12 hb14 hb16 hb18 hb20 hb24 hb26 hb28 hb30 hb32 => ?_)
  refine xoX83 (xqc83 hI : cpx83 (wget w 83)) (fun g83_33 h83_34 hb35 hx36 => ?_)
  refine xg_t (xg_blq rfl) ?_
  refine xg_t (xg_aload (va := (2, 82)) rfl rfl) ?_
  refine xg_cVv mX12_keeps (vs := []) (rest := []) (cn1 := 0) (sl1 := 0) rfl (mKeeps (hI)) rfl h82_31 rfl rfl rfl rfl rfl rfl (fun w37 hq38 => ?_)
  obtain ⟨hI39, hF40⟩ := hq38
  refine xg_t (xg_const) ?_
  refine xg_t (xg_istore (l1 := [(0, (2, 82)), (1, (0, kk))]) rfl rfl rfl) ?_
  refine xg_t (xg_const) ?_
  refine xg_t (xg_istore (l1 := [(2, (0, 0)), (0, (2, 82)), (1, (0, kk))]) rfl rfl rfl) ?_
  refine xg_t (xg_drop (l1 := [(0, (2, 82)), (1, (0, kk)), (2, (0, 0)), (3, (0, 0))]) (List.forall_mem_cons.mpr ⟨List.mem_cons_of_mem _ (List.mem_cons_of_mem _ (List.mem_cons_self)), List.forall_mem_cons.mpr ⟨List.mem_cons_of_mem _ (List.mem_cons_of_mem _ (List.mem_cons_of_mem _ (List.mem_cons_self))), List.forall_mem_cons.mpr ⟨List.mem_cons_of_mem _ (List.mem_cons_self), List.forall_mem_cons.mpr ⟨List.mem_cons_self, fun _ h => absurd h List.not_mem_nil⟩⟩⟩⟩)) ?_
  have key41 : ∀ (m43 : Nat) (nn li : Nat) (w44 : List (List xE)), 240 - li < m43 → nn ≤ 4294967295 → li ≤ 240 → xMnv w44 → xFr [111] w w44 → xTo (d + 2) mX12_law (8, [], [(0, (2, 82)), (1, (0, kk)), (2, (0, nn)), (3, (0, li))], [], (w44, bd, fc, 0, 0, rr)) (fun φ => ∃ n w', xEnd 1 [(0, n)] (w', bd, fc, 0, 0, rr) φ ∧ (n ≤ 4294967295) ∧ xMnv w' ∧ xFr [111] w w') := by
    intro m43
    induction m43 with
    | zero => intro nn li w44 hz; exact absurd hz (Nat.not_lt_zero _)
    | succ m43 ih42 =>
      intro nn li w44 hm49 hn47 hn48 hI45 hF46
      refine xg_t (xg_blq rfl) ?_
      refine xg_t (xg_iload (va := (0, li)) rfl rfl) ?_
      refine xg_t (xg_sip) ?_
      by_cases hc50 : li < 240
      · refine xg_t (xg_icF (u := li) (v := 240) rfl xnm0 xnm0 (xj_geF hc50 (by omega))) ?_
        refine xg_t (xg_aload (va := (2, 82)) rfl rfl) ?_
        refine xg_t (xg_iload (va := (0, li)) rfl rfl) ?_
        refine xg_cVi mX12_isLaw (vs := [(0, li)]) (rest := []) (cn1 := 0) (sl1 := 0) rfl (mIsLaw (hI45) (by omega)) rfl (hF46.get (by decide) h82_31) rfl rfl rfl rfl rfl rfl (fun n55 w51 hq52 => ?_)
        obtain ⟨hn56, hI53, hF54⟩ := hq52
        by_cases hc57 : n55 = 0
        · refine xg_t (xg_ifF (u := n55) rfl xnm0 (xj_neF hc57)) ?_
          refine xg_t (xg_goto) ?_
          refine xg_t (xg_blq rfl) ?_
          refine xg_t (xg_iinc (u := li) (z := li + 1) (l1 := [(0, (2, 82)), (1, (0, kk)), (2, (0, nn))]) rfl rfl (by omega) rfl) ?_
          refine xg_t (xg_goto) ?_
          refine xg_t (xg_drop (l1 := [(0, (2, 82)), (1, (0, kk)), (2, (0, nn)), (3, (0, li + 1))]) (List.forall_mem_cons.mpr ⟨List.mem_cons_of_mem _ (List.mem_cons_self), List.forall_mem_cons.mpr ⟨List.mem_cons_of_mem _ (List.mem_cons_of_mem _ (List.mem_cons_self)), List.forall_mem_cons.mpr ⟨List.mem_cons_of_mem _ (List.mem_cons_of_mem _ (List.mem_cons_of_mem _ (List.mem_cons_self))), List.forall_mem_cons.mpr ⟨List.mem_cons_self, fun _ h => absurd h List.not_mem_nil⟩⟩⟩⟩)) ?_
          exact ih42 nn (li + 1) w51 (by omega) (by omega) (by omega) (hI53) ((hF46.tr (hF54.up (by decide))))
        · refine xg_t (xg_ifT (u := n55) rfl xnm0 (xj_neT hc57)) ?_
          refine xg_t (xg_blq rfl) ?_
          refine xg_t (xg_iload (va := (0, nn)) rfl rfl) ?_
          refine xg_t (xg_iload (va := (0, kk)) rfl rfl) ?_
          by_cases hc58 : nn = kk
          · refine xg_t (xg_icF (u := nn) (v := kk) rfl xnm0 xnm0 (xj_neF hc58)) ?_
            refine xg_t (xg_bip) ?_
            refine xg_t (xg_iload (va := (0, li)) rfl rfl) ?_
            refine xg_t (xg_bip) ?_
            refine xg_t (xg_idiv (u := li) (v := 60) (z := li / 60) xnm0 xnm0 (by omega) (by decide) (by decide) (rfl)) ?_
            refine xg_t (xg_imul (u := 100) (v := li / 60) (z := 100 * (li / 60)) xnm0 xnm0 (by omega)) ?_
            refine xg_t (xg_iload (va := (0, li)) rfl rfl) ?_
            refine xg_t (xg_bip) ?_
            refine xg_t (xg_irem (u := li) (v := 60) (z := li % 60) xnm0 xnm0 (by omega) (by decide) (by decide) (rfl)) ?_
            refine xg_t (xg_iadd (u := 100 * (li / 60)) (v := li % 60) (z := (100 * (li / 60)) + (li % 60)) xnm0 xnm0 (by omega)) ?_
            refine xg_t (xg_const) ?_
            refine xg_t (xg_iadd (u := (100 * (li / 60)) + (li % 60)) (v := 1) (z := ((100 * (li / 60)) + (li % 60)) + 1) xnm0 xnm0 (by omega)) ?_
            exact xg_e ⟨((100 * (li / 60)) + (li % 60)) + 1, w51, ⟨rfl, rfl⟩, by omega, hI53, (hF46.tr (hF54.up (by decide)))⟩
          · refine xg_t (xg_icT (u := nn) (v := kk) rfl xnm0 xnm0 (xj_neT hc58)) ?_
            refine xg_t (xg_blq rfl) ?_
            refine xg_t (xg_iinc (u := nn) (z := (nn + 1) % 4294967296) (l1 := [(0, (2, 82)), (1, (0, kk)), (3, (0, li))]) rfl rfl (rfl) rfl) ?_
            refine xg_t (xg_blq rfl) ?_
            refine xg_t (xg_iinc (u := li) (z := li + 1) (l1 := [(2, (0, (nn + 1) % 4294967296)), (0, (2, 82)), (1, (0, kk))]) rfl rfl (by omega) rfl) ?_
            refine xg_t (xg_goto) ?_
            refine xg_t (xg_drop (l1 := [(0, (2, 82)), (1, (0, kk)), (2, (0, (nn + 1) % 4294967296)), (3, (0, li + 1))]) (List.forall_mem_cons.mpr ⟨List.mem_cons_of_mem _ (List.mem_cons_of_mem _ (List.mem_cons_self)), List.forall_mem_cons.mpr ⟨List.mem_cons_of_mem _ (List.mem_cons_of_mem _ (List.mem_cons_of_mem _ (List.mem_cons_self))), List.forall_mem_cons.mpr ⟨List.mem_cons_of_mem _ (List.mem_cons_self), List.forall_mem_cons.mpr ⟨List.mem_cons_self, fun _ h => absurd h List.not_mem_nil⟩⟩⟩⟩)) ?_
            exact ih42 ((nn + 1) % 4294967296) (li + 1) w51 (by omega) (by omega) (by omega) (hI53) ((hF46.tr (hF54.up (by decide))))
      · refine xg_t (xg_icT (u := li) (v := 240) rfl xnm0 xnm0 (xj_geT (by omega) (by omega))) ?_
        refine xg_t (xg_blq rfl) ?_
        refine xg_t (xg_const) ?_
        exact xg_e ⟨4294967295, w44, ⟨rfl, rfl⟩, by first | decide | omega, hI45, hF46⟩
  exact key41 _ 0 0 w37 (Nat.lt_succ_self _) (by omega) (by omega) (hI39) ((hF40.up (by decide)))
theorem mSpan {sp mo : Nat} (hI : xMnv w) (hsp : sp ≤ 4294967295) (hmo : mo ≤ 1) : xPi (d + 2) mX12_span [(2, 82), (0, sp), (0, mo)] w bd fc rr (fun n w' => (n ≤ 4294967295) ∧ xMnv w' ∧ xFr [111] w w') := by
  refine xPi.of ?_
  show xTo (d + 2) mX12_span (0, [], [(0, (2, 82)), (1, (0, sp)), (2, (0, mo))], [], (w, bd, fc, 0, 0, rr)) (fun φ => ∃ n w', xEnd 1 [(0, n)] (w', bd, fc, 0, 0, rr) φ ∧ (n ≤ 4294967295) ∧ xMnv w' ∧ xFr [111] w w')
  refine xoCh82 (xqc82 hI : cp82 (wget w 82)) (fun f82_1 f82_3 f82_5 f82_7 f82_9 f82_11 f82_13 f82_15 f82_17 f82_19 f82_21 f82_22 f82_23 f82_25 f82_27 f82_29 h82_31 hb2 hb4 hb6 hb8 hb10 hb12 hb14 hb16 hb18 hb20 hb24 hb26 hb28 hb30 hb32 => ?_)
  refine xoX83 (xqc83 hI : cpx83 (wget w 83)) (fun g83_33 h83_34 hb35 hx36 => ?_)
  refine xg_t (xg_blq rfl) ?_
  refine xg_t (xg_iload (va := (0, sp)) rfl rfl) ?_
  refine xg_t (xg_const) ?_
  refine xg_t (xg_bip) ?_
  refine xg_t (xg_cSr mX12_isIn (vs := [(0, sp), (0, 1), (0, 9)]) (rest := []) (rs := [(0, if 1 ≤ sp ∧ sp ≤ 9 then 1 else 0)]) (cn1 := 0) (sl1 := 0) rfl (mIsIn (by omega) (by omega) (by omega)) rfl rfl rfl rfl rfl rfl rfl rfl) ?_
  by_cases hc37 : 1 ≤ sp ∧ sp ≤ 9
  · refine xg_t (xg_ifT (u := (if 1 ≤ sp ∧ sp ≤ 9 then 1 else 0)) rfl xnm0 (xj_neT (xite1 hc37))) ?_
    refine xg_t (xg_blq rfl) ?_
    refine xg_t (xg_aload (va := (2, 82)) rfl rfl) ?_
    refine xg_cVv mX12_keeps (vs := []) (rest := []) (cn1 := 0) (sl1 := 0) rfl (mKeeps (hI)) rfl h82_31 rfl rfl rfl rfl rfl rfl (fun w38 hq39 => ?_)
    obtain ⟨hI40, hF41⟩ := hq39
    refine xg_t (xg_const) ?_
    refine xg_t (xg_istore (l1 := [(0, (2, 82)), (1, (0, sp)), (2, (0, mo))]) rfl rfl rfl) ?_
    refine xg_t (xg_const) ?_
    refine xg_t (xg_istore (l1 := [(3, (0, 4294967295)), (0, (2, 82)), (1, (0, sp)), (2, (0, mo))]) rfl rfl rfl) ?_
    refine xg_t (xg_drop (l1 := [(0, (2, 82)), (1, (0, sp)), (2, (0, mo)), (3, (0, 4294967295)), (4, (0, 0))]) (List.forall_mem_cons.mpr ⟨List.mem_cons_of_mem _ (List.mem_cons_of_mem _ (List.mem_cons_self)), List.forall_mem_cons.mpr ⟨List.mem_cons_of_mem _ (List.mem_cons_of_mem _ (List.mem_cons_of_mem _ (List.mem_cons_self))), List.forall_mem_cons.mpr ⟨List.mem_cons_of_mem _ (List.mem_cons_of_mem _ (List.mem_cons_of_mem _ (List.mem_cons_of_mem _ (List.mem_cons_self)))), List.forall_mem_cons.mpr ⟨List.mem_cons_of_mem _ (List.mem_cons_self), List.forall_mem_cons.mpr ⟨List.mem_cons_self, fun _ h => absurd h List.not_mem_nil⟩⟩⟩⟩⟩)) ?_
    have key42 : ∀ (m44 : Nat) (vv li : Nat) (w45 : List (List xE)), 240 - li < m44 → vv ≤ 4294967295 → li ≤ 240 → xMnv w45 → xFr [111] w w45 → xTo (d + 2) mX12_span (21, [], [(0, (2, 82)), (1, (0, sp)), (2, (0, mo)), (3, (0, vv)), (4, (0, li))], [], (w45, bd, fc, 0, 0, rr)) (fun φ => ∃ n w', xEnd 1 [(0, n)] (w', bd, fc, 0, 0, rr) φ ∧ (n ≤ 4294967295) ∧ xMnv w' ∧ xFr [111] w w') := by
      intro m44
      induction m44 with
      | zero => intro vv li w45 hz; exact absurd hz (Nat.not_lt_zero _)
      | succ m44 ih43 =>
        intro vv li w45 hm50 hn48 hn49 hI46 hF47
        refine xg_t (xg_blq rfl) ?_
        refine xg_t (xg_iload (va := (0, li)) rfl rfl) ?_
        refine xg_t (xg_sip) ?_
        by_cases hc51 : li < 240
        · refine xg_t (xg_icF (u := li) (v := 240) rfl xnm0 xnm0 (xj_geF hc51 (by omega))) ?_
          refine xg_t (xg_aload (va := (2, 82)) rfl rfl) ?_
          refine xg_t (xg_iload (va := (0, li)) rfl rfl) ?_
          refine xg_cVi mX12_isLaw (vs := [(0, li)]) (rest := []) (cn1 := 0) (sl1 := 0) rfl (mIsLaw (hI46) (by omega)) rfl (hF47.get (by decide) h82_31) rfl rfl rfl rfl rfl rfl (fun n56 w52 hq53 => ?_)
          obtain ⟨hn57, hI54, hF55⟩ := hq53
          by_cases hc58 : n56 = 0
          · refine xg_t (xg_ifF (u := n56) rfl xnm0 (xj_neF hc58)) ?_
            refine xg_t (xg_goto) ?_
            refine xg_t (xg_blq rfl) ?_
            refine xg_t (xg_iinc (u := li) (z := li + 1) (l1 := [(0, (2, 82)), (1, (0, sp)), (2, (0, mo)), (3, (0, vv))]) rfl rfl (by omega) rfl) ?_
            refine xg_t (xg_goto) ?_
            refine xg_t (xg_drop (l1 := [(0, (2, 82)), (1, (0, sp)), (2, (0, mo)), (3, (0, vv)), (4, (0, li + 1))]) (List.forall_mem_cons.mpr ⟨List.mem_cons_of_mem _ (List.mem_cons_self), List.forall_mem_cons.mpr ⟨List.mem_cons_of_mem _ (List.mem_cons_of_mem _ (List.mem_cons_self)), List.forall_mem_cons.mpr ⟨List.mem_cons_of_mem _ (List.mem_cons_of_mem _ (List.mem_cons_of_mem _ (List.mem_cons_self))), List.forall_mem_cons.mpr ⟨List.mem_cons_of_mem _ (List.mem_cons_of_mem _ (List.mem_cons_of_mem _ (List.mem_cons_of_mem _ (List.mem_cons_self)))), List.forall_mem_cons.mpr ⟨List.mem_cons_self, fun _ h => absurd h List.not_mem_nil⟩⟩⟩⟩⟩)) ?_
            exact ih43 vv (li + 1) w52 (by omega) (by omega) (by omega) (hI54) ((hF47.tr (hF55.up (by decide))))
          · refine xg_t (xg_ifT (u := n56) rfl xnm0 (xj_neT hc58)) ?_
            refine xg_t (xg_blq rfl) ?_
            refine xg_t (xg_iload (va := (0, mo)) rfl rfl) ?_
            by_cases hc59 : mo = 0
            · refine xg_t (xg_ifT (u := mo) rfl xnm0 (xj_eqT hc59)) ?_
              refine xg_t (xg_blq rfl) ?_
              refine xg_t (xg_bip) ?_
              refine xg_t (xg_blq rfl) ?_
              refine xg_t (xg_iload (va := (0, li)) rfl rfl) ?_
              refine xg_t (xg_iload (va := (0, sp)) rfl rfl) ?_
              refine xg_cSi mX12_lawAt (vs := [(0, li), (0, sp)]) (rest := [(0, 8)]) (cn1 := 0) (sl1 := 0) rfl (mLawAt (hI54) (by omega) (by omega)) rfl rfl rfl rfl rfl rfl rfl (fun n64 w60 hq61 => ?_)
              obtain ⟨hn65, hI62, hF63⟩ := hq61
              refine xg_k (xg_imul (u := 8) (v := n64) (z := (8 * n64) % 4294967296) xnm0 xnm0 rfl) (Nat.mod_lt _ (by decide)) (fun z66 hz67 => ?_)
              refine xg_t (xg_istore (l1 := [(0, (2, 82)), (1, (0, sp)), (2, (0, mo)), (3, (0, vv)), (4, (0, li))]) rfl rfl rfl) ?_
              refine xg_t (xg_iload (va := (0, vv)) rfl rfl) ?_
              by_cases hc68 : vv < 2147483648
              · refine xg_t (xg_ifF (u := vv) rfl xnm0 (xjz_ltF hc68)) ?_
                refine xg_t (xg_iload (va := (0, mo)) rfl rfl) ?_
                by_cases hc69 : mo = 0
                · refine xg_t (xg_ifT (u := mo) rfl xnm0 (xj_eqT hc69)) ?_
                  refine xg_t (xg_blq rfl) ?_
                  refine xg_t (xg_iload (va := (0, z66)) rfl rfl) ?_
                  refine xg_t (xg_iload (va := (0, vv)) rfl rfl) ?_
                  by_cases hc70 : xbs z66 < xbs vv
                  · have hc70u := hc70
                    unfold xbs at hc70u
                    have hn71 : vv ≤ 2147483647 := by omega
                    refine xg_t (xg_icF (u := z66) (v := vv) rfl xnm0 xnm0 (xjs_geF hc70)) ?_
                    refine xg_t (xg_blq rfl) ?_
                    refine xg_t (xg_iload (va := (0, z66)) rfl rfl) ?_
                    refine xg_t (xg_istore (l1 := [(5, (0, z66)), (0, (2, 82)), (1, (0, sp)), (2, (0, mo)), (4, (0, li))]) rfl rfl rfl) ?_
                    refine xg_t (xg_blq rfl) ?_
                    refine xg_t (xg_iinc (u := li) (z := li + 1) (l1 := [(3, (0, z66)), (5, (0, z66)), (0, (2, 82)), (1, (0, sp)), (2, (0, mo))]) rfl rfl (by omega) rfl) ?_
                    refine xg_t (xg_goto) ?_
                    refine xg_t (xg_drop (l1 := [(0, (2, 82)), (1, (0, sp)), (2, (0, mo)), (3, (0, z66)), (4, (0, li + 1))]) (List.forall_mem_cons.mpr ⟨List.mem_cons_of_mem _ (List.mem_cons_of_mem _ (List.mem_cons_of_mem _ (List.mem_cons_self))), List.forall_mem_cons.mpr ⟨List.mem_cons_of_mem _ (List.mem_cons_of_mem _ (List.mem_cons_of_mem _ (List.mem_cons_of_mem _ (List.mem_cons_self)))), List.forall_mem_cons.mpr ⟨List.mem_cons_of_mem _ (List.mem_cons_of_mem _ (List.mem_cons_of_mem _ (List.mem_cons_of_mem _ (List.mem_cons_of_mem _ (List.mem_cons_self))))), List.forall_mem_cons.mpr ⟨List.mem_cons_of_mem _ (List.mem_cons_self), List.forall_mem_cons.mpr ⟨List.mem_cons_self, fun _ h => absurd h List.not_mem_nil⟩⟩⟩⟩⟩)) ?_
                    exact ih43 z66 (li + 1) w60 (by omega) (by omega) (by omega) (hI62) (((hF47.tr (hF55.up (by decide))).tr (hF63.up (by decide))))
                  · have hc70u := hc70
                    unfold xbs at hc70u
                    have hn72 : z66 ≤ 2147483647 := by omega
                    have hn73 : vv ≤ 2147483647 := by omega
                    refine xg_t (xg_icT (u := z66) (v := vv) rfl xnm0 xnm0 (xjs_geT hc70)) ?_
                    refine xg_t (xg_blq rfl) ?_
                    refine xg_t (xg_iinc (u := li) (z := li + 1) (l1 := [(5, (0, z66)), (0, (2, 82)), (1, (0, sp)), (2, (0, mo)), (3, (0, vv))]) rfl rfl (by omega) rfl) ?_
                    refine xg_t (xg_goto) ?_
                    refine xg_t (xg_drop (l1 := [(0, (2, 82)), (1, (0, sp)), (2, (0, mo)), (3, (0, vv)), (4, (0, li + 1))]) (List.forall_mem_cons.mpr ⟨List.mem_cons_of_mem _ (List.mem_cons_of_mem _ (List.mem_cons_self)), List.forall_mem_cons.mpr ⟨List.mem_cons_of_mem _ (List.mem_cons_of_mem _ (List.mem_cons_of_mem _ (List.mem_cons_self))), List.forall_mem_cons.mpr ⟨List.mem_cons_of_mem _ (List.mem_cons_of_mem _ (List.mem_cons_of_mem _ (List.mem_cons_of_mem _ (List.mem_cons_self)))), List.forall_mem_cons.mpr ⟨List.mem_cons_of_mem _ (List.mem_cons_of_mem _ (List.mem_cons_of_mem _ (List.mem_cons_of_mem _ (List.mem_cons_of_mem _ (List.mem_cons_self))))), List.forall_mem_cons.mpr ⟨List.mem_cons_self, fun _ h => absurd h List.not_mem_nil⟩⟩⟩⟩⟩)) ?_
                    exact ih43 vv (li + 1) w60 (by omega) (by omega) (by omega) (hI62) (((hF47.tr (hF55.up (by decide))).tr (hF63.up (by decide))))
                · refine xg_t (xg_ifF (u := mo) rfl xnm0 (xj_eqF hc69)) ?_
                  refine xg_t (xg_iload (va := (0, z66)) rfl rfl) ?_
                  refine xg_t (xg_iload (va := (0, vv)) rfl rfl) ?_
                  by_cases hc74 : xbs vv < xbs z66
                  · have hc74u := hc74
                    unfold xbs at hc74u
                    have hn75 : vv ≤ 2147483646 := by omega
                    have hn76 : z66 ≤ 2147483647 := by omega
                    refine xg_t (xg_icF (u := z66) (v := vv) rfl xnm0 xnm0 (xjs_leF hc74)) ?_
                    refine xg_t (xg_goto) ?_
                    refine xg_t (xg_blq rfl) ?_
                    refine xg_t (xg_iload (va := (0, z66)) rfl rfl) ?_
                    refine xg_t (xg_istore (l1 := [(5, (0, z66)), (0, (2, 82)), (1, (0, sp)), (2, (0, mo)), (4, (0, li))]) rfl rfl rfl) ?_
                    refine xg_t (xg_blq rfl) ?_
                    refine xg_t (xg_iinc (u := li) (z := li + 1) (l1 := [(3, (0, z66)), (5, (0, z66)), (0, (2, 82)), (1, (0, sp)), (2, (0, mo))]) rfl rfl (by omega) rfl) ?_
                    refine xg_t (xg_goto) ?_
                    refine xg_t (xg_drop (l1 := [(0, (2, 82)), (1, (0, sp)), (2, (0, mo)), (3, (0, z66)), (4, (0, li + 1))]) (List.forall_mem_cons.mpr ⟨List.mem_cons_of_mem _ (List.mem_cons_of_mem _ (List.mem_cons_of_mem _ (List.mem_cons_self))), List.forall_mem_cons.mpr ⟨List.mem_cons_of_mem _ (List.mem_cons_of_mem _ (List.mem_cons_of_mem _ (List.mem_cons_of_mem _ (List.mem_cons_self)))), List.forall_mem_cons.mpr ⟨List.mem_cons_of_mem _ (List.mem_cons_of_mem _ (List.mem_cons_of_mem _ (List.mem_cons_of_mem _ (List.mem_cons_of_mem _ (List.mem_cons_self))))), List.forall_mem_cons.mpr ⟨List.mem_cons_of_mem _ (List.mem_cons_self), List.forall_mem_cons.mpr ⟨List.mem_cons_self, fun _ h => absurd h List.not_mem_nil⟩⟩⟩⟩⟩)) ?_
                    exact ih43 z66 (li + 1) w60 (by omega) (by omega) (by omega) (hI62) (((hF47.tr (hF55.up (by decide))).tr (hF63.up (by decide))))
                  · have hc74u := hc74
                    unfold xbs at hc74u
                    have hn77 : vv ≤ 2147483647 := by omega
                    refine xg_t (xg_icT (u := z66) (v := vv) rfl xnm0 xnm0 (xjs_leT hc74)) ?_
                    refine xg_t (xg_blq rfl) ?_
                    refine xg_t (xg_iinc (u := li) (z := li + 1) (l1 := [(5, (0, z66)), (0, (2, 82)), (1, (0, sp)), (2, (0, mo)), (3, (0, vv))]) rfl rfl (by omega) rfl) ?_
                    refine xg_t (xg_goto) ?_
                    refine xg_t (xg_drop (l1 := [(0, (2, 82)), (1, (0, sp)), (2, (0, mo)), (3, (0, vv)), (4, (0, li + 1))]) (List.forall_mem_cons.mpr ⟨List.mem_cons_of_mem _ (List.mem_cons_of_mem _ (List.mem_cons_self)), List.forall_mem_cons.mpr ⟨List.mem_cons_of_mem _ (List.mem_cons_of_mem _ (List.mem_cons_of_mem _ (List.mem_cons_self))), List.forall_mem_cons.mpr ⟨List.mem_cons_of_mem _ (List.mem_cons_of_mem _ (List.mem_cons_of_mem _ (List.mem_cons_of_mem _ (List.mem_cons_self)))), List.forall_mem_cons.mpr ⟨List.mem_cons_of_mem _ (List.mem_cons_of_mem _ (List.mem_cons_of_mem _ (List.mem_cons_of_mem _ (List.mem_cons_of_mem _ (List.mem_cons_self))))), List.forall_mem_cons.mpr ⟨List.mem_cons_self, fun _ h => absurd h List.not_mem_nil⟩⟩⟩⟩⟩)) ?_
                    exact ih43 vv (li + 1) w60 (by omega) (by omega) (by omega) (hI62) (((hF47.tr (hF55.up (by decide))).tr (hF63.up (by decide))))
              · refine xg_t (xg_ifT (u := vv) rfl xnm0 (xjz_ltT (by omega) (by omega))) ?_
                refine xg_t (xg_blq rfl) ?_
                refine xg_t (xg_iload (va := (0, z66)) rfl rfl) ?_
                refine xg_t (xg_istore (l1 := [(5, (0, z66)), (0, (2, 82)), (1, (0, sp)), (2, (0, mo)), (4, (0, li))]) rfl rfl rfl) ?_
                refine xg_t (xg_blq rfl) ?_
                refine xg_t (xg_iinc (u := li) (z := li + 1) (l1 := [(3, (0, z66)), (5, (0, z66)), (0, (2, 82)), (1, (0, sp)), (2, (0, mo))]) rfl rfl (by omega) rfl) ?_
                refine xg_t (xg_goto) ?_
                refine xg_t (xg_drop (l1 := [(0, (2, 82)), (1, (0, sp)), (2, (0, mo)), (3, (0, z66)), (4, (0, li + 1))]) (List.forall_mem_cons.mpr ⟨List.mem_cons_of_mem _ (List.mem_cons_of_mem _ (List.mem_cons_of_mem _ (List.mem_cons_self))), List.forall_mem_cons.mpr ⟨List.mem_cons_of_mem _ (List.mem_cons_of_mem _ (List.mem_cons_of_mem _ (List.mem_cons_of_mem _ (List.mem_cons_self)))), List.forall_mem_cons.mpr ⟨List.mem_cons_of_mem _ (List.mem_cons_of_mem _ (List.mem_cons_of_mem _ (List.mem_cons_of_mem _ (List.mem_cons_of_mem _ (List.mem_cons_self))))), List.forall_mem_cons.mpr ⟨List.mem_cons_of_mem _ (List.mem_cons_self), List.forall_mem_cons.mpr ⟨List.mem_cons_self, fun _ h => absurd h List.not_mem_nil⟩⟩⟩⟩⟩)) ?_
                exact ih43 z66 (li + 1) w60 (by omega) (by omega) (by omega) (hI62) (((hF47.tr (hF55.up (by decide))).tr (hF63.up (by decide))))
            · refine xg_t (xg_ifF (u := mo) rfl xnm0 (xj_eqF hc59)) ?_
              refine xg_t (xg_bip) ?_
              refine xg_t (xg_goto) ?_
              refine xg_t (xg_blq rfl) ?_
              refine xg_t (xg_iload (va := (0, li)) rfl rfl) ?_
              refine xg_t (xg_iload (va := (0, sp)) rfl rfl) ?_
              refine xg_cSi mX12_lawAt (vs := [(0, li), (0, sp)]) (rest := [(0, 12)]) (cn1 := 0) (sl1 := 0) rfl (mLawAt (hI54) (by omega) (by omega)) rfl rfl rfl rfl rfl rfl rfl (fun n82 w78 hq79 => ?_)
              obtain ⟨hn83, hI80, hF81⟩ := hq79
              refine xg_k (xg_imul (u := 12) (v := n82) (z := (12 * n82) % 4294967296) xnm0 xnm0 rfl) (Nat.mod_lt _ (by decide)) (fun z84 hz85 => ?_)
              refine xg_t (xg_istore (l1 := [(0, (2, 82)), (1, (0, sp)), (2, (0, mo)), (3, (0, vv)), (4, (0, li))]) rfl rfl rfl) ?_
              refine xg_t (xg_iload (va := (0, vv)) rfl rfl) ?_
              by_cases hc86 : vv < 2147483648
              · refine xg_t (xg_ifF (u := vv) rfl xnm0 (xjz_ltF hc86)) ?_
                refine xg_t (xg_iload (va := (0, mo)) rfl rfl) ?_
                refine xg_t (xg_ifF (u := mo) rfl xnm0 (xj_eqF (by omega))) ?_
                refine xg_t (xg_iload (va := (0, z84)) rfl rfl) ?_
                refine xg_t (xg_iload (va := (0, vv)) rfl rfl) ?_
                by_cases hc87 : xbs vv < xbs z84
                · have hc87u := hc87
                  unfold xbs at hc87u
                  have hn88 : vv ≤ 2147483646 := by omega
                  have hn89 : z84 ≤ 2147483647 := by omega
                  refine xg_t (xg_icF (u := z84) (v := vv) rfl xnm0 xnm0 (xjs_leF hc87)) ?_
                  refine xg_t (xg_goto) ?_
                  refine xg_t (xg_blq rfl) ?_
                  refine xg_t (xg_iload (va := (0, z84)) rfl rfl) ?_
                  refine xg_t (xg_istore (l1 := [(5, (0, z84)), (0, (2, 82)), (1, (0, sp)), (2, (0, mo)), (4, (0, li))]) rfl rfl rfl) ?_
                  refine xg_t (xg_blq rfl) ?_
                  refine xg_t (xg_iinc (u := li) (z := li + 1) (l1 := [(3, (0, z84)), (5, (0, z84)), (0, (2, 82)), (1, (0, sp)), (2, (0, mo))]) rfl rfl (by omega) rfl) ?_
                  refine xg_t (xg_goto) ?_
                  refine xg_t (xg_drop (l1 := [(0, (2, 82)), (1, (0, sp)), (2, (0, mo)), (3, (0, z84)), (4, (0, li + 1))]) (List.forall_mem_cons.mpr ⟨List.mem_cons_of_mem _ (List.mem_cons_of_mem _ (List.mem_cons_of_mem _ (List.mem_cons_self))), List.forall_mem_cons.mpr ⟨List.mem_cons_of_mem _ (List.mem_cons_of_mem _ (List.mem_cons_of_mem _ (List.mem_cons_of_mem _ (List.mem_cons_self)))), List.forall_mem_cons.mpr ⟨List.mem_cons_of_mem _ (List.mem_cons_of_mem _ (List.mem_cons_of_mem _ (List.mem_cons_of_mem _ (List.mem_cons_of_mem _ (List.mem_cons_self))))), List.forall_mem_cons.mpr ⟨List.mem_cons_of_mem _ (List.mem_cons_self), List.forall_mem_cons.mpr ⟨List.mem_cons_self, fun _ h => absurd h List.not_mem_nil⟩⟩⟩⟩⟩)) ?_
                  exact ih43 z84 (li + 1) w78 (by omega) (by omega) (by omega) (hI80) (((hF47.tr (hF55.up (by decide))).tr (hF81.up (by decide))))
                · have hc87u := hc87
                  unfold xbs at hc87u
                  have hn90 : vv ≤ 2147483647 := by omega
                  refine xg_t (xg_icT (u := z84) (v := vv) rfl xnm0 xnm0 (xjs_leT hc87)) ?_
                  refine xg_t (xg_blq rfl) ?_
                  refine xg_t (xg_iinc (u := li) (z := li + 1) (l1 := [(5, (0, z84)), (0, (2, 82)), (1, (0, sp)), (2, (0, mo)), (3, (0, vv))]) rfl rfl (by omega) rfl) ?_
                  refine xg_t (xg_goto) ?_
                  refine xg_t (xg_drop (l1 := [(0, (2, 82)), (1, (0, sp)), (2, (0, mo)), (3, (0, vv)), (4, (0, li + 1))]) (List.forall_mem_cons.mpr ⟨List.mem_cons_of_mem _ (List.mem_cons_of_mem _ (List.mem_cons_self)), List.forall_mem_cons.mpr ⟨List.mem_cons_of_mem _ (List.mem_cons_of_mem _ (List.mem_cons_of_mem _ (List.mem_cons_self))), List.forall_mem_cons.mpr ⟨List.mem_cons_of_mem _ (List.mem_cons_of_mem _ (List.mem_cons_of_mem _ (List.mem_cons_of_mem _ (List.mem_cons_self)))), List.forall_mem_cons.mpr ⟨List.mem_cons_of_mem _ (List.mem_cons_of_mem _ (List.mem_cons_of_mem _ (List.mem_cons_of_mem _ (List.mem_cons_of_mem _ (List.mem_cons_self))))), List.forall_mem_cons.mpr ⟨List.mem_cons_self, fun _ h => absurd h List.not_mem_nil⟩⟩⟩⟩⟩)) ?_
                  exact ih43 vv (li + 1) w78 (by omega) (by omega) (by omega) (hI80) (((hF47.tr (hF55.up (by decide))).tr (hF81.up (by decide))))
              · refine xg_t (xg_ifT (u := vv) rfl xnm0 (xjz_ltT (by omega) (by omega))) ?_
                refine xg_t (xg_blq rfl) ?_
                refine xg_t (xg_iload (va := (0, z84)) rfl rfl) ?_
                refine xg_t (xg_istore (l1 := [(5, (0, z84)), (0, (2, 82)), (1, (0, sp)), (2, (0, mo)), (4, (0, li))]) rfl rfl rfl) ?_
                refine xg_t (xg_blq rfl) ?_
                refine xg_t (xg_iinc (u := li) (z := li + 1) (l1 := [(3, (0, z84)), (5, (0, z84)), (0, (2, 82)), (1, (0, sp)), (2, (0, mo))]) rfl rfl (by omega) rfl) ?_
                refine xg_t (xg_goto) ?_
                refine xg_t (xg_drop (l1 := [(0, (2, 82)), (1, (0, sp)), (2, (0, mo)), (3, (0, z84)), (4, (0, li + 1))]) (List.forall_mem_cons.mpr ⟨List.mem_cons_of_mem _ (List.mem_cons_of_mem _ (List.mem_cons_of_mem _ (List.mem_cons_self))), List.forall_mem_cons.mpr ⟨List.mem_cons_of_mem _ (List.mem_cons_of_mem _ (List.mem_cons_of_mem _ (List.mem_cons_of_mem _ (List.mem_cons_self)))), List.forall_mem_cons.mpr ⟨List.mem_cons_of_mem _ (List.mem_cons_of_mem _ (List.mem_cons_of_mem _ (List.mem_cons_of_mem _ (List.mem_cons_of_mem _ (List.mem_cons_self))))), List.forall_mem_cons.mpr ⟨List.mem_cons_of_mem _ (List.mem_cons_self), List.forall_mem_cons.mpr ⟨List.mem_cons_self, fun _ h => absurd h List.not_mem_nil⟩⟩⟩⟩⟩)) ?_
                exact ih43 z84 (li + 1) w78 (by omega) (by omega) (by omega) (hI80) (((hF47.tr (hF55.up (by decide))).tr (hF81.up (by decide))))
        · refine xg_t (xg_icT (u := li) (v := 240) rfl xnm0 xnm0 (xj_geT (by omega) (by omega))) ?_
          refine xg_t (xg_blq rfl) ?_
          refine xg_t (xg_iload (va := (0, vv)) rfl rfl) ?_
          exact xg_e ⟨vv, w45, ⟨rfl, rfl⟩, by omega, hI46, hF47⟩
    exact key42 _ 4294967295 0 w38 (Nat.lt_succ_self _) (by omega) (by omega) (hI40) ((hF41.up (by decide)))
  · refine xg_t (xg_ifF (u := (if 1 ≤ sp ∧ sp ≤ 9 then 1 else 0)) rfl xnm0 (xj_neF (xite0 hc37))) ?_
    refine xg_t (xg_const) ?_
    exact xg_e ⟨4294967295, w, ⟨rfl, rfl⟩, by first | decide | omega, hI, xFr.rf⟩
theorem mNext {wh : Nat} (hI : xMnv w) (hwh : wh ≤ 4294967295) : xPi (d + 2) mX12_next [(2, 82), (0, wh)] w bd fc rr (fun n w' => (n ≤ 4294967295) ∧ xMnv w' ∧ xFr [111] w w') := by
  refine xPi.of ?_
  show xTo (d + 2) mX12_next (0, [], [(0, (2, 82)), (1, (0, wh))], [], (w, bd, fc, 0, 0, rr)) (fun φ => ∃ n w', xEnd 1 [(0, n)] (w', bd, fc, 0, 0, rr) φ ∧ (n ≤ 4294967295) ∧ xMnv w' ∧ xFr [111] w w')
  refine xoCh82 (xqc82 hI : cp82 (wget w 82)) (fun f82_1 f82_3 f82_5 f82_7 f82_9 f82_11 f82_13 f82_15 f82_17 f82_19 f82_21 f82_22 f82_23 f82_25 f82_27 f82_29 h82_31 hb2 hb4 hb6 hb8 hb10 hb12 hb14 hb16 hb18 hb20 hb24 hb26 hb28 hb30 hb32 => ?_)
  refine xoX83 (xqc83 hI : cpx83 (wget w 83)) (fun g83_33 h83_34 hb35 hx36 => ?_)
  refine xg_t (xg_blq rfl) ?_
  refine xg_t (xg_iload (va := (0, wh)) rfl rfl) ?_
  refine xg_t (xg_const) ?_
  refine xg_t (xg_const) ?_
  refine xg_t (xg_cSr mX12_isIn (vs := [(0, wh), (0, 0), (0, 2)]) (rest := []) (rs := [(0, if 0 ≤ wh ∧ wh ≤ 2 then 1 else 0)]) (cn1 := 0) (sl1 := 0) rfl (mIsIn (by omega) (by omega) (by omega)) rfl rfl rfl rfl rfl rfl rfl rfl) ?_
  by_cases hc37 : 0 ≤ wh ∧ wh ≤ 2
  · refine xg_t (xg_ifT (u := (if 0 ≤ wh ∧ wh ≤ 2 then 1 else 0)) rfl xnm0 (xj_neT (xite1 hc37))) ?_
    refine xg_t (xg_blq rfl) ?_
    refine xg_t (xg_aload (va := (2, 82)) rfl rfl) ?_
    refine xg_cVv mX12_keeps (vs := []) (rest := []) (cn1 := 0) (sl1 := 0) rfl (mKeeps (hI)) rfl h82_31 rfl rfl rfl rfl rfl rfl (fun w38 hq39 => ?_)
    obtain ⟨hI40, hF41⟩ := hq39
    refine xg_t (xg_const) ?_
    refine xg_t (xg_istore (l1 := [(0, (2, 82)), (1, (0, wh))]) rfl rfl rfl) ?_
    refine xg_t (xg_const) ?_
    refine xg_t (xg_istore (l1 := [(2, (0, 0)), (0, (2, 82)), (1, (0, wh))]) rfl rfl rfl) ?_
    refine xg_t (xg_sip) ?_
    refine xg_t (xg_istore (l1 := [(3, (0, 0)), (2, (0, 0)), (0, (2, 82)), (1, (0, wh))]) rfl rfl rfl) ?_
    refine xg_t (xg_const) ?_
    refine xg_t (xg_istore (l1 := [(4, (0, 1000)), (3, (0, 0)), (2, (0, 0)), (0, (2, 82)), (1, (0, wh))]) rfl rfl rfl) ?_
    refine xg_t (xg_drop (l1 := [(0, (2, 82)), (1, (0, wh)), (2, (0, 0)), (3, (0, 0)), (4, (0, 1000)), (5, (0, 0))]) (List.forall_mem_cons.mpr ⟨List.mem_cons_of_mem _ (List.mem_cons_of_mem _ (List.mem_cons_of_mem _ (List.mem_cons_of_mem _ (List.mem_cons_self)))), List.forall_mem_cons.mpr ⟨List.mem_cons_of_mem _ (List.mem_cons_of_mem _ (List.mem_cons_of_mem _ (List.mem_cons_of_mem _ (List.mem_cons_of_mem _ (List.mem_cons_self))))), List.forall_mem_cons.mpr ⟨List.mem_cons_of_mem _ (List.mem_cons_of_mem _ (List.mem_cons_of_mem _ (List.mem_cons_self))), List.forall_mem_cons.mpr ⟨List.mem_cons_of_mem _ (List.mem_cons_of_mem _ (List.mem_cons_self)), List.forall_mem_cons.mpr ⟨List.mem_cons_of_mem _ (List.mem_cons_self), List.forall_mem_cons.mpr ⟨List.mem_cons_self, fun _ h => absurd h List.not_mem_nil⟩⟩⟩⟩⟩⟩)) ?_
    have key42 : ∀ (m44 : Nat) (s1 f1 l1 ki : Nat) (w45 : List (List xE)), 135 - ki < m44 → s1 ≤ 4294967295 → f1 ≤ 4294967295 → l1 ≤ 4294967295 → ki ≤ 135 → xMnv w45 → xFr [111] w w45 → xTo (d + 2) mX12_next (27, [], [(0, (2, 82)), (1, (0, wh)), (2, (0, s1)), (3, (0, f1)), (4, (0, l1)), (5, (0, ki))], [], (w45, bd, fc, 0, 0, rr)) (fun φ => ∃ n w', xEnd 1 [(0, n)] (w', bd, fc, 0, 0, rr) φ ∧ (n ≤ 4294967295) ∧ xMnv w' ∧ xFr [111] w w') := by
      intro m44
      induction m44 with
      | zero => intro s1 f1 l1 ki w45 hz; exact absurd hz (Nat.not_lt_zero _)
      | succ m44 ih43 =>
        intro s1 f1 l1 ki w45 hm52 hn48 hn49 hn50 hn51 hI46 hF47
        refine xg_t (xg_blq rfl) ?_
        refine xg_t (xg_iload (va := (0, ki)) rfl rfl) ?_
        refine xg_t (xg_sip) ?_
        by_cases hc53 : ki < 135
        · refine xg_t (xg_icF (u := ki) (v := 135) rfl xnm0 xnm0 (xj_geF hc53 (by omega))) ?_
          refine xg_t (xg_iload (va := (0, ki)) rfl rfl) ?_
          refine xg_t (xg_bip) ?_
          refine xg_t (xg_idiv (u := ki) (v := 15) (z := ki / 15) xnm0 xnm0 (by omega) (by decide) (by decide) (rfl)) ?_
          refine xg_t (xg_const) ?_
          refine xg_t (xg_iadd (u := ki / 15) (v := 1) (z := (ki / 15) + 1) xnm0 xnm0 (by omega)) ?_
          refine xg_t (xg_istore (l1 := [(0, (2, 82)), (1, (0, wh)), (2, (0, s1)), (3, (0, f1)), (4, (0, l1)), (5, (0, ki))]) rfl rfl rfl) ?_
          refine xg_t (xg_bip) ?_
          refine xg_t (xg_iload (va := (0, ki)) rfl rfl) ?_
          refine xg_t (xg_bip) ?_
          refine xg_t (xg_irem (u := ki) (v := 15) (z := ki % 15) xnm0 xnm0 (by omega) (by decide) (by decide) (rfl)) ?_
          refine xg_k (xg_ishlG (u := 10) (v := ki % 15) xnm0 xnm0) (xpt_lt _) (fun z54 hz55 => ?_)
          refine xg_t (xg_istore (l1 := [(6, (0, (ki / 15) + 1)), (0, (2, 82)), (1, (0, wh)), (2, (0, s1)), (3, (0, f1)), (4, (0, l1)), (5, (0, ki))]) rfl rfl rfl) ?_
          refine xg_t (xg_const) ?_
          refine xg_t (xg_istore (l1 := [(7, (0, z54)), (6, (0, (ki / 15) + 1)), (0, (2, 82)), (1, (0, wh)), (2, (0, s1)), (3, (0, f1)), (4, (0, l1)), (5, (0, ki))]) rfl rfl rfl) ?_
          refine xg_t (xg_const) ?_
          refine xg_t (xg_istore (l1 := [(8, (0, 0)), (7, (0, z54)), (6, (0, (ki / 15) + 1)), (0, (2, 82)), (1, (0, wh)), (2, (0, s1)), (3, (0, f1)), (4, (0, l1)), (5, (0, ki))]) rfl rfl rfl) ?_
          refine xg_t (xg_const) ?_
          refine xg_t (xg_istore (l1 := [(9, (0, 0)), (8, (0, 0)), (7, (0, z54)), (6, (0, (ki / 15) + 1)), (0, (2, 82)), (1, (0, wh)), (2, (0, s1)), (3, (0, f1)), (4, (0, l1)), (5, (0, ki))]) rfl rfl rfl) ?_
          refine xg_t (xg_drop (l1 := [(0, (2, 82)), (1, (0, wh)), (2, (0, s1)), (3, (0, f1)), (4, (0, l1)), (5, (0, ki)), (6, (0, (ki / 15) + 1)), (7, (0, z54)), (8, (0, 0)), (9, (0, 0)), (10, (0, 0))]) (List.forall_mem_cons.mpr ⟨List.mem_cons_of_mem _ (List.mem_cons_of_mem _ (List.mem_cons_of_mem _ (List.mem_cons_of_mem _ (List.mem_cons_of_mem _ (List.mem_cons_self))))), List.forall_mem_cons.mpr ⟨List.mem_cons_of_mem _ (List.mem_cons_of_mem _ (List.mem_cons_of_mem _ (List.mem_cons_of_mem _ (List.mem_cons_of_mem _ (List.mem_cons_of_mem _ (List.mem_cons_self)))))), List.forall_mem_cons.mpr ⟨List.mem_cons_of_mem _ (List.mem_cons_of_mem _ (List.mem_cons_of_mem _ (List.mem_cons_of_mem _ (List.mem_cons_of_mem _ (List.mem_cons_of_mem _ (List.mem_cons_of_mem _ (List.mem_cons_self))))))), List.forall_mem_cons.mpr ⟨List.mem_cons_of_mem _ (List.mem_cons_of_mem _ (List.mem_cons_of_mem _ (List.mem_cons_of_mem _ (List.mem_cons_of_mem _ (List.mem_cons_of_mem _ (List.mem_cons_of_mem _ (List.mem_cons_of_mem _ (List.mem_cons_self)))))))), List.forall_mem_cons.mpr ⟨List.mem_cons_of_mem _ (List.mem_cons_of_mem _ (List.mem_cons_of_mem _ (List.mem_cons_of_mem _ (List.mem_cons_of_mem _ (List.mem_cons_of_mem _ (List.mem_cons_of_mem _ (List.mem_cons_of_mem _ (List.mem_cons_of_mem _ (List.mem_cons_self))))))))), List.forall_mem_cons.mpr ⟨List.mem_cons_of_mem _ (List.mem_cons_of_mem _ (List.mem_cons_of_mem _ (List.mem_cons_of_mem _ (List.mem_cons_of_mem _ (List.mem_cons_of_mem _ (List.mem_cons_of_mem _ (List.mem_cons_of_mem _ (List.mem_cons_of_mem _ (List.mem_cons_of_mem _ (List.mem_cons_self)))))))))), List.forall_mem_cons.mpr ⟨List.mem_cons_of_mem _ (List.mem_cons_of_mem _ (List.mem_cons_of_mem _ (List.mem_cons_of_mem _ (List.mem_cons_self)))), List.forall_mem_cons.mpr ⟨List.mem_cons_of_mem _ (List.mem_cons_of_mem _ (List.mem_cons_of_mem _ (List.mem_cons_self))), List.forall_mem_cons.mpr ⟨List.mem_cons_of_mem _ (List.mem_cons_of_mem _ (List.mem_cons_self)), List.forall_mem_cons.mpr ⟨List.mem_cons_of_mem _ (List.mem_cons_self), List.forall_mem_cons.mpr ⟨List.mem_cons_self, fun _ h => absurd h List.not_mem_nil⟩⟩⟩⟩⟩⟩⟩⟩⟩⟩⟩)) ?_
          have key56 : ∀ (m58 : Nat) (y1 n1 li : Nat) (w59 : List (List xE)), 240 - li < m58 → y1 ≤ 4294967295 → n1 ≤ 4294967295 → li ≤ 240 → xMnv w59 → xFr [111] w w59 → xTo (d + 2) mX12_next (63, [], [(0, (2, 82)), (1, (0, wh)), (2, (0, s1)), (3, (0, f1)), (4, (0, l1)), (5, (0, ki)), (6, (0, (ki / 15) + 1)), (7, (0, z54)), (8, (0, y1)), (9, (0, n1)), (10, (0, li))], [], (w59, bd, fc, 0, 0, rr)) (fun φ => ∃ n w', xEnd 1 [(0, n)] (w', bd, fc, 0, 0, rr) φ ∧ (n ≤ 4294967295) ∧ xMnv w' ∧ xFr [111] w w') := by
            intro m58
            induction m58 with
            | zero => intro y1 n1 li w59 hz; exact absurd hz (Nat.not_lt_zero _)
            | succ m58 ih57 =>
              intro y1 n1 li w59 hm65 hn62 hn63 hn64 hI60 hF61
              refine xg_t (xg_blq rfl) ?_
              refine xg_t (xg_iload (va := (0, li)) rfl rfl) ?_
              refine xg_t (xg_sip) ?_
              by_cases hc66 : li < 240
              · refine xg_t (xg_icF (u := li) (v := 240) rfl xnm0 xnm0 (xj_geF hc66 (by omega))) ?_
                refine xg_t (xg_aload (va := (2, 82)) rfl rfl) ?_
                refine xg_t (xg_iload (va := (0, li)) rfl rfl) ?_
                refine xg_cVi mX12_isLaw (vs := [(0, li)]) (rest := []) (cn1 := 0) (sl1 := 0) rfl (mIsLaw (hI60) (by omega)) rfl (hF61.get (by decide) h82_31) rfl rfl rfl rfl rfl rfl (fun n71 w67 hq68 => ?_)
                obtain ⟨hn72, hI69, hF70⟩ := hq68
                by_cases hc73 : n71 = 0
                · refine xg_t (xg_ifF (u := n71) rfl xnm0 (xj_neF hc73)) ?_
                  refine xg_t (xg_goto) ?_
                  refine xg_t (xg_blq rfl) ?_
                  refine xg_t (xg_iinc (u := li) (z := li + 1) (l1 := [(0, (2, 82)), (1, (0, wh)), (2, (0, s1)), (3, (0, f1)), (4, (0, l1)), (5, (0, ki)), (6, (0, (ki / 15) + 1)), (7, (0, z54)), (8, (0, y1)), (9, (0, n1))]) rfl rfl (by omega) rfl) ?_
                  refine xg_t (xg_goto) ?_
                  refine xg_t (xg_drop (l1 := [(0, (2, 82)), (1, (0, wh)), (2, (0, s1)), (3, (0, f1)), (4, (0, l1)), (5, (0, ki)), (6, (0, (ki / 15) + 1)), (7, (0, z54)), (8, (0, y1)), (9, (0, n1)), (10, (0, li + 1))]) (List.forall_mem_cons.mpr ⟨List.mem_cons_of_mem _ (List.mem_cons_self), List.forall_mem_cons.mpr ⟨List.mem_cons_of_mem _ (List.mem_cons_of_mem _ (List.mem_cons_self)), List.forall_mem_cons.mpr ⟨List.mem_cons_of_mem _ (List.mem_cons_of_mem _ (List.mem_cons_of_mem _ (List.mem_cons_self))), List.forall_mem_cons.mpr ⟨List.mem_cons_of_mem _ (List.mem_cons_of_mem _ (List.mem_cons_of_mem _ (List.mem_cons_of_mem _ (List.mem_cons_self)))), List.forall_mem_cons.mpr ⟨List.mem_cons_of_mem _ (List.mem_cons_of_mem _ (List.mem_cons_of_mem _ (List.mem_cons_of_mem _ (List.mem_cons_of_mem _ (List.mem_cons_self))))), List.forall_mem_cons.mpr ⟨List.mem_cons_of_mem _ (List.mem_cons_of_mem _ (List.mem_cons_of_mem _ (List.mem_cons_of_mem _ (List.mem_cons_of_mem _ (List.mem_cons_of_mem _ (List.mem_cons_self)))))), List.forall_mem_cons.mpr ⟨List.mem_cons_of_mem _ (List.mem_cons_of_mem _ (List.mem_cons_of_mem _ (List.mem_cons_of_mem _ (List.mem_cons_of_mem _ (List.mem_cons_of_mem _ (List.mem_cons_of_mem _ (List.mem_cons_self))))))), List.forall_mem_cons.mpr ⟨List.mem_cons_of_mem _ (List.mem_cons_of_mem _ (List.mem_cons_of_mem _ (List.mem_cons_of_mem _ (List.mem_cons_of_mem _ (List.mem_cons_of_mem _ (List.mem_cons_of_mem _ (List.mem_cons_of_mem _ (List.mem_cons_self)))))))), List.forall_mem_cons.mpr ⟨List.mem_cons_of_mem _ (List.mem_cons_of_mem _ (List.mem_cons_of_mem _ (List.mem_cons_of_mem _ (List.mem_cons_of_mem _ (List.mem_cons_of_mem _ (List.mem_cons_of_mem _ (List.mem_cons_of_mem _ (List.mem_cons_of_mem _ (List.mem_cons_self))))))))), List.forall_mem_cons.mpr ⟨List.mem_cons_of_mem _ (List.mem_cons_of_mem _ (List.mem_cons_of_mem _ (List.mem_cons_of_mem _ (List.mem_cons_of_mem _ (List.mem_cons_of_mem _ (List.mem_cons_of_mem _ (List.mem_cons_of_mem _ (List.mem_cons_of_mem _ (List.mem_cons_of_mem _ (List.mem_cons_self)))))))))), List.forall_mem_cons.mpr ⟨List.mem_cons_self, fun _ h => absurd h List.not_mem_nil⟩⟩⟩⟩⟩⟩⟩⟩⟩⟩⟩)) ?_
                  exact ih57 y1 n1 (li + 1) w67 (by omega) (by omega) (by omega) (by omega) (hI69) ((hF61.tr (hF70.up (by decide))))
                · refine xg_t (xg_ifT (u := n71) rfl xnm0 (xj_neT hc73)) ?_
                  refine xg_t (xg_blq rfl) ?_
                  refine xg_t (xg_iload (va := (0, y1)) rfl rfl) ?_
                  refine xg_t (xg_iload (va := (0, z54)) rfl rfl) ?_
                  refine xg_t (xg_bip) ?_
                  refine xg_t (xg_iload (va := (0, li)) rfl rfl) ?_
                  refine xg_t (xg_iload (va := (0, (ki / 15) + 1)) rfl rfl) ?_
                  refine xg_cSi mX12_lawAt (vs := [(0, li), (0, (ki / 15) + 1)]) (rest := [(0, 8), (0, z54), (0, y1)]) (cn1 := 0) (sl1 := 0) rfl (mLawAt (hI69) (by omega) (by omega)) rfl rfl rfl rfl rfl rfl rfl (fun n78 w74 hq75 => ?_)
                  obtain ⟨hn79, hI76, hF77⟩ := hq75
                  refine xg_k (xg_imul (u := 8) (v := n78) (z := (8 * n78) % 4294967296) xnm0 xnm0 rfl) (Nat.mod_lt _ (by decide)) (fun z80 hz81 => ?_)
                  by_cases hc82 : xbs z54 < xbs z80
                  · have hc82u := hc82
                    unfold xbs at hc82u
                    refine xg_t (xg_icT (u := z54) (v := z80) rfl xnm0 xnm0 (xjs_ltT hc82)) ?_
                    refine xg_t (xg_blq rfl) ?_
                    refine xg_t (xg_const) ?_
                    refine xg_t (xg_blq rfl) ?_
                    refine xg_k (xg_iadd (u := y1) (v := 0) (z := (y1 + 0) % 4294967296) xnm0 xnm0 rfl) (Nat.mod_lt _ (by decide)) (fun z83 hz84 => ?_)
                    refine xg_t (xg_istore (l1 := [(0, (2, 82)), (1, (0, wh)), (2, (0, s1)), (3, (0, f1)), (4, (0, l1)), (5, (0, ki)), (6, (0, (ki / 15) + 1)), (7, (0, z54)), (9, (0, n1)), (10, (0, li))]) rfl rfl rfl) ?_
                    refine xg_t (xg_iload (va := (0, n1)) rfl rfl) ?_
                    refine xg_t (xg_iload (va := (0, z54)) rfl rfl) ?_
                    refine xg_t (xg_bip) ?_
                    refine xg_t (xg_iload (va := (0, li)) rfl rfl) ?_
                    refine xg_t (xg_iload (va := (0, (ki / 15) + 1)) rfl rfl) ?_
                    refine xg_cSi mX12_lawAt (vs := [(0, li), (0, (ki / 15) + 1)]) (rest := [(0, 12), (0, z54), (0, n1)]) (cn1 := 0) (sl1 := 0) rfl (mLawAt (hI76) (by omega) (by omega)) rfl rfl rfl rfl rfl rfl rfl (fun n89 w85 hq86 => ?_)
                    obtain ⟨hn90, hI87, hF88⟩ := hq86
                    refine xg_k (xg_imul (u := 12) (v := n89) (z := (12 * n89) % 4294967296) xnm0 xnm0 rfl) (Nat.mod_lt _ (by decide)) (fun z91 hz92 => ?_)
                    by_cases hc93 : xbs z54 < xbs z91
                    · have hc93u := hc93
                      unfold xbs at hc93u
                      refine xg_t (xg_icF (u := z54) (v := z91) rfl xnm0 xnm0 (xjs_geF hc93)) ?_
                      refine xg_t (xg_const) ?_
                      refine xg_t (xg_goto) ?_
                      refine xg_t (xg_blq rfl) ?_
                      refine xg_k (xg_iadd (u := n1) (v := 1) (z := (n1 + 1) % 4294967296) xnm0 xnm0 rfl) (Nat.mod_lt _ (by decide)) (fun z94 hz95 => ?_)
                      refine xg_t (xg_istore (l1 := [(8, (0, z83)), (0, (2, 82)), (1, (0, wh)), (2, (0, s1)), (3, (0, f1)), (4, (0, l1)), (5, (0, ki)), (6, (0, (ki / 15) + 1)), (7, (0, z54)), (10, (0, li))]) rfl rfl rfl) ?_
                      refine xg_t (xg_blq rfl) ?_
                      refine xg_t (xg_iinc (u := li) (z := li + 1) (l1 := [(9, (0, z94)), (8, (0, z83)), (0, (2, 82)), (1, (0, wh)), (2, (0, s1)), (3, (0, f1)), (4, (0, l1)), (5, (0, ki)), (6, (0, (ki / 15) + 1)), (7, (0, z54))]) rfl rfl (by omega) rfl) ?_
                      refine xg_t (xg_goto) ?_
                      refine xg_t (xg_drop (l1 := [(0, (2, 82)), (1, (0, wh)), (2, (0, s1)), (3, (0, f1)), (4, (0, l1)), (5, (0, ki)), (6, (0, (ki / 15) + 1)), (7, (0, z54)), (8, (0, z83)), (9, (0, z94)), (10, (0, li + 1))]) (List.forall_mem_cons.mpr ⟨List.mem_cons_of_mem _ (List.mem_cons_of_mem _ (List.mem_cons_of_mem _ (List.mem_cons_self))), List.forall_mem_cons.mpr ⟨List.mem_cons_of_mem _ (List.mem_cons_of_mem _ (List.mem_cons_of_mem _ (List.mem_cons_of_mem _ (List.mem_cons_self)))), List.forall_mem_cons.mpr ⟨List.mem_cons_of_mem _ (List.mem_cons_of_mem _ (List.mem_cons_of_mem _ (List.mem_cons_of_mem _ (List.mem_cons_of_mem _ (List.mem_cons_self))))), List.forall_mem_cons.mpr ⟨List.mem_cons_of_mem _ (List.mem_cons_of_mem _ (List.mem_cons_of_mem _ (List.mem_cons_of_mem _ (List.mem_cons_of_mem _ (List.mem_cons_of_mem _ (List.mem_cons_self)))))), List.forall_mem_cons.mpr ⟨List.mem_cons_of_mem _ (List.mem_cons_of_mem _ (List.mem_cons_of_mem _ (List.mem_cons_of_mem _ (List.mem_cons_of_mem _ (List.mem_cons_of_mem _ (List.mem_cons_of_mem _ (List.mem_cons_self))))))), List.forall_mem_cons.mpr ⟨List.mem_cons_of_mem _ (List.mem_cons_of_mem _ (List.mem_cons_of_mem _ (List.mem_cons_of_mem _ (List.mem_cons_of_mem _ (List.mem_cons_of_mem _ (List.mem_cons_of_mem _ (List.mem_cons_of_mem _ (List.mem_cons_self)))))))), List.forall_mem_cons.mpr ⟨List.mem_cons_of_mem _ (List.mem_cons_of_mem _ (List.mem_cons_of_mem _ (List.mem_cons_of_mem _ (List.mem_cons_of_mem _ (List.mem_cons_of_mem _ (List.mem_cons_of_mem _ (List.mem_cons_of_mem _ (List.mem_cons_of_mem _ (List.mem_cons_self))))))))), List.forall_mem_cons.mpr ⟨List.mem_cons_of_mem _ (List.mem_cons_of_mem _ (List.mem_cons_of_mem _ (List.mem_cons_of_mem _ (List.mem_cons_of_mem _ (List.mem_cons_of_mem _ (List.mem_cons_of_mem _ (List.mem_cons_of_mem _ (List.mem_cons_of_mem _ (List.mem_cons_of_mem _ (List.mem_cons_self)))))))))), List.forall_mem_cons.mpr ⟨List.mem_cons_of_mem _ (List.mem_cons_of_mem _ (List.mem_cons_self)), List.forall_mem_cons.mpr ⟨List.mem_cons_of_mem _ (List.mem_cons_self), List.forall_mem_cons.mpr ⟨List.mem_cons_self, fun _ h => absurd h List.not_mem_nil⟩⟩⟩⟩⟩⟩⟩⟩⟩⟩⟩)) ?_
                      exact ih57 z83 z94 (li + 1) w85 (by omega) (by omega) (by omega) (by omega) (hI87) ((((hF61.tr (hF70.up (by decide))).tr (hF77.up (by decide))).tr (hF88.up (by decide))))
                    · have hc93u := hc93
                      unfold xbs at hc93u
                      refine xg_t (xg_icT (u := z54) (v := z91) rfl xnm0 xnm0 (xjs_geT hc93)) ?_
                      refine xg_t (xg_blq rfl) ?_
                      refine xg_t (xg_const) ?_
                      refine xg_t (xg_blq rfl) ?_
                      refine xg_k (xg_iadd (u := n1) (v := 0) (z := (n1 + 0) % 4294967296) xnm0 xnm0 rfl) (Nat.mod_lt _ (by decide)) (fun z96 hz97 => ?_)
                      refine xg_t (xg_istore (l1 := [(8, (0, z83)), (0, (2, 82)), (1, (0, wh)), (2, (0, s1)), (3, (0, f1)), (4, (0, l1)), (5, (0, ki)), (6, (0, (ki / 15) + 1)), (7, (0, z54)), (10, (0, li))]) rfl rfl rfl) ?_
                      refine xg_t (xg_blq rfl) ?_
                      refine xg_t (xg_iinc (u := li) (z := li + 1) (l1 := [(9, (0, z96)), (8, (0, z83)), (0, (2, 82)), (1, (0, wh)), (2, (0, s1)), (3, (0, f1)), (4, (0, l1)), (5, (0, ki)), (6, (0, (ki / 15) + 1)), (7, (0, z54))]) rfl rfl (by omega) rfl) ?_
                      refine xg_t (xg_goto) ?_
                      refine xg_t (xg_drop (l1 := [(0, (2, 82)), (1, (0, wh)), (2, (0, s1)), (3, (0, f1)), (4, (0, l1)), (5, (0, ki)), (6, (0, (ki / 15) + 1)), (7, (0, z54)), (8, (0, z83)), (9, (0, z96)), (10, (0, li + 1))]) (List.forall_mem_cons.mpr ⟨List.mem_cons_of_mem _ (List.mem_cons_of_mem _ (List.mem_cons_of_mem _ (List.mem_cons_self))), List.forall_mem_cons.mpr ⟨List.mem_cons_of_mem _ (List.mem_cons_of_mem _ (List.mem_cons_of_mem _ (List.mem_cons_of_mem _ (List.mem_cons_self)))), List.forall_mem_cons.mpr ⟨List.mem_cons_of_mem _ (List.mem_cons_of_mem _ (List.mem_cons_of_mem _ (List.mem_cons_of_mem _ (List.mem_cons_of_mem _ (List.mem_cons_self))))), List.forall_mem_cons.mpr ⟨List.mem_cons_of_mem _ (List.mem_cons_of_mem _ (List.mem_cons_of_mem _ (List.mem_cons_of_mem _ (List.mem_cons_of_mem _ (List.mem_cons_of_mem _ (List.mem_cons_self)))))), List.forall_mem_cons.mpr ⟨List.mem_cons_of_mem _ (List.mem_cons_of_mem _ (List.mem_cons_of_mem _ (List.mem_cons_of_mem _ (List.mem_cons_of_mem _ (List.mem_cons_of_mem _ (List.mem_cons_of_mem _ (List.mem_cons_self))))))), List.forall_mem_cons.mpr ⟨List.mem_cons_of_mem _ (List.mem_cons_of_mem _ (List.mem_cons_of_mem _ (List.mem_cons_of_mem _ (List.mem_cons_of_mem _ (List.mem_cons_of_mem _ (List.mem_cons_of_mem _ (List.mem_cons_of_mem _ (List.mem_cons_self)))))))), List.forall_mem_cons.mpr ⟨List.mem_cons_of_mem _ (List.mem_cons_of_mem _ (List.mem_cons_of_mem _ (List.mem_cons_of_mem _ (List.mem_cons_of_mem _ (List.mem_cons_of_mem _ (List.mem_cons_of_mem _ (List.mem_cons_of_mem _ (List.mem_cons_of_mem _ (List.mem_cons_self))))))))), List.forall_mem_cons.mpr ⟨List.mem_cons_of_mem _ (List.mem_cons_of_mem _ (List.mem_cons_of_mem _ (List.mem_cons_of_mem _ (List.mem_cons_of_mem _ (List.mem_cons_of_mem _ (List.mem_cons_of_mem _ (List.mem_cons_of_mem _ (List.mem_cons_of_mem _ (List.mem_cons_of_mem _ (List.mem_cons_self)))))))))), List.forall_mem_cons.mpr ⟨List.mem_cons_of_mem _ (List.mem_cons_of_mem _ (List.mem_cons_self)), List.forall_mem_cons.mpr ⟨List.mem_cons_of_mem _ (List.mem_cons_self), List.forall_mem_cons.mpr ⟨List.mem_cons_self, fun _ h => absurd h List.not_mem_nil⟩⟩⟩⟩⟩⟩⟩⟩⟩⟩⟩)) ?_
                      exact ih57 z83 z96 (li + 1) w85 (by omega) (by omega) (by omega) (by omega) (hI87) ((((hF61.tr (hF70.up (by decide))).tr (hF77.up (by decide))).tr (hF88.up (by decide))))
                  · have hc82u := hc82
                    unfold xbs at hc82u
                    refine xg_t (xg_icF (u := z54) (v := z80) rfl xnm0 xnm0 (xjs_ltF hc82)) ?_
                    refine xg_t (xg_const) ?_
                    refine xg_t (xg_goto) ?_
                    refine xg_t (xg_blq rfl) ?_
                    refine xg_k (xg_iadd (u := y1) (v := 1) (z := (y1 + 1) % 4294967296) xnm0 xnm0 rfl) (Nat.mod_lt _ (by decide)) (fun z98 hz99 => ?_)
                    refine xg_t (xg_istore (l1 := [(0, (2, 82)), (1, (0, wh)), (2, (0, s1)), (3, (0, f1)), (4, (0, l1)), (5, (0, ki)), (6, (0, (ki / 15) + 1)), (7, (0, z54)), (9, (0, n1)), (10, (0, li))]) rfl rfl rfl) ?_
                    refine xg_t (xg_iload (va := (0, n1)) rfl rfl) ?_
                    refine xg_t (xg_iload (va := (0, z54)) rfl rfl) ?_
                    refine xg_t (xg_bip) ?_
                    refine xg_t (xg_iload (va := (0, li)) rfl rfl) ?_
                    refine xg_t (xg_iload (va := (0, (ki / 15) + 1)) rfl rfl) ?_
                    refine xg_cSi mX12_lawAt (vs := [(0, li), (0, (ki / 15) + 1)]) (rest := [(0, 12), (0, z54), (0, n1)]) (cn1 := 0) (sl1 := 0) rfl (mLawAt (hI76) (by omega) (by omega)) rfl rfl rfl rfl rfl rfl rfl (fun n104 w100 hq101 => ?_)
                    obtain ⟨hn105, hI102, hF103⟩ := hq101
                    refine xg_k (xg_imul (u := 12) (v := n104) (z := (12 * n104) % 4294967296) xnm0 xnm0 rfl) (Nat.mod_lt _ (by decide)) (fun z106 hz107 => ?_)
                    by_cases hc108 : xbs z54 < xbs z106
                    · have hc108u := hc108
                      unfold xbs at hc108u
                      refine xg_t (xg_icF (u := z54) (v := z106) rfl xnm0 xnm0 (xjs_geF hc108)) ?_
                      refine xg_t (xg_const) ?_
                      refine xg_t (xg_goto) ?_
                      refine xg_t (xg_blq rfl) ?_
                      refine xg_k (xg_iadd (u := n1) (v := 1) (z := (n1 + 1) % 4294967296) xnm0 xnm0 rfl) (Nat.mod_lt _ (by decide)) (fun z109 hz110 => ?_)
                      refine xg_t (xg_istore (l1 := [(8, (0, z98)), (0, (2, 82)), (1, (0, wh)), (2, (0, s1)), (3, (0, f1)), (4, (0, l1)), (5, (0, ki)), (6, (0, (ki / 15) + 1)), (7, (0, z54)), (10, (0, li))]) rfl rfl rfl) ?_
                      refine xg_t (xg_blq rfl) ?_
                      refine xg_t (xg_iinc (u := li) (z := li + 1) (l1 := [(9, (0, z109)), (8, (0, z98)), (0, (2, 82)), (1, (0, wh)), (2, (0, s1)), (3, (0, f1)), (4, (0, l1)), (5, (0, ki)), (6, (0, (ki / 15) + 1)), (7, (0, z54))]) rfl rfl (by omega) rfl) ?_
                      refine xg_t (xg_goto) ?_
                      refine xg_t (xg_drop (l1 := [(0, (2, 82)), (1, (0, wh)), (2, (0, s1)), (3, (0, f1)), (4, (0, l1)), (5, (0, ki)), (6, (0, (ki / 15) + 1)), (7, (0, z54)), (8, (0, z98)), (9, (0, z109)), (10, (0, li + 1))]) (List.forall_mem_cons.mpr ⟨List.mem_cons_of_mem _ (List.mem_cons_of_mem _ (List.mem_cons_of_mem _ (List.mem_cons_self))), List.forall_mem_cons.mpr ⟨List.mem_cons_of_mem _ (List.mem_cons_of_mem _ (List.mem_cons_of_mem _ (List.mem_cons_of_mem _ (List.mem_cons_self)))), List.forall_mem_cons.mpr ⟨List.mem_cons_of_mem _ (List.mem_cons_of_mem _ (List.mem_cons_of_mem _ (List.mem_cons_of_mem _ (List.mem_cons_of_mem _ (List.mem_cons_self))))), List.forall_mem_cons.mpr ⟨List.mem_cons_of_mem _ (List.mem_cons_of_mem _ (List.mem_cons_of_mem _ (List.mem_cons_of_mem _ (List.mem_cons_of_mem _ (List.mem_cons_of_mem _ (List.mem_cons_self)))))), List.forall_mem_cons.mpr ⟨List.mem_cons_of_mem _ (List.mem_cons_of_mem _ (List.mem_cons_of_mem _ (List.mem_cons_of_mem _ (List.mem_cons_of_mem _ (List.mem_cons_of_mem _ (List.mem_cons_of_mem _ (List.mem_cons_self))))))), List.forall_mem_cons.mpr ⟨List.mem_cons_of_mem _ (List.mem_cons_of_mem _ (List.mem_cons_of_mem _ (List.mem_cons_of_mem _ (List.mem_cons_of_mem _ (List.mem_cons_of_mem _ (List.mem_cons_of_mem _ (List.mem_cons_of_mem _ (List.mem_cons_self)))))))), List.forall_mem_cons.mpr ⟨List.mem_cons_of_mem _ (List.mem_cons_of_mem _ (List.mem_cons_of_mem _ (List.mem_cons_of_mem _ (List.mem_cons_of_mem _ (List.mem_cons_of_mem _ (List.mem_cons_of_mem _ (List.mem_cons_of_mem _ (List.mem_cons_of_mem _ (List.mem_cons_self))))))))), List.forall_mem_cons.mpr ⟨List.mem_cons_of_mem _ (List.mem_cons_of_mem _ (List.mem_cons_of_mem _ (List.mem_cons_of_mem _ (List.mem_cons_of_mem _ (List.mem_cons_of_mem _ (List.mem_cons_of_mem _ (List.mem_cons_of_mem _ (List.mem_cons_of_mem _ (List.mem_cons_of_mem _ (List.mem_cons_self)))))))))), List.forall_mem_cons.mpr ⟨List.mem_cons_of_mem _ (List.mem_cons_of_mem _ (List.mem_cons_self)), List.forall_mem_cons.mpr ⟨List.mem_cons_of_mem _ (List.mem_cons_self), List.forall_mem_cons.mpr ⟨List.mem_cons_self, fun _ h => absurd h List.not_mem_nil⟩⟩⟩⟩⟩⟩⟩⟩⟩⟩⟩)) ?_
                      exact ih57 z98 z109 (li + 1) w100 (by omega) (by omega) (by omega) (by omega) (hI102) ((((hF61.tr (hF70.up (by decide))).tr (hF77.up (by decide))).tr (hF103.up (by decide))))
                    · have hc108u := hc108
                      unfold xbs at hc108u
                      refine xg_t (xg_icT (u := z54) (v := z106) rfl xnm0 xnm0 (xjs_geT hc108)) ?_
                      refine xg_t (xg_blq rfl) ?_
                      refine xg_t (xg_const) ?_
                      refine xg_t (xg_blq rfl) ?_
                      refine xg_k (xg_iadd (u := n1) (v := 0) (z := (n1 + 0) % 4294967296) xnm0 xnm0 rfl) (Nat.mod_lt _ (by decide)) (fun z111 hz112 => ?_)
                      refine xg_t (xg_istore (l1 := [(8, (0, z98)), (0, (2, 82)), (1, (0, wh)), (2, (0, s1)), (3, (0, f1)), (4, (0, l1)), (5, (0, ki)), (6, (0, (ki / 15) + 1)), (7, (0, z54)), (10, (0, li))]) rfl rfl rfl) ?_
                      refine xg_t (xg_blq rfl) ?_
                      refine xg_t (xg_iinc (u := li) (z := li + 1) (l1 := [(9, (0, z111)), (8, (0, z98)), (0, (2, 82)), (1, (0, wh)), (2, (0, s1)), (3, (0, f1)), (4, (0, l1)), (5, (0, ki)), (6, (0, (ki / 15) + 1)), (7, (0, z54))]) rfl rfl (by omega) rfl) ?_
                      refine xg_t (xg_goto) ?_
                      refine xg_t (xg_drop (l1 := [(0, (2, 82)), (1, (0, wh)), (2, (0, s1)), (3, (0, f1)), (4, (0, l1)), (5, (0, ki)), (6, (0, (ki / 15) + 1)), (7, (0, z54)), (8, (0, z98)), (9, (0, z111)), (10, (0, li + 1))]) (List.forall_mem_cons.mpr ⟨List.mem_cons_of_mem _ (List.mem_cons_of_mem _ (List.mem_cons_of_mem _ (List.mem_cons_self))), List.forall_mem_cons.mpr ⟨List.mem_cons_of_mem _ (List.mem_cons_of_mem _ (List.mem_cons_of_mem _ (List.mem_cons_of_mem _ (List.mem_cons_self)))), List.forall_mem_cons.mpr ⟨List.mem_cons_of_mem _ (List.mem_cons_of_mem _ (List.mem_cons_of_mem _ (List.mem_cons_of_mem _ (List.mem_cons_of_mem _ (List.mem_cons_self))))), List.forall_mem_cons.mpr ⟨List.mem_cons_of_mem _ (List.mem_cons_of_mem _ (List.mem_cons_of_mem _ (List.mem_cons_of_mem _ (List.mem_cons_of_mem _ (List.mem_cons_of_mem _ (List.mem_cons_self)))))), List.forall_mem_cons.mpr ⟨List.mem_cons_of_mem _ (List.mem_cons_of_mem _ (List.mem_cons_of_mem _ (List.mem_cons_of_mem _ (List.mem_cons_of_mem _ (List.mem_cons_of_mem _ (List.mem_cons_of_mem _ (List.mem_cons_self))))))), List.forall_mem_cons.mpr ⟨List.mem_cons_of_mem _ (List.mem_cons_of_mem _ (List.mem_cons_of_mem _ (List.mem_cons_of_mem _ (List.mem_cons_of_mem _ (List.mem_cons_of_mem _ (List.mem_cons_of_mem _ (List.mem_cons_of_mem _ (List.mem_cons_self)))))))), List.forall_mem_cons.mpr ⟨List.mem_cons_of_mem _ (List.mem_cons_of_mem _ (List.mem_cons_of_mem _ (List.mem_cons_of_mem _ (List.mem_cons_of_mem _ (List.mem_cons_of_mem _ (List.mem_cons_of_mem _ (List.mem_cons_of_mem _ (List.mem_cons_of_mem _ (List.mem_cons_self))))))))), List.forall_mem_cons.mpr ⟨List.mem_cons_of_mem _ (List.mem_cons_of_mem _ (List.mem_cons_of_mem _ (List.mem_cons_of_mem _ (List.mem_cons_of_mem _ (List.mem_cons_of_mem _ (List.mem_cons_of_mem _ (List.mem_cons_of_mem _ (List.mem_cons_of_mem _ (List.mem_cons_of_mem _ (List.mem_cons_self)))))))))), List.forall_mem_cons.mpr ⟨List.mem_cons_of_mem _ (List.mem_cons_of_mem _ (List.mem_cons_self)), List.forall_mem_cons.mpr ⟨List.mem_cons_of_mem _ (List.mem_cons_self), List.forall_mem_cons.mpr ⟨List.mem_cons_self, fun _ h => absurd h List.not_mem_nil⟩⟩⟩⟩⟩⟩⟩⟩⟩⟩⟩)) ?_
                      exact ih57 z98 z111 (li + 1) w100 (by omega) (by omega) (by omega) (by omega) (hI102) ((((hF61.tr (hF70.up (by decide))).tr (hF77.up (by decide))).tr (hF103.up (by decide))))
              · refine xg_t (xg_icT (u := li) (v := 240) rfl xnm0 xnm0 (xj_geT (by omega) (by omega))) ?_
                refine xg_t (xg_blq rfl) ?_
                refine xg_t (xg_iload (va := (0, y1)) rfl rfl) ?_
                refine xg_t (xg_iload (va := (0, n1)) rfl rfl) ?_
                by_cases hc113 : xbs n1 < xbs y1
                · have hc113u := hc113
                  unfold xbs at hc113u
                  refine xg_t (xg_icF (u := y1) (v := n1) rfl xnm0 xnm0 (xjs_leF hc113)) ?_
                  refine xg_t (xg_iload (va := (0, y1)) rfl rfl) ?_
                  refine xg_t (xg_goto) ?_
                  refine xg_t (xg_blq rfl) ?_
                  refine xg_t (xg_istore (l1 := [(0, (2, 82)), (1, (0, wh)), (2, (0, s1)), (3, (0, f1)), (4, (0, l1)), (5, (0, ki)), (6, (0, (ki / 15) + 1)), (7, (0, z54)), (8, (0, y1)), (9, (0, n1))]) rfl rfl rfl) ?_
                  refine xg_t (xg_iload (va := (0, y1)) rfl rfl) ?_
                  refine xg_t (xg_iload (va := (0, l1)) rfl rfl) ?_
                  by_cases hc114 : xbs y1 < xbs l1
                  · have hc114u := hc114
                    unfold xbs at hc114u
                    refine xg_t (xg_icT (u := y1) (v := l1) rfl xnm0 xnm0 (xjs_ltT hc114)) ?_
                    refine xg_t (xg_blq rfl) ?_
                    refine xg_t (xg_iload (va := (0, y1)) rfl rfl) ?_
                    refine xg_t (xg_istore (l1 := [(10, (0, y1)), (0, (2, 82)), (1, (0, wh)), (2, (0, s1)), (3, (0, f1)), (5, (0, ki)), (6, (0, (ki / 15) + 1)), (7, (0, z54)), (8, (0, y1)), (9, (0, n1))]) rfl rfl rfl) ?_
                    refine xg_t (xg_iload (va := (0, (ki / 15) + 1)) rfl rfl) ?_
                    refine xg_t (xg_istore (l1 := [(4, (0, y1)), (10, (0, y1)), (0, (2, 82)), (1, (0, wh)), (3, (0, f1)), (5, (0, ki)), (6, (0, (ki / 15) + 1)), (7, (0, z54)), (8, (0, y1)), (9, (0, n1))]) rfl rfl rfl) ?_
                    refine xg_t (xg_iload (va := (0, z54)) rfl rfl) ?_
                    refine xg_t (xg_istore (l1 := [(2, (0, (ki / 15) + 1)), (4, (0, y1)), (10, (0, y1)), (0, (2, 82)), (1, (0, wh)), (5, (0, ki)), (6, (0, (ki / 15) + 1)), (7, (0, z54)), (8, (0, y1)), (9, (0, n1))]) rfl rfl rfl) ?_
                    refine xg_t (xg_blq rfl) ?_
                    refine xg_t (xg_iinc (u := ki) (z := ki + 1) (l1 := [(3, (0, z54)), (2, (0, (ki / 15) + 1)), (4, (0, y1)), (10, (0, y1)), (0, (2, 82)), (1, (0, wh)), (6, (0, (ki / 15) + 1)), (7, (0, z54)), (8, (0, y1)), (9, (0, n1))]) rfl rfl (by omega) rfl) ?_
                    refine xg_t (xg_goto) ?_
                    refine xg_t (xg_drop (l1 := [(0, (2, 82)), (1, (0, wh)), (2, (0, (ki / 15) + 1)), (3, (0, z54)), (4, (0, y1)), (5, (0, ki + 1))]) (List.forall_mem_cons.mpr ⟨List.mem_cons_of_mem _ (List.mem_cons_of_mem _ (List.mem_cons_of_mem _ (List.mem_cons_of_mem _ (List.mem_cons_of_mem _ (List.mem_cons_self))))), List.forall_mem_cons.mpr ⟨List.mem_cons_of_mem _ (List.mem_cons_of_mem _ (List.mem_cons_of_mem _ (List.mem_cons_of_mem _ (List.mem_cons_of_mem _ (List.mem_cons_of_mem _ (List.mem_cons_self)))))), List.forall_mem_cons.mpr ⟨List.mem_cons_of_mem _ (List.mem_cons_of_mem _ (List.mem_cons_self)), List.forall_mem_cons.mpr ⟨List.mem_cons_of_mem _ (List.mem_cons_self), List.forall_mem_cons.mpr ⟨List.mem_cons_of_mem _ (List.mem_cons_of_mem _ (List.mem_cons_of_mem _ (List.mem_cons_self))), List.forall_mem_cons.mpr ⟨List.mem_cons_self, fun _ h => absurd h List.not_mem_nil⟩⟩⟩⟩⟩⟩)) ?_
                    exact ih43 ((ki / 15) + 1) z54 y1 (ki + 1) w59 (by omega) (by omega) (by omega) (by omega) (by omega) (hI60) (hF61)
                  · have hc114u := hc114
                    unfold xbs at hc114u
                    refine xg_t (xg_icF (u := y1) (v := l1) rfl xnm0 xnm0 (xjs_ltF hc114)) ?_
                    refine xg_t (xg_goto) ?_
                    refine xg_t (xg_blq rfl) ?_
                    refine xg_t (xg_iinc (u := ki) (z := ki + 1) (l1 := [(10, (0, y1)), (0, (2, 82)), (1, (0, wh)), (2, (0, s1)), (3, (0, f1)), (4, (0, l1)), (6, (0, (ki / 15) + 1)), (7, (0, z54)), (8, (0, y1)), (9, (0, n1))]) rfl rfl (by omega) rfl) ?_
                    refine xg_t (xg_goto) ?_
                    refine xg_t (xg_drop (l1 := [(0, (2, 82)), (1, (0, wh)), (2, (0, s1)), (3, (0, f1)), (4, (0, l1)), (5, (0, ki + 1))]) (List.forall_mem_cons.mpr ⟨List.mem_cons_of_mem _ (List.mem_cons_of_mem _ (List.mem_cons_self)), List.forall_mem_cons.mpr ⟨List.mem_cons_of_mem _ (List.mem_cons_of_mem _ (List.mem_cons_of_mem _ (List.mem_cons_self))), List.forall_mem_cons.mpr ⟨List.mem_cons_of_mem _ (List.mem_cons_of_mem _ (List.mem_cons_of_mem _ (List.mem_cons_of_mem _ (List.mem_cons_self)))), List.forall_mem_cons.mpr ⟨List.mem_cons_of_mem _ (List.mem_cons_of_mem _ (List.mem_cons_of_mem _ (List.mem_cons_of_mem _ (List.mem_cons_of_mem _ (List.mem_cons_self))))), List.forall_mem_cons.mpr ⟨List.mem_cons_of_mem _ (List.mem_cons_of_mem _ (List.mem_cons_of_mem _ (List.mem_cons_of_mem _ (List.mem_cons_of_mem _ (List.mem_cons_of_mem _ (List.mem_cons_self)))))), List.forall_mem_cons.mpr ⟨List.mem_cons_self, fun _ h => absurd h List.not_mem_nil⟩⟩⟩⟩⟩⟩)) ?_
                    exact ih43 s1 f1 l1 (ki + 1) w59 (by omega) (by omega) (by omega) (by omega) (by omega) (hI60) (hF61)
                · have hc113u := hc113
                  unfold xbs at hc113u
                  refine xg_t (xg_icT (u := y1) (v := n1) rfl xnm0 xnm0 (xjs_leT hc113)) ?_
                  refine xg_t (xg_blq rfl) ?_
                  refine xg_t (xg_iload (va := (0, n1)) rfl rfl) ?_
                  refine xg_t (xg_blq rfl) ?_
                  refine xg_t (xg_istore (l1 := [(0, (2, 82)), (1, (0, wh)), (2, (0, s1)), (3, (0, f1)), (4, (0, l1)), (5, (0, ki)), (6, (0, (ki / 15) + 1)), (7, (0, z54)), (8, (0, y1)), (9, (0, n1))]) rfl rfl rfl) ?_
                  refine xg_t (xg_iload (va := (0, n1)) rfl rfl) ?_
                  refine xg_t (xg_iload (va := (0, l1)) rfl rfl) ?_
                  by_cases hc115 : xbs n1 < xbs l1
                  · have hc115u := hc115
                    unfold xbs at hc115u
                    refine xg_t (xg_icT (u := n1) (v := l1) rfl xnm0 xnm0 (xjs_ltT hc115)) ?_
                    refine xg_t (xg_blq rfl) ?_
                    refine xg_t (xg_iload (va := (0, n1)) rfl rfl) ?_
                    refine xg_t (xg_istore (l1 := [(10, (0, n1)), (0, (2, 82)), (1, (0, wh)), (2, (0, s1)), (3, (0, f1)), (5, (0, ki)), (6, (0, (ki / 15) + 1)), (7, (0, z54)), (8, (0, y1)), (9, (0, n1))]) rfl rfl rfl) ?_
                    refine xg_t (xg_iload (va := (0, (ki / 15) + 1)) rfl rfl) ?_
                    refine xg_t (xg_istore (l1 := [(4, (0, n1)), (10, (0, n1)), (0, (2, 82)), (1, (0, wh)), (3, (0, f1)), (5, (0, ki)), (6, (0, (ki / 15) + 1)), (7, (0, z54)), (8, (0, y1)), (9, (0, n1))]) rfl rfl rfl) ?_
                    refine xg_t (xg_iload (va := (0, z54)) rfl rfl) ?_
                    refine xg_t (xg_istore (l1 := [(2, (0, (ki / 15) + 1)), (4, (0, n1)), (10, (0, n1)), (0, (2, 82)), (1, (0, wh)), (5, (0, ki)), (6, (0, (ki / 15) + 1)), (7, (0, z54)), (8, (0, y1)), (9, (0, n1))]) rfl rfl rfl) ?_
                    refine xg_t (xg_blq rfl) ?_
                    refine xg_t (xg_iinc (u := ki) (z := ki + 1) (l1 := [(3, (0, z54)), (2, (0, (ki / 15) + 1)), (4, (0, n1)), (10, (0, n1)), (0, (2, 82)), (1, (0, wh)), (6, (0, (ki / 15) + 1)), (7, (0, z54)), (8, (0, y1)), (9, (0, n1))]) rfl rfl (by omega) rfl) ?_
                    refine xg_t (xg_goto) ?_
                    refine xg_t (xg_drop (l1 := [(0, (2, 82)), (1, (0, wh)), (2, (0, (ki / 15) + 1)), (3, (0, z54)), (4, (0, n1)), (5, (0, ki + 1))]) (List.forall_mem_cons.mpr ⟨List.mem_cons_of_mem _ (List.mem_cons_of_mem _ (List.mem_cons_of_mem _ (List.mem_cons_of_mem _ (List.mem_cons_of_mem _ (List.mem_cons_self))))), List.forall_mem_cons.mpr ⟨List.mem_cons_of_mem _ (List.mem_cons_of_mem _ (List.mem_cons_of_mem _ (List.mem_cons_of_mem _ (List.mem_cons_of_mem _ (List.mem_cons_of_mem _ (List.mem_cons_self)))))), List.forall_mem_cons.mpr ⟨List.mem_cons_of_mem _ (List.mem_cons_of_mem _ (List.mem_cons_self)), List.forall_mem_cons.mpr ⟨List.mem_cons_of_mem _ (List.mem_cons_self), List.forall_mem_cons.mpr ⟨List.mem_cons_of_mem _ (List.mem_cons_of_mem _ (List.mem_cons_of_mem _ (List.mem_cons_self))), List.forall_mem_cons.mpr ⟨List.mem_cons_self, fun _ h => absurd h List.not_mem_nil⟩⟩⟩⟩⟩⟩)) ?_
                    exact ih43 ((ki / 15) + 1) z54 n1 (ki + 1) w59 (by omega) (by omega) (by omega) (by omega) (by omega) (hI60) (hF61)
                  · have hc115u := hc115
                    unfold xbs at hc115u
                    refine xg_t (xg_icF (u := n1) (v := l1) rfl xnm0 xnm0 (xjs_ltF hc115)) ?_
                    refine xg_t (xg_goto) ?_
                    refine xg_t (xg_blq rfl) ?_
                    refine xg_t (xg_iinc (u := ki) (z := ki + 1) (l1 := [(10, (0, n1)), (0, (2, 82)), (1, (0, wh)), (2, (0, s1)), (3, (0, f1)), (4, (0, l1)), (6, (0, (ki / 15) + 1)), (7, (0, z54)), (8, (0, y1)), (9, (0, n1))]) rfl rfl (by omega) rfl) ?_
                    refine xg_t (xg_goto) ?_
                    refine xg_t (xg_drop (l1 := [(0, (2, 82)), (1, (0, wh)), (2, (0, s1)), (3, (0, f1)), (4, (0, l1)), (5, (0, ki + 1))]) (List.forall_mem_cons.mpr ⟨List.mem_cons_of_mem _ (List.mem_cons_of_mem _ (List.mem_cons_self)), List.forall_mem_cons.mpr ⟨List.mem_cons_of_mem _ (List.mem_cons_of_mem _ (List.mem_cons_of_mem _ (List.mem_cons_self))), List.forall_mem_cons.mpr ⟨List.mem_cons_of_mem _ (List.mem_cons_of_mem _ (List.mem_cons_of_mem _ (List.mem_cons_of_mem _ (List.mem_cons_self)))), List.forall_mem_cons.mpr ⟨List.mem_cons_of_mem _ (List.mem_cons_of_mem _ (List.mem_cons_of_mem _ (List.mem_cons_of_mem _ (List.mem_cons_of_mem _ (List.mem_cons_self))))), List.forall_mem_cons.mpr ⟨List.mem_cons_of_mem _ (List.mem_cons_of_mem _ (List.mem_cons_of_mem _ (List.mem_cons_of_mem _ (List.mem_cons_of_mem _ (List.mem_cons_of_mem _ (List.mem_cons_self)))))), List.forall_mem_cons.mpr ⟨List.mem_cons_self, fun _ h => absurd h List.not_mem_nil⟩⟩⟩⟩⟩⟩)) ?_
                    exact ih43 s1 f1 l1 (ki + 1) w59 (by omega) (by omega) (by omega) (by omega) (by omega) (hI60) (hF61)
          exact key56 _ 0 0 0 w45 (Nat.lt_succ_self _) (by omega) (by omega) (by omega) (hI46) (hF47)
        · refine xg_t (xg_icT (u := ki) (v := 135) rfl xnm0 xnm0 (xj_geT (by omega) (by omega))) ?_
          refine xg_t (xg_blq rfl) ?_
          refine xg_t (xg_iload (va := (0, wh)) rfl rfl) ?_
          by_cases hc116 : wh = 0
          · refine xg_t (xg_ifF (u := wh) rfl xnm0 (xj_neF hc116)) ?_
            refine xg_t (xg_iload (va := (0, s1)) rfl rfl) ?_
            refine xg_t (xg_goto) ?_
            refine xg_t (xg_blq rfl) ?_
            exact xg_e ⟨s1, w45, ⟨rfl, rfl⟩, by omega, hI46, hF47⟩
          · refine xg_t (xg_ifT (u := wh) rfl xnm0 (xj_neT hc116)) ?_
            refine xg_t (xg_blq rfl) ?_
            refine xg_t (xg_iload (va := (0, wh)) rfl rfl) ?_
            refine xg_t (xg_const) ?_
            by_cases hc117 : wh = 1
            · refine xg_t (xg_icF (u := wh) (v := 1) rfl xnm0 xnm0 (xj_neF hc117)) ?_
              refine xg_t (xg_iload (va := (0, f1)) rfl rfl) ?_
              refine xg_t (xg_goto) ?_
              refine xg_t (xg_blq rfl) ?_
              exact xg_e ⟨f1, w45, ⟨rfl, rfl⟩, by omega, hI46, hF47⟩
            · refine xg_t (xg_icT (u := wh) (v := 1) rfl xnm0 xnm0 (xj_neT hc117)) ?_
              refine xg_t (xg_blq rfl) ?_
              refine xg_t (xg_iload (va := (0, l1)) rfl rfl) ?_
              refine xg_t (xg_blq rfl) ?_
              exact xg_e ⟨l1, w45, ⟨rfl, rfl⟩, by omega, hI46, hF47⟩
    exact key42 _ 0 0 1000 0 w38 (Nat.lt_succ_self _) (by omega) (by omega) (by omega) (by omega) (hI40) ((hF41.up (by decide)))
  · refine xg_t (xg_ifF (u := (if 0 ≤ wh ∧ wh ≤ 2 then 1 else 0)) rfl xnm0 (xj_neF (xite0 hc37))) ?_
    refine xg_t (xg_const) ?_
    exact xg_e ⟨4294967295, w, ⟨rfl, rfl⟩, by first | decide | omega, hI, xFr.rf⟩
end XM2
