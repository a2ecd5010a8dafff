/-! the model: ages of lamps -/
section XAN
variable {w : List (List xE)} {p : Nat}
/-- pictures' numbers as the class has them -/
def agP (R : Nat → Nat) : Nat → Nat := fun j => if j % 5 = 4 then R (304 + 6 * (j / 5)) * R (305 + 6 * (j / 5)) else R (300 + 6 * (j / 5) + j % 5)
theorem agm_0 : (agP (rwv w 83)) (5 * p) = rwv w 83 (300 + 6 * p + 0) := by
  show (if 5 * p % 5 = 4 then _ else _) = _
  rw [if_neg (by omega), show 5 * p / 5 = p by omega, show 5 * p % 5 = 0 by omega]
theorem agm_1 : (agP (rwv w 83)) (5 * p + 1) = rwv w 83 (300 + 6 * p + 1) := by
  show (if (5 * p + 1) % 5 = 4 then _ else _) = _
  rw [if_neg (by omega), show (5 * p + 1) / 5 = p by omega, show (5 * p + 1) % 5 = 1 by omega]
theorem agm_2 : (agP (rwv w 83)) (5 * p + 2) = rwv w 83 (300 + 6 * p + 2) := by
  show (if (5 * p + 2) % 5 = 4 then _ else _) = _
  rw [if_neg (by omega), show (5 * p + 2) / 5 = p by omega, show (5 * p + 2) % 5 = 2 by omega]
theorem agm_3 : (agP (rwv w 83)) (5 * p + 3) = rwv w 83 (300 + 6 * p + 3) := by
  show (if (5 * p + 3) % 5 = 4 then _ else _) = _
  rw [if_neg (by omega), show (5 * p + 3) / 5 = p by omega, show (5 * p + 3) % 5 = 3 by omega]
theorem agm_4 : (agP (rwv w 83)) (5 * p + 4) = rwv w 83 (304 + 6 * p) * rwv w 83 (305 + 6 * p) := by
  show (if (5 * p + 4) % 5 = 4 then _ else _) = _
  rw [if_pos (by omega), show (5 * p + 4) / 5 = p by omega]
theorem agm_le (h : rwv w 83 (304 + 6 * p) ≤ 9 ∧ rwv w 83 (305 + 6 * p) ≤ 999) : (agP (rwv w 83)) (5 * p + 4) ≤ 8991 := by
  rw [agm_4]
  exact Nat.mul_le_mul h.1 h.2
end XAN
section XAM
variable {d : Nat} {w : List (List xE)} {bd : List (Nat × Nat)} {fc : List (Nat × Nat × Bool)} {rr : Nat × Nat}
theorem mAgesX (hI : xMnv w) (hq : ∀ p, p < rwv w 83 10 → (∀ t, t < 4 → rwv w 83 (300 + 6 * p + t) ≤ 5) ∧ rwv w 83 (304 + 6 * p) ≤ 9 ∧ rwv w 83 (305 + 6 * p) ≤ 999) : xPq d mX12_ages [(2, 82)] w bd fc rr [] (fun w' => xMnv w' ∧ xFr [103] w w' ∧ (∀ k, k < 36 → rwv w' 103 k = ag (agP (rwv w 83)) (rwv w 83 10) k)) := by
  refine xPq.of ?_
  show xTo d mX12_ages (0, [], [(0, (2, 82))], [], (w, bd, fc, 0, 0, rr)) (fun φ => ∃ w', xEnd 0 [] (w', bd, fc, 0, 0, rr) φ ∧ xMnv w' ∧ xFr [103] w w' ∧ (∀ k, k < 36 → rwv w' 103 k = ag (agP (rwv w 83)) (rwv w 83 10) k))
  obtain ⟨f82_1, f82_3, f82_5, f82_7, f82_9, f82_11, f82_13, f82_15, f82_17, f82_19, f82_21, f82_22, f82_23, f82_25, f82_27, f82_29, h82_31, hb2, hb4, hb6, hb8, hb10, hb12, hb14, hb16, hb18, hb20, hb24, hb26, hb28, hb30, hb32⟩ := (hI 82 (by decide) (by decide) : cp82 (wget w 82))
  replace hb4 := xHid.of hb4
  replace hb10 := xHid.of hb10
  replace hb14 := xHid.of hb14
  replace hb16 := xHid.of hb16
  replace hb20 := xHid.of hb20
  replace hb24 := xHid.of hb24
  replace hb26 := xHid.of hb26
  replace hb28 := xHid.of hb28
  replace hb30 := xHid.of hb30
  obtain ⟨g83_33, h83_34, hb35, hx36⟩ := (hI 83 (by decide) (by decide) : cpx83 (wget w 83))
  have h83_34 : xRow w 83 5360 50 g83_33 := h83_34
  obtain ⟨g103_37, h103_38, hb39⟩ := (hI 103 (by decide) (by decide) : cpI 36 70 4294967295 (wget w 103))
  have h103_38 : xRow w 103 36 70 g103_37 := h103_38
  have hl10 : rwv w 83 10 ≤ 12 := by rw [rwv_of h83_34 (by omega)]; exact hx36.l10
  refine xg_t (xg_blk (b := [(0, 1, 3, 0, 0, 0), (1, 1, 15, 1, 0, 0)]) rfl) ?_
  refine xg_t (xg_const) ?_
  refine xg_t (xg_istore (l1 := [(0, (2, 82))]) rfl rfl rfl) ?_
  refine xg_t (xg_drop (l1 := [(0, (2, 82)), (1, (0, 0))]) (List.forall_mem_cons.mpr ⟨List.mem_cons_of_mem _ (List.mem_cons_self), List.forall_mem_cons.mpr ⟨List.mem_cons_self, fun _ h => absurd h List.not_mem_nil⟩⟩)) ?_
  have key40 : ∀ (m42 : Nat) (ki : Nat) (w43 : List (List xE)), 36 - ki < m42 → ki ≤ 36 → xMnv w43 → xFr [103] w w43 → (∀ k, k < ki → rwv w43 103 k = 0) → xTo d mX12_ages (2, [], [(0, (2, 82)), (1, (0, ki))], [], (w43, bd, fc, 0, 0, rr)) (fun φ => ∃ w', xEnd 0 [] (w', bd, fc, 0, 0, rr) φ ∧ xMnv w' ∧ xFr [103] w w' ∧ (∀ k, k < 36 → rwv w' 103 k = ag (agP (rwv w 83)) (rwv w 83 10) k)) := by
    intro m42
    induction m42 with
    | zero => intro ki w43 hz; exact absurd hz (Nat.not_lt_zero _)
    | succ m42 ih41 =>
      intro ki w43 hm48 hn46 hI44 hF45 he47
      obtain ⟨g103_49, h103_50, hb51⟩ := (hI44 103 (by decide) (by decide) : cpI 36 70 4294967295 (wget w43 103))
      have h103_50 : xRow w43 103 36 70 g103_49 := h103_50
      have hz0 := he47
      refine xg_t (xg_blk (b := [(2, 1, 2, 1, 0, 0), (3, 2, 4, 36, 0, 0), (5, 3, 6, 21, 3, 0), (8, 1, 0, 0, 0, 0), (9, 3, 1, 12, 34, 72), (12, 1, 2, 1, 0, 0), (13, 1, 3, 0, 0, 0), (14, 1, 17, 0, 0, 0), (15, 3, 9, 1, 1, 0), (18, 3, 8, 2, 0, 0)]) rfl) ?_
      refine xg_t (xg_iload (va := (0, ki)) rfl rfl) ?_
      refine xg_t (xg_bip) ?_
      by_cases hc52 : ki < 36
      · refine xg_t (xg_icF (u := ki) (v := 36) rfl xnm0 xnm0 (xj_geF hc52 (by omega))) ?_
        refine xg_t (xg_aload (va := (2, 82)) rfl rfl) ?_
        refine xg_t (xg_getf (va := (2, 103)) (hF45.get (by decide) h82_31) rfl) ?_
        refine xg_t (xg_iload (va := (0, ki)) rfl rfl) ?_
        refine xg_t (xg_const) ?_
        refine xg_iastK (n := ki) (u := 0) h103_50 xnm0 xnm0 rfl (by omega) (fun w53 hr54 hb55 => ?_)
        obtain ⟨g56, hg57⟩ : ∃ g : Nat → Nat, g = (fun j => if j = ki then 0 else g103_49 j) := ⟨_, rfl⟩
        rw [← hg57] at hr54
        have he58 : g56 ki = 0 := by rw [hg57]; exact if_pos rfl
        have hk59 : ∀ j, j ≠ ki → g56 j = g103_49 j := fun j hj => by rw [hg57]; exact if_neg hj
        have hb60 : ∀ j, g56 j ≤ 4294967295 := fun j => by rw [hg57]; exact xrb (by omega) (hb51) j
        refine xg_t (xg_iinc (u := ki) (z := ki + 1) (l1 := [(0, (2, 82))]) rfl rfl (by omega) rfl) ?_
        refine xg_t (xg_goto) ?_
        refine xg_t (xg_drop (l1 := [(0, (2, 82)), (1, (0, ki + 1))]) (List.forall_mem_cons.mpr ⟨List.mem_cons_of_mem _ (List.mem_cons_self), List.forall_mem_cons.mpr ⟨List.mem_cons_self, fun _ h => absurd h List.not_mem_nil⟩⟩)) ?_
        have hk61 : ∀ k, k < ki + 1 → rwv w53 103 k = 0 := fun k hk => by
          by_cases e : k = ki
          · rw [e, rwv_of (j := ki) hr54 (by omega)]
            exact he58
          · rw [rwv_of (j := k) hr54 (by omega), hk59 k e, ← rwv_of (j := k) h103_50 (by omega)]
            exact hz0 k (by omega)
        exact ih41 (ki + 1) w53 (by omega) (by omega) (xMnv.up (S := [103]) hI44 (xFr.of (S := [103]) hb55 (by decide)) (List.forall_mem_cons.mpr ⟨(show cpI 36 70 4294967295 (wget w53 103) from ⟨_, hr54, hb60⟩), fun _ h => absurd h List.not_mem_nil⟩)) ((hF45.tr (xFr.of (S := [103]) hb55 (by decide)))) (hk61)
      · refine xg_t (xg_icT (u := ki) (v := 36) rfl xnm0 xnm0 (xj_geT (by omega) (by omega))) ?_
        refine xg_t (xg_blk (b := [(21, 1, 3, 0, 0, 0), (22, 1, 15, 1, 0, 0)]) rfl) ?_
        refine xg_t (xg_const) ?_
        refine xg_t (xg_istore (l1 := [(0, (2, 82))]) rfl rfl rfl) ?_
        refine xg_t (xg_drop (l1 := [(0, (2, 82)), (1, (0, 0))]) (List.forall_mem_cons.mpr ⟨List.mem_cons_of_mem _ (List.mem_cons_self), List.forall_mem_cons.mpr ⟨List.mem_cons_self, fun _ h => absurd h List.not_mem_nil⟩⟩)) ?_
        have key62 : ∀ (m64 : Nat) (pi_ : Nat) (w65 : List (List xE)), 12 - pi_ < m64 → pi_ ≤ 12 → xMnv w65 → xFr [103] w w65 → (∀ k, k < 36 → rwv w65 103 k = ag (agP (rwv w 83)) pi_ k) ∧ pi_ ≤ rwv w 83 10 → xTo d mX12_ages (23, [], [(0, (2, 82)), (1, (0, pi_))], [], (w65, bd, fc, 0, 0, rr)) (fun φ => ∃ w', xEnd 0 [] (w', bd, fc, 0, 0, rr) φ ∧ xMnv w' ∧ xFr [103] w w' ∧ (∀ k, k < 36 → rwv w' 103 k = ag (agP (rwv w 83)) (rwv w 83 10) k)) := by
          intro m64
          induction m64 with
          | zero => intro pi_ w65 hz; exact absurd hz (Nat.not_lt_zero _)
          | succ m64 ih63 =>
            intro pi_ w65 hm70 hn68 hI66 hF67 he69
            obtain ⟨hag, hpn⟩ := he69
            refine xg_t (xg_blk (b := [(23, 1, 2, 1, 0, 0), (24, 1, 0, 0, 0, 0), (25, 3, 1, 12, 0, 7), (28, 2, 4, 10, 0, 0), (30, 1, 10, 0, 0, 0), (31, 3, 6, 135, 3, 0), (34, 3, 5, 300, 0, 0), (37, 2, 4, 6, 0, 0), (39, 1, 2, 1, 0, 0), (40, 1, 16, 0, 0, 0), (41, 1, 11, 0, 0, 0), (42, 1, 15, 2, 0, 0), (43, 1, 0, 0, 0, 0), (44, 3, 1, 12, 0, 7), (47, 1, 2, 2, 0, 0), (48, 1, 10, 0, 0, 0), (49, 1, 15, 3, 0, 0)]) rfl) ?_
            refine xg_t (xg_iload (va := (0, pi_)) rfl rfl) ?_
            refine xg_t (xg_aload (va := (2, 82)) rfl rfl) ?_
            refine xg_t (xg_getf (va := (2, 83)) (hF67.get (by decide) h82_31) rfl) ?_
            refine xg_t (xg_bip) ?_
            refine xg_ialdB (n := 10) (B := 4294967295) (h83_34.fr hF67 (by decide)) (hb35) xnm0 (by omega) (fun u71 hu72 he73 => ?_)
            have hl74 : u71 ≤ 12 := by rw [← he73]; exact hx36.l10
            have hq75 : rwv w 83 10 = u71 := (rwv_of h83_34 (by omega)).trans he73
            by_cases hc76 : pi_ < u71
            · refine xg_t (xg_icF (u := pi_) (v := u71) rfl xnm0 xnm0 (xj_geF hc76 (by omega))) ?_
              refine xg_t (xg_sip) ?_
              refine xg_t (xg_bip) ?_
              refine xg_t (xg_iload (va := (0, pi_)) rfl rfl) ?_
              refine xg_t (xg_imul (u := 6) (v := pi_) (z := 6 * pi_) xnm0 xnm0 (by omega)) ?_
              refine xg_t (xg_iadd (u := 300) (v := 6 * pi_) (z := 300 + (6 * pi_)) xnm0 xnm0 (by omega)) ?_
              refine xg_t (xg_istore (l1 := [(0, (2, 82)), (1, (0, pi_))]) rfl rfl rfl) ?_
              refine xg_t (xg_aload (va := (2, 82)) rfl rfl) ?_
              refine xg_t (xg_getf (va := (2, 83)) (hF67.get (by decide) h82_31) rfl) ?_
              refine xg_t (xg_iload (va := (0, 300 + (6 * pi_))) rfl rfl) ?_
              refine xg_ialdB (n := 300 + (6 * pi_)) (B := 4294967295) (h83_34.fr hF67 (by decide)) (hb35) xnm0 (by omega) (fun u77 hu78 he79 => ?_)
              have hP80 : rwv w 83 (300 + 6 * pi_ + 0) = u77 := (rwv_of (j := 300 + 6 * pi_ + 0) h83_34 (by omega)).trans ((congrArg g83_33 (show 300 + 6 * pi_ + 0 = 300 + (6 * pi_) by omega)).trans he79)
              have hl81 : u77 ≤ 5 := by have q := (hq pi_ (by omega)).1 0 (by decide); omega
              refine xg_t (xg_istore (l1 := [(2, (0, 300 + (6 * pi_))), (0, (2, 82)), (1, (0, pi_))]) rfl rfl rfl) ?_
              refine xg_t (xg_drop (l1 := [(0, (2, 82)), (1, (0, pi_)), (2, (0, 300 + (6 * pi_))), (3, (0, u77))]) (List.forall_mem_cons.mpr ⟨List.mem_cons_of_mem _ (List.mem_cons_of_mem _ (List.mem_cons_self)), List.forall_mem_cons.mpr ⟨List.mem_cons_of_mem _ (List.mem_cons_of_mem _ (List.mem_cons_of_mem _ (List.mem_cons_self))), List.forall_mem_cons.mpr ⟨List.mem_cons_of_mem _ (List.mem_cons_self), List.forall_mem_cons.mpr ⟨List.mem_cons_self, fun _ h => absurd h List.not_mem_nil⟩⟩⟩⟩)) ?_
              have hgo0 : agi (fun k => ag (agP (rwv w 83)) pi_ k) (rwv w65 103) (rwv w 83 (300 + 6 * pi_ + 0)) (rwv w 83 (300 + 6 * pi_ + 2)) (rwv w 83 (300 + 6 * pi_ + 3)) (rwv w 83 (304 + 6 * pi_) * rwv w 83 (305 + 6 * pi_)) u77 (rwv w 83 (300 + 6 * pi_ + 2)) := by
                rw [← hP80]
                intro k hk
                exact (agi_0 k hk).imp (fun q => ⟨q.1, by rw [hag k hk]; exact q.2⟩) (fun q => ⟨q.1, hag k hk⟩)
              have key82 : ∀ (m84 : Nat) (ri : Nat) (w85 : List (List xE)), 6 - ri < m84 → ri ≤ 6 → xMnv w85 → xFr [103] w w85 → agi (fun k => ag (agP (rwv w 83)) pi_ k) (rwv w85 103) (rwv w 83 (300 + 6 * pi_ + 0)) (rwv w 83 (300 + 6 * pi_ + 2)) (rwv w 83 (300 + 6 * pi_ + 3)) (rwv w 83 (304 + 6 * pi_) * rwv w 83 (305 + 6 * pi_)) ri (rwv w 83 (300 + 6 * pi_ + 2)) ∧ rwv w 83 (300 + 6 * pi_ + 0) ≤ ri ∧ (ri ≤ rwv w 83 (300 + 6 * pi_ + 1) + 1 ∨ ri = rwv w 83 (300 + 6 * pi_ + 0)) → xTo d mX12_ages (50, [], [(0, (2, 82)), (1, (0, pi_)), (2, (0, 300 + (6 * pi_))), (3, (0, ri))], [], (w85, bd, fc, 0, 0, rr)) (fun φ => ∃ w', xEnd 0 [] (w', bd, fc, 0, 0, rr) φ ∧ xMnv w' ∧ xFr [103] w w' ∧ (∀ k, k < 36 → rwv w' 103 k = ag (agP (rwv w 83)) (rwv w 83 10) k)) := by
                intro m84
                induction m84 with
                | zero => intro ri w85 hz; exact absurd hz (Nat.not_lt_zero _)
                | succ m84 ih83 =>
                  intro ri w85 hm90 hn88 hI86 hF87 he89
                  obtain ⟨hgo, hAr, hBr⟩ := he89
                  refine xg_t (xg_blk (b := [(50, 1, 2, 3, 0, 0), (51, 1, 0, 0, 0, 0), (52, 3, 1, 12, 0, 7), (55, 1, 2, 2, 0, 0), (56, 1, 3, 1, 0, 0), (57, 1, 11, 0, 0, 0), (58, 1, 10, 0, 0, 0), (59, 3, 6, 129, 4, 0), (62, 1, 0, 0, 0, 0), (63, 3, 1, 12, 0, 7), (66, 1, 2, 2, 0, 0), (67, 1, 3, 2, 0, 0), (68, 1, 11, 0, 0, 0), (69, 1, 10, 0, 0, 0), (70, 2, 15, 4, 0, 0)]) rfl) ?_
                  refine xg_t (xg_iload (va := (0, ri)) rfl rfl) ?_
                  refine xg_t (xg_aload (va := (2, 82)) rfl rfl) ?_
                  refine xg_t (xg_getf (va := (2, 83)) (hF87.get (by decide) h82_31) rfl) ?_
                  refine xg_t (xg_iload (va := (0, 300 + (6 * pi_))) rfl rfl) ?_
                  refine xg_t (xg_const) ?_
                  refine xg_t (xg_iadd (u := 300 + (6 * pi_)) (v := 1) (z := (300 + (6 * pi_)) + 1) xnm0 xnm0 (by omega)) ?_
                  refine xg_ialdB (n := (300 + (6 * pi_)) + 1) (B := 4294967295) (h83_34.fr hF87 (by decide)) (hb35) xnm0 (by omega) (fun u91 hu92 he93 => ?_)
                  have hP94 : rwv w 83 (300 + 6 * pi_ + 1) = u91 := (rwv_of (j := 300 + 6 * pi_ + 1) h83_34 (by omega)).trans ((congrArg g83_33 (show 300 + 6 * pi_ + 1 = (300 + (6 * pi_)) + 1 by omega)).trans he93)
                  have hl95 : u91 ≤ 5 := by have q := (hq pi_ (by omega)).1 1 (by decide); omega
                  by_cases hc96 : u91 < ri
                  · refine xg_t (xg_icT (u := ri) (v := u91) rfl xnm0 xnm0 (xj_gtT hc96 (by omega))) ?_
                    refine xg_t (xg_blk (b := [(129, 3, 9, 1, 1, 0), (132, 3, 8, 23, 0, 0)]) rfl) ?_
                    refine xg_t (xg_iinc (u := pi_) (z := pi_ + 1) (l1 := [(0, (2, 82)), (2, (0, 300 + (6 * pi_))), (3, (0, ri))]) rfl rfl (by omega) rfl) ?_
                    refine xg_t (xg_goto) ?_
                    refine xg_t (xg_drop (l1 := [(0, (2, 82)), (1, (0, pi_ + 1))]) (List.forall_mem_cons.mpr ⟨List.mem_cons_of_mem _ (List.mem_cons_self), List.forall_mem_cons.mpr ⟨List.mem_cons_self, fun _ h => absurd h List.not_mem_nil⟩⟩)) ?_
                    have hk97 : ∀ k, k < 36 → rwv w85 103 k = ag (agP (rwv w 83)) (pi_ + 1) k := fun k hk => by
                      have q := agi_e (P := (agP (rwv w 83))) (p := pi_) (ro := ri) (f := fun k => ag (agP (rwv w 83)) pi_ k) (g := rwv w85 103) (by
                        skip
                        rw [agm_0, agm_2, agm_3, agm_4]
                        exact hgo) (by rw [agm_0, agm_1]; omega) k hk
                      exact q
                    exact ih63 (pi_ + 1) w85 (by omega) (by omega) (hI86) (hF87) (⟨hk97, by omega⟩)
                  · refine xg_t (xg_icF (u := ri) (v := u91) rfl xnm0 xnm0 (xj_gtF (by omega) (by omega))) ?_
                    refine xg_t (xg_aload (va := (2, 82)) rfl rfl) ?_
                    refine xg_t (xg_getf (va := (2, 83)) (hF87.get (by decide) h82_31) rfl) ?_
                    refine xg_t (xg_iload (va := (0, 300 + (6 * pi_))) rfl rfl) ?_
                    refine xg_t (xg_const) ?_
                    refine xg_t (xg_iadd (u := 300 + (6 * pi_)) (v := 2) (z := (300 + (6 * pi_)) + 2) xnm0 xnm0 (by omega)) ?_
                    refine xg_ialdB (n := (300 + (6 * pi_)) + 2) (B := 4294967295) (h83_34.fr hF87 (by decide)) (hb35) xnm0 (by omega) (fun u98 hu99 he100 => ?_)
                    have hP101 : rwv w 83 (300 + 6 * pi_ + 2) = u98 := (rwv_of (j := 300 + 6 * pi_ + 2) h83_34 (by omega)).trans ((congrArg g83_33 (show 300 + 6 * pi_ + 2 = (300 + (6 * pi_)) + 2 by omega)).trans he100)
                    have hl102 : u98 ≤ 5 := by have q := (hq pi_ (by omega)).1 2 (by decide); omega
                    refine xg_t (xg_istore (l1 := [(0, (2, 82)), (1, (0, pi_)), (2, (0, 300 + (6 * pi_))), (3, (0, ri))]) rfl rfl rfl) ?_
                    refine xg_t (xg_drop (l1 := [(0, (2, 82)), (1, (0, pi_)), (2, (0, 300 + (6 * pi_))), (3, (0, ri)), (4, (0, u98))]) (List.forall_mem_cons.mpr ⟨List.mem_cons_of_mem _ (List.mem_cons_self), List.forall_mem_cons.mpr ⟨List.mem_cons_of_mem _ (List.mem_cons_of_mem _ (List.mem_cons_self)), List.forall_mem_cons.mpr ⟨List.mem_cons_of_mem _ (List.mem_cons_of_mem _ (List.mem_cons_of_mem _ (List.mem_cons_self))), List.forall_mem_cons.mpr ⟨List.mem_cons_of_mem _ (List.mem_cons_of_mem _ (List.mem_cons_of_mem _ (List.mem_cons_of_mem _ (List.mem_cons_self)))), List.forall_mem_cons.mpr ⟨List.mem_cons_self, fun _ h => absurd h List.not_mem_nil⟩⟩⟩⟩⟩)) ?_
                    have hgi0 : agi (fun k => ag (agP (rwv w 83)) pi_ k) (rwv w85 103) (rwv w 83 (300 + 6 * pi_ + 0)) (rwv w 83 (300 + 6 * pi_ + 2)) (rwv w 83 (300 + 6 * pi_ + 3)) (rwv w 83 (304 + 6 * pi_) * rwv w 83 (305 + 6 * pi_)) ri u98 := by rw [← hP101]; exact hgo
                    have key103 : ∀ (m105 : Nat) (ci : Nat) (w106 : List (List xE)), 6 - ci < m105 → ci ≤ 6 → xMnv w106 → xFr [103] w w106 → agi (fun k => ag (agP (rwv w 83)) pi_ k) (rwv w106 103) (rwv w 83 (300 + 6 * pi_ + 0)) (rwv w 83 (300 + 6 * pi_ + 2)) (rwv w 83 (300 + 6 * pi_ + 3)) (rwv w 83 (304 + 6 * pi_) * rwv w 83 (305 + 6 * pi_)) ri ci ∧ rwv w 83 (300 + 6 * pi_ + 2) ≤ ci ∧ (ci ≤ rwv w 83 (300 + 6 * pi_ + 3) + 1 ∨ ci = rwv w 83 (300 + 6 * pi_ + 2)) → xTo d mX12_ages (72, [], [(0, (2, 82)), (1, (0, pi_)), (2, (0, 300 + (6 * pi_))), (3, (0, ri)), (4, (0, ci))], [], (w106, bd, fc, 0, 0, rr)) (fun φ => ∃ w', xEnd 0 [] (w', bd, fc, 0, 0, rr) φ ∧ xMnv w' ∧ xFr [103] w w' ∧ (∀ k, k < 36 → rwv w' 103 k = ag (agP (rwv w 83)) (rwv w 83 10) k)) := by
                      intro m105
                      induction m105 with
                      | zero => intro ci w106 hz; exact absurd hz (Nat.not_lt_zero _)
                      | succ m105 ih104 =>
                        intro ci w106 hm111 hn109 hI107 hF108 he110
                        obtain ⟨hgi, hCc, hDc⟩ := he110
                        obtain ⟨g103_112, h103_113, hb114⟩ := (hI107 103 (by decide) (by decide) : cpI 36 70 4294967295 (wget w106 103))
                        have h103_113 : xRow w106 103 36 70 g103_112 := h103_113
                        refine xg_t (xg_blk (b := [(72, 2, 2, 4, 0, 0), (74, 1, 0, 0, 0, 0), (75, 3, 1, 12, 0, 7), (78, 1, 2, 2, 0, 0), (79, 1, 3, 3, 0, 0), (80, 1, 11, 0, 0, 0), (81, 1, 10, 0, 0, 0), (82, 3, 6, 123, 4, 0), (85, 1, 0, 0, 0, 0), (86, 3, 1, 12, 34, 72), (89, 2, 4, 6, 0, 0), (91, 1, 2, 3, 0, 0), (92, 1, 16, 0, 0, 0), (93, 2, 2, 4, 0, 0), (95, 1, 11, 0, 0, 0), (96, 1, 39, 0, 0, 0), (97, 1, 10, 0, 0, 0), (98, 1, 0, 0, 0, 0), (99, 3, 1, 12, 0, 7), (102, 1, 2, 2, 0, 0), (103, 1, 3, 4, 0, 0), (104, 1, 11, 0, 0, 0), (105, 1, 10, 0, 0, 0), (106, 1, 0, 0, 0, 0), (107, 3, 1, 12, 0, 7), (110, 1, 2, 2, 0, 0), (111, 1, 3, 5, 0, 0), (112, 1, 11, 0, 0, 0), (113, 1, 10, 0, 0, 0), (114, 1, 16, 0, 0, 0), (115, 1, 11, 0, 0, 0), (116, 1, 17, 0, 0, 0), (117, 3, 9, 4, 1, 0), (120, 3, 8, 72, 0, 0)]) rfl) ?_
                        refine xg_t (xg_iload (va := (0, ci)) rfl rfl) ?_
                        refine xg_t (xg_aload (va := (2, 82)) rfl rfl) ?_
                        refine xg_t (xg_getf (va := (2, 83)) (hF108.get (by decide) h82_31) rfl) ?_
                        refine xg_t (xg_iload (va := (0, 300 + (6 * pi_))) rfl rfl) ?_
                        refine xg_t (xg_const) ?_
                        refine xg_t (xg_iadd (u := 300 + (6 * pi_)) (v := 3) (z := (300 + (6 * pi_)) + 3) xnm0 xnm0 (by omega)) ?_
                        refine xg_ialdB (n := (300 + (6 * pi_)) + 3) (B := 4294967295) (h83_34.fr hF108 (by decide)) (hb35) xnm0 (by omega) (fun u115 hu116 he117 => ?_)
                        have hP118 : rwv w 83 (300 + 6 * pi_ + 3) = u115 := (rwv_of (j := 300 + 6 * pi_ + 3) h83_34 (by omega)).trans ((congrArg g83_33 (show 300 + 6 * pi_ + 3 = (300 + (6 * pi_)) + 3 by omega)).trans he117)
                        have hl119 : u115 ≤ 5 := by have q := (hq pi_ (by omega)).1 3 (by decide); omega
                        by_cases hc120 : u115 < ci
                        · refine xg_t (xg_icT (u := ci) (v := u115) rfl xnm0 xnm0 (xj_gtT hc120 (by omega))) ?_
                          refine xg_t (xg_blk (b := [(123, 3, 9, 3, 1, 0), (126, 3, 8, 50, 0, 0)]) rfl) ?_
                          refine xg_t (xg_iinc (u := ri) (z := ri + 1) (l1 := [(0, (2, 82)), (1, (0, pi_)), (2, (0, 300 + (6 * pi_))), (4, (0, ci))]) rfl rfl (by omega) rfl) ?_
                          refine xg_t (xg_goto) ?_
                          refine xg_t (xg_drop (l1 := [(0, (2, 82)), (1, (0, pi_)), (2, (0, 300 + (6 * pi_))), (3, (0, ri + 1))]) (List.forall_mem_cons.mpr ⟨List.mem_cons_of_mem _ (List.mem_cons_self), List.forall_mem_cons.mpr ⟨List.mem_cons_of_mem _ (List.mem_cons_of_mem _ (List.mem_cons_self)), List.forall_mem_cons.mpr ⟨List.mem_cons_of_mem _ (List.mem_cons_of_mem _ (List.mem_cons_of_mem _ (List.mem_cons_self))), List.forall_mem_cons.mpr ⟨List.mem_cons_self, fun _ h => absurd h List.not_mem_nil⟩⟩⟩⟩)) ?_
                          exact ih83 (ri + 1) w106 (by omega) (by omega) (hI107) (hF108) (⟨agi_r hgi (by omega) (by omega), by omega, by omega⟩)
                        · refine xg_t (xg_icF (u := ci) (v := u115) rfl xnm0 xnm0 (xj_gtF (by omega) (by omega))) ?_
                          refine xg_t (xg_aload (va := (2, 82)) rfl rfl) ?_
                          refine xg_t (xg_getf (va := (2, 103)) (hF108.get (by decide) h82_31) rfl) ?_
                          refine xg_t (xg_bip) ?_
                          refine xg_t (xg_iload (va := (0, ri)) rfl rfl) ?_
                          refine xg_t (xg_imul (u := 6) (v := ri) (z := 6 * ri) xnm0 xnm0 (by omega)) ?_
                          refine xg_t (xg_iload (va := (0, ci)) rfl rfl) ?_
                          refine xg_t (xg_iadd (u := 6 * ri) (v := ci) (z := (6 * ri) + ci) xnm0 xnm0 (by omega)) ?_
                          refine xg_t (xg_dup2 rfl) ?_
                          refine xg_ialdB (n := (6 * ri) + ci) (B := 4294967295) h103_113 (hb114) xnm0 (by omega) (fun u121 hu122 he123 => ?_)
                          have hu124 : rwv w106 103 (6 * ri + ci) = u121 := by
                            rw [rwv_of (j := 6 * ri + ci) h103_113 (by omega), show 6 * ri + ci = (6 * ri) + ci by omega]
                            exact he123
                          have hl125 : u121 ≤ 107892 := by
                            have q1 := hgi (6 * ri + ci) (by omega)
                            dsimp only at q1
                            have q2 := ag_le (P := (agP (rwv w 83))) (n := pi_) (k := 6 * ri + ci) (B := 8991) (fun p hp => agm_le (hq p (by omega)).2)
                            have q3 : (rwv w 83 (304 + 6 * pi_) * rwv w 83 (305 + 6 * pi_)) ≤ 9 * 999 := Nat.mul_le_mul (hq pi_ (by omega)).2.1 (hq pi_ (by omega)).2.2
                            omega
                          refine xg_t (xg_aload (va := (2, 82)) rfl rfl) ?_
                          refine xg_t (xg_getf (va := (2, 83)) (hF108.get (by decide) h82_31) rfl) ?_
                          refine xg_t (xg_iload (va := (0, 300 + (6 * pi_))) rfl rfl) ?_
                          refine xg_t (xg_const) ?_
                          refine xg_t (xg_iadd (u := 300 + (6 * pi_)) (v := 4) (z := (300 + (6 * pi_)) + 4) xnm0 xnm0 (by omega)) ?_
                          refine xg_ialdB (n := (300 + (6 * pi_)) + 4) (B := 4294967295) (h83_34.fr hF108 (by decide)) (hb35) xnm0 (by omega) (fun u126 hu127 he128 => ?_)
                          have hP129 : rwv w 83 (304 + 6 * pi_) = u126 := (rwv_of (j := 304 + 6 * pi_) h83_34 (by omega)).trans ((congrArg g83_33 (show 304 + 6 * pi_ = (300 + (6 * pi_)) + 4 by omega)).trans he128)
                          have hl130 : u126 ≤ 9 := by have q := (hq pi_ (by omega)).2.1; omega
                          refine xg_t (xg_aload (va := (2, 82)) rfl rfl) ?_
                          refine xg_t (xg_getf (va := (2, 83)) (hF108.get (by decide) h82_31) rfl) ?_
                          refine xg_t (xg_iload (va := (0, 300 + (6 * pi_))) rfl rfl) ?_
                          refine xg_t (xg_const) ?_
                          refine xg_t (xg_iadd (u := 300 + (6 * pi_)) (v := 5) (z := (300 + (6 * pi_)) + 5) xnm0 xnm0 (by omega)) ?_
                          refine xg_ialdB (n := (300 + (6 * pi_)) + 5) (B := 4294967295) (h83_34.fr hF108 (by decide)) (hb35) xnm0 (by omega) (fun u131 hu132 he133 => ?_)
                          have hP134 : rwv w 83 (305 + 6 * pi_) = u131 := (rwv_of (j := 305 + 6 * pi_) h83_34 (by omega)).trans ((congrArg g83_33 (show 305 + 6 * pi_ = (300 + (6 * pi_)) + 5 by omega)).trans he133)
                          have hl135 : u131 ≤ 999 := by have q := (hq pi_ (by omega)).2.2; omega
                          have hm136 : u126 * u131 ≤ 9 * 999 := Nat.mul_le_mul (by omega) (by omega)
                          refine xg_t (xg_imul (u := u126) (v := u131) (z := u126 * u131) xnm0 xnm0 (Nat.mod_eq_of_lt (by omega))) ?_
                          refine xg_t (xg_iadd (u := u121) (v := u126 * u131) (z := u121 + (u126 * u131)) xnm0 xnm0 (by omega)) ?_
                          refine xg_iastK (n := (6 * ri) + ci) (u := u121 + (u126 * u131)) h103_113 xnm0 xnm0 rfl (by omega) (fun w137 hr138 hb139 => ?_)
                          obtain ⟨g140, hg141⟩ : ∃ g : Nat → Nat, g = (fun j => if j = (6 * ri) + ci then u121 + (u126 * u131) else g103_112 j) := ⟨_, rfl⟩
                          rw [← hg141] at hr138
                          have he142 : g140 ((6 * ri) + ci) = u121 + (u126 * u131) := by rw [hg141]; exact if_pos rfl
                          have hk143 : ∀ j, j ≠ (6 * ri) + ci → g140 j = g103_112 j := fun j hj => by rw [hg141]; exact if_neg hj
                          have hb144 : ∀ j, g140 j ≤ 4294967295 := fun j => by rw [hg141]; exact xrb (by omega) (hb114) j
                          refine xg_t (xg_iinc (u := ci) (z := ci + 1) (l1 := [(0, (2, 82)), (1, (0, pi_)), (2, (0, 300 + (6 * pi_))), (3, (0, ri))]) rfl rfl (by omega) rfl) ?_
                          refine xg_t (xg_goto) ?_
                          refine xg_t (xg_drop (l1 := [(0, (2, 82)), (1, (0, pi_)), (2, (0, 300 + (6 * pi_))), (3, (0, ri)), (4, (0, ci + 1))]) (List.forall_mem_cons.mpr ⟨List.mem_cons_of_mem _ (List.mem_cons_self), List.forall_mem_cons.mpr ⟨List.mem_cons_of_mem _ (List.mem_cons_of_mem _ (List.mem_cons_self)), List.forall_mem_cons.mpr ⟨List.mem_cons_of_mem _ (List.mem_cons_of_mem _ (List.mem_cons_of_mem _ (List.mem_cons_self))), List.forall_mem_cons.mpr ⟨List.mem_cons_of_mem _ (List.mem_cons_of_mem _ (List.mem_cons_of_mem _ (List.mem_cons_of_mem _ (List.mem_cons_self)))), List.forall_mem_cons.mpr ⟨List.mem_cons_self, fun _ h => absurd h List.not_mem_nil⟩⟩⟩⟩⟩)) ?_
                          have hk145 : agi (fun k => ag (agP (rwv w 83)) pi_ k) (rwv w137 103) (rwv w 83 (300 + 6 * pi_ + 0)) (rwv w 83 (300 + 6 * pi_ + 2)) (rwv w 83 (300 + 6 * pi_ + 3)) (rwv w 83 (304 + 6 * pi_) * rwv w 83 (305 + 6 * pi_)) ri (ci + 1) := agi_s hgi (by omega) (by omega) (by omega) (by
                            rw [hu124, hP129, hP134, rwv_of (j := 6 * ri + ci) hr138 (by omega), show 6 * ri + ci = (6 * ri) + ci by omega, he142]) (fun k hk hne => by
                            rw [rwv_of (j := k) hr138 (by omega), hk143 k (by omega), ← rwv_of (j := k) h103_113 (by omega)])
                          exact ih104 (ci + 1) w137 (by omega) (by omega) (xMnv.up (S := [103]) hI107 (xFr.of (S := [103]) hb139 (by decide)) (List.forall_mem_cons.mpr ⟨(show cpI 36 70 4294967295 (wget w137 103) from ⟨_, hr138, hb144⟩), fun _ h => absurd h List.not_mem_nil⟩)) ((hF108.tr (xFr.of (S := [103]) hb139 (by decide)))) (⟨hk145, by omega, by omega⟩)
                    exact key103 _ u98 w85 (Nat.lt_succ_self _) (by omega) (hI86) (hF87) (⟨hgi0, by omega, Or.inr (by omega)⟩)
              exact key82 _ u77 w65 (Nat.lt_succ_self _) (by omega) (hI66) (hF67) (⟨hgo0, by omega, Or.inr (by omega)⟩)
            · refine xg_t (xg_icT (u := pi_) (v := u71) rfl xnm0 xnm0 (xj_geT (by omega) (by omega))) ?_
              refine xg_t (xg_blk (b := [(135, 1, 12, 0, 0, 0)]) rfl) ?_
              exact xg_e ⟨w65, ⟨rfl, rfl⟩, hI66, hF67, fun k hk => (hag k hk).trans (congrArg (fun n => ag (agP (rwv w 83)) n k) (show pi_ = rwv w 83 10 by omega))⟩
        exact key62 _ 0 w43 (Nat.lt_succ_self _) (by omega) (hI44) (hF45) (⟨fun k hk => hz0 k (by omega), Nat.zero_le _⟩)
  exact key40 _ 0 w (Nat.lt_succ_self _) (by omega) (hI) (xFr.rf) (fun k hk => absurd hk (Nat.not_lt_zero _))
end XAM
