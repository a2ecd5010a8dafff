/-! Film: told and drafted -/
section XFM
variable {d : Nat} {w : List (List xE)} {bd : List (Nat × Nat)} {fc : List (Nat × Nat × Bool)} {rr : Nat × Nat}
theorem fmToldSlides (hI : xInv w)  : xPi (d + 1) mX1_slidesAnywhere [(2, 3)] w bd fc rr (fun n w' => (n ≤ 1) ∧ xInv w' ∧ xFr [] w w') := by
  refine xPi.of ?_
  show xTo (d + 1) mX1_slidesAnywhere (0, [], [(0, (2, 3))], [], (w, bd, fc, 0, 0, rr)) (fun φ => ∃ n w', xEnd 4 [(0, n)] (w', bd, fc, 0, 0, rr) φ ∧ (n ≤ 1) ∧ xInv w' ∧ xFr [] w w')
  obtain ⟨f3_1, f3_3, f3_5, f3_7, f3_9, h3_11, hb2, hb4, hb6, hb8, hb10⟩ := (hI 3 (by decide) : cp3 (wget w 3))
  obtain ⟨f4_12, h4_14, hb13⟩ := (hI 4 (by decide) : cp4 (wget w 4))
  obtain ⟨f6_15, h6_17, hb16⟩ := (hI 6 (by decide) : cp6 (wget w 6))
  obtain ⟨f8_18, h8_20, hb19⟩ := (hI 8 (by decide) : cp8 (wget w 8))
  obtain ⟨f10_21, h10_23, hb22⟩ := (hI 10 (by decide) : cp10 (wget w 10))
  obtain ⟨f12_24, h12_26, hb25⟩ := (hI 12 (by decide) : cp12 (wget w 12))
  refine xg_t (xg_blk (b := [(0, 1, 3, 0, 0, 0), (1, 1, 15, 1, 0, 0)]) rfl) ?_
  refine xg_t (xg_const) ?_
  refine xg_t (xg_istore (l1 := [(0, (2, 3))]) rfl rfl rfl) ?_
  refine xg_t (xg_drop (l1 := [(0, (2, 3)), (1, (0, 0))]) (List.forall_mem_cons.mpr ⟨List.mem_cons_of_mem _ (List.mem_cons_self), List.forall_mem_cons.mpr ⟨List.mem_cons_self, fun _ h => absurd h List.not_mem_nil⟩⟩)) ?_
  have key27 : ∀ (m29 : Nat) (ki : Nat) (w30 : List (List xE)), 6 - ki < m29 → ki ≤ 6 → xInv w30 → xFr [] w w30 → xTo (d + 1) mX1_slidesAnywhere (2, [], [(0, (2, 3)), (1, (0, ki))], [], (w30, bd, fc, 0, 0, rr)) (fun φ => ∃ n w', xEnd 4 [(0, n)] (w', bd, fc, 0, 0, rr) φ ∧ (n ≤ 1) ∧ xInv w' ∧ xFr [] w w') := by
    intro m29
    induction m29 with
    | zero => intro ki w30 hz; exact absurd hz (Nat.not_lt_zero _)
    | succ m29 ih28 =>
      intro ki w30 hm34 hn33 hI31 hF32
      refine xg_t (xg_blk (b := [(2, 1, 2, 1, 0, 0), (3, 1, 3, 1, 0, 0), (4, 1, 11, 0, 0, 0), (5, 1, 0, 0, 0, 0), (6, 3, 1, 1, 0, 14), (9, 3, 1, 5, 3, 43), (12, 3, 6, 36, 3, 0), (15, 1, 0, 0, 0, 0), (16, 3, 1, 1, 0, 14), (19, 1, 2, 1, 0, 0), (20, 1, 3, 3, 0, 0), (21, 3, 13, 285, 40, 46), (24, 1, 3, 1, 0, 0), (25, 3, 6, 30, 1, 0), (28, 1, 3, 1, 0, 0), (29, 1, 12, 0, 1, 0)]) rfl) ?_
      refine xg_t (xg_iload (va := (0, ki)) rfl rfl) ?_
      refine xg_t (xg_const) ?_
      refine xg_t (xg_iadd (u := ki) (v := 1) (z := ki + 1) xnm0 xnm0 (by omega)) ?_
      refine xg_t (xg_aload (va := (2, 3)) rfl rfl) ?_
      refine xg_t (xg_getf (va := (2, 4)) (hF32.get (by decide) h3_11) rfl) ?_
      refine xg_t (xg_getf (va := (0, f4_12)) (hF32.get (by decide) h4_14) rfl) ?_
      by_cases hc35 : (ki + 1) < f4_12
      · refine xg_t (xg_icF (u := ki + 1) (v := f4_12) rfl xnm0 xnm0 (xj_geF hc35 (by omega))) ?_
        refine xg_t (xg_aload (va := (2, 3)) rfl rfl) ?_
        refine xg_t (xg_getf (va := (2, 4)) (hF32.get (by decide) h3_11) rfl) ?_
        refine xg_t (xg_iload (va := (0, ki)) rfl rfl) ?_
        refine xg_t (xg_const) ?_
        obtain ⟨g5_36, h5_37, hb38⟩ := (hI31 5 (by decide) : cpI 24 1 4294967295 (wget w30 5))
        have h5_37 : xRow w30 5 24 1 g5_36 := h5_37
        refine xg_k (xg_cVr mX5_get (vs := [(0, ki), (0, 3)]) (rest := []) (rs := [(0, if ki < f4_12 ∧ 3 < 4 then g5_36 (ki * 4 + 3) else 4294967295)]) (cn1 := 0) (sl1 := 0) rfl (rget_ok (lim := 6) (wd := 4) (sz := f4_12) (hF32.get (by decide) h4_14) h5_37 (by decide) (by omega) (by decide) (by decide) (by omega) (by omega)) rfl (hF32.get (by decide) h4_14) rfl rfl rfl rfl rfl rfl rfl) (xiteb (hb38)) (fun z39 hz40 => ?_)
        refine xg_t (xg_const) ?_
        by_cases hc41 : z39 = 1
        · refine xg_t (xg_icF (u := z39) (v := 1) rfl xnm0 xnm0 (xj_neF hc41)) ?_
          refine xg_t (xg_const) ?_
          exact xg_e ⟨1, w30, ⟨rfl, rfl⟩, by omega, hI31, hF32⟩
        · refine xg_t (xg_icT (u := z39) (v := 1) rfl xnm0 xnm0 (xj_neT hc41)) ?_
          refine xg_t (xg_blk (b := [(30, 3, 9, 1, 1, 0), (33, 3, 8, 2, 0, 0)]) rfl) ?_
          refine xg_t (xg_iinc (u := ki) (z := ki + 1) (l1 := [(0, (2, 3))]) rfl rfl (by omega) rfl) ?_
          refine xg_t (xg_goto) ?_
          refine xg_t (xg_drop (l1 := [(0, (2, 3)), (1, (0, ki + 1))]) (List.forall_mem_cons.mpr ⟨List.mem_cons_of_mem _ (List.mem_cons_self), List.forall_mem_cons.mpr ⟨List.mem_cons_self, fun _ h => absurd h List.not_mem_nil⟩⟩)) ?_
          exact ih28 (ki + 1) w30 (by omega) (by omega) (hI31) (hF32)
      · refine xg_t (xg_icT (u := ki + 1) (v := f4_12) rfl xnm0 xnm0 (xj_geT (by omega) (by omega))) ?_
        refine xg_t (xg_blk (b := [(36, 1, 3, 0, 0, 0), (37, 1, 12, 0, 1, 0)]) rfl) ?_
        refine xg_t (xg_const) ?_
        exact xg_e ⟨0, w30, ⟨rfl, rfl⟩, by omega, hI31, hF32⟩
  exact key27 _ 0 w (Nat.lt_succ_self _) (by omega) (hI) (xFr.rf)
end XFM
