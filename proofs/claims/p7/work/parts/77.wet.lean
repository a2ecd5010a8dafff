/-! wet, with its answer -/
section XWT
variable {d : Nat} {w : List (List xE)} {bd : List (Nat × Nat)} {fc : List (Nat × Nat × Bool)} {rr : Nat × Nat}
theorem scWetX {dy : Nat} (hI : xInv w) (hdy : dy ≤ 4294967295) : xPi (d + 1) mX11_wet [(2, 0), (0, dy)] w bd fc rr (fun n w' => ((dy ≤ 200 ∧ n = 1) ∨ (¬ dy ≤ 200 ∧ n = 0)) ∧ xInv w' ∧ xFr [1, 68] w w') := by
  refine xPi.of ?_
  show xTo (d + 1) mX11_wet (0, [], [(0, (2, 0)), (1, (0, dy))], [], (w, bd, fc, 0, 0, rr)) (fun φ => ∃ n w', xEnd 4 [(0, n)] (w', bd, fc, 0, 0, rr) φ ∧ ((dy ≤ 200 ∧ n = 1) ∨ (¬ dy ≤ 200 ∧ n = 0)) ∧ xInv w' ∧ xFr [1, 68] w w')
  refine xg_t (xg_blk (b := [(0, 1, 2, 1, 0, 0), (1, 1, 3, 0, 0, 0), (2, 3, 5, 200, 0, 0), (5, 3, 13, 70, 90, 238), (8, 3, 7, 13, 1, 0), (11, 1, 3, 0, 0, 0), (12, 1, 12, 0, 1, 0)]) rfl) ?_
  refine xg_t (xg_iload (va := (0, dy)) rfl rfl) ?_
  refine xg_t (xg_const) ?_
  refine xg_t (xg_sip) ?_
  refine xg_t (xg_cSr mX11_isIn (vs := [(0, dy), (0, 0), (0, 200)]) (rest := []) (rs := [(0, if 0 ≤ dy ∧ dy ≤ 200 then 1 else 0)]) (cn1 := 0) (sl1 := 0) rfl (isIn_ok (by omega) (by omega) (by omega)) rfl rfl rfl rfl rfl rfl rfl rfl) ?_
  by_cases hc1 : 0 ≤ dy ∧ dy ≤ 200
  · refine xg_t (xg_ifT (u := (if 0 ≤ dy ∧ dy ≤ 200 then 1 else 0)) rfl xnm0 (xj_neT (xite1 hc1))) ?_
    refine xg_t (xg_blk (b := [(13, 1, 0, 0, 0, 0), (14, 3, 1, 11, 0, 10), (17, 1, 2, 1, 0, 0), (18, 3, 14, 9, 9, 273), (21, 1, 0, 0, 0, 0), (22, 3, 1, 11, 6, 59), (25, 3, 13, 260, 24, 276), (28, 1, 3, 1, 0, 0), (29, 1, 12, 0, 1, 0)]) rfl) ?_
    refine xg_t (xg_aload (va := (2, 0)) rfl rfl) ?_
    have h0_2 := (hI 0 (by decide) : cp0 (wget w 0))
    refine xg_t (xg_getf (va := (2, 1)) h0_2 rfl) ?_
    refine xg_t (xg_iload (va := (0, dy)) rfl rfl) ?_
    obtain ⟨f1_3, f1_5, f1_7, f1_9, f1_11, f1_13, h1_15, hb4, hb6, hb8, hb10, hb12, hb14⟩ := (hI 1 (by decide) : cp1 (wget w 1))
    refine xg_putI (fl1 := [(2, 2), (0, f1_3), (0, f1_5), (0, f1_7), (2, 3), (2, 14), (0, f1_9), (0, f1_11), (2, 16), (0, dy), (2, 18), (2, 20), (2, 22), (2, 24)]) h1_15 rfl rfl rfl (fun w16 hk17 hb18 => ?_)
    refine xg_t (xg_aload (va := (2, 0)) rfl rfl) ?_
    refine xg_t (xg_getf (va := (2, 68)) (hb18.get (by decide) h0_2) rfl) ?_
    obtain ⟨f68_19, f68_21, h68_23, hb20, hb22⟩ := (hI 68 (by decide) : cp68 (wget w 68))
    refine xg_cVv mX3_forgetDamp (vs := []) (rest := []) (cn1 := 0) (sl1 := 0) rfl (lmForgetDamp (xInv.up (S := [1]) hI (xFr.of (S := [1]) hb18 (by decide)) (List.forall_mem_cons.mpr ⟨(show cp1 (wget w16 1) from ⟨f1_3, f1_5, f1_7, f1_9, f1_11, dy, hk17, by omega, by omega, by omega, by omega, by omega, by omega⟩), fun _ h => absurd h List.not_mem_nil⟩))) rfl (hb18.get (by decide) h68_23) rfl rfl rfl rfl rfl rfl (fun w24 hq25 => ?_)
    obtain ⟨hI26, hF27⟩ := hq25
    refine xg_t (xg_const) ?_
    exact xg_e ⟨1, w24, ⟨rfl, rfl⟩, by omega, hI26, ((xFr.of (S := [1, 68]) hb18 (by decide)).tr (hF27.up (by decide)))⟩
  · refine xg_t (xg_ifF (u := (if 0 ≤ dy ∧ dy ≤ 200 then 1 else 0)) rfl xnm0 (xj_neF (xite0 hc1))) ?_
    refine xg_t (xg_const) ?_
    exact xg_e ⟨0, w, ⟨rfl, rfl⟩, by omega, hI, xFr.rf⟩
end XWT
