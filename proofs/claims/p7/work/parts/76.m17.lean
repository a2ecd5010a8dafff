/-! the model: wet, with its answer -/
section XMH
variable {d : Nat} {w : List (List xE)} {bd : List (Nat × Nat)} {fc : List (Nat × Nat × Bool)} {rr : Nat × Nat}
theorem mWetX {dy : Nat} (hI : xMnv w) (hdy : dy ≤ 4294967295) : xPi (d + 1) mX12_wet [(2, 82), (0, dy)] w bd fc rr (fun n w' => ((dy ≤ 200 ∧ n = 1) ∨ (¬ dy ≤ 200 ∧ n = 0)) ∧ xMnv w' ∧ xFr [83] w w') := by
  refine xPi.of ?_
  show xTo (d + 1) mX12_wet (0, [], [(0, (2, 82)), (1, (0, dy))], [], (w, bd, fc, 0, 0, rr)) (fun φ => ∃ n w', xEnd 4 [(0, n)] (w', bd, fc, 0, 0, rr) φ ∧ ((dy ≤ 200 ∧ n = 1) ∨ (¬ dy ≤ 200 ∧ n = 0)) ∧ xMnv w' ∧ xFr [83] w w')
  obtain ⟨f82_1, f82_3, f82_5, f82_7, f82_9, f82_11, f82_13, f82_15, f82_17, f82_19, f82_21, f82_22, f82_23, f82_25, f82_27, f82_29, h82_31, hb2, hb4, hb6, hb8, hb10, hb12, hb14, hb16, hb18, hb20, hb24, hb26, hb28, hb30, hb32⟩ := (hI 82 (by decide) (by decide) : cp82 (wget w 82))
  replace hb4 := xHid.of hb4
  replace hb10 := xHid.of hb10
  replace hb14 := xHid.of hb14
  replace hb16 := xHid.of hb16
  replace hb20 := xHid.of hb20
  replace hb24 := xHid.of hb24
  replace hb26 := xHid.of hb26
  replace hb28 := xHid.of hb28
  replace hb30 := xHid.of hb30
  obtain ⟨g83_33, h83_34, hb35, hx36⟩ := (hI 83 (by decide) (by decide) : cpx83 (wget w 83))
  have h83_34 : xRow w 83 5360 50 g83_33 := h83_34
  refine xg_t (xg_blk (b := [(0, 1, 2, 1, 0, 0), (1, 1, 3, 0, 0, 0), (2, 3, 5, 200, 0, 0), (5, 3, 13, 161, 98, 105), (8, 3, 7, 13, 1, 0), (11, 1, 3, 0, 0, 0), (12, 1, 12, 0, 1, 0)]) rfl) ?_
  refine xg_t (xg_iload (va := (0, dy)) rfl rfl) ?_
  refine xg_t (xg_const) ?_
  refine xg_t (xg_sip) ?_
  refine xg_t (xg_cSr mX12_isIn (vs := [(0, dy), (0, 0), (0, 200)]) (rest := []) (rs := [(0, if 0 ≤ dy ∧ dy ≤ 200 then 1 else 0)]) (cn1 := 0) (sl1 := 0) rfl (mIsIn (by omega) (by omega) (by omega)) rfl rfl rfl rfl rfl rfl rfl rfl) ?_
  by_cases hc37 : 0 ≤ dy ∧ dy ≤ 200
  · refine xg_t (xg_ifT (u := (if 0 ≤ dy ∧ dy ≤ 200 then 1 else 0)) rfl xnm0 (xj_neT (xite1 hc37))) ?_
    refine xg_t (xg_blk (b := [(13, 1, 0, 0, 0, 0), (14, 3, 1, 12, 0, 7), (17, 2, 4, 13, 0, 0), (19, 1, 2, 1, 0, 0), (20, 1, 17, 0, 0, 0), (21, 1, 3, 1, 0, 0), (22, 1, 12, 0, 1, 0)]) rfl) ?_
    refine xg_t (xg_aload (va := (2, 82)) rfl rfl) ?_
    refine xg_t (xg_getf (va := (2, 83)) h82_31 rfl) ?_
    refine xg_t (xg_bip) ?_
    refine xg_t (xg_iload (va := (0, dy)) rfl rfl) ?_
    refine xg_iastK (n := 13) (u := dy) h83_34 xnm0 xnm0 rfl (by omega) (fun w38 hr39 hb40 => ?_)
    have hx41 : okA (fun j => if j = 13 then dy else g83_33 j) := hx36.upd (by omega) (by omega) (by omega) (fun _ => by omega) (by omega) (fun _ => by omega) (fun _ => by omega) (fun _ => by omega) (fun _ => by omega) (by omega) (fun _ _ => by omega)
    have hb42 : ∀ j, (fun j => if j = 13 then dy else g83_33 j) j ≤ 4294967295 := xrb (by omega) (hb35)
    obtain ⟨g43, hg44⟩ : ∃ g : Nat → Nat, g = (fun j => if j = 13 then dy else g83_33 j) := ⟨_, rfl⟩
    rw [← hg44] at hr39
    have he45 : g43 13 = dy := by rw [hg44]; exact if_pos rfl
    have hk46 : ∀ j, j ≠ 13 → g43 j = g83_33 j := fun j hj => by rw [hg44]; exact if_neg hj
    rw [← hg44] at hx41
    rw [← hg44] at hb42
    refine xg_t (xg_const) ?_
    exact xg_e ⟨1, w38, ⟨rfl, rfl⟩, by omega, xMnv.up (S := [83]) hI (xFr.of (S := [83]) hb40 (by decide)) (List.forall_mem_cons.mpr ⟨(show cpx83 (wget w38 83) from ⟨_, hr39, hb42, hx41⟩), fun _ h => absurd h List.not_mem_nil⟩), (xFr.of (S := [83]) hb40 (by decide))⟩
  · refine xg_t (xg_ifF (u := (if 0 ≤ dy ∧ dy ≤ 200 then 1 else 0)) rfl xnm0 (xj_neF (xite0 hc37))) ?_
    refine xg_t (xg_const) ?_
    exact xg_e ⟨0, w, ⟨rfl, rfl⟩, by omega, hI, xFr.rf⟩
end XMH
