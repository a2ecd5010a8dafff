/-! the model: rules -/
def RD (w : List (List xE)) : Prop := fld w 82 14 ≤ 16 ∧ ∀ l, l < fld w 82 14 → rwv w 112 (20 * l) ≤ 4
theorem rules_ok {f g h r : Nat → Nat} {L : Nat} (hf : okA f) (h1 : ∀ i, 0 ≤ i → i < 320 → g (1020 + i) = r i) (h2 : ∀ j, j < 1020 + 0 ∨ 1020 + 320 ≤ j → g j = f j) (hl : L ≤ 16) (hR : ∀ l, l < L → r (20 * l) ≤ 4) (h3 : h 902 = L) (h4 : ∀ j, j ≠ 902 → h j = g j) : okA h := by
  have e : ∀ j, j < 1020 → j ≠ 902 → h j = f j := fun j hj hn => by rw [h4 j hn, h2 j (by omega)]
  have e0 := e 0 (by decide) (by decide)
  have e1 := e 1 (by decide) (by decide)
  have e2 := e 2 (by decide) (by decide)
  have e3 := e 3 (by decide) (by decide)
  have e4 := e 4 (by decide) (by decide)
  have e5 := e 5 (by decide) (by decide)
  have e6 := e 6 (by decide) (by decide)
  have e7 := e 7 (by decide) (by decide)
  have e8 := e 8 (by decide) (by decide)
  have e9 := e 9 (by decide) (by decide)
  have e10 := e 10 (by decide) (by decide)
  have e13 := e 13 (by decide) (by decide)
  have e15 := e 15 (by decide) (by decide)
  have e900 := e 900 (by decide) (by decide)
  have e901 := e 901 (by decide) (by decide)
  obtain ⟨b0, b1, b2, b3, b4, b5, b6, b7, b8, b9, b10, b11, b12, b13, b14, b15, b16⟩ := hf.lits
  refine hf.mk0 (fun j hj => by rw [h4 j (by omega), h2 j (by omega)]) (okB.of0 ⟨by omega, by omega, by omega, by omega, by omega, by omega, by omega, by omega, by omega, by omega, by omega, by omega, by omega, by omega, by omega, by omega, by omega⟩ ?_ ?_ ?_ ?_)
  · intro k i hk hi
    rw [e _ (by omega) (by omega)]
    exact hf.lay (by omega) hi
  · intro k hk
    rw [e _ (by omega) (by omega)]
    exact hf.lif (by omega)
  · intro p i hk hi
    rw [e _ (by omega) (by omega)]
    exact hf.pic (by omega) hi
  · intro l hk
    rw [h4 _ (by omega), h1 (20 * l) (by omega) (by omega)]
    exact hR l (by omega)
theorem RD.fr {S : List Nat} {w w' : List (List xE)} (h : RD w) (hf : xFr S w w') (h1 : 112 ∉ S) (h2 : fld w' 82 14 = fld w 82 14) : RD w' := by
  refine ⟨by rw [h2]; exact h.1, fun l hl => ?_⟩
  rw [rwv_fr hf h1]
  exact h.2 l (by rw [← h2]; exact hl)
section XME
variable {d : Nat} {w : List (List xE)} {bd : List (Nat × Nat)} {fc : List (Nat × Nat × Bool)} {rr : Nat × Nat}
theorem mRulePuts {kk va : Nat} (hI : xMnv w) (hkk : kk ≤ 19) (hva : va ≤ 4294967295) (hln : fld w 82 14 ≤ 2000) : xPq d mX12_rulePuts [(2, 82), (0, kk), (0, va)] w bd fc rr [] (fun w' => xMnv w' ∧ xFr [112] w w' ∧ (∀ j, j < 320 → ((fld w 82 14 < 16 ∧ j = 20 * fld w 82 14 + kk) → rwv w' 112 j = va) ∧ (¬ (j = 20 * fld w 82 14 + kk) → rwv w' 112 j = rwv w 112 j))) := by
  refine xPq.of ?_
  show xTo d mX12_rulePuts (0, [], [(0, (2, 82)), (1, (0, kk)), (2, (0, va))], [], (w, bd, fc, 0, 0, rr)) (fun φ => ∃ w', xEnd 0 [] (w', bd, fc, 0, 0, rr) φ ∧ xMnv w' ∧ xFr [112] w w' ∧ (∀ j, j < 320 → ((fld w 82 14 < 16 ∧ j = 20 * fld w 82 14 + kk) → rwv w' 112 j = va) ∧ (¬ (j = 20 * fld w 82 14 + kk) → rwv w' 112 j = rwv w 112 j)))
  obtain ⟨f82_1, f82_3, f82_5, f82_7, f82_9, f82_11, f82_13, f82_15, f82_17, f82_19, f82_21, f82_22, f82_23, f82_25, f82_27, f82_29, h82_31, hb2, hb4, hb6, hb8, hb10, hb12, hb14, hb16, hb18, hb20, hb24, hb26, hb28, hb30, hb32⟩ := (hI 82 (by decide) (by decide) : cp82 (wget w 82))
  replace hb4 := xHid.of hb4
  replace hb10 := xHid.of hb10
  replace hb14 := xHid.of hb14
  replace hb16 := xHid.of hb16
  replace hb20 := xHid.of hb20
  replace hb24 := xHid.of hb24
  replace hb26 := xHid.of hb26
  replace hb28 := xHid.of hb28
  replace hb30 := xHid.of hb30
  obtain ⟨g112_33, h112_34, hb35⟩ := (hI 112 (by decide) (by decide) : cpI 320 79 4294967295 (wget w 112))
  have h112_34 : xRow w 112 320 79 g112_33 := h112_34
  have hf36 : fld w 82 14 = f82_19 := fld_of h82_31
  have hl37 : f82_19 ≤ 2000 := by omega
  refine xg_t (xg_blk (b := [(0, 1, 0, 0, 0, 0), (1, 3, 1, 12, 14, 212), (4, 2, 4, 16, 0, 0), (6, 3, 6, 24, 3, 0), (9, 1, 0, 0, 0, 0), (10, 3, 1, 12, 45, 99), (13, 2, 4, 20, 0, 0), (15, 1, 0, 0, 0, 0), (16, 3, 1, 12, 14, 212), (19, 1, 16, 0, 0, 0), (20, 1, 2, 1, 0, 0), (21, 1, 11, 0, 0, 0), (22, 1, 2, 2, 0, 0), (23, 1, 17, 0, 0, 0)]) rfl) ?_
  refine xg_t (xg_aload (va := (2, 82)) rfl rfl) ?_
  refine xg_t (xg_getf (va := (0, f82_19)) h82_31 rfl) ?_
  have hn38 := id hb20
  unfold xHid at hn38
  refine xg_t (xg_bip) ?_
  by_cases hc39 : f82_19 < 16
  · refine xg_t (xg_icF (u := f82_19) (v := 16) rfl xnm0 xnm0 (xj_geF hc39 (by omega))) ?_
    refine xg_t (xg_aload (va := (2, 82)) rfl rfl) ?_
    refine xg_t (xg_getf (va := (2, 112)) h82_31 rfl) ?_
    refine xg_t (xg_bip) ?_
    refine xg_t (xg_aload (va := (2, 82)) rfl rfl) ?_
    refine xg_t (xg_getf (va := (0, f82_19)) h82_31 rfl) ?_
    refine xg_t (xg_imul (u := 20) (v := f82_19) (z := 20 * f82_19) xnm0 xnm0 (by omega)) ?_
    refine xg_t (xg_iload (va := (0, kk)) rfl rfl) ?_
    refine xg_t (xg_iadd (u := 20 * f82_19) (v := kk) (z := (20 * f82_19) + kk) xnm0 xnm0 (by omega)) ?_
    refine xg_t (xg_iload (va := (0, va)) rfl rfl) ?_
    refine xg_iastK (n := (20 * f82_19) + kk) (u := va) h112_34 xnm0 xnm0 rfl (by omega) (fun w40 hr41 hb42 => ?_)
    refine xg_t (xg_blk (b := [(24, 1, 12, 0, 0, 0)]) rfl) ?_
    exact xg_e ⟨w40, ⟨rfl, rfl⟩, xMnv.up (S := [112]) hI (xFr.of (S := [112]) hb42 (by decide)) (List.forall_mem_cons.mpr ⟨(show cpI 320 79 4294967295 (wget w40 112) from ⟨_, hr41, xrb (by omega) (hb35)⟩), fun _ h => absurd h List.not_mem_nil⟩), (xFr.of (S := [112]) hb42 (by decide)), fun j hj => ⟨fun h => (rwv_of hr41 hj).trans (if_pos (show j = (20 * f82_19) + kk by omega)), fun h => (rwv_of hr41 hj).trans ((if_neg (show ¬ j = (20 * f82_19) + kk by omega)).trans (rwv_of h112_34 hj).symm)⟩⟩
  · refine xg_t (xg_icT (u := f82_19) (v := 16) rfl xnm0 xnm0 (xj_geT (by omega) (by omega))) ?_
    refine xg_t (xg_blk (b := [(24, 1, 12, 0, 0, 0)]) rfl) ?_
    exact xg_e ⟨w, ⟨rfl, rfl⟩, hI, xFr.rf, fun j hj => ⟨fun h => absurd h.1 (by omega), fun _ => rfl⟩⟩
end XME
