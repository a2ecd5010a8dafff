/-! the model: rules read, to the last number -/
section XRMA
variable {B : Nat → Nat} {n k : Nat} {w w' : List (List xE)}
theorem wix1 {v : Nat} : wix 1 v = wixR v := if_neg (by decide)
/-- what a token of rules is, for the model -/
theorem mkr {p : Nat} : (mkd 1 B n p = 0 ↔ tkd B n p = 0) ∧ (mkd 1 B n p = 1 ↔ tkd B n p = 2) ∧ (mkd 1 B n p = 2 ↔ tkd B n p = 3) ∧ (mkd 1 B n p = 3 ↔ tkd B n p = 1 ∧ rwx B n p ≠ 99) := by
  obtain ⟨a, b, c, d⟩ := mkd_of (ir := 1) (B := B) (n := n) (p := p)
  rw [wix1] at d
  exact ⟨a, b, ⟨fun z => (c.mp z).1, fun z => c.mpr ⟨z, Or.inl (by decide)⟩⟩, d⟩
theorem TKM.word {p : Nat} (h : TKM 1 B n w p) (e : tkd B n p = 1) : fld w 82 9 = rwx B n p := (h.2.2.1 e).trans wix1
theorem TKM.cs {p : Nat} (h : TKM 1 B n w p) : (tkd B n p = 0 ∧ fld w 82 7 = 0 ∧ rwx B n p = 99) ∨ (tkd B n p = 2 ∧ fld w 82 7 = 1 ∧ rwx B n p = 99 ∧ fld w 82 8 = tnu B n p) ∨ (tkd B n p = 3 ∧ fld w 82 7 = 2 ∧ rwx B n p = 99 ∧ fld w 82 3 = B (tq B n p)) ∨ (tkd B n p = 1 ∧ fld w 82 7 = 3 ∧ rwx B n p ≠ 99 ∧ fld w 82 9 = rwx B n p) ∨ (tkd B n p = 1 ∧ fld w 82 7 = 4 ∧ rwx B n p = 99 ∧ fld w 82 9 = rwx B n p) ∨ (4 ≤ tkd B n p ∧ fld w 82 7 = 4 ∧ rwx B n p = 99) := by
  have h9 : tkd B n p = 1 → fld w 82 9 = rwx B n p := h.word
  obtain ⟨⟨-, -, -, -, h7, -⟩, h8, -, h3⟩ := h
  obtain ⟨m0, m1, m2, m3⟩ := mkr (B := B) (n := n) (p := p)
  have hz : tkd B n p ≠ 1 → rwx B n p = 99 := rwx_0
  rw [h7]
  by_cases e0 : tkd B n p = 0
  · exact Or.inl ⟨e0, m0.mpr e0, hz (by rw [e0]; decide)⟩
  by_cases e2 : tkd B n p = 2
  · exact Or.inr (Or.inl ⟨e2, m1.mpr e2, hz (by rw [e2]; decide), h8 e2⟩)
  by_cases e3 : tkd B n p = 3
  · exact Or.inr (Or.inr (Or.inl ⟨e3, m2.mpr e3, hz (by rw [e3]; decide), h3 e3⟩))
  by_cases e1 : tkd B n p = 1
  · by_cases e9 : rwx B n p = 99
    · refine Or.inr (Or.inr (Or.inr (Or.inr (Or.inl ⟨e1, ?_, e9, h9 e1⟩))))
      unfold mkd
      rw [if_neg e0, if_neg e2, if_neg e3, if_pos e1, wix1]
      exact if_pos e9
    · exact Or.inr (Or.inr (Or.inr (Or.inl ⟨e1, m3.mpr ⟨e1, e9⟩, e9, h9 e1⟩)))
  · refine Or.inr (Or.inr (Or.inr (Or.inr (Or.inr ⟨by omega, ?_, hz e1⟩))))
    unfold mkd
    rw [if_neg e0, if_neg e2, if_neg e3, if_neg e1]
/-- lines' rows in what is read -/
def RO2 (w w' : List (List xE)) (k : Nat) : Prop := ∀ l, l < 16 → l ≠ k → rwv w' 112 (20 * l) = rwv w 112 (20 * l)
theorem RO2.fr {S : List Nat} {w2 : List (List xE)} (h : RO2 w w' k) (hf : xFr S w' w2) (h1 : 112 ∉ S) : RO2 w w2 k := fun l hl hn => (rwv_fr hf h1).trans (h l hl hn)
theorem RD.up {w2 : List (List xE)} {kr : Nat} (h : RD w) (h14 : fld w 82 14 = k) (h2 : fld w2 82 14 = k + 1) (hk : k < 16) (hr : RO2 w w2 k) (h0 : rwv w2 112 (20 * k) = kr) (h4 : kr ≤ 4) : RD w2 := by
  refine ⟨by omega, fun l hl => ?_⟩
  by_cases e : l = k
  · rw [e, h0]
    exact h4
  · rw [hr l (by omega) e]
    exact h.2 l (by omega)
end XRMA
section XRMB
variable {d : Nat} {w : List (List xE)} {bd : List (Nat × Nat)} {fc : List (Nat × Nat × Bool)} {rr : Nat × Nat}
theorem mTakesX {B : Nat → Nat} {nn p : Nat} {wq : Nat} (hI : xMnv w) (hwq : wq < 99) (hB : bsm w B nn) (hT : TKM 1 B nn w p) (h10 : fld w 82 10 = 0) : xPi (d + 5) mX12_takes [(2, 82), (0, wq)] w bd fc rr (fun n w' => (((n = 1 ∧ rwx B nn p = wq ∧ TKM 1 B nn w' (tf B nn p)) ∨ (n = 0 ∧ rwx B nn p ≠ wq ∧ TKM 1 B nn w' p)) ∧ fld w' 82 10 = 0 ∧ fld w' 82 14 = fld w 82 14) ∧ xMnv w' ∧ xFr [82] w w') := by
  refine xPi.of ?_
  show xTo (d + 5) mX12_takes (0, [], [(0, (2, 82)), (1, (0, wq))], [], (w, bd, fc, 0, 0, rr)) (fun φ => ∃ n w', xEnd 4 [(0, n)] (w', bd, fc, 0, 0, rr) φ ∧ (((n = 1 ∧ rwx B nn p = wq ∧ TKM 1 B nn w' (tf B nn p)) ∨ (n = 0 ∧ rwx B nn p ≠ wq ∧ TKM 1 B nn w' p)) ∧ fld w' 82 10 = 0 ∧ fld w' 82 14 = fld w 82 14) ∧ xMnv w' ∧ xFr [82] w w')
  obtain ⟨f82_1, f82_3, f82_5, f82_7, f82_9, f82_11, f82_13, f82_15, f82_17, f82_19, f82_21, f82_22, f82_23, f82_25, f82_27, f82_29, h82_31, hb2, hb4, hb6, hb8, hb10, hb12, hb14, hb16, hb18, hb20, hb24, hb26, hb28, hb30, hb32⟩ := (hI 82 (by decide) (by decide) : cp82 (wget w 82))
  replace hb4 := xHid.of hb4
  replace hb10 := xHid.of hb10
  replace hb14 := xHid.of hb14
  replace hb16 := xHid.of hb16
  replace hb20 := xHid.of hb20
  replace hb24 := xHid.of hb24
  replace hb26 := xHid.of hb26
  replace hb28 := xHid.of hb28
  replace hb30 := xHid.of hb30
  obtain ⟨g83_33, h83_34, hb35, hx36⟩ := (hI 83 (by decide) (by decide) : cpx83 (wget w 83))
  have h83_34 : xRow w 83 5360 50 g83_33 := h83_34
  obtain ⟨⟨ht37, ht38, ht39, ht40, ht41, ht42⟩, -⟩ := id hT
  have hf43 : fld w 82 3 = f82_3 := fld_of h82_31
  have hf44 : fld w 82 6 = f82_9 := fld_of h82_31
  have hf45 : fld w 82 7 = f82_11 := fld_of h82_31
  have hf46 : fld w 82 8 = f82_13 := fld_of h82_31
  have hf47 : fld w 82 9 = f82_15 := fld_of h82_31
  have hf48 : fld w 82 10 = f82_17 := fld_of h82_31
  have hf49 : fld w 82 14 = f82_19 := fld_of h82_31
  have hcs50 := hT.cs
  refine xg_t (xg_blk (b := [(0, 1, 0, 0, 0, 0), (1, 3, 1, 12, 10, 180), (4, 3, 7, 23, 1, 0), (7, 1, 0, 0, 0, 0), (8, 3, 1, 12, 7, 151), (11, 1, 3, 3, 0, 0), (12, 3, 6, 23, 1, 0), (15, 1, 0, 0, 0, 0), (16, 3, 1, 12, 9, 165), (19, 1, 2, 1, 0, 0), (20, 3, 6, 25, 0, 0)]) rfl) ?_
  refine xg_t (xg_aload (va := (2, 82)) rfl rfl) ?_
  refine xg_t (xg_getf (va := (0, f82_17)) h82_31 rfl) ?_
  refine xg_t (xg_ifF (u := f82_17) rfl xnm0 (xj_neF (by omega))) ?_
  refine xg_t (xg_aload (va := (2, 82)) rfl rfl) ?_
  refine xg_t (xg_getf (va := (0, f82_11)) h82_31 rfl) ?_
  refine xg_t (xg_const) ?_
  by_cases hc51 : f82_11 = 3
  · refine xg_t (xg_icF (u := f82_11) (v := 3) rfl xnm0 xnm0 (xj_neF hc51)) ?_
    refine xg_t (xg_aload (va := (2, 82)) rfl rfl) ?_
    refine xg_t (xg_getf (va := (0, f82_15)) h82_31 rfl) ?_
    have hn52 : f82_15 ≤ 4294967295 := hb16
    refine xg_t (xg_iload (va := (0, wq)) rfl rfl) ?_
    by_cases hc53 : f82_15 = wq
    · refine xg_t (xg_icT (u := f82_15) (v := wq) rfl xnm0 xnm0 (xj_eqT hc53)) ?_
      refine xg_t (xg_blk (b := [(25, 1, 0, 0, 0, 0), (26, 3, 13, 110, 96, 190), (29, 1, 3, 1, 0, 0), (30, 1, 12, 0, 1, 0)]) rfl) ?_
      refine xg_t (xg_aload (va := (2, 82)) rfl rfl) ?_
      obtain ⟨⟨ht54, ht55, ht56, ht57, ht58, ht59⟩, -⟩ := id hT
      have hk60 := h10
      have hk61 := (rfl : fld w 82 14 = fld w 82 14)
      refine xg_cVv mX12_advance (vs := []) (rest := []) (cn1 := 0) (sl1 := 0) rfl (mAdvX (hI) hB ht54 ht55 (by rw [ht56]; exact tf_le ht59)) rfl h82_31 rfl rfl rfl rfl rfl rfl (fun w62 hq63 => ?_)
      obtain ⟨hI64, hF65, hx66⟩ := hq63
      obtain ⟨hz67, hz68, hz69⟩ := hx66
      rw [ht56] at hz67
      clear ht54 ht55 ht56 ht57 ht58 ht59
      obtain ⟨p_70, hp71⟩ : ∃ x, x = tf B nn p := ⟨_, rfl⟩
      rw [← hp71] at hz67
      have k10_72 := hz68.trans hk60
      have k14_73 := hz69.trans hk61
      clear hz68 hz69 hk60 hk61
      refine xg_t (xg_const) ?_
      exact xg_e ⟨1, w62, ⟨rfl, rfl⟩, ⟨Or.inl ⟨rfl, by omega, by rw [← hp71]; exact hz67⟩, k10_72, k14_73⟩, hI64, (hF65.up (by decide))⟩
    · refine xg_t (xg_icF (u := f82_15) (v := wq) rfl xnm0 xnm0 (xj_eqF hc53)) ?_
      refine xg_t (xg_blk (b := [(23, 1, 3, 0, 0, 0), (24, 1, 12, 0, 1, 0)]) rfl) ?_
      refine xg_t (xg_const) ?_
      exact xg_e ⟨0, w, ⟨rfl, rfl⟩, ⟨Or.inr ⟨rfl, by omega, hT⟩, h10, rfl⟩, hI, xFr.rf⟩
  · refine xg_t (xg_icT (u := f82_11) (v := 3) rfl xnm0 xnm0 (xj_neT hc51)) ?_
    refine xg_t (xg_blk (b := [(23, 1, 3, 0, 0, 0), (24, 1, 12, 0, 1, 0)]) rfl) ?_
    refine xg_t (xg_const) ?_
    exact xg_e ⟨0, w, ⟨rfl, rfl⟩, ⟨Or.inr ⟨rfl, by omega, hT⟩, h10, rfl⟩, hI, xFr.rf⟩
theorem mTakesW {wq : Nat} (hI : xMnv w) (hwq : wq < 99) (h10 : fld w 82 10 ≠ 0) : xPi d mX12_takes [(2, 82), (0, wq)] w bd fc rr (fun n w' => (n = 0) ∧ xMnv w' ∧ xFr [] w w') := by
  refine xPi.of ?_
  show xTo d mX12_takes (0, [], [(0, (2, 82)), (1, (0, wq))], [], (w, bd, fc, 0, 0, rr)) (fun φ => ∃ n w', xEnd 4 [(0, n)] (w', bd, fc, 0, 0, rr) φ ∧ (n = 0) ∧ xMnv w' ∧ xFr [] w w')
  obtain ⟨f82_1, f82_3, f82_5, f82_7, f82_9, f82_11, f82_13, f82_15, f82_17, f82_19, f82_21, f82_22, f82_23, f82_25, f82_27, f82_29, h82_31, hb2, hb4, hb6, hb8, hb10, hb12, hb14, hb16, hb18, hb20, hb24, hb26, hb28, hb30, hb32⟩ := (hI 82 (by decide) (by decide) : cp82 (wget w 82))
  replace hb4 := xHid.of hb4
  replace hb10 := xHid.of hb10
  replace hb14 := xHid.of hb14
  replace hb16 := xHid.of hb16
  replace hb20 := xHid.of hb20
  replace hb24 := xHid.of hb24
  replace hb26 := xHid.of hb26
  replace hb28 := xHid.of hb28
  replace hb30 := xHid.of hb30
  have hf33 : fld w 82 10 = f82_17 := fld_of h82_31
  refine xg_t (xg_blk (b := [(0, 1, 0, 0, 0, 0), (1, 3, 1, 12, 10, 180), (4, 3, 7, 23, 1, 0), (7, 1, 0, 0, 0, 0), (8, 3, 1, 12, 7, 151), (11, 1, 3, 3, 0, 0), (12, 3, 6, 23, 1, 0), (15, 1, 0, 0, 0, 0), (16, 3, 1, 12, 9, 165), (19, 1, 2, 1, 0, 0), (20, 3, 6, 25, 0, 0)]) rfl) ?_
  refine xg_t (xg_aload (va := (2, 82)) rfl rfl) ?_
  refine xg_t (xg_getf (va := (0, f82_17)) h82_31 rfl) ?_
  refine xg_t (xg_ifT (u := f82_17) rfl xnm0 (xj_neT (by omega))) ?_
  refine xg_t (xg_blk (b := [(23, 1, 3, 0, 0, 0), (24, 1, 12, 0, 1, 0)]) rfl) ?_
  refine xg_t (xg_const) ?_
  exact xg_e ⟨0, w, ⟨rfl, rfl⟩, rfl, hI, xFr.rf⟩
theorem mMustX {B : Nat → Nat} {nn p : Nat} {cq : Nat} (hI : xMnv w) (hcq : cq ≤ 4294967295) (hB : bsm w B nn) (hT : TKM 1 B nn w p) (h10 : fld w 82 10 = 0) : xPq (d + 5) mX12_must [(2, 82), (0, cq)] w bd fc rr [] (fun w' => xMnv w' ∧ xFr [82, 83] w w' ∧ ((((tkd B nn p = 3 ∧ B (tq B nn p) = cq) ∧ TKM 1 B nn w' (tf B nn p) ∧ fld w' 82 10 = 0 ∧ wget w' 83 = wget w 83) ∨ (¬ (tkd B nn p = 3 ∧ B (tq B nn p) = cq) ∧ WRG w' (tq B nn p))) ∧ fld w' 82 14 = fld w 82 14 ∧ K83 w w')) := by
  refine xPq.of ?_
  show xTo (d + 5) mX12_must (0, [], [(0, (2, 82)), (1, (0, cq))], [], (w, bd, fc, 0, 0, rr)) (fun φ => ∃ w', xEnd 0 [] (w', bd, fc, 0, 0, rr) φ ∧ xMnv w' ∧ xFr [82, 83] w w' ∧ ((((tkd B nn p = 3 ∧ B (tq B nn p) = cq) ∧ TKM 1 B nn w' (tf B nn p) ∧ fld w' 82 10 = 0 ∧ wget w' 83 = wget w 83) ∨ (¬ (tkd B nn p = 3 ∧ B (tq B nn p) = cq) ∧ WRG w' (tq B nn p))) ∧ fld w' 82 14 = fld w 82 14 ∧ K83 w w'))
  obtain ⟨f82_1, f82_3, f82_5, f82_7, f82_9, f82_11, f82_13, f82_15, f82_17, f82_19, f82_21, f82_22, f82_23, f82_25, f82_27, f82_29, h82_31, hb2, hb4, hb6, hb8, hb10, hb12, hb14, hb16, hb18, hb20, hb24, hb26, hb28, hb30, hb32⟩ := (hI 82 (by decide) (by decide) : cp82 (wget w 82))
  replace hb4 := xHid.of hb4
  replace hb10 := xHid.of hb10
  replace hb14 := xHid.of hb14
  replace hb16 := xHid.of hb16
  replace hb20 := xHid.of hb20
  replace hb24 := xHid.of hb24
  replace hb26 := xHid.of hb26
  replace hb28 := xHid.of hb28
  replace hb30 := xHid.of hb30
  obtain ⟨g83_33, h83_34, hb35, hx36⟩ := (hI 83 (by decide) (by decide) : cpx83 (wget w 83))
  have h83_34 : xRow w 83 5360 50 g83_33 := h83_34
  obtain ⟨⟨ht37, ht38, ht39, ht40, ht41, ht42⟩, -⟩ := id hT
  have hf43 : fld w 82 3 = f82_3 := fld_of h82_31
  have hf44 : fld w 82 6 = f82_9 := fld_of h82_31
  have hf45 : fld w 82 7 = f82_11 := fld_of h82_31
  have hf46 : fld w 82 8 = f82_13 := fld_of h82_31
  have hf47 : fld w 82 9 = f82_15 := fld_of h82_31
  have hf48 : fld w 82 10 = f82_17 := fld_of h82_31
  have hf49 : fld w 82 14 = f82_19 := fld_of h82_31
  have hcs50 := hT.cs
  refine xg_t (xg_blk (b := [(0, 1, 0, 0, 0, 0), (1, 3, 1, 12, 10, 180), (4, 3, 7, 30, 1, 0), (7, 1, 0, 0, 0, 0), (8, 3, 1, 12, 7, 151), (11, 1, 3, 2, 0, 0), (12, 3, 6, 30, 1, 0), (15, 1, 0, 0, 0, 0), (16, 3, 1, 12, 3, 174), (19, 1, 2, 1, 0, 0), (20, 3, 6, 30, 1, 0), (23, 1, 0, 0, 0, 0), (24, 3, 13, 110, 96, 190), (27, 3, 8, 34, 0, 0)]) rfl) ?_
  refine xg_t (xg_aload (va := (2, 82)) rfl rfl) ?_
  refine xg_t (xg_getf (va := (0, f82_17)) h82_31 rfl) ?_
  refine xg_t (xg_ifF (u := f82_17) rfl xnm0 (xj_neF (by omega))) ?_
  refine xg_t (xg_aload (va := (2, 82)) rfl rfl) ?_
  refine xg_t (xg_getf (va := (0, f82_11)) h82_31 rfl) ?_
  refine xg_t (xg_const) ?_
  by_cases hc51 : f82_11 = 2
  · refine xg_t (xg_icF (u := f82_11) (v := 2) rfl xnm0 xnm0 (xj_neF hc51)) ?_
    refine xg_t (xg_aload (va := (2, 82)) rfl rfl) ?_
    refine xg_t (xg_getf (va := (0, f82_3)) h82_31 rfl) ?_
    have hn52 : f82_3 ≤ 4294967295 := hb4
    refine xg_t (xg_iload (va := (0, cq)) rfl rfl) ?_
    by_cases hc53 : f82_3 = cq
    · refine xg_t (xg_icF (u := f82_3) (v := cq) rfl xnm0 xnm0 (xj_neF hc53)) ?_
      refine xg_t (xg_aload (va := (2, 82)) rfl rfl) ?_
      obtain ⟨⟨ht54, ht55, ht56, ht57, ht58, ht59⟩, -⟩ := id hT
      have hk60 := h10
      have hk61 := (rfl : fld w 82 14 = fld w 82 14)
      refine xg_cVv mX12_advance (vs := []) (rest := []) (cn1 := 0) (sl1 := 0) rfl (mAdvX (hI) hB ht54 ht55 (by rw [ht56]; exact tf_le ht59)) rfl h82_31 rfl rfl rfl rfl rfl rfl (fun w62 hq63 => ?_)
      obtain ⟨hI64, hF65, hx66⟩ := hq63
      obtain ⟨hz67, hz68, hz69⟩ := hx66
      rw [ht56] at hz67
      clear ht54 ht55 ht56 ht57 ht58 ht59
      obtain ⟨p_70, hp71⟩ : ∃ x, x = tf B nn p := ⟨_, rfl⟩
      rw [← hp71] at hz67
      have k10_72 := hz68.trans hk60
      have k14_73 := hz69.trans hk61
      clear hz68 hz69 hk60 hk61
      refine xg_t (xg_goto) ?_
      refine xg_t (xg_blk (b := [(34, 1, 12, 0, 0, 0)]) rfl) ?_
      exact xg_e ⟨w62, ⟨rfl, rfl⟩, hI64, (hF65.up (by decide)), ⟨Or.inl ⟨by omega, by rw [← hp71]; exact hz67, k10_72, (hF65.1 83 (by decide))⟩, k14_73, (K83.fr hF65 (by decide))⟩⟩
    · refine xg_t (xg_icT (u := f82_3) (v := cq) rfl xnm0 xnm0 (xj_neT hc53)) ?_
      refine xg_t (xg_blk (b := [(30, 1, 0, 0, 0, 0), (31, 3, 13, 140, 96, 183)]) rfl) ?_
      refine xg_t (xg_aload (va := (2, 82)) rfl rfl) ?_
      have hq674 : fld w 82 6 = tq B nn p := hT.1.2.2.2.1
      refine xg_cVv mX12_ends (vs := []) (rest := []) (cn1 := 0) (sl1 := 0) rfl (mEndsX (hI) h10) rfl h82_31 rfl rfl rfl rfl rfl rfl (fun w75 hq76 => ?_)
      obtain ⟨hI77, hF78, hx79⟩ := hq76
      obtain ⟨hv80, hv81, hv82, hv83, hv84⟩ := hx79
      refine xg_t (xg_blk (b := [(34, 1, 12, 0, 0, 0)]) rfl) ?_
      exact xg_e ⟨w75, ⟨rfl, rfl⟩, hI77, (hF78.up (by decide)), ⟨Or.inr ⟨by omega, ⟨hv80, hv81, hv82.trans hq674⟩⟩, hv83, hv84⟩⟩
  · refine xg_t (xg_icT (u := f82_11) (v := 2) rfl xnm0 xnm0 (xj_neT hc51)) ?_
    refine xg_t (xg_blk (b := [(30, 1, 0, 0, 0, 0), (31, 3, 13, 140, 96, 183)]) rfl) ?_
    refine xg_t (xg_aload (va := (2, 82)) rfl rfl) ?_
    have hq685 : fld w 82 6 = tq B nn p := hT.1.2.2.2.1
    refine xg_cVv mX12_ends (vs := []) (rest := []) (cn1 := 0) (sl1 := 0) rfl (mEndsX (hI) h10) rfl h82_31 rfl rfl rfl rfl rfl rfl (fun w86 hq87 => ?_)
    obtain ⟨hI88, hF89, hx90⟩ := hq87
    obtain ⟨hv91, hv92, hv93, hv94, hv95⟩ := hx90
    refine xg_t (xg_blk (b := [(34, 1, 12, 0, 0, 0)]) rfl) ?_
    exact xg_e ⟨w86, ⟨rfl, rfl⟩, hI88, (hF89.up (by decide)), ⟨Or.inr ⟨by omega, ⟨hv91, hv92, hv93.trans hq685⟩⟩, hv94, hv95⟩⟩
theorem mMustW {cq : Nat} (hI : xMnv w) (hcq : cq ≤ 4294967295) (h10 : fld w 82 10 ≠ 0) : xPq (d + 1) mX12_must [(2, 82), (0, cq)] w bd fc rr [] (fun w' => xMnv w' ∧ xFr [] w w') := by
  refine xPq.of ?_
  show xTo (d + 1) mX12_must (0, [], [(0, (2, 82)), (1, (0, cq))], [], (w, bd, fc, 0, 0, rr)) (fun φ => ∃ w', xEnd 0 [] (w', bd, fc, 0, 0, rr) φ ∧ xMnv w' ∧ xFr [] w w')
  obtain ⟨f82_1, f82_3, f82_5, f82_7, f82_9, f82_11, f82_13, f82_15, f82_17, f82_19, f82_21, f82_22, f82_23, f82_25, f82_27, f82_29, h82_31, hb2, hb4, hb6, hb8, hb10, hb12, hb14, hb16, hb18, hb20, hb24, hb26, hb28, hb30, hb32⟩ := (hI 82 (by decide) (by decide) : cp82 (wget w 82))
  replace hb4 := xHid.of hb4
  replace hb10 := xHid.of hb10
  replace hb14 := xHid.of hb14
  replace hb16 := xHid.of hb16
  replace hb20 := xHid.of hb20
  replace hb24 := xHid.of hb24
  replace hb26 := xHid.of hb26
  replace hb28 := xHid.of hb28
  replace hb30 := xHid.of hb30
  have hf33 : fld w 82 10 = f82_17 := fld_of h82_31
  refine xg_t (xg_blk (b := [(0, 1, 0, 0, 0, 0), (1, 3, 1, 12, 10, 180), (4, 3, 7, 30, 1, 0), (7, 1, 0, 0, 0, 0), (8, 3, 1, 12, 7, 151), (11, 1, 3, 2, 0, 0), (12, 3, 6, 30, 1, 0), (15, 1, 0, 0, 0, 0), (16, 3, 1, 12, 3, 174), (19, 1, 2, 1, 0, 0), (20, 3, 6, 30, 1, 0), (23, 1, 0, 0, 0, 0), (24, 3, 13, 110, 96, 190), (27, 3, 8, 34, 0, 0)]) rfl) ?_
  refine xg_t (xg_aload (va := (2, 82)) rfl rfl) ?_
  refine xg_t (xg_getf (va := (0, f82_17)) h82_31 rfl) ?_
  refine xg_t (xg_ifT (u := f82_17) rfl xnm0 (xj_neT (by omega))) ?_
  refine xg_t (xg_blk (b := [(30, 1, 0, 0, 0, 0), (31, 3, 13, 140, 96, 183)]) rfl) ?_
  refine xg_t (xg_aload (va := (2, 82)) rfl rfl) ?_
  refine xg_cVv mX12_ends (vs := []) (rest := []) (cn1 := 0) (sl1 := 0) rfl (mEndsW (hI) h10) rfl h82_31 rfl rfl rfl rfl rfl rfl (fun w34 hq35 => ?_)
  obtain ⟨hI36, hF37⟩ := hq35
  refine xg_t (xg_blk (b := [(34, 1, 12, 0, 0, 0)]) rfl) ?_
  exact xg_e ⟨w34, ⟨rfl, rfl⟩, hI36, (hF37.up (by decide))⟩
theorem mNumbNowX {B : Nat → Nat} {nn p : Nat} (hI : xMnv w) (hB : bsm w B nn) (hT : TKM 1 B nn w p) (h10 : fld w 82 10 = 0) : xPi (d + 5) mX12_numberNow [(2, 82)] w bd fc rr (fun n w' => (n ≤ 4294967295 ∧ ((tkd B nn p = 2 ∧ TKM 1 B nn w' (tf B nn p) ∧ fld w' 82 10 = 0 ∧ wget w' 83 = wget w 83) ∨ (tkd B nn p ≠ 2 ∧ WRG w' (tq B nn p))) ∧ fld w' 82 14 = fld w 82 14 ∧ K83 w w') ∧ xMnv w' ∧ xFr [82, 83] w w') := by
  refine xPi.of ?_
  show xTo (d + 5) mX12_numberNow (0, [], [(0, (2, 82))], [], (w, bd, fc, 0, 0, rr)) (fun φ => ∃ n w', xEnd 1 [(0, n)] (w', bd, fc, 0, 0, rr) φ ∧ (n ≤ 4294967295 ∧ ((tkd B nn p = 2 ∧ TKM 1 B nn w' (tf B nn p) ∧ fld w' 82 10 = 0 ∧ wget w' 83 = wget w 83) ∨ (tkd B nn p ≠ 2 ∧ WRG w' (tq B nn p))) ∧ fld w' 82 14 = fld w 82 14 ∧ K83 w w') ∧ xMnv w' ∧ xFr [82, 83] w w')
  obtain ⟨f82_1, f82_3, f82_5, f82_7, f82_9, f82_11, f82_13, f82_15, f82_17, f82_19, f82_21, f82_22, f82_23, f82_25, f82_27, f82_29, h82_31, hb2, hb4, hb6, hb8, hb10, hb12, hb14, hb16, hb18, hb20, hb24, hb26, hb28, hb30, hb32⟩ := (hI 82 (by decide) (by decide) : cp82 (wget w 82))
  replace hb4 := xHid.of hb4
  replace hb10 := xHid.of hb10
  replace hb14 := xHid.of hb14
  replace hb16 := xHid.of hb16
  replace hb20 := xHid.of hb20
  replace hb24 := xHid.of hb24
  replace hb26 := xHid.of hb26
  replace hb28 := xHid.of hb28
  replace hb30 := xHid.of hb30
  obtain ⟨g83_33, h83_34, hb35, hx36⟩ := (hI 83 (by decide) (by decide) : cpx83 (wget w 83))
  have h83_34 : xRow w 83 5360 50 g83_33 := h83_34
  obtain ⟨⟨ht37, ht38, ht39, ht40, ht41, ht42⟩, -⟩ := id hT
  have hf43 : fld w 82 3 = f82_3 := fld_of h82_31
  have hf44 : fld w 82 6 = f82_9 := fld_of h82_31
  have hf45 : fld w 82 7 = f82_11 := fld_of h82_31
  have hf46 : fld w 82 8 = f82_13 := fld_of h82_31
  have hf47 : fld w 82 9 = f82_15 := fld_of h82_31
  have hf48 : fld w 82 10 = f82_17 := fld_of h82_31
  have hf49 : fld w 82 14 = f82_19 := fld_of h82_31
  have hcs50 := hT.cs
  refine xg_t (xg_blk (b := [(0, 1, 0, 0, 0, 0), (1, 3, 1, 12, 8, 171), (4, 1, 15, 1, 0, 0), (5, 1, 0, 0, 0, 0), (6, 3, 1, 12, 10, 180), (9, 3, 7, 27, 1, 0), (12, 1, 0, 0, 0, 0), (13, 3, 1, 12, 7, 151), (16, 1, 3, 1, 0, 0), (17, 3, 6, 27, 1, 0), (20, 1, 0, 0, 0, 0), (21, 3, 13, 110, 96, 190), (24, 3, 8, 31, 0, 0)]) rfl) ?_
  refine xg_t (xg_aload (va := (2, 82)) rfl rfl) ?_
  refine xg_t (xg_getf (va := (0, f82_13)) h82_31 rfl) ?_
  have hn51 : f82_13 ≤ 4294967295 := hb14
  refine xg_t (xg_istore (l1 := [(0, (2, 82))]) rfl rfl rfl) ?_
  refine xg_t (xg_aload (va := (2, 82)) rfl rfl) ?_
  refine xg_t (xg_getf (va := (0, f82_17)) h82_31 rfl) ?_
  refine xg_t (xg_ifF (u := f82_17) rfl xnm0 (xj_neF (by omega))) ?_
  refine xg_t (xg_aload (va := (2, 82)) rfl rfl) ?_
  refine xg_t (xg_getf (va := (0, f82_11)) h82_31 rfl) ?_
  refine xg_t (xg_const) ?_
  by_cases hc52 : f82_11 = 1
  · refine xg_t (xg_icF (u := f82_11) (v := 1) rfl xnm0 xnm0 (xj_neF hc52)) ?_
    refine xg_t (xg_aload (va := (2, 82)) rfl rfl) ?_
    obtain ⟨⟨ht53, ht54, ht55, ht56, ht57, ht58⟩, -⟩ := id hT
    have hk59 := h10
    have hk60 := (rfl : fld w 82 14 = fld w 82 14)
    refine xg_cVv mX12_advance (vs := []) (rest := []) (cn1 := 0) (sl1 := 0) rfl (mAdvX (hI) hB ht53 ht54 (by rw [ht55]; exact tf_le ht58)) rfl h82_31 rfl rfl rfl rfl rfl rfl (fun w61 hq62 => ?_)
    obtain ⟨hI63, hF64, hx65⟩ := hq62
    obtain ⟨hz66, hz67, hz68⟩ := hx65
    rw [ht55] at hz66
    clear ht53 ht54 ht55 ht56 ht57 ht58
    obtain ⟨p_69, hp70⟩ : ∃ x, x = tf B nn p := ⟨_, rfl⟩
    rw [← hp70] at hz66
    have k10_71 := hz67.trans hk59
    have k14_72 := hz68.trans hk60
    clear hz67 hz68 hk59 hk60
    refine xg_t (xg_goto) ?_
    refine xg_t (xg_blk (b := [(31, 1, 2, 1, 0, 0), (32, 1, 12, 0, 1, 0)]) rfl) ?_
    refine xg_t (xg_iload (va := (0, f82_13)) rfl rfl) ?_
    exact xg_e ⟨f82_13, w61, ⟨rfl, rfl⟩, ⟨by omega, Or.inl ⟨by omega, by rw [← hp70]; exact hz66, k10_71, (hF64.1 83 (by decide))⟩, k14_72, (K83.fr hF64 (by decide))⟩, hI63, (hF64.up (by decide))⟩
  · refine xg_t (xg_icT (u := f82_11) (v := 1) rfl xnm0 xnm0 (xj_neT hc52)) ?_
    refine xg_t (xg_blk (b := [(27, 1, 0, 0, 0, 0), (28, 3, 13, 140, 96, 183)]) rfl) ?_
    refine xg_t (xg_aload (va := (2, 82)) rfl rfl) ?_
    have hq673 : fld w 82 6 = tq B nn p := hT.1.2.2.2.1
    refine xg_cVv mX12_ends (vs := []) (rest := []) (cn1 := 0) (sl1 := 0) rfl (mEndsX (hI) h10) rfl h82_31 rfl rfl rfl rfl rfl rfl (fun w74 hq75 => ?_)
    obtain ⟨hI76, hF77, hx78⟩ := hq75
    obtain ⟨hv79, hv80, hv81, hv82, hv83⟩ := hx78
    refine xg_t (xg_blk (b := [(31, 1, 2, 1, 0, 0), (32, 1, 12, 0, 1, 0)]) rfl) ?_
    refine xg_t (xg_iload (va := (0, f82_13)) rfl rfl) ?_
    exact xg_e ⟨f82_13, w74, ⟨rfl, rfl⟩, ⟨by omega, Or.inr ⟨by omega, ⟨hv79, hv80, hv81.trans hq673⟩⟩, hv82, hv83⟩, hI76, (hF77.up (by decide))⟩
set_option maxHeartbeats 60000000 in
theorem mATestX {B : Nat → Nat} {nn p : Nat} (hI : xMnv w) (hB : bsm w B nn) (hT : TKM 1 B nn w p) (h10 : fld w 82 10 = 0) : xPq (d + 6) mX12_aTest [(2, 82)] w bd fc rr [] (fun w' => xMnv w' ∧ xFr [82, 83, 113] w w' ∧ ((((rtR B nn p).1 = true ∧ TKM 1 B nn w' (rtR B nn p).2 ∧ fld w' 82 10 = 0 ∧ wget w' 83 = wget w 83) ∨ ((rtR B nn p).1 = false ∧ WRG w' (tq B nn (rtR B nn p).2))) ∧ fld w' 82 14 = fld w 82 14 ∧ K83 w w')) := by
  refine xPq.of ?_
  show xTo (d + 6) mX12_aTest (0, [], [(0, (2, 82))], [], (w, bd, fc, 0, 0, rr)) (fun φ => ∃ w', xEnd 0 [] (w', bd, fc, 0, 0, rr) φ ∧ xMnv w' ∧ xFr [82, 83, 113] w w' ∧ ((((rtR B nn p).1 = true ∧ TKM 1 B nn w' (rtR B nn p).2 ∧ fld w' 82 10 = 0 ∧ wget w' 83 = wget w 83) ∨ ((rtR B nn p).1 = false ∧ WRG w' (tq B nn (rtR B nn p).2))) ∧ fld w' 82 14 = fld w 82 14 ∧ K83 w w'))
  obtain ⟨f82_1, f82_3, f82_5, f82_7, f82_9, f82_11, f82_13, f82_15, f82_17, f82_19, f82_21, f82_22, f82_23, f82_25, f82_27, f82_29, h82_31, hb2, hb4, hb6, hb8, hb10, hb12, hb14, hb16, hb18, hb20, hb24, hb26, hb28, hb30, hb32⟩ := (hI 82 (by decide) (by decide) : cp82 (wget w 82))
  replace hb4 := xHid.of hb4
  replace hb10 := xHid.of hb10
  replace hb14 := xHid.of hb14
  replace hb16 := xHid.of hb16
  replace hb20 := xHid.of hb20
  replace hb24 := xHid.of hb24
  replace hb26 := xHid.of hb26
  replace hb28 := xHid.of hb28
  replace hb30 := xHid.of hb30
  obtain ⟨g83_33, h83_34, hb35, hx36⟩ := (hI 83 (by decide) (by decide) : cpx83 (wget w 83))
  have h83_34 : xRow w 83 5360 50 g83_33 := h83_34
  obtain ⟨⟨ht37, ht38, ht39, ht40, ht41, ht42⟩, -⟩ := id hT
  have hf43 : fld w 82 3 = f82_3 := fld_of h82_31
  have hf44 : fld w 82 6 = f82_9 := fld_of h82_31
  have hf45 : fld w 82 7 = f82_11 := fld_of h82_31
  have hf46 : fld w 82 8 = f82_13 := fld_of h82_31
  have hf47 : fld w 82 9 = f82_15 := fld_of h82_31
  have hf48 : fld w 82 10 = f82_17 := fld_of h82_31
  have hf49 : fld w 82 14 = f82_19 := fld_of h82_31
  have hcs50 := hT.cs
  obtain ⟨g113_51, h113_52, hb53⟩ := (hI 113 (by decide) (by decide) : cpI 4 80 4294967295 (wget w 113))
  have h113_52 : xRow w 113 4 80 g113_51 := h113_52
  refine xg_t (xg_blk (b := [(0, 1, 0, 0, 0, 0), (1, 3, 1, 12, 46, 102), (4, 1, 3, 0, 0, 0), (5, 1, 0, 0, 0, 0), (6, 2, 4, 52, 0, 0), (8, 3, 13, 227, 96, 415), (11, 3, 7, 18, 0, 0), (14, 1, 3, 1, 0, 0), (15, 3, 8, 19, 0, 0)]) rfl) ?_
  refine xg_t (xg_aload (va := (2, 82)) rfl rfl) ?_
  refine xg_t (xg_getf (va := (2, 113)) h82_31 rfl) ?_
  refine xg_t (xg_const) ?_
  refine xg_t (xg_aload (va := (2, 82)) rfl rfl) ?_
  refine xg_t (xg_bip) ?_
  have hk54 := (rfl : fld w 82 14 = fld w 82 14)
  refine xg_cVi mX12_takes (vs := [(0, 52)]) (rest := [(0, 0), (2, 113)]) (cn1 := 0) (sl1 := 0) rfl (mTakesX (hI) (by omega) hB hT h10) rfl h82_31 rfl rfl rfl rfl rfl rfl (fun n59 w55 hq56 => ?_)
  obtain ⟨hn60, hI57, hF58⟩ := hq56
  obtain ⟨hz61, hz62, hz63⟩ := hn60
  have k14_66 := hz63.trans hk54
  rcases hz61 with ⟨rfl, hx64, hx65⟩ | ⟨rfl, hx64, hx65⟩
  · obtain ⟨p_67, hp68⟩ : ∃ x, x = tf B nn p := ⟨_, rfl⟩
    rw [← hp68] at hx65
    refine xg_t (xg_ifF (u := 1) rfl xnm0 (by decide)) ?_
    refine xg_t (xg_const) ?_
    refine xg_t (xg_goto) ?_
    refine xg_t (xg_blk (b := [(19, 1, 17, 0, 0, 0), (20, 1, 0, 0, 0, 0), (21, 3, 1, 12, 46, 102), (24, 1, 3, 1, 0, 0), (25, 1, 0, 0, 0, 0), (26, 3, 1, 12, 9, 165), (29, 1, 17, 0, 0, 0), (30, 1, 0, 0, 0, 0), (31, 3, 1, 12, 46, 102), (34, 1, 3, 2, 0, 0), (35, 2, 4, 61, 0, 0), (37, 1, 17, 0, 0, 0), (38, 1, 0, 0, 0, 0), (39, 3, 1, 12, 46, 102), (42, 1, 3, 3, 0, 0), (43, 1, 3, 1, 0, 0), (44, 1, 17, 0, 0, 0), (45, 1, 0, 0, 0, 0), (46, 3, 1, 12, 10, 180), (49, 3, 7, 74, 1, 0), (52, 1, 0, 0, 0, 0), (53, 3, 1, 12, 7, 151), (56, 1, 3, 3, 0, 0), (57, 3, 6, 74, 1, 0), (60, 1, 0, 0, 0, 0), (61, 3, 1, 12, 9, 165), (64, 2, 4, 20, 0, 0), (66, 2, 4, 30, 0, 0), (68, 3, 13, 161, 98, 105), (71, 3, 7, 79, 1, 0)]) rfl) ?_
    refine xg_iastK (n := 0) (u := 1) (h113_52.fr hF58 (by decide)) xnm0 xnm0 rfl (by omega) (fun w69 hr70 hb71 => ?_)
    clear hcs50
    obtain ⟨⟨ht72, ht73, ht74, ht75, ht76, ht77⟩, -⟩ := id (hx65.fr (hb71.1 82 (by decide)))
    obtain ⟨f82_78, f82_80, f82_82, f82_84, f82_86, f82_88, f82_90, f82_92, f82_94, f82_96, f82_98, f82_99, f82_100, f82_102, f82_104, f82_106, h82_108, hb79, hb81, hb83, hb85, hb87, hb89, hb91, hb93, hb95, hb97, hb101, hb103, hb105, hb107, hb109⟩ := (hI57 82 (by decide) (by decide) : cp82 (wget w55 82))
    replace hb81 := xHid.of hb81
    replace hb87 := xHid.of hb87
    replace hb91 := xHid.of hb91
    replace hb93 := xHid.of hb93
    replace hb97 := xHid.of hb97
    replace hb101 := xHid.of hb101
    replace hb103 := xHid.of hb103
    replace hb105 := xHid.of hb105
    replace hb107 := xHid.of hb107
    have hf110 : fld w69 82 3 = f82_80 := fld_of (hb71.get (by decide) h82_108)
    have hf111 : fld w69 82 6 = f82_86 := fld_of (hb71.get (by decide) h82_108)
    have hf112 : fld w69 82 7 = f82_88 := fld_of (hb71.get (by decide) h82_108)
    have hf113 : fld w69 82 8 = f82_90 := fld_of (hb71.get (by decide) h82_108)
    have hf114 : fld w69 82 9 = f82_92 := fld_of (hb71.get (by decide) h82_108)
    have hf115 : fld w69 82 10 = f82_94 := fld_of (hb71.get (by decide) h82_108)
    have hf116 : fld w69 82 14 = f82_96 := fld_of (hb71.get (by decide) h82_108)
    have hcs117 := (hx65.fr (hb71.1 82 (by decide))).cs
    have hw0118 : fld w69 82 10 = 0 := ((fld_eq (j := 10) (hb71.1 82 (by decide))).trans hz62)
    refine xg_t (xg_aload (va := (2, 82)) rfl rfl) ?_
    refine xg_t (xg_getf (va := (2, 113)) (hb71.get (by decide) h82_108) rfl) ?_
    refine xg_t (xg_const) ?_
    refine xg_t (xg_aload (va := (2, 82)) rfl rfl) ?_
    refine xg_t (xg_getf (va := (0, f82_92)) (hb71.get (by decide) h82_108) rfl) ?_
    have hn119 : f82_92 ≤ 4294967295 := hb93
    refine xg_iastK (n := 1) (u := f82_92) hr70 xnm0 xnm0 rfl (by omega) (fun w120 hr121 hb122 => ?_)
    refine xg_t (xg_aload (va := (2, 82)) rfl rfl) ?_
    refine xg_t (xg_getf (va := (2, 113)) (hb122.get (by decide) (hb71.get (by decide) h82_108)) rfl) ?_
    refine xg_t (xg_const) ?_
    refine xg_t (xg_bip) ?_
    refine xg_iastK (n := 2) (u := 61) hr121 xnm0 xnm0 rfl (by omega) (fun w123 hr124 hb125 => ?_)
    refine xg_t (xg_aload (va := (2, 82)) rfl rfl) ?_
    refine xg_t (xg_getf (va := (2, 113)) (hb125.get (by decide) (hb122.get (by decide) (hb71.get (by decide) h82_108))) rfl) ?_
    refine xg_t (xg_const) ?_
    refine xg_t (xg_const) ?_
    refine xg_iastK (n := 3) (u := 1) hr124 xnm0 xnm0 rfl (by omega) (fun w126 hr127 hb128 => ?_)
    refine xg_t (xg_aload (va := (2, 82)) rfl rfl) ?_
    refine xg_t (xg_getf (va := (0, f82_94)) (hb128.get (by decide) (hb125.get (by decide) (hb122.get (by decide) (hb71.get (by decide) h82_108)))) rfl) ?_
    refine xg_t (xg_ifF (u := f82_94) rfl xnm0 (xj_neF (by omega))) ?_
    refine xg_t (xg_aload (va := (2, 82)) rfl rfl) ?_
    refine xg_t (xg_getf (va := (0, f82_88)) (hb128.get (by decide) (hb125.get (by decide) (hb122.get (by decide) (hb71.get (by decide) h82_108)))) rfl) ?_
    refine xg_t (xg_const) ?_
    by_cases hc129 : f82_88 = 3
    · refine xg_t (xg_icF (u := f82_88) (v := 3) rfl xnm0 xnm0 (xj_neF hc129)) ?_
      refine xg_t (xg_aload (va := (2, 82)) rfl rfl) ?_
      refine xg_t (xg_getf (va := (0, f82_92)) (hb128.get (by decide) (hb125.get (by decide) (hb122.get (by decide) (hb71.get (by decide) h82_108)))) rfl) ?_
      refine xg_t (xg_bip) ?_
      refine xg_t (xg_bip) ?_
      refine xg_t (xg_cSr mX12_isIn (vs := [(0, f82_92), (0, 20), (0, 30)]) (rest := []) (rs := [(0, if 20 ≤ f82_92 ∧ f82_92 ≤ 30 then 1 else 0)]) (cn1 := 0) (sl1 := 0) rfl (mIsIn (by omega) (by omega) (by omega)) rfl rfl rfl rfl rfl rfl rfl rfl) ?_
      by_cases hc130 : 20 ≤ f82_92 ∧ f82_92 ≤ 30
      · refine xg_t (xg_ifT (u := (if 20 ≤ f82_92 ∧ f82_92 ≤ 30 then 1 else 0)) rfl xnm0 (xj_neT (xite1 hc130))) ?_
        refine xg_t (xg_blk (b := [(79, 1, 0, 0, 0, 0), (80, 3, 13, 110, 96, 190), (83, 1, 0, 0, 0, 0), (84, 3, 1, 12, 46, 102), (87, 1, 3, 1, 0, 0), (88, 1, 10, 0, 0, 0), (89, 2, 4, 21, 0, 0), (91, 3, 6, 95, 4, 0), (94, 1, 12, 0, 0, 0)]) rfl) ?_
        refine xg_t (xg_aload (va := (2, 82)) rfl rfl) ?_
        obtain ⟨⟨ht131, ht132, ht133, ht134, ht135, ht136⟩, -⟩ := id (hx65.fr ((hb128.1 82 (by decide)).trans ((hb125.1 82 (by decide)).trans ((hb122.1 82 (by decide)).trans (hb71.1 82 (by decide))))))
        have hk137 := ((fld_eq (j := 10) ((hb128.1 82 (by decide)).trans ((hb125.1 82 (by decide)).trans ((hb122.1 82 (by decide)).trans (hb71.1 82 (by decide)))))).trans hz62)
        have hk138 := ((fld_eq (j := 14) ((hb128.1 82 (by decide)).trans ((hb125.1 82 (by decide)).trans ((hb122.1 82 (by decide)).trans (hb71.1 82 (by decide)))))).trans k14_66)
        refine xg_cVv mX12_advance (vs := []) (rest := []) (cn1 := 0) (sl1 := 0) rfl (mAdvX (xMnv.up (S := [113]) hI57 ((((xFr.of (S := [113]) hb71 (by decide)).tr (xFr.of (S := [113]) hb122 (by decide))).tr (xFr.of (S := [113]) hb125 (by decide))).tr (xFr.of (S := [113]) hb128 (by decide))) (List.forall_mem_cons.mpr ⟨(show cpI 4 80 4294967295 (wget w126 113) from ⟨_, hr127, xrb (by omega) (xrb (by omega) (xrb (by omega) (xrb (by omega) (hb53))))⟩), fun _ h => absurd h List.not_mem_nil⟩)) (hB.fr (fun j h4 h9 => (((((K83.fr hF58 (by decide)).tr (K83.but hb71 (by decide))).tr (K83.but hb122 (by decide))).tr (K83.but hb125 (by decide))).tr (K83.but hb128 (by decide))) j (by omega) (by omega) (by omega))) ht131 ht132 (by rw [ht133]; exact tf_le ht136)) rfl (hb128.get (by decide) (hb125.get (by decide) (hb122.get (by decide) (hb71.get (by decide) h82_108)))) rfl rfl rfl rfl rfl rfl (fun w139 hq140 => ?_)
        obtain ⟨hI141, hF142, hx143⟩ := hq140
        obtain ⟨hz144, hz145, hz146⟩ := hx143
        rw [ht133] at hz144
        clear ht131 ht132 ht133 ht134 ht135 ht136
        obtain ⟨p_147, hp148⟩ : ∃ x, x = tf B nn p_67 := ⟨_, rfl⟩
        rw [← hp148] at hz144
        have k10_149 := hz145.trans hk137
        have k14_150 := hz146.trans hk138
        clear hz145 hz146 hk137 hk138
        refine xg_t (xg_aload (va := (2, 82)) rfl rfl) ?_
        obtain ⟨f82_151, f82_153, f82_155, f82_157, f82_159, f82_161, f82_163, f82_165, f82_167, f82_169, f82_171, f82_172, f82_173, f82_175, f82_177, f82_179, h82_181, hb152, hb154, hb156, hb158, hb160, hb162, hb164, hb166, hb168, hb170, hb174, hb176, hb178, hb180, hb182⟩ := (hI141 82 (by decide) (by decide) : cp82 (wget w139 82))
        replace hb154 := xHid.of hb154
        replace hb160 := xHid.of hb160
        replace hb164 := xHid.of hb164
        replace hb166 := xHid.of hb166
        replace hb170 := xHid.of hb170
        replace hb174 := xHid.of hb174
        replace hb176 := xHid.of hb176
        replace hb178 := xHid.of hb178
        replace hb180 := xHid.of hb180
        refine xg_t (xg_getf (va := (2, 113)) h82_181 rfl) ?_
        refine xg_t (xg_const) ?_
        refine xg_ialdB (n := 1) (B := 4294967295) (hr127.fr hF142 (by decide)) (xrb (by omega) (xrb (by omega) (xrb (by omega) (xrb (by omega) (hb53))))) xnm0 (by omega) (fun u183 hu184 he185 => ?_)
        have hu186 : u183 = f82_92 := he185.symm
        refine xg_t (xg_bip) ?_
        by_cases hc187 : xbs 21 < xbs u183
        · have hc187u := hc187
          unfold xbs at hc187u
          have hn188 : u183 ≤ 2147483647 := by omega
          refine xg_t (xg_icT (u := u183) (v := 21) rfl xnm0 xnm0 (xjs_gtT hc187)) ?_
          refine xg_t (xg_blk (b := [(95, 1, 0, 0, 0, 0), (96, 3, 1, 12, 46, 102), (99, 1, 3, 2, 0, 0), (100, 1, 0, 0, 0, 0), (101, 3, 1, 12, 3, 174), (104, 1, 17, 0, 0, 0), (105, 1, 0, 0, 0, 0), (106, 3, 1, 12, 7, 151), (109, 1, 3, 2, 0, 0), (110, 3, 6, 131, 1, 0), (113, 1, 0, 0, 0, 0), (114, 3, 1, 12, 3, 174), (117, 2, 4, 58, 0, 0), (119, 3, 6, 131, 0, 0), (122, 1, 0, 0, 0, 0), (123, 3, 1, 12, 3, 174), (126, 2, 4, 59, 0, 0), (128, 3, 6, 136, 1, 0)]) rfl) ?_
          obtain ⟨hv189, hv190, hv191⟩ : f82_92 = rwx B nn p_67 ∧ 20 ≤ rwx B nn p_67 ∧ rwx B nn p_67 ≤ 30 := by omega
          clear hcs117
          obtain ⟨⟨ht192, ht193, ht194, ht195, ht196, ht197⟩, -⟩ := id hz144
          have hf198 : fld w139 82 3 = f82_153 := fld_of h82_181
          have hf199 : fld w139 82 6 = f82_159 := fld_of h82_181
          have hf200 : fld w139 82 7 = f82_161 := fld_of h82_181
          have hf201 : fld w139 82 8 = f82_163 := fld_of h82_181
          have hf202 : fld w139 82 9 = f82_165 := fld_of h82_181
          have hf203 : fld w139 82 10 = f82_167 := fld_of h82_181
          have hf204 : fld w139 82 14 = f82_169 := fld_of h82_181
          have hcs205 := hz144.cs
          have hw0206 : fld w139 82 10 = 0 := k10_149
          refine xg_t (xg_aload (va := (2, 82)) rfl rfl) ?_
          refine xg_t (xg_getf (va := (2, 113)) h82_181 rfl) ?_
          refine xg_t (xg_const) ?_
          refine xg_t (xg_aload (va := (2, 82)) rfl rfl) ?_
          refine xg_t (xg_getf (va := (0, f82_153)) h82_181 rfl) ?_
          have hn207 : f82_153 ≤ 4294967295 := hb154
          refine xg_iastK (n := 2) (u := f82_153) (hr127.fr hF142 (by decide)) xnm0 xnm0 rfl (by omega) (fun w208 hr209 hb210 => ?_)
          refine xg_t (xg_aload (va := (2, 82)) rfl rfl) ?_
          refine xg_t (xg_getf (va := (0, f82_161)) (hb210.get (by decide) h82_181) rfl) ?_
          refine xg_t (xg_const) ?_
          by_cases hc211 : f82_161 = 2
          · refine xg_t (xg_icF (u := f82_161) (v := 2) rfl xnm0 xnm0 (xj_neF hc211)) ?_
            refine xg_t (xg_aload (va := (2, 82)) rfl rfl) ?_
            refine xg_t (xg_getf (va := (0, f82_153)) (hb210.get (by decide) h82_181) rfl) ?_
            refine xg_t (xg_bip) ?_
            by_cases hc212 : f82_153 = 58
            · refine xg_t (xg_icT (u := f82_153) (v := 58) rfl xnm0 xnm0 (xj_eqT hc212)) ?_
              refine xg_t (xg_blk (b := [(131, 1, 0, 0, 0, 0), (132, 3, 13, 140, 96, 183), (135, 1, 12, 0, 0, 0)]) rfl) ?_
              refine xg_t (xg_aload (va := (2, 82)) rfl rfl) ?_
              have hk213 := ((fld_eq (j := 14) (hb210.1 82 (by decide))).trans k14_150)
              have hq6214 : fld w208 82 6 = tq B nn p_147 := (hz144.fr (hb210.1 82 (by decide))).1.2.2.2.1
              refine xg_cVv mX12_ends (vs := []) (rest := []) (cn1 := 0) (sl1 := 0) rfl (mEndsX (xMnv.up (S := [113]) hI141 (xFr.of (S := [113]) hb210 (by decide)) (List.forall_mem_cons.mpr ⟨(show cpI 4 80 4294967295 (wget w208 113) from ⟨_, hr209, xrb (by omega) (xrb (by omega) (xrb (by omega) (xrb (by omega) (xrb (by omega) (hb53)))))⟩), fun _ h => absurd h List.not_mem_nil⟩)) ((fld_eq (j := 10) (hb210.1 82 (by decide))).trans k10_149)) rfl (hb210.get (by decide) h82_181) rfl rfl rfl rfl rfl rfl (fun w215 hq216 => ?_)
              obtain ⟨hI217, hF218, hx219⟩ := hq216
              obtain ⟨hv220, hv221, hv222, hv223, hv224⟩ := hx219
              have hk225 := hv223.trans hk213
              have hr226 : rtR B nn p = (false, p_147) := by
                unfold rtR
                rw [((rt1_y hx64).trans hp68.symm), rt2_2 (by omega) (by omega) (by rw [← hp148]; omega), ← hp148]
              exact xg_e ⟨w215, ⟨rfl, rfl⟩, hI217, (((((hF58.up (by decide)).tr ((((xFr.of (S := [82, 83, 113]) hb71 (by decide)).tr (xFr.of (S := [82, 83, 113]) hb122 (by decide))).tr (xFr.of (S := [82, 83, 113]) hb125 (by decide))).tr (xFr.of (S := [82, 83, 113]) hb128 (by decide)))).tr (hF142.up (by decide))).tr (xFr.of (S := [82, 83, 113]) hb210 (by decide))).tr (hF218.up (by decide))), ⟨Or.inr ⟨congrArg Prod.fst hr226, by rw [hr226]; exact (show WRG w215 (tq B nn p_147) from ⟨hv220, hv221, hv222.trans hq6214⟩)⟩, hk225, ((((((((K83.fr hF58 (by decide)).tr (K83.but hb71 (by decide))).tr (K83.but hb122 (by decide))).tr (K83.but hb125 (by decide))).tr (K83.but hb128 (by decide))).tr (K83.fr hF142 (by decide))).tr (K83.but hb210 (by decide))).tr hv224)⟩⟩
            · refine xg_t (xg_icF (u := f82_153) (v := 58) rfl xnm0 xnm0 (xj_eqF hc212)) ?_
              refine xg_t (xg_aload (va := (2, 82)) rfl rfl) ?_
              refine xg_t (xg_getf (va := (0, f82_153)) (hb210.get (by decide) h82_181) rfl) ?_
              refine xg_t (xg_bip) ?_
              by_cases hc227 : f82_153 = 59
              · refine xg_t (xg_icF (u := f82_153) (v := 59) rfl xnm0 xnm0 (xj_neF hc227)) ?_
                refine xg_t (xg_blk (b := [(131, 1, 0, 0, 0, 0), (132, 3, 13, 140, 96, 183), (135, 1, 12, 0, 0, 0)]) rfl) ?_
                refine xg_t (xg_aload (va := (2, 82)) rfl rfl) ?_
                have hk228 := ((fld_eq (j := 14) (hb210.1 82 (by decide))).trans k14_150)
                have hq6229 : fld w208 82 6 = tq B nn p_147 := (hz144.fr (hb210.1 82 (by decide))).1.2.2.2.1
                refine xg_cVv mX12_ends (vs := []) (rest := []) (cn1 := 0) (sl1 := 0) rfl (mEndsX (xMnv.up (S := [113]) hI141 (xFr.of (S := [113]) hb210 (by decide)) (List.forall_mem_cons.mpr ⟨(show cpI 4 80 4294967295 (wget w208 113) from ⟨_, hr209, xrb (by omega) (xrb (by omega) (xrb (by omega) (xrb (by omega) (xrb (by omega) (hb53)))))⟩), fun _ h => absurd h List.not_mem_nil⟩)) ((fld_eq (j := 10) (hb210.1 82 (by decide))).trans k10_149)) rfl (hb210.get (by decide) h82_181) rfl rfl rfl rfl rfl rfl (fun w230 hq231 => ?_)
                obtain ⟨hI232, hF233, hx234⟩ := hq231
                obtain ⟨hv235, hv236, hv237, hv238, hv239⟩ := hx234
                have hk240 := hv238.trans hk228
                have hr241 : rtR B nn p = (false, p_147) := by
                  unfold rtR
                  rw [((rt1_y hx64).trans hp68.symm), rt2_2 (by omega) (by omega) (by rw [← hp148]; omega), ← hp148]
                exact xg_e ⟨w230, ⟨rfl, rfl⟩, hI232, (((((hF58.up (by decide)).tr ((((xFr.of (S := [82, 83, 113]) hb71 (by decide)).tr (xFr.of (S := [82, 83, 113]) hb122 (by decide))).tr (xFr.of (S := [82, 83, 113]) hb125 (by decide))).tr (xFr.of (S := [82, 83, 113]) hb128 (by decide)))).tr (hF142.up (by decide))).tr (xFr.of (S := [82, 83, 113]) hb210 (by decide))).tr (hF233.up (by decide))), ⟨Or.inr ⟨congrArg Prod.fst hr241, by rw [hr241]; exact (show WRG w230 (tq B nn p_147) from ⟨hv235, hv236, hv237.trans hq6229⟩)⟩, hk240, ((((((((K83.fr hF58 (by decide)).tr (K83.but hb71 (by decide))).tr (K83.but hb122 (by decide))).tr (K83.but hb125 (by decide))).tr (K83.but hb128 (by decide))).tr (K83.fr hF142 (by decide))).tr (K83.but hb210 (by decide))).tr hv239)⟩⟩
              · refine xg_t (xg_icT (u := f82_153) (v := 59) rfl xnm0 xnm0 (xj_neT hc227)) ?_
                refine xg_t (xg_blk (b := [(136, 1, 0, 0, 0, 0), (137, 3, 13, 110, 96, 190), (140, 1, 0, 0, 0, 0), (141, 3, 1, 12, 46, 102), (144, 1, 3, 3, 0, 0), (145, 1, 0, 0, 0, 0), (146, 3, 13, 198, 96, 418), (149, 1, 17, 0, 0, 0), (150, 1, 12, 0, 0, 0)]) rfl) ?_
                refine xg_t (xg_aload (va := (2, 82)) rfl rfl) ?_
                obtain ⟨⟨ht242, ht243, ht244, ht245, ht246, ht247⟩, -⟩ := id (hz144.fr (hb210.1 82 (by decide)))
                have hk248 := ((fld_eq (j := 10) (hb210.1 82 (by decide))).trans k10_149)
                have hk249 := ((fld_eq (j := 14) (hb210.1 82 (by decide))).trans k14_150)
                refine xg_cVv mX12_advance (vs := []) (rest := []) (cn1 := 0) (sl1 := 0) rfl (mAdvX (xMnv.up (S := [113]) hI141 (xFr.of (S := [113]) hb210 (by decide)) (List.forall_mem_cons.mpr ⟨(show cpI 4 80 4294967295 (wget w208 113) from ⟨_, hr209, xrb (by omega) (xrb (by omega) (xrb (by omega) (xrb (by omega) (xrb (by omega) (hb53)))))⟩), fun _ h => absurd h List.not_mem_nil⟩)) (hB.fr (fun j h4 h9 => (((((((K83.fr hF58 (by decide)).tr (K83.but hb71 (by decide))).tr (K83.but hb122 (by decide))).tr (K83.but hb125 (by decide))).tr (K83.but hb128 (by decide))).tr (K83.fr hF142 (by decide))).tr (K83.but hb210 (by decide))) j (by omega) (by omega) (by omega))) ht242 ht243 (by rw [ht244]; exact tf_le ht247)) rfl (hb210.get (by decide) h82_181) rfl rfl rfl rfl rfl rfl (fun w250 hq251 => ?_)
                obtain ⟨hI252, hF253, hx254⟩ := hq251
                obtain ⟨hz255, hz256, hz257⟩ := hx254
                rw [ht244] at hz255
                clear ht242 ht243 ht244 ht245 ht246 ht247
                obtain ⟨p_258, hp259⟩ : ∃ x, x = tf B nn p_147 := ⟨_, rfl⟩
                rw [← hp259] at hz255
                have k10_260 := hz256.trans hk248
                have k14_261 := hz257.trans hk249
                clear hz256 hz257 hk248 hk249
                refine xg_t (xg_aload (va := (2, 82)) rfl rfl) ?_
                obtain ⟨f82_262, f82_264, f82_266, f82_268, f82_270, f82_272, f82_274, f82_276, f82_278, f82_280, f82_282, f82_283, f82_284, f82_286, f82_288, f82_290, h82_292, hb263, hb265, hb267, hb269, hb271, hb273, hb275, hb277, hb279, hb281, hb285, hb287, hb289, hb291, hb293⟩ := (hI252 82 (by decide) (by decide) : cp82 (wget w250 82))
                replace hb265 := xHid.of hb265
                replace hb271 := xHid.of hb271
                replace hb275 := xHid.of hb275
                replace hb277 := xHid.of hb277
                replace hb281 := xHid.of hb281
                replace hb285 := xHid.of hb285
                replace hb287 := xHid.of hb287
                replace hb289 := xHid.of hb289
                replace hb291 := xHid.of hb291
                refine xg_t (xg_getf (va := (2, 113)) h82_292 rfl) ?_
                refine xg_t (xg_const) ?_
                refine xg_t (xg_aload (va := (2, 82)) rfl rfl) ?_
                have hk294 := k14_261
                refine xg_cVi mX12_numberNow (vs := []) (rest := [(0, 3), (2, 113)]) (cn1 := 0) (sl1 := 0) rfl (mNumbNowX (hI252) (hB.fr (fun j h4 h9 => ((((((((K83.fr hF58 (by decide)).tr (K83.but hb71 (by decide))).tr (K83.but hb122 (by decide))).tr (K83.but hb125 (by decide))).tr (K83.but hb128 (by decide))).tr (K83.fr hF142 (by decide))).tr (K83.but hb210 (by decide))).tr (K83.fr hF253 (by decide))) j (by omega) (by omega) (by omega))) hz255 k10_260) rfl h82_292 rfl rfl rfl rfl rfl rfl (fun n299 w295 hq296 => ?_)
                obtain ⟨hn300, hI297, hF298⟩ := hq296
                obtain ⟨hn301, hn302, hn303, hn304⟩ := hn300
                have hk309 := hn303.trans hk294
                rcases hn302 with ⟨hx305, hx306, hx307, hx308⟩ | ⟨hx305, hx306⟩
                · obtain ⟨p_310, hp311⟩ : ∃ x, x = tf B nn p_258 := ⟨_, rfl⟩
                  rw [← hp311] at hx306
                  refine xg_iastK (n := 3) (u := n299) ((hr209.fr hF253 (by decide)).fr hF298 (by decide)) xnm0 xnm0 rfl (by omega) (fun w312 hr313 hb314 => ?_)
                  have hr315 : rtR B nn p = (true, p_310) := by
                    unfold rtR
                    rw [((rt1_y hx64).trans hp68.symm), rt2_4 (by omega) (by omega) (by rw [← hp148]; omega) (by rw [← hp148, ← hp259]; omega), ← hp148, ← hp259, ← hp311]
                  exact xg_e ⟨w312, ⟨rfl, rfl⟩, xMnv.up (S := [113]) hI297 (xFr.of (S := [113]) hb314 (by decide)) (List.forall_mem_cons.mpr ⟨(show cpI 4 80 4294967295 (wget w312 113) from ⟨_, hr313, xrb (by omega) (xrb (by omega) (xrb (by omega) (xrb (by omega) (xrb (by omega) (xrb (by omega) (hb53))))))⟩), fun _ h => absurd h List.not_mem_nil⟩), (((((((hF58.up (by decide)).tr ((((xFr.of (S := [82, 83, 113]) hb71 (by decide)).tr (xFr.of (S := [82, 83, 113]) hb122 (by decide))).tr (xFr.of (S := [82, 83, 113]) hb125 (by decide))).tr (xFr.of (S := [82, 83, 113]) hb128 (by decide)))).tr (hF142.up (by decide))).tr (xFr.of (S := [82, 83, 113]) hb210 (by decide))).tr (hF253.up (by decide))).tr (hF298.up (by decide))).tr (xFr.of (S := [82, 83, 113]) hb314 (by decide))), ⟨Or.inl ⟨congrArg Prod.fst hr315, by rw [hr315]; exact (hx306.fr (hb314.1 82 (by decide))), ((fld_eq (j := 10) (hb314.1 82 (by decide))).trans hx307), ((hb314.1 83 (by decide)).trans (hx308.trans ((hF253.1 83 (by decide)).trans ((hb210.1 83 (by decide)).trans ((hF142.1 83 (by decide)).trans ((hb128.1 83 (by decide)).trans ((hb125.1 83 (by decide)).trans ((hb122.1 83 (by decide)).trans ((hb71.1 83 (by decide)).trans (hF58.1 83 (by decide)))))))))))⟩, ((fld_eq (j := 14) (hb314.1 82 (by decide))).trans hk309), ((((((((((K83.fr hF58 (by decide)).tr (K83.but hb71 (by decide))).tr (K83.but hb122 (by decide))).tr (K83.but hb125 (by decide))).tr (K83.but hb128 (by decide))).tr (K83.fr hF142 (by decide))).tr (K83.but hb210 (by decide))).tr (K83.fr hF253 (by decide))).tr hn304).tr (K83.but hb314 (by decide)))⟩⟩
                · refine xg_iastK (n := 3) (u := n299) ((hr209.fr hF253 (by decide)).fr hF298 (by decide)) xnm0 xnm0 rfl (by omega) (fun w316 hr317 hb318 => ?_)
                  have hr319 : rtR B nn p = (false, p_258) := by
                    unfold rtR
                    rw [((rt1_y hx64).trans hp68.symm), rt2_3 (by omega) (by omega) (by rw [← hp148]; omega) (by rw [← hp148, ← hp259]; omega), ← hp148, ← hp259]
                  exact xg_e ⟨w316, ⟨rfl, rfl⟩, xMnv.up (S := [113]) hI297 (xFr.of (S := [113]) hb318 (by decide)) (List.forall_mem_cons.mpr ⟨(show cpI 4 80 4294967295 (wget w316 113) from ⟨_, hr317, xrb (by omega) (xrb (by omega) (xrb (by omega) (xrb (by omega) (xrb (by omega) (xrb (by omega) (hb53))))))⟩), fun _ h => absurd h List.not_mem_nil⟩), (((((((hF58.up (by decide)).tr ((((xFr.of (S := [82, 83, 113]) hb71 (by decide)).tr (xFr.of (S := [82, 83, 113]) hb122 (by decide))).tr (xFr.of (S := [82, 83, 113]) hb125 (by decide))).tr (xFr.of (S := [82, 83, 113]) hb128 (by decide)))).tr (hF142.up (by decide))).tr (xFr.of (S := [82, 83, 113]) hb210 (by decide))).tr (hF253.up (by decide))).tr (hF298.up (by decide))).tr (xFr.of (S := [82, 83, 113]) hb318 (by decide))), ⟨Or.inr ⟨congrArg Prod.fst hr319, by rw [hr319]; exact (show WRG w316 (tq B nn p_258) from ⟨(fld_eq (j := 10) (hb318.1 82 (by decide))).trans hx306.1, (rwv_eq (hb318.1 83 (by decide))).trans hx306.2.1, (rwv_eq (hb318.1 83 (by decide))).trans hx306.2.2⟩)⟩, ((fld_eq (j := 14) (hb318.1 82 (by decide))).trans hk309), ((((((((((K83.fr hF58 (by decide)).tr (K83.but hb71 (by decide))).tr (K83.but hb122 (by decide))).tr (K83.but hb125 (by decide))).tr (K83.but hb128 (by decide))).tr (K83.fr hF142 (by decide))).tr (K83.but hb210 (by decide))).tr (K83.fr hF253 (by decide))).tr hn304).tr (K83.but hb318 (by decide)))⟩⟩
          · refine xg_t (xg_icT (u := f82_161) (v := 2) rfl xnm0 xnm0 (xj_neT hc211)) ?_
            refine xg_t (xg_blk (b := [(131, 1, 0, 0, 0, 0), (132, 3, 13, 140, 96, 183), (135, 1, 12, 0, 0, 0)]) rfl) ?_
            refine xg_t (xg_aload (va := (2, 82)) rfl rfl) ?_
            have hk320 := ((fld_eq (j := 14) (hb210.1 82 (by decide))).trans k14_150)
            have hq6321 : fld w208 82 6 = tq B nn p_147 := (hz144.fr (hb210.1 82 (by decide))).1.2.2.2.1
            refine xg_cVv mX12_ends (vs := []) (rest := []) (cn1 := 0) (sl1 := 0) rfl (mEndsX (xMnv.up (S := [113]) hI141 (xFr.of (S := [113]) hb210 (by decide)) (List.forall_mem_cons.mpr ⟨(show cpI 4 80 4294967295 (wget w208 113) from ⟨_, hr209, xrb (by omega) (xrb (by omega) (xrb (by omega) (xrb (by omega) (xrb (by omega) (hb53)))))⟩), fun _ h => absurd h List.not_mem_nil⟩)) ((fld_eq (j := 10) (hb210.1 82 (by decide))).trans k10_149)) rfl (hb210.get (by decide) h82_181) rfl rfl rfl rfl rfl rfl (fun w322 hq323 => ?_)
            obtain ⟨hI324, hF325, hx326⟩ := hq323
            obtain ⟨hv327, hv328, hv329, hv330, hv331⟩ := hx326
            have hk332 := hv330.trans hk320
            have hr333 : rtR B nn p = (false, p_147) := by
              unfold rtR
              rw [((rt1_y hx64).trans hp68.symm), rt2_2 (by omega) (by omega) (by rw [← hp148]; omega), ← hp148]
            exact xg_e ⟨w322, ⟨rfl, rfl⟩, hI324, (((((hF58.up (by decide)).tr ((((xFr.of (S := [82, 83, 113]) hb71 (by decide)).tr (xFr.of (S := [82, 83, 113]) hb122 (by decide))).tr (xFr.of (S := [82, 83, 113]) hb125 (by decide))).tr (xFr.of (S := [82, 83, 113]) hb128 (by decide)))).tr (hF142.up (by decide))).tr (xFr.of (S := [82, 83, 113]) hb210 (by decide))).tr (hF325.up (by decide))), ⟨Or.inr ⟨congrArg Prod.fst hr333, by rw [hr333]; exact (show WRG w322 (tq B nn p_147) from ⟨hv327, hv328, hv329.trans hq6321⟩)⟩, hk332, ((((((((K83.fr hF58 (by decide)).tr (K83.but hb71 (by decide))).tr (K83.but hb122 (by decide))).tr (K83.but hb125 (by decide))).tr (K83.but hb128 (by decide))).tr (K83.fr hF142 (by decide))).tr (K83.but hb210 (by decide))).tr hv331)⟩⟩
        · have hc187u := hc187
          unfold xbs at hc187u
          refine xg_t (xg_icF (u := u183) (v := 21) rfl xnm0 xnm0 (xjs_gtF hc187)) ?_
          have hr334 : rtR B nn p = (true, p_147) := by
            unfold rtR
            rw [((rt1_y hx64).trans hp68.symm), rt2_1 (by omega) (by omega), ← hp148]
          exact xg_e ⟨w139, ⟨rfl, rfl⟩, hI141, (((hF58.up (by decide)).tr ((((xFr.of (S := [82, 83, 113]) hb71 (by decide)).tr (xFr.of (S := [82, 83, 113]) hb122 (by decide))).tr (xFr.of (S := [82, 83, 113]) hb125 (by decide))).tr (xFr.of (S := [82, 83, 113]) hb128 (by decide)))).tr (hF142.up (by decide))), ⟨Or.inl ⟨congrArg Prod.fst hr334, by rw [hr334]; exact hz144, k10_149, ((hF142.1 83 (by decide)).trans ((hb128.1 83 (by decide)).trans ((hb125.1 83 (by decide)).trans ((hb122.1 83 (by decide)).trans ((hb71.1 83 (by decide)).trans (hF58.1 83 (by decide)))))))⟩, k14_150, ((((((K83.fr hF58 (by decide)).tr (K83.but hb71 (by decide))).tr (K83.but hb122 (by decide))).tr (K83.but hb125 (by decide))).tr (K83.but hb128 (by decide))).tr (K83.fr hF142 (by decide)))⟩⟩
      · refine xg_t (xg_ifF (u := (if 20 ≤ f82_92 ∧ f82_92 ≤ 30 then 1 else 0)) rfl xnm0 (xj_neF (xite0 hc130))) ?_
        refine xg_t (xg_blk (b := [(74, 1, 0, 0, 0, 0), (75, 3, 13, 140, 96, 183), (78, 1, 12, 0, 0, 0)]) rfl) ?_
        refine xg_t (xg_aload (va := (2, 82)) rfl rfl) ?_
        have hk335 := ((fld_eq (j := 14) ((hb128.1 82 (by decide)).trans ((hb125.1 82 (by decide)).trans ((hb122.1 82 (by decide)).trans (hb71.1 82 (by decide)))))).trans k14_66)
        have hq6336 : fld w126 82 6 = tq B nn p_67 := (hx65.fr ((hb128.1 82 (by decide)).trans ((hb125.1 82 (by decide)).trans ((hb122.1 82 (by decide)).trans (hb71.1 82 (by decide)))))).1.2.2.2.1
        refine xg_cVv mX12_ends (vs := []) (rest := []) (cn1 := 0) (sl1 := 0) rfl (mEndsX (xMnv.up (S := [113]) hI57 ((((xFr.of (S := [113]) hb71 (by decide)).tr (xFr.of (S := [113]) hb122 (by decide))).tr (xFr.of (S := [113]) hb125 (by decide))).tr (xFr.of (S := [113]) hb128 (by decide))) (List.forall_mem_cons.mpr ⟨(show cpI 4 80 4294967295 (wget w126 113) from ⟨_, hr127, xrb (by omega) (xrb (by omega) (xrb (by omega) (xrb (by omega) (hb53))))⟩), fun _ h => absurd h List.not_mem_nil⟩)) ((fld_eq (j := 10) ((hb128.1 82 (by decide)).trans ((hb125.1 82 (by decide)).trans ((hb122.1 82 (by decide)).trans (hb71.1 82 (by decide)))))).trans hz62)) rfl (hb128.get (by decide) (hb125.get (by decide) (hb122.get (by decide) (hb71.get (by decide) h82_108)))) rfl rfl rfl rfl rfl rfl (fun w337 hq338 => ?_)
        obtain ⟨hI339, hF340, hx341⟩ := hq338
        obtain ⟨hv342, hv343, hv344, hv345, hv346⟩ := hx341
        have hk347 := hv345.trans hk335
        have hr348 : rtR B nn p = (false, p_67) := by
          unfold rtR
          rw [((rt1_y hx64).trans hp68.symm), rt2_0 (by omega)]
        exact xg_e ⟨w337, ⟨rfl, rfl⟩, hI339, (((hF58.up (by decide)).tr ((((xFr.of (S := [82, 83, 113]) hb71 (by decide)).tr (xFr.of (S := [82, 83, 113]) hb122 (by decide))).tr (xFr.of (S := [82, 83, 113]) hb125 (by decide))).tr (xFr.of (S := [82, 83, 113]) hb128 (by decide)))).tr (hF340.up (by decide))), ⟨Or.inr ⟨congrArg Prod.fst hr348, by rw [hr348]; exact (show WRG w337 (tq B nn p_67) from ⟨hv342, hv343, hv344.trans hq6336⟩)⟩, hk347, ((((((K83.fr hF58 (by decide)).tr (K83.but hb71 (by decide))).tr (K83.but hb122 (by decide))).tr (K83.but hb125 (by decide))).tr (K83.but hb128 (by decide))).tr hv346)⟩⟩
    · refine xg_t (xg_icT (u := f82_88) (v := 3) rfl xnm0 xnm0 (xj_neT hc129)) ?_
      refine xg_t (xg_blk (b := [(74, 1, 0, 0, 0, 0), (75, 3, 13, 140, 96, 183), (78, 1, 12, 0, 0, 0)]) rfl) ?_
      refine xg_t (xg_aload (va := (2, 82)) rfl rfl) ?_
      have hk349 := ((fld_eq (j := 14) ((hb128.1 82 (by decide)).trans ((hb125.1 82 (by decide)).trans ((hb122.1 82 (by decide)).trans (hb71.1 82 (by decide)))))).trans k14_66)
      have hq6350 : fld w126 82 6 = tq B nn p_67 := (hx65.fr ((hb128.1 82 (by decide)).trans ((hb125.1 82 (by decide)).trans ((hb122.1 82 (by decide)).trans (hb71.1 82 (by decide)))))).1.2.2.2.1
      refine xg_cVv mX12_ends (vs := []) (rest := []) (cn1 := 0) (sl1 := 0) rfl (mEndsX (xMnv.up (S := [113]) hI57 ((((xFr.of (S := [113]) hb71 (by decide)).tr (xFr.of (S := [113]) hb122 (by decide))).tr (xFr.of (S := [113]) hb125 (by decide))).tr (xFr.of (S := [113]) hb128 (by decide))) (List.forall_mem_cons.mpr ⟨(show cpI 4 80 4294967295 (wget w126 113) from ⟨_, hr127, xrb (by omega) (xrb (by omega) (xrb (by omega) (xrb (by omega) (hb53))))⟩), fun _ h => absurd h List.not_mem_nil⟩)) ((fld_eq (j := 10) ((hb128.1 82 (by decide)).trans ((hb125.1 82 (by decide)).trans ((hb122.1 82 (by decide)).trans (hb71.1 82 (by decide)))))).trans hz62)) rfl (hb128.get (by decide) (hb125.get (by decide) (hb122.get (by decide) (hb71.get (by decide) h82_108)))) rfl rfl rfl rfl rfl rfl (fun w351 hq352 => ?_)
      obtain ⟨hI353, hF354, hx355⟩ := hq352
      obtain ⟨hv356, hv357, hv358, hv359, hv360⟩ := hx355
      have hk361 := hv359.trans hk349
      have hr362 : rtR B nn p = (false, p_67) := by
        unfold rtR
        rw [((rt1_y hx64).trans hp68.symm), rt2_0 (by omega)]
      exact xg_e ⟨w351, ⟨rfl, rfl⟩, hI353, (((hF58.up (by decide)).tr ((((xFr.of (S := [82, 83, 113]) hb71 (by decide)).tr (xFr.of (S := [82, 83, 113]) hb122 (by decide))).tr (xFr.of (S := [82, 83, 113]) hb125 (by decide))).tr (xFr.of (S := [82, 83, 113]) hb128 (by decide)))).tr (hF354.up (by decide))), ⟨Or.inr ⟨congrArg Prod.fst hr362, by rw [hr362]; exact (show WRG w351 (tq B nn p_67) from ⟨hv356, hv357, hv358.trans hq6350⟩)⟩, hk361, ((((((K83.fr hF58 (by decide)).tr (K83.but hb71 (by decide))).tr (K83.but hb122 (by decide))).tr (K83.but hb125 (by decide))).tr (K83.but hb128 (by decide))).tr hv360)⟩⟩
  · refine xg_t (xg_ifT (u := 0) rfl xnm0 (by decide)) ?_
    refine xg_t (xg_blk (b := [(18, 1, 3, 0, 0, 0)]) rfl) ?_
    refine xg_t (xg_const) ?_
    refine xg_t (xg_blk (b := [(19, 1, 17, 0, 0, 0), (20, 1, 0, 0, 0, 0), (21, 3, 1, 12, 46, 102), (24, 1, 3, 1, 0, 0), (25, 1, 0, 0, 0, 0), (26, 3, 1, 12, 9, 165), (29, 1, 17, 0, 0, 0), (30, 1, 0, 0, 0, 0), (31, 3, 1, 12, 46, 102), (34, 1, 3, 2, 0, 0), (35, 2, 4, 61, 0, 0), (37, 1, 17, 0, 0, 0), (38, 1, 0, 0, 0, 0), (39, 3, 1, 12, 46, 102), (42, 1, 3, 3, 0, 0), (43, 1, 3, 1, 0, 0), (44, 1, 17, 0, 0, 0), (45, 1, 0, 0, 0, 0), (46, 3, 1, 12, 10, 180), (49, 3, 7, 74, 1, 0), (52, 1, 0, 0, 0, 0), (53, 3, 1, 12, 7, 151), (56, 1, 3, 3, 0, 0), (57, 3, 6, 74, 1, 0), (60, 1, 0, 0, 0, 0), (61, 3, 1, 12, 9, 165), (64, 2, 4, 20, 0, 0), (66, 2, 4, 30, 0, 0), (68, 3, 13, 161, 98, 105), (71, 3, 7, 79, 1, 0)]) rfl) ?_
    refine xg_iastK (n := 0) (u := 0) (h113_52.fr hF58 (by decide)) xnm0 xnm0 rfl (by omega) (fun w363 hr364 hb365 => ?_)
    clear hcs50
    obtain ⟨⟨ht366, ht367, ht368, ht369, ht370, ht371⟩, -⟩ := id (hx65.fr (hb365.1 82 (by decide)))
    obtain ⟨f82_372, f82_374, f82_376, f82_378, f82_380, f82_382, f82_384, f82_386, f82_388, f82_390, f82_392, f82_393, f82_394, f82_396, f82_398, f82_400, h82_402, hb373, hb375, hb377, hb379, hb381, hb383, hb385, hb387, hb389, hb391, hb395, hb397, hb399, hb401, hb403⟩ := (hI57 82 (by decide) (by decide) : cp82 (wget w55 82))
    replace hb375 := xHid.of hb375
    replace hb381 := xHid.of hb381
    replace hb385 := xHid.of hb385
    replace hb387 := xHid.of hb387
    replace hb391 := xHid.of hb391
    replace hb395 := xHid.of hb395
    replace hb397 := xHid.of hb397
    replace hb399 := xHid.of hb399
    replace hb401 := xHid.of hb401
    have hf404 : fld w363 82 3 = f82_374 := fld_of (hb365.get (by decide) h82_402)
    have hf405 : fld w363 82 6 = f82_380 := fld_of (hb365.get (by decide) h82_402)
    have hf406 : fld w363 82 7 = f82_382 := fld_of (hb365.get (by decide) h82_402)
    have hf407 : fld w363 82 8 = f82_384 := fld_of (hb365.get (by decide) h82_402)
    have hf408 : fld w363 82 9 = f82_386 := fld_of (hb365.get (by decide) h82_402)
    have hf409 : fld w363 82 10 = f82_388 := fld_of (hb365.get (by decide) h82_402)
    have hf410 : fld w363 82 14 = f82_390 := fld_of (hb365.get (by decide) h82_402)
    have hcs411 := (hx65.fr (hb365.1 82 (by decide))).cs
    have hw0412 : fld w363 82 10 = 0 := ((fld_eq (j := 10) (hb365.1 82 (by decide))).trans hz62)
    refine xg_t (xg_aload (va := (2, 82)) rfl rfl) ?_
    refine xg_t (xg_getf (va := (2, 113)) (hb365.get (by decide) h82_402) rfl) ?_
    refine xg_t (xg_const) ?_
    refine xg_t (xg_aload (va := (2, 82)) rfl rfl) ?_
    refine xg_t (xg_getf (va := (0, f82_386)) (hb365.get (by decide) h82_402) rfl) ?_
    have hn413 : f82_386 ≤ 4294967295 := hb387
    refine xg_iastK (n := 1) (u := f82_386) hr364 xnm0 xnm0 rfl (by omega) (fun w414 hr415 hb416 => ?_)
    refine xg_t (xg_aload (va := (2, 82)) rfl rfl) ?_
    refine xg_t (xg_getf (va := (2, 113)) (hb416.get (by decide) (hb365.get (by decide) h82_402)) rfl) ?_
    refine xg_t (xg_const) ?_
    refine xg_t (xg_bip) ?_
    refine xg_iastK (n := 2) (u := 61) hr415 xnm0 xnm0 rfl (by omega) (fun w417 hr418 hb419 => ?_)
    refine xg_t (xg_aload (va := (2, 82)) rfl rfl) ?_
    refine xg_t (xg_getf (va := (2, 113)) (hb419.get (by decide) (hb416.get (by decide) (hb365.get (by decide) h82_402))) rfl) ?_
    refine xg_t (xg_const) ?_
    refine xg_t (xg_const) ?_
    refine xg_iastK (n := 3) (u := 1) hr418 xnm0 xnm0 rfl (by omega) (fun w420 hr421 hb422 => ?_)
    refine xg_t (xg_aload (va := (2, 82)) rfl rfl) ?_
    refine xg_t (xg_getf (va := (0, f82_388)) (hb422.get (by decide) (hb419.get (by decide) (hb416.get (by decide) (hb365.get (by decide) h82_402)))) rfl) ?_
    refine xg_t (xg_ifF (u := f82_388) rfl xnm0 (xj_neF (by omega))) ?_
    refine xg_t (xg_aload (va := (2, 82)) rfl rfl) ?_
    refine xg_t (xg_getf (va := (0, f82_382)) (hb422.get (by decide) (hb419.get (by decide) (hb416.get (by decide) (hb365.get (by decide) h82_402)))) rfl) ?_
    refine xg_t (xg_const) ?_
    by_cases hc423 : f82_382 = 3
    · refine xg_t (xg_icF (u := f82_382) (v := 3) rfl xnm0 xnm0 (xj_neF hc423)) ?_
      refine xg_t (xg_aload (va := (2, 82)) rfl rfl) ?_
      refine xg_t (xg_getf (va := (0, f82_386)) (hb422.get (by decide) (hb419.get (by decide) (hb416.get (by decide) (hb365.get (by decide) h82_402)))) rfl) ?_
      refine xg_t (xg_bip) ?_
      refine xg_t (xg_bip) ?_
      refine xg_t (xg_cSr mX12_isIn (vs := [(0, f82_386), (0, 20), (0, 30)]) (rest := []) (rs := [(0, if 20 ≤ f82_386 ∧ f82_386 ≤ 30 then 1 else 0)]) (cn1 := 0) (sl1 := 0) rfl (mIsIn (by omega) (by omega) (by omega)) rfl rfl rfl rfl rfl rfl rfl rfl) ?_
      by_cases hc424 : 20 ≤ f82_386 ∧ f82_386 ≤ 30
      · refine xg_t (xg_ifT (u := (if 20 ≤ f82_386 ∧ f82_386 ≤ 30 then 1 else 0)) rfl xnm0 (xj_neT (xite1 hc424))) ?_
        refine xg_t (xg_blk (b := [(79, 1, 0, 0, 0, 0), (80, 3, 13, 110, 96, 190), (83, 1, 0, 0, 0, 0), (84, 3, 1, 12, 46, 102), (87, 1, 3, 1, 0, 0), (88, 1, 10, 0, 0, 0), (89, 2, 4, 21, 0, 0), (91, 3, 6, 95, 4, 0), (94, 1, 12, 0, 0, 0)]) rfl) ?_
        refine xg_t (xg_aload (va := (2, 82)) rfl rfl) ?_
        obtain ⟨⟨ht425, ht426, ht427, ht428, ht429, ht430⟩, -⟩ := id (hx65.fr ((hb422.1 82 (by decide)).trans ((hb419.1 82 (by decide)).trans ((hb416.1 82 (by decide)).trans (hb365.1 82 (by decide))))))
        have hk431 := ((fld_eq (j := 10) ((hb422.1 82 (by decide)).trans ((hb419.1 82 (by decide)).trans ((hb416.1 82 (by decide)).trans (hb365.1 82 (by decide)))))).trans hz62)
        have hk432 := ((fld_eq (j := 14) ((hb422.1 82 (by decide)).trans ((hb419.1 82 (by decide)).trans ((hb416.1 82 (by decide)).trans (hb365.1 82 (by decide)))))).trans k14_66)
        refine xg_cVv mX12_advance (vs := []) (rest := []) (cn1 := 0) (sl1 := 0) rfl (mAdvX (xMnv.up (S := [113]) hI57 ((((xFr.of (S := [113]) hb365 (by decide)).tr (xFr.of (S := [113]) hb416 (by decide))).tr (xFr.of (S := [113]) hb419 (by decide))).tr (xFr.of (S := [113]) hb422 (by decide))) (List.forall_mem_cons.mpr ⟨(show cpI 4 80 4294967295 (wget w420 113) from ⟨_, hr421, xrb (by omega) (xrb (by omega) (xrb (by omega) (xrb (by omega) (hb53))))⟩), fun _ h => absurd h List.not_mem_nil⟩)) (hB.fr (fun j h4 h9 => (((((K83.fr hF58 (by decide)).tr (K83.but hb365 (by decide))).tr (K83.but hb416 (by decide))).tr (K83.but hb419 (by decide))).tr (K83.but hb422 (by decide))) j (by omega) (by omega) (by omega))) ht425 ht426 (by rw [ht427]; exact tf_le ht430)) rfl (hb422.get (by decide) (hb419.get (by decide) (hb416.get (by decide) (hb365.get (by decide) h82_402)))) rfl rfl rfl rfl rfl rfl (fun w433 hq434 => ?_)
        obtain ⟨hI435, hF436, hx437⟩ := hq434
        obtain ⟨hz438, hz439, hz440⟩ := hx437
        rw [ht427] at hz438
        clear ht425 ht426 ht427 ht428 ht429 ht430
        obtain ⟨p_441, hp442⟩ : ∃ x, x = tf B nn p := ⟨_, rfl⟩
        rw [← hp442] at hz438
        have k10_443 := hz439.trans hk431
        have k14_444 := hz440.trans hk432
        clear hz439 hz440 hk431 hk432
        refine xg_t (xg_aload (va := (2, 82)) rfl rfl) ?_
        obtain ⟨f82_445, f82_447, f82_449, f82_451, f82_453, f82_455, f82_457, f82_459, f82_461, f82_463, f82_465, f82_466, f82_467, f82_469, f82_471, f82_473, h82_475, hb446, hb448, hb450, hb452, hb454, hb456, hb458, hb460, hb462, hb464, hb468, hb470, hb472, hb474, hb476⟩ := (hI435 82 (by decide) (by decide) : cp82 (wget w433 82))
        replace hb448 := xHid.of hb448
        replace hb454 := xHid.of hb454
        replace hb458 := xHid.of hb458
        replace hb460 := xHid.of hb460
        replace hb464 := xHid.of hb464
        replace hb468 := xHid.of hb468
        replace hb470 := xHid.of hb470
        replace hb472 := xHid.of hb472
        replace hb474 := xHid.of hb474
        refine xg_t (xg_getf (va := (2, 113)) h82_475 rfl) ?_
        refine xg_t (xg_const) ?_
        refine xg_ialdB (n := 1) (B := 4294967295) (hr421.fr hF436 (by decide)) (xrb (by omega) (xrb (by omega) (xrb (by omega) (xrb (by omega) (hb53))))) xnm0 (by omega) (fun u477 hu478 he479 => ?_)
        have hu480 : u477 = f82_386 := he479.symm
        refine xg_t (xg_bip) ?_
        by_cases hc481 : xbs 21 < xbs u477
        · have hc481u := hc481
          unfold xbs at hc481u
          have hn482 : u477 ≤ 2147483647 := by omega
          refine xg_t (xg_icT (u := u477) (v := 21) rfl xnm0 xnm0 (xjs_gtT hc481)) ?_
          refine xg_t (xg_blk (b := [(95, 1, 0, 0, 0, 0), (96, 3, 1, 12, 46, 102), (99, 1, 3, 2, 0, 0), (100, 1, 0, 0, 0, 0), (101, 3, 1, 12, 3, 174), (104, 1, 17, 0, 0, 0), (105, 1, 0, 0, 0, 0), (106, 3, 1, 12, 7, 151), (109, 1, 3, 2, 0, 0), (110, 3, 6, 131, 1, 0), (113, 1, 0, 0, 0, 0), (114, 3, 1, 12, 3, 174), (117, 2, 4, 58, 0, 0), (119, 3, 6, 131, 0, 0), (122, 1, 0, 0, 0, 0), (123, 3, 1, 12, 3, 174), (126, 2, 4, 59, 0, 0), (128, 3, 6, 136, 1, 0)]) rfl) ?_
          obtain ⟨hv483, hv484, hv485⟩ : f82_386 = rwx B nn p ∧ 20 ≤ rwx B nn p ∧ rwx B nn p ≤ 30 := by omega
          clear hcs411
          obtain ⟨⟨ht486, ht487, ht488, ht489, ht490, ht491⟩, -⟩ := id hz438
          have hf492 : fld w433 82 3 = f82_447 := fld_of h82_475
          have hf493 : fld w433 82 6 = f82_453 := fld_of h82_475
          have hf494 : fld w433 82 7 = f82_455 := fld_of h82_475
          have hf495 : fld w433 82 8 = f82_457 := fld_of h82_475
          have hf496 : fld w433 82 9 = f82_459 := fld_of h82_475
          have hf497 : fld w433 82 10 = f82_461 := fld_of h82_475
          have hf498 : fld w433 82 14 = f82_463 := fld_of h82_475
          have hcs499 := hz438.cs
          have hw0500 : fld w433 82 10 = 0 := k10_443
          refine xg_t (xg_aload (va := (2, 82)) rfl rfl) ?_
          refine xg_t (xg_getf (va := (2, 113)) h82_475 rfl) ?_
          refine xg_t (xg_const) ?_
          refine xg_t (xg_aload (va := (2, 82)) rfl rfl) ?_
          refine xg_t (xg_getf (va := (0, f82_447)) h82_475 rfl) ?_
          have hn501 : f82_447 ≤ 4294967295 := hb448
          refine xg_iastK (n := 2) (u := f82_447) (hr421.fr hF436 (by decide)) xnm0 xnm0 rfl (by omega) (fun w502 hr503 hb504 => ?_)
          refine xg_t (xg_aload (va := (2, 82)) rfl rfl) ?_
          refine xg_t (xg_getf (va := (0, f82_455)) (hb504.get (by decide) h82_475) rfl) ?_
          refine xg_t (xg_const) ?_
          by_cases hc505 : f82_455 = 2
          · refine xg_t (xg_icF (u := f82_455) (v := 2) rfl xnm0 xnm0 (xj_neF hc505)) ?_
            refine xg_t (xg_aload (va := (2, 82)) rfl rfl) ?_
            refine xg_t (xg_getf (va := (0, f82_447)) (hb504.get (by decide) h82_475) rfl) ?_
            refine xg_t (xg_bip) ?_
            by_cases hc506 : f82_447 = 58
            · refine xg_t (xg_icT (u := f82_447) (v := 58) rfl xnm0 xnm0 (xj_eqT hc506)) ?_
              refine xg_t (xg_blk (b := [(131, 1, 0, 0, 0, 0), (132, 3, 13, 140, 96, 183), (135, 1, 12, 0, 0, 0)]) rfl) ?_
              refine xg_t (xg_aload (va := (2, 82)) rfl rfl) ?_
              have hk507 := ((fld_eq (j := 14) (hb504.1 82 (by decide))).trans k14_444)
              have hq6508 : fld w502 82 6 = tq B nn p_441 := (hz438.fr (hb504.1 82 (by decide))).1.2.2.2.1
              refine xg_cVv mX12_ends (vs := []) (rest := []) (cn1 := 0) (sl1 := 0) rfl (mEndsX (xMnv.up (S := [113]) hI435 (xFr.of (S := [113]) hb504 (by decide)) (List.forall_mem_cons.mpr ⟨(show cpI 4 80 4294967295 (wget w502 113) from ⟨_, hr503, xrb (by omega) (xrb (by omega) (xrb (by omega) (xrb (by omega) (xrb (by omega) (hb53)))))⟩), fun _ h => absurd h List.not_mem_nil⟩)) ((fld_eq (j := 10) (hb504.1 82 (by decide))).trans k10_443)) rfl (hb504.get (by decide) h82_475) rfl rfl rfl rfl rfl rfl (fun w509 hq510 => ?_)
              obtain ⟨hI511, hF512, hx513⟩ := hq510
              obtain ⟨hv514, hv515, hv516, hv517, hv518⟩ := hx513
              have hk519 := hv517.trans hk507
              have hr520 : rtR B nn p = (false, p_441) := by
                unfold rtR
                rw [(rt1_n hx64), rt2_2 (by omega) (by omega) (by rw [← hp442]; omega), ← hp442]
              exact xg_e ⟨w509, ⟨rfl, rfl⟩, hI511, (((((hF58.up (by decide)).tr ((((xFr.of (S := [82, 83, 113]) hb365 (by decide)).tr (xFr.of (S := [82, 83, 113]) hb416 (by decide))).tr (xFr.of (S := [82, 83, 113]) hb419 (by decide))).tr (xFr.of (S := [82, 83, 113]) hb422 (by decide)))).tr (hF436.up (by decide))).tr (xFr.of (S := [82, 83, 113]) hb504 (by decide))).tr (hF512.up (by decide))), ⟨Or.inr ⟨congrArg Prod.fst hr520, by rw [hr520]; exact (show WRG w509 (tq B nn p_441) from ⟨hv514, hv515, hv516.trans hq6508⟩)⟩, hk519, ((((((((K83.fr hF58 (by decide)).tr (K83.but hb365 (by decide))).tr (K83.but hb416 (by decide))).tr (K83.but hb419 (by decide))).tr (K83.but hb422 (by decide))).tr (K83.fr hF436 (by decide))).tr (K83.but hb504 (by decide))).tr hv518)⟩⟩
            · refine xg_t (xg_icF (u := f82_447) (v := 58) rfl xnm0 xnm0 (xj_eqF hc506)) ?_
              refine xg_t (xg_aload (va := (2, 82)) rfl rfl) ?_
              refine xg_t (xg_getf (va := (0, f82_447)) (hb504.get (by decide) h82_475) rfl) ?_
              refine xg_t (xg_bip) ?_
              by_cases hc521 : f82_447 = 59
              · refine xg_t (xg_icF (u := f82_447) (v := 59) rfl xnm0 xnm0 (xj_neF hc521)) ?_
                refine xg_t (xg_blk (b := [(131, 1, 0, 0, 0, 0), (132, 3, 13, 140, 96, 183), (135, 1, 12, 0, 0, 0)]) rfl) ?_
                refine xg_t (xg_aload (va := (2, 82)) rfl rfl) ?_
                have hk522 := ((fld_eq (j := 14) (hb504.1 82 (by decide))).trans k14_444)
                have hq6523 : fld w502 82 6 = tq B nn p_441 := (hz438.fr (hb504.1 82 (by decide))).1.2.2.2.1
                refine xg_cVv mX12_ends (vs := []) (rest := []) (cn1 := 0) (sl1 := 0) rfl (mEndsX (xMnv.up (S := [113]) hI435 (xFr.of (S := [113]) hb504 (by decide)) (List.forall_mem_cons.mpr ⟨(show cpI 4 80 4294967295 (wget w502 113) from ⟨_, hr503, xrb (by omega) (xrb (by omega) (xrb (by omega) (xrb (by omega) (xrb (by omega) (hb53)))))⟩), fun _ h => absurd h List.not_mem_nil⟩)) ((fld_eq (j := 10) (hb504.1 82 (by decide))).trans k10_443)) rfl (hb504.get (by decide) h82_475) rfl rfl rfl rfl rfl rfl (fun w524 hq525 => ?_)
                obtain ⟨hI526, hF527, hx528⟩ := hq525
                obtain ⟨hv529, hv530, hv531, hv532, hv533⟩ := hx528
                have hk534 := hv532.trans hk522
                have hr535 : rtR B nn p = (false, p_441) := by
                  unfold rtR
                  rw [(rt1_n hx64), rt2_2 (by omega) (by omega) (by rw [← hp442]; omega), ← hp442]
                exact xg_e ⟨w524, ⟨rfl, rfl⟩, hI526, (((((hF58.up (by decide)).tr ((((xFr.of (S := [82, 83, 113]) hb365 (by decide)).tr (xFr.of (S := [82, 83, 113]) hb416 (by decide))).tr (xFr.of (S := [82, 83, 113]) hb419 (by decide))).tr (xFr.of (S := [82, 83, 113]) hb422 (by decide)))).tr (hF436.up (by decide))).tr (xFr.of (S := [82, 83, 113]) hb504 (by decide))).tr (hF527.up (by decide))), ⟨Or.inr ⟨congrArg Prod.fst hr535, by rw [hr535]; exact (show WRG w524 (tq B nn p_441) from ⟨hv529, hv530, hv531.trans hq6523⟩)⟩, hk534, ((((((((K83.fr hF58 (by decide)).tr (K83.but hb365 (by decide))).tr (K83.but hb416 (by decide))).tr (K83.but hb419 (by decide))).tr (K83.but hb422 (by decide))).tr (K83.fr hF436 (by decide))).tr (K83.but hb504 (by decide))).tr hv533)⟩⟩
              · refine xg_t (xg_icT (u := f82_447) (v := 59) rfl xnm0 xnm0 (xj_neT hc521)) ?_
                refine xg_t (xg_blk (b := [(136, 1, 0, 0, 0, 0), (137, 3, 13, 110, 96, 190), (140, 1, 0, 0, 0, 0), (141, 3, 1, 12, 46, 102), (144, 1, 3, 3, 0, 0), (145, 1, 0, 0, 0, 0), (146, 3, 13, 198, 96, 418), (149, 1, 17, 0, 0, 0), (150, 1, 12, 0, 0, 0)]) rfl) ?_
                refine xg_t (xg_aload (va := (2, 82)) rfl rfl) ?_
                obtain ⟨⟨ht536, ht537, ht538, ht539, ht540, ht541⟩, -⟩ := id (hz438.fr (hb504.1 82 (by decide)))
                have hk542 := ((fld_eq (j := 10) (hb504.1 82 (by decide))).trans k10_443)
                have hk543 := ((fld_eq (j := 14) (hb504.1 82 (by decide))).trans k14_444)
                refine xg_cVv mX12_advance (vs := []) (rest := []) (cn1 := 0) (sl1 := 0) rfl (mAdvX (xMnv.up (S := [113]) hI435 (xFr.of (S := [113]) hb504 (by decide)) (List.forall_mem_cons.mpr ⟨(show cpI 4 80 4294967295 (wget w502 113) from ⟨_, hr503, xrb (by omega) (xrb (by omega) (xrb (by omega) (xrb (by omega) (xrb (by omega) (hb53)))))⟩), fun _ h => absurd h List.not_mem_nil⟩)) (hB.fr (fun j h4 h9 => (((((((K83.fr hF58 (by decide)).tr (K83.but hb365 (by decide))).tr (K83.but hb416 (by decide))).tr (K83.but hb419 (by decide))).tr (K83.but hb422 (by decide))).tr (K83.fr hF436 (by decide))).tr (K83.but hb504 (by decide))) j (by omega) (by omega) (by omega))) ht536 ht537 (by rw [ht538]; exact tf_le ht541)) rfl (hb504.get (by decide) h82_475) rfl rfl rfl rfl rfl rfl (fun w544 hq545 => ?_)
                obtain ⟨hI546, hF547, hx548⟩ := hq545
                obtain ⟨hz549, hz550, hz551⟩ := hx548
                rw [ht538] at hz549
                clear ht536 ht537 ht538 ht539 ht540 ht541
                obtain ⟨p_552, hp553⟩ : ∃ x, x = tf B nn p_441 := ⟨_, rfl⟩
                rw [← hp553] at hz549
                have k10_554 := hz550.trans hk542
                have k14_555 := hz551.trans hk543
                clear hz550 hz551 hk542 hk543
                refine xg_t (xg_aload (va := (2, 82)) rfl rfl) ?_
                obtain ⟨f82_556, f82_558, f82_560, f82_562, f82_564, f82_566, f82_568, f82_570, f82_572, f82_574, f82_576, f82_577, f82_578, f82_580, f82_582, f82_584, h82_586, hb557, hb559, hb561, hb563, hb565, hb567, hb569, hb571, hb573, hb575, hb579, hb581, hb583, hb585, hb587⟩ := (hI546 82 (by decide) (by decide) : cp82 (wget w544 82))
                replace hb559 := xHid.of hb559
                replace hb565 := xHid.of hb565
                replace hb569 := xHid.of hb569
                replace hb571 := xHid.of hb571
                replace hb575 := xHid.of hb575
                replace hb579 := xHid.of hb579
                replace hb581 := xHid.of hb581
                replace hb583 := xHid.of hb583
                replace hb585 := xHid.of hb585
                refine xg_t (xg_getf (va := (2, 113)) h82_586 rfl) ?_
                refine xg_t (xg_const) ?_
                refine xg_t (xg_aload (va := (2, 82)) rfl rfl) ?_
                have hk588 := k14_555
                refine xg_cVi mX12_numberNow (vs := []) (rest := [(0, 3), (2, 113)]) (cn1 := 0) (sl1 := 0) rfl (mNumbNowX (hI546) (hB.fr (fun j h4 h9 => ((((((((K83.fr hF58 (by decide)).tr (K83.but hb365 (by decide))).tr (K83.but hb416 (by decide))).tr (K83.but hb419 (by decide))).tr (K83.but hb422 (by decide))).tr (K83.fr hF436 (by decide))).tr (K83.but hb504 (by decide))).tr (K83.fr hF547 (by decide))) j (by omega) (by omega) (by omega))) hz549 k10_554) rfl h82_586 rfl rfl rfl rfl rfl rfl (fun n593 w589 hq590 => ?_)
                obtain ⟨hn594, hI591, hF592⟩ := hq590
                obtain ⟨hn595, hn596, hn597, hn598⟩ := hn594
                have hk603 := hn597.trans hk588
                rcases hn596 with ⟨hx599, hx600, hx601, hx602⟩ | ⟨hx599, hx600⟩
                · obtain ⟨p_604, hp605⟩ : ∃ x, x = tf B nn p_552 := ⟨_, rfl⟩
                  rw [← hp605] at hx600
                  refine xg_iastK (n := 3) (u := n593) ((hr503.fr hF547 (by decide)).fr hF592 (by decide)) xnm0 xnm0 rfl (by omega) (fun w606 hr607 hb608 => ?_)
                  have hr609 : rtR B nn p = (true, p_604) := by
                    unfold rtR
                    rw [(rt1_n hx64), rt2_4 (by omega) (by omega) (by rw [← hp442]; omega) (by rw [← hp442, ← hp553]; omega), ← hp442, ← hp553, ← hp605]
                  exact xg_e ⟨w606, ⟨rfl, rfl⟩, xMnv.up (S := [113]) hI591 (xFr.of (S := [113]) hb608 (by decide)) (List.forall_mem_cons.mpr ⟨(show cpI 4 80 4294967295 (wget w606 113) from ⟨_, hr607, xrb (by omega) (xrb (by omega) (xrb (by omega) (xrb (by omega) (xrb (by omega) (xrb (by omega) (hb53))))))⟩), fun _ h => absurd h List.not_mem_nil⟩), (((((((hF58.up (by decide)).tr ((((xFr.of (S := [82, 83, 113]) hb365 (by decide)).tr (xFr.of (S := [82, 83, 113]) hb416 (by decide))).tr (xFr.of (S := [82, 83, 113]) hb419 (by decide))).tr (xFr.of (S := [82, 83, 113]) hb422 (by decide)))).tr (hF436.up (by decide))).tr (xFr.of (S := [82, 83, 113]) hb504 (by decide))).tr (hF547.up (by decide))).tr (hF592.up (by decide))).tr (xFr.of (S := [82, 83, 113]) hb608 (by decide))), ⟨Or.inl ⟨congrArg Prod.fst hr609, by rw [hr609]; exact (hx600.fr (hb608.1 82 (by decide))), ((fld_eq (j := 10) (hb608.1 82 (by decide))).trans hx601), ((hb608.1 83 (by decide)).trans (hx602.trans ((hF547.1 83 (by decide)).trans ((hb504.1 83 (by decide)).trans ((hF436.1 83 (by decide)).trans ((hb422.1 83 (by decide)).trans ((hb419.1 83 (by decide)).trans ((hb416.1 83 (by decide)).trans ((hb365.1 83 (by decide)).trans (hF58.1 83 (by decide)))))))))))⟩, ((fld_eq (j := 14) (hb608.1 82 (by decide))).trans hk603), ((((((((((K83.fr hF58 (by decide)).tr (K83.but hb365 (by decide))).tr (K83.but hb416 (by decide))).tr (K83.but hb419 (by decide))).tr (K83.but hb422 (by decide))).tr (K83.fr hF436 (by decide))).tr (K83.but hb504 (by decide))).tr (K83.fr hF547 (by decide))).tr hn598).tr (K83.but hb608 (by decide)))⟩⟩
                · refine xg_iastK (n := 3) (u := n593) ((hr503.fr hF547 (by decide)).fr hF592 (by decide)) xnm0 xnm0 rfl (by omega) (fun w610 hr611 hb612 => ?_)
                  have hr613 : rtR B nn p = (false, p_552) := by
                    unfold rtR
                    rw [(rt1_n hx64), rt2_3 (by omega) (by omega) (by rw [← hp442]; omega) (by rw [← hp442, ← hp553]; omega), ← hp442, ← hp553]
                  exact xg_e ⟨w610, ⟨rfl, rfl⟩, xMnv.up (S := [113]) hI591 (xFr.of (S := [113]) hb612 (by decide)) (List.forall_mem_cons.mpr ⟨(show cpI 4 80 4294967295 (wget w610 113) from ⟨_, hr611, xrb (by omega) (xrb (by omega) (xrb (by omega) (xrb (by omega) (xrb (by omega) (xrb (by omega) (hb53))))))⟩), fun _ h => absurd h List.not_mem_nil⟩), (((((((hF58.up (by decide)).tr ((((xFr.of (S := [82, 83, 113]) hb365 (by decide)).tr (xFr.of (S := [82, 83, 113]) hb416 (by decide))).tr (xFr.of (S := [82, 83, 113]) hb419 (by decide))).tr (xFr.of (S := [82, 83, 113]) hb422 (by decide)))).tr (hF436.up (by decide))).tr (xFr.of (S := [82, 83, 113]) hb504 (by decide))).tr (hF547.up (by decide))).tr (hF592.up (by decide))).tr (xFr.of (S := [82, 83, 113]) hb612 (by decide))), ⟨Or.inr ⟨congrArg Prod.fst hr613, by rw [hr613]; exact (show WRG w610 (tq B nn p_552) from ⟨(fld_eq (j := 10) (hb612.1 82 (by decide))).trans hx600.1, (rwv_eq (hb612.1 83 (by decide))).trans hx600.2.1, (rwv_eq (hb612.1 83 (by decide))).trans hx600.2.2⟩)⟩, ((fld_eq (j := 14) (hb612.1 82 (by decide))).trans hk603), ((((((((((K83.fr hF58 (by decide)).tr (K83.but hb365 (by decide))).tr (K83.but hb416 (by decide))).tr (K83.but hb419 (by decide))).tr (K83.but hb422 (by decide))).tr (K83.fr hF436 (by decide))).tr (K83.but hb504 (by decide))).tr (K83.fr hF547 (by decide))).tr hn598).tr (K83.but hb612 (by decide)))⟩⟩
          · refine xg_t (xg_icT (u := f82_455) (v := 2) rfl xnm0 xnm0 (xj_neT hc505)) ?_
            refine xg_t (xg_blk (b := [(131, 1, 0, 0, 0, 0), (132, 3, 13, 140, 96, 183), (135, 1, 12, 0, 0, 0)]) rfl) ?_
            refine xg_t (xg_aload (va := (2, 82)) rfl rfl) ?_
            have hk614 := ((fld_eq (j := 14) (hb504.1 82 (by decide))).trans k14_444)
            have hq6615 : fld w502 82 6 = tq B nn p_441 := (hz438.fr (hb504.1 82 (by decide))).1.2.2.2.1
            refine xg_cVv mX12_ends (vs := []) (rest := []) (cn1 := 0) (sl1 := 0) rfl (mEndsX (xMnv.up (S := [113]) hI435 (xFr.of (S := [113]) hb504 (by decide)) (List.forall_mem_cons.mpr ⟨(show cpI 4 80 4294967295 (wget w502 113) from ⟨_, hr503, xrb (by omega) (xrb (by omega) (xrb (by omega) (xrb (by omega) (xrb (by omega) (hb53)))))⟩), fun _ h => absurd h List.not_mem_nil⟩)) ((fld_eq (j := 10) (hb504.1 82 (by decide))).trans k10_443)) rfl (hb504.get (by decide) h82_475) rfl rfl rfl rfl rfl rfl (fun w616 hq617 => ?_)
            obtain ⟨hI618, hF619, hx620⟩ := hq617
            obtain ⟨hv621, hv622, hv623, hv624, hv625⟩ := hx620
            have hk626 := hv624.trans hk614
            have hr627 : rtR B nn p = (false, p_441) := by
              unfold rtR
              rw [(rt1_n hx64), rt2_2 (by omega) (by omega) (by rw [← hp442]; omega), ← hp442]
            exact xg_e ⟨w616, ⟨rfl, rfl⟩, hI618, (((((hF58.up (by decide)).tr ((((xFr.of (S := [82, 83, 113]) hb365 (by decide)).tr (xFr.of (S := [82, 83, 113]) hb416 (by decide))).tr (xFr.of (S := [82, 83, 113]) hb419 (by decide))).tr (xFr.of (S := [82, 83, 113]) hb422 (by decide)))).tr (hF436.up (by decide))).tr (xFr.of (S := [82, 83, 113]) hb504 (by decide))).tr (hF619.up (by decide))), ⟨Or.inr ⟨congrArg Prod.fst hr627, by rw [hr627]; exact (show WRG w616 (tq B nn p_441) from ⟨hv621, hv622, hv623.trans hq6615⟩)⟩, hk626, ((((((((K83.fr hF58 (by decide)).tr (K83.but hb365 (by decide))).tr (K83.but hb416 (by decide))).tr (K83.but hb419 (by decide))).tr (K83.but hb422 (by decide))).tr (K83.fr hF436 (by decide))).tr (K83.but hb504 (by decide))).tr hv625)⟩⟩
        · have hc481u := hc481
          unfold xbs at hc481u
          refine xg_t (xg_icF (u := u477) (v := 21) rfl xnm0 xnm0 (xjs_gtF hc481)) ?_
          have hr628 : rtR B nn p = (true, p_441) := by
            unfold rtR
            rw [(rt1_n hx64), rt2_1 (by omega) (by omega), ← hp442]
          exact xg_e ⟨w433, ⟨rfl, rfl⟩, hI435, (((hF58.up (by decide)).tr ((((xFr.of (S := [82, 83, 113]) hb365 (by decide)).tr (xFr.of (S := [82, 83, 113]) hb416 (by decide))).tr (xFr.of (S := [82, 83, 113]) hb419 (by decide))).tr (xFr.of (S := [82, 83, 113]) hb422 (by decide)))).tr (hF436.up (by decide))), ⟨Or.inl ⟨congrArg Prod.fst hr628, by rw [hr628]; exact hz438, k10_443, ((hF436.1 83 (by decide)).trans ((hb422.1 83 (by decide)).trans ((hb419.1 83 (by decide)).trans ((hb416.1 83 (by decide)).trans ((hb365.1 83 (by decide)).trans (hF58.1 83 (by decide)))))))⟩, k14_444, ((((((K83.fr hF58 (by decide)).tr (K83.but hb365 (by decide))).tr (K83.but hb416 (by decide))).tr (K83.but hb419 (by decide))).tr (K83.but hb422 (by decide))).tr (K83.fr hF436 (by decide)))⟩⟩
      · refine xg_t (xg_ifF (u := (if 20 ≤ f82_386 ∧ f82_386 ≤ 30 then 1 else 0)) rfl xnm0 (xj_neF (xite0 hc424))) ?_
        refine xg_t (xg_blk (b := [(74, 1, 0, 0, 0, 0), (75, 3, 13, 140, 96, 183), (78, 1, 12, 0, 0, 0)]) rfl) ?_
        refine xg_t (xg_aload (va := (2, 82)) rfl rfl) ?_
        have hk629 := ((fld_eq (j := 14) ((hb422.1 82 (by decide)).trans ((hb419.1 82 (by decide)).trans ((hb416.1 82 (by decide)).trans (hb365.1 82 (by decide)))))).trans k14_66)
        have hq6630 : fld w420 82 6 = tq B nn p := (hx65.fr ((hb422.1 82 (by decide)).trans ((hb419.1 82 (by decide)).trans ((hb416.1 82 (by decide)).trans (hb365.1 82 (by decide)))))).1.2.2.2.1
        refine xg_cVv mX12_ends (vs := []) (rest := []) (cn1 := 0) (sl1 := 0) rfl (mEndsX (xMnv.up (S := [113]) hI57 ((((xFr.of (S := [113]) hb365 (by decide)).tr (xFr.of (S := [113]) hb416 (by decide))).tr (xFr.of (S := [113]) hb419 (by decide))).tr (xFr.of (S := [113]) hb422 (by decide))) (List.forall_mem_cons.mpr ⟨(show cpI 4 80 4294967295 (wget w420 113) from ⟨_, hr421, xrb (by omega) (xrb (by omega) (xrb (by omega) (xrb (by omega) (hb53))))⟩), fun _ h => absurd h List.not_mem_nil⟩)) ((fld_eq (j := 10) ((hb422.1 82 (by decide)).trans ((hb419.1 82 (by decide)).trans ((hb416.1 82 (by decide)).trans (hb365.1 82 (by decide)))))).trans hz62)) rfl (hb422.get (by decide) (hb419.get (by decide) (hb416.get (by decide) (hb365.get (by decide) h82_402)))) rfl rfl rfl rfl rfl rfl (fun w631 hq632 => ?_)
        obtain ⟨hI633, hF634, hx635⟩ := hq632
        obtain ⟨hv636, hv637, hv638, hv639, hv640⟩ := hx635
        have hk641 := hv639.trans hk629
        have hr642 : rtR B nn p = (false, p) := by
          unfold rtR
          rw [(rt1_n hx64), rt2_0 (by omega)]
        exact xg_e ⟨w631, ⟨rfl, rfl⟩, hI633, (((hF58.up (by decide)).tr ((((xFr.of (S := [82, 83, 113]) hb365 (by decide)).tr (xFr.of (S := [82, 83, 113]) hb416 (by decide))).tr (xFr.of (S := [82, 83, 113]) hb419 (by decide))).tr (xFr.of (S := [82, 83, 113]) hb422 (by decide)))).tr (hF634.up (by decide))), ⟨Or.inr ⟨congrArg Prod.fst hr642, by rw [hr642]; exact (show WRG w631 (tq B nn p) from ⟨hv636, hv637, hv638.trans hq6630⟩)⟩, hk641, ((((((K83.fr hF58 (by decide)).tr (K83.but hb365 (by decide))).tr (K83.but hb416 (by decide))).tr (K83.but hb419 (by decide))).tr (K83.but hb422 (by decide))).tr hv640)⟩⟩
    · refine xg_t (xg_icT (u := f82_382) (v := 3) rfl xnm0 xnm0 (xj_neT hc423)) ?_
      refine xg_t (xg_blk (b := [(74, 1, 0, 0, 0, 0), (75, 3, 13, 140, 96, 183), (78, 1, 12, 0, 0, 0)]) rfl) ?_
      refine xg_t (xg_aload (va := (2, 82)) rfl rfl) ?_
      have hk643 := ((fld_eq (j := 14) ((hb422.1 82 (by decide)).trans ((hb419.1 82 (by decide)).trans ((hb416.1 82 (by decide)).trans (hb365.1 82 (by decide)))))).trans k14_66)
      have hq6644 : fld w420 82 6 = tq B nn p := (hx65.fr ((hb422.1 82 (by decide)).trans ((hb419.1 82 (by decide)).trans ((hb416.1 82 (by decide)).trans (hb365.1 82 (by decide)))))).1.2.2.2.1
      refine xg_cVv mX12_ends (vs := []) (rest := []) (cn1 := 0) (sl1 := 0) rfl (mEndsX (xMnv.up (S := [113]) hI57 ((((xFr.of (S := [113]) hb365 (by decide)).tr (xFr.of (S := [113]) hb416 (by decide))).tr (xFr.of (S := [113]) hb419 (by decide))).tr (xFr.of (S := [113]) hb422 (by decide))) (List.forall_mem_cons.mpr ⟨(show cpI 4 80 4294967295 (wget w420 113) from ⟨_, hr421, xrb (by omega) (xrb (by omega) (xrb (by omega) (xrb (by omega) (hb53))))⟩), fun _ h => absurd h List.not_mem_nil⟩)) ((fld_eq (j := 10) ((hb422.1 82 (by decide)).trans ((hb419.1 82 (by decide)).trans ((hb416.1 82 (by decide)).trans (hb365.1 82 (by decide)))))).trans hz62)) rfl (hb422.get (by decide) (hb419.get (by decide) (hb416.get (by decide) (hb365.get (by decide) h82_402)))) rfl rfl rfl rfl rfl rfl (fun w645 hq646 => ?_)
      obtain ⟨hI647, hF648, hx649⟩ := hq646
      obtain ⟨hv650, hv651, hv652, hv653, hv654⟩ := hx649
      have hk655 := hv653.trans hk643
      have hr656 : rtR B nn p = (false, p) := by
        unfold rtR
        rw [(rt1_n hx64), rt2_0 (by omega)]
      exact xg_e ⟨w645, ⟨rfl, rfl⟩, hI647, (((hF58.up (by decide)).tr ((((xFr.of (S := [82, 83, 113]) hb365 (by decide)).tr (xFr.of (S := [82, 83, 113]) hb416 (by decide))).tr (xFr.of (S := [82, 83, 113]) hb419 (by decide))).tr (xFr.of (S := [82, 83, 113]) hb422 (by decide)))).tr (hF648.up (by decide))), ⟨Or.inr ⟨congrArg Prod.fst hr656, by rw [hr656]; exact (show WRG w645 (tq B nn p) from ⟨hv650, hv651, hv652.trans hq6644⟩)⟩, hk655, ((((((K83.fr hF58 (by decide)).tr (K83.but hb365 (by decide))).tr (K83.but hb416 (by decide))).tr (K83.but hb419 (by decide))).tr (K83.but hb422 (by decide))).tr hv654)⟩⟩
set_option maxHeartbeats 60000000 in
theorem mRuleTX {B : Nat → Nat} {nn p : Nat} {fp : Nat × Nat} {kr : Nat} (hI : xMnv w) (hB : bsm w B nn) (hT : TKM 1 B nn w p) (h10 : fld w 82 10 = 0) (hln : fld w 82 14 ≤ 501) (hkr : kr ≤ 502) : xTo (d + 7) mX12_aRule (107, [], [(0, (2, 82)), (1, (0, kr))], [], (w, bd, fc, 0, 0, rr)) (fun φ => ∃ w', xEnd 0 [] (w', bd, fc, 0, 0, rr) φ ∧ xMnv w' ∧ xFr [82, 83, 112] w w' ∧ ((((rvR B nn p fp).1 = true ∧ TKM 1 B nn w' (rvR B nn p fp).2.1 ∧ fld w' 82 10 = 0 ∧ fld w' 82 14 = fld w 82 14 + 1 ∧ wget w' 83 = wget w 83 ∧ RO2 w w' (fld w 82 14) ∧ (fld w 82 14 < 16 → rwv w' 112 (20 * fld w 82 14) = kr)) ∨ ((rvR B nn p fp).1 = false ∧ WRG w' (tq B nn (rvR B nn p fp).2.1) ∧ (fld w' 82 14 = fld w 82 14 ∨ fld w' 82 14 = fld w 82 14 + 1))) ∧ K83 w w')) := by
  obtain ⟨f82_1, f82_3, f82_5, f82_7, f82_9, f82_11, f82_13, f82_15, f82_17, f82_19, f82_21, f82_22, f82_23, f82_25, f82_27, f82_29, h82_31, hb2, hb4, hb6, hb8, hb10, hb12, hb14, hb16, hb18, hb20, hb24, hb26, hb28, hb30, hb32⟩ := (hI 82 (by decide) (by decide) : cp82 (wget w 82))
  replace hb4 := xHid.of hb4
  replace hb10 := xHid.of hb10
  replace hb14 := xHid.of hb14
  replace hb16 := xHid.of hb16
  replace hb20 := xHid.of hb20
  replace hb24 := xHid.of hb24
  replace hb26 := xHid.of hb26
  replace hb28 := xHid.of hb28
  replace hb30 := xHid.of hb30
  obtain ⟨g83_33, h83_34, hb35, hx36⟩ := (hI 83 (by decide) (by decide) : cpx83 (wget w 83))
  have h83_34 : xRow w 83 5360 50 g83_33 := h83_34
  obtain ⟨⟨ht37, ht38, ht39, ht40, ht41, ht42⟩, -⟩ := id hT
  have hf43 : fld w 82 3 = f82_3 := fld_of h82_31
  have hf44 : fld w 82 6 = f82_9 := fld_of h82_31
  have hf45 : fld w 82 7 = f82_11 := fld_of h82_31
  have hf46 : fld w 82 8 = f82_13 := fld_of h82_31
  have hf47 : fld w 82 9 = f82_15 := fld_of h82_31
  have hf48 : fld w 82 10 = f82_17 := fld_of h82_31
  have hf49 : fld w 82 14 = f82_19 := fld_of h82_31
  have hcs50 := hT.cs
  obtain ⟨g112_51, h112_52, hb53⟩ := (hI 112 (by decide) (by decide) : cpI 320 79 4294967295 (wget w 112))
  have h112_52 : xRow w 112 320 79 g112_51 := h112_52
  have hl54 : f82_19 ≤ 501 := by omega
  refine xg_t (xg_blk (b := [(107, 1, 0, 0, 0, 0), (108, 3, 1, 12, 10, 180), (111, 3, 7, 136, 1, 0), (114, 1, 0, 0, 0, 0), (115, 3, 1, 12, 7, 151), (118, 1, 3, 3, 0, 0), (119, 3, 6, 136, 1, 0), (122, 1, 0, 0, 0, 0), (123, 3, 1, 12, 9, 165), (126, 2, 4, 40, 0, 0), (128, 2, 4, 42, 0, 0), (130, 3, 13, 161, 98, 105), (133, 3, 7, 141, 1, 0)]) rfl) ?_
  refine xg_t (xg_aload (va := (2, 82)) rfl rfl) ?_
  refine xg_t (xg_getf (va := (0, f82_17)) h82_31 rfl) ?_
  refine xg_t (xg_ifF (u := f82_17) rfl xnm0 (xj_neF (by omega))) ?_
  refine xg_t (xg_aload (va := (2, 82)) rfl rfl) ?_
  refine xg_t (xg_getf (va := (0, f82_11)) h82_31 rfl) ?_
  refine xg_t (xg_const) ?_
  by_cases hc55 : f82_11 = 3
  · refine xg_t (xg_icF (u := f82_11) (v := 3) rfl xnm0 xnm0 (xj_neF hc55)) ?_
    refine xg_t (xg_aload (va := (2, 82)) rfl rfl) ?_
    refine xg_t (xg_getf (va := (0, f82_15)) h82_31 rfl) ?_
    have hn56 : f82_15 ≤ 4294967295 := hb16
    refine xg_t (xg_bip) ?_
    refine xg_t (xg_bip) ?_
    refine xg_t (xg_cSr mX12_isIn (vs := [(0, f82_15), (0, 40), (0, 42)]) (rest := []) (rs := [(0, if 40 ≤ f82_15 ∧ f82_15 ≤ 42 then 1 else 0)]) (cn1 := 0) (sl1 := 0) rfl (mIsIn (by omega) (by omega) (by omega)) rfl rfl rfl rfl rfl rfl rfl rfl) ?_
    by_cases hc57 : 40 ≤ f82_15 ∧ f82_15 ≤ 42
    · refine xg_t (xg_ifT (u := (if 40 ≤ f82_15 ∧ f82_15 ≤ 42 then 1 else 0)) rfl xnm0 (xj_neT (xite1 hc57))) ?_
      refine xg_t (xg_blk (b := [(141, 1, 0, 0, 0, 0), (142, 3, 1, 12, 9, 165), (145, 1, 15, 2, 0, 0), (146, 1, 0, 0, 0, 0), (147, 3, 13, 110, 96, 190), (150, 1, 2, 2, 0, 0), (151, 2, 4, 40, 0, 0), (153, 3, 6, 160, 1, 0), (156, 1, 3, 0, 0, 0), (157, 3, 8, 164, 0, 0)]) rfl) ?_
      refine xg_t (xg_aload (va := (2, 82)) rfl rfl) ?_
      refine xg_t (xg_getf (va := (0, f82_15)) h82_31 rfl) ?_
      refine xg_t (xg_istore (l1 := [(0, (2, 82)), (1, (0, kr))]) rfl rfl rfl) ?_
      refine xg_t (xg_aload (va := (2, 82)) rfl rfl) ?_
      obtain ⟨⟨ht58, ht59, ht60, ht61, ht62, ht63⟩, -⟩ := id hT
      have hk64 := h10
      have hk65 := (rfl : fld w 82 14 = fld w 82 14)
      refine xg_cVv mX12_advance (vs := []) (rest := []) (cn1 := 0) (sl1 := 0) rfl (mAdvX (hI) hB ht58 ht59 (by rw [ht60]; exact tf_le ht63)) rfl h82_31 rfl rfl rfl rfl rfl rfl (fun w66 hq67 => ?_)
      obtain ⟨hI68, hF69, hx70⟩ := hq67
      obtain ⟨hz71, hz72, hz73⟩ := hx70
      rw [ht60] at hz71
      clear ht58 ht59 ht60 ht61 ht62 ht63
      obtain ⟨p_74, hp75⟩ : ∃ x, x = tf B nn p := ⟨_, rfl⟩
      rw [← hp75] at hz71
      have k10_76 := hz72.trans hk64
      have k14_77 := hz73.trans hk65
      clear hz72 hz73 hk64 hk65
      refine xg_t (xg_iload (va := (0, f82_15)) rfl rfl) ?_
      refine xg_t (xg_bip) ?_
      by_cases hc78 : f82_15 = 40
      · refine xg_t (xg_icF (u := f82_15) (v := 40) rfl xnm0 xnm0 (xj_neF hc78)) ?_
        refine xg_t (xg_const) ?_
        refine xg_t (xg_goto) ?_
        refine xg_t (xg_blk (b := [(164, 1, 15, 3, 0, 0), (165, 1, 0, 0, 0, 0), (166, 2, 4, 59, 0, 0), (168, 3, 13, 195, 96, 427), (171, 1, 0, 0, 0, 0), (172, 1, 3, 0, 0, 0), (173, 1, 2, 1, 0, 0), (174, 3, 13, 214, 96, 424), (177, 1, 0, 0, 0, 0), (178, 2, 4, 17, 0, 0), (180, 1, 2, 2, 0, 0), (181, 3, 13, 214, 96, 424), (184, 1, 0, 0, 0, 0), (185, 2, 4, 18, 0, 0), (187, 1, 2, 3, 0, 0), (188, 3, 13, 214, 96, 424), (191, 1, 0, 0, 0, 0), (192, 1, 19, 0, 0, 0), (193, 3, 1, 12, 14, 212), (196, 1, 3, 1, 0, 0), (197, 1, 11, 0, 0, 0), (198, 3, 14, 12, 14, 212), (201, 1, 12, 0, 0, 0)]) rfl) ?_
        refine xg_t (xg_istore (l1 := [(2, (0, f82_15)), (0, (2, 82)), (1, (0, kr))]) rfl rfl rfl) ?_
        refine xg_t (xg_aload (va := (2, 82)) rfl rfl) ?_
        refine xg_t (xg_bip) ?_
        have hk79 := k14_77
        obtain ⟨f82_80, f82_82, f82_84, f82_86, f82_88, f82_90, f82_92, f82_94, f82_96, f82_98, f82_100, f82_101, f82_102, f82_104, f82_106, f82_108, h82_110, hb81, hb83, hb85, hb87, hb89, hb91, hb93, hb95, hb97, hb99, hb103, hb105, hb107, hb109, hb111⟩ := (hI68 82 (by decide) (by decide) : cp82 (wget w66 82))
        replace hb83 := xHid.of hb83
        replace hb89 := xHid.of hb89
        replace hb93 := xHid.of hb93
        replace hb95 := xHid.of hb95
        replace hb99 := xHid.of hb99
        replace hb103 := xHid.of hb103
        replace hb105 := xHid.of hb105
        replace hb107 := xHid.of hb107
        replace hb109 := xHid.of hb109
        refine xg_cVv mX12_must (vs := [(0, 59)]) (rest := []) (cn1 := 0) (sl1 := 0) rfl (mMustX (hI68) (by omega) (hB.fr (fun j h4 h9 => (K83.fr hF69 (by decide)) j (by omega) (by omega) (by omega))) hz71 k10_76) rfl h82_110 rfl rfl rfl rfl rfl rfl (fun w112 hq113 => ?_)
        obtain ⟨hI114, hF115, hx116⟩ := hq113
        obtain ⟨hn117, hn118, hn119⟩ := hx116
        have hk124 := hn118.trans hk79
        rcases hn117 with ⟨hx120, hx121, hx122, hx123⟩ | ⟨hx120, hx121⟩
        · obtain ⟨p_125, hp126⟩ : ∃ x, x = tf B nn p_74 := ⟨_, rfl⟩
          rw [← hp126] at hx121
          refine xg_t (xg_aload (va := (2, 82)) rfl rfl) ?_
          refine xg_t (xg_const) ?_
          refine xg_t (xg_iload (va := (0, kr)) rfl rfl) ?_
          have hl127 : fld w112 82 14 = fld w 82 14 := hk124
          obtain ⟨f82_128, f82_130, f82_132, f82_134, f82_136, f82_138, f82_140, f82_142, f82_144, f82_146, f82_148, f82_149, f82_150, f82_152, f82_154, f82_156, h82_158, hb129, hb131, hb133, hb135, hb137, hb139, hb141, hb143, hb145, hb147, hb151, hb153, hb155, hb157, hb159⟩ := (hI114 82 (by decide) (by decide) : cp82 (wget w112 82))
          replace hb131 := xHid.of hb131
          replace hb137 := xHid.of hb137
          replace hb141 := xHid.of hb141
          replace hb143 := xHid.of hb143
          replace hb147 := xHid.of hb147
          replace hb151 := xHid.of hb151
          replace hb153 := xHid.of hb153
          replace hb155 := xHid.of hb155
          replace hb157 := xHid.of hb157
          refine xg_cVv mX12_rulePuts (vs := [(0, 0), (0, kr)]) (rest := []) (cn1 := 0) (sl1 := 0) rfl (mRulePuts (hI114) (by omega) (by omega) (by omega)) rfl h82_158 rfl rfl rfl rfl rfl rfl (fun w160 hq161 => ?_)
          obtain ⟨hI162, hF163, hx164⟩ := hq161
          refine xg_t (xg_aload (va := (2, 82)) rfl rfl) ?_
          refine xg_t (xg_bip) ?_
          refine xg_t (xg_iload (va := (0, f82_15)) rfl rfl) ?_
          have hl165 : fld w160 82 14 = fld w 82 14 := ((fld_eq (j := 14) (hF163.1 82 (by decide))).trans hk124)
          refine xg_cVv mX12_rulePuts (vs := [(0, 17), (0, f82_15)]) (rest := []) (cn1 := 0) (sl1 := 0) rfl (mRulePuts (hI162) (by omega) (by omega) (by omega)) rfl (hF163.get (by decide) h82_158) rfl rfl rfl rfl rfl rfl (fun w166 hq167 => ?_)
          obtain ⟨hI168, hF169, hx170⟩ := hq167
          refine xg_t (xg_aload (va := (2, 82)) rfl rfl) ?_
          refine xg_t (xg_bip) ?_
          refine xg_t (xg_iload (va := (0, 0)) rfl rfl) ?_
          have hl171 : fld w166 82 14 = fld w 82 14 := ((fld_eq (j := 14) ((hF169.1 82 (by decide)).trans (hF163.1 82 (by decide)))).trans hk124)
          refine xg_cVv mX12_rulePuts (vs := [(0, 18), (0, 0)]) (rest := []) (cn1 := 0) (sl1 := 0) rfl (mRulePuts (hI168) (by omega) (by omega) (by omega)) rfl (hF169.get (by decide) (hF163.get (by decide) h82_158)) rfl rfl rfl rfl rfl rfl (fun w172 hq173 => ?_)
          obtain ⟨hI174, hF175, hx176⟩ := hq173
          have hro177 : RO2 w w172 (fld w 82 14) := fun l hl hn => by
            rw [(hx176 (20 * l) (by omega)).2 (by omega)]
            rw [(hx170 (20 * l) (by omega)).2 (by omega)]
            rw [(hx164 (20 * l) (by omega)).2 (by omega)]
            exact ((rwv_fr hF115 (by decide)).trans (rwv_fr hF69 (by decide)))
          have hrk178 : fld w 82 14 < 16 → rwv w172 112 (20 * fld w 82 14) = kr := fun h6 => by
            rw [(hx176 (20 * fld w 82 14) (by omega)).2 (by omega)]
            rw [(hx170 (20 * fld w 82 14) (by omega)).2 (by omega)]
            exact (hx164 (20 * fld w 82 14) (by omega)).1 ⟨by omega, by omega⟩
          have hf179 : fld w172 82 10 = f82_144 := fld_of (hF175.get (by decide) (hF169.get (by decide) (hF163.get (by decide) h82_158)))
          have hf180 : fld w172 82 14 = f82_146 := fld_of (hF175.get (by decide) (hF169.get (by decide) (hF163.get (by decide) h82_158)))
          have hl181 : fld w172 82 14 = fld w 82 14 := ((fld_eq (j := 14) ((hF175.1 82 (by decide)).trans ((hF169.1 82 (by decide)).trans (hF163.1 82 (by decide))))).trans hk124)
          have hl182 : f82_146 ≤ 501 := by omega
          refine xg_t (xg_aload (va := (2, 82)) rfl rfl) ?_
          refine xg_t (xg_dup rfl) ?_
          refine xg_t (xg_getf (va := (0, f82_146)) (hF175.get (by decide) (hF169.get (by decide) (hF163.get (by decide) h82_158))) rfl) ?_
          have hn183 := id hb147
          unfold xHid at hn183
          refine xg_t (xg_const) ?_
          refine xg_t (xg_iadd (u := f82_146) (v := 1) (z := f82_146 + 1) xnm0 xnm0 (by omega)) ?_
          refine xg_putI (fl1 := [(2, 83), (2, 84), (0, f82_128), (0, f82_130), (0, f82_132), (0, f82_134), (0, f82_136), (0, f82_138), (0, f82_140), (0, f82_142), (0, f82_144), (2, 85), (2, 86), (2, 87), (0, f82_146 + 1), (2, 88), (2, 89), (2, 90), (2, 91), (2, 92), (2, 93), (2, 94), (4, f82_148), (4, f82_149), (0, f82_150), (2, 95), (2, 96), (2, 97), (2, 98), (2, 99), (2, 100), (2, 101), (2, 102), (0, f82_152), (2, 103), (2, 104), (2, 105), (2, 106), (2, 107), (2, 108), (2, 109), (0, f82_154), (0, f82_156), (2, 110), (2, 111), (2, 112), (2, 113)]) (hF175.get (by decide) (hF169.get (by decide) (hF163.get (by decide) h82_158))) rfl rfl rfl (fun w184 hk185 hb186 => ?_)
          have hf188 : fld w184 82 14 = f82_146 + 1 := fld_of hk185
          have hq187 : fld w184 82 14 = fld w 82 14 + 1 := by have y := hf188; omega
          have hr189 : (rvR B nn p fp) = (true, p_125, fp) := by rw [rvR_1 (by omega), ← hp75, rvS_y hx120, ← hp126]
          have hf190 : fld w184 82 2 = f82_128 := fld_of hk185
          have hf191 : fld w184 82 3 = f82_130 := fld_of hk185
          have hf192 : fld w184 82 4 = f82_132 := fld_of hk185
          have hf193 : fld w184 82 5 = f82_134 := fld_of hk185
          have hf194 : fld w184 82 6 = f82_136 := fld_of hk185
          have hf195 : fld w184 82 7 = f82_138 := fld_of hk185
          have hf196 : fld w184 82 8 = f82_140 := fld_of hk185
          have hf197 : fld w184 82 9 = f82_142 := fld_of hk185
          have hf198 : fld w184 82 10 = f82_144 := fld_of hk185
          have hq200 : fld w172 82 2 = f82_128 := fld_of (hF175.get (by decide) (hF169.get (by decide) (hF163.get (by decide) h82_158)))
          have hq199 : fld w184 82 2 = fld w172 82 2 := hf190.trans hq200.symm
          have hq202 : fld w172 82 3 = f82_130 := fld_of (hF175.get (by decide) (hF169.get (by decide) (hF163.get (by decide) h82_158)))
          have hq201 : fld w184 82 3 = fld w172 82 3 := hf191.trans hq202.symm
          have hq204 : fld w172 82 4 = f82_132 := fld_of (hF175.get (by decide) (hF169.get (by decide) (hF163.get (by decide) h82_158)))
          have hq203 : fld w184 82 4 = fld w172 82 4 := hf192.trans hq204.symm
          have hq206 : fld w172 82 5 = f82_134 := fld_of (hF175.get (by decide) (hF169.get (by decide) (hF163.get (by decide) h82_158)))
          have hq205 : fld w184 82 5 = fld w172 82 5 := hf193.trans hq206.symm
          have hq208 : fld w172 82 6 = f82_136 := fld_of (hF175.get (by decide) (hF169.get (by decide) (hF163.get (by decide) h82_158)))
          have hq207 : fld w184 82 6 = fld w172 82 6 := hf194.trans hq208.symm
          have hq210 : fld w172 82 7 = f82_138 := fld_of (hF175.get (by decide) (hF169.get (by decide) (hF163.get (by decide) h82_158)))
          have hq209 : fld w184 82 7 = fld w172 82 7 := hf195.trans hq210.symm
          have hq212 : fld w172 82 8 = f82_140 := fld_of (hF175.get (by decide) (hF169.get (by decide) (hF163.get (by decide) h82_158)))
          have hq211 : fld w184 82 8 = fld w172 82 8 := hf196.trans hq212.symm
          have hq214 : fld w172 82 9 = f82_142 := fld_of (hF175.get (by decide) (hF169.get (by decide) (hF163.get (by decide) h82_158)))
          have hq213 : fld w184 82 9 = fld w172 82 9 := hf197.trans hq214.symm
          have hq216 : fld w172 82 10 = f82_144 := fld_of (hF175.get (by decide) (hF169.get (by decide) (hF163.get (by decide) h82_158)))
          have hq215 : fld w184 82 10 = fld w172 82 10 := hf198.trans hq216.symm
          have hT217 : TKM 1 B nn w184 p_125 := by
            have q := (hx121.fr ((hF175.1 82 (by decide)).trans ((hF169.1 82 (by decide)).trans (hF163.1 82 (by decide)))))
            unfold TKM at q ⊢
            rw [hq199, hq201, hq203, hq205, hq207, hq209, hq211, hq213]
            exact q
          exact xg_e ⟨w184, ⟨rfl, rfl⟩, xMnv.up (S := [82]) hI174 (xFr.of (S := [82]) hb186 (by decide)) (List.forall_mem_cons.mpr ⟨(show cp82 (wget w184 82) from ⟨f82_128, f82_130, f82_132, f82_134, f82_136, f82_138, f82_140, f82_142, f82_144, f82_146 + 1, f82_148, f82_149, f82_150, f82_152, f82_154, f82_156, hk185, by omega, hb131, by omega, by omega, hb137, by omega, hb141, hb143, by omega, by omega, hb151, hb153, hb155, hb157, by omega⟩), fun _ h => absurd h List.not_mem_nil⟩), ((((((hF69.up (by decide)).tr (hF115.up (by decide))).tr (hF163.up (by decide))).tr (hF169.up (by decide))).tr (hF175.up (by decide))).tr (xFr.of (S := [82, 83, 112]) hb186 (by decide))), ⟨Or.inl ⟨congrArg Prod.fst hr189, by rw [hr189]; exact hT217, (hq215.trans ((fld_eq (j := 10) ((hF175.1 82 (by decide)).trans ((hF169.1 82 (by decide)).trans (hF163.1 82 (by decide))))).trans hx122)), hq187, ((hb186.1 83 (by decide)).trans ((hF175.1 83 (by decide)).trans ((hF169.1 83 (by decide)).trans ((hF163.1 83 (by decide)).trans (hx123.trans (hF69.1 83 (by decide))))))), fun l hl hn => (rwv_eq (hb186.1 112 (by decide))).trans (hro177 l hl hn), fun h6 => (rwv_eq (hb186.1 112 (by decide))).trans (hrk178 h6)⟩, ((((((K83.fr hF69 (by decide)).tr hn119).tr (K83.fr hF163 (by decide))).tr (K83.fr hF169 (by decide))).tr (K83.fr hF175 (by decide))).tr (K83.but hb186 (by decide)))⟩⟩
        · refine xg_t (xg_aload (va := (2, 82)) rfl rfl) ?_
          refine xg_t (xg_const) ?_
          refine xg_t (xg_iload (va := (0, kr)) rfl rfl) ?_
          have hl218 : fld w112 82 14 = fld w 82 14 := hk124
          obtain ⟨f82_219, f82_221, f82_223, f82_225, f82_227, f82_229, f82_231, f82_233, f82_235, f82_237, f82_239, f82_240, f82_241, f82_243, f82_245, f82_247, h82_249, hb220, hb222, hb224, hb226, hb228, hb230, hb232, hb234, hb236, hb238, hb242, hb244, hb246, hb248, hb250⟩ := (hI114 82 (by decide) (by decide) : cp82 (wget w112 82))
          replace hb222 := xHid.of hb222
          replace hb228 := xHid.of hb228
          replace hb232 := xHid.of hb232
          replace hb234 := xHid.of hb234
          replace hb238 := xHid.of hb238
          replace hb242 := xHid.of hb242
          replace hb244 := xHid.of hb244
          replace hb246 := xHid.of hb246
          replace hb248 := xHid.of hb248
          refine xg_cVv mX12_rulePuts (vs := [(0, 0), (0, kr)]) (rest := []) (cn1 := 0) (sl1 := 0) rfl (mRulePuts (hI114) (by omega) (by omega) (by omega)) rfl h82_249 rfl rfl rfl rfl rfl rfl (fun w251 hq252 => ?_)
          obtain ⟨hI253, hF254, hx255⟩ := hq252
          refine xg_t (xg_aload (va := (2, 82)) rfl rfl) ?_
          refine xg_t (xg_bip) ?_
          refine xg_t (xg_iload (va := (0, f82_15)) rfl rfl) ?_
          have hl256 : fld w251 82 14 = fld w 82 14 := ((fld_eq (j := 14) (hF254.1 82 (by decide))).trans hk124)
          refine xg_cVv mX12_rulePuts (vs := [(0, 17), (0, f82_15)]) (rest := []) (cn1 := 0) (sl1 := 0) rfl (mRulePuts (hI253) (by omega) (by omega) (by omega)) rfl (hF254.get (by decide) h82_249) rfl rfl rfl rfl rfl rfl (fun w257 hq258 => ?_)
          obtain ⟨hI259, hF260, hx261⟩ := hq258
          refine xg_t (xg_aload (va := (2, 82)) rfl rfl) ?_
          refine xg_t (xg_bip) ?_
          refine xg_t (xg_iload (va := (0, 0)) rfl rfl) ?_
          have hl262 : fld w257 82 14 = fld w 82 14 := ((fld_eq (j := 14) ((hF260.1 82 (by decide)).trans (hF254.1 82 (by decide)))).trans hk124)
          refine xg_cVv mX12_rulePuts (vs := [(0, 18), (0, 0)]) (rest := []) (cn1 := 0) (sl1 := 0) rfl (mRulePuts (hI259) (by omega) (by omega) (by omega)) rfl (hF260.get (by decide) (hF254.get (by decide) h82_249)) rfl rfl rfl rfl rfl rfl (fun w263 hq264 => ?_)
          obtain ⟨hI265, hF266, hx267⟩ := hq264
          have hf268 : fld w263 82 10 = f82_235 := fld_of (hF266.get (by decide) (hF260.get (by decide) (hF254.get (by decide) h82_249)))
          have hf269 : fld w263 82 14 = f82_237 := fld_of (hF266.get (by decide) (hF260.get (by decide) (hF254.get (by decide) h82_249)))
          have hl270 : fld w263 82 14 = fld w 82 14 := ((fld_eq (j := 14) ((hF266.1 82 (by decide)).trans ((hF260.1 82 (by decide)).trans (hF254.1 82 (by decide))))).trans hk124)
          have hl271 : f82_237 ≤ 501 := by omega
          refine xg_t (xg_aload (va := (2, 82)) rfl rfl) ?_
          refine xg_t (xg_dup rfl) ?_
          refine xg_t (xg_getf (va := (0, f82_237)) (hF266.get (by decide) (hF260.get (by decide) (hF254.get (by decide) h82_249))) rfl) ?_
          have hn272 := id hb238
          unfold xHid at hn272
          refine xg_t (xg_const) ?_
          refine xg_t (xg_iadd (u := f82_237) (v := 1) (z := f82_237 + 1) xnm0 xnm0 (by omega)) ?_
          refine xg_putI (fl1 := [(2, 83), (2, 84), (0, f82_219), (0, f82_221), (0, f82_223), (0, f82_225), (0, f82_227), (0, f82_229), (0, f82_231), (0, f82_233), (0, f82_235), (2, 85), (2, 86), (2, 87), (0, f82_237 + 1), (2, 88), (2, 89), (2, 90), (2, 91), (2, 92), (2, 93), (2, 94), (4, f82_239), (4, f82_240), (0, f82_241), (2, 95), (2, 96), (2, 97), (2, 98), (2, 99), (2, 100), (2, 101), (2, 102), (0, f82_243), (2, 103), (2, 104), (2, 105), (2, 106), (2, 107), (2, 108), (2, 109), (0, f82_245), (0, f82_247), (2, 110), (2, 111), (2, 112), (2, 113)]) (hF266.get (by decide) (hF260.get (by decide) (hF254.get (by decide) h82_249))) rfl rfl rfl (fun w273 hk274 hb275 => ?_)
          have hf277 : fld w273 82 14 = f82_237 + 1 := fld_of hk274
          have hq276 : fld w273 82 14 = fld w 82 14 + 1 := by have y := hf277; omega
          have hr278 : (rvR B nn p fp) = (false, p_74, fp) := by rw [rvR_1 (by omega), ← hp75, rvS_n hx120]
          have hf283 : fld w273 82 10 = f82_235 := fld_of hk274
          have hq282 : fld w273 82 10 = fld w263 82 10 := hf283.trans hf268.symm
          have hW279 : WRG w273 _ := ⟨(hq282.trans ((fld_eq (j := 10) ((hF266.1 82 (by decide)).trans ((hF260.1 82 (by decide)).trans (hF254.1 82 (by decide))))).trans hx121.1)), (rwv_eq ((hb275.1 83 (by decide)).trans ((hF266.1 83 (by decide)).trans ((hF260.1 83 (by decide)).trans (hF254.1 83 (by decide)))))).trans hx121.2.1, (rwv_eq ((hb275.1 83 (by decide)).trans ((hF266.1 83 (by decide)).trans ((hF260.1 83 (by decide)).trans (hF254.1 83 (by decide)))))).trans hx121.2.2⟩
          exact xg_e ⟨w273, ⟨rfl, rfl⟩, xMnv.up (S := [82]) hI265 (xFr.of (S := [82]) hb275 (by decide)) (List.forall_mem_cons.mpr ⟨(show cp82 (wget w273 82) from ⟨f82_219, f82_221, f82_223, f82_225, f82_227, f82_229, f82_231, f82_233, f82_235, f82_237 + 1, f82_239, f82_240, f82_241, f82_243, f82_245, f82_247, hk274, by omega, hb222, by omega, by omega, hb228, by omega, hb232, hb234, by omega, by omega, hb242, hb244, hb246, hb248, by omega⟩), fun _ h => absurd h List.not_mem_nil⟩), ((((((hF69.up (by decide)).tr (hF115.up (by decide))).tr (hF254.up (by decide))).tr (hF260.up (by decide))).tr (hF266.up (by decide))).tr (xFr.of (S := [82, 83, 112]) hb275 (by decide))), ⟨Or.inr ⟨congrArg Prod.fst hr278, by rw [hr278]; exact hW279, Or.inr hq276⟩, ((((((K83.fr hF69 (by decide)).tr hn119).tr (K83.fr hF254 (by decide))).tr (K83.fr hF260 (by decide))).tr (K83.fr hF266 (by decide))).tr (K83.but hb275 (by decide)))⟩⟩
      · refine xg_t (xg_icT (u := f82_15) (v := 40) rfl xnm0 xnm0 (xj_neT hc78)) ?_
        refine xg_t (xg_blk (b := [(160, 1, 0, 0, 0, 0), (161, 3, 13, 198, 96, 418)]) rfl) ?_
        refine xg_t (xg_aload (va := (2, 82)) rfl rfl) ?_
        have hk284 := k14_77
        obtain ⟨f82_285, f82_287, f82_289, f82_291, f82_293, f82_295, f82_297, f82_299, f82_301, f82_303, f82_305, f82_306, f82_307, f82_309, f82_311, f82_313, h82_315, hb286, hb288, hb290, hb292, hb294, hb296, hb298, hb300, hb302, hb304, hb308, hb310, hb312, hb314, hb316⟩ := (hI68 82 (by decide) (by decide) : cp82 (wget w66 82))
        replace hb288 := xHid.of hb288
        replace hb294 := xHid.of hb294
        replace hb298 := xHid.of hb298
        replace hb300 := xHid.of hb300
        replace hb304 := xHid.of hb304
        replace hb308 := xHid.of hb308
        replace hb310 := xHid.of hb310
        replace hb312 := xHid.of hb312
        replace hb314 := xHid.of hb314
        refine xg_cVi mX12_numberNow (vs := []) (rest := []) (cn1 := 0) (sl1 := 0) rfl (mNumbNowX (hI68) (hB.fr (fun j h4 h9 => (K83.fr hF69 (by decide)) j (by omega) (by omega) (by omega))) hz71 k10_76) rfl h82_315 rfl rfl rfl rfl rfl rfl (fun n321 w317 hq318 => ?_)
        obtain ⟨hn322, hI319, hF320⟩ := hq318
        obtain ⟨hn323, hn324, hn325, hn326⟩ := hn322
        have hk331 := hn325.trans hk284
        rcases hn324 with ⟨hx327, hx328, hx329, hx330⟩ | ⟨hx327, hx328⟩
        · obtain ⟨p_332, hp333⟩ : ∃ x, x = tf B nn p_74 := ⟨_, rfl⟩
          rw [← hp333] at hx328
          refine xg_t (xg_blk (b := [(164, 1, 15, 3, 0, 0), (165, 1, 0, 0, 0, 0), (166, 2, 4, 59, 0, 0), (168, 3, 13, 195, 96, 427), (171, 1, 0, 0, 0, 0), (172, 1, 3, 0, 0, 0), (173, 1, 2, 1, 0, 0), (174, 3, 13, 214, 96, 424), (177, 1, 0, 0, 0, 0), (178, 2, 4, 17, 0, 0), (180, 1, 2, 2, 0, 0), (181, 3, 13, 214, 96, 424), (184, 1, 0, 0, 0, 0), (185, 2, 4, 18, 0, 0), (187, 1, 2, 3, 0, 0), (188, 3, 13, 214, 96, 424), (191, 1, 0, 0, 0, 0), (192, 1, 19, 0, 0, 0), (193, 3, 1, 12, 14, 212), (196, 1, 3, 1, 0, 0), (197, 1, 11, 0, 0, 0), (198, 3, 14, 12, 14, 212), (201, 1, 12, 0, 0, 0)]) rfl) ?_
          refine xg_t (xg_istore (l1 := [(2, (0, f82_15)), (0, (2, 82)), (1, (0, kr))]) rfl rfl rfl) ?_
          refine xg_t (xg_aload (va := (2, 82)) rfl rfl) ?_
          refine xg_t (xg_bip) ?_
          have hk334 := hk331
          obtain ⟨f82_335, f82_337, f82_339, f82_341, f82_343, f82_345, f82_347, f82_349, f82_351, f82_353, f82_355, f82_356, f82_357, f82_359, f82_361, f82_363, h82_365, hb336, hb338, hb340, hb342, hb344, hb346, hb348, hb350, hb352, hb354, hb358, hb360, hb362, hb364, hb366⟩ := (hI319 82 (by decide) (by decide) : cp82 (wget w317 82))
          replace hb338 := xHid.of hb338
          replace hb344 := xHid.of hb344
          replace hb348 := xHid.of hb348
          replace hb350 := xHid.of hb350
          replace hb354 := xHid.of hb354
          replace hb358 := xHid.of hb358
          replace hb360 := xHid.of hb360
          replace hb362 := xHid.of hb362
          replace hb364 := xHid.of hb364
          refine xg_cVv mX12_must (vs := [(0, 59)]) (rest := []) (cn1 := 0) (sl1 := 0) rfl (mMustX (hI319) (by omega) (hB.fr (fun j h4 h9 => ((K83.fr hF69 (by decide)).tr hn326) j (by omega) (by omega) (by omega))) hx328 hx329) rfl h82_365 rfl rfl rfl rfl rfl rfl (fun w367 hq368 => ?_)
          obtain ⟨hI369, hF370, hx371⟩ := hq368
          obtain ⟨hn372, hn373, hn374⟩ := hx371
          have hk379 := hn373.trans hk334
          rcases hn372 with ⟨hx375, hx376, hx377, hx378⟩ | ⟨hx375, hx376⟩
          · obtain ⟨p_380, hp381⟩ : ∃ x, x = tf B nn p_332 := ⟨_, rfl⟩
            rw [← hp381] at hx376
            refine xg_t (xg_aload (va := (2, 82)) rfl rfl) ?_
            refine xg_t (xg_const) ?_
            refine xg_t (xg_iload (va := (0, kr)) rfl rfl) ?_
            have hl382 : fld w367 82 14 = fld w 82 14 := hk379
            obtain ⟨f82_383, f82_385, f82_387, f82_389, f82_391, f82_393, f82_395, f82_397, f82_399, f82_401, f82_403, f82_404, f82_405, f82_407, f82_409, f82_411, h82_413, hb384, hb386, hb388, hb390, hb392, hb394, hb396, hb398, hb400, hb402, hb406, hb408, hb410, hb412, hb414⟩ := (hI369 82 (by decide) (by decide) : cp82 (wget w367 82))
            replace hb386 := xHid.of hb386
            replace hb392 := xHid.of hb392
            replace hb396 := xHid.of hb396
            replace hb398 := xHid.of hb398
            replace hb402 := xHid.of hb402
            replace hb406 := xHid.of hb406
            replace hb408 := xHid.of hb408
            replace hb410 := xHid.of hb410
            replace hb412 := xHid.of hb412
            refine xg_cVv mX12_rulePuts (vs := [(0, 0), (0, kr)]) (rest := []) (cn1 := 0) (sl1 := 0) rfl (mRulePuts (hI369) (by omega) (by omega) (by omega)) rfl h82_413 rfl rfl rfl rfl rfl rfl (fun w415 hq416 => ?_)
            obtain ⟨hI417, hF418, hx419⟩ := hq416
            refine xg_t (xg_aload (va := (2, 82)) rfl rfl) ?_
            refine xg_t (xg_bip) ?_
            refine xg_t (xg_iload (va := (0, f82_15)) rfl rfl) ?_
            have hl420 : fld w415 82 14 = fld w 82 14 := ((fld_eq (j := 14) (hF418.1 82 (by decide))).trans hk379)
            refine xg_cVv mX12_rulePuts (vs := [(0, 17), (0, f82_15)]) (rest := []) (cn1 := 0) (sl1 := 0) rfl (mRulePuts (hI417) (by omega) (by omega) (by omega)) rfl (hF418.get (by decide) h82_413) rfl rfl rfl rfl rfl rfl (fun w421 hq422 => ?_)
            obtain ⟨hI423, hF424, hx425⟩ := hq422
            refine xg_t (xg_aload (va := (2, 82)) rfl rfl) ?_
            refine xg_t (xg_bip) ?_
            refine xg_t (xg_iload (va := (0, n321)) rfl rfl) ?_
            have hl426 : fld w421 82 14 = fld w 82 14 := ((fld_eq (j := 14) ((hF424.1 82 (by decide)).trans (hF418.1 82 (by decide)))).trans hk379)
            refine xg_cVv mX12_rulePuts (vs := [(0, 18), (0, n321)]) (rest := []) (cn1 := 0) (sl1 := 0) rfl (mRulePuts (hI423) (by omega) (by omega) (by omega)) rfl (hF424.get (by decide) (hF418.get (by decide) h82_413)) rfl rfl rfl rfl rfl rfl (fun w427 hq428 => ?_)
            obtain ⟨hI429, hF430, hx431⟩ := hq428
            have hro432 : RO2 w w427 (fld w 82 14) := fun l hl hn => by
              rw [(hx431 (20 * l) (by omega)).2 (by omega)]
              rw [(hx425 (20 * l) (by omega)).2 (by omega)]
              rw [(hx419 (20 * l) (by omega)).2 (by omega)]
              exact ((rwv_fr hF370 (by decide)).trans ((rwv_fr hF320 (by decide)).trans (rwv_fr hF69 (by decide))))
            have hrk433 : fld w 82 14 < 16 → rwv w427 112 (20 * fld w 82 14) = kr := fun h6 => by
              rw [(hx431 (20 * fld w 82 14) (by omega)).2 (by omega)]
              rw [(hx425 (20 * fld w 82 14) (by omega)).2 (by omega)]
              exact (hx419 (20 * fld w 82 14) (by omega)).1 ⟨by omega, by omega⟩
            have hf434 : fld w427 82 10 = f82_399 := fld_of (hF430.get (by decide) (hF424.get (by decide) (hF418.get (by decide) h82_413)))
            have hf435 : fld w427 82 14 = f82_401 := fld_of (hF430.get (by decide) (hF424.get (by decide) (hF418.get (by decide) h82_413)))
            have hl436 : fld w427 82 14 = fld w 82 14 := ((fld_eq (j := 14) ((hF430.1 82 (by decide)).trans ((hF424.1 82 (by decide)).trans (hF418.1 82 (by decide))))).trans hk379)
            have hl437 : f82_401 ≤ 501 := by omega
            refine xg_t (xg_aload (va := (2, 82)) rfl rfl) ?_
            refine xg_t (xg_dup rfl) ?_
            refine xg_t (xg_getf (va := (0, f82_401)) (hF430.get (by decide) (hF424.get (by decide) (hF418.get (by decide) h82_413))) rfl) ?_
            have hn438 := id hb402
            unfold xHid at hn438
            refine xg_t (xg_const) ?_
            refine xg_t (xg_iadd (u := f82_401) (v := 1) (z := f82_401 + 1) xnm0 xnm0 (by omega)) ?_
            refine xg_putI (fl1 := [(2, 83), (2, 84), (0, f82_383), (0, f82_385), (0, f82_387), (0, f82_389), (0, f82_391), (0, f82_393), (0, f82_395), (0, f82_397), (0, f82_399), (2, 85), (2, 86), (2, 87), (0, f82_401 + 1), (2, 88), (2, 89), (2, 90), (2, 91), (2, 92), (2, 93), (2, 94), (4, f82_403), (4, f82_404), (0, f82_405), (2, 95), (2, 96), (2, 97), (2, 98), (2, 99), (2, 100), (2, 101), (2, 102), (0, f82_407), (2, 103), (2, 104), (2, 105), (2, 106), (2, 107), (2, 108), (2, 109), (0, f82_409), (0, f82_411), (2, 110), (2, 111), (2, 112), (2, 113)]) (hF430.get (by decide) (hF424.get (by decide) (hF418.get (by decide) h82_413))) rfl rfl rfl (fun w439 hk440 hb441 => ?_)
            have hf443 : fld w439 82 14 = f82_401 + 1 := fld_of hk440
            have hq442 : fld w439 82 14 = fld w 82 14 + 1 := by have y := hf443; omega
            have hr444 : (rvR B nn p fp) = (true, p_380, fp) := by rw [rvR_2 (by omega) (by omega) (by rw [← hp75]; omega), ← hp75, ← hp333, rvS_y hx375, ← hp381]
            have hf445 : fld w439 82 2 = f82_383 := fld_of hk440
            have hf446 : fld w439 82 3 = f82_385 := fld_of hk440
            have hf447 : fld w439 82 4 = f82_387 := fld_of hk440
            have hf448 : fld w439 82 5 = f82_389 := fld_of hk440
            have hf449 : fld w439 82 6 = f82_391 := fld_of hk440
            have hf450 : fld w439 82 7 = f82_393 := fld_of hk440
            have hf451 : fld w439 82 8 = f82_395 := fld_of hk440
            have hf452 : fld w439 82 9 = f82_397 := fld_of hk440
            have hf453 : fld w439 82 10 = f82_399 := fld_of hk440
            have hq455 : fld w427 82 2 = f82_383 := fld_of (hF430.get (by decide) (hF424.get (by decide) (hF418.get (by decide) h82_413)))
            have hq454 : fld w439 82 2 = fld w427 82 2 := hf445.trans hq455.symm
            have hq457 : fld w427 82 3 = f82_385 := fld_of (hF430.get (by decide) (hF424.get (by decide) (hF418.get (by decide) h82_413)))
            have hq456 : fld w439 82 3 = fld w427 82 3 := hf446.trans hq457.symm
            have hq459 : fld w427 82 4 = f82_387 := fld_of (hF430.get (by decide) (hF424.get (by decide) (hF418.get (by decide) h82_413)))
            have hq458 : fld w439 82 4 = fld w427 82 4 := hf447.trans hq459.symm
            have hq461 : fld w427 82 5 = f82_389 := fld_of (hF430.get (by decide) (hF424.get (by decide) (hF418.get (by decide) h82_413)))
            have hq460 : fld w439 82 5 = fld w427 82 5 := hf448.trans hq461.symm
            have hq463 : fld w427 82 6 = f82_391 := fld_of (hF430.get (by decide) (hF424.get (by decide) (hF418.get (by decide) h82_413)))
            have hq462 : fld w439 82 6 = fld w427 82 6 := hf449.trans hq463.symm
            have hq465 : fld w427 82 7 = f82_393 := fld_of (hF430.get (by decide) (hF424.get (by decide) (hF418.get (by decide) h82_413)))
            have hq464 : fld w439 82 7 = fld w427 82 7 := hf450.trans hq465.symm
            have hq467 : fld w427 82 8 = f82_395 := fld_of (hF430.get (by decide) (hF424.get (by decide) (hF418.get (by decide) h82_413)))
            have hq466 : fld w439 82 8 = fld w427 82 8 := hf451.trans hq467.symm
            have hq469 : fld w427 82 9 = f82_397 := fld_of (hF430.get (by decide) (hF424.get (by decide) (hF418.get (by decide) h82_413)))
            have hq468 : fld w439 82 9 = fld w427 82 9 := hf452.trans hq469.symm
            have hq471 : fld w427 82 10 = f82_399 := fld_of (hF430.get (by decide) (hF424.get (by decide) (hF418.get (by decide) h82_413)))
            have hq470 : fld w439 82 10 = fld w427 82 10 := hf453.trans hq471.symm
            have hT472 : TKM 1 B nn w439 p_380 := by
              have q := (hx376.fr ((hF430.1 82 (by decide)).trans ((hF424.1 82 (by decide)).trans (hF418.1 82 (by decide)))))
              unfold TKM at q ⊢
              rw [hq454, hq456, hq458, hq460, hq462, hq464, hq466, hq468]
              exact q
            exact xg_e ⟨w439, ⟨rfl, rfl⟩, xMnv.up (S := [82]) hI429 (xFr.of (S := [82]) hb441 (by decide)) (List.forall_mem_cons.mpr ⟨(show cp82 (wget w439 82) from ⟨f82_383, f82_385, f82_387, f82_389, f82_391, f82_393, f82_395, f82_397, f82_399, f82_401 + 1, f82_403, f82_404, f82_405, f82_407, f82_409, f82_411, hk440, by omega, hb386, by omega, by omega, hb392, by omega, hb396, hb398, by omega, by omega, hb406, hb408, hb410, hb412, by omega⟩), fun _ h => absurd h List.not_mem_nil⟩), (((((((hF69.up (by decide)).tr (hF320.up (by decide))).tr (hF370.up (by decide))).tr (hF418.up (by decide))).tr (hF424.up (by decide))).tr (hF430.up (by decide))).tr (xFr.of (S := [82, 83, 112]) hb441 (by decide))), ⟨Or.inl ⟨congrArg Prod.fst hr444, by rw [hr444]; exact hT472, (hq470.trans ((fld_eq (j := 10) ((hF430.1 82 (by decide)).trans ((hF424.1 82 (by decide)).trans (hF418.1 82 (by decide))))).trans hx377)), hq442, ((hb441.1 83 (by decide)).trans ((hF430.1 83 (by decide)).trans ((hF424.1 83 (by decide)).trans ((hF418.1 83 (by decide)).trans (hx378.trans (hx330.trans (hF69.1 83 (by decide)))))))), fun l hl hn => (rwv_eq (hb441.1 112 (by decide))).trans (hro432 l hl hn), fun h6 => (rwv_eq (hb441.1 112 (by decide))).trans (hrk433 h6)⟩, (((((((K83.fr hF69 (by decide)).tr hn326).tr hn374).tr (K83.fr hF418 (by decide))).tr (K83.fr hF424 (by decide))).tr (K83.fr hF430 (by decide))).tr (K83.but hb441 (by decide)))⟩⟩
          · refine xg_t (xg_aload (va := (2, 82)) rfl rfl) ?_
            refine xg_t (xg_const) ?_
            refine xg_t (xg_iload (va := (0, kr)) rfl rfl) ?_
            have hl473 : fld w367 82 14 = fld w 82 14 := hk379
            obtain ⟨f82_474, f82_476, f82_478, f82_480, f82_482, f82_484, f82_486, f82_488, f82_490, f82_492, f82_494, f82_495, f82_496, f82_498, f82_500, f82_502, h82_504, hb475, hb477, hb479, hb481, hb483, hb485, hb487, hb489, hb491, hb493, hb497, hb499, hb501, hb503, hb505⟩ := (hI369 82 (by decide) (by decide) : cp82 (wget w367 82))
            replace hb477 := xHid.of hb477
            replace hb483 := xHid.of hb483
            replace hb487 := xHid.of hb487
            replace hb489 := xHid.of hb489
            replace hb493 := xHid.of hb493
            replace hb497 := xHid.of hb497
            replace hb499 := xHid.of hb499
            replace hb501 := xHid.of hb501
            replace hb503 := xHid.of hb503
            refine xg_cVv mX12_rulePuts (vs := [(0, 0), (0, kr)]) (rest := []) (cn1 := 0) (sl1 := 0) rfl (mRulePuts (hI369) (by omega) (by omega) (by omega)) rfl h82_504 rfl rfl rfl rfl rfl rfl (fun w506 hq507 => ?_)
            obtain ⟨hI508, hF509, hx510⟩ := hq507
            refine xg_t (xg_aload (va := (2, 82)) rfl rfl) ?_
            refine xg_t (xg_bip) ?_
            refine xg_t (xg_iload (va := (0, f82_15)) rfl rfl) ?_
            have hl511 : fld w506 82 14 = fld w 82 14 := ((fld_eq (j := 14) (hF509.1 82 (by decide))).trans hk379)
            refine xg_cVv mX12_rulePuts (vs := [(0, 17), (0, f82_15)]) (rest := []) (cn1 := 0) (sl1 := 0) rfl (mRulePuts (hI508) (by omega) (by omega) (by omega)) rfl (hF509.get (by decide) h82_504) rfl rfl rfl rfl rfl rfl (fun w512 hq513 => ?_)
            obtain ⟨hI514, hF515, hx516⟩ := hq513
            refine xg_t (xg_aload (va := (2, 82)) rfl rfl) ?_
            refine xg_t (xg_bip) ?_
            refine xg_t (xg_iload (va := (0, n321)) rfl rfl) ?_
            have hl517 : fld w512 82 14 = fld w 82 14 := ((fld_eq (j := 14) ((hF515.1 82 (by decide)).trans (hF509.1 82 (by decide)))).trans hk379)
            refine xg_cVv mX12_rulePuts (vs := [(0, 18), (0, n321)]) (rest := []) (cn1 := 0) (sl1 := 0) rfl (mRulePuts (hI514) (by omega) (by omega) (by omega)) rfl (hF515.get (by decide) (hF509.get (by decide) h82_504)) rfl rfl rfl rfl rfl rfl (fun w518 hq519 => ?_)
            obtain ⟨hI520, hF521, hx522⟩ := hq519
            have hf523 : fld w518 82 10 = f82_490 := fld_of (hF521.get (by decide) (hF515.get (by decide) (hF509.get (by decide) h82_504)))
            have hf524 : fld w518 82 14 = f82_492 := fld_of (hF521.get (by decide) (hF515.get (by decide) (hF509.get (by decide) h82_504)))
            have hl525 : fld w518 82 14 = fld w 82 14 := ((fld_eq (j := 14) ((hF521.1 82 (by decide)).trans ((hF515.1 82 (by decide)).trans (hF509.1 82 (by decide))))).trans hk379)
            have hl526 : f82_492 ≤ 501 := by omega
            refine xg_t (xg_aload (va := (2, 82)) rfl rfl) ?_
            refine xg_t (xg_dup rfl) ?_
            refine xg_t (xg_getf (va := (0, f82_492)) (hF521.get (by decide) (hF515.get (by decide) (hF509.get (by decide) h82_504))) rfl) ?_
            have hn527 := id hb493
            unfold xHid at hn527
            refine xg_t (xg_const) ?_
            refine xg_t (xg_iadd (u := f82_492) (v := 1) (z := f82_492 + 1) xnm0 xnm0 (by omega)) ?_
            refine xg_putI (fl1 := [(2, 83), (2, 84), (0, f82_474), (0, f82_476), (0, f82_478), (0, f82_480), (0, f82_482), (0, f82_484), (0, f82_486), (0, f82_488), (0, f82_490), (2, 85), (2, 86), (2, 87), (0, f82_492 + 1), (2, 88), (2, 89), (2, 90), (2, 91), (2, 92), (2, 93), (2, 94), (4, f82_494), (4, f82_495), (0, f82_496), (2, 95), (2, 96), (2, 97), (2, 98), (2, 99), (2, 100), (2, 101), (2, 102), (0, f82_498), (2, 103), (2, 104), (2, 105), (2, 106), (2, 107), (2, 108), (2, 109), (0, f82_500), (0, f82_502), (2, 110), (2, 111), (2, 112), (2, 113)]) (hF521.get (by decide) (hF515.get (by decide) (hF509.get (by decide) h82_504))) rfl rfl rfl (fun w528 hk529 hb530 => ?_)
            have hf532 : fld w528 82 14 = f82_492 + 1 := fld_of hk529
            have hq531 : fld w528 82 14 = fld w 82 14 + 1 := by have y := hf532; omega
            have hr533 : (rvR B nn p fp) = (false, p_332, fp) := by rw [rvR_2 (by omega) (by omega) (by rw [← hp75]; omega), ← hp75, ← hp333, rvS_n hx375]
            have hf538 : fld w528 82 10 = f82_490 := fld_of hk529
            have hq537 : fld w528 82 10 = fld w518 82 10 := hf538.trans hf523.symm
            have hW534 : WRG w528 _ := ⟨(hq537.trans ((fld_eq (j := 10) ((hF521.1 82 (by decide)).trans ((hF515.1 82 (by decide)).trans (hF509.1 82 (by decide))))).trans hx376.1)), (rwv_eq ((hb530.1 83 (by decide)).trans ((hF521.1 83 (by decide)).trans ((hF515.1 83 (by decide)).trans (hF509.1 83 (by decide)))))).trans hx376.2.1, (rwv_eq ((hb530.1 83 (by decide)).trans ((hF521.1 83 (by decide)).trans ((hF515.1 83 (by decide)).trans (hF509.1 83 (by decide)))))).trans hx376.2.2⟩
            exact xg_e ⟨w528, ⟨rfl, rfl⟩, xMnv.up (S := [82]) hI520 (xFr.of (S := [82]) hb530 (by decide)) (List.forall_mem_cons.mpr ⟨(show cp82 (wget w528 82) from ⟨f82_474, f82_476, f82_478, f82_480, f82_482, f82_484, f82_486, f82_488, f82_490, f82_492 + 1, f82_494, f82_495, f82_496, f82_498, f82_500, f82_502, hk529, by omega, hb477, by omega, by omega, hb483, by omega, hb487, hb489, by omega, by omega, hb497, hb499, hb501, hb503, by omega⟩), fun _ h => absurd h List.not_mem_nil⟩), (((((((hF69.up (by decide)).tr (hF320.up (by decide))).tr (hF370.up (by decide))).tr (hF509.up (by decide))).tr (hF515.up (by decide))).tr (hF521.up (by decide))).tr (xFr.of (S := [82, 83, 112]) hb530 (by decide))), ⟨Or.inr ⟨congrArg Prod.fst hr533, by rw [hr533]; exact hW534, Or.inr hq531⟩, (((((((K83.fr hF69 (by decide)).tr hn326).tr hn374).tr (K83.fr hF509 (by decide))).tr (K83.fr hF515 (by decide))).tr (K83.fr hF521 (by decide))).tr (K83.but hb530 (by decide)))⟩⟩
        · refine xg_t (xg_blk (b := [(164, 1, 15, 3, 0, 0), (165, 1, 0, 0, 0, 0), (166, 2, 4, 59, 0, 0), (168, 3, 13, 195, 96, 427), (171, 1, 0, 0, 0, 0), (172, 1, 3, 0, 0, 0), (173, 1, 2, 1, 0, 0), (174, 3, 13, 214, 96, 424), (177, 1, 0, 0, 0, 0), (178, 2, 4, 17, 0, 0), (180, 1, 2, 2, 0, 0), (181, 3, 13, 214, 96, 424), (184, 1, 0, 0, 0, 0), (185, 2, 4, 18, 0, 0), (187, 1, 2, 3, 0, 0), (188, 3, 13, 214, 96, 424), (191, 1, 0, 0, 0, 0), (192, 1, 19, 0, 0, 0), (193, 3, 1, 12, 14, 212), (196, 1, 3, 1, 0, 0), (197, 1, 11, 0, 0, 0), (198, 3, 14, 12, 14, 212), (201, 1, 12, 0, 0, 0)]) rfl) ?_
          refine xg_t (xg_istore (l1 := [(2, (0, f82_15)), (0, (2, 82)), (1, (0, kr))]) rfl rfl rfl) ?_
          refine xg_t (xg_aload (va := (2, 82)) rfl rfl) ?_
          refine xg_t (xg_bip) ?_
          obtain ⟨f82_539, f82_541, f82_543, f82_545, f82_547, f82_549, f82_551, f82_553, f82_555, f82_557, f82_559, f82_560, f82_561, f82_563, f82_565, f82_567, h82_569, hb540, hb542, hb544, hb546, hb548, hb550, hb552, hb554, hb556, hb558, hb562, hb564, hb566, hb568, hb570⟩ := (hI319 82 (by decide) (by decide) : cp82 (wget w317 82))
          replace hb542 := xHid.of hb542
          replace hb548 := xHid.of hb548
          replace hb552 := xHid.of hb552
          replace hb554 := xHid.of hb554
          replace hb558 := xHid.of hb558
          replace hb562 := xHid.of hb562
          replace hb564 := xHid.of hb564
          replace hb566 := xHid.of hb566
          replace hb568 := xHid.of hb568
          refine xg_cVv mX12_must (vs := [(0, 59)]) (rest := []) (cn1 := 0) (sl1 := 0) rfl (mMustW (hI319) (by omega) (by have q := hx328.1; omega)) rfl h82_569 rfl rfl rfl rfl rfl rfl (fun w571 hq572 => ?_)
          obtain ⟨hI573, hF574⟩ := hq572
          refine xg_t (xg_aload (va := (2, 82)) rfl rfl) ?_
          refine xg_t (xg_const) ?_
          refine xg_t (xg_iload (va := (0, kr)) rfl rfl) ?_
          have hl575 : fld w571 82 14 = fld w 82 14 := ((fld_eq (j := 14) (hF574.1 82 (by decide))).trans hk331)
          refine xg_cVv mX12_rulePuts (vs := [(0, 0), (0, kr)]) (rest := []) (cn1 := 0) (sl1 := 0) rfl (mRulePuts (hI573) (by omega) (by omega) (by omega)) rfl (hF574.get (by decide) h82_569) rfl rfl rfl rfl rfl rfl (fun w576 hq577 => ?_)
          obtain ⟨hI578, hF579, hx580⟩ := hq577
          refine xg_t (xg_aload (va := (2, 82)) rfl rfl) ?_
          refine xg_t (xg_bip) ?_
          refine xg_t (xg_iload (va := (0, f82_15)) rfl rfl) ?_
          have hl581 : fld w576 82 14 = fld w 82 14 := ((fld_eq (j := 14) ((hF579.1 82 (by decide)).trans (hF574.1 82 (by decide)))).trans hk331)
          refine xg_cVv mX12_rulePuts (vs := [(0, 17), (0, f82_15)]) (rest := []) (cn1 := 0) (sl1 := 0) rfl (mRulePuts (hI578) (by omega) (by omega) (by omega)) rfl (hF579.get (by decide) (hF574.get (by decide) h82_569)) rfl rfl rfl rfl rfl rfl (fun w582 hq583 => ?_)
          obtain ⟨hI584, hF585, hx586⟩ := hq583
          refine xg_t (xg_aload (va := (2, 82)) rfl rfl) ?_
          refine xg_t (xg_bip) ?_
          refine xg_t (xg_iload (va := (0, n321)) rfl rfl) ?_
          have hl587 : fld w582 82 14 = fld w 82 14 := ((fld_eq (j := 14) ((hF585.1 82 (by decide)).trans ((hF579.1 82 (by decide)).trans (hF574.1 82 (by decide))))).trans hk331)
          refine xg_cVv mX12_rulePuts (vs := [(0, 18), (0, n321)]) (rest := []) (cn1 := 0) (sl1 := 0) rfl (mRulePuts (hI584) (by omega) (by omega) (by omega)) rfl (hF585.get (by decide) (hF579.get (by decide) (hF574.get (by decide) h82_569))) rfl rfl rfl rfl rfl rfl (fun w588 hq589 => ?_)
          obtain ⟨hI590, hF591, hx592⟩ := hq589
          have hf593 : fld w588 82 10 = f82_555 := fld_of (hF591.get (by decide) (hF585.get (by decide) (hF579.get (by decide) (hF574.get (by decide) h82_569))))
          have hf594 : fld w588 82 14 = f82_557 := fld_of (hF591.get (by decide) (hF585.get (by decide) (hF579.get (by decide) (hF574.get (by decide) h82_569))))
          have hl595 : fld w588 82 14 = fld w 82 14 := ((fld_eq (j := 14) ((hF591.1 82 (by decide)).trans ((hF585.1 82 (by decide)).trans ((hF579.1 82 (by decide)).trans (hF574.1 82 (by decide)))))).trans hk331)
          have hl596 : f82_557 ≤ 501 := by omega
          refine xg_t (xg_aload (va := (2, 82)) rfl rfl) ?_
          refine xg_t (xg_dup rfl) ?_
          refine xg_t (xg_getf (va := (0, f82_557)) (hF591.get (by decide) (hF585.get (by decide) (hF579.get (by decide) (hF574.get (by decide) h82_569)))) rfl) ?_
          have hn597 := id hb558
          unfold xHid at hn597
          refine xg_t (xg_const) ?_
          refine xg_t (xg_iadd (u := f82_557) (v := 1) (z := f82_557 + 1) xnm0 xnm0 (by omega)) ?_
          refine xg_putI (fl1 := [(2, 83), (2, 84), (0, f82_539), (0, f82_541), (0, f82_543), (0, f82_545), (0, f82_547), (0, f82_549), (0, f82_551), (0, f82_553), (0, f82_555), (2, 85), (2, 86), (2, 87), (0, f82_557 + 1), (2, 88), (2, 89), (2, 90), (2, 91), (2, 92), (2, 93), (2, 94), (4, f82_559), (4, f82_560), (0, f82_561), (2, 95), (2, 96), (2, 97), (2, 98), (2, 99), (2, 100), (2, 101), (2, 102), (0, f82_563), (2, 103), (2, 104), (2, 105), (2, 106), (2, 107), (2, 108), (2, 109), (0, f82_565), (0, f82_567), (2, 110), (2, 111), (2, 112), (2, 113)]) (hF591.get (by decide) (hF585.get (by decide) (hF579.get (by decide) (hF574.get (by decide) h82_569)))) rfl rfl rfl (fun w598 hk599 hb600 => ?_)
          have hf602 : fld w598 82 14 = f82_557 + 1 := fld_of hk599
          have hq601 : fld w598 82 14 = fld w 82 14 + 1 := by have y := hf602; omega
          have hr603 : (rvR B nn p fp) = (false, p_74, fp) := by rw [rvR_3 (by omega) (by omega) (by rw [← hp75]; omega), ← hp75]
          have hf608 : fld w598 82 10 = f82_555 := fld_of hk599
          have hq607 : fld w598 82 10 = fld w588 82 10 := hf608.trans hf593.symm
          have hW604 : WRG w598 _ := ⟨(hq607.trans ((fld_eq (j := 10) ((hF591.1 82 (by decide)).trans ((hF585.1 82 (by decide)).trans ((hF579.1 82 (by decide)).trans (hF574.1 82 (by decide)))))).trans hx328.1)), (rwv_eq ((hb600.1 83 (by decide)).trans ((hF591.1 83 (by decide)).trans ((hF585.1 83 (by decide)).trans ((hF579.1 83 (by decide)).trans (hF574.1 83 (by decide))))))).trans hx328.2.1, (rwv_eq ((hb600.1 83 (by decide)).trans ((hF591.1 83 (by decide)).trans ((hF585.1 83 (by decide)).trans ((hF579.1 83 (by decide)).trans (hF574.1 83 (by decide))))))).trans hx328.2.2⟩
          exact xg_e ⟨w598, ⟨rfl, rfl⟩, xMnv.up (S := [82]) hI590 (xFr.of (S := [82]) hb600 (by decide)) (List.forall_mem_cons.mpr ⟨(show cp82 (wget w598 82) from ⟨f82_539, f82_541, f82_543, f82_545, f82_547, f82_549, f82_551, f82_553, f82_555, f82_557 + 1, f82_559, f82_560, f82_561, f82_563, f82_565, f82_567, hk599, by omega, hb542, by omega, by omega, hb548, by omega, hb552, hb554, by omega, by omega, hb562, hb564, hb566, hb568, by omega⟩), fun _ h => absurd h List.not_mem_nil⟩), (((((((hF69.up (by decide)).tr (hF320.up (by decide))).tr (hF574.up (by decide))).tr (hF579.up (by decide))).tr (hF585.up (by decide))).tr (hF591.up (by decide))).tr (xFr.of (S := [82, 83, 112]) hb600 (by decide))), ⟨Or.inr ⟨congrArg Prod.fst hr603, by rw [hr603]; exact hW604, Or.inr hq601⟩, (((((((K83.fr hF69 (by decide)).tr hn326).tr (K83.fr hF574 (by decide))).tr (K83.fr hF579 (by decide))).tr (K83.fr hF585 (by decide))).tr (K83.fr hF591 (by decide))).tr (K83.but hb600 (by decide)))⟩⟩
    · refine xg_t (xg_ifF (u := (if 40 ≤ f82_15 ∧ f82_15 ≤ 42 then 1 else 0)) rfl xnm0 (xj_neF (xite0 hc57))) ?_
      refine xg_t (xg_blk (b := [(136, 1, 0, 0, 0, 0), (137, 3, 13, 140, 96, 183), (140, 1, 12, 0, 0, 0)]) rfl) ?_
      refine xg_t (xg_aload (va := (2, 82)) rfl rfl) ?_
      have hk609 := (rfl : fld w 82 14 = fld w 82 14)
      have hq6610 : fld w 82 6 = tq B nn p := hT.1.2.2.2.1
      refine xg_cVv mX12_ends (vs := []) (rest := []) (cn1 := 0) (sl1 := 0) rfl (mEndsX (hI) h10) rfl h82_31 rfl rfl rfl rfl rfl rfl (fun w611 hq612 => ?_)
      obtain ⟨hI613, hF614, hx615⟩ := hq612
      obtain ⟨hv616, hv617, hv618, hv619, hv620⟩ := hx615
      have hk621 := hv619.trans hk609
      obtain ⟨f82_622, f82_624, f82_626, f82_628, f82_630, f82_632, f82_634, f82_636, f82_638, f82_640, f82_642, f82_643, f82_644, f82_646, f82_648, f82_650, h82_652, hb623, hb625, hb627, hb629, hb631, hb633, hb635, hb637, hb639, hb641, hb645, hb647, hb649, hb651, hb653⟩ := (hI613 82 (by decide) (by decide) : cp82 (wget w611 82))
      replace hb625 := xHid.of hb625
      replace hb631 := xHid.of hb631
      replace hb635 := xHid.of hb635
      replace hb637 := xHid.of hb637
      replace hb641 := xHid.of hb641
      replace hb645 := xHid.of hb645
      replace hb647 := xHid.of hb647
      replace hb649 := xHid.of hb649
      replace hb651 := xHid.of hb651
      have hr654 : (rvR B nn p fp) = (false, p, fp) := rvR_0 (by omega)
      exact xg_e ⟨w611, ⟨rfl, rfl⟩, hI613, (hF614.up (by decide)), ⟨Or.inr ⟨congrArg Prod.fst hr654, by rw [hr654]; exact (show WRG w611 (tq B nn p) from ⟨hv616, hv617, hv618.trans hq6610⟩), Or.inl hk621⟩, hv620⟩⟩
  · refine xg_t (xg_icT (u := f82_11) (v := 3) rfl xnm0 xnm0 (xj_neT hc55)) ?_
    refine xg_t (xg_blk (b := [(136, 1, 0, 0, 0, 0), (137, 3, 13, 140, 96, 183), (140, 1, 12, 0, 0, 0)]) rfl) ?_
    refine xg_t (xg_aload (va := (2, 82)) rfl rfl) ?_
    have hk655 := (rfl : fld w 82 14 = fld w 82 14)
    have hq6656 : fld w 82 6 = tq B nn p := hT.1.2.2.2.1
    refine xg_cVv mX12_ends (vs := []) (rest := []) (cn1 := 0) (sl1 := 0) rfl (mEndsX (hI) h10) rfl h82_31 rfl rfl rfl rfl rfl rfl (fun w657 hq658 => ?_)
    obtain ⟨hI659, hF660, hx661⟩ := hq658
    obtain ⟨hv662, hv663, hv664, hv665, hv666⟩ := hx661
    have hk667 := hv665.trans hk655
    obtain ⟨f82_668, f82_670, f82_672, f82_674, f82_676, f82_678, f82_680, f82_682, f82_684, f82_686, f82_688, f82_689, f82_690, f82_692, f82_694, f82_696, h82_698, hb669, hb671, hb673, hb675, hb677, hb679, hb681, hb683, hb685, hb687, hb691, hb693, hb695, hb697, hb699⟩ := (hI659 82 (by decide) (by decide) : cp82 (wget w657 82))
    replace hb671 := xHid.of hb671
    replace hb677 := xHid.of hb677
    replace hb681 := xHid.of hb681
    replace hb683 := xHid.of hb683
    replace hb687 := xHid.of hb687
    replace hb691 := xHid.of hb691
    replace hb693 := xHid.of hb693
    replace hb695 := xHid.of hb695
    replace hb697 := xHid.of hb697
    have hr700 : (rvR B nn p fp) = (false, p, fp) := rvR_0 (by omega)
    exact xg_e ⟨w657, ⟨rfl, rfl⟩, hI659, (hF660.up (by decide)), ⟨Or.inr ⟨congrArg Prod.fst hr700, by rw [hr700]; exact (show WRG w657 (tq B nn p) from ⟨hv662, hv663, hv664.trans hq6656⟩), Or.inl hk667⟩, hv666⟩⟩
theorem mRuleTW {kr : Nat} (hI : xMnv w) (h10 : fld w 82 10 ≠ 0) : xTo (d + 7) mX12_aRule (107, [], [(0, (2, 82)), (1, (0, kr))], [], (w, bd, fc, 0, 0, rr)) (fun φ => ∃ w', xEnd 0 [] (w', bd, fc, 0, 0, rr) φ ∧ xMnv w' ∧ xFr [] w w' ∧ (True)) := by
  obtain ⟨f82_1, f82_3, f82_5, f82_7, f82_9, f82_11, f82_13, f82_15, f82_17, f82_19, f82_21, f82_22, f82_23, f82_25, f82_27, f82_29, h82_31, hb2, hb4, hb6, hb8, hb10, hb12, hb14, hb16, hb18, hb20, hb24, hb26, hb28, hb30, hb32⟩ := (hI 82 (by decide) (by decide) : cp82 (wget w 82))
  replace hb4 := xHid.of hb4
  replace hb10 := xHid.of hb10
  replace hb14 := xHid.of hb14
  replace hb16 := xHid.of hb16
  replace hb20 := xHid.of hb20
  replace hb24 := xHid.of hb24
  replace hb26 := xHid.of hb26
  replace hb28 := xHid.of hb28
  replace hb30 := xHid.of hb30
  have hf33 : fld w 82 10 = f82_17 := fld_of h82_31
  refine xg_t (xg_blk (b := [(107, 1, 0, 0, 0, 0), (108, 3, 1, 12, 10, 180), (111, 3, 7, 136, 1, 0), (114, 1, 0, 0, 0, 0), (115, 3, 1, 12, 7, 151), (118, 1, 3, 3, 0, 0), (119, 3, 6, 136, 1, 0), (122, 1, 0, 0, 0, 0), (123, 3, 1, 12, 9, 165), (126, 2, 4, 40, 0, 0), (128, 2, 4, 42, 0, 0), (130, 3, 13, 161, 98, 105), (133, 3, 7, 141, 1, 0)]) rfl) ?_
  refine xg_t (xg_aload (va := (2, 82)) rfl rfl) ?_
  refine xg_t (xg_getf (va := (0, f82_17)) h82_31 rfl) ?_
  refine xg_t (xg_ifT (u := f82_17) rfl xnm0 (xj_neT (by omega))) ?_
  refine xg_t (xg_blk (b := [(136, 1, 0, 0, 0, 0), (137, 3, 13, 140, 96, 183), (140, 1, 12, 0, 0, 0)]) rfl) ?_
  refine xg_t (xg_aload (va := (2, 82)) rfl rfl) ?_
  refine xg_cVv mX12_ends (vs := []) (rest := []) (cn1 := 0) (sl1 := 0) rfl (mEndsW (hI) h10) rfl h82_31 rfl rfl rfl rfl rfl rfl (fun w34 hq35 => ?_)
  obtain ⟨hI36, hF37⟩ := hq35
  exact xg_e ⟨w34, ⟨rfl, rfl⟩, hI36, (hF37.up (by decide)), trivial⟩
end XRMB
