/-! the model: rules read, to the last number -/
section XRMA
variable {B : Nat → Nat} {n k : Nat} {w w' : List (List xE)}
theorem wix1 {v : Nat} : wix 1 v = wixR v := if_neg (by decide)
/-- what a token of rules is, for the model -/
theorem mkr {p : Nat} : (mkd 1 B n p = 0 ↔ tkd B n p = 0) ∧ (mkd 1 B n p = 1 ↔ tkd B n p = 2) ∧ (mkd 1 B n p = 2 ↔ tkd B n p = 3) ∧ (mkd 1 B n p = 3 ↔ tkd B n p = 1 ∧ rwx B n p ≠ 99) := by
  obtain ⟨a, b, c, d⟩ := mkd_of (ir := 1) (B := B) (n := n) (p := p)
  rw [wix1] at d
  exact ⟨a, b, ⟨fun z => (c.mp z).1, fun z => c.mpr ⟨z, Or.inl (by decide)⟩⟩, d⟩
theorem TKM.word {p : Nat} (h : TKM 1 B n w p) (e : tkd B n p = 1) : fld w 82 9 = rwx B n p := (h.2.2.1 e).trans wix1
/-- lines' rows in what is read -/
def RO2 (w w' : List (List xE)) (k : Nat) : Prop := ∀ l, l < 16 → l ≠ k → rwv w' 112 (20 * l) = rwv w 112 (20 * l)
theorem RO2.fr {S : List Nat} {w2 : List (List xE)} (h : RO2 w w' k) (hf : xFr S w' w2) (h1 : 112 ∉ S) : RO2 w w2 k := fun l hl hn => (rwv_fr hf h1).trans (h l hl hn)
theorem RD.up {w2 : List (List xE)} {kr : Nat} (h : RD w) (h14 : fld w 82 14 = k) (h2 : fld w2 82 14 = k + 1) (hk : k < 16) (hr : RO2 w w2 k) (h0 : rwv w2 112 (20 * k) = kr) (h4 : kr ≤ 4) : RD w2 := by
  refine ⟨by omega, fun l hl => ?_⟩
  by_cases e : l = k
  · rw [e, h0]
    exact h4
  · rw [hr l (by omega) e]
    exact h.2 l (by omega)
end XRMA
section XRMB
variable {d : Nat} {w : List (List xE)} {bd : List (Nat × Nat)} {fc : List (Nat × Nat × Bool)} {rr : Nat × Nat}
theorem mTakesX {B : Nat → Nat} {nn p : Nat} {wq : Nat} (hI : xMnv w) (hwq : wq < 99) (hB : bsm w B nn) (hT : TKM 1 B nn w p) (h10 : fld w 82 10 = 0) : xPi (d + 5) mX12_takes [(2, 82), (0, wq)] w bd fc rr (fun n w' => (((n = 1 ∧ rwx B nn p = wq ∧ TKM 1 B nn w' (tf B nn p)) ∨ (n = 0 ∧ rwx B nn p ≠ wq ∧ TKM 1 B nn w' p)) ∧ fld w' 82 10 = 0 ∧ fld w' 82 14 = fld w 82 14) ∧ xMnv w' ∧ xFr [82] w w') := by
  refine xPi.of ?_
  show xTo (d + 5) mX12_takes (0, [], [(0, (2, 82)), (1, (0, wq))], [], (w, bd, fc, 0, 0, rr)) (fun φ => ∃ n w', xEnd 4 [(0, n)] (w', bd, fc, 0, 0, rr) φ ∧ (((n = 1 ∧ rwx B nn p = wq ∧ TKM 1 B nn w' (tf B nn p)) ∨ (n = 0 ∧ rwx B nn p ≠ wq ∧ TKM 1 B nn w' p)) ∧ fld w' 82 10 = 0 ∧ fld w' 82 14 = fld w 82 14) ∧ xMnv w' ∧ xFr [82] w w')
  obtain ⟨f82_1, f82_3, f82_5, f82_7, f82_9, f82_11, f82_13, f82_15, f82_17, f82_19, f82_21, f82_22, f82_23, f82_25, f82_27, f82_29, h82_31, hb2, hb4, hb6, hb8, hb10, hb12, hb14, hb16, hb18, hb20, hb24, hb26, hb28, hb30, hb32⟩ := (hI 82 (by decide) (by decide) : cp82 (wget w 82))
  replace hb4 := xHid.of hb4
  replace hb10 := xHid.of hb10
  replace hb14 := xHid.of hb14
  replace hb16 := xHid.of hb16
  replace hb20 := xHid.of hb20
  replace hb24 := xHid.of hb24
  replace hb26 := xHid.of hb26
  replace hb28 := xHid.of hb28
  replace hb30 := xHid.of hb30
  obtain ⟨g83_33, h83_34, hb35, hx36⟩ := (hI 83 (by decide) (by decide) : cpx83 (wget w 83))
  have h83_34 : xRow w 83 5360 50 g83_33 := h83_34
  obtain ⟨⟨ht37, ht38, ht39, ht40, ht41, ht42⟩, ht43, ht44, ht45⟩ := id hT
  have hf46 : fld w 82 3 = f82_3 := fld_of h82_31
  have hf47 : fld w 82 6 = f82_9 := fld_of h82_31
  have hf48 : fld w 82 7 = f82_11 := fld_of h82_31
  have hf49 : fld w 82 8 = f82_13 := fld_of h82_31
  have hf50 : fld w 82 9 = f82_15 := fld_of h82_31
  have hf51 : fld w 82 10 = f82_17 := fld_of h82_31
  have hf52 : fld w 82 14 = f82_19 := fld_of h82_31
  have hmk53 := mkr (B := B) (n := nn) (p := p)
  have hx054 : tkd B nn p ≠ 1 → rwx B nn p = 99 := rwx_0
  have hwd55 : tkd B nn p = 1 → fld w 82 9 = rwx B nn p := hT.word
  clear ht44
  refine xg_t (xg_blk (b := [(0, 1, 0, 0, 0, 0), (1, 3, 1, 12, 10, 180), (4, 3, 7, 23, 1, 0), (7, 1, 0, 0, 0, 0), (8, 3, 1, 12, 7, 151), (11, 1, 3, 3, 0, 0), (12, 3, 6, 23, 1, 0), (15, 1, 0, 0, 0, 0), (16, 3, 1, 12, 9, 165), (19, 1, 2, 1, 0, 0), (20, 3, 6, 25, 0, 0)]) rfl) ?_
  refine xg_t (xg_aload (va := (2, 82)) rfl rfl) ?_
  refine xg_t (xg_getf (va := (0, f82_17)) h82_31 rfl) ?_
  refine xg_t (xg_ifF (u := f82_17) rfl xnm0 (xj_neF (by omega))) ?_
  refine xg_t (xg_aload (va := (2, 82)) rfl rfl) ?_
  refine xg_t (xg_getf (va := (0, f82_11)) h82_31 rfl) ?_
  refine xg_t (xg_const) ?_
  by_cases hc56 : f82_11 = 3
  · refine xg_t (xg_icF (u := f82_11) (v := 3) rfl xnm0 xnm0 (xj_neF hc56)) ?_
    refine xg_t (xg_aload (va := (2, 82)) rfl rfl) ?_
    refine xg_t (xg_getf (va := (0, f82_15)) h82_31 rfl) ?_
    have hn57 : f82_15 ≤ 4294967295 := hb16
    refine xg_t (xg_iload (va := (0, wq)) rfl rfl) ?_
    by_cases hc58 : f82_15 = wq
    · refine xg_t (xg_icT (u := f82_15) (v := wq) rfl xnm0 xnm0 (xj_eqT hc58)) ?_
      refine xg_t (xg_blk (b := [(25, 1, 0, 0, 0, 0), (26, 3, 13, 110, 96, 190), (29, 1, 3, 1, 0, 0), (30, 1, 12, 0, 1, 0)]) rfl) ?_
      refine xg_t (xg_aload (va := (2, 82)) rfl rfl) ?_
      obtain ⟨⟨ht59, ht60, ht61, ht62, ht63, ht64⟩, -⟩ := id hT
      have hk65 := h10
      have hk66 := (rfl : fld w 82 14 = fld w 82 14)
      refine xg_cVv mX12_advance (vs := []) (rest := []) (cn1 := 0) (sl1 := 0) rfl (mAdvX (hI) hB ht59 ht60 (by rw [ht61]; exact tf_le ht64)) rfl h82_31 rfl rfl rfl rfl rfl rfl (fun w67 hq68 => ?_)
      obtain ⟨hI69, hF70, hx71⟩ := hq68
      obtain ⟨hz72, hz73, hz74⟩ := hx71
      rw [ht61] at hz72
      clear ht59 ht60 ht61 ht62 ht63 ht64
      obtain ⟨p_75, hp76⟩ : ∃ x, x = tf B nn p := ⟨_, rfl⟩
      rw [← hp76] at hz72
      have k10_77 := hz73.trans hk65
      have k14_78 := hz74.trans hk66
      clear hz73 hz74 hk65 hk66
      refine xg_t (xg_const) ?_
      exact xg_e ⟨1, w67, ⟨rfl, rfl⟩, ⟨Or.inl ⟨rfl, by omega, by rw [← hp76]; exact hz72⟩, k10_77, k14_78⟩, hI69, (hF70.up (by decide))⟩
    · refine xg_t (xg_icF (u := f82_15) (v := wq) rfl xnm0 xnm0 (xj_eqF hc58)) ?_
      refine xg_t (xg_blk (b := [(23, 1, 3, 0, 0, 0), (24, 1, 12, 0, 1, 0)]) rfl) ?_
      refine xg_t (xg_const) ?_
      exact xg_e ⟨0, w, ⟨rfl, rfl⟩, ⟨Or.inr ⟨rfl, by omega, hT⟩, h10, rfl⟩, hI, xFr.rf⟩
  · refine xg_t (xg_icT (u := f82_11) (v := 3) rfl xnm0 xnm0 (xj_neT hc56)) ?_
    refine xg_t (xg_blk (b := [(23, 1, 3, 0, 0, 0), (24, 1, 12, 0, 1, 0)]) rfl) ?_
    refine xg_t (xg_const) ?_
    exact xg_e ⟨0, w, ⟨rfl, rfl⟩, ⟨Or.inr ⟨rfl, by omega, hT⟩, h10, rfl⟩, hI, xFr.rf⟩
theorem mTakesW {wq : Nat} (hI : xMnv w) (hwq : wq < 99) (h10 : fld w 82 10 ≠ 0) : xPi d mX12_takes [(2, 82), (0, wq)] w bd fc rr (fun n w' => (n = 0) ∧ xMnv w' ∧ xFr [] w w') := by
  refine xPi.of ?_
  show xTo d mX12_takes (0, [], [(0, (2, 82)), (1, (0, wq))], [], (w, bd, fc, 0, 0, rr)) (fun φ => ∃ n w', xEnd 4 [(0, n)] (w', bd, fc, 0, 0, rr) φ ∧ (n = 0) ∧ xMnv w' ∧ xFr [] w w')
  obtain ⟨f82_1, f82_3, f82_5, f82_7, f82_9, f82_11, f82_13, f82_15, f82_17, f82_19, f82_21, f82_22, f82_23, f82_25, f82_27, f82_29, h82_31, hb2, hb4, hb6, hb8, hb10, hb12, hb14, hb16, hb18, hb20, hb24, hb26, hb28, hb30, hb32⟩ := (hI 82 (by decide) (by decide) : cp82 (wget w 82))
  replace hb4 := xHid.of hb4
  replace hb10 := xHid.of hb10
  replace hb14 := xHid.of hb14
  replace hb16 := xHid.of hb16
  replace hb20 := xHid.of hb20
  replace hb24 := xHid.of hb24
  replace hb26 := xHid.of hb26
  replace hb28 := xHid.of hb28
  replace hb30 := xHid.of hb30
  have hf33 : fld w 82 10 = f82_17 := fld_of h82_31
  refine xg_t (xg_blk (b := [(0, 1, 0, 0, 0, 0), (1, 3, 1, 12, 10, 180), (4, 3, 7, 23, 1, 0), (7, 1, 0, 0, 0, 0), (8, 3, 1, 12, 7, 151), (11, 1, 3, 3, 0, 0), (12, 3, 6, 23, 1, 0), (15, 1, 0, 0, 0, 0), (16, 3, 1, 12, 9, 165), (19, 1, 2, 1, 0, 0), (20, 3, 6, 25, 0, 0)]) rfl) ?_
  refine xg_t (xg_aload (va := (2, 82)) rfl rfl) ?_
  refine xg_t (xg_getf (va := (0, f82_17)) h82_31 rfl) ?_
  refine xg_t (xg_ifT (u := f82_17) rfl xnm0 (xj_neT (by omega))) ?_
  refine xg_t (xg_blk (b := [(23, 1, 3, 0, 0, 0), (24, 1, 12, 0, 1, 0)]) rfl) ?_
  refine xg_t (xg_const) ?_
  exact xg_e ⟨0, w, ⟨rfl, rfl⟩, rfl, hI, xFr.rf⟩
theorem mMustX {B : Nat → Nat} {nn p : Nat} {cq : Nat} (hI : xMnv w) (hcq : cq ≤ 4294967295) (hB : bsm w B nn) (hT : TKM 1 B nn w p) (h10 : fld w 82 10 = 0) : xPq (d + 5) mX12_must [(2, 82), (0, cq)] w bd fc rr [] (fun w' => xMnv w' ∧ xFr [82, 83] w w' ∧ ((((tkd B nn p = 3 ∧ B (tq B nn p) = cq) ∧ TKM 1 B nn w' (tf B nn p) ∧ fld w' 82 10 = 0 ∧ wget w' 83 = wget w 83) ∨ (¬ (tkd B nn p = 3 ∧ B (tq B nn p) = cq) ∧ WRG w' (tq B nn p))) ∧ fld w' 82 14 = fld w 82 14 ∧ K83 w w')) := by
  refine xPq.of ?_
  show xTo (d + 5) mX12_must (0, [], [(0, (2, 82)), (1, (0, cq))], [], (w, bd, fc, 0, 0, rr)) (fun φ => ∃ w', xEnd 0 [] (w', bd, fc, 0, 0, rr) φ ∧ xMnv w' ∧ xFr [82, 83] w w' ∧ ((((tkd B nn p = 3 ∧ B (tq B nn p) = cq) ∧ TKM 1 B nn w' (tf B nn p) ∧ fld w' 82 10 = 0 ∧ wget w' 83 = wget w 83) ∨ (¬ (tkd B nn p = 3 ∧ B (tq B nn p) = cq) ∧ WRG w' (tq B nn p))) ∧ fld w' 82 14 = fld w 82 14 ∧ K83 w w'))
  obtain ⟨f82_1, f82_3, f82_5, f82_7, f82_9, f82_11, f82_13, f82_15, f82_17, f82_19, f82_21, f82_22, f82_23, f82_25, f82_27, f82_29, h82_31, hb2, hb4, hb6, hb8, hb10, hb12, hb14, hb16, hb18, hb20, hb24, hb26, hb28, hb30, hb32⟩ := (hI 82 (by decide) (by decide) : cp82 (wget w 82))
  replace hb4 := xHid.of hb4
  replace hb10 := xHid.of hb10
  replace hb14 := xHid.of hb14
  replace hb16 := xHid.of hb16
  replace hb20 := xHid.of hb20
  replace hb24 := xHid.of hb24
  replace hb26 := xHid.of hb26
  replace hb28 := xHid.of hb28
  replace hb30 := xHid.of hb30
  obtain ⟨g83_33, h83_34, hb35, hx36⟩ := (hI 83 (by decide) (by decide) : cpx83 (wget w 83))
  have h83_34 : xRow w 83 5360 50 g83_33 := h83_34
  obtain ⟨⟨ht37, ht38, ht39, ht40, ht41, ht42⟩, ht43, ht44, ht45⟩ := id hT
  have hf46 : fld w 82 3 = f82_3 := fld_of h82_31
  have hf47 : fld w 82 6 = f82_9 := fld_of h82_31
  have hf48 : fld w 82 7 = f82_11 := fld_of h82_31
  have hf49 : fld w 82 8 = f82_13 := fld_of h82_31
  have hf50 : fld w 82 9 = f82_15 := fld_of h82_31
  have hf51 : fld w 82 10 = f82_17 := fld_of h82_31
  have hf52 : fld w 82 14 = f82_19 := fld_of h82_31
  have hmk53 := mkr (B := B) (n := nn) (p := p)
  have hx054 : tkd B nn p ≠ 1 → rwx B nn p = 99 := rwx_0
  have hwd55 : tkd B nn p = 1 → fld w 82 9 = rwx B nn p := hT.word
  clear ht44
  refine xg_t (xg_blk (b := [(0, 1, 0, 0, 0, 0), (1, 3, 1, 12, 10, 180), (4, 3, 7, 30, 1, 0), (7, 1, 0, 0, 0, 0), (8, 3, 1, 12, 7, 151), (11, 1, 3, 2, 0, 0), (12, 3, 6, 30, 1, 0), (15, 1, 0, 0, 0, 0), (16, 3, 1, 12, 3, 174), (19, 1, 2, 1, 0, 0), (20, 3, 6, 30, 1, 0), (23, 1, 0, 0, 0, 0), (24, 3, 13, 110, 96, 190), (27, 3, 8, 34, 0, 0)]) rfl) ?_
  refine xg_t (xg_aload (va := (2, 82)) rfl rfl) ?_
  refine xg_t (xg_getf (va := (0, f82_17)) h82_31 rfl) ?_
  refine xg_t (xg_ifF (u := f82_17) rfl xnm0 (xj_neF (by omega))) ?_
  refine xg_t (xg_aload (va := (2, 82)) rfl rfl) ?_
  refine xg_t (xg_getf (va := (0, f82_11)) h82_31 rfl) ?_
  refine xg_t (xg_const) ?_
  by_cases hc56 : f82_11 = 2
  · refine xg_t (xg_icF (u := f82_11) (v := 2) rfl xnm0 xnm0 (xj_neF hc56)) ?_
    refine xg_t (xg_aload (va := (2, 82)) rfl rfl) ?_
    refine xg_t (xg_getf (va := (0, f82_3)) h82_31 rfl) ?_
    have hn57 : f82_3 ≤ 4294967295 := hb4
    refine xg_t (xg_iload (va := (0, cq)) rfl rfl) ?_
    by_cases hc58 : f82_3 = cq
    · refine xg_t (xg_icF (u := f82_3) (v := cq) rfl xnm0 xnm0 (xj_neF hc58)) ?_
      refine xg_t (xg_aload (va := (2, 82)) rfl rfl) ?_
      obtain ⟨⟨ht59, ht60, ht61, ht62, ht63, ht64⟩, -⟩ := id hT
      have hk65 := h10
      have hk66 := (rfl : fld w 82 14 = fld w 82 14)
      refine xg_cVv mX12_advance (vs := []) (rest := []) (cn1 := 0) (sl1 := 0) rfl (mAdvX (hI) hB ht59 ht60 (by rw [ht61]; exact tf_le ht64)) rfl h82_31 rfl rfl rfl rfl rfl rfl (fun w67 hq68 => ?_)
      obtain ⟨hI69, hF70, hx71⟩ := hq68
      obtain ⟨hz72, hz73, hz74⟩ := hx71
      rw [ht61] at hz72
      clear ht59 ht60 ht61 ht62 ht63 ht64
      obtain ⟨p_75, hp76⟩ : ∃ x, x = tf B nn p := ⟨_, rfl⟩
      rw [← hp76] at hz72
      have k10_77 := hz73.trans hk65
      have k14_78 := hz74.trans hk66
      clear hz73 hz74 hk65 hk66
      refine xg_t (xg_goto) ?_
      refine xg_t (xg_blk (b := [(34, 1, 12, 0, 0, 0)]) rfl) ?_
      exact xg_e ⟨w67, ⟨rfl, rfl⟩, hI69, (hF70.up (by decide)), ⟨Or.inl ⟨by omega, by rw [← hp76]; exact hz72, k10_77, (hF70.1 83 (by decide))⟩, k14_78, (K83.fr hF70 (by decide))⟩⟩
    · refine xg_t (xg_icT (u := f82_3) (v := cq) rfl xnm0 xnm0 (xj_neT hc58)) ?_
      refine xg_t (xg_blk (b := [(30, 1, 0, 0, 0, 0), (31, 3, 13, 140, 96, 183)]) rfl) ?_
      refine xg_t (xg_aload (va := (2, 82)) rfl rfl) ?_
      refine xg_cVv mX12_ends (vs := []) (rest := []) (cn1 := 0) (sl1 := 0) rfl (mEndsX (hI) h10) rfl h82_31 rfl rfl rfl rfl rfl rfl (fun w79 hq80 => ?_)
      obtain ⟨hI81, hF82, hx83⟩ := hq80
      obtain ⟨hv84, hv85, hv86, hv87, hv88⟩ := hx83
      refine xg_t (xg_blk (b := [(34, 1, 12, 0, 0, 0)]) rfl) ?_
      exact xg_e ⟨w79, ⟨rfl, rfl⟩, hI81, (hF82.up (by decide)), ⟨Or.inr ⟨by omega, ⟨hv84, hv85, by omega⟩⟩, hv87, hv88⟩⟩
  · refine xg_t (xg_icT (u := f82_11) (v := 2) rfl xnm0 xnm0 (xj_neT hc56)) ?_
    refine xg_t (xg_blk (b := [(30, 1, 0, 0, 0, 0), (31, 3, 13, 140, 96, 183)]) rfl) ?_
    refine xg_t (xg_aload (va := (2, 82)) rfl rfl) ?_
    refine xg_cVv mX12_ends (vs := []) (rest := []) (cn1 := 0) (sl1 := 0) rfl (mEndsX (hI) h10) rfl h82_31 rfl rfl rfl rfl rfl rfl (fun w89 hq90 => ?_)
    obtain ⟨hI91, hF92, hx93⟩ := hq90
    obtain ⟨hv94, hv95, hv96, hv97, hv98⟩ := hx93
    refine xg_t (xg_blk (b := [(34, 1, 12, 0, 0, 0)]) rfl) ?_
    exact xg_e ⟨w89, ⟨rfl, rfl⟩, hI91, (hF92.up (by decide)), ⟨Or.inr ⟨by omega, ⟨hv94, hv95, by omega⟩⟩, hv97, hv98⟩⟩
theorem mMustW {cq : Nat} (hI : xMnv w) (hcq : cq ≤ 4294967295) (h10 : fld w 82 10 ≠ 0) : xPq (d + 1) mX12_must [(2, 82), (0, cq)] w bd fc rr [] (fun w' => xMnv w' ∧ xFr [] w w') := by
  refine xPq.of ?_
  show xTo (d + 1) mX12_must (0, [], [(0, (2, 82)), (1, (0, cq))], [], (w, bd, fc, 0, 0, rr)) (fun φ => ∃ w', xEnd 0 [] (w', bd, fc, 0, 0, rr) φ ∧ xMnv w' ∧ xFr [] w w')
  obtain ⟨f82_1, f82_3, f82_5, f82_7, f82_9, f82_11, f82_13, f82_15, f82_17, f82_19, f82_21, f82_22, f82_23, f82_25, f82_27, f82_29, h82_31, hb2, hb4, hb6, hb8, hb10, hb12, hb14, hb16, hb18, hb20, hb24, hb26, hb28, hb30, hb32⟩ := (hI 82 (by decide) (by decide) : cp82 (wget w 82))
  replace hb4 := xHid.of hb4
  replace hb10 := xHid.of hb10
  replace hb14 := xHid.of hb14
  replace hb16 := xHid.of hb16
  replace hb20 := xHid.of hb20
  replace hb24 := xHid.of hb24
  replace hb26 := xHid.of hb26
  replace hb28 := xHid.of hb28
  replace hb30 := xHid.of hb30
  have hf33 : fld w 82 10 = f82_17 := fld_of h82_31
  refine xg_t (xg_blk (b := [(0, 1, 0, 0, 0, 0), (1, 3, 1, 12, 10, 180), (4, 3, 7, 30, 1, 0), (7, 1, 0, 0, 0, 0), (8, 3, 1, 12, 7, 151), (11, 1, 3, 2, 0, 0), (12, 3, 6, 30, 1, 0), (15, 1, 0, 0, 0, 0), (16, 3, 1, 12, 3, 174), (19, 1, 2, 1, 0, 0), (20, 3, 6, 30, 1, 0), (23, 1, 0, 0, 0, 0), (24, 3, 13, 110, 96, 190), (27, 3, 8, 34, 0, 0)]) rfl) ?_
  refine xg_t (xg_aload (va := (2, 82)) rfl rfl) ?_
  refine xg_t (xg_getf (va := (0, f82_17)) h82_31 rfl) ?_
  refine xg_t (xg_ifT (u := f82_17) rfl xnm0 (xj_neT (by omega))) ?_
  refine xg_t (xg_blk (b := [(30, 1, 0, 0, 0, 0), (31, 3, 13, 140, 96, 183)]) rfl) ?_
  refine xg_t (xg_aload (va := (2, 82)) rfl rfl) ?_
  refine xg_cVv mX12_ends (vs := []) (rest := []) (cn1 := 0) (sl1 := 0) rfl (mEndsW (hI) h10) rfl h82_31 rfl rfl rfl rfl rfl rfl (fun w34 hq35 => ?_)
  obtain ⟨hI36, hF37⟩ := hq35
  refine xg_t (xg_blk (b := [(34, 1, 12, 0, 0, 0)]) rfl) ?_
  exact xg_e ⟨w34, ⟨rfl, rfl⟩, hI36, (hF37.up (by decide))⟩
theorem mNumbNowX {B : Nat → Nat} {nn p : Nat} (hI : xMnv w) (hB : bsm w B nn) (hT : TKM 1 B nn w p) (h10 : fld w 82 10 = 0) : xPi (d + 5) mX12_numberNow [(2, 82)] w bd fc rr (fun n w' => (n ≤ 4294967295 ∧ ((tkd B nn p = 2 ∧ TKM 1 B nn w' (tf B nn p) ∧ fld w' 82 10 = 0 ∧ wget w' 83 = wget w 83) ∨ (tkd B nn p ≠ 2 ∧ WRG w' (tq B nn p))) ∧ fld w' 82 14 = fld w 82 14 ∧ K83 w w') ∧ xMnv w' ∧ xFr [82, 83] w w') := by
  refine xPi.of ?_
  show xTo (d + 5) mX12_numberNow (0, [], [(0, (2, 82))], [], (w, bd, fc, 0, 0, rr)) (fun φ => ∃ n w', xEnd 1 [(0, n)] (w', bd, fc, 0, 0, rr) φ ∧ (n ≤ 4294967295 ∧ ((tkd B nn p = 2 ∧ TKM 1 B nn w' (tf B nn p) ∧ fld w' 82 10 = 0 ∧ wget w' 83 = wget w 83) ∨ (tkd B nn p ≠ 2 ∧ WRG w' (tq B nn p))) ∧ fld w' 82 14 = fld w 82 14 ∧ K83 w w') ∧ xMnv w' ∧ xFr [82, 83] w w')
  obtain ⟨f82_1, f82_3, f82_5, f82_7, f82_9, f82_11, f82_13, f82_15, f82_17, f82_19, f82_21, f82_22, f82_23, f82_25, f82_27, f82_29, h82_31, hb2, hb4, hb6, hb8, hb10, hb12, hb14, hb16, hb18, hb20, hb24, hb26, hb28, hb30, hb32⟩ := (hI 82 (by decide) (by decide) : cp82 (wget w 82))
  replace hb4 := xHid.of hb4
  replace hb10 := xHid.of hb10
  replace hb14 := xHid.of hb14
  replace hb16 := xHid.of hb16
  replace hb20 := xHid.of hb20
  replace hb24 := xHid.of hb24
  replace hb26 := xHid.of hb26
  replace hb28 := xHid.of hb28
  replace hb30 := xHid.of hb30
  obtain ⟨g83_33, h83_34, hb35, hx36⟩ := (hI 83 (by decide) (by decide) : cpx83 (wget w 83))
  have h83_34 : xRow w 83 5360 50 g83_33 := h83_34
  obtain ⟨⟨ht37, ht38, ht39, ht40, ht41, ht42⟩, ht43, ht44, ht45⟩ := id hT
  have hf46 : fld w 82 3 = f82_3 := fld_of h82_31
  have hf47 : fld w 82 6 = f82_9 := fld_of h82_31
  have hf48 : fld w 82 7 = f82_11 := fld_of h82_31
  have hf49 : fld w 82 8 = f82_13 := fld_of h82_31
  have hf50 : fld w 82 9 = f82_15 := fld_of h82_31
  have hf51 : fld w 82 10 = f82_17 := fld_of h82_31
  have hf52 : fld w 82 14 = f82_19 := fld_of h82_31
  have hmk53 := mkr (B := B) (n := nn) (p := p)
  have hx054 : tkd B nn p ≠ 1 → rwx B nn p = 99 := rwx_0
  have hwd55 : tkd B nn p = 1 → fld w 82 9 = rwx B nn p := hT.word
  clear ht44
  refine xg_t (xg_blk (b := [(0, 1, 0, 0, 0, 0), (1, 3, 1, 12, 8, 171), (4, 1, 15, 1, 0, 0), (5, 1, 0, 0, 0, 0), (6, 3, 1, 12, 10, 180), (9, 3, 7, 27, 1, 0), (12, 1, 0, 0, 0, 0), (13, 3, 1, 12, 7, 151), (16, 1, 3, 1, 0, 0), (17, 3, 6, 27, 1, 0), (20, 1, 0, 0, 0, 0), (21, 3, 13, 110, 96, 190), (24, 3, 8, 31, 0, 0)]) rfl) ?_
  refine xg_t (xg_aload (va := (2, 82)) rfl rfl) ?_
  refine xg_t (xg_getf (va := (0, f82_13)) h82_31 rfl) ?_
  have hn56 : f82_13 ≤ 4294967295 := hb14
  refine xg_t (xg_istore (l1 := [(0, (2, 82))]) rfl rfl rfl) ?_
  refine xg_t (xg_aload (va := (2, 82)) rfl rfl) ?_
  refine xg_t (xg_getf (va := (0, f82_17)) h82_31 rfl) ?_
  refine xg_t (xg_ifF (u := f82_17) rfl xnm0 (xj_neF (by omega))) ?_
  refine xg_t (xg_aload (va := (2, 82)) rfl rfl) ?_
  refine xg_t (xg_getf (va := (0, f82_11)) h82_31 rfl) ?_
  refine xg_t (xg_const) ?_
  by_cases hc57 : f82_11 = 1
  · refine xg_t (xg_icF (u := f82_11) (v := 1) rfl xnm0 xnm0 (xj_neF hc57)) ?_
    refine xg_t (xg_aload (va := (2, 82)) rfl rfl) ?_
    obtain ⟨⟨ht58, ht59, ht60, ht61, ht62, ht63⟩, -⟩ := id hT
    have hk64 := h10
    have hk65 := (rfl : fld w 82 14 = fld w 82 14)
    refine xg_cVv mX12_advance (vs := []) (rest := []) (cn1 := 0) (sl1 := 0) rfl (mAdvX (hI) hB ht58 ht59 (by rw [ht60]; exact tf_le ht63)) rfl h82_31 rfl rfl rfl rfl rfl rfl (fun w66 hq67 => ?_)
    obtain ⟨hI68, hF69, hx70⟩ := hq67
    obtain ⟨hz71, hz72, hz73⟩ := hx70
    rw [ht60] at hz71
    clear ht58 ht59 ht60 ht61 ht62 ht63
    obtain ⟨p_74, hp75⟩ : ∃ x, x = tf B nn p := ⟨_, rfl⟩
    rw [← hp75] at hz71
    have k10_76 := hz72.trans hk64
    have k14_77 := hz73.trans hk65
    clear hz72 hz73 hk64 hk65
    refine xg_t (xg_goto) ?_
    refine xg_t (xg_blk (b := [(31, 1, 2, 1, 0, 0), (32, 1, 12, 0, 1, 0)]) rfl) ?_
    refine xg_t (xg_iload (va := (0, f82_13)) rfl rfl) ?_
    exact xg_e ⟨f82_13, w66, ⟨rfl, rfl⟩, ⟨by omega, Or.inl ⟨by omega, by rw [← hp75]; exact hz71, k10_76, (hF69.1 83 (by decide))⟩, k14_77, (K83.fr hF69 (by decide))⟩, hI68, (hF69.up (by decide))⟩
  · refine xg_t (xg_icT (u := f82_11) (v := 1) rfl xnm0 xnm0 (xj_neT hc57)) ?_
    refine xg_t (xg_blk (b := [(27, 1, 0, 0, 0, 0), (28, 3, 13, 140, 96, 183)]) rfl) ?_
    refine xg_t (xg_aload (va := (2, 82)) rfl rfl) ?_
    refine xg_cVv mX12_ends (vs := []) (rest := []) (cn1 := 0) (sl1 := 0) rfl (mEndsX (hI) h10) rfl h82_31 rfl rfl rfl rfl rfl rfl (fun w78 hq79 => ?_)
    obtain ⟨hI80, hF81, hx82⟩ := hq79
    obtain ⟨hv83, hv84, hv85, hv86, hv87⟩ := hx82
    refine xg_t (xg_blk (b := [(31, 1, 2, 1, 0, 0), (32, 1, 12, 0, 1, 0)]) rfl) ?_
    refine xg_t (xg_iload (va := (0, f82_13)) rfl rfl) ?_
    exact xg_e ⟨f82_13, w78, ⟨rfl, rfl⟩, ⟨by omega, Or.inr ⟨by omega, ⟨hv83, hv84, by omega⟩⟩, hv86, hv87⟩, hI80, (hF81.up (by decide))⟩
set_option maxHeartbeats 60000000 in
theorem mATestX {B : Nat → Nat} {nn p : Nat} (hI : xMnv w) (hB : bsm w B nn) (hT : TKM 1 B nn w p) (h10 : fld w 82 10 = 0) : xPq (d + 6) mX12_aTest [(2, 82)] w bd fc rr [] (fun w' => xMnv w' ∧ xFr [82, 83, 113] w w' ∧ ((((rtR B nn p).1 = true ∧ TKM 1 B nn w' (rtR B nn p).2 ∧ fld w' 82 10 = 0 ∧ wget w' 83 = wget w 83) ∨ ((rtR B nn p).1 = false ∧ WRG w' (tq B nn (rtR B nn p).2))) ∧ fld w' 82 14 = fld w 82 14 ∧ K83 w w')) := by
  refine xPq.of ?_
  show xTo (d + 6) mX12_aTest (0, [], [(0, (2, 82))], [], (w, bd, fc, 0, 0, rr)) (fun φ => ∃ w', xEnd 0 [] (w', bd, fc, 0, 0, rr) φ ∧ xMnv w' ∧ xFr [82, 83, 113] w w' ∧ ((((rtR B nn p).1 = true ∧ TKM 1 B nn w' (rtR B nn p).2 ∧ fld w' 82 10 = 0 ∧ wget w' 83 = wget w 83) ∨ ((rtR B nn p).1 = false ∧ WRG w' (tq B nn (rtR B nn p).2))) ∧ fld w' 82 14 = fld w 82 14 ∧ K83 w w'))
  obtain ⟨f82_1, f82_3, f82_5, f82_7, f82_9, f82_11, f82_13, f82_15, f82_17, f82_19, f82_21, f82_22, f82_23, f82_25, f82_27, f82_29, h82_31, hb2, hb4, hb6, hb8, hb10, hb12, hb14, hb16, hb18, hb20, hb24, hb26, hb28, hb30, hb32⟩ := (hI 82 (by decide) (by decide) : cp82 (wget w 82))
  replace hb4 := xHid.of hb4
  replace hb10 := xHid.of hb10
  replace hb14 := xHid.of hb14
  replace hb16 := xHid.of hb16
  replace hb20 := xHid.of hb20
  replace hb24 := xHid.of hb24
  replace hb26 := xHid.of hb26
  replace hb28 := xHid.of hb28
  replace hb30 := xHid.of hb30
  obtain ⟨g83_33, h83_34, hb35, hx36⟩ := (hI 83 (by decide) (by decide) : cpx83 (wget w 83))
  have h83_34 : xRow w 83 5360 50 g83_33 := h83_34
  obtain ⟨⟨ht37, ht38, ht39, ht40, ht41, ht42⟩, ht43, ht44, ht45⟩ := id hT
  have hf46 : fld w 82 3 = f82_3 := fld_of h82_31
  have hf47 : fld w 82 6 = f82_9 := fld_of h82_31
  have hf48 : fld w 82 7 = f82_11 := fld_of h82_31
  have hf49 : fld w 82 8 = f82_13 := fld_of h82_31
  have hf50 : fld w 82 9 = f82_15 := fld_of h82_31
  have hf51 : fld w 82 10 = f82_17 := fld_of h82_31
  have hf52 : fld w 82 14 = f82_19 := fld_of h82_31
  have hmk53 := mkr (B := B) (n := nn) (p := p)
  have hx054 : tkd B nn p ≠ 1 → rwx B nn p = 99 := rwx_0
  have hwd55 : tkd B nn p = 1 → fld w 82 9 = rwx B nn p := hT.word
  clear ht44
  obtain ⟨g113_56, h113_57, hb58⟩ := (hI 113 (by decide) (by decide) : cpI 4 80 4294967295 (wget w 113))
  have h113_57 : xRow w 113 4 80 g113_56 := h113_57
  refine xg_t (xg_blk (b := [(0, 1, 0, 0, 0, 0), (1, 3, 1, 12, 46, 102), (4, 1, 3, 0, 0, 0), (5, 1, 0, 0, 0, 0), (6, 2, 4, 52, 0, 0), (8, 3, 13, 227, 96, 415), (11, 3, 7, 18, 0, 0), (14, 1, 3, 1, 0, 0), (15, 3, 8, 19, 0, 0)]) rfl) ?_
  refine xg_t (xg_aload (va := (2, 82)) rfl rfl) ?_
  refine xg_t (xg_getf (va := (2, 113)) h82_31 rfl) ?_
  refine xg_t (xg_const) ?_
  refine xg_t (xg_aload (va := (2, 82)) rfl rfl) ?_
  refine xg_t (xg_bip) ?_
  have hk59 := (rfl : fld w 82 14 = fld w 82 14)
  refine xg_cVi mX12_takes (vs := [(0, 52)]) (rest := [(0, 0), (2, 113)]) (cn1 := 0) (sl1 := 0) rfl (mTakesX (hI) (by omega) hB hT h10) rfl h82_31 rfl rfl rfl rfl rfl rfl (fun n64 w60 hq61 => ?_)
  obtain ⟨hn65, hI62, hF63⟩ := hq61
  obtain ⟨hz66, hz67, hz68⟩ := hn65
  have k14_71 := hz68.trans hk59
  rcases hz66 with ⟨rfl, hx69, hx70⟩ | ⟨rfl, hx69, hx70⟩
  · obtain ⟨p_72, hp73⟩ : ∃ x, x = tf B nn p := ⟨_, rfl⟩
    rw [← hp73] at hx70
    refine xg_t (xg_ifF (u := 1) rfl xnm0 (by decide)) ?_
    refine xg_t (xg_const) ?_
    refine xg_t (xg_goto) ?_
    refine xg_t (xg_blk (b := [(19, 1, 17, 0, 0, 0), (20, 1, 0, 0, 0, 0), (21, 3, 1, 12, 46, 102), (24, 1, 3, 1, 0, 0), (25, 1, 0, 0, 0, 0), (26, 3, 1, 12, 9, 165), (29, 1, 17, 0, 0, 0), (30, 1, 0, 0, 0, 0), (31, 3, 1, 12, 46, 102), (34, 1, 3, 2, 0, 0), (35, 2, 4, 61, 0, 0), (37, 1, 17, 0, 0, 0), (38, 1, 0, 0, 0, 0), (39, 3, 1, 12, 46, 102), (42, 1, 3, 3, 0, 0), (43, 1, 3, 1, 0, 0), (44, 1, 17, 0, 0, 0), (45, 1, 0, 0, 0, 0), (46, 3, 1, 12, 10, 180), (49, 3, 7, 74, 1, 0), (52, 1, 0, 0, 0, 0), (53, 3, 1, 12, 7, 151), (56, 1, 3, 3, 0, 0), (57, 3, 6, 74, 1, 0), (60, 1, 0, 0, 0, 0), (61, 3, 1, 12, 9, 165), (64, 2, 4, 20, 0, 0), (66, 2, 4, 30, 0, 0), (68, 3, 13, 161, 98, 105), (71, 3, 7, 79, 1, 0)]) rfl) ?_
    refine xg_iastK (n := 0) (u := 1) (h113_57.fr hF63 (by decide)) xnm0 xnm0 rfl (by omega) (fun w74 hr75 hb76 => ?_)
    obtain ⟨⟨ht77, ht78, ht79, ht80, ht81, ht82⟩, ht83, ht84, ht85⟩ := id (hx70.fr (hb76.1 82 (by decide)))
    obtain ⟨f82_86, f82_88, f82_90, f82_92, f82_94, f82_96, f82_98, f82_100, f82_102, f82_104, f82_106, f82_107, f82_108, f82_110, f82_112, f82_114, h82_116, hb87, hb89, hb91, hb93, hb95, hb97, hb99, hb101, hb103, hb105, hb109, hb111, hb113, hb115, hb117⟩ := (hI62 82 (by decide) (by decide) : cp82 (wget w60 82))
    replace hb89 := xHid.of hb89
    replace hb95 := xHid.of hb95
    replace hb99 := xHid.of hb99
    replace hb101 := xHid.of hb101
    replace hb105 := xHid.of hb105
    replace hb109 := xHid.of hb109
    replace hb111 := xHid.of hb111
    replace hb113 := xHid.of hb113
    replace hb115 := xHid.of hb115
    have hf118 : fld w74 82 3 = f82_88 := fld_of (hb76.get (by decide) h82_116)
    have hf119 : fld w74 82 6 = f82_94 := fld_of (hb76.get (by decide) h82_116)
    have hf120 : fld w74 82 7 = f82_96 := fld_of (hb76.get (by decide) h82_116)
    have hf121 : fld w74 82 8 = f82_98 := fld_of (hb76.get (by decide) h82_116)
    have hf122 : fld w74 82 9 = f82_100 := fld_of (hb76.get (by decide) h82_116)
    have hf123 : fld w74 82 10 = f82_102 := fld_of (hb76.get (by decide) h82_116)
    have hf124 : fld w74 82 14 = f82_104 := fld_of (hb76.get (by decide) h82_116)
    have hmk125 := mkr (B := B) (n := nn) (p := p_72)
    have hx0126 : tkd B nn p_72 ≠ 1 → rwx B nn p_72 = 99 := rwx_0
    have hwd127 : tkd B nn p_72 = 1 → fld w74 82 9 = rwx B nn p_72 := (hx70.fr (hb76.1 82 (by decide))).word
    clear ht84
    refine xg_t (xg_aload (va := (2, 82)) rfl rfl) ?_
    refine xg_t (xg_getf (va := (2, 113)) (hb76.get (by decide) h82_116) rfl) ?_
    refine xg_t (xg_const) ?_
    refine xg_t (xg_aload (va := (2, 82)) rfl rfl) ?_
    refine xg_t (xg_getf (va := (0, f82_100)) (hb76.get (by decide) h82_116) rfl) ?_
    have hn128 : f82_100 ≤ 4294967295 := hb101
    refine xg_iastK (n := 1) (u := f82_100) hr75 xnm0 xnm0 rfl (by omega) (fun w129 hr130 hb131 => ?_)
    refine xg_t (xg_aload (va := (2, 82)) rfl rfl) ?_
    refine xg_t (xg_getf (va := (2, 113)) (hb131.get (by decide) (hb76.get (by decide) h82_116)) rfl) ?_
    refine xg_t (xg_const) ?_
    refine xg_t (xg_bip) ?_
    refine xg_iastK (n := 2) (u := 61) hr130 xnm0 xnm0 rfl (by omega) (fun w132 hr133 hb134 => ?_)
    refine xg_t (xg_aload (va := (2, 82)) rfl rfl) ?_
    refine xg_t (xg_getf (va := (2, 113)) (hb134.get (by decide) (hb131.get (by decide) (hb76.get (by decide) h82_116))) rfl) ?_
    refine xg_t (xg_const) ?_
    refine xg_t (xg_const) ?_
    refine xg_iastK (n := 3) (u := 1) hr133 xnm0 xnm0 rfl (by omega) (fun w135 hr136 hb137 => ?_)
    refine xg_t (xg_aload (va := (2, 82)) rfl rfl) ?_
    refine xg_t (xg_getf (va := (0, f82_102)) (hb137.get (by decide) (hb134.get (by decide) (hb131.get (by decide) (hb76.get (by decide) h82_116)))) rfl) ?_
    refine xg_t (xg_ifF (u := f82_102) rfl xnm0 (xj_neF (by omega))) ?_
    refine xg_t (xg_aload (va := (2, 82)) rfl rfl) ?_
    refine xg_t (xg_getf (va := (0, f82_96)) (hb137.get (by decide) (hb134.get (by decide) (hb131.get (by decide) (hb76.get (by decide) h82_116)))) rfl) ?_
    refine xg_t (xg_const) ?_
    by_cases hc138 : f82_96 = 3
    · refine xg_t (xg_icF (u := f82_96) (v := 3) rfl xnm0 xnm0 (xj_neF hc138)) ?_
      refine xg_t (xg_aload (va := (2, 82)) rfl rfl) ?_
      refine xg_t (xg_getf (va := (0, f82_100)) (hb137.get (by decide) (hb134.get (by decide) (hb131.get (by decide) (hb76.get (by decide) h82_116)))) rfl) ?_
      refine xg_t (xg_bip) ?_
      refine xg_t (xg_bip) ?_
      refine xg_t (xg_cSr mX12_isIn (vs := [(0, f82_100), (0, 20), (0, 30)]) (rest := []) (rs := [(0, if 20 ≤ f82_100 ∧ f82_100 ≤ 30 then 1 else 0)]) (cn1 := 0) (sl1 := 0) rfl (mIsIn (by omega) (by omega) (by omega)) rfl rfl rfl rfl rfl rfl rfl rfl) ?_
      by_cases hc139 : 20 ≤ f82_100 ∧ f82_100 ≤ 30
      · refine xg_t (xg_ifT (u := (if 20 ≤ f82_100 ∧ f82_100 ≤ 30 then 1 else 0)) rfl xnm0 (xj_neT (xite1 hc139))) ?_
        refine xg_t (xg_blk (b := [(79, 1, 0, 0, 0, 0), (80, 3, 13, 110, 96, 190), (83, 1, 0, 0, 0, 0), (84, 3, 1, 12, 46, 102), (87, 1, 3, 1, 0, 0), (88, 1, 10, 0, 0, 0), (89, 2, 4, 21, 0, 0), (91, 3, 6, 95, 4, 0), (94, 1, 12, 0, 0, 0)]) rfl) ?_
        refine xg_t (xg_aload (va := (2, 82)) rfl rfl) ?_
        obtain ⟨⟨ht140, ht141, ht142, ht143, ht144, ht145⟩, -⟩ := id (hx70.fr ((hb137.1 82 (by decide)).trans ((hb134.1 82 (by decide)).trans ((hb131.1 82 (by decide)).trans (hb76.1 82 (by decide))))))
        have hk146 := ((fld_eq (j := 10) ((hb137.1 82 (by decide)).trans ((hb134.1 82 (by decide)).trans ((hb131.1 82 (by decide)).trans (hb76.1 82 (by decide)))))).trans hz67)
        have hk147 := ((fld_eq (j := 14) ((hb137.1 82 (by decide)).trans ((hb134.1 82 (by decide)).trans ((hb131.1 82 (by decide)).trans (hb76.1 82 (by decide)))))).trans k14_71)
        refine xg_cVv mX12_advance (vs := []) (rest := []) (cn1 := 0) (sl1 := 0) rfl (mAdvX (xMnv.up (S := [113]) hI62 ((((xFr.of (S := [113]) hb76 (by decide)).tr (xFr.of (S := [113]) hb131 (by decide))).tr (xFr.of (S := [113]) hb134 (by decide))).tr (xFr.of (S := [113]) hb137 (by decide))) (List.forall_mem_cons.mpr ⟨(show cpI 4 80 4294967295 (wget w135 113) from ⟨_, hr136, xrb (by omega) (xrb (by omega) (xrb (by omega) (xrb (by omega) (hb58))))⟩), fun _ h => absurd h List.not_mem_nil⟩)) (hB.fr (fun j h4 h9 => (((((K83.fr hF63 (by decide)).tr (K83.but hb76 (by decide))).tr (K83.but hb131 (by decide))).tr (K83.but hb134 (by decide))).tr (K83.but hb137 (by decide))) j (by omega) (by omega) (by omega))) ht140 ht141 (by rw [ht142]; exact tf_le ht145)) rfl (hb137.get (by decide) (hb134.get (by decide) (hb131.get (by decide) (hb76.get (by decide) h82_116)))) rfl rfl rfl rfl rfl rfl (fun w148 hq149 => ?_)
        obtain ⟨hI150, hF151, hx152⟩ := hq149
        obtain ⟨hz153, hz154, hz155⟩ := hx152
        rw [ht142] at hz153
        clear ht140 ht141 ht142 ht143 ht144 ht145
        obtain ⟨p_156, hp157⟩ : ∃ x, x = tf B nn p_72 := ⟨_, rfl⟩
        rw [← hp157] at hz153
        have k10_158 := hz154.trans hk146
        have k14_159 := hz155.trans hk147
        clear hz154 hz155 hk146 hk147
        refine xg_t (xg_aload (va := (2, 82)) rfl rfl) ?_
        obtain ⟨f82_160, f82_162, f82_164, f82_166, f82_168, f82_170, f82_172, f82_174, f82_176, f82_178, f82_180, f82_181, f82_182, f82_184, f82_186, f82_188, h82_190, hb161, hb163, hb165, hb167, hb169, hb171, hb173, hb175, hb177, hb179, hb183, hb185, hb187, hb189, hb191⟩ := (hI150 82 (by decide) (by decide) : cp82 (wget w148 82))
        replace hb163 := xHid.of hb163
        replace hb169 := xHid.of hb169
        replace hb173 := xHid.of hb173
        replace hb175 := xHid.of hb175
        replace hb179 := xHid.of hb179
        replace hb183 := xHid.of hb183
        replace hb185 := xHid.of hb185
        replace hb187 := xHid.of hb187
        replace hb189 := xHid.of hb189
        refine xg_t (xg_getf (va := (2, 113)) h82_190 rfl) ?_
        refine xg_t (xg_const) ?_
        refine xg_ialdB (n := 1) (B := 4294967295) (hr136.fr hF151 (by decide)) (xrb (by omega) (xrb (by omega) (xrb (by omega) (xrb (by omega) (hb58))))) xnm0 (by omega) (fun u192 hu193 he194 => ?_)
        have hu195 : u192 = f82_100 := he194.symm
        refine xg_t (xg_bip) ?_
        by_cases hc196 : xbs 21 < xbs u192
        · have hc196u := hc196
          unfold xbs at hc196u
          have hn197 : u192 ≤ 2147483647 := by omega
          refine xg_t (xg_icT (u := u192) (v := 21) rfl xnm0 xnm0 (xjs_gtT hc196)) ?_
          refine xg_t (xg_blk (b := [(95, 1, 0, 0, 0, 0), (96, 3, 1, 12, 46, 102), (99, 1, 3, 2, 0, 0), (100, 1, 0, 0, 0, 0), (101, 3, 1, 12, 3, 174), (104, 1, 17, 0, 0, 0), (105, 1, 0, 0, 0, 0), (106, 3, 1, 12, 7, 151), (109, 1, 3, 2, 0, 0), (110, 3, 6, 131, 1, 0), (113, 1, 0, 0, 0, 0), (114, 3, 1, 12, 3, 174), (117, 2, 4, 58, 0, 0), (119, 3, 6, 131, 0, 0), (122, 1, 0, 0, 0, 0), (123, 3, 1, 12, 3, 174), (126, 2, 4, 59, 0, 0), (128, 3, 6, 136, 1, 0)]) rfl) ?_
          obtain ⟨⟨ht198, ht199, ht200, ht201, ht202, ht203⟩, ht204, ht205, ht206⟩ := id hz153
          have hf207 : fld w148 82 3 = f82_162 := fld_of h82_190
          have hf208 : fld w148 82 6 = f82_168 := fld_of h82_190
          have hf209 : fld w148 82 7 = f82_170 := fld_of h82_190
          have hf210 : fld w148 82 8 = f82_172 := fld_of h82_190
          have hf211 : fld w148 82 9 = f82_174 := fld_of h82_190
          have hf212 : fld w148 82 10 = f82_176 := fld_of h82_190
          have hf213 : fld w148 82 14 = f82_178 := fld_of h82_190
          have hmk214 := mkr (B := B) (n := nn) (p := p_156)
          have hx0215 : tkd B nn p_156 ≠ 1 → rwx B nn p_156 = 99 := rwx_0
          have hwd216 : tkd B nn p_156 = 1 → fld w148 82 9 = rwx B nn p_156 := hz153.word
          clear ht205
          refine xg_t (xg_aload (va := (2, 82)) rfl rfl) ?_
          refine xg_t (xg_getf (va := (2, 113)) h82_190 rfl) ?_
          refine xg_t (xg_const) ?_
          refine xg_t (xg_aload (va := (2, 82)) rfl rfl) ?_
          refine xg_t (xg_getf (va := (0, f82_162)) h82_190 rfl) ?_
          have hn217 : f82_162 ≤ 4294967295 := hb163
          refine xg_iastK (n := 2) (u := f82_162) (hr136.fr hF151 (by decide)) xnm0 xnm0 rfl (by omega) (fun w218 hr219 hb220 => ?_)
          refine xg_t (xg_aload (va := (2, 82)) rfl rfl) ?_
          refine xg_t (xg_getf (va := (0, f82_170)) (hb220.get (by decide) h82_190) rfl) ?_
          refine xg_t (xg_const) ?_
          by_cases hc221 : f82_170 = 2
          · refine xg_t (xg_icF (u := f82_170) (v := 2) rfl xnm0 xnm0 (xj_neF hc221)) ?_
            refine xg_t (xg_aload (va := (2, 82)) rfl rfl) ?_
            refine xg_t (xg_getf (va := (0, f82_162)) (hb220.get (by decide) h82_190) rfl) ?_
            refine xg_t (xg_bip) ?_
            by_cases hc222 : f82_162 = 58
            · refine xg_t (xg_icT (u := f82_162) (v := 58) rfl xnm0 xnm0 (xj_eqT hc222)) ?_
              refine xg_t (xg_blk (b := [(131, 1, 0, 0, 0, 0), (132, 3, 13, 140, 96, 183), (135, 1, 12, 0, 0, 0)]) rfl) ?_
              refine xg_t (xg_aload (va := (2, 82)) rfl rfl) ?_
              have hk223 := ((fld_eq (j := 14) (hb220.1 82 (by decide))).trans k14_159)
              refine xg_cVv mX12_ends (vs := []) (rest := []) (cn1 := 0) (sl1 := 0) rfl (mEndsX (xMnv.up (S := [113]) hI150 (xFr.of (S := [113]) hb220 (by decide)) (List.forall_mem_cons.mpr ⟨(show cpI 4 80 4294967295 (wget w218 113) from ⟨_, hr219, xrb (by omega) (xrb (by omega) (xrb (by omega) (xrb (by omega) (xrb (by omega) (hb58)))))⟩), fun _ h => absurd h List.not_mem_nil⟩)) ((fld_eq (j := 10) (hb220.1 82 (by decide))).trans k10_158)) rfl (hb220.get (by decide) h82_190) rfl rfl rfl rfl rfl rfl (fun w224 hq225 => ?_)
              obtain ⟨hI226, hF227, hx228⟩ := hq225
              obtain ⟨hv229, hv230, hv231, hv232, hv233⟩ := hx228
              have hk234 := hv232.trans hk223
              have hr235 : rtR B nn p = (false, p_156) := by
                unfold rtR
                rw [((rt1_y hx69).trans hp73.symm), rt2_2 (by omega) (by omega) (by rw [← hp157]; omega), ← hp157]
              exact xg_e ⟨w224, ⟨rfl, rfl⟩, hI226, (((((hF63.up (by decide)).tr ((((xFr.of (S := [82, 83, 113]) hb76 (by decide)).tr (xFr.of (S := [82, 83, 113]) hb131 (by decide))).tr (xFr.of (S := [82, 83, 113]) hb134 (by decide))).tr (xFr.of (S := [82, 83, 113]) hb137 (by decide)))).tr (hF151.up (by decide))).tr (xFr.of (S := [82, 83, 113]) hb220 (by decide))).tr (hF227.up (by decide))), ⟨Or.inr ⟨congrArg Prod.fst hr235, by rw [hr235]; exact ⟨hv229, hv230, by omega⟩⟩, hk234, ((((((((K83.fr hF63 (by decide)).tr (K83.but hb76 (by decide))).tr (K83.but hb131 (by decide))).tr (K83.but hb134 (by decide))).tr (K83.but hb137 (by decide))).tr (K83.fr hF151 (by decide))).tr (K83.but hb220 (by decide))).tr hv233)⟩⟩
            · refine xg_t (xg_icF (u := f82_162) (v := 58) rfl xnm0 xnm0 (xj_eqF hc222)) ?_
              refine xg_t (xg_aload (va := (2, 82)) rfl rfl) ?_
              refine xg_t (xg_getf (va := (0, f82_162)) (hb220.get (by decide) h82_190) rfl) ?_
              refine xg_t (xg_bip) ?_
              by_cases hc236 : f82_162 = 59
              · refine xg_t (xg_icF (u := f82_162) (v := 59) rfl xnm0 xnm0 (xj_neF hc236)) ?_
                refine xg_t (xg_blk (b := [(131, 1, 0, 0, 0, 0), (132, 3, 13, 140, 96, 183), (135, 1, 12, 0, 0, 0)]) rfl) ?_
                refine xg_t (xg_aload (va := (2, 82)) rfl rfl) ?_
                have hk237 := ((fld_eq (j := 14) (hb220.1 82 (by decide))).trans k14_159)
                refine xg_cVv mX12_ends (vs := []) (rest := []) (cn1 := 0) (sl1 := 0) rfl (mEndsX (xMnv.up (S := [113]) hI150 (xFr.of (S := [113]) hb220 (by decide)) (List.forall_mem_cons.mpr ⟨(show cpI 4 80 4294967295 (wget w218 113) from ⟨_, hr219, xrb (by omega) (xrb (by omega) (xrb (by omega) (xrb (by omega) (xrb (by omega) (hb58)))))⟩), fun _ h => absurd h List.not_mem_nil⟩)) ((fld_eq (j := 10) (hb220.1 82 (by decide))).trans k10_158)) rfl (hb220.get (by decide) h82_190) rfl rfl rfl rfl rfl rfl (fun w238 hq239 => ?_)
                obtain ⟨hI240, hF241, hx242⟩ := hq239
                obtain ⟨hv243, hv244, hv245, hv246, hv247⟩ := hx242
                have hk248 := hv246.trans hk237
                have hr249 : rtR B nn p = (false, p_156) := by
                  unfold rtR
                  rw [((rt1_y hx69).trans hp73.symm), rt2_2 (by omega) (by omega) (by rw [← hp157]; omega), ← hp157]
                exact xg_e ⟨w238, ⟨rfl, rfl⟩, hI240, (((((hF63.up (by decide)).tr ((((xFr.of (S := [82, 83, 113]) hb76 (by decide)).tr (xFr.of (S := [82, 83, 113]) hb131 (by decide))).tr (xFr.of (S := [82, 83, 113]) hb134 (by decide))).tr (xFr.of (S := [82, 83, 113]) hb137 (by decide)))).tr (hF151.up (by decide))).tr (xFr.of (S := [82, 83, 113]) hb220 (by decide))).tr (hF241.up (by decide))), ⟨Or.inr ⟨congrArg Prod.fst hr249, by rw [hr249]; exact ⟨hv243, hv244, by omega⟩⟩, hk248, ((((((((K83.fr hF63 (by decide)).tr (K83.but hb76 (by decide))).tr (K83.but hb131 (by decide))).tr (K83.but hb134 (by decide))).tr (K83.but hb137 (by decide))).tr (K83.fr hF151 (by decide))).tr (K83.but hb220 (by decide))).tr hv247)⟩⟩
              · refine xg_t (xg_icT (u := f82_162) (v := 59) rfl xnm0 xnm0 (xj_neT hc236)) ?_
                refine xg_t (xg_blk (b := [(136, 1, 0, 0, 0, 0), (137, 3, 13, 110, 96, 190), (140, 1, 0, 0, 0, 0), (141, 3, 1, 12, 46, 102), (144, 1, 3, 3, 0, 0), (145, 1, 0, 0, 0, 0), (146, 3, 13, 198, 96, 418), (149, 1, 17, 0, 0, 0), (150, 1, 12, 0, 0, 0)]) rfl) ?_
                refine xg_t (xg_aload (va := (2, 82)) rfl rfl) ?_
                obtain ⟨⟨ht250, ht251, ht252, ht253, ht254, ht255⟩, -⟩ := id (hz153.fr (hb220.1 82 (by decide)))
                have hk256 := ((fld_eq (j := 10) (hb220.1 82 (by decide))).trans k10_158)
                have hk257 := ((fld_eq (j := 14) (hb220.1 82 (by decide))).trans k14_159)
                refine xg_cVv mX12_advance (vs := []) (rest := []) (cn1 := 0) (sl1 := 0) rfl (mAdvX (xMnv.up (S := [113]) hI150 (xFr.of (S := [113]) hb220 (by decide)) (List.forall_mem_cons.mpr ⟨(show cpI 4 80 4294967295 (wget w218 113) from ⟨_, hr219, xrb (by omega) (xrb (by omega) (xrb (by omega) (xrb (by omega) (xrb (by omega) (hb58)))))⟩), fun _ h => absurd h List.not_mem_nil⟩)) (hB.fr (fun j h4 h9 => (((((((K83.fr hF63 (by decide)).tr (K83.but hb76 (by decide))).tr (K83.but hb131 (by decide))).tr (K83.but hb134 (by decide))).tr (K83.but hb137 (by decide))).tr (K83.fr hF151 (by decide))).tr (K83.but hb220 (by decide))) j (by omega) (by omega) (by omega))) ht250 ht251 (by rw [ht252]; exact tf_le ht255)) rfl (hb220.get (by decide) h82_190) rfl rfl rfl rfl rfl rfl (fun w258 hq259 => ?_)
                obtain ⟨hI260, hF261, hx262⟩ := hq259
                obtain ⟨hz263, hz264, hz265⟩ := hx262
                rw [ht252] at hz263
                clear ht250 ht251 ht252 ht253 ht254 ht255
                obtain ⟨p_266, hp267⟩ : ∃ x, x = tf B nn p_156 := ⟨_, rfl⟩
                rw [← hp267] at hz263
                have k10_268 := hz264.trans hk256
                have k14_269 := hz265.trans hk257
                clear hz264 hz265 hk256 hk257
                refine xg_t (xg_aload (va := (2, 82)) rfl rfl) ?_
                obtain ⟨f82_270, f82_272, f82_274, f82_276, f82_278, f82_280, f82_282, f82_284, f82_286, f82_288, f82_290, f82_291, f82_292, f82_294, f82_296, f82_298, h82_300, hb271, hb273, hb275, hb277, hb279, hb281, hb283, hb285, hb287, hb289, hb293, hb295, hb297, hb299, hb301⟩ := (hI260 82 (by decide) (by decide) : cp82 (wget w258 82))
                replace hb273 := xHid.of hb273
                replace hb279 := xHid.of hb279
                replace hb283 := xHid.of hb283
                replace hb285 := xHid.of hb285
                replace hb289 := xHid.of hb289
                replace hb293 := xHid.of hb293
                replace hb295 := xHid.of hb295
                replace hb297 := xHid.of hb297
                replace hb299 := xHid.of hb299
                refine xg_t (xg_getf (va := (2, 113)) h82_300 rfl) ?_
                refine xg_t (xg_const) ?_
                refine xg_t (xg_aload (va := (2, 82)) rfl rfl) ?_
                have hk302 := k14_269
                refine xg_cVi mX12_numberNow (vs := []) (rest := [(0, 3), (2, 113)]) (cn1 := 0) (sl1 := 0) rfl (mNumbNowX (hI260) (hB.fr (fun j h4 h9 => ((((((((K83.fr hF63 (by decide)).tr (K83.but hb76 (by decide))).tr (K83.but hb131 (by decide))).tr (K83.but hb134 (by decide))).tr (K83.but hb137 (by decide))).tr (K83.fr hF151 (by decide))).tr (K83.but hb220 (by decide))).tr (K83.fr hF261 (by decide))) j (by omega) (by omega) (by omega))) hz263 k10_268) rfl h82_300 rfl rfl rfl rfl rfl rfl (fun n307 w303 hq304 => ?_)
                obtain ⟨hn308, hI305, hF306⟩ := hq304
                obtain ⟨hn309, hn310, hn311, hn312⟩ := hn308
                have hk317 := hn311.trans hk302
                rcases hn310 with ⟨hx313, hx314, hx315, hx316⟩ | ⟨hx313, hx314⟩
                · obtain ⟨p_318, hp319⟩ : ∃ x, x = tf B nn p_266 := ⟨_, rfl⟩
                  rw [← hp319] at hx314
                  refine xg_iastK (n := 3) (u := n307) ((hr219.fr hF261 (by decide)).fr hF306 (by decide)) xnm0 xnm0 rfl (by omega) (fun w320 hr321 hb322 => ?_)
                  have hr323 : rtR B nn p = (true, p_318) := by
                    unfold rtR
                    rw [((rt1_y hx69).trans hp73.symm), rt2_4 (by omega) (by omega) (by rw [← hp157]; omega) (by rw [← hp157, ← hp267]; omega), ← hp157, ← hp267, ← hp319]
                  exact xg_e ⟨w320, ⟨rfl, rfl⟩, xMnv.up (S := [113]) hI305 (xFr.of (S := [113]) hb322 (by decide)) (List.forall_mem_cons.mpr ⟨(show cpI 4 80 4294967295 (wget w320 113) from ⟨_, hr321, xrb (by omega) (xrb (by omega) (xrb (by omega) (xrb (by omega) (xrb (by omega) (xrb (by omega) (hb58))))))⟩), fun _ h => absurd h List.not_mem_nil⟩), (((((((hF63.up (by decide)).tr ((((xFr.of (S := [82, 83, 113]) hb76 (by decide)).tr (xFr.of (S := [82, 83, 113]) hb131 (by decide))).tr (xFr.of (S := [82, 83, 113]) hb134 (by decide))).tr (xFr.of (S := [82, 83, 113]) hb137 (by decide)))).tr (hF151.up (by decide))).tr (xFr.of (S := [82, 83, 113]) hb220 (by decide))).tr (hF261.up (by decide))).tr (hF306.up (by decide))).tr (xFr.of (S := [82, 83, 113]) hb322 (by decide))), ⟨Or.inl ⟨congrArg Prod.fst hr323, by rw [hr323]; exact (hx314.fr (hb322.1 82 (by decide))), ((fld_eq (j := 10) (hb322.1 82 (by decide))).trans hx315), ((hb322.1 83 (by decide)).trans (hx316.trans ((hF261.1 83 (by decide)).trans ((hb220.1 83 (by decide)).trans ((hF151.1 83 (by decide)).trans ((hb137.1 83 (by decide)).trans ((hb134.1 83 (by decide)).trans ((hb131.1 83 (by decide)).trans ((hb76.1 83 (by decide)).trans (hF63.1 83 (by decide)))))))))))⟩, ((fld_eq (j := 14) (hb322.1 82 (by decide))).trans hk317), ((((((((((K83.fr hF63 (by decide)).tr (K83.but hb76 (by decide))).tr (K83.but hb131 (by decide))).tr (K83.but hb134 (by decide))).tr (K83.but hb137 (by decide))).tr (K83.fr hF151 (by decide))).tr (K83.but hb220 (by decide))).tr (K83.fr hF261 (by decide))).tr hn312).tr (K83.but hb322 (by decide)))⟩⟩
                · refine xg_iastK (n := 3) (u := n307) ((hr219.fr hF261 (by decide)).fr hF306 (by decide)) xnm0 xnm0 rfl (by omega) (fun w324 hr325 hb326 => ?_)
                  have hr327 : rtR B nn p = (false, p_266) := by
                    unfold rtR
                    rw [((rt1_y hx69).trans hp73.symm), rt2_3 (by omega) (by omega) (by rw [← hp157]; omega) (by rw [← hp157, ← hp267]; omega), ← hp157, ← hp267]
                  exact xg_e ⟨w324, ⟨rfl, rfl⟩, xMnv.up (S := [113]) hI305 (xFr.of (S := [113]) hb326 (by decide)) (List.forall_mem_cons.mpr ⟨(show cpI 4 80 4294967295 (wget w324 113) from ⟨_, hr325, xrb (by omega) (xrb (by omega) (xrb (by omega) (xrb (by omega) (xrb (by omega) (xrb (by omega) (hb58))))))⟩), fun _ h => absurd h List.not_mem_nil⟩), (((((((hF63.up (by decide)).tr ((((xFr.of (S := [82, 83, 113]) hb76 (by decide)).tr (xFr.of (S := [82, 83, 113]) hb131 (by decide))).tr (xFr.of (S := [82, 83, 113]) hb134 (by decide))).tr (xFr.of (S := [82, 83, 113]) hb137 (by decide)))).tr (hF151.up (by decide))).tr (xFr.of (S := [82, 83, 113]) hb220 (by decide))).tr (hF261.up (by decide))).tr (hF306.up (by decide))).tr (xFr.of (S := [82, 83, 113]) hb326 (by decide))), ⟨Or.inr ⟨congrArg Prod.fst hr327, by rw [hr327]; exact hx314⟩, hk317, ((((((((((K83.fr hF63 (by decide)).tr (K83.but hb76 (by decide))).tr (K83.but hb131 (by decide))).tr (K83.but hb134 (by decide))).tr (K83.but hb137 (by decide))).tr (K83.fr hF151 (by decide))).tr (K83.but hb220 (by decide))).tr (K83.fr hF261 (by decide))).tr hn312).tr (K83.but hb326 (by decide)))⟩⟩
          · refine xg_t (xg_icT (u := f82_170) (v := 2) rfl xnm0 xnm0 (xj_neT hc221)) ?_
            refine xg_t (xg_blk (b := [(131, 1, 0, 0, 0, 0), (132, 3, 13, 140, 96, 183), (135, 1, 12, 0, 0, 0)]) rfl) ?_
            refine xg_t (xg_aload (va := (2, 82)) rfl rfl) ?_
            have hk328 := ((fld_eq (j := 14) (hb220.1 82 (by decide))).trans k14_159)
            refine xg_cVv mX12_ends (vs := []) (rest := []) (cn1 := 0) (sl1 := 0) rfl (mEndsX (xMnv.up (S := [113]) hI150 (xFr.of (S := [113]) hb220 (by decide)) (List.forall_mem_cons.mpr ⟨(show cpI 4 80 4294967295 (wget w218 113) from ⟨_, hr219, xrb (by omega) (xrb (by omega) (xrb (by omega) (xrb (by omega) (xrb (by omega) (hb58)))))⟩), fun _ h => absurd h List.not_mem_nil⟩)) ((fld_eq (j := 10) (hb220.1 82 (by decide))).trans k10_158)) rfl (hb220.get (by decide) h82_190) rfl rfl rfl rfl rfl rfl (fun w329 hq330 => ?_)
            obtain ⟨hI331, hF332, hx333⟩ := hq330
            obtain ⟨hv334, hv335, hv336, hv337, hv338⟩ := hx333
            have hk339 := hv337.trans hk328
            have hr340 : rtR B nn p = (false, p_156) := by
              unfold rtR
              rw [((rt1_y hx69).trans hp73.symm), rt2_2 (by omega) (by omega) (by rw [← hp157]; omega), ← hp157]
            exact xg_e ⟨w329, ⟨rfl, rfl⟩, hI331, (((((hF63.up (by decide)).tr ((((xFr.of (S := [82, 83, 113]) hb76 (by decide)).tr (xFr.of (S := [82, 83, 113]) hb131 (by decide))).tr (xFr.of (S := [82, 83, 113]) hb134 (by decide))).tr (xFr.of (S := [82, 83, 113]) hb137 (by decide)))).tr (hF151.up (by decide))).tr (xFr.of (S := [82, 83, 113]) hb220 (by decide))).tr (hF332.up (by decide))), ⟨Or.inr ⟨congrArg Prod.fst hr340, by rw [hr340]; exact ⟨hv334, hv335, by omega⟩⟩, hk339, ((((((((K83.fr hF63 (by decide)).tr (K83.but hb76 (by decide))).tr (K83.but hb131 (by decide))).tr (K83.but hb134 (by decide))).tr (K83.but hb137 (by decide))).tr (K83.fr hF151 (by decide))).tr (K83.but hb220 (by decide))).tr hv338)⟩⟩
        · have hc196u := hc196
          unfold xbs at hc196u
          refine xg_t (xg_icF (u := u192) (v := 21) rfl xnm0 xnm0 (xjs_gtF hc196)) ?_
          have hr341 : rtR B nn p = (true, p_156) := by
            unfold rtR
            rw [((rt1_y hx69).trans hp73.symm), rt2_1 (by omega) (by omega), ← hp157]
          exact xg_e ⟨w148, ⟨rfl, rfl⟩, hI150, (((hF63.up (by decide)).tr ((((xFr.of (S := [82, 83, 113]) hb76 (by decide)).tr (xFr.of (S := [82, 83, 113]) hb131 (by decide))).tr (xFr.of (S := [82, 83, 113]) hb134 (by decide))).tr (xFr.of (S := [82, 83, 113]) hb137 (by decide)))).tr (hF151.up (by decide))), ⟨Or.inl ⟨congrArg Prod.fst hr341, by rw [hr341]; exact hz153, k10_158, ((hF151.1 83 (by decide)).trans ((hb137.1 83 (by decide)).trans ((hb134.1 83 (by decide)).trans ((hb131.1 83 (by decide)).trans ((hb76.1 83 (by decide)).trans (hF63.1 83 (by decide)))))))⟩, k14_159, ((((((K83.fr hF63 (by decide)).tr (K83.but hb76 (by decide))).tr (K83.but hb131 (by decide))).tr (K83.but hb134 (by decide))).tr (K83.but hb137 (by decide))).tr (K83.fr hF151 (by decide)))⟩⟩
      · refine xg_t (xg_ifF (u := (if 20 ≤ f82_100 ∧ f82_100 ≤ 30 then 1 else 0)) rfl xnm0 (xj_neF (xite0 hc139))) ?_
        refine xg_t (xg_blk (b := [(74, 1, 0, 0, 0, 0), (75, 3, 13, 140, 96, 183), (78, 1, 12, 0, 0, 0)]) rfl) ?_
        refine xg_t (xg_aload (va := (2, 82)) rfl rfl) ?_
        have hk342 := ((fld_eq (j := 14) ((hb137.1 82 (by decide)).trans ((hb134.1 82 (by decide)).trans ((hb131.1 82 (by decide)).trans (hb76.1 82 (by decide)))))).trans k14_71)
        refine xg_cVv mX12_ends (vs := []) (rest := []) (cn1 := 0) (sl1 := 0) rfl (mEndsX (xMnv.up (S := [113]) hI62 ((((xFr.of (S := [113]) hb76 (by decide)).tr (xFr.of (S := [113]) hb131 (by decide))).tr (xFr.of (S := [113]) hb134 (by decide))).tr (xFr.of (S := [113]) hb137 (by decide))) (List.forall_mem_cons.mpr ⟨(show cpI 4 80 4294967295 (wget w135 113) from ⟨_, hr136, xrb (by omega) (xrb (by omega) (xrb (by omega) (xrb (by omega) (hb58))))⟩), fun _ h => absurd h List.not_mem_nil⟩)) ((fld_eq (j := 10) ((hb137.1 82 (by decide)).trans ((hb134.1 82 (by decide)).trans ((hb131.1 82 (by decide)).trans (hb76.1 82 (by decide)))))).trans hz67)) rfl (hb137.get (by decide) (hb134.get (by decide) (hb131.get (by decide) (hb76.get (by decide) h82_116)))) rfl rfl rfl rfl rfl rfl (fun w343 hq344 => ?_)
        obtain ⟨hI345, hF346, hx347⟩ := hq344
        obtain ⟨hv348, hv349, hv350, hv351, hv352⟩ := hx347
        have hk353 := hv351.trans hk342
        have hr354 : rtR B nn p = (false, p_72) := by
          unfold rtR
          rw [((rt1_y hx69).trans hp73.symm), rt2_0 (by omega)]
        exact xg_e ⟨w343, ⟨rfl, rfl⟩, hI345, (((hF63.up (by decide)).tr ((((xFr.of (S := [82, 83, 113]) hb76 (by decide)).tr (xFr.of (S := [82, 83, 113]) hb131 (by decide))).tr (xFr.of (S := [82, 83, 113]) hb134 (by decide))).tr (xFr.of (S := [82, 83, 113]) hb137 (by decide)))).tr (hF346.up (by decide))), ⟨Or.inr ⟨congrArg Prod.fst hr354, by rw [hr354]; exact ⟨hv348, hv349, by omega⟩⟩, hk353, ((((((K83.fr hF63 (by decide)).tr (K83.but hb76 (by decide))).tr (K83.but hb131 (by decide))).tr (K83.but hb134 (by decide))).tr (K83.but hb137 (by decide))).tr hv352)⟩⟩
    · refine xg_t (xg_icT (u := f82_96) (v := 3) rfl xnm0 xnm0 (xj_neT hc138)) ?_
      refine xg_t (xg_blk (b := [(74, 1, 0, 0, 0, 0), (75, 3, 13, 140, 96, 183), (78, 1, 12, 0, 0, 0)]) rfl) ?_
      refine xg_t (xg_aload (va := (2, 82)) rfl rfl) ?_
      have hk355 := ((fld_eq (j := 14) ((hb137.1 82 (by decide)).trans ((hb134.1 82 (by decide)).trans ((hb131.1 82 (by decide)).trans (hb76.1 82 (by decide)))))).trans k14_71)
      refine xg_cVv mX12_ends (vs := []) (rest := []) (cn1 := 0) (sl1 := 0) rfl (mEndsX (xMnv.up (S := [113]) hI62 ((((xFr.of (S := [113]) hb76 (by decide)).tr (xFr.of (S := [113]) hb131 (by decide))).tr (xFr.of (S := [113]) hb134 (by decide))).tr (xFr.of (S := [113]) hb137 (by decide))) (List.forall_mem_cons.mpr ⟨(show cpI 4 80 4294967295 (wget w135 113) from ⟨_, hr136, xrb (by omega) (xrb (by omega) (xrb (by omega) (xrb (by omega) (hb58))))⟩), fun _ h => absurd h List.not_mem_nil⟩)) ((fld_eq (j := 10) ((hb137.1 82 (by decide)).trans ((hb134.1 82 (by decide)).trans ((hb131.1 82 (by decide)).trans (hb76.1 82 (by decide)))))).trans hz67)) rfl (hb137.get (by decide) (hb134.get (by decide) (hb131.get (by decide) (hb76.get (by decide) h82_116)))) rfl rfl rfl rfl rfl rfl (fun w356 hq357 => ?_)
      obtain ⟨hI358, hF359, hx360⟩ := hq357
      obtain ⟨hv361, hv362, hv363, hv364, hv365⟩ := hx360
      have hk366 := hv364.trans hk355
      have hr367 : rtR B nn p = (false, p_72) := by
        unfold rtR
        rw [((rt1_y hx69).trans hp73.symm), rt2_0 (by omega)]
      exact xg_e ⟨w356, ⟨rfl, rfl⟩, hI358, (((hF63.up (by decide)).tr ((((xFr.of (S := [82, 83, 113]) hb76 (by decide)).tr (xFr.of (S := [82, 83, 113]) hb131 (by decide))).tr (xFr.of (S := [82, 83, 113]) hb134 (by decide))).tr (xFr.of (S := [82, 83, 113]) hb137 (by decide)))).tr (hF359.up (by decide))), ⟨Or.inr ⟨congrArg Prod.fst hr367, by rw [hr367]; exact ⟨hv361, hv362, by omega⟩⟩, hk366, ((((((K83.fr hF63 (by decide)).tr (K83.but hb76 (by decide))).tr (K83.but hb131 (by decide))).tr (K83.but hb134 (by decide))).tr (K83.but hb137 (by decide))).tr hv365)⟩⟩
  · refine xg_t (xg_ifT (u := 0) rfl xnm0 (by decide)) ?_
    refine xg_t (xg_blk (b := [(18, 1, 3, 0, 0, 0)]) rfl) ?_
    refine xg_t (xg_const) ?_
    refine xg_t (xg_blk (b := [(19, 1, 17, 0, 0, 0), (20, 1, 0, 0, 0, 0), (21, 3, 1, 12, 46, 102), (24, 1, 3, 1, 0, 0), (25, 1, 0, 0, 0, 0), (26, 3, 1, 12, 9, 165), (29, 1, 17, 0, 0, 0), (30, 1, 0, 0, 0, 0), (31, 3, 1, 12, 46, 102), (34, 1, 3, 2, 0, 0), (35, 2, 4, 61, 0, 0), (37, 1, 17, 0, 0, 0), (38, 1, 0, 0, 0, 0), (39, 3, 1, 12, 46, 102), (42, 1, 3, 3, 0, 0), (43, 1, 3, 1, 0, 0), (44, 1, 17, 0, 0, 0), (45, 1, 0, 0, 0, 0), (46, 3, 1, 12, 10, 180), (49, 3, 7, 74, 1, 0), (52, 1, 0, 0, 0, 0), (53, 3, 1, 12, 7, 151), (56, 1, 3, 3, 0, 0), (57, 3, 6, 74, 1, 0), (60, 1, 0, 0, 0, 0), (61, 3, 1, 12, 9, 165), (64, 2, 4, 20, 0, 0), (66, 2, 4, 30, 0, 0), (68, 3, 13, 161, 98, 105), (71, 3, 7, 79, 1, 0)]) rfl) ?_
    refine xg_iastK (n := 0) (u := 0) (h113_57.fr hF63 (by decide)) xnm0 xnm0 rfl (by omega) (fun w368 hr369 hb370 => ?_)
    obtain ⟨⟨ht371, ht372, ht373, ht374, ht375, ht376⟩, ht377, ht378, ht379⟩ := id (hx70.fr (hb370.1 82 (by decide)))
    obtain ⟨f82_380, f82_382, f82_384, f82_386, f82_388, f82_390, f82_392, f82_394, f82_396, f82_398, f82_400, f82_401, f82_402, f82_404, f82_406, f82_408, h82_410, hb381, hb383, hb385, hb387, hb389, hb391, hb393, hb395, hb397, hb399, hb403, hb405, hb407, hb409, hb411⟩ := (hI62 82 (by decide) (by decide) : cp82 (wget w60 82))
    replace hb383 := xHid.of hb383
    replace hb389 := xHid.of hb389
    replace hb393 := xHid.of hb393
    replace hb395 := xHid.of hb395
    replace hb399 := xHid.of hb399
    replace hb403 := xHid.of hb403
    replace hb405 := xHid.of hb405
    replace hb407 := xHid.of hb407
    replace hb409 := xHid.of hb409
    have hf412 : fld w368 82 3 = f82_382 := fld_of (hb370.get (by decide) h82_410)
    have hf413 : fld w368 82 6 = f82_388 := fld_of (hb370.get (by decide) h82_410)
    have hf414 : fld w368 82 7 = f82_390 := fld_of (hb370.get (by decide) h82_410)
    have hf415 : fld w368 82 8 = f82_392 := fld_of (hb370.get (by decide) h82_410)
    have hf416 : fld w368 82 9 = f82_394 := fld_of (hb370.get (by decide) h82_410)
    have hf417 : fld w368 82 10 = f82_396 := fld_of (hb370.get (by decide) h82_410)
    have hf418 : fld w368 82 14 = f82_398 := fld_of (hb370.get (by decide) h82_410)
    have hmk419 := mkr (B := B) (n := nn) (p := p)
    have hx0420 : tkd B nn p ≠ 1 → rwx B nn p = 99 := rwx_0
    have hwd421 : tkd B nn p = 1 → fld w368 82 9 = rwx B nn p := (hx70.fr (hb370.1 82 (by decide))).word
    clear ht378
    refine xg_t (xg_aload (va := (2, 82)) rfl rfl) ?_
    refine xg_t (xg_getf (va := (2, 113)) (hb370.get (by decide) h82_410) rfl) ?_
    refine xg_t (xg_const) ?_
    refine xg_t (xg_aload (va := (2, 82)) rfl rfl) ?_
    refine xg_t (xg_getf (va := (0, f82_394)) (hb370.get (by decide) h82_410) rfl) ?_
    have hn422 : f82_394 ≤ 4294967295 := hb395
    refine xg_iastK (n := 1) (u := f82_394) hr369 xnm0 xnm0 rfl (by omega) (fun w423 hr424 hb425 => ?_)
    refine xg_t (xg_aload (va := (2, 82)) rfl rfl) ?_
    refine xg_t (xg_getf (va := (2, 113)) (hb425.get (by decide) (hb370.get (by decide) h82_410)) rfl) ?_
    refine xg_t (xg_const) ?_
    refine xg_t (xg_bip) ?_
    refine xg_iastK (n := 2) (u := 61) hr424 xnm0 xnm0 rfl (by omega) (fun w426 hr427 hb428 => ?_)
    refine xg_t (xg_aload (va := (2, 82)) rfl rfl) ?_
    refine xg_t (xg_getf (va := (2, 113)) (hb428.get (by decide) (hb425.get (by decide) (hb370.get (by decide) h82_410))) rfl) ?_
    refine xg_t (xg_const) ?_
    refine xg_t (xg_const) ?_
    refine xg_iastK (n := 3) (u := 1) hr427 xnm0 xnm0 rfl (by omega) (fun w429 hr430 hb431 => ?_)
    refine xg_t (xg_aload (va := (2, 82)) rfl rfl) ?_
    refine xg_t (xg_getf (va := (0, f82_396)) (hb431.get (by decide) (hb428.get (by decide) (hb425.get (by decide) (hb370.get (by decide) h82_410)))) rfl) ?_
    refine xg_t (xg_ifF (u := f82_396) rfl xnm0 (xj_neF (by omega))) ?_
    refine xg_t (xg_aload (va := (2, 82)) rfl rfl) ?_
    refine xg_t (xg_getf (va := (0, f82_390)) (hb431.get (by decide) (hb428.get (by decide) (hb425.get (by decide) (hb370.get (by decide) h82_410)))) rfl) ?_
    refine xg_t (xg_const) ?_
    by_cases hc432 : f82_390 = 3
    · refine xg_t (xg_icF (u := f82_390) (v := 3) rfl xnm0 xnm0 (xj_neF hc432)) ?_
      refine xg_t (xg_aload (va := (2, 82)) rfl rfl) ?_
      refine xg_t (xg_getf (va := (0, f82_394)) (hb431.get (by decide) (hb428.get (by decide) (hb425.get (by decide) (hb370.get (by decide) h82_410)))) rfl) ?_
      refine xg_t (xg_bip) ?_
      refine xg_t (xg_bip) ?_
      refine xg_t (xg_cSr mX12_isIn (vs := [(0, f82_394), (0, 20), (0, 30)]) (rest := []) (rs := [(0, if 20 ≤ f82_394 ∧ f82_394 ≤ 30 then 1 else 0)]) (cn1 := 0) (sl1 := 0) rfl (mIsIn (by omega) (by omega) (by omega)) rfl rfl rfl rfl rfl rfl rfl rfl) ?_
      by_cases hc433 : 20 ≤ f82_394 ∧ f82_394 ≤ 30
      · refine xg_t (xg_ifT (u := (if 20 ≤ f82_394 ∧ f82_394 ≤ 30 then 1 else 0)) rfl xnm0 (xj_neT (xite1 hc433))) ?_
        refine xg_t (xg_blk (b := [(79, 1, 0, 0, 0, 0), (80, 3, 13, 110, 96, 190), (83, 1, 0, 0, 0, 0), (84, 3, 1, 12, 46, 102), (87, 1, 3, 1, 0, 0), (88, 1, 10, 0, 0, 0), (89, 2, 4, 21, 0, 0), (91, 3, 6, 95, 4, 0), (94, 1, 12, 0, 0, 0)]) rfl) ?_
        refine xg_t (xg_aload (va := (2, 82)) rfl rfl) ?_
        obtain ⟨⟨ht434, ht435, ht436, ht437, ht438, ht439⟩, -⟩ := id (hx70.fr ((hb431.1 82 (by decide)).trans ((hb428.1 82 (by decide)).trans ((hb425.1 82 (by decide)).trans (hb370.1 82 (by decide))))))
        have hk440 := ((fld_eq (j := 10) ((hb431.1 82 (by decide)).trans ((hb428.1 82 (by decide)).trans ((hb425.1 82 (by decide)).trans (hb370.1 82 (by decide)))))).trans hz67)
        have hk441 := ((fld_eq (j := 14) ((hb431.1 82 (by decide)).trans ((hb428.1 82 (by decide)).trans ((hb425.1 82 (by decide)).trans (hb370.1 82 (by decide)))))).trans k14_71)
        refine xg_cVv mX12_advance (vs := []) (rest := []) (cn1 := 0) (sl1 := 0) rfl (mAdvX (xMnv.up (S := [113]) hI62 ((((xFr.of (S := [113]) hb370 (by decide)).tr (xFr.of (S := [113]) hb425 (by decide))).tr (xFr.of (S := [113]) hb428 (by decide))).tr (xFr.of (S := [113]) hb431 (by decide))) (List.forall_mem_cons.mpr ⟨(show cpI 4 80 4294967295 (wget w429 113) from ⟨_, hr430, xrb (by omega) (xrb (by omega) (xrb (by omega) (xrb (by omega) (hb58))))⟩), fun _ h => absurd h List.not_mem_nil⟩)) (hB.fr (fun j h4 h9 => (((((K83.fr hF63 (by decide)).tr (K83.but hb370 (by decide))).tr (K83.but hb425 (by decide))).tr (K83.but hb428 (by decide))).tr (K83.but hb431 (by decide))) j (by omega) (by omega) (by omega))) ht434 ht435 (by rw [ht436]; exact tf_le ht439)) rfl (hb431.get (by decide) (hb428.get (by decide) (hb425.get (by decide) (hb370.get (by decide) h82_410)))) rfl rfl rfl rfl rfl rfl (fun w442 hq443 => ?_)
        obtain ⟨hI444, hF445, hx446⟩ := hq443
        obtain ⟨hz447, hz448, hz449⟩ := hx446
        rw [ht436] at hz447
        clear ht434 ht435 ht436 ht437 ht438 ht439
        obtain ⟨p_450, hp451⟩ : ∃ x, x = tf B nn p := ⟨_, rfl⟩
        rw [← hp451] at hz447
        have k10_452 := hz448.trans hk440
        have k14_453 := hz449.trans hk441
        clear hz448 hz449 hk440 hk441
        refine xg_t (xg_aload (va := (2, 82)) rfl rfl) ?_
        obtain ⟨f82_454, f82_456, f82_458, f82_460, f82_462, f82_464, f82_466, f82_468, f82_470, f82_472, f82_474, f82_475, f82_476, f82_478, f82_480, f82_482, h82_484, hb455, hb457, hb459, hb461, hb463, hb465, hb467, hb469, hb471, hb473, hb477, hb479, hb481, hb483, hb485⟩ := (hI444 82 (by decide) (by decide) : cp82 (wget w442 82))
        replace hb457 := xHid.of hb457
        replace hb463 := xHid.of hb463
        replace hb467 := xHid.of hb467
        replace hb469 := xHid.of hb469
        replace hb473 := xHid.of hb473
        replace hb477 := xHid.of hb477
        replace hb479 := xHid.of hb479
        replace hb481 := xHid.of hb481
        replace hb483 := xHid.of hb483
        refine xg_t (xg_getf (va := (2, 113)) h82_484 rfl) ?_
        refine xg_t (xg_const) ?_
        refine xg_ialdB (n := 1) (B := 4294967295) (hr430.fr hF445 (by decide)) (xrb (by omega) (xrb (by omega) (xrb (by omega) (xrb (by omega) (hb58))))) xnm0 (by omega) (fun u486 hu487 he488 => ?_)
        have hu489 : u486 = f82_394 := he488.symm
        refine xg_t (xg_bip) ?_
        by_cases hc490 : xbs 21 < xbs u486
        · have hc490u := hc490
          unfold xbs at hc490u
          have hn491 : u486 ≤ 2147483647 := by omega
          refine xg_t (xg_icT (u := u486) (v := 21) rfl xnm0 xnm0 (xjs_gtT hc490)) ?_
          refine xg_t (xg_blk (b := [(95, 1, 0, 0, 0, 0), (96, 3, 1, 12, 46, 102), (99, 1, 3, 2, 0, 0), (100, 1, 0, 0, 0, 0), (101, 3, 1, 12, 3, 174), (104, 1, 17, 0, 0, 0), (105, 1, 0, 0, 0, 0), (106, 3, 1, 12, 7, 151), (109, 1, 3, 2, 0, 0), (110, 3, 6, 131, 1, 0), (113, 1, 0, 0, 0, 0), (114, 3, 1, 12, 3, 174), (117, 2, 4, 58, 0, 0), (119, 3, 6, 131, 0, 0), (122, 1, 0, 0, 0, 0), (123, 3, 1, 12, 3, 174), (126, 2, 4, 59, 0, 0), (128, 3, 6, 136, 1, 0)]) rfl) ?_
          obtain ⟨⟨ht492, ht493, ht494, ht495, ht496, ht497⟩, ht498, ht499, ht500⟩ := id hz447
          have hf501 : fld w442 82 3 = f82_456 := fld_of h82_484
          have hf502 : fld w442 82 6 = f82_462 := fld_of h82_484
          have hf503 : fld w442 82 7 = f82_464 := fld_of h82_484
          have hf504 : fld w442 82 8 = f82_466 := fld_of h82_484
          have hf505 : fld w442 82 9 = f82_468 := fld_of h82_484
          have hf506 : fld w442 82 10 = f82_470 := fld_of h82_484
          have hf507 : fld w442 82 14 = f82_472 := fld_of h82_484
          have hmk508 := mkr (B := B) (n := nn) (p := p_450)
          have hx0509 : tkd B nn p_450 ≠ 1 → rwx B nn p_450 = 99 := rwx_0
          have hwd510 : tkd B nn p_450 = 1 → fld w442 82 9 = rwx B nn p_450 := hz447.word
          clear ht499
          refine xg_t (xg_aload (va := (2, 82)) rfl rfl) ?_
          refine xg_t (xg_getf (va := (2, 113)) h82_484 rfl) ?_
          refine xg_t (xg_const) ?_
          refine xg_t (xg_aload (va := (2, 82)) rfl rfl) ?_
          refine xg_t (xg_getf (va := (0, f82_456)) h82_484 rfl) ?_
          have hn511 : f82_456 ≤ 4294967295 := hb457
          refine xg_iastK (n := 2) (u := f82_456) (hr430.fr hF445 (by decide)) xnm0 xnm0 rfl (by omega) (fun w512 hr513 hb514 => ?_)
          refine xg_t (xg_aload (va := (2, 82)) rfl rfl) ?_
          refine xg_t (xg_getf (va := (0, f82_464)) (hb514.get (by decide) h82_484) rfl) ?_
          refine xg_t (xg_const) ?_
          by_cases hc515 : f82_464 = 2
          · refine xg_t (xg_icF (u := f82_464) (v := 2) rfl xnm0 xnm0 (xj_neF hc515)) ?_
            refine xg_t (xg_aload (va := (2, 82)) rfl rfl) ?_
            refine xg_t (xg_getf (va := (0, f82_456)) (hb514.get (by decide) h82_484) rfl) ?_
            refine xg_t (xg_bip) ?_
            by_cases hc516 : f82_456 = 58
            · refine xg_t (xg_icT (u := f82_456) (v := 58) rfl xnm0 xnm0 (xj_eqT hc516)) ?_
              refine xg_t (xg_blk (b := [(131, 1, 0, 0, 0, 0), (132, 3, 13, 140, 96, 183), (135, 1, 12, 0, 0, 0)]) rfl) ?_
              refine xg_t (xg_aload (va := (2, 82)) rfl rfl) ?_
              have hk517 := ((fld_eq (j := 14) (hb514.1 82 (by decide))).trans k14_453)
              refine xg_cVv mX12_ends (vs := []) (rest := []) (cn1 := 0) (sl1 := 0) rfl (mEndsX (xMnv.up (S := [113]) hI444 (xFr.of (S := [113]) hb514 (by decide)) (List.forall_mem_cons.mpr ⟨(show cpI 4 80 4294967295 (wget w512 113) from ⟨_, hr513, xrb (by omega) (xrb (by omega) (xrb (by omega) (xrb (by omega) (xrb (by omega) (hb58)))))⟩), fun _ h => absurd h List.not_mem_nil⟩)) ((fld_eq (j := 10) (hb514.1 82 (by decide))).trans k10_452)) rfl (hb514.get (by decide) h82_484) rfl rfl rfl rfl rfl rfl (fun w518 hq519 => ?_)
              obtain ⟨hI520, hF521, hx522⟩ := hq519
              obtain ⟨hv523, hv524, hv525, hv526, hv527⟩ := hx522
              have hk528 := hv526.trans hk517
              have hr529 : rtR B nn p = (false, p_450) := by
                unfold rtR
                rw [(rt1_n hx69), rt2_2 (by omega) (by omega) (by rw [← hp451]; omega), ← hp451]
              exact xg_e ⟨w518, ⟨rfl, rfl⟩, hI520, (((((hF63.up (by decide)).tr ((((xFr.of (S := [82, 83, 113]) hb370 (by decide)).tr (xFr.of (S := [82, 83, 113]) hb425 (by decide))).tr (xFr.of (S := [82, 83, 113]) hb428 (by decide))).tr (xFr.of (S := [82, 83, 113]) hb431 (by decide)))).tr (hF445.up (by decide))).tr (xFr.of (S := [82, 83, 113]) hb514 (by decide))).tr (hF521.up (by decide))), ⟨Or.inr ⟨congrArg Prod.fst hr529, by rw [hr529]; exact ⟨hv523, hv524, by omega⟩⟩, hk528, ((((((((K83.fr hF63 (by decide)).tr (K83.but hb370 (by decide))).tr (K83.but hb425 (by decide))).tr (K83.but hb428 (by decide))).tr (K83.but hb431 (by decide))).tr (K83.fr hF445 (by decide))).tr (K83.but hb514 (by decide))).tr hv527)⟩⟩
            · refine xg_t (xg_icF (u := f82_456) (v := 58) rfl xnm0 xnm0 (xj_eqF hc516)) ?_
              refine xg_t (xg_aload (va := (2, 82)) rfl rfl) ?_
              refine xg_t (xg_getf (va := (0, f82_456)) (hb514.get (by decide) h82_484) rfl) ?_
              refine xg_t (xg_bip) ?_
              by_cases hc530 : f82_456 = 59
              · refine xg_t (xg_icF (u := f82_456) (v := 59) rfl xnm0 xnm0 (xj_neF hc530)) ?_
                refine xg_t (xg_blk (b := [(131, 1, 0, 0, 0, 0), (132, 3, 13, 140, 96, 183), (135, 1, 12, 0, 0, 0)]) rfl) ?_
                refine xg_t (xg_aload (va := (2, 82)) rfl rfl) ?_
                have hk531 := ((fld_eq (j := 14) (hb514.1 82 (by decide))).trans k14_453)
                refine xg_cVv mX12_ends (vs := []) (rest := []) (cn1 := 0) (sl1 := 0) rfl (mEndsX (xMnv.up (S := [113]) hI444 (xFr.of (S := [113]) hb514 (by decide)) (List.forall_mem_cons.mpr ⟨(show cpI 4 80 4294967295 (wget w512 113) from ⟨_, hr513, xrb (by omega) (xrb (by omega) (xrb (by omega) (xrb (by omega) (xrb (by omega) (hb58)))))⟩), fun _ h => absurd h List.not_mem_nil⟩)) ((fld_eq (j := 10) (hb514.1 82 (by decide))).trans k10_452)) rfl (hb514.get (by decide) h82_484) rfl rfl rfl rfl rfl rfl (fun w532 hq533 => ?_)
                obtain ⟨hI534, hF535, hx536⟩ := hq533
                obtain ⟨hv537, hv538, hv539, hv540, hv541⟩ := hx536
                have hk542 := hv540.trans hk531
                have hr543 : rtR B nn p = (false, p_450) := by
                  unfold rtR
                  rw [(rt1_n hx69), rt2_2 (by omega) (by omega) (by rw [← hp451]; omega), ← hp451]
                exact xg_e ⟨w532, ⟨rfl, rfl⟩, hI534, (((((hF63.up (by decide)).tr ((((xFr.of (S := [82, 83, 113]) hb370 (by decide)).tr (xFr.of (S := [82, 83, 113]) hb425 (by decide))).tr (xFr.of (S := [82, 83, 113]) hb428 (by decide))).tr (xFr.of (S := [82, 83, 113]) hb431 (by decide)))).tr (hF445.up (by decide))).tr (xFr.of (S := [82, 83, 113]) hb514 (by decide))).tr (hF535.up (by decide))), ⟨Or.inr ⟨congrArg Prod.fst hr543, by rw [hr543]; exact ⟨hv537, hv538, by omega⟩⟩, hk542, ((((((((K83.fr hF63 (by decide)).tr (K83.but hb370 (by decide))).tr (K83.but hb425 (by decide))).tr (K83.but hb428 (by decide))).tr (K83.but hb431 (by decide))).tr (K83.fr hF445 (by decide))).tr (K83.but hb514 (by decide))).tr hv541)⟩⟩
              · refine xg_t (xg_icT (u := f82_456) (v := 59) rfl xnm0 xnm0 (xj_neT hc530)) ?_
                refine xg_t (xg_blk (b := [(136, 1, 0, 0, 0, 0), (137, 3, 13, 110, 96, 190), (140, 1, 0, 0, 0, 0), (141, 3, 1, 12, 46, 102), (144, 1, 3, 3, 0, 0), (145, 1, 0, 0, 0, 0), (146, 3, 13, 198, 96, 418), (149, 1, 17, 0, 0, 0), (150, 1, 12, 0, 0, 0)]) rfl) ?_
                refine xg_t (xg_aload (va := (2, 82)) rfl rfl) ?_
                obtain ⟨⟨ht544, ht545, ht546, ht547, ht548, ht549⟩, -⟩ := id (hz447.fr (hb514.1 82 (by decide)))
                have hk550 := ((fld_eq (j := 10) (hb514.1 82 (by decide))).trans k10_452)
                have hk551 := ((fld_eq (j := 14) (hb514.1 82 (by decide))).trans k14_453)
                refine xg_cVv mX12_advance (vs := []) (rest := []) (cn1 := 0) (sl1 := 0) rfl (mAdvX (xMnv.up (S := [113]) hI444 (xFr.of (S := [113]) hb514 (by decide)) (List.forall_mem_cons.mpr ⟨(show cpI 4 80 4294967295 (wget w512 113) from ⟨_, hr513, xrb (by omega) (xrb (by omega) (xrb (by omega) (xrb (by omega) (xrb (by omega) (hb58)))))⟩), fun _ h => absurd h List.not_mem_nil⟩)) (hB.fr (fun j h4 h9 => (((((((K83.fr hF63 (by decide)).tr (K83.but hb370 (by decide))).tr (K83.but hb425 (by decide))).tr (K83.but hb428 (by decide))).tr (K83.but hb431 (by decide))).tr (K83.fr hF445 (by decide))).tr (K83.but hb514 (by decide))) j (by omega) (by omega) (by omega))) ht544 ht545 (by rw [ht546]; exact tf_le ht549)) rfl (hb514.get (by decide) h82_484) rfl rfl rfl rfl rfl rfl (fun w552 hq553 => ?_)
                obtain ⟨hI554, hF555, hx556⟩ := hq553
                obtain ⟨hz557, hz558, hz559⟩ := hx556
                rw [ht546] at hz557
                clear ht544 ht545 ht546 ht547 ht548 ht549
                obtain ⟨p_560, hp561⟩ : ∃ x, x = tf B nn p_450 := ⟨_, rfl⟩
                rw [← hp561] at hz557
                have k10_562 := hz558.trans hk550
                have k14_563 := hz559.trans hk551
                clear hz558 hz559 hk550 hk551
                refine xg_t (xg_aload (va := (2, 82)) rfl rfl) ?_
                obtain ⟨f82_564, f82_566, f82_568, f82_570, f82_572, f82_574, f82_576, f82_578, f82_580, f82_582, f82_584, f82_585, f82_586, f82_588, f82_590, f82_592, h82_594, hb565, hb567, hb569, hb571, hb573, hb575, hb577, hb579, hb581, hb583, hb587, hb589, hb591, hb593, hb595⟩ := (hI554 82 (by decide) (by decide) : cp82 (wget w552 82))
                replace hb567 := xHid.of hb567
                replace hb573 := xHid.of hb573
                replace hb577 := xHid.of hb577
                replace hb579 := xHid.of hb579
                replace hb583 := xHid.of hb583
                replace hb587 := xHid.of hb587
                replace hb589 := xHid.of hb589
                replace hb591 := xHid.of hb591
                replace hb593 := xHid.of hb593
                refine xg_t (xg_getf (va := (2, 113)) h82_594 rfl) ?_
                refine xg_t (xg_const) ?_
                refine xg_t (xg_aload (va := (2, 82)) rfl rfl) ?_
                have hk596 := k14_563
                refine xg_cVi mX12_numberNow (vs := []) (rest := [(0, 3), (2, 113)]) (cn1 := 0) (sl1 := 0) rfl (mNumbNowX (hI554) (hB.fr (fun j h4 h9 => ((((((((K83.fr hF63 (by decide)).tr (K83.but hb370 (by decide))).tr (K83.but hb425 (by decide))).tr (K83.but hb428 (by decide))).tr (K83.but hb431 (by decide))).tr (K83.fr hF445 (by decide))).tr (K83.but hb514 (by decide))).tr (K83.fr hF555 (by decide))) j (by omega) (by omega) (by omega))) hz557 k10_562) rfl h82_594 rfl rfl rfl rfl rfl rfl (fun n601 w597 hq598 => ?_)
                obtain ⟨hn602, hI599, hF600⟩ := hq598
                obtain ⟨hn603, hn604, hn605, hn606⟩ := hn602
                have hk611 := hn605.trans hk596
                rcases hn604 with ⟨hx607, hx608, hx609, hx610⟩ | ⟨hx607, hx608⟩
                · obtain ⟨p_612, hp613⟩ : ∃ x, x = tf B nn p_560 := ⟨_, rfl⟩
                  rw [← hp613] at hx608
                  refine xg_iastK (n := 3) (u := n601) ((hr513.fr hF555 (by decide)).fr hF600 (by decide)) xnm0 xnm0 rfl (by omega) (fun w614 hr615 hb616 => ?_)
                  have hr617 : rtR B nn p = (true, p_612) := by
                    unfold rtR
                    rw [(rt1_n hx69), rt2_4 (by omega) (by omega) (by rw [← hp451]; omega) (by rw [← hp451, ← hp561]; omega), ← hp451, ← hp561, ← hp613]
                  exact xg_e ⟨w614, ⟨rfl, rfl⟩, xMnv.up (S := [113]) hI599 (xFr.of (S := [113]) hb616 (by decide)) (List.forall_mem_cons.mpr ⟨(show cpI 4 80 4294967295 (wget w614 113) from ⟨_, hr615, xrb (by omega) (xrb (by omega) (xrb (by omega) (xrb (by omega) (xrb (by omega) (xrb (by omega) (hb58))))))⟩), fun _ h => absurd h List.not_mem_nil⟩), (((((((hF63.up (by decide)).tr ((((xFr.of (S := [82, 83, 113]) hb370 (by decide)).tr (xFr.of (S := [82, 83, 113]) hb425 (by decide))).tr (xFr.of (S := [82, 83, 113]) hb428 (by decide))).tr (xFr.of (S := [82, 83, 113]) hb431 (by decide)))).tr (hF445.up (by decide))).tr (xFr.of (S := [82, 83, 113]) hb514 (by decide))).tr (hF555.up (by decide))).tr (hF600.up (by decide))).tr (xFr.of (S := [82, 83, 113]) hb616 (by decide))), ⟨Or.inl ⟨congrArg Prod.fst hr617, by rw [hr617]; exact (hx608.fr (hb616.1 82 (by decide))), ((fld_eq (j := 10) (hb616.1 82 (by decide))).trans hx609), ((hb616.1 83 (by decide)).trans (hx610.trans ((hF555.1 83 (by decide)).trans ((hb514.1 83 (by decide)).trans ((hF445.1 83 (by decide)).trans ((hb431.1 83 (by decide)).trans ((hb428.1 83 (by decide)).trans ((hb425.1 83 (by decide)).trans ((hb370.1 83 (by decide)).trans (hF63.1 83 (by decide)))))))))))⟩, ((fld_eq (j := 14) (hb616.1 82 (by decide))).trans hk611), ((((((((((K83.fr hF63 (by decide)).tr (K83.but hb370 (by decide))).tr (K83.but hb425 (by decide))).tr (K83.but hb428 (by decide))).tr (K83.but hb431 (by decide))).tr (K83.fr hF445 (by decide))).tr (K83.but hb514 (by decide))).tr (K83.fr hF555 (by decide))).tr hn606).tr (K83.but hb616 (by decide)))⟩⟩
                · refine xg_iastK (n := 3) (u := n601) ((hr513.fr hF555 (by decide)).fr hF600 (by decide)) xnm0 xnm0 rfl (by omega) (fun w618 hr619 hb620 => ?_)
                  have hr621 : rtR B nn p = (false, p_560) := by
                    unfold rtR
                    rw [(rt1_n hx69), rt2_3 (by omega) (by omega) (by rw [← hp451]; omega) (by rw [← hp451, ← hp561]; omega), ← hp451, ← hp561]
                  exact xg_e ⟨w618, ⟨rfl, rfl⟩, xMnv.up (S := [113]) hI599 (xFr.of (S := [113]) hb620 (by decide)) (List.forall_mem_cons.mpr ⟨(show cpI 4 80 4294967295 (wget w618 113) from ⟨_, hr619, xrb (by omega) (xrb (by omega) (xrb (by omega) (xrb (by omega) (xrb (by omega) (xrb (by omega) (hb58))))))⟩), fun _ h => absurd h List.not_mem_nil⟩), (((((((hF63.up (by decide)).tr ((((xFr.of (S := [82, 83, 113]) hb370 (by decide)).tr (xFr.of (S := [82, 83, 113]) hb425 (by decide))).tr (xFr.of (S := [82, 83, 113]) hb428 (by decide))).tr (xFr.of (S := [82, 83, 113]) hb431 (by decide)))).tr (hF445.up (by decide))).tr (xFr.of (S := [82, 83, 113]) hb514 (by decide))).tr (hF555.up (by decide))).tr (hF600.up (by decide))).tr (xFr.of (S := [82, 83, 113]) hb620 (by decide))), ⟨Or.inr ⟨congrArg Prod.fst hr621, by rw [hr621]; exact hx608⟩, hk611, ((((((((((K83.fr hF63 (by decide)).tr (K83.but hb370 (by decide))).tr (K83.but hb425 (by decide))).tr (K83.but hb428 (by decide))).tr (K83.but hb431 (by decide))).tr (K83.fr hF445 (by decide))).tr (K83.but hb514 (by decide))).tr (K83.fr hF555 (by decide))).tr hn606).tr (K83.but hb620 (by decide)))⟩⟩
          · refine xg_t (xg_icT (u := f82_464) (v := 2) rfl xnm0 xnm0 (xj_neT hc515)) ?_
            refine xg_t (xg_blk (b := [(131, 1, 0, 0, 0, 0), (132, 3, 13, 140, 96, 183), (135, 1, 12, 0, 0, 0)]) rfl) ?_
            refine xg_t (xg_aload (va := (2, 82)) rfl rfl) ?_
            have hk622 := ((fld_eq (j := 14) (hb514.1 82 (by decide))).trans k14_453)
            refine xg_cVv mX12_ends (vs := []) (rest := []) (cn1 := 0) (sl1 := 0) rfl (mEndsX (xMnv.up (S := [113]) hI444 (xFr.of (S := [113]) hb514 (by decide)) (List.forall_mem_cons.mpr ⟨(show cpI 4 80 4294967295 (wget w512 113) from ⟨_, hr513, xrb (by omega) (xrb (by omega) (xrb (by omega) (xrb (by omega) (xrb (by omega) (hb58)))))⟩), fun _ h => absurd h List.not_mem_nil⟩)) ((fld_eq (j := 10) (hb514.1 82 (by decide))).trans k10_452)) rfl (hb514.get (by decide) h82_484) rfl rfl rfl rfl rfl rfl (fun w623 hq624 => ?_)
            obtain ⟨hI625, hF626, hx627⟩ := hq624
            obtain ⟨hv628, hv629, hv630, hv631, hv632⟩ := hx627
            have hk633 := hv631.trans hk622
            have hr634 : rtR B nn p = (false, p_450) := by
              unfold rtR
              rw [(rt1_n hx69), rt2_2 (by omega) (by omega) (by rw [← hp451]; omega), ← hp451]
            exact xg_e ⟨w623, ⟨rfl, rfl⟩, hI625, (((((hF63.up (by decide)).tr ((((xFr.of (S := [82, 83, 113]) hb370 (by decide)).tr (xFr.of (S := [82, 83, 113]) hb425 (by decide))).tr (xFr.of (S := [82, 83, 113]) hb428 (by decide))).tr (xFr.of (S := [82, 83, 113]) hb431 (by decide)))).tr (hF445.up (by decide))).tr (xFr.of (S := [82, 83, 113]) hb514 (by decide))).tr (hF626.up (by decide))), ⟨Or.inr ⟨congrArg Prod.fst hr634, by rw [hr634]; exact ⟨hv628, hv629, by omega⟩⟩, hk633, ((((((((K83.fr hF63 (by decide)).tr (K83.but hb370 (by decide))).tr (K83.but hb425 (by decide))).tr (K83.but hb428 (by decide))).tr (K83.but hb431 (by decide))).tr (K83.fr hF445 (by decide))).tr (K83.but hb514 (by decide))).tr hv632)⟩⟩
        · have hc490u := hc490
          unfold xbs at hc490u
          refine xg_t (xg_icF (u := u486) (v := 21) rfl xnm0 xnm0 (xjs_gtF hc490)) ?_
          have hr635 : rtR B nn p = (true, p_450) := by
            unfold rtR
            rw [(rt1_n hx69), rt2_1 (by omega) (by omega), ← hp451]
          exact xg_e ⟨w442, ⟨rfl, rfl⟩, hI444, (((hF63.up (by decide)).tr ((((xFr.of (S := [82, 83, 113]) hb370 (by decide)).tr (xFr.of (S := [82, 83, 113]) hb425 (by decide))).tr (xFr.of (S := [82, 83, 113]) hb428 (by decide))).tr (xFr.of (S := [82, 83, 113]) hb431 (by decide)))).tr (hF445.up (by decide))), ⟨Or.inl ⟨congrArg Prod.fst hr635, by rw [hr635]; exact hz447, k10_452, ((hF445.1 83 (by decide)).trans ((hb431.1 83 (by decide)).trans ((hb428.1 83 (by decide)).trans ((hb425.1 83 (by decide)).trans ((hb370.1 83 (by decide)).trans (hF63.1 83 (by decide)))))))⟩, k14_453, ((((((K83.fr hF63 (by decide)).tr (K83.but hb370 (by decide))).tr (K83.but hb425 (by decide))).tr (K83.but hb428 (by decide))).tr (K83.but hb431 (by decide))).tr (K83.fr hF445 (by decide)))⟩⟩
      · refine xg_t (xg_ifF (u := (if 20 ≤ f82_394 ∧ f82_394 ≤ 30 then 1 else 0)) rfl xnm0 (xj_neF (xite0 hc433))) ?_
        refine xg_t (xg_blk (b := [(74, 1, 0, 0, 0, 0), (75, 3, 13, 140, 96, 183), (78, 1, 12, 0, 0, 0)]) rfl) ?_
        refine xg_t (xg_aload (va := (2, 82)) rfl rfl) ?_
        have hk636 := ((fld_eq (j := 14) ((hb431.1 82 (by decide)).trans ((hb428.1 82 (by decide)).trans ((hb425.1 82 (by decide)).trans (hb370.1 82 (by decide)))))).trans k14_71)
        refine xg_cVv mX12_ends (vs := []) (rest := []) (cn1 := 0) (sl1 := 0) rfl (mEndsX (xMnv.up (S := [113]) hI62 ((((xFr.of (S := [113]) hb370 (by decide)).tr (xFr.of (S := [113]) hb425 (by decide))).tr (xFr.of (S := [113]) hb428 (by decide))).tr (xFr.of (S := [113]) hb431 (by decide))) (List.forall_mem_cons.mpr ⟨(show cpI 4 80 4294967295 (wget w429 113) from ⟨_, hr430, xrb (by omega) (xrb (by omega) (xrb (by omega) (xrb (by omega) (hb58))))⟩), fun _ h => absurd h List.not_mem_nil⟩)) ((fld_eq (j := 10) ((hb431.1 82 (by decide)).trans ((hb428.1 82 (by decide)).trans ((hb425.1 82 (by decide)).trans (hb370.1 82 (by decide)))))).trans hz67)) rfl (hb431.get (by decide) (hb428.get (by decide) (hb425.get (by decide) (hb370.get (by decide) h82_410)))) rfl rfl rfl rfl rfl rfl (fun w637 hq638 => ?_)
        obtain ⟨hI639, hF640, hx641⟩ := hq638
        obtain ⟨hv642, hv643, hv644, hv645, hv646⟩ := hx641
        have hk647 := hv645.trans hk636
        have hr648 : rtR B nn p = (false, p) := by
          unfold rtR
          rw [(rt1_n hx69), rt2_0 (by omega)]
        exact xg_e ⟨w637, ⟨rfl, rfl⟩, hI639, (((hF63.up (by decide)).tr ((((xFr.of (S := [82, 83, 113]) hb370 (by decide)).tr (xFr.of (S := [82, 83, 113]) hb425 (by decide))).tr (xFr.of (S := [82, 83, 113]) hb428 (by decide))).tr (xFr.of (S := [82, 83, 113]) hb431 (by decide)))).tr (hF640.up (by decide))), ⟨Or.inr ⟨congrArg Prod.fst hr648, by rw [hr648]; exact ⟨hv642, hv643, by omega⟩⟩, hk647, ((((((K83.fr hF63 (by decide)).tr (K83.but hb370 (by decide))).tr (K83.but hb425 (by decide))).tr (K83.but hb428 (by decide))).tr (K83.but hb431 (by decide))).tr hv646)⟩⟩
    · refine xg_t (xg_icT (u := f82_390) (v := 3) rfl xnm0 xnm0 (xj_neT hc432)) ?_
      refine xg_t (xg_blk (b := [(74, 1, 0, 0, 0, 0), (75, 3, 13, 140, 96, 183), (78, 1, 12, 0, 0, 0)]) rfl) ?_
      refine xg_t (xg_aload (va := (2, 82)) rfl rfl) ?_
      have hk649 := ((fld_eq (j := 14) ((hb431.1 82 (by decide)).trans ((hb428.1 82 (by decide)).trans ((hb425.1 82 (by decide)).trans (hb370.1 82 (by decide)))))).trans k14_71)
      refine xg_cVv mX12_ends (vs := []) (rest := []) (cn1 := 0) (sl1 := 0) rfl (mEndsX (xMnv.up (S := [113]) hI62 ((((xFr.of (S := [113]) hb370 (by decide)).tr (xFr.of (S := [113]) hb425 (by decide))).tr (xFr.of (S := [113]) hb428 (by decide))).tr (xFr.of (S := [113]) hb431 (by decide))) (List.forall_mem_cons.mpr ⟨(show cpI 4 80 4294967295 (wget w429 113) from ⟨_, hr430, xrb (by omega) (xrb (by omega) (xrb (by omega) (xrb (by omega) (hb58))))⟩), fun _ h => absurd h List.not_mem_nil⟩)) ((fld_eq (j := 10) ((hb431.1 82 (by decide)).trans ((hb428.1 82 (by decide)).trans ((hb425.1 82 (by decide)).trans (hb370.1 82 (by decide)))))).trans hz67)) rfl (hb431.get (by decide) (hb428.get (by decide) (hb425.get (by decide) (hb370.get (by decide) h82_410)))) rfl rfl rfl rfl rfl rfl (fun w650 hq651 => ?_)
      obtain ⟨hI652, hF653, hx654⟩ := hq651
      obtain ⟨hv655, hv656, hv657, hv658, hv659⟩ := hx654
      have hk660 := hv658.trans hk649
      have hr661 : rtR B nn p = (false, p) := by
        unfold rtR
        rw [(rt1_n hx69), rt2_0 (by omega)]
      exact xg_e ⟨w650, ⟨rfl, rfl⟩, hI652, (((hF63.up (by decide)).tr ((((xFr.of (S := [82, 83, 113]) hb370 (by decide)).tr (xFr.of (S := [82, 83, 113]) hb425 (by decide))).tr (xFr.of (S := [82, 83, 113]) hb428 (by decide))).tr (xFr.of (S := [82, 83, 113]) hb431 (by decide)))).tr (hF653.up (by decide))), ⟨Or.inr ⟨congrArg Prod.fst hr661, by rw [hr661]; exact ⟨hv655, hv656, by omega⟩⟩, hk660, ((((((K83.fr hF63 (by decide)).tr (K83.but hb370 (by decide))).tr (K83.but hb425 (by decide))).tr (K83.but hb428 (by decide))).tr (K83.but hb431 (by decide))).tr hv659)⟩⟩
set_option maxHeartbeats 60000000 in
theorem mRuleTX {B : Nat → Nat} {nn p : Nat} {fp : Nat × Nat} {kr : Nat} (hI : xMnv w) (hB : bsm w B nn) (hT : TKM 1 B nn w p) (h10 : fld w 82 10 = 0) (hln : fld w 82 14 ≤ 501) (hkr : kr ≤ 502) : xTo (d + 7) mX12_aRule (107, [], [(0, (2, 82)), (1, (0, kr))], [], (w, bd, fc, 0, 0, rr)) (fun φ => ∃ w', xEnd 0 [] (w', bd, fc, 0, 0, rr) φ ∧ xMnv w' ∧ xFr [82, 83, 112] w w' ∧ ((((rvR B nn p fp).1 = true ∧ TKM 1 B nn w' (rvR B nn p fp).2.1 ∧ fld w' 82 10 = 0 ∧ fld w' 82 14 = fld w 82 14 + 1 ∧ wget w' 83 = wget w 83 ∧ RO2 w w' (fld w 82 14) ∧ (fld w 82 14 < 16 → rwv w' 112 (20 * fld w 82 14) = kr)) ∨ ((rvR B nn p fp).1 = false ∧ WRG w' (tq B nn (rvR B nn p fp).2.1) ∧ (fld w' 82 14 = fld w 82 14 ∨ fld w' 82 14 = fld w 82 14 + 1))) ∧ K83 w w')) := by
  obtain ⟨f82_1, f82_3, f82_5, f82_7, f82_9, f82_11, f82_13, f82_15, f82_17, f82_19, f82_21, f82_22, f82_23, f82_25, f82_27, f82_29, h82_31, hb2, hb4, hb6, hb8, hb10, hb12, hb14, hb16, hb18, hb20, hb24, hb26, hb28, hb30, hb32⟩ := (hI 82 (by decide) (by decide) : cp82 (wget w 82))
  replace hb4 := xHid.of hb4
  replace hb10 := xHid.of hb10
  replace hb14 := xHid.of hb14
  replace hb16 := xHid.of hb16
  replace hb20 := xHid.of hb20
  replace hb24 := xHid.of hb24
  replace hb26 := xHid.of hb26
  replace hb28 := xHid.of hb28
  replace hb30 := xHid.of hb30
  obtain ⟨g83_33, h83_34, hb35, hx36⟩ := (hI 83 (by decide) (by decide) : cpx83 (wget w 83))
  have h83_34 : xRow w 83 5360 50 g83_33 := h83_34
  obtain ⟨⟨ht37, ht38, ht39, ht40, ht41, ht42⟩, ht43, ht44, ht45⟩ := id hT
  have hf46 : fld w 82 3 = f82_3 := fld_of h82_31
  have hf47 : fld w 82 6 = f82_9 := fld_of h82_31
  have hf48 : fld w 82 7 = f82_11 := fld_of h82_31
  have hf49 : fld w 82 8 = f82_13 := fld_of h82_31
  have hf50 : fld w 82 9 = f82_15 := fld_of h82_31
  have hf51 : fld w 82 10 = f82_17 := fld_of h82_31
  have hf52 : fld w 82 14 = f82_19 := fld_of h82_31
  have hmk53 := mkr (B := B) (n := nn) (p := p)
  have hx054 : tkd B nn p ≠ 1 → rwx B nn p = 99 := rwx_0
  have hwd55 : tkd B nn p = 1 → fld w 82 9 = rwx B nn p := hT.word
  clear ht44
  obtain ⟨g112_56, h112_57, hb58⟩ := (hI 112 (by decide) (by decide) : cpI 320 79 4294967295 (wget w 112))
  have h112_57 : xRow w 112 320 79 g112_56 := h112_57
  have hl59 : f82_19 ≤ 501 := by omega
  refine xg_t (xg_blk (b := [(107, 1, 0, 0, 0, 0), (108, 3, 1, 12, 10, 180), (111, 3, 7, 136, 1, 0), (114, 1, 0, 0, 0, 0), (115, 3, 1, 12, 7, 151), (118, 1, 3, 3, 0, 0), (119, 3, 6, 136, 1, 0), (122, 1, 0, 0, 0, 0), (123, 3, 1, 12, 9, 165), (126, 2, 4, 40, 0, 0), (128, 2, 4, 42, 0, 0), (130, 3, 13, 161, 98, 105), (133, 3, 7, 141, 1, 0)]) rfl) ?_
  refine xg_t (xg_aload (va := (2, 82)) rfl rfl) ?_
  refine xg_t (xg_getf (va := (0, f82_17)) h82_31 rfl) ?_
  refine xg_t (xg_ifF (u := f82_17) rfl xnm0 (xj_neF (by omega))) ?_
  refine xg_t (xg_aload (va := (2, 82)) rfl rfl) ?_
  refine xg_t (xg_getf (va := (0, f82_11)) h82_31 rfl) ?_
  refine xg_t (xg_const) ?_
  by_cases hc60 : f82_11 = 3
  · refine xg_t (xg_icF (u := f82_11) (v := 3) rfl xnm0 xnm0 (xj_neF hc60)) ?_
    refine xg_t (xg_aload (va := (2, 82)) rfl rfl) ?_
    refine xg_t (xg_getf (va := (0, f82_15)) h82_31 rfl) ?_
    have hn61 : f82_15 ≤ 4294967295 := hb16
    refine xg_t (xg_bip) ?_
    refine xg_t (xg_bip) ?_
    refine xg_t (xg_cSr mX12_isIn (vs := [(0, f82_15), (0, 40), (0, 42)]) (rest := []) (rs := [(0, if 40 ≤ f82_15 ∧ f82_15 ≤ 42 then 1 else 0)]) (cn1 := 0) (sl1 := 0) rfl (mIsIn (by omega) (by omega) (by omega)) rfl rfl rfl rfl rfl rfl rfl rfl) ?_
    by_cases hc62 : 40 ≤ f82_15 ∧ f82_15 ≤ 42
    · refine xg_t (xg_ifT (u := (if 40 ≤ f82_15 ∧ f82_15 ≤ 42 then 1 else 0)) rfl xnm0 (xj_neT (xite1 hc62))) ?_
      refine xg_t (xg_blk (b := [(141, 1, 0, 0, 0, 0), (142, 3, 1, 12, 9, 165), (145, 1, 15, 2, 0, 0), (146, 1, 0, 0, 0, 0), (147, 3, 13, 110, 96, 190), (150, 1, 2, 2, 0, 0), (151, 2, 4, 40, 0, 0), (153, 3, 6, 160, 1, 0), (156, 1, 3, 0, 0, 0), (157, 3, 8, 164, 0, 0)]) rfl) ?_
      refine xg_t (xg_aload (va := (2, 82)) rfl rfl) ?_
      refine xg_t (xg_getf (va := (0, f82_15)) h82_31 rfl) ?_
      refine xg_t (xg_istore (l1 := [(0, (2, 82)), (1, (0, kr))]) rfl rfl rfl) ?_
      refine xg_t (xg_aload (va := (2, 82)) rfl rfl) ?_
      obtain ⟨⟨ht63, ht64, ht65, ht66, ht67, ht68⟩, -⟩ := id hT
      have hk69 := h10
      have hk70 := (rfl : fld w 82 14 = fld w 82 14)
      refine xg_cVv mX12_advance (vs := []) (rest := []) (cn1 := 0) (sl1 := 0) rfl (mAdvX (hI) hB ht63 ht64 (by rw [ht65]; exact tf_le ht68)) rfl h82_31 rfl rfl rfl rfl rfl rfl (fun w71 hq72 => ?_)
      obtain ⟨hI73, hF74, hx75⟩ := hq72
      obtain ⟨hz76, hz77, hz78⟩ := hx75
      rw [ht65] at hz76
      clear ht63 ht64 ht65 ht66 ht67 ht68
      obtain ⟨p_79, hp80⟩ : ∃ x, x = tf B nn p := ⟨_, rfl⟩
      rw [← hp80] at hz76
      have k10_81 := hz77.trans hk69
      have k14_82 := hz78.trans hk70
      clear hz77 hz78 hk69 hk70
      refine xg_t (xg_iload (va := (0, f82_15)) rfl rfl) ?_
      refine xg_t (xg_bip) ?_
      by_cases hc83 : f82_15 = 40
      · refine xg_t (xg_icF (u := f82_15) (v := 40) rfl xnm0 xnm0 (xj_neF hc83)) ?_
        refine xg_t (xg_const) ?_
        refine xg_t (xg_goto) ?_
        refine xg_t (xg_blk (b := [(164, 1, 15, 3, 0, 0), (165, 1, 0, 0, 0, 0), (166, 2, 4, 59, 0, 0), (168, 3, 13, 195, 96, 427), (171, 1, 0, 0, 0, 0), (172, 1, 3, 0, 0, 0), (173, 1, 2, 1, 0, 0), (174, 3, 13, 214, 96, 424), (177, 1, 0, 0, 0, 0), (178, 2, 4, 17, 0, 0), (180, 1, 2, 2, 0, 0), (181, 3, 13, 214, 96, 424), (184, 1, 0, 0, 0, 0), (185, 2, 4, 18, 0, 0), (187, 1, 2, 3, 0, 0), (188, 3, 13, 214, 96, 424), (191, 1, 0, 0, 0, 0), (192, 1, 19, 0, 0, 0), (193, 3, 1, 12, 14, 212), (196, 1, 3, 1, 0, 0), (197, 1, 11, 0, 0, 0), (198, 3, 14, 12, 14, 212), (201, 1, 12, 0, 0, 0)]) rfl) ?_
        refine xg_t (xg_istore (l1 := [(2, (0, f82_15)), (0, (2, 82)), (1, (0, kr))]) rfl rfl rfl) ?_
        refine xg_t (xg_aload (va := (2, 82)) rfl rfl) ?_
        refine xg_t (xg_bip) ?_
        have hk84 := k14_82
        obtain ⟨f82_85, f82_87, f82_89, f82_91, f82_93, f82_95, f82_97, f82_99, f82_101, f82_103, f82_105, f82_106, f82_107, f82_109, f82_111, f82_113, h82_115, hb86, hb88, hb90, hb92, hb94, hb96, hb98, hb100, hb102, hb104, hb108, hb110, hb112, hb114, hb116⟩ := (hI73 82 (by decide) (by decide) : cp82 (wget w71 82))
        replace hb88 := xHid.of hb88
        replace hb94 := xHid.of hb94
        replace hb98 := xHid.of hb98
        replace hb100 := xHid.of hb100
        replace hb104 := xHid.of hb104
        replace hb108 := xHid.of hb108
        replace hb110 := xHid.of hb110
        replace hb112 := xHid.of hb112
        replace hb114 := xHid.of hb114
        refine xg_cVv mX12_must (vs := [(0, 59)]) (rest := []) (cn1 := 0) (sl1 := 0) rfl (mMustX (hI73) (by omega) (hB.fr (fun j h4 h9 => (K83.fr hF74 (by decide)) j (by omega) (by omega) (by omega))) hz76 k10_81) rfl h82_115 rfl rfl rfl rfl rfl rfl (fun w117 hq118 => ?_)
        obtain ⟨hI119, hF120, hx121⟩ := hq118
        obtain ⟨hn122, hn123, hn124⟩ := hx121
        have hk129 := hn123.trans hk84
        rcases hn122 with ⟨hx125, hx126, hx127, hx128⟩ | ⟨hx125, hx126⟩
        · obtain ⟨p_130, hp131⟩ : ∃ x, x = tf B nn p_79 := ⟨_, rfl⟩
          rw [← hp131] at hx126
          refine xg_t (xg_aload (va := (2, 82)) rfl rfl) ?_
          refine xg_t (xg_const) ?_
          refine xg_t (xg_iload (va := (0, kr)) rfl rfl) ?_
          have hl132 : fld w117 82 14 = fld w 82 14 := hk129
          obtain ⟨f82_133, f82_135, f82_137, f82_139, f82_141, f82_143, f82_145, f82_147, f82_149, f82_151, f82_153, f82_154, f82_155, f82_157, f82_159, f82_161, h82_163, hb134, hb136, hb138, hb140, hb142, hb144, hb146, hb148, hb150, hb152, hb156, hb158, hb160, hb162, hb164⟩ := (hI119 82 (by decide) (by decide) : cp82 (wget w117 82))
          replace hb136 := xHid.of hb136
          replace hb142 := xHid.of hb142
          replace hb146 := xHid.of hb146
          replace hb148 := xHid.of hb148
          replace hb152 := xHid.of hb152
          replace hb156 := xHid.of hb156
          replace hb158 := xHid.of hb158
          replace hb160 := xHid.of hb160
          replace hb162 := xHid.of hb162
          refine xg_cVv mX12_rulePuts (vs := [(0, 0), (0, kr)]) (rest := []) (cn1 := 0) (sl1 := 0) rfl (mRulePuts (hI119) (by omega) (by omega) (by omega)) rfl h82_163 rfl rfl rfl rfl rfl rfl (fun w165 hq166 => ?_)
          obtain ⟨hI167, hF168, hx169⟩ := hq166
          refine xg_t (xg_aload (va := (2, 82)) rfl rfl) ?_
          refine xg_t (xg_bip) ?_
          refine xg_t (xg_iload (va := (0, f82_15)) rfl rfl) ?_
          have hl170 : fld w165 82 14 = fld w 82 14 := ((fld_eq (j := 14) (hF168.1 82 (by decide))).trans hk129)
          refine xg_cVv mX12_rulePuts (vs := [(0, 17), (0, f82_15)]) (rest := []) (cn1 := 0) (sl1 := 0) rfl (mRulePuts (hI167) (by omega) (by omega) (by omega)) rfl (hF168.get (by decide) h82_163) rfl rfl rfl rfl rfl rfl (fun w171 hq172 => ?_)
          obtain ⟨hI173, hF174, hx175⟩ := hq172
          refine xg_t (xg_aload (va := (2, 82)) rfl rfl) ?_
          refine xg_t (xg_bip) ?_
          refine xg_t (xg_iload (va := (0, 0)) rfl rfl) ?_
          have hl176 : fld w171 82 14 = fld w 82 14 := ((fld_eq (j := 14) ((hF174.1 82 (by decide)).trans (hF168.1 82 (by decide)))).trans hk129)
          refine xg_cVv mX12_rulePuts (vs := [(0, 18), (0, 0)]) (rest := []) (cn1 := 0) (sl1 := 0) rfl (mRulePuts (hI173) (by omega) (by omega) (by omega)) rfl (hF174.get (by decide) (hF168.get (by decide) h82_163)) rfl rfl rfl rfl rfl rfl (fun w177 hq178 => ?_)
          obtain ⟨hI179, hF180, hx181⟩ := hq178
          have hro182 : RO2 w w177 (fld w 82 14) := fun l hl hn => by
            rw [(hx181 (20 * l) (by omega)).2 (by omega)]
            rw [(hx175 (20 * l) (by omega)).2 (by omega)]
            rw [(hx169 (20 * l) (by omega)).2 (by omega)]
            exact ((rwv_fr hF120 (by decide)).trans (rwv_fr hF74 (by decide)))
          have hrk183 : fld w 82 14 < 16 → rwv w177 112 (20 * fld w 82 14) = kr := fun h6 => by
            rw [(hx181 (20 * fld w 82 14) (by omega)).2 (by omega)]
            rw [(hx175 (20 * fld w 82 14) (by omega)).2 (by omega)]
            exact (hx169 (20 * fld w 82 14) (by omega)).1 ⟨by omega, by omega⟩
          have hf184 : fld w177 82 10 = f82_149 := fld_of (hF180.get (by decide) (hF174.get (by decide) (hF168.get (by decide) h82_163)))
          have hf185 : fld w177 82 14 = f82_151 := fld_of (hF180.get (by decide) (hF174.get (by decide) (hF168.get (by decide) h82_163)))
          have hl186 : fld w177 82 14 = fld w 82 14 := ((fld_eq (j := 14) ((hF180.1 82 (by decide)).trans ((hF174.1 82 (by decide)).trans (hF168.1 82 (by decide))))).trans hk129)
          have hl187 : f82_151 ≤ 501 := by omega
          refine xg_t (xg_aload (va := (2, 82)) rfl rfl) ?_
          refine xg_t (xg_dup rfl) ?_
          refine xg_t (xg_getf (va := (0, f82_151)) (hF180.get (by decide) (hF174.get (by decide) (hF168.get (by decide) h82_163))) rfl) ?_
          have hn188 := id hb152
          unfold xHid at hn188
          refine xg_t (xg_const) ?_
          refine xg_t (xg_iadd (u := f82_151) (v := 1) (z := f82_151 + 1) xnm0 xnm0 (by omega)) ?_
          refine xg_putI (fl1 := [(2, 83), (2, 84), (0, f82_133), (0, f82_135), (0, f82_137), (0, f82_139), (0, f82_141), (0, f82_143), (0, f82_145), (0, f82_147), (0, f82_149), (2, 85), (2, 86), (2, 87), (0, f82_151 + 1), (2, 88), (2, 89), (2, 90), (2, 91), (2, 92), (2, 93), (2, 94), (4, f82_153), (4, f82_154), (0, f82_155), (2, 95), (2, 96), (2, 97), (2, 98), (2, 99), (2, 100), (2, 101), (2, 102), (0, f82_157), (2, 103), (2, 104), (2, 105), (2, 106), (2, 107), (2, 108), (2, 109), (0, f82_159), (0, f82_161), (2, 110), (2, 111), (2, 112), (2, 113)]) (hF180.get (by decide) (hF174.get (by decide) (hF168.get (by decide) h82_163))) rfl rfl rfl (fun w189 hk190 hb191 => ?_)
          have hf193 : fld w189 82 14 = f82_151 + 1 := fld_of hk190
          have hq192 : fld w189 82 14 = fld w 82 14 + 1 := by have y := hf193; omega
          have hr194 : (rvR B nn p fp) = (true, p_130, fp) := by rw [rvR_1 (by omega), ← hp80, rvS_y hx125, ← hp131]
          have hf195 : fld w189 82 2 = f82_133 := fld_of hk190
          have hf196 : fld w189 82 3 = f82_135 := fld_of hk190
          have hf197 : fld w189 82 4 = f82_137 := fld_of hk190
          have hf198 : fld w189 82 5 = f82_139 := fld_of hk190
          have hf199 : fld w189 82 6 = f82_141 := fld_of hk190
          have hf200 : fld w189 82 7 = f82_143 := fld_of hk190
          have hf201 : fld w189 82 8 = f82_145 := fld_of hk190
          have hf202 : fld w189 82 9 = f82_147 := fld_of hk190
          have hf203 : fld w189 82 10 = f82_149 := fld_of hk190
          have hq204 : fld w189 82 2 = fld w177 82 2 := hf195.trans (fld_of (hF180.get (by decide) (hF174.get (by decide) (hF168.get (by decide) h82_163)))).symm
          have hq205 : fld w189 82 3 = fld w177 82 3 := hf196.trans (fld_of (hF180.get (by decide) (hF174.get (by decide) (hF168.get (by decide) h82_163)))).symm
          have hq206 : fld w189 82 4 = fld w177 82 4 := hf197.trans (fld_of (hF180.get (by decide) (hF174.get (by decide) (hF168.get (by decide) h82_163)))).symm
          have hq207 : fld w189 82 5 = fld w177 82 5 := hf198.trans (fld_of (hF180.get (by decide) (hF174.get (by decide) (hF168.get (by decide) h82_163)))).symm
          have hq208 : fld w189 82 6 = fld w177 82 6 := hf199.trans (fld_of (hF180.get (by decide) (hF174.get (by decide) (hF168.get (by decide) h82_163)))).symm
          have hq209 : fld w189 82 7 = fld w177 82 7 := hf200.trans (fld_of (hF180.get (by decide) (hF174.get (by decide) (hF168.get (by decide) h82_163)))).symm
          have hq210 : fld w189 82 8 = fld w177 82 8 := hf201.trans (fld_of (hF180.get (by decide) (hF174.get (by decide) (hF168.get (by decide) h82_163)))).symm
          have hq211 : fld w189 82 9 = fld w177 82 9 := hf202.trans (fld_of (hF180.get (by decide) (hF174.get (by decide) (hF168.get (by decide) h82_163)))).symm
          have hq212 : fld w189 82 10 = fld w177 82 10 := hf203.trans (fld_of (hF180.get (by decide) (hF174.get (by decide) (hF168.get (by decide) h82_163)))).symm
          have hT213 : TKM 1 B nn w189 p_130 := by
            have q := (hx126.fr ((hF180.1 82 (by decide)).trans ((hF174.1 82 (by decide)).trans (hF168.1 82 (by decide)))))
            unfold TKM at q ⊢
            rw [hq204, hq205, hq206, hq207, hq208, hq209, hq210, hq211]
            exact q
          exact xg_e ⟨w189, ⟨rfl, rfl⟩, xMnv.up (S := [82]) hI179 (xFr.of (S := [82]) hb191 (by decide)) (List.forall_mem_cons.mpr ⟨(show cp82 (wget w189 82) from ⟨f82_133, f82_135, f82_137, f82_139, f82_141, f82_143, f82_145, f82_147, f82_149, f82_151 + 1, f82_153, f82_154, f82_155, f82_157, f82_159, f82_161, hk190, by omega, hb136, by omega, by omega, hb142, by omega, hb146, hb148, by omega, by omega, hb156, hb158, hb160, hb162, by omega⟩), fun _ h => absurd h List.not_mem_nil⟩), ((((((hF74.up (by decide)).tr (hF120.up (by decide))).tr (hF168.up (by decide))).tr (hF174.up (by decide))).tr (hF180.up (by decide))).tr (xFr.of (S := [82, 83, 112]) hb191 (by decide))), ⟨Or.inl ⟨congrArg Prod.fst hr194, by rw [hr194]; exact hT213, (hq212.trans ((fld_eq (j := 10) ((hF180.1 82 (by decide)).trans ((hF174.1 82 (by decide)).trans (hF168.1 82 (by decide))))).trans hx127)), hq192, ((hb191.1 83 (by decide)).trans ((hF180.1 83 (by decide)).trans ((hF174.1 83 (by decide)).trans ((hF168.1 83 (by decide)).trans (hx128.trans (hF74.1 83 (by decide))))))), fun l hl hn => (rwv_eq (hb191.1 112 (by decide))).trans (hro182 l hl hn), fun h6 => (rwv_eq (hb191.1 112 (by decide))).trans (hrk183 h6)⟩, ((((((K83.fr hF74 (by decide)).tr hn124).tr (K83.fr hF168 (by decide))).tr (K83.fr hF174 (by decide))).tr (K83.fr hF180 (by decide))).tr (K83.but hb191 (by decide)))⟩⟩
        · refine xg_t (xg_aload (va := (2, 82)) rfl rfl) ?_
          refine xg_t (xg_const) ?_
          refine xg_t (xg_iload (va := (0, kr)) rfl rfl) ?_
          have hl214 : fld w117 82 14 = fld w 82 14 := hk129
          obtain ⟨f82_215, f82_217, f82_219, f82_221, f82_223, f82_225, f82_227, f82_229, f82_231, f82_233, f82_235, f82_236, f82_237, f82_239, f82_241, f82_243, h82_245, hb216, hb218, hb220, hb222, hb224, hb226, hb228, hb230, hb232, hb234, hb238, hb240, hb242, hb244, hb246⟩ := (hI119 82 (by decide) (by decide) : cp82 (wget w117 82))
          replace hb218 := xHid.of hb218
          replace hb224 := xHid.of hb224
          replace hb228 := xHid.of hb228
          replace hb230 := xHid.of hb230
          replace hb234 := xHid.of hb234
          replace hb238 := xHid.of hb238
          replace hb240 := xHid.of hb240
          replace hb242 := xHid.of hb242
          replace hb244 := xHid.of hb244
          refine xg_cVv mX12_rulePuts (vs := [(0, 0), (0, kr)]) (rest := []) (cn1 := 0) (sl1 := 0) rfl (mRulePuts (hI119) (by omega) (by omega) (by omega)) rfl h82_245 rfl rfl rfl rfl rfl rfl (fun w247 hq248 => ?_)
          obtain ⟨hI249, hF250, hx251⟩ := hq248
          refine xg_t (xg_aload (va := (2, 82)) rfl rfl) ?_
          refine xg_t (xg_bip) ?_
          refine xg_t (xg_iload (va := (0, f82_15)) rfl rfl) ?_
          have hl252 : fld w247 82 14 = fld w 82 14 := ((fld_eq (j := 14) (hF250.1 82 (by decide))).trans hk129)
          refine xg_cVv mX12_rulePuts (vs := [(0, 17), (0, f82_15)]) (rest := []) (cn1 := 0) (sl1 := 0) rfl (mRulePuts (hI249) (by omega) (by omega) (by omega)) rfl (hF250.get (by decide) h82_245) rfl rfl rfl rfl rfl rfl (fun w253 hq254 => ?_)
          obtain ⟨hI255, hF256, hx257⟩ := hq254
          refine xg_t (xg_aload (va := (2, 82)) rfl rfl) ?_
          refine xg_t (xg_bip) ?_
          refine xg_t (xg_iload (va := (0, 0)) rfl rfl) ?_
          have hl258 : fld w253 82 14 = fld w 82 14 := ((fld_eq (j := 14) ((hF256.1 82 (by decide)).trans (hF250.1 82 (by decide)))).trans hk129)
          refine xg_cVv mX12_rulePuts (vs := [(0, 18), (0, 0)]) (rest := []) (cn1 := 0) (sl1 := 0) rfl (mRulePuts (hI255) (by omega) (by omega) (by omega)) rfl (hF256.get (by decide) (hF250.get (by decide) h82_245)) rfl rfl rfl rfl rfl rfl (fun w259 hq260 => ?_)
          obtain ⟨hI261, hF262, hx263⟩ := hq260
          have hf264 : fld w259 82 10 = f82_231 := fld_of (hF262.get (by decide) (hF256.get (by decide) (hF250.get (by decide) h82_245)))
          have hf265 : fld w259 82 14 = f82_233 := fld_of (hF262.get (by decide) (hF256.get (by decide) (hF250.get (by decide) h82_245)))
          have hl266 : fld w259 82 14 = fld w 82 14 := ((fld_eq (j := 14) ((hF262.1 82 (by decide)).trans ((hF256.1 82 (by decide)).trans (hF250.1 82 (by decide))))).trans hk129)
          have hl267 : f82_233 ≤ 501 := by omega
          refine xg_t (xg_aload (va := (2, 82)) rfl rfl) ?_
          refine xg_t (xg_dup rfl) ?_
          refine xg_t (xg_getf (va := (0, f82_233)) (hF262.get (by decide) (hF256.get (by decide) (hF250.get (by decide) h82_245))) rfl) ?_
          have hn268 := id hb234
          unfold xHid at hn268
          refine xg_t (xg_const) ?_
          refine xg_t (xg_iadd (u := f82_233) (v := 1) (z := f82_233 + 1) xnm0 xnm0 (by omega)) ?_
          refine xg_putI (fl1 := [(2, 83), (2, 84), (0, f82_215), (0, f82_217), (0, f82_219), (0, f82_221), (0, f82_223), (0, f82_225), (0, f82_227), (0, f82_229), (0, f82_231), (2, 85), (2, 86), (2, 87), (0, f82_233 + 1), (2, 88), (2, 89), (2, 90), (2, 91), (2, 92), (2, 93), (2, 94), (4, f82_235), (4, f82_236), (0, f82_237), (2, 95), (2, 96), (2, 97), (2, 98), (2, 99), (2, 100), (2, 101), (2, 102), (0, f82_239), (2, 103), (2, 104), (2, 105), (2, 106), (2, 107), (2, 108), (2, 109), (0, f82_241), (0, f82_243), (2, 110), (2, 111), (2, 112), (2, 113)]) (hF262.get (by decide) (hF256.get (by decide) (hF250.get (by decide) h82_245))) rfl rfl rfl (fun w269 hk270 hb271 => ?_)
          have hf273 : fld w269 82 14 = f82_233 + 1 := fld_of hk270
          have hq272 : fld w269 82 14 = fld w 82 14 + 1 := by have y := hf273; omega
          have hr274 : (rvR B nn p fp) = (false, p_79, fp) := by rw [rvR_1 (by omega), ← hp80, rvS_n hx125]
          have hf279 : fld w269 82 10 = f82_231 := fld_of hk270
          have hq278 : fld w269 82 10 = fld w259 82 10 := hf279.trans hf264.symm
          have hW275 : WRG w269 _ := ⟨(hq278.trans ((fld_eq (j := 10) ((hF262.1 82 (by decide)).trans ((hF256.1 82 (by decide)).trans (hF250.1 82 (by decide))))).trans hx126.1)), (rwv_eq ((hb271.1 83 (by decide)).trans ((hF262.1 83 (by decide)).trans ((hF256.1 83 (by decide)).trans (hF250.1 83 (by decide)))))).trans hx126.2.1, (rwv_eq ((hb271.1 83 (by decide)).trans ((hF262.1 83 (by decide)).trans ((hF256.1 83 (by decide)).trans (hF250.1 83 (by decide)))))).trans hx126.2.2⟩
          exact xg_e ⟨w269, ⟨rfl, rfl⟩, xMnv.up (S := [82]) hI261 (xFr.of (S := [82]) hb271 (by decide)) (List.forall_mem_cons.mpr ⟨(show cp82 (wget w269 82) from ⟨f82_215, f82_217, f82_219, f82_221, f82_223, f82_225, f82_227, f82_229, f82_231, f82_233 + 1, f82_235, f82_236, f82_237, f82_239, f82_241, f82_243, hk270, by omega, hb218, by omega, by omega, hb224, by omega, hb228, hb230, by omega, by omega, hb238, hb240, hb242, hb244, by omega⟩), fun _ h => absurd h List.not_mem_nil⟩), ((((((hF74.up (by decide)).tr (hF120.up (by decide))).tr (hF250.up (by decide))).tr (hF256.up (by decide))).tr (hF262.up (by decide))).tr (xFr.of (S := [82, 83, 112]) hb271 (by decide))), ⟨Or.inr ⟨congrArg Prod.fst hr274, by rw [hr274]; exact hW275, Or.inr hq272⟩, ((((((K83.fr hF74 (by decide)).tr hn124).tr (K83.fr hF250 (by decide))).tr (K83.fr hF256 (by decide))).tr (K83.fr hF262 (by decide))).tr (K83.but hb271 (by decide)))⟩⟩
      · refine xg_t (xg_icT (u := f82_15) (v := 40) rfl xnm0 xnm0 (xj_neT hc83)) ?_
        refine xg_t (xg_blk (b := [(160, 1, 0, 0, 0, 0), (161, 3, 13, 198, 96, 418)]) rfl) ?_
        refine xg_t (xg_aload (va := (2, 82)) rfl rfl) ?_
        have hk280 := k14_82
        obtain ⟨f82_281, f82_283, f82_285, f82_287, f82_289, f82_291, f82_293, f82_295, f82_297, f82_299, f82_301, f82_302, f82_303, f82_305, f82_307, f82_309, h82_311, hb282, hb284, hb286, hb288, hb290, hb292, hb294, hb296, hb298, hb300, hb304, hb306, hb308, hb310, hb312⟩ := (hI73 82 (by decide) (by decide) : cp82 (wget w71 82))
        replace hb284 := xHid.of hb284
        replace hb290 := xHid.of hb290
        replace hb294 := xHid.of hb294
        replace hb296 := xHid.of hb296
        replace hb300 := xHid.of hb300
        replace hb304 := xHid.of hb304
        replace hb306 := xHid.of hb306
        replace hb308 := xHid.of hb308
        replace hb310 := xHid.of hb310
        refine xg_cVi mX12_numberNow (vs := []) (rest := []) (cn1 := 0) (sl1 := 0) rfl (mNumbNowX (hI73) (hB.fr (fun j h4 h9 => (K83.fr hF74 (by decide)) j (by omega) (by omega) (by omega))) hz76 k10_81) rfl h82_311 rfl rfl rfl rfl rfl rfl (fun n317 w313 hq314 => ?_)
        obtain ⟨hn318, hI315, hF316⟩ := hq314
        obtain ⟨hn319, hn320, hn321, hn322⟩ := hn318
        have hk327 := hn321.trans hk280
        rcases hn320 with ⟨hx323, hx324, hx325, hx326⟩ | ⟨hx323, hx324⟩
        · obtain ⟨p_328, hp329⟩ : ∃ x, x = tf B nn p_79 := ⟨_, rfl⟩
          rw [← hp329] at hx324
          refine xg_t (xg_blk (b := [(164, 1, 15, 3, 0, 0), (165, 1, 0, 0, 0, 0), (166, 2, 4, 59, 0, 0), (168, 3, 13, 195, 96, 427), (171, 1, 0, 0, 0, 0), (172, 1, 3, 0, 0, 0), (173, 1, 2, 1, 0, 0), (174, 3, 13, 214, 96, 424), (177, 1, 0, 0, 0, 0), (178, 2, 4, 17, 0, 0), (180, 1, 2, 2, 0, 0), (181, 3, 13, 214, 96, 424), (184, 1, 0, 0, 0, 0), (185, 2, 4, 18, 0, 0), (187, 1, 2, 3, 0, 0), (188, 3, 13, 214, 96, 424), (191, 1, 0, 0, 0, 0), (192, 1, 19, 0, 0, 0), (193, 3, 1, 12, 14, 212), (196, 1, 3, 1, 0, 0), (197, 1, 11, 0, 0, 0), (198, 3, 14, 12, 14, 212), (201, 1, 12, 0, 0, 0)]) rfl) ?_
          refine xg_t (xg_istore (l1 := [(2, (0, f82_15)), (0, (2, 82)), (1, (0, kr))]) rfl rfl rfl) ?_
          refine xg_t (xg_aload (va := (2, 82)) rfl rfl) ?_
          refine xg_t (xg_bip) ?_
          have hk330 := hk327
          obtain ⟨f82_331, f82_333, f82_335, f82_337, f82_339, f82_341, f82_343, f82_345, f82_347, f82_349, f82_351, f82_352, f82_353, f82_355, f82_357, f82_359, h82_361, hb332, hb334, hb336, hb338, hb340, hb342, hb344, hb346, hb348, hb350, hb354, hb356, hb358, hb360, hb362⟩ := (hI315 82 (by decide) (by decide) : cp82 (wget w313 82))
          replace hb334 := xHid.of hb334
          replace hb340 := xHid.of hb340
          replace hb344 := xHid.of hb344
          replace hb346 := xHid.of hb346
          replace hb350 := xHid.of hb350
          replace hb354 := xHid.of hb354
          replace hb356 := xHid.of hb356
          replace hb358 := xHid.of hb358
          replace hb360 := xHid.of hb360
          refine xg_cVv mX12_must (vs := [(0, 59)]) (rest := []) (cn1 := 0) (sl1 := 0) rfl (mMustX (hI315) (by omega) (hB.fr (fun j h4 h9 => ((K83.fr hF74 (by decide)).tr hn322) j (by omega) (by omega) (by omega))) hx324 hx325) rfl h82_361 rfl rfl rfl rfl rfl rfl (fun w363 hq364 => ?_)
          obtain ⟨hI365, hF366, hx367⟩ := hq364
          obtain ⟨hn368, hn369, hn370⟩ := hx367
          have hk375 := hn369.trans hk330
          rcases hn368 with ⟨hx371, hx372, hx373, hx374⟩ | ⟨hx371, hx372⟩
          · obtain ⟨p_376, hp377⟩ : ∃ x, x = tf B nn p_328 := ⟨_, rfl⟩
            rw [← hp377] at hx372
            refine xg_t (xg_aload (va := (2, 82)) rfl rfl) ?_
            refine xg_t (xg_const) ?_
            refine xg_t (xg_iload (va := (0, kr)) rfl rfl) ?_
            have hl378 : fld w363 82 14 = fld w 82 14 := hk375
            obtain ⟨f82_379, f82_381, f82_383, f82_385, f82_387, f82_389, f82_391, f82_393, f82_395, f82_397, f82_399, f82_400, f82_401, f82_403, f82_405, f82_407, h82_409, hb380, hb382, hb384, hb386, hb388, hb390, hb392, hb394, hb396, hb398, hb402, hb404, hb406, hb408, hb410⟩ := (hI365 82 (by decide) (by decide) : cp82 (wget w363 82))
            replace hb382 := xHid.of hb382
            replace hb388 := xHid.of hb388
            replace hb392 := xHid.of hb392
            replace hb394 := xHid.of hb394
            replace hb398 := xHid.of hb398
            replace hb402 := xHid.of hb402
            replace hb404 := xHid.of hb404
            replace hb406 := xHid.of hb406
            replace hb408 := xHid.of hb408
            refine xg_cVv mX12_rulePuts (vs := [(0, 0), (0, kr)]) (rest := []) (cn1 := 0) (sl1 := 0) rfl (mRulePuts (hI365) (by omega) (by omega) (by omega)) rfl h82_409 rfl rfl rfl rfl rfl rfl (fun w411 hq412 => ?_)
            obtain ⟨hI413, hF414, hx415⟩ := hq412
            refine xg_t (xg_aload (va := (2, 82)) rfl rfl) ?_
            refine xg_t (xg_bip) ?_
            refine xg_t (xg_iload (va := (0, f82_15)) rfl rfl) ?_
            have hl416 : fld w411 82 14 = fld w 82 14 := ((fld_eq (j := 14) (hF414.1 82 (by decide))).trans hk375)
            refine xg_cVv mX12_rulePuts (vs := [(0, 17), (0, f82_15)]) (rest := []) (cn1 := 0) (sl1 := 0) rfl (mRulePuts (hI413) (by omega) (by omega) (by omega)) rfl (hF414.get (by decide) h82_409) rfl rfl rfl rfl rfl rfl (fun w417 hq418 => ?_)
            obtain ⟨hI419, hF420, hx421⟩ := hq418
            refine xg_t (xg_aload (va := (2, 82)) rfl rfl) ?_
            refine xg_t (xg_bip) ?_
            refine xg_t (xg_iload (va := (0, n317)) rfl rfl) ?_
            have hl422 : fld w417 82 14 = fld w 82 14 := ((fld_eq (j := 14) ((hF420.1 82 (by decide)).trans (hF414.1 82 (by decide)))).trans hk375)
            refine xg_cVv mX12_rulePuts (vs := [(0, 18), (0, n317)]) (rest := []) (cn1 := 0) (sl1 := 0) rfl (mRulePuts (hI419) (by omega) (by omega) (by omega)) rfl (hF420.get (by decide) (hF414.get (by decide) h82_409)) rfl rfl rfl rfl rfl rfl (fun w423 hq424 => ?_)
            obtain ⟨hI425, hF426, hx427⟩ := hq424
            have hro428 : RO2 w w423 (fld w 82 14) := fun l hl hn => by
              rw [(hx427 (20 * l) (by omega)).2 (by omega)]
              rw [(hx421 (20 * l) (by omega)).2 (by omega)]
              rw [(hx415 (20 * l) (by omega)).2 (by omega)]
              exact ((rwv_fr hF366 (by decide)).trans ((rwv_fr hF316 (by decide)).trans (rwv_fr hF74 (by decide))))
            have hrk429 : fld w 82 14 < 16 → rwv w423 112 (20 * fld w 82 14) = kr := fun h6 => by
              rw [(hx427 (20 * fld w 82 14) (by omega)).2 (by omega)]
              rw [(hx421 (20 * fld w 82 14) (by omega)).2 (by omega)]
              exact (hx415 (20 * fld w 82 14) (by omega)).1 ⟨by omega, by omega⟩
            have hf430 : fld w423 82 10 = f82_395 := fld_of (hF426.get (by decide) (hF420.get (by decide) (hF414.get (by decide) h82_409)))
            have hf431 : fld w423 82 14 = f82_397 := fld_of (hF426.get (by decide) (hF420.get (by decide) (hF414.get (by decide) h82_409)))
            have hl432 : fld w423 82 14 = fld w 82 14 := ((fld_eq (j := 14) ((hF426.1 82 (by decide)).trans ((hF420.1 82 (by decide)).trans (hF414.1 82 (by decide))))).trans hk375)
            have hl433 : f82_397 ≤ 501 := by omega
            refine xg_t (xg_aload (va := (2, 82)) rfl rfl) ?_
            refine xg_t (xg_dup rfl) ?_
            refine xg_t (xg_getf (va := (0, f82_397)) (hF426.get (by decide) (hF420.get (by decide) (hF414.get (by decide) h82_409))) rfl) ?_
            have hn434 := id hb398
            unfold xHid at hn434
            refine xg_t (xg_const) ?_
            refine xg_t (xg_iadd (u := f82_397) (v := 1) (z := f82_397 + 1) xnm0 xnm0 (by omega)) ?_
            refine xg_putI (fl1 := [(2, 83), (2, 84), (0, f82_379), (0, f82_381), (0, f82_383), (0, f82_385), (0, f82_387), (0, f82_389), (0, f82_391), (0, f82_393), (0, f82_395), (2, 85), (2, 86), (2, 87), (0, f82_397 + 1), (2, 88), (2, 89), (2, 90), (2, 91), (2, 92), (2, 93), (2, 94), (4, f82_399), (4, f82_400), (0, f82_401), (2, 95), (2, 96), (2, 97), (2, 98), (2, 99), (2, 100), (2, 101), (2, 102), (0, f82_403), (2, 103), (2, 104), (2, 105), (2, 106), (2, 107), (2, 108), (2, 109), (0, f82_405), (0, f82_407), (2, 110), (2, 111), (2, 112), (2, 113)]) (hF426.get (by decide) (hF420.get (by decide) (hF414.get (by decide) h82_409))) rfl rfl rfl (fun w435 hk436 hb437 => ?_)
            have hf439 : fld w435 82 14 = f82_397 + 1 := fld_of hk436
            have hq438 : fld w435 82 14 = fld w 82 14 + 1 := by have y := hf439; omega
            have hr440 : (rvR B nn p fp) = (true, p_376, fp) := by rw [rvR_2 (by omega) (by omega) (by rw [← hp80]; omega), ← hp80, ← hp329, rvS_y hx371, ← hp377]
            have hf441 : fld w435 82 2 = f82_379 := fld_of hk436
            have hf442 : fld w435 82 3 = f82_381 := fld_of hk436
            have hf443 : fld w435 82 4 = f82_383 := fld_of hk436
            have hf444 : fld w435 82 5 = f82_385 := fld_of hk436
            have hf445 : fld w435 82 6 = f82_387 := fld_of hk436
            have hf446 : fld w435 82 7 = f82_389 := fld_of hk436
            have hf447 : fld w435 82 8 = f82_391 := fld_of hk436
            have hf448 : fld w435 82 9 = f82_393 := fld_of hk436
            have hf449 : fld w435 82 10 = f82_395 := fld_of hk436
            have hq450 : fld w435 82 2 = fld w423 82 2 := hf441.trans (fld_of (hF426.get (by decide) (hF420.get (by decide) (hF414.get (by decide) h82_409)))).symm
            have hq451 : fld w435 82 3 = fld w423 82 3 := hf442.trans (fld_of (hF426.get (by decide) (hF420.get (by decide) (hF414.get (by decide) h82_409)))).symm
            have hq452 : fld w435 82 4 = fld w423 82 4 := hf443.trans (fld_of (hF426.get (by decide) (hF420.get (by decide) (hF414.get (by decide) h82_409)))).symm
            have hq453 : fld w435 82 5 = fld w423 82 5 := hf444.trans (fld_of (hF426.get (by decide) (hF420.get (by decide) (hF414.get (by decide) h82_409)))).symm
            have hq454 : fld w435 82 6 = fld w423 82 6 := hf445.trans (fld_of (hF426.get (by decide) (hF420.get (by decide) (hF414.get (by decide) h82_409)))).symm
            have hq455 : fld w435 82 7 = fld w423 82 7 := hf446.trans (fld_of (hF426.get (by decide) (hF420.get (by decide) (hF414.get (by decide) h82_409)))).symm
            have hq456 : fld w435 82 8 = fld w423 82 8 := hf447.trans (fld_of (hF426.get (by decide) (hF420.get (by decide) (hF414.get (by decide) h82_409)))).symm
            have hq457 : fld w435 82 9 = fld w423 82 9 := hf448.trans (fld_of (hF426.get (by decide) (hF420.get (by decide) (hF414.get (by decide) h82_409)))).symm
            have hq458 : fld w435 82 10 = fld w423 82 10 := hf449.trans (fld_of (hF426.get (by decide) (hF420.get (by decide) (hF414.get (by decide) h82_409)))).symm
            have hT459 : TKM 1 B nn w435 p_376 := by
              have q := (hx372.fr ((hF426.1 82 (by decide)).trans ((hF420.1 82 (by decide)).trans (hF414.1 82 (by decide)))))
              unfold TKM at q ⊢
              rw [hq450, hq451, hq452, hq453, hq454, hq455, hq456, hq457]
              exact q
            exact xg_e ⟨w435, ⟨rfl, rfl⟩, xMnv.up (S := [82]) hI425 (xFr.of (S := [82]) hb437 (by decide)) (List.forall_mem_cons.mpr ⟨(show cp82 (wget w435 82) from ⟨f82_379, f82_381, f82_383, f82_385, f82_387, f82_389, f82_391, f82_393, f82_395, f82_397 + 1, f82_399, f82_400, f82_401, f82_403, f82_405, f82_407, hk436, by omega, hb382, by omega, by omega, hb388, by omega, hb392, hb394, by omega, by omega, hb402, hb404, hb406, hb408, by omega⟩), fun _ h => absurd h List.not_mem_nil⟩), (((((((hF74.up (by decide)).tr (hF316.up (by decide))).tr (hF366.up (by decide))).tr (hF414.up (by decide))).tr (hF420.up (by decide))).tr (hF426.up (by decide))).tr (xFr.of (S := [82, 83, 112]) hb437 (by decide))), ⟨Or.inl ⟨congrArg Prod.fst hr440, by rw [hr440]; exact hT459, (hq458.trans ((fld_eq (j := 10) ((hF426.1 82 (by decide)).trans ((hF420.1 82 (by decide)).trans (hF414.1 82 (by decide))))).trans hx373)), hq438, ((hb437.1 83 (by decide)).trans ((hF426.1 83 (by decide)).trans ((hF420.1 83 (by decide)).trans ((hF414.1 83 (by decide)).trans (hx374.trans (hx326.trans (hF74.1 83 (by decide)))))))), fun l hl hn => (rwv_eq (hb437.1 112 (by decide))).trans (hro428 l hl hn), fun h6 => (rwv_eq (hb437.1 112 (by decide))).trans (hrk429 h6)⟩, (((((((K83.fr hF74 (by decide)).tr hn322).tr hn370).tr (K83.fr hF414 (by decide))).tr (K83.fr hF420 (by decide))).tr (K83.fr hF426 (by decide))).tr (K83.but hb437 (by decide)))⟩⟩
          · refine xg_t (xg_aload (va := (2, 82)) rfl rfl) ?_
            refine xg_t (xg_const) ?_
            refine xg_t (xg_iload (va := (0, kr)) rfl rfl) ?_
            have hl460 : fld w363 82 14 = fld w 82 14 := hk375
            obtain ⟨f82_461, f82_463, f82_465, f82_467, f82_469, f82_471, f82_473, f82_475, f82_477, f82_479, f82_481, f82_482, f82_483, f82_485, f82_487, f82_489, h82_491, hb462, hb464, hb466, hb468, hb470, hb472, hb474, hb476, hb478, hb480, hb484, hb486, hb488, hb490, hb492⟩ := (hI365 82 (by decide) (by decide) : cp82 (wget w363 82))
            replace hb464 := xHid.of hb464
            replace hb470 := xHid.of hb470
            replace hb474 := xHid.of hb474
            replace hb476 := xHid.of hb476
            replace hb480 := xHid.of hb480
            replace hb484 := xHid.of hb484
            replace hb486 := xHid.of hb486
            replace hb488 := xHid.of hb488
            replace hb490 := xHid.of hb490
            refine xg_cVv mX12_rulePuts (vs := [(0, 0), (0, kr)]) (rest := []) (cn1 := 0) (sl1 := 0) rfl (mRulePuts (hI365) (by omega) (by omega) (by omega)) rfl h82_491 rfl rfl rfl rfl rfl rfl (fun w493 hq494 => ?_)
            obtain ⟨hI495, hF496, hx497⟩ := hq494
            refine xg_t (xg_aload (va := (2, 82)) rfl rfl) ?_
            refine xg_t (xg_bip) ?_
            refine xg_t (xg_iload (va := (0, f82_15)) rfl rfl) ?_
            have hl498 : fld w493 82 14 = fld w 82 14 := ((fld_eq (j := 14) (hF496.1 82 (by decide))).trans hk375)
            refine xg_cVv mX12_rulePuts (vs := [(0, 17), (0, f82_15)]) (rest := []) (cn1 := 0) (sl1 := 0) rfl (mRulePuts (hI495) (by omega) (by omega) (by omega)) rfl (hF496.get (by decide) h82_491) rfl rfl rfl rfl rfl rfl (fun w499 hq500 => ?_)
            obtain ⟨hI501, hF502, hx503⟩ := hq500
            refine xg_t (xg_aload (va := (2, 82)) rfl rfl) ?_
            refine xg_t (xg_bip) ?_
            refine xg_t (xg_iload (va := (0, n317)) rfl rfl) ?_
            have hl504 : fld w499 82 14 = fld w 82 14 := ((fld_eq (j := 14) ((hF502.1 82 (by decide)).trans (hF496.1 82 (by decide)))).trans hk375)
            refine xg_cVv mX12_rulePuts (vs := [(0, 18), (0, n317)]) (rest := []) (cn1 := 0) (sl1 := 0) rfl (mRulePuts (hI501) (by omega) (by omega) (by omega)) rfl (hF502.get (by decide) (hF496.get (by decide) h82_491)) rfl rfl rfl rfl rfl rfl (fun w505 hq506 => ?_)
            obtain ⟨hI507, hF508, hx509⟩ := hq506
            have hf510 : fld w505 82 10 = f82_477 := fld_of (hF508.get (by decide) (hF502.get (by decide) (hF496.get (by decide) h82_491)))
            have hf511 : fld w505 82 14 = f82_479 := fld_of (hF508.get (by decide) (hF502.get (by decide) (hF496.get (by decide) h82_491)))
            have hl512 : fld w505 82 14 = fld w 82 14 := ((fld_eq (j := 14) ((hF508.1 82 (by decide)).trans ((hF502.1 82 (by decide)).trans (hF496.1 82 (by decide))))).trans hk375)
            have hl513 : f82_479 ≤ 501 := by omega
            refine xg_t (xg_aload (va := (2, 82)) rfl rfl) ?_
            refine xg_t (xg_dup rfl) ?_
            refine xg_t (xg_getf (va := (0, f82_479)) (hF508.get (by decide) (hF502.get (by decide) (hF496.get (by decide) h82_491))) rfl) ?_
            have hn514 := id hb480
            unfold xHid at hn514
            refine xg_t (xg_const) ?_
            refine xg_t (xg_iadd (u := f82_479) (v := 1) (z := f82_479 + 1) xnm0 xnm0 (by omega)) ?_
            refine xg_putI (fl1 := [(2, 83), (2, 84), (0, f82_461), (0, f82_463), (0, f82_465), (0, f82_467), (0, f82_469), (0, f82_471), (0, f82_473), (0, f82_475), (0, f82_477), (2, 85), (2, 86), (2, 87), (0, f82_479 + 1), (2, 88), (2, 89), (2, 90), (2, 91), (2, 92), (2, 93), (2, 94), (4, f82_481), (4, f82_482), (0, f82_483), (2, 95), (2, 96), (2, 97), (2, 98), (2, 99), (2, 100), (2, 101), (2, 102), (0, f82_485), (2, 103), (2, 104), (2, 105), (2, 106), (2, 107), (2, 108), (2, 109), (0, f82_487), (0, f82_489), (2, 110), (2, 111), (2, 112), (2, 113)]) (hF508.get (by decide) (hF502.get (by decide) (hF496.get (by decide) h82_491))) rfl rfl rfl (fun w515 hk516 hb517 => ?_)
            have hf519 : fld w515 82 14 = f82_479 + 1 := fld_of hk516
            have hq518 : fld w515 82 14 = fld w 82 14 + 1 := by have y := hf519; omega
            have hr520 : (rvR B nn p fp) = (false, p_328, fp) := by rw [rvR_2 (by omega) (by omega) (by rw [← hp80]; omega), ← hp80, ← hp329, rvS_n hx371]
            have hf525 : fld w515 82 10 = f82_477 := fld_of hk516
            have hq524 : fld w515 82 10 = fld w505 82 10 := hf525.trans hf510.symm
            have hW521 : WRG w515 _ := ⟨(hq524.trans ((fld_eq (j := 10) ((hF508.1 82 (by decide)).trans ((hF502.1 82 (by decide)).trans (hF496.1 82 (by decide))))).trans hx372.1)), (rwv_eq ((hb517.1 83 (by decide)).trans ((hF508.1 83 (by decide)).trans ((hF502.1 83 (by decide)).trans (hF496.1 83 (by decide)))))).trans hx372.2.1, (rwv_eq ((hb517.1 83 (by decide)).trans ((hF508.1 83 (by decide)).trans ((hF502.1 83 (by decide)).trans (hF496.1 83 (by decide)))))).trans hx372.2.2⟩
            exact xg_e ⟨w515, ⟨rfl, rfl⟩, xMnv.up (S := [82]) hI507 (xFr.of (S := [82]) hb517 (by decide)) (List.forall_mem_cons.mpr ⟨(show cp82 (wget w515 82) from ⟨f82_461, f82_463, f82_465, f82_467, f82_469, f82_471, f82_473, f82_475, f82_477, f82_479 + 1, f82_481, f82_482, f82_483, f82_485, f82_487, f82_489, hk516, by omega, hb464, by omega, by omega, hb470, by omega, hb474, hb476, by omega, by omega, hb484, hb486, hb488, hb490, by omega⟩), fun _ h => absurd h List.not_mem_nil⟩), (((((((hF74.up (by decide)).tr (hF316.up (by decide))).tr (hF366.up (by decide))).tr (hF496.up (by decide))).tr (hF502.up (by decide))).tr (hF508.up (by decide))).tr (xFr.of (S := [82, 83, 112]) hb517 (by decide))), ⟨Or.inr ⟨congrArg Prod.fst hr520, by rw [hr520]; exact hW521, Or.inr hq518⟩, (((((((K83.fr hF74 (by decide)).tr hn322).tr hn370).tr (K83.fr hF496 (by decide))).tr (K83.fr hF502 (by decide))).tr (K83.fr hF508 (by decide))).tr (K83.but hb517 (by decide)))⟩⟩
        · refine xg_t (xg_blk (b := [(164, 1, 15, 3, 0, 0), (165, 1, 0, 0, 0, 0), (166, 2, 4, 59, 0, 0), (168, 3, 13, 195, 96, 427), (171, 1, 0, 0, 0, 0), (172, 1, 3, 0, 0, 0), (173, 1, 2, 1, 0, 0), (174, 3, 13, 214, 96, 424), (177, 1, 0, 0, 0, 0), (178, 2, 4, 17, 0, 0), (180, 1, 2, 2, 0, 0), (181, 3, 13, 214, 96, 424), (184, 1, 0, 0, 0, 0), (185, 2, 4, 18, 0, 0), (187, 1, 2, 3, 0, 0), (188, 3, 13, 214, 96, 424), (191, 1, 0, 0, 0, 0), (192, 1, 19, 0, 0, 0), (193, 3, 1, 12, 14, 212), (196, 1, 3, 1, 0, 0), (197, 1, 11, 0, 0, 0), (198, 3, 14, 12, 14, 212), (201, 1, 12, 0, 0, 0)]) rfl) ?_
          refine xg_t (xg_istore (l1 := [(2, (0, f82_15)), (0, (2, 82)), (1, (0, kr))]) rfl rfl rfl) ?_
          refine xg_t (xg_aload (va := (2, 82)) rfl rfl) ?_
          refine xg_t (xg_bip) ?_
          obtain ⟨f82_526, f82_528, f82_530, f82_532, f82_534, f82_536, f82_538, f82_540, f82_542, f82_544, f82_546, f82_547, f82_548, f82_550, f82_552, f82_554, h82_556, hb527, hb529, hb531, hb533, hb535, hb537, hb539, hb541, hb543, hb545, hb549, hb551, hb553, hb555, hb557⟩ := (hI315 82 (by decide) (by decide) : cp82 (wget w313 82))
          replace hb529 := xHid.of hb529
          replace hb535 := xHid.of hb535
          replace hb539 := xHid.of hb539
          replace hb541 := xHid.of hb541
          replace hb545 := xHid.of hb545
          replace hb549 := xHid.of hb549
          replace hb551 := xHid.of hb551
          replace hb553 := xHid.of hb553
          replace hb555 := xHid.of hb555
          refine xg_cVv mX12_must (vs := [(0, 59)]) (rest := []) (cn1 := 0) (sl1 := 0) rfl (mMustW (hI315) (by omega) (by have q := hx324.1; omega)) rfl h82_556 rfl rfl rfl rfl rfl rfl (fun w558 hq559 => ?_)
          obtain ⟨hI560, hF561⟩ := hq559
          refine xg_t (xg_aload (va := (2, 82)) rfl rfl) ?_
          refine xg_t (xg_const) ?_
          refine xg_t (xg_iload (va := (0, kr)) rfl rfl) ?_
          have hl562 : fld w558 82 14 = fld w 82 14 := ((fld_eq (j := 14) (hF561.1 82 (by decide))).trans hk327)
          refine xg_cVv mX12_rulePuts (vs := [(0, 0), (0, kr)]) (rest := []) (cn1 := 0) (sl1 := 0) rfl (mRulePuts (hI560) (by omega) (by omega) (by omega)) rfl (hF561.get (by decide) h82_556) rfl rfl rfl rfl rfl rfl (fun w563 hq564 => ?_)
          obtain ⟨hI565, hF566, hx567⟩ := hq564
          refine xg_t (xg_aload (va := (2, 82)) rfl rfl) ?_
          refine xg_t (xg_bip) ?_
          refine xg_t (xg_iload (va := (0, f82_15)) rfl rfl) ?_
          have hl568 : fld w563 82 14 = fld w 82 14 := ((fld_eq (j := 14) ((hF566.1 82 (by decide)).trans (hF561.1 82 (by decide)))).trans hk327)
          refine xg_cVv mX12_rulePuts (vs := [(0, 17), (0, f82_15)]) (rest := []) (cn1 := 0) (sl1 := 0) rfl (mRulePuts (hI565) (by omega) (by omega) (by omega)) rfl (hF566.get (by decide) (hF561.get (by decide) h82_556)) rfl rfl rfl rfl rfl rfl (fun w569 hq570 => ?_)
          obtain ⟨hI571, hF572, hx573⟩ := hq570
          refine xg_t (xg_aload (va := (2, 82)) rfl rfl) ?_
          refine xg_t (xg_bip) ?_
          refine xg_t (xg_iload (va := (0, n317)) rfl rfl) ?_
          have hl574 : fld w569 82 14 = fld w 82 14 := ((fld_eq (j := 14) ((hF572.1 82 (by decide)).trans ((hF566.1 82 (by decide)).trans (hF561.1 82 (by decide))))).trans hk327)
          refine xg_cVv mX12_rulePuts (vs := [(0, 18), (0, n317)]) (rest := []) (cn1 := 0) (sl1 := 0) rfl (mRulePuts (hI571) (by omega) (by omega) (by omega)) rfl (hF572.get (by decide) (hF566.get (by decide) (hF561.get (by decide) h82_556))) rfl rfl rfl rfl rfl rfl (fun w575 hq576 => ?_)
          obtain ⟨hI577, hF578, hx579⟩ := hq576
          have hf580 : fld w575 82 10 = f82_542 := fld_of (hF578.get (by decide) (hF572.get (by decide) (hF566.get (by decide) (hF561.get (by decide) h82_556))))
          have hf581 : fld w575 82 14 = f82_544 := fld_of (hF578.get (by decide) (hF572.get (by decide) (hF566.get (by decide) (hF561.get (by decide) h82_556))))
          have hl582 : fld w575 82 14 = fld w 82 14 := ((fld_eq (j := 14) ((hF578.1 82 (by decide)).trans ((hF572.1 82 (by decide)).trans ((hF566.1 82 (by decide)).trans (hF561.1 82 (by decide)))))).trans hk327)
          have hl583 : f82_544 ≤ 501 := by omega
          refine xg_t (xg_aload (va := (2, 82)) rfl rfl) ?_
          refine xg_t (xg_dup rfl) ?_
          refine xg_t (xg_getf (va := (0, f82_544)) (hF578.get (by decide) (hF572.get (by decide) (hF566.get (by decide) (hF561.get (by decide) h82_556)))) rfl) ?_
          have hn584 := id hb545
          unfold xHid at hn584
          refine xg_t (xg_const) ?_
          refine xg_t (xg_iadd (u := f82_544) (v := 1) (z := f82_544 + 1) xnm0 xnm0 (by omega)) ?_
          refine xg_putI (fl1 := [(2, 83), (2, 84), (0, f82_526), (0, f82_528), (0, f82_530), (0, f82_532), (0, f82_534), (0, f82_536), (0, f82_538), (0, f82_540), (0, f82_542), (2, 85), (2, 86), (2, 87), (0, f82_544 + 1), (2, 88), (2, 89), (2, 90), (2, 91), (2, 92), (2, 93), (2, 94), (4, f82_546), (4, f82_547), (0, f82_548), (2, 95), (2, 96), (2, 97), (2, 98), (2, 99), (2, 100), (2, 101), (2, 102), (0, f82_550), (2, 103), (2, 104), (2, 105), (2, 106), (2, 107), (2, 108), (2, 109), (0, f82_552), (0, f82_554), (2, 110), (2, 111), (2, 112), (2, 113)]) (hF578.get (by decide) (hF572.get (by decide) (hF566.get (by decide) (hF561.get (by decide) h82_556)))) rfl rfl rfl (fun w585 hk586 hb587 => ?_)
          have hf589 : fld w585 82 14 = f82_544 + 1 := fld_of hk586
          have hq588 : fld w585 82 14 = fld w 82 14 + 1 := by have y := hf589; omega
          have hr590 : (rvR B nn p fp) = (false, p_79, fp) := by rw [rvR_3 (by omega) (by omega) (by rw [← hp80]; omega), ← hp80]
          have hf595 : fld w585 82 10 = f82_542 := fld_of hk586
          have hq594 : fld w585 82 10 = fld w575 82 10 := hf595.trans hf580.symm
          have hW591 : WRG w585 _ := ⟨(hq594.trans ((fld_eq (j := 10) ((hF578.1 82 (by decide)).trans ((hF572.1 82 (by decide)).trans ((hF566.1 82 (by decide)).trans (hF561.1 82 (by decide)))))).trans hx324.1)), (rwv_eq ((hb587.1 83 (by decide)).trans ((hF578.1 83 (by decide)).trans ((hF572.1 83 (by decide)).trans ((hF566.1 83 (by decide)).trans (hF561.1 83 (by decide))))))).trans hx324.2.1, (rwv_eq ((hb587.1 83 (by decide)).trans ((hF578.1 83 (by decide)).trans ((hF572.1 83 (by decide)).trans ((hF566.1 83 (by decide)).trans (hF561.1 83 (by decide))))))).trans hx324.2.2⟩
          exact xg_e ⟨w585, ⟨rfl, rfl⟩, xMnv.up (S := [82]) hI577 (xFr.of (S := [82]) hb587 (by decide)) (List.forall_mem_cons.mpr ⟨(show cp82 (wget w585 82) from ⟨f82_526, f82_528, f82_530, f82_532, f82_534, f82_536, f82_538, f82_540, f82_542, f82_544 + 1, f82_546, f82_547, f82_548, f82_550, f82_552, f82_554, hk586, by omega, hb529, by omega, by omega, hb535, by omega, hb539, hb541, by omega, by omega, hb549, hb551, hb553, hb555, by omega⟩), fun _ h => absurd h List.not_mem_nil⟩), (((((((hF74.up (by decide)).tr (hF316.up (by decide))).tr (hF561.up (by decide))).tr (hF566.up (by decide))).tr (hF572.up (by decide))).tr (hF578.up (by decide))).tr (xFr.of (S := [82, 83, 112]) hb587 (by decide))), ⟨Or.inr ⟨congrArg Prod.fst hr590, by rw [hr590]; exact hW591, Or.inr hq588⟩, (((((((K83.fr hF74 (by decide)).tr hn322).tr (K83.fr hF561 (by decide))).tr (K83.fr hF566 (by decide))).tr (K83.fr hF572 (by decide))).tr (K83.fr hF578 (by decide))).tr (K83.but hb587 (by decide)))⟩⟩
    · refine xg_t (xg_ifF (u := (if 40 ≤ f82_15 ∧ f82_15 ≤ 42 then 1 else 0)) rfl xnm0 (xj_neF (xite0 hc62))) ?_
      refine xg_t (xg_blk (b := [(136, 1, 0, 0, 0, 0), (137, 3, 13, 140, 96, 183), (140, 1, 12, 0, 0, 0)]) rfl) ?_
      refine xg_t (xg_aload (va := (2, 82)) rfl rfl) ?_
      have hk596 := (rfl : fld w 82 14 = fld w 82 14)
      refine xg_cVv mX12_ends (vs := []) (rest := []) (cn1 := 0) (sl1 := 0) rfl (mEndsX (hI) h10) rfl h82_31 rfl rfl rfl rfl rfl rfl (fun w597 hq598 => ?_)
      obtain ⟨hI599, hF600, hx601⟩ := hq598
      obtain ⟨hv602, hv603, hv604, hv605, hv606⟩ := hx601
      have hk607 := hv605.trans hk596
      obtain ⟨f82_608, f82_610, f82_612, f82_614, f82_616, f82_618, f82_620, f82_622, f82_624, f82_626, f82_628, f82_629, f82_630, f82_632, f82_634, f82_636, h82_638, hb609, hb611, hb613, hb615, hb617, hb619, hb621, hb623, hb625, hb627, hb631, hb633, hb635, hb637, hb639⟩ := (hI599 82 (by decide) (by decide) : cp82 (wget w597 82))
      replace hb611 := xHid.of hb611
      replace hb617 := xHid.of hb617
      replace hb621 := xHid.of hb621
      replace hb623 := xHid.of hb623
      replace hb627 := xHid.of hb627
      replace hb631 := xHid.of hb631
      replace hb633 := xHid.of hb633
      replace hb635 := xHid.of hb635
      replace hb637 := xHid.of hb637
      have hr640 : (rvR B nn p fp) = (false, p, fp) := rvR_0 (by omega)
      exact xg_e ⟨w597, ⟨rfl, rfl⟩, hI599, (hF600.up (by decide)), ⟨Or.inr ⟨congrArg Prod.fst hr640, by rw [hr640]; exact ⟨hv602, hv603, by omega⟩, Or.inl hk607⟩, hv606⟩⟩
  · refine xg_t (xg_icT (u := f82_11) (v := 3) rfl xnm0 xnm0 (xj_neT hc60)) ?_
    refine xg_t (xg_blk (b := [(136, 1, 0, 0, 0, 0), (137, 3, 13, 140, 96, 183), (140, 1, 12, 0, 0, 0)]) rfl) ?_
    refine xg_t (xg_aload (va := (2, 82)) rfl rfl) ?_
    have hk641 := (rfl : fld w 82 14 = fld w 82 14)
    refine xg_cVv mX12_ends (vs := []) (rest := []) (cn1 := 0) (sl1 := 0) rfl (mEndsX (hI) h10) rfl h82_31 rfl rfl rfl rfl rfl rfl (fun w642 hq643 => ?_)
    obtain ⟨hI644, hF645, hx646⟩ := hq643
    obtain ⟨hv647, hv648, hv649, hv650, hv651⟩ := hx646
    have hk652 := hv650.trans hk641
    obtain ⟨f82_653, f82_655, f82_657, f82_659, f82_661, f82_663, f82_665, f82_667, f82_669, f82_671, f82_673, f82_674, f82_675, f82_677, f82_679, f82_681, h82_683, hb654, hb656, hb658, hb660, hb662, hb664, hb666, hb668, hb670, hb672, hb676, hb678, hb680, hb682, hb684⟩ := (hI644 82 (by decide) (by decide) : cp82 (wget w642 82))
    replace hb656 := xHid.of hb656
    replace hb662 := xHid.of hb662
    replace hb666 := xHid.of hb666
    replace hb668 := xHid.of hb668
    replace hb672 := xHid.of hb672
    replace hb676 := xHid.of hb676
    replace hb678 := xHid.of hb678
    replace hb680 := xHid.of hb680
    replace hb682 := xHid.of hb682
    have hr685 : (rvR B nn p fp) = (false, p, fp) := rvR_0 (by omega)
    exact xg_e ⟨w642, ⟨rfl, rfl⟩, hI644, (hF645.up (by decide)), ⟨Or.inr ⟨congrArg Prod.fst hr685, by rw [hr685]; exact ⟨hv647, hv648, by omega⟩, Or.inl hk652⟩, hv651⟩⟩
theorem mRuleTW {kr : Nat} (hI : xMnv w) (h10 : fld w 82 10 ≠ 0) : xTo (d + 7) mX12_aRule (107, [], [(0, (2, 82)), (1, (0, kr))], [], (w, bd, fc, 0, 0, rr)) (fun φ => ∃ w', xEnd 0 [] (w', bd, fc, 0, 0, rr) φ ∧ xMnv w' ∧ xFr [] w w' ∧ (True)) := by
  obtain ⟨f82_1, f82_3, f82_5, f82_7, f82_9, f82_11, f82_13, f82_15, f82_17, f82_19, f82_21, f82_22, f82_23, f82_25, f82_27, f82_29, h82_31, hb2, hb4, hb6, hb8, hb10, hb12, hb14, hb16, hb18, hb20, hb24, hb26, hb28, hb30, hb32⟩ := (hI 82 (by decide) (by decide) : cp82 (wget w 82))
  replace hb4 := xHid.of hb4
  replace hb10 := xHid.of hb10
  replace hb14 := xHid.of hb14
  replace hb16 := xHid.of hb16
  replace hb20 := xHid.of hb20
  replace hb24 := xHid.of hb24
  replace hb26 := xHid.of hb26
  replace hb28 := xHid.of hb28
  replace hb30 := xHid.of hb30
  have hf33 : fld w 82 10 = f82_17 := fld_of h82_31
  refine xg_t (xg_blk (b := [(107, 1, 0, 0, 0, 0), (108, 3, 1, 12, 10, 180), (111, 3, 7, 136, 1, 0), (114, 1, 0, 0, 0, 0), (115, 3, 1, 12, 7, 151), (118, 1, 3, 3, 0, 0), (119, 3, 6, 136, 1, 0), (122, 1, 0, 0, 0, 0), (123, 3, 1, 12, 9, 165), (126, 2, 4, 40, 0, 0), (128, 2, 4, 42, 0, 0), (130, 3, 13, 161, 98, 105), (133, 3, 7, 141, 1, 0)]) rfl) ?_
  refine xg_t (xg_aload (va := (2, 82)) rfl rfl) ?_
  refine xg_t (xg_getf (va := (0, f82_17)) h82_31 rfl) ?_
  refine xg_t (xg_ifT (u := f82_17) rfl xnm0 (xj_neT (by omega))) ?_
  refine xg_t (xg_blk (b := [(136, 1, 0, 0, 0, 0), (137, 3, 13, 140, 96, 183), (140, 1, 12, 0, 0, 0)]) rfl) ?_
  refine xg_t (xg_aload (va := (2, 82)) rfl rfl) ?_
  refine xg_cVv mX12_ends (vs := []) (rest := []) (cn1 := 0) (sl1 := 0) rfl (mEndsW (hI) h10) rfl h82_31 rfl rfl rfl rfl rfl rfl (fun w34 hq35 => ?_)
  obtain ⟨hI36, hF37⟩ := hq35
  exact xg_e ⟨w34, ⟨rfl, rfl⟩, hI36, (hF37.up (by decide)), trivial⟩
end XRMB
