/-! the model: texts -/
noncomputable def mu (w : List (List xE)) : Nat := 2 * (fld w 82 4 - fld w 82 5) + min 1 (fld w 82 7)
noncomputable def FA (w : List (List xE)) : Nat := rwv w 83 16
def PS (w : List (List xE)) : Prop := fld w 82 10 = 0 ∨ FA w ≠ 0
/-- row 83 as it was, but for the fault and its place -/
def K83 (w w' : List (List xE)) : Prop := ∀ j, j < 5360 → j ≠ 16 → j ≠ 17 → rwv w' 83 j = rwv w 83 j
theorem K83.rf {w : List (List xE)} : K83 w w := fun _ _ _ _ => rfl
theorem K83.tr {w1 w2 w3 : List (List xE)} (h : K83 w1 w2) (k : K83 w2 w3) : K83 w1 w3 := fun j a b c => (k j a b c).trans (h j a b c)
theorem K83.fr {S : List Nat} {w w' : List (List xE)} (h : xFr S w w') (hk : 83 ∉ S) : K83 w w' := fun j _ _ _ => by
  unfold rwv
  rw [h.1 83 hk]
theorem K83.but {c : Nat} {w w' : List (List xE)} (h : xBut c w w') (hk : 83 ≠ c) : K83 w w' := fun j _ _ _ => by
  unfold rwv
  rw [h.1 83 hk]
theorem K83.st {w w' : List (List xE)} {g g' : Nat → Nat} (h : xRow w 83 5360 50 g) (h' : xRow w' 83 5360 50 g') (hg : ∀ j, j ≠ 16 → j ≠ 17 → g' j = g j) : K83 w w' := fun j a b c => (rwv_of h' a).trans ((hg j b c).trans (rwv_of h a).symm)
def PK (w w' : List (List xE)) : Prop := (FA w ≠ 0 → FA w' ≠ 0) ∧ mu w' ≤ mu w ∧ fld w' 82 14 = fld w 82 14 ∧ PS w' ∧ K83 w w'
theorem PK.tr {w1 w2 w3 : List (List xE)} (h : PK w1 w2) (k : PK w2 w3) : PK w1 w3 := ⟨fun z => k.1 (h.1 z), Nat.le_trans k.2.1 h.2.1, k.2.2.1.trans h.2.2.1, k.2.2.2.1, h.2.2.2.2.tr k.2.2.2.2⟩
theorem PK.rf {w : List (List xE)} (h : PS w) : PK w w := ⟨fun z => z, Nat.le_refl _, rfl, h, K83.rf⟩
theorem rwv_fr {S : List Nat} {w w' : List (List xE)} {k j : Nat} (h : xFr S w w') (hk : k ∉ S) : rwv w' k j = rwv w k j := by
  unfold rwv
  rw [h.1 k hk]
theorem mu_fr {S : List Nat} {w w' : List (List xE)} (h : xFr S w w') (hk : 82 ∉ S) : mu w' = mu w := by
  unfold mu
  rw [fld_fr h hk, fld_fr h hk, fld_fr h hk]
theorem FA_fr {S : List Nat} {w w' : List (List xE)} (h : xFr S w w') (hk : 83 ∉ S) : FA w' = FA w := rwv_fr h hk
theorem PK.fr {S : List Nat} {w w' : List (List xE)} (h : xFr S w w') (h1 : 82 ∉ S) (h2 : 83 ∉ S) (hp : PS w) : PK w w' := by
  refine ⟨fun z => ?_, ?_, fld_fr h h1, ?_, K83.fr h h2⟩
  · rw [FA_fr h h2]; exact z
  · rw [mu_fr h h1]; exact Nat.le_refl _
  · unfold PS
    rw [FA_fr h h2, fld_fr h h1]
    exact hp
section XMA
variable {d : Nat} {w : List (List xE)} {bd : List (Nat × Nat)} {fc : List (Nat × Nat × Bool)} {rr : Nat × Nat}
theorem mLetter {cc : Nat} (hI : xMnv w) (hcc : cc ≤ 4294967295) : xPi d mX12_isLetter [(0, cc)] w bd fc rr (fun n w' => ((n = 1 ∧ 97 ≤ cc ∧ cc ≤ 122) ∨ (n = 0 ∧ ¬ (97 ≤ cc ∧ cc ≤ 122))) ∧ xMnv w' ∧ xFr [] w w') := by
  refine xPi.of ?_
  show xTo d mX12_isLetter (0, [], [(0, (0, cc))], [], (w, bd, fc, 0, 0, rr)) (fun φ => ∃ n w', xEnd 4 [(0, n)] (w', bd, fc, 0, 0, rr) φ ∧ ((n = 1 ∧ 97 ≤ cc ∧ cc ≤ 122) ∨ (n = 0 ∧ ¬ (97 ≤ cc ∧ cc ≤ 122))) ∧ xMnv w' ∧ xFr [] w w')
  refine xg_t (xg_blk (b := [(0, 1, 2, 0, 0, 0), (1, 2, 4, 97, 0, 0), (3, 3, 6, 16, 2, 0), (6, 1, 2, 0, 0, 0), (7, 2, 4, 122, 0, 0), (9, 3, 6, 16, 4, 0), (12, 1, 3, 1, 0, 0), (13, 3, 8, 17, 0, 0)]) rfl) ?_
  refine xg_t (xg_iload (va := (0, cc)) rfl rfl) ?_
  refine xg_t (xg_bip) ?_
  by_cases hc1 : xbs cc < xbs 97
  · have hc1u := hc1
    unfold xbs at hc1u
    refine xg_t (xg_icT (u := cc) (v := 97) rfl xnm0 xnm0 (xjs_ltT hc1)) ?_
    refine xg_t (xg_blk (b := [(16, 1, 3, 0, 0, 0)]) rfl) ?_
    refine xg_t (xg_const) ?_
    refine xg_t (xg_blk (b := [(17, 1, 12, 0, 1, 0)]) rfl) ?_
    exact xg_e ⟨0, w, ⟨rfl, rfl⟩, by omega, hI, xFr.rf⟩
  · have hc1u := hc1
    unfold xbs at hc1u
    have hn2 : cc ≤ 2147483647 := by omega
    refine xg_t (xg_icF (u := cc) (v := 97) rfl xnm0 xnm0 (xjs_ltF hc1)) ?_
    refine xg_t (xg_iload (va := (0, cc)) rfl rfl) ?_
    refine xg_t (xg_bip) ?_
    by_cases hc3 : 122 < cc
    · refine xg_t (xg_icT (u := cc) (v := 122) rfl xnm0 xnm0 (xj_gtT hc3 (by omega))) ?_
      refine xg_t (xg_blk (b := [(16, 1, 3, 0, 0, 0)]) rfl) ?_
      refine xg_t (xg_const) ?_
      refine xg_t (xg_blk (b := [(17, 1, 12, 0, 1, 0)]) rfl) ?_
      exact xg_e ⟨0, w, ⟨rfl, rfl⟩, by omega, hI, xFr.rf⟩
    · refine xg_t (xg_icF (u := cc) (v := 122) rfl xnm0 xnm0 (xj_gtF (by omega) (by omega))) ?_
      refine xg_t (xg_const) ?_
      refine xg_t (xg_goto) ?_
      refine xg_t (xg_blk (b := [(17, 1, 12, 0, 1, 0)]) rfl) ?_
      exact xg_e ⟨1, w, ⟨rfl, rfl⟩, by omega, hI, xFr.rf⟩
theorem mDigit {cc : Nat} (hI : xMnv w) (hcc : cc ≤ 4294967295) : xPi d mX12_isDigit [(0, cc)] w bd fc rr (fun n w' => ((n = 1 ∧ 48 ≤ cc ∧ cc ≤ 57) ∨ (n = 0 ∧ ¬ (48 ≤ cc ∧ cc ≤ 57))) ∧ xMnv w' ∧ xFr [] w w') := by
  refine xPi.of ?_
  show xTo d mX12_isDigit (0, [], [(0, (0, cc))], [], (w, bd, fc, 0, 0, rr)) (fun φ => ∃ n w', xEnd 4 [(0, n)] (w', bd, fc, 0, 0, rr) φ ∧ ((n = 1 ∧ 48 ≤ cc ∧ cc ≤ 57) ∨ (n = 0 ∧ ¬ (48 ≤ cc ∧ cc ≤ 57))) ∧ xMnv w' ∧ xFr [] w w')
  refine xg_t (xg_blk (b := [(0, 1, 2, 0, 0, 0), (1, 2, 4, 48, 0, 0), (3, 3, 6, 16, 2, 0), (6, 1, 2, 0, 0, 0), (7, 2, 4, 57, 0, 0), (9, 3, 6, 16, 4, 0), (12, 1, 3, 1, 0, 0), (13, 3, 8, 17, 0, 0)]) rfl) ?_
  refine xg_t (xg_iload (va := (0, cc)) rfl rfl) ?_
  refine xg_t (xg_bip) ?_
  by_cases hc1 : xbs cc < xbs 48
  · have hc1u := hc1
    unfold xbs at hc1u
    refine xg_t (xg_icT (u := cc) (v := 48) rfl xnm0 xnm0 (xjs_ltT hc1)) ?_
    refine xg_t (xg_blk (b := [(16, 1, 3, 0, 0, 0)]) rfl) ?_
    refine xg_t (xg_const) ?_
    refine xg_t (xg_blk (b := [(17, 1, 12, 0, 1, 0)]) rfl) ?_
    exact xg_e ⟨0, w, ⟨rfl, rfl⟩, by omega, hI, xFr.rf⟩
  · have hc1u := hc1
    unfold xbs at hc1u
    have hn2 : cc ≤ 2147483647 := by omega
    refine xg_t (xg_icF (u := cc) (v := 48) rfl xnm0 xnm0 (xjs_ltF hc1)) ?_
    refine xg_t (xg_iload (va := (0, cc)) rfl rfl) ?_
    refine xg_t (xg_bip) ?_
    by_cases hc3 : 57 < cc
    · refine xg_t (xg_icT (u := cc) (v := 57) rfl xnm0 xnm0 (xj_gtT hc3 (by omega))) ?_
      refine xg_t (xg_blk (b := [(16, 1, 3, 0, 0, 0)]) rfl) ?_
      refine xg_t (xg_const) ?_
      refine xg_t (xg_blk (b := [(17, 1, 12, 0, 1, 0)]) rfl) ?_
      exact xg_e ⟨0, w, ⟨rfl, rfl⟩, by omega, hI, xFr.rf⟩
    · refine xg_t (xg_icF (u := cc) (v := 57) rfl xnm0 xnm0 (xj_gtF (by omega) (by omega))) ?_
      refine xg_t (xg_const) ?_
      refine xg_t (xg_goto) ?_
      refine xg_t (xg_blk (b := [(17, 1, 12, 0, 1, 0)]) rfl) ?_
      exact xg_e ⟨1, w, ⟨rfl, rfl⟩, by omega, hI, xFr.rf⟩
theorem mSignByte {cc : Nat} (hI : xMnv w) (hcc : cc ≤ 4294967295) : xPi d mX12_isSignByte [(2, 82), (0, cc)] w bd fc rr (fun n w' => (n ≤ 1) ∧ xMnv w' ∧ xFr [] w w') := by
  refine xPi.of ?_
  show xTo d mX12_isSignByte (0, [], [(0, (2, 82)), (1, (0, cc))], [], (w, bd, fc, 0, 0, rr)) (fun φ => ∃ n w', xEnd 4 [(0, n)] (w', bd, fc, 0, 0, rr) φ ∧ (n ≤ 1) ∧ xMnv w' ∧ xFr [] w w')
  obtain ⟨f82_1, f82_3, f82_5, f82_7, f82_9, f82_11, f82_13, f82_15, f82_17, f82_19, f82_21, f82_22, f82_23, f82_25, f82_27, f82_29, h82_31, hb2, hb4, hb6, hb8, hb10, hb12, hb14, hb16, hb18, hb20, hb24, hb26, hb28, hb30, hb32⟩ := (hI 82 (by decide) (by decide) : cp82 (wget w 82))
  refine xg_t (xg_blk (b := [(0, 1, 2, 1, 0, 0), (1, 2, 4, 59, 0, 0), (3, 3, 6, 37, 0, 0), (6, 1, 0, 0, 0, 0), (7, 3, 1, 12, 2, 137), (10, 3, 7, 41, 0, 0), (13, 1, 2, 1, 0, 0), (14, 2, 4, 58, 0, 0), (16, 3, 6, 37, 0, 0), (19, 1, 2, 1, 0, 0), (20, 2, 4, 60, 0, 0), (22, 3, 6, 37, 0, 0), (25, 1, 2, 1, 0, 0), (26, 2, 4, 62, 0, 0), (28, 3, 6, 37, 0, 0), (31, 1, 2, 1, 0, 0), (32, 2, 4, 61, 0, 0), (34, 3, 6, 41, 1, 0)]) rfl) ?_
  refine xg_t (xg_iload (va := (0, cc)) rfl rfl) ?_
  refine xg_t (xg_bip) ?_
  by_cases hc33 : cc = 59
  · refine xg_t (xg_icT (u := cc) (v := 59) rfl xnm0 xnm0 (xj_eqT hc33)) ?_
    refine xg_t (xg_blk (b := [(37, 1, 3, 1, 0, 0), (38, 3, 8, 42, 0, 0)]) rfl) ?_
    refine xg_t (xg_const) ?_
    refine xg_t (xg_goto) ?_
    refine xg_t (xg_blk (b := [(42, 1, 12, 0, 1, 0)]) rfl) ?_
    exact xg_e ⟨1, w, ⟨rfl, rfl⟩, by omega, hI, xFr.rf⟩
  · refine xg_t (xg_icF (u := cc) (v := 59) rfl xnm0 xnm0 (xj_eqF hc33)) ?_
    refine xg_t (xg_aload (va := (2, 82)) rfl rfl) ?_
    refine xg_t (xg_getf (va := (0, f82_1)) h82_31 rfl) ?_
    by_cases hc34 : f82_1 = 0
    · refine xg_t (xg_ifT (u := f82_1) rfl xnm0 (xj_eqT hc34)) ?_
      refine xg_t (xg_blk (b := [(41, 1, 3, 0, 0, 0)]) rfl) ?_
      refine xg_t (xg_const) ?_
      refine xg_t (xg_blk (b := [(42, 1, 12, 0, 1, 0)]) rfl) ?_
      exact xg_e ⟨0, w, ⟨rfl, rfl⟩, by omega, hI, xFr.rf⟩
    · refine xg_t (xg_ifF (u := f82_1) rfl xnm0 (xj_eqF hc34)) ?_
      refine xg_t (xg_iload (va := (0, cc)) rfl rfl) ?_
      refine xg_t (xg_bip) ?_
      by_cases hc35 : cc = 58
      · refine xg_t (xg_icT (u := cc) (v := 58) rfl xnm0 xnm0 (xj_eqT hc35)) ?_
        refine xg_t (xg_blk (b := [(37, 1, 3, 1, 0, 0), (38, 3, 8, 42, 0, 0)]) rfl) ?_
        refine xg_t (xg_const) ?_
        refine xg_t (xg_goto) ?_
        refine xg_t (xg_blk (b := [(42, 1, 12, 0, 1, 0)]) rfl) ?_
        exact xg_e ⟨1, w, ⟨rfl, rfl⟩, by omega, hI, xFr.rf⟩
      · refine xg_t (xg_icF (u := cc) (v := 58) rfl xnm0 xnm0 (xj_eqF hc35)) ?_
        refine xg_t (xg_iload (va := (0, cc)) rfl rfl) ?_
        refine xg_t (xg_bip) ?_
        by_cases hc36 : cc = 60
        · refine xg_t (xg_icT (u := cc) (v := 60) rfl xnm0 xnm0 (xj_eqT hc36)) ?_
          refine xg_t (xg_blk (b := [(37, 1, 3, 1, 0, 0), (38, 3, 8, 42, 0, 0)]) rfl) ?_
          refine xg_t (xg_const) ?_
          refine xg_t (xg_goto) ?_
          refine xg_t (xg_blk (b := [(42, 1, 12, 0, 1, 0)]) rfl) ?_
          exact xg_e ⟨1, w, ⟨rfl, rfl⟩, by omega, hI, xFr.rf⟩
        · refine xg_t (xg_icF (u := cc) (v := 60) rfl xnm0 xnm0 (xj_eqF hc36)) ?_
          refine xg_t (xg_iload (va := (0, cc)) rfl rfl) ?_
          refine xg_t (xg_bip) ?_
          by_cases hc37 : cc = 62
          · refine xg_t (xg_icT (u := cc) (v := 62) rfl xnm0 xnm0 (xj_eqT hc37)) ?_
            refine xg_t (xg_blk (b := [(37, 1, 3, 1, 0, 0), (38, 3, 8, 42, 0, 0)]) rfl) ?_
            refine xg_t (xg_const) ?_
            refine xg_t (xg_goto) ?_
            refine xg_t (xg_blk (b := [(42, 1, 12, 0, 1, 0)]) rfl) ?_
            exact xg_e ⟨1, w, ⟨rfl, rfl⟩, by omega, hI, xFr.rf⟩
          · refine xg_t (xg_icF (u := cc) (v := 62) rfl xnm0 xnm0 (xj_eqF hc37)) ?_
            refine xg_t (xg_iload (va := (0, cc)) rfl rfl) ?_
            refine xg_t (xg_bip) ?_
            by_cases hc38 : cc = 61
            · refine xg_t (xg_icF (u := cc) (v := 61) rfl xnm0 xnm0 (xj_neF hc38)) ?_
              refine xg_t (xg_blk (b := [(37, 1, 3, 1, 0, 0), (38, 3, 8, 42, 0, 0)]) rfl) ?_
              refine xg_t (xg_const) ?_
              refine xg_t (xg_goto) ?_
              refine xg_t (xg_blk (b := [(42, 1, 12, 0, 1, 0)]) rfl) ?_
              exact xg_e ⟨1, w, ⟨rfl, rfl⟩, by omega, hI, xFr.rf⟩
            · refine xg_t (xg_icT (u := cc) (v := 61) rfl xnm0 xnm0 (xj_neT hc38)) ?_
              refine xg_t (xg_blk (b := [(41, 1, 3, 0, 0, 0)]) rfl) ?_
              refine xg_t (xg_const) ?_
              refine xg_t (xg_blk (b := [(42, 1, 12, 0, 1, 0)]) rfl) ?_
              exact xg_e ⟨0, w, ⟨rfl, rfl⟩, by omega, hI, xFr.rf⟩
theorem mByteAt {g0 : Nat → Nat} {pp : Nat} (hI : xMnv w) (hpp : pp ≤ 500) (hR83 : xRow w 83 5360 50 g0) (hgb : ∀ j, g0 j ≤ 4294967295) (hok : okA g0) : xPi d mX12_byteAt [(2, 82), (0, pp)] w bd fc rr (fun n w' => ((pp < fld w 82 4 ∧ n = g0 (400 + pp)) ∨ (fld w 82 4 ≤ pp ∧ n = 4294967295)) ∧ xMnv w' ∧ xFr [] w w') := by
  refine xPi.of ?_
  show xTo d mX12_byteAt (0, [], [(0, (2, 82)), (1, (0, pp))], [], (w, bd, fc, 0, 0, rr)) (fun φ => ∃ n w', xEnd 1 [(0, n)] (w', bd, fc, 0, 0, rr) φ ∧ ((pp < fld w 82 4 ∧ n = g0 (400 + pp)) ∨ (fld w 82 4 ≤ pp ∧ n = 4294967295)) ∧ xMnv w' ∧ xFr [] w w')
  obtain ⟨f82_1, f82_3, f82_5, f82_7, f82_9, f82_11, f82_13, f82_15, f82_17, f82_19, f82_21, f82_22, f82_23, f82_25, f82_27, f82_29, h82_31, hb2, hb4, hb6, hb8, hb10, hb12, hb14, hb16, hb18, hb20, hb24, hb26, hb28, hb30, hb32⟩ := (hI 82 (by decide) (by decide) : cp82 (wget w 82))
  have hf33 : fld w 82 4 = f82_5 := fld_of h82_31
  refine xg_t (xg_blk (b := [(0, 1, 2, 1, 0, 0), (1, 1, 0, 0, 0, 0), (2, 3, 1, 12, 4, 109), (5, 3, 6, 21, 3, 0), (8, 1, 0, 0, 0, 0), (9, 3, 1, 12, 0, 7), (12, 3, 5, 400, 0, 0), (15, 1, 2, 1, 0, 0), (16, 1, 11, 0, 0, 0), (17, 1, 10, 0, 0, 0), (18, 3, 8, 22, 0, 0)]) rfl) ?_
  refine xg_t (xg_iload (va := (0, pp)) rfl rfl) ?_
  refine xg_t (xg_aload (va := (2, 82)) rfl rfl) ?_
  refine xg_t (xg_getf (va := (0, f82_5)) h82_31 rfl) ?_
  by_cases hc34 : pp < f82_5
  · refine xg_t (xg_icF (u := pp) (v := f82_5) rfl xnm0 xnm0 (xj_geF hc34 (by omega))) ?_
    refine xg_t (xg_aload (va := (2, 82)) rfl rfl) ?_
    refine xg_t (xg_getf (va := (2, 83)) h82_31 rfl) ?_
    refine xg_t (xg_sip) ?_
    refine xg_t (xg_iload (va := (0, pp)) rfl rfl) ?_
    refine xg_t (xg_iadd (u := 400) (v := pp) (z := 400 + pp) xnm0 xnm0 (by omega)) ?_
    refine xg_ialdB (n := 400 + pp) (B := 4294967295) hR83 (hgb) xnm0 (by omega) (fun u35 hu36 he37 => ?_)
    refine xg_t (xg_goto) ?_
    refine xg_t (xg_blk (b := [(22, 1, 12, 0, 1, 0)]) rfl) ?_
    exact xg_e ⟨u35, w, ⟨rfl, rfl⟩, by omega, hI, xFr.rf⟩
  · refine xg_t (xg_icT (u := pp) (v := f82_5) rfl xnm0 xnm0 (xj_geT (by omega) (by omega))) ?_
    refine xg_t (xg_blk (b := [(21, 1, 3, 4294967295, 0, 0)]) rfl) ?_
    refine xg_t (xg_const) ?_
    refine xg_t (xg_blk (b := [(22, 1, 12, 0, 1, 0)]) rfl) ?_
    exact xg_e ⟨4294967295, w, ⟨rfl, rfl⟩, by omega, hI, xFr.rf⟩
theorem mThree {ta tb tc : Nat} (hI : xMnv w) (hta : ta ≤ 4294967295) (htb : tb ≤ 4294967295) (htc : tc ≤ 4294967295) : xPj d mX12_three [(0, ta), (0, tb), (0, tc)] w bd fc rr (fun n w' => (n = n) ∧ xMnv w' ∧ xFr [] w w') := by
  refine xPj.of ?_
  show xTo d mX12_three (0, [], [(0, (0, ta)), (1, (0, tb)), (2, (0, tc))], [], (w, bd, fc, 0, 0, rr)) (fun φ => ∃ n w', xEnd 2 [(4, n)] (w', bd, fc, 0, 0, rr) φ ∧ (n = n) ∧ xMnv w' ∧ xFr [] w w')
  refine xg_t (xg_blk (b := [(0, 3, 52, 32, 0, 113), (3, 1, 2, 0, 0, 0), (4, 2, 4, 96, 0, 0), (6, 1, 18, 0, 0, 0), (7, 1, 49, 0, 0, 0), (8, 1, 55, 0, 0, 0), (9, 1, 2, 1, 0, 0), (10, 1, 49, 0, 0, 0), (11, 1, 56, 0, 0, 0), (12, 3, 52, 96, 0, 115), (15, 1, 66, 0, 0, 0), (16, 3, 52, 32, 0, 113), (19, 1, 55, 0, 0, 0), (20, 1, 2, 2, 0, 0), (21, 1, 49, 0, 0, 0), (22, 1, 56, 0, 0, 0), (23, 3, 52, 96, 0, 115), (26, 1, 66, 0, 0, 0), (27, 1, 12, 0, 2, 0)]) rfl) ?_
  refine xg_t (xg_ldc2) ?_
  refine xg_t (xg_iload (va := (0, ta)) rfl rfl) ?_
  refine xg_t (xg_bip) ?_
  refine xg_k (xg_isub (u := ta) (v := 96) (z := (ta + (4294967296 - 96)) % 4294967296) xnm0 xnm0 rfl) (Nat.mod_lt _ (by decide)) (fun z1 hz2 => ?_)
  refine xg_kl (xg_i2l (u := z1) xnm0) (fun l3 => ?_)
  refine xg_kl (xg_lmul (u := 32) (v := l3)) (fun l4 => ?_)
  refine xg_t (xg_iload (va := (0, tb)) rfl rfl) ?_
  refine xg_kl (xg_i2l (u := tb) xnm0) (fun l5 => ?_)
  refine xg_kl (xg_ladd (u := l4) (v := l5)) (fun l6 => ?_)
  refine xg_t (xg_ldc2) ?_
  refine xg_kl (xg_lsub (u := l6) (v := 96)) (fun l7 => ?_)
  refine xg_t (xg_ldc2) ?_
  refine xg_kl (xg_lmul (u := l7) (v := 32)) (fun l8 => ?_)
  refine xg_t (xg_iload (va := (0, tc)) rfl rfl) ?_
  refine xg_kl (xg_i2l (u := tc) xnm0) (fun l9 => ?_)
  refine xg_kl (xg_ladd (u := l8) (v := l9)) (fun l10 => ?_)
  refine xg_t (xg_ldc2) ?_
  refine xg_kl (xg_lsub (u := l10) (v := 96)) (fun l11 => ?_)
  exact xg_e ⟨l11, w, ⟨rfl, rfl⟩, by omega, hI, xFr.rf⟩
theorem mFour {ta tb tc td : Nat} (hI : xMnv w) (hta : ta ≤ 4294967295) (htb : tb ≤ 4294967295) (htc : tc ≤ 4294967295) (htd : td ≤ 4294967295) : xPj (d + 1) mX12_four [(0, ta), (0, tb), (0, tc), (0, td)] w bd fc rr (fun n w' => (n = n) ∧ xMnv w' ∧ xFr [] w w') := by
  refine xPj.of ?_
  show xTo (d + 1) mX12_four (0, [], [(0, (0, ta)), (1, (0, tb)), (2, (0, tc)), (3, (0, td))], [], (w, bd, fc, 0, 0, rr)) (fun φ => ∃ n w', xEnd 2 [(4, n)] (w', bd, fc, 0, 0, rr) φ ∧ (n = n) ∧ xMnv w' ∧ xFr [] w w')
  refine xg_t (xg_blk (b := [(0, 1, 2, 0, 0, 0), (1, 1, 2, 1, 0, 0), (2, 1, 2, 2, 0, 0), (3, 3, 13, 229, 98, 117), (6, 3, 52, 32, 0, 113), (9, 1, 55, 0, 0, 0), (10, 1, 2, 3, 0, 0), (11, 1, 49, 0, 0, 0), (12, 1, 56, 0, 0, 0), (13, 3, 52, 96, 0, 115), (16, 1, 66, 0, 0, 0), (17, 1, 12, 0, 2, 0)]) rfl) ?_
  refine xg_t (xg_iload (va := (0, ta)) rfl rfl) ?_
  refine xg_t (xg_iload (va := (0, tb)) rfl rfl) ?_
  refine xg_t (xg_iload (va := (0, tc)) rfl rfl) ?_
  refine xg_cSj mX12_three (vs := [(0, ta), (0, tb), (0, tc)]) (rest := []) (cn1 := 0) (sl1 := 0) rfl (mThree (hI) (by omega) (by omega) (by omega)) rfl rfl rfl rfl rfl rfl rfl (fun l5 w1 hq2 => ?_)
  obtain ⟨hn6, hI3, hF4⟩ := hq2
  refine xg_t (xg_ldc2) ?_
  refine xg_kl (xg_lmul (u := l5) (v := 32)) (fun l7 => ?_)
  refine xg_t (xg_iload (va := (0, td)) rfl rfl) ?_
  refine xg_kl (xg_i2l (u := td) xnm0) (fun l8 => ?_)
  refine xg_kl (xg_ladd (u := l7) (v := l8)) (fun l9 => ?_)
  refine xg_t (xg_ldc2) ?_
  refine xg_kl (xg_lsub (u := l9) (v := 96)) (fun l10 => ?_)
  exact xg_e ⟨l10, w1, ⟨rfl, rfl⟩, by omega, hI3, (hF4.up (by decide))⟩
theorem mFive {ta tb tc td te : Nat} (hI : xMnv w) (hta : ta ≤ 4294967295) (htb : tb ≤ 4294967295) (htc : tc ≤ 4294967295) (htd : td ≤ 4294967295) (hte : te ≤ 4294967295) : xPj (d + 2) mX12_five [(0, ta), (0, tb), (0, tc), (0, td), (0, te)] w bd fc rr (fun n w' => (n = n) ∧ xMnv w' ∧ xFr [] w w') := by
  refine xPj.of ?_
  show xTo (d + 2) mX12_five (0, [], [(0, (0, ta)), (1, (0, tb)), (2, (0, tc)), (3, (0, td)), (4, (0, te))], [], (w, bd, fc, 0, 0, rr)) (fun φ => ∃ n w', xEnd 2 [(4, n)] (w', bd, fc, 0, 0, rr) φ ∧ (n = n) ∧ xMnv w' ∧ xFr [] w w')
  refine xg_t (xg_blk (b := [(0, 1, 2, 0, 0, 0), (1, 1, 2, 1, 0, 0), (2, 1, 2, 2, 0, 0), (3, 1, 2, 3, 0, 0), (4, 3, 13, 148, 98, 121), (7, 3, 52, 32, 0, 113), (10, 1, 55, 0, 0, 0), (11, 2, 2, 4, 0, 0), (13, 1, 49, 0, 0, 0), (14, 1, 56, 0, 0, 0), (15, 3, 52, 96, 0, 115), (18, 1, 66, 0, 0, 0), (19, 1, 12, 0, 2, 0)]) rfl) ?_
  refine xg_t (xg_iload (va := (0, ta)) rfl rfl) ?_
  refine xg_t (xg_iload (va := (0, tb)) rfl rfl) ?_
  refine xg_t (xg_iload (va := (0, tc)) rfl rfl) ?_
  refine xg_t (xg_iload (va := (0, td)) rfl rfl) ?_
  refine xg_cSj mX12_four (vs := [(0, ta), (0, tb), (0, tc), (0, td)]) (rest := []) (cn1 := 0) (sl1 := 0) rfl (mFour (hI) (by omega) (by omega) (by omega) (by omega)) rfl rfl rfl rfl rfl rfl rfl (fun l5 w1 hq2 => ?_)
  obtain ⟨hn6, hI3, hF4⟩ := hq2
  refine xg_t (xg_ldc2) ?_
  refine xg_kl (xg_lmul (u := l5) (v := 32)) (fun l7 => ?_)
  refine xg_t (xg_iload (va := (0, te)) rfl rfl) ?_
  refine xg_kl (xg_i2l (u := te) xnm0) (fun l8 => ?_)
  refine xg_kl (xg_ladd (u := l7) (v := l8)) (fun l9 => ?_)
  refine xg_t (xg_ldc2) ?_
  refine xg_kl (xg_lsub (u := l9) (v := 96)) (fun l10 => ?_)
  exact xg_e ⟨l10, w1, ⟨rfl, rfl⟩, by omega, hI3, (hF4.up (by decide))⟩
theorem mSix {sa sb : Nat} (hI : xMnv w)  : xPj d mX12_six [(4, sa), (4, sb)] w bd fc rr (fun n w' => (n = n) ∧ xMnv w' ∧ xFr [] w w') := by
  refine xPj.of ?_
  show xTo d mX12_six (0, [], [(0, (4, sa)), (2, (4, sb))], [], (w, bd, fc, 0, 0, rr)) (fun φ => ∃ n w', xEnd 2 [(4, n)] (w', bd, fc, 0, 0, rr) φ ∧ (n = n) ∧ xMnv w' ∧ xFr [] w w')
  refine xg_t (xg_blk (b := [(0, 1, 53, 0, 0, 0), (1, 3, 52, 32768, 0, 129), (4, 1, 55, 0, 0, 0), (5, 1, 53, 2, 0, 0), (6, 1, 56, 0, 0, 0), (7, 1, 12, 0, 2, 0)]) rfl) ?_
  refine xg_t (xg_lload (u := sa) rfl) ?_
  refine xg_t (xg_ldc2) ?_
  refine xg_kl (xg_lmul (u := sa) (v := 32768)) (fun l1 => ?_)
  refine xg_t (xg_lload (u := sb) rfl) ?_
  refine xg_kl (xg_ladd (u := l1) (v := sb)) (fun l2 => ?_)
  exact xg_e ⟨l2, w, ⟨rfl, rfl⟩, by omega, hI, xFr.rf⟩
theorem mWordOf {vv : Nat} (hI : xMnv w)  : xPi (d + 3) mX12_wordOf [(4, vv)] w bd fc rr (fun n w' => (n ≤ 4294967295) ∧ xMnv w' ∧ xFr [] w w') := by
  refine xPi.of ?_
  show xTo (d + 3) mX12_wordOf (0, [], [(0, (4, vv))], [], (w, bd, fc, 0, 0, rr)) (fun φ => ∃ n w', xEnd 1 [(0, n)] (w', bd, fc, 0, 0, rr) φ ∧ (n ≤ 4294967295) ∧ xMnv w' ∧ xFr [] w w')
  refine xg_t (xg_blk (b := [(0, 1, 53, 0, 0, 0), (1, 2, 4, 108, 0, 0), (3, 2, 4, 97, 0, 0), (5, 2, 4, 121, 0, 0), (7, 2, 4, 101, 0, 0), (9, 2, 4, 114, 0, 0), (11, 3, 13, 146, 98, 125), (14, 1, 57, 0, 0, 0), (15, 3, 7, 20, 1, 0), (18, 1, 3, 0, 0, 0), (19, 1, 12, 0, 1, 0)]) rfl) ?_
  refine xg_t (xg_lload (u := vv) rfl) ?_
  refine xg_t (xg_bip) ?_
  refine xg_t (xg_bip) ?_
  refine xg_t (xg_bip) ?_
  refine xg_t (xg_bip) ?_
  refine xg_t (xg_bip) ?_
  refine xg_cSj mX12_five (vs := [(0, 108), (0, 97), (0, 121), (0, 101), (0, 114)]) (rest := [(4, vv)]) (cn1 := 0) (sl1 := 0) rfl (mFive (hI) (by omega) (by omega) (by omega) (by omega) (by omega)) rfl rfl rfl rfl rfl rfl rfl (fun l5 w1 hq2 => ?_)
  obtain ⟨hn6, hI3, hF4⟩ := hq2
  refine xg_k (xg_lcmp (u := vv) (v := l5)) (xpt_lt _) (fun z7 hz8 => ?_)
  by_cases hc9 : z7 = 0
  · refine xg_t (xg_ifF (u := z7) rfl xnm0 (xj_neF hc9)) ?_
    refine xg_t (xg_const) ?_
    exact xg_e ⟨0, w1, ⟨rfl, rfl⟩, by omega, hI3, (hF4.up (by decide))⟩
  · refine xg_t (xg_ifT (u := z7) rfl xnm0 (xj_neT hc9)) ?_
    refine xg_t (xg_blk (b := [(20, 1, 53, 0, 0, 0), (21, 2, 4, 108, 0, 0), (23, 2, 4, 105, 0, 0), (25, 2, 4, 102, 0, 0), (27, 2, 4, 101, 0, 0), (29, 3, 13, 148, 98, 121), (32, 1, 57, 0, 0, 0), (33, 3, 7, 38, 1, 0), (36, 1, 3, 1, 0, 0), (37, 1, 12, 0, 1, 0)]) rfl) ?_
    refine xg_t (xg_lload (u := vv) rfl) ?_
    refine xg_t (xg_bip) ?_
    refine xg_t (xg_bip) ?_
    refine xg_t (xg_bip) ?_
    refine xg_t (xg_bip) ?_
    refine xg_cSj mX12_four (vs := [(0, 108), (0, 105), (0, 102), (0, 101)]) (rest := [(4, vv)]) (cn1 := 0) (sl1 := 0) rfl (mFour (hI3) (by omega) (by omega) (by omega) (by omega)) rfl rfl rfl rfl rfl rfl rfl (fun l14 w10 hq11 => ?_)
    obtain ⟨hn15, hI12, hF13⟩ := hq11
    refine xg_k (xg_lcmp (u := vv) (v := l14)) (xpt_lt _) (fun z16 hz17 => ?_)
    by_cases hc18 : z16 = 0
    · refine xg_t (xg_ifF (u := z16) rfl xnm0 (xj_neF hc18)) ?_
      refine xg_t (xg_const) ?_
      exact xg_e ⟨1, w10, ⟨rfl, rfl⟩, by omega, hI12, ((hF4.up (by decide)).tr (hF13.up (by decide)))⟩
    · refine xg_t (xg_ifT (u := z16) rfl xnm0 (xj_neT hc18)) ?_
      refine xg_t (xg_blk (b := [(38, 1, 53, 0, 0, 0), (39, 2, 4, 102, 0, 0), (41, 2, 4, 111, 0, 0), (43, 2, 4, 108, 0, 0), (45, 2, 4, 100, 0, 0), (47, 2, 4, 115, 0, 0), (49, 3, 13, 146, 98, 125), (52, 1, 57, 0, 0, 0), (53, 3, 7, 58, 1, 0), (56, 1, 3, 2, 0, 0), (57, 1, 12, 0, 1, 0)]) rfl) ?_
      refine xg_t (xg_lload (u := vv) rfl) ?_
      refine xg_t (xg_bip) ?_
      refine xg_t (xg_bip) ?_
      refine xg_t (xg_bip) ?_
      refine xg_t (xg_bip) ?_
      refine xg_t (xg_bip) ?_
      refine xg_cSj mX12_five (vs := [(0, 102), (0, 111), (0, 108), (0, 100), (0, 115)]) (rest := [(4, vv)]) (cn1 := 0) (sl1 := 0) rfl (mFive (hI12) (by omega) (by omega) (by omega) (by omega) (by omega)) rfl rfl rfl rfl rfl rfl rfl (fun l23 w19 hq20 => ?_)
      obtain ⟨hn24, hI21, hF22⟩ := hq20
      refine xg_k (xg_lcmp (u := vv) (v := l23)) (xpt_lt _) (fun z25 hz26 => ?_)
      by_cases hc27 : z25 = 0
      · refine xg_t (xg_ifF (u := z25) rfl xnm0 (xj_neF hc27)) ?_
        refine xg_t (xg_const) ?_
        exact xg_e ⟨2, w19, ⟨rfl, rfl⟩, by omega, hI21, (((hF4.up (by decide)).tr (hF13.up (by decide))).tr (hF22.up (by decide)))⟩
      · refine xg_t (xg_ifT (u := z25) rfl xnm0 (xj_neT hc27)) ?_
        refine xg_t (xg_blk (b := [(58, 1, 53, 0, 0, 0), (59, 2, 4, 112, 0, 0), (61, 2, 4, 97, 0, 0), (63, 2, 4, 110, 0, 0), (65, 2, 4, 101, 0, 0), (67, 2, 4, 108, 0, 0), (69, 3, 13, 146, 98, 125), (72, 1, 57, 0, 0, 0), (73, 3, 7, 78, 1, 0), (76, 1, 3, 3, 0, 0), (77, 1, 12, 0, 1, 0)]) rfl) ?_
        refine xg_t (xg_lload (u := vv) rfl) ?_
        refine xg_t (xg_bip) ?_
        refine xg_t (xg_bip) ?_
        refine xg_t (xg_bip) ?_
        refine xg_t (xg_bip) ?_
        refine xg_t (xg_bip) ?_
        refine xg_cSj mX12_five (vs := [(0, 112), (0, 97), (0, 110), (0, 101), (0, 108)]) (rest := [(4, vv)]) (cn1 := 0) (sl1 := 0) rfl (mFive (hI21) (by omega) (by omega) (by omega) (by omega) (by omega)) rfl rfl rfl rfl rfl rfl rfl (fun l32 w28 hq29 => ?_)
        obtain ⟨hn33, hI30, hF31⟩ := hq29
        refine xg_k (xg_lcmp (u := vv) (v := l32)) (xpt_lt _) (fun z34 hz35 => ?_)
        by_cases hc36 : z34 = 0
        · refine xg_t (xg_ifF (u := z34) rfl xnm0 (xj_neF hc36)) ?_
          refine xg_t (xg_const) ?_
          exact xg_e ⟨3, w28, ⟨rfl, rfl⟩, by omega, hI30, ((((hF4.up (by decide)).tr (hF13.up (by decide))).tr (hF22.up (by decide))).tr (hF31.up (by decide)))⟩
        · refine xg_t (xg_ifT (u := z34) rfl xnm0 (xj_neT hc36)) ?_
          refine xg_t (xg_blk (b := [(78, 1, 53, 0, 0, 0), (79, 2, 4, 102, 0, 0), (81, 2, 4, 108, 0, 0), (83, 2, 4, 97, 0, 0), (85, 2, 4, 119, 0, 0), (87, 3, 13, 148, 98, 121), (90, 1, 57, 0, 0, 0), (91, 3, 7, 96, 1, 0), (94, 1, 3, 4, 0, 0), (95, 1, 12, 0, 1, 0)]) rfl) ?_
          refine xg_t (xg_lload (u := vv) rfl) ?_
          refine xg_t (xg_bip) ?_
          refine xg_t (xg_bip) ?_
          refine xg_t (xg_bip) ?_
          refine xg_t (xg_bip) ?_
          refine xg_cSj mX12_four (vs := [(0, 102), (0, 108), (0, 97), (0, 119)]) (rest := [(4, vv)]) (cn1 := 0) (sl1 := 0) rfl (mFour (hI30) (by omega) (by omega) (by omega) (by omega)) rfl rfl rfl rfl rfl rfl rfl (fun l41 w37 hq38 => ?_)
          obtain ⟨hn42, hI39, hF40⟩ := hq38
          refine xg_k (xg_lcmp (u := vv) (v := l41)) (xpt_lt _) (fun z43 hz44 => ?_)
          by_cases hc45 : z43 = 0
          · refine xg_t (xg_ifF (u := z43) rfl xnm0 (xj_neF hc45)) ?_
            refine xg_t (xg_const) ?_
            exact xg_e ⟨4, w37, ⟨rfl, rfl⟩, by omega, hI39, (((((hF4.up (by decide)).tr (hF13.up (by decide))).tr (hF22.up (by decide))).tr (hF31.up (by decide))).tr (hF40.up (by decide)))⟩
          · refine xg_t (xg_ifT (u := z43) rfl xnm0 (xj_neT hc45)) ?_
            refine xg_t (xg_blk (b := [(96, 1, 53, 0, 0, 0), (97, 2, 4, 115, 0, 0), (99, 2, 4, 104, 0, 0), (101, 2, 4, 101, 0, 0), (103, 2, 4, 101, 0, 0), (105, 2, 4, 116, 0, 0), (107, 3, 13, 146, 98, 125), (110, 1, 57, 0, 0, 0), (111, 3, 7, 116, 1, 0), (114, 1, 3, 5, 0, 0), (115, 1, 12, 0, 1, 0)]) rfl) ?_
            refine xg_t (xg_lload (u := vv) rfl) ?_
            refine xg_t (xg_bip) ?_
            refine xg_t (xg_bip) ?_
            refine xg_t (xg_bip) ?_
            refine xg_t (xg_bip) ?_
            refine xg_t (xg_bip) ?_
            refine xg_cSj mX12_five (vs := [(0, 115), (0, 104), (0, 101), (0, 101), (0, 116)]) (rest := [(4, vv)]) (cn1 := 0) (sl1 := 0) rfl (mFive (hI39) (by omega) (by omega) (by omega) (by omega) (by omega)) rfl rfl rfl rfl rfl rfl rfl (fun l50 w46 hq47 => ?_)
            obtain ⟨hn51, hI48, hF49⟩ := hq47
            refine xg_k (xg_lcmp (u := vv) (v := l50)) (xpt_lt _) (fun z52 hz53 => ?_)
            by_cases hc54 : z52 = 0
            · refine xg_t (xg_ifF (u := z52) rfl xnm0 (xj_neF hc54)) ?_
              refine xg_t (xg_const) ?_
              exact xg_e ⟨5, w46, ⟨rfl, rfl⟩, by omega, hI48, ((((((hF4.up (by decide)).tr (hF13.up (by decide))).tr (hF22.up (by decide))).tr (hF31.up (by decide))).tr (hF40.up (by decide))).tr (hF49.up (by decide)))⟩
            · refine xg_t (xg_ifT (u := z52) rfl xnm0 (xj_neT hc54)) ?_
              refine xg_t (xg_blk (b := [(116, 1, 53, 0, 0, 0), (117, 2, 4, 110, 0, 0), (119, 2, 4, 101, 0, 0), (121, 2, 4, 116, 0, 0), (123, 3, 13, 229, 98, 117), (126, 1, 57, 0, 0, 0), (127, 3, 7, 133, 1, 0), (130, 2, 4, 6, 0, 0), (132, 1, 12, 0, 1, 0)]) rfl) ?_
              refine xg_t (xg_lload (u := vv) rfl) ?_
              refine xg_t (xg_bip) ?_
              refine xg_t (xg_bip) ?_
              refine xg_t (xg_bip) ?_
              refine xg_cSj mX12_three (vs := [(0, 110), (0, 101), (0, 116)]) (rest := [(4, vv)]) (cn1 := 0) (sl1 := 0) rfl (mThree (hI48) (by omega) (by omega) (by omega)) rfl rfl rfl rfl rfl rfl rfl (fun l59 w55 hq56 => ?_)
              obtain ⟨hn60, hI57, hF58⟩ := hq56
              refine xg_k (xg_lcmp (u := vv) (v := l59)) (xpt_lt _) (fun z61 hz62 => ?_)
              by_cases hc63 : z61 = 0
              · refine xg_t (xg_ifF (u := z61) rfl xnm0 (xj_neF hc63)) ?_
                refine xg_t (xg_bip) ?_
                exact xg_e ⟨6, w55, ⟨rfl, rfl⟩, by omega, hI57, (((((((hF4.up (by decide)).tr (hF13.up (by decide))).tr (hF22.up (by decide))).tr (hF31.up (by decide))).tr (hF40.up (by decide))).tr (hF49.up (by decide))).tr (hF58.up (by decide)))⟩
              · refine xg_t (xg_ifT (u := z61) rfl xnm0 (xj_neT hc63)) ?_
                refine xg_t (xg_blk (b := [(133, 1, 53, 0, 0, 0), (134, 2, 4, 104, 0, 0), (136, 2, 4, 111, 0, 0), (138, 2, 4, 108, 0, 0), (140, 2, 4, 100, 0, 0), (142, 3, 13, 148, 98, 121), (145, 1, 57, 0, 0, 0), (146, 3, 7, 152, 1, 0), (149, 2, 4, 7, 0, 0), (151, 1, 12, 0, 1, 0)]) rfl) ?_
                refine xg_t (xg_lload (u := vv) rfl) ?_
                refine xg_t (xg_bip) ?_
                refine xg_t (xg_bip) ?_
                refine xg_t (xg_bip) ?_
                refine xg_t (xg_bip) ?_
                refine xg_cSj mX12_four (vs := [(0, 104), (0, 111), (0, 108), (0, 100)]) (rest := [(4, vv)]) (cn1 := 0) (sl1 := 0) rfl (mFour (hI57) (by omega) (by omega) (by omega) (by omega)) rfl rfl rfl rfl rfl rfl rfl (fun l68 w64 hq65 => ?_)
                obtain ⟨hn69, hI66, hF67⟩ := hq65
                refine xg_k (xg_lcmp (u := vv) (v := l68)) (xpt_lt _) (fun z70 hz71 => ?_)
                by_cases hc72 : z70 = 0
                · refine xg_t (xg_ifF (u := z70) rfl xnm0 (xj_neF hc72)) ?_
                  refine xg_t (xg_bip) ?_
                  exact xg_e ⟨7, w64, ⟨rfl, rfl⟩, by omega, hI66, ((((((((hF4.up (by decide)).tr (hF13.up (by decide))).tr (hF22.up (by decide))).tr (hF31.up (by decide))).tr (hF40.up (by decide))).tr (hF49.up (by decide))).tr (hF58.up (by decide))).tr (hF67.up (by decide)))⟩
                · refine xg_t (xg_ifT (u := z70) rfl xnm0 (xj_neT hc72)) ?_
                  refine xg_t (xg_blk (b := [(152, 1, 53, 0, 0, 0), (153, 2, 4, 115, 0, 0), (155, 2, 4, 108, 0, 0), (157, 2, 4, 105, 0, 0), (159, 2, 4, 100, 0, 0), (161, 2, 4, 101, 0, 0), (163, 3, 13, 146, 98, 125), (166, 1, 57, 0, 0, 0), (167, 3, 7, 173, 1, 0), (170, 2, 4, 8, 0, 0), (172, 1, 12, 0, 1, 0)]) rfl) ?_
                  refine xg_t (xg_lload (u := vv) rfl) ?_
                  refine xg_t (xg_bip) ?_
                  refine xg_t (xg_bip) ?_
                  refine xg_t (xg_bip) ?_
                  refine xg_t (xg_bip) ?_
                  refine xg_t (xg_bip) ?_
                  refine xg_cSj mX12_five (vs := [(0, 115), (0, 108), (0, 105), (0, 100), (0, 101)]) (rest := [(4, vv)]) (cn1 := 0) (sl1 := 0) rfl (mFive (hI66) (by omega) (by omega) (by omega) (by omega) (by omega)) rfl rfl rfl rfl rfl rfl rfl (fun l77 w73 hq74 => ?_)
                  obtain ⟨hn78, hI75, hF76⟩ := hq74
                  refine xg_k (xg_lcmp (u := vv) (v := l77)) (xpt_lt _) (fun z79 hz80 => ?_)
                  by_cases hc81 : z79 = 0
                  · refine xg_t (xg_ifF (u := z79) rfl xnm0 (xj_neF hc81)) ?_
                    refine xg_t (xg_bip) ?_
                    exact xg_e ⟨8, w73, ⟨rfl, rfl⟩, by omega, hI75, (((((((((hF4.up (by decide)).tr (hF13.up (by decide))).tr (hF22.up (by decide))).tr (hF31.up (by decide))).tr (hF40.up (by decide))).tr (hF49.up (by decide))).tr (hF58.up (by decide))).tr (hF67.up (by decide))).tr (hF76.up (by decide)))⟩
                  · refine xg_t (xg_ifT (u := z79) rfl xnm0 (xj_neT hc81)) ?_
                    refine xg_t (xg_blk (b := [(173, 2, 4, 99, 0, 0), (175, 1, 12, 0, 1, 0)]) rfl) ?_
                    refine xg_t (xg_bip) ?_
                    exact xg_e ⟨99, w73, ⟨rfl, rfl⟩, by omega, hI75, (((((((((hF4.up (by decide)).tr (hF13.up (by decide))).tr (hF22.up (by decide))).tr (hF31.up (by decide))).tr (hF40.up (by decide))).tr (hF49.up (by decide))).tr (hF58.up (by decide))).tr (hF67.up (by decide))).tr (hF76.up (by decide)))⟩
theorem mRuleWordOf {vv : Nat} (hI : xMnv w)  : xPi (d + 3) mX12_ruleWordOf [(4, vv)] w bd fc rr (fun n w' => (n ≤ 4294967295) ∧ xMnv w' ∧ xFr [] w w') := by
  refine xPi.of ?_
  show xTo (d + 3) mX12_ruleWordOf (0, [], [(0, (4, vv))], [], (w, bd, fc, 0, 0, rr)) (fun φ => ∃ n w', xEnd 1 [(0, n)] (w', bd, fc, 0, 0, rr) φ ∧ (n ≤ 4294967295) ∧ xMnv w' ∧ xFr [] w w')
  refine xg_t (xg_blk (b := [(0, 1, 53, 0, 0, 0), (1, 2, 4, 115, 0, 0), (3, 2, 4, 108, 0, 0), (5, 2, 4, 105, 0, 0), (7, 3, 13, 229, 98, 117), (10, 2, 4, 100, 0, 0), (12, 2, 4, 101, 0, 0), (14, 2, 4, 115, 0, 0), (16, 3, 13, 229, 98, 117), (19, 3, 13, 220, 98, 131), (22, 1, 57, 0, 0, 0), (23, 3, 7, 29, 1, 0), (26, 2, 4, 20, 0, 0), (28, 1, 12, 0, 1, 0)]) rfl) ?_
  refine xg_t (xg_lload (u := vv) rfl) ?_
  refine xg_t (xg_bip) ?_
  refine xg_t (xg_bip) ?_
  refine xg_t (xg_bip) ?_
  refine xg_cSj mX12_three (vs := [(0, 115), (0, 108), (0, 105)]) (rest := [(4, vv)]) (cn1 := 0) (sl1 := 0) rfl (mThree (hI) (by omega) (by omega) (by omega)) rfl rfl rfl rfl rfl rfl rfl (fun l5 w1 hq2 => ?_)
  obtain ⟨hn6, hI3, hF4⟩ := hq2
  refine xg_t (xg_bip) ?_
  refine xg_t (xg_bip) ?_
  refine xg_t (xg_bip) ?_
  refine xg_cSj mX12_three (vs := [(0, 100), (0, 101), (0, 115)]) (rest := [(4, l5), (4, vv)]) (cn1 := 0) (sl1 := 0) rfl (mThree (hI3) (by omega) (by omega) (by omega)) rfl rfl rfl rfl rfl rfl rfl (fun l11 w7 hq8 => ?_)
  obtain ⟨hn12, hI9, hF10⟩ := hq8
  refine xg_cSj mX12_six (vs := [(4, l5), (4, l11)]) (rest := [(4, vv)]) (cn1 := 0) (sl1 := 0) rfl (mSix (hI9)) rfl rfl rfl rfl rfl rfl rfl (fun l17 w13 hq14 => ?_)
  obtain ⟨hn18, hI15, hF16⟩ := hq14
  refine xg_k (xg_lcmp (u := vv) (v := l17)) (xpt_lt _) (fun z19 hz20 => ?_)
  by_cases hc21 : z19 = 0
  · refine xg_t (xg_ifF (u := z19) rfl xnm0 (xj_neF hc21)) ?_
    refine xg_t (xg_bip) ?_
    exact xg_e ⟨20, w13, ⟨rfl, rfl⟩, by omega, hI15, (((hF4.up (by decide)).tr (hF10.up (by decide))).tr (hF16.up (by decide)))⟩
  · refine xg_t (xg_ifT (u := z19) rfl xnm0 (xj_neT hc21)) ?_
    refine xg_t (xg_blk (b := [(29, 1, 53, 0, 0, 0), (30, 2, 4, 119, 0, 0), (32, 2, 4, 104, 0, 0), (34, 2, 4, 111, 0, 0), (36, 2, 4, 108, 0, 0), (38, 2, 4, 101, 0, 0), (40, 3, 13, 146, 98, 125), (43, 1, 57, 0, 0, 0), (44, 3, 7, 50, 1, 0), (47, 2, 4, 21, 0, 0), (49, 1, 12, 0, 1, 0)]) rfl) ?_
    refine xg_t (xg_lload (u := vv) rfl) ?_
    refine xg_t (xg_bip) ?_
    refine xg_t (xg_bip) ?_
    refine xg_t (xg_bip) ?_
    refine xg_t (xg_bip) ?_
    refine xg_t (xg_bip) ?_
    refine xg_cSj mX12_five (vs := [(0, 119), (0, 104), (0, 111), (0, 108), (0, 101)]) (rest := [(4, vv)]) (cn1 := 0) (sl1 := 0) rfl (mFive (hI15) (by omega) (by omega) (by omega) (by omega) (by omega)) rfl rfl rfl rfl rfl rfl rfl (fun l26 w22 hq23 => ?_)
    obtain ⟨hn27, hI24, hF25⟩ := hq23
    refine xg_k (xg_lcmp (u := vv) (v := l26)) (xpt_lt _) (fun z28 hz29 => ?_)
    by_cases hc30 : z28 = 0
    · refine xg_t (xg_ifF (u := z28) rfl xnm0 (xj_neF hc30)) ?_
      refine xg_t (xg_bip) ?_
      exact xg_e ⟨21, w22, ⟨rfl, rfl⟩, by omega, hI24, ((((hF4.up (by decide)).tr (hF10.up (by decide))).tr (hF16.up (by decide))).tr (hF25.up (by decide)))⟩
    · refine xg_t (xg_ifT (u := z28) rfl xnm0 (xj_neT hc30)) ?_
      refine xg_t (xg_blk (b := [(50, 1, 53, 0, 0, 0), (51, 2, 4, 108, 0, 0), (53, 2, 4, 97, 0, 0), (55, 2, 4, 121, 0, 0), (57, 3, 13, 229, 98, 117), (60, 2, 4, 101, 0, 0), (62, 2, 4, 114, 0, 0), (64, 2, 4, 115, 0, 0), (66, 3, 13, 229, 98, 117), (69, 3, 13, 220, 98, 131), (72, 1, 57, 0, 0, 0), (73, 3, 7, 79, 1, 0), (76, 2, 4, 22, 0, 0), (78, 1, 12, 0, 1, 0)]) rfl) ?_
      refine xg_t (xg_lload (u := vv) rfl) ?_
      refine xg_t (xg_bip) ?_
      refine xg_t (xg_bip) ?_
      refine xg_t (xg_bip) ?_
      refine xg_cSj mX12_three (vs := [(0, 108), (0, 97), (0, 121)]) (rest := [(4, vv)]) (cn1 := 0) (sl1 := 0) rfl (mThree (hI24) (by omega) (by omega) (by omega)) rfl rfl rfl rfl rfl rfl rfl (fun l35 w31 hq32 => ?_)
      obtain ⟨hn36, hI33, hF34⟩ := hq32
      refine xg_t (xg_bip) ?_
      refine xg_t (xg_bip) ?_
      refine xg_t (xg_bip) ?_
      refine xg_cSj mX12_three (vs := [(0, 101), (0, 114), (0, 115)]) (rest := [(4, l35), (4, vv)]) (cn1 := 0) (sl1 := 0) rfl (mThree (hI33) (by omega) (by omega) (by omega)) rfl rfl rfl rfl rfl rfl rfl (fun l41 w37 hq38 => ?_)
      obtain ⟨hn42, hI39, hF40⟩ := hq38
      refine xg_cSj mX12_six (vs := [(4, l35), (4, l41)]) (rest := [(4, vv)]) (cn1 := 0) (sl1 := 0) rfl (mSix (hI39)) rfl rfl rfl rfl rfl rfl rfl (fun l47 w43 hq44 => ?_)
      obtain ⟨hn48, hI45, hF46⟩ := hq44
      refine xg_k (xg_lcmp (u := vv) (v := l47)) (xpt_lt _) (fun z49 hz50 => ?_)
      by_cases hc51 : z49 = 0
      · refine xg_t (xg_ifF (u := z49) rfl xnm0 (xj_neF hc51)) ?_
        refine xg_t (xg_bip) ?_
        exact xg_e ⟨22, w43, ⟨rfl, rfl⟩, by omega, hI45, (((((((hF4.up (by decide)).tr (hF10.up (by decide))).tr (hF16.up (by decide))).tr (hF25.up (by decide))).tr (hF34.up (by decide))).tr (hF40.up (by decide))).tr (hF46.up (by decide)))⟩
      · refine xg_t (xg_ifT (u := z49) rfl xnm0 (xj_neT hc51)) ?_
        refine xg_t (xg_blk (b := [(79, 1, 53, 0, 0, 0), (80, 2, 4, 108, 0, 0), (82, 2, 4, 101, 0, 0), (84, 2, 4, 97, 0, 0), (86, 2, 4, 115, 0, 0), (88, 2, 4, 116, 0, 0), (90, 3, 13, 146, 98, 125), (93, 1, 57, 0, 0, 0), (94, 3, 7, 100, 1, 0), (97, 2, 4, 23, 0, 0), (99, 1, 12, 0, 1, 0)]) rfl) ?_
        refine xg_t (xg_lload (u := vv) rfl) ?_
        refine xg_t (xg_bip) ?_
        refine xg_t (xg_bip) ?_
        refine xg_t (xg_bip) ?_
        refine xg_t (xg_bip) ?_
        refine xg_t (xg_bip) ?_
        refine xg_cSj mX12_five (vs := [(0, 108), (0, 101), (0, 97), (0, 115), (0, 116)]) (rest := [(4, vv)]) (cn1 := 0) (sl1 := 0) rfl (mFive (hI45) (by omega) (by omega) (by omega) (by omega) (by omega)) rfl rfl rfl rfl rfl rfl rfl (fun l56 w52 hq53 => ?_)
        obtain ⟨hn57, hI54, hF55⟩ := hq53
        refine xg_k (xg_lcmp (u := vv) (v := l56)) (xpt_lt _) (fun z58 hz59 => ?_)
        by_cases hc60 : z58 = 0
        · refine xg_t (xg_ifF (u := z58) rfl xnm0 (xj_neF hc60)) ?_
          refine xg_t (xg_bip) ?_
          exact xg_e ⟨23, w52, ⟨rfl, rfl⟩, by omega, hI54, ((((((((hF4.up (by decide)).tr (hF10.up (by decide))).tr (hF16.up (by decide))).tr (hF25.up (by decide))).tr (hF34.up (by decide))).tr (hF40.up (by decide))).tr (hF46.up (by decide))).tr (hF55.up (by decide)))⟩
        · refine xg_t (xg_ifT (u := z58) rfl xnm0 (xj_neT hc60)) ?_
          refine xg_t (xg_blk (b := [(100, 1, 53, 0, 0, 0), (101, 2, 4, 114, 0, 0), (103, 2, 4, 111, 0, 0), (105, 2, 4, 119, 0, 0), (107, 2, 4, 115, 0, 0), (109, 3, 13, 148, 98, 121), (112, 1, 57, 0, 0, 0), (113, 3, 7, 119, 1, 0), (116, 2, 4, 24, 0, 0), (118, 1, 12, 0, 1, 0)]) rfl) ?_
          refine xg_t (xg_lload (u := vv) rfl) ?_
          refine xg_t (xg_bip) ?_
          refine xg_t (xg_bip) ?_
          refine xg_t (xg_bip) ?_
          refine xg_t (xg_bip) ?_
          refine xg_cSj mX12_four (vs := [(0, 114), (0, 111), (0, 119), (0, 115)]) (rest := [(4, vv)]) (cn1 := 0) (sl1 := 0) rfl (mFour (hI54) (by omega) (by omega) (by omega) (by omega)) rfl rfl rfl rfl rfl rfl rfl (fun l65 w61 hq62 => ?_)
          obtain ⟨hn66, hI63, hF64⟩ := hq62
          refine xg_k (xg_lcmp (u := vv) (v := l65)) (xpt_lt _) (fun z67 hz68 => ?_)
          by_cases hc69 : z67 = 0
          · refine xg_t (xg_ifF (u := z67) rfl xnm0 (xj_neF hc69)) ?_
            refine xg_t (xg_bip) ?_
            exact xg_e ⟨24, w61, ⟨rfl, rfl⟩, by omega, hI63, (((((((((hF4.up (by decide)).tr (hF10.up (by decide))).tr (hF16.up (by decide))).tr (hF25.up (by decide))).tr (hF34.up (by decide))).tr (hF40.up (by decide))).tr (hF46.up (by decide))).tr (hF55.up (by decide))).tr (hF64.up (by decide)))⟩
          · refine xg_t (xg_ifT (u := z67) rfl xnm0 (xj_neT hc69)) ?_
            refine xg_t (xg_blk (b := [(119, 1, 53, 0, 0, 0), (120, 2, 4, 102, 0, 0), (122, 2, 4, 101, 0, 0), (124, 2, 4, 100, 0, 0), (126, 3, 13, 229, 98, 117), (129, 1, 57, 0, 0, 0), (130, 3, 7, 136, 1, 0), (133, 2, 4, 25, 0, 0), (135, 1, 12, 0, 1, 0)]) rfl) ?_
            refine xg_t (xg_lload (u := vv) rfl) ?_
            refine xg_t (xg_bip) ?_
            refine xg_t (xg_bip) ?_
            refine xg_t (xg_bip) ?_
            refine xg_cSj mX12_three (vs := [(0, 102), (0, 101), (0, 100)]) (rest := [(4, vv)]) (cn1 := 0) (sl1 := 0) rfl (mThree (hI63) (by omega) (by omega) (by omega)) rfl rfl rfl rfl rfl rfl rfl (fun l74 w70 hq71 => ?_)
            obtain ⟨hn75, hI72, hF73⟩ := hq71
            refine xg_k (xg_lcmp (u := vv) (v := l74)) (xpt_lt _) (fun z76 hz77 => ?_)
            by_cases hc78 : z76 = 0
            · refine xg_t (xg_ifF (u := z76) rfl xnm0 (xj_neF hc78)) ?_
              refine xg_t (xg_bip) ?_
              exact xg_e ⟨25, w70, ⟨rfl, rfl⟩, by omega, hI72, ((((((((((hF4.up (by decide)).tr (hF10.up (by decide))).tr (hF16.up (by decide))).tr (hF25.up (by decide))).tr (hF34.up (by decide))).tr (hF40.up (by decide))).tr (hF46.up (by decide))).tr (hF55.up (by decide))).tr (hF64.up (by decide))).tr (hF73.up (by decide)))⟩
            · refine xg_t (xg_ifT (u := z76) rfl xnm0 (xj_neT hc78)) ?_
              refine xg_t (xg_blk (b := [(136, 1, 53, 0, 0, 0), (137, 2, 4, 100, 0, 0), (139, 2, 4, 97, 0, 0), (141, 2, 4, 114, 0, 0), (143, 2, 4, 107, 0, 0), (145, 2, 4, 115, 0, 0), (147, 3, 13, 146, 98, 125), (150, 1, 57, 0, 0, 0), (151, 3, 7, 157, 1, 0), (154, 2, 4, 26, 0, 0), (156, 1, 12, 0, 1, 0)]) rfl) ?_
              refine xg_t (xg_lload (u := vv) rfl) ?_
              refine xg_t (xg_bip) ?_
              refine xg_t (xg_bip) ?_
              refine xg_t (xg_bip) ?_
              refine xg_t (xg_bip) ?_
              refine xg_t (xg_bip) ?_
              refine xg_cSj mX12_five (vs := [(0, 100), (0, 97), (0, 114), (0, 107), (0, 115)]) (rest := [(4, vv)]) (cn1 := 0) (sl1 := 0) rfl (mFive (hI72) (by omega) (by omega) (by omega) (by omega) (by omega)) rfl rfl rfl rfl rfl rfl rfl (fun l83 w79 hq80 => ?_)
              obtain ⟨hn84, hI81, hF82⟩ := hq80
              refine xg_k (xg_lcmp (u := vv) (v := l83)) (xpt_lt _) (fun z85 hz86 => ?_)
              by_cases hc87 : z85 = 0
              · refine xg_t (xg_ifF (u := z85) rfl xnm0 (xj_neF hc87)) ?_
                refine xg_t (xg_bip) ?_
                exact xg_e ⟨26, w79, ⟨rfl, rfl⟩, by omega, hI81, (((((((((((hF4.up (by decide)).tr (hF10.up (by decide))).tr (hF16.up (by decide))).tr (hF25.up (by decide))).tr (hF34.up (by decide))).tr (hF40.up (by decide))).tr (hF46.up (by decide))).tr (hF55.up (by decide))).tr (hF64.up (by decide))).tr (hF73.up (by decide))).tr (hF82.up (by decide)))⟩
              · refine xg_t (xg_ifT (u := z85) rfl xnm0 (xj_neT hc87)) ?_
                refine xg_t (xg_blk (b := [(157, 1, 53, 0, 0, 0), (158, 2, 4, 119, 0, 0), (160, 2, 4, 111, 0, 0), (162, 2, 4, 114, 0, 0), (164, 2, 4, 116, 0, 0), (166, 2, 4, 104, 0, 0), (168, 3, 13, 146, 98, 125), (171, 1, 57, 0, 0, 0), (172, 3, 7, 178, 1, 0), (175, 2, 4, 27, 0, 0), (177, 1, 12, 0, 1, 0)]) rfl) ?_
                refine xg_t (xg_lload (u := vv) rfl) ?_
                refine xg_t (xg_bip) ?_
                refine xg_t (xg_bip) ?_
                refine xg_t (xg_bip) ?_
                refine xg_t (xg_bip) ?_
                refine xg_t (xg_bip) ?_
                refine xg_cSj mX12_five (vs := [(0, 119), (0, 111), (0, 114), (0, 116), (0, 104)]) (rest := [(4, vv)]) (cn1 := 0) (sl1 := 0) rfl (mFive (hI81) (by omega) (by omega) (by omega) (by omega) (by omega)) rfl rfl rfl rfl rfl rfl rfl (fun l92 w88 hq89 => ?_)
                obtain ⟨hn93, hI90, hF91⟩ := hq89
                refine xg_k (xg_lcmp (u := vv) (v := l92)) (xpt_lt _) (fun z94 hz95 => ?_)
                by_cases hc96 : z94 = 0
                · refine xg_t (xg_ifF (u := z94) rfl xnm0 (xj_neF hc96)) ?_
                  refine xg_t (xg_bip) ?_
                  exact xg_e ⟨27, w88, ⟨rfl, rfl⟩, by omega, hI90, ((((((((((((hF4.up (by decide)).tr (hF10.up (by decide))).tr (hF16.up (by decide))).tr (hF25.up (by decide))).tr (hF34.up (by decide))).tr (hF40.up (by decide))).tr (hF46.up (by decide))).tr (hF55.up (by decide))).tr (hF64.up (by decide))).tr (hF73.up (by decide))).tr (hF82.up (by decide))).tr (hF91.up (by decide)))⟩
                · refine xg_t (xg_ifT (u := z94) rfl xnm0 (xj_neT hc96)) ?_
                  refine xg_t (xg_blk (b := [(178, 1, 53, 0, 0, 0), (179, 2, 4, 99, 0, 0), (181, 2, 4, 114, 0, 0), (183, 2, 4, 97, 0, 0), (185, 3, 13, 229, 98, 117), (188, 2, 4, 99, 0, 0), (190, 2, 4, 107, 0, 0), (192, 2, 4, 115, 0, 0), (194, 3, 13, 229, 98, 117), (197, 3, 13, 220, 98, 131), (200, 1, 57, 0, 0, 0), (201, 3, 7, 207, 1, 0), (204, 2, 4, 28, 0, 0), (206, 1, 12, 0, 1, 0)]) rfl) ?_
                  refine xg_t (xg_lload (u := vv) rfl) ?_
                  refine xg_t (xg_bip) ?_
                  refine xg_t (xg_bip) ?_
                  refine xg_t (xg_bip) ?_
                  refine xg_cSj mX12_three (vs := [(0, 99), (0, 114), (0, 97)]) (rest := [(4, vv)]) (cn1 := 0) (sl1 := 0) rfl (mThree (hI90) (by omega) (by omega) (by omega)) rfl rfl rfl rfl rfl rfl rfl (fun l101 w97 hq98 => ?_)
                  obtain ⟨hn102, hI99, hF100⟩ := hq98
                  refine xg_t (xg_bip) ?_
                  refine xg_t (xg_bip) ?_
                  refine xg_t (xg_bip) ?_
                  refine xg_cSj mX12_three (vs := [(0, 99), (0, 107), (0, 115)]) (rest := [(4, l101), (4, vv)]) (cn1 := 0) (sl1 := 0) rfl (mThree (hI99) (by omega) (by omega) (by omega)) rfl rfl rfl rfl rfl rfl rfl (fun l107 w103 hq104 => ?_)
                  obtain ⟨hn108, hI105, hF106⟩ := hq104
                  refine xg_cSj mX12_six (vs := [(4, l101), (4, l107)]) (rest := [(4, vv)]) (cn1 := 0) (sl1 := 0) rfl (mSix (hI105)) rfl rfl rfl rfl rfl rfl rfl (fun l113 w109 hq110 => ?_)
                  obtain ⟨hn114, hI111, hF112⟩ := hq110
                  refine xg_k (xg_lcmp (u := vv) (v := l113)) (xpt_lt _) (fun z115 hz116 => ?_)
                  by_cases hc117 : z115 = 0
                  · refine xg_t (xg_ifF (u := z115) rfl xnm0 (xj_neF hc117)) ?_
                    refine xg_t (xg_bip) ?_
                    exact xg_e ⟨28, w109, ⟨rfl, rfl⟩, by omega, hI111, (((((((((((((((hF4.up (by decide)).tr (hF10.up (by decide))).tr (hF16.up (by decide))).tr (hF25.up (by decide))).tr (hF34.up (by decide))).tr (hF40.up (by decide))).tr (hF46.up (by decide))).tr (hF55.up (by decide))).tr (hF64.up (by decide))).tr (hF73.up (by decide))).tr (hF82.up (by decide))).tr (hF91.up (by decide))).tr (hF100.up (by decide))).tr (hF106.up (by decide))).tr (hF112.up (by decide)))⟩
                  · refine xg_t (xg_ifT (u := z115) rfl xnm0 (xj_neT hc117)) ?_
                    refine xg_t (xg_blk (b := [(207, 1, 53, 0, 0, 0), (208, 2, 4, 107, 0, 0), (210, 2, 4, 101, 0, 0), (212, 2, 4, 112, 0, 0), (214, 2, 4, 116, 0, 0), (216, 3, 13, 148, 98, 121), (219, 1, 57, 0, 0, 0), (220, 3, 7, 226, 1, 0), (223, 2, 4, 29, 0, 0), (225, 1, 12, 0, 1, 0)]) rfl) ?_
                    refine xg_t (xg_lload (u := vv) rfl) ?_
                    refine xg_t (xg_bip) ?_
                    refine xg_t (xg_bip) ?_
                    refine xg_t (xg_bip) ?_
                    refine xg_t (xg_bip) ?_
                    refine xg_cSj mX12_four (vs := [(0, 107), (0, 101), (0, 112), (0, 116)]) (rest := [(4, vv)]) (cn1 := 0) (sl1 := 0) rfl (mFour (hI111) (by omega) (by omega) (by omega) (by omega)) rfl rfl rfl rfl rfl rfl rfl (fun l122 w118 hq119 => ?_)
                    obtain ⟨hn123, hI120, hF121⟩ := hq119
                    refine xg_k (xg_lcmp (u := vv) (v := l122)) (xpt_lt _) (fun z124 hz125 => ?_)
                    by_cases hc126 : z124 = 0
                    · refine xg_t (xg_ifF (u := z124) rfl xnm0 (xj_neF hc126)) ?_
                      refine xg_t (xg_bip) ?_
                      exact xg_e ⟨29, w118, ⟨rfl, rfl⟩, by omega, hI120, ((((((((((((((((hF4.up (by decide)).tr (hF10.up (by decide))).tr (hF16.up (by decide))).tr (hF25.up (by decide))).tr (hF34.up (by decide))).tr (hF40.up (by decide))).tr (hF46.up (by decide))).tr (hF55.up (by decide))).tr (hF64.up (by decide))).tr (hF73.up (by decide))).tr (hF82.up (by decide))).tr (hF91.up (by decide))).tr (hF100.up (by decide))).tr (hF106.up (by decide))).tr (hF112.up (by decide))).tr (hF121.up (by decide)))⟩
                    · refine xg_t (xg_ifT (u := z124) rfl xnm0 (xj_neT hc126)) ?_
                      refine xg_t (xg_blk (b := [(226, 1, 53, 0, 0, 0), (227, 2, 4, 100, 0, 0), (229, 2, 4, 97, 0, 0), (231, 2, 4, 121, 0, 0), (233, 3, 13, 229, 98, 117), (236, 1, 57, 0, 0, 0), (237, 3, 7, 243, 1, 0), (240, 2, 4, 30, 0, 0), (242, 1, 12, 0, 1, 0)]) rfl) ?_
                      refine xg_t (xg_lload (u := vv) rfl) ?_
                      refine xg_t (xg_bip) ?_
                      refine xg_t (xg_bip) ?_
                      refine xg_t (xg_bip) ?_
                      refine xg_cSj mX12_three (vs := [(0, 100), (0, 97), (0, 121)]) (rest := [(4, vv)]) (cn1 := 0) (sl1 := 0) rfl (mThree (hI120) (by omega) (by omega) (by omega)) rfl rfl rfl rfl rfl rfl rfl (fun l131 w127 hq128 => ?_)
                      obtain ⟨hn132, hI129, hF130⟩ := hq128
                      refine xg_k (xg_lcmp (u := vv) (v := l131)) (xpt_lt _) (fun z133 hz134 => ?_)
                      by_cases hc135 : z133 = 0
                      · refine xg_t (xg_ifF (u := z133) rfl xnm0 (xj_neF hc135)) ?_
                        refine xg_t (xg_bip) ?_
                        exact xg_e ⟨30, w127, ⟨rfl, rfl⟩, by omega, hI129, (((((((((((((((((hF4.up (by decide)).tr (hF10.up (by decide))).tr (hF16.up (by decide))).tr (hF25.up (by decide))).tr (hF34.up (by decide))).tr (hF40.up (by decide))).tr (hF46.up (by decide))).tr (hF55.up (by decide))).tr (hF64.up (by decide))).tr (hF73.up (by decide))).tr (hF82.up (by decide))).tr (hF91.up (by decide))).tr (hF100.up (by decide))).tr (hF106.up (by decide))).tr (hF112.up (by decide))).tr (hF121.up (by decide))).tr (hF130.up (by decide)))⟩
                      · refine xg_t (xg_ifT (u := z133) rfl xnm0 (xj_neT hc135)) ?_
                        refine xg_t (xg_blk (b := [(243, 1, 53, 0, 0, 0), (244, 2, 4, 98, 0, 0), (246, 2, 4, 97, 0, 0), (248, 2, 4, 114, 0, 0), (250, 3, 13, 229, 98, 117), (253, 1, 57, 0, 0, 0), (254, 3, 7, 260, 1, 0), (257, 2, 4, 40, 0, 0), (259, 1, 12, 0, 1, 0)]) rfl) ?_
                        refine xg_t (xg_lload (u := vv) rfl) ?_
                        refine xg_t (xg_bip) ?_
                        refine xg_t (xg_bip) ?_
                        refine xg_t (xg_bip) ?_
                        refine xg_cSj mX12_three (vs := [(0, 98), (0, 97), (0, 114)]) (rest := [(4, vv)]) (cn1 := 0) (sl1 := 0) rfl (mThree (hI129) (by omega) (by omega) (by omega)) rfl rfl rfl rfl rfl rfl rfl (fun l140 w136 hq137 => ?_)
                        obtain ⟨hn141, hI138, hF139⟩ := hq137
                        refine xg_k (xg_lcmp (u := vv) (v := l140)) (xpt_lt _) (fun z142 hz143 => ?_)
                        by_cases hc144 : z142 = 0
                        · refine xg_t (xg_ifF (u := z142) rfl xnm0 (xj_neF hc144)) ?_
                          refine xg_t (xg_bip) ?_
                          exact xg_e ⟨40, w136, ⟨rfl, rfl⟩, by omega, hI138, ((((((((((((((((((hF4.up (by decide)).tr (hF10.up (by decide))).tr (hF16.up (by decide))).tr (hF25.up (by decide))).tr (hF34.up (by decide))).tr (hF40.up (by decide))).tr (hF46.up (by decide))).tr (hF55.up (by decide))).tr (hF64.up (by decide))).tr (hF73.up (by decide))).tr (hF82.up (by decide))).tr (hF91.up (by decide))).tr (hF100.up (by decide))).tr (hF106.up (by decide))).tr (hF112.up (by decide))).tr (hF121.up (by decide))).tr (hF130.up (by decide))).tr (hF139.up (by decide)))⟩
                        · refine xg_t (xg_ifT (u := z142) rfl xnm0 (xj_neT hc144)) ?_
                          refine xg_t (xg_blk (b := [(260, 1, 53, 0, 0, 0), (261, 2, 4, 112, 0, 0), (263, 2, 4, 114, 0, 0), (265, 2, 4, 105, 0, 0), (267, 2, 4, 99, 0, 0), (269, 2, 4, 101, 0, 0), (271, 3, 13, 146, 98, 125), (274, 1, 57, 0, 0, 0), (275, 3, 7, 281, 1, 0), (278, 2, 4, 41, 0, 0), (280, 1, 12, 0, 1, 0)]) rfl) ?_
                          refine xg_t (xg_lload (u := vv) rfl) ?_
                          refine xg_t (xg_bip) ?_
                          refine xg_t (xg_bip) ?_
                          refine xg_t (xg_bip) ?_
                          refine xg_t (xg_bip) ?_
                          refine xg_t (xg_bip) ?_
                          refine xg_cSj mX12_five (vs := [(0, 112), (0, 114), (0, 105), (0, 99), (0, 101)]) (rest := [(4, vv)]) (cn1 := 0) (sl1 := 0) rfl (mFive (hI138) (by omega) (by omega) (by omega) (by omega) (by omega)) rfl rfl rfl rfl rfl rfl rfl (fun l149 w145 hq146 => ?_)
                          obtain ⟨hn150, hI147, hF148⟩ := hq146
                          refine xg_k (xg_lcmp (u := vv) (v := l149)) (xpt_lt _) (fun z151 hz152 => ?_)
                          by_cases hc153 : z151 = 0
                          · refine xg_t (xg_ifF (u := z151) rfl xnm0 (xj_neF hc153)) ?_
                            refine xg_t (xg_bip) ?_
                            exact xg_e ⟨41, w145, ⟨rfl, rfl⟩, by omega, hI147, (((((((((((((((((((hF4.up (by decide)).tr (hF10.up (by decide))).tr (hF16.up (by decide))).tr (hF25.up (by decide))).tr (hF34.up (by decide))).tr (hF40.up (by decide))).tr (hF46.up (by decide))).tr (hF55.up (by decide))).tr (hF64.up (by decide))).tr (hF73.up (by decide))).tr (hF82.up (by decide))).tr (hF91.up (by decide))).tr (hF100.up (by decide))).tr (hF106.up (by decide))).tr (hF112.up (by decide))).tr (hF121.up (by decide))).tr (hF130.up (by decide))).tr (hF139.up (by decide))).tr (hF148.up (by decide)))⟩
                          · refine xg_t (xg_ifT (u := z151) rfl xnm0 (xj_neT hc153)) ?_
                            refine xg_t (xg_blk (b := [(281, 1, 53, 0, 0, 0), (282, 2, 4, 108, 0, 0), (284, 2, 4, 101, 0, 0), (286, 2, 4, 115, 0, 0), (288, 2, 4, 115, 0, 0), (290, 3, 13, 148, 98, 121), (293, 1, 57, 0, 0, 0), (294, 3, 7, 300, 1, 0), (297, 2, 4, 42, 0, 0), (299, 1, 12, 0, 1, 0)]) rfl) ?_
                            refine xg_t (xg_lload (u := vv) rfl) ?_
                            refine xg_t (xg_bip) ?_
                            refine xg_t (xg_bip) ?_
                            refine xg_t (xg_bip) ?_
                            refine xg_t (xg_bip) ?_
                            refine xg_cSj mX12_four (vs := [(0, 108), (0, 101), (0, 115), (0, 115)]) (rest := [(4, vv)]) (cn1 := 0) (sl1 := 0) rfl (mFour (hI147) (by omega) (by omega) (by omega) (by omega)) rfl rfl rfl rfl rfl rfl rfl (fun l158 w154 hq155 => ?_)
                            obtain ⟨hn159, hI156, hF157⟩ := hq155
                            refine xg_k (xg_lcmp (u := vv) (v := l158)) (xpt_lt _) (fun z160 hz161 => ?_)
                            by_cases hc162 : z160 = 0
                            · refine xg_t (xg_ifF (u := z160) rfl xnm0 (xj_neF hc162)) ?_
                              refine xg_t (xg_bip) ?_
                              exact xg_e ⟨42, w154, ⟨rfl, rfl⟩, by omega, hI156, ((((((((((((((((((((hF4.up (by decide)).tr (hF10.up (by decide))).tr (hF16.up (by decide))).tr (hF25.up (by decide))).tr (hF34.up (by decide))).tr (hF40.up (by decide))).tr (hF46.up (by decide))).tr (hF55.up (by decide))).tr (hF64.up (by decide))).tr (hF73.up (by decide))).tr (hF82.up (by decide))).tr (hF91.up (by decide))).tr (hF100.up (by decide))).tr (hF106.up (by decide))).tr (hF112.up (by decide))).tr (hF121.up (by decide))).tr (hF130.up (by decide))).tr (hF139.up (by decide))).tr (hF148.up (by decide))).tr (hF157.up (by decide)))⟩
                            · refine xg_t (xg_ifT (u := z160) rfl xnm0 (xj_neT hc162)) ?_
                              refine xg_t (xg_blk (b := [(300, 1, 53, 0, 0, 0), (301, 3, 52, 294, 0, 135), (304, 1, 57, 0, 0, 0), (305, 3, 7, 311, 1, 0), (308, 2, 4, 50, 0, 0), (310, 1, 12, 0, 1, 0)]) rfl) ?_
                              refine xg_t (xg_lload (u := vv) rfl) ?_
                              refine xg_t (xg_ldc2) ?_
                              refine xg_k (xg_lcmp (u := vv) (v := 294)) (xpt_lt _) (fun z163 hz164 => ?_)
                              by_cases hc165 : z163 = 0
                              · refine xg_t (xg_ifF (u := z163) rfl xnm0 (xj_neF hc165)) ?_
                                refine xg_t (xg_bip) ?_
                                exact xg_e ⟨50, w154, ⟨rfl, rfl⟩, by omega, hI156, ((((((((((((((((((((hF4.up (by decide)).tr (hF10.up (by decide))).tr (hF16.up (by decide))).tr (hF25.up (by decide))).tr (hF34.up (by decide))).tr (hF40.up (by decide))).tr (hF46.up (by decide))).tr (hF55.up (by decide))).tr (hF64.up (by decide))).tr (hF73.up (by decide))).tr (hF82.up (by decide))).tr (hF91.up (by decide))).tr (hF100.up (by decide))).tr (hF106.up (by decide))).tr (hF112.up (by decide))).tr (hF121.up (by decide))).tr (hF130.up (by decide))).tr (hF139.up (by decide))).tr (hF148.up (by decide))).tr (hF157.up (by decide)))⟩
                              · refine xg_t (xg_ifT (u := z163) rfl xnm0 (xj_neT hc165)) ?_
                                refine xg_t (xg_blk (b := [(311, 1, 53, 0, 0, 0), (312, 2, 4, 97, 0, 0), (314, 2, 4, 110, 0, 0), (316, 2, 4, 100, 0, 0), (318, 3, 13, 229, 98, 117), (321, 1, 57, 0, 0, 0), (322, 3, 7, 328, 1, 0), (325, 2, 4, 51, 0, 0), (327, 1, 12, 0, 1, 0)]) rfl) ?_
                                refine xg_t (xg_lload (u := vv) rfl) ?_
                                refine xg_t (xg_bip) ?_
                                refine xg_t (xg_bip) ?_
                                refine xg_t (xg_bip) ?_
                                refine xg_cSj mX12_three (vs := [(0, 97), (0, 110), (0, 100)]) (rest := [(4, vv)]) (cn1 := 0) (sl1 := 0) rfl (mThree (hI156) (by omega) (by omega) (by omega)) rfl rfl rfl rfl rfl rfl rfl (fun l170 w166 hq167 => ?_)
                                obtain ⟨hn171, hI168, hF169⟩ := hq167
                                refine xg_k (xg_lcmp (u := vv) (v := l170)) (xpt_lt _) (fun z172 hz173 => ?_)
                                by_cases hc174 : z172 = 0
                                · refine xg_t (xg_ifF (u := z172) rfl xnm0 (xj_neF hc174)) ?_
                                  refine xg_t (xg_bip) ?_
                                  exact xg_e ⟨51, w166, ⟨rfl, rfl⟩, by omega, hI168, (((((((((((((((((((((hF4.up (by decide)).tr (hF10.up (by decide))).tr (hF16.up (by decide))).tr (hF25.up (by decide))).tr (hF34.up (by decide))).tr (hF40.up (by decide))).tr (hF46.up (by decide))).tr (hF55.up (by decide))).tr (hF64.up (by decide))).tr (hF73.up (by decide))).tr (hF82.up (by decide))).tr (hF91.up (by decide))).tr (hF100.up (by decide))).tr (hF106.up (by decide))).tr (hF112.up (by decide))).tr (hF121.up (by decide))).tr (hF130.up (by decide))).tr (hF139.up (by decide))).tr (hF148.up (by decide))).tr (hF157.up (by decide))).tr (hF169.up (by decide)))⟩
                                · refine xg_t (xg_ifT (u := z172) rfl xnm0 (xj_neT hc174)) ?_
                                  refine xg_t (xg_blk (b := [(328, 1, 53, 0, 0, 0), (329, 2, 4, 110, 0, 0), (331, 2, 4, 111, 0, 0), (333, 2, 4, 116, 0, 0), (335, 3, 13, 229, 98, 117), (338, 1, 57, 0, 0, 0), (339, 3, 7, 345, 1, 0), (342, 2, 4, 52, 0, 0), (344, 1, 12, 0, 1, 0)]) rfl) ?_
                                  refine xg_t (xg_lload (u := vv) rfl) ?_
                                  refine xg_t (xg_bip) ?_
                                  refine xg_t (xg_bip) ?_
                                  refine xg_t (xg_bip) ?_
                                  refine xg_cSj mX12_three (vs := [(0, 110), (0, 111), (0, 116)]) (rest := [(4, vv)]) (cn1 := 0) (sl1 := 0) rfl (mThree (hI168) (by omega) (by omega) (by omega)) rfl rfl rfl rfl rfl rfl rfl (fun l179 w175 hq176 => ?_)
                                  obtain ⟨hn180, hI177, hF178⟩ := hq176
                                  refine xg_k (xg_lcmp (u := vv) (v := l179)) (xpt_lt _) (fun z181 hz182 => ?_)
                                  by_cases hc183 : z181 = 0
                                  · refine xg_t (xg_ifF (u := z181) rfl xnm0 (xj_neF hc183)) ?_
                                    refine xg_t (xg_bip) ?_
                                    exact xg_e ⟨52, w175, ⟨rfl, rfl⟩, by omega, hI177, ((((((((((((((((((((((hF4.up (by decide)).tr (hF10.up (by decide))).tr (hF16.up (by decide))).tr (hF25.up (by decide))).tr (hF34.up (by decide))).tr (hF40.up (by decide))).tr (hF46.up (by decide))).tr (hF55.up (by decide))).tr (hF64.up (by decide))).tr (hF73.up (by decide))).tr (hF82.up (by decide))).tr (hF91.up (by decide))).tr (hF100.up (by decide))).tr (hF106.up (by decide))).tr (hF112.up (by decide))).tr (hF121.up (by decide))).tr (hF130.up (by decide))).tr (hF139.up (by decide))).tr (hF148.up (by decide))).tr (hF157.up (by decide))).tr (hF169.up (by decide))).tr (hF178.up (by decide)))⟩
                                  · refine xg_t (xg_ifT (u := z181) rfl xnm0 (xj_neT hc183)) ?_
                                    refine xg_t (xg_blk (b := [(345, 2, 4, 99, 0, 0), (347, 1, 12, 0, 1, 0)]) rfl) ?_
                                    refine xg_t (xg_bip) ?_
                                    exact xg_e ⟨99, w175, ⟨rfl, rfl⟩, by omega, hI177, ((((((((((((((((((((((hF4.up (by decide)).tr (hF10.up (by decide))).tr (hF16.up (by decide))).tr (hF25.up (by decide))).tr (hF34.up (by decide))).tr (hF40.up (by decide))).tr (hF46.up (by decide))).tr (hF55.up (by decide))).tr (hF64.up (by decide))).tr (hF73.up (by decide))).tr (hF82.up (by decide))).tr (hF91.up (by decide))).tr (hF100.up (by decide))).tr (hF106.up (by decide))).tr (hF112.up (by decide))).tr (hF121.up (by decide))).tr (hF130.up (by decide))).tr (hF139.up (by decide))).tr (hF148.up (by decide))).tr (hF157.up (by decide))).tr (hF169.up (by decide))).tr (hF178.up (by decide)))⟩
theorem mAdvance (hI : xMnv w)  : xPq (d + 4) mX12_advance [(2, 82)] w bd fc rr [] (fun w' => xMnv w' ∧ xFr [82] w w' ∧ (mu w' ≤ mu w ∧ (fld w 82 7 ≠ 0 → mu w' < mu w) ∧ fld w' 82 10 = fld w 82 10 ∧ fld w' 82 14 = fld w 82 14)) := by
  refine xPq.of ?_
  show xTo (d + 4) mX12_advance (0, [], [(0, (2, 82))], [], (w, bd, fc, 0, 0, rr)) (fun φ => ∃ w', xEnd 0 [] (w', bd, fc, 0, 0, rr) φ ∧ xMnv w' ∧ xFr [82] w w' ∧ (mu w' ≤ mu w ∧ (fld w 82 7 ≠ 0 → mu w' < mu w) ∧ fld w' 82 10 = fld w 82 10 ∧ fld w' 82 14 = fld w 82 14))
  obtain ⟨f82_1, f82_3, f82_5, f82_7, f82_9, f82_11, f82_13, f82_15, f82_17, f82_19, f82_21, f82_22, f82_23, f82_25, f82_27, f82_29, h82_31, hb2, hb4, hb6, hb8, hb10, hb12, hb14, hb16, hb18, hb20, hb24, hb26, hb28, hb30, hb32⟩ := (hI 82 (by decide) (by decide) : cp82 (wget w 82))
  obtain ⟨g83_33, h83_34, hb35, hx36⟩ := (hI 83 (by decide) (by decide) : cpx83 (wget w 83))
  have h83_34 : xRow w 83 5360 50 g83_33 := h83_34
  have hf37 : fld w 82 4 = f82_5 := fld_of h82_31
  have hf38 : fld w 82 5 = f82_7 := fld_of h82_31
  have hf39 : fld w 82 7 = f82_11 := fld_of h82_31
  have hf40 : fld w 82 10 = f82_17 := fld_of h82_31
  have hf41 : fld w 82 14 = f82_19 := fld_of h82_31
  have key42 : ∀ (m44 : Nat) (ir0 sg0 sz0 nx0 wr0 tk0 nu0 wo0 wg0 ln0 pt0 wh0 me0 mt0 pl0 ps0 : Nat) (w45 : List (List xE)), 500 - nx0 < m44 → ir0 ≤ 1 → sg0 ≤ 4294967295 → sz0 ≤ 500 → nx0 ≤ 500 → wr0 ≤ 4294967295 → tk0 ≤ 4 → nu0 ≤ 4294967295 → wo0 ≤ 4294967295 → wg0 ≤ 1 → ln0 ≤ 4294967295 → me0 ≤ 4294967295 → mt0 ≤ 36 → pl0 ≤ 100 → ps0 ≤ 200 → wget w45 82 = some (.inl (12, [(2, 83), (2, 84), (0, ir0), (0, sg0), (0, sz0), (0, nx0), (0, wr0), (0, tk0), (0, nu0), (0, wo0), (0, wg0), (2, 85), (2, 86), (2, 87), (0, ln0), (2, 88), (2, 89), (2, 90), (2, 91), (2, 92), (2, 93), (2, 94), (4, pt0), (4, wh0), (0, me0), (2, 95), (2, 96), (2, 97), (2, 98), (2, 99), (2, 100), (2, 101), (2, 102), (0, mt0), (2, 103), (2, 104), (2, 105), (2, 106), (2, 107), (2, 108), (2, 109), (0, pl0), (0, ps0), (2, 110), (2, 111), (2, 112), (2, 113)])) → (nx0 ≤ sz0) → xMnv w45 → xFr [82] w w45 → (sz0 = f82_5 ∧ f82_7 ≤ nx0 ∧ wg0 = f82_17 ∧ ln0 = f82_19 ∧ tk0 = f82_11) → xTo (d + 4) mX12_advance (0, [], [(0, (2, 82))], [], (w45, bd, fc, 0, 0, rr)) (fun φ => ∃ w', xEnd 0 [] (w', bd, fc, 0, 0, rr) φ ∧ xMnv w' ∧ xFr [82] w w' ∧ (mu w' ≤ mu w ∧ (fld w 82 7 ≠ 0 → mu w' < mu w) ∧ fld w' 82 10 = fld w 82 10 ∧ fld w' 82 14 = fld w 82 14)) := by
    intro m44
    induction m44 with
    | zero => intro ir0 sg0 sz0 nx0 wr0 tk0 nu0 wo0 wg0 ln0 pt0 wh0 me0 mt0 pl0 ps0 w45 hz; exact absurd hz (Nat.not_lt_zero _)
    | succ m44 ih43 =>
      intro ir0 sg0 sz0 nx0 wr0 tk0 nu0 wo0 wg0 ln0 pt0 wh0 me0 mt0 pl0 ps0 w45 hm65 hn48 hn49 hn50 hn51 hn52 hn53 hn54 hn55 hn56 hn57 hn58 hn59 hn60 hn61 hcl62 hx63 hI46 hF47 he64
      refine xg_t (xg_blk (b := [(0, 1, 0, 0, 0, 0), (1, 1, 0, 0, 0, 0), (2, 3, 1, 12, 5, 141), (5, 3, 13, 125, 96, 144), (8, 2, 4, 10, 0, 0), (10, 3, 6, 26, 0, 0), (13, 1, 0, 0, 0, 0), (14, 1, 0, 0, 0, 0), (15, 3, 1, 12, 5, 141), (18, 3, 13, 125, 96, 144), (21, 2, 4, 32, 0, 0), (23, 3, 6, 39, 1, 0)]) rfl) ?_
      refine xg_t (xg_aload (va := (2, 82)) rfl rfl) ?_
      refine xg_t (xg_aload (va := (2, 82)) rfl rfl) ?_
      refine xg_t (xg_getf (va := (0, nx0)) hcl62 rfl) ?_
      have hf66 : fld w45 82 4 = sz0 := fld_of hcl62
      refine xg_cVi mX12_byteAt (vs := [(0, nx0)]) (rest := []) (cn1 := 0) (sl1 := 0) rfl (mByteAt (hI46) (by omega) (h83_34.fr hF47 (by decide)) hb35 hx36) rfl hcl62 rfl rfl rfl rfl rfl rfl (fun n71 w67 hq68 => ?_)
      obtain ⟨hn72, hI69, hF70⟩ := hq68
      have hl73 : n71 ≤ 4294967295 := by have q := hn72; have q2 := hb35 (400 + nx0); omega
      refine xg_t (xg_bip) ?_
      by_cases hc74 : n71 = 10
      · refine xg_t (xg_icT (u := n71) (v := 10) rfl xnm0 xnm0 (xj_eqT hc74)) ?_
        refine xg_t (xg_blk (b := [(26, 1, 0, 0, 0, 0), (27, 1, 19, 0, 0, 0), (28, 3, 1, 12, 5, 141), (31, 1, 3, 1, 0, 0), (32, 1, 11, 0, 0, 0), (33, 3, 14, 12, 5, 141), (36, 3, 8, 0, 0, 0)]) rfl) ?_
        refine xg_t (xg_aload (va := (2, 82)) rfl rfl) ?_
        refine xg_t (xg_dup rfl) ?_
        refine xg_t (xg_getf (va := (0, nx0)) (hF70.get (by decide) hcl62) rfl) ?_
        refine xg_t (xg_const) ?_
        refine xg_t (xg_iadd (u := nx0) (v := 1) (z := nx0 + 1) xnm0 xnm0 (by omega)) ?_
        refine xg_putI (fl1 := [(2, 83), (2, 84), (0, ir0), (0, sg0), (0, sz0), (0, nx0 + 1), (0, wr0), (0, tk0), (0, nu0), (0, wo0), (0, wg0), (2, 85), (2, 86), (2, 87), (0, ln0), (2, 88), (2, 89), (2, 90), (2, 91), (2, 92), (2, 93), (2, 94), (4, pt0), (4, wh0), (0, me0), (2, 95), (2, 96), (2, 97), (2, 98), (2, 99), (2, 100), (2, 101), (2, 102), (0, mt0), (2, 103), (2, 104), (2, 105), (2, 106), (2, 107), (2, 108), (2, 109), (0, pl0), (0, ps0), (2, 110), (2, 111), (2, 112), (2, 113)]) (hF70.get (by decide) hcl62) rfl rfl rfl (fun w75 hk76 hb77 => ?_)
        refine xg_t (xg_goto) ?_
        exact ih43 ir0 sg0 sz0 (nx0 + 1) wr0 tk0 nu0 wo0 wg0 ln0 pt0 wh0 me0 mt0 pl0 ps0 w75 (by omega) (by omega) (by omega) (by omega) (by omega) (by omega) (by omega) (by omega) (by omega) (by omega) (by omega) (by omega) (by omega) (by omega) (by omega) hk76 (by omega) (xMnv.up (S := [82]) hI69 (xFr.of (S := [82]) hb77 (by decide)) (List.forall_mem_cons.mpr ⟨(show cp82 (wget w75 82) from ⟨ir0, sg0, sz0, nx0 + 1, wr0, tk0, nu0, wo0, wg0, ln0, pt0, wh0, me0, mt0, pl0, ps0, hk76, by omega, by omega, by omega, by omega, by omega, by omega, by omega, by omega, by omega, by omega, by omega, by omega, by omega, by omega, by omega⟩), fun _ h => absurd h List.not_mem_nil⟩)) (((hF47.tr (hF70.up (by decide))).tr (xFr.of (S := [82]) hb77 (by decide)))) (by omega)
      · refine xg_t (xg_icF (u := n71) (v := 10) rfl xnm0 xnm0 (xj_eqF hc74)) ?_
        refine xg_t (xg_aload (va := (2, 82)) rfl rfl) ?_
        refine xg_t (xg_aload (va := (2, 82)) rfl rfl) ?_
        refine xg_t (xg_getf (va := (0, nx0)) (hF70.get (by decide) hcl62) rfl) ?_
        have hf78 : fld w67 82 4 = sz0 := fld_of (hF70.get (by decide) hcl62)
        refine xg_cVi mX12_byteAt (vs := [(0, nx0)]) (rest := []) (cn1 := 0) (sl1 := 0) rfl (mByteAt (hI69) (by omega) ((h83_34.fr hF47 (by decide)).fr hF70 (by decide)) hb35 hx36) rfl (hF70.get (by decide) hcl62) rfl rfl rfl rfl rfl rfl (fun n83 w79 hq80 => ?_)
        obtain ⟨hn84, hI81, hF82⟩ := hq80
        have hl85 : n83 ≤ 4294967295 := by have q := hn84; have q2 := hb35 (400 + nx0); omega
        refine xg_t (xg_bip) ?_
        by_cases hc86 : n83 = 32
        · refine xg_t (xg_icF (u := n83) (v := 32) rfl xnm0 xnm0 (xj_neF hc86)) ?_
          refine xg_t (xg_blk (b := [(26, 1, 0, 0, 0, 0), (27, 1, 19, 0, 0, 0), (28, 3, 1, 12, 5, 141), (31, 1, 3, 1, 0, 0), (32, 1, 11, 0, 0, 0), (33, 3, 14, 12, 5, 141), (36, 3, 8, 0, 0, 0)]) rfl) ?_
          refine xg_t (xg_aload (va := (2, 82)) rfl rfl) ?_
          refine xg_t (xg_dup rfl) ?_
          refine xg_t (xg_getf (va := (0, nx0)) (hF82.get (by decide) (hF70.get (by decide) hcl62)) rfl) ?_
          refine xg_t (xg_const) ?_
          refine xg_t (xg_iadd (u := nx0) (v := 1) (z := nx0 + 1) xnm0 xnm0 (by omega)) ?_
          refine xg_putI (fl1 := [(2, 83), (2, 84), (0, ir0), (0, sg0), (0, sz0), (0, nx0 + 1), (0, wr0), (0, tk0), (0, nu0), (0, wo0), (0, wg0), (2, 85), (2, 86), (2, 87), (0, ln0), (2, 88), (2, 89), (2, 90), (2, 91), (2, 92), (2, 93), (2, 94), (4, pt0), (4, wh0), (0, me0), (2, 95), (2, 96), (2, 97), (2, 98), (2, 99), (2, 100), (2, 101), (2, 102), (0, mt0), (2, 103), (2, 104), (2, 105), (2, 106), (2, 107), (2, 108), (2, 109), (0, pl0), (0, ps0), (2, 110), (2, 111), (2, 112), (2, 113)]) (hF82.get (by decide) (hF70.get (by decide) hcl62)) rfl rfl rfl (fun w87 hk88 hb89 => ?_)
          refine xg_t (xg_goto) ?_
          exact ih43 ir0 sg0 sz0 (nx0 + 1) wr0 tk0 nu0 wo0 wg0 ln0 pt0 wh0 me0 mt0 pl0 ps0 w87 (by omega) (by omega) (by omega) (by omega) (by omega) (by omega) (by omega) (by omega) (by omega) (by omega) (by omega) (by omega) (by omega) (by omega) (by omega) hk88 (by omega) (xMnv.up (S := [82]) hI81 (xFr.of (S := [82]) hb89 (by decide)) (List.forall_mem_cons.mpr ⟨(show cp82 (wget w87 82) from ⟨ir0, sg0, sz0, nx0 + 1, wr0, tk0, nu0, wo0, wg0, ln0, pt0, wh0, me0, mt0, pl0, ps0, hk88, by omega, by omega, by omega, by omega, by omega, by omega, by omega, by omega, by omega, by omega, by omega, by omega, by omega, by omega, by omega⟩), fun _ h => absurd h List.not_mem_nil⟩)) ((((hF47.tr (hF70.up (by decide))).tr (hF82.up (by decide))).tr (xFr.of (S := [82]) hb89 (by decide)))) (by omega)
        · refine xg_t (xg_icT (u := n83) (v := 32) rfl xnm0 xnm0 (xj_neT hc86)) ?_
          refine xg_t (xg_blk (b := [(39, 1, 0, 0, 0, 0), (40, 1, 0, 0, 0, 0), (41, 3, 1, 12, 5, 141), (44, 3, 14, 12, 6, 148), (47, 1, 0, 0, 0, 0), (48, 1, 0, 0, 0, 0), (49, 3, 1, 12, 5, 141), (52, 3, 13, 125, 96, 144), (55, 1, 15, 1, 0, 0), (56, 1, 2, 1, 0, 0), (57, 3, 7, 68, 3, 0), (60, 1, 0, 0, 0, 0), (61, 1, 3, 0, 0, 0), (62, 3, 14, 12, 7, 151), (65, 3, 8, 332, 0, 0)]) rfl) ?_
          refine xg_t (xg_aload (va := (2, 82)) rfl rfl) ?_
          refine xg_t (xg_aload (va := (2, 82)) rfl rfl) ?_
          refine xg_t (xg_getf (va := (0, nx0)) (hF82.get (by decide) (hF70.get (by decide) hcl62)) rfl) ?_
          refine xg_putI (fl1 := [(2, 83), (2, 84), (0, ir0), (0, sg0), (0, sz0), (0, nx0), (0, nx0), (0, tk0), (0, nu0), (0, wo0), (0, wg0), (2, 85), (2, 86), (2, 87), (0, ln0), (2, 88), (2, 89), (2, 90), (2, 91), (2, 92), (2, 93), (2, 94), (4, pt0), (4, wh0), (0, me0), (2, 95), (2, 96), (2, 97), (2, 98), (2, 99), (2, 100), (2, 101), (2, 102), (0, mt0), (2, 103), (2, 104), (2, 105), (2, 106), (2, 107), (2, 108), (2, 109), (0, pl0), (0, ps0), (2, 110), (2, 111), (2, 112), (2, 113)]) (hF82.get (by decide) (hF70.get (by decide) hcl62)) rfl rfl rfl (fun w90 hk91 hb92 => ?_)
          refine xg_t (xg_aload (va := (2, 82)) rfl rfl) ?_
          refine xg_t (xg_aload (va := (2, 82)) rfl rfl) ?_
          refine xg_t (xg_getf (va := (0, nx0)) hk91 rfl) ?_
          have hf93 : fld w90 82 4 = sz0 := fld_of hk91
          refine xg_cVi mX12_byteAt (vs := [(0, nx0)]) (rest := []) (cn1 := 0) (sl1 := 0) rfl (mByteAt (xMnv.up (S := [82]) hI81 (xFr.of (S := [82]) hb92 (by decide)) (List.forall_mem_cons.mpr ⟨(show cp82 (wget w90 82) from ⟨ir0, sg0, sz0, nx0, nx0, tk0, nu0, wo0, wg0, ln0, pt0, wh0, me0, mt0, pl0, ps0, hk91, by omega, by omega, by omega, by omega, by omega, by omega, by omega, by omega, by omega, by omega, by omega, by omega, by omega, by omega, by omega⟩), fun _ h => absurd h List.not_mem_nil⟩)) (by omega) ((((h83_34.fr hF47 (by decide)).fr hF70 (by decide)).fr hF82 (by decide)).but hb92 (by decide)) hb35 hx36) rfl hk91 rfl rfl rfl rfl rfl rfl (fun n98 w94 hq95 => ?_)
          obtain ⟨hn99, hI96, hF97⟩ := hq95
          have hl100 : n98 ≤ 4294967295 := by have q := hn99; have q2 := hb35 (400 + nx0); omega
          refine xg_t (xg_istore (l1 := [(0, (2, 82))]) rfl rfl rfl) ?_
          refine xg_t (xg_iload (va := (0, n98)) rfl rfl) ?_
          by_cases hc101 : n98 < 2147483648
          · refine xg_t (xg_ifT (u := n98) rfl xnm0 (xjz_geT hc101)) ?_
            refine xg_t (xg_blk (b := [(68, 1, 2, 1, 0, 0), (69, 3, 13, 166, 98, 154), (72, 3, 7, 200, 0, 0), (75, 1, 51, 0, 0, 0), (76, 1, 54, 2, 0, 0)]) rfl) ?_
            refine xg_t (xg_iload (va := (0, n98)) rfl rfl) ?_
            refine xg_cSi mX12_isLetter (vs := [(0, n98)]) (rest := []) (cn1 := 0) (sl1 := 0) rfl (mLetter (hI96) (by omega)) rfl rfl rfl rfl rfl rfl rfl (fun n106 w102 hq103 => ?_)
            obtain ⟨hn107, hI104, hF105⟩ := hq103
            by_cases hc108 : n106 = 0
            · refine xg_t (xg_ifT (u := n106) rfl xnm0 (xj_eqT hc108)) ?_
              refine xg_t (xg_blk (b := [(200, 1, 2, 1, 0, 0), (201, 3, 13, 159, 98, 168), (204, 3, 7, 300, 0, 0), (207, 1, 0, 0, 0, 0), (208, 1, 3, 0, 0, 0), (209, 3, 14, 12, 8, 171)]) rfl) ?_
              refine xg_t (xg_iload (va := (0, n98)) rfl rfl) ?_
              refine xg_cSi mX12_isDigit (vs := [(0, n98)]) (rest := []) (cn1 := 0) (sl1 := 0) rfl (mDigit (hI104) (by omega)) rfl rfl rfl rfl rfl rfl rfl (fun n113 w109 hq110 => ?_)
              obtain ⟨hn114, hI111, hF112⟩ := hq110
              by_cases hc115 : n113 = 0
              · refine xg_t (xg_ifT (u := n113) rfl xnm0 (xj_eqT hc115)) ?_
                refine xg_t (xg_blk (b := [(300, 1, 0, 0, 0, 0), (301, 1, 19, 0, 0, 0), (302, 3, 1, 12, 5, 141), (305, 1, 3, 1, 0, 0), (306, 1, 11, 0, 0, 0), (307, 3, 14, 12, 5, 141), (310, 1, 0, 0, 0, 0), (311, 1, 2, 1, 0, 0), (312, 3, 14, 12, 3, 174), (315, 1, 0, 0, 0, 0), (316, 1, 0, 0, 0, 0), (317, 1, 2, 1, 0, 0), (318, 3, 13, 172, 96, 177), (321, 3, 7, 328, 0, 0), (324, 1, 3, 2, 0, 0), (325, 3, 8, 329, 0, 0)]) rfl) ?_
                refine xg_t (xg_aload (va := (2, 82)) rfl rfl) ?_
                refine xg_t (xg_dup rfl) ?_
                refine xg_t (xg_getf (va := (0, nx0)) (hF112.get (by decide) (hF105.get (by decide) (hF97.get (by decide) hk91))) rfl) ?_
                refine xg_t (xg_const) ?_
                refine xg_t (xg_iadd (u := nx0) (v := 1) (z := nx0 + 1) xnm0 xnm0 (by omega)) ?_
                refine xg_putI (fl1 := [(2, 83), (2, 84), (0, ir0), (0, sg0), (0, sz0), (0, nx0 + 1), (0, nx0), (0, tk0), (0, nu0), (0, wo0), (0, wg0), (2, 85), (2, 86), (2, 87), (0, ln0), (2, 88), (2, 89), (2, 90), (2, 91), (2, 92), (2, 93), (2, 94), (4, pt0), (4, wh0), (0, me0), (2, 95), (2, 96), (2, 97), (2, 98), (2, 99), (2, 100), (2, 101), (2, 102), (0, mt0), (2, 103), (2, 104), (2, 105), (2, 106), (2, 107), (2, 108), (2, 109), (0, pl0), (0, ps0), (2, 110), (2, 111), (2, 112), (2, 113)]) (hF112.get (by decide) (hF105.get (by decide) (hF97.get (by decide) hk91))) rfl rfl rfl (fun w116 hk117 hb118 => ?_)
                refine xg_t (xg_aload (va := (2, 82)) rfl rfl) ?_
                refine xg_t (xg_iload (va := (0, n98)) rfl rfl) ?_
                refine xg_putI (fl1 := [(2, 83), (2, 84), (0, ir0), (0, n98), (0, sz0), (0, nx0 + 1), (0, nx0), (0, tk0), (0, nu0), (0, wo0), (0, wg0), (2, 85), (2, 86), (2, 87), (0, ln0), (2, 88), (2, 89), (2, 90), (2, 91), (2, 92), (2, 93), (2, 94), (4, pt0), (4, wh0), (0, me0), (2, 95), (2, 96), (2, 97), (2, 98), (2, 99), (2, 100), (2, 101), (2, 102), (0, mt0), (2, 103), (2, 104), (2, 105), (2, 106), (2, 107), (2, 108), (2, 109), (0, pl0), (0, ps0), (2, 110), (2, 111), (2, 112), (2, 113)]) hk117 rfl rfl rfl (fun w119 hk120 hb121 => ?_)
                refine xg_t (xg_aload (va := (2, 82)) rfl rfl) ?_
                refine xg_t (xg_aload (va := (2, 82)) rfl rfl) ?_
                refine xg_t (xg_iload (va := (0, n98)) rfl rfl) ?_
                refine xg_cVi mX12_isSignByte (vs := [(0, n98)]) (rest := [(2, 82)]) (cn1 := 0) (sl1 := 0) rfl (mSignByte (xMnv.up (S := [82]) hI111 ((xFr.of (S := [82]) hb118 (by decide)).tr (xFr.of (S := [82]) hb121 (by decide))) (List.forall_mem_cons.mpr ⟨(show cp82 (wget w119 82) from ⟨ir0, n98, sz0, nx0 + 1, nx0, tk0, nu0, wo0, wg0, ln0, pt0, wh0, me0, mt0, pl0, ps0, hk120, by omega, by omega, by omega, by omega, by omega, by omega, by omega, by omega, by omega, by omega, by omega, by omega, by omega, by omega, by omega⟩), fun _ h => absurd h List.not_mem_nil⟩)) (by omega)) rfl hk120 rfl rfl rfl rfl rfl rfl (fun n126 w122 hq123 => ?_)
                obtain ⟨hn127, hI124, hF125⟩ := hq123
                by_cases hc128 : n126 = 0
                · refine xg_t (xg_ifT (u := n126) rfl xnm0 (xj_eqT hc128)) ?_
                  refine xg_t (xg_blk (b := [(328, 1, 3, 4, 0, 0)]) rfl) ?_
                  refine xg_t (xg_const) ?_
                  refine xg_t (xg_blk (b := [(329, 3, 14, 12, 7, 151)]) rfl) ?_
                  refine xg_putI (fl1 := [(2, 83), (2, 84), (0, ir0), (0, n98), (0, sz0), (0, nx0 + 1), (0, nx0), (0, 4), (0, nu0), (0, wo0), (0, wg0), (2, 85), (2, 86), (2, 87), (0, ln0), (2, 88), (2, 89), (2, 90), (2, 91), (2, 92), (2, 93), (2, 94), (4, pt0), (4, wh0), (0, me0), (2, 95), (2, 96), (2, 97), (2, 98), (2, 99), (2, 100), (2, 101), (2, 102), (0, mt0), (2, 103), (2, 104), (2, 105), (2, 106), (2, 107), (2, 108), (2, 109), (0, pl0), (0, ps0), (2, 110), (2, 111), (2, 112), (2, 113)]) (hF125.get (by decide) hk120) rfl rfl rfl (fun w129 hk130 hb131 => ?_)
                  refine xg_t (xg_blk (b := [(332, 1, 12, 0, 0, 0)]) rfl) ?_
                  have hf132 : fld w129 82 4 = sz0 := fld_of hk130
                  have hf133 : fld w129 82 5 = nx0 + 1 := fld_of hk130
                  have hf134 : fld w129 82 7 = 4 := fld_of hk130
                  have hf135 : fld w129 82 10 = wg0 := fld_of hk130
                  have hf136 : fld w129 82 14 = ln0 := fld_of hk130
                  have hu137 : mu w129 = 2 * (fld w129 82 4 - fld w129 82 5) + min 1 (fld w129 82 7) := rfl
                  have hu138 : mu w = 2 * (fld w 82 4 - fld w 82 5) + min 1 (fld w 82 7) := rfl
                  exact xg_e ⟨w129, ⟨rfl, rfl⟩, xMnv.up (S := [82]) hI124 (xFr.of (S := [82]) hb131 (by decide)) (List.forall_mem_cons.mpr ⟨(show cp82 (wget w129 82) from ⟨ir0, n98, sz0, nx0 + 1, nx0, 4, nu0, wo0, wg0, ln0, pt0, wh0, me0, mt0, pl0, ps0, hk130, by omega, by omega, by omega, by omega, by omega, by omega, by omega, by omega, by omega, by omega, by omega, by omega, by omega, by omega, by omega⟩), fun _ h => absurd h List.not_mem_nil⟩), (((((((((hF47.tr (hF70.up (by decide))).tr (hF82.up (by decide))).tr (xFr.of (S := [82]) hb92 (by decide))).tr (hF97.up (by decide))).tr (hF105.up (by decide))).tr (hF112.up (by decide))).tr ((xFr.of (S := [82]) hb118 (by decide)).tr (xFr.of (S := [82]) hb121 (by decide)))).tr (hF125.up (by decide))).tr (xFr.of (S := [82]) hb131 (by decide))), ⟨by omega, fun _ => by omega, by omega, by omega⟩⟩
                · refine xg_t (xg_ifF (u := n126) rfl xnm0 (xj_eqF hc128)) ?_
                  refine xg_t (xg_const) ?_
                  refine xg_t (xg_goto) ?_
                  refine xg_t (xg_blk (b := [(329, 3, 14, 12, 7, 151)]) rfl) ?_
                  refine xg_putI (fl1 := [(2, 83), (2, 84), (0, ir0), (0, n98), (0, sz0), (0, nx0 + 1), (0, nx0), (0, 2), (0, nu0), (0, wo0), (0, wg0), (2, 85), (2, 86), (2, 87), (0, ln0), (2, 88), (2, 89), (2, 90), (2, 91), (2, 92), (2, 93), (2, 94), (4, pt0), (4, wh0), (0, me0), (2, 95), (2, 96), (2, 97), (2, 98), (2, 99), (2, 100), (2, 101), (2, 102), (0, mt0), (2, 103), (2, 104), (2, 105), (2, 106), (2, 107), (2, 108), (2, 109), (0, pl0), (0, ps0), (2, 110), (2, 111), (2, 112), (2, 113)]) (hF125.get (by decide) hk120) rfl rfl rfl (fun w139 hk140 hb141 => ?_)
                  refine xg_t (xg_blk (b := [(332, 1, 12, 0, 0, 0)]) rfl) ?_
                  have hf142 : fld w139 82 4 = sz0 := fld_of hk140
                  have hf143 : fld w139 82 5 = nx0 + 1 := fld_of hk140
                  have hf144 : fld w139 82 7 = 2 := fld_of hk140
                  have hf145 : fld w139 82 10 = wg0 := fld_of hk140
                  have hf146 : fld w139 82 14 = ln0 := fld_of hk140
                  have hu147 : mu w139 = 2 * (fld w139 82 4 - fld w139 82 5) + min 1 (fld w139 82 7) := rfl
                  have hu148 : mu w = 2 * (fld w 82 4 - fld w 82 5) + min 1 (fld w 82 7) := rfl
                  exact xg_e ⟨w139, ⟨rfl, rfl⟩, xMnv.up (S := [82]) hI124 (xFr.of (S := [82]) hb141 (by decide)) (List.forall_mem_cons.mpr ⟨(show cp82 (wget w139 82) from ⟨ir0, n98, sz0, nx0 + 1, nx0, 2, nu0, wo0, wg0, ln0, pt0, wh0, me0, mt0, pl0, ps0, hk140, by omega, by omega, by omega, by omega, by omega, by omega, by omega, by omega, by omega, by omega, by omega, by omega, by omega, by omega, by omega⟩), fun _ h => absurd h List.not_mem_nil⟩), (((((((((hF47.tr (hF70.up (by decide))).tr (hF82.up (by decide))).tr (xFr.of (S := [82]) hb92 (by decide))).tr (hF97.up (by decide))).tr (hF105.up (by decide))).tr (hF112.up (by decide))).tr ((xFr.of (S := [82]) hb118 (by decide)).tr (xFr.of (S := [82]) hb121 (by decide)))).tr (hF125.up (by decide))).tr (xFr.of (S := [82]) hb141 (by decide))), ⟨by omega, fun _ => by omega, by omega, by omega⟩⟩
              · refine xg_t (xg_ifF (u := n113) rfl xnm0 (xj_eqF hc115)) ?_
                refine xg_t (xg_aload (va := (2, 82)) rfl rfl) ?_
                refine xg_t (xg_const) ?_
                refine xg_putI (fl1 := [(2, 83), (2, 84), (0, ir0), (0, sg0), (0, sz0), (0, nx0), (0, nx0), (0, tk0), (0, 0), (0, wo0), (0, wg0), (2, 85), (2, 86), (2, 87), (0, ln0), (2, 88), (2, 89), (2, 90), (2, 91), (2, 92), (2, 93), (2, 94), (4, pt0), (4, wh0), (0, me0), (2, 95), (2, 96), (2, 97), (2, 98), (2, 99), (2, 100), (2, 101), (2, 102), (0, mt0), (2, 103), (2, 104), (2, 105), (2, 106), (2, 107), (2, 108), (2, 109), (0, pl0), (0, ps0), (2, 110), (2, 111), (2, 112), (2, 113)]) (hF112.get (by decide) (hF105.get (by decide) (hF97.get (by decide) hk91))) rfl rfl rfl (fun w149 hk150 hb151 => ?_)
                refine xg_t (xg_drop (l1 := [(0, (2, 82)), (1, (0, n98))]) (List.forall_mem_cons.mpr ⟨List.mem_cons_of_mem _ (List.mem_cons_self), List.forall_mem_cons.mpr ⟨List.mem_cons_self, fun _ h => absurd h List.not_mem_nil⟩⟩)) ?_
                have key152 : ∀ (m154 : Nat) (ir2 sg2 sz2 nx2 wr2 tk2 nu2 wo2 wg2 ln2 pt2 wh2 me2 mt2 pl2 ps2 : Nat) (w155 : List (List xE)), 500 - nx2 < m154 → ir2 ≤ 1 → sg2 ≤ 4294967295 → sz2 ≤ 500 → nx2 ≤ 500 → wr2 ≤ 4294967295 → tk2 ≤ 4 → nu2 ≤ 4294967295 → wo2 ≤ 4294967295 → wg2 ≤ 1 → ln2 ≤ 4294967295 → me2 ≤ 4294967295 → mt2 ≤ 36 → pl2 ≤ 100 → ps2 ≤ 200 → wget w155 82 = some (.inl (12, [(2, 83), (2, 84), (0, ir2), (0, sg2), (0, sz2), (0, nx2), (0, wr2), (0, tk2), (0, nu2), (0, wo2), (0, wg2), (2, 85), (2, 86), (2, 87), (0, ln2), (2, 88), (2, 89), (2, 90), (2, 91), (2, 92), (2, 93), (2, 94), (4, pt2), (4, wh2), (0, me2), (2, 95), (2, 96), (2, 97), (2, 98), (2, 99), (2, 100), (2, 101), (2, 102), (0, mt2), (2, 103), (2, 104), (2, 105), (2, 106), (2, 107), (2, 108), (2, 109), (0, pl2), (0, ps2), (2, 110), (2, 111), (2, 112), (2, 113)])) → (nx2 ≤ sz2) → xMnv w155 → xFr [82] w w155 → (sz2 = f82_5 ∧ f82_7 ≤ nx2 ∧ wg2 = f82_17 ∧ ln2 = f82_19 ∧ f82_7 ≤ wr2 ∧ wr2 ≤ nx2 ∧ (wr2 < nx2 ∨ (48 ≤ g83_33 (400 + wr2) ∧ g83_33 (400 + wr2) ≤ 57 ∧ wr2 < sz2))) → xTo (d + 4) mX12_advance (212, [], [(0, (2, 82)), (1, (0, n98))], [], (w155, bd, fc, 0, 0, rr)) (fun φ => ∃ w', xEnd 0 [] (w', bd, fc, 0, 0, rr) φ ∧ xMnv w' ∧ xFr [82] w w' ∧ (mu w' ≤ mu w ∧ (fld w 82 7 ≠ 0 → mu w' < mu w) ∧ fld w' 82 10 = fld w 82 10 ∧ fld w' 82 14 = fld w 82 14)) := by
                  intro m154
                  induction m154 with
                  | zero => intro ir2 sg2 sz2 nx2 wr2 tk2 nu2 wo2 wg2 ln2 pt2 wh2 me2 mt2 pl2 ps2 w155 hz; exact absurd hz (Nat.not_lt_zero _)
                  | succ m154 ih153 =>
                    intro ir2 sg2 sz2 nx2 wr2 tk2 nu2 wo2 wg2 ln2 pt2 wh2 me2 mt2 pl2 ps2 w155 hm175 hn158 hn159 hn160 hn161 hn162 hn163 hn164 hn165 hn166 hn167 hn168 hn169 hn170 hn171 hcl172 hx173 hI156 hF157 he174
                    have hcg176 : nx2 = wr2 → g83_33 (400 + nx2) = g83_33 (400 + wr2) := fun e => by rw [e]
                    refine xg_t (xg_blk (b := [(212, 1, 0, 0, 0, 0), (213, 1, 0, 0, 0, 0), (214, 3, 1, 12, 5, 141), (217, 3, 13, 125, 96, 144), (220, 3, 13, 159, 98, 168), (223, 3, 7, 275, 0, 0), (226, 1, 0, 0, 0, 0), (227, 3, 1, 12, 5, 141), (230, 1, 0, 0, 0, 0), (231, 3, 1, 12, 6, 148), (234, 1, 18, 0, 0, 0), (235, 1, 3, 4, 0, 0), (236, 3, 6, 262, 3, 0), (239, 1, 0, 0, 0, 0), (240, 2, 4, 10, 0, 0), (242, 1, 0, 0, 0, 0), (243, 3, 1, 12, 8, 171), (246, 1, 16, 0, 0, 0), (247, 1, 0, 0, 0, 0), (248, 1, 0, 0, 0, 0), (249, 3, 1, 12, 5, 141), (252, 3, 13, 125, 96, 144), (255, 1, 11, 0, 0, 0), (256, 2, 4, 48, 0, 0), (258, 1, 18, 0, 0, 0), (259, 3, 14, 12, 8, 171)]) rfl) ?_
                    refine xg_t (xg_aload (va := (2, 82)) rfl rfl) ?_
                    refine xg_t (xg_aload (va := (2, 82)) rfl rfl) ?_
                    refine xg_t (xg_getf (va := (0, nx2)) hcl172 rfl) ?_
                    have hf177 : fld w155 82 4 = sz2 := fld_of hcl172
                    refine xg_cVi mX12_byteAt (vs := [(0, nx2)]) (rest := []) (cn1 := 0) (sl1 := 0) rfl (mByteAt (hI156) (by omega) (h83_34.fr hF157 (by decide)) hb35 hx36) rfl hcl172 rfl rfl rfl rfl rfl rfl (fun n182 w178 hq179 => ?_)
                    obtain ⟨hn183, hI180, hF181⟩ := hq179
                    have hl184 : n182 ≤ 4294967295 := by have q := hn183; have q2 := hb35 (400 + nx2); omega
                    refine xg_cSi mX12_isDigit (vs := [(0, n182)]) (rest := []) (cn1 := 0) (sl1 := 0) rfl (mDigit (hI180) (by omega)) rfl rfl rfl rfl rfl rfl rfl (fun n189 w185 hq186 => ?_)
                    obtain ⟨hn190, hI187, hF188⟩ := hq186
                    by_cases hc191 : n189 = 0
                    · refine xg_t (xg_ifT (u := n189) rfl xnm0 (xj_eqT hc191)) ?_
                      refine xg_t (xg_blk (b := [(275, 1, 0, 0, 0, 0), (276, 1, 0, 0, 0, 0), (277, 3, 1, 12, 5, 141), (280, 1, 0, 0, 0, 0), (281, 3, 1, 12, 6, 148), (284, 1, 18, 0, 0, 0), (285, 1, 3, 4, 0, 0), (286, 3, 6, 293, 5, 0), (289, 1, 3, 4, 0, 0), (290, 3, 8, 294, 0, 0)]) rfl) ?_
                      refine xg_t (xg_aload (va := (2, 82)) rfl rfl) ?_
                      refine xg_t (xg_aload (va := (2, 82)) rfl rfl) ?_
                      refine xg_t (xg_getf (va := (0, nx2)) (hF188.get (by decide) (hF181.get (by decide) hcl172)) rfl) ?_
                      refine xg_t (xg_aload (va := (2, 82)) rfl rfl) ?_
                      refine xg_t (xg_getf (va := (0, wr2)) (hF188.get (by decide) (hF181.get (by decide) hcl172)) rfl) ?_
                      by_cases hc192 : wr2 ≤ nx2
                      · refine xg_t (xg_isub (u := nx2) (v := wr2) (z := (nx2 + (4294967296 - wr2)) % 4294967296) xnm0 xnm0 (rfl)) ?_
                        refine xg_t (xg_const) ?_
                        by_cases hc193 : xbs 4 < xbs ((nx2 + (4294967296 - wr2)) % 4294967296)
                        · have hc193u := hc193
                          unfold xbs at hc193u
                          have hn194 : (nx2 + (4294967296 - wr2)) % 4294967296 ≤ 2147483647 := by omega
                          refine xg_t (xg_icF (u := (nx2 + (4294967296 - wr2)) % 4294967296) (v := 4) rfl xnm0 xnm0 (xjs_leF hc193)) ?_
                          refine xg_t (xg_const) ?_
                          refine xg_t (xg_goto) ?_
                          refine xg_t (xg_blk (b := [(294, 3, 14, 12, 7, 151), (297, 3, 8, 332, 0, 0)]) rfl) ?_
                          refine xg_putI (fl1 := [(2, 83), (2, 84), (0, ir2), (0, sg2), (0, sz2), (0, nx2), (0, wr2), (0, 4), (0, nu2), (0, wo2), (0, wg2), (2, 85), (2, 86), (2, 87), (0, ln2), (2, 88), (2, 89), (2, 90), (2, 91), (2, 92), (2, 93), (2, 94), (4, pt2), (4, wh2), (0, me2), (2, 95), (2, 96), (2, 97), (2, 98), (2, 99), (2, 100), (2, 101), (2, 102), (0, mt2), (2, 103), (2, 104), (2, 105), (2, 106), (2, 107), (2, 108), (2, 109), (0, pl2), (0, ps2), (2, 110), (2, 111), (2, 112), (2, 113)]) (hF188.get (by decide) (hF181.get (by decide) hcl172)) rfl rfl rfl (fun w195 hk196 hb197 => ?_)
                          refine xg_t (xg_goto) ?_
                          refine xg_t (xg_blk (b := [(332, 1, 12, 0, 0, 0)]) rfl) ?_
                          have hf198 : fld w195 82 4 = sz2 := fld_of hk196
                          have hf199 : fld w195 82 5 = nx2 := fld_of hk196
                          have hf200 : fld w195 82 7 = 4 := fld_of hk196
                          have hf201 : fld w195 82 10 = wg2 := fld_of hk196
                          have hf202 : fld w195 82 14 = ln2 := fld_of hk196
                          have hu203 : mu w195 = 2 * (fld w195 82 4 - fld w195 82 5) + min 1 (fld w195 82 7) := rfl
                          have hu204 : mu w = 2 * (fld w 82 4 - fld w 82 5) + min 1 (fld w 82 7) := rfl
                          exact xg_e ⟨w195, ⟨rfl, rfl⟩, xMnv.up (S := [82]) hI187 (xFr.of (S := [82]) hb197 (by decide)) (List.forall_mem_cons.mpr ⟨(show cp82 (wget w195 82) from ⟨ir2, sg2, sz2, nx2, wr2, 4, nu2, wo2, wg2, ln2, pt2, wh2, me2, mt2, pl2, ps2, hk196, by omega, by omega, by omega, by omega, by omega, by omega, by omega, by omega, by omega, by omega, by omega, by omega, by omega, by omega, by omega⟩), fun _ h => absurd h List.not_mem_nil⟩), (((hF157.tr (hF181.up (by decide))).tr (hF188.up (by decide))).tr (xFr.of (S := [82]) hb197 (by decide))), ⟨by omega, fun _ => by omega, by omega, by omega⟩⟩
                        · have hc193u := hc193
                          unfold xbs at hc193u
                          refine xg_t (xg_icT (u := (nx2 + (4294967296 - wr2)) % 4294967296) (v := 4) rfl xnm0 xnm0 (xjs_leT hc193)) ?_
                          refine xg_t (xg_blk (b := [(293, 1, 3, 1, 0, 0)]) rfl) ?_
                          refine xg_t (xg_const) ?_
                          refine xg_t (xg_blk (b := [(294, 3, 14, 12, 7, 151), (297, 3, 8, 332, 0, 0)]) rfl) ?_
                          refine xg_putI (fl1 := [(2, 83), (2, 84), (0, ir2), (0, sg2), (0, sz2), (0, nx2), (0, wr2), (0, 1), (0, nu2), (0, wo2), (0, wg2), (2, 85), (2, 86), (2, 87), (0, ln2), (2, 88), (2, 89), (2, 90), (2, 91), (2, 92), (2, 93), (2, 94), (4, pt2), (4, wh2), (0, me2), (2, 95), (2, 96), (2, 97), (2, 98), (2, 99), (2, 100), (2, 101), (2, 102), (0, mt2), (2, 103), (2, 104), (2, 105), (2, 106), (2, 107), (2, 108), (2, 109), (0, pl2), (0, ps2), (2, 110), (2, 111), (2, 112), (2, 113)]) (hF188.get (by decide) (hF181.get (by decide) hcl172)) rfl rfl rfl (fun w205 hk206 hb207 => ?_)
                          refine xg_t (xg_goto) ?_
                          refine xg_t (xg_blk (b := [(332, 1, 12, 0, 0, 0)]) rfl) ?_
                          have hf208 : fld w205 82 4 = sz2 := fld_of hk206
                          have hf209 : fld w205 82 5 = nx2 := fld_of hk206
                          have hf210 : fld w205 82 7 = 1 := fld_of hk206
                          have hf211 : fld w205 82 10 = wg2 := fld_of hk206
                          have hf212 : fld w205 82 14 = ln2 := fld_of hk206
                          have hu213 : mu w205 = 2 * (fld w205 82 4 - fld w205 82 5) + min 1 (fld w205 82 7) := rfl
                          have hu214 : mu w = 2 * (fld w 82 4 - fld w 82 5) + min 1 (fld w 82 7) := rfl
                          exact xg_e ⟨w205, ⟨rfl, rfl⟩, xMnv.up (S := [82]) hI187 (xFr.of (S := [82]) hb207 (by decide)) (List.forall_mem_cons.mpr ⟨(show cp82 (wget w205 82) from ⟨ir2, sg2, sz2, nx2, wr2, 1, nu2, wo2, wg2, ln2, pt2, wh2, me2, mt2, pl2, ps2, hk206, by omega, by omega, by omega, by omega, by omega, by omega, by omega, by omega, by omega, by omega, by omega, by omega, by omega, by omega, by omega⟩), fun _ h => absurd h List.not_mem_nil⟩), (((hF157.tr (hF181.up (by decide))).tr (hF188.up (by decide))).tr (xFr.of (S := [82]) hb207 (by decide))), ⟨by omega, fun _ => by omega, by omega, by omega⟩⟩
                      · have hz217 : 2147483649 ≤ (nx2 + (4294967296 - wr2)) % 4294967296 := by omega
                        refine xg_t (xg_isub (u := nx2) (v := wr2) (z := (nx2 + (4294967296 - wr2)) % 4294967296) xnm0 xnm0 rfl) ?_
                        have hz216 : (nx2 + (4294967296 - wr2)) % 4294967296 < 4294967296 := Nat.mod_lt _ (by decide)
                        generalize (nx2 + (4294967296 - wr2)) % 4294967296 = z215 at hz217 hz216 ⊢
                        refine xg_t (xg_const) ?_
                        refine xg_t (xg_icT (u := z215) (v := 4) rfl xnm0 xnm0 (xjs_leT (by unfold xbs; omega))) ?_
                        refine xg_t (xg_blk (b := [(293, 1, 3, 1, 0, 0)]) rfl) ?_
                        refine xg_t (xg_const) ?_
                        refine xg_t (xg_blk (b := [(294, 3, 14, 12, 7, 151), (297, 3, 8, 332, 0, 0)]) rfl) ?_
                        refine xg_putI (fl1 := [(2, 83), (2, 84), (0, ir2), (0, sg2), (0, sz2), (0, nx2), (0, wr2), (0, 1), (0, nu2), (0, wo2), (0, wg2), (2, 85), (2, 86), (2, 87), (0, ln2), (2, 88), (2, 89), (2, 90), (2, 91), (2, 92), (2, 93), (2, 94), (4, pt2), (4, wh2), (0, me2), (2, 95), (2, 96), (2, 97), (2, 98), (2, 99), (2, 100), (2, 101), (2, 102), (0, mt2), (2, 103), (2, 104), (2, 105), (2, 106), (2, 107), (2, 108), (2, 109), (0, pl2), (0, ps2), (2, 110), (2, 111), (2, 112), (2, 113)]) (hF188.get (by decide) (hF181.get (by decide) hcl172)) rfl rfl rfl (fun w218 hk219 hb220 => ?_)
                        refine xg_t (xg_goto) ?_
                        refine xg_t (xg_blk (b := [(332, 1, 12, 0, 0, 0)]) rfl) ?_
                        have hf221 : fld w218 82 4 = sz2 := fld_of hk219
                        have hf222 : fld w218 82 5 = nx2 := fld_of hk219
                        have hf223 : fld w218 82 7 = 1 := fld_of hk219
                        have hf224 : fld w218 82 10 = wg2 := fld_of hk219
                        have hf225 : fld w218 82 14 = ln2 := fld_of hk219
                        have hu226 : mu w218 = 2 * (fld w218 82 4 - fld w218 82 5) + min 1 (fld w218 82 7) := rfl
                        have hu227 : mu w = 2 * (fld w 82 4 - fld w 82 5) + min 1 (fld w 82 7) := rfl
                        exact xg_e ⟨w218, ⟨rfl, rfl⟩, xMnv.up (S := [82]) hI187 (xFr.of (S := [82]) hb220 (by decide)) (List.forall_mem_cons.mpr ⟨(show cp82 (wget w218 82) from ⟨ir2, sg2, sz2, nx2, wr2, 1, nu2, wo2, wg2, ln2, pt2, wh2, me2, mt2, pl2, ps2, hk219, by omega, by omega, by omega, by omega, by omega, by omega, by omega, by omega, by omega, by omega, by omega, by omega, by omega, by omega, by omega⟩), fun _ h => absurd h List.not_mem_nil⟩), (((hF157.tr (hF181.up (by decide))).tr (hF188.up (by decide))).tr (xFr.of (S := [82]) hb220 (by decide))), ⟨by omega, fun _ => by omega, by omega, by omega⟩⟩
                    · refine xg_t (xg_ifF (u := n189) rfl xnm0 (xj_eqF hc191)) ?_
                      refine xg_t (xg_aload (va := (2, 82)) rfl rfl) ?_
                      refine xg_t (xg_getf (va := (0, nx2)) (hF188.get (by decide) (hF181.get (by decide) hcl172)) rfl) ?_
                      refine xg_t (xg_aload (va := (2, 82)) rfl rfl) ?_
                      refine xg_t (xg_getf (va := (0, wr2)) (hF188.get (by decide) (hF181.get (by decide) hcl172)) rfl) ?_
                      by_cases hc228 : wr2 ≤ nx2
                      · refine xg_t (xg_isub (u := nx2) (v := wr2) (z := (nx2 + (4294967296 - wr2)) % 4294967296) xnm0 xnm0 (rfl)) ?_
                        refine xg_t (xg_const) ?_
                        by_cases hc229 : xbs ((nx2 + (4294967296 - wr2)) % 4294967296) < xbs 4
                        · have hc229u := hc229
                          unfold xbs at hc229u
                          refine xg_t (xg_icF (u := (nx2 + (4294967296 - wr2)) % 4294967296) (v := 4) rfl xnm0 xnm0 (xjs_geF hc229)) ?_
                          refine xg_t (xg_aload (va := (2, 82)) rfl rfl) ?_
                          refine xg_t (xg_bip) ?_
                          refine xg_t (xg_aload (va := (2, 82)) rfl rfl) ?_
                          refine xg_t (xg_getf (va := (0, nu2)) (hF188.get (by decide) (hF181.get (by decide) hcl172)) rfl) ?_
                          refine xg_k (xg_imul (u := 10) (v := nu2) (z := (10 * nu2) % 4294967296) xnm0 xnm0 rfl) (Nat.mod_lt _ (by decide)) (fun z230 hz231 => ?_)
                          refine xg_t (xg_aload (va := (2, 82)) rfl rfl) ?_
                          refine xg_t (xg_aload (va := (2, 82)) rfl rfl) ?_
                          refine xg_t (xg_getf (va := (0, nx2)) (hF188.get (by decide) (hF181.get (by decide) hcl172)) rfl) ?_
                          have hf232 : fld w185 82 4 = sz2 := fld_of (hF188.get (by decide) (hF181.get (by decide) hcl172))
                          refine xg_cVi mX12_byteAt (vs := [(0, nx2)]) (rest := [(0, z230), (2, 82)]) (cn1 := 0) (sl1 := 0) rfl (mByteAt (hI187) (by omega) (((h83_34.fr hF157 (by decide)).fr hF181 (by decide)).fr hF188 (by decide)) hb35 hx36) rfl (hF188.get (by decide) (hF181.get (by decide) hcl172)) rfl rfl rfl rfl rfl rfl (fun n237 w233 hq234 => ?_)
                          obtain ⟨hn238, hI235, hF236⟩ := hq234
                          have hl239 : n237 ≤ 4294967295 := by have q := hn238; have q2 := hb35 (400 + nx2); omega
                          refine xg_k (xg_iadd (u := z230) (v := n237) (z := (z230 + n237) % 4294967296) xnm0 xnm0 rfl) (Nat.mod_lt _ (by decide)) (fun z240 hz241 => ?_)
                          refine xg_t (xg_bip) ?_
                          refine xg_k (xg_isub (u := z240) (v := 48) (z := (z240 + (4294967296 - 48)) % 4294967296) xnm0 xnm0 rfl) (Nat.mod_lt _ (by decide)) (fun z242 hz243 => ?_)
                          refine xg_putI (fl1 := [(2, 83), (2, 84), (0, ir2), (0, sg2), (0, sz2), (0, nx2), (0, wr2), (0, tk2), (0, z242), (0, wo2), (0, wg2), (2, 85), (2, 86), (2, 87), (0, ln2), (2, 88), (2, 89), (2, 90), (2, 91), (2, 92), (2, 93), (2, 94), (4, pt2), (4, wh2), (0, me2), (2, 95), (2, 96), (2, 97), (2, 98), (2, 99), (2, 100), (2, 101), (2, 102), (0, mt2), (2, 103), (2, 104), (2, 105), (2, 106), (2, 107), (2, 108), (2, 109), (0, pl2), (0, ps2), (2, 110), (2, 111), (2, 112), (2, 113)]) (hF236.get (by decide) (hF188.get (by decide) (hF181.get (by decide) hcl172))) rfl rfl rfl (fun w244 hk245 hb246 => ?_)
                          refine xg_t (xg_blk (b := [(262, 1, 0, 0, 0, 0), (263, 1, 19, 0, 0, 0), (264, 3, 1, 12, 5, 141), (267, 1, 3, 1, 0, 0), (268, 1, 11, 0, 0, 0), (269, 3, 14, 12, 5, 141), (272, 3, 8, 212, 0, 0)]) rfl) ?_
                          refine xg_t (xg_aload (va := (2, 82)) rfl rfl) ?_
                          refine xg_t (xg_dup rfl) ?_
                          refine xg_t (xg_getf (va := (0, nx2)) hk245 rfl) ?_
                          refine xg_t (xg_const) ?_
                          refine xg_t (xg_iadd (u := nx2) (v := 1) (z := nx2 + 1) xnm0 xnm0 (by omega)) ?_
                          refine xg_putI (fl1 := [(2, 83), (2, 84), (0, ir2), (0, sg2), (0, sz2), (0, nx2 + 1), (0, wr2), (0, tk2), (0, z242), (0, wo2), (0, wg2), (2, 85), (2, 86), (2, 87), (0, ln2), (2, 88), (2, 89), (2, 90), (2, 91), (2, 92), (2, 93), (2, 94), (4, pt2), (4, wh2), (0, me2), (2, 95), (2, 96), (2, 97), (2, 98), (2, 99), (2, 100), (2, 101), (2, 102), (0, mt2), (2, 103), (2, 104), (2, 105), (2, 106), (2, 107), (2, 108), (2, 109), (0, pl2), (0, ps2), (2, 110), (2, 111), (2, 112), (2, 113)]) hk245 rfl rfl rfl (fun w247 hk248 hb249 => ?_)
                          refine xg_t (xg_goto) ?_
                          exact ih153 ir2 sg2 sz2 (nx2 + 1) wr2 tk2 z242 wo2 wg2 ln2 pt2 wh2 me2 mt2 pl2 ps2 w247 (by omega) (by omega) (by omega) (by omega) (by omega) (by omega) (by omega) (by omega) (by omega) (by omega) (by omega) (by omega) (by omega) (by omega) (by omega) hk248 (by omega) (xMnv.up (S := [82]) hI235 ((xFr.of (S := [82]) hb246 (by decide)).tr (xFr.of (S := [82]) hb249 (by decide))) (List.forall_mem_cons.mpr ⟨(show cp82 (wget w247 82) from ⟨ir2, sg2, sz2, nx2 + 1, wr2, tk2, z242, wo2, wg2, ln2, pt2, wh2, me2, mt2, pl2, ps2, hk248, by omega, by omega, by omega, by omega, by omega, by omega, by omega, by omega, by omega, by omega, by omega, by omega, by omega, by omega, by omega⟩), fun _ h => absurd h List.not_mem_nil⟩)) (((((hF157.tr (hF181.up (by decide))).tr (hF188.up (by decide))).tr (hF236.up (by decide))).tr ((xFr.of (S := [82]) hb246 (by decide)).tr (xFr.of (S := [82]) hb249 (by decide))))) (by omega)
                        · have hc229u := hc229
                          unfold xbs at hc229u
                          have hn250 : (nx2 + (4294967296 - wr2)) % 4294967296 ≤ 2147483647 := by omega
                          refine xg_t (xg_icT (u := (nx2 + (4294967296 - wr2)) % 4294967296) (v := 4) rfl xnm0 xnm0 (xjs_geT hc229)) ?_
                          refine xg_t (xg_blk (b := [(262, 1, 0, 0, 0, 0), (263, 1, 19, 0, 0, 0), (264, 3, 1, 12, 5, 141), (267, 1, 3, 1, 0, 0), (268, 1, 11, 0, 0, 0), (269, 3, 14, 12, 5, 141), (272, 3, 8, 212, 0, 0)]) rfl) ?_
                          refine xg_t (xg_aload (va := (2, 82)) rfl rfl) ?_
                          refine xg_t (xg_dup rfl) ?_
                          refine xg_t (xg_getf (va := (0, nx2)) (hF188.get (by decide) (hF181.get (by decide) hcl172)) rfl) ?_
                          refine xg_t (xg_const) ?_
                          refine xg_t (xg_iadd (u := nx2) (v := 1) (z := nx2 + 1) xnm0 xnm0 (by omega)) ?_
                          refine xg_putI (fl1 := [(2, 83), (2, 84), (0, ir2), (0, sg2), (0, sz2), (0, nx2 + 1), (0, wr2), (0, tk2), (0, nu2), (0, wo2), (0, wg2), (2, 85), (2, 86), (2, 87), (0, ln2), (2, 88), (2, 89), (2, 90), (2, 91), (2, 92), (2, 93), (2, 94), (4, pt2), (4, wh2), (0, me2), (2, 95), (2, 96), (2, 97), (2, 98), (2, 99), (2, 100), (2, 101), (2, 102), (0, mt2), (2, 103), (2, 104), (2, 105), (2, 106), (2, 107), (2, 108), (2, 109), (0, pl2), (0, ps2), (2, 110), (2, 111), (2, 112), (2, 113)]) (hF188.get (by decide) (hF181.get (by decide) hcl172)) rfl rfl rfl (fun w251 hk252 hb253 => ?_)
                          refine xg_t (xg_goto) ?_
                          exact ih153 ir2 sg2 sz2 (nx2 + 1) wr2 tk2 nu2 wo2 wg2 ln2 pt2 wh2 me2 mt2 pl2 ps2 w251 (by omega) (by omega) (by omega) (by omega) (by omega) (by omega) (by omega) (by omega) (by omega) (by omega) (by omega) (by omega) (by omega) (by omega) (by omega) hk252 (by omega) (xMnv.up (S := [82]) hI187 (xFr.of (S := [82]) hb253 (by decide)) (List.forall_mem_cons.mpr ⟨(show cp82 (wget w251 82) from ⟨ir2, sg2, sz2, nx2 + 1, wr2, tk2, nu2, wo2, wg2, ln2, pt2, wh2, me2, mt2, pl2, ps2, hk252, by omega, by omega, by omega, by omega, by omega, by omega, by omega, by omega, by omega, by omega, by omega, by omega, by omega, by omega, by omega⟩), fun _ h => absurd h List.not_mem_nil⟩)) ((((hF157.tr (hF181.up (by decide))).tr (hF188.up (by decide))).tr (xFr.of (S := [82]) hb253 (by decide)))) (by omega)
                      · have hz256 : 2147483649 ≤ (nx2 + (4294967296 - wr2)) % 4294967296 := by omega
                        refine xg_t (xg_isub (u := nx2) (v := wr2) (z := (nx2 + (4294967296 - wr2)) % 4294967296) xnm0 xnm0 rfl) ?_
                        have hz255 : (nx2 + (4294967296 - wr2)) % 4294967296 < 4294967296 := Nat.mod_lt _ (by decide)
                        generalize (nx2 + (4294967296 - wr2)) % 4294967296 = z254 at hz256 hz255 ⊢
                        refine xg_t (xg_const) ?_
                        refine xg_t (xg_icF (u := z254) (v := 4) rfl xnm0 xnm0 (xjs_geF (by unfold xbs; omega))) ?_
                        refine xg_t (xg_aload (va := (2, 82)) rfl rfl) ?_
                        refine xg_t (xg_bip) ?_
                        refine xg_t (xg_aload (va := (2, 82)) rfl rfl) ?_
                        refine xg_t (xg_getf (va := (0, nu2)) (hF188.get (by decide) (hF181.get (by decide) hcl172)) rfl) ?_
                        refine xg_k (xg_imul (u := 10) (v := nu2) (z := (10 * nu2) % 4294967296) xnm0 xnm0 rfl) (Nat.mod_lt _ (by decide)) (fun z257 hz258 => ?_)
                        refine xg_t (xg_aload (va := (2, 82)) rfl rfl) ?_
                        refine xg_t (xg_aload (va := (2, 82)) rfl rfl) ?_
                        refine xg_t (xg_getf (va := (0, nx2)) (hF188.get (by decide) (hF181.get (by decide) hcl172)) rfl) ?_
                        have hf259 : fld w185 82 4 = sz2 := fld_of (hF188.get (by decide) (hF181.get (by decide) hcl172))
                        refine xg_cVi mX12_byteAt (vs := [(0, nx2)]) (rest := [(0, z257), (2, 82)]) (cn1 := 0) (sl1 := 0) rfl (mByteAt (hI187) (by omega) (((h83_34.fr hF157 (by decide)).fr hF181 (by decide)).fr hF188 (by decide)) hb35 hx36) rfl (hF188.get (by decide) (hF181.get (by decide) hcl172)) rfl rfl rfl rfl rfl rfl (fun n264 w260 hq261 => ?_)
                        obtain ⟨hn265, hI262, hF263⟩ := hq261
                        have hl266 : n264 ≤ 4294967295 := by have q := hn265; have q2 := hb35 (400 + nx2); omega
                        refine xg_k (xg_iadd (u := z257) (v := n264) (z := (z257 + n264) % 4294967296) xnm0 xnm0 rfl) (Nat.mod_lt _ (by decide)) (fun z267 hz268 => ?_)
                        refine xg_t (xg_bip) ?_
                        refine xg_k (xg_isub (u := z267) (v := 48) (z := (z267 + (4294967296 - 48)) % 4294967296) xnm0 xnm0 rfl) (Nat.mod_lt _ (by decide)) (fun z269 hz270 => ?_)
                        refine xg_putI (fl1 := [(2, 83), (2, 84), (0, ir2), (0, sg2), (0, sz2), (0, nx2), (0, wr2), (0, tk2), (0, z269), (0, wo2), (0, wg2), (2, 85), (2, 86), (2, 87), (0, ln2), (2, 88), (2, 89), (2, 90), (2, 91), (2, 92), (2, 93), (2, 94), (4, pt2), (4, wh2), (0, me2), (2, 95), (2, 96), (2, 97), (2, 98), (2, 99), (2, 100), (2, 101), (2, 102), (0, mt2), (2, 103), (2, 104), (2, 105), (2, 106), (2, 107), (2, 108), (2, 109), (0, pl2), (0, ps2), (2, 110), (2, 111), (2, 112), (2, 113)]) (hF263.get (by decide) (hF188.get (by decide) (hF181.get (by decide) hcl172))) rfl rfl rfl (fun w271 hk272 hb273 => ?_)
                        refine xg_t (xg_blk (b := [(262, 1, 0, 0, 0, 0), (263, 1, 19, 0, 0, 0), (264, 3, 1, 12, 5, 141), (267, 1, 3, 1, 0, 0), (268, 1, 11, 0, 0, 0), (269, 3, 14, 12, 5, 141), (272, 3, 8, 212, 0, 0)]) rfl) ?_
                        refine xg_t (xg_aload (va := (2, 82)) rfl rfl) ?_
                        refine xg_t (xg_dup rfl) ?_
                        refine xg_t (xg_getf (va := (0, nx2)) hk272 rfl) ?_
                        refine xg_t (xg_const) ?_
                        refine xg_t (xg_iadd (u := nx2) (v := 1) (z := nx2 + 1) xnm0 xnm0 (by omega)) ?_
                        refine xg_putI (fl1 := [(2, 83), (2, 84), (0, ir2), (0, sg2), (0, sz2), (0, nx2 + 1), (0, wr2), (0, tk2), (0, z269), (0, wo2), (0, wg2), (2, 85), (2, 86), (2, 87), (0, ln2), (2, 88), (2, 89), (2, 90), (2, 91), (2, 92), (2, 93), (2, 94), (4, pt2), (4, wh2), (0, me2), (2, 95), (2, 96), (2, 97), (2, 98), (2, 99), (2, 100), (2, 101), (2, 102), (0, mt2), (2, 103), (2, 104), (2, 105), (2, 106), (2, 107), (2, 108), (2, 109), (0, pl2), (0, ps2), (2, 110), (2, 111), (2, 112), (2, 113)]) hk272 rfl rfl rfl (fun w274 hk275 hb276 => ?_)
                        refine xg_t (xg_goto) ?_
                        exact ih153 ir2 sg2 sz2 (nx2 + 1) wr2 tk2 z269 wo2 wg2 ln2 pt2 wh2 me2 mt2 pl2 ps2 w274 (by omega) (by omega) (by omega) (by omega) (by omega) (by omega) (by omega) (by omega) (by omega) (by omega) (by omega) (by omega) (by omega) (by omega) (by omega) hk275 (by omega) (xMnv.up (S := [82]) hI262 ((xFr.of (S := [82]) hb273 (by decide)).tr (xFr.of (S := [82]) hb276 (by decide))) (List.forall_mem_cons.mpr ⟨(show cp82 (wget w274 82) from ⟨ir2, sg2, sz2, nx2 + 1, wr2, tk2, z269, wo2, wg2, ln2, pt2, wh2, me2, mt2, pl2, ps2, hk275, by omega, by omega, by omega, by omega, by omega, by omega, by omega, by omega, by omega, by omega, by omega, by omega, by omega, by omega, by omega⟩), fun _ h => absurd h List.not_mem_nil⟩)) (((((hF157.tr (hF181.up (by decide))).tr (hF188.up (by decide))).tr (hF263.up (by decide))).tr ((xFr.of (S := [82]) hb273 (by decide)).tr (xFr.of (S := [82]) hb276 (by decide))))) (by omega)
                exact key152 _ ir0 sg0 sz0 nx0 nx0 tk0 0 wo0 wg0 ln0 pt0 wh0 me0 mt0 pl0 ps0 w149 (Nat.lt_succ_self _) (by omega) (by omega) (by omega) (by omega) (by omega) (by omega) (by omega) (by omega) (by omega) (by omega) (by omega) (by omega) (by omega) (by omega) hk150 (by omega) (xMnv.up (S := [82]) hI111 (xFr.of (S := [82]) hb151 (by decide)) (List.forall_mem_cons.mpr ⟨(show cp82 (wget w149 82) from ⟨ir0, sg0, sz0, nx0, nx0, tk0, 0, wo0, wg0, ln0, pt0, wh0, me0, mt0, pl0, ps0, hk150, by omega, by omega, by omega, by omega, by omega, by omega, by omega, by omega, by omega, by omega, by omega, by omega, by omega, by omega, by omega⟩), fun _ h => absurd h List.not_mem_nil⟩)) ((((((((hF47.tr (hF70.up (by decide))).tr (hF82.up (by decide))).tr (xFr.of (S := [82]) hb92 (by decide))).tr (hF97.up (by decide))).tr (hF105.up (by decide))).tr (hF112.up (by decide))).tr (xFr.of (S := [82]) hb151 (by decide)))) (by omega)
            · refine xg_t (xg_ifF (u := n106) rfl xnm0 (xj_eqF hc108)) ?_
              refine xg_t (xg_lconst) ?_
              refine xg_t (xg_lstore (l1 := [(1, (0, n98)), (0, (2, 82))]) rfl rfl) ?_
              refine xg_t (xg_drop (l1 := [(0, (2, 82)), (1, (0, n98)), (2, (4, 0))]) (List.forall_mem_cons.mpr ⟨List.mem_cons_of_mem _ (List.mem_cons_of_mem _ (List.mem_cons_self)), List.forall_mem_cons.mpr ⟨List.mem_cons_of_mem _ (List.mem_cons_self), List.forall_mem_cons.mpr ⟨List.mem_cons_self, fun _ h => absurd h List.not_mem_nil⟩⟩⟩)) ?_
              have key277 : ∀ (m279 : Nat) (v7 ir7 sg7 sz7 nx7 wr7 tk7 nu7 wo7 wg7 ln7 pt7 wh7 me7 mt7 pl7 ps7 : Nat) (w280 : List (List xE)), 500 - nx7 < m279 → v7 = v7 → ir7 ≤ 1 → sg7 ≤ 4294967295 → sz7 ≤ 500 → nx7 ≤ 500 → wr7 ≤ 4294967295 → tk7 ≤ 4 → nu7 ≤ 4294967295 → wo7 ≤ 4294967295 → wg7 ≤ 1 → ln7 ≤ 4294967295 → me7 ≤ 4294967295 → mt7 ≤ 36 → pl7 ≤ 100 → ps7 ≤ 200 → wget w280 82 = some (.inl (12, [(2, 83), (2, 84), (0, ir7), (0, sg7), (0, sz7), (0, nx7), (0, wr7), (0, tk7), (0, nu7), (0, wo7), (0, wg7), (2, 85), (2, 86), (2, 87), (0, ln7), (2, 88), (2, 89), (2, 90), (2, 91), (2, 92), (2, 93), (2, 94), (4, pt7), (4, wh7), (0, me7), (2, 95), (2, 96), (2, 97), (2, 98), (2, 99), (2, 100), (2, 101), (2, 102), (0, mt7), (2, 103), (2, 104), (2, 105), (2, 106), (2, 107), (2, 108), (2, 109), (0, pl7), (0, ps7), (2, 110), (2, 111), (2, 112), (2, 113)])) → (nx7 ≤ sz7) → xMnv w280 → xFr [82] w w280 → (sz7 = f82_5 ∧ f82_7 ≤ nx7 ∧ wg7 = f82_17 ∧ ln7 = f82_19 ∧ f82_7 ≤ wr7 ∧ wr7 ≤ nx7 ∧ (wr7 < nx7 ∨ (97 ≤ g83_33 (400 + wr7) ∧ g83_33 (400 + wr7) ≤ 122 ∧ wr7 < sz7))) → xTo (d + 4) mX12_advance (77, [], [(0, (2, 82)), (1, (0, n98)), (2, (4, v7))], [], (w280, bd, fc, 0, 0, rr)) (fun φ => ∃ w', xEnd 0 [] (w', bd, fc, 0, 0, rr) φ ∧ xMnv w' ∧ xFr [82] w w' ∧ (mu w' ≤ mu w ∧ (fld w 82 7 ≠ 0 → mu w' < mu w) ∧ fld w' 82 10 = fld w 82 10 ∧ fld w' 82 14 = fld w 82 14)) := by
                intro m279
                induction m279 with
                | zero => intro v7 ir7 sg7 sz7 nx7 wr7 tk7 nu7 wo7 wg7 ln7 pt7 wh7 me7 mt7 pl7 ps7 w280 hz; exact absurd hz (Nat.not_lt_zero _)
                | succ m279 ih278 =>
                  intro v7 ir7 sg7 sz7 nx7 wr7 tk7 nu7 wo7 wg7 ln7 pt7 wh7 me7 mt7 pl7 ps7 w280 hm301 hn283 hn284 hn285 hn286 hn287 hn288 hn289 hn290 hn291 hn292 hn293 hn294 hn295 hn296 hn297 hcl298 hx299 hI281 hF282 he300
                  have hcg302 : nx7 = wr7 → g83_33 (400 + nx7) = g83_33 (400 + wr7) := fun e => by rw [e]
                  refine xg_t (xg_blk (b := [(77, 1, 0, 0, 0, 0), (78, 1, 0, 0, 0, 0), (79, 3, 1, 12, 5, 141), (82, 3, 13, 125, 96, 144), (85, 3, 13, 166, 98, 154), (88, 3, 7, 138, 0, 0), (91, 1, 0, 0, 0, 0), (92, 3, 1, 12, 5, 141), (95, 1, 0, 0, 0, 0), (96, 3, 1, 12, 6, 148), (99, 1, 18, 0, 0, 0), (100, 2, 4, 7, 0, 0), (102, 3, 6, 125, 3, 0), (105, 3, 52, 32, 0, 113), (108, 1, 53, 2, 0, 0), (109, 1, 55, 0, 0, 0), (110, 1, 0, 0, 0, 0), (111, 1, 0, 0, 0, 0), (112, 3, 1, 12, 5, 141), (115, 3, 13, 125, 96, 144), (118, 1, 49, 0, 0, 0), (119, 1, 56, 0, 0, 0), (120, 3, 52, 96, 0, 115), (123, 1, 66, 0, 0, 0), (124, 1, 54, 2, 0, 0)]) rfl) ?_
                  refine xg_t (xg_aload (va := (2, 82)) rfl rfl) ?_
                  refine xg_t (xg_aload (va := (2, 82)) rfl rfl) ?_
                  refine xg_t (xg_getf (va := (0, nx7)) hcl298 rfl) ?_
                  have hf303 : fld w280 82 4 = sz7 := fld_of hcl298
                  refine xg_cVi mX12_byteAt (vs := [(0, nx7)]) (rest := []) (cn1 := 0) (sl1 := 0) rfl (mByteAt (hI281) (by omega) (h83_34.fr hF282 (by decide)) hb35 hx36) rfl hcl298 rfl rfl rfl rfl rfl rfl (fun n308 w304 hq305 => ?_)
                  obtain ⟨hn309, hI306, hF307⟩ := hq305
                  have hl310 : n308 ≤ 4294967295 := by have q := hn309; have q2 := hb35 (400 + nx7); omega
                  refine xg_cSi mX12_isLetter (vs := [(0, n308)]) (rest := []) (cn1 := 0) (sl1 := 0) rfl (mLetter (hI306) (by omega)) rfl rfl rfl rfl rfl rfl rfl (fun n315 w311 hq312 => ?_)
                  obtain ⟨hn316, hI313, hF314⟩ := hq312
                  by_cases hc317 : n315 = 0
                  · refine xg_t (xg_ifT (u := n315) rfl xnm0 (xj_eqT hc317)) ?_
                    refine xg_t (xg_blk (b := [(138, 1, 0, 0, 0, 0), (139, 1, 0, 0, 0, 0), (140, 3, 1, 12, 5, 141), (143, 1, 0, 0, 0, 0), (144, 3, 1, 12, 6, 148), (147, 1, 18, 0, 0, 0), (148, 2, 4, 6, 0, 0), (150, 3, 6, 158, 5, 0), (153, 2, 4, 99, 0, 0), (155, 3, 8, 176, 0, 0)]) rfl) ?_
                    refine xg_t (xg_aload (va := (2, 82)) rfl rfl) ?_
                    refine xg_t (xg_aload (va := (2, 82)) rfl rfl) ?_
                    refine xg_t (xg_getf (va := (0, nx7)) (hF314.get (by decide) (hF307.get (by decide) hcl298)) rfl) ?_
                    refine xg_t (xg_aload (va := (2, 82)) rfl rfl) ?_
                    refine xg_t (xg_getf (va := (0, wr7)) (hF314.get (by decide) (hF307.get (by decide) hcl298)) rfl) ?_
                    by_cases hc318 : wr7 ≤ nx7
                    · refine xg_t (xg_isub (u := nx7) (v := wr7) (z := (nx7 + (4294967296 - wr7)) % 4294967296) xnm0 xnm0 (rfl)) ?_
                      refine xg_t (xg_bip) ?_
                      by_cases hc319 : xbs 6 < xbs ((nx7 + (4294967296 - wr7)) % 4294967296)
                      · have hc319u := hc319
                        unfold xbs at hc319u
                        have hn320 : (nx7 + (4294967296 - wr7)) % 4294967296 ≤ 2147483647 := by omega
                        refine xg_t (xg_icF (u := (nx7 + (4294967296 - wr7)) % 4294967296) (v := 6) rfl xnm0 xnm0 (xjs_leF hc319)) ?_
                        refine xg_t (xg_bip) ?_
                        refine xg_t (xg_goto) ?_
                        refine xg_t (xg_blk (b := [(176, 3, 14, 12, 9, 165), (179, 1, 0, 0, 0, 0), (180, 1, 0, 0, 0, 0), (181, 3, 1, 12, 9, 165), (184, 2, 4, 99, 0, 0), (186, 3, 6, 193, 1, 0), (189, 1, 3, 4, 0, 0), (190, 3, 8, 194, 0, 0)]) rfl) ?_
                        refine xg_putI (fl1 := [(2, 83), (2, 84), (0, ir7), (0, sg7), (0, sz7), (0, nx7), (0, wr7), (0, tk7), (0, nu7), (0, 99), (0, wg7), (2, 85), (2, 86), (2, 87), (0, ln7), (2, 88), (2, 89), (2, 90), (2, 91), (2, 92), (2, 93), (2, 94), (4, pt7), (4, wh7), (0, me7), (2, 95), (2, 96), (2, 97), (2, 98), (2, 99), (2, 100), (2, 101), (2, 102), (0, mt7), (2, 103), (2, 104), (2, 105), (2, 106), (2, 107), (2, 108), (2, 109), (0, pl7), (0, ps7), (2, 110), (2, 111), (2, 112), (2, 113)]) (hF314.get (by decide) (hF307.get (by decide) hcl298)) rfl rfl rfl (fun w321 hk322 hb323 => ?_)
                        refine xg_t (xg_aload (va := (2, 82)) rfl rfl) ?_
                        refine xg_t (xg_aload (va := (2, 82)) rfl rfl) ?_
                        refine xg_t (xg_getf (va := (0, 99)) hk322 rfl) ?_
                        refine xg_t (xg_bip) ?_
                        refine xg_t (xg_icF (u := 99) (v := 99) rfl xnm0 xnm0 (by decide)) ?_
                        refine xg_t (xg_const) ?_
                        refine xg_t (xg_goto) ?_
                        refine xg_t (xg_blk (b := [(194, 3, 14, 12, 7, 151), (197, 3, 8, 332, 0, 0)]) rfl) ?_
                        refine xg_putI (fl1 := [(2, 83), (2, 84), (0, ir7), (0, sg7), (0, sz7), (0, nx7), (0, wr7), (0, 4), (0, nu7), (0, 99), (0, wg7), (2, 85), (2, 86), (2, 87), (0, ln7), (2, 88), (2, 89), (2, 90), (2, 91), (2, 92), (2, 93), (2, 94), (4, pt7), (4, wh7), (0, me7), (2, 95), (2, 96), (2, 97), (2, 98), (2, 99), (2, 100), (2, 101), (2, 102), (0, mt7), (2, 103), (2, 104), (2, 105), (2, 106), (2, 107), (2, 108), (2, 109), (0, pl7), (0, ps7), (2, 110), (2, 111), (2, 112), (2, 113)]) hk322 rfl rfl rfl (fun w324 hk325 hb326 => ?_)
                        refine xg_t (xg_goto) ?_
                        refine xg_t (xg_blk (b := [(332, 1, 12, 0, 0, 0)]) rfl) ?_
                        have hf327 : fld w324 82 4 = sz7 := fld_of hk325
                        have hf328 : fld w324 82 5 = nx7 := fld_of hk325
                        have hf329 : fld w324 82 7 = 4 := fld_of hk325
                        have hf330 : fld w324 82 10 = wg7 := fld_of hk325
                        have hf331 : fld w324 82 14 = ln7 := fld_of hk325
                        have hu332 : mu w324 = 2 * (fld w324 82 4 - fld w324 82 5) + min 1 (fld w324 82 7) := rfl
                        have hu333 : mu w = 2 * (fld w 82 4 - fld w 82 5) + min 1 (fld w 82 7) := rfl
                        exact xg_e ⟨w324, ⟨rfl, rfl⟩, xMnv.up (S := [82]) hI313 ((xFr.of (S := [82]) hb323 (by decide)).tr (xFr.of (S := [82]) hb326 (by decide))) (List.forall_mem_cons.mpr ⟨(show cp82 (wget w324 82) from ⟨ir7, sg7, sz7, nx7, wr7, 4, nu7, 99, wg7, ln7, pt7, wh7, me7, mt7, pl7, ps7, hk325, by omega, by omega, by omega, by omega, by omega, by omega, by omega, by omega, by omega, by omega, by omega, by omega, by omega, by omega, by omega⟩), fun _ h => absurd h List.not_mem_nil⟩), (((hF282.tr (hF307.up (by decide))).tr (hF314.up (by decide))).tr ((xFr.of (S := [82]) hb323 (by decide)).tr (xFr.of (S := [82]) hb326 (by decide)))), ⟨by omega, fun _ => by omega, by omega, by omega⟩⟩
                      · have hc319u := hc319
                        unfold xbs at hc319u
                        refine xg_t (xg_icT (u := (nx7 + (4294967296 - wr7)) % 4294967296) (v := 6) rfl xnm0 xnm0 (xjs_leT hc319)) ?_
                        refine xg_t (xg_blk (b := [(158, 1, 0, 0, 0, 0), (159, 3, 1, 12, 2, 137), (162, 3, 7, 172, 0, 0), (165, 1, 53, 2, 0, 0), (166, 3, 13, 215, 98, 158), (169, 3, 8, 176, 0, 0)]) rfl) ?_
                        refine xg_t (xg_aload (va := (2, 82)) rfl rfl) ?_
                        refine xg_t (xg_getf (va := (0, ir7)) (hF314.get (by decide) (hF307.get (by decide) hcl298)) rfl) ?_
                        by_cases hc334 : ir7 = 0
                        · refine xg_t (xg_ifT (u := ir7) rfl xnm0 (xj_eqT hc334)) ?_
                          refine xg_t (xg_blk (b := [(172, 1, 53, 2, 0, 0), (173, 3, 13, 238, 98, 162)]) rfl) ?_
                          refine xg_t (xg_lload (u := v7) rfl) ?_
                          refine xg_cSi mX12_wordOf (vs := [(4, v7)]) (rest := [(2, 82)]) (cn1 := 0) (sl1 := 0) rfl (mWordOf (hI313)) rfl rfl rfl rfl rfl rfl rfl (fun n339 w335 hq336 => ?_)
                          obtain ⟨hn340, hI337, hF338⟩ := hq336
                          refine xg_t (xg_blk (b := [(176, 3, 14, 12, 9, 165), (179, 1, 0, 0, 0, 0), (180, 1, 0, 0, 0, 0), (181, 3, 1, 12, 9, 165), (184, 2, 4, 99, 0, 0), (186, 3, 6, 193, 1, 0), (189, 1, 3, 4, 0, 0), (190, 3, 8, 194, 0, 0)]) rfl) ?_
                          refine xg_putI (fl1 := [(2, 83), (2, 84), (0, ir7), (0, sg7), (0, sz7), (0, nx7), (0, wr7), (0, tk7), (0, nu7), (0, n339), (0, wg7), (2, 85), (2, 86), (2, 87), (0, ln7), (2, 88), (2, 89), (2, 90), (2, 91), (2, 92), (2, 93), (2, 94), (4, pt7), (4, wh7), (0, me7), (2, 95), (2, 96), (2, 97), (2, 98), (2, 99), (2, 100), (2, 101), (2, 102), (0, mt7), (2, 103), (2, 104), (2, 105), (2, 106), (2, 107), (2, 108), (2, 109), (0, pl7), (0, ps7), (2, 110), (2, 111), (2, 112), (2, 113)]) (hF338.get (by decide) (hF314.get (by decide) (hF307.get (by decide) hcl298))) rfl rfl rfl (fun w341 hk342 hb343 => ?_)
                          refine xg_t (xg_aload (va := (2, 82)) rfl rfl) ?_
                          refine xg_t (xg_aload (va := (2, 82)) rfl rfl) ?_
                          refine xg_t (xg_getf (va := (0, n339)) hk342 rfl) ?_
                          refine xg_t (xg_bip) ?_
                          by_cases hc344 : n339 = 99
                          · refine xg_t (xg_icF (u := n339) (v := 99) rfl xnm0 xnm0 (xj_neF hc344)) ?_
                            refine xg_t (xg_const) ?_
                            refine xg_t (xg_goto) ?_
                            refine xg_t (xg_blk (b := [(194, 3, 14, 12, 7, 151), (197, 3, 8, 332, 0, 0)]) rfl) ?_
                            refine xg_putI (fl1 := [(2, 83), (2, 84), (0, ir7), (0, sg7), (0, sz7), (0, nx7), (0, wr7), (0, 4), (0, nu7), (0, n339), (0, wg7), (2, 85), (2, 86), (2, 87), (0, ln7), (2, 88), (2, 89), (2, 90), (2, 91), (2, 92), (2, 93), (2, 94), (4, pt7), (4, wh7), (0, me7), (2, 95), (2, 96), (2, 97), (2, 98), (2, 99), (2, 100), (2, 101), (2, 102), (0, mt7), (2, 103), (2, 104), (2, 105), (2, 106), (2, 107), (2, 108), (2, 109), (0, pl7), (0, ps7), (2, 110), (2, 111), (2, 112), (2, 113)]) hk342 rfl rfl rfl (fun w345 hk346 hb347 => ?_)
                            refine xg_t (xg_goto) ?_
                            refine xg_t (xg_blk (b := [(332, 1, 12, 0, 0, 0)]) rfl) ?_
                            have hf348 : fld w345 82 4 = sz7 := fld_of hk346
                            have hf349 : fld w345 82 5 = nx7 := fld_of hk346
                            have hf350 : fld w345 82 7 = 4 := fld_of hk346
                            have hf351 : fld w345 82 10 = wg7 := fld_of hk346
                            have hf352 : fld w345 82 14 = ln7 := fld_of hk346
                            have hu353 : mu w345 = 2 * (fld w345 82 4 - fld w345 82 5) + min 1 (fld w345 82 7) := rfl
                            have hu354 : mu w = 2 * (fld w 82 4 - fld w 82 5) + min 1 (fld w 82 7) := rfl
                            exact xg_e ⟨w345, ⟨rfl, rfl⟩, xMnv.up (S := [82]) hI337 ((xFr.of (S := [82]) hb343 (by decide)).tr (xFr.of (S := [82]) hb347 (by decide))) (List.forall_mem_cons.mpr ⟨(show cp82 (wget w345 82) from ⟨ir7, sg7, sz7, nx7, wr7, 4, nu7, n339, wg7, ln7, pt7, wh7, me7, mt7, pl7, ps7, hk346, by omega, by omega, by omega, by omega, by omega, by omega, by omega, by omega, by omega, by omega, by omega, by omega, by omega, by omega, by omega⟩), fun _ h => absurd h List.not_mem_nil⟩), ((((hF282.tr (hF307.up (by decide))).tr (hF314.up (by decide))).tr (hF338.up (by decide))).tr ((xFr.of (S := [82]) hb343 (by decide)).tr (xFr.of (S := [82]) hb347 (by decide)))), ⟨by omega, fun _ => by omega, by omega, by omega⟩⟩
                          · refine xg_t (xg_icT (u := n339) (v := 99) rfl xnm0 xnm0 (xj_neT hc344)) ?_
                            refine xg_t (xg_blk (b := [(193, 1, 3, 3, 0, 0)]) rfl) ?_
                            refine xg_t (xg_const) ?_
                            refine xg_t (xg_blk (b := [(194, 3, 14, 12, 7, 151), (197, 3, 8, 332, 0, 0)]) rfl) ?_
                            refine xg_putI (fl1 := [(2, 83), (2, 84), (0, ir7), (0, sg7), (0, sz7), (0, nx7), (0, wr7), (0, 3), (0, nu7), (0, n339), (0, wg7), (2, 85), (2, 86), (2, 87), (0, ln7), (2, 88), (2, 89), (2, 90), (2, 91), (2, 92), (2, 93), (2, 94), (4, pt7), (4, wh7), (0, me7), (2, 95), (2, 96), (2, 97), (2, 98), (2, 99), (2, 100), (2, 101), (2, 102), (0, mt7), (2, 103), (2, 104), (2, 105), (2, 106), (2, 107), (2, 108), (2, 109), (0, pl7), (0, ps7), (2, 110), (2, 111), (2, 112), (2, 113)]) hk342 rfl rfl rfl (fun w355 hk356 hb357 => ?_)
                            refine xg_t (xg_goto) ?_
                            refine xg_t (xg_blk (b := [(332, 1, 12, 0, 0, 0)]) rfl) ?_
                            have hf358 : fld w355 82 4 = sz7 := fld_of hk356
                            have hf359 : fld w355 82 5 = nx7 := fld_of hk356
                            have hf360 : fld w355 82 7 = 3 := fld_of hk356
                            have hf361 : fld w355 82 10 = wg7 := fld_of hk356
                            have hf362 : fld w355 82 14 = ln7 := fld_of hk356
                            have hu363 : mu w355 = 2 * (fld w355 82 4 - fld w355 82 5) + min 1 (fld w355 82 7) := rfl
                            have hu364 : mu w = 2 * (fld w 82 4 - fld w 82 5) + min 1 (fld w 82 7) := rfl
                            exact xg_e ⟨w355, ⟨rfl, rfl⟩, xMnv.up (S := [82]) hI337 ((xFr.of (S := [82]) hb343 (by decide)).tr (xFr.of (S := [82]) hb357 (by decide))) (List.forall_mem_cons.mpr ⟨(show cp82 (wget w355 82) from ⟨ir7, sg7, sz7, nx7, wr7, 3, nu7, n339, wg7, ln7, pt7, wh7, me7, mt7, pl7, ps7, hk356, by omega, by omega, by omega, by omega, by omega, by omega, by omega, by omega, by omega, by omega, by omega, by omega, by omega, by omega, by omega⟩), fun _ h => absurd h List.not_mem_nil⟩), ((((hF282.tr (hF307.up (by decide))).tr (hF314.up (by decide))).tr (hF338.up (by decide))).tr ((xFr.of (S := [82]) hb343 (by decide)).tr (xFr.of (S := [82]) hb357 (by decide)))), ⟨by omega, fun _ => by omega, by omega, by omega⟩⟩
                        · refine xg_t (xg_ifF (u := ir7) rfl xnm0 (xj_eqF hc334)) ?_
                          refine xg_t (xg_lload (u := v7) rfl) ?_
                          refine xg_cSi mX12_ruleWordOf (vs := [(4, v7)]) (rest := [(2, 82)]) (cn1 := 0) (sl1 := 0) rfl (mRuleWordOf (hI313)) rfl rfl rfl rfl rfl rfl rfl (fun n369 w365 hq366 => ?_)
                          obtain ⟨hn370, hI367, hF368⟩ := hq366
                          refine xg_t (xg_goto) ?_
                          refine xg_t (xg_blk (b := [(176, 3, 14, 12, 9, 165), (179, 1, 0, 0, 0, 0), (180, 1, 0, 0, 0, 0), (181, 3, 1, 12, 9, 165), (184, 2, 4, 99, 0, 0), (186, 3, 6, 193, 1, 0), (189, 1, 3, 4, 0, 0), (190, 3, 8, 194, 0, 0)]) rfl) ?_
                          refine xg_putI (fl1 := [(2, 83), (2, 84), (0, ir7), (0, sg7), (0, sz7), (0, nx7), (0, wr7), (0, tk7), (0, nu7), (0, n369), (0, wg7), (2, 85), (2, 86), (2, 87), (0, ln7), (2, 88), (2, 89), (2, 90), (2, 91), (2, 92), (2, 93), (2, 94), (4, pt7), (4, wh7), (0, me7), (2, 95), (2, 96), (2, 97), (2, 98), (2, 99), (2, 100), (2, 101), (2, 102), (0, mt7), (2, 103), (2, 104), (2, 105), (2, 106), (2, 107), (2, 108), (2, 109), (0, pl7), (0, ps7), (2, 110), (2, 111), (2, 112), (2, 113)]) (hF368.get (by decide) (hF314.get (by decide) (hF307.get (by decide) hcl298))) rfl rfl rfl (fun w371 hk372 hb373 => ?_)
                          refine xg_t (xg_aload (va := (2, 82)) rfl rfl) ?_
                          refine xg_t (xg_aload (va := (2, 82)) rfl rfl) ?_
                          refine xg_t (xg_getf (va := (0, n369)) hk372 rfl) ?_
                          refine xg_t (xg_bip) ?_
                          by_cases hc374 : n369 = 99
                          · refine xg_t (xg_icF (u := n369) (v := 99) rfl xnm0 xnm0 (xj_neF hc374)) ?_
                            refine xg_t (xg_const) ?_
                            refine xg_t (xg_goto) ?_
                            refine xg_t (xg_blk (b := [(194, 3, 14, 12, 7, 151), (197, 3, 8, 332, 0, 0)]) rfl) ?_
                            refine xg_putI (fl1 := [(2, 83), (2, 84), (0, ir7), (0, sg7), (0, sz7), (0, nx7), (0, wr7), (0, 4), (0, nu7), (0, n369), (0, wg7), (2, 85), (2, 86), (2, 87), (0, ln7), (2, 88), (2, 89), (2, 90), (2, 91), (2, 92), (2, 93), (2, 94), (4, pt7), (4, wh7), (0, me7), (2, 95), (2, 96), (2, 97), (2, 98), (2, 99), (2, 100), (2, 101), (2, 102), (0, mt7), (2, 103), (2, 104), (2, 105), (2, 106), (2, 107), (2, 108), (2, 109), (0, pl7), (0, ps7), (2, 110), (2, 111), (2, 112), (2, 113)]) hk372 rfl rfl rfl (fun w375 hk376 hb377 => ?_)
                            refine xg_t (xg_goto) ?_
                            refine xg_t (xg_blk (b := [(332, 1, 12, 0, 0, 0)]) rfl) ?_
                            have hf378 : fld w375 82 4 = sz7 := fld_of hk376
                            have hf379 : fld w375 82 5 = nx7 := fld_of hk376
                            have hf380 : fld w375 82 7 = 4 := fld_of hk376
                            have hf381 : fld w375 82 10 = wg7 := fld_of hk376
                            have hf382 : fld w375 82 14 = ln7 := fld_of hk376
                            have hu383 : mu w375 = 2 * (fld w375 82 4 - fld w375 82 5) + min 1 (fld w375 82 7) := rfl
                            have hu384 : mu w = 2 * (fld w 82 4 - fld w 82 5) + min 1 (fld w 82 7) := rfl
                            exact xg_e ⟨w375, ⟨rfl, rfl⟩, xMnv.up (S := [82]) hI367 ((xFr.of (S := [82]) hb373 (by decide)).tr (xFr.of (S := [82]) hb377 (by decide))) (List.forall_mem_cons.mpr ⟨(show cp82 (wget w375 82) from ⟨ir7, sg7, sz7, nx7, wr7, 4, nu7, n369, wg7, ln7, pt7, wh7, me7, mt7, pl7, ps7, hk376, by omega, by omega, by omega, by omega, by omega, by omega, by omega, by omega, by omega, by omega, by omega, by omega, by omega, by omega, by omega⟩), fun _ h => absurd h List.not_mem_nil⟩), ((((hF282.tr (hF307.up (by decide))).tr (hF314.up (by decide))).tr (hF368.up (by decide))).tr ((xFr.of (S := [82]) hb373 (by decide)).tr (xFr.of (S := [82]) hb377 (by decide)))), ⟨by omega, fun _ => by omega, by omega, by omega⟩⟩
                          · refine xg_t (xg_icT (u := n369) (v := 99) rfl xnm0 xnm0 (xj_neT hc374)) ?_
                            refine xg_t (xg_blk (b := [(193, 1, 3, 3, 0, 0)]) rfl) ?_
                            refine xg_t (xg_const) ?_
                            refine xg_t (xg_blk (b := [(194, 3, 14, 12, 7, 151), (197, 3, 8, 332, 0, 0)]) rfl) ?_
                            refine xg_putI (fl1 := [(2, 83), (2, 84), (0, ir7), (0, sg7), (0, sz7), (0, nx7), (0, wr7), (0, 3), (0, nu7), (0, n369), (0, wg7), (2, 85), (2, 86), (2, 87), (0, ln7), (2, 88), (2, 89), (2, 90), (2, 91), (2, 92), (2, 93), (2, 94), (4, pt7), (4, wh7), (0, me7), (2, 95), (2, 96), (2, 97), (2, 98), (2, 99), (2, 100), (2, 101), (2, 102), (0, mt7), (2, 103), (2, 104), (2, 105), (2, 106), (2, 107), (2, 108), (2, 109), (0, pl7), (0, ps7), (2, 110), (2, 111), (2, 112), (2, 113)]) hk372 rfl rfl rfl (fun w385 hk386 hb387 => ?_)
                            refine xg_t (xg_goto) ?_
                            refine xg_t (xg_blk (b := [(332, 1, 12, 0, 0, 0)]) rfl) ?_
                            have hf388 : fld w385 82 4 = sz7 := fld_of hk386
                            have hf389 : fld w385 82 5 = nx7 := fld_of hk386
                            have hf390 : fld w385 82 7 = 3 := fld_of hk386
                            have hf391 : fld w385 82 10 = wg7 := fld_of hk386
                            have hf392 : fld w385 82 14 = ln7 := fld_of hk386
                            have hu393 : mu w385 = 2 * (fld w385 82 4 - fld w385 82 5) + min 1 (fld w385 82 7) := rfl
                            have hu394 : mu w = 2 * (fld w 82 4 - fld w 82 5) + min 1 (fld w 82 7) := rfl
                            exact xg_e ⟨w385, ⟨rfl, rfl⟩, xMnv.up (S := [82]) hI367 ((xFr.of (S := [82]) hb373 (by decide)).tr (xFr.of (S := [82]) hb387 (by decide))) (List.forall_mem_cons.mpr ⟨(show cp82 (wget w385 82) from ⟨ir7, sg7, sz7, nx7, wr7, 3, nu7, n369, wg7, ln7, pt7, wh7, me7, mt7, pl7, ps7, hk386, by omega, by omega, by omega, by omega, by omega, by omega, by omega, by omega, by omega, by omega, by omega, by omega, by omega, by omega, by omega⟩), fun _ h => absurd h List.not_mem_nil⟩), ((((hF282.tr (hF307.up (by decide))).tr (hF314.up (by decide))).tr (hF368.up (by decide))).tr ((xFr.of (S := [82]) hb373 (by decide)).tr (xFr.of (S := [82]) hb387 (by decide)))), ⟨by omega, fun _ => by omega, by omega, by omega⟩⟩
                    · have hz397 : 2147483649 ≤ (nx7 + (4294967296 - wr7)) % 4294967296 := by omega
                      refine xg_t (xg_isub (u := nx7) (v := wr7) (z := (nx7 + (4294967296 - wr7)) % 4294967296) xnm0 xnm0 rfl) ?_
                      have hz396 : (nx7 + (4294967296 - wr7)) % 4294967296 < 4294967296 := Nat.mod_lt _ (by decide)
                      generalize (nx7 + (4294967296 - wr7)) % 4294967296 = z395 at hz397 hz396 ⊢
                      refine xg_t (xg_bip) ?_
                      refine xg_t (xg_icT (u := z395) (v := 6) rfl xnm0 xnm0 (xjs_leT (by unfold xbs; omega))) ?_
                      refine xg_t (xg_blk (b := [(158, 1, 0, 0, 0, 0), (159, 3, 1, 12, 2, 137), (162, 3, 7, 172, 0, 0), (165, 1, 53, 2, 0, 0), (166, 3, 13, 215, 98, 158), (169, 3, 8, 176, 0, 0)]) rfl) ?_
                      refine xg_t (xg_aload (va := (2, 82)) rfl rfl) ?_
                      refine xg_t (xg_getf (va := (0, ir7)) (hF314.get (by decide) (hF307.get (by decide) hcl298)) rfl) ?_
                      by_cases hc398 : ir7 = 0
                      · refine xg_t (xg_ifT (u := ir7) rfl xnm0 (xj_eqT hc398)) ?_
                        refine xg_t (xg_blk (b := [(172, 1, 53, 2, 0, 0), (173, 3, 13, 238, 98, 162)]) rfl) ?_
                        refine xg_t (xg_lload (u := v7) rfl) ?_
                        refine xg_cSi mX12_wordOf (vs := [(4, v7)]) (rest := [(2, 82)]) (cn1 := 0) (sl1 := 0) rfl (mWordOf (hI313)) rfl rfl rfl rfl rfl rfl rfl (fun n403 w399 hq400 => ?_)
                        obtain ⟨hn404, hI401, hF402⟩ := hq400
                        refine xg_t (xg_blk (b := [(176, 3, 14, 12, 9, 165), (179, 1, 0, 0, 0, 0), (180, 1, 0, 0, 0, 0), (181, 3, 1, 12, 9, 165), (184, 2, 4, 99, 0, 0), (186, 3, 6, 193, 1, 0), (189, 1, 3, 4, 0, 0), (190, 3, 8, 194, 0, 0)]) rfl) ?_
                        refine xg_putI (fl1 := [(2, 83), (2, 84), (0, ir7), (0, sg7), (0, sz7), (0, nx7), (0, wr7), (0, tk7), (0, nu7), (0, n403), (0, wg7), (2, 85), (2, 86), (2, 87), (0, ln7), (2, 88), (2, 89), (2, 90), (2, 91), (2, 92), (2, 93), (2, 94), (4, pt7), (4, wh7), (0, me7), (2, 95), (2, 96), (2, 97), (2, 98), (2, 99), (2, 100), (2, 101), (2, 102), (0, mt7), (2, 103), (2, 104), (2, 105), (2, 106), (2, 107), (2, 108), (2, 109), (0, pl7), (0, ps7), (2, 110), (2, 111), (2, 112), (2, 113)]) (hF402.get (by decide) (hF314.get (by decide) (hF307.get (by decide) hcl298))) rfl rfl rfl (fun w405 hk406 hb407 => ?_)
                        refine xg_t (xg_aload (va := (2, 82)) rfl rfl) ?_
                        refine xg_t (xg_aload (va := (2, 82)) rfl rfl) ?_
                        refine xg_t (xg_getf (va := (0, n403)) hk406 rfl) ?_
                        refine xg_t (xg_bip) ?_
                        by_cases hc408 : n403 = 99
                        · refine xg_t (xg_icF (u := n403) (v := 99) rfl xnm0 xnm0 (xj_neF hc408)) ?_
                          refine xg_t (xg_const) ?_
                          refine xg_t (xg_goto) ?_
                          refine xg_t (xg_blk (b := [(194, 3, 14, 12, 7, 151), (197, 3, 8, 332, 0, 0)]) rfl) ?_
                          refine xg_putI (fl1 := [(2, 83), (2, 84), (0, ir7), (0, sg7), (0, sz7), (0, nx7), (0, wr7), (0, 4), (0, nu7), (0, n403), (0, wg7), (2, 85), (2, 86), (2, 87), (0, ln7), (2, 88), (2, 89), (2, 90), (2, 91), (2, 92), (2, 93), (2, 94), (4, pt7), (4, wh7), (0, me7), (2, 95), (2, 96), (2, 97), (2, 98), (2, 99), (2, 100), (2, 101), (2, 102), (0, mt7), (2, 103), (2, 104), (2, 105), (2, 106), (2, 107), (2, 108), (2, 109), (0, pl7), (0, ps7), (2, 110), (2, 111), (2, 112), (2, 113)]) hk406 rfl rfl rfl (fun w409 hk410 hb411 => ?_)
                          refine xg_t (xg_goto) ?_
                          refine xg_t (xg_blk (b := [(332, 1, 12, 0, 0, 0)]) rfl) ?_
                          have hf412 : fld w409 82 4 = sz7 := fld_of hk410
                          have hf413 : fld w409 82 5 = nx7 := fld_of hk410
                          have hf414 : fld w409 82 7 = 4 := fld_of hk410
                          have hf415 : fld w409 82 10 = wg7 := fld_of hk410
                          have hf416 : fld w409 82 14 = ln7 := fld_of hk410
                          have hu417 : mu w409 = 2 * (fld w409 82 4 - fld w409 82 5) + min 1 (fld w409 82 7) := rfl
                          have hu418 : mu w = 2 * (fld w 82 4 - fld w 82 5) + min 1 (fld w 82 7) := rfl
                          exact xg_e ⟨w409, ⟨rfl, rfl⟩, xMnv.up (S := [82]) hI401 ((xFr.of (S := [82]) hb407 (by decide)).tr (xFr.of (S := [82]) hb411 (by decide))) (List.forall_mem_cons.mpr ⟨(show cp82 (wget w409 82) from ⟨ir7, sg7, sz7, nx7, wr7, 4, nu7, n403, wg7, ln7, pt7, wh7, me7, mt7, pl7, ps7, hk410, by omega, by omega, by omega, by omega, by omega, by omega, by omega, by omega, by omega, by omega, by omega, by omega, by omega, by omega, by omega⟩), fun _ h => absurd h List.not_mem_nil⟩), ((((hF282.tr (hF307.up (by decide))).tr (hF314.up (by decide))).tr (hF402.up (by decide))).tr ((xFr.of (S := [82]) hb407 (by decide)).tr (xFr.of (S := [82]) hb411 (by decide)))), ⟨by omega, fun _ => by omega, by omega, by omega⟩⟩
                        · refine xg_t (xg_icT (u := n403) (v := 99) rfl xnm0 xnm0 (xj_neT hc408)) ?_
                          refine xg_t (xg_blk (b := [(193, 1, 3, 3, 0, 0)]) rfl) ?_
                          refine xg_t (xg_const) ?_
                          refine xg_t (xg_blk (b := [(194, 3, 14, 12, 7, 151), (197, 3, 8, 332, 0, 0)]) rfl) ?_
                          refine xg_putI (fl1 := [(2, 83), (2, 84), (0, ir7), (0, sg7), (0, sz7), (0, nx7), (0, wr7), (0, 3), (0, nu7), (0, n403), (0, wg7), (2, 85), (2, 86), (2, 87), (0, ln7), (2, 88), (2, 89), (2, 90), (2, 91), (2, 92), (2, 93), (2, 94), (4, pt7), (4, wh7), (0, me7), (2, 95), (2, 96), (2, 97), (2, 98), (2, 99), (2, 100), (2, 101), (2, 102), (0, mt7), (2, 103), (2, 104), (2, 105), (2, 106), (2, 107), (2, 108), (2, 109), (0, pl7), (0, ps7), (2, 110), (2, 111), (2, 112), (2, 113)]) hk406 rfl rfl rfl (fun w419 hk420 hb421 => ?_)
                          refine xg_t (xg_goto) ?_
                          refine xg_t (xg_blk (b := [(332, 1, 12, 0, 0, 0)]) rfl) ?_
                          have hf422 : fld w419 82 4 = sz7 := fld_of hk420
                          have hf423 : fld w419 82 5 = nx7 := fld_of hk420
                          have hf424 : fld w419 82 7 = 3 := fld_of hk420
                          have hf425 : fld w419 82 10 = wg7 := fld_of hk420
                          have hf426 : fld w419 82 14 = ln7 := fld_of hk420
                          have hu427 : mu w419 = 2 * (fld w419 82 4 - fld w419 82 5) + min 1 (fld w419 82 7) := rfl
                          have hu428 : mu w = 2 * (fld w 82 4 - fld w 82 5) + min 1 (fld w 82 7) := rfl
                          exact xg_e ⟨w419, ⟨rfl, rfl⟩, xMnv.up (S := [82]) hI401 ((xFr.of (S := [82]) hb407 (by decide)).tr (xFr.of (S := [82]) hb421 (by decide))) (List.forall_mem_cons.mpr ⟨(show cp82 (wget w419 82) from ⟨ir7, sg7, sz7, nx7, wr7, 3, nu7, n403, wg7, ln7, pt7, wh7, me7, mt7, pl7, ps7, hk420, by omega, by omega, by omega, by omega, by omega, by omega, by omega, by omega, by omega, by omega, by omega, by omega, by omega, by omega, by omega⟩), fun _ h => absurd h List.not_mem_nil⟩), ((((hF282.tr (hF307.up (by decide))).tr (hF314.up (by decide))).tr (hF402.up (by decide))).tr ((xFr.of (S := [82]) hb407 (by decide)).tr (xFr.of (S := [82]) hb421 (by decide)))), ⟨by omega, fun _ => by omega, by omega, by omega⟩⟩
                      · refine xg_t (xg_ifF (u := ir7) rfl xnm0 (xj_eqF hc398)) ?_
                        refine xg_t (xg_lload (u := v7) rfl) ?_
                        refine xg_cSi mX12_ruleWordOf (vs := [(4, v7)]) (rest := [(2, 82)]) (cn1 := 0) (sl1 := 0) rfl (mRuleWordOf (hI313)) rfl rfl rfl rfl rfl rfl rfl (fun n433 w429 hq430 => ?_)
                        obtain ⟨hn434, hI431, hF432⟩ := hq430
                        refine xg_t (xg_goto) ?_
                        refine xg_t (xg_blk (b := [(176, 3, 14, 12, 9, 165), (179, 1, 0, 0, 0, 0), (180, 1, 0, 0, 0, 0), (181, 3, 1, 12, 9, 165), (184, 2, 4, 99, 0, 0), (186, 3, 6, 193, 1, 0), (189, 1, 3, 4, 0, 0), (190, 3, 8, 194, 0, 0)]) rfl) ?_
                        refine xg_putI (fl1 := [(2, 83), (2, 84), (0, ir7), (0, sg7), (0, sz7), (0, nx7), (0, wr7), (0, tk7), (0, nu7), (0, n433), (0, wg7), (2, 85), (2, 86), (2, 87), (0, ln7), (2, 88), (2, 89), (2, 90), (2, 91), (2, 92), (2, 93), (2, 94), (4, pt7), (4, wh7), (0, me7), (2, 95), (2, 96), (2, 97), (2, 98), (2, 99), (2, 100), (2, 101), (2, 102), (0, mt7), (2, 103), (2, 104), (2, 105), (2, 106), (2, 107), (2, 108), (2, 109), (0, pl7), (0, ps7), (2, 110), (2, 111), (2, 112), (2, 113)]) (hF432.get (by decide) (hF314.get (by decide) (hF307.get (by decide) hcl298))) rfl rfl rfl (fun w435 hk436 hb437 => ?_)
                        refine xg_t (xg_aload (va := (2, 82)) rfl rfl) ?_
                        refine xg_t (xg_aload (va := (2, 82)) rfl rfl) ?_
                        refine xg_t (xg_getf (va := (0, n433)) hk436 rfl) ?_
                        refine xg_t (xg_bip) ?_
                        by_cases hc438 : n433 = 99
                        · refine xg_t (xg_icF (u := n433) (v := 99) rfl xnm0 xnm0 (xj_neF hc438)) ?_
                          refine xg_t (xg_const) ?_
                          refine xg_t (xg_goto) ?_
                          refine xg_t (xg_blk (b := [(194, 3, 14, 12, 7, 151), (197, 3, 8, 332, 0, 0)]) rfl) ?_
                          refine xg_putI (fl1 := [(2, 83), (2, 84), (0, ir7), (0, sg7), (0, sz7), (0, nx7), (0, wr7), (0, 4), (0, nu7), (0, n433), (0, wg7), (2, 85), (2, 86), (2, 87), (0, ln7), (2, 88), (2, 89), (2, 90), (2, 91), (2, 92), (2, 93), (2, 94), (4, pt7), (4, wh7), (0, me7), (2, 95), (2, 96), (2, 97), (2, 98), (2, 99), (2, 100), (2, 101), (2, 102), (0, mt7), (2, 103), (2, 104), (2, 105), (2, 106), (2, 107), (2, 108), (2, 109), (0, pl7), (0, ps7), (2, 110), (2, 111), (2, 112), (2, 113)]) hk436 rfl rfl rfl (fun w439 hk440 hb441 => ?_)
                          refine xg_t (xg_goto) ?_
                          refine xg_t (xg_blk (b := [(332, 1, 12, 0, 0, 0)]) rfl) ?_
                          have hf442 : fld w439 82 4 = sz7 := fld_of hk440
                          have hf443 : fld w439 82 5 = nx7 := fld_of hk440
                          have hf444 : fld w439 82 7 = 4 := fld_of hk440
                          have hf445 : fld w439 82 10 = wg7 := fld_of hk440
                          have hf446 : fld w439 82 14 = ln7 := fld_of hk440
                          have hu447 : mu w439 = 2 * (fld w439 82 4 - fld w439 82 5) + min 1 (fld w439 82 7) := rfl
                          have hu448 : mu w = 2 * (fld w 82 4 - fld w 82 5) + min 1 (fld w 82 7) := rfl
                          exact xg_e ⟨w439, ⟨rfl, rfl⟩, xMnv.up (S := [82]) hI431 ((xFr.of (S := [82]) hb437 (by decide)).tr (xFr.of (S := [82]) hb441 (by decide))) (List.forall_mem_cons.mpr ⟨(show cp82 (wget w439 82) from ⟨ir7, sg7, sz7, nx7, wr7, 4, nu7, n433, wg7, ln7, pt7, wh7, me7, mt7, pl7, ps7, hk440, by omega, by omega, by omega, by omega, by omega, by omega, by omega, by omega, by omega, by omega, by omega, by omega, by omega, by omega, by omega⟩), fun _ h => absurd h List.not_mem_nil⟩), ((((hF282.tr (hF307.up (by decide))).tr (hF314.up (by decide))).tr (hF432.up (by decide))).tr ((xFr.of (S := [82]) hb437 (by decide)).tr (xFr.of (S := [82]) hb441 (by decide)))), ⟨by omega, fun _ => by omega, by omega, by omega⟩⟩
                        · refine xg_t (xg_icT (u := n433) (v := 99) rfl xnm0 xnm0 (xj_neT hc438)) ?_
                          refine xg_t (xg_blk (b := [(193, 1, 3, 3, 0, 0)]) rfl) ?_
                          refine xg_t (xg_const) ?_
                          refine xg_t (xg_blk (b := [(194, 3, 14, 12, 7, 151), (197, 3, 8, 332, 0, 0)]) rfl) ?_
                          refine xg_putI (fl1 := [(2, 83), (2, 84), (0, ir7), (0, sg7), (0, sz7), (0, nx7), (0, wr7), (0, 3), (0, nu7), (0, n433), (0, wg7), (2, 85), (2, 86), (2, 87), (0, ln7), (2, 88), (2, 89), (2, 90), (2, 91), (2, 92), (2, 93), (2, 94), (4, pt7), (4, wh7), (0, me7), (2, 95), (2, 96), (2, 97), (2, 98), (2, 99), (2, 100), (2, 101), (2, 102), (0, mt7), (2, 103), (2, 104), (2, 105), (2, 106), (2, 107), (2, 108), (2, 109), (0, pl7), (0, ps7), (2, 110), (2, 111), (2, 112), (2, 113)]) hk436 rfl rfl rfl (fun w449 hk450 hb451 => ?_)
                          refine xg_t (xg_goto) ?_
                          refine xg_t (xg_blk (b := [(332, 1, 12, 0, 0, 0)]) rfl) ?_
                          have hf452 : fld w449 82 4 = sz7 := fld_of hk450
                          have hf453 : fld w449 82 5 = nx7 := fld_of hk450
                          have hf454 : fld w449 82 7 = 3 := fld_of hk450
                          have hf455 : fld w449 82 10 = wg7 := fld_of hk450
                          have hf456 : fld w449 82 14 = ln7 := fld_of hk450
                          have hu457 : mu w449 = 2 * (fld w449 82 4 - fld w449 82 5) + min 1 (fld w449 82 7) := rfl
                          have hu458 : mu w = 2 * (fld w 82 4 - fld w 82 5) + min 1 (fld w 82 7) := rfl
                          exact xg_e ⟨w449, ⟨rfl, rfl⟩, xMnv.up (S := [82]) hI431 ((xFr.of (S := [82]) hb437 (by decide)).tr (xFr.of (S := [82]) hb451 (by decide))) (List.forall_mem_cons.mpr ⟨(show cp82 (wget w449 82) from ⟨ir7, sg7, sz7, nx7, wr7, 3, nu7, n433, wg7, ln7, pt7, wh7, me7, mt7, pl7, ps7, hk450, by omega, by omega, by omega, by omega, by omega, by omega, by omega, by omega, by omega, by omega, by omega, by omega, by omega, by omega, by omega⟩), fun _ h => absurd h List.not_mem_nil⟩), ((((hF282.tr (hF307.up (by decide))).tr (hF314.up (by decide))).tr (hF432.up (by decide))).tr ((xFr.of (S := [82]) hb437 (by decide)).tr (xFr.of (S := [82]) hb451 (by decide)))), ⟨by omega, fun _ => by omega, by omega, by omega⟩⟩
                  · refine xg_t (xg_ifF (u := n315) rfl xnm0 (xj_eqF hc317)) ?_
                    refine xg_t (xg_aload (va := (2, 82)) rfl rfl) ?_
                    refine xg_t (xg_getf (va := (0, nx7)) (hF314.get (by decide) (hF307.get (by decide) hcl298)) rfl) ?_
                    refine xg_t (xg_aload (va := (2, 82)) rfl rfl) ?_
                    refine xg_t (xg_getf (va := (0, wr7)) (hF314.get (by decide) (hF307.get (by decide) hcl298)) rfl) ?_
                    by_cases hc459 : wr7 ≤ nx7
                    · refine xg_t (xg_isub (u := nx7) (v := wr7) (z := (nx7 + (4294967296 - wr7)) % 4294967296) xnm0 xnm0 (rfl)) ?_
                      refine xg_t (xg_bip) ?_
                      by_cases hc460 : xbs ((nx7 + (4294967296 - wr7)) % 4294967296) < xbs 7
                      · have hc460u := hc460
                        unfold xbs at hc460u
                        refine xg_t (xg_icF (u := (nx7 + (4294967296 - wr7)) % 4294967296) (v := 7) rfl xnm0 xnm0 (xjs_geF hc460)) ?_
                        refine xg_t (xg_ldc2) ?_
                        refine xg_t (xg_lload (u := v7) rfl) ?_
                        refine xg_kl (xg_lmul (u := 32) (v := v7)) (fun l461 => ?_)
                        refine xg_t (xg_aload (va := (2, 82)) rfl rfl) ?_
                        refine xg_t (xg_aload (va := (2, 82)) rfl rfl) ?_
                        refine xg_t (xg_getf (va := (0, nx7)) (hF314.get (by decide) (hF307.get (by decide) hcl298)) rfl) ?_
                        have hf462 : fld w311 82 4 = sz7 := fld_of (hF314.get (by decide) (hF307.get (by decide) hcl298))
                        refine xg_cVi mX12_byteAt (vs := [(0, nx7)]) (rest := [(4, l461)]) (cn1 := 0) (sl1 := 0) rfl (mByteAt (hI313) (by omega) (((h83_34.fr hF282 (by decide)).fr hF307 (by decide)).fr hF314 (by decide)) hb35 hx36) rfl (hF314.get (by decide) (hF307.get (by decide) hcl298)) rfl rfl rfl rfl rfl rfl (fun n467 w463 hq464 => ?_)
                        obtain ⟨hn468, hI465, hF466⟩ := hq464
                        have hl469 : n467 ≤ 4294967295 := by have q := hn468; have q2 := hb35 (400 + nx7); omega
                        refine xg_kl (xg_i2l (u := n467) xnm0) (fun l470 => ?_)
                        refine xg_kl (xg_ladd (u := l461) (v := l470)) (fun l471 => ?_)
                        refine xg_t (xg_ldc2) ?_
                        refine xg_kl (xg_lsub (u := l471) (v := 96)) (fun l472 => ?_)
                        refine xg_t (xg_lstore (l1 := [(0, (2, 82)), (1, (0, n98))]) rfl rfl) ?_
                        refine xg_t (xg_blk (b := [(125, 1, 0, 0, 0, 0), (126, 1, 19, 0, 0, 0), (127, 3, 1, 12, 5, 141), (130, 1, 3, 1, 0, 0), (131, 1, 11, 0, 0, 0), (132, 3, 14, 12, 5, 141), (135, 3, 8, 77, 0, 0)]) rfl) ?_
                        refine xg_t (xg_aload (va := (2, 82)) rfl rfl) ?_
                        refine xg_t (xg_dup rfl) ?_
                        refine xg_t (xg_getf (va := (0, nx7)) (hF466.get (by decide) (hF314.get (by decide) (hF307.get (by decide) hcl298))) rfl) ?_
                        refine xg_t (xg_const) ?_
                        refine xg_t (xg_iadd (u := nx7) (v := 1) (z := nx7 + 1) xnm0 xnm0 (by omega)) ?_
                        refine xg_putI (fl1 := [(2, 83), (2, 84), (0, ir7), (0, sg7), (0, sz7), (0, nx7 + 1), (0, wr7), (0, tk7), (0, nu7), (0, wo7), (0, wg7), (2, 85), (2, 86), (2, 87), (0, ln7), (2, 88), (2, 89), (2, 90), (2, 91), (2, 92), (2, 93), (2, 94), (4, pt7), (4, wh7), (0, me7), (2, 95), (2, 96), (2, 97), (2, 98), (2, 99), (2, 100), (2, 101), (2, 102), (0, mt7), (2, 103), (2, 104), (2, 105), (2, 106), (2, 107), (2, 108), (2, 109), (0, pl7), (0, ps7), (2, 110), (2, 111), (2, 112), (2, 113)]) (hF466.get (by decide) (hF314.get (by decide) (hF307.get (by decide) hcl298))) rfl rfl rfl (fun w473 hk474 hb475 => ?_)
                        refine xg_t (xg_goto) ?_
                        refine xg_t (xg_drop (l1 := [(0, (2, 82)), (1, (0, n98)), (2, (4, l472))]) (List.forall_mem_cons.mpr ⟨List.mem_cons_of_mem _ (List.mem_cons_self), List.forall_mem_cons.mpr ⟨List.mem_cons_of_mem _ (List.mem_cons_of_mem _ (List.mem_cons_self)), List.forall_mem_cons.mpr ⟨List.mem_cons_self, fun _ h => absurd h List.not_mem_nil⟩⟩⟩)) ?_
                        exact ih278 l472 ir7 sg7 sz7 (nx7 + 1) wr7 tk7 nu7 wo7 wg7 ln7 pt7 wh7 me7 mt7 pl7 ps7 w473 (by omega) (by omega) (by omega) (by omega) (by omega) (by omega) (by omega) (by omega) (by omega) (by omega) (by omega) (by omega) (by omega) (by omega) (by omega) (by omega) hk474 (by omega) (xMnv.up (S := [82]) hI465 (xFr.of (S := [82]) hb475 (by decide)) (List.forall_mem_cons.mpr ⟨(show cp82 (wget w473 82) from ⟨ir7, sg7, sz7, nx7 + 1, wr7, tk7, nu7, wo7, wg7, ln7, pt7, wh7, me7, mt7, pl7, ps7, hk474, by omega, by omega, by omega, by omega, by omega, by omega, by omega, by omega, by omega, by omega, by omega, by omega, by omega, by omega, by omega⟩), fun _ h => absurd h List.not_mem_nil⟩)) (((((hF282.tr (hF307.up (by decide))).tr (hF314.up (by decide))).tr (hF466.up (by decide))).tr (xFr.of (S := [82]) hb475 (by decide)))) (by omega)
                      · have hc460u := hc460
                        unfold xbs at hc460u
                        have hn476 : (nx7 + (4294967296 - wr7)) % 4294967296 ≤ 2147483647 := by omega
                        refine xg_t (xg_icT (u := (nx7 + (4294967296 - wr7)) % 4294967296) (v := 7) rfl xnm0 xnm0 (xjs_geT hc460)) ?_
                        refine xg_t (xg_blk (b := [(125, 1, 0, 0, 0, 0), (126, 1, 19, 0, 0, 0), (127, 3, 1, 12, 5, 141), (130, 1, 3, 1, 0, 0), (131, 1, 11, 0, 0, 0), (132, 3, 14, 12, 5, 141), (135, 3, 8, 77, 0, 0)]) rfl) ?_
                        refine xg_t (xg_aload (va := (2, 82)) rfl rfl) ?_
                        refine xg_t (xg_dup rfl) ?_
                        refine xg_t (xg_getf (va := (0, nx7)) (hF314.get (by decide) (hF307.get (by decide) hcl298)) rfl) ?_
                        refine xg_t (xg_const) ?_
                        refine xg_t (xg_iadd (u := nx7) (v := 1) (z := nx7 + 1) xnm0 xnm0 (by omega)) ?_
                        refine xg_putI (fl1 := [(2, 83), (2, 84), (0, ir7), (0, sg7), (0, sz7), (0, nx7 + 1), (0, wr7), (0, tk7), (0, nu7), (0, wo7), (0, wg7), (2, 85), (2, 86), (2, 87), (0, ln7), (2, 88), (2, 89), (2, 90), (2, 91), (2, 92), (2, 93), (2, 94), (4, pt7), (4, wh7), (0, me7), (2, 95), (2, 96), (2, 97), (2, 98), (2, 99), (2, 100), (2, 101), (2, 102), (0, mt7), (2, 103), (2, 104), (2, 105), (2, 106), (2, 107), (2, 108), (2, 109), (0, pl7), (0, ps7), (2, 110), (2, 111), (2, 112), (2, 113)]) (hF314.get (by decide) (hF307.get (by decide) hcl298)) rfl rfl rfl (fun w477 hk478 hb479 => ?_)
                        refine xg_t (xg_goto) ?_
                        exact ih278 v7 ir7 sg7 sz7 (nx7 + 1) wr7 tk7 nu7 wo7 wg7 ln7 pt7 wh7 me7 mt7 pl7 ps7 w477 (by omega) (by omega) (by omega) (by omega) (by omega) (by omega) (by omega) (by omega) (by omega) (by omega) (by omega) (by omega) (by omega) (by omega) (by omega) (by omega) hk478 (by omega) (xMnv.up (S := [82]) hI313 (xFr.of (S := [82]) hb479 (by decide)) (List.forall_mem_cons.mpr ⟨(show cp82 (wget w477 82) from ⟨ir7, sg7, sz7, nx7 + 1, wr7, tk7, nu7, wo7, wg7, ln7, pt7, wh7, me7, mt7, pl7, ps7, hk478, by omega, by omega, by omega, by omega, by omega, by omega, by omega, by omega, by omega, by omega, by omega, by omega, by omega, by omega, by omega⟩), fun _ h => absurd h List.not_mem_nil⟩)) ((((hF282.tr (hF307.up (by decide))).tr (hF314.up (by decide))).tr (xFr.of (S := [82]) hb479 (by decide)))) (by omega)
                    · have hz482 : 2147483649 ≤ (nx7 + (4294967296 - wr7)) % 4294967296 := by omega
                      refine xg_t (xg_isub (u := nx7) (v := wr7) (z := (nx7 + (4294967296 - wr7)) % 4294967296) xnm0 xnm0 rfl) ?_
                      have hz481 : (nx7 + (4294967296 - wr7)) % 4294967296 < 4294967296 := Nat.mod_lt _ (by decide)
                      generalize (nx7 + (4294967296 - wr7)) % 4294967296 = z480 at hz482 hz481 ⊢
                      refine xg_t (xg_bip) ?_
                      refine xg_t (xg_icF (u := z480) (v := 7) rfl xnm0 xnm0 (xjs_geF (by unfold xbs; omega))) ?_
                      refine xg_t (xg_ldc2) ?_
                      refine xg_t (xg_lload (u := v7) rfl) ?_
                      refine xg_kl (xg_lmul (u := 32) (v := v7)) (fun l483 => ?_)
                      refine xg_t (xg_aload (va := (2, 82)) rfl rfl) ?_
                      refine xg_t (xg_aload (va := (2, 82)) rfl rfl) ?_
                      refine xg_t (xg_getf (va := (0, nx7)) (hF314.get (by decide) (hF307.get (by decide) hcl298)) rfl) ?_
                      have hf484 : fld w311 82 4 = sz7 := fld_of (hF314.get (by decide) (hF307.get (by decide) hcl298))
                      refine xg_cVi mX12_byteAt (vs := [(0, nx7)]) (rest := [(4, l483)]) (cn1 := 0) (sl1 := 0) rfl (mByteAt (hI313) (by omega) (((h83_34.fr hF282 (by decide)).fr hF307 (by decide)).fr hF314 (by decide)) hb35 hx36) rfl (hF314.get (by decide) (hF307.get (by decide) hcl298)) rfl rfl rfl rfl rfl rfl (fun n489 w485 hq486 => ?_)
                      obtain ⟨hn490, hI487, hF488⟩ := hq486
                      have hl491 : n489 ≤ 4294967295 := by have q := hn490; have q2 := hb35 (400 + nx7); omega
                      refine xg_kl (xg_i2l (u := n489) xnm0) (fun l492 => ?_)
                      refine xg_kl (xg_ladd (u := l483) (v := l492)) (fun l493 => ?_)
                      refine xg_t (xg_ldc2) ?_
                      refine xg_kl (xg_lsub (u := l493) (v := 96)) (fun l494 => ?_)
                      refine xg_t (xg_lstore (l1 := [(0, (2, 82)), (1, (0, n98))]) rfl rfl) ?_
                      refine xg_t (xg_blk (b := [(125, 1, 0, 0, 0, 0), (126, 1, 19, 0, 0, 0), (127, 3, 1, 12, 5, 141), (130, 1, 3, 1, 0, 0), (131, 1, 11, 0, 0, 0), (132, 3, 14, 12, 5, 141), (135, 3, 8, 77, 0, 0)]) rfl) ?_
                      refine xg_t (xg_aload (va := (2, 82)) rfl rfl) ?_
                      refine xg_t (xg_dup rfl) ?_
                      refine xg_t (xg_getf (va := (0, nx7)) (hF488.get (by decide) (hF314.get (by decide) (hF307.get (by decide) hcl298))) rfl) ?_
                      refine xg_t (xg_const) ?_
                      refine xg_t (xg_iadd (u := nx7) (v := 1) (z := nx7 + 1) xnm0 xnm0 (by omega)) ?_
                      refine xg_putI (fl1 := [(2, 83), (2, 84), (0, ir7), (0, sg7), (0, sz7), (0, nx7 + 1), (0, wr7), (0, tk7), (0, nu7), (0, wo7), (0, wg7), (2, 85), (2, 86), (2, 87), (0, ln7), (2, 88), (2, 89), (2, 90), (2, 91), (2, 92), (2, 93), (2, 94), (4, pt7), (4, wh7), (0, me7), (2, 95), (2, 96), (2, 97), (2, 98), (2, 99), (2, 100), (2, 101), (2, 102), (0, mt7), (2, 103), (2, 104), (2, 105), (2, 106), (2, 107), (2, 108), (2, 109), (0, pl7), (0, ps7), (2, 110), (2, 111), (2, 112), (2, 113)]) (hF488.get (by decide) (hF314.get (by decide) (hF307.get (by decide) hcl298))) rfl rfl rfl (fun w495 hk496 hb497 => ?_)
                      refine xg_t (xg_goto) ?_
                      refine xg_t (xg_drop (l1 := [(0, (2, 82)), (1, (0, n98)), (2, (4, l494))]) (List.forall_mem_cons.mpr ⟨List.mem_cons_of_mem _ (List.mem_cons_self), List.forall_mem_cons.mpr ⟨List.mem_cons_of_mem _ (List.mem_cons_of_mem _ (List.mem_cons_self)), List.forall_mem_cons.mpr ⟨List.mem_cons_self, fun _ h => absurd h List.not_mem_nil⟩⟩⟩)) ?_
                      exact ih278 l494 ir7 sg7 sz7 (nx7 + 1) wr7 tk7 nu7 wo7 wg7 ln7 pt7 wh7 me7 mt7 pl7 ps7 w495 (by omega) (by omega) (by omega) (by omega) (by omega) (by omega) (by omega) (by omega) (by omega) (by omega) (by omega) (by omega) (by omega) (by omega) (by omega) (by omega) hk496 (by omega) (xMnv.up (S := [82]) hI487 (xFr.of (S := [82]) hb497 (by decide)) (List.forall_mem_cons.mpr ⟨(show cp82 (wget w495 82) from ⟨ir7, sg7, sz7, nx7 + 1, wr7, tk7, nu7, wo7, wg7, ln7, pt7, wh7, me7, mt7, pl7, ps7, hk496, by omega, by omega, by omega, by omega, by omega, by omega, by omega, by omega, by omega, by omega, by omega, by omega, by omega, by omega, by omega⟩), fun _ h => absurd h List.not_mem_nil⟩)) (((((hF282.tr (hF307.up (by decide))).tr (hF314.up (by decide))).tr (hF488.up (by decide))).tr (xFr.of (S := [82]) hb497 (by decide)))) (by omega)
              exact key277 _ 0 ir0 sg0 sz0 nx0 nx0 tk0 nu0 wo0 wg0 ln0 pt0 wh0 me0 mt0 pl0 ps0 w102 (Nat.lt_succ_self _) (by omega) (by omega) (by omega) (by omega) (by omega) (by omega) (by omega) (by omega) (by omega) (by omega) (by omega) (by omega) (by omega) (by omega) (by omega) (hF105.get (by decide) (hF97.get (by decide) hk91)) (by omega) (hI104) ((((((hF47.tr (hF70.up (by decide))).tr (hF82.up (by decide))).tr (xFr.of (S := [82]) hb92 (by decide))).tr (hF97.up (by decide))).tr (hF105.up (by decide)))) (by omega)
          · refine xg_t (xg_ifF (u := n98) rfl xnm0 (xjz_geF (by omega) (by omega))) ?_
            refine xg_t (xg_aload (va := (2, 82)) rfl rfl) ?_
            refine xg_t (xg_const) ?_
            refine xg_putI (fl1 := [(2, 83), (2, 84), (0, ir0), (0, sg0), (0, sz0), (0, nx0), (0, nx0), (0, 0), (0, nu0), (0, wo0), (0, wg0), (2, 85), (2, 86), (2, 87), (0, ln0), (2, 88), (2, 89), (2, 90), (2, 91), (2, 92), (2, 93), (2, 94), (4, pt0), (4, wh0), (0, me0), (2, 95), (2, 96), (2, 97), (2, 98), (2, 99), (2, 100), (2, 101), (2, 102), (0, mt0), (2, 103), (2, 104), (2, 105), (2, 106), (2, 107), (2, 108), (2, 109), (0, pl0), (0, ps0), (2, 110), (2, 111), (2, 112), (2, 113)]) (hF97.get (by decide) hk91) rfl rfl rfl (fun w498 hk499 hb500 => ?_)
            refine xg_t (xg_goto) ?_
            refine xg_t (xg_blk (b := [(332, 1, 12, 0, 0, 0)]) rfl) ?_
            have hf501 : fld w498 82 4 = sz0 := fld_of hk499
            have hf502 : fld w498 82 5 = nx0 := fld_of hk499
            have hf503 : fld w498 82 7 = 0 := fld_of hk499
            have hf504 : fld w498 82 10 = wg0 := fld_of hk499
            have hf505 : fld w498 82 14 = ln0 := fld_of hk499
            have hu506 : mu w498 = 2 * (fld w498 82 4 - fld w498 82 5) + min 1 (fld w498 82 7) := rfl
            have hu507 : mu w = 2 * (fld w 82 4 - fld w 82 5) + min 1 (fld w 82 7) := rfl
            exact xg_e ⟨w498, ⟨rfl, rfl⟩, xMnv.up (S := [82]) hI96 (xFr.of (S := [82]) hb500 (by decide)) (List.forall_mem_cons.mpr ⟨(show cp82 (wget w498 82) from ⟨ir0, sg0, sz0, nx0, nx0, 0, nu0, wo0, wg0, ln0, pt0, wh0, me0, mt0, pl0, ps0, hk499, by omega, by omega, by omega, by omega, by omega, by omega, by omega, by omega, by omega, by omega, by omega, by omega, by omega, by omega, by omega⟩), fun _ h => absurd h List.not_mem_nil⟩), (((((hF47.tr (hF70.up (by decide))).tr (hF82.up (by decide))).tr (xFr.of (S := [82]) hb92 (by decide))).tr (hF97.up (by decide))).tr (xFr.of (S := [82]) hb500 (by decide))), ⟨by omega, fun _ => by omega, by omega, by omega⟩⟩
  exact key42 _ f82_1 f82_3 f82_5 f82_7 f82_9 f82_11 f82_13 f82_15 f82_17 f82_19 f82_21 f82_22 f82_23 f82_25 f82_27 f82_29 w (Nat.lt_succ_self _) (by omega) (by omega) (by omega) (by omega) (by omega) (by omega) (by omega) (by omega) (by omega) (by omega) (by omega) (by omega) (by omega) (by omega) h82_31 (by omega) (hI) (xFr.rf) (by omega)
theorem mEnds (hI : xMnv w) (hps : PS w) : xPq d mX12_ends [(2, 82)] w bd fc rr [] (fun w' => xMnv w' ∧ xFr [82, 83] w w' ∧ (FA w' ≠ 0 ∧ fld w' 82 10 = 1 ∧ mu w' = mu w ∧ fld w' 82 14 = fld w 82 14 ∧ K83 w w')) := by
  refine xPq.of ?_
  show xTo d mX12_ends (0, [], [(0, (2, 82))], [], (w, bd, fc, 0, 0, rr)) (fun φ => ∃ w', xEnd 0 [] (w', bd, fc, 0, 0, rr) φ ∧ xMnv w' ∧ xFr [82, 83] w w' ∧ (FA w' ≠ 0 ∧ fld w' 82 10 = 1 ∧ mu w' = mu w ∧ fld w' 82 14 = fld w 82 14 ∧ K83 w w'))
  obtain ⟨f82_1, f82_3, f82_5, f82_7, f82_9, f82_11, f82_13, f82_15, f82_17, f82_19, f82_21, f82_22, f82_23, f82_25, f82_27, f82_29, h82_31, hb2, hb4, hb6, hb8, hb10, hb12, hb14, hb16, hb18, hb20, hb24, hb26, hb28, hb30, hb32⟩ := (hI 82 (by decide) (by decide) : cp82 (wget w 82))
  obtain ⟨g83_33, h83_34, hb35, hx36⟩ := (hI 83 (by decide) (by decide) : cpx83 (wget w 83))
  have h83_34 : xRow w 83 5360 50 g83_33 := h83_34
  have hf37 : fld w 82 4 = f82_5 := fld_of h82_31
  have hf38 : fld w 82 5 = f82_7 := fld_of h82_31
  have hf39 : fld w 82 7 = f82_11 := fld_of h82_31
  have hf40 : fld w 82 10 = f82_17 := fld_of h82_31
  have hf41 : fld w 82 14 = f82_19 := fld_of h82_31
  have hps_ : fld w 82 10 = 0 ∨ FA w ≠ 0 := hps
  have hA42 : FA w = g83_33 16 := rwv_of h83_34 (by decide)
  have hu43 : mu w = 2 * (fld w 82 4 - fld w 82 5) + min 1 (fld w 82 7) := rfl
  refine xg_t (xg_blk (b := [(0, 1, 0, 0, 0, 0), (1, 3, 1, 12, 10, 180), (4, 3, 7, 8, 0, 0), (7, 1, 12, 0, 0, 0)]) rfl) ?_
  refine xg_t (xg_aload (va := (2, 82)) rfl rfl) ?_
  refine xg_t (xg_getf (va := (0, f82_17)) h82_31 rfl) ?_
  by_cases hc44 : f82_17 = 0
  · refine xg_t (xg_ifT (u := f82_17) rfl xnm0 (xj_eqT hc44)) ?_
    refine xg_t (xg_blk (b := [(8, 1, 0, 0, 0, 0), (9, 1, 3, 1, 0, 0), (10, 3, 59, 12, 10, 180), (13, 1, 0, 0, 0, 0), (14, 3, 1, 12, 0, 7), (17, 2, 4, 16, 0, 0), (19, 1, 3, 1, 0, 0), (20, 1, 17, 0, 0, 0), (21, 1, 0, 0, 0, 0), (22, 3, 1, 12, 0, 7), (25, 2, 4, 17, 0, 0), (27, 1, 0, 0, 0, 0), (28, 3, 1, 12, 6, 148), (31, 1, 17, 0, 0, 0), (32, 1, 12, 0, 0, 0)]) rfl) ?_
    refine xg_t (xg_aload (va := (2, 82)) rfl rfl) ?_
    refine xg_t (xg_const) ?_
    refine xg_putZ (fl1 := [(2, 83), (2, 84), (0, f82_1), (0, f82_3), (0, f82_5), (0, f82_7), (0, f82_9), (0, f82_11), (0, f82_13), (0, f82_15), (0, 1), (2, 85), (2, 86), (2, 87), (0, f82_19), (2, 88), (2, 89), (2, 90), (2, 91), (2, 92), (2, 93), (2, 94), (4, f82_21), (4, f82_22), (0, f82_23), (2, 95), (2, 96), (2, 97), (2, 98), (2, 99), (2, 100), (2, 101), (2, 102), (0, f82_25), (2, 103), (2, 104), (2, 105), (2, 106), (2, 107), (2, 108), (2, 109), (0, f82_27), (0, f82_29), (2, 110), (2, 111), (2, 112), (2, 113)]) h82_31 rfl rfl rfl (fun w45 hk46 hb47 => ?_)
    refine xg_t (xg_aload (va := (2, 82)) rfl rfl) ?_
    refine xg_t (xg_getf (va := (2, 83)) hk46 rfl) ?_
    refine xg_t (xg_bip) ?_
    refine xg_t (xg_const) ?_
    refine xg_iastK (n := 16) (u := 1) (h83_34.but hb47 (by decide)) xnm0 xnm0 rfl (by omega) (fun w48 hr49 hb50 => ?_)
    have hx51 : okA (fun j => if j = 16 then 1 else g83_33 j) := hx36.upd (by omega) (by omega) (by omega) (fun _ => by omega) (by omega) (fun _ => by omega) (fun _ => by omega) (fun _ => by omega) (fun _ => by omega) (by omega) (fun _ _ => by omega)
    have hb52 : ∀ j, (fun j => if j = 16 then 1 else g83_33 j) j ≤ 4294967295 := xrb (by omega) (hb35)
    obtain ⟨g53, hg54⟩ : ∃ g : Nat → Nat, g = (fun j => if j = 16 then 1 else g83_33 j) := ⟨_, rfl⟩
    rw [← hg54] at hr49
    have he55 : g53 16 = 1 := by rw [hg54]; exact if_pos rfl
    have hk56 : ∀ j, j ≠ 16 → g53 j = g83_33 j := fun j hj => by rw [hg54]; exact if_neg hj
    rw [← hg54] at hx51
    rw [← hg54] at hb52
    refine xg_t (xg_aload (va := (2, 82)) rfl rfl) ?_
    refine xg_t (xg_getf (va := (2, 83)) (hb50.get (by decide) hk46) rfl) ?_
    refine xg_t (xg_bip) ?_
    refine xg_t (xg_aload (va := (2, 82)) rfl rfl) ?_
    refine xg_t (xg_getf (va := (0, f82_9)) (hb50.get (by decide) hk46) rfl) ?_
    refine xg_iastK (n := 17) (u := f82_9) hr49 xnm0 xnm0 rfl (by omega) (fun w57 hr58 hb59 => ?_)
    have hx60 : okA (fun j => if j = 17 then f82_9 else g53 j) := hx51.upd (by omega) (by omega) (by omega) (fun _ => by omega) (by omega) (fun _ => by omega) (fun _ => by omega) (fun _ => by omega) (fun _ => by omega) (by omega) (fun _ _ => by omega)
    have hb61 : ∀ j, (fun j => if j = 17 then f82_9 else g53 j) j ≤ 4294967295 := xrb (by omega) (hb52)
    obtain ⟨g62, hg63⟩ : ∃ g : Nat → Nat, g = (fun j => if j = 17 then f82_9 else g53 j) := ⟨_, rfl⟩
    rw [← hg63] at hr58
    have he64 : g62 17 = f82_9 := by rw [hg63]; exact if_pos rfl
    have hk65 : ∀ j, j ≠ 17 → g62 j = g53 j := fun j hj => by rw [hg63]; exact if_neg hj
    rw [← hg63] at hx60
    rw [← hg63] at hb61
    have hk66 : g62 16 = g53 16 := hk65 16 (by omega)
    have hf67 : fld w57 82 4 = f82_5 := fld_of (hb59.get (by decide) (hb50.get (by decide) hk46))
    have hf68 : fld w57 82 5 = f82_7 := fld_of (hb59.get (by decide) (hb50.get (by decide) hk46))
    have hf69 : fld w57 82 7 = f82_11 := fld_of (hb59.get (by decide) (hb50.get (by decide) hk46))
    have hf70 : fld w57 82 10 = 1 := fld_of (hb59.get (by decide) (hb50.get (by decide) hk46))
    have hf71 : fld w57 82 14 = f82_19 := fld_of (hb59.get (by decide) (hb50.get (by decide) hk46))
    have hu72 : mu w57 = 2 * (fld w57 82 4 - fld w57 82 5) + min 1 (fld w57 82 7) := rfl
    have hA73 : FA w57 = g62 16 := rwv_of hr58 (by decide)
    exact xg_e ⟨w57, ⟨rfl, rfl⟩, xMnv.up (S := [82, 83]) hI (((xFr.of (S := [82, 83]) hb47 (by decide)).tr (xFr.of (S := [82, 83]) hb50 (by decide))).tr (xFr.of (S := [82, 83]) hb59 (by decide))) (List.forall_mem_cons.mpr ⟨(show cp82 (wget w57 82) from ⟨f82_1, f82_3, f82_5, f82_7, f82_9, f82_11, f82_13, f82_15, 1, f82_19, f82_21, f82_22, f82_23, f82_25, f82_27, f82_29, (hb59.get (by decide) (hb50.get (by decide) hk46)), by omega, by omega, by omega, by omega, by omega, by omega, by omega, by omega, by omega, by omega, by omega, by omega, by omega, by omega, by omega⟩), List.forall_mem_cons.mpr ⟨(show cpx83 (wget w57 83) from ⟨_, hr58, hb61, hx60⟩), fun _ h => absurd h List.not_mem_nil⟩⟩), (((xFr.of (S := [82, 83]) hb47 (by decide)).tr (xFr.of (S := [82, 83]) hb50 (by decide))).tr (xFr.of (S := [82, 83]) hb59 (by decide))), ⟨by omega, by omega, by omega, by omega, K83.st h83_34 hr58 (fun j h16 h17 => by rw [hk65 j (by omega), hk56 j (by omega)])⟩⟩
  · refine xg_t (xg_ifF (u := f82_17) rfl xnm0 (xj_eqF hc44)) ?_
    have hf74 : fld w 82 4 = f82_5 := fld_of h82_31
    have hf75 : fld w 82 5 = f82_7 := fld_of h82_31
    have hf76 : fld w 82 7 = f82_11 := fld_of h82_31
    have hf77 : fld w 82 10 = f82_17 := fld_of h82_31
    have hf78 : fld w 82 14 = f82_19 := fld_of h82_31
    have hu79 : mu w = 2 * (fld w 82 4 - fld w 82 5) + min 1 (fld w 82 7) := rfl
    have hA80 : FA w = g83_33 16 := rwv_of h83_34 (by decide)
    exact xg_e ⟨w, ⟨rfl, rfl⟩, hI, xFr.rf, ⟨by omega, by omega, by omega, by omega, K83.rf⟩⟩
theorem mAlso {ki at_ : Nat} (hI : xMnv w) (hki : ki ≤ 9) (hk1 : 1 ≤ ki) (hat_ : at_ ≤ 4294967295) (hps : PS w) : xPq d mX12_also [(2, 82), (0, ki), (0, at_)] w bd fc rr [] (fun w' => xMnv w' ∧ xFr [83] w w' ∧ (FA w' ≠ 0 ∧ K83 w w')) := by
  refine xPq.of ?_
  show xTo d mX12_also (0, [], [(0, (2, 82)), (1, (0, ki)), (2, (0, at_))], [], (w, bd, fc, 0, 0, rr)) (fun φ => ∃ w', xEnd 0 [] (w', bd, fc, 0, 0, rr) φ ∧ xMnv w' ∧ xFr [83] w w' ∧ (FA w' ≠ 0 ∧ K83 w w'))
  obtain ⟨f82_1, f82_3, f82_5, f82_7, f82_9, f82_11, f82_13, f82_15, f82_17, f82_19, f82_21, f82_22, f82_23, f82_25, f82_27, f82_29, h82_31, hb2, hb4, hb6, hb8, hb10, hb12, hb14, hb16, hb18, hb20, hb24, hb26, hb28, hb30, hb32⟩ := (hI 82 (by decide) (by decide) : cp82 (wget w 82))
  obtain ⟨g83_33, h83_34, hb35, hx36⟩ := (hI 83 (by decide) (by decide) : cpx83 (wget w 83))
  have h83_34 : xRow w 83 5360 50 g83_33 := h83_34
  have hf37 : fld w 82 10 = f82_17 := fld_of h82_31
  have hps_ : fld w 82 10 = 0 ∨ FA w ≠ 0 := hps
  have hA38 : FA w = g83_33 16 := rwv_of h83_34 (by decide)
  refine xg_t (xg_blk (b := [(0, 1, 0, 0, 0, 0), (1, 3, 1, 12, 10, 180), (4, 3, 7, 50, 1, 0), (7, 1, 0, 0, 0, 0), (8, 3, 1, 12, 0, 7), (11, 2, 4, 16, 0, 0), (13, 1, 10, 0, 0, 0), (14, 3, 7, 51, 0, 0), (17, 1, 0, 0, 0, 0), (18, 3, 1, 12, 0, 7), (21, 2, 4, 17, 0, 0), (23, 1, 10, 0, 0, 0), (24, 1, 2, 2, 0, 0), (25, 3, 6, 50, 2, 0), (28, 1, 0, 0, 0, 0), (29, 3, 1, 12, 0, 7), (32, 2, 4, 17, 0, 0), (34, 1, 10, 0, 0, 0), (35, 1, 2, 2, 0, 0), (36, 3, 6, 51, 1, 0), (39, 1, 0, 0, 0, 0), (40, 3, 1, 12, 0, 7), (43, 2, 4, 16, 0, 0), (45, 1, 10, 0, 0, 0), (46, 1, 2, 1, 0, 0), (47, 3, 6, 51, 4, 0)]) rfl) ?_
  refine xg_t (xg_aload (va := (2, 82)) rfl rfl) ?_
  refine xg_t (xg_getf (va := (0, f82_17)) h82_31 rfl) ?_
  by_cases hc39 : f82_17 = 0
  · refine xg_t (xg_ifF (u := f82_17) rfl xnm0 (xj_neF hc39)) ?_
    refine xg_t (xg_aload (va := (2, 82)) rfl rfl) ?_
    refine xg_t (xg_getf (va := (2, 83)) h82_31 rfl) ?_
    refine xg_t (xg_bip) ?_
    refine xg_ialdB (n := 16) (B := 4294967295) h83_34 (hb35) xnm0 (by omega) (fun u40 hu41 he42 => ?_)
    by_cases hc43 : u40 = 0
    · refine xg_t (xg_ifT (u := u40) rfl xnm0 (xj_eqT hc43)) ?_
      refine xg_t (xg_blk (b := [(51, 1, 0, 0, 0, 0), (52, 3, 1, 12, 0, 7), (55, 2, 4, 16, 0, 0), (57, 1, 2, 1, 0, 0), (58, 1, 17, 0, 0, 0), (59, 1, 0, 0, 0, 0), (60, 3, 1, 12, 0, 7), (63, 2, 4, 17, 0, 0), (65, 1, 2, 2, 0, 0), (66, 1, 17, 0, 0, 0), (67, 1, 12, 0, 0, 0)]) rfl) ?_
      refine xg_t (xg_aload (va := (2, 82)) rfl rfl) ?_
      refine xg_t (xg_getf (va := (2, 83)) h82_31 rfl) ?_
      refine xg_t (xg_bip) ?_
      refine xg_t (xg_iload (va := (0, ki)) rfl rfl) ?_
      refine xg_iastK (n := 16) (u := ki) h83_34 xnm0 xnm0 rfl (by omega) (fun w44 hr45 hb46 => ?_)
      have hx47 : okA (fun j => if j = 16 then ki else g83_33 j) := hx36.upd (by omega) (by omega) (by omega) (fun _ => by omega) (by omega) (fun _ => by omega) (fun _ => by omega) (fun _ => by omega) (fun _ => by omega) (by omega) (fun _ _ => by omega)
      have hb48 : ∀ j, (fun j => if j = 16 then ki else g83_33 j) j ≤ 4294967295 := xrb (by omega) (hb35)
      obtain ⟨g49, hg50⟩ : ∃ g : Nat → Nat, g = (fun j => if j = 16 then ki else g83_33 j) := ⟨_, rfl⟩
      rw [← hg50] at hr45
      have he51 : g49 16 = ki := by rw [hg50]; exact if_pos rfl
      have hk52 : ∀ j, j ≠ 16 → g49 j = g83_33 j := fun j hj => by rw [hg50]; exact if_neg hj
      rw [← hg50] at hx47
      rw [← hg50] at hb48
      refine xg_t (xg_aload (va := (2, 82)) rfl rfl) ?_
      refine xg_t (xg_getf (va := (2, 83)) (hb46.get (by decide) h82_31) rfl) ?_
      refine xg_t (xg_bip) ?_
      refine xg_t (xg_iload (va := (0, at_)) rfl rfl) ?_
      refine xg_iastK (n := 17) (u := at_) hr45 xnm0 xnm0 rfl (by omega) (fun w53 hr54 hb55 => ?_)
      have hx56 : okA (fun j => if j = 17 then at_ else g49 j) := hx47.upd (by omega) (by omega) (by omega) (fun _ => by omega) (by omega) (fun _ => by omega) (fun _ => by omega) (fun _ => by omega) (fun _ => by omega) (by omega) (fun _ _ => by omega)
      have hb57 : ∀ j, (fun j => if j = 17 then at_ else g49 j) j ≤ 4294967295 := xrb (by omega) (hb48)
      obtain ⟨g58, hg59⟩ : ∃ g : Nat → Nat, g = (fun j => if j = 17 then at_ else g49 j) := ⟨_, rfl⟩
      rw [← hg59] at hr54
      have he60 : g58 17 = at_ := by rw [hg59]; exact if_pos rfl
      have hk61 : ∀ j, j ≠ 17 → g58 j = g49 j := fun j hj => by rw [hg59]; exact if_neg hj
      rw [← hg59] at hx56
      rw [← hg59] at hb57
      have hk62 : g58 16 = g49 16 := hk61 16 (by omega)
      have hA63 : FA w53 = g58 16 := rwv_of hr54 (by decide)
      exact xg_e ⟨w53, ⟨rfl, rfl⟩, xMnv.up (S := [83]) hI ((xFr.of (S := [83]) hb46 (by decide)).tr (xFr.of (S := [83]) hb55 (by decide))) (List.forall_mem_cons.mpr ⟨(show cpx83 (wget w53 83) from ⟨_, hr54, hb57, hx56⟩), fun _ h => absurd h List.not_mem_nil⟩), ((xFr.of (S := [83]) hb46 (by decide)).tr (xFr.of (S := [83]) hb55 (by decide))), ⟨by omega, K83.st h83_34 hr54 (fun j h16 h17 => by rw [hk61 j (by omega), hk52 j (by omega)])⟩⟩
    · refine xg_t (xg_ifF (u := u40) rfl xnm0 (xj_eqF hc43)) ?_
      refine xg_t (xg_aload (va := (2, 82)) rfl rfl) ?_
      refine xg_t (xg_getf (va := (2, 83)) h82_31 rfl) ?_
      refine xg_t (xg_bip) ?_
      refine xg_ialdB (n := 17) (B := 4294967295) h83_34 (hb35) xnm0 (by omega) (fun u64 hu65 he66 => ?_)
      refine xg_t (xg_iload (va := (0, at_)) rfl rfl) ?_
      by_cases hc67 : xbs u64 < xbs at_
      · have hc67u := hc67
        unfold xbs at hc67u
        refine xg_t (xg_icT (u := u64) (v := at_) rfl xnm0 xnm0 (xjs_ltT hc67)) ?_
        refine xg_t (xg_blk (b := [(50, 1, 12, 0, 0, 0)]) rfl) ?_
        have hA68 : FA w = g83_33 16 := rwv_of h83_34 (by decide)
        exact xg_e ⟨w, ⟨rfl, rfl⟩, hI, xFr.rf, ⟨by omega, K83.rf⟩⟩
      · have hc67u := hc67
        unfold xbs at hc67u
        refine xg_t (xg_icF (u := u64) (v := at_) rfl xnm0 xnm0 (xjs_ltF hc67)) ?_
        refine xg_t (xg_aload (va := (2, 82)) rfl rfl) ?_
        refine xg_t (xg_getf (va := (2, 83)) h82_31 rfl) ?_
        refine xg_t (xg_bip) ?_
        refine xg_ialdB (n := 17) (B := 4294967295) h83_34 (hb35) xnm0 (by omega) (fun u69 hu70 he71 => ?_)
        refine xg_t (xg_iload (va := (0, at_)) rfl rfl) ?_
        by_cases hc72 : u69 = at_
        · refine xg_t (xg_icF (u := u69) (v := at_) rfl xnm0 xnm0 (xj_neF hc72)) ?_
          refine xg_t (xg_aload (va := (2, 82)) rfl rfl) ?_
          refine xg_t (xg_getf (va := (2, 83)) h82_31 rfl) ?_
          refine xg_t (xg_bip) ?_
          refine xg_ialdB (n := 16) (B := 4294967295) h83_34 (hb35) xnm0 (by omega) (fun u73 hu74 he75 => ?_)
          refine xg_t (xg_iload (va := (0, ki)) rfl rfl) ?_
          by_cases hc76 : xbs ki < xbs u73
          · have hc76u := hc76
            unfold xbs at hc76u
            have hn77 : ki ≤ 9 := by omega
            have hn78 : u73 ≤ 2147483647 := by omega
            refine xg_t (xg_icT (u := u73) (v := ki) rfl xnm0 xnm0 (xjs_gtT hc76)) ?_
            refine xg_t (xg_blk (b := [(51, 1, 0, 0, 0, 0), (52, 3, 1, 12, 0, 7), (55, 2, 4, 16, 0, 0), (57, 1, 2, 1, 0, 0), (58, 1, 17, 0, 0, 0), (59, 1, 0, 0, 0, 0), (60, 3, 1, 12, 0, 7), (63, 2, 4, 17, 0, 0), (65, 1, 2, 2, 0, 0), (66, 1, 17, 0, 0, 0), (67, 1, 12, 0, 0, 0)]) rfl) ?_
            refine xg_t (xg_aload (va := (2, 82)) rfl rfl) ?_
            refine xg_t (xg_getf (va := (2, 83)) h82_31 rfl) ?_
            refine xg_t (xg_bip) ?_
            refine xg_t (xg_iload (va := (0, ki)) rfl rfl) ?_
            refine xg_iastK (n := 16) (u := ki) h83_34 xnm0 xnm0 rfl (by omega) (fun w79 hr80 hb81 => ?_)
            have hx82 : okA (fun j => if j = 16 then ki else g83_33 j) := hx36.upd (by omega) (by omega) (by omega) (fun _ => by omega) (by omega) (fun _ => by omega) (fun _ => by omega) (fun _ => by omega) (fun _ => by omega) (by omega) (fun _ _ => by omega)
            have hb83 : ∀ j, (fun j => if j = 16 then ki else g83_33 j) j ≤ 4294967295 := xrb (by omega) (hb35)
            obtain ⟨g84, hg85⟩ : ∃ g : Nat → Nat, g = (fun j => if j = 16 then ki else g83_33 j) := ⟨_, rfl⟩
            rw [← hg85] at hr80
            have he86 : g84 16 = ki := by rw [hg85]; exact if_pos rfl
            have hk87 : ∀ j, j ≠ 16 → g84 j = g83_33 j := fun j hj => by rw [hg85]; exact if_neg hj
            rw [← hg85] at hx82
            rw [← hg85] at hb83
            refine xg_t (xg_aload (va := (2, 82)) rfl rfl) ?_
            refine xg_t (xg_getf (va := (2, 83)) (hb81.get (by decide) h82_31) rfl) ?_
            refine xg_t (xg_bip) ?_
            refine xg_t (xg_iload (va := (0, at_)) rfl rfl) ?_
            refine xg_iastK (n := 17) (u := at_) hr80 xnm0 xnm0 rfl (by omega) (fun w88 hr89 hb90 => ?_)
            have hx91 : okA (fun j => if j = 17 then at_ else g84 j) := hx82.upd (by omega) (by omega) (by omega) (fun _ => by omega) (by omega) (fun _ => by omega) (fun _ => by omega) (fun _ => by omega) (fun _ => by omega) (by omega) (fun _ _ => by omega)
            have hb92 : ∀ j, (fun j => if j = 17 then at_ else g84 j) j ≤ 4294967295 := xrb (by omega) (hb83)
            obtain ⟨g93, hg94⟩ : ∃ g : Nat → Nat, g = (fun j => if j = 17 then at_ else g84 j) := ⟨_, rfl⟩
            rw [← hg94] at hr89
            have he95 : g93 17 = at_ := by rw [hg94]; exact if_pos rfl
            have hk96 : ∀ j, j ≠ 17 → g93 j = g84 j := fun j hj => by rw [hg94]; exact if_neg hj
            rw [← hg94] at hx91
            rw [← hg94] at hb92
            have hk97 : g93 16 = g84 16 := hk96 16 (by omega)
            have hA98 : FA w88 = g93 16 := rwv_of hr89 (by decide)
            exact xg_e ⟨w88, ⟨rfl, rfl⟩, xMnv.up (S := [83]) hI ((xFr.of (S := [83]) hb81 (by decide)).tr (xFr.of (S := [83]) hb90 (by decide))) (List.forall_mem_cons.mpr ⟨(show cpx83 (wget w88 83) from ⟨_, hr89, hb92, hx91⟩), fun _ h => absurd h List.not_mem_nil⟩), ((xFr.of (S := [83]) hb81 (by decide)).tr (xFr.of (S := [83]) hb90 (by decide))), ⟨by omega, K83.st h83_34 hr89 (fun j h16 h17 => by rw [hk96 j (by omega), hk87 j (by omega)])⟩⟩
          · have hc76u := hc76
            unfold xbs at hc76u
            have hn99 : ki ≤ 9 := by omega
            refine xg_t (xg_icF (u := u73) (v := ki) rfl xnm0 xnm0 (xjs_gtF hc76)) ?_
            refine xg_t (xg_blk (b := [(50, 1, 12, 0, 0, 0)]) rfl) ?_
            have hA100 : FA w = g83_33 16 := rwv_of h83_34 (by decide)
            exact xg_e ⟨w, ⟨rfl, rfl⟩, hI, xFr.rf, ⟨by omega, K83.rf⟩⟩
        · refine xg_t (xg_icT (u := u69) (v := at_) rfl xnm0 xnm0 (xj_neT hc72)) ?_
          refine xg_t (xg_blk (b := [(51, 1, 0, 0, 0, 0), (52, 3, 1, 12, 0, 7), (55, 2, 4, 16, 0, 0), (57, 1, 2, 1, 0, 0), (58, 1, 17, 0, 0, 0), (59, 1, 0, 0, 0, 0), (60, 3, 1, 12, 0, 7), (63, 2, 4, 17, 0, 0), (65, 1, 2, 2, 0, 0), (66, 1, 17, 0, 0, 0), (67, 1, 12, 0, 0, 0)]) rfl) ?_
          refine xg_t (xg_aload (va := (2, 82)) rfl rfl) ?_
          refine xg_t (xg_getf (va := (2, 83)) h82_31 rfl) ?_
          refine xg_t (xg_bip) ?_
          refine xg_t (xg_iload (va := (0, ki)) rfl rfl) ?_
          refine xg_iastK (n := 16) (u := ki) h83_34 xnm0 xnm0 rfl (by omega) (fun w101 hr102 hb103 => ?_)
          have hx104 : okA (fun j => if j = 16 then ki else g83_33 j) := hx36.upd (by omega) (by omega) (by omega) (fun _ => by omega) (by omega) (fun _ => by omega) (fun _ => by omega) (fun _ => by omega) (fun _ => by omega) (by omega) (fun _ _ => by omega)
          have hb105 : ∀ j, (fun j => if j = 16 then ki else g83_33 j) j ≤ 4294967295 := xrb (by omega) (hb35)
          obtain ⟨g106, hg107⟩ : ∃ g : Nat → Nat, g = (fun j => if j = 16 then ki else g83_33 j) := ⟨_, rfl⟩
          rw [← hg107] at hr102
          have he108 : g106 16 = ki := by rw [hg107]; exact if_pos rfl
          have hk109 : ∀ j, j ≠ 16 → g106 j = g83_33 j := fun j hj => by rw [hg107]; exact if_neg hj
          rw [← hg107] at hx104
          rw [← hg107] at hb105
          refine xg_t (xg_aload (va := (2, 82)) rfl rfl) ?_
          refine xg_t (xg_getf (va := (2, 83)) (hb103.get (by decide) h82_31) rfl) ?_
          refine xg_t (xg_bip) ?_
          refine xg_t (xg_iload (va := (0, at_)) rfl rfl) ?_
          refine xg_iastK (n := 17) (u := at_) hr102 xnm0 xnm0 rfl (by omega) (fun w110 hr111 hb112 => ?_)
          have hx113 : okA (fun j => if j = 17 then at_ else g106 j) := hx104.upd (by omega) (by omega) (by omega) (fun _ => by omega) (by omega) (fun _ => by omega) (fun _ => by omega) (fun _ => by omega) (fun _ => by omega) (by omega) (fun _ _ => by omega)
          have hb114 : ∀ j, (fun j => if j = 17 then at_ else g106 j) j ≤ 4294967295 := xrb (by omega) (hb105)
          obtain ⟨g115, hg116⟩ : ∃ g : Nat → Nat, g = (fun j => if j = 17 then at_ else g106 j) := ⟨_, rfl⟩
          rw [← hg116] at hr111
          have he117 : g115 17 = at_ := by rw [hg116]; exact if_pos rfl
          have hk118 : ∀ j, j ≠ 17 → g115 j = g106 j := fun j hj => by rw [hg116]; exact if_neg hj
          rw [← hg116] at hx113
          rw [← hg116] at hb114
          have hk119 : g115 16 = g106 16 := hk118 16 (by omega)
          have hA120 : FA w110 = g115 16 := rwv_of hr111 (by decide)
          exact xg_e ⟨w110, ⟨rfl, rfl⟩, xMnv.up (S := [83]) hI ((xFr.of (S := [83]) hb103 (by decide)).tr (xFr.of (S := [83]) hb112 (by decide))) (List.forall_mem_cons.mpr ⟨(show cpx83 (wget w110 83) from ⟨_, hr111, hb114, hx113⟩), fun _ h => absurd h List.not_mem_nil⟩), ((xFr.of (S := [83]) hb103 (by decide)).tr (xFr.of (S := [83]) hb112 (by decide))), ⟨by omega, K83.st h83_34 hr111 (fun j h16 h17 => by rw [hk118 j (by omega), hk109 j (by omega)])⟩⟩
  · refine xg_t (xg_ifT (u := f82_17) rfl xnm0 (xj_neT hc39)) ?_
    refine xg_t (xg_blk (b := [(50, 1, 12, 0, 0, 0)]) rfl) ?_
    have hA121 : FA w = g83_33 16 := rwv_of h83_34 (by decide)
    exact xg_e ⟨w, ⟨rfl, rfl⟩, hI, xFr.rf, ⟨by omega, K83.rf⟩⟩
theorem mNumbered {le mo : Nat} (hI : xMnv w) (hle : le ≤ mo) (hmo : mo ≤ 9999) (hps : PS w) : xPi (d + 5) mX12_numbered [(2, 82), (0, le), (0, mo)] w bd fc rr (fun n w' => (n ≤ 4294967295 ∧ PK w w' ∧ (FA w' ≠ 0 ∨ (le ≤ n ∧ n ≤ mo))) ∧ xMnv w' ∧ xFr [82, 83] w w') := by
  refine xPi.of ?_
  show xTo (d + 5) mX12_numbered (0, [], [(0, (2, 82)), (1, (0, le)), (2, (0, mo))], [], (w, bd, fc, 0, 0, rr)) (fun φ => ∃ n w', xEnd 1 [(0, n)] (w', bd, fc, 0, 0, rr) φ ∧ (n ≤ 4294967295 ∧ PK w w' ∧ (FA w' ≠ 0 ∨ (le ≤ n ∧ n ≤ mo))) ∧ xMnv w' ∧ xFr [82, 83] w w')
  obtain ⟨f82_1, f82_3, f82_5, f82_7, f82_9, f82_11, f82_13, f82_15, f82_17, f82_19, f82_21, f82_22, f82_23, f82_25, f82_27, f82_29, h82_31, hb2, hb4, hb6, hb8, hb10, hb12, hb14, hb16, hb18, hb20, hb24, hb26, hb28, hb30, hb32⟩ := (hI 82 (by decide) (by decide) : cp82 (wget w 82))
  have hf33 : fld w 82 4 = f82_5 := fld_of h82_31
  have hf34 : fld w 82 5 = f82_7 := fld_of h82_31
  have hf35 : fld w 82 7 = f82_11 := fld_of h82_31
  have hf36 : fld w 82 8 = f82_13 := fld_of h82_31
  have hf37 : fld w 82 10 = f82_17 := fld_of h82_31
  have hf38 : fld w 82 14 = f82_19 := fld_of h82_31
  have hps_ : fld w 82 10 = 0 ∨ FA w ≠ 0 := hps
  refine xg_t (xg_blk (b := [(0, 1, 0, 0, 0, 0), (1, 3, 1, 12, 10, 180), (4, 3, 7, 15, 1, 0), (7, 1, 0, 0, 0, 0), (8, 3, 1, 12, 7, 151), (11, 1, 3, 1, 0, 0), (12, 3, 6, 21, 0, 0)]) rfl) ?_
  refine xg_t (xg_aload (va := (2, 82)) rfl rfl) ?_
  refine xg_t (xg_getf (va := (0, f82_17)) h82_31 rfl) ?_
  by_cases hc39 : f82_17 = 0
  · refine xg_t (xg_ifF (u := f82_17) rfl xnm0 (xj_neF hc39)) ?_
    refine xg_t (xg_aload (va := (2, 82)) rfl rfl) ?_
    refine xg_t (xg_getf (va := (0, f82_11)) h82_31 rfl) ?_
    refine xg_t (xg_const) ?_
    by_cases hc40 : f82_11 = 1
    · refine xg_t (xg_icT (u := f82_11) (v := 1) rfl xnm0 xnm0 (xj_eqT hc40)) ?_
      refine xg_t (xg_blk (b := [(21, 1, 0, 0, 0, 0), (22, 3, 1, 12, 8, 171), (25, 1, 15, 3, 0, 0), (26, 1, 2, 3, 0, 0), (27, 1, 2, 1, 0, 0), (28, 1, 2, 2, 0, 0), (29, 3, 13, 161, 98, 105), (32, 3, 7, 44, 1, 0), (35, 1, 0, 0, 0, 0), (36, 1, 3, 2, 0, 0), (37, 1, 0, 0, 0, 0), (38, 3, 1, 12, 6, 148), (41, 3, 13, 115, 96, 186)]) rfl) ?_
      refine xg_t (xg_aload (va := (2, 82)) rfl rfl) ?_
      refine xg_t (xg_getf (va := (0, f82_13)) h82_31 rfl) ?_
      refine xg_t (xg_istore (l1 := [(0, (2, 82)), (1, (0, le)), (2, (0, mo))]) rfl rfl rfl) ?_
      refine xg_t (xg_iload (va := (0, f82_13)) rfl rfl) ?_
      refine xg_t (xg_iload (va := (0, le)) rfl rfl) ?_
      refine xg_t (xg_iload (va := (0, mo)) rfl rfl) ?_
      refine xg_t (xg_cSr mX12_isIn (vs := [(0, f82_13), (0, le), (0, mo)]) (rest := []) (rs := [(0, if le ≤ f82_13 ∧ f82_13 ≤ mo then 1 else 0)]) (cn1 := 0) (sl1 := 0) rfl (mIsIn (by omega) (by omega) (by omega)) rfl rfl rfl rfl rfl rfl rfl rfl) ?_
      by_cases hc41 : le ≤ f82_13 ∧ f82_13 ≤ mo
      · refine xg_t (xg_ifT (u := (if le ≤ f82_13 ∧ f82_13 ≤ mo then 1 else 0)) rfl xnm0 (xj_neT (xite1 hc41))) ?_
        refine xg_t (xg_blk (b := [(44, 1, 0, 0, 0, 0), (45, 3, 13, 110, 96, 190), (48, 1, 2, 3, 0, 0), (49, 1, 12, 0, 1, 0)]) rfl) ?_
        refine xg_t (xg_aload (va := (2, 82)) rfl rfl) ?_
        refine xg_cVv mX12_advance (vs := []) (rest := []) (cn1 := 0) (sl1 := 0) rfl (mAdvance (hI)) rfl h82_31 rfl rfl rfl rfl rfl rfl (fun w42 hq43 => ?_)
        obtain ⟨hI44, hF45, hx46⟩ := hq43
        obtain ⟨hv47, hv48, hv49, hv50⟩ := hx46
        have hf51 := FA_fr hF45 (by decide)
        refine xg_t (xg_iload (va := (0, f82_13)) rfl rfl) ?_
        exact xg_e ⟨f82_13, w42, ⟨rfl, rfl⟩, ⟨by omega, ⟨fun _ => by omega, by omega, by omega, (show fld w42 82 10 = 0 ∨ FA w42 ≠ 0 by omega), (K83.fr hF45 (by decide))⟩, by omega⟩, hI44, (hF45.up (by decide))⟩
      · refine xg_t (xg_ifF (u := (if le ≤ f82_13 ∧ f82_13 ≤ mo then 1 else 0)) rfl xnm0 (xj_neF (xite0 hc41))) ?_
        refine xg_t (xg_aload (va := (2, 82)) rfl rfl) ?_
        refine xg_t (xg_const) ?_
        refine xg_t (xg_aload (va := (2, 82)) rfl rfl) ?_
        refine xg_t (xg_getf (va := (0, f82_9)) h82_31 rfl) ?_
        refine xg_cVv mX12_also (vs := [(0, 2), (0, f82_9)]) (rest := []) (cn1 := 0) (sl1 := 0) rfl (mAlso (hI) (by omega) (by omega) (by omega) (show fld w 82 10 = 0 ∨ FA w ≠ 0 by omega)) rfl h82_31 rfl rfl rfl rfl rfl rfl (fun w52 hq53 => ?_)
        obtain ⟨hI54, hF55, hx56⟩ := hq53
        obtain ⟨hv57, hv58⟩ := hx56
        have hf59 := fld_fr (c := 82) (j := 7) hF55 (by decide)
        have hf60 := fld_fr (c := 82) (j := 10) hF55 (by decide)
        have hf61 := fld_fr (c := 82) (j := 14) hF55 (by decide)
        have hf62 := mu_fr hF55 (by decide)
        refine xg_t (xg_blk (b := [(44, 1, 0, 0, 0, 0), (45, 3, 13, 110, 96, 190), (48, 1, 2, 3, 0, 0), (49, 1, 12, 0, 1, 0)]) rfl) ?_
        refine xg_t (xg_aload (va := (2, 82)) rfl rfl) ?_
        refine xg_cVv mX12_advance (vs := []) (rest := []) (cn1 := 0) (sl1 := 0) rfl (mAdvance (hI54)) rfl (hF55.get (by decide) h82_31) rfl rfl rfl rfl rfl rfl (fun w63 hq64 => ?_)
        obtain ⟨hI65, hF66, hx67⟩ := hq64
        obtain ⟨hv68, hv69, hv70, hv71⟩ := hx67
        have hf72 := FA_fr hF66 (by decide)
        refine xg_t (xg_iload (va := (0, f82_13)) rfl rfl) ?_
        exact xg_e ⟨f82_13, w63, ⟨rfl, rfl⟩, ⟨by omega, ⟨fun _ => by omega, by omega, by omega, (show fld w63 82 10 = 0 ∨ FA w63 ≠ 0 by omega), (hv58.tr (K83.fr hF66 (by decide)))⟩, by omega⟩, hI65, ((hF55.up (by decide)).tr (hF66.up (by decide)))⟩
    · refine xg_t (xg_icF (u := f82_11) (v := 1) rfl xnm0 xnm0 (xj_eqF hc40)) ?_
      refine xg_t (xg_blk (b := [(15, 1, 0, 0, 0, 0), (16, 3, 13, 140, 96, 183), (19, 1, 3, 0, 0, 0), (20, 1, 12, 0, 1, 0)]) rfl) ?_
      refine xg_t (xg_aload (va := (2, 82)) rfl rfl) ?_
      refine xg_cVv mX12_ends (vs := []) (rest := []) (cn1 := 0) (sl1 := 0) rfl (mEnds (hI) (show fld w 82 10 = 0 ∨ FA w ≠ 0 by omega)) rfl h82_31 rfl rfl rfl rfl rfl rfl (fun w73 hq74 => ?_)
      obtain ⟨hI75, hF76, hx77⟩ := hq74
      obtain ⟨hv78, hv79, hv80, hv81, hv82⟩ := hx77
      refine xg_t (xg_const) ?_
      exact xg_e ⟨0, w73, ⟨rfl, rfl⟩, ⟨by omega, ⟨fun _ => by omega, by omega, by omega, (show fld w73 82 10 = 0 ∨ FA w73 ≠ 0 by omega), hv82⟩, by omega⟩, hI75, (hF76.up (by decide))⟩
  · refine xg_t (xg_ifT (u := f82_17) rfl xnm0 (xj_neT hc39)) ?_
    refine xg_t (xg_blk (b := [(15, 1, 0, 0, 0, 0), (16, 3, 13, 140, 96, 183), (19, 1, 3, 0, 0, 0), (20, 1, 12, 0, 1, 0)]) rfl) ?_
    refine xg_t (xg_aload (va := (2, 82)) rfl rfl) ?_
    refine xg_cVv mX12_ends (vs := []) (rest := []) (cn1 := 0) (sl1 := 0) rfl (mEnds (hI) (show fld w 82 10 = 0 ∨ FA w ≠ 0 by omega)) rfl h82_31 rfl rfl rfl rfl rfl rfl (fun w83 hq84 => ?_)
    obtain ⟨hI85, hF86, hx87⟩ := hq84
    obtain ⟨hv88, hv89, hv90, hv91, hv92⟩ := hx87
    refine xg_t (xg_const) ?_
    exact xg_e ⟨0, w83, ⟨rfl, rfl⟩, ⟨by omega, ⟨fun _ => by omega, by omega, by omega, (show fld w83 82 10 = 0 ∨ FA w83 ≠ 0 by omega), hv92⟩, by omega⟩, hI85, (hF86.up (by decide))⟩
theorem mMostR0 : xPr d mX12_mostOf [(0, 0)] w bd fc rr [(0, 6)] w := by
  refine xPr.of ?_
  show xTo d mX12_mostOf (0, [], [(0, (0, 0))], [], (w, bd, fc, 0, 0, rr)) (xEnd 1 [(0, 6)] (w, bd, fc, 0, 0, rr))
  refine xg_t (xg_blk (b := [(0, 1, 2, 0, 0, 0), (1, 3, 7, 9, 0, 0), (4, 1, 2, 0, 0, 0), (5, 1, 3, 2, 0, 0), (6, 3, 6, 14, 1, 0)]) rfl) ?_
  refine xg_t (xg_iload (va := (0, 0)) rfl rfl) ?_
  refine xg_t (xg_ifT (u := 0) rfl xnm0 (by decide)) ?_
  refine xg_t (xg_blk (b := [(9, 2, 4, 6, 0, 0), (11, 3, 8, 39, 0, 0)]) rfl) ?_
  refine xg_t (xg_bip) ?_
  refine xg_t (xg_goto) ?_
  refine xg_t (xg_blk (b := [(39, 1, 12, 0, 1, 0)]) rfl) ?_
  exact xg_e ⟨rfl, rfl⟩
theorem mMostR1 : xPr d mX12_mostOf [(0, 1)] w bd fc rr [(0, 4)] w := by
  refine xPr.of ?_
  show xTo d mX12_mostOf (0, [], [(0, (0, 1))], [], (w, bd, fc, 0, 0, rr)) (xEnd 1 [(0, 4)] (w, bd, fc, 0, 0, rr))
  refine xg_t (xg_blk (b := [(0, 1, 2, 0, 0, 0), (1, 3, 7, 9, 0, 0), (4, 1, 2, 0, 0, 0), (5, 1, 3, 2, 0, 0), (6, 3, 6, 14, 1, 0)]) rfl) ?_
  refine xg_t (xg_iload (va := (0, 1)) rfl rfl) ?_
  refine xg_t (xg_ifF (u := 1) rfl xnm0 (by decide)) ?_
  refine xg_t (xg_iload (va := (0, 1)) rfl rfl) ?_
  refine xg_t (xg_const) ?_
  refine xg_t (xg_icT (u := 1) (v := 2) rfl xnm0 xnm0 (by decide)) ?_
  refine xg_t (xg_blk (b := [(14, 1, 2, 0, 0, 0), (15, 1, 3, 1, 0, 0), (16, 3, 6, 24, 0, 0), (19, 1, 2, 0, 0, 0), (20, 1, 3, 3, 0, 0), (21, 3, 6, 28, 1, 0)]) rfl) ?_
  refine xg_t (xg_iload (va := (0, 1)) rfl rfl) ?_
  refine xg_t (xg_const) ?_
  refine xg_t (xg_icT (u := 1) (v := 1) rfl xnm0 xnm0 (by decide)) ?_
  refine xg_t (xg_blk (b := [(24, 1, 3, 4, 0, 0), (25, 3, 8, 39, 0, 0)]) rfl) ?_
  refine xg_t (xg_const) ?_
  refine xg_t (xg_goto) ?_
  refine xg_t (xg_blk (b := [(39, 1, 12, 0, 1, 0)]) rfl) ?_
  exact xg_e ⟨rfl, rfl⟩
theorem mMostR2 : xPr d mX12_mostOf [(0, 2)] w bd fc rr [(0, 6)] w := by
  refine xPr.of ?_
  show xTo d mX12_mostOf (0, [], [(0, (0, 2))], [], (w, bd, fc, 0, 0, rr)) (xEnd 1 [(0, 6)] (w, bd, fc, 0, 0, rr))
  refine xg_t (xg_blk (b := [(0, 1, 2, 0, 0, 0), (1, 3, 7, 9, 0, 0), (4, 1, 2, 0, 0, 0), (5, 1, 3, 2, 0, 0), (6, 3, 6, 14, 1, 0)]) rfl) ?_
  refine xg_t (xg_iload (va := (0, 2)) rfl rfl) ?_
  refine xg_t (xg_ifF (u := 2) rfl xnm0 (by decide)) ?_
  refine xg_t (xg_iload (va := (0, 2)) rfl rfl) ?_
  refine xg_t (xg_const) ?_
  refine xg_t (xg_icF (u := 2) (v := 2) rfl xnm0 xnm0 (by decide)) ?_
  refine xg_t (xg_blk (b := [(9, 2, 4, 6, 0, 0), (11, 3, 8, 39, 0, 0)]) rfl) ?_
  refine xg_t (xg_bip) ?_
  refine xg_t (xg_goto) ?_
  refine xg_t (xg_blk (b := [(39, 1, 12, 0, 1, 0)]) rfl) ?_
  exact xg_e ⟨rfl, rfl⟩
theorem mMostR3 : xPr d mX12_mostOf [(0, 3)] w bd fc rr [(0, 4)] w := by
  refine xPr.of ?_
  show xTo d mX12_mostOf (0, [], [(0, (0, 3))], [], (w, bd, fc, 0, 0, rr)) (xEnd 1 [(0, 4)] (w, bd, fc, 0, 0, rr))
  refine xg_t (xg_blk (b := [(0, 1, 2, 0, 0, 0), (1, 3, 7, 9, 0, 0), (4, 1, 2, 0, 0, 0), (5, 1, 3, 2, 0, 0), (6, 3, 6, 14, 1, 0)]) rfl) ?_
  refine xg_t (xg_iload (va := (0, 3)) rfl rfl) ?_
  refine xg_t (xg_ifF (u := 3) rfl xnm0 (by decide)) ?_
  refine xg_t (xg_iload (va := (0, 3)) rfl rfl) ?_
  refine xg_t (xg_const) ?_
  refine xg_t (xg_icT (u := 3) (v := 2) rfl xnm0 xnm0 (by decide)) ?_
  refine xg_t (xg_blk (b := [(14, 1, 2, 0, 0, 0), (15, 1, 3, 1, 0, 0), (16, 3, 6, 24, 0, 0), (19, 1, 2, 0, 0, 0), (20, 1, 3, 3, 0, 0), (21, 3, 6, 28, 1, 0)]) rfl) ?_
  refine xg_t (xg_iload (va := (0, 3)) rfl rfl) ?_
  refine xg_t (xg_const) ?_
  refine xg_t (xg_icF (u := 3) (v := 1) rfl xnm0 xnm0 (by decide)) ?_
  refine xg_t (xg_iload (va := (0, 3)) rfl rfl) ?_
  refine xg_t (xg_const) ?_
  refine xg_t (xg_icF (u := 3) (v := 3) rfl xnm0 xnm0 (by decide)) ?_
  refine xg_t (xg_blk (b := [(24, 1, 3, 4, 0, 0), (25, 3, 8, 39, 0, 0)]) rfl) ?_
  refine xg_t (xg_const) ?_
  refine xg_t (xg_goto) ?_
  refine xg_t (xg_blk (b := [(39, 1, 12, 0, 1, 0)]) rfl) ?_
  exact xg_e ⟨rfl, rfl⟩
theorem mMostR4 : xPr d mX12_mostOf [(0, 4)] w bd fc rr [(0, 20)] w := by
  refine xPr.of ?_
  show xTo d mX12_mostOf (0, [], [(0, (0, 4))], [], (w, bd, fc, 0, 0, rr)) (xEnd 1 [(0, 20)] (w, bd, fc, 0, 0, rr))
  refine xg_t (xg_blk (b := [(0, 1, 2, 0, 0, 0), (1, 3, 7, 9, 0, 0), (4, 1, 2, 0, 0, 0), (5, 1, 3, 2, 0, 0), (6, 3, 6, 14, 1, 0)]) rfl) ?_
  refine xg_t (xg_iload (va := (0, 4)) rfl rfl) ?_
  refine xg_t (xg_ifF (u := 4) rfl xnm0 (by decide)) ?_
  refine xg_t (xg_iload (va := (0, 4)) rfl rfl) ?_
  refine xg_t (xg_const) ?_
  refine xg_t (xg_icT (u := 4) (v := 2) rfl xnm0 xnm0 (by decide)) ?_
  refine xg_t (xg_blk (b := [(14, 1, 2, 0, 0, 0), (15, 1, 3, 1, 0, 0), (16, 3, 6, 24, 0, 0), (19, 1, 2, 0, 0, 0), (20, 1, 3, 3, 0, 0), (21, 3, 6, 28, 1, 0)]) rfl) ?_
  refine xg_t (xg_iload (va := (0, 4)) rfl rfl) ?_
  refine xg_t (xg_const) ?_
  refine xg_t (xg_icF (u := 4) (v := 1) rfl xnm0 xnm0 (by decide)) ?_
  refine xg_t (xg_iload (va := (0, 4)) rfl rfl) ?_
  refine xg_t (xg_const) ?_
  refine xg_t (xg_icT (u := 4) (v := 3) rfl xnm0 xnm0 (by decide)) ?_
  refine xg_t (xg_blk (b := [(28, 1, 2, 0, 0, 0), (29, 1, 3, 4, 0, 0), (30, 3, 6, 38, 1, 0), (33, 2, 4, 20, 0, 0), (35, 3, 8, 39, 0, 0)]) rfl) ?_
  refine xg_t (xg_iload (va := (0, 4)) rfl rfl) ?_
  refine xg_t (xg_const) ?_
  refine xg_t (xg_icF (u := 4) (v := 4) rfl xnm0 xnm0 (by decide)) ?_
  refine xg_t (xg_bip) ?_
  refine xg_t (xg_goto) ?_
  refine xg_t (xg_blk (b := [(39, 1, 12, 0, 1, 0)]) rfl) ?_
  exact xg_e ⟨rfl, rfl⟩
theorem mMostR5 : xPr d mX12_mostOf [(0, 5)] w bd fc rr [(0, 1)] w := by
  refine xPr.of ?_
  show xTo d mX12_mostOf (0, [], [(0, (0, 5))], [], (w, bd, fc, 0, 0, rr)) (xEnd 1 [(0, 1)] (w, bd, fc, 0, 0, rr))
  refine xg_t (xg_blk (b := [(0, 1, 2, 0, 0, 0), (1, 3, 7, 9, 0, 0), (4, 1, 2, 0, 0, 0), (5, 1, 3, 2, 0, 0), (6, 3, 6, 14, 1, 0)]) rfl) ?_
  refine xg_t (xg_iload (va := (0, 5)) rfl rfl) ?_
  refine xg_t (xg_ifF (u := 5) rfl xnm0 (by decide)) ?_
  refine xg_t (xg_iload (va := (0, 5)) rfl rfl) ?_
  refine xg_t (xg_const) ?_
  refine xg_t (xg_icT (u := 5) (v := 2) rfl xnm0 xnm0 (by decide)) ?_
  refine xg_t (xg_blk (b := [(14, 1, 2, 0, 0, 0), (15, 1, 3, 1, 0, 0), (16, 3, 6, 24, 0, 0), (19, 1, 2, 0, 0, 0), (20, 1, 3, 3, 0, 0), (21, 3, 6, 28, 1, 0)]) rfl) ?_
  refine xg_t (xg_iload (va := (0, 5)) rfl rfl) ?_
  refine xg_t (xg_const) ?_
  refine xg_t (xg_icF (u := 5) (v := 1) rfl xnm0 xnm0 (by decide)) ?_
  refine xg_t (xg_iload (va := (0, 5)) rfl rfl) ?_
  refine xg_t (xg_const) ?_
  refine xg_t (xg_icT (u := 5) (v := 3) rfl xnm0 xnm0 (by decide)) ?_
  refine xg_t (xg_blk (b := [(28, 1, 2, 0, 0, 0), (29, 1, 3, 4, 0, 0), (30, 3, 6, 38, 1, 0), (33, 2, 4, 20, 0, 0), (35, 3, 8, 39, 0, 0)]) rfl) ?_
  refine xg_t (xg_iload (va := (0, 5)) rfl rfl) ?_
  refine xg_t (xg_const) ?_
  refine xg_t (xg_icT (u := 5) (v := 4) rfl xnm0 xnm0 (by decide)) ?_
  refine xg_t (xg_blk (b := [(38, 1, 3, 1, 0, 0)]) rfl) ?_
  refine xg_t (xg_const) ?_
  refine xg_t (xg_blk (b := [(39, 1, 12, 0, 1, 0)]) rfl) ?_
  exact xg_e ⟨rfl, rfl⟩
theorem mMostR6 : xPr d mX12_mostOf [(0, 6)] w bd fc rr [(0, 1)] w := by
  refine xPr.of ?_
  show xTo d mX12_mostOf (0, [], [(0, (0, 6))], [], (w, bd, fc, 0, 0, rr)) (xEnd 1 [(0, 1)] (w, bd, fc, 0, 0, rr))
  refine xg_t (xg_blk (b := [(0, 1, 2, 0, 0, 0), (1, 3, 7, 9, 0, 0), (4, 1, 2, 0, 0, 0), (5, 1, 3, 2, 0, 0), (6, 3, 6, 14, 1, 0)]) rfl) ?_
  refine xg_t (xg_iload (va := (0, 6)) rfl rfl) ?_
  refine xg_t (xg_ifF (u := 6) rfl xnm0 (by decide)) ?_
  refine xg_t (xg_iload (va := (0, 6)) rfl rfl) ?_
  refine xg_t (xg_const) ?_
  refine xg_t (xg_icT (u := 6) (v := 2) rfl xnm0 xnm0 (by decide)) ?_
  refine xg_t (xg_blk (b := [(14, 1, 2, 0, 0, 0), (15, 1, 3, 1, 0, 0), (16, 3, 6, 24, 0, 0), (19, 1, 2, 0, 0, 0), (20, 1, 3, 3, 0, 0), (21, 3, 6, 28, 1, 0)]) rfl) ?_
  refine xg_t (xg_iload (va := (0, 6)) rfl rfl) ?_
  refine xg_t (xg_const) ?_
  refine xg_t (xg_icF (u := 6) (v := 1) rfl xnm0 xnm0 (by decide)) ?_
  refine xg_t (xg_iload (va := (0, 6)) rfl rfl) ?_
  refine xg_t (xg_const) ?_
  refine xg_t (xg_icT (u := 6) (v := 3) rfl xnm0 xnm0 (by decide)) ?_
  refine xg_t (xg_blk (b := [(28, 1, 2, 0, 0, 0), (29, 1, 3, 4, 0, 0), (30, 3, 6, 38, 1, 0), (33, 2, 4, 20, 0, 0), (35, 3, 8, 39, 0, 0)]) rfl) ?_
  refine xg_t (xg_iload (va := (0, 6)) rfl rfl) ?_
  refine xg_t (xg_const) ?_
  refine xg_t (xg_icT (u := 6) (v := 4) rfl xnm0 xnm0 (by decide)) ?_
  refine xg_t (xg_blk (b := [(38, 1, 3, 1, 0, 0)]) rfl) ?_
  refine xg_t (xg_const) ?_
  refine xg_t (xg_blk (b := [(39, 1, 12, 0, 1, 0)]) rfl) ?_
  exact xg_e ⟨rfl, rfl⟩
theorem mPuts0 {kk at_ va : Nat} (hI : xMnv w) (hkk : kk ≤ 1001) (hat : at_ ≤ 9999) (hva : va ≤ 4294967295) (hin : kk < 6 → at_ < 140) : xPq (d + 1) mX12_puts [(2, 82), (0, 0), (0, kk), (0, at_), (0, va)] w bd fc rr [] (fun w' => xMnv w' ∧ xFr [86] w w' ∧ ((kk < 6 → rwv w' 86 at_ = va) ∧ ∀ j, j ≠ at_ → j < 140 → rwv w' 86 j = rwv w 86 j)) := by
  refine xPq.of ?_
  show xTo (d + 1) mX12_puts (0, [], [(0, (2, 82)), (1, (0, 0)), (2, (0, kk)), (3, (0, at_)), (4, (0, va))], [], (w, bd, fc, 0, 0, rr)) (fun φ => ∃ w', xEnd 0 [] (w', bd, fc, 0, 0, rr) φ ∧ xMnv w' ∧ xFr [86] w w' ∧ ((kk < 6 → rwv w' 86 at_ = va) ∧ ∀ j, j ≠ at_ → j < 140 → rwv w' 86 j = rwv w 86 j))
  obtain ⟨f82_1, f82_3, f82_5, f82_7, f82_9, f82_11, f82_13, f82_15, f82_17, f82_19, f82_21, f82_22, f82_23, f82_25, f82_27, f82_29, h82_31, hb2, hb4, hb6, hb8, hb10, hb12, hb14, hb16, hb18, hb20, hb24, hb26, hb28, hb30, hb32⟩ := (hI 82 (by decide) (by decide) : cp82 (wget w 82))
  obtain ⟨g86_33, h86_34, hb35⟩ := (hI 86 (by decide) (by decide) : cpI 140 53 4294967295 (wget w 86))
  have h86_34 : xRow w 86 140 53 g86_33 := h86_34
  refine xg_t (xg_blk (b := [(0, 1, 2, 2, 0, 0), (1, 1, 2, 1, 0, 0), (2, 3, 13, 194, 98, 193), (5, 3, 6, 16, 3, 0), (8, 1, 0, 0, 0, 0), (9, 3, 1, 12, 12, 20), (12, 1, 2, 3, 0, 0), (13, 2, 2, 4, 0, 0), (15, 1, 17, 0, 0, 0)]) rfl) ?_
  refine xg_t (xg_iload (va := (0, kk)) rfl rfl) ?_
  refine xg_t (xg_iload (va := (0, 0)) rfl rfl) ?_
  refine xg_t (xg_cSr mX12_mostOf (vs := [(0, 0)]) (rest := [(0, kk)]) (rs := [(0, 6), (0, kk)]) (cn1 := 0) (sl1 := 0) rfl (mMostR0) rfl rfl rfl rfl rfl rfl rfl rfl) ?_
  by_cases hc36 : kk < 6
  · refine xg_t (xg_icF (u := kk) (v := 6) rfl xnm0 xnm0 (xj_geF hc36 (by omega))) ?_
    refine xg_t (xg_aload (va := (2, 82)) rfl rfl) ?_
    refine xg_t (xg_getf (va := (2, 86)) h82_31 rfl) ?_
    refine xg_t (xg_iload (va := (0, at_)) rfl rfl) ?_
    refine xg_t (xg_iload (va := (0, va)) rfl rfl) ?_
    refine xg_iastK (n := at_) (u := va) h86_34 xnm0 xnm0 rfl (by omega) (fun w37 hr38 hb39 => ?_)
    refine xg_t (xg_blk (b := [(16, 1, 12, 0, 0, 0)]) rfl) ?_
    exact xg_e ⟨w37, ⟨rfl, rfl⟩, xMnv.up (S := [86]) hI (xFr.of (S := [86]) hb39 (by decide)) (List.forall_mem_cons.mpr ⟨(show cpI 140 53 4294967295 (wget w37 86) from ⟨_, hr38, xrb (by omega) (hb35)⟩), fun _ h => absurd h List.not_mem_nil⟩), (xFr.of (S := [86]) hb39 (by decide)), ⟨fun _ => (rwv_of hr38 (by omega)).trans (if_pos rfl), fun j hj hl => (rwv_of hr38 hl).trans ((if_neg hj).trans (rwv_of h86_34 hl).symm)⟩⟩
  · refine xg_t (xg_icT (u := kk) (v := 6) rfl xnm0 xnm0 (xj_geT (by omega) (by omega))) ?_
    refine xg_t (xg_blk (b := [(16, 1, 12, 0, 0, 0)]) rfl) ?_
    exact xg_e ⟨w, ⟨rfl, rfl⟩, hI, xFr.rf, ⟨fun h => absurd h (by omega), fun j _ _ => rfl⟩⟩
theorem mPuts1 {kk at_ va : Nat} (hI : xMnv w) (hkk : kk ≤ 1001) (hat : at_ ≤ 9999) (hva : va ≤ 4294967295) (hin : kk < 4 → at_ < 140) : xPq (d + 1) mX12_puts [(2, 82), (0, 1), (0, kk), (0, at_), (0, va)] w bd fc rr [] (fun w' => xMnv w' ∧ xFr [86] w w' ∧ ((kk < 4 → rwv w' 86 at_ = va) ∧ ∀ j, j ≠ at_ → j < 140 → rwv w' 86 j = rwv w 86 j)) := by
  refine xPq.of ?_
  show xTo (d + 1) mX12_puts (0, [], [(0, (2, 82)), (1, (0, 1)), (2, (0, kk)), (3, (0, at_)), (4, (0, va))], [], (w, bd, fc, 0, 0, rr)) (fun φ => ∃ w', xEnd 0 [] (w', bd, fc, 0, 0, rr) φ ∧ xMnv w' ∧ xFr [86] w w' ∧ ((kk < 4 → rwv w' 86 at_ = va) ∧ ∀ j, j ≠ at_ → j < 140 → rwv w' 86 j = rwv w 86 j))
  obtain ⟨f82_1, f82_3, f82_5, f82_7, f82_9, f82_11, f82_13, f82_15, f82_17, f82_19, f82_21, f82_22, f82_23, f82_25, f82_27, f82_29, h82_31, hb2, hb4, hb6, hb8, hb10, hb12, hb14, hb16, hb18, hb20, hb24, hb26, hb28, hb30, hb32⟩ := (hI 82 (by decide) (by decide) : cp82 (wget w 82))
  obtain ⟨g86_33, h86_34, hb35⟩ := (hI 86 (by decide) (by decide) : cpI 140 53 4294967295 (wget w 86))
  have h86_34 : xRow w 86 140 53 g86_33 := h86_34
  refine xg_t (xg_blk (b := [(0, 1, 2, 2, 0, 0), (1, 1, 2, 1, 0, 0), (2, 3, 13, 194, 98, 193), (5, 3, 6, 16, 3, 0), (8, 1, 0, 0, 0, 0), (9, 3, 1, 12, 12, 20), (12, 1, 2, 3, 0, 0), (13, 2, 2, 4, 0, 0), (15, 1, 17, 0, 0, 0)]) rfl) ?_
  refine xg_t (xg_iload (va := (0, kk)) rfl rfl) ?_
  refine xg_t (xg_iload (va := (0, 1)) rfl rfl) ?_
  refine xg_t (xg_cSr mX12_mostOf (vs := [(0, 1)]) (rest := [(0, kk)]) (rs := [(0, 4), (0, kk)]) (cn1 := 0) (sl1 := 0) rfl (mMostR1) rfl rfl rfl rfl rfl rfl rfl rfl) ?_
  by_cases hc36 : kk < 4
  · refine xg_t (xg_icF (u := kk) (v := 4) rfl xnm0 xnm0 (xj_geF hc36 (by omega))) ?_
    refine xg_t (xg_aload (va := (2, 82)) rfl rfl) ?_
    refine xg_t (xg_getf (va := (2, 86)) h82_31 rfl) ?_
    refine xg_t (xg_iload (va := (0, at_)) rfl rfl) ?_
    refine xg_t (xg_iload (va := (0, va)) rfl rfl) ?_
    refine xg_iastK (n := at_) (u := va) h86_34 xnm0 xnm0 rfl (by omega) (fun w37 hr38 hb39 => ?_)
    refine xg_t (xg_blk (b := [(16, 1, 12, 0, 0, 0)]) rfl) ?_
    exact xg_e ⟨w37, ⟨rfl, rfl⟩, xMnv.up (S := [86]) hI (xFr.of (S := [86]) hb39 (by decide)) (List.forall_mem_cons.mpr ⟨(show cpI 140 53 4294967295 (wget w37 86) from ⟨_, hr38, xrb (by omega) (hb35)⟩), fun _ h => absurd h List.not_mem_nil⟩), (xFr.of (S := [86]) hb39 (by decide)), ⟨fun _ => (rwv_of hr38 (by omega)).trans (if_pos rfl), fun j hj hl => (rwv_of hr38 hl).trans ((if_neg hj).trans (rwv_of h86_34 hl).symm)⟩⟩
  · refine xg_t (xg_icT (u := kk) (v := 4) rfl xnm0 xnm0 (xj_geT (by omega) (by omega))) ?_
    refine xg_t (xg_blk (b := [(16, 1, 12, 0, 0, 0)]) rfl) ?_
    exact xg_e ⟨w, ⟨rfl, rfl⟩, hI, xFr.rf, ⟨fun h => absurd h (by omega), fun j _ _ => rfl⟩⟩
theorem mPuts2 {kk at_ va : Nat} (hI : xMnv w) (hkk : kk ≤ 1001) (hat : at_ ≤ 9999) (hva : va ≤ 4294967295) (hin : kk < 6 → at_ < 140) : xPq (d + 1) mX12_puts [(2, 82), (0, 2), (0, kk), (0, at_), (0, va)] w bd fc rr [] (fun w' => xMnv w' ∧ xFr [86] w w' ∧ ((kk < 6 → rwv w' 86 at_ = va) ∧ ∀ j, j ≠ at_ → j < 140 → rwv w' 86 j = rwv w 86 j)) := by
  refine xPq.of ?_
  show xTo (d + 1) mX12_puts (0, [], [(0, (2, 82)), (1, (0, 2)), (2, (0, kk)), (3, (0, at_)), (4, (0, va))], [], (w, bd, fc, 0, 0, rr)) (fun φ => ∃ w', xEnd 0 [] (w', bd, fc, 0, 0, rr) φ ∧ xMnv w' ∧ xFr [86] w w' ∧ ((kk < 6 → rwv w' 86 at_ = va) ∧ ∀ j, j ≠ at_ → j < 140 → rwv w' 86 j = rwv w 86 j))
  obtain ⟨f82_1, f82_3, f82_5, f82_7, f82_9, f82_11, f82_13, f82_15, f82_17, f82_19, f82_21, f82_22, f82_23, f82_25, f82_27, f82_29, h82_31, hb2, hb4, hb6, hb8, hb10, hb12, hb14, hb16, hb18, hb20, hb24, hb26, hb28, hb30, hb32⟩ := (hI 82 (by decide) (by decide) : cp82 (wget w 82))
  obtain ⟨g86_33, h86_34, hb35⟩ := (hI 86 (by decide) (by decide) : cpI 140 53 4294967295 (wget w 86))
  have h86_34 : xRow w 86 140 53 g86_33 := h86_34
  refine xg_t (xg_blk (b := [(0, 1, 2, 2, 0, 0), (1, 1, 2, 1, 0, 0), (2, 3, 13, 194, 98, 193), (5, 3, 6, 16, 3, 0), (8, 1, 0, 0, 0, 0), (9, 3, 1, 12, 12, 20), (12, 1, 2, 3, 0, 0), (13, 2, 2, 4, 0, 0), (15, 1, 17, 0, 0, 0)]) rfl) ?_
  refine xg_t (xg_iload (va := (0, kk)) rfl rfl) ?_
  refine xg_t (xg_iload (va := (0, 2)) rfl rfl) ?_
  refine xg_t (xg_cSr mX12_mostOf (vs := [(0, 2)]) (rest := [(0, kk)]) (rs := [(0, 6), (0, kk)]) (cn1 := 0) (sl1 := 0) rfl (mMostR2) rfl rfl rfl rfl rfl rfl rfl rfl) ?_
  by_cases hc36 : kk < 6
  · refine xg_t (xg_icF (u := kk) (v := 6) rfl xnm0 xnm0 (xj_geF hc36 (by omega))) ?_
    refine xg_t (xg_aload (va := (2, 82)) rfl rfl) ?_
    refine xg_t (xg_getf (va := (2, 86)) h82_31 rfl) ?_
    refine xg_t (xg_iload (va := (0, at_)) rfl rfl) ?_
    refine xg_t (xg_iload (va := (0, va)) rfl rfl) ?_
    refine xg_iastK (n := at_) (u := va) h86_34 xnm0 xnm0 rfl (by omega) (fun w37 hr38 hb39 => ?_)
    refine xg_t (xg_blk (b := [(16, 1, 12, 0, 0, 0)]) rfl) ?_
    exact xg_e ⟨w37, ⟨rfl, rfl⟩, xMnv.up (S := [86]) hI (xFr.of (S := [86]) hb39 (by decide)) (List.forall_mem_cons.mpr ⟨(show cpI 140 53 4294967295 (wget w37 86) from ⟨_, hr38, xrb (by omega) (hb35)⟩), fun _ h => absurd h List.not_mem_nil⟩), (xFr.of (S := [86]) hb39 (by decide)), ⟨fun _ => (rwv_of hr38 (by omega)).trans (if_pos rfl), fun j hj hl => (rwv_of hr38 hl).trans ((if_neg hj).trans (rwv_of h86_34 hl).symm)⟩⟩
  · refine xg_t (xg_icT (u := kk) (v := 6) rfl xnm0 xnm0 (xj_geT (by omega) (by omega))) ?_
    refine xg_t (xg_blk (b := [(16, 1, 12, 0, 0, 0)]) rfl) ?_
    exact xg_e ⟨w, ⟨rfl, rfl⟩, hI, xFr.rf, ⟨fun h => absurd h (by omega), fun j _ _ => rfl⟩⟩
theorem mPuts3 {kk at_ va : Nat} (hI : xMnv w) (hkk : kk ≤ 1001) (hat : at_ ≤ 9999) (hva : va ≤ 4294967295) (hin : kk < 4 → at_ < 140) : xPq (d + 1) mX12_puts [(2, 82), (0, 3), (0, kk), (0, at_), (0, va)] w bd fc rr [] (fun w' => xMnv w' ∧ xFr [86] w w' ∧ ((kk < 4 → rwv w' 86 at_ = va) ∧ ∀ j, j ≠ at_ → j < 140 → rwv w' 86 j = rwv w 86 j)) := by
  refine xPq.of ?_
  show xTo (d + 1) mX12_puts (0, [], [(0, (2, 82)), (1, (0, 3)), (2, (0, kk)), (3, (0, at_)), (4, (0, va))], [], (w, bd, fc, 0, 0, rr)) (fun φ => ∃ w', xEnd 0 [] (w', bd, fc, 0, 0, rr) φ ∧ xMnv w' ∧ xFr [86] w w' ∧ ((kk < 4 → rwv w' 86 at_ = va) ∧ ∀ j, j ≠ at_ → j < 140 → rwv w' 86 j = rwv w 86 j))
  obtain ⟨f82_1, f82_3, f82_5, f82_7, f82_9, f82_11, f82_13, f82_15, f82_17, f82_19, f82_21, f82_22, f82_23, f82_25, f82_27, f82_29, h82_31, hb2, hb4, hb6, hb8, hb10, hb12, hb14, hb16, hb18, hb20, hb24, hb26, hb28, hb30, hb32⟩ := (hI 82 (by decide) (by decide) : cp82 (wget w 82))
  obtain ⟨g86_33, h86_34, hb35⟩ := (hI 86 (by decide) (by decide) : cpI 140 53 4294967295 (wget w 86))
  have h86_34 : xRow w 86 140 53 g86_33 := h86_34
  refine xg_t (xg_blk (b := [(0, 1, 2, 2, 0, 0), (1, 1, 2, 1, 0, 0), (2, 3, 13, 194, 98, 193), (5, 3, 6, 16, 3, 0), (8, 1, 0, 0, 0, 0), (9, 3, 1, 12, 12, 20), (12, 1, 2, 3, 0, 0), (13, 2, 2, 4, 0, 0), (15, 1, 17, 0, 0, 0)]) rfl) ?_
  refine xg_t (xg_iload (va := (0, kk)) rfl rfl) ?_
  refine xg_t (xg_iload (va := (0, 3)) rfl rfl) ?_
  refine xg_t (xg_cSr mX12_mostOf (vs := [(0, 3)]) (rest := [(0, kk)]) (rs := [(0, 4), (0, kk)]) (cn1 := 0) (sl1 := 0) rfl (mMostR3) rfl rfl rfl rfl rfl rfl rfl rfl) ?_
  by_cases hc36 : kk < 4
  · refine xg_t (xg_icF (u := kk) (v := 4) rfl xnm0 xnm0 (xj_geF hc36 (by omega))) ?_
    refine xg_t (xg_aload (va := (2, 82)) rfl rfl) ?_
    refine xg_t (xg_getf (va := (2, 86)) h82_31 rfl) ?_
    refine xg_t (xg_iload (va := (0, at_)) rfl rfl) ?_
    refine xg_t (xg_iload (va := (0, va)) rfl rfl) ?_
    refine xg_iastK (n := at_) (u := va) h86_34 xnm0 xnm0 rfl (by omega) (fun w37 hr38 hb39 => ?_)
    refine xg_t (xg_blk (b := [(16, 1, 12, 0, 0, 0)]) rfl) ?_
    exact xg_e ⟨w37, ⟨rfl, rfl⟩, xMnv.up (S := [86]) hI (xFr.of (S := [86]) hb39 (by decide)) (List.forall_mem_cons.mpr ⟨(show cpI 140 53 4294967295 (wget w37 86) from ⟨_, hr38, xrb (by omega) (hb35)⟩), fun _ h => absurd h List.not_mem_nil⟩), (xFr.of (S := [86]) hb39 (by decide)), ⟨fun _ => (rwv_of hr38 (by omega)).trans (if_pos rfl), fun j hj hl => (rwv_of hr38 hl).trans ((if_neg hj).trans (rwv_of h86_34 hl).symm)⟩⟩
  · refine xg_t (xg_icT (u := kk) (v := 4) rfl xnm0 xnm0 (xj_geT (by omega) (by omega))) ?_
    refine xg_t (xg_blk (b := [(16, 1, 12, 0, 0, 0)]) rfl) ?_
    exact xg_e ⟨w, ⟨rfl, rfl⟩, hI, xFr.rf, ⟨fun h => absurd h (by omega), fun j _ _ => rfl⟩⟩
theorem mPuts4 {kk at_ va : Nat} (hI : xMnv w) (hkk : kk ≤ 1001) (hat : at_ ≤ 9999) (hva : va ≤ 4294967295) (hin : kk < 20 → at_ < 140) : xPq (d + 1) mX12_puts [(2, 82), (0, 4), (0, kk), (0, at_), (0, va)] w bd fc rr [] (fun w' => xMnv w' ∧ xFr [86] w w' ∧ ((kk < 20 → rwv w' 86 at_ = va) ∧ ∀ j, j ≠ at_ → j < 140 → rwv w' 86 j = rwv w 86 j)) := by
  refine xPq.of ?_
  show xTo (d + 1) mX12_puts (0, [], [(0, (2, 82)), (1, (0, 4)), (2, (0, kk)), (3, (0, at_)), (4, (0, va))], [], (w, bd, fc, 0, 0, rr)) (fun φ => ∃ w', xEnd 0 [] (w', bd, fc, 0, 0, rr) φ ∧ xMnv w' ∧ xFr [86] w w' ∧ ((kk < 20 → rwv w' 86 at_ = va) ∧ ∀ j, j ≠ at_ → j < 140 → rwv w' 86 j = rwv w 86 j))
  obtain ⟨f82_1, f82_3, f82_5, f82_7, f82_9, f82_11, f82_13, f82_15, f82_17, f82_19, f82_21, f82_22, f82_23, f82_25, f82_27, f82_29, h82_31, hb2, hb4, hb6, hb8, hb10, hb12, hb14, hb16, hb18, hb20, hb24, hb26, hb28, hb30, hb32⟩ := (hI 82 (by decide) (by decide) : cp82 (wget w 82))
  obtain ⟨g86_33, h86_34, hb35⟩ := (hI 86 (by decide) (by decide) : cpI 140 53 4294967295 (wget w 86))
  have h86_34 : xRow w 86 140 53 g86_33 := h86_34
  refine xg_t (xg_blk (b := [(0, 1, 2, 2, 0, 0), (1, 1, 2, 1, 0, 0), (2, 3, 13, 194, 98, 193), (5, 3, 6, 16, 3, 0), (8, 1, 0, 0, 0, 0), (9, 3, 1, 12, 12, 20), (12, 1, 2, 3, 0, 0), (13, 2, 2, 4, 0, 0), (15, 1, 17, 0, 0, 0)]) rfl) ?_
  refine xg_t (xg_iload (va := (0, kk)) rfl rfl) ?_
  refine xg_t (xg_iload (va := (0, 4)) rfl rfl) ?_
  refine xg_t (xg_cSr mX12_mostOf (vs := [(0, 4)]) (rest := [(0, kk)]) (rs := [(0, 20), (0, kk)]) (cn1 := 0) (sl1 := 0) rfl (mMostR4) rfl rfl rfl rfl rfl rfl rfl rfl) ?_
  by_cases hc36 : kk < 20
  · refine xg_t (xg_icF (u := kk) (v := 20) rfl xnm0 xnm0 (xj_geF hc36 (by omega))) ?_
    refine xg_t (xg_aload (va := (2, 82)) rfl rfl) ?_
    refine xg_t (xg_getf (va := (2, 86)) h82_31 rfl) ?_
    refine xg_t (xg_iload (va := (0, at_)) rfl rfl) ?_
    refine xg_t (xg_iload (va := (0, va)) rfl rfl) ?_
    refine xg_iastK (n := at_) (u := va) h86_34 xnm0 xnm0 rfl (by omega) (fun w37 hr38 hb39 => ?_)
    refine xg_t (xg_blk (b := [(16, 1, 12, 0, 0, 0)]) rfl) ?_
    exact xg_e ⟨w37, ⟨rfl, rfl⟩, xMnv.up (S := [86]) hI (xFr.of (S := [86]) hb39 (by decide)) (List.forall_mem_cons.mpr ⟨(show cpI 140 53 4294967295 (wget w37 86) from ⟨_, hr38, xrb (by omega) (hb35)⟩), fun _ h => absurd h List.not_mem_nil⟩), (xFr.of (S := [86]) hb39 (by decide)), ⟨fun _ => (rwv_of hr38 (by omega)).trans (if_pos rfl), fun j hj hl => (rwv_of hr38 hl).trans ((if_neg hj).trans (rwv_of h86_34 hl).symm)⟩⟩
  · refine xg_t (xg_icT (u := kk) (v := 20) rfl xnm0 xnm0 (xj_geT (by omega) (by omega))) ?_
    refine xg_t (xg_blk (b := [(16, 1, 12, 0, 0, 0)]) rfl) ?_
    exact xg_e ⟨w, ⟨rfl, rfl⟩, hI, xFr.rf, ⟨fun h => absurd h (by omega), fun j _ _ => rfl⟩⟩
theorem mPuts5 {kk at_ va : Nat} (hI : xMnv w) (hkk : kk ≤ 1001) (hat : at_ ≤ 9999) (hva : va ≤ 4294967295) (hin : kk < 1 → at_ < 140) : xPq (d + 1) mX12_puts [(2, 82), (0, 5), (0, kk), (0, at_), (0, va)] w bd fc rr [] (fun w' => xMnv w' ∧ xFr [86] w w' ∧ ((kk < 1 → rwv w' 86 at_ = va) ∧ ∀ j, j ≠ at_ → j < 140 → rwv w' 86 j = rwv w 86 j)) := by
  refine xPq.of ?_
  show xTo (d + 1) mX12_puts (0, [], [(0, (2, 82)), (1, (0, 5)), (2, (0, kk)), (3, (0, at_)), (4, (0, va))], [], (w, bd, fc, 0, 0, rr)) (fun φ => ∃ w', xEnd 0 [] (w', bd, fc, 0, 0, rr) φ ∧ xMnv w' ∧ xFr [86] w w' ∧ ((kk < 1 → rwv w' 86 at_ = va) ∧ ∀ j, j ≠ at_ → j < 140 → rwv w' 86 j = rwv w 86 j))
  obtain ⟨f82_1, f82_3, f82_5, f82_7, f82_9, f82_11, f82_13, f82_15, f82_17, f82_19, f82_21, f82_22, f82_23, f82_25, f82_27, f82_29, h82_31, hb2, hb4, hb6, hb8, hb10, hb12, hb14, hb16, hb18, hb20, hb24, hb26, hb28, hb30, hb32⟩ := (hI 82 (by decide) (by decide) : cp82 (wget w 82))
  obtain ⟨g86_33, h86_34, hb35⟩ := (hI 86 (by decide) (by decide) : cpI 140 53 4294967295 (wget w 86))
  have h86_34 : xRow w 86 140 53 g86_33 := h86_34
  refine xg_t (xg_blk (b := [(0, 1, 2, 2, 0, 0), (1, 1, 2, 1, 0, 0), (2, 3, 13, 194, 98, 193), (5, 3, 6, 16, 3, 0), (8, 1, 0, 0, 0, 0), (9, 3, 1, 12, 12, 20), (12, 1, 2, 3, 0, 0), (13, 2, 2, 4, 0, 0), (15, 1, 17, 0, 0, 0)]) rfl) ?_
  refine xg_t (xg_iload (va := (0, kk)) rfl rfl) ?_
  refine xg_t (xg_iload (va := (0, 5)) rfl rfl) ?_
  refine xg_t (xg_cSr mX12_mostOf (vs := [(0, 5)]) (rest := [(0, kk)]) (rs := [(0, 1), (0, kk)]) (cn1 := 0) (sl1 := 0) rfl (mMostR5) rfl rfl rfl rfl rfl rfl rfl rfl) ?_
  by_cases hc36 : kk < 1
  · refine xg_t (xg_icF (u := kk) (v := 1) rfl xnm0 xnm0 (xj_geF hc36 (by omega))) ?_
    refine xg_t (xg_aload (va := (2, 82)) rfl rfl) ?_
    refine xg_t (xg_getf (va := (2, 86)) h82_31 rfl) ?_
    refine xg_t (xg_iload (va := (0, at_)) rfl rfl) ?_
    refine xg_t (xg_iload (va := (0, va)) rfl rfl) ?_
    refine xg_iastK (n := at_) (u := va) h86_34 xnm0 xnm0 rfl (by omega) (fun w37 hr38 hb39 => ?_)
    refine xg_t (xg_blk (b := [(16, 1, 12, 0, 0, 0)]) rfl) ?_
    exact xg_e ⟨w37, ⟨rfl, rfl⟩, xMnv.up (S := [86]) hI (xFr.of (S := [86]) hb39 (by decide)) (List.forall_mem_cons.mpr ⟨(show cpI 140 53 4294967295 (wget w37 86) from ⟨_, hr38, xrb (by omega) (hb35)⟩), fun _ h => absurd h List.not_mem_nil⟩), (xFr.of (S := [86]) hb39 (by decide)), ⟨fun _ => (rwv_of hr38 (by omega)).trans (if_pos rfl), fun j hj hl => (rwv_of hr38 hl).trans ((if_neg hj).trans (rwv_of h86_34 hl).symm)⟩⟩
  · refine xg_t (xg_icT (u := kk) (v := 1) rfl xnm0 xnm0 (xj_geT (by omega) (by omega))) ?_
    refine xg_t (xg_blk (b := [(16, 1, 12, 0, 0, 0)]) rfl) ?_
    exact xg_e ⟨w, ⟨rfl, rfl⟩, hI, xFr.rf, ⟨fun h => absurd h (by omega), fun j _ _ => rfl⟩⟩
theorem mPuts6 {kk at_ va : Nat} (hI : xMnv w) (hkk : kk ≤ 1001) (hat : at_ ≤ 9999) (hva : va ≤ 4294967295) (hin : kk < 1 → at_ < 140) : xPq (d + 1) mX12_puts [(2, 82), (0, 6), (0, kk), (0, at_), (0, va)] w bd fc rr [] (fun w' => xMnv w' ∧ xFr [86] w w' ∧ ((kk < 1 → rwv w' 86 at_ = va) ∧ ∀ j, j ≠ at_ → j < 140 → rwv w' 86 j = rwv w 86 j)) := by
  refine xPq.of ?_
  show xTo (d + 1) mX12_puts (0, [], [(0, (2, 82)), (1, (0, 6)), (2, (0, kk)), (3, (0, at_)), (4, (0, va))], [], (w, bd, fc, 0, 0, rr)) (fun φ => ∃ w', xEnd 0 [] (w', bd, fc, 0, 0, rr) φ ∧ xMnv w' ∧ xFr [86] w w' ∧ ((kk < 1 → rwv w' 86 at_ = va) ∧ ∀ j, j ≠ at_ → j < 140 → rwv w' 86 j = rwv w 86 j))
  obtain ⟨f82_1, f82_3, f82_5, f82_7, f82_9, f82_11, f82_13, f82_15, f82_17, f82_19, f82_21, f82_22, f82_23, f82_25, f82_27, f82_29, h82_31, hb2, hb4, hb6, hb8, hb10, hb12, hb14, hb16, hb18, hb20, hb24, hb26, hb28, hb30, hb32⟩ := (hI 82 (by decide) (by decide) : cp82 (wget w 82))
  obtain ⟨g86_33, h86_34, hb35⟩ := (hI 86 (by decide) (by decide) : cpI 140 53 4294967295 (wget w 86))
  have h86_34 : xRow w 86 140 53 g86_33 := h86_34
  refine xg_t (xg_blk (b := [(0, 1, 2, 2, 0, 0), (1, 1, 2, 1, 0, 0), (2, 3, 13, 194, 98, 193), (5, 3, 6, 16, 3, 0), (8, 1, 0, 0, 0, 0), (9, 3, 1, 12, 12, 20), (12, 1, 2, 3, 0, 0), (13, 2, 2, 4, 0, 0), (15, 1, 17, 0, 0, 0)]) rfl) ?_
  refine xg_t (xg_iload (va := (0, kk)) rfl rfl) ?_
  refine xg_t (xg_iload (va := (0, 6)) rfl rfl) ?_
  refine xg_t (xg_cSr mX12_mostOf (vs := [(0, 6)]) (rest := [(0, kk)]) (rs := [(0, 1), (0, kk)]) (cn1 := 0) (sl1 := 0) rfl (mMostR6) rfl rfl rfl rfl rfl rfl rfl rfl) ?_
  by_cases hc36 : kk < 1
  · refine xg_t (xg_icF (u := kk) (v := 1) rfl xnm0 xnm0 (xj_geF hc36 (by omega))) ?_
    refine xg_t (xg_aload (va := (2, 82)) rfl rfl) ?_
    refine xg_t (xg_getf (va := (2, 86)) h82_31 rfl) ?_
    refine xg_t (xg_iload (va := (0, at_)) rfl rfl) ?_
    refine xg_t (xg_iload (va := (0, va)) rfl rfl) ?_
    refine xg_iastK (n := at_) (u := va) h86_34 xnm0 xnm0 rfl (by omega) (fun w37 hr38 hb39 => ?_)
    refine xg_t (xg_blk (b := [(16, 1, 12, 0, 0, 0)]) rfl) ?_
    exact xg_e ⟨w37, ⟨rfl, rfl⟩, xMnv.up (S := [86]) hI (xFr.of (S := [86]) hb39 (by decide)) (List.forall_mem_cons.mpr ⟨(show cpI 140 53 4294967295 (wget w37 86) from ⟨_, hr38, xrb (by omega) (hb35)⟩), fun _ h => absurd h List.not_mem_nil⟩), (xFr.of (S := [86]) hb39 (by decide)), ⟨fun _ => (rwv_of hr38 (by omega)).trans (if_pos rfl), fun j hj hl => (rwv_of hr38 hl).trans ((if_neg hj).trans (rwv_of h86_34 hl).symm)⟩⟩
  · refine xg_t (xg_icT (u := kk) (v := 1) rfl xnm0 xnm0 (xj_geT (by omega) (by omega))) ?_
    refine xg_t (xg_blk (b := [(16, 1, 12, 0, 0, 0)]) rfl) ?_
    exact xg_e ⟨w, ⟨rfl, rfl⟩, hI, xFr.rf, ⟨fun h => absurd h (by omega), fun j _ _ => rfl⟩⟩
theorem mALayer {kk : Nat} (hI : xMnv w) (hkk : kk ≤ 1001) (hps : PS w) : xPq (d + 6) mX12_aLayer [(2, 82), (0, kk)] w bd fc rr [] (fun w' => xMnv w' ∧ xFr [82, 83, 86] w w' ∧ (PK w w' ∧ (∀ j, (j < 20 + 4 * kk ∨ 24 + 4 * kk ≤ j) → j < 140 → rwv w' 86 j = rwv w 86 j) ∧ (FA w' ≠ 0 ∨ 6 ≤ kk ∨ (1 ≤ rwv w' 86 (20 + 4 * kk + 0) ∧ rwv w' 86 (20 + 4 * kk + 0) ≤ 99 ∧ 1 ≤ rwv w' 86 (20 + 4 * kk + 1) ∧ rwv w' 86 (20 + 4 * kk + 1) ≤ 99 ∧ 1 ≤ rwv w' 86 (20 + 4 * kk + 2) ∧ rwv w' 86 (20 + 4 * kk + 2) ≤ 99)))) := by
  refine xPq.of ?_
  show xTo (d + 6) mX12_aLayer (0, [], [(0, (2, 82)), (1, (0, kk))], [], (w, bd, fc, 0, 0, rr)) (fun φ => ∃ w', xEnd 0 [] (w', bd, fc, 0, 0, rr) φ ∧ xMnv w' ∧ xFr [82, 83, 86] w w' ∧ (PK w w' ∧ (∀ j, (j < 20 + 4 * kk ∨ 24 + 4 * kk ≤ j) → j < 140 → rwv w' 86 j = rwv w 86 j) ∧ (FA w' ≠ 0 ∨ 6 ≤ kk ∨ (1 ≤ rwv w' 86 (20 + 4 * kk + 0) ∧ rwv w' 86 (20 + 4 * kk + 0) ≤ 99 ∧ 1 ≤ rwv w' 86 (20 + 4 * kk + 1) ∧ rwv w' 86 (20 + 4 * kk + 1) ≤ 99 ∧ 1 ≤ rwv w' 86 (20 + 4 * kk + 2) ∧ rwv w' 86 (20 + 4 * kk + 2) ≤ 99))))
  obtain ⟨f82_1, f82_3, f82_5, f82_7, f82_9, f82_11, f82_13, f82_15, f82_17, f82_19, f82_21, f82_22, f82_23, f82_25, f82_27, f82_29, h82_31, hb2, hb4, hb6, hb8, hb10, hb12, hb14, hb16, hb18, hb20, hb24, hb26, hb28, hb30, hb32⟩ := (hI 82 (by decide) (by decide) : cp82 (wget w 82))
  refine xg_t (xg_blk (b := [(0, 1, 3, 0, 0, 0), (1, 1, 15, 2, 0, 0)]) rfl) ?_
  refine xg_t (xg_const) ?_
  refine xg_t (xg_istore (l1 := [(0, (2, 82)), (1, (0, kk))]) rfl rfl rfl) ?_
  refine xg_t (xg_blk (b := [(2, 1, 2, 2, 0, 0), (3, 1, 3, 3, 0, 0), (4, 3, 6, 34, 3, 0), (7, 1, 0, 0, 0, 0), (8, 1, 3, 0, 0, 0), (9, 1, 2, 1, 0, 0), (10, 2, 4, 20, 0, 0), (12, 1, 3, 4, 0, 0), (13, 1, 2, 1, 0, 0), (14, 1, 16, 0, 0, 0), (15, 1, 11, 0, 0, 0), (16, 1, 2, 2, 0, 0), (17, 1, 11, 0, 0, 0), (18, 1, 0, 0, 0, 0), (19, 1, 3, 1, 0, 0), (20, 2, 4, 99, 0, 0), (22, 3, 13, 199, 96, 196), (25, 3, 13, 211, 96, 200), (28, 3, 9, 2, 1, 0), (31, 3, 8, 2, 0, 0)]) rfl) ?_
  refine xg_t (xg_iload (va := (0, 0)) rfl rfl) ?_
  refine xg_t (xg_const) ?_
  refine xg_t (xg_icF (u := 0) (v := 3) rfl xnm0 xnm0 (by decide)) ?_
  refine xg_t (xg_aload (va := (2, 82)) rfl rfl) ?_
  refine xg_t (xg_const) ?_
  refine xg_t (xg_iload (va := (0, kk)) rfl rfl) ?_
  refine xg_t (xg_bip) ?_
  refine xg_t (xg_const) ?_
  refine xg_t (xg_iload (va := (0, kk)) rfl rfl) ?_
  refine xg_t (xg_imul (u := 4) (v := kk) (z := 4 * kk) xnm0 xnm0 (by omega)) ?_
  refine xg_t (xg_iadd (u := 20) (v := 4 * kk) (z := 20 + (4 * kk)) xnm0 xnm0 (by omega)) ?_
  refine xg_t (xg_iload (va := (0, 0)) rfl rfl) ?_
  refine xg_t (xg_iadd (u := 20 + (4 * kk)) (v := 0) (z := (20 + (4 * kk)) + 0) xnm0 xnm0 (by omega)) ?_
  refine xg_t (xg_aload (va := (2, 82)) rfl rfl) ?_
  refine xg_t (xg_const) ?_
  refine xg_t (xg_bip) ?_
  refine xg_cVi mX12_numbered (vs := [(0, 1), (0, 99)]) (rest := [(0, (20 + (4 * kk)) + 0), (0, kk), (0, 0), (2, 82)]) (cn1 := 0) (sl1 := 0) rfl (mNumbered (hI) (by omega) (by omega) (PK.rf hps).2.2.2.1) rfl h82_31 rfl rfl rfl rfl rfl rfl (fun n37 w33 hq34 => ?_)
  obtain ⟨hn38, hI35, hF36⟩ := hq34
  obtain ⟨hn39, hn40, hn41⟩ := hn38
  have pk42 : PK w w33 := PK.tr (PK.rf hps) hn40
  have os43 : ∀ j, (j < 20 + 4 * kk ∨ 24 + 4 * kk ≤ j) → j < 140 → rwv w33 86 j = rwv w 86 j := fun j hj hl => (rwv_fr hF36 (by decide)).trans ((fun j _ _ => rfl) j hj hl)
  obtain ⟨f82_44, f82_46, f82_48, f82_50, f82_52, f82_54, f82_56, f82_58, f82_60, f82_62, f82_64, f82_65, f82_66, f82_68, f82_70, f82_72, h82_74, hb45, hb47, hb49, hb51, hb53, hb55, hb57, hb59, hb61, hb63, hb67, hb69, hb71, hb73, hb75⟩ := (hI35 82 (by decide) (by decide) : cp82 (wget w33 82))
  refine xg_cVv mX12_puts (vs := [(0, 0), (0, kk), (0, (20 + (4 * kk)) + 0), (0, n37)]) (rest := []) (cn1 := 0) (sl1 := 0) rfl (mPuts0 (hI35) (by omega) (by omega) (by omega) (fun _ => by omega)) rfl h82_74 rfl rfl rfl rfl rfl rfl (fun w76 hq77 => ?_)
  obtain ⟨hI78, hF79, hx80⟩ := hq77
  obtain ⟨hp81, hp82⟩ := hx80
  have pk83 : PK w w76 := PK.tr pk42 (PK.fr hF79 (by decide) (by decide) pk42.2.2.2.1)
  have os84 : ∀ j, (j < 20 + 4 * kk ∨ 24 + 4 * kk ≤ j) → j < 140 → rwv w76 86 j = rwv w 86 j := fun j hj hl => (hp82 j (by omega) hl).trans (os43 j hj hl)
  have rg85 : FA w76 ≠ 0 ∨ (1 ≤ n37 ∧ n37 ≤ 99) := hn41.imp_left (PK.fr hF79 (by decide) (by decide) pk42.2.2.2.1).1
  clear hn41
  refine xg_t (xg_iinc (u := 0) (z := 1) (l1 := [(0, (2, 82)), (1, (0, kk))]) rfl rfl (by decide) rfl) ?_
  refine xg_t (xg_goto) ?_
  refine xg_t (xg_blk (b := [(2, 1, 2, 2, 0, 0), (3, 1, 3, 3, 0, 0), (4, 3, 6, 34, 3, 0), (7, 1, 0, 0, 0, 0), (8, 1, 3, 0, 0, 0), (9, 1, 2, 1, 0, 0), (10, 2, 4, 20, 0, 0), (12, 1, 3, 4, 0, 0), (13, 1, 2, 1, 0, 0), (14, 1, 16, 0, 0, 0), (15, 1, 11, 0, 0, 0), (16, 1, 2, 2, 0, 0), (17, 1, 11, 0, 0, 0), (18, 1, 0, 0, 0, 0), (19, 1, 3, 1, 0, 0), (20, 2, 4, 99, 0, 0), (22, 3, 13, 199, 96, 196), (25, 3, 13, 211, 96, 200), (28, 3, 9, 2, 1, 0), (31, 3, 8, 2, 0, 0)]) rfl) ?_
  refine xg_t (xg_iload (va := (0, 1)) rfl rfl) ?_
  refine xg_t (xg_const) ?_
  refine xg_t (xg_icF (u := 1) (v := 3) rfl xnm0 xnm0 (by decide)) ?_
  refine xg_t (xg_aload (va := (2, 82)) rfl rfl) ?_
  refine xg_t (xg_const) ?_
  refine xg_t (xg_iload (va := (0, kk)) rfl rfl) ?_
  refine xg_t (xg_bip) ?_
  refine xg_t (xg_const) ?_
  refine xg_t (xg_iload (va := (0, kk)) rfl rfl) ?_
  refine xg_t (xg_imul (u := 4) (v := kk) (z := 4 * kk) xnm0 xnm0 (by omega)) ?_
  refine xg_t (xg_iadd (u := 20) (v := 4 * kk) (z := 20 + (4 * kk)) xnm0 xnm0 (by omega)) ?_
  refine xg_t (xg_iload (va := (0, 1)) rfl rfl) ?_
  refine xg_t (xg_iadd (u := 20 + (4 * kk)) (v := 1) (z := (20 + (4 * kk)) + 1) xnm0 xnm0 (by omega)) ?_
  refine xg_t (xg_aload (va := (2, 82)) rfl rfl) ?_
  refine xg_t (xg_const) ?_
  refine xg_t (xg_bip) ?_
  refine xg_cVi mX12_numbered (vs := [(0, 1), (0, 99)]) (rest := [(0, (20 + (4 * kk)) + 1), (0, kk), (0, 0), (2, 82)]) (cn1 := 0) (sl1 := 0) rfl (mNumbered (hI78) (by omega) (by omega) pk83.2.2.2.1) rfl (hF79.get (by decide) h82_74) rfl rfl rfl rfl rfl rfl (fun n90 w86 hq87 => ?_)
  obtain ⟨hn91, hI88, hF89⟩ := hq87
  obtain ⟨hn92, hn93, hn94⟩ := hn91
  have pk95 : PK w w86 := PK.tr pk83 hn93
  have os96 : ∀ j, (j < 20 + 4 * kk ∨ 24 + 4 * kk ≤ j) → j < 140 → rwv w86 86 j = rwv w 86 j := fun j hj hl => (rwv_fr hF89 (by decide)).trans (os84 j hj hl)
  have ix97 : kk < 6 → rwv w86 86 ((20 + (4 * kk)) + 0) = n37 := fun h => (rwv_fr hF89 (by decide)).trans (hp81 h)
  have rg98 : FA w86 ≠ 0 ∨ (1 ≤ n37 ∧ n37 ≤ 99) := rg85.imp_left hn93.1
  clear hp81 rg85
  obtain ⟨f82_99, f82_101, f82_103, f82_105, f82_107, f82_109, f82_111, f82_113, f82_115, f82_117, f82_119, f82_120, f82_121, f82_123, f82_125, f82_127, h82_129, hb100, hb102, hb104, hb106, hb108, hb110, hb112, hb114, hb116, hb118, hb122, hb124, hb126, hb128, hb130⟩ := (hI88 82 (by decide) (by decide) : cp82 (wget w86 82))
  refine xg_cVv mX12_puts (vs := [(0, 0), (0, kk), (0, (20 + (4 * kk)) + 1), (0, n90)]) (rest := []) (cn1 := 0) (sl1 := 0) rfl (mPuts0 (hI88) (by omega) (by omega) (by omega) (fun _ => by omega)) rfl h82_129 rfl rfl rfl rfl rfl rfl (fun w131 hq132 => ?_)
  obtain ⟨hI133, hF134, hx135⟩ := hq132
  obtain ⟨hp136, hp137⟩ := hx135
  have pk138 : PK w w131 := PK.tr pk95 (PK.fr hF134 (by decide) (by decide) pk95.2.2.2.1)
  have os139 : ∀ j, (j < 20 + 4 * kk ∨ 24 + 4 * kk ≤ j) → j < 140 → rwv w131 86 j = rwv w 86 j := fun j hj hl => (hp137 j (by omega) hl).trans (os96 j hj hl)
  have ix140 : kk < 6 → rwv w131 86 ((20 + (4 * kk)) + 0) = n37 := fun h => (hp137 _ (by omega) (by omega)).trans (ix97 h)
  have rg141 : FA w131 ≠ 0 ∨ (1 ≤ n37 ∧ n37 ≤ 99) := rg98.imp_left (PK.fr hF134 (by decide) (by decide) pk95.2.2.2.1).1
  have rg142 : FA w131 ≠ 0 ∨ (1 ≤ n90 ∧ n90 ≤ 99) := hn94.imp_left (PK.fr hF134 (by decide) (by decide) pk95.2.2.2.1).1
  clear ix97 rg98 hn94
  refine xg_t (xg_iinc (u := 1) (z := 2) (l1 := [(0, (2, 82)), (1, (0, kk))]) rfl rfl (by decide) rfl) ?_
  refine xg_t (xg_goto) ?_
  refine xg_t (xg_blk (b := [(2, 1, 2, 2, 0, 0), (3, 1, 3, 3, 0, 0), (4, 3, 6, 34, 3, 0), (7, 1, 0, 0, 0, 0), (8, 1, 3, 0, 0, 0), (9, 1, 2, 1, 0, 0), (10, 2, 4, 20, 0, 0), (12, 1, 3, 4, 0, 0), (13, 1, 2, 1, 0, 0), (14, 1, 16, 0, 0, 0), (15, 1, 11, 0, 0, 0), (16, 1, 2, 2, 0, 0), (17, 1, 11, 0, 0, 0), (18, 1, 0, 0, 0, 0), (19, 1, 3, 1, 0, 0), (20, 2, 4, 99, 0, 0), (22, 3, 13, 199, 96, 196), (25, 3, 13, 211, 96, 200), (28, 3, 9, 2, 1, 0), (31, 3, 8, 2, 0, 0)]) rfl) ?_
  refine xg_t (xg_iload (va := (0, 2)) rfl rfl) ?_
  refine xg_t (xg_const) ?_
  refine xg_t (xg_icF (u := 2) (v := 3) rfl xnm0 xnm0 (by decide)) ?_
  refine xg_t (xg_aload (va := (2, 82)) rfl rfl) ?_
  refine xg_t (xg_const) ?_
  refine xg_t (xg_iload (va := (0, kk)) rfl rfl) ?_
  refine xg_t (xg_bip) ?_
  refine xg_t (xg_const) ?_
  refine xg_t (xg_iload (va := (0, kk)) rfl rfl) ?_
  refine xg_t (xg_imul (u := 4) (v := kk) (z := 4 * kk) xnm0 xnm0 (by omega)) ?_
  refine xg_t (xg_iadd (u := 20) (v := 4 * kk) (z := 20 + (4 * kk)) xnm0 xnm0 (by omega)) ?_
  refine xg_t (xg_iload (va := (0, 2)) rfl rfl) ?_
  refine xg_t (xg_iadd (u := 20 + (4 * kk)) (v := 2) (z := (20 + (4 * kk)) + 2) xnm0 xnm0 (by omega)) ?_
  refine xg_t (xg_aload (va := (2, 82)) rfl rfl) ?_
  refine xg_t (xg_const) ?_
  refine xg_t (xg_bip) ?_
  refine xg_cVi mX12_numbered (vs := [(0, 1), (0, 99)]) (rest := [(0, (20 + (4 * kk)) + 2), (0, kk), (0, 0), (2, 82)]) (cn1 := 0) (sl1 := 0) rfl (mNumbered (hI133) (by omega) (by omega) pk138.2.2.2.1) rfl (hF134.get (by decide) h82_129) rfl rfl rfl rfl rfl rfl (fun n147 w143 hq144 => ?_)
  obtain ⟨hn148, hI145, hF146⟩ := hq144
  obtain ⟨hn149, hn150, hn151⟩ := hn148
  have pk152 : PK w w143 := PK.tr pk138 hn150
  have os153 : ∀ j, (j < 20 + 4 * kk ∨ 24 + 4 * kk ≤ j) → j < 140 → rwv w143 86 j = rwv w 86 j := fun j hj hl => (rwv_fr hF146 (by decide)).trans (os139 j hj hl)
  have ix154 : kk < 6 → rwv w143 86 ((20 + (4 * kk)) + 0) = n37 := fun h => (rwv_fr hF146 (by decide)).trans (ix140 h)
  have ix155 : kk < 6 → rwv w143 86 ((20 + (4 * kk)) + 1) = n90 := fun h => (rwv_fr hF146 (by decide)).trans (hp136 h)
  have rg156 : FA w143 ≠ 0 ∨ (1 ≤ n37 ∧ n37 ≤ 99) := rg141.imp_left hn150.1
  have rg157 : FA w143 ≠ 0 ∨ (1 ≤ n90 ∧ n90 ≤ 99) := rg142.imp_left hn150.1
  clear ix140 hp136 rg141 rg142
  obtain ⟨f82_158, f82_160, f82_162, f82_164, f82_166, f82_168, f82_170, f82_172, f82_174, f82_176, f82_178, f82_179, f82_180, f82_182, f82_184, f82_186, h82_188, hb159, hb161, hb163, hb165, hb167, hb169, hb171, hb173, hb175, hb177, hb181, hb183, hb185, hb187, hb189⟩ := (hI145 82 (by decide) (by decide) : cp82 (wget w143 82))
  refine xg_cVv mX12_puts (vs := [(0, 0), (0, kk), (0, (20 + (4 * kk)) + 2), (0, n147)]) (rest := []) (cn1 := 0) (sl1 := 0) rfl (mPuts0 (hI145) (by omega) (by omega) (by omega) (fun _ => by omega)) rfl h82_188 rfl rfl rfl rfl rfl rfl (fun w190 hq191 => ?_)
  obtain ⟨hI192, hF193, hx194⟩ := hq191
  obtain ⟨hp195, hp196⟩ := hx194
  have pk197 : PK w w190 := PK.tr pk152 (PK.fr hF193 (by decide) (by decide) pk152.2.2.2.1)
  have os198 : ∀ j, (j < 20 + 4 * kk ∨ 24 + 4 * kk ≤ j) → j < 140 → rwv w190 86 j = rwv w 86 j := fun j hj hl => (hp196 j (by omega) hl).trans (os153 j hj hl)
  have ix199 : kk < 6 → rwv w190 86 ((20 + (4 * kk)) + 0) = n37 := fun h => (hp196 _ (by omega) (by omega)).trans (ix154 h)
  have ix200 : kk < 6 → rwv w190 86 ((20 + (4 * kk)) + 1) = n90 := fun h => (hp196 _ (by omega) (by omega)).trans (ix155 h)
  have rg201 : FA w190 ≠ 0 ∨ (1 ≤ n37 ∧ n37 ≤ 99) := rg156.imp_left (PK.fr hF193 (by decide) (by decide) pk152.2.2.2.1).1
  have rg202 : FA w190 ≠ 0 ∨ (1 ≤ n90 ∧ n90 ≤ 99) := rg157.imp_left (PK.fr hF193 (by decide) (by decide) pk152.2.2.2.1).1
  have rg203 : FA w190 ≠ 0 ∨ (1 ≤ n147 ∧ n147 ≤ 99) := hn151.imp_left (PK.fr hF193 (by decide) (by decide) pk152.2.2.2.1).1
  clear ix154 ix155 rg156 rg157 hn151
  refine xg_t (xg_iinc (u := 2) (z := 3) (l1 := [(0, (2, 82)), (1, (0, kk))]) rfl rfl (by decide) rfl) ?_
  refine xg_t (xg_goto) ?_
  refine xg_t (xg_blk (b := [(2, 1, 2, 2, 0, 0), (3, 1, 3, 3, 0, 0), (4, 3, 6, 34, 3, 0), (7, 1, 0, 0, 0, 0), (8, 1, 3, 0, 0, 0), (9, 1, 2, 1, 0, 0), (10, 2, 4, 20, 0, 0), (12, 1, 3, 4, 0, 0), (13, 1, 2, 1, 0, 0), (14, 1, 16, 0, 0, 0), (15, 1, 11, 0, 0, 0), (16, 1, 2, 2, 0, 0), (17, 1, 11, 0, 0, 0), (18, 1, 0, 0, 0, 0), (19, 1, 3, 1, 0, 0), (20, 2, 4, 99, 0, 0), (22, 3, 13, 199, 96, 196), (25, 3, 13, 211, 96, 200), (28, 3, 9, 2, 1, 0), (31, 3, 8, 2, 0, 0)]) rfl) ?_
  refine xg_t (xg_iload (va := (0, 3)) rfl rfl) ?_
  refine xg_t (xg_const) ?_
  refine xg_t (xg_icT (u := 3) (v := 3) rfl xnm0 xnm0 (by decide)) ?_
  refine xg_t (xg_blk (b := [(34, 1, 0, 0, 0, 0), (35, 3, 1, 12, 10, 180), (38, 3, 7, 67, 1, 0), (41, 1, 0, 0, 0, 0), (42, 3, 1, 12, 7, 151), (45, 1, 3, 3, 0, 0), (46, 3, 6, 67, 1, 0), (49, 1, 0, 0, 0, 0), (50, 3, 1, 12, 9, 165), (53, 2, 4, 7, 0, 0), (55, 3, 6, 72, 0, 0), (58, 1, 0, 0, 0, 0), (59, 3, 1, 12, 9, 165), (62, 2, 4, 8, 0, 0), (64, 3, 6, 72, 0, 0)]) rfl) ?_
  refine xg_t (xg_aload (va := (2, 82)) rfl rfl) ?_
  refine xg_t (xg_getf (va := (0, f82_174)) (hF193.get (by decide) h82_188) rfl) ?_
  by_cases hc204 : f82_174 = 0
  · refine xg_t (xg_ifF (u := f82_174) rfl xnm0 (xj_neF hc204)) ?_
    refine xg_t (xg_aload (va := (2, 82)) rfl rfl) ?_
    refine xg_t (xg_getf (va := (0, f82_168)) (hF193.get (by decide) h82_188) rfl) ?_
    refine xg_t (xg_const) ?_
    by_cases hc205 : f82_168 = 3
    · refine xg_t (xg_icF (u := f82_168) (v := 3) rfl xnm0 xnm0 (xj_neF hc205)) ?_
      refine xg_t (xg_aload (va := (2, 82)) rfl rfl) ?_
      refine xg_t (xg_getf (va := (0, f82_172)) (hF193.get (by decide) h82_188) rfl) ?_
      refine xg_t (xg_bip) ?_
      by_cases hc206 : f82_172 = 7
      · refine xg_t (xg_icT (u := f82_172) (v := 7) rfl xnm0 xnm0 (xj_eqT hc206)) ?_
        refine xg_t (xg_blk (b := [(72, 1, 0, 0, 0, 0), (73, 1, 3, 0, 0, 0), (74, 1, 2, 1, 0, 0), (75, 2, 4, 20, 0, 0), (77, 1, 3, 4, 0, 0), (78, 1, 2, 1, 0, 0), (79, 1, 16, 0, 0, 0), (80, 1, 11, 0, 0, 0), (81, 1, 3, 3, 0, 0), (82, 1, 11, 0, 0, 0), (83, 1, 0, 0, 0, 0), (84, 3, 1, 12, 9, 165), (87, 2, 4, 8, 0, 0), (89, 3, 6, 96, 1, 0), (92, 1, 3, 1, 0, 0), (93, 3, 8, 97, 0, 0)]) rfl) ?_
        refine xg_t (xg_aload (va := (2, 82)) rfl rfl) ?_
        refine xg_t (xg_const) ?_
        refine xg_t (xg_iload (va := (0, kk)) rfl rfl) ?_
        refine xg_t (xg_bip) ?_
        refine xg_t (xg_const) ?_
        refine xg_t (xg_iload (va := (0, kk)) rfl rfl) ?_
        refine xg_t (xg_imul (u := 4) (v := kk) (z := 4 * kk) xnm0 xnm0 (by omega)) ?_
        refine xg_t (xg_iadd (u := 20) (v := 4 * kk) (z := 20 + (4 * kk)) xnm0 xnm0 (by omega)) ?_
        refine xg_t (xg_const) ?_
        refine xg_t (xg_iadd (u := 20 + (4 * kk)) (v := 3) (z := (20 + (4 * kk)) + 3) xnm0 xnm0 (by omega)) ?_
        refine xg_t (xg_aload (va := (2, 82)) rfl rfl) ?_
        refine xg_t (xg_getf (va := (0, f82_172)) (hF193.get (by decide) h82_188) rfl) ?_
        refine xg_t (xg_bip) ?_
        refine xg_t (xg_icT (u := f82_172) (v := 8) rfl xnm0 xnm0 (xj_neT (by omega))) ?_
        refine xg_t (xg_blk (b := [(96, 1, 3, 0, 0, 0)]) rfl) ?_
        refine xg_t (xg_const) ?_
        refine xg_t (xg_blk (b := [(97, 3, 13, 211, 96, 200), (100, 1, 0, 0, 0, 0), (101, 3, 13, 110, 96, 190), (104, 1, 12, 0, 0, 0)]) rfl) ?_
        refine xg_cVv mX12_puts (vs := [(0, 0), (0, kk), (0, (20 + (4 * kk)) + 3), (0, 0)]) (rest := []) (cn1 := 0) (sl1 := 0) rfl (mPuts0 (hI192) (by omega) (by omega) (by omega) (fun _ => by omega)) rfl (hF193.get (by decide) h82_188) rfl rfl rfl rfl rfl rfl (fun w207 hq208 => ?_)
        obtain ⟨hI209, hF210, hx211⟩ := hq208
        obtain ⟨hp212, hp213⟩ := hx211
        have pk214 : PK w w207 := PK.tr pk197 (PK.fr hF210 (by decide) (by decide) pk197.2.2.2.1)
        have os215 : ∀ j, (j < 20 + 4 * kk ∨ 24 + 4 * kk ≤ j) → j < 140 → rwv w207 86 j = rwv w 86 j := fun j hj hl => (hp213 j (by omega) hl).trans (os198 j hj hl)
        have ix216 : kk < 6 → rwv w207 86 ((20 + (4 * kk)) + 0) = n37 := fun h => (hp213 _ (by omega) (by omega)).trans (ix199 h)
        have ix217 : kk < 6 → rwv w207 86 ((20 + (4 * kk)) + 1) = n90 := fun h => (hp213 _ (by omega) (by omega)).trans (ix200 h)
        have ix218 : kk < 6 → rwv w207 86 ((20 + (4 * kk)) + 2) = n147 := fun h => (hp213 _ (by omega) (by omega)).trans (hp195 h)
        have rg219 : FA w207 ≠ 0 ∨ (1 ≤ n37 ∧ n37 ≤ 99) := rg201.imp_left (PK.fr hF210 (by decide) (by decide) pk197.2.2.2.1).1
        have rg220 : FA w207 ≠ 0 ∨ (1 ≤ n90 ∧ n90 ≤ 99) := rg202.imp_left (PK.fr hF210 (by decide) (by decide) pk197.2.2.2.1).1
        have rg221 : FA w207 ≠ 0 ∨ (1 ≤ n147 ∧ n147 ≤ 99) := rg203.imp_left (PK.fr hF210 (by decide) (by decide) pk197.2.2.2.1).1
        clear ix199 ix200 hp195 rg201 rg202 rg203
        refine xg_t (xg_aload (va := (2, 82)) rfl rfl) ?_
        refine xg_cVv mX12_advance (vs := []) (rest := []) (cn1 := 0) (sl1 := 0) rfl (mAdvance (hI209)) rfl (hF210.get (by decide) (hF193.get (by decide) h82_188)) rfl rfl rfl rfl rfl rfl (fun w222 hq223 => ?_)
        obtain ⟨hI224, hF225, hx226⟩ := hq223
        obtain ⟨hv227, hv228, hv229, hv230⟩ := hx226
        have hf232 := FA_fr hF225 (by decide)
        have hs233 := pk214.2.2.2.1
        unfold PS at hs233
        have pk231 : PK w207 w222 := ⟨fun _ => by omega, hv227, hv230, (show fld w222 82 10 = 0 ∨ FA w222 ≠ 0 by omega), K83.fr hF225 (by decide)⟩
        clear hs233 hv228
        have pk234 : PK w w222 := PK.tr pk214 pk231
        have os235 : ∀ j, (j < 20 + 4 * kk ∨ 24 + 4 * kk ≤ j) → j < 140 → rwv w222 86 j = rwv w 86 j := fun j hj hl => (rwv_fr hF225 (by decide)).trans (os215 j hj hl)
        have ix236 : kk < 6 → rwv w222 86 ((20 + (4 * kk)) + 0) = n37 := fun h => (rwv_fr hF225 (by decide)).trans (ix216 h)
        have ix237 : kk < 6 → rwv w222 86 ((20 + (4 * kk)) + 1) = n90 := fun h => (rwv_fr hF225 (by decide)).trans (ix217 h)
        have ix238 : kk < 6 → rwv w222 86 ((20 + (4 * kk)) + 2) = n147 := fun h => (rwv_fr hF225 (by decide)).trans (ix218 h)
        have ix239 : kk < 6 → rwv w222 86 ((20 + (4 * kk)) + 3) = 0 := fun h => (rwv_fr hF225 (by decide)).trans (hp212 h)
        have rg240 : FA w222 ≠ 0 ∨ (1 ≤ n37 ∧ n37 ≤ 99) := rg219.imp_left pk231.1
        have rg241 : FA w222 ≠ 0 ∨ (1 ≤ n90 ∧ n90 ≤ 99) := rg220.imp_left pk231.1
        have rg242 : FA w222 ≠ 0 ∨ (1 ≤ n147 ∧ n147 ≤ 99) := rg221.imp_left pk231.1
        clear ix216 ix217 ix218 hp212 rg219 rg220 rg221
        have hc243 : kk < 6 → rwv w222 86 (20 + 4 * kk + 0) = n37 := ix236
        have hc244 := rg240
        have hc245 : kk < 6 → rwv w222 86 (20 + 4 * kk + 1) = n90 := ix237
        have hc246 := rg241
        have hc247 : kk < 6 → rwv w222 86 (20 + 4 * kk + 2) = n147 := ix238
        have hc248 := rg242
        exact xg_e ⟨w222, ⟨rfl, rfl⟩, hI224, ((((((((hF36.up (by decide)).tr (hF79.up (by decide))).tr (hF89.up (by decide))).tr (hF134.up (by decide))).tr (hF146.up (by decide))).tr (hF193.up (by decide))).tr (hF210.up (by decide))).tr (hF225.up (by decide))), ⟨pk234, os235, by omega⟩⟩
      · refine xg_t (xg_icF (u := f82_172) (v := 7) rfl xnm0 xnm0 (xj_eqF hc206)) ?_
        refine xg_t (xg_aload (va := (2, 82)) rfl rfl) ?_
        refine xg_t (xg_getf (va := (0, f82_172)) (hF193.get (by decide) h82_188) rfl) ?_
        refine xg_t (xg_bip) ?_
        by_cases hc249 : f82_172 = 8
        · refine xg_t (xg_icT (u := f82_172) (v := 8) rfl xnm0 xnm0 (xj_eqT hc249)) ?_
          refine xg_t (xg_blk (b := [(72, 1, 0, 0, 0, 0), (73, 1, 3, 0, 0, 0), (74, 1, 2, 1, 0, 0), (75, 2, 4, 20, 0, 0), (77, 1, 3, 4, 0, 0), (78, 1, 2, 1, 0, 0), (79, 1, 16, 0, 0, 0), (80, 1, 11, 0, 0, 0), (81, 1, 3, 3, 0, 0), (82, 1, 11, 0, 0, 0), (83, 1, 0, 0, 0, 0), (84, 3, 1, 12, 9, 165), (87, 2, 4, 8, 0, 0), (89, 3, 6, 96, 1, 0), (92, 1, 3, 1, 0, 0), (93, 3, 8, 97, 0, 0)]) rfl) ?_
          refine xg_t (xg_aload (va := (2, 82)) rfl rfl) ?_
          refine xg_t (xg_const) ?_
          refine xg_t (xg_iload (va := (0, kk)) rfl rfl) ?_
          refine xg_t (xg_bip) ?_
          refine xg_t (xg_const) ?_
          refine xg_t (xg_iload (va := (0, kk)) rfl rfl) ?_
          refine xg_t (xg_imul (u := 4) (v := kk) (z := 4 * kk) xnm0 xnm0 (by omega)) ?_
          refine xg_t (xg_iadd (u := 20) (v := 4 * kk) (z := 20 + (4 * kk)) xnm0 xnm0 (by omega)) ?_
          refine xg_t (xg_const) ?_
          refine xg_t (xg_iadd (u := 20 + (4 * kk)) (v := 3) (z := (20 + (4 * kk)) + 3) xnm0 xnm0 (by omega)) ?_
          refine xg_t (xg_aload (va := (2, 82)) rfl rfl) ?_
          refine xg_t (xg_getf (va := (0, f82_172)) (hF193.get (by decide) h82_188) rfl) ?_
          refine xg_t (xg_bip) ?_
          by_cases hc250 : f82_172 = 8
          · refine xg_t (xg_icF (u := f82_172) (v := 8) rfl xnm0 xnm0 (xj_neF hc250)) ?_
            refine xg_t (xg_const) ?_
            refine xg_t (xg_goto) ?_
            refine xg_t (xg_blk (b := [(97, 3, 13, 211, 96, 200), (100, 1, 0, 0, 0, 0), (101, 3, 13, 110, 96, 190), (104, 1, 12, 0, 0, 0)]) rfl) ?_
            refine xg_cVv mX12_puts (vs := [(0, 0), (0, kk), (0, (20 + (4 * kk)) + 3), (0, 1)]) (rest := []) (cn1 := 0) (sl1 := 0) rfl (mPuts0 (hI192) (by omega) (by omega) (by omega) (fun _ => by omega)) rfl (hF193.get (by decide) h82_188) rfl rfl rfl rfl rfl rfl (fun w251 hq252 => ?_)
            obtain ⟨hI253, hF254, hx255⟩ := hq252
            obtain ⟨hp256, hp257⟩ := hx255
            have pk258 : PK w w251 := PK.tr pk197 (PK.fr hF254 (by decide) (by decide) pk197.2.2.2.1)
            have os259 : ∀ j, (j < 20 + 4 * kk ∨ 24 + 4 * kk ≤ j) → j < 140 → rwv w251 86 j = rwv w 86 j := fun j hj hl => (hp257 j (by omega) hl).trans (os198 j hj hl)
            have ix260 : kk < 6 → rwv w251 86 ((20 + (4 * kk)) + 0) = n37 := fun h => (hp257 _ (by omega) (by omega)).trans (ix199 h)
            have ix261 : kk < 6 → rwv w251 86 ((20 + (4 * kk)) + 1) = n90 := fun h => (hp257 _ (by omega) (by omega)).trans (ix200 h)
            have ix262 : kk < 6 → rwv w251 86 ((20 + (4 * kk)) + 2) = n147 := fun h => (hp257 _ (by omega) (by omega)).trans (hp195 h)
            have rg263 : FA w251 ≠ 0 ∨ (1 ≤ n37 ∧ n37 ≤ 99) := rg201.imp_left (PK.fr hF254 (by decide) (by decide) pk197.2.2.2.1).1
            have rg264 : FA w251 ≠ 0 ∨ (1 ≤ n90 ∧ n90 ≤ 99) := rg202.imp_left (PK.fr hF254 (by decide) (by decide) pk197.2.2.2.1).1
            have rg265 : FA w251 ≠ 0 ∨ (1 ≤ n147 ∧ n147 ≤ 99) := rg203.imp_left (PK.fr hF254 (by decide) (by decide) pk197.2.2.2.1).1
            clear ix199 ix200 hp195 rg201 rg202 rg203
            refine xg_t (xg_aload (va := (2, 82)) rfl rfl) ?_
            refine xg_cVv mX12_advance (vs := []) (rest := []) (cn1 := 0) (sl1 := 0) rfl (mAdvance (hI253)) rfl (hF254.get (by decide) (hF193.get (by decide) h82_188)) rfl rfl rfl rfl rfl rfl (fun w266 hq267 => ?_)
            obtain ⟨hI268, hF269, hx270⟩ := hq267
            obtain ⟨hv271, hv272, hv273, hv274⟩ := hx270
            have hf276 := FA_fr hF269 (by decide)
            have hs277 := pk258.2.2.2.1
            unfold PS at hs277
            have pk275 : PK w251 w266 := ⟨fun _ => by omega, hv271, hv274, (show fld w266 82 10 = 0 ∨ FA w266 ≠ 0 by omega), K83.fr hF269 (by decide)⟩
            clear hs277 hv272
            have pk278 : PK w w266 := PK.tr pk258 pk275
            have os279 : ∀ j, (j < 20 + 4 * kk ∨ 24 + 4 * kk ≤ j) → j < 140 → rwv w266 86 j = rwv w 86 j := fun j hj hl => (rwv_fr hF269 (by decide)).trans (os259 j hj hl)
            have ix280 : kk < 6 → rwv w266 86 ((20 + (4 * kk)) + 0) = n37 := fun h => (rwv_fr hF269 (by decide)).trans (ix260 h)
            have ix281 : kk < 6 → rwv w266 86 ((20 + (4 * kk)) + 1) = n90 := fun h => (rwv_fr hF269 (by decide)).trans (ix261 h)
            have ix282 : kk < 6 → rwv w266 86 ((20 + (4 * kk)) + 2) = n147 := fun h => (rwv_fr hF269 (by decide)).trans (ix262 h)
            have ix283 : kk < 6 → rwv w266 86 ((20 + (4 * kk)) + 3) = 1 := fun h => (rwv_fr hF269 (by decide)).trans (hp256 h)
            have rg284 : FA w266 ≠ 0 ∨ (1 ≤ n37 ∧ n37 ≤ 99) := rg263.imp_left pk275.1
            have rg285 : FA w266 ≠ 0 ∨ (1 ≤ n90 ∧ n90 ≤ 99) := rg264.imp_left pk275.1
            have rg286 : FA w266 ≠ 0 ∨ (1 ≤ n147 ∧ n147 ≤ 99) := rg265.imp_left pk275.1
            clear ix260 ix261 ix262 hp256 rg263 rg264 rg265
            have hc287 : kk < 6 → rwv w266 86 (20 + 4 * kk + 0) = n37 := ix280
            have hc288 := rg284
            have hc289 : kk < 6 → rwv w266 86 (20 + 4 * kk + 1) = n90 := ix281
            have hc290 := rg285
            have hc291 : kk < 6 → rwv w266 86 (20 + 4 * kk + 2) = n147 := ix282
            have hc292 := rg286
            exact xg_e ⟨w266, ⟨rfl, rfl⟩, hI268, ((((((((hF36.up (by decide)).tr (hF79.up (by decide))).tr (hF89.up (by decide))).tr (hF134.up (by decide))).tr (hF146.up (by decide))).tr (hF193.up (by decide))).tr (hF254.up (by decide))).tr (hF269.up (by decide))), ⟨pk278, os279, by omega⟩⟩
          · refine xg_t (xg_icT (u := f82_172) (v := 8) rfl xnm0 xnm0 (xj_neT hc250)) ?_
            refine xg_t (xg_blk (b := [(96, 1, 3, 0, 0, 0)]) rfl) ?_
            refine xg_t (xg_const) ?_
            refine xg_t (xg_blk (b := [(97, 3, 13, 211, 96, 200), (100, 1, 0, 0, 0, 0), (101, 3, 13, 110, 96, 190), (104, 1, 12, 0, 0, 0)]) rfl) ?_
            refine xg_cVv mX12_puts (vs := [(0, 0), (0, kk), (0, (20 + (4 * kk)) + 3), (0, 0)]) (rest := []) (cn1 := 0) (sl1 := 0) rfl (mPuts0 (hI192) (by omega) (by omega) (by omega) (fun _ => by omega)) rfl (hF193.get (by decide) h82_188) rfl rfl rfl rfl rfl rfl (fun w293 hq294 => ?_)
            obtain ⟨hI295, hF296, hx297⟩ := hq294
            obtain ⟨hp298, hp299⟩ := hx297
            have pk300 : PK w w293 := PK.tr pk197 (PK.fr hF296 (by decide) (by decide) pk197.2.2.2.1)
            have os301 : ∀ j, (j < 20 + 4 * kk ∨ 24 + 4 * kk ≤ j) → j < 140 → rwv w293 86 j = rwv w 86 j := fun j hj hl => (hp299 j (by omega) hl).trans (os198 j hj hl)
            have ix302 : kk < 6 → rwv w293 86 ((20 + (4 * kk)) + 0) = n37 := fun h => (hp299 _ (by omega) (by omega)).trans (ix199 h)
            have ix303 : kk < 6 → rwv w293 86 ((20 + (4 * kk)) + 1) = n90 := fun h => (hp299 _ (by omega) (by omega)).trans (ix200 h)
            have ix304 : kk < 6 → rwv w293 86 ((20 + (4 * kk)) + 2) = n147 := fun h => (hp299 _ (by omega) (by omega)).trans (hp195 h)
            have rg305 : FA w293 ≠ 0 ∨ (1 ≤ n37 ∧ n37 ≤ 99) := rg201.imp_left (PK.fr hF296 (by decide) (by decide) pk197.2.2.2.1).1
            have rg306 : FA w293 ≠ 0 ∨ (1 ≤ n90 ∧ n90 ≤ 99) := rg202.imp_left (PK.fr hF296 (by decide) (by decide) pk197.2.2.2.1).1
            have rg307 : FA w293 ≠ 0 ∨ (1 ≤ n147 ∧ n147 ≤ 99) := rg203.imp_left (PK.fr hF296 (by decide) (by decide) pk197.2.2.2.1).1
            clear ix199 ix200 hp195 rg201 rg202 rg203
            refine xg_t (xg_aload (va := (2, 82)) rfl rfl) ?_
            refine xg_cVv mX12_advance (vs := []) (rest := []) (cn1 := 0) (sl1 := 0) rfl (mAdvance (hI295)) rfl (hF296.get (by decide) (hF193.get (by decide) h82_188)) rfl rfl rfl rfl rfl rfl (fun w308 hq309 => ?_)
            obtain ⟨hI310, hF311, hx312⟩ := hq309
            obtain ⟨hv313, hv314, hv315, hv316⟩ := hx312
            have hf318 := FA_fr hF311 (by decide)
            have hs319 := pk300.2.2.2.1
            unfold PS at hs319
            have pk317 : PK w293 w308 := ⟨fun _ => by omega, hv313, hv316, (show fld w308 82 10 = 0 ∨ FA w308 ≠ 0 by omega), K83.fr hF311 (by decide)⟩
            clear hs319 hv314
            have pk320 : PK w w308 := PK.tr pk300 pk317
            have os321 : ∀ j, (j < 20 + 4 * kk ∨ 24 + 4 * kk ≤ j) → j < 140 → rwv w308 86 j = rwv w 86 j := fun j hj hl => (rwv_fr hF311 (by decide)).trans (os301 j hj hl)
            have ix322 : kk < 6 → rwv w308 86 ((20 + (4 * kk)) + 0) = n37 := fun h => (rwv_fr hF311 (by decide)).trans (ix302 h)
            have ix323 : kk < 6 → rwv w308 86 ((20 + (4 * kk)) + 1) = n90 := fun h => (rwv_fr hF311 (by decide)).trans (ix303 h)
            have ix324 : kk < 6 → rwv w308 86 ((20 + (4 * kk)) + 2) = n147 := fun h => (rwv_fr hF311 (by decide)).trans (ix304 h)
            have ix325 : kk < 6 → rwv w308 86 ((20 + (4 * kk)) + 3) = 0 := fun h => (rwv_fr hF311 (by decide)).trans (hp298 h)
            have rg326 : FA w308 ≠ 0 ∨ (1 ≤ n37 ∧ n37 ≤ 99) := rg305.imp_left pk317.1
            have rg327 : FA w308 ≠ 0 ∨ (1 ≤ n90 ∧ n90 ≤ 99) := rg306.imp_left pk317.1
            have rg328 : FA w308 ≠ 0 ∨ (1 ≤ n147 ∧ n147 ≤ 99) := rg307.imp_left pk317.1
            clear ix302 ix303 ix304 hp298 rg305 rg306 rg307
            have hc329 : kk < 6 → rwv w308 86 (20 + 4 * kk + 0) = n37 := ix322
            have hc330 := rg326
            have hc331 : kk < 6 → rwv w308 86 (20 + 4 * kk + 1) = n90 := ix323
            have hc332 := rg327
            have hc333 : kk < 6 → rwv w308 86 (20 + 4 * kk + 2) = n147 := ix324
            have hc334 := rg328
            exact xg_e ⟨w308, ⟨rfl, rfl⟩, hI310, ((((((((hF36.up (by decide)).tr (hF79.up (by decide))).tr (hF89.up (by decide))).tr (hF134.up (by decide))).tr (hF146.up (by decide))).tr (hF193.up (by decide))).tr (hF296.up (by decide))).tr (hF311.up (by decide))), ⟨pk320, os321, by omega⟩⟩
        · refine xg_t (xg_icF (u := f82_172) (v := 8) rfl xnm0 xnm0 (xj_eqF hc249)) ?_
          refine xg_t (xg_blk (b := [(67, 1, 0, 0, 0, 0), (68, 3, 13, 140, 96, 183), (71, 1, 12, 0, 0, 0)]) rfl) ?_
          refine xg_t (xg_aload (va := (2, 82)) rfl rfl) ?_
          refine xg_cVv mX12_ends (vs := []) (rest := []) (cn1 := 0) (sl1 := 0) rfl (mEnds (hI192) pk197.2.2.2.1) rfl (hF193.get (by decide) h82_188) rfl rfl rfl rfl rfl rfl (fun w335 hq336 => ?_)
          obtain ⟨hI337, hF338, hx339⟩ := hq336
          obtain ⟨hv340, hv341, hv342, hv343, hv344⟩ := hx339
          have pk345 : PK w190 w335 := ⟨fun _ => hv340, by omega, by omega, Or.inr hv340, hv344⟩
          have pk346 : PK w w335 := PK.tr pk197 pk345
          have os347 : ∀ j, (j < 20 + 4 * kk ∨ 24 + 4 * kk ≤ j) → j < 140 → rwv w335 86 j = rwv w 86 j := fun j hj hl => (rwv_fr hF338 (by decide)).trans (os198 j hj hl)
          have ix348 : kk < 6 → rwv w335 86 ((20 + (4 * kk)) + 0) = n37 := fun h => (rwv_fr hF338 (by decide)).trans (ix199 h)
          have ix349 : kk < 6 → rwv w335 86 ((20 + (4 * kk)) + 1) = n90 := fun h => (rwv_fr hF338 (by decide)).trans (ix200 h)
          have ix350 : kk < 6 → rwv w335 86 ((20 + (4 * kk)) + 2) = n147 := fun h => (rwv_fr hF338 (by decide)).trans (hp195 h)
          have rg351 : FA w335 ≠ 0 ∨ (1 ≤ n37 ∧ n37 ≤ 99) := rg201.imp_left pk345.1
          have rg352 : FA w335 ≠ 0 ∨ (1 ≤ n90 ∧ n90 ≤ 99) := rg202.imp_left pk345.1
          have rg353 : FA w335 ≠ 0 ∨ (1 ≤ n147 ∧ n147 ≤ 99) := rg203.imp_left pk345.1
          clear ix199 ix200 hp195 rg201 rg202 rg203
          have hc354 : kk < 6 → rwv w335 86 (20 + 4 * kk + 0) = n37 := ix348
          have hc355 := rg351
          have hc356 : kk < 6 → rwv w335 86 (20 + 4 * kk + 1) = n90 := ix349
          have hc357 := rg352
          have hc358 : kk < 6 → rwv w335 86 (20 + 4 * kk + 2) = n147 := ix350
          have hc359 := rg353
          exact xg_e ⟨w335, ⟨rfl, rfl⟩, hI337, (((((((hF36.up (by decide)).tr (hF79.up (by decide))).tr (hF89.up (by decide))).tr (hF134.up (by decide))).tr (hF146.up (by decide))).tr (hF193.up (by decide))).tr (hF338.up (by decide))), ⟨pk346, os347, by omega⟩⟩
    · refine xg_t (xg_icT (u := f82_168) (v := 3) rfl xnm0 xnm0 (xj_neT hc205)) ?_
      refine xg_t (xg_blk (b := [(67, 1, 0, 0, 0, 0), (68, 3, 13, 140, 96, 183), (71, 1, 12, 0, 0, 0)]) rfl) ?_
      refine xg_t (xg_aload (va := (2, 82)) rfl rfl) ?_
      refine xg_cVv mX12_ends (vs := []) (rest := []) (cn1 := 0) (sl1 := 0) rfl (mEnds (hI192) pk197.2.2.2.1) rfl (hF193.get (by decide) h82_188) rfl rfl rfl rfl rfl rfl (fun w360 hq361 => ?_)
      obtain ⟨hI362, hF363, hx364⟩ := hq361
      obtain ⟨hv365, hv366, hv367, hv368, hv369⟩ := hx364
      have pk370 : PK w190 w360 := ⟨fun _ => hv365, by omega, by omega, Or.inr hv365, hv369⟩
      have pk371 : PK w w360 := PK.tr pk197 pk370
      have os372 : ∀ j, (j < 20 + 4 * kk ∨ 24 + 4 * kk ≤ j) → j < 140 → rwv w360 86 j = rwv w 86 j := fun j hj hl => (rwv_fr hF363 (by decide)).trans (os198 j hj hl)
      have ix373 : kk < 6 → rwv w360 86 ((20 + (4 * kk)) + 0) = n37 := fun h => (rwv_fr hF363 (by decide)).trans (ix199 h)
      have ix374 : kk < 6 → rwv w360 86 ((20 + (4 * kk)) + 1) = n90 := fun h => (rwv_fr hF363 (by decide)).trans (ix200 h)
      have ix375 : kk < 6 → rwv w360 86 ((20 + (4 * kk)) + 2) = n147 := fun h => (rwv_fr hF363 (by decide)).trans (hp195 h)
      have rg376 : FA w360 ≠ 0 ∨ (1 ≤ n37 ∧ n37 ≤ 99) := rg201.imp_left pk370.1
      have rg377 : FA w360 ≠ 0 ∨ (1 ≤ n90 ∧ n90 ≤ 99) := rg202.imp_left pk370.1
      have rg378 : FA w360 ≠ 0 ∨ (1 ≤ n147 ∧ n147 ≤ 99) := rg203.imp_left pk370.1
      clear ix199 ix200 hp195 rg201 rg202 rg203
      have hc379 : kk < 6 → rwv w360 86 (20 + 4 * kk + 0) = n37 := ix373
      have hc380 := rg376
      have hc381 : kk < 6 → rwv w360 86 (20 + 4 * kk + 1) = n90 := ix374
      have hc382 := rg377
      have hc383 : kk < 6 → rwv w360 86 (20 + 4 * kk + 2) = n147 := ix375
      have hc384 := rg378
      exact xg_e ⟨w360, ⟨rfl, rfl⟩, hI362, (((((((hF36.up (by decide)).tr (hF79.up (by decide))).tr (hF89.up (by decide))).tr (hF134.up (by decide))).tr (hF146.up (by decide))).tr (hF193.up (by decide))).tr (hF363.up (by decide))), ⟨pk371, os372, by omega⟩⟩
  · refine xg_t (xg_ifT (u := f82_174) rfl xnm0 (xj_neT hc204)) ?_
    refine xg_t (xg_blk (b := [(67, 1, 0, 0, 0, 0), (68, 3, 13, 140, 96, 183), (71, 1, 12, 0, 0, 0)]) rfl) ?_
    refine xg_t (xg_aload (va := (2, 82)) rfl rfl) ?_
    refine xg_cVv mX12_ends (vs := []) (rest := []) (cn1 := 0) (sl1 := 0) rfl (mEnds (hI192) pk197.2.2.2.1) rfl (hF193.get (by decide) h82_188) rfl rfl rfl rfl rfl rfl (fun w385 hq386 => ?_)
    obtain ⟨hI387, hF388, hx389⟩ := hq386
    obtain ⟨hv390, hv391, hv392, hv393, hv394⟩ := hx389
    have pk395 : PK w190 w385 := ⟨fun _ => hv390, by omega, by omega, Or.inr hv390, hv394⟩
    have pk396 : PK w w385 := PK.tr pk197 pk395
    have os397 : ∀ j, (j < 20 + 4 * kk ∨ 24 + 4 * kk ≤ j) → j < 140 → rwv w385 86 j = rwv w 86 j := fun j hj hl => (rwv_fr hF388 (by decide)).trans (os198 j hj hl)
    have ix398 : kk < 6 → rwv w385 86 ((20 + (4 * kk)) + 0) = n37 := fun h => (rwv_fr hF388 (by decide)).trans (ix199 h)
    have ix399 : kk < 6 → rwv w385 86 ((20 + (4 * kk)) + 1) = n90 := fun h => (rwv_fr hF388 (by decide)).trans (ix200 h)
    have ix400 : kk < 6 → rwv w385 86 ((20 + (4 * kk)) + 2) = n147 := fun h => (rwv_fr hF388 (by decide)).trans (hp195 h)
    have rg401 : FA w385 ≠ 0 ∨ (1 ≤ n37 ∧ n37 ≤ 99) := rg201.imp_left pk395.1
    have rg402 : FA w385 ≠ 0 ∨ (1 ≤ n90 ∧ n90 ≤ 99) := rg202.imp_left pk395.1
    have rg403 : FA w385 ≠ 0 ∨ (1 ≤ n147 ∧ n147 ≤ 99) := rg203.imp_left pk395.1
    clear ix199 ix200 hp195 rg201 rg202 rg203
    have hc404 : kk < 6 → rwv w385 86 (20 + 4 * kk + 0) = n37 := ix398
    have hc405 := rg401
    have hc406 : kk < 6 → rwv w385 86 (20 + 4 * kk + 1) = n90 := ix399
    have hc407 := rg402
    have hc408 : kk < 6 → rwv w385 86 (20 + 4 * kk + 2) = n147 := ix400
    have hc409 := rg403
    exact xg_e ⟨w385, ⟨rfl, rfl⟩, hI387, (((((((hF36.up (by decide)).tr (hF79.up (by decide))).tr (hF89.up (by decide))).tr (hF134.up (by decide))).tr (hF146.up (by decide))).tr (hF193.up (by decide))).tr (hF388.up (by decide))), ⟨pk396, os397, by omega⟩⟩
end XMA
