/-! the model: texts -/
noncomputable def mu (w : List (List xE)) : Nat := 2 * (fld w 82 4 - fld w 82 5) + min 1 (fld w 82 7)
noncomputable def FA (w : List (List xE)) : Nat := rwv w 83 16
def PS (w : List (List xE)) : Prop := fld w 82 10 = 0 ∨ FA w ≠ 0
/-- row 83 as it was, but for the fault and its place -/
def K83 (w w' : List (List xE)) : Prop := ∀ j, j < 5360 → j ≠ 16 → j ≠ 17 → rwv w' 83 j = rwv w 83 j
theorem K83.rf {w : List (List xE)} : K83 w w := fun _ _ _ _ => rfl
theorem K83.tr {w1 w2 w3 : List (List xE)} (h : K83 w1 w2) (k : K83 w2 w3) : K83 w1 w3 := fun j a b c => (k j a b c).trans (h j a b c)
theorem K83.fr {S : List Nat} {w w' : List (List xE)} (h : xFr S w w') (hk : 83 ∉ S) : K83 w w' := fun j _ _ _ => by
  unfold rwv
  rw [h.1 83 hk]
theorem K83.but {c : Nat} {w w' : List (List xE)} (h : xBut c w w') (hk : 83 ≠ c) : K83 w w' := fun j _ _ _ => by
  unfold rwv
  rw [h.1 83 hk]
theorem K83.st {w w' : List (List xE)} {g g' : Nat → Nat} (h : xRow w 83 5360 50 g) (h' : xRow w' 83 5360 50 g') (hg : ∀ j, j ≠ 16 → j ≠ 17 → g' j = g j) : K83 w w' := fun j a b c => (rwv_of h' a).trans ((hg j b c).trans (rwv_of h a).symm)
def PK (w w' : List (List xE)) : Prop := (FA w ≠ 0 → FA w' ≠ 0) ∧ mu w' ≤ mu w ∧ fld w' 82 14 = fld w 82 14 ∧ PS w' ∧ K83 w w'
theorem PK.tr {w1 w2 w3 : List (List xE)} (h : PK w1 w2) (k : PK w2 w3) : PK w1 w3 := ⟨fun z => k.1 (h.1 z), Nat.le_trans k.2.1 h.2.1, k.2.2.1.trans h.2.2.1, k.2.2.2.1, h.2.2.2.2.tr k.2.2.2.2⟩
theorem PK.rf {w : List (List xE)} (h : PS w) : PK w w := ⟨fun z => z, Nat.le_refl _, rfl, h, K83.rf⟩
theorem rwv_fr {S : List Nat} {w w' : List (List xE)} {k j : Nat} (h : xFr S w w') (hk : k ∉ S) : rwv w' k j = rwv w k j := by
  unfold rwv
  rw [h.1 k hk]
theorem mu_fr {S : List Nat} {w w' : List (List xE)} (h : xFr S w w') (hk : 82 ∉ S) : mu w' = mu w := by
  unfold mu
  rw [fld_fr h hk, fld_fr h hk, fld_fr h hk]
theorem FA_fr {S : List Nat} {w w' : List (List xE)} (h : xFr S w w') (hk : 83 ∉ S) : FA w' = FA w := rwv_fr h hk
theorem PK.fr {S : List Nat} {w w' : List (List xE)} (h : xFr S w w') (h1 : 82 ∉ S) (h2 : 83 ∉ S) (hp : PS w) : PK w w' := by
  refine ⟨fun z => ?_, ?_, fld_fr h h1, ?_, K83.fr h h2⟩
  · rw [FA_fr h h2]; exact z
  · rw [mu_fr h h1]; exact Nat.le_refl _
  · unfold PS
    rw [FA_fr h h2, fld_fr h h1]
    exact hp
section XMA
variable {d : Nat} {w : List (List xE)} {bd : List (Nat × Nat)} {fc : List (Nat × Nat × Bool)} {rr : Nat × Nat}
theorem mLetter {cc : Nat} (hI : xMnv w) (hcc : cc ≤ 4294967295) : xPi d mX12_isLetter [(0, cc)] w bd fc rr (fun n w' => ((n = 1 ∧ 97 ≤ cc ∧ cc ≤ 122) ∨ (n = 0 ∧ ¬ (97 ≤ cc ∧ cc ≤ 122))) ∧ xMnv w' ∧ xFr [] w w') := by
  refine xPi.of ?_
  show xTo d mX12_isLetter (0, [], [(0, (0, cc))], [], (w, bd, fc, 0, 0, rr)) (fun φ => ∃ n w', xEnd 4 [(0, n)] (w', bd, fc, 0, 0, rr) φ ∧ ((n = 1 ∧ 97 ≤ cc ∧ cc ≤ 122) ∨ (n = 0 ∧ ¬ (97 ≤ cc ∧ cc ≤ 122))) ∧ xMnv w' ∧ xFr [] w w')
  refine xg_t (xg_blk (b := [(0, 1, 2, 0, 0, 0), (1, 2, 4, 97, 0, 0), (3, 3, 6, 16, 2, 0), (6, 1, 2, 0, 0, 0), (7, 2, 4, 122, 0, 0), (9, 3, 6, 16, 4, 0), (12, 1, 3, 1, 0, 0), (13, 3, 8, 17, 0, 0)]) rfl) ?_
  refine xg_t (xg_iload (va := (0, cc)) rfl rfl) ?_
  refine xg_t (xg_bip) ?_
  by_cases hc1 : xbs cc < xbs 97
  · have hc1u := hc1
    unfold xbs at hc1u
    refine xg_t (xg_icT (u := cc) (v := 97) rfl xnm0 xnm0 (xjs_ltT hc1)) ?_
    refine xg_t (xg_blk (b := [(16, 1, 3, 0, 0, 0)]) rfl) ?_
    refine xg_t (xg_const) ?_
    refine xg_t (xg_blk (b := [(17, 1, 12, 0, 1, 0)]) rfl) ?_
    exact xg_e ⟨0, w, ⟨rfl, rfl⟩, by omega, hI, xFr.rf⟩
  · have hc1u := hc1
    unfold xbs at hc1u
    have hn2 : cc ≤ 2147483647 := by omega
    refine xg_t (xg_icF (u := cc) (v := 97) rfl xnm0 xnm0 (xjs_ltF hc1)) ?_
    refine xg_t (xg_iload (va := (0, cc)) rfl rfl) ?_
    refine xg_t (xg_bip) ?_
    by_cases hc3 : 122 < cc
    · refine xg_t (xg_icT (u := cc) (v := 122) rfl xnm0 xnm0 (xj_gtT hc3 (by omega))) ?_
      refine xg_t (xg_blk (b := [(16, 1, 3, 0, 0, 0)]) rfl) ?_
      refine xg_t (xg_const) ?_
      refine xg_t (xg_blk (b := [(17, 1, 12, 0, 1, 0)]) rfl) ?_
      exact xg_e ⟨0, w, ⟨rfl, rfl⟩, by omega, hI, xFr.rf⟩
    · refine xg_t (xg_icF (u := cc) (v := 122) rfl xnm0 xnm0 (xj_gtF (by omega) (by omega))) ?_
      refine xg_t (xg_const) ?_
      refine xg_t (xg_goto) ?_
      refine xg_t (xg_blk (b := [(17, 1, 12, 0, 1, 0)]) rfl) ?_
      exact xg_e ⟨1, w, ⟨rfl, rfl⟩, by omega, hI, xFr.rf⟩
theorem mDigit {cc : Nat} (hI : xMnv w) (hcc : cc ≤ 4294967295) : xPi d mX12_isDigit [(0, cc)] w bd fc rr (fun n w' => ((n = 1 ∧ 48 ≤ cc ∧ cc ≤ 57) ∨ (n = 0 ∧ ¬ (48 ≤ cc ∧ cc ≤ 57))) ∧ xMnv w' ∧ xFr [] w w') := by
  refine xPi.of ?_
  show xTo d mX12_isDigit (0, [], [(0, (0, cc))], [], (w, bd, fc, 0, 0, rr)) (fun φ => ∃ n w', xEnd 4 [(0, n)] (w', bd, fc, 0, 0, rr) φ ∧ ((n = 1 ∧ 48 ≤ cc ∧ cc ≤ 57) ∨ (n = 0 ∧ ¬ (48 ≤ cc ∧ cc ≤ 57))) ∧ xMnv w' ∧ xFr [] w w')
  refine xg_t (xg_blk (b := [(0, 1, 2, 0, 0, 0), (1, 2, 4, 48, 0, 0), (3, 3, 6, 16, 2, 0), (6, 1, 2, 0, 0, 0), (7, 2, 4, 57, 0, 0), (9, 3, 6, 16, 4, 0), (12, 1, 3, 1, 0, 0), (13, 3, 8, 17, 0, 0)]) rfl) ?_
  refine xg_t (xg_iload (va := (0, cc)) rfl rfl) ?_
  refine xg_t (xg_bip) ?_
  by_cases hc1 : xbs cc < xbs 48
  · have hc1u := hc1
    unfold xbs at hc1u
    refine xg_t (xg_icT (u := cc) (v := 48) rfl xnm0 xnm0 (xjs_ltT hc1)) ?_
    refine xg_t (xg_blk (b := [(16, 1, 3, 0, 0, 0)]) rfl) ?_
    refine xg_t (xg_const) ?_
    refine xg_t (xg_blk (b := [(17, 1, 12, 0, 1, 0)]) rfl) ?_
    exact xg_e ⟨0, w, ⟨rfl, rfl⟩, by omega, hI, xFr.rf⟩
  · have hc1u := hc1
    unfold xbs at hc1u
    have hn2 : cc ≤ 2147483647 := by omega
    refine xg_t (xg_icF (u := cc) (v := 48) rfl xnm0 xnm0 (xjs_ltF hc1)) ?_
    refine xg_t (xg_iload (va := (0, cc)) rfl rfl) ?_
    refine xg_t (xg_bip) ?_
    by_cases hc3 : 57 < cc
    · refine xg_t (xg_icT (u := cc) (v := 57) rfl xnm0 xnm0 (xj_gtT hc3 (by omega))) ?_
      refine xg_t (xg_blk (b := [(16, 1, 3, 0, 0, 0)]) rfl) ?_
      refine xg_t (xg_const) ?_
      refine xg_t (xg_blk (b := [(17, 1, 12, 0, 1, 0)]) rfl) ?_
      exact xg_e ⟨0, w, ⟨rfl, rfl⟩, by omega, hI, xFr.rf⟩
    · refine xg_t (xg_icF (u := cc) (v := 57) rfl xnm0 xnm0 (xj_gtF (by omega) (by omega))) ?_
      refine xg_t (xg_const) ?_
      refine xg_t (xg_goto) ?_
      refine xg_t (xg_blk (b := [(17, 1, 12, 0, 1, 0)]) rfl) ?_
      exact xg_e ⟨1, w, ⟨rfl, rfl⟩, by omega, hI, xFr.rf⟩
theorem mMostR0 : xPr d mX12_mostOf [(0, 0)] w bd fc rr [(0, 6)] w := by
  refine xPr.of ?_
  show xTo d mX12_mostOf (0, [], [(0, (0, 0))], [], (w, bd, fc, 0, 0, rr)) (xEnd 1 [(0, 6)] (w, bd, fc, 0, 0, rr))
  refine xg_t (xg_blk (b := [(0, 1, 2, 0, 0, 0), (1, 3, 7, 9, 0, 0), (4, 1, 2, 0, 0, 0), (5, 1, 3, 2, 0, 0), (6, 3, 6, 14, 1, 0)]) rfl) ?_
  refine xg_t (xg_iload (va := (0, 0)) rfl rfl) ?_
  refine xg_t (xg_ifT (u := 0) rfl xnm0 (by decide)) ?_
  refine xg_t (xg_blk (b := [(9, 2, 4, 6, 0, 0), (11, 3, 8, 39, 0, 0)]) rfl) ?_
  refine xg_t (xg_bip) ?_
  refine xg_t (xg_goto) ?_
  refine xg_t (xg_blk (b := [(39, 1, 12, 0, 1, 0)]) rfl) ?_
  exact xg_e ⟨rfl, rfl⟩
theorem mMostR1 : xPr d mX12_mostOf [(0, 1)] w bd fc rr [(0, 4)] w := by
  refine xPr.of ?_
  show xTo d mX12_mostOf (0, [], [(0, (0, 1))], [], (w, bd, fc, 0, 0, rr)) (xEnd 1 [(0, 4)] (w, bd, fc, 0, 0, rr))
  refine xg_t (xg_blk (b := [(0, 1, 2, 0, 0, 0), (1, 3, 7, 9, 0, 0), (4, 1, 2, 0, 0, 0), (5, 1, 3, 2, 0, 0), (6, 3, 6, 14, 1, 0)]) rfl) ?_
  refine xg_t (xg_iload (va := (0, 1)) rfl rfl) ?_
  refine xg_t (xg_ifF (u := 1) rfl xnm0 (by decide)) ?_
  refine xg_t (xg_iload (va := (0, 1)) rfl rfl) ?_
  refine xg_t (xg_const) ?_
  refine xg_t (xg_icT (u := 1) (v := 2) rfl xnm0 xnm0 (by decide)) ?_
  refine xg_t (xg_blk (b := [(14, 1, 2, 0, 0, 0), (15, 1, 3, 1, 0, 0), (16, 3, 6, 24, 0, 0), (19, 1, 2, 0, 0, 0), (20, 1, 3, 3, 0, 0), (21, 3, 6, 28, 1, 0)]) rfl) ?_
  refine xg_t (xg_iload (va := (0, 1)) rfl rfl) ?_
  refine xg_t (xg_const) ?_
  refine xg_t (xg_icT (u := 1) (v := 1) rfl xnm0 xnm0 (by decide)) ?_
  refine xg_t (xg_blk (b := [(24, 1, 3, 4, 0, 0), (25, 3, 8, 39, 0, 0)]) rfl) ?_
  refine xg_t (xg_const) ?_
  refine xg_t (xg_goto) ?_
  refine xg_t (xg_blk (b := [(39, 1, 12, 0, 1, 0)]) rfl) ?_
  exact xg_e ⟨rfl, rfl⟩
theorem mMostR2 : xPr d mX12_mostOf [(0, 2)] w bd fc rr [(0, 6)] w := by
  refine xPr.of ?_
  show xTo d mX12_mostOf (0, [], [(0, (0, 2))], [], (w, bd, fc, 0, 0, rr)) (xEnd 1 [(0, 6)] (w, bd, fc, 0, 0, rr))
  refine xg_t (xg_blk (b := [(0, 1, 2, 0, 0, 0), (1, 3, 7, 9, 0, 0), (4, 1, 2, 0, 0, 0), (5, 1, 3, 2, 0, 0), (6, 3, 6, 14, 1, 0)]) rfl) ?_
  refine xg_t (xg_iload (va := (0, 2)) rfl rfl) ?_
  refine xg_t (xg_ifF (u := 2) rfl xnm0 (by decide)) ?_
  refine xg_t (xg_iload (va := (0, 2)) rfl rfl) ?_
  refine xg_t (xg_const) ?_
  refine xg_t (xg_icF (u := 2) (v := 2) rfl xnm0 xnm0 (by decide)) ?_
  refine xg_t (xg_blk (b := [(9, 2, 4, 6, 0, 0), (11, 3, 8, 39, 0, 0)]) rfl) ?_
  refine xg_t (xg_bip) ?_
  refine xg_t (xg_goto) ?_
  refine xg_t (xg_blk (b := [(39, 1, 12, 0, 1, 0)]) rfl) ?_
  exact xg_e ⟨rfl, rfl⟩
theorem mMostR3 : xPr d mX12_mostOf [(0, 3)] w bd fc rr [(0, 4)] w := by
  refine xPr.of ?_
  show xTo d mX12_mostOf (0, [], [(0, (0, 3))], [], (w, bd, fc, 0, 0, rr)) (xEnd 1 [(0, 4)] (w, bd, fc, 0, 0, rr))
  refine xg_t (xg_blk (b := [(0, 1, 2, 0, 0, 0), (1, 3, 7, 9, 0, 0), (4, 1, 2, 0, 0, 0), (5, 1, 3, 2, 0, 0), (6, 3, 6, 14, 1, 0)]) rfl) ?_
  refine xg_t (xg_iload (va := (0, 3)) rfl rfl) ?_
  refine xg_t (xg_ifF (u := 3) rfl xnm0 (by decide)) ?_
  refine xg_t (xg_iload (va := (0, 3)) rfl rfl) ?_
  refine xg_t (xg_const) ?_
  refine xg_t (xg_icT (u := 3) (v := 2) rfl xnm0 xnm0 (by decide)) ?_
  refine xg_t (xg_blk (b := [(14, 1, 2, 0, 0, 0), (15, 1, 3, 1, 0, 0), (16, 3, 6, 24, 0, 0), (19, 1, 2, 0, 0, 0), (20, 1, 3, 3, 0, 0), (21, 3, 6, 28, 1, 0)]) rfl) ?_
  refine xg_t (xg_iload (va := (0, 3)) rfl rfl) ?_
  refine xg_t (xg_const) ?_
  refine xg_t (xg_icF (u := 3) (v := 1) rfl xnm0 xnm0 (by decide)) ?_
  refine xg_t (xg_iload (va := (0, 3)) rfl rfl) ?_
  refine xg_t (xg_const) ?_
  refine xg_t (xg_icF (u := 3) (v := 3) rfl xnm0 xnm0 (by decide)) ?_
  refine xg_t (xg_blk (b := [(24, 1, 3, 4, 0, 0), (25, 3, 8, 39, 0, 0)]) rfl) ?_
  refine xg_t (xg_const) ?_
  refine xg_t (xg_goto) ?_
  refine xg_t (xg_blk (b := [(39, 1, 12, 0, 1, 0)]) rfl) ?_
  exact xg_e ⟨rfl, rfl⟩
theorem mMostR4 : xPr d mX12_mostOf [(0, 4)] w bd fc rr [(0, 20)] w := by
  refine xPr.of ?_
  show xTo d mX12_mostOf (0, [], [(0, (0, 4))], [], (w, bd, fc, 0, 0, rr)) (xEnd 1 [(0, 20)] (w, bd, fc, 0, 0, rr))
  refine xg_t (xg_blk (b := [(0, 1, 2, 0, 0, 0), (1, 3, 7, 9, 0, 0), (4, 1, 2, 0, 0, 0), (5, 1, 3, 2, 0, 0), (6, 3, 6, 14, 1, 0)]) rfl) ?_
  refine xg_t (xg_iload (va := (0, 4)) rfl rfl) ?_
  refine xg_t (xg_ifF (u := 4) rfl xnm0 (by decide)) ?_
  refine xg_t (xg_iload (va := (0, 4)) rfl rfl) ?_
  refine xg_t (xg_const) ?_
  refine xg_t (xg_icT (u := 4) (v := 2) rfl xnm0 xnm0 (by decide)) ?_
  refine xg_t (xg_blk (b := [(14, 1, 2, 0, 0, 0), (15, 1, 3, 1, 0, 0), (16, 3, 6, 24, 0, 0), (19, 1, 2, 0, 0, 0), (20, 1, 3, 3, 0, 0), (21, 3, 6, 28, 1, 0)]) rfl) ?_
  refine xg_t (xg_iload (va := (0, 4)) rfl rfl) ?_
  refine xg_t (xg_const) ?_
  refine xg_t (xg_icF (u := 4) (v := 1) rfl xnm0 xnm0 (by decide)) ?_
  refine xg_t (xg_iload (va := (0, 4)) rfl rfl) ?_
  refine xg_t (xg_const) ?_
  refine xg_t (xg_icT (u := 4) (v := 3) rfl xnm0 xnm0 (by decide)) ?_
  refine xg_t (xg_blk (b := [(28, 1, 2, 0, 0, 0), (29, 1, 3, 4, 0, 0), (30, 3, 6, 38, 1, 0), (33, 2, 4, 20, 0, 0), (35, 3, 8, 39, 0, 0)]) rfl) ?_
  refine xg_t (xg_iload (va := (0, 4)) rfl rfl) ?_
  refine xg_t (xg_const) ?_
  refine xg_t (xg_icF (u := 4) (v := 4) rfl xnm0 xnm0 (by decide)) ?_
  refine xg_t (xg_bip) ?_
  refine xg_t (xg_goto) ?_
  refine xg_t (xg_blk (b := [(39, 1, 12, 0, 1, 0)]) rfl) ?_
  exact xg_e ⟨rfl, rfl⟩
theorem mMostR5 : xPr d mX12_mostOf [(0, 5)] w bd fc rr [(0, 1)] w := by
  refine xPr.of ?_
  show xTo d mX12_mostOf (0, [], [(0, (0, 5))], [], (w, bd, fc, 0, 0, rr)) (xEnd 1 [(0, 1)] (w, bd, fc, 0, 0, rr))
  refine xg_t (xg_blk (b := [(0, 1, 2, 0, 0, 0), (1, 3, 7, 9, 0, 0), (4, 1, 2, 0, 0, 0), (5, 1, 3, 2, 0, 0), (6, 3, 6, 14, 1, 0)]) rfl) ?_
  refine xg_t (xg_iload (va := (0, 5)) rfl rfl) ?_
  refine xg_t (xg_ifF (u := 5) rfl xnm0 (by decide)) ?_
  refine xg_t (xg_iload (va := (0, 5)) rfl rfl) ?_
  refine xg_t (xg_const) ?_
  refine xg_t (xg_icT (u := 5) (v := 2) rfl xnm0 xnm0 (by decide)) ?_
  refine xg_t (xg_blk (b := [(14, 1, 2, 0, 0, 0), (15, 1, 3, 1, 0, 0), (16, 3, 6, 24, 0, 0), (19, 1, 2, 0, 0, 0), (20, 1, 3, 3, 0, 0), (21, 3, 6, 28, 1, 0)]) rfl) ?_
  refine xg_t (xg_iload (va := (0, 5)) rfl rfl) ?_
  refine xg_t (xg_const) ?_
  refine xg_t (xg_icF (u := 5) (v := 1) rfl xnm0 xnm0 (by decide)) ?_
  refine xg_t (xg_iload (va := (0, 5)) rfl rfl) ?_
  refine xg_t (xg_const) ?_
  refine xg_t (xg_icT (u := 5) (v := 3) rfl xnm0 xnm0 (by decide)) ?_
  refine xg_t (xg_blk (b := [(28, 1, 2, 0, 0, 0), (29, 1, 3, 4, 0, 0), (30, 3, 6, 38, 1, 0), (33, 2, 4, 20, 0, 0), (35, 3, 8, 39, 0, 0)]) rfl) ?_
  refine xg_t (xg_iload (va := (0, 5)) rfl rfl) ?_
  refine xg_t (xg_const) ?_
  refine xg_t (xg_icT (u := 5) (v := 4) rfl xnm0 xnm0 (by decide)) ?_
  refine xg_t (xg_blk (b := [(38, 1, 3, 1, 0, 0)]) rfl) ?_
  refine xg_t (xg_const) ?_
  refine xg_t (xg_blk (b := [(39, 1, 12, 0, 1, 0)]) rfl) ?_
  exact xg_e ⟨rfl, rfl⟩
theorem mMostR6 : xPr d mX12_mostOf [(0, 6)] w bd fc rr [(0, 1)] w := by
  refine xPr.of ?_
  show xTo d mX12_mostOf (0, [], [(0, (0, 6))], [], (w, bd, fc, 0, 0, rr)) (xEnd 1 [(0, 1)] (w, bd, fc, 0, 0, rr))
  refine xg_t (xg_blk (b := [(0, 1, 2, 0, 0, 0), (1, 3, 7, 9, 0, 0), (4, 1, 2, 0, 0, 0), (5, 1, 3, 2, 0, 0), (6, 3, 6, 14, 1, 0)]) rfl) ?_
  refine xg_t (xg_iload (va := (0, 6)) rfl rfl) ?_
  refine xg_t (xg_ifF (u := 6) rfl xnm0 (by decide)) ?_
  refine xg_t (xg_iload (va := (0, 6)) rfl rfl) ?_
  refine xg_t (xg_const) ?_
  refine xg_t (xg_icT (u := 6) (v := 2) rfl xnm0 xnm0 (by decide)) ?_
  refine xg_t (xg_blk (b := [(14, 1, 2, 0, 0, 0), (15, 1, 3, 1, 0, 0), (16, 3, 6, 24, 0, 0), (19, 1, 2, 0, 0, 0), (20, 1, 3, 3, 0, 0), (21, 3, 6, 28, 1, 0)]) rfl) ?_
  refine xg_t (xg_iload (va := (0, 6)) rfl rfl) ?_
  refine xg_t (xg_const) ?_
  refine xg_t (xg_icF (u := 6) (v := 1) rfl xnm0 xnm0 (by decide)) ?_
  refine xg_t (xg_iload (va := (0, 6)) rfl rfl) ?_
  refine xg_t (xg_const) ?_
  refine xg_t (xg_icT (u := 6) (v := 3) rfl xnm0 xnm0 (by decide)) ?_
  refine xg_t (xg_blk (b := [(28, 1, 2, 0, 0, 0), (29, 1, 3, 4, 0, 0), (30, 3, 6, 38, 1, 0), (33, 2, 4, 20, 0, 0), (35, 3, 8, 39, 0, 0)]) rfl) ?_
  refine xg_t (xg_iload (va := (0, 6)) rfl rfl) ?_
  refine xg_t (xg_const) ?_
  refine xg_t (xg_icT (u := 6) (v := 4) rfl xnm0 xnm0 (by decide)) ?_
  refine xg_t (xg_blk (b := [(38, 1, 3, 1, 0, 0)]) rfl) ?_
  refine xg_t (xg_const) ?_
  refine xg_t (xg_blk (b := [(39, 1, 12, 0, 1, 0)]) rfl) ?_
  exact xg_e ⟨rfl, rfl⟩
theorem mPuts0 {kk at_ va : Nat} (hI : xMnv w) (hkk : kk ≤ 1001) (hat : at_ ≤ 9999) (hva : va ≤ 4294967295) (hin : kk < 6 → at_ < 140) : xPq (d + 1) mX12_puts [(2, 82), (0, 0), (0, kk), (0, at_), (0, va)] w bd fc rr [] (fun w' => xMnv w' ∧ xFr [86] w w' ∧ ((kk < 6 → rwv w' 86 at_ = va) ∧ ∀ j, j ≠ at_ → j < 140 → rwv w' 86 j = rwv w 86 j)) := by
  refine xPq.of ?_
  show xTo (d + 1) mX12_puts (0, [], [(0, (2, 82)), (1, (0, 0)), (2, (0, kk)), (3, (0, at_)), (4, (0, va))], [], (w, bd, fc, 0, 0, rr)) (fun φ => ∃ w', xEnd 0 [] (w', bd, fc, 0, 0, rr) φ ∧ xMnv w' ∧ xFr [86] w w' ∧ ((kk < 6 → rwv w' 86 at_ = va) ∧ ∀ j, j ≠ at_ → j < 140 → rwv w' 86 j = rwv w 86 j))
  obtain ⟨f82_1, f82_3, f82_5, f82_7, f82_9, f82_11, f82_13, f82_15, f82_17, f82_19, f82_21, f82_22, f82_23, f82_25, f82_27, f82_29, h82_31, hb2, hb4, hb6, hb8, hb10, hb12, hb14, hb16, hb18, hb20, hb24, hb26, hb28, hb30, hb32⟩ := (hI 82 (by decide) (by decide) : cp82 (wget w 82))
  replace hb4 := xHid.of hb4
  replace hb10 := xHid.of hb10
  replace hb14 := xHid.of hb14
  replace hb16 := xHid.of hb16
  replace hb20 := xHid.of hb20
  replace hb24 := xHid.of hb24
  replace hb26 := xHid.of hb26
  replace hb28 := xHid.of hb28
  replace hb30 := xHid.of hb30
  obtain ⟨g86_33, h86_34, hb35⟩ := (hI 86 (by decide) (by decide) : cpI 140 53 4294967295 (wget w 86))
  have h86_34 : xRow w 86 140 53 g86_33 := h86_34
  refine xg_t (xg_blk (b := [(0, 1, 2, 2, 0, 0), (1, 1, 2, 1, 0, 0), (2, 3, 13, 194, 98, 193), (5, 3, 6, 16, 3, 0), (8, 1, 0, 0, 0, 0), (9, 3, 1, 12, 12, 20), (12, 1, 2, 3, 0, 0), (13, 2, 2, 4, 0, 0), (15, 1, 17, 0, 0, 0)]) rfl) ?_
  refine xg_t (xg_iload (va := (0, kk)) rfl rfl) ?_
  refine xg_t (xg_iload (va := (0, 0)) rfl rfl) ?_
  refine xg_t (xg_cSr mX12_mostOf (vs := [(0, 0)]) (rest := [(0, kk)]) (rs := [(0, 6), (0, kk)]) (cn1 := 0) (sl1 := 0) rfl (mMostR0) rfl rfl rfl rfl rfl rfl rfl rfl) ?_
  by_cases hc36 : kk < 6
  · refine xg_t (xg_icF (u := kk) (v := 6) rfl xnm0 xnm0 (xj_geF hc36 (by omega))) ?_
    refine xg_t (xg_aload (va := (2, 82)) rfl rfl) ?_
    refine xg_t (xg_getf (va := (2, 86)) h82_31 rfl) ?_
    refine xg_t (xg_iload (va := (0, at_)) rfl rfl) ?_
    refine xg_t (xg_iload (va := (0, va)) rfl rfl) ?_
    refine xg_iastK (n := at_) (u := va) h86_34 xnm0 xnm0 rfl (by omega) (fun w37 hr38 hb39 => ?_)
    refine xg_t (xg_blk (b := [(16, 1, 12, 0, 0, 0)]) rfl) ?_
    exact xg_e ⟨w37, ⟨rfl, rfl⟩, xMnv.up (S := [86]) hI (xFr.of (S := [86]) hb39 (by decide)) (List.forall_mem_cons.mpr ⟨(show cpI 140 53 4294967295 (wget w37 86) from ⟨_, hr38, xrb (by omega) (hb35)⟩), fun _ h => absurd h List.not_mem_nil⟩), (xFr.of (S := [86]) hb39 (by decide)), ⟨fun _ => (rwv_of hr38 (by omega)).trans (if_pos rfl), fun j hj hl => (rwv_of hr38 hl).trans ((if_neg hj).trans (rwv_of h86_34 hl).symm)⟩⟩
  · refine xg_t (xg_icT (u := kk) (v := 6) rfl xnm0 xnm0 (xj_geT (by omega) (by omega))) ?_
    refine xg_t (xg_blk (b := [(16, 1, 12, 0, 0, 0)]) rfl) ?_
    exact xg_e ⟨w, ⟨rfl, rfl⟩, hI, xFr.rf, ⟨fun h => absurd h (by omega), fun j _ _ => rfl⟩⟩
theorem mPuts1 {kk at_ va : Nat} (hI : xMnv w) (hkk : kk ≤ 1001) (hat : at_ ≤ 9999) (hva : va ≤ 4294967295) (hin : kk < 4 → at_ < 140) : xPq (d + 1) mX12_puts [(2, 82), (0, 1), (0, kk), (0, at_), (0, va)] w bd fc rr [] (fun w' => xMnv w' ∧ xFr [86] w w' ∧ ((kk < 4 → rwv w' 86 at_ = va) ∧ ∀ j, j ≠ at_ → j < 140 → rwv w' 86 j = rwv w 86 j)) := by
  refine xPq.of ?_
  show xTo (d + 1) mX12_puts (0, [], [(0, (2, 82)), (1, (0, 1)), (2, (0, kk)), (3, (0, at_)), (4, (0, va))], [], (w, bd, fc, 0, 0, rr)) (fun φ => ∃ w', xEnd 0 [] (w', bd, fc, 0, 0, rr) φ ∧ xMnv w' ∧ xFr [86] w w' ∧ ((kk < 4 → rwv w' 86 at_ = va) ∧ ∀ j, j ≠ at_ → j < 140 → rwv w' 86 j = rwv w 86 j))
  obtain ⟨f82_1, f82_3, f82_5, f82_7, f82_9, f82_11, f82_13, f82_15, f82_17, f82_19, f82_21, f82_22, f82_23, f82_25, f82_27, f82_29, h82_31, hb2, hb4, hb6, hb8, hb10, hb12, hb14, hb16, hb18, hb20, hb24, hb26, hb28, hb30, hb32⟩ := (hI 82 (by decide) (by decide) : cp82 (wget w 82))
  replace hb4 := xHid.of hb4
  replace hb10 := xHid.of hb10
  replace hb14 := xHid.of hb14
  replace hb16 := xHid.of hb16
  replace hb20 := xHid.of hb20
  replace hb24 := xHid.of hb24
  replace hb26 := xHid.of hb26
  replace hb28 := xHid.of hb28
  replace hb30 := xHid.of hb30
  obtain ⟨g86_33, h86_34, hb35⟩ := (hI 86 (by decide) (by decide) : cpI 140 53 4294967295 (wget w 86))
  have h86_34 : xRow w 86 140 53 g86_33 := h86_34
  refine xg_t (xg_blk (b := [(0, 1, 2, 2, 0, 0), (1, 1, 2, 1, 0, 0), (2, 3, 13, 194, 98, 193), (5, 3, 6, 16, 3, 0), (8, 1, 0, 0, 0, 0), (9, 3, 1, 12, 12, 20), (12, 1, 2, 3, 0, 0), (13, 2, 2, 4, 0, 0), (15, 1, 17, 0, 0, 0)]) rfl) ?_
  refine xg_t (xg_iload (va := (0, kk)) rfl rfl) ?_
  refine xg_t (xg_iload (va := (0, 1)) rfl rfl) ?_
  refine xg_t (xg_cSr mX12_mostOf (vs := [(0, 1)]) (rest := [(0, kk)]) (rs := [(0, 4), (0, kk)]) (cn1 := 0) (sl1 := 0) rfl (mMostR1) rfl rfl rfl rfl rfl rfl rfl rfl) ?_
  by_cases hc36 : kk < 4
  · refine xg_t (xg_icF (u := kk) (v := 4) rfl xnm0 xnm0 (xj_geF hc36 (by omega))) ?_
    refine xg_t (xg_aload (va := (2, 82)) rfl rfl) ?_
    refine xg_t (xg_getf (va := (2, 86)) h82_31 rfl) ?_
    refine xg_t (xg_iload (va := (0, at_)) rfl rfl) ?_
    refine xg_t (xg_iload (va := (0, va)) rfl rfl) ?_
    refine xg_iastK (n := at_) (u := va) h86_34 xnm0 xnm0 rfl (by omega) (fun w37 hr38 hb39 => ?_)
    refine xg_t (xg_blk (b := [(16, 1, 12, 0, 0, 0)]) rfl) ?_
    exact xg_e ⟨w37, ⟨rfl, rfl⟩, xMnv.up (S := [86]) hI (xFr.of (S := [86]) hb39 (by decide)) (List.forall_mem_cons.mpr ⟨(show cpI 140 53 4294967295 (wget w37 86) from ⟨_, hr38, xrb (by omega) (hb35)⟩), fun _ h => absurd h List.not_mem_nil⟩), (xFr.of (S := [86]) hb39 (by decide)), ⟨fun _ => (rwv_of hr38 (by omega)).trans (if_pos rfl), fun j hj hl => (rwv_of hr38 hl).trans ((if_neg hj).trans (rwv_of h86_34 hl).symm)⟩⟩
  · refine xg_t (xg_icT (u := kk) (v := 4) rfl xnm0 xnm0 (xj_geT (by omega) (by omega))) ?_
    refine xg_t (xg_blk (b := [(16, 1, 12, 0, 0, 0)]) rfl) ?_
    exact xg_e ⟨w, ⟨rfl, rfl⟩, hI, xFr.rf, ⟨fun h => absurd h (by omega), fun j _ _ => rfl⟩⟩
theorem mPuts2 {kk at_ va : Nat} (hI : xMnv w) (hkk : kk ≤ 1001) (hat : at_ ≤ 9999) (hva : va ≤ 4294967295) (hin : kk < 6 → at_ < 140) : xPq (d + 1) mX12_puts [(2, 82), (0, 2), (0, kk), (0, at_), (0, va)] w bd fc rr [] (fun w' => xMnv w' ∧ xFr [86] w w' ∧ ((kk < 6 → rwv w' 86 at_ = va) ∧ ∀ j, j ≠ at_ → j < 140 → rwv w' 86 j = rwv w 86 j)) := by
  refine xPq.of ?_
  show xTo (d + 1) mX12_puts (0, [], [(0, (2, 82)), (1, (0, 2)), (2, (0, kk)), (3, (0, at_)), (4, (0, va))], [], (w, bd, fc, 0, 0, rr)) (fun φ => ∃ w', xEnd 0 [] (w', bd, fc, 0, 0, rr) φ ∧ xMnv w' ∧ xFr [86] w w' ∧ ((kk < 6 → rwv w' 86 at_ = va) ∧ ∀ j, j ≠ at_ → j < 140 → rwv w' 86 j = rwv w 86 j))
  obtain ⟨f82_1, f82_3, f82_5, f82_7, f82_9, f82_11, f82_13, f82_15, f82_17, f82_19, f82_21, f82_22, f82_23, f82_25, f82_27, f82_29, h82_31, hb2, hb4, hb6, hb8, hb10, hb12, hb14, hb16, hb18, hb20, hb24, hb26, hb28, hb30, hb32⟩ := (hI 82 (by decide) (by decide) : cp82 (wget w 82))
  replace hb4 := xHid.of hb4
  replace hb10 := xHid.of hb10
  replace hb14 := xHid.of hb14
  replace hb16 := xHid.of hb16
  replace hb20 := xHid.of hb20
  replace hb24 := xHid.of hb24
  replace hb26 := xHid.of hb26
  replace hb28 := xHid.of hb28
  replace hb30 := xHid.of hb30
  obtain ⟨g86_33, h86_34, hb35⟩ := (hI 86 (by decide) (by decide) : cpI 140 53 4294967295 (wget w 86))
  have h86_34 : xRow w 86 140 53 g86_33 := h86_34
  refine xg_t (xg_blk (b := [(0, 1, 2, 2, 0, 0), (1, 1, 2, 1, 0, 0), (2, 3, 13, 194, 98, 193), (5, 3, 6, 16, 3, 0), (8, 1, 0, 0, 0, 0), (9, 3, 1, 12, 12, 20), (12, 1, 2, 3, 0, 0), (13, 2, 2, 4, 0, 0), (15, 1, 17, 0, 0, 0)]) rfl) ?_
  refine xg_t (xg_iload (va := (0, kk)) rfl rfl) ?_
  refine xg_t (xg_iload (va := (0, 2)) rfl rfl) ?_
  refine xg_t (xg_cSr mX12_mostOf (vs := [(0, 2)]) (rest := [(0, kk)]) (rs := [(0, 6), (0, kk)]) (cn1 := 0) (sl1 := 0) rfl (mMostR2) rfl rfl rfl rfl rfl rfl rfl rfl) ?_
  by_cases hc36 : kk < 6
  · refine xg_t (xg_icF (u := kk) (v := 6) rfl xnm0 xnm0 (xj_geF hc36 (by omega))) ?_
    refine xg_t (xg_aload (va := (2, 82)) rfl rfl) ?_
    refine xg_t (xg_getf (va := (2, 86)) h82_31 rfl) ?_
    refine xg_t (xg_iload (va := (0, at_)) rfl rfl) ?_
    refine xg_t (xg_iload (va := (0, va)) rfl rfl) ?_
    refine xg_iastK (n := at_) (u := va) h86_34 xnm0 xnm0 rfl (by omega) (fun w37 hr38 hb39 => ?_)
    refine xg_t (xg_blk (b := [(16, 1, 12, 0, 0, 0)]) rfl) ?_
    exact xg_e ⟨w37, ⟨rfl, rfl⟩, xMnv.up (S := [86]) hI (xFr.of (S := [86]) hb39 (by decide)) (List.forall_mem_cons.mpr ⟨(show cpI 140 53 4294967295 (wget w37 86) from ⟨_, hr38, xrb (by omega) (hb35)⟩), fun _ h => absurd h List.not_mem_nil⟩), (xFr.of (S := [86]) hb39 (by decide)), ⟨fun _ => (rwv_of hr38 (by omega)).trans (if_pos rfl), fun j hj hl => (rwv_of hr38 hl).trans ((if_neg hj).trans (rwv_of h86_34 hl).symm)⟩⟩
  · refine xg_t (xg_icT (u := kk) (v := 6) rfl xnm0 xnm0 (xj_geT (by omega) (by omega))) ?_
    refine xg_t (xg_blk (b := [(16, 1, 12, 0, 0, 0)]) rfl) ?_
    exact xg_e ⟨w, ⟨rfl, rfl⟩, hI, xFr.rf, ⟨fun h => absurd h (by omega), fun j _ _ => rfl⟩⟩
theorem mPuts3 {kk at_ va : Nat} (hI : xMnv w) (hkk : kk ≤ 1001) (hat : at_ ≤ 9999) (hva : va ≤ 4294967295) (hin : kk < 4 → at_ < 140) : xPq (d + 1) mX12_puts [(2, 82), (0, 3), (0, kk), (0, at_), (0, va)] w bd fc rr [] (fun w' => xMnv w' ∧ xFr [86] w w' ∧ ((kk < 4 → rwv w' 86 at_ = va) ∧ ∀ j, j ≠ at_ → j < 140 → rwv w' 86 j = rwv w 86 j)) := by
  refine xPq.of ?_
  show xTo (d + 1) mX12_puts (0, [], [(0, (2, 82)), (1, (0, 3)), (2, (0, kk)), (3, (0, at_)), (4, (0, va))], [], (w, bd, fc, 0, 0, rr)) (fun φ => ∃ w', xEnd 0 [] (w', bd, fc, 0, 0, rr) φ ∧ xMnv w' ∧ xFr [86] w w' ∧ ((kk < 4 → rwv w' 86 at_ = va) ∧ ∀ j, j ≠ at_ → j < 140 → rwv w' 86 j = rwv w 86 j))
  obtain ⟨f82_1, f82_3, f82_5, f82_7, f82_9, f82_11, f82_13, f82_15, f82_17, f82_19, f82_21, f82_22, f82_23, f82_25, f82_27, f82_29, h82_31, hb2, hb4, hb6, hb8, hb10, hb12, hb14, hb16, hb18, hb20, hb24, hb26, hb28, hb30, hb32⟩ := (hI 82 (by decide) (by decide) : cp82 (wget w 82))
  replace hb4 := xHid.of hb4
  replace hb10 := xHid.of hb10
  replace hb14 := xHid.of hb14
  replace hb16 := xHid.of hb16
  replace hb20 := xHid.of hb20
  replace hb24 := xHid.of hb24
  replace hb26 := xHid.of hb26
  replace hb28 := xHid.of hb28
  replace hb30 := xHid.of hb30
  obtain ⟨g86_33, h86_34, hb35⟩ := (hI 86 (by decide) (by decide) : cpI 140 53 4294967295 (wget w 86))
  have h86_34 : xRow w 86 140 53 g86_33 := h86_34
  refine xg_t (xg_blk (b := [(0, 1, 2, 2, 0, 0), (1, 1, 2, 1, 0, 0), (2, 3, 13, 194, 98, 193), (5, 3, 6, 16, 3, 0), (8, 1, 0, 0, 0, 0), (9, 3, 1, 12, 12, 20), (12, 1, 2, 3, 0, 0), (13, 2, 2, 4, 0, 0), (15, 1, 17, 0, 0, 0)]) rfl) ?_
  refine xg_t (xg_iload (va := (0, kk)) rfl rfl) ?_
  refine xg_t (xg_iload (va := (0, 3)) rfl rfl) ?_
  refine xg_t (xg_cSr mX12_mostOf (vs := [(0, 3)]) (rest := [(0, kk)]) (rs := [(0, 4), (0, kk)]) (cn1 := 0) (sl1 := 0) rfl (mMostR3) rfl rfl rfl rfl rfl rfl rfl rfl) ?_
  by_cases hc36 : kk < 4
  · refine xg_t (xg_icF (u := kk) (v := 4) rfl xnm0 xnm0 (xj_geF hc36 (by omega))) ?_
    refine xg_t (xg_aload (va := (2, 82)) rfl rfl) ?_
    refine xg_t (xg_getf (va := (2, 86)) h82_31 rfl) ?_
    refine xg_t (xg_iload (va := (0, at_)) rfl rfl) ?_
    refine xg_t (xg_iload (va := (0, va)) rfl rfl) ?_
    refine xg_iastK (n := at_) (u := va) h86_34 xnm0 xnm0 rfl (by omega) (fun w37 hr38 hb39 => ?_)
    refine xg_t (xg_blk (b := [(16, 1, 12, 0, 0, 0)]) rfl) ?_
    exact xg_e ⟨w37, ⟨rfl, rfl⟩, xMnv.up (S := [86]) hI (xFr.of (S := [86]) hb39 (by decide)) (List.forall_mem_cons.mpr ⟨(show cpI 140 53 4294967295 (wget w37 86) from ⟨_, hr38, xrb (by omega) (hb35)⟩), fun _ h => absurd h List.not_mem_nil⟩), (xFr.of (S := [86]) hb39 (by decide)), ⟨fun _ => (rwv_of hr38 (by omega)).trans (if_pos rfl), fun j hj hl => (rwv_of hr38 hl).trans ((if_neg hj).trans (rwv_of h86_34 hl).symm)⟩⟩
  · refine xg_t (xg_icT (u := kk) (v := 4) rfl xnm0 xnm0 (xj_geT (by omega) (by omega))) ?_
    refine xg_t (xg_blk (b := [(16, 1, 12, 0, 0, 0)]) rfl) ?_
    exact xg_e ⟨w, ⟨rfl, rfl⟩, hI, xFr.rf, ⟨fun h => absurd h (by omega), fun j _ _ => rfl⟩⟩
theorem mPuts4 {kk at_ va : Nat} (hI : xMnv w) (hkk : kk ≤ 1001) (hat : at_ ≤ 9999) (hva : va ≤ 4294967295) (hin : kk < 20 → at_ < 140) : xPq (d + 1) mX12_puts [(2, 82), (0, 4), (0, kk), (0, at_), (0, va)] w bd fc rr [] (fun w' => xMnv w' ∧ xFr [86] w w' ∧ ((kk < 20 → rwv w' 86 at_ = va) ∧ ∀ j, j ≠ at_ → j < 140 → rwv w' 86 j = rwv w 86 j)) := by
  refine xPq.of ?_
  show xTo (d + 1) mX12_puts (0, [], [(0, (2, 82)), (1, (0, 4)), (2, (0, kk)), (3, (0, at_)), (4, (0, va))], [], (w, bd, fc, 0, 0, rr)) (fun φ => ∃ w', xEnd 0 [] (w', bd, fc, 0, 0, rr) φ ∧ xMnv w' ∧ xFr [86] w w' ∧ ((kk < 20 → rwv w' 86 at_ = va) ∧ ∀ j, j ≠ at_ → j < 140 → rwv w' 86 j = rwv w 86 j))
  obtain ⟨f82_1, f82_3, f82_5, f82_7, f82_9, f82_11, f82_13, f82_15, f82_17, f82_19, f82_21, f82_22, f82_23, f82_25, f82_27, f82_29, h82_31, hb2, hb4, hb6, hb8, hb10, hb12, hb14, hb16, hb18, hb20, hb24, hb26, hb28, hb30, hb32⟩ := (hI 82 (by decide) (by decide) : cp82 (wget w 82))
  replace hb4 := xHid.of hb4
  replace hb10 := xHid.of hb10
  replace hb14 := xHid.of hb14
  replace hb16 := xHid.of hb16
  replace hb20 := xHid.of hb20
  replace hb24 := xHid.of hb24
  replace hb26 := xHid.of hb26
  replace hb28 := xHid.of hb28
  replace hb30 := xHid.of hb30
  obtain ⟨g86_33, h86_34, hb35⟩ := (hI 86 (by decide) (by decide) : cpI 140 53 4294967295 (wget w 86))
  have h86_34 : xRow w 86 140 53 g86_33 := h86_34
  refine xg_t (xg_blk (b := [(0, 1, 2, 2, 0, 0), (1, 1, 2, 1, 0, 0), (2, 3, 13, 194, 98, 193), (5, 3, 6, 16, 3, 0), (8, 1, 0, 0, 0, 0), (9, 3, 1, 12, 12, 20), (12, 1, 2, 3, 0, 0), (13, 2, 2, 4, 0, 0), (15, 1, 17, 0, 0, 0)]) rfl) ?_
  refine xg_t (xg_iload (va := (0, kk)) rfl rfl) ?_
  refine xg_t (xg_iload (va := (0, 4)) rfl rfl) ?_
  refine xg_t (xg_cSr mX12_mostOf (vs := [(0, 4)]) (rest := [(0, kk)]) (rs := [(0, 20), (0, kk)]) (cn1 := 0) (sl1 := 0) rfl (mMostR4) rfl rfl rfl rfl rfl rfl rfl rfl) ?_
  by_cases hc36 : kk < 20
  · refine xg_t (xg_icF (u := kk) (v := 20) rfl xnm0 xnm0 (xj_geF hc36 (by omega))) ?_
    refine xg_t (xg_aload (va := (2, 82)) rfl rfl) ?_
    refine xg_t (xg_getf (va := (2, 86)) h82_31 rfl) ?_
    refine xg_t (xg_iload (va := (0, at_)) rfl rfl) ?_
    refine xg_t (xg_iload (va := (0, va)) rfl rfl) ?_
    refine xg_iastK (n := at_) (u := va) h86_34 xnm0 xnm0 rfl (by omega) (fun w37 hr38 hb39 => ?_)
    refine xg_t (xg_blk (b := [(16, 1, 12, 0, 0, 0)]) rfl) ?_
    exact xg_e ⟨w37, ⟨rfl, rfl⟩, xMnv.up (S := [86]) hI (xFr.of (S := [86]) hb39 (by decide)) (List.forall_mem_cons.mpr ⟨(show cpI 140 53 4294967295 (wget w37 86) from ⟨_, hr38, xrb (by omega) (hb35)⟩), fun _ h => absurd h List.not_mem_nil⟩), (xFr.of (S := [86]) hb39 (by decide)), ⟨fun _ => (rwv_of hr38 (by omega)).trans (if_pos rfl), fun j hj hl => (rwv_of hr38 hl).trans ((if_neg hj).trans (rwv_of h86_34 hl).symm)⟩⟩
  · refine xg_t (xg_icT (u := kk) (v := 20) rfl xnm0 xnm0 (xj_geT (by omega) (by omega))) ?_
    refine xg_t (xg_blk (b := [(16, 1, 12, 0, 0, 0)]) rfl) ?_
    exact xg_e ⟨w, ⟨rfl, rfl⟩, hI, xFr.rf, ⟨fun h => absurd h (by omega), fun j _ _ => rfl⟩⟩
theorem mPuts5 {kk at_ va : Nat} (hI : xMnv w) (hkk : kk ≤ 1001) (hat : at_ ≤ 9999) (hva : va ≤ 4294967295) (hin : kk < 1 → at_ < 140) : xPq (d + 1) mX12_puts [(2, 82), (0, 5), (0, kk), (0, at_), (0, va)] w bd fc rr [] (fun w' => xMnv w' ∧ xFr [86] w w' ∧ ((kk < 1 → rwv w' 86 at_ = va) ∧ ∀ j, j ≠ at_ → j < 140 → rwv w' 86 j = rwv w 86 j)) := by
  refine xPq.of ?_
  show xTo (d + 1) mX12_puts (0, [], [(0, (2, 82)), (1, (0, 5)), (2, (0, kk)), (3, (0, at_)), (4, (0, va))], [], (w, bd, fc, 0, 0, rr)) (fun φ => ∃ w', xEnd 0 [] (w', bd, fc, 0, 0, rr) φ ∧ xMnv w' ∧ xFr [86] w w' ∧ ((kk < 1 → rwv w' 86 at_ = va) ∧ ∀ j, j ≠ at_ → j < 140 → rwv w' 86 j = rwv w 86 j))
  obtain ⟨f82_1, f82_3, f82_5, f82_7, f82_9, f82_11, f82_13, f82_15, f82_17, f82_19, f82_21, f82_22, f82_23, f82_25, f82_27, f82_29, h82_31, hb2, hb4, hb6, hb8, hb10, hb12, hb14, hb16, hb18, hb20, hb24, hb26, hb28, hb30, hb32⟩ := (hI 82 (by decide) (by decide) : cp82 (wget w 82))
  replace hb4 := xHid.of hb4
  replace hb10 := xHid.of hb10
  replace hb14 := xHid.of hb14
  replace hb16 := xHid.of hb16
  replace hb20 := xHid.of hb20
  replace hb24 := xHid.of hb24
  replace hb26 := xHid.of hb26
  replace hb28 := xHid.of hb28
  replace hb30 := xHid.of hb30
  obtain ⟨g86_33, h86_34, hb35⟩ := (hI 86 (by decide) (by decide) : cpI 140 53 4294967295 (wget w 86))
  have h86_34 : xRow w 86 140 53 g86_33 := h86_34
  refine xg_t (xg_blk (b := [(0, 1, 2, 2, 0, 0), (1, 1, 2, 1, 0, 0), (2, 3, 13, 194, 98, 193), (5, 3, 6, 16, 3, 0), (8, 1, 0, 0, 0, 0), (9, 3, 1, 12, 12, 20), (12, 1, 2, 3, 0, 0), (13, 2, 2, 4, 0, 0), (15, 1, 17, 0, 0, 0)]) rfl) ?_
  refine xg_t (xg_iload (va := (0, kk)) rfl rfl) ?_
  refine xg_t (xg_iload (va := (0, 5)) rfl rfl) ?_
  refine xg_t (xg_cSr mX12_mostOf (vs := [(0, 5)]) (rest := [(0, kk)]) (rs := [(0, 1), (0, kk)]) (cn1 := 0) (sl1 := 0) rfl (mMostR5) rfl rfl rfl rfl rfl rfl rfl rfl) ?_
  by_cases hc36 : kk < 1
  · refine xg_t (xg_icF (u := kk) (v := 1) rfl xnm0 xnm0 (xj_geF hc36 (by omega))) ?_
    refine xg_t (xg_aload (va := (2, 82)) rfl rfl) ?_
    refine xg_t (xg_getf (va := (2, 86)) h82_31 rfl) ?_
    refine xg_t (xg_iload (va := (0, at_)) rfl rfl) ?_
    refine xg_t (xg_iload (va := (0, va)) rfl rfl) ?_
    refine xg_iastK (n := at_) (u := va) h86_34 xnm0 xnm0 rfl (by omega) (fun w37 hr38 hb39 => ?_)
    refine xg_t (xg_blk (b := [(16, 1, 12, 0, 0, 0)]) rfl) ?_
    exact xg_e ⟨w37, ⟨rfl, rfl⟩, xMnv.up (S := [86]) hI (xFr.of (S := [86]) hb39 (by decide)) (List.forall_mem_cons.mpr ⟨(show cpI 140 53 4294967295 (wget w37 86) from ⟨_, hr38, xrb (by omega) (hb35)⟩), fun _ h => absurd h List.not_mem_nil⟩), (xFr.of (S := [86]) hb39 (by decide)), ⟨fun _ => (rwv_of hr38 (by omega)).trans (if_pos rfl), fun j hj hl => (rwv_of hr38 hl).trans ((if_neg hj).trans (rwv_of h86_34 hl).symm)⟩⟩
  · refine xg_t (xg_icT (u := kk) (v := 1) rfl xnm0 xnm0 (xj_geT (by omega) (by omega))) ?_
    refine xg_t (xg_blk (b := [(16, 1, 12, 0, 0, 0)]) rfl) ?_
    exact xg_e ⟨w, ⟨rfl, rfl⟩, hI, xFr.rf, ⟨fun h => absurd h (by omega), fun j _ _ => rfl⟩⟩
theorem mPuts6 {kk at_ va : Nat} (hI : xMnv w) (hkk : kk ≤ 1001) (hat : at_ ≤ 9999) (hva : va ≤ 4294967295) (hin : kk < 1 → at_ < 140) : xPq (d + 1) mX12_puts [(2, 82), (0, 6), (0, kk), (0, at_), (0, va)] w bd fc rr [] (fun w' => xMnv w' ∧ xFr [86] w w' ∧ ((kk < 1 → rwv w' 86 at_ = va) ∧ ∀ j, j ≠ at_ → j < 140 → rwv w' 86 j = rwv w 86 j)) := by
  refine xPq.of ?_
  show xTo (d + 1) mX12_puts (0, [], [(0, (2, 82)), (1, (0, 6)), (2, (0, kk)), (3, (0, at_)), (4, (0, va))], [], (w, bd, fc, 0, 0, rr)) (fun φ => ∃ w', xEnd 0 [] (w', bd, fc, 0, 0, rr) φ ∧ xMnv w' ∧ xFr [86] w w' ∧ ((kk < 1 → rwv w' 86 at_ = va) ∧ ∀ j, j ≠ at_ → j < 140 → rwv w' 86 j = rwv w 86 j))
  obtain ⟨f82_1, f82_3, f82_5, f82_7, f82_9, f82_11, f82_13, f82_15, f82_17, f82_19, f82_21, f82_22, f82_23, f82_25, f82_27, f82_29, h82_31, hb2, hb4, hb6, hb8, hb10, hb12, hb14, hb16, hb18, hb20, hb24, hb26, hb28, hb30, hb32⟩ := (hI 82 (by decide) (by decide) : cp82 (wget w 82))
  replace hb4 := xHid.of hb4
  replace hb10 := xHid.of hb10
  replace hb14 := xHid.of hb14
  replace hb16 := xHid.of hb16
  replace hb20 := xHid.of hb20
  replace hb24 := xHid.of hb24
  replace hb26 := xHid.of hb26
  replace hb28 := xHid.of hb28
  replace hb30 := xHid.of hb30
  obtain ⟨g86_33, h86_34, hb35⟩ := (hI 86 (by decide) (by decide) : cpI 140 53 4294967295 (wget w 86))
  have h86_34 : xRow w 86 140 53 g86_33 := h86_34
  refine xg_t (xg_blk (b := [(0, 1, 2, 2, 0, 0), (1, 1, 2, 1, 0, 0), (2, 3, 13, 194, 98, 193), (5, 3, 6, 16, 3, 0), (8, 1, 0, 0, 0, 0), (9, 3, 1, 12, 12, 20), (12, 1, 2, 3, 0, 0), (13, 2, 2, 4, 0, 0), (15, 1, 17, 0, 0, 0)]) rfl) ?_
  refine xg_t (xg_iload (va := (0, kk)) rfl rfl) ?_
  refine xg_t (xg_iload (va := (0, 6)) rfl rfl) ?_
  refine xg_t (xg_cSr mX12_mostOf (vs := [(0, 6)]) (rest := [(0, kk)]) (rs := [(0, 1), (0, kk)]) (cn1 := 0) (sl1 := 0) rfl (mMostR6) rfl rfl rfl rfl rfl rfl rfl rfl) ?_
  by_cases hc36 : kk < 1
  · refine xg_t (xg_icF (u := kk) (v := 1) rfl xnm0 xnm0 (xj_geF hc36 (by omega))) ?_
    refine xg_t (xg_aload (va := (2, 82)) rfl rfl) ?_
    refine xg_t (xg_getf (va := (2, 86)) h82_31 rfl) ?_
    refine xg_t (xg_iload (va := (0, at_)) rfl rfl) ?_
    refine xg_t (xg_iload (va := (0, va)) rfl rfl) ?_
    refine xg_iastK (n := at_) (u := va) h86_34 xnm0 xnm0 rfl (by omega) (fun w37 hr38 hb39 => ?_)
    refine xg_t (xg_blk (b := [(16, 1, 12, 0, 0, 0)]) rfl) ?_
    exact xg_e ⟨w37, ⟨rfl, rfl⟩, xMnv.up (S := [86]) hI (xFr.of (S := [86]) hb39 (by decide)) (List.forall_mem_cons.mpr ⟨(show cpI 140 53 4294967295 (wget w37 86) from ⟨_, hr38, xrb (by omega) (hb35)⟩), fun _ h => absurd h List.not_mem_nil⟩), (xFr.of (S := [86]) hb39 (by decide)), ⟨fun _ => (rwv_of hr38 (by omega)).trans (if_pos rfl), fun j hj hl => (rwv_of hr38 hl).trans ((if_neg hj).trans (rwv_of h86_34 hl).symm)⟩⟩
  · refine xg_t (xg_icT (u := kk) (v := 1) rfl xnm0 xnm0 (xj_geT (by omega) (by omega))) ?_
    refine xg_t (xg_blk (b := [(16, 1, 12, 0, 0, 0)]) rfl) ?_
    exact xg_e ⟨w, ⟨rfl, rfl⟩, hI, xFr.rf, ⟨fun h => absurd h (by omega), fun j _ _ => rfl⟩⟩
end XMA
