section
/-! the model: texts -/
noncomputable def mu (w : List (List xE)) : Nat := 2 * (fld w 82 4 - fld w 82 5) + min 1 (fld w 82 7)
noncomputable def FA (w : List (List xE)) : Nat := rwv w 83 16
def PS (w : List (List xE)) : Prop := fld w 82 10 = 0 ∨ FA w ≠ 0
/-- row 83 as it was, but for the fault and its place -/
def K83 (w w' : List (List xE)) : Prop := ∀ j, j < 5360 → j ≠ 16 → j ≠ 17 → rwv w' 83 j = rwv w 83 j
theorem K83.rf {w : List (List xE)} : K83 w w := fun _ _ _ _ => rfl
theorem K83.tr {w1 w2 w3 : List (List xE)} (h : K83 w1 w2) (k : K83 w2 w3) : K83 w1 w3 := fun j a b c => (k j a b c).trans (h j a b c)
theorem K83.fr {S : List Nat} {w w' : List (List xE)} (h : xFr S w w') (hk : 83 ∉ S) : K83 w w' := fun j _ _ _ => by
  unfold rwv
  rw [h.1 83 hk]
theorem K83.but {c : Nat} {w w' : List (List xE)} (h : xBut c w w') (hk : 83 ≠ c) : K83 w w' := fun j _ _ _ => by
  unfold rwv
  rw [h.1 83 hk]
theorem K83.st {w w' : List (List xE)} {g g' : Nat → Nat} (h : xRow w 83 5360 50 g) (h' : xRow w' 83 5360 50 g') (hg : ∀ j, j ≠ 16 → j ≠ 17 → g' j = g j) : K83 w w' := fun j a b c => (rwv_of h' a).trans ((hg j b c).trans (rwv_of h a).symm)
def PK (w w' : List (List xE)) : Prop := (FA w ≠ 0 → FA w' ≠ 0) ∧ mu w' ≤ mu w ∧ fld w' 82 14 = fld w 82 14 ∧ PS w' ∧ K83 w w'
theorem PK.tr {w1 w2 w3 : List (List xE)} (h : PK w1 w2) (k : PK w2 w3) : PK w1 w3 := ⟨fun z => k.1 (h.1 z), Nat.le_trans k.2.1 h.2.1, k.2.2.1.trans h.2.2.1, k.2.2.2.1, h.2.2.2.2.tr k.2.2.2.2⟩
theorem PK.rf {w : List (List xE)} (h : PS w) : PK w w := ⟨fun z => z, Nat.le_refl _, rfl, h, K83.rf⟩
theorem rwv_fr {S : List Nat} {w w' : List (List xE)} {k j : Nat} (h : xFr S w w') (hk : k ∉ S) : rwv w' k j = rwv w k j := by
  unfold rwv
  rw [h.1 k hk]
theorem mu_fr {S : List Nat} {w w' : List (List xE)} (h : xFr S w w') (hk : 82 ∉ S) : mu w' = mu w := by
  unfold mu
  rw [fld_fr h hk, fld_fr h hk, fld_fr h hk]
theorem mu_cg {w w' : List (List xE)} (h4 : fld w' 82 4 = fld w 82 4) (h5 : fld w' 82 5 = fld w 82 5) (h7 : fld w' 82 7 = fld w 82 7) : mu w' = mu w := by
  unfold mu
  rw [h4, h5, h7]
theorem FA_fr {S : List Nat} {w w' : List (List xE)} (h : xFr S w w') (hk : 83 ∉ S) : FA w' = FA w := rwv_fr h hk
theorem PK.fr {S : List Nat} {w w' : List (List xE)} (h : xFr S w w') (h1 : 82 ∉ S) (h2 : 83 ∉ S) (hp : PS w) : PK w w' := by
  refine ⟨fun z => ?_, ?_, fld_fr h h1, ?_, K83.fr h h2⟩
  · rw [FA_fr h h2]; exact z
  · rw [mu_fr h h1]; exact Nat.le_refl _
  · unfold PS
    rw [FA_fr h h2, fld_fr h h1]
    exact hp
section XMA
variable {d : Nat} {w : List (List xE)} {bd : List (Nat × Nat)} {fc : List (Nat × Nat × Bool)} {rr : Nat × Nat}
theorem mLetter {cc : Nat} (hI : xMnv w) (hcc : cc ≤ 4294967295) : xPi d mX12_isLetter [(0, cc)] w bd fc rr (fun n w' => ((n = 1 ∧ 97 ≤ cc ∧ cc ≤ 122) ∨ (n = 0 ∧ ¬ (97 ≤ cc ∧ cc ≤ 122))) ∧ xMnv w' ∧ xFr [] w w') := by
  refine xPi.of ?_
  show xTo d mX12_isLetter (0, [], [(0, (0, cc))], [], (w, bd, fc, 0, 0, rr)) (fun φ => ∃ n w', xEnd 4 [(0, n)] (w', bd, fc, 0, 0, rr) φ ∧ ((n = 1 ∧ 97 ≤ cc ∧ cc ≤ 122) ∨ (n = 0 ∧ ¬ (97 ≤ cc ∧ cc ≤ 122))) ∧ xMnv w' ∧ xFr [] w w')
  refine xg_t (xg_blq rfl) ?_
  refine xg_t (xg_iload (va := (0, cc)) rfl rfl) ?_
  refine xg_t (xg_bip) ?_
  by_cases hc1 : xbs cc < xbs 97
  · have hc1u := hc1
    unfold xbs at hc1u
    refine xg_t (xg_icT (u := cc) (v := 97) rfl xnm0 xnm0 (xjs_ltT hc1)) ?_
    refine xg_t (xg_blq rfl) ?_
    refine xg_t (xg_const) ?_
    refine xg_t (xg_blq rfl) ?_
    exact xg_e ⟨0, w, ⟨rfl, rfl⟩, by first | decide | omega, hI, xFr.rf⟩
  · have hc1u := hc1
    unfold xbs at hc1u
    have hn2 : cc ≤ 2147483647 := by omega
    refine xg_t (xg_icF (u := cc) (v := 97) rfl xnm0 xnm0 (xjs_ltF hc1)) ?_
    refine xg_t (xg_iload (va := (0, cc)) rfl rfl) ?_
    refine xg_t (xg_bip) ?_
    by_cases hc3 : 122 < cc
    · refine xg_t (xg_icT (u := cc) (v := 122) rfl xnm0 xnm0 (xj_gtT hc3 (by omega))) ?_
      refine xg_t (xg_blq rfl) ?_
      refine xg_t (xg_const) ?_
      refine xg_t (xg_blq rfl) ?_
      exact xg_e ⟨0, w, ⟨rfl, rfl⟩, by first | decide | omega, hI, xFr.rf⟩
    · refine xg_t (xg_icF (u := cc) (v := 122) rfl xnm0 xnm0 (xj_gtF (by omega) (by omega))) ?_
      refine xg_t (xg_const) ?_
      refine xg_t (xg_goto) ?_
      refine xg_t (xg_blq rfl) ?_
      exact xg_e ⟨1, w, ⟨rfl, rfl⟩, by first | decide | omega, hI, xFr.rf⟩
theorem mDigit {cc : Nat} (hI : xMnv w) (hcc : cc ≤ 4294967295) : xPi d mX12_isDigit [(0, cc)] w bd fc rr (fun n w' => ((n = 1 ∧ 48 ≤ cc ∧ cc ≤ 57) ∨ (n = 0 ∧ ¬ (48 ≤ cc ∧ cc ≤ 57))) ∧ xMnv w' ∧ xFr [] w w') := by
  refine xPi.of ?_
  show xTo d mX12_isDigit (0, [], [(0, (0, cc))], [], (w, bd, fc, 0, 0, rr)) (fun φ => ∃ n w', xEnd 4 [(0, n)] (w', bd, fc, 0, 0, rr) φ ∧ ((n = 1 ∧ 48 ≤ cc ∧ cc ≤ 57) ∨ (n = 0 ∧ ¬ (48 ≤ cc ∧ cc ≤ 57))) ∧ xMnv w' ∧ xFr [] w w')
  refine xg_t (xg_blq rfl) ?_
  refine xg_t (xg_iload (va := (0, cc)) rfl rfl) ?_
  refine xg_t (xg_bip) ?_
  by_cases hc1 : xbs cc < xbs 48
  · have hc1u := hc1
    unfold xbs at hc1u
    refine xg_t (xg_icT (u := cc) (v := 48) rfl xnm0 xnm0 (xjs_ltT hc1)) ?_
    refine xg_t (xg_blq rfl) ?_
    refine xg_t (xg_const) ?_
    refine xg_t (xg_blq rfl) ?_
    exact xg_e ⟨0, w, ⟨rfl, rfl⟩, by first | decide | omega, hI, xFr.rf⟩
  · have hc1u := hc1
    unfold xbs at hc1u
    have hn2 : cc ≤ 2147483647 := by omega
    refine xg_t (xg_icF (u := cc) (v := 48) rfl xnm0 xnm0 (xjs_ltF hc1)) ?_
    refine xg_t (xg_iload (va := (0, cc)) rfl rfl) ?_
    refine xg_t (xg_bip) ?_
    by_cases hc3 : 57 < cc
    · refine xg_t (xg_icT (u := cc) (v := 57) rfl xnm0 xnm0 (xj_gtT hc3 (by omega))) ?_
      refine xg_t (xg_blq rfl) ?_
      refine xg_t (xg_const) ?_
      refine xg_t (xg_blq rfl) ?_
      exact xg_e ⟨0, w, ⟨rfl, rfl⟩, by first | decide | omega, hI, xFr.rf⟩
    · refine xg_t (xg_icF (u := cc) (v := 57) rfl xnm0 xnm0 (xj_gtF (by omega) (by omega))) ?_
      refine xg_t (xg_const) ?_
      refine xg_t (xg_goto) ?_
      refine xg_t (xg_blq rfl) ?_
      exact xg_e ⟨1, w, ⟨rfl, rfl⟩, by first | decide | omega, hI, xFr.rf⟩
theorem mSignByte {cc : Nat} (hI : xMnv w) (hcc : cc ≤ 4294967295) : xPi d mX12_isSignByte [(2, 82), (0, cc)] w bd fc rr (fun n w' => (n ≤ 1) ∧ xMnv w' ∧ xFr [] w w') := by
  refine xPi.of ?_
  show xTo d mX12_isSignByte (0, [], [(0, (2, 82)), (1, (0, cc))], [], (w, bd, fc, 0, 0, rr)) (fun φ => ∃ n w', xEnd 4 [(0, n)] (w', bd, fc, 0, 0, rr) φ ∧ (n ≤ 1) ∧ xMnv w' ∧ xFr [] w w')
  refine xoCh82 (xqc82 hI : cp82 (wget w 82)) (fun f82_1 f82_3 f82_5 f82_7 f82_9 f82_11 f82_13 f82_15 f82_17 f82_19 f82_21 f82_22 f82_23 f82_25 f82_27 f82_29 h82_31 hb2 hb4 hb6 hb8 hb10 hb12 hb14 hb16 hb18 hb20 hb24 hb26 hb28 hb30 hb32 => ?_)
  refine xg_t (xg_blq rfl) ?_
  refine xg_t (xg_iload (va := (0, cc)) rfl rfl) ?_
  refine xg_t (xg_bip) ?_
  by_cases hc33 : cc = 59
  · refine xg_t (xg_icT (u := cc) (v := 59) rfl xnm0 xnm0 (xj_eqT hc33)) ?_
    refine xg_t (xg_blq rfl) ?_
    refine xg_t (xg_const) ?_
    refine xg_t (xg_goto) ?_
    refine xg_t (xg_blq rfl) ?_
    exact xg_e ⟨1, w, ⟨rfl, rfl⟩, by first | decide | omega, hI, xFr.rf⟩
  · refine xg_t (xg_icF (u := cc) (v := 59) rfl xnm0 xnm0 (xj_eqF hc33)) ?_
    refine xg_t (xg_aload (va := (2, 82)) rfl rfl) ?_
    refine xg_t (xg_getf (va := (0, f82_1)) h82_31 rfl) ?_
    by_cases hc34 : f82_1 = 0
    · refine xg_t (xg_ifT (u := f82_1) rfl xnm0 (xj_eqT hc34)) ?_
      refine xg_t (xg_blq rfl) ?_
      refine xg_t (xg_const) ?_
      refine xg_t (xg_blq rfl) ?_
      exact xg_e ⟨0, w, ⟨rfl, rfl⟩, by first | decide | omega, hI, xFr.rf⟩
    · refine xg_t (xg_ifF (u := f82_1) rfl xnm0 (xj_eqF hc34)) ?_
      refine xg_t (xg_iload (va := (0, cc)) rfl rfl) ?_
      refine xg_t (xg_bip) ?_
      by_cases hc35 : cc = 58
      · refine xg_t (xg_icT (u := cc) (v := 58) rfl xnm0 xnm0 (xj_eqT hc35)) ?_
        refine xg_t (xg_blq rfl) ?_
        refine xg_t (xg_const) ?_
        refine xg_t (xg_goto) ?_
        refine xg_t (xg_blq rfl) ?_
        exact xg_e ⟨1, w, ⟨rfl, rfl⟩, by first | decide | omega, hI, xFr.rf⟩
      · refine xg_t (xg_icF (u := cc) (v := 58) rfl xnm0 xnm0 (xj_eqF hc35)) ?_
        refine xg_t (xg_iload (va := (0, cc)) rfl rfl) ?_
        refine xg_t (xg_bip) ?_
        by_cases hc36 : cc = 60
        · refine xg_t (xg_icT (u := cc) (v := 60) rfl xnm0 xnm0 (xj_eqT hc36)) ?_
          refine xg_t (xg_blq rfl) ?_
          refine xg_t (xg_const) ?_
          refine xg_t (xg_goto) ?_
          refine xg_t (xg_blq rfl) ?_
          exact xg_e ⟨1, w, ⟨rfl, rfl⟩, by first | decide | omega, hI, xFr.rf⟩
        · refine xg_t (xg_icF (u := cc) (v := 60) rfl xnm0 xnm0 (xj_eqF hc36)) ?_
          refine xg_t (xg_iload (va := (0, cc)) rfl rfl) ?_
          refine xg_t (xg_bip) ?_
          by_cases hc37 : cc = 62
          · refine xg_t (xg_icT (u := cc) (v := 62) rfl xnm0 xnm0 (xj_eqT hc37)) ?_
            refine xg_t (xg_blq rfl) ?_
            refine xg_t (xg_const) ?_
            refine xg_t (xg_goto) ?_
            refine xg_t (xg_blq rfl) ?_
            exact xg_e ⟨1, w, ⟨rfl, rfl⟩, by first | decide | omega, hI, xFr.rf⟩
          · refine xg_t (xg_icF (u := cc) (v := 62) rfl xnm0 xnm0 (xj_eqF hc37)) ?_
            refine xg_t (xg_iload (va := (0, cc)) rfl rfl) ?_
            refine xg_t (xg_bip) ?_
            by_cases hc38 : cc = 61
            · refine xg_t (xg_icF (u := cc) (v := 61) rfl xnm0 xnm0 (xj_neF hc38)) ?_
              refine xg_t (xg_blq rfl) ?_
              refine xg_t (xg_const) ?_
              refine xg_t (xg_goto) ?_
              refine xg_t (xg_blq rfl) ?_
              exact xg_e ⟨1, w, ⟨rfl, rfl⟩, by first | decide | omega, hI, xFr.rf⟩
            · refine xg_t (xg_icT (u := cc) (v := 61) rfl xnm0 xnm0 (xj_neT hc38)) ?_
              refine xg_t (xg_blq rfl) ?_
              refine xg_t (xg_const) ?_
              refine xg_t (xg_blq rfl) ?_
              exact xg_e ⟨0, w, ⟨rfl, rfl⟩, by first | decide | omega, hI, xFr.rf⟩
theorem mByteAt {g0 : Nat → Nat} {pp : Nat} (hI : xMnv w) (hpp : pp ≤ 500) (hR83 : xRow w 83 5360 50 g0) (hgb : ∀ j, g0 j ≤ 4294967295) (hok : okA g0) : xPi d mX12_byteAt [(2, 82), (0, pp)] w bd fc rr (fun n w' => ((pp < fld w 82 4 ∧ n = g0 (400 + pp)) ∨ (fld w 82 4 ≤ pp ∧ n = 4294967295)) ∧ xMnv w' ∧ xFr [] w w') := by
  refine xPi.of ?_
  show xTo d mX12_byteAt (0, [], [(0, (2, 82)), (1, (0, pp))], [], (w, bd, fc, 0, 0, rr)) (fun φ => ∃ n w', xEnd 1 [(0, n)] (w', bd, fc, 0, 0, rr) φ ∧ ((pp < fld w 82 4 ∧ n = g0 (400 + pp)) ∨ (fld w 82 4 ≤ pp ∧ n = 4294967295)) ∧ xMnv w' ∧ xFr [] w w')
  refine xoCh82 (xqc82 hI : cp82 (wget w 82)) (fun f82_1 f82_3 f82_5 f82_7 f82_9 f82_11 f82_13 f82_15 f82_17 f82_19 f82_21 f82_22 f82_23 f82_25 f82_27 f82_29 h82_31 hb2 hb4 hb6 hb8 hb10 hb12 hb14 hb16 hb18 hb20 hb24 hb26 hb28 hb30 hb32 => ?_)
  have hf33 : fld w 82 4 = f82_5 := fld_of h82_31
  refine xg_t (xg_blq rfl) ?_
  refine xg_t (xg_iload (va := (0, pp)) rfl rfl) ?_
  refine xg_t (xg_aload (va := (2, 82)) rfl rfl) ?_
  refine xg_t (xg_getf (va := (0, f82_5)) h82_31 rfl) ?_
  by_cases hc34 : pp < f82_5
  · refine xg_t (xg_icF (u := pp) (v := f82_5) rfl xnm0 xnm0 (xj_geF hc34 (by omega))) ?_
    refine xg_t (xg_aload (va := (2, 82)) rfl rfl) ?_
    refine xg_t (xg_getf (va := (2, 83)) h82_31 rfl) ?_
    refine xg_t (xg_sip) ?_
    refine xg_t (xg_iload (va := (0, pp)) rfl rfl) ?_
    refine xg_t (xg_iadd (u := 400) (v := pp) (z := 400 + pp) xnm0 xnm0 (by omega)) ?_
    refine xg_ialdB (n := 400 + pp) (B := 4294967295) hR83 (hgb) xnm0 (by omega) (fun u35 hu36 he37 => ?_)
    refine xg_t (xg_goto) ?_
    refine xg_t (xg_blq rfl) ?_
    exact xg_e ⟨u35, w, ⟨rfl, rfl⟩, by omega, hI, xFr.rf⟩
  · refine xg_t (xg_icT (u := pp) (v := f82_5) rfl xnm0 xnm0 (xj_geT (by omega) (by omega))) ?_
    refine xg_t (xg_blq rfl) ?_
    refine xg_t (xg_const) ?_
    refine xg_t (xg_blq rfl) ?_
    exact xg_e ⟨4294967295, w, ⟨rfl, rfl⟩, by first | decide | omega, hI, xFr.rf⟩
theorem mThree {ta tb tc : Nat} (hI : xMnv w) (hta : ta ≤ 4294967295) (htb : tb ≤ 4294967295) (htc : tc ≤ 4294967295) : xPj d mX12_three [(0, ta), (0, tb), (0, tc)] w bd fc rr (fun n w' => (n = n) ∧ xMnv w' ∧ xFr [] w w') := by
  refine xPj.of ?_
  show xTo d mX12_three (0, [], [(0, (0, ta)), (1, (0, tb)), (2, (0, tc))], [], (w, bd, fc, 0, 0, rr)) (fun φ => ∃ n w', xEnd 2 [(4, n)] (w', bd, fc, 0, 0, rr) φ ∧ (n = n) ∧ xMnv w' ∧ xFr [] w w')
  refine xg_t (xg_blq rfl) ?_
  refine xg_t (xg_ldc2) ?_
  refine xg_t (xg_iload (va := (0, ta)) rfl rfl) ?_
  refine xg_t (xg_bip) ?_
  refine xg_k (xg_isub (u := ta) (v := 96) (z := (ta + (4294967296 - 96)) % 4294967296) xnm0 xnm0 rfl) (Nat.mod_lt _ (by decide)) (fun z1 hz2 => ?_)
  refine xg_kl (xg_i2l (u := z1) xnm0) (fun l3 => ?_)
  refine xg_kl (xg_lmul (u := 32) (v := l3)) (fun l4 => ?_)
  refine xg_t (xg_iload (va := (0, tb)) rfl rfl) ?_
  refine xg_kl (xg_i2l (u := tb) xnm0) (fun l5 => ?_)
  refine xg_kl (xg_ladd (u := l4) (v := l5)) (fun l6 => ?_)
  refine xg_t (xg_ldc2) ?_
  refine xg_kl (xg_lsub (u := l6) (v := 96)) (fun l7 => ?_)
  refine xg_t (xg_ldc2) ?_
  refine xg_kl (xg_lmul (u := l7) (v := 32)) (fun l8 => ?_)
  refine xg_t (xg_iload (va := (0, tc)) rfl rfl) ?_
  refine xg_kl (xg_i2l (u := tc) xnm0) (fun l9 => ?_)
  refine xg_kl (xg_ladd (u := l8) (v := l9)) (fun l10 => ?_)
  refine xg_t (xg_ldc2) ?_
  refine xg_kl (xg_lsub (u := l10) (v := 96)) (fun l11 => ?_)
  exact xg_e ⟨l11, w, ⟨rfl, rfl⟩, by omega, hI, xFr.rf⟩
theorem mFour {ta tb tc td : Nat} (hI : xMnv w) (hta : ta ≤ 4294967295) (htb : tb ≤ 4294967295) (htc : tc ≤ 4294967295) (htd : td ≤ 4294967295) : xPj (d + 1) mX12_four [(0, ta), (0, tb), (0, tc), (0, td)] w bd fc rr (fun n w' => (n = n) ∧ xMnv w' ∧ xFr [] w w') := by
  refine xPj.of ?_
  show xTo (d + 1) mX12_four (0, [], [(0, (0, ta)), (1, (0, tb)), (2, (0, tc)), (3, (0, td))], [], (w, bd, fc, 0, 0, rr)) (fun φ => ∃ n w', xEnd 2 [(4, n)] (w', bd, fc, 0, 0, rr) φ ∧ (n = n) ∧ xMnv w' ∧ xFr [] w w')
  refine xg_t (xg_blq rfl) ?_
  refine xg_t (xg_iload (va := (0, ta)) rfl rfl) ?_
  refine xg_t (xg_iload (va := (0, tb)) rfl rfl) ?_
  refine xg_t (xg_iload (va := (0, tc)) rfl rfl) ?_
  refine xg_cSj mX12_three (vs := [(0, ta), (0, tb), (0, tc)]) (rest := []) (cn1 := 0) (sl1 := 0) rfl (mThree (hI) (by omega) (by omega) (by omega)) rfl rfl rfl rfl rfl rfl rfl (fun l5 w1 hq2 => ?_)
  obtain ⟨hn6, hI3, hF4⟩ := hq2
  refine xg_t (xg_ldc2) ?_
  refine xg_kl (xg_lmul (u := l5) (v := 32)) (fun l7 => ?_)
  refine xg_t (xg_iload (va := (0, td)) rfl rfl) ?_
  refine xg_kl (xg_i2l (u := td) xnm0) (fun l8 => ?_)
  refine xg_kl (xg_ladd (u := l7) (v := l8)) (fun l9 => ?_)
  refine xg_t (xg_ldc2) ?_
  refine xg_kl (xg_lsub (u := l9) (v := 96)) (fun l10 => ?_)
  exact xg_e ⟨l10, w1, ⟨rfl, rfl⟩, by omega, hI3, (hF4.up (by decide))⟩
theorem mFive {ta tb tc td te : Nat} (hI : xMnv w) (hta : ta ≤ 4294967295) (htb : tb ≤ 4294967295) (htc : tc ≤ 4294967295) (htd : td ≤ 4294967295) (hte : te ≤ 4294967295) : xPj (d + 2) mX12_five [(0, ta), (0, tb), (0, tc), (0, td), (0, te)] w bd fc rr (fun n w' => (n = n) ∧ xMnv w' ∧ xFr [] w w') := by
  refine xPj.of ?_
  show xTo (d + 2) mX12_five (0, [], [(0, (0, ta)), (1, (0, tb)), (2, (0, tc)), (3, (0, td)), (4, (0, te))], [], (w, bd, fc, 0, 0, rr)) (fun φ => ∃ n w', xEnd 2 [(4, n)] (w', bd, fc, 0, 0, rr) φ ∧ (n = n) ∧ xMnv w' ∧ xFr [] w w')
  refine xg_t (xg_blq rfl) ?_
  refine xg_t (xg_iload (va := (0, ta)) rfl rfl) ?_
  refine xg_t (xg_iload (va := (0, tb)) rfl rfl) ?_
  refine xg_t (xg_iload (va := (0, tc)) rfl rfl) ?_
  refine xg_t (xg_iload (va := (0, td)) rfl rfl) ?_
  refine xg_cSj mX12_four (vs := [(0, ta), (0, tb), (0, tc), (0, td)]) (rest := []) (cn1 := 0) (sl1 := 0) rfl (mFour (hI) (by omega) (by omega) (by omega) (by omega)) rfl rfl rfl rfl rfl rfl rfl (fun l5 w1 hq2 => ?_)
  obtain ⟨hn6, hI3, hF4⟩ := hq2
  refine xg_t (xg_ldc2) ?_
  refine xg_kl (xg_lmul (u := l5) (v := 32)) (fun l7 => ?_)
  refine xg_t (xg_iload (va := (0, te)) rfl rfl) ?_
  refine xg_kl (xg_i2l (u := te) xnm0) (fun l8 => ?_)
  refine xg_kl (xg_ladd (u := l7) (v := l8)) (fun l9 => ?_)
  refine xg_t (xg_ldc2) ?_
  refine xg_kl (xg_lsub (u := l9) (v := 96)) (fun l10 => ?_)
  exact xg_e ⟨l10, w1, ⟨rfl, rfl⟩, by omega, hI3, (hF4.up (by decide))⟩
theorem mSix {sa sb : Nat} (hI : xMnv w)  : xPj d mX12_six [(4, sa), (4, sb)] w bd fc rr (fun n w' => (n = n) ∧ xMnv w' ∧ xFr [] w w') := by
  refine xPj.of ?_
  show xTo d mX12_six (0, [], [(0, (4, sa)), (2, (4, sb))], [], (w, bd, fc, 0, 0, rr)) (fun φ => ∃ n w', xEnd 2 [(4, n)] (w', bd, fc, 0, 0, rr) φ ∧ (n = n) ∧ xMnv w' ∧ xFr [] w w')
  refine xg_t (xg_blq rfl) ?_
  refine xg_t (xg_lload (u := sa) rfl) ?_
  refine xg_t (xg_ldc2) ?_
  refine xg_kl (xg_lmul (u := sa) (v := 32768)) (fun l1 => ?_)
  refine xg_t (xg_lload (u := sb) rfl) ?_
  refine xg_kl (xg_ladd (u := l1) (v := sb)) (fun l2 => ?_)
  exact xg_e ⟨l2, w, ⟨rfl, rfl⟩, by omega, hI, xFr.rf⟩
theorem mWordOf {vv : Nat} (hI : xMnv w)  : xPi (d + 3) mX12_wordOf [(4, vv)] w bd fc rr (fun n w' => (n ≤ 4294967295) ∧ xMnv w' ∧ xFr [] w w') := by
  refine xPi.of ?_
  show xTo (d + 3) mX12_wordOf (0, [], [(0, (4, vv))], [], (w, bd, fc, 0, 0, rr)) (fun φ => ∃ n w', xEnd 1 [(0, n)] (w', bd, fc, 0, 0, rr) φ ∧ (n ≤ 4294967295) ∧ xMnv w' ∧ xFr [] w w')
  refine xg_t (xg_blq rfl) ?_
  refine xg_t (xg_lload (u := vv) rfl) ?_
  refine xg_t (xg_bip) ?_
  refine xg_t (xg_bip) ?_
  refine xg_t (xg_bip) ?_
  refine xg_t (xg_bip) ?_
  refine xg_t (xg_bip) ?_
  refine xg_cSj mX12_five (vs := [(0, 108), (0, 97), (0, 121), (0, 101), (0, 114)]) (rest := [(4, vv)]) (cn1 := 0) (sl1 := 0) rfl (mFive (hI) (by omega) (by omega) (by omega) (by omega) (by omega)) rfl rfl rfl rfl rfl rfl rfl (fun l5 w1 hq2 => ?_)
  obtain ⟨hn6, hI3, hF4⟩ := hq2
  refine xg_k (xg_lcmp (u := vv) (v := l5)) (xpt_lt _) (fun z7 hz8 => ?_)
  by_cases hc9 : z7 = 0
  · refine xg_t (xg_ifF (u := z7) rfl xnm0 (xj_neF hc9)) ?_
    refine xg_t (xg_const) ?_
    exact xg_e ⟨0, w1, ⟨rfl, rfl⟩, by first | decide | omega, hI3, (hF4.up (by decide))⟩
  · refine xg_t (xg_ifT (u := z7) rfl xnm0 (xj_neT hc9)) ?_
    refine xg_t (xg_blq rfl) ?_
    refine xg_t (xg_lload (u := vv) rfl) ?_
    refine xg_t (xg_bip) ?_
    refine xg_t (xg_bip) ?_
    refine xg_t (xg_bip) ?_
    refine xg_t (xg_bip) ?_
    refine xg_cSj mX12_four (vs := [(0, 108), (0, 105), (0, 102), (0, 101)]) (rest := [(4, vv)]) (cn1 := 0) (sl1 := 0) rfl (mFour (hI3) (by omega) (by omega) (by omega) (by omega)) rfl rfl rfl rfl rfl rfl rfl (fun l14 w10 hq11 => ?_)
    obtain ⟨hn15, hI12, hF13⟩ := hq11
    refine xg_k (xg_lcmp (u := vv) (v := l14)) (xpt_lt _) (fun z16 hz17 => ?_)
    by_cases hc18 : z16 = 0
    · refine xg_t (xg_ifF (u := z16) rfl xnm0 (xj_neF hc18)) ?_
      refine xg_t (xg_const) ?_
      exact xg_e ⟨1, w10, ⟨rfl, rfl⟩, by first | decide | omega, hI12, ((hF4.up (by decide)).tr (hF13.up (by decide)))⟩
    · refine xg_t (xg_ifT (u := z16) rfl xnm0 (xj_neT hc18)) ?_
      refine xg_t (xg_blq rfl) ?_
      refine xg_t (xg_lload (u := vv) rfl) ?_
      refine xg_t (xg_bip) ?_
      refine xg_t (xg_bip) ?_
      refine xg_t (xg_bip) ?_
      refine xg_t (xg_bip) ?_
      refine xg_t (xg_bip) ?_
      refine xg_cSj mX12_five (vs := [(0, 102), (0, 111), (0, 108), (0, 100), (0, 115)]) (rest := [(4, vv)]) (cn1 := 0) (sl1 := 0) rfl (mFive (hI12) (by omega) (by omega) (by omega) (by omega) (by omega)) rfl rfl rfl rfl rfl rfl rfl (fun l23 w19 hq20 => ?_)
      obtain ⟨hn24, hI21, hF22⟩ := hq20
      refine xg_k (xg_lcmp (u := vv) (v := l23)) (xpt_lt _) (fun z25 hz26 => ?_)
      by_cases hc27 : z25 = 0
      · refine xg_t (xg_ifF (u := z25) rfl xnm0 (xj_neF hc27)) ?_
        refine xg_t (xg_const) ?_
        exact xg_e ⟨2, w19, ⟨rfl, rfl⟩, by first | decide | omega, hI21, (((hF4.up (by decide)).tr (hF13.up (by decide))).tr (hF22.up (by decide)))⟩
      · refine xg_t (xg_ifT (u := z25) rfl xnm0 (xj_neT hc27)) ?_
        refine xg_t (xg_blq rfl) ?_
        refine xg_t (xg_lload (u := vv) rfl) ?_
        refine xg_t (xg_bip) ?_
        refine xg_t (xg_bip) ?_
        refine xg_t (xg_bip) ?_
        refine xg_t (xg_bip) ?_
        refine xg_t (xg_bip) ?_
        refine xg_cSj mX12_five (vs := [(0, 112), (0, 97), (0, 110), (0, 101), (0, 108)]) (rest := [(4, vv)]) (cn1 := 0) (sl1 := 0) rfl (mFive (hI21) (by omega) (by omega) (by omega) (by omega) (by omega)) rfl rfl rfl rfl rfl rfl rfl (fun l32 w28 hq29 => ?_)
        obtain ⟨hn33, hI30, hF31⟩ := hq29
        refine xg_k (xg_lcmp (u := vv) (v := l32)) (xpt_lt _) (fun z34 hz35 => ?_)
        by_cases hc36 : z34 = 0
        · refine xg_t (xg_ifF (u := z34) rfl xnm0 (xj_neF hc36)) ?_
          refine xg_t (xg_const) ?_
          exact xg_e ⟨3, w28, ⟨rfl, rfl⟩, by first | decide | omega, hI30, ((((hF4.up (by decide)).tr (hF13.up (by decide))).tr (hF22.up (by decide))).tr (hF31.up (by decide)))⟩
        · refine xg_t (xg_ifT (u := z34) rfl xnm0 (xj_neT hc36)) ?_
          refine xg_t (xg_blq rfl) ?_
          refine xg_t (xg_lload (u := vv) rfl) ?_
          refine xg_t (xg_bip) ?_
          refine xg_t (xg_bip) ?_
          refine xg_t (xg_bip) ?_
          refine xg_t (xg_bip) ?_
          refine xg_cSj mX12_four (vs := [(0, 102), (0, 108), (0, 97), (0, 119)]) (rest := [(4, vv)]) (cn1 := 0) (sl1 := 0) rfl (mFour (hI30) (by omega) (by omega) (by omega) (by omega)) rfl rfl rfl rfl rfl rfl rfl (fun l41 w37 hq38 => ?_)
          obtain ⟨hn42, hI39, hF40⟩ := hq38
          refine xg_k (xg_lcmp (u := vv) (v := l41)) (xpt_lt _) (fun z43 hz44 => ?_)
          by_cases hc45 : z43 = 0
          · refine xg_t (xg_ifF (u := z43) rfl xnm0 (xj_neF hc45)) ?_
            refine xg_t (xg_const) ?_
            exact xg_e ⟨4, w37, ⟨rfl, rfl⟩, by first | decide | omega, hI39, (((((hF4.up (by decide)).tr (hF13.up (by decide))).tr (hF22.up (by decide))).tr (hF31.up (by decide))).tr (hF40.up (by decide)))⟩
          · refine xg_t (xg_ifT (u := z43) rfl xnm0 (xj_neT hc45)) ?_
            refine xg_t (xg_blq rfl) ?_
            refine xg_t (xg_lload (u := vv) rfl) ?_
            refine xg_t (xg_bip) ?_
            refine xg_t (xg_bip) ?_
            refine xg_t (xg_bip) ?_
            refine xg_t (xg_bip) ?_
            refine xg_t (xg_bip) ?_
            refine xg_cSj mX12_five (vs := [(0, 115), (0, 104), (0, 101), (0, 101), (0, 116)]) (rest := [(4, vv)]) (cn1 := 0) (sl1 := 0) rfl (mFive (hI39) (by omega) (by omega) (by omega) (by omega) (by omega)) rfl rfl rfl rfl rfl rfl rfl (fun l50 w46 hq47 => ?_)
            obtain ⟨hn51, hI48, hF49⟩ := hq47
            refine xg_k (xg_lcmp (u := vv) (v := l50)) (xpt_lt _) (fun z52 hz53 => ?_)
            by_cases hc54 : z52 = 0
            · refine xg_t (xg_ifF (u := z52) rfl xnm0 (xj_neF hc54)) ?_
              refine xg_t (xg_const) ?_
              exact xg_e ⟨5, w46, ⟨rfl, rfl⟩, by first | decide | omega, hI48, ((((((hF4.up (by decide)).tr (hF13.up (by decide))).tr (hF22.up (by decide))).tr (hF31.up (by decide))).tr (hF40.up (by decide))).tr (hF49.up (by decide)))⟩
            · refine xg_t (xg_ifT (u := z52) rfl xnm0 (xj_neT hc54)) ?_
              refine xg_t (xg_blq rfl) ?_
              refine xg_t (xg_lload (u := vv) rfl) ?_
              refine xg_t (xg_bip) ?_
              refine xg_t (xg_bip) ?_
              refine xg_t (xg_bip) ?_
              refine xg_cSj mX12_three (vs := [(0, 110), (0, 101), (0, 116)]) (rest := [(4, vv)]) (cn1 := 0) (sl1 := 0) rfl (mThree (hI48) (by omega) (by omega) (by omega)) rfl rfl rfl rfl rfl rfl rfl (fun l59 w55 hq56 => ?_)
              obtain ⟨hn60, hI57, hF58⟩ := hq56
              refine xg_k (xg_lcmp (u := vv) (v := l59)) (xpt_lt _) (fun z61 hz62 => ?_)
              by_cases hc63 : z61 = 0
              · refine xg_t (xg_ifF (u := z61) rfl xnm0 (xj_neF hc63)) ?_
                refine xg_t (xg_bip) ?_
                exact xg_e ⟨6, w55, ⟨rfl, rfl⟩, by first | decide | omega, hI57, (((((((hF4.up (by decide)).tr (hF13.up (by decide))).tr (hF22.up (by decide))).tr (hF31.up (by decide))).tr (hF40.up (by decide))).tr (hF49.up (by decide))).tr (hF58.up (by decide)))⟩
              · refine xg_t (xg_ifT (u := z61) rfl xnm0 (xj_neT hc63)) ?_
                refine xg_t (xg_blq rfl) ?_
                refine xg_t (xg_lload (u := vv) rfl) ?_
                refine xg_t (xg_bip) ?_
                refine xg_t (xg_bip) ?_
                refine xg_t (xg_bip) ?_
                refine xg_t (xg_bip) ?_
                refine xg_cSj mX12_four (vs := [(0, 104), (0, 111), (0, 108), (0, 100)]) (rest := [(4, vv)]) (cn1 := 0) (sl1 := 0) rfl (mFour (hI57) (by omega) (by omega) (by omega) (by omega)) rfl rfl rfl rfl rfl rfl rfl (fun l68 w64 hq65 => ?_)
                obtain ⟨hn69, hI66, hF67⟩ := hq65
                refine xg_k (xg_lcmp (u := vv) (v := l68)) (xpt_lt _) (fun z70 hz71 => ?_)
                by_cases hc72 : z70 = 0
                · refine xg_t (xg_ifF (u := z70) rfl xnm0 (xj_neF hc72)) ?_
                  refine xg_t (xg_bip) ?_
                  exact xg_e ⟨7, w64, ⟨rfl, rfl⟩, by first | decide | omega, hI66, ((((((((hF4.up (by decide)).tr (hF13.up (by decide))).tr (hF22.up (by decide))).tr (hF31.up (by decide))).tr (hF40.up (by decide))).tr (hF49.up (by decide))).tr (hF58.up (by decide))).tr (hF67.up (by decide)))⟩
                · refine xg_t (xg_ifT (u := z70) rfl xnm0 (xj_neT hc72)) ?_
                  refine xg_t (xg_blq rfl) ?_
                  refine xg_t (xg_lload (u := vv) rfl) ?_
                  refine xg_t (xg_bip) ?_
                  refine xg_t (xg_bip) ?_
                  refine xg_t (xg_bip) ?_
                  refine xg_t (xg_bip) ?_
                  refine xg_t (xg_bip) ?_
                  refine xg_cSj mX12_five (vs := [(0, 115), (0, 108), (0, 105), (0, 100), (0, 101)]) (rest := [(4, vv)]) (cn1 := 0) (sl1 := 0) rfl (mFive (hI66) (by omega) (by omega) (by omega) (by omega) (by omega)) rfl rfl rfl rfl rfl rfl rfl (fun l77 w73 hq74 => ?_)
                  obtain ⟨hn78, hI75, hF76⟩ := hq74
                  refine xg_k (xg_lcmp (u := vv) (v := l77)) (xpt_lt _) (fun z79 hz80 => ?_)
                  by_cases hc81 : z79 = 0
                  · refine xg_t (xg_ifF (u := z79) rfl xnm0 (xj_neF hc81)) ?_
                    refine xg_t (xg_bip) ?_
                    exact xg_e ⟨8, w73, ⟨rfl, rfl⟩, by first | decide | omega, hI75, (((((((((hF4.up (by decide)).tr (hF13.up (by decide))).tr (hF22.up (by decide))).tr (hF31.up (by decide))).tr (hF40.up (by decide))).tr (hF49.up (by decide))).tr (hF58.up (by decide))).tr (hF67.up (by decide))).tr (hF76.up (by decide)))⟩
                  · refine xg_t (xg_ifT (u := z79) rfl xnm0 (xj_neT hc81)) ?_
                    refine xg_t (xg_blq rfl) ?_
                    refine xg_t (xg_bip) ?_
                    exact xg_e ⟨99, w73, ⟨rfl, rfl⟩, by first | decide | omega, hI75, (((((((((hF4.up (by decide)).tr (hF13.up (by decide))).tr (hF22.up (by decide))).tr (hF31.up (by decide))).tr (hF40.up (by decide))).tr (hF49.up (by decide))).tr (hF58.up (by decide))).tr (hF67.up (by decide))).tr (hF76.up (by decide)))⟩
theorem mRuleWordOf {vv : Nat} (hI : xMnv w)  : xPi (d + 3) mX12_ruleWordOf [(4, vv)] w bd fc rr (fun n w' => (n ≤ 4294967295) ∧ xMnv w' ∧ xFr [] w w') := by
  refine xPi.of ?_
  show xTo (d + 3) mX12_ruleWordOf (0, [], [(0, (4, vv))], [], (w, bd, fc, 0, 0, rr)) (fun φ => ∃ n w', xEnd 1 [(0, n)] (w', bd, fc, 0, 0, rr) φ ∧ (n ≤ 4294967295) ∧ xMnv w' ∧ xFr [] w w')
  refine xg_t (xg_blq rfl) ?_
  refine xg_t (xg_lload (u := vv) rfl) ?_
  refine xg_t (xg_bip) ?_
  refine xg_t (xg_bip) ?_
  refine xg_t (xg_bip) ?_
  refine xg_cSj mX12_three (vs := [(0, 115), (0, 108), (0, 105)]) (rest := [(4, vv)]) (cn1 := 0) (sl1 := 0) rfl (mThree (hI) (by omega) (by omega) (by omega)) rfl rfl rfl rfl rfl rfl rfl (fun l5 w1 hq2 => ?_)
  obtain ⟨hn6, hI3, hF4⟩ := hq2
  refine xg_t (xg_bip) ?_
  refine xg_t (xg_bip) ?_
  refine xg_t (xg_bip) ?_
  refine xg_cSj mX12_three (vs := [(0, 100), (0, 101), (0, 115)]) (rest := [(4, l5), (4, vv)]) (cn1 := 0) (sl1 := 0) rfl (mThree (hI3) (by omega) (by omega) (by omega)) rfl rfl rfl rfl rfl rfl rfl (fun l11 w7 hq8 => ?_)
  obtain ⟨hn12, hI9, hF10⟩ := hq8
  refine xg_cSj mX12_six (vs := [(4, l5), (4, l11)]) (rest := [(4, vv)]) (cn1 := 0) (sl1 := 0) rfl (mSix (hI9)) rfl rfl rfl rfl rfl rfl rfl (fun l17 w13 hq14 => ?_)
  obtain ⟨hn18, hI15, hF16⟩ := hq14
  refine xg_k (xg_lcmp (u := vv) (v := l17)) (xpt_lt _) (fun z19 hz20 => ?_)
  by_cases hc21 : z19 = 0
  · refine xg_t (xg_ifF (u := z19) rfl xnm0 (xj_neF hc21)) ?_
    refine xg_t (xg_bip) ?_
    exact xg_e ⟨20, w13, ⟨rfl, rfl⟩, by first | decide | omega, hI15, (((hF4.up (by decide)).tr (hF10.up (by decide))).tr (hF16.up (by decide)))⟩
  · refine xg_t (xg_ifT (u := z19) rfl xnm0 (xj_neT hc21)) ?_
    refine xg_t (xg_blq rfl) ?_
    refine xg_t (xg_lload (u := vv) rfl) ?_
    refine xg_t (xg_bip) ?_
    refine xg_t (xg_bip) ?_
    refine xg_t (xg_bip) ?_
    refine xg_t (xg_bip) ?_
    refine xg_t (xg_bip) ?_
    refine xg_cSj mX12_five (vs := [(0, 119), (0, 104), (0, 111), (0, 108), (0, 101)]) (rest := [(4, vv)]) (cn1 := 0) (sl1 := 0) rfl (mFive (hI15) (by omega) (by omega) (by omega) (by omega) (by omega)) rfl rfl rfl rfl rfl rfl rfl (fun l26 w22 hq23 => ?_)
    obtain ⟨hn27, hI24, hF25⟩ := hq23
    refine xg_k (xg_lcmp (u := vv) (v := l26)) (xpt_lt _) (fun z28 hz29 => ?_)
    by_cases hc30 : z28 = 0
    · refine xg_t (xg_ifF (u := z28) rfl xnm0 (xj_neF hc30)) ?_
      refine xg_t (xg_bip) ?_
      exact xg_e ⟨21, w22, ⟨rfl, rfl⟩, by first | decide | omega, hI24, ((((hF4.up (by decide)).tr (hF10.up (by decide))).tr (hF16.up (by decide))).tr (hF25.up (by decide)))⟩
    · refine xg_t (xg_ifT (u := z28) rfl xnm0 (xj_neT hc30)) ?_
      refine xg_t (xg_blq rfl) ?_
      refine xg_t (xg_lload (u := vv) rfl) ?_
      refine xg_t (xg_bip) ?_
      refine xg_t (xg_bip) ?_
      refine xg_t (xg_bip) ?_
      refine xg_cSj mX12_three (vs := [(0, 108), (0, 97), (0, 121)]) (rest := [(4, vv)]) (cn1 := 0) (sl1 := 0) rfl (mThree (hI24) (by omega) (by omega) (by omega)) rfl rfl rfl rfl rfl rfl rfl (fun l35 w31 hq32 => ?_)
      obtain ⟨hn36, hI33, hF34⟩ := hq32
      refine xg_t (xg_bip) ?_
      refine xg_t (xg_bip) ?_
      refine xg_t (xg_bip) ?_
      refine xg_cSj mX12_three (vs := [(0, 101), (0, 114), (0, 115)]) (rest := [(4, l35), (4, vv)]) (cn1 := 0) (sl1 := 0) rfl (mThree (hI33) (by omega) (by omega) (by omega)) rfl rfl rfl rfl rfl rfl rfl (fun l41 w37 hq38 => ?_)
      obtain ⟨hn42, hI39, hF40⟩ := hq38
      refine xg_cSj mX12_six (vs := [(4, l35), (4, l41)]) (rest := [(4, vv)]) (cn1 := 0) (sl1 := 0) rfl (mSix (hI39)) rfl rfl rfl rfl rfl rfl rfl (fun l47 w43 hq44 => ?_)
      obtain ⟨hn48, hI45, hF46⟩ := hq44
      refine xg_k (xg_lcmp (u := vv) (v := l47)) (xpt_lt _) (fun z49 hz50 => ?_)
      by_cases hc51 : z49 = 0
      · refine xg_t (xg_ifF (u := z49) rfl xnm0 (xj_neF hc51)) ?_
        refine xg_t (xg_bip) ?_
        exact xg_e ⟨22, w43, ⟨rfl, rfl⟩, by first | decide | omega, hI45, (((((((hF4.up (by decide)).tr (hF10.up (by decide))).tr (hF16.up (by decide))).tr (hF25.up (by decide))).tr (hF34.up (by decide))).tr (hF40.up (by decide))).tr (hF46.up (by decide)))⟩
      · refine xg_t (xg_ifT (u := z49) rfl xnm0 (xj_neT hc51)) ?_
        refine xg_t (xg_blq rfl) ?_
        refine xg_t (xg_lload (u := vv) rfl) ?_
        refine xg_t (xg_bip) ?_
        refine xg_t (xg_bip) ?_
        refine xg_t (xg_bip) ?_
        refine xg_t (xg_bip) ?_
        refine xg_t (xg_bip) ?_
        refine xg_cSj mX12_five (vs := [(0, 108), (0, 101), (0, 97), (0, 115), (0, 116)]) (rest := [(4, vv)]) (cn1 := 0) (sl1 := 0) rfl (mFive (hI45) (by omega) (by omega) (by omega) (by omega) (by omega)) rfl rfl rfl rfl rfl rfl rfl (fun l56 w52 hq53 => ?_)
        obtain ⟨hn57, hI54, hF55⟩ := hq53
        refine xg_k (xg_lcmp (u := vv) (v := l56)) (xpt_lt _) (fun z58 hz59 => ?_)
        by_cases hc60 : z58 = 0
        · refine xg_t (xg_ifF (u := z58) rfl xnm0 (xj_neF hc60)) ?_
          refine xg_t (xg_bip) ?_
          exact xg_e ⟨23, w52, ⟨rfl, rfl⟩, by first | decide | omega, hI54, ((((((((hF4.up (by decide)).tr (hF10.up (by decide))).tr (hF16.up (by decide))).tr (hF25.up (by decide))).tr (hF34.up (by decide))).tr (hF40.up (by decide))).tr (hF46.up (by decide))).tr (hF55.up (by decide)))⟩
        · refine xg_t (xg_ifT (u := z58) rfl xnm0 (xj_neT hc60)) ?_
          refine xg_t (xg_blq rfl) ?_
          refine xg_t (xg_lload (u := vv) rfl) ?_
          refine xg_t (xg_bip) ?_
          refine xg_t (xg_bip) ?_
          refine xg_t (xg_bip) ?_
          refine xg_t (xg_bip) ?_
          refine xg_cSj mX12_four (vs := [(0, 114), (0, 111), (0, 119), (0, 115)]) (rest := [(4, vv)]) (cn1 := 0) (sl1 := 0) rfl (mFour (hI54) (by omega) (by omega) (by omega) (by omega)) rfl rfl rfl rfl rfl rfl rfl (fun l65 w61 hq62 => ?_)
          obtain ⟨hn66, hI63, hF64⟩ := hq62
          refine xg_k (xg_lcmp (u := vv) (v := l65)) (xpt_lt _) (fun z67 hz68 => ?_)
          by_cases hc69 : z67 = 0
          · refine xg_t (xg_ifF (u := z67) rfl xnm0 (xj_neF hc69)) ?_
            refine xg_t (xg_bip) ?_
            exact xg_e ⟨24, w61, ⟨rfl, rfl⟩, by first | decide | omega, hI63, (((((((((hF4.up (by decide)).tr (hF10.up (by decide))).tr (hF16.up (by decide))).tr (hF25.up (by decide))).tr (hF34.up (by decide))).tr (hF40.up (by decide))).tr (hF46.up (by decide))).tr (hF55.up (by decide))).tr (hF64.up (by decide)))⟩
          · refine xg_t (xg_ifT (u := z67) rfl xnm0 (xj_neT hc69)) ?_
            refine xg_t (xg_blq rfl) ?_
            refine xg_t (xg_lload (u := vv) rfl) ?_
            refine xg_t (xg_bip) ?_
            refine xg_t (xg_bip) ?_
            refine xg_t (xg_bip) ?_
            refine xg_cSj mX12_three (vs := [(0, 102), (0, 101), (0, 100)]) (rest := [(4, vv)]) (cn1 := 0) (sl1 := 0) rfl (mThree (hI63) (by omega) (by omega) (by omega)) rfl rfl rfl rfl rfl rfl rfl (fun l74 w70 hq71 => ?_)
            obtain ⟨hn75, hI72, hF73⟩ := hq71
            refine xg_k (xg_lcmp (u := vv) (v := l74)) (xpt_lt _) (fun z76 hz77 => ?_)
            by_cases hc78 : z76 = 0
            · refine xg_t (xg_ifF (u := z76) rfl xnm0 (xj_neF hc78)) ?_
              refine xg_t (xg_bip) ?_
              exact xg_e ⟨25, w70, ⟨rfl, rfl⟩, by first | decide | omega, hI72, ((((((((((hF4.up (by decide)).tr (hF10.up (by decide))).tr (hF16.up (by decide))).tr (hF25.up (by decide))).tr (hF34.up (by decide))).tr (hF40.up (by decide))).tr (hF46.up (by decide))).tr (hF55.up (by decide))).tr (hF64.up (by decide))).tr (hF73.up (by decide)))⟩
            · refine xg_t (xg_ifT (u := z76) rfl xnm0 (xj_neT hc78)) ?_
              refine xg_t (xg_blq rfl) ?_
              refine xg_t (xg_lload (u := vv) rfl) ?_
              refine xg_t (xg_bip) ?_
              refine xg_t (xg_bip) ?_
              refine xg_t (xg_bip) ?_
              refine xg_t (xg_bip) ?_
              refine xg_t (xg_bip) ?_
              refine xg_cSj mX12_five (vs := [(0, 100), (0, 97), (0, 114), (0, 107), (0, 115)]) (rest := [(4, vv)]) (cn1 := 0) (sl1 := 0) rfl (mFive (hI72) (by omega) (by omega) (by omega) (by omega) (by omega)) rfl rfl rfl rfl rfl rfl rfl (fun l83 w79 hq80 => ?_)
              obtain ⟨hn84, hI81, hF82⟩ := hq80
              refine xg_k (xg_lcmp (u := vv) (v := l83)) (xpt_lt _) (fun z85 hz86 => ?_)
              by_cases hc87 : z85 = 0
              · refine xg_t (xg_ifF (u := z85) rfl xnm0 (xj_neF hc87)) ?_
                refine xg_t (xg_bip) ?_
                exact xg_e ⟨26, w79, ⟨rfl, rfl⟩, by first | decide | omega, hI81, (((((((((((hF4.up (by decide)).tr (hF10.up (by decide))).tr (hF16.up (by decide))).tr (hF25.up (by decide))).tr (hF34.up (by decide))).tr (hF40.up (by decide))).tr (hF46.up (by decide))).tr (hF55.up (by decide))).tr (hF64.up (by decide))).tr (hF73.up (by decide))).tr (hF82.up (by decide)))⟩
              · refine xg_t (xg_ifT (u := z85) rfl xnm0 (xj_neT hc87)) ?_
                refine xg_t (xg_blq rfl) ?_
                refine xg_t (xg_lload (u := vv) rfl) ?_
                refine xg_t (xg_bip) ?_
                refine xg_t (xg_bip) ?_
                refine xg_t (xg_bip) ?_
                refine xg_t (xg_bip) ?_
                refine xg_t (xg_bip) ?_
                refine xg_cSj mX12_five (vs := [(0, 119), (0, 111), (0, 114), (0, 116), (0, 104)]) (rest := [(4, vv)]) (cn1 := 0) (sl1 := 0) rfl (mFive (hI81) (by omega) (by omega) (by omega) (by omega) (by omega)) rfl rfl rfl rfl rfl rfl rfl (fun l92 w88 hq89 => ?_)
                obtain ⟨hn93, hI90, hF91⟩ := hq89
                refine xg_k (xg_lcmp (u := vv) (v := l92)) (xpt_lt _) (fun z94 hz95 => ?_)
                by_cases hc96 : z94 = 0
                · refine xg_t (xg_ifF (u := z94) rfl xnm0 (xj_neF hc96)) ?_
                  refine xg_t (xg_bip) ?_
                  exact xg_e ⟨27, w88, ⟨rfl, rfl⟩, by first | decide | omega, hI90, ((((((((((((hF4.up (by decide)).tr (hF10.up (by decide))).tr (hF16.up (by decide))).tr (hF25.up (by decide))).tr (hF34.up (by decide))).tr (hF40.up (by decide))).tr (hF46.up (by decide))).tr (hF55.up (by decide))).tr (hF64.up (by decide))).tr (hF73.up (by decide))).tr (hF82.up (by decide))).tr (hF91.up (by decide)))⟩
                · refine xg_t (xg_ifT (u := z94) rfl xnm0 (xj_neT hc96)) ?_
                  refine xg_t (xg_blq rfl) ?_
                  refine xg_t (xg_lload (u := vv) rfl) ?_
                  refine xg_t (xg_bip) ?_
                  refine xg_t (xg_bip) ?_
                  refine xg_t (xg_bip) ?_
                  refine xg_cSj mX12_three (vs := [(0, 99), (0, 114), (0, 97)]) (rest := [(4, vv)]) (cn1 := 0) (sl1 := 0) rfl (mThree (hI90) (by omega) (by omega) (by omega)) rfl rfl rfl rfl rfl rfl rfl (fun l101 w97 hq98 => ?_)
                  obtain ⟨hn102, hI99, hF100⟩ := hq98
                  refine xg_t (xg_bip) ?_
                  refine xg_t (xg_bip) ?_
                  refine xg_t (xg_bip) ?_
                  refine xg_cSj mX12_three (vs := [(0, 99), (0, 107), (0, 115)]) (rest := [(4, l101), (4, vv)]) (cn1 := 0) (sl1 := 0) rfl (mThree (hI99) (by omega) (by omega) (by omega)) rfl rfl rfl rfl rfl rfl rfl (fun l107 w103 hq104 => ?_)
                  obtain ⟨hn108, hI105, hF106⟩ := hq104
                  refine xg_cSj mX12_six (vs := [(4, l101), (4, l107)]) (rest := [(4, vv)]) (cn1 := 0) (sl1 := 0) rfl (mSix (hI105)) rfl rfl rfl rfl rfl rfl rfl (fun l113 w109 hq110 => ?_)
                  obtain ⟨hn114, hI111, hF112⟩ := hq110
                  refine xg_k (xg_lcmp (u := vv) (v := l113)) (xpt_lt _) (fun z115 hz116 => ?_)
                  by_cases hc117 : z115 = 0
                  · refine xg_t (xg_ifF (u := z115) rfl xnm0 (xj_neF hc117)) ?_
                    refine xg_t (xg_bip) ?_
                    exact xg_e ⟨28, w109, ⟨rfl, rfl⟩, by first | decide | omega, hI111, (((((((((((((((hF4.up (by decide)).tr (hF10.up (by decide))).tr (hF16.up (by decide))).tr (hF25.up (by decide))).tr (hF34.up (by decide))).tr (hF40.up (by decide))).tr (hF46.up (by decide))).tr (hF55.up (by decide))).tr (hF64.up (by decide))).tr (hF73.up (by decide))).tr (hF82.up (by decide))).tr (hF91.up (by decide))).tr (hF100.up (by decide))).tr (hF106.up (by decide))).tr (hF112.up (by decide)))⟩
                  · refine xg_t (xg_ifT (u := z115) rfl xnm0 (xj_neT hc117)) ?_
                    refine xg_t (xg_blq rfl) ?_
                    refine xg_t (xg_lload (u := vv) rfl) ?_
                    refine xg_t (xg_bip) ?_
                    refine xg_t (xg_bip) ?_
                    refine xg_t (xg_bip) ?_
                    refine xg_t (xg_bip) ?_
                    refine xg_cSj mX12_four (vs := [(0, 107), (0, 101), (0, 112), (0, 116)]) (rest := [(4, vv)]) (cn1 := 0) (sl1 := 0) rfl (mFour (hI111) (by omega) (by omega) (by omega) (by omega)) rfl rfl rfl rfl rfl rfl rfl (fun l122 w118 hq119 => ?_)
                    obtain ⟨hn123, hI120, hF121⟩ := hq119
                    refine xg_k (xg_lcmp (u := vv) (v := l122)) (xpt_lt _) (fun z124 hz125 => ?_)
                    by_cases hc126 : z124 = 0
                    · refine xg_t (xg_ifF (u := z124) rfl xnm0 (xj_neF hc126)) ?_
                      refine xg_t (xg_bip) ?_
                      exact xg_e ⟨29, w118, ⟨rfl, rfl⟩, by first | decide | omega, hI120, ((((((((((((((((hF4.up (by decide)).tr (hF10.up (by decide))).tr (hF16.up (by decide))).tr (hF25.up (by decide))).tr (hF34.up (by decide))).tr (hF40.up (by decide))).tr (hF46.up (by decide))).tr (hF55.up (by decide))).tr (hF64.up (by decide))).tr (hF73.up (by decide))).tr (hF82.up (by decide))).tr (hF91.up (by decide))).tr (hF100.up (by decide))).tr (hF106.up (by decide))).tr (hF112.up (by decide))).tr (hF121.up (by decide)))⟩
                    · refine xg_t (xg_ifT (u := z124) rfl xnm0 (xj_neT hc126)) ?_
                      refine xg_t (xg_blq rfl) ?_
                      refine xg_t (xg_lload (u := vv) rfl) ?_
                      refine xg_t (xg_bip) ?_
                      refine xg_t (xg_bip) ?_
                      refine xg_t (xg_bip) ?_
                      refine xg_cSj mX12_three (vs := [(0, 100), (0, 97), (0, 121)]) (rest := [(4, vv)]) (cn1 := 0) (sl1 := 0) rfl (mThree (hI120) (by omega) (by omega) (by omega)) rfl rfl rfl rfl rfl rfl rfl (fun l131 w127 hq128 => ?_)
                      obtain ⟨hn132, hI129, hF130⟩ := hq128
                      refine xg_k (xg_lcmp (u := vv) (v := l131)) (xpt_lt _) (fun z133 hz134 => ?_)
                      by_cases hc135 : z133 = 0
                      · refine xg_t (xg_ifF (u := z133) rfl xnm0 (xj_neF hc135)) ?_
                        refine xg_t (xg_bip) ?_
                        exact xg_e ⟨30, w127, ⟨rfl, rfl⟩, by first | decide | omega, hI129, (((((((((((((((((hF4.up (by decide)).tr (hF10.up (by decide))).tr (hF16.up (by decide))).tr (hF25.up (by decide))).tr (hF34.up (by decide))).tr (hF40.up (by decide))).tr (hF46.up (by decide))).tr (hF55.up (by decide))).tr (hF64.up (by decide))).tr (hF73.up (by decide))).tr (hF82.up (by decide))).tr (hF91.up (by decide))).tr (hF100.up (by decide))).tr (hF106.up (by decide))).tr (hF112.up (by decide))).tr (hF121.up (by decide))).tr (hF130.up (by decide)))⟩
                      · refine xg_t (xg_ifT (u := z133) rfl xnm0 (xj_neT hc135)) ?_
                        refine xg_t (xg_blq rfl) ?_
                        refine xg_t (xg_lload (u := vv) rfl) ?_
                        refine xg_t (xg_bip) ?_
                        refine xg_t (xg_bip) ?_
                        refine xg_t (xg_bip) ?_
                        refine xg_cSj mX12_three (vs := [(0, 98), (0, 97), (0, 114)]) (rest := [(4, vv)]) (cn1 := 0) (sl1 := 0) rfl (mThree (hI129) (by omega) (by omega) (by omega)) rfl rfl rfl rfl rfl rfl rfl (fun l140 w136 hq137 => ?_)
                        obtain ⟨hn141, hI138, hF139⟩ := hq137
                        refine xg_k (xg_lcmp (u := vv) (v := l140)) (xpt_lt _) (fun z142 hz143 => ?_)
                        by_cases hc144 : z142 = 0
                        · refine xg_t (xg_ifF (u := z142) rfl xnm0 (xj_neF hc144)) ?_
                          refine xg_t (xg_bip) ?_
                          exact xg_e ⟨40, w136, ⟨rfl, rfl⟩, by first | decide | omega, hI138, ((((((((((((((((((hF4.up (by decide)).tr (hF10.up (by decide))).tr (hF16.up (by decide))).tr (hF25.up (by decide))).tr (hF34.up (by decide))).tr (hF40.up (by decide))).tr (hF46.up (by decide))).tr (hF55.up (by decide))).tr (hF64.up (by decide))).tr (hF73.up (by decide))).tr (hF82.up (by decide))).tr (hF91.up (by decide))).tr (hF100.up (by decide))).tr (hF106.up (by decide))).tr (hF112.up (by decide))).tr (hF121.up (by decide))).tr (hF130.up (by decide))).tr (hF139.up (by decide)))⟩
                        · refine xg_t (xg_ifT (u := z142) rfl xnm0 (xj_neT hc144)) ?_
                          refine xg_t (xg_blq rfl) ?_
                          refine xg_t (xg_lload (u := vv) rfl) ?_
                          refine xg_t (xg_bip) ?_
                          refine xg_t (xg_bip) ?_
                          refine xg_t (xg_bip) ?_
                          refine xg_t (xg_bip) ?_
                          refine xg_t (xg_bip) ?_
                          refine xg_cSj mX12_five (vs := [(0, 112), (0, 114), (0, 105), (0, 99), (0, 101)]) (rest := [(4, vv)]) (cn1 := 0) (sl1 := 0) rfl (mFive (hI138) (by omega) (by omega) (by omega) (by omega) (by omega)) rfl rfl rfl rfl rfl rfl rfl (fun l149 w145 hq146 => ?_)
                          obtain ⟨hn150, hI147, hF148⟩ := hq146
                          refine xg_k (xg_lcmp (u := vv) (v := l149)) (xpt_lt _) (fun z151 hz152 => ?_)
                          by_cases hc153 : z151 = 0
                          · refine xg_t (xg_ifF (u := z151) rfl xnm0 (xj_neF hc153)) ?_
                            refine xg_t (xg_bip) ?_
                            exact xg_e ⟨41, w145, ⟨rfl, rfl⟩, by first | decide | omega, hI147, (((((((((((((((((((hF4.up (by decide)).tr (hF10.up (by decide))).tr (hF16.up (by decide))).tr (hF25.up (by decide))).tr (hF34.up (by decide))).tr (hF40.up (by decide))).tr (hF46.up (by decide))).tr (hF55.up (by decide))).tr (hF64.up (by decide))).tr (hF73.up (by decide))).tr (hF82.up (by decide))).tr (hF91.up (by decide))).tr (hF100.up (by decide))).tr (hF106.up (by decide))).tr (hF112.up (by decide))).tr (hF121.up (by decide))).tr (hF130.up (by decide))).tr (hF139.up (by decide))).tr (hF148.up (by decide)))⟩
                          · refine xg_t (xg_ifT (u := z151) rfl xnm0 (xj_neT hc153)) ?_
                            refine xg_t (xg_blq rfl) ?_
                            refine xg_t (xg_lload (u := vv) rfl) ?_
                            refine xg_t (xg_bip) ?_
                            refine xg_t (xg_bip) ?_
                            refine xg_t (xg_bip) ?_
                            refine xg_t (xg_bip) ?_
                            refine xg_cSj mX12_four (vs := [(0, 108), (0, 101), (0, 115), (0, 115)]) (rest := [(4, vv)]) (cn1 := 0) (sl1 := 0) rfl (mFour (hI147) (by omega) (by omega) (by omega) (by omega)) rfl rfl rfl rfl rfl rfl rfl (fun l158 w154 hq155 => ?_)
                            obtain ⟨hn159, hI156, hF157⟩ := hq155
                            refine xg_k (xg_lcmp (u := vv) (v := l158)) (xpt_lt _) (fun z160 hz161 => ?_)
                            by_cases hc162 : z160 = 0
                            · refine xg_t (xg_ifF (u := z160) rfl xnm0 (xj_neF hc162)) ?_
                              refine xg_t (xg_bip) ?_
                              exact xg_e ⟨42, w154, ⟨rfl, rfl⟩, by first | decide | omega, hI156, ((((((((((((((((((((hF4.up (by decide)).tr (hF10.up (by decide))).tr (hF16.up (by decide))).tr (hF25.up (by decide))).tr (hF34.up (by decide))).tr (hF40.up (by decide))).tr (hF46.up (by decide))).tr (hF55.up (by decide))).tr (hF64.up (by decide))).tr (hF73.up (by decide))).tr (hF82.up (by decide))).tr (hF91.up (by decide))).tr (hF100.up (by decide))).tr (hF106.up (by decide))).tr (hF112.up (by decide))).tr (hF121.up (by decide))).tr (hF130.up (by decide))).tr (hF139.up (by decide))).tr (hF148.up (by decide))).tr (hF157.up (by decide)))⟩
                            · refine xg_t (xg_ifT (u := z160) rfl xnm0 (xj_neT hc162)) ?_
                              refine xg_t (xg_blq rfl) ?_
                              refine xg_t (xg_lload (u := vv) rfl) ?_
                              refine xg_t (xg_ldc2) ?_
                              refine xg_k (xg_lcmp (u := vv) (v := 294)) (xpt_lt _) (fun z163 hz164 => ?_)
                              by_cases hc165 : z163 = 0
                              · refine xg_t (xg_ifF (u := z163) rfl xnm0 (xj_neF hc165)) ?_
                                refine xg_t (xg_bip) ?_
                                exact xg_e ⟨50, w154, ⟨rfl, rfl⟩, by first | decide | omega, hI156, ((((((((((((((((((((hF4.up (by decide)).tr (hF10.up (by decide))).tr (hF16.up (by decide))).tr (hF25.up (by decide))).tr (hF34.up (by decide))).tr (hF40.up (by decide))).tr (hF46.up (by decide))).tr (hF55.up (by decide))).tr (hF64.up (by decide))).tr (hF73.up (by decide))).tr (hF82.up (by decide))).tr (hF91.up (by decide))).tr (hF100.up (by decide))).tr (hF106.up (by decide))).tr (hF112.up (by decide))).tr (hF121.up (by decide))).tr (hF130.up (by decide))).tr (hF139.up (by decide))).tr (hF148.up (by decide))).tr (hF157.up (by decide)))⟩
                              · refine xg_t (xg_ifT (u := z163) rfl xnm0 (xj_neT hc165)) ?_
                                refine xg_t (xg_blq rfl) ?_
                                refine xg_t (xg_lload (u := vv) rfl) ?_
                                refine xg_t (xg_bip) ?_
                                refine xg_t (xg_bip) ?_
                                refine xg_t (xg_bip) ?_
                                refine xg_cSj mX12_three (vs := [(0, 97), (0, 110), (0, 100)]) (rest := [(4, vv)]) (cn1 := 0) (sl1 := 0) rfl (mThree (hI156) (by omega) (by omega) (by omega)) rfl rfl rfl rfl rfl rfl rfl (fun l170 w166 hq167 => ?_)
                                obtain ⟨hn171, hI168, hF169⟩ := hq167
                                refine xg_k (xg_lcmp (u := vv) (v := l170)) (xpt_lt _) (fun z172 hz173 => ?_)
                                by_cases hc174 : z172 = 0
                                · refine xg_t (xg_ifF (u := z172) rfl xnm0 (xj_neF hc174)) ?_
                                  refine xg_t (xg_bip) ?_
                                  exact xg_e ⟨51, w166, ⟨rfl, rfl⟩, by first | decide | omega, hI168, (((((((((((((((((((((hF4.up (by decide)).tr (hF10.up (by decide))).tr (hF16.up (by decide))).tr (hF25.up (by decide))).tr (hF34.up (by decide))).tr (hF40.up (by decide))).tr (hF46.up (by decide))).tr (hF55.up (by decide))).tr (hF64.up (by decide))).tr (hF73.up (by decide))).tr (hF82.up (by decide))).tr (hF91.up (by decide))).tr (hF100.up (by decide))).tr (hF106.up (by decide))).tr (hF112.up (by decide))).tr (hF121.up (by decide))).tr (hF130.up (by decide))).tr (hF139.up (by decide))).tr (hF148.up (by decide))).tr (hF157.up (by decide))).tr (hF169.up (by decide)))⟩
                                · refine xg_t (xg_ifT (u := z172) rfl xnm0 (xj_neT hc174)) ?_
                                  refine xg_t (xg_blq rfl) ?_
                                  refine xg_t (xg_lload (u := vv) rfl) ?_
                                  refine xg_t (xg_bip) ?_
                                  refine xg_t (xg_bip) ?_
                                  refine xg_t (xg_bip) ?_
                                  refine xg_cSj mX12_three (vs := [(0, 110), (0, 111), (0, 116)]) (rest := [(4, vv)]) (cn1 := 0) (sl1 := 0) rfl (mThree (hI168) (by omega) (by omega) (by omega)) rfl rfl rfl rfl rfl rfl rfl (fun l179 w175 hq176 => ?_)
                                  obtain ⟨hn180, hI177, hF178⟩ := hq176
                                  refine xg_k (xg_lcmp (u := vv) (v := l179)) (xpt_lt _) (fun z181 hz182 => ?_)
                                  by_cases hc183 : z181 = 0
                                  · refine xg_t (xg_ifF (u := z181) rfl xnm0 (xj_neF hc183)) ?_
                                    refine xg_t (xg_bip) ?_
                                    exact xg_e ⟨52, w175, ⟨rfl, rfl⟩, by first | decide | omega, hI177, ((((((((((((((((((((((hF4.up (by decide)).tr (hF10.up (by decide))).tr (hF16.up (by decide))).tr (hF25.up (by decide))).tr (hF34.up (by decide))).tr (hF40.up (by decide))).tr (hF46.up (by decide))).tr (hF55.up (by decide))).tr (hF64.up (by decide))).tr (hF73.up (by decide))).tr (hF82.up (by decide))).tr (hF91.up (by decide))).tr (hF100.up (by decide))).tr (hF106.up (by decide))).tr (hF112.up (by decide))).tr (hF121.up (by decide))).tr (hF130.up (by decide))).tr (hF139.up (by decide))).tr (hF148.up (by decide))).tr (hF157.up (by decide))).tr (hF169.up (by decide))).tr (hF178.up (by decide)))⟩
                                  · refine xg_t (xg_ifT (u := z181) rfl xnm0 (xj_neT hc183)) ?_
                                    refine xg_t (xg_blq rfl) ?_
                                    refine xg_t (xg_bip) ?_
                                    exact xg_e ⟨99, w175, ⟨rfl, rfl⟩, by first | decide | omega, hI177, ((((((((((((((((((((((hF4.up (by decide)).tr (hF10.up (by decide))).tr (hF16.up (by decide))).tr (hF25.up (by decide))).tr (hF34.up (by decide))).tr (hF40.up (by decide))).tr (hF46.up (by decide))).tr (hF55.up (by decide))).tr (hF64.up (by decide))).tr (hF73.up (by decide))).tr (hF82.up (by decide))).tr (hF91.up (by decide))).tr (hF100.up (by decide))).tr (hF106.up (by decide))).tr (hF112.up (by decide))).tr (hF121.up (by decide))).tr (hF130.up (by decide))).tr (hF139.up (by decide))).tr (hF148.up (by decide))).tr (hF157.up (by decide))).tr (hF169.up (by decide))).tr (hF178.up (by decide)))⟩
theorem mAdvance (hI : xMnv w)  : xPq (d + 4) mX12_advance [(2, 82)] w bd fc rr [] (fun w' => xMnv w' ∧ xFr [82] w w' ∧ (mu w' ≤ mu w ∧ (fld w 82 7 ≠ 0 → mu w' < mu w) ∧ fld w' 82 10 = fld w 82 10 ∧ fld w' 82 14 = fld w 82 14)) := by
  refine xPq.of ?_
  show xTo (d + 4) mX12_advance (0, [], [(0, (2, 82))], [], (w, bd, fc, 0, 0, rr)) (fun φ => ∃ w', xEnd 0 [] (w', bd, fc, 0, 0, rr) φ ∧ xMnv w' ∧ xFr [82] w w' ∧ (mu w' ≤ mu w ∧ (fld w 82 7 ≠ 0 → mu w' < mu w) ∧ fld w' 82 10 = fld w 82 10 ∧ fld w' 82 14 = fld w 82 14))
  refine xoCh82 (xqc82 hI : cp82 (wget w 82)) (fun f82_1 f82_3 f82_5 f82_7 f82_9 f82_11 f82_13 f82_15 f82_17 f82_19 f82_21 f82_22 f82_23 f82_25 f82_27 f82_29 h82_31 hb2 hb4 hb6 hb8 hb10 hb12 hb14 hb16 hb18 hb20 hb24 hb26 hb28 hb30 hb32 => ?_)
  refine xoX83 (xqc83 hI : cpx83 (wget w 83)) (fun g83_33 h83_34 hb35 hx36 => ?_)
  have hf37 : fld w 82 4 = f82_5 := fld_of h82_31
  have hf38 : fld w 82 5 = f82_7 := fld_of h82_31
  have hf39 : fld w 82 7 = f82_11 := fld_of h82_31
  have hf40 : fld w 82 10 = f82_17 := fld_of h82_31
  have hf41 : fld w 82 14 = f82_19 := fld_of h82_31
  have key42 : ∀ (m44 : Nat) (ir0 sg0 sz0 nx0 wr0 tk0 nu0 wo0 wg0 ln0 pt0 wh0 me0 mt0 pl0 ps0 : Nat) (w45 : List (List xE)), 500 - nx0 < m44 → ir0 ≤ 1 → sg0 ≤ 4294967295 → sz0 ≤ 500 → nx0 ≤ 500 → wr0 ≤ 4294967295 → tk0 ≤ 4 → nu0 ≤ 4294967295 → wo0 ≤ 4294967295 → wg0 ≤ 1 → ln0 ≤ 4294967295 → me0 ≤ 4294967295 → mt0 ≤ 36 → pl0 ≤ 100 → ps0 ≤ 200 → wget w45 82 = some (.inl (12, [(2, 83), (2, 84), (0, ir0), (0, sg0), (0, sz0), (0, nx0), (0, wr0), (0, tk0), (0, nu0), (0, wo0), (0, wg0), (2, 85), (2, 86), (2, 87), (0, ln0), (2, 88), (2, 89), (2, 90), (2, 91), (2, 92), (2, 93), (2, 94), (4, pt0), (4, wh0), (0, me0), (2, 95), (2, 96), (2, 97), (2, 98), (2, 99), (2, 100), (2, 101), (2, 102), (0, mt0), (2, 103), (2, 104), (2, 105), (2, 106), (2, 107), (2, 108), (2, 109), (0, pl0), (0, ps0), (2, 110), (2, 111), (2, 112), (2, 113)])) → (nx0 ≤ sz0) → xMnv w45 → xFr [82] w w45 → (sz0 = f82_5 ∧ f82_7 ≤ nx0 ∧ wg0 = f82_17 ∧ ln0 = f82_19 ∧ tk0 = f82_11) → xTo (d + 4) mX12_advance (0, [], [(0, (2, 82))], [], (w45, bd, fc, 0, 0, rr)) (fun φ => ∃ w', xEnd 0 [] (w', bd, fc, 0, 0, rr) φ ∧ xMnv w' ∧ xFr [82] w w' ∧ (mu w' ≤ mu w ∧ (fld w 82 7 ≠ 0 → mu w' < mu w) ∧ fld w' 82 10 = fld w 82 10 ∧ fld w' 82 14 = fld w 82 14)) := by
    intro m44
    induction m44 with
    | zero => intro ir0 sg0 sz0 nx0 wr0 tk0 nu0 wo0 wg0 ln0 pt0 wh0 me0 mt0 pl0 ps0 w45 hz; exact absurd hz (Nat.not_lt_zero _)
    | succ m44 ih43 =>
      intro ir0 sg0 sz0 nx0 wr0 tk0 nu0 wo0 wg0 ln0 pt0 wh0 me0 mt0 pl0 ps0 w45 hm65 hn48 hn49 hn50 hn51 hn52 hn53 hn54 hn55 hn56 hn57 hn58 hn59 hn60 hn61 hcl62 hx63 hI46 hF47 he64
      replace hn49 := xHid.of hn49
      replace hn52 := xHid.of hn52
      replace hn54 := xHid.of hn54
      replace hn55 := xHid.of hn55
      replace hn57 := xHid.of hn57
      replace hn58 := xHid.of hn58
      replace hn59 := xHid.of hn59
      replace hn60 := xHid.of hn60
      replace hn61 := xHid.of hn61
      refine xg_t (xg_blq rfl) ?_
      refine xg_t (xg_aload (va := (2, 82)) rfl rfl) ?_
      refine xg_t (xg_aload (va := (2, 82)) rfl rfl) ?_
      refine xg_t (xg_getf (va := (0, nx0)) hcl62 rfl) ?_
      have hf66 : fld w45 82 4 = sz0 := fld_of hcl62
      refine xg_cVi mX12_byteAt (vs := [(0, nx0)]) (rest := []) (cn1 := 0) (sl1 := 0) rfl (mByteAt (hI46) (by omega) (h83_34.fr hF47 (by decide)) hb35 hx36) rfl hcl62 rfl rfl rfl rfl rfl rfl (fun n71 w67 hq68 => ?_)
      obtain ⟨hn72, hI69, hF70⟩ := hq68
      have hl73 : n71 ≤ 4294967295 := by have q := hn72; have q2 := hb35 (400 + nx0); omega
      refine xg_t (xg_bip) ?_
      by_cases hc74 : n71 = 10
      · refine xg_t (xg_icT (u := n71) (v := 10) rfl xnm0 xnm0 (xj_eqT hc74)) ?_
        refine xg_t (xg_blq rfl) ?_
        refine xg_t (xg_aload (va := (2, 82)) rfl rfl) ?_
        refine xg_t (xg_dup rfl) ?_
        refine xg_t (xg_getf (va := (0, nx0)) (hF70.get (by decide) hcl62) rfl) ?_
        refine xg_t (xg_const) ?_
        refine xg_t (xg_iadd (u := nx0) (v := 1) (z := nx0 + 1) xnm0 xnm0 (by omega)) ?_
        refine xg_putI (fl1 := [(2, 83), (2, 84), (0, ir0), (0, sg0), (0, sz0), (0, nx0 + 1), (0, wr0), (0, tk0), (0, nu0), (0, wo0), (0, wg0), (2, 85), (2, 86), (2, 87), (0, ln0), (2, 88), (2, 89), (2, 90), (2, 91), (2, 92), (2, 93), (2, 94), (4, pt0), (4, wh0), (0, me0), (2, 95), (2, 96), (2, 97), (2, 98), (2, 99), (2, 100), (2, 101), (2, 102), (0, mt0), (2, 103), (2, 104), (2, 105), (2, 106), (2, 107), (2, 108), (2, 109), (0, pl0), (0, ps0), (2, 110), (2, 111), (2, 112), (2, 113)]) (hF70.get (by decide) hcl62) rfl rfl rfl (fun w75 hk76 hb77 => ?_)
        refine xg_t (xg_goto) ?_
        exact ih43 ir0 sg0 sz0 (nx0 + 1) wr0 tk0 nu0 wo0 wg0 ln0 pt0 wh0 me0 mt0 pl0 ps0 w75 (by omega) (hn48) (hn49) (hn50) (by omega) (hn52) (hn53) (hn54) (hn55) (hn56) (hn57) (hn58) (hn59) (hn60) (hn61) hk76 (by omega) (xMnv.up (S := [82]) hI69 (xFr.of (S := [82]) hb77 (by decide)) (List.forall_mem_cons.mpr ⟨xqu82 (show cp82 (wget w75 82) from xmC82 ir0 sg0 sz0 (nx0 + 1) wr0 tk0 nu0 wo0 wg0 ln0 pt0 wh0 me0 mt0 pl0 ps0 hk76 hn48 hn49 hn50 (by omega) hn52 hn53 hn54 hn55 hn56 hn57 hn58 hn59 hn60 hn61 (by omega)), fun _ h => absurd h List.not_mem_nil⟩)) (((hF47.tr (hF70.up (by decide))).tr (xFr.of (S := [82]) hb77 (by decide)))) (by omega)
      · refine xg_t (xg_icF (u := n71) (v := 10) rfl xnm0 xnm0 (xj_eqF hc74)) ?_
        refine xg_t (xg_aload (va := (2, 82)) rfl rfl) ?_
        refine xg_t (xg_aload (va := (2, 82)) rfl rfl) ?_
        refine xg_t (xg_getf (va := (0, nx0)) (hF70.get (by decide) hcl62) rfl) ?_
        have hf78 : fld w67 82 4 = sz0 := fld_of (hF70.get (by decide) hcl62)
        refine xg_cVi mX12_byteAt (vs := [(0, nx0)]) (rest := []) (cn1 := 0) (sl1 := 0) rfl (mByteAt (hI69) (by omega) ((h83_34.fr hF47 (by decide)).fr hF70 (by decide)) hb35 hx36) rfl (hF70.get (by decide) hcl62) rfl rfl rfl rfl rfl rfl (fun n83 w79 hq80 => ?_)
        obtain ⟨hn84, hI81, hF82⟩ := hq80
        have hl85 : n83 ≤ 4294967295 := by have q := hn84; have q2 := hb35 (400 + nx0); omega
        refine xg_t (xg_bip) ?_
        by_cases hc86 : n83 = 32
        · refine xg_t (xg_icF (u := n83) (v := 32) rfl xnm0 xnm0 (xj_neF hc86)) ?_
          refine xg_t (xg_blq rfl) ?_
          refine xg_t (xg_aload (va := (2, 82)) rfl rfl) ?_
          refine xg_t (xg_dup rfl) ?_
          refine xg_t (xg_getf (va := (0, nx0)) (hF82.get (by decide) (hF70.get (by decide) hcl62)) rfl) ?_
          refine xg_t (xg_const) ?_
          refine xg_t (xg_iadd (u := nx0) (v := 1) (z := nx0 + 1) xnm0 xnm0 (by omega)) ?_
          refine xg_putI (fl1 := [(2, 83), (2, 84), (0, ir0), (0, sg0), (0, sz0), (0, nx0 + 1), (0, wr0), (0, tk0), (0, nu0), (0, wo0), (0, wg0), (2, 85), (2, 86), (2, 87), (0, ln0), (2, 88), (2, 89), (2, 90), (2, 91), (2, 92), (2, 93), (2, 94), (4, pt0), (4, wh0), (0, me0), (2, 95), (2, 96), (2, 97), (2, 98), (2, 99), (2, 100), (2, 101), (2, 102), (0, mt0), (2, 103), (2, 104), (2, 105), (2, 106), (2, 107), (2, 108), (2, 109), (0, pl0), (0, ps0), (2, 110), (2, 111), (2, 112), (2, 113)]) (hF82.get (by decide) (hF70.get (by decide) hcl62)) rfl rfl rfl (fun w87 hk88 hb89 => ?_)
          refine xg_t (xg_goto) ?_
          exact ih43 ir0 sg0 sz0 (nx0 + 1) wr0 tk0 nu0 wo0 wg0 ln0 pt0 wh0 me0 mt0 pl0 ps0 w87 (by omega) (hn48) (hn49) (hn50) (by omega) (hn52) (hn53) (hn54) (hn55) (hn56) (hn57) (hn58) (hn59) (hn60) (hn61) hk88 (by omega) (xMnv.up (S := [82]) hI81 (xFr.of (S := [82]) hb89 (by decide)) (List.forall_mem_cons.mpr ⟨xqu82 (show cp82 (wget w87 82) from xmC82 ir0 sg0 sz0 (nx0 + 1) wr0 tk0 nu0 wo0 wg0 ln0 pt0 wh0 me0 mt0 pl0 ps0 hk88 hn48 hn49 hn50 (by omega) hn52 hn53 hn54 hn55 hn56 hn57 hn58 hn59 hn60 hn61 (by omega)), fun _ h => absurd h List.not_mem_nil⟩)) ((((hF47.tr (hF70.up (by decide))).tr (hF82.up (by decide))).tr (xFr.of (S := [82]) hb89 (by decide)))) (by omega)
        · refine xg_t (xg_icT (u := n83) (v := 32) rfl xnm0 xnm0 (xj_neT hc86)) ?_
          refine xg_t (xg_blq rfl) ?_
          refine xg_t (xg_aload (va := (2, 82)) rfl rfl) ?_
          refine xg_t (xg_aload (va := (2, 82)) rfl rfl) ?_
          refine xg_t (xg_getf (va := (0, nx0)) (hF82.get (by decide) (hF70.get (by decide) hcl62)) rfl) ?_
          refine xg_putI (fl1 := [(2, 83), (2, 84), (0, ir0), (0, sg0), (0, sz0), (0, nx0), (0, nx0), (0, tk0), (0, nu0), (0, wo0), (0, wg0), (2, 85), (2, 86), (2, 87), (0, ln0), (2, 88), (2, 89), (2, 90), (2, 91), (2, 92), (2, 93), (2, 94), (4, pt0), (4, wh0), (0, me0), (2, 95), (2, 96), (2, 97), (2, 98), (2, 99), (2, 100), (2, 101), (2, 102), (0, mt0), (2, 103), (2, 104), (2, 105), (2, 106), (2, 107), (2, 108), (2, 109), (0, pl0), (0, ps0), (2, 110), (2, 111), (2, 112), (2, 113)]) (hF82.get (by decide) (hF70.get (by decide) hcl62)) rfl rfl rfl (fun w90 hk91 hb92 => ?_)
          refine xg_t (xg_aload (va := (2, 82)) rfl rfl) ?_
          refine xg_t (xg_aload (va := (2, 82)) rfl rfl) ?_
          refine xg_t (xg_getf (va := (0, nx0)) hk91 rfl) ?_
          have hf93 : fld w90 82 4 = sz0 := fld_of hk91
          refine xg_cVi mX12_byteAt (vs := [(0, nx0)]) (rest := []) (cn1 := 0) (sl1 := 0) rfl (mByteAt (xMnv.up (S := [82]) hI81 (xFr.of (S := [82]) hb92 (by decide)) (List.forall_mem_cons.mpr ⟨xqu82 (show cp82 (wget w90 82) from xmC82 ir0 sg0 sz0 nx0 nx0 tk0 nu0 wo0 wg0 ln0 pt0 wh0 me0 mt0 pl0 ps0 hk91 hn48 hn49 hn50 hn51 (by omega) hn53 hn54 hn55 hn56 hn57 hn58 hn59 hn60 hn61 (by omega)), fun _ h => absurd h List.not_mem_nil⟩)) (by omega) ((((h83_34.fr hF47 (by decide)).fr hF70 (by decide)).fr hF82 (by decide)).but hb92 (by decide)) hb35 hx36) rfl hk91 rfl rfl rfl rfl rfl rfl (fun n98 w94 hq95 => ?_)
          obtain ⟨hn99, hI96, hF97⟩ := hq95
          have hl100 : n98 ≤ 4294967295 := by have q := hn99; have q2 := hb35 (400 + nx0); omega
          refine xg_t (xg_istore (l1 := [(0, (2, 82))]) rfl rfl rfl) ?_
          refine xg_t (xg_iload (va := (0, n98)) rfl rfl) ?_
          by_cases hc101 : n98 < 2147483648
          · refine xg_t (xg_ifT (u := n98) rfl xnm0 (xjz_geT hc101)) ?_
            refine xg_t (xg_blq rfl) ?_
            refine xg_t (xg_iload (va := (0, n98)) rfl rfl) ?_
            refine xg_cSi mX12_isLetter (vs := [(0, n98)]) (rest := []) (cn1 := 0) (sl1 := 0) rfl (mLetter (hI96) (by omega)) rfl rfl rfl rfl rfl rfl rfl (fun n106 w102 hq103 => ?_)
            obtain ⟨hn107, hI104, hF105⟩ := hq103
            by_cases hc108 : n106 = 0
            · refine xg_t (xg_ifT (u := n106) rfl xnm0 (xj_eqT hc108)) ?_
              refine xg_t (xg_blq rfl) ?_
              refine xg_t (xg_iload (va := (0, n98)) rfl rfl) ?_
              refine xg_cSi mX12_isDigit (vs := [(0, n98)]) (rest := []) (cn1 := 0) (sl1 := 0) rfl (mDigit (hI104) (by omega)) rfl rfl rfl rfl rfl rfl rfl (fun n113 w109 hq110 => ?_)
              obtain ⟨hn114, hI111, hF112⟩ := hq110
              by_cases hc115 : n113 = 0
              · refine xg_t (xg_ifT (u := n113) rfl xnm0 (xj_eqT hc115)) ?_
                refine xg_t (xg_blq rfl) ?_
                refine xg_t (xg_aload (va := (2, 82)) rfl rfl) ?_
                refine xg_t (xg_dup rfl) ?_
                refine xg_t (xg_getf (va := (0, nx0)) (hF112.get (by decide) (hF105.get (by decide) (hF97.get (by decide) hk91))) rfl) ?_
                refine xg_t (xg_const) ?_
                refine xg_t (xg_iadd (u := nx0) (v := 1) (z := nx0 + 1) xnm0 xnm0 (by omega)) ?_
                refine xg_putI (fl1 := [(2, 83), (2, 84), (0, ir0), (0, sg0), (0, sz0), (0, nx0 + 1), (0, nx0), (0, tk0), (0, nu0), (0, wo0), (0, wg0), (2, 85), (2, 86), (2, 87), (0, ln0), (2, 88), (2, 89), (2, 90), (2, 91), (2, 92), (2, 93), (2, 94), (4, pt0), (4, wh0), (0, me0), (2, 95), (2, 96), (2, 97), (2, 98), (2, 99), (2, 100), (2, 101), (2, 102), (0, mt0), (2, 103), (2, 104), (2, 105), (2, 106), (2, 107), (2, 108), (2, 109), (0, pl0), (0, ps0), (2, 110), (2, 111), (2, 112), (2, 113)]) (hF112.get (by decide) (hF105.get (by decide) (hF97.get (by decide) hk91))) rfl rfl rfl (fun w116 hk117 hb118 => ?_)
                refine xg_t (xg_aload (va := (2, 82)) rfl rfl) ?_
                refine xg_t (xg_iload (va := (0, n98)) rfl rfl) ?_
                refine xg_putI (fl1 := [(2, 83), (2, 84), (0, ir0), (0, n98), (0, sz0), (0, nx0 + 1), (0, nx0), (0, tk0), (0, nu0), (0, wo0), (0, wg0), (2, 85), (2, 86), (2, 87), (0, ln0), (2, 88), (2, 89), (2, 90), (2, 91), (2, 92), (2, 93), (2, 94), (4, pt0), (4, wh0), (0, me0), (2, 95), (2, 96), (2, 97), (2, 98), (2, 99), (2, 100), (2, 101), (2, 102), (0, mt0), (2, 103), (2, 104), (2, 105), (2, 106), (2, 107), (2, 108), (2, 109), (0, pl0), (0, ps0), (2, 110), (2, 111), (2, 112), (2, 113)]) hk117 rfl rfl rfl (fun w119 hk120 hb121 => ?_)
                refine xg_t (xg_aload (va := (2, 82)) rfl rfl) ?_
                refine xg_t (xg_aload (va := (2, 82)) rfl rfl) ?_
                refine xg_t (xg_iload (va := (0, n98)) rfl rfl) ?_
                refine xg_cVi mX12_isSignByte (vs := [(0, n98)]) (rest := [(2, 82)]) (cn1 := 0) (sl1 := 0) rfl (mSignByte (xMnv.up (S := [82]) hI111 ((xFr.of (S := [82]) hb118 (by decide)).tr (xFr.of (S := [82]) hb121 (by decide))) (List.forall_mem_cons.mpr ⟨xqu82 (show cp82 (wget w119 82) from xmC82 ir0 n98 sz0 (nx0 + 1) nx0 tk0 nu0 wo0 wg0 ln0 pt0 wh0 me0 mt0 pl0 ps0 hk120 hn48 (by omega) hn50 (by omega) (by omega) hn53 hn54 hn55 hn56 hn57 hn58 hn59 hn60 hn61 (by omega)), fun _ h => absurd h List.not_mem_nil⟩)) (by omega)) rfl hk120 rfl rfl rfl rfl rfl rfl (fun n126 w122 hq123 => ?_)
                obtain ⟨hn127, hI124, hF125⟩ := hq123
                by_cases hc128 : n126 = 0
                · refine xg_t (xg_ifT (u := n126) rfl xnm0 (xj_eqT hc128)) ?_
                  refine xg_t (xg_blq rfl) ?_
                  refine xg_t (xg_const) ?_
                  refine xg_t (xg_blq rfl) ?_
                  refine xg_putI (fl1 := [(2, 83), (2, 84), (0, ir0), (0, n98), (0, sz0), (0, nx0 + 1), (0, nx0), (0, 4), (0, nu0), (0, wo0), (0, wg0), (2, 85), (2, 86), (2, 87), (0, ln0), (2, 88), (2, 89), (2, 90), (2, 91), (2, 92), (2, 93), (2, 94), (4, pt0), (4, wh0), (0, me0), (2, 95), (2, 96), (2, 97), (2, 98), (2, 99), (2, 100), (2, 101), (2, 102), (0, mt0), (2, 103), (2, 104), (2, 105), (2, 106), (2, 107), (2, 108), (2, 109), (0, pl0), (0, ps0), (2, 110), (2, 111), (2, 112), (2, 113)]) (hF125.get (by decide) hk120) rfl rfl rfl (fun w129 hk130 hb131 => ?_)
                  refine xg_t (xg_blq rfl) ?_
                  have hf132 : fld w129 82 4 = sz0 := fld_of hk130
                  have hf133 : fld w129 82 5 = nx0 + 1 := fld_of hk130
                  have hf134 : fld w129 82 7 = 4 := fld_of hk130
                  have hf135 : fld w129 82 10 = wg0 := fld_of hk130
                  have hf136 : fld w129 82 14 = ln0 := fld_of hk130
                  have hu137 : mu w129 = 2 * (fld w129 82 4 - fld w129 82 5) + min 1 (fld w129 82 7) := rfl
                  have hu138 : mu w = 2 * (fld w 82 4 - fld w 82 5) + min 1 (fld w 82 7) := rfl
                  exact xg_e ⟨w129, ⟨rfl, rfl⟩, xMnv.up (S := [82]) hI124 (xFr.of (S := [82]) hb131 (by decide)) (List.forall_mem_cons.mpr ⟨xqu82 (show cp82 (wget w129 82) from xmC82 ir0 n98 sz0 (nx0 + 1) nx0 4 nu0 wo0 wg0 ln0 pt0 wh0 me0 mt0 pl0 ps0 hk130 hn48 (by omega) hn50 (by omega) (by omega) (by decide) hn54 hn55 hn56 hn57 hn58 hn59 hn60 hn61 (by omega)), fun _ h => absurd h List.not_mem_nil⟩), (((((((((hF47.tr (hF70.up (by decide))).tr (hF82.up (by decide))).tr (xFr.of (S := [82]) hb92 (by decide))).tr (hF97.up (by decide))).tr (hF105.up (by decide))).tr (hF112.up (by decide))).tr ((xFr.of (S := [82]) hb118 (by decide)).tr (xFr.of (S := [82]) hb121 (by decide)))).tr (hF125.up (by decide))).tr (xFr.of (S := [82]) hb131 (by decide))), ⟨by omega, fun _ => by omega, by omega, by omega⟩⟩
                · refine xg_t (xg_ifF (u := n126) rfl xnm0 (xj_eqF hc128)) ?_
                  refine xg_t (xg_const) ?_
                  refine xg_t (xg_goto) ?_
                  refine xg_t (xg_blq rfl) ?_
                  refine xg_putI (fl1 := [(2, 83), (2, 84), (0, ir0), (0, n98), (0, sz0), (0, nx0 + 1), (0, nx0), (0, 2), (0, nu0), (0, wo0), (0, wg0), (2, 85), (2, 86), (2, 87), (0, ln0), (2, 88), (2, 89), (2, 90), (2, 91), (2, 92), (2, 93), (2, 94), (4, pt0), (4, wh0), (0, me0), (2, 95), (2, 96), (2, 97), (2, 98), (2, 99), (2, 100), (2, 101), (2, 102), (0, mt0), (2, 103), (2, 104), (2, 105), (2, 106), (2, 107), (2, 108), (2, 109), (0, pl0), (0, ps0), (2, 110), (2, 111), (2, 112), (2, 113)]) (hF125.get (by decide) hk120) rfl rfl rfl (fun w139 hk140 hb141 => ?_)
                  refine xg_t (xg_blq rfl) ?_
                  have hf142 : fld w139 82 4 = sz0 := fld_of hk140
                  have hf143 : fld w139 82 5 = nx0 + 1 := fld_of hk140
                  have hf144 : fld w139 82 7 = 2 := fld_of hk140
                  have hf145 : fld w139 82 10 = wg0 := fld_of hk140
                  have hf146 : fld w139 82 14 = ln0 := fld_of hk140
                  have hu147 : mu w139 = 2 * (fld w139 82 4 - fld w139 82 5) + min 1 (fld w139 82 7) := rfl
                  have hu148 : mu w = 2 * (fld w 82 4 - fld w 82 5) + min 1 (fld w 82 7) := rfl
                  exact xg_e ⟨w139, ⟨rfl, rfl⟩, xMnv.up (S := [82]) hI124 (xFr.of (S := [82]) hb141 (by decide)) (List.forall_mem_cons.mpr ⟨xqu82 (show cp82 (wget w139 82) from xmC82 ir0 n98 sz0 (nx0 + 1) nx0 2 nu0 wo0 wg0 ln0 pt0 wh0 me0 mt0 pl0 ps0 hk140 hn48 (by omega) hn50 (by omega) (by omega) (by decide) hn54 hn55 hn56 hn57 hn58 hn59 hn60 hn61 (by omega)), fun _ h => absurd h List.not_mem_nil⟩), (((((((((hF47.tr (hF70.up (by decide))).tr (hF82.up (by decide))).tr (xFr.of (S := [82]) hb92 (by decide))).tr (hF97.up (by decide))).tr (hF105.up (by decide))).tr (hF112.up (by decide))).tr ((xFr.of (S := [82]) hb118 (by decide)).tr (xFr.of (S := [82]) hb121 (by decide)))).tr (hF125.up (by decide))).tr (xFr.of (S := [82]) hb141 (by decide))), ⟨by omega, fun _ => by omega, by omega, by omega⟩⟩
              · refine xg_t (xg_ifF (u := n113) rfl xnm0 (xj_eqF hc115)) ?_
                refine xg_t (xg_aload (va := (2, 82)) rfl rfl) ?_
                refine xg_t (xg_const) ?_
                refine xg_putI (fl1 := [(2, 83), (2, 84), (0, ir0), (0, sg0), (0, sz0), (0, nx0), (0, nx0), (0, tk0), (0, 0), (0, wo0), (0, wg0), (2, 85), (2, 86), (2, 87), (0, ln0), (2, 88), (2, 89), (2, 90), (2, 91), (2, 92), (2, 93), (2, 94), (4, pt0), (4, wh0), (0, me0), (2, 95), (2, 96), (2, 97), (2, 98), (2, 99), (2, 100), (2, 101), (2, 102), (0, mt0), (2, 103), (2, 104), (2, 105), (2, 106), (2, 107), (2, 108), (2, 109), (0, pl0), (0, ps0), (2, 110), (2, 111), (2, 112), (2, 113)]) (hF112.get (by decide) (hF105.get (by decide) (hF97.get (by decide) hk91))) rfl rfl rfl (fun w149 hk150 hb151 => ?_)
                refine xg_t (xg_drop (l1 := [(0, (2, 82)), (1, (0, n98))]) (List.forall_mem_cons.mpr ⟨List.mem_cons_of_mem _ (List.mem_cons_self), List.forall_mem_cons.mpr ⟨List.mem_cons_self, fun _ h => absurd h List.not_mem_nil⟩⟩)) ?_
                have key152 : ∀ (m154 : Nat) (ir2 sg2 sz2 nx2 wr2 tk2 nu2 wo2 wg2 ln2 pt2 wh2 me2 mt2 pl2 ps2 : Nat) (w155 : List (List xE)), 500 - nx2 < m154 → ir2 ≤ 1 → sg2 ≤ 4294967295 → sz2 ≤ 500 → nx2 ≤ 500 → wr2 ≤ 4294967295 → tk2 ≤ 4 → nu2 ≤ 4294967295 → wo2 ≤ 4294967295 → wg2 ≤ 1 → ln2 ≤ 4294967295 → me2 ≤ 4294967295 → mt2 ≤ 36 → pl2 ≤ 100 → ps2 ≤ 200 → wget w155 82 = some (.inl (12, [(2, 83), (2, 84), (0, ir2), (0, sg2), (0, sz2), (0, nx2), (0, wr2), (0, tk2), (0, nu2), (0, wo2), (0, wg2), (2, 85), (2, 86), (2, 87), (0, ln2), (2, 88), (2, 89), (2, 90), (2, 91), (2, 92), (2, 93), (2, 94), (4, pt2), (4, wh2), (0, me2), (2, 95), (2, 96), (2, 97), (2, 98), (2, 99), (2, 100), (2, 101), (2, 102), (0, mt2), (2, 103), (2, 104), (2, 105), (2, 106), (2, 107), (2, 108), (2, 109), (0, pl2), (0, ps2), (2, 110), (2, 111), (2, 112), (2, 113)])) → (nx2 ≤ sz2) → xMnv w155 → xFr [82] w w155 → (sz2 = f82_5 ∧ f82_7 ≤ nx2 ∧ wg2 = f82_17 ∧ ln2 = f82_19 ∧ f82_7 ≤ wr2 ∧ wr2 ≤ nx2 ∧ (wr2 < nx2 ∨ (48 ≤ g83_33 (400 + wr2) ∧ g83_33 (400 + wr2) ≤ 57 ∧ wr2 < sz2))) → xTo (d + 4) mX12_advance (212, [], [(0, (2, 82)), (1, (0, n98))], [], (w155, bd, fc, 0, 0, rr)) (fun φ => ∃ w', xEnd 0 [] (w', bd, fc, 0, 0, rr) φ ∧ xMnv w' ∧ xFr [82] w w' ∧ (mu w' ≤ mu w ∧ (fld w 82 7 ≠ 0 → mu w' < mu w) ∧ fld w' 82 10 = fld w 82 10 ∧ fld w' 82 14 = fld w 82 14)) := by
                  intro m154
                  induction m154 with
                  | zero => intro ir2 sg2 sz2 nx2 wr2 tk2 nu2 wo2 wg2 ln2 pt2 wh2 me2 mt2 pl2 ps2 w155 hz; exact absurd hz (Nat.not_lt_zero _)
                  | succ m154 ih153 =>
                    intro ir2 sg2 sz2 nx2 wr2 tk2 nu2 wo2 wg2 ln2 pt2 wh2 me2 mt2 pl2 ps2 w155 hm175 hn158 hn159 hn160 hn161 hn162 hn163 hn164 hn165 hn166 hn167 hn168 hn169 hn170 hn171 hcl172 hx173 hI156 hF157 he174
                    replace hn159 := xHid.of hn159
                    replace hn162 := xHid.of hn162
                    replace hn164 := xHid.of hn164
                    replace hn165 := xHid.of hn165
                    replace hn167 := xHid.of hn167
                    replace hn168 := xHid.of hn168
                    replace hn169 := xHid.of hn169
                    replace hn170 := xHid.of hn170
                    replace hn171 := xHid.of hn171
                    have hcg176 : nx2 = wr2 → g83_33 (400 + nx2) = g83_33 (400 + wr2) := fun e => by rw [e]
                    refine xg_t (xg_blq rfl) ?_
                    refine xg_t (xg_aload (va := (2, 82)) rfl rfl) ?_
                    refine xg_t (xg_aload (va := (2, 82)) rfl rfl) ?_
                    refine xg_t (xg_getf (va := (0, nx2)) hcl172 rfl) ?_
                    have hf177 : fld w155 82 4 = sz2 := fld_of hcl172
                    refine xg_cVi mX12_byteAt (vs := [(0, nx2)]) (rest := []) (cn1 := 0) (sl1 := 0) rfl (mByteAt (hI156) (by omega) (h83_34.fr hF157 (by decide)) hb35 hx36) rfl hcl172 rfl rfl rfl rfl rfl rfl (fun n182 w178 hq179 => ?_)
                    obtain ⟨hn183, hI180, hF181⟩ := hq179
                    have hl184 : n182 ≤ 4294967295 := by have q := hn183; have q2 := hb35 (400 + nx2); omega
                    refine xg_cSi mX12_isDigit (vs := [(0, n182)]) (rest := []) (cn1 := 0) (sl1 := 0) rfl (mDigit (hI180) (by omega)) rfl rfl rfl rfl rfl rfl rfl (fun n189 w185 hq186 => ?_)
                    obtain ⟨hn190, hI187, hF188⟩ := hq186
                    by_cases hc191 : n189 = 0
                    · refine xg_t (xg_ifT (u := n189) rfl xnm0 (xj_eqT hc191)) ?_
                      refine xg_t (xg_blq rfl) ?_
                      refine xg_t (xg_aload (va := (2, 82)) rfl rfl) ?_
                      refine xg_t (xg_aload (va := (2, 82)) rfl rfl) ?_
                      refine xg_t (xg_getf (va := (0, nx2)) (hF188.get (by decide) (hF181.get (by decide) hcl172)) rfl) ?_
                      refine xg_t (xg_aload (va := (2, 82)) rfl rfl) ?_
                      refine xg_t (xg_getf (va := (0, wr2)) (hF188.get (by decide) (hF181.get (by decide) hcl172)) rfl) ?_
                      have hn192 : wr2 ≤ 4294967295 := hn162
                      by_cases hc193 : wr2 ≤ nx2
                      · refine xg_t (xg_isub (u := nx2) (v := wr2) (z := (nx2 + (4294967296 - wr2)) % 4294967296) xnm0 xnm0 (rfl)) ?_
                        refine xg_t (xg_const) ?_
                        by_cases hc194 : xbs 4 < xbs ((nx2 + (4294967296 - wr2)) % 4294967296)
                        · have hc194u := hc194
                          unfold xbs at hc194u
                          have hn195 : (nx2 + (4294967296 - wr2)) % 4294967296 ≤ 2147483647 := by omega
                          refine xg_t (xg_icF (u := (nx2 + (4294967296 - wr2)) % 4294967296) (v := 4) rfl xnm0 xnm0 (xjs_leF hc194)) ?_
                          refine xg_t (xg_const) ?_
                          refine xg_t (xg_goto) ?_
                          refine xg_t (xg_blq rfl) ?_
                          refine xg_putI (fl1 := [(2, 83), (2, 84), (0, ir2), (0, sg2), (0, sz2), (0, nx2), (0, wr2), (0, 4), (0, nu2), (0, wo2), (0, wg2), (2, 85), (2, 86), (2, 87), (0, ln2), (2, 88), (2, 89), (2, 90), (2, 91), (2, 92), (2, 93), (2, 94), (4, pt2), (4, wh2), (0, me2), (2, 95), (2, 96), (2, 97), (2, 98), (2, 99), (2, 100), (2, 101), (2, 102), (0, mt2), (2, 103), (2, 104), (2, 105), (2, 106), (2, 107), (2, 108), (2, 109), (0, pl2), (0, ps2), (2, 110), (2, 111), (2, 112), (2, 113)]) (hF188.get (by decide) (hF181.get (by decide) hcl172)) rfl rfl rfl (fun w196 hk197 hb198 => ?_)
                          refine xg_t (xg_goto) ?_
                          refine xg_t (xg_blq rfl) ?_
                          have hf199 : fld w196 82 4 = sz2 := fld_of hk197
                          have hf200 : fld w196 82 5 = nx2 := fld_of hk197
                          have hf201 : fld w196 82 7 = 4 := fld_of hk197
                          have hf202 : fld w196 82 10 = wg2 := fld_of hk197
                          have hf203 : fld w196 82 14 = ln2 := fld_of hk197
                          have hu204 : mu w196 = 2 * (fld w196 82 4 - fld w196 82 5) + min 1 (fld w196 82 7) := rfl
                          have hu205 : mu w = 2 * (fld w 82 4 - fld w 82 5) + min 1 (fld w 82 7) := rfl
                          exact xg_e ⟨w196, ⟨rfl, rfl⟩, xMnv.up (S := [82]) hI187 (xFr.of (S := [82]) hb198 (by decide)) (List.forall_mem_cons.mpr ⟨xqu82 (show cp82 (wget w196 82) from xmC82 ir2 sg2 sz2 nx2 wr2 4 nu2 wo2 wg2 ln2 pt2 wh2 me2 mt2 pl2 ps2 hk197 hn158 hn159 hn160 hn161 hn162 (by decide) hn164 hn165 hn166 hn167 hn168 hn169 hn170 hn171 (by omega)), fun _ h => absurd h List.not_mem_nil⟩), (((hF157.tr (hF181.up (by decide))).tr (hF188.up (by decide))).tr (xFr.of (S := [82]) hb198 (by decide))), ⟨by omega, fun _ => by omega, by omega, by omega⟩⟩
                        · have hc194u := hc194
                          unfold xbs at hc194u
                          refine xg_t (xg_icT (u := (nx2 + (4294967296 - wr2)) % 4294967296) (v := 4) rfl xnm0 xnm0 (xjs_leT hc194)) ?_
                          refine xg_t (xg_blq rfl) ?_
                          refine xg_t (xg_const) ?_
                          refine xg_t (xg_blq rfl) ?_
                          refine xg_putI (fl1 := [(2, 83), (2, 84), (0, ir2), (0, sg2), (0, sz2), (0, nx2), (0, wr2), (0, 1), (0, nu2), (0, wo2), (0, wg2), (2, 85), (2, 86), (2, 87), (0, ln2), (2, 88), (2, 89), (2, 90), (2, 91), (2, 92), (2, 93), (2, 94), (4, pt2), (4, wh2), (0, me2), (2, 95), (2, 96), (2, 97), (2, 98), (2, 99), (2, 100), (2, 101), (2, 102), (0, mt2), (2, 103), (2, 104), (2, 105), (2, 106), (2, 107), (2, 108), (2, 109), (0, pl2), (0, ps2), (2, 110), (2, 111), (2, 112), (2, 113)]) (hF188.get (by decide) (hF181.get (by decide) hcl172)) rfl rfl rfl (fun w206 hk207 hb208 => ?_)
                          refine xg_t (xg_goto) ?_
                          refine xg_t (xg_blq rfl) ?_
                          have hf209 : fld w206 82 4 = sz2 := fld_of hk207
                          have hf210 : fld w206 82 5 = nx2 := fld_of hk207
                          have hf211 : fld w206 82 7 = 1 := fld_of hk207
                          have hf212 : fld w206 82 10 = wg2 := fld_of hk207
                          have hf213 : fld w206 82 14 = ln2 := fld_of hk207
                          have hu214 : mu w206 = 2 * (fld w206 82 4 - fld w206 82 5) + min 1 (fld w206 82 7) := rfl
                          have hu215 : mu w = 2 * (fld w 82 4 - fld w 82 5) + min 1 (fld w 82 7) := rfl
                          exact xg_e ⟨w206, ⟨rfl, rfl⟩, xMnv.up (S := [82]) hI187 (xFr.of (S := [82]) hb208 (by decide)) (List.forall_mem_cons.mpr ⟨xqu82 (show cp82 (wget w206 82) from xmC82 ir2 sg2 sz2 nx2 wr2 1 nu2 wo2 wg2 ln2 pt2 wh2 me2 mt2 pl2 ps2 hk207 hn158 hn159 hn160 hn161 hn162 (by decide) hn164 hn165 hn166 hn167 hn168 hn169 hn170 hn171 (by omega)), fun _ h => absurd h List.not_mem_nil⟩), (((hF157.tr (hF181.up (by decide))).tr (hF188.up (by decide))).tr (xFr.of (S := [82]) hb208 (by decide))), ⟨by omega, fun _ => by omega, by omega, by omega⟩⟩
                      · have hz218 : 2147483649 ≤ (nx2 + (4294967296 - wr2)) % 4294967296 := by omega
                        refine xg_t (xg_isub (u := nx2) (v := wr2) (z := (nx2 + (4294967296 - wr2)) % 4294967296) xnm0 xnm0 rfl) ?_
                        have hz217 : (nx2 + (4294967296 - wr2)) % 4294967296 < 4294967296 := Nat.mod_lt _ (by decide)
                        generalize (nx2 + (4294967296 - wr2)) % 4294967296 = z216 at hz218 hz217 ⊢
                        refine xg_t (xg_const) ?_
                        refine xg_t (xg_icT (u := z216) (v := 4) rfl xnm0 xnm0 (xjs_leT (by unfold xbs; omega))) ?_
                        refine xg_t (xg_blq rfl) ?_
                        refine xg_t (xg_const) ?_
                        refine xg_t (xg_blq rfl) ?_
                        refine xg_putI (fl1 := [(2, 83), (2, 84), (0, ir2), (0, sg2), (0, sz2), (0, nx2), (0, wr2), (0, 1), (0, nu2), (0, wo2), (0, wg2), (2, 85), (2, 86), (2, 87), (0, ln2), (2, 88), (2, 89), (2, 90), (2, 91), (2, 92), (2, 93), (2, 94), (4, pt2), (4, wh2), (0, me2), (2, 95), (2, 96), (2, 97), (2, 98), (2, 99), (2, 100), (2, 101), (2, 102), (0, mt2), (2, 103), (2, 104), (2, 105), (2, 106), (2, 107), (2, 108), (2, 109), (0, pl2), (0, ps2), (2, 110), (2, 111), (2, 112), (2, 113)]) (hF188.get (by decide) (hF181.get (by decide) hcl172)) rfl rfl rfl (fun w219 hk220 hb221 => ?_)
                        refine xg_t (xg_goto) ?_
                        refine xg_t (xg_blq rfl) ?_
                        have hf222 : fld w219 82 4 = sz2 := fld_of hk220
                        have hf223 : fld w219 82 5 = nx2 := fld_of hk220
                        have hf224 : fld w219 82 7 = 1 := fld_of hk220
                        have hf225 : fld w219 82 10 = wg2 := fld_of hk220
                        have hf226 : fld w219 82 14 = ln2 := fld_of hk220
                        have hu227 : mu w219 = 2 * (fld w219 82 4 - fld w219 82 5) + min 1 (fld w219 82 7) := rfl
                        have hu228 : mu w = 2 * (fld w 82 4 - fld w 82 5) + min 1 (fld w 82 7) := rfl
                        exact xg_e ⟨w219, ⟨rfl, rfl⟩, xMnv.up (S := [82]) hI187 (xFr.of (S := [82]) hb221 (by decide)) (List.forall_mem_cons.mpr ⟨xqu82 (show cp82 (wget w219 82) from xmC82 ir2 sg2 sz2 nx2 wr2 1 nu2 wo2 wg2 ln2 pt2 wh2 me2 mt2 pl2 ps2 hk220 hn158 hn159 hn160 hn161 hn162 (by decide) hn164 hn165 hn166 hn167 hn168 hn169 hn170 hn171 (by omega)), fun _ h => absurd h List.not_mem_nil⟩), (((hF157.tr (hF181.up (by decide))).tr (hF188.up (by decide))).tr (xFr.of (S := [82]) hb221 (by decide))), ⟨by omega, fun _ => by omega, by omega, by omega⟩⟩
                    · refine xg_t (xg_ifF (u := n189) rfl xnm0 (xj_eqF hc191)) ?_
                      refine xg_t (xg_aload (va := (2, 82)) rfl rfl) ?_
                      refine xg_t (xg_getf (va := (0, nx2)) (hF188.get (by decide) (hF181.get (by decide) hcl172)) rfl) ?_
                      refine xg_t (xg_aload (va := (2, 82)) rfl rfl) ?_
                      refine xg_t (xg_getf (va := (0, wr2)) (hF188.get (by decide) (hF181.get (by decide) hcl172)) rfl) ?_
                      have hn229 : wr2 ≤ 4294967295 := hn162
                      by_cases hc230 : wr2 ≤ nx2
                      · refine xg_t (xg_isub (u := nx2) (v := wr2) (z := (nx2 + (4294967296 - wr2)) % 4294967296) xnm0 xnm0 (rfl)) ?_
                        refine xg_t (xg_const) ?_
                        by_cases hc231 : xbs ((nx2 + (4294967296 - wr2)) % 4294967296) < xbs 4
                        · have hc231u := hc231
                          unfold xbs at hc231u
                          refine xg_t (xg_icF (u := (nx2 + (4294967296 - wr2)) % 4294967296) (v := 4) rfl xnm0 xnm0 (xjs_geF hc231)) ?_
                          refine xg_t (xg_aload (va := (2, 82)) rfl rfl) ?_
                          refine xg_t (xg_bip) ?_
                          refine xg_t (xg_aload (va := (2, 82)) rfl rfl) ?_
                          refine xg_t (xg_getf (va := (0, nu2)) (hF188.get (by decide) (hF181.get (by decide) hcl172)) rfl) ?_
                          have hn232 : nu2 ≤ 4294967295 := hn164
                          refine xg_k (xg_imul (u := 10) (v := nu2) (z := (10 * nu2) % 4294967296) xnm0 xnm0 rfl) (Nat.mod_lt _ (by decide)) (fun z233 hz234 => ?_)
                          refine xg_t (xg_aload (va := (2, 82)) rfl rfl) ?_
                          refine xg_t (xg_aload (va := (2, 82)) rfl rfl) ?_
                          refine xg_t (xg_getf (va := (0, nx2)) (hF188.get (by decide) (hF181.get (by decide) hcl172)) rfl) ?_
                          have hf235 : fld w185 82 4 = sz2 := fld_of (hF188.get (by decide) (hF181.get (by decide) hcl172))
                          refine xg_cVi mX12_byteAt (vs := [(0, nx2)]) (rest := [(0, z233), (2, 82)]) (cn1 := 0) (sl1 := 0) rfl (mByteAt (hI187) (by omega) (((h83_34.fr hF157 (by decide)).fr hF181 (by decide)).fr hF188 (by decide)) hb35 hx36) rfl (hF188.get (by decide) (hF181.get (by decide) hcl172)) rfl rfl rfl rfl rfl rfl (fun n240 w236 hq237 => ?_)
                          obtain ⟨hn241, hI238, hF239⟩ := hq237
                          have hl242 : n240 ≤ 4294967295 := by have q := hn241; have q2 := hb35 (400 + nx2); omega
                          refine xg_k (xg_iadd (u := z233) (v := n240) (z := (z233 + n240) % 4294967296) xnm0 xnm0 rfl) (Nat.mod_lt _ (by decide)) (fun z243 hz244 => ?_)
                          refine xg_t (xg_bip) ?_
                          refine xg_k (xg_isub (u := z243) (v := 48) (z := (z243 + (4294967296 - 48)) % 4294967296) xnm0 xnm0 rfl) (Nat.mod_lt _ (by decide)) (fun z245 hz246 => ?_)
                          refine xg_putI (fl1 := [(2, 83), (2, 84), (0, ir2), (0, sg2), (0, sz2), (0, nx2), (0, wr2), (0, tk2), (0, z245), (0, wo2), (0, wg2), (2, 85), (2, 86), (2, 87), (0, ln2), (2, 88), (2, 89), (2, 90), (2, 91), (2, 92), (2, 93), (2, 94), (4, pt2), (4, wh2), (0, me2), (2, 95), (2, 96), (2, 97), (2, 98), (2, 99), (2, 100), (2, 101), (2, 102), (0, mt2), (2, 103), (2, 104), (2, 105), (2, 106), (2, 107), (2, 108), (2, 109), (0, pl2), (0, ps2), (2, 110), (2, 111), (2, 112), (2, 113)]) (hF239.get (by decide) (hF188.get (by decide) (hF181.get (by decide) hcl172))) rfl rfl rfl (fun w247 hk248 hb249 => ?_)
                          refine xg_t (xg_blq rfl) ?_
                          refine xg_t (xg_aload (va := (2, 82)) rfl rfl) ?_
                          refine xg_t (xg_dup rfl) ?_
                          refine xg_t (xg_getf (va := (0, nx2)) hk248 rfl) ?_
                          refine xg_t (xg_const) ?_
                          refine xg_t (xg_iadd (u := nx2) (v := 1) (z := nx2 + 1) xnm0 xnm0 (by omega)) ?_
                          refine xg_putI (fl1 := [(2, 83), (2, 84), (0, ir2), (0, sg2), (0, sz2), (0, nx2 + 1), (0, wr2), (0, tk2), (0, z245), (0, wo2), (0, wg2), (2, 85), (2, 86), (2, 87), (0, ln2), (2, 88), (2, 89), (2, 90), (2, 91), (2, 92), (2, 93), (2, 94), (4, pt2), (4, wh2), (0, me2), (2, 95), (2, 96), (2, 97), (2, 98), (2, 99), (2, 100), (2, 101), (2, 102), (0, mt2), (2, 103), (2, 104), (2, 105), (2, 106), (2, 107), (2, 108), (2, 109), (0, pl2), (0, ps2), (2, 110), (2, 111), (2, 112), (2, 113)]) hk248 rfl rfl rfl (fun w250 hk251 hb252 => ?_)
                          refine xg_t (xg_goto) ?_
                          exact ih153 ir2 sg2 sz2 (nx2 + 1) wr2 tk2 z245 wo2 wg2 ln2 pt2 wh2 me2 mt2 pl2 ps2 w250 (by omega) (hn158) (hn159) (hn160) (by omega) (hn162) (hn163) (by omega) (hn165) (hn166) (hn167) (hn168) (hn169) (hn170) (hn171) hk251 (by omega) (xMnv.up (S := [82]) hI238 ((xFr.of (S := [82]) hb249 (by decide)).tr (xFr.of (S := [82]) hb252 (by decide))) (List.forall_mem_cons.mpr ⟨xqu82 (show cp82 (wget w250 82) from xmC82 ir2 sg2 sz2 (nx2 + 1) wr2 tk2 z245 wo2 wg2 ln2 pt2 wh2 me2 mt2 pl2 ps2 hk251 hn158 hn159 hn160 (by omega) hn162 hn163 (by omega) hn165 hn166 hn167 hn168 hn169 hn170 hn171 (by omega)), fun _ h => absurd h List.not_mem_nil⟩)) (((((hF157.tr (hF181.up (by decide))).tr (hF188.up (by decide))).tr (hF239.up (by decide))).tr ((xFr.of (S := [82]) hb249 (by decide)).tr (xFr.of (S := [82]) hb252 (by decide))))) (by omega)
                        · have hc231u := hc231
                          unfold xbs at hc231u
                          have hn253 : (nx2 + (4294967296 - wr2)) % 4294967296 ≤ 2147483647 := by omega
                          refine xg_t (xg_icT (u := (nx2 + (4294967296 - wr2)) % 4294967296) (v := 4) rfl xnm0 xnm0 (xjs_geT hc231)) ?_
                          refine xg_t (xg_blq rfl) ?_
                          refine xg_t (xg_aload (va := (2, 82)) rfl rfl) ?_
                          refine xg_t (xg_dup rfl) ?_
                          refine xg_t (xg_getf (va := (0, nx2)) (hF188.get (by decide) (hF181.get (by decide) hcl172)) rfl) ?_
                          refine xg_t (xg_const) ?_
                          refine xg_t (xg_iadd (u := nx2) (v := 1) (z := nx2 + 1) xnm0 xnm0 (by omega)) ?_
                          refine xg_putI (fl1 := [(2, 83), (2, 84), (0, ir2), (0, sg2), (0, sz2), (0, nx2 + 1), (0, wr2), (0, tk2), (0, nu2), (0, wo2), (0, wg2), (2, 85), (2, 86), (2, 87), (0, ln2), (2, 88), (2, 89), (2, 90), (2, 91), (2, 92), (2, 93), (2, 94), (4, pt2), (4, wh2), (0, me2), (2, 95), (2, 96), (2, 97), (2, 98), (2, 99), (2, 100), (2, 101), (2, 102), (0, mt2), (2, 103), (2, 104), (2, 105), (2, 106), (2, 107), (2, 108), (2, 109), (0, pl2), (0, ps2), (2, 110), (2, 111), (2, 112), (2, 113)]) (hF188.get (by decide) (hF181.get (by decide) hcl172)) rfl rfl rfl (fun w254 hk255 hb256 => ?_)
                          refine xg_t (xg_goto) ?_
                          exact ih153 ir2 sg2 sz2 (nx2 + 1) wr2 tk2 nu2 wo2 wg2 ln2 pt2 wh2 me2 mt2 pl2 ps2 w254 (by omega) (hn158) (hn159) (hn160) (by omega) (hn162) (hn163) (hn164) (hn165) (hn166) (hn167) (hn168) (hn169) (hn170) (hn171) hk255 (by omega) (xMnv.up (S := [82]) hI187 (xFr.of (S := [82]) hb256 (by decide)) (List.forall_mem_cons.mpr ⟨xqu82 (show cp82 (wget w254 82) from xmC82 ir2 sg2 sz2 (nx2 + 1) wr2 tk2 nu2 wo2 wg2 ln2 pt2 wh2 me2 mt2 pl2 ps2 hk255 hn158 hn159 hn160 (by omega) hn162 hn163 hn164 hn165 hn166 hn167 hn168 hn169 hn170 hn171 (by omega)), fun _ h => absurd h List.not_mem_nil⟩)) ((((hF157.tr (hF181.up (by decide))).tr (hF188.up (by decide))).tr (xFr.of (S := [82]) hb256 (by decide)))) (by omega)
                      · have hz259 : 2147483649 ≤ (nx2 + (4294967296 - wr2)) % 4294967296 := by omega
                        refine xg_t (xg_isub (u := nx2) (v := wr2) (z := (nx2 + (4294967296 - wr2)) % 4294967296) xnm0 xnm0 rfl) ?_
                        have hz258 : (nx2 + (4294967296 - wr2)) % 4294967296 < 4294967296 := Nat.mod_lt _ (by decide)
                        generalize (nx2 + (4294967296 - wr2)) % 4294967296 = z257 at hz259 hz258 ⊢
                        refine xg_t (xg_const) ?_
                        refine xg_t (xg_icF (u := z257) (v := 4) rfl xnm0 xnm0 (xjs_geF (by unfold xbs; omega))) ?_
                        refine xg_t (xg_aload (va := (2, 82)) rfl rfl) ?_
                        refine xg_t (xg_bip) ?_
                        refine xg_t (xg_aload (va := (2, 82)) rfl rfl) ?_
                        refine xg_t (xg_getf (va := (0, nu2)) (hF188.get (by decide) (hF181.get (by decide) hcl172)) rfl) ?_
                        have hn260 : nu2 ≤ 4294967295 := hn164
                        refine xg_k (xg_imul (u := 10) (v := nu2) (z := (10 * nu2) % 4294967296) xnm0 xnm0 rfl) (Nat.mod_lt _ (by decide)) (fun z261 hz262 => ?_)
                        refine xg_t (xg_aload (va := (2, 82)) rfl rfl) ?_
                        refine xg_t (xg_aload (va := (2, 82)) rfl rfl) ?_
                        refine xg_t (xg_getf (va := (0, nx2)) (hF188.get (by decide) (hF181.get (by decide) hcl172)) rfl) ?_
                        have hf263 : fld w185 82 4 = sz2 := fld_of (hF188.get (by decide) (hF181.get (by decide) hcl172))
                        refine xg_cVi mX12_byteAt (vs := [(0, nx2)]) (rest := [(0, z261), (2, 82)]) (cn1 := 0) (sl1 := 0) rfl (mByteAt (hI187) (by omega) (((h83_34.fr hF157 (by decide)).fr hF181 (by decide)).fr hF188 (by decide)) hb35 hx36) rfl (hF188.get (by decide) (hF181.get (by decide) hcl172)) rfl rfl rfl rfl rfl rfl (fun n268 w264 hq265 => ?_)
                        obtain ⟨hn269, hI266, hF267⟩ := hq265
                        have hl270 : n268 ≤ 4294967295 := by have q := hn269; have q2 := hb35 (400 + nx2); omega
                        refine xg_k (xg_iadd (u := z261) (v := n268) (z := (z261 + n268) % 4294967296) xnm0 xnm0 rfl) (Nat.mod_lt _ (by decide)) (fun z271 hz272 => ?_)
                        refine xg_t (xg_bip) ?_
                        refine xg_k (xg_isub (u := z271) (v := 48) (z := (z271 + (4294967296 - 48)) % 4294967296) xnm0 xnm0 rfl) (Nat.mod_lt _ (by decide)) (fun z273 hz274 => ?_)
                        refine xg_putI (fl1 := [(2, 83), (2, 84), (0, ir2), (0, sg2), (0, sz2), (0, nx2), (0, wr2), (0, tk2), (0, z273), (0, wo2), (0, wg2), (2, 85), (2, 86), (2, 87), (0, ln2), (2, 88), (2, 89), (2, 90), (2, 91), (2, 92), (2, 93), (2, 94), (4, pt2), (4, wh2), (0, me2), (2, 95), (2, 96), (2, 97), (2, 98), (2, 99), (2, 100), (2, 101), (2, 102), (0, mt2), (2, 103), (2, 104), (2, 105), (2, 106), (2, 107), (2, 108), (2, 109), (0, pl2), (0, ps2), (2, 110), (2, 111), (2, 112), (2, 113)]) (hF267.get (by decide) (hF188.get (by decide) (hF181.get (by decide) hcl172))) rfl rfl rfl (fun w275 hk276 hb277 => ?_)
                        refine xg_t (xg_blq rfl) ?_
                        refine xg_t (xg_aload (va := (2, 82)) rfl rfl) ?_
                        refine xg_t (xg_dup rfl) ?_
                        refine xg_t (xg_getf (va := (0, nx2)) hk276 rfl) ?_
                        refine xg_t (xg_const) ?_
                        refine xg_t (xg_iadd (u := nx2) (v := 1) (z := nx2 + 1) xnm0 xnm0 (by omega)) ?_
                        refine xg_putI (fl1 := [(2, 83), (2, 84), (0, ir2), (0, sg2), (0, sz2), (0, nx2 + 1), (0, wr2), (0, tk2), (0, z273), (0, wo2), (0, wg2), (2, 85), (2, 86), (2, 87), (0, ln2), (2, 88), (2, 89), (2, 90), (2, 91), (2, 92), (2, 93), (2, 94), (4, pt2), (4, wh2), (0, me2), (2, 95), (2, 96), (2, 97), (2, 98), (2, 99), (2, 100), (2, 101), (2, 102), (0, mt2), (2, 103), (2, 104), (2, 105), (2, 106), (2, 107), (2, 108), (2, 109), (0, pl2), (0, ps2), (2, 110), (2, 111), (2, 112), (2, 113)]) hk276 rfl rfl rfl (fun w278 hk279 hb280 => ?_)
                        refine xg_t (xg_goto) ?_
                        exact ih153 ir2 sg2 sz2 (nx2 + 1) wr2 tk2 z273 wo2 wg2 ln2 pt2 wh2 me2 mt2 pl2 ps2 w278 (by omega) (hn158) (hn159) (hn160) (by omega) (hn162) (hn163) (by omega) (hn165) (hn166) (hn167) (hn168) (hn169) (hn170) (hn171) hk279 (by omega) (xMnv.up (S := [82]) hI266 ((xFr.of (S := [82]) hb277 (by decide)).tr (xFr.of (S := [82]) hb280 (by decide))) (List.forall_mem_cons.mpr ⟨xqu82 (show cp82 (wget w278 82) from xmC82 ir2 sg2 sz2 (nx2 + 1) wr2 tk2 z273 wo2 wg2 ln2 pt2 wh2 me2 mt2 pl2 ps2 hk279 hn158 hn159 hn160 (by omega) hn162 hn163 (by omega) hn165 hn166 hn167 hn168 hn169 hn170 hn171 (by omega)), fun _ h => absurd h List.not_mem_nil⟩)) (((((hF157.tr (hF181.up (by decide))).tr (hF188.up (by decide))).tr (hF267.up (by decide))).tr ((xFr.of (S := [82]) hb277 (by decide)).tr (xFr.of (S := [82]) hb280 (by decide))))) (by omega)
                exact key152 _ ir0 sg0 sz0 nx0 nx0 tk0 0 wo0 wg0 ln0 pt0 wh0 me0 mt0 pl0 ps0 w149 (Nat.lt_succ_self _) (hn48) (hn49) (hn50) (hn51) (by omega) (hn53) (by decide) (hn55) (hn56) (hn57) (hn58) (hn59) (hn60) (hn61) hk150 (by omega) (xMnv.up (S := [82]) hI111 (xFr.of (S := [82]) hb151 (by decide)) (List.forall_mem_cons.mpr ⟨xqu82 (show cp82 (wget w149 82) from xmC82 ir0 sg0 sz0 nx0 nx0 tk0 0 wo0 wg0 ln0 pt0 wh0 me0 mt0 pl0 ps0 hk150 hn48 hn49 hn50 hn51 (by omega) hn53 (by decide) hn55 hn56 hn57 hn58 hn59 hn60 hn61 (by omega)), fun _ h => absurd h List.not_mem_nil⟩)) ((((((((hF47.tr (hF70.up (by decide))).tr (hF82.up (by decide))).tr (xFr.of (S := [82]) hb92 (by decide))).tr (hF97.up (by decide))).tr (hF105.up (by decide))).tr (hF112.up (by decide))).tr (xFr.of (S := [82]) hb151 (by decide)))) (by omega)
            · refine xg_t (xg_ifF (u := n106) rfl xnm0 (xj_eqF hc108)) ?_
              refine xg_t (xg_lconst) ?_
              refine xg_t (xg_lstore (l1 := [(1, (0, n98)), (0, (2, 82))]) rfl rfl) ?_
              refine xg_t (xg_drop (l1 := [(0, (2, 82)), (1, (0, n98)), (2, (4, 0))]) (List.forall_mem_cons.mpr ⟨List.mem_cons_of_mem _ (List.mem_cons_of_mem _ (List.mem_cons_self)), List.forall_mem_cons.mpr ⟨List.mem_cons_of_mem _ (List.mem_cons_self), List.forall_mem_cons.mpr ⟨List.mem_cons_self, fun _ h => absurd h List.not_mem_nil⟩⟩⟩)) ?_
              have key281 : ∀ (m283 : Nat) (v7 ir7 sg7 sz7 nx7 wr7 tk7 nu7 wo7 wg7 ln7 pt7 wh7 me7 mt7 pl7 ps7 : Nat) (w284 : List (List xE)), 500 - nx7 < m283 → v7 = v7 → ir7 ≤ 1 → sg7 ≤ 4294967295 → sz7 ≤ 500 → nx7 ≤ 500 → wr7 ≤ 4294967295 → tk7 ≤ 4 → nu7 ≤ 4294967295 → wo7 ≤ 4294967295 → wg7 ≤ 1 → ln7 ≤ 4294967295 → me7 ≤ 4294967295 → mt7 ≤ 36 → pl7 ≤ 100 → ps7 ≤ 200 → wget w284 82 = some (.inl (12, [(2, 83), (2, 84), (0, ir7), (0, sg7), (0, sz7), (0, nx7), (0, wr7), (0, tk7), (0, nu7), (0, wo7), (0, wg7), (2, 85), (2, 86), (2, 87), (0, ln7), (2, 88), (2, 89), (2, 90), (2, 91), (2, 92), (2, 93), (2, 94), (4, pt7), (4, wh7), (0, me7), (2, 95), (2, 96), (2, 97), (2, 98), (2, 99), (2, 100), (2, 101), (2, 102), (0, mt7), (2, 103), (2, 104), (2, 105), (2, 106), (2, 107), (2, 108), (2, 109), (0, pl7), (0, ps7), (2, 110), (2, 111), (2, 112), (2, 113)])) → (nx7 ≤ sz7) → xMnv w284 → xFr [82] w w284 → (sz7 = f82_5 ∧ f82_7 ≤ nx7 ∧ wg7 = f82_17 ∧ ln7 = f82_19 ∧ f82_7 ≤ wr7 ∧ wr7 ≤ nx7 ∧ (wr7 < nx7 ∨ (97 ≤ g83_33 (400 + wr7) ∧ g83_33 (400 + wr7) ≤ 122 ∧ wr7 < sz7))) → xTo (d + 4) mX12_advance (77, [], [(0, (2, 82)), (1, (0, n98)), (2, (4, v7))], [], (w284, bd, fc, 0, 0, rr)) (fun φ => ∃ w', xEnd 0 [] (w', bd, fc, 0, 0, rr) φ ∧ xMnv w' ∧ xFr [82] w w' ∧ (mu w' ≤ mu w ∧ (fld w 82 7 ≠ 0 → mu w' < mu w) ∧ fld w' 82 10 = fld w 82 10 ∧ fld w' 82 14 = fld w 82 14)) := by
                intro m283
                induction m283 with
                | zero => intro v7 ir7 sg7 sz7 nx7 wr7 tk7 nu7 wo7 wg7 ln7 pt7 wh7 me7 mt7 pl7 ps7 w284 hz; exact absurd hz (Nat.not_lt_zero _)
                | succ m283 ih282 =>
                  intro v7 ir7 sg7 sz7 nx7 wr7 tk7 nu7 wo7 wg7 ln7 pt7 wh7 me7 mt7 pl7 ps7 w284 hm305 hn287 hn288 hn289 hn290 hn291 hn292 hn293 hn294 hn295 hn296 hn297 hn298 hn299 hn300 hn301 hcl302 hx303 hI285 hF286 he304
                  replace hn289 := xHid.of hn289
                  replace hn292 := xHid.of hn292
                  replace hn294 := xHid.of hn294
                  replace hn295 := xHid.of hn295
                  replace hn297 := xHid.of hn297
                  replace hn298 := xHid.of hn298
                  replace hn299 := xHid.of hn299
                  replace hn300 := xHid.of hn300
                  replace hn301 := xHid.of hn301
                  have hcg306 : nx7 = wr7 → g83_33 (400 + nx7) = g83_33 (400 + wr7) := fun e => by rw [e]
                  refine xg_t (xg_blq rfl) ?_
                  refine xg_t (xg_aload (va := (2, 82)) rfl rfl) ?_
                  refine xg_t (xg_aload (va := (2, 82)) rfl rfl) ?_
                  refine xg_t (xg_getf (va := (0, nx7)) hcl302 rfl) ?_
                  have hf307 : fld w284 82 4 = sz7 := fld_of hcl302
                  refine xg_cVi mX12_byteAt (vs := [(0, nx7)]) (rest := []) (cn1 := 0) (sl1 := 0) rfl (mByteAt (hI285) (by omega) (h83_34.fr hF286 (by decide)) hb35 hx36) rfl hcl302 rfl rfl rfl rfl rfl rfl (fun n312 w308 hq309 => ?_)
                  obtain ⟨hn313, hI310, hF311⟩ := hq309
                  have hl314 : n312 ≤ 4294967295 := by have q := hn313; have q2 := hb35 (400 + nx7); omega
                  refine xg_cSi mX12_isLetter (vs := [(0, n312)]) (rest := []) (cn1 := 0) (sl1 := 0) rfl (mLetter (hI310) (by omega)) rfl rfl rfl rfl rfl rfl rfl (fun n319 w315 hq316 => ?_)
                  obtain ⟨hn320, hI317, hF318⟩ := hq316
                  by_cases hc321 : n319 = 0
                  · refine xg_t (xg_ifT (u := n319) rfl xnm0 (xj_eqT hc321)) ?_
                    refine xg_t (xg_blq rfl) ?_
                    refine xg_t (xg_aload (va := (2, 82)) rfl rfl) ?_
                    refine xg_t (xg_aload (va := (2, 82)) rfl rfl) ?_
                    refine xg_t (xg_getf (va := (0, nx7)) (hF318.get (by decide) (hF311.get (by decide) hcl302)) rfl) ?_
                    refine xg_t (xg_aload (va := (2, 82)) rfl rfl) ?_
                    refine xg_t (xg_getf (va := (0, wr7)) (hF318.get (by decide) (hF311.get (by decide) hcl302)) rfl) ?_
                    have hn322 : wr7 ≤ 4294967295 := hn292
                    by_cases hc323 : wr7 ≤ nx7
                    · refine xg_t (xg_isub (u := nx7) (v := wr7) (z := (nx7 + (4294967296 - wr7)) % 4294967296) xnm0 xnm0 (rfl)) ?_
                      refine xg_t (xg_bip) ?_
                      by_cases hc324 : xbs 6 < xbs ((nx7 + (4294967296 - wr7)) % 4294967296)
                      · have hc324u := hc324
                        unfold xbs at hc324u
                        have hn325 : (nx7 + (4294967296 - wr7)) % 4294967296 ≤ 2147483647 := by omega
                        refine xg_t (xg_icF (u := (nx7 + (4294967296 - wr7)) % 4294967296) (v := 6) rfl xnm0 xnm0 (xjs_leF hc324)) ?_
                        refine xg_t (xg_bip) ?_
                        refine xg_t (xg_goto) ?_
                        refine xg_t (xg_blq rfl) ?_
                        refine xg_putI (fl1 := [(2, 83), (2, 84), (0, ir7), (0, sg7), (0, sz7), (0, nx7), (0, wr7), (0, tk7), (0, nu7), (0, 99), (0, wg7), (2, 85), (2, 86), (2, 87), (0, ln7), (2, 88), (2, 89), (2, 90), (2, 91), (2, 92), (2, 93), (2, 94), (4, pt7), (4, wh7), (0, me7), (2, 95), (2, 96), (2, 97), (2, 98), (2, 99), (2, 100), (2, 101), (2, 102), (0, mt7), (2, 103), (2, 104), (2, 105), (2, 106), (2, 107), (2, 108), (2, 109), (0, pl7), (0, ps7), (2, 110), (2, 111), (2, 112), (2, 113)]) (hF318.get (by decide) (hF311.get (by decide) hcl302)) rfl rfl rfl (fun w326 hk327 hb328 => ?_)
                        refine xg_t (xg_aload (va := (2, 82)) rfl rfl) ?_
                        refine xg_t (xg_aload (va := (2, 82)) rfl rfl) ?_
                        refine xg_t (xg_getf (va := (0, 99)) hk327 rfl) ?_
                        refine xg_t (xg_bip) ?_
                        refine xg_t (xg_icF (u := 99) (v := 99) rfl xnm0 xnm0 (by decide)) ?_
                        refine xg_t (xg_const) ?_
                        refine xg_t (xg_goto) ?_
                        refine xg_t (xg_blq rfl) ?_
                        refine xg_putI (fl1 := [(2, 83), (2, 84), (0, ir7), (0, sg7), (0, sz7), (0, nx7), (0, wr7), (0, 4), (0, nu7), (0, 99), (0, wg7), (2, 85), (2, 86), (2, 87), (0, ln7), (2, 88), (2, 89), (2, 90), (2, 91), (2, 92), (2, 93), (2, 94), (4, pt7), (4, wh7), (0, me7), (2, 95), (2, 96), (2, 97), (2, 98), (2, 99), (2, 100), (2, 101), (2, 102), (0, mt7), (2, 103), (2, 104), (2, 105), (2, 106), (2, 107), (2, 108), (2, 109), (0, pl7), (0, ps7), (2, 110), (2, 111), (2, 112), (2, 113)]) hk327 rfl rfl rfl (fun w329 hk330 hb331 => ?_)
                        refine xg_t (xg_goto) ?_
                        refine xg_t (xg_blq rfl) ?_
                        have hf332 : fld w329 82 4 = sz7 := fld_of hk330
                        have hf333 : fld w329 82 5 = nx7 := fld_of hk330
                        have hf334 : fld w329 82 7 = 4 := fld_of hk330
                        have hf335 : fld w329 82 10 = wg7 := fld_of hk330
                        have hf336 : fld w329 82 14 = ln7 := fld_of hk330
                        have hu337 : mu w329 = 2 * (fld w329 82 4 - fld w329 82 5) + min 1 (fld w329 82 7) := rfl
                        have hu338 : mu w = 2 * (fld w 82 4 - fld w 82 5) + min 1 (fld w 82 7) := rfl
                        exact xg_e ⟨w329, ⟨rfl, rfl⟩, xMnv.up (S := [82]) hI317 ((xFr.of (S := [82]) hb328 (by decide)).tr (xFr.of (S := [82]) hb331 (by decide))) (List.forall_mem_cons.mpr ⟨xqu82 (show cp82 (wget w329 82) from xmC82 ir7 sg7 sz7 nx7 wr7 4 nu7 99 wg7 ln7 pt7 wh7 me7 mt7 pl7 ps7 hk330 hn288 hn289 hn290 hn291 hn292 (by decide) hn294 (by decide) hn296 hn297 hn298 hn299 hn300 hn301 (by omega)), fun _ h => absurd h List.not_mem_nil⟩), (((hF286.tr (hF311.up (by decide))).tr (hF318.up (by decide))).tr ((xFr.of (S := [82]) hb328 (by decide)).tr (xFr.of (S := [82]) hb331 (by decide)))), ⟨by omega, fun _ => by omega, by omega, by omega⟩⟩
                      · have hc324u := hc324
                        unfold xbs at hc324u
                        refine xg_t (xg_icT (u := (nx7 + (4294967296 - wr7)) % 4294967296) (v := 6) rfl xnm0 xnm0 (xjs_leT hc324)) ?_
                        refine xg_t (xg_blq rfl) ?_
                        refine xg_t (xg_aload (va := (2, 82)) rfl rfl) ?_
                        refine xg_t (xg_getf (va := (0, ir7)) (hF318.get (by decide) (hF311.get (by decide) hcl302)) rfl) ?_
                        by_cases hc339 : ir7 = 0
                        · refine xg_t (xg_ifT (u := ir7) rfl xnm0 (xj_eqT hc339)) ?_
                          refine xg_t (xg_blq rfl) ?_
                          refine xg_t (xg_lload (u := v7) rfl) ?_
                          refine xg_cSi mX12_wordOf (vs := [(4, v7)]) (rest := [(2, 82)]) (cn1 := 0) (sl1 := 0) rfl (mWordOf (hI317)) rfl rfl rfl rfl rfl rfl rfl (fun n344 w340 hq341 => ?_)
                          obtain ⟨hn345, hI342, hF343⟩ := hq341
                          refine xg_t (xg_blq rfl) ?_
                          refine xg_putI (fl1 := [(2, 83), (2, 84), (0, ir7), (0, sg7), (0, sz7), (0, nx7), (0, wr7), (0, tk7), (0, nu7), (0, n344), (0, wg7), (2, 85), (2, 86), (2, 87), (0, ln7), (2, 88), (2, 89), (2, 90), (2, 91), (2, 92), (2, 93), (2, 94), (4, pt7), (4, wh7), (0, me7), (2, 95), (2, 96), (2, 97), (2, 98), (2, 99), (2, 100), (2, 101), (2, 102), (0, mt7), (2, 103), (2, 104), (2, 105), (2, 106), (2, 107), (2, 108), (2, 109), (0, pl7), (0, ps7), (2, 110), (2, 111), (2, 112), (2, 113)]) (hF343.get (by decide) (hF318.get (by decide) (hF311.get (by decide) hcl302))) rfl rfl rfl (fun w346 hk347 hb348 => ?_)
                          refine xg_t (xg_aload (va := (2, 82)) rfl rfl) ?_
                          refine xg_t (xg_aload (va := (2, 82)) rfl rfl) ?_
                          refine xg_t (xg_getf (va := (0, n344)) hk347 rfl) ?_
                          refine xg_t (xg_bip) ?_
                          by_cases hc349 : n344 = 99
                          · refine xg_t (xg_icF (u := n344) (v := 99) rfl xnm0 xnm0 (xj_neF hc349)) ?_
                            refine xg_t (xg_const) ?_
                            refine xg_t (xg_goto) ?_
                            refine xg_t (xg_blq rfl) ?_
                            refine xg_putI (fl1 := [(2, 83), (2, 84), (0, ir7), (0, sg7), (0, sz7), (0, nx7), (0, wr7), (0, 4), (0, nu7), (0, n344), (0, wg7), (2, 85), (2, 86), (2, 87), (0, ln7), (2, 88), (2, 89), (2, 90), (2, 91), (2, 92), (2, 93), (2, 94), (4, pt7), (4, wh7), (0, me7), (2, 95), (2, 96), (2, 97), (2, 98), (2, 99), (2, 100), (2, 101), (2, 102), (0, mt7), (2, 103), (2, 104), (2, 105), (2, 106), (2, 107), (2, 108), (2, 109), (0, pl7), (0, ps7), (2, 110), (2, 111), (2, 112), (2, 113)]) hk347 rfl rfl rfl (fun w350 hk351 hb352 => ?_)
                            refine xg_t (xg_goto) ?_
                            refine xg_t (xg_blq rfl) ?_
                            have hf353 : fld w350 82 4 = sz7 := fld_of hk351
                            have hf354 : fld w350 82 5 = nx7 := fld_of hk351
                            have hf355 : fld w350 82 7 = 4 := fld_of hk351
                            have hf356 : fld w350 82 10 = wg7 := fld_of hk351
                            have hf357 : fld w350 82 14 = ln7 := fld_of hk351
                            have hu358 : mu w350 = 2 * (fld w350 82 4 - fld w350 82 5) + min 1 (fld w350 82 7) := rfl
                            have hu359 : mu w = 2 * (fld w 82 4 - fld w 82 5) + min 1 (fld w 82 7) := rfl
                            exact xg_e ⟨w350, ⟨rfl, rfl⟩, xMnv.up (S := [82]) hI342 ((xFr.of (S := [82]) hb348 (by decide)).tr (xFr.of (S := [82]) hb352 (by decide))) (List.forall_mem_cons.mpr ⟨xqu82 (show cp82 (wget w350 82) from xmC82 ir7 sg7 sz7 nx7 wr7 4 nu7 n344 wg7 ln7 pt7 wh7 me7 mt7 pl7 ps7 hk351 hn288 hn289 hn290 hn291 hn292 (by decide) hn294 (by omega) hn296 hn297 hn298 hn299 hn300 hn301 (by omega)), fun _ h => absurd h List.not_mem_nil⟩), ((((hF286.tr (hF311.up (by decide))).tr (hF318.up (by decide))).tr (hF343.up (by decide))).tr ((xFr.of (S := [82]) hb348 (by decide)).tr (xFr.of (S := [82]) hb352 (by decide)))), ⟨by omega, fun _ => by omega, by omega, by omega⟩⟩
                          · refine xg_t (xg_icT (u := n344) (v := 99) rfl xnm0 xnm0 (xj_neT hc349)) ?_
                            refine xg_t (xg_blq rfl) ?_
                            refine xg_t (xg_const) ?_
                            refine xg_t (xg_blq rfl) ?_
                            refine xg_putI (fl1 := [(2, 83), (2, 84), (0, ir7), (0, sg7), (0, sz7), (0, nx7), (0, wr7), (0, 3), (0, nu7), (0, n344), (0, wg7), (2, 85), (2, 86), (2, 87), (0, ln7), (2, 88), (2, 89), (2, 90), (2, 91), (2, 92), (2, 93), (2, 94), (4, pt7), (4, wh7), (0, me7), (2, 95), (2, 96), (2, 97), (2, 98), (2, 99), (2, 100), (2, 101), (2, 102), (0, mt7), (2, 103), (2, 104), (2, 105), (2, 106), (2, 107), (2, 108), (2, 109), (0, pl7), (0, ps7), (2, 110), (2, 111), (2, 112), (2, 113)]) hk347 rfl rfl rfl (fun w360 hk361 hb362 => ?_)
                            refine xg_t (xg_goto) ?_
                            refine xg_t (xg_blq rfl) ?_
                            have hf363 : fld w360 82 4 = sz7 := fld_of hk361
                            have hf364 : fld w360 82 5 = nx7 := fld_of hk361
                            have hf365 : fld w360 82 7 = 3 := fld_of hk361
                            have hf366 : fld w360 82 10 = wg7 := fld_of hk361
                            have hf367 : fld w360 82 14 = ln7 := fld_of hk361
                            have hu368 : mu w360 = 2 * (fld w360 82 4 - fld w360 82 5) + min 1 (fld w360 82 7) := rfl
                            have hu369 : mu w = 2 * (fld w 82 4 - fld w 82 5) + min 1 (fld w 82 7) := rfl
                            exact xg_e ⟨w360, ⟨rfl, rfl⟩, xMnv.up (S := [82]) hI342 ((xFr.of (S := [82]) hb348 (by decide)).tr (xFr.of (S := [82]) hb362 (by decide))) (List.forall_mem_cons.mpr ⟨xqu82 (show cp82 (wget w360 82) from xmC82 ir7 sg7 sz7 nx7 wr7 3 nu7 n344 wg7 ln7 pt7 wh7 me7 mt7 pl7 ps7 hk361 hn288 hn289 hn290 hn291 hn292 (by decide) hn294 (by omega) hn296 hn297 hn298 hn299 hn300 hn301 (by omega)), fun _ h => absurd h List.not_mem_nil⟩), ((((hF286.tr (hF311.up (by decide))).tr (hF318.up (by decide))).tr (hF343.up (by decide))).tr ((xFr.of (S := [82]) hb348 (by decide)).tr (xFr.of (S := [82]) hb362 (by decide)))), ⟨by omega, fun _ => by omega, by omega, by omega⟩⟩
                        · refine xg_t (xg_ifF (u := ir7) rfl xnm0 (xj_eqF hc339)) ?_
                          refine xg_t (xg_lload (u := v7) rfl) ?_
                          refine xg_cSi mX12_ruleWordOf (vs := [(4, v7)]) (rest := [(2, 82)]) (cn1 := 0) (sl1 := 0) rfl (mRuleWordOf (hI317)) rfl rfl rfl rfl rfl rfl rfl (fun n374 w370 hq371 => ?_)
                          obtain ⟨hn375, hI372, hF373⟩ := hq371
                          refine xg_t (xg_goto) ?_
                          refine xg_t (xg_blq rfl) ?_
                          refine xg_putI (fl1 := [(2, 83), (2, 84), (0, ir7), (0, sg7), (0, sz7), (0, nx7), (0, wr7), (0, tk7), (0, nu7), (0, n374), (0, wg7), (2, 85), (2, 86), (2, 87), (0, ln7), (2, 88), (2, 89), (2, 90), (2, 91), (2, 92), (2, 93), (2, 94), (4, pt7), (4, wh7), (0, me7), (2, 95), (2, 96), (2, 97), (2, 98), (2, 99), (2, 100), (2, 101), (2, 102), (0, mt7), (2, 103), (2, 104), (2, 105), (2, 106), (2, 107), (2, 108), (2, 109), (0, pl7), (0, ps7), (2, 110), (2, 111), (2, 112), (2, 113)]) (hF373.get (by decide) (hF318.get (by decide) (hF311.get (by decide) hcl302))) rfl rfl rfl (fun w376 hk377 hb378 => ?_)
                          refine xg_t (xg_aload (va := (2, 82)) rfl rfl) ?_
                          refine xg_t (xg_aload (va := (2, 82)) rfl rfl) ?_
                          refine xg_t (xg_getf (va := (0, n374)) hk377 rfl) ?_
                          refine xg_t (xg_bip) ?_
                          by_cases hc379 : n374 = 99
                          · refine xg_t (xg_icF (u := n374) (v := 99) rfl xnm0 xnm0 (xj_neF hc379)) ?_
                            refine xg_t (xg_const) ?_
                            refine xg_t (xg_goto) ?_
                            refine xg_t (xg_blq rfl) ?_
                            refine xg_putI (fl1 := [(2, 83), (2, 84), (0, ir7), (0, sg7), (0, sz7), (0, nx7), (0, wr7), (0, 4), (0, nu7), (0, n374), (0, wg7), (2, 85), (2, 86), (2, 87), (0, ln7), (2, 88), (2, 89), (2, 90), (2, 91), (2, 92), (2, 93), (2, 94), (4, pt7), (4, wh7), (0, me7), (2, 95), (2, 96), (2, 97), (2, 98), (2, 99), (2, 100), (2, 101), (2, 102), (0, mt7), (2, 103), (2, 104), (2, 105), (2, 106), (2, 107), (2, 108), (2, 109), (0, pl7), (0, ps7), (2, 110), (2, 111), (2, 112), (2, 113)]) hk377 rfl rfl rfl (fun w380 hk381 hb382 => ?_)
                            refine xg_t (xg_goto) ?_
                            refine xg_t (xg_blq rfl) ?_
                            have hf383 : fld w380 82 4 = sz7 := fld_of hk381
                            have hf384 : fld w380 82 5 = nx7 := fld_of hk381
                            have hf385 : fld w380 82 7 = 4 := fld_of hk381
                            have hf386 : fld w380 82 10 = wg7 := fld_of hk381
                            have hf387 : fld w380 82 14 = ln7 := fld_of hk381
                            have hu388 : mu w380 = 2 * (fld w380 82 4 - fld w380 82 5) + min 1 (fld w380 82 7) := rfl
                            have hu389 : mu w = 2 * (fld w 82 4 - fld w 82 5) + min 1 (fld w 82 7) := rfl
                            exact xg_e ⟨w380, ⟨rfl, rfl⟩, xMnv.up (S := [82]) hI372 ((xFr.of (S := [82]) hb378 (by decide)).tr (xFr.of (S := [82]) hb382 (by decide))) (List.forall_mem_cons.mpr ⟨xqu82 (show cp82 (wget w380 82) from xmC82 ir7 sg7 sz7 nx7 wr7 4 nu7 n374 wg7 ln7 pt7 wh7 me7 mt7 pl7 ps7 hk381 hn288 hn289 hn290 hn291 hn292 (by decide) hn294 (by omega) hn296 hn297 hn298 hn299 hn300 hn301 (by omega)), fun _ h => absurd h List.not_mem_nil⟩), ((((hF286.tr (hF311.up (by decide))).tr (hF318.up (by decide))).tr (hF373.up (by decide))).tr ((xFr.of (S := [82]) hb378 (by decide)).tr (xFr.of (S := [82]) hb382 (by decide)))), ⟨by omega, fun _ => by omega, by omega, by omega⟩⟩
                          · refine xg_t (xg_icT (u := n374) (v := 99) rfl xnm0 xnm0 (xj_neT hc379)) ?_
                            refine xg_t (xg_blq rfl) ?_
                            refine xg_t (xg_const) ?_
                            refine xg_t (xg_blq rfl) ?_
                            refine xg_putI (fl1 := [(2, 83), (2, 84), (0, ir7), (0, sg7), (0, sz7), (0, nx7), (0, wr7), (0, 3), (0, nu7), (0, n374), (0, wg7), (2, 85), (2, 86), (2, 87), (0, ln7), (2, 88), (2, 89), (2, 90), (2, 91), (2, 92), (2, 93), (2, 94), (4, pt7), (4, wh7), (0, me7), (2, 95), (2, 96), (2, 97), (2, 98), (2, 99), (2, 100), (2, 101), (2, 102), (0, mt7), (2, 103), (2, 104), (2, 105), (2, 106), (2, 107), (2, 108), (2, 109), (0, pl7), (0, ps7), (2, 110), (2, 111), (2, 112), (2, 113)]) hk377 rfl rfl rfl (fun w390 hk391 hb392 => ?_)
                            refine xg_t (xg_goto) ?_
                            refine xg_t (xg_blq rfl) ?_
                            have hf393 : fld w390 82 4 = sz7 := fld_of hk391
                            have hf394 : fld w390 82 5 = nx7 := fld_of hk391
                            have hf395 : fld w390 82 7 = 3 := fld_of hk391
                            have hf396 : fld w390 82 10 = wg7 := fld_of hk391
                            have hf397 : fld w390 82 14 = ln7 := fld_of hk391
                            have hu398 : mu w390 = 2 * (fld w390 82 4 - fld w390 82 5) + min 1 (fld w390 82 7) := rfl
                            have hu399 : mu w = 2 * (fld w 82 4 - fld w 82 5) + min 1 (fld w 82 7) := rfl
                            exact xg_e ⟨w390, ⟨rfl, rfl⟩, xMnv.up (S := [82]) hI372 ((xFr.of (S := [82]) hb378 (by decide)).tr (xFr.of (S := [82]) hb392 (by decide))) (List.forall_mem_cons.mpr ⟨xqu82 (show cp82 (wget w390 82) from xmC82 ir7 sg7 sz7 nx7 wr7 3 nu7 n374 wg7 ln7 pt7 wh7 me7 mt7 pl7 ps7 hk391 hn288 hn289 hn290 hn291 hn292 (by decide) hn294 (by omega) hn296 hn297 hn298 hn299 hn300 hn301 (by omega)), fun _ h => absurd h List.not_mem_nil⟩), ((((hF286.tr (hF311.up (by decide))).tr (hF318.up (by decide))).tr (hF373.up (by decide))).tr ((xFr.of (S := [82]) hb378 (by decide)).tr (xFr.of (S := [82]) hb392 (by decide)))), ⟨by omega, fun _ => by omega, by omega, by omega⟩⟩
                    · have hz402 : 2147483649 ≤ (nx7 + (4294967296 - wr7)) % 4294967296 := by omega
                      refine xg_t (xg_isub (u := nx7) (v := wr7) (z := (nx7 + (4294967296 - wr7)) % 4294967296) xnm0 xnm0 rfl) ?_
                      have hz401 : (nx7 + (4294967296 - wr7)) % 4294967296 < 4294967296 := Nat.mod_lt _ (by decide)
                      generalize (nx7 + (4294967296 - wr7)) % 4294967296 = z400 at hz402 hz401 ⊢
                      refine xg_t (xg_bip) ?_
                      refine xg_t (xg_icT (u := z400) (v := 6) rfl xnm0 xnm0 (xjs_leT (by unfold xbs; omega))) ?_
                      refine xg_t (xg_blq rfl) ?_
                      refine xg_t (xg_aload (va := (2, 82)) rfl rfl) ?_
                      refine xg_t (xg_getf (va := (0, ir7)) (hF318.get (by decide) (hF311.get (by decide) hcl302)) rfl) ?_
                      by_cases hc403 : ir7 = 0
                      · refine xg_t (xg_ifT (u := ir7) rfl xnm0 (xj_eqT hc403)) ?_
                        refine xg_t (xg_blq rfl) ?_
                        refine xg_t (xg_lload (u := v7) rfl) ?_
                        refine xg_cSi mX12_wordOf (vs := [(4, v7)]) (rest := [(2, 82)]) (cn1 := 0) (sl1 := 0) rfl (mWordOf (hI317)) rfl rfl rfl rfl rfl rfl rfl (fun n408 w404 hq405 => ?_)
                        obtain ⟨hn409, hI406, hF407⟩ := hq405
                        refine xg_t (xg_blq rfl) ?_
                        refine xg_putI (fl1 := [(2, 83), (2, 84), (0, ir7), (0, sg7), (0, sz7), (0, nx7), (0, wr7), (0, tk7), (0, nu7), (0, n408), (0, wg7), (2, 85), (2, 86), (2, 87), (0, ln7), (2, 88), (2, 89), (2, 90), (2, 91), (2, 92), (2, 93), (2, 94), (4, pt7), (4, wh7), (0, me7), (2, 95), (2, 96), (2, 97), (2, 98), (2, 99), (2, 100), (2, 101), (2, 102), (0, mt7), (2, 103), (2, 104), (2, 105), (2, 106), (2, 107), (2, 108), (2, 109), (0, pl7), (0, ps7), (2, 110), (2, 111), (2, 112), (2, 113)]) (hF407.get (by decide) (hF318.get (by decide) (hF311.get (by decide) hcl302))) rfl rfl rfl (fun w410 hk411 hb412 => ?_)
                        refine xg_t (xg_aload (va := (2, 82)) rfl rfl) ?_
                        refine xg_t (xg_aload (va := (2, 82)) rfl rfl) ?_
                        refine xg_t (xg_getf (va := (0, n408)) hk411 rfl) ?_
                        refine xg_t (xg_bip) ?_
                        by_cases hc413 : n408 = 99
                        · refine xg_t (xg_icF (u := n408) (v := 99) rfl xnm0 xnm0 (xj_neF hc413)) ?_
                          refine xg_t (xg_const) ?_
                          refine xg_t (xg_goto) ?_
                          refine xg_t (xg_blq rfl) ?_
                          refine xg_putI (fl1 := [(2, 83), (2, 84), (0, ir7), (0, sg7), (0, sz7), (0, nx7), (0, wr7), (0, 4), (0, nu7), (0, n408), (0, wg7), (2, 85), (2, 86), (2, 87), (0, ln7), (2, 88), (2, 89), (2, 90), (2, 91), (2, 92), (2, 93), (2, 94), (4, pt7), (4, wh7), (0, me7), (2, 95), (2, 96), (2, 97), (2, 98), (2, 99), (2, 100), (2, 101), (2, 102), (0, mt7), (2, 103), (2, 104), (2, 105), (2, 106), (2, 107), (2, 108), (2, 109), (0, pl7), (0, ps7), (2, 110), (2, 111), (2, 112), (2, 113)]) hk411 rfl rfl rfl (fun w414 hk415 hb416 => ?_)
                          refine xg_t (xg_goto) ?_
                          refine xg_t (xg_blq rfl) ?_
                          have hf417 : fld w414 82 4 = sz7 := fld_of hk415
                          have hf418 : fld w414 82 5 = nx7 := fld_of hk415
                          have hf419 : fld w414 82 7 = 4 := fld_of hk415
                          have hf420 : fld w414 82 10 = wg7 := fld_of hk415
                          have hf421 : fld w414 82 14 = ln7 := fld_of hk415
                          have hu422 : mu w414 = 2 * (fld w414 82 4 - fld w414 82 5) + min 1 (fld w414 82 7) := rfl
                          have hu423 : mu w = 2 * (fld w 82 4 - fld w 82 5) + min 1 (fld w 82 7) := rfl
                          exact xg_e ⟨w414, ⟨rfl, rfl⟩, xMnv.up (S := [82]) hI406 ((xFr.of (S := [82]) hb412 (by decide)).tr (xFr.of (S := [82]) hb416 (by decide))) (List.forall_mem_cons.mpr ⟨xqu82 (show cp82 (wget w414 82) from xmC82 ir7 sg7 sz7 nx7 wr7 4 nu7 n408 wg7 ln7 pt7 wh7 me7 mt7 pl7 ps7 hk415 hn288 hn289 hn290 hn291 hn292 (by decide) hn294 (by omega) hn296 hn297 hn298 hn299 hn300 hn301 (by omega)), fun _ h => absurd h List.not_mem_nil⟩), ((((hF286.tr (hF311.up (by decide))).tr (hF318.up (by decide))).tr (hF407.up (by decide))).tr ((xFr.of (S := [82]) hb412 (by decide)).tr (xFr.of (S := [82]) hb416 (by decide)))), ⟨by omega, fun _ => by omega, by omega, by omega⟩⟩
                        · refine xg_t (xg_icT (u := n408) (v := 99) rfl xnm0 xnm0 (xj_neT hc413)) ?_
                          refine xg_t (xg_blq rfl) ?_
                          refine xg_t (xg_const) ?_
                          refine xg_t (xg_blq rfl) ?_
                          refine xg_putI (fl1 := [(2, 83), (2, 84), (0, ir7), (0, sg7), (0, sz7), (0, nx7), (0, wr7), (0, 3), (0, nu7), (0, n408), (0, wg7), (2, 85), (2, 86), (2, 87), (0, ln7), (2, 88), (2, 89), (2, 90), (2, 91), (2, 92), (2, 93), (2, 94), (4, pt7), (4, wh7), (0, me7), (2, 95), (2, 96), (2, 97), (2, 98), (2, 99), (2, 100), (2, 101), (2, 102), (0, mt7), (2, 103), (2, 104), (2, 105), (2, 106), (2, 107), (2, 108), (2, 109), (0, pl7), (0, ps7), (2, 110), (2, 111), (2, 112), (2, 113)]) hk411 rfl rfl rfl (fun w424 hk425 hb426 => ?_)
                          refine xg_t (xg_goto) ?_
                          refine xg_t (xg_blq rfl) ?_
                          have hf427 : fld w424 82 4 = sz7 := fld_of hk425
                          have hf428 : fld w424 82 5 = nx7 := fld_of hk425
                          have hf429 : fld w424 82 7 = 3 := fld_of hk425
                          have hf430 : fld w424 82 10 = wg7 := fld_of hk425
                          have hf431 : fld w424 82 14 = ln7 := fld_of hk425
                          have hu432 : mu w424 = 2 * (fld w424 82 4 - fld w424 82 5) + min 1 (fld w424 82 7) := rfl
                          have hu433 : mu w = 2 * (fld w 82 4 - fld w 82 5) + min 1 (fld w 82 7) := rfl
                          exact xg_e ⟨w424, ⟨rfl, rfl⟩, xMnv.up (S := [82]) hI406 ((xFr.of (S := [82]) hb412 (by decide)).tr (xFr.of (S := [82]) hb426 (by decide))) (List.forall_mem_cons.mpr ⟨xqu82 (show cp82 (wget w424 82) from xmC82 ir7 sg7 sz7 nx7 wr7 3 nu7 n408 wg7 ln7 pt7 wh7 me7 mt7 pl7 ps7 hk425 hn288 hn289 hn290 hn291 hn292 (by decide) hn294 (by omega) hn296 hn297 hn298 hn299 hn300 hn301 (by omega)), fun _ h => absurd h List.not_mem_nil⟩), ((((hF286.tr (hF311.up (by decide))).tr (hF318.up (by decide))).tr (hF407.up (by decide))).tr ((xFr.of (S := [82]) hb412 (by decide)).tr (xFr.of (S := [82]) hb426 (by decide)))), ⟨by omega, fun _ => by omega, by omega, by omega⟩⟩
                      · refine xg_t (xg_ifF (u := ir7) rfl xnm0 (xj_eqF hc403)) ?_
                        refine xg_t (xg_lload (u := v7) rfl) ?_
                        refine xg_cSi mX12_ruleWordOf (vs := [(4, v7)]) (rest := [(2, 82)]) (cn1 := 0) (sl1 := 0) rfl (mRuleWordOf (hI317)) rfl rfl rfl rfl rfl rfl rfl (fun n438 w434 hq435 => ?_)
                        obtain ⟨hn439, hI436, hF437⟩ := hq435
                        refine xg_t (xg_goto) ?_
                        refine xg_t (xg_blq rfl) ?_
                        refine xg_putI (fl1 := [(2, 83), (2, 84), (0, ir7), (0, sg7), (0, sz7), (0, nx7), (0, wr7), (0, tk7), (0, nu7), (0, n438), (0, wg7), (2, 85), (2, 86), (2, 87), (0, ln7), (2, 88), (2, 89), (2, 90), (2, 91), (2, 92), (2, 93), (2, 94), (4, pt7), (4, wh7), (0, me7), (2, 95), (2, 96), (2, 97), (2, 98), (2, 99), (2, 100), (2, 101), (2, 102), (0, mt7), (2, 103), (2, 104), (2, 105), (2, 106), (2, 107), (2, 108), (2, 109), (0, pl7), (0, ps7), (2, 110), (2, 111), (2, 112), (2, 113)]) (hF437.get (by decide) (hF318.get (by decide) (hF311.get (by decide) hcl302))) rfl rfl rfl (fun w440 hk441 hb442 => ?_)
                        refine xg_t (xg_aload (va := (2, 82)) rfl rfl) ?_
                        refine xg_t (xg_aload (va := (2, 82)) rfl rfl) ?_
                        refine xg_t (xg_getf (va := (0, n438)) hk441 rfl) ?_
                        refine xg_t (xg_bip) ?_
                        by_cases hc443 : n438 = 99
                        · refine xg_t (xg_icF (u := n438) (v := 99) rfl xnm0 xnm0 (xj_neF hc443)) ?_
                          refine xg_t (xg_const) ?_
                          refine xg_t (xg_goto) ?_
                          refine xg_t (xg_blq rfl) ?_
                          refine xg_putI (fl1 := [(2, 83), (2, 84), (0, ir7), (0, sg7), (0, sz7), (0, nx7), (0, wr7), (0, 4), (0, nu7), (0, n438), (0, wg7), (2, 85), (2, 86), (2, 87), (0, ln7), (2, 88), (2, 89), (2, 90), (2, 91), (2, 92), (2, 93), (2, 94), (4, pt7), (4, wh7), (0, me7), (2, 95), (2, 96), (2, 97), (2, 98), (2, 99), (2, 100), (2, 101), (2, 102), (0, mt7), (2, 103), (2, 104), (2, 105), (2, 106), (2, 107), (2, 108), (2, 109), (0, pl7), (0, ps7), (2, 110), (2, 111), (2, 112), (2, 113)]) hk441 rfl rfl rfl (fun w444 hk445 hb446 => ?_)
                          refine xg_t (xg_goto) ?_
                          refine xg_t (xg_blq rfl) ?_
                          have hf447 : fld w444 82 4 = sz7 := fld_of hk445
                          have hf448 : fld w444 82 5 = nx7 := fld_of hk445
                          have hf449 : fld w444 82 7 = 4 := fld_of hk445
                          have hf450 : fld w444 82 10 = wg7 := fld_of hk445
                          have hf451 : fld w444 82 14 = ln7 := fld_of hk445
                          have hu452 : mu w444 = 2 * (fld w444 82 4 - fld w444 82 5) + min 1 (fld w444 82 7) := rfl
                          have hu453 : mu w = 2 * (fld w 82 4 - fld w 82 5) + min 1 (fld w 82 7) := rfl
                          exact xg_e ⟨w444, ⟨rfl, rfl⟩, xMnv.up (S := [82]) hI436 ((xFr.of (S := [82]) hb442 (by decide)).tr (xFr.of (S := [82]) hb446 (by decide))) (List.forall_mem_cons.mpr ⟨xqu82 (show cp82 (wget w444 82) from xmC82 ir7 sg7 sz7 nx7 wr7 4 nu7 n438 wg7 ln7 pt7 wh7 me7 mt7 pl7 ps7 hk445 hn288 hn289 hn290 hn291 hn292 (by decide) hn294 (by omega) hn296 hn297 hn298 hn299 hn300 hn301 (by omega)), fun _ h => absurd h List.not_mem_nil⟩), ((((hF286.tr (hF311.up (by decide))).tr (hF318.up (by decide))).tr (hF437.up (by decide))).tr ((xFr.of (S := [82]) hb442 (by decide)).tr (xFr.of (S := [82]) hb446 (by decide)))), ⟨by omega, fun _ => by omega, by omega, by omega⟩⟩
                        · refine xg_t (xg_icT (u := n438) (v := 99) rfl xnm0 xnm0 (xj_neT hc443)) ?_
                          refine xg_t (xg_blq rfl) ?_
                          refine xg_t (xg_const) ?_
                          refine xg_t (xg_blq rfl) ?_
                          refine xg_putI (fl1 := [(2, 83), (2, 84), (0, ir7), (0, sg7), (0, sz7), (0, nx7), (0, wr7), (0, 3), (0, nu7), (0, n438), (0, wg7), (2, 85), (2, 86), (2, 87), (0, ln7), (2, 88), (2, 89), (2, 90), (2, 91), (2, 92), (2, 93), (2, 94), (4, pt7), (4, wh7), (0, me7), (2, 95), (2, 96), (2, 97), (2, 98), (2, 99), (2, 100), (2, 101), (2, 102), (0, mt7), (2, 103), (2, 104), (2, 105), (2, 106), (2, 107), (2, 108), (2, 109), (0, pl7), (0, ps7), (2, 110), (2, 111), (2, 112), (2, 113)]) hk441 rfl rfl rfl (fun w454 hk455 hb456 => ?_)
                          refine xg_t (xg_goto) ?_
                          refine xg_t (xg_blq rfl) ?_
                          have hf457 : fld w454 82 4 = sz7 := fld_of hk455
                          have hf458 : fld w454 82 5 = nx7 := fld_of hk455
                          have hf459 : fld w454 82 7 = 3 := fld_of hk455
                          have hf460 : fld w454 82 10 = wg7 := fld_of hk455
                          have hf461 : fld w454 82 14 = ln7 := fld_of hk455
                          have hu462 : mu w454 = 2 * (fld w454 82 4 - fld w454 82 5) + min 1 (fld w454 82 7) := rfl
                          have hu463 : mu w = 2 * (fld w 82 4 - fld w 82 5) + min 1 (fld w 82 7) := rfl
                          exact xg_e ⟨w454, ⟨rfl, rfl⟩, xMnv.up (S := [82]) hI436 ((xFr.of (S := [82]) hb442 (by decide)).tr (xFr.of (S := [82]) hb456 (by decide))) (List.forall_mem_cons.mpr ⟨xqu82 (show cp82 (wget w454 82) from xmC82 ir7 sg7 sz7 nx7 wr7 3 nu7 n438 wg7 ln7 pt7 wh7 me7 mt7 pl7 ps7 hk455 hn288 hn289 hn290 hn291 hn292 (by decide) hn294 (by omega) hn296 hn297 hn298 hn299 hn300 hn301 (by omega)), fun _ h => absurd h List.not_mem_nil⟩), ((((hF286.tr (hF311.up (by decide))).tr (hF318.up (by decide))).tr (hF437.up (by decide))).tr ((xFr.of (S := [82]) hb442 (by decide)).tr (xFr.of (S := [82]) hb456 (by decide)))), ⟨by omega, fun _ => by omega, by omega, by omega⟩⟩
                  · refine xg_t (xg_ifF (u := n319) rfl xnm0 (xj_eqF hc321)) ?_
                    refine xg_t (xg_aload (va := (2, 82)) rfl rfl) ?_
                    refine xg_t (xg_getf (va := (0, nx7)) (hF318.get (by decide) (hF311.get (by decide) hcl302)) rfl) ?_
                    refine xg_t (xg_aload (va := (2, 82)) rfl rfl) ?_
                    refine xg_t (xg_getf (va := (0, wr7)) (hF318.get (by decide) (hF311.get (by decide) hcl302)) rfl) ?_
                    have hn464 : wr7 ≤ 4294967295 := hn292
                    by_cases hc465 : wr7 ≤ nx7
                    · refine xg_t (xg_isub (u := nx7) (v := wr7) (z := (nx7 + (4294967296 - wr7)) % 4294967296) xnm0 xnm0 (rfl)) ?_
                      refine xg_t (xg_bip) ?_
                      by_cases hc466 : xbs ((nx7 + (4294967296 - wr7)) % 4294967296) < xbs 7
                      · have hc466u := hc466
                        unfold xbs at hc466u
                        refine xg_t (xg_icF (u := (nx7 + (4294967296 - wr7)) % 4294967296) (v := 7) rfl xnm0 xnm0 (xjs_geF hc466)) ?_
                        refine xg_t (xg_ldc2) ?_
                        refine xg_t (xg_lload (u := v7) rfl) ?_
                        refine xg_kl (xg_lmul (u := 32) (v := v7)) (fun l467 => ?_)
                        refine xg_t (xg_aload (va := (2, 82)) rfl rfl) ?_
                        refine xg_t (xg_aload (va := (2, 82)) rfl rfl) ?_
                        refine xg_t (xg_getf (va := (0, nx7)) (hF318.get (by decide) (hF311.get (by decide) hcl302)) rfl) ?_
                        have hf468 : fld w315 82 4 = sz7 := fld_of (hF318.get (by decide) (hF311.get (by decide) hcl302))
                        refine xg_cVi mX12_byteAt (vs := [(0, nx7)]) (rest := [(4, l467)]) (cn1 := 0) (sl1 := 0) rfl (mByteAt (hI317) (by omega) (((h83_34.fr hF286 (by decide)).fr hF311 (by decide)).fr hF318 (by decide)) hb35 hx36) rfl (hF318.get (by decide) (hF311.get (by decide) hcl302)) rfl rfl rfl rfl rfl rfl (fun n473 w469 hq470 => ?_)
                        obtain ⟨hn474, hI471, hF472⟩ := hq470
                        have hl475 : n473 ≤ 4294967295 := by have q := hn474; have q2 := hb35 (400 + nx7); omega
                        refine xg_kl (xg_i2l (u := n473) xnm0) (fun l476 => ?_)
                        refine xg_kl (xg_ladd (u := l467) (v := l476)) (fun l477 => ?_)
                        refine xg_t (xg_ldc2) ?_
                        refine xg_kl (xg_lsub (u := l477) (v := 96)) (fun l478 => ?_)
                        refine xg_t (xg_lstore (l1 := [(0, (2, 82)), (1, (0, n98))]) rfl rfl) ?_
                        refine xg_t (xg_blq rfl) ?_
                        refine xg_t (xg_aload (va := (2, 82)) rfl rfl) ?_
                        refine xg_t (xg_dup rfl) ?_
                        refine xg_t (xg_getf (va := (0, nx7)) (hF472.get (by decide) (hF318.get (by decide) (hF311.get (by decide) hcl302))) rfl) ?_
                        refine xg_t (xg_const) ?_
                        refine xg_t (xg_iadd (u := nx7) (v := 1) (z := nx7 + 1) xnm0 xnm0 (by omega)) ?_
                        refine xg_putI (fl1 := [(2, 83), (2, 84), (0, ir7), (0, sg7), (0, sz7), (0, nx7 + 1), (0, wr7), (0, tk7), (0, nu7), (0, wo7), (0, wg7), (2, 85), (2, 86), (2, 87), (0, ln7), (2, 88), (2, 89), (2, 90), (2, 91), (2, 92), (2, 93), (2, 94), (4, pt7), (4, wh7), (0, me7), (2, 95), (2, 96), (2, 97), (2, 98), (2, 99), (2, 100), (2, 101), (2, 102), (0, mt7), (2, 103), (2, 104), (2, 105), (2, 106), (2, 107), (2, 108), (2, 109), (0, pl7), (0, ps7), (2, 110), (2, 111), (2, 112), (2, 113)]) (hF472.get (by decide) (hF318.get (by decide) (hF311.get (by decide) hcl302))) rfl rfl rfl (fun w479 hk480 hb481 => ?_)
                        refine xg_t (xg_goto) ?_
                        refine xg_t (xg_drop (l1 := [(0, (2, 82)), (1, (0, n98)), (2, (4, l478))]) (List.forall_mem_cons.mpr ⟨List.mem_cons_of_mem _ (List.mem_cons_self), List.forall_mem_cons.mpr ⟨List.mem_cons_of_mem _ (List.mem_cons_of_mem _ (List.mem_cons_self)), List.forall_mem_cons.mpr ⟨List.mem_cons_self, fun _ h => absurd h List.not_mem_nil⟩⟩⟩)) ?_
                        exact ih282 l478 ir7 sg7 sz7 (nx7 + 1) wr7 tk7 nu7 wo7 wg7 ln7 pt7 wh7 me7 mt7 pl7 ps7 w479 (by omega) (by omega) (hn288) (hn289) (hn290) (by omega) (hn292) (hn293) (hn294) (hn295) (hn296) (hn297) (hn298) (hn299) (hn300) (hn301) hk480 (by omega) (xMnv.up (S := [82]) hI471 (xFr.of (S := [82]) hb481 (by decide)) (List.forall_mem_cons.mpr ⟨xqu82 (show cp82 (wget w479 82) from xmC82 ir7 sg7 sz7 (nx7 + 1) wr7 tk7 nu7 wo7 wg7 ln7 pt7 wh7 me7 mt7 pl7 ps7 hk480 hn288 hn289 hn290 (by omega) hn292 hn293 hn294 hn295 hn296 hn297 hn298 hn299 hn300 hn301 (by omega)), fun _ h => absurd h List.not_mem_nil⟩)) (((((hF286.tr (hF311.up (by decide))).tr (hF318.up (by decide))).tr (hF472.up (by decide))).tr (xFr.of (S := [82]) hb481 (by decide)))) (by omega)
                      · have hc466u := hc466
                        unfold xbs at hc466u
                        have hn482 : (nx7 + (4294967296 - wr7)) % 4294967296 ≤ 2147483647 := by omega
                        refine xg_t (xg_icT (u := (nx7 + (4294967296 - wr7)) % 4294967296) (v := 7) rfl xnm0 xnm0 (xjs_geT hc466)) ?_
                        refine xg_t (xg_blq rfl) ?_
                        refine xg_t (xg_aload (va := (2, 82)) rfl rfl) ?_
                        refine xg_t (xg_dup rfl) ?_
                        refine xg_t (xg_getf (va := (0, nx7)) (hF318.get (by decide) (hF311.get (by decide) hcl302)) rfl) ?_
                        refine xg_t (xg_const) ?_
                        refine xg_t (xg_iadd (u := nx7) (v := 1) (z := nx7 + 1) xnm0 xnm0 (by omega)) ?_
                        refine xg_putI (fl1 := [(2, 83), (2, 84), (0, ir7), (0, sg7), (0, sz7), (0, nx7 + 1), (0, wr7), (0, tk7), (0, nu7), (0, wo7), (0, wg7), (2, 85), (2, 86), (2, 87), (0, ln7), (2, 88), (2, 89), (2, 90), (2, 91), (2, 92), (2, 93), (2, 94), (4, pt7), (4, wh7), (0, me7), (2, 95), (2, 96), (2, 97), (2, 98), (2, 99), (2, 100), (2, 101), (2, 102), (0, mt7), (2, 103), (2, 104), (2, 105), (2, 106), (2, 107), (2, 108), (2, 109), (0, pl7), (0, ps7), (2, 110), (2, 111), (2, 112), (2, 113)]) (hF318.get (by decide) (hF311.get (by decide) hcl302)) rfl rfl rfl (fun w483 hk484 hb485 => ?_)
                        refine xg_t (xg_goto) ?_
                        exact ih282 v7 ir7 sg7 sz7 (nx7 + 1) wr7 tk7 nu7 wo7 wg7 ln7 pt7 wh7 me7 mt7 pl7 ps7 w483 (by omega) (by omega) (hn288) (hn289) (hn290) (by omega) (hn292) (hn293) (hn294) (hn295) (hn296) (hn297) (hn298) (hn299) (hn300) (hn301) hk484 (by omega) (xMnv.up (S := [82]) hI317 (xFr.of (S := [82]) hb485 (by decide)) (List.forall_mem_cons.mpr ⟨xqu82 (show cp82 (wget w483 82) from xmC82 ir7 sg7 sz7 (nx7 + 1) wr7 tk7 nu7 wo7 wg7 ln7 pt7 wh7 me7 mt7 pl7 ps7 hk484 hn288 hn289 hn290 (by omega) hn292 hn293 hn294 hn295 hn296 hn297 hn298 hn299 hn300 hn301 (by omega)), fun _ h => absurd h List.not_mem_nil⟩)) ((((hF286.tr (hF311.up (by decide))).tr (hF318.up (by decide))).tr (xFr.of (S := [82]) hb485 (by decide)))) (by omega)
                    · have hz488 : 2147483649 ≤ (nx7 + (4294967296 - wr7)) % 4294967296 := by omega
                      refine xg_t (xg_isub (u := nx7) (v := wr7) (z := (nx7 + (4294967296 - wr7)) % 4294967296) xnm0 xnm0 rfl) ?_
                      have hz487 : (nx7 + (4294967296 - wr7)) % 4294967296 < 4294967296 := Nat.mod_lt _ (by decide)
                      generalize (nx7 + (4294967296 - wr7)) % 4294967296 = z486 at hz488 hz487 ⊢
                      refine xg_t (xg_bip) ?_
                      refine xg_t (xg_icF (u := z486) (v := 7) rfl xnm0 xnm0 (xjs_geF (by unfold xbs; omega))) ?_
                      refine xg_t (xg_ldc2) ?_
                      refine xg_t (xg_lload (u := v7) rfl) ?_
                      refine xg_kl (xg_lmul (u := 32) (v := v7)) (fun l489 => ?_)
                      refine xg_t (xg_aload (va := (2, 82)) rfl rfl) ?_
                      refine xg_t (xg_aload (va := (2, 82)) rfl rfl) ?_
                      refine xg_t (xg_getf (va := (0, nx7)) (hF318.get (by decide) (hF311.get (by decide) hcl302)) rfl) ?_
                      have hf490 : fld w315 82 4 = sz7 := fld_of (hF318.get (by decide) (hF311.get (by decide) hcl302))
                      refine xg_cVi mX12_byteAt (vs := [(0, nx7)]) (rest := [(4, l489)]) (cn1 := 0) (sl1 := 0) rfl (mByteAt (hI317) (by omega) (((h83_34.fr hF286 (by decide)).fr hF311 (by decide)).fr hF318 (by decide)) hb35 hx36) rfl (hF318.get (by decide) (hF311.get (by decide) hcl302)) rfl rfl rfl rfl rfl rfl (fun n495 w491 hq492 => ?_)
                      obtain ⟨hn496, hI493, hF494⟩ := hq492
                      have hl497 : n495 ≤ 4294967295 := by have q := hn496; have q2 := hb35 (400 + nx7); omega
                      refine xg_kl (xg_i2l (u := n495) xnm0) (fun l498 => ?_)
                      refine xg_kl (xg_ladd (u := l489) (v := l498)) (fun l499 => ?_)
                      refine xg_t (xg_ldc2) ?_
                      refine xg_kl (xg_lsub (u := l499) (v := 96)) (fun l500 => ?_)
                      refine xg_t (xg_lstore (l1 := [(0, (2, 82)), (1, (0, n98))]) rfl rfl) ?_
                      refine xg_t (xg_blq rfl) ?_
                      refine xg_t (xg_aload (va := (2, 82)) rfl rfl) ?_
                      refine xg_t (xg_dup rfl) ?_
                      refine xg_t (xg_getf (va := (0, nx7)) (hF494.get (by decide) (hF318.get (by decide) (hF311.get (by decide) hcl302))) rfl) ?_
                      refine xg_t (xg_const) ?_
                      refine xg_t (xg_iadd (u := nx7) (v := 1) (z := nx7 + 1) xnm0 xnm0 (by omega)) ?_
                      refine xg_putI (fl1 := [(2, 83), (2, 84), (0, ir7), (0, sg7), (0, sz7), (0, nx7 + 1), (0, wr7), (0, tk7), (0, nu7), (0, wo7), (0, wg7), (2, 85), (2, 86), (2, 87), (0, ln7), (2, 88), (2, 89), (2, 90), (2, 91), (2, 92), (2, 93), (2, 94), (4, pt7), (4, wh7), (0, me7), (2, 95), (2, 96), (2, 97), (2, 98), (2, 99), (2, 100), (2, 101), (2, 102), (0, mt7), (2, 103), (2, 104), (2, 105), (2, 106), (2, 107), (2, 108), (2, 109), (0, pl7), (0, ps7), (2, 110), (2, 111), (2, 112), (2, 113)]) (hF494.get (by decide) (hF318.get (by decide) (hF311.get (by decide) hcl302))) rfl rfl rfl (fun w501 hk502 hb503 => ?_)
                      refine xg_t (xg_goto) ?_
                      refine xg_t (xg_drop (l1 := [(0, (2, 82)), (1, (0, n98)), (2, (4, l500))]) (List.forall_mem_cons.mpr ⟨List.mem_cons_of_mem _ (List.mem_cons_self), List.forall_mem_cons.mpr ⟨List.mem_cons_of_mem _ (List.mem_cons_of_mem _ (List.mem_cons_self)), List.forall_mem_cons.mpr ⟨List.mem_cons_self, fun _ h => absurd h List.not_mem_nil⟩⟩⟩)) ?_
                      exact ih282 l500 ir7 sg7 sz7 (nx7 + 1) wr7 tk7 nu7 wo7 wg7 ln7 pt7 wh7 me7 mt7 pl7 ps7 w501 (by omega) (by omega) (hn288) (hn289) (hn290) (by omega) (hn292) (hn293) (hn294) (hn295) (hn296) (hn297) (hn298) (hn299) (hn300) (hn301) hk502 (by omega) (xMnv.up (S := [82]) hI493 (xFr.of (S := [82]) hb503 (by decide)) (List.forall_mem_cons.mpr ⟨xqu82 (show cp82 (wget w501 82) from xmC82 ir7 sg7 sz7 (nx7 + 1) wr7 tk7 nu7 wo7 wg7 ln7 pt7 wh7 me7 mt7 pl7 ps7 hk502 hn288 hn289 hn290 (by omega) hn292 hn293 hn294 hn295 hn296 hn297 hn298 hn299 hn300 hn301 (by omega)), fun _ h => absurd h List.not_mem_nil⟩)) (((((hF286.tr (hF311.up (by decide))).tr (hF318.up (by decide))).tr (hF494.up (by decide))).tr (xFr.of (S := [82]) hb503 (by decide)))) (by omega)
              exact key281 _ 0 ir0 sg0 sz0 nx0 nx0 tk0 nu0 wo0 wg0 ln0 pt0 wh0 me0 mt0 pl0 ps0 w102 (Nat.lt_succ_self _) (by omega) (hn48) (hn49) (hn50) (hn51) (by omega) (hn53) (hn54) (hn55) (hn56) (hn57) (hn58) (hn59) (hn60) (hn61) (hF105.get (by decide) (hF97.get (by decide) hk91)) (by omega) (hI104) ((((((hF47.tr (hF70.up (by decide))).tr (hF82.up (by decide))).tr (xFr.of (S := [82]) hb92 (by decide))).tr (hF97.up (by decide))).tr (hF105.up (by decide)))) (by omega)
          · refine xg_t (xg_ifF (u := n98) rfl xnm0 (xjz_geF (by omega) (by omega))) ?_
            refine xg_t (xg_aload (va := (2, 82)) rfl rfl) ?_
            refine xg_t (xg_const) ?_
            refine xg_putI (fl1 := [(2, 83), (2, 84), (0, ir0), (0, sg0), (0, sz0), (0, nx0), (0, nx0), (0, 0), (0, nu0), (0, wo0), (0, wg0), (2, 85), (2, 86), (2, 87), (0, ln0), (2, 88), (2, 89), (2, 90), (2, 91), (2, 92), (2, 93), (2, 94), (4, pt0), (4, wh0), (0, me0), (2, 95), (2, 96), (2, 97), (2, 98), (2, 99), (2, 100), (2, 101), (2, 102), (0, mt0), (2, 103), (2, 104), (2, 105), (2, 106), (2, 107), (2, 108), (2, 109), (0, pl0), (0, ps0), (2, 110), (2, 111), (2, 112), (2, 113)]) (hF97.get (by decide) hk91) rfl rfl rfl (fun w504 hk505 hb506 => ?_)
            refine xg_t (xg_goto) ?_
            refine xg_t (xg_blq rfl) ?_
            have hf507 : fld w504 82 4 = sz0 := fld_of hk505
            have hf508 : fld w504 82 5 = nx0 := fld_of hk505
            have hf509 : fld w504 82 7 = 0 := fld_of hk505
            have hf510 : fld w504 82 10 = wg0 := fld_of hk505
            have hf511 : fld w504 82 14 = ln0 := fld_of hk505
            have hu512 : mu w504 = 2 * (fld w504 82 4 - fld w504 82 5) + min 1 (fld w504 82 7) := rfl
            have hu513 : mu w = 2 * (fld w 82 4 - fld w 82 5) + min 1 (fld w 82 7) := rfl
            exact xg_e ⟨w504, ⟨rfl, rfl⟩, xMnv.up (S := [82]) hI96 (xFr.of (S := [82]) hb506 (by decide)) (List.forall_mem_cons.mpr ⟨xqu82 (show cp82 (wget w504 82) from xmC82 ir0 sg0 sz0 nx0 nx0 0 nu0 wo0 wg0 ln0 pt0 wh0 me0 mt0 pl0 ps0 hk505 hn48 hn49 hn50 hn51 (by omega) (by decide) hn54 hn55 hn56 hn57 hn58 hn59 hn60 hn61 (by omega)), fun _ h => absurd h List.not_mem_nil⟩), (((((hF47.tr (hF70.up (by decide))).tr (hF82.up (by decide))).tr (xFr.of (S := [82]) hb92 (by decide))).tr (hF97.up (by decide))).tr (xFr.of (S := [82]) hb506 (by decide))), ⟨by omega, fun _ => by omega, by omega, by omega⟩⟩
  exact key42 _ f82_1 f82_3 f82_5 f82_7 f82_9 f82_11 f82_13 f82_15 f82_17 f82_19 f82_21 f82_22 f82_23 f82_25 f82_27 f82_29 w (Nat.lt_succ_self _) (hb2) (hb4) (hb6) (hb8) (hb10) (hb12) (hb14) (hb16) (hb18) (hb20) (hb24) (hb26) (hb28) (hb30) h82_31 (by omega) (hI) (xFr.rf) (by omega)
theorem mEnds (hI : xMnv w) (hps : PS w) : xPq d mX12_ends [(2, 82)] w bd fc rr [] (fun w' => xMnv w' ∧ xFr [82, 83] w w' ∧ (FA w' ≠ 0 ∧ fld w' 82 10 = 1 ∧ mu w' = mu w ∧ fld w' 82 14 = fld w 82 14 ∧ K83 w w')) := by
  refine xPq.of ?_
  show xTo d mX12_ends (0, [], [(0, (2, 82))], [], (w, bd, fc, 0, 0, rr)) (fun φ => ∃ w', xEnd 0 [] (w', bd, fc, 0, 0, rr) φ ∧ xMnv w' ∧ xFr [82, 83] w w' ∧ (FA w' ≠ 0 ∧ fld w' 82 10 = 1 ∧ mu w' = mu w ∧ fld w' 82 14 = fld w 82 14 ∧ K83 w w'))
  refine xoCh82 (xqc82 hI : cp82 (wget w 82)) (fun f82_1 f82_3 f82_5 f82_7 f82_9 f82_11 f82_13 f82_15 f82_17 f82_19 f82_21 f82_22 f82_23 f82_25 f82_27 f82_29 h82_31 hb2 hb4 hb6 hb8 hb10 hb12 hb14 hb16 hb18 hb20 hb24 hb26 hb28 hb30 hb32 => ?_)
  refine xoX83 (xqc83 hI : cpx83 (wget w 83)) (fun g83_33 h83_34 hb35 hx36 => ?_)
  have hf37 : fld w 82 4 = f82_5 := fld_of h82_31
  have hf38 : fld w 82 5 = f82_7 := fld_of h82_31
  have hf39 : fld w 82 7 = f82_11 := fld_of h82_31
  have hf40 : fld w 82 10 = f82_17 := fld_of h82_31
  have hf41 : fld w 82 14 = f82_19 := fld_of h82_31
  have hps_ : fld w 82 10 = 0 ∨ FA w ≠ 0 := hps
  have hA42 : FA w = g83_33 16 := rwv_of h83_34 (by decide)
  have hu43 : mu w = 2 * (fld w 82 4 - fld w 82 5) + min 1 (fld w 82 7) := rfl
  refine xg_t (xg_blq rfl) ?_
  refine xg_t (xg_aload (va := (2, 82)) rfl rfl) ?_
  refine xg_t (xg_getf (va := (0, f82_17)) h82_31 rfl) ?_
  by_cases hc44 : f82_17 = 0
  · refine xg_t (xg_ifT (u := f82_17) rfl xnm0 (xj_eqT hc44)) ?_
    refine xg_t (xg_blq rfl) ?_
    refine xg_t (xg_aload (va := (2, 82)) rfl rfl) ?_
    refine xg_t (xg_const) ?_
    refine xg_putZ (fl1 := [(2, 83), (2, 84), (0, f82_1), (0, f82_3), (0, f82_5), (0, f82_7), (0, f82_9), (0, f82_11), (0, f82_13), (0, f82_15), (0, 1), (2, 85), (2, 86), (2, 87), (0, f82_19), (2, 88), (2, 89), (2, 90), (2, 91), (2, 92), (2, 93), (2, 94), (4, f82_21), (4, f82_22), (0, f82_23), (2, 95), (2, 96), (2, 97), (2, 98), (2, 99), (2, 100), (2, 101), (2, 102), (0, f82_25), (2, 103), (2, 104), (2, 105), (2, 106), (2, 107), (2, 108), (2, 109), (0, f82_27), (0, f82_29), (2, 110), (2, 111), (2, 112), (2, 113)]) h82_31 rfl rfl rfl (fun w45 hk46 hb47 => ?_)
    refine xg_t (xg_aload (va := (2, 82)) rfl rfl) ?_
    refine xg_t (xg_getf (va := (2, 83)) hk46 rfl) ?_
    refine xg_t (xg_bip) ?_
    refine xg_t (xg_const) ?_
    refine xg_iastK (n := 16) (u := 1) (h83_34.but hb47 (by decide)) xnm0 xnm0 rfl (by first | decide | omega) (fun w48 hr49 hb50 => ?_)
    have hx51 : okA (fun j => if j = 16 then 1 else g83_33 j) := hx36.upd (by omega) (by omega) (by omega) (fun _ => by omega) (by omega) (fun _ => by omega) (fun _ => by omega) (fun _ => by omega) (fun _ => by omega) (by omega) (fun _ _ => by omega)
    have hb52 : ∀ j, (fun j => if j = 16 then 1 else g83_33 j) j ≤ 4294967295 := xrb (by omega) (hb35)
    obtain ⟨g53, hg54⟩ : ∃ g : Nat → Nat, g = (fun j => if j = 16 then 1 else g83_33 j) := ⟨_, rfl⟩
    rw [← hg54] at hr49
    have he55 : g53 16 = 1 := by rw [hg54]; exact if_pos rfl
    have hk56 : ∀ j, j ≠ 16 → g53 j = g83_33 j := fun j hj => by rw [hg54]; exact if_neg hj
    rw [← hg54] at hx51
    rw [← hg54] at hb52
    refine xg_t (xg_aload (va := (2, 82)) rfl rfl) ?_
    refine xg_t (xg_getf (va := (2, 83)) (hb50.get (by decide) hk46) rfl) ?_
    refine xg_t (xg_bip) ?_
    refine xg_t (xg_aload (va := (2, 82)) rfl rfl) ?_
    refine xg_t (xg_getf (va := (0, f82_9)) (hb50.get (by decide) hk46) rfl) ?_
    have hn57 : f82_9 ≤ 4294967295 := hb10
    refine xg_iastK (n := 17) (u := f82_9) hr49 xnm0 xnm0 rfl (by first | decide | omega) (fun w58 hr59 hb60 => ?_)
    have hx61 : okA (fun j => if j = 17 then f82_9 else g53 j) := hx51.upd (by omega) (by omega) (by omega) (fun _ => by omega) (by omega) (fun _ => by omega) (fun _ => by omega) (fun _ => by omega) (fun _ => by omega) (by omega) (fun _ _ => by omega)
    have hb62 : ∀ j, (fun j => if j = 17 then f82_9 else g53 j) j ≤ 4294967295 := xrb (by omega) (hb52)
    obtain ⟨g63, hg64⟩ : ∃ g : Nat → Nat, g = (fun j => if j = 17 then f82_9 else g53 j) := ⟨_, rfl⟩
    rw [← hg64] at hr59
    have he65 : g63 17 = f82_9 := by rw [hg64]; exact if_pos rfl
    have hk66 : ∀ j, j ≠ 17 → g63 j = g53 j := fun j hj => by rw [hg64]; exact if_neg hj
    rw [← hg64] at hx61
    rw [← hg64] at hb62
    have hk67 : g63 16 = g53 16 := hk66 16 (by omega)
    have hf68 : fld w58 82 4 = f82_5 := fld_of (hb60.get (by decide) (hb50.get (by decide) hk46))
    have hf69 : fld w58 82 5 = f82_7 := fld_of (hb60.get (by decide) (hb50.get (by decide) hk46))
    have hf70 : fld w58 82 7 = f82_11 := fld_of (hb60.get (by decide) (hb50.get (by decide) hk46))
    have hf71 : fld w58 82 10 = 1 := fld_of (hb60.get (by decide) (hb50.get (by decide) hk46))
    have hf72 : fld w58 82 14 = f82_19 := fld_of (hb60.get (by decide) (hb50.get (by decide) hk46))
    have hu73 : mu w58 = 2 * (fld w58 82 4 - fld w58 82 5) + min 1 (fld w58 82 7) := rfl
    have hA74 : FA w58 = g63 16 := rwv_of hr59 (by decide)
    exact xg_e ⟨w58, ⟨rfl, rfl⟩, xMnv.up (S := [82, 83]) hI (((xFr.of (S := [82, 83]) hb47 (by decide)).tr (xFr.of (S := [82, 83]) hb50 (by decide))).tr (xFr.of (S := [82, 83]) hb60 (by decide))) (List.forall_mem_cons.mpr ⟨xqu82 (show cp82 (wget w58 82) from xmC82 f82_1 f82_3 f82_5 f82_7 f82_9 f82_11 f82_13 f82_15 1 f82_19 f82_21 f82_22 f82_23 f82_25 f82_27 f82_29 (hb60.get (by decide) (hb50.get (by decide) hk46)) hb2 hb4 hb6 hb8 hb10 hb12 hb14 hb16 (by decide) hb20 hb24 hb26 hb28 hb30 (by omega)), List.forall_mem_cons.mpr ⟨xqu83 (show cpx83 (wget w58 83) from ⟨_, hr59, hb62, hx61⟩), fun _ h => absurd h List.not_mem_nil⟩⟩), (((xFr.of (S := [82, 83]) hb47 (by decide)).tr (xFr.of (S := [82, 83]) hb50 (by decide))).tr (xFr.of (S := [82, 83]) hb60 (by decide))), ⟨by omega, by omega, by omega, by omega, K83.st h83_34 hr59 (fun j h16 h17 => by rw [hk66 j (by omega), hk56 j (by omega)])⟩⟩
  · refine xg_t (xg_ifF (u := f82_17) rfl xnm0 (xj_eqF hc44)) ?_
    have hf75 : fld w 82 4 = f82_5 := fld_of h82_31
    have hf76 : fld w 82 5 = f82_7 := fld_of h82_31
    have hf77 : fld w 82 7 = f82_11 := fld_of h82_31
    have hf78 : fld w 82 10 = f82_17 := fld_of h82_31
    have hf79 : fld w 82 14 = f82_19 := fld_of h82_31
    have hu80 : mu w = 2 * (fld w 82 4 - fld w 82 5) + min 1 (fld w 82 7) := rfl
    have hA81 : FA w = g83_33 16 := rwv_of h83_34 (by decide)
    exact xg_e ⟨w, ⟨rfl, rfl⟩, hI, xFr.rf, ⟨by omega, by omega, by omega, by omega, K83.rf⟩⟩
theorem mAlso {ki at_ : Nat} (hI : xMnv w) (hki : ki ≤ 9) (hk1 : 1 ≤ ki) (hat_ : at_ ≤ 4294967295) (hps : PS w) : xPq d mX12_also [(2, 82), (0, ki), (0, at_)] w bd fc rr [] (fun w' => xMnv w' ∧ xFr [83] w w' ∧ (FA w' ≠ 0 ∧ K83 w w')) := by
  refine xPq.of ?_
  show xTo d mX12_also (0, [], [(0, (2, 82)), (1, (0, ki)), (2, (0, at_))], [], (w, bd, fc, 0, 0, rr)) (fun φ => ∃ w', xEnd 0 [] (w', bd, fc, 0, 0, rr) φ ∧ xMnv w' ∧ xFr [83] w w' ∧ (FA w' ≠ 0 ∧ K83 w w'))
  refine xoCh82 (xqc82 hI : cp82 (wget w 82)) (fun f82_1 f82_3 f82_5 f82_7 f82_9 f82_11 f82_13 f82_15 f82_17 f82_19 f82_21 f82_22 f82_23 f82_25 f82_27 f82_29 h82_31 hb2 hb4 hb6 hb8 hb10 hb12 hb14 hb16 hb18 hb20 hb24 hb26 hb28 hb30 hb32 => ?_)
  refine xoX83 (xqc83 hI : cpx83 (wget w 83)) (fun g83_33 h83_34 hb35 hx36 => ?_)
  have hf37 : fld w 82 10 = f82_17 := fld_of h82_31
  have hps_ : fld w 82 10 = 0 ∨ FA w ≠ 0 := hps
  have hA38 : FA w = g83_33 16 := rwv_of h83_34 (by decide)
  refine xg_t (xg_blq rfl) ?_
  refine xg_t (xg_aload (va := (2, 82)) rfl rfl) ?_
  refine xg_t (xg_getf (va := (0, f82_17)) h82_31 rfl) ?_
  by_cases hc39 : f82_17 = 0
  · refine xg_t (xg_ifF (u := f82_17) rfl xnm0 (xj_neF hc39)) ?_
    refine xg_t (xg_aload (va := (2, 82)) rfl rfl) ?_
    refine xg_t (xg_getf (va := (2, 83)) h82_31 rfl) ?_
    refine xg_t (xg_bip) ?_
    refine xg_ialdB (n := 16) (B := 4294967295) h83_34 (hb35) xnm0 (by first | decide | omega) (fun u40 hu41 he42 => ?_)
    by_cases hc43 : u40 = 0
    · refine xg_t (xg_ifT (u := u40) rfl xnm0 (xj_eqT hc43)) ?_
      refine xg_t (xg_blq rfl) ?_
      refine xg_t (xg_aload (va := (2, 82)) rfl rfl) ?_
      refine xg_t (xg_getf (va := (2, 83)) h82_31 rfl) ?_
      refine xg_t (xg_bip) ?_
      refine xg_t (xg_iload (va := (0, ki)) rfl rfl) ?_
      refine xg_iastK (n := 16) (u := ki) h83_34 xnm0 xnm0 rfl (by first | decide | omega) (fun w44 hr45 hb46 => ?_)
      have hx47 : okA (fun j => if j = 16 then ki else g83_33 j) := hx36.upd (by omega) (by omega) (by omega) (fun _ => by omega) (by omega) (fun _ => by omega) (fun _ => by omega) (fun _ => by omega) (fun _ => by omega) (by omega) (fun _ _ => by omega)
      have hb48 : ∀ j, (fun j => if j = 16 then ki else g83_33 j) j ≤ 4294967295 := xrb (by omega) (hb35)
      obtain ⟨g49, hg50⟩ : ∃ g : Nat → Nat, g = (fun j => if j = 16 then ki else g83_33 j) := ⟨_, rfl⟩
      rw [← hg50] at hr45
      have he51 : g49 16 = ki := by rw [hg50]; exact if_pos rfl
      have hk52 : ∀ j, j ≠ 16 → g49 j = g83_33 j := fun j hj => by rw [hg50]; exact if_neg hj
      rw [← hg50] at hx47
      rw [← hg50] at hb48
      refine xg_t (xg_aload (va := (2, 82)) rfl rfl) ?_
      refine xg_t (xg_getf (va := (2, 83)) (hb46.get (by decide) h82_31) rfl) ?_
      refine xg_t (xg_bip) ?_
      refine xg_t (xg_iload (va := (0, at_)) rfl rfl) ?_
      refine xg_iastK (n := 17) (u := at_) hr45 xnm0 xnm0 rfl (by first | decide | omega) (fun w53 hr54 hb55 => ?_)
      have hx56 : okA (fun j => if j = 17 then at_ else g49 j) := hx47.upd (by omega) (by omega) (by omega) (fun _ => by omega) (by omega) (fun _ => by omega) (fun _ => by omega) (fun _ => by omega) (fun _ => by omega) (by omega) (fun _ _ => by omega)
      have hb57 : ∀ j, (fun j => if j = 17 then at_ else g49 j) j ≤ 4294967295 := xrb (by omega) (hb48)
      obtain ⟨g58, hg59⟩ : ∃ g : Nat → Nat, g = (fun j => if j = 17 then at_ else g49 j) := ⟨_, rfl⟩
      rw [← hg59] at hr54
      have he60 : g58 17 = at_ := by rw [hg59]; exact if_pos rfl
      have hk61 : ∀ j, j ≠ 17 → g58 j = g49 j := fun j hj => by rw [hg59]; exact if_neg hj
      rw [← hg59] at hx56
      rw [← hg59] at hb57
      have hk62 : g58 16 = g49 16 := hk61 16 (by omega)
      have hA63 : FA w53 = g58 16 := rwv_of hr54 (by decide)
      exact xg_e ⟨w53, ⟨rfl, rfl⟩, xMnv.up (S := [83]) hI ((xFr.of (S := [83]) hb46 (by decide)).tr (xFr.of (S := [83]) hb55 (by decide))) (List.forall_mem_cons.mpr ⟨xqu83 (show cpx83 (wget w53 83) from ⟨_, hr54, hb57, hx56⟩), fun _ h => absurd h List.not_mem_nil⟩), ((xFr.of (S := [83]) hb46 (by decide)).tr (xFr.of (S := [83]) hb55 (by decide))), ⟨by omega, K83.st h83_34 hr54 (fun j h16 h17 => by rw [hk61 j (by omega), hk52 j (by omega)])⟩⟩
    · refine xg_t (xg_ifF (u := u40) rfl xnm0 (xj_eqF hc43)) ?_
      refine xg_t (xg_aload (va := (2, 82)) rfl rfl) ?_
      refine xg_t (xg_getf (va := (2, 83)) h82_31 rfl) ?_
      refine xg_t (xg_bip) ?_
      refine xg_ialdB (n := 17) (B := 4294967295) h83_34 (hb35) xnm0 (by first | decide | omega) (fun u64 hu65 he66 => ?_)
      refine xg_t (xg_iload (va := (0, at_)) rfl rfl) ?_
      by_cases hc67 : xbs u64 < xbs at_
      · have hc67u := hc67
        unfold xbs at hc67u
        refine xg_t (xg_icT (u := u64) (v := at_) rfl xnm0 xnm0 (xjs_ltT hc67)) ?_
        refine xg_t (xg_blq rfl) ?_
        have hA68 : FA w = g83_33 16 := rwv_of h83_34 (by decide)
        exact xg_e ⟨w, ⟨rfl, rfl⟩, hI, xFr.rf, ⟨by omega, K83.rf⟩⟩
      · have hc67u := hc67
        unfold xbs at hc67u
        refine xg_t (xg_icF (u := u64) (v := at_) rfl xnm0 xnm0 (xjs_ltF hc67)) ?_
        refine xg_t (xg_aload (va := (2, 82)) rfl rfl) ?_
        refine xg_t (xg_getf (va := (2, 83)) h82_31 rfl) ?_
        refine xg_t (xg_bip) ?_
        refine xg_ialdB (n := 17) (B := 4294967295) h83_34 (hb35) xnm0 (by first | decide | omega) (fun u69 hu70 he71 => ?_)
        refine xg_t (xg_iload (va := (0, at_)) rfl rfl) ?_
        by_cases hc72 : u69 = at_
        · refine xg_t (xg_icF (u := u69) (v := at_) rfl xnm0 xnm0 (xj_neF hc72)) ?_
          refine xg_t (xg_aload (va := (2, 82)) rfl rfl) ?_
          refine xg_t (xg_getf (va := (2, 83)) h82_31 rfl) ?_
          refine xg_t (xg_bip) ?_
          refine xg_ialdB (n := 16) (B := 4294967295) h83_34 (hb35) xnm0 (by first | decide | omega) (fun u73 hu74 he75 => ?_)
          refine xg_t (xg_iload (va := (0, ki)) rfl rfl) ?_
          by_cases hc76 : xbs ki < xbs u73
          · have hc76u := hc76
            unfold xbs at hc76u
            have hn77 : ki ≤ 9 := by omega
            have hn78 : u73 ≤ 2147483647 := by omega
            refine xg_t (xg_icT (u := u73) (v := ki) rfl xnm0 xnm0 (xjs_gtT hc76)) ?_
            refine xg_t (xg_blq rfl) ?_
            refine xg_t (xg_aload (va := (2, 82)) rfl rfl) ?_
            refine xg_t (xg_getf (va := (2, 83)) h82_31 rfl) ?_
            refine xg_t (xg_bip) ?_
            refine xg_t (xg_iload (va := (0, ki)) rfl rfl) ?_
            refine xg_iastK (n := 16) (u := ki) h83_34 xnm0 xnm0 rfl (by first | decide | omega) (fun w79 hr80 hb81 => ?_)
            have hx82 : okA (fun j => if j = 16 then ki else g83_33 j) := hx36.upd (by omega) (by omega) (by omega) (fun _ => by omega) (by omega) (fun _ => by omega) (fun _ => by omega) (fun _ => by omega) (fun _ => by omega) (by omega) (fun _ _ => by omega)
            have hb83 : ∀ j, (fun j => if j = 16 then ki else g83_33 j) j ≤ 4294967295 := xrb (by omega) (hb35)
            obtain ⟨g84, hg85⟩ : ∃ g : Nat → Nat, g = (fun j => if j = 16 then ki else g83_33 j) := ⟨_, rfl⟩
            rw [← hg85] at hr80
            have he86 : g84 16 = ki := by rw [hg85]; exact if_pos rfl
            have hk87 : ∀ j, j ≠ 16 → g84 j = g83_33 j := fun j hj => by rw [hg85]; exact if_neg hj
            rw [← hg85] at hx82
            rw [← hg85] at hb83
            refine xg_t (xg_aload (va := (2, 82)) rfl rfl) ?_
            refine xg_t (xg_getf (va := (2, 83)) (hb81.get (by decide) h82_31) rfl) ?_
            refine xg_t (xg_bip) ?_
            refine xg_t (xg_iload (va := (0, at_)) rfl rfl) ?_
            refine xg_iastK (n := 17) (u := at_) hr80 xnm0 xnm0 rfl (by first | decide | omega) (fun w88 hr89 hb90 => ?_)
            have hx91 : okA (fun j => if j = 17 then at_ else g84 j) := hx82.upd (by omega) (by omega) (by omega) (fun _ => by omega) (by omega) (fun _ => by omega) (fun _ => by omega) (fun _ => by omega) (fun _ => by omega) (by omega) (fun _ _ => by omega)
            have hb92 : ∀ j, (fun j => if j = 17 then at_ else g84 j) j ≤ 4294967295 := xrb (by omega) (hb83)
            obtain ⟨g93, hg94⟩ : ∃ g : Nat → Nat, g = (fun j => if j = 17 then at_ else g84 j) := ⟨_, rfl⟩
            rw [← hg94] at hr89
            have he95 : g93 17 = at_ := by rw [hg94]; exact if_pos rfl
            have hk96 : ∀ j, j ≠ 17 → g93 j = g84 j := fun j hj => by rw [hg94]; exact if_neg hj
            rw [← hg94] at hx91
            rw [← hg94] at hb92
            have hk97 : g93 16 = g84 16 := hk96 16 (by omega)
            have hA98 : FA w88 = g93 16 := rwv_of hr89 (by decide)
            exact xg_e ⟨w88, ⟨rfl, rfl⟩, xMnv.up (S := [83]) hI ((xFr.of (S := [83]) hb81 (by decide)).tr (xFr.of (S := [83]) hb90 (by decide))) (List.forall_mem_cons.mpr ⟨xqu83 (show cpx83 (wget w88 83) from ⟨_, hr89, hb92, hx91⟩), fun _ h => absurd h List.not_mem_nil⟩), ((xFr.of (S := [83]) hb81 (by decide)).tr (xFr.of (S := [83]) hb90 (by decide))), ⟨by omega, K83.st h83_34 hr89 (fun j h16 h17 => by rw [hk96 j (by omega), hk87 j (by omega)])⟩⟩
          · have hc76u := hc76
            unfold xbs at hc76u
            have hn99 : ki ≤ 9 := by omega
            refine xg_t (xg_icF (u := u73) (v := ki) rfl xnm0 xnm0 (xjs_gtF hc76)) ?_
            refine xg_t (xg_blq rfl) ?_
            have hA100 : FA w = g83_33 16 := rwv_of h83_34 (by decide)
            exact xg_e ⟨w, ⟨rfl, rfl⟩, hI, xFr.rf, ⟨by omega, K83.rf⟩⟩
        · refine xg_t (xg_icT (u := u69) (v := at_) rfl xnm0 xnm0 (xj_neT hc72)) ?_
          refine xg_t (xg_blq rfl) ?_
          refine xg_t (xg_aload (va := (2, 82)) rfl rfl) ?_
          refine xg_t (xg_getf (va := (2, 83)) h82_31 rfl) ?_
          refine xg_t (xg_bip) ?_
          refine xg_t (xg_iload (va := (0, ki)) rfl rfl) ?_
          refine xg_iastK (n := 16) (u := ki) h83_34 xnm0 xnm0 rfl (by first | decide | omega) (fun w101 hr102 hb103 => ?_)
          have hx104 : okA (fun j => if j = 16 then ki else g83_33 j) := hx36.upd (by omega) (by omega) (by omega) (fun _ => by omega) (by omega) (fun _ => by omega) (fun _ => by omega) (fun _ => by omega) (fun _ => by omega) (by omega) (fun _ _ => by omega)
          have hb105 : ∀ j, (fun j => if j = 16 then ki else g83_33 j) j ≤ 4294967295 := xrb (by omega) (hb35)
          obtain ⟨g106, hg107⟩ : ∃ g : Nat → Nat, g = (fun j => if j = 16 then ki else g83_33 j) := ⟨_, rfl⟩
          rw [← hg107] at hr102
          have he108 : g106 16 = ki := by rw [hg107]; exact if_pos rfl
          have hk109 : ∀ j, j ≠ 16 → g106 j = g83_33 j := fun j hj => by rw [hg107]; exact if_neg hj
          rw [← hg107] at hx104
          rw [← hg107] at hb105
          refine xg_t (xg_aload (va := (2, 82)) rfl rfl) ?_
          refine xg_t (xg_getf (va := (2, 83)) (hb103.get (by decide) h82_31) rfl) ?_
          refine xg_t (xg_bip) ?_
          refine xg_t (xg_iload (va := (0, at_)) rfl rfl) ?_
          refine xg_iastK (n := 17) (u := at_) hr102 xnm0 xnm0 rfl (by first | decide | omega) (fun w110 hr111 hb112 => ?_)
          have hx113 : okA (fun j => if j = 17 then at_ else g106 j) := hx104.upd (by omega) (by omega) (by omega) (fun _ => by omega) (by omega) (fun _ => by omega) (fun _ => by omega) (fun _ => by omega) (fun _ => by omega) (by omega) (fun _ _ => by omega)
          have hb114 : ∀ j, (fun j => if j = 17 then at_ else g106 j) j ≤ 4294967295 := xrb (by omega) (hb105)
          obtain ⟨g115, hg116⟩ : ∃ g : Nat → Nat, g = (fun j => if j = 17 then at_ else g106 j) := ⟨_, rfl⟩
          rw [← hg116] at hr111
          have he117 : g115 17 = at_ := by rw [hg116]; exact if_pos rfl
          have hk118 : ∀ j, j ≠ 17 → g115 j = g106 j := fun j hj => by rw [hg116]; exact if_neg hj
          rw [← hg116] at hx113
          rw [← hg116] at hb114
          have hk119 : g115 16 = g106 16 := hk118 16 (by omega)
          have hA120 : FA w110 = g115 16 := rwv_of hr111 (by decide)
          exact xg_e ⟨w110, ⟨rfl, rfl⟩, xMnv.up (S := [83]) hI ((xFr.of (S := [83]) hb103 (by decide)).tr (xFr.of (S := [83]) hb112 (by decide))) (List.forall_mem_cons.mpr ⟨xqu83 (show cpx83 (wget w110 83) from ⟨_, hr111, hb114, hx113⟩), fun _ h => absurd h List.not_mem_nil⟩), ((xFr.of (S := [83]) hb103 (by decide)).tr (xFr.of (S := [83]) hb112 (by decide))), ⟨by omega, K83.st h83_34 hr111 (fun j h16 h17 => by rw [hk118 j (by omega), hk109 j (by omega)])⟩⟩
  · refine xg_t (xg_ifT (u := f82_17) rfl xnm0 (xj_neT hc39)) ?_
    refine xg_t (xg_blq rfl) ?_
    have hA121 : FA w = g83_33 16 := rwv_of h83_34 (by decide)
    exact xg_e ⟨w, ⟨rfl, rfl⟩, hI, xFr.rf, ⟨by omega, K83.rf⟩⟩
theorem mMostR0 : xPr d mX12_mostOf [(0, 0)] w bd fc rr [(0, 6)] w := by
  refine xPr.of ?_
  show xTo d mX12_mostOf (0, [], [(0, (0, 0))], [], (w, bd, fc, 0, 0, rr)) (xEnd 1 [(0, 6)] (w, bd, fc, 0, 0, rr))
  refine xg_t (xg_blq rfl) ?_
  refine xg_t (xg_iload (va := (0, 0)) rfl rfl) ?_
  refine xg_t (xg_ifT (u := 0) rfl xnm0 (by decide)) ?_
  refine xg_t (xg_blq rfl) ?_
  refine xg_t (xg_bip) ?_
  refine xg_t (xg_goto) ?_
  refine xg_t (xg_blq rfl) ?_
  exact xg_e ⟨rfl, rfl⟩
theorem mMostR1 : xPr d mX12_mostOf [(0, 1)] w bd fc rr [(0, 4)] w := by
  refine xPr.of ?_
  show xTo d mX12_mostOf (0, [], [(0, (0, 1))], [], (w, bd, fc, 0, 0, rr)) (xEnd 1 [(0, 4)] (w, bd, fc, 0, 0, rr))
  refine xg_t (xg_blq rfl) ?_
  refine xg_t (xg_iload (va := (0, 1)) rfl rfl) ?_
  refine xg_t (xg_ifF (u := 1) rfl xnm0 (by decide)) ?_
  refine xg_t (xg_iload (va := (0, 1)) rfl rfl) ?_
  refine xg_t (xg_const) ?_
  refine xg_t (xg_icT (u := 1) (v := 2) rfl xnm0 xnm0 (by decide)) ?_
  refine xg_t (xg_blq rfl) ?_
  refine xg_t (xg_iload (va := (0, 1)) rfl rfl) ?_
  refine xg_t (xg_const) ?_
  refine xg_t (xg_icT (u := 1) (v := 1) rfl xnm0 xnm0 (by decide)) ?_
  refine xg_t (xg_blq rfl) ?_
  refine xg_t (xg_const) ?_
  refine xg_t (xg_goto) ?_
  refine xg_t (xg_blq rfl) ?_
  exact xg_e ⟨rfl, rfl⟩
theorem mMostR2 : xPr d mX12_mostOf [(0, 2)] w bd fc rr [(0, 6)] w := by
  refine xPr.of ?_
  show xTo d mX12_mostOf (0, [], [(0, (0, 2))], [], (w, bd, fc, 0, 0, rr)) (xEnd 1 [(0, 6)] (w, bd, fc, 0, 0, rr))
  refine xg_t (xg_blq rfl) ?_
  refine xg_t (xg_iload (va := (0, 2)) rfl rfl) ?_
  refine xg_t (xg_ifF (u := 2) rfl xnm0 (by decide)) ?_
  refine xg_t (xg_iload (va := (0, 2)) rfl rfl) ?_
  refine xg_t (xg_const) ?_
  refine xg_t (xg_icF (u := 2) (v := 2) rfl xnm0 xnm0 (by decide)) ?_
  refine xg_t (xg_blq rfl) ?_
  refine xg_t (xg_bip) ?_
  refine xg_t (xg_goto) ?_
  refine xg_t (xg_blq rfl) ?_
  exact xg_e ⟨rfl, rfl⟩
theorem mMostR3 : xPr d mX12_mostOf [(0, 3)] w bd fc rr [(0, 4)] w := by
  refine xPr.of ?_
  show xTo d mX12_mostOf (0, [], [(0, (0, 3))], [], (w, bd, fc, 0, 0, rr)) (xEnd 1 [(0, 4)] (w, bd, fc, 0, 0, rr))
  refine xg_t (xg_blq rfl) ?_
  refine xg_t (xg_iload (va := (0, 3)) rfl rfl) ?_
  refine xg_t (xg_ifF (u := 3) rfl xnm0 (by decide)) ?_
  refine xg_t (xg_iload (va := (0, 3)) rfl rfl) ?_
  refine xg_t (xg_const) ?_
  refine xg_t (xg_icT (u := 3) (v := 2) rfl xnm0 xnm0 (by decide)) ?_
  refine xg_t (xg_blq rfl) ?_
  refine xg_t (xg_iload (va := (0, 3)) rfl rfl) ?_
  refine xg_t (xg_const) ?_
  refine xg_t (xg_icF (u := 3) (v := 1) rfl xnm0 xnm0 (by decide)) ?_
  refine xg_t (xg_iload (va := (0, 3)) rfl rfl) ?_
  refine xg_t (xg_const) ?_
  refine xg_t (xg_icF (u := 3) (v := 3) rfl xnm0 xnm0 (by decide)) ?_
  refine xg_t (xg_blq rfl) ?_
  refine xg_t (xg_const) ?_
  refine xg_t (xg_goto) ?_
  refine xg_t (xg_blq rfl) ?_
  exact xg_e ⟨rfl, rfl⟩
theorem mMostR4 : xPr d mX12_mostOf [(0, 4)] w bd fc rr [(0, 20)] w := by
  refine xPr.of ?_
  show xTo d mX12_mostOf (0, [], [(0, (0, 4))], [], (w, bd, fc, 0, 0, rr)) (xEnd 1 [(0, 20)] (w, bd, fc, 0, 0, rr))
  refine xg_t (xg_blq rfl) ?_
  refine xg_t (xg_iload (va := (0, 4)) rfl rfl) ?_
  refine xg_t (xg_ifF (u := 4) rfl xnm0 (by decide)) ?_
  refine xg_t (xg_iload (va := (0, 4)) rfl rfl) ?_
  refine xg_t (xg_const) ?_
  refine xg_t (xg_icT (u := 4) (v := 2) rfl xnm0 xnm0 (by decide)) ?_
  refine xg_t (xg_blq rfl) ?_
  refine xg_t (xg_iload (va := (0, 4)) rfl rfl) ?_
  refine xg_t (xg_const) ?_
  refine xg_t (xg_icF (u := 4) (v := 1) rfl xnm0 xnm0 (by decide)) ?_
  refine xg_t (xg_iload (va := (0, 4)) rfl rfl) ?_
  refine xg_t (xg_const) ?_
  refine xg_t (xg_icT (u := 4) (v := 3) rfl xnm0 xnm0 (by decide)) ?_
  refine xg_t (xg_blq rfl) ?_
  refine xg_t (xg_iload (va := (0, 4)) rfl rfl) ?_
  refine xg_t (xg_const) ?_
  refine xg_t (xg_icF (u := 4) (v := 4) rfl xnm0 xnm0 (by decide)) ?_
  refine xg_t (xg_bip) ?_
  refine xg_t (xg_goto) ?_
  refine xg_t (xg_blq rfl) ?_
  exact xg_e ⟨rfl, rfl⟩
theorem mMostR5 : xPr d mX12_mostOf [(0, 5)] w bd fc rr [(0, 1)] w := by
  refine xPr.of ?_
  show xTo d mX12_mostOf (0, [], [(0, (0, 5))], [], (w, bd, fc, 0, 0, rr)) (xEnd 1 [(0, 1)] (w, bd, fc, 0, 0, rr))
  refine xg_t (xg_blq rfl) ?_
  refine xg_t (xg_iload (va := (0, 5)) rfl rfl) ?_
  refine xg_t (xg_ifF (u := 5) rfl xnm0 (by decide)) ?_
  refine xg_t (xg_iload (va := (0, 5)) rfl rfl) ?_
  refine xg_t (xg_const) ?_
  refine xg_t (xg_icT (u := 5) (v := 2) rfl xnm0 xnm0 (by decide)) ?_
  refine xg_t (xg_blq rfl) ?_
  refine xg_t (xg_iload (va := (0, 5)) rfl rfl) ?_
  refine xg_t (xg_const) ?_
  refine xg_t (xg_icF (u := 5) (v := 1) rfl xnm0 xnm0 (by decide)) ?_
  refine xg_t (xg_iload (va := (0, 5)) rfl rfl) ?_
  refine xg_t (xg_const) ?_
  refine xg_t (xg_icT (u := 5) (v := 3) rfl xnm0 xnm0 (by decide)) ?_
  refine xg_t (xg_blq rfl) ?_
  refine xg_t (xg_iload (va := (0, 5)) rfl rfl) ?_
  refine xg_t (xg_const) ?_
  refine xg_t (xg_icT (u := 5) (v := 4) rfl xnm0 xnm0 (by decide)) ?_
  refine xg_t (xg_blq rfl) ?_
  refine xg_t (xg_const) ?_
  refine xg_t (xg_blq rfl) ?_
  exact xg_e ⟨rfl, rfl⟩
theorem mMostR6 : xPr d mX12_mostOf [(0, 6)] w bd fc rr [(0, 1)] w := by
  refine xPr.of ?_
  show xTo d mX12_mostOf (0, [], [(0, (0, 6))], [], (w, bd, fc, 0, 0, rr)) (xEnd 1 [(0, 1)] (w, bd, fc, 0, 0, rr))
  refine xg_t (xg_blq rfl) ?_
  refine xg_t (xg_iload (va := (0, 6)) rfl rfl) ?_
  refine xg_t (xg_ifF (u := 6) rfl xnm0 (by decide)) ?_
  refine xg_t (xg_iload (va := (0, 6)) rfl rfl) ?_
  refine xg_t (xg_const) ?_
  refine xg_t (xg_icT (u := 6) (v := 2) rfl xnm0 xnm0 (by decide)) ?_
  refine xg_t (xg_blq rfl) ?_
  refine xg_t (xg_iload (va := (0, 6)) rfl rfl) ?_
  refine xg_t (xg_const) ?_
  refine xg_t (xg_icF (u := 6) (v := 1) rfl xnm0 xnm0 (by decide)) ?_
  refine xg_t (xg_iload (va := (0, 6)) rfl rfl) ?_
  refine xg_t (xg_const) ?_
  refine xg_t (xg_icT (u := 6) (v := 3) rfl xnm0 xnm0 (by decide)) ?_
  refine xg_t (xg_blq rfl) ?_
  refine xg_t (xg_iload (va := (0, 6)) rfl rfl) ?_
  refine xg_t (xg_const) ?_
  refine xg_t (xg_icT (u := 6) (v := 4) rfl xnm0 xnm0 (by decide)) ?_
  refine xg_t (xg_blq rfl) ?_
  refine xg_t (xg_const) ?_
  refine xg_t (xg_blq rfl) ?_
  exact xg_e ⟨rfl, rfl⟩
theorem mPuts0 {kk at_ va : Nat} (hI : xMnv w) (hkk : kk ≤ 1001) (hat : at_ ≤ 9999) (hva : va ≤ 4294967295) (hin : kk < 6 → at_ < 140) : xPq (d + 1) mX12_puts [(2, 82), (0, 0), (0, kk), (0, at_), (0, va)] w bd fc rr [] (fun w' => xMnv w' ∧ xFr [86] w w' ∧ ((kk < 6 → rwv w' 86 at_ = va) ∧ ∀ j, j ≠ at_ → j < 140 → rwv w' 86 j = rwv w 86 j)) := by
  refine xPq.of ?_
  show xTo (d + 1) mX12_puts (0, [], [(0, (2, 82)), (1, (0, 0)), (2, (0, kk)), (3, (0, at_)), (4, (0, va))], [], (w, bd, fc, 0, 0, rr)) (fun φ => ∃ w', xEnd 0 [] (w', bd, fc, 0, 0, rr) φ ∧ xMnv w' ∧ xFr [86] w w' ∧ ((kk < 6 → rwv w' 86 at_ = va) ∧ ∀ j, j ≠ at_ → j < 140 → rwv w' 86 j = rwv w 86 j))
  refine xoCh82 (xqc82 hI : cp82 (wget w 82)) (fun f82_1 f82_3 f82_5 f82_7 f82_9 f82_11 f82_13 f82_15 f82_17 f82_19 f82_21 f82_22 f82_23 f82_25 f82_27 f82_29 h82_31 hb2 hb4 hb6 hb8 hb10 hb12 hb14 hb16 hb18 hb20 hb24 hb26 hb28 hb30 hb32 => ?_)
  refine xoI (xqc86 hI : cpI 140 53 4294967295 (wget w 86)) (fun g86_33 h86_34 hb35 => ?_)
  refine xg_t (xg_blq rfl) ?_
  refine xg_t (xg_iload (va := (0, kk)) rfl rfl) ?_
  refine xg_t (xg_iload (va := (0, 0)) rfl rfl) ?_
  refine xg_t (xg_cSr mX12_mostOf (vs := [(0, 0)]) (rest := [(0, kk)]) (rs := [(0, 6), (0, kk)]) (cn1 := 0) (sl1 := 0) rfl (mMostR0) rfl rfl rfl rfl rfl rfl rfl rfl) ?_
  by_cases hc36 : kk < 6
  · refine xg_t (xg_icF (u := kk) (v := 6) rfl xnm0 xnm0 (xj_geF hc36 (by omega))) ?_
    refine xg_t (xg_aload (va := (2, 82)) rfl rfl) ?_
    refine xg_t (xg_getf (va := (2, 86)) h82_31 rfl) ?_
    refine xg_t (xg_iload (va := (0, at_)) rfl rfl) ?_
    refine xg_t (xg_iload (va := (0, va)) rfl rfl) ?_
    refine xg_iastK (n := at_) (u := va) h86_34 xnm0 xnm0 rfl (by omega) (fun w37 hr38 hb39 => ?_)
    refine xg_t (xg_blq rfl) ?_
    exact xg_e ⟨w37, ⟨rfl, rfl⟩, xMnv.up (S := [86]) hI (xFr.of (S := [86]) hb39 (by decide)) (List.forall_mem_cons.mpr ⟨xqu86 (show cpI 140 53 4294967295 (wget w37 86) from ⟨_, hr38, xrb (by omega) (hb35)⟩), fun _ h => absurd h List.not_mem_nil⟩), (xFr.of (S := [86]) hb39 (by decide)), ⟨fun _ => (rwv_of hr38 (by omega)).trans (if_pos rfl), fun j hj hl => (rwv_of hr38 hl).trans ((if_neg hj).trans (rwv_of h86_34 hl).symm)⟩⟩
  · refine xg_t (xg_icT (u := kk) (v := 6) rfl xnm0 xnm0 (xj_geT (by omega) (by omega))) ?_
    refine xg_t (xg_blq rfl) ?_
    exact xg_e ⟨w, ⟨rfl, rfl⟩, hI, xFr.rf, ⟨fun h => absurd h (by omega), fun j _ _ => rfl⟩⟩
theorem mPuts1 {kk at_ va : Nat} (hI : xMnv w) (hkk : kk ≤ 1001) (hat : at_ ≤ 9999) (hva : va ≤ 4294967295) (hin : kk < 4 → at_ < 140) : xPq (d + 1) mX12_puts [(2, 82), (0, 1), (0, kk), (0, at_), (0, va)] w bd fc rr [] (fun w' => xMnv w' ∧ xFr [86] w w' ∧ ((kk < 4 → rwv w' 86 at_ = va) ∧ ∀ j, j ≠ at_ → j < 140 → rwv w' 86 j = rwv w 86 j)) := by
  refine xPq.of ?_
  show xTo (d + 1) mX12_puts (0, [], [(0, (2, 82)), (1, (0, 1)), (2, (0, kk)), (3, (0, at_)), (4, (0, va))], [], (w, bd, fc, 0, 0, rr)) (fun φ => ∃ w', xEnd 0 [] (w', bd, fc, 0, 0, rr) φ ∧ xMnv w' ∧ xFr [86] w w' ∧ ((kk < 4 → rwv w' 86 at_ = va) ∧ ∀ j, j ≠ at_ → j < 140 → rwv w' 86 j = rwv w 86 j))
  refine xoCh82 (xqc82 hI : cp82 (wget w 82)) (fun f82_1 f82_3 f82_5 f82_7 f82_9 f82_11 f82_13 f82_15 f82_17 f82_19 f82_21 f82_22 f82_23 f82_25 f82_27 f82_29 h82_31 hb2 hb4 hb6 hb8 hb10 hb12 hb14 hb16 hb18 hb20 hb24 hb26 hb28 hb30 hb32 => ?_)
  refine xoI (xqc86 hI : cpI 140 53 4294967295 (wget w 86)) (fun g86_33 h86_34 hb35 => ?_)
  refine xg_t (xg_blq rfl) ?_
  refine xg_t (xg_iload (va := (0, kk)) rfl rfl) ?_
  refine xg_t (xg_iload (va := (0, 1)) rfl rfl) ?_
  refine xg_t (xg_cSr mX12_mostOf (vs := [(0, 1)]) (rest := [(0, kk)]) (rs := [(0, 4), (0, kk)]) (cn1 := 0) (sl1 := 0) rfl (mMostR1) rfl rfl rfl rfl rfl rfl rfl rfl) ?_
  by_cases hc36 : kk < 4
  · refine xg_t (xg_icF (u := kk) (v := 4) rfl xnm0 xnm0 (xj_geF hc36 (by omega))) ?_
    refine xg_t (xg_aload (va := (2, 82)) rfl rfl) ?_
    refine xg_t (xg_getf (va := (2, 86)) h82_31 rfl) ?_
    refine xg_t (xg_iload (va := (0, at_)) rfl rfl) ?_
    refine xg_t (xg_iload (va := (0, va)) rfl rfl) ?_
    refine xg_iastK (n := at_) (u := va) h86_34 xnm0 xnm0 rfl (by omega) (fun w37 hr38 hb39 => ?_)
    refine xg_t (xg_blq rfl) ?_
    exact xg_e ⟨w37, ⟨rfl, rfl⟩, xMnv.up (S := [86]) hI (xFr.of (S := [86]) hb39 (by decide)) (List.forall_mem_cons.mpr ⟨xqu86 (show cpI 140 53 4294967295 (wget w37 86) from ⟨_, hr38, xrb (by omega) (hb35)⟩), fun _ h => absurd h List.not_mem_nil⟩), (xFr.of (S := [86]) hb39 (by decide)), ⟨fun _ => (rwv_of hr38 (by omega)).trans (if_pos rfl), fun j hj hl => (rwv_of hr38 hl).trans ((if_neg hj).trans (rwv_of h86_34 hl).symm)⟩⟩
  · refine xg_t (xg_icT (u := kk) (v := 4) rfl xnm0 xnm0 (xj_geT (by omega) (by omega))) ?_
    refine xg_t (xg_blq rfl) ?_
    exact xg_e ⟨w, ⟨rfl, rfl⟩, hI, xFr.rf, ⟨fun h => absurd h (by omega), fun j _ _ => rfl⟩⟩
theorem mPuts2 {kk at_ va : Nat} (hI : xMnv w) (hkk : kk ≤ 1001) (hat : at_ ≤ 9999) (hva : va ≤ 4294967295) (hin : kk < 6 → at_ < 140) : xPq (d + 1) mX12_puts [(2, 82), (0, 2), (0, kk), (0, at_), (0, va)] w bd fc rr [] (fun w' => xMnv w' ∧ xFr [86] w w' ∧ ((kk < 6 → rwv w' 86 at_ = va) ∧ ∀ j, j ≠ at_ → j < 140 → rwv w' 86 j = rwv w 86 j)) := by
  refine xPq.of ?_
  show xTo (d + 1) mX12_puts (0, [], [(0, (2, 82)), (1, (0, 2)), (2, (0, kk)), (3, (0, at_)), (4, (0, va))], [], (w, bd, fc, 0, 0, rr)) (fun φ => ∃ w', xEnd 0 [] (w', bd, fc, 0, 0, rr) φ ∧ xMnv w' ∧ xFr [86] w w' ∧ ((kk < 6 → rwv w' 86 at_ = va) ∧ ∀ j, j ≠ at_ → j < 140 → rwv w' 86 j = rwv w 86 j))
  refine xoCh82 (xqc82 hI : cp82 (wget w 82)) (fun f82_1 f82_3 f82_5 f82_7 f82_9 f82_11 f82_13 f82_15 f82_17 f82_19 f82_21 f82_22 f82_23 f82_25 f82_27 f82_29 h82_31 hb2 hb4 hb6 hb8 hb10 hb12 hb14 hb16 hb18 hb20 hb24 hb26 hb28 hb30 hb32 => ?_)
  refine xoI (xqc86 hI : cpI 140 53 4294967295 (wget w 86)) (fun g86_33 h86_34 hb35 => ?_)
  refine xg_t (xg_blq rfl) ?_
  refine xg_t (xg_iload (va := (0, kk)) rfl rfl) ?_
  refine xg_t (xg_iload (va := (0, 2)) rfl rfl) ?_
  refine xg_t (xg_cSr mX12_mostOf (vs := [(0, 2)]) (rest := [(0, kk)]) (rs := [(0, 6), (0, kk)]) (cn1 := 0) (sl1 := 0) rfl (mMostR2) rfl rfl rfl rfl rfl rfl rfl rfl) ?_
  by_cases hc36 : kk < 6
  · refine xg_t (xg_icF (u := kk) (v := 6) rfl xnm0 xnm0 (xj_geF hc36 (by omega))) ?_
    refine xg_t (xg_aload (va := (2, 82)) rfl rfl) ?_
    refine xg_t (xg_getf (va := (2, 86)) h82_31 rfl) ?_
    refine xg_t (xg_iload (va := (0, at_)) rfl rfl) ?_
    refine xg_t (xg_iload (va := (0, va)) rfl rfl) ?_
    refine xg_iastK (n := at_) (u := va) h86_34 xnm0 xnm0 rfl (by omega) (fun w37 hr38 hb39 => ?_)
    refine xg_t (xg_blq rfl) ?_
    exact xg_e ⟨w37, ⟨rfl, rfl⟩, xMnv.up (S := [86]) hI (xFr.of (S := [86]) hb39 (by decide)) (List.forall_mem_cons.mpr ⟨xqu86 (show cpI 140 53 4294967295 (wget w37 86) from ⟨_, hr38, xrb (by omega) (hb35)⟩), fun _ h => absurd h List.not_mem_nil⟩), (xFr.of (S := [86]) hb39 (by decide)), ⟨fun _ => (rwv_of hr38 (by omega)).trans (if_pos rfl), fun j hj hl => (rwv_of hr38 hl).trans ((if_neg hj).trans (rwv_of h86_34 hl).symm)⟩⟩
  · refine xg_t (xg_icT (u := kk) (v := 6) rfl xnm0 xnm0 (xj_geT (by omega) (by omega))) ?_
    refine xg_t (xg_blq rfl) ?_
    exact xg_e ⟨w, ⟨rfl, rfl⟩, hI, xFr.rf, ⟨fun h => absurd h (by omega), fun j _ _ => rfl⟩⟩
theorem mPuts3 {kk at_ va : Nat} (hI : xMnv w) (hkk : kk ≤ 1001) (hat : at_ ≤ 9999) (hva : va ≤ 4294967295) (hin : kk < 4 → at_ < 140) : xPq (d + 1) mX12_puts [(2, 82), (0, 3), (0, kk), (0, at_), (0, va)] w bd fc rr [] (fun w' => xMnv w' ∧ xFr [86] w w' ∧ ((kk < 4 → rwv w' 86 at_ = va) ∧ ∀ j, j ≠ at_ → j < 140 → rwv w' 86 j = rwv w 86 j)) := by
  refine xPq.of ?_
  show xTo (d + 1) mX12_puts (0, [], [(0, (2, 82)), (1, (0, 3)), (2, (0, kk)), (3, (0, at_)), (4, (0, va))], [], (w, bd, fc, 0, 0, rr)) (fun φ => ∃ w', xEnd 0 [] (w', bd, fc, 0, 0, rr) φ ∧ xMnv w' ∧ xFr [86] w w' ∧ ((kk < 4 → rwv w' 86 at_ = va) ∧ ∀ j, j ≠ at_ → j < 140 → rwv w' 86 j = rwv w 86 j))
  refine xoCh82 (xqc82 hI : cp82 (wget w 82)) (fun f82_1 f82_3 f82_5 f82_7 f82_9 f82_11 f82_13 f82_15 f82_17 f82_19 f82_21 f82_22 f82_23 f82_25 f82_27 f82_29 h82_31 hb2 hb4 hb6 hb8 hb10 hb12 hb14 hb16 hb18 hb20 hb24 hb26 hb28 hb30 hb32 => ?_)
  refine xoI (xqc86 hI : cpI 140 53 4294967295 (wget w 86)) (fun g86_33 h86_34 hb35 => ?_)
  refine xg_t (xg_blq rfl) ?_
  refine xg_t (xg_iload (va := (0, kk)) rfl rfl) ?_
  refine xg_t (xg_iload (va := (0, 3)) rfl rfl) ?_
  refine xg_t (xg_cSr mX12_mostOf (vs := [(0, 3)]) (rest := [(0, kk)]) (rs := [(0, 4), (0, kk)]) (cn1 := 0) (sl1 := 0) rfl (mMostR3) rfl rfl rfl rfl rfl rfl rfl rfl) ?_
  by_cases hc36 : kk < 4
  · refine xg_t (xg_icF (u := kk) (v := 4) rfl xnm0 xnm0 (xj_geF hc36 (by omega))) ?_
    refine xg_t (xg_aload (va := (2, 82)) rfl rfl) ?_
    refine xg_t (xg_getf (va := (2, 86)) h82_31 rfl) ?_
    refine xg_t (xg_iload (va := (0, at_)) rfl rfl) ?_
    refine xg_t (xg_iload (va := (0, va)) rfl rfl) ?_
    refine xg_iastK (n := at_) (u := va) h86_34 xnm0 xnm0 rfl (by omega) (fun w37 hr38 hb39 => ?_)
    refine xg_t (xg_blq rfl) ?_
    exact xg_e ⟨w37, ⟨rfl, rfl⟩, xMnv.up (S := [86]) hI (xFr.of (S := [86]) hb39 (by decide)) (List.forall_mem_cons.mpr ⟨xqu86 (show cpI 140 53 4294967295 (wget w37 86) from ⟨_, hr38, xrb (by omega) (hb35)⟩), fun _ h => absurd h List.not_mem_nil⟩), (xFr.of (S := [86]) hb39 (by decide)), ⟨fun _ => (rwv_of hr38 (by omega)).trans (if_pos rfl), fun j hj hl => (rwv_of hr38 hl).trans ((if_neg hj).trans (rwv_of h86_34 hl).symm)⟩⟩
  · refine xg_t (xg_icT (u := kk) (v := 4) rfl xnm0 xnm0 (xj_geT (by omega) (by omega))) ?_
    refine xg_t (xg_blq rfl) ?_
    exact xg_e ⟨w, ⟨rfl, rfl⟩, hI, xFr.rf, ⟨fun h => absurd h (by omega), fun j _ _ => rfl⟩⟩
theorem mPuts4 {kk at_ va : Nat} (hI : xMnv w) (hkk : kk ≤ 1001) (hat : at_ ≤ 9999) (hva : va ≤ 4294967295) (hin : kk < 20 → at_ < 140) : xPq (d + 1) mX12_puts [(2, 82), (0, 4), (0, kk), (0, at_), (0, va)] w bd fc rr [] (fun w' => xMnv w' ∧ xFr [86] w w' ∧ ((kk < 20 → rwv w' 86 at_ = va) ∧ ∀ j, j ≠ at_ → j < 140 → rwv w' 86 j = rwv w 86 j)) := by
  refine xPq.of ?_
  show xTo (d + 1) mX12_puts (0, [], [(0, (2, 82)), (1, (0, 4)), (2, (0, kk)), (3, (0, at_)), (4, (0, va))], [], (w, bd, fc, 0, 0, rr)) (fun φ => ∃ w', xEnd 0 [] (w', bd, fc, 0, 0, rr) φ ∧ xMnv w' ∧ xFr [86] w w' ∧ ((kk < 20 → rwv w' 86 at_ = va) ∧ ∀ j, j ≠ at_ → j < 140 → rwv w' 86 j = rwv w 86 j))
  refine xoCh82 (xqc82 hI : cp82 (wget w 82)) (fun f82_1 f82_3 f82_5 f82_7 f82_9 f82_11 f82_13 f82_15 f82_17 f82_19 f82_21 f82_22 f82_23 f82_25 f82_27 f82_29 h82_31 hb2 hb4 hb6 hb8 hb10 hb12 hb14 hb16 hb18 hb20 hb24 hb26 hb28 hb30 hb32 => ?_)
  refine xoI (xqc86 hI : cpI 140 53 4294967295 (wget w 86)) (fun g86_33 h86_34 hb35 => ?_)
  refine xg_t (xg_blq rfl) ?_
  refine xg_t (xg_iload (va := (0, kk)) rfl rfl) ?_
  refine xg_t (xg_iload (va := (0, 4)) rfl rfl) ?_
  refine xg_t (xg_cSr mX12_mostOf (vs := [(0, 4)]) (rest := [(0, kk)]) (rs := [(0, 20), (0, kk)]) (cn1 := 0) (sl1 := 0) rfl (mMostR4) rfl rfl rfl rfl rfl rfl rfl rfl) ?_
  by_cases hc36 : kk < 20
  · refine xg_t (xg_icF (u := kk) (v := 20) rfl xnm0 xnm0 (xj_geF hc36 (by omega))) ?_
    refine xg_t (xg_aload (va := (2, 82)) rfl rfl) ?_
    refine xg_t (xg_getf (va := (2, 86)) h82_31 rfl) ?_
    refine xg_t (xg_iload (va := (0, at_)) rfl rfl) ?_
    refine xg_t (xg_iload (va := (0, va)) rfl rfl) ?_
    refine xg_iastK (n := at_) (u := va) h86_34 xnm0 xnm0 rfl (by omega) (fun w37 hr38 hb39 => ?_)
    refine xg_t (xg_blq rfl) ?_
    exact xg_e ⟨w37, ⟨rfl, rfl⟩, xMnv.up (S := [86]) hI (xFr.of (S := [86]) hb39 (by decide)) (List.forall_mem_cons.mpr ⟨xqu86 (show cpI 140 53 4294967295 (wget w37 86) from ⟨_, hr38, xrb (by omega) (hb35)⟩), fun _ h => absurd h List.not_mem_nil⟩), (xFr.of (S := [86]) hb39 (by decide)), ⟨fun _ => (rwv_of hr38 (by omega)).trans (if_pos rfl), fun j hj hl => (rwv_of hr38 hl).trans ((if_neg hj).trans (rwv_of h86_34 hl).symm)⟩⟩
  · refine xg_t (xg_icT (u := kk) (v := 20) rfl xnm0 xnm0 (xj_geT (by omega) (by omega))) ?_
    refine xg_t (xg_blq rfl) ?_
    exact xg_e ⟨w, ⟨rfl, rfl⟩, hI, xFr.rf, ⟨fun h => absurd h (by omega), fun j _ _ => rfl⟩⟩
theorem mPuts5 {kk at_ va : Nat} (hI : xMnv w) (hkk : kk ≤ 1001) (hat : at_ ≤ 9999) (hva : va ≤ 4294967295) (hin : kk < 1 → at_ < 140) : xPq (d + 1) mX12_puts [(2, 82), (0, 5), (0, kk), (0, at_), (0, va)] w bd fc rr [] (fun w' => xMnv w' ∧ xFr [86] w w' ∧ ((kk < 1 → rwv w' 86 at_ = va) ∧ ∀ j, j ≠ at_ → j < 140 → rwv w' 86 j = rwv w 86 j)) := by
  refine xPq.of ?_
  show xTo (d + 1) mX12_puts (0, [], [(0, (2, 82)), (1, (0, 5)), (2, (0, kk)), (3, (0, at_)), (4, (0, va))], [], (w, bd, fc, 0, 0, rr)) (fun φ => ∃ w', xEnd 0 [] (w', bd, fc, 0, 0, rr) φ ∧ xMnv w' ∧ xFr [86] w w' ∧ ((kk < 1 → rwv w' 86 at_ = va) ∧ ∀ j, j ≠ at_ → j < 140 → rwv w' 86 j = rwv w 86 j))
  refine xoCh82 (xqc82 hI : cp82 (wget w 82)) (fun f82_1 f82_3 f82_5 f82_7 f82_9 f82_11 f82_13 f82_15 f82_17 f82_19 f82_21 f82_22 f82_23 f82_25 f82_27 f82_29 h82_31 hb2 hb4 hb6 hb8 hb10 hb12 hb14 hb16 hb18 hb20 hb24 hb26 hb28 hb30 hb32 => ?_)
  refine xoI (xqc86 hI : cpI 140 53 4294967295 (wget w 86)) (fun g86_33 h86_34 hb35 => ?_)
  refine xg_t (xg_blq rfl) ?_
  refine xg_t (xg_iload (va := (0, kk)) rfl rfl) ?_
  refine xg_t (xg_iload (va := (0, 5)) rfl rfl) ?_
  refine xg_t (xg_cSr mX12_mostOf (vs := [(0, 5)]) (rest := [(0, kk)]) (rs := [(0, 1), (0, kk)]) (cn1 := 0) (sl1 := 0) rfl (mMostR5) rfl rfl rfl rfl rfl rfl rfl rfl) ?_
  by_cases hc36 : kk < 1
  · refine xg_t (xg_icF (u := kk) (v := 1) rfl xnm0 xnm0 (xj_geF hc36 (by omega))) ?_
    refine xg_t (xg_aload (va := (2, 82)) rfl rfl) ?_
    refine xg_t (xg_getf (va := (2, 86)) h82_31 rfl) ?_
    refine xg_t (xg_iload (va := (0, at_)) rfl rfl) ?_
    refine xg_t (xg_iload (va := (0, va)) rfl rfl) ?_
    refine xg_iastK (n := at_) (u := va) h86_34 xnm0 xnm0 rfl (by omega) (fun w37 hr38 hb39 => ?_)
    refine xg_t (xg_blq rfl) ?_
    exact xg_e ⟨w37, ⟨rfl, rfl⟩, xMnv.up (S := [86]) hI (xFr.of (S := [86]) hb39 (by decide)) (List.forall_mem_cons.mpr ⟨xqu86 (show cpI 140 53 4294967295 (wget w37 86) from ⟨_, hr38, xrb (by omega) (hb35)⟩), fun _ h => absurd h List.not_mem_nil⟩), (xFr.of (S := [86]) hb39 (by decide)), ⟨fun _ => (rwv_of hr38 (by omega)).trans (if_pos rfl), fun j hj hl => (rwv_of hr38 hl).trans ((if_neg hj).trans (rwv_of h86_34 hl).symm)⟩⟩
  · refine xg_t (xg_icT (u := kk) (v := 1) rfl xnm0 xnm0 (xj_geT (by omega) (by omega))) ?_
    refine xg_t (xg_blq rfl) ?_
    exact xg_e ⟨w, ⟨rfl, rfl⟩, hI, xFr.rf, ⟨fun h => absurd h (by omega), fun j _ _ => rfl⟩⟩
theorem mPuts6 {kk at_ va : Nat} (hI : xMnv w) (hkk : kk ≤ 1001) (hat : at_ ≤ 9999) (hva : va ≤ 4294967295) (hin : kk < 1 → at_ < 140) : xPq (d + 1) mX12_puts [(2, 82), (0, 6), (0, kk), (0, at_), (0, va)] w bd fc rr [] (fun w' => xMnv w' ∧ xFr [86] w w' ∧ ((kk < 1 → rwv w' 86 at_ = va) ∧ ∀ j, j ≠ at_ → j < 140 → rwv w' 86 j = rwv w 86 j)) := by
  refine xPq.of ?_
  show xTo (d + 1) mX12_puts (0, [], [(0, (2, 82)), (1, (0, 6)), (2, (0, kk)), (3, (0, at_)), (4, (0, va))], [], (w, bd, fc, 0, 0, rr)) (fun φ => ∃ w', xEnd 0 [] (w', bd, fc, 0, 0, rr) φ ∧ xMnv w' ∧ xFr [86] w w' ∧ ((kk < 1 → rwv w' 86 at_ = va) ∧ ∀ j, j ≠ at_ → j < 140 → rwv w' 86 j = rwv w 86 j))
  refine xoCh82 (xqc82 hI : cp82 (wget w 82)) (fun f82_1 f82_3 f82_5 f82_7 f82_9 f82_11 f82_13 f82_15 f82_17 f82_19 f82_21 f82_22 f82_23 f82_25 f82_27 f82_29 h82_31 hb2 hb4 hb6 hb8 hb10 hb12 hb14 hb16 hb18 hb20 hb24 hb26 hb28 hb30 hb32 => ?_)
  refine xoI (xqc86 hI : cpI 140 53 4294967295 (wget w 86)) (fun g86_33 h86_34 hb35 => ?_)
  refine xg_t (xg_blq rfl) ?_
  refine xg_t (xg_iload (va := (0, kk)) rfl rfl) ?_
  refine xg_t (xg_iload (va := (0, 6)) rfl rfl) ?_
  refine xg_t (xg_cSr mX12_mostOf (vs := [(0, 6)]) (rest := [(0, kk)]) (rs := [(0, 1), (0, kk)]) (cn1 := 0) (sl1 := 0) rfl (mMostR6) rfl rfl rfl rfl rfl rfl rfl rfl) ?_
  by_cases hc36 : kk < 1
  · refine xg_t (xg_icF (u := kk) (v := 1) rfl xnm0 xnm0 (xj_geF hc36 (by omega))) ?_
    refine xg_t (xg_aload (va := (2, 82)) rfl rfl) ?_
    refine xg_t (xg_getf (va := (2, 86)) h82_31 rfl) ?_
    refine xg_t (xg_iload (va := (0, at_)) rfl rfl) ?_
    refine xg_t (xg_iload (va := (0, va)) rfl rfl) ?_
    refine xg_iastK (n := at_) (u := va) h86_34 xnm0 xnm0 rfl (by omega) (fun w37 hr38 hb39 => ?_)
    refine xg_t (xg_blq rfl) ?_
    exact xg_e ⟨w37, ⟨rfl, rfl⟩, xMnv.up (S := [86]) hI (xFr.of (S := [86]) hb39 (by decide)) (List.forall_mem_cons.mpr ⟨xqu86 (show cpI 140 53 4294967295 (wget w37 86) from ⟨_, hr38, xrb (by omega) (hb35)⟩), fun _ h => absurd h List.not_mem_nil⟩), (xFr.of (S := [86]) hb39 (by decide)), ⟨fun _ => (rwv_of hr38 (by omega)).trans (if_pos rfl), fun j hj hl => (rwv_of hr38 hl).trans ((if_neg hj).trans (rwv_of h86_34 hl).symm)⟩⟩
  · refine xg_t (xg_icT (u := kk) (v := 1) rfl xnm0 xnm0 (xj_geT (by omega) (by omega))) ?_
    refine xg_t (xg_blq rfl) ?_
    exact xg_e ⟨w, ⟨rfl, rfl⟩, hI, xFr.rf, ⟨fun h => absurd h (by omega), fun j _ _ => rfl⟩⟩
end XMA
end
section
/-! the model: lines of films -/
def DATA (w : List (List xE)) : Prop := rwv w 85 0 ≤ 6 ∧ rwv w 85 1 ≤ 4 ∧ rwv w 85 2 ≤ 6 ∧ rwv w 85 3 ≤ 4 ∧ rwv w 85 4 ≤ 20 ∧ (1 ≤ rwv w 86 5 ∧ rwv w 86 5 ≤ 6) ∧ (1 ≤ rwv w 86 6 ∧ rwv w 86 6 ≤ 6) ∧ (1 ≤ rwv w 86 7 ∧ rwv w 86 7 ≤ 10) ∧ (1 ≤ rwv w 86 8 ∧ rwv w 86 8 ≤ 10) ∧ (∀ k i, k < rwv w 85 0 → i < 3 → 1 ≤ rwv w 86 (20 + 4 * k + i) ∧ rwv w 86 (20 + 4 * k + i) ≤ 99) ∧ ∀ k, k < rwv w 85 1 → 1 ≤ rwv w 86 (51 + 2 * k) ∧ rwv w 86 (51 + 2 * k) ≤ 999
theorem DATA.s0 {w w' : List (List xE)} {K : Nat} (h : DATA w) (hm : ∀ s, s < 7 → s ≠ 0 → rwv w' 85 s = rwv w 85 s) (hK : rwv w 85 0 = K) (hK' : rwv w' 85 0 = K + 1) (hl : K < 6) (hos : ∀ j, (j < 20 + 4 * K ∨ 24 + 4 * K ≤ j) → j < 140 → rwv w' 86 j = rwv w 86 j) (hn : 1 ≤ rwv w' 86 (20 + 4 * K + 0) ∧ rwv w' 86 (20 + 4 * K + 0) ≤ 99 ∧ 1 ≤ rwv w' 86 (20 + 4 * K + 1) ∧ rwv w' 86 (20 + 4 * K + 1) ≤ 99 ∧ 1 ≤ rwv w' 86 (20 + 4 * K + 2) ∧ rwv w' 86 (20 + 4 * K + 2) ≤ 99) : DATA w' := by
  obtain ⟨m0, m1, m2, m3, m4, r5, r6, r7, r8, d0, d1⟩ := h
  have e1 := hm 1 (by decide) (by decide)
  have e2 := hm 2 (by decide) (by decide)
  have e3 := hm 3 (by decide) (by decide)
  have e4 := hm 4 (by decide) (by decide)
  have f5 := hos 5 (by omega) (by decide)
  have f6 := hos 6 (by omega) (by decide)
  have f7 := hos 7 (by omega) (by decide)
  have f8 := hos 8 (by omega) (by decide)
  refine ⟨by omega, by omega, by omega, by omega, by omega, by omega, by omega, by omega, by omega, fun k i hk hi => ?_, fun k hk => ?_⟩
  · by_cases z : k = K
    · subst z
      rcases (show i = 0 ∨ i = 1 ∨ i = 2 by omega) with rfl | rfl | rfl <;> omega
    · rw [hos _ (by omega) (by omega)]
      exact d0 k i (by omega) hi
  · rw [hos _ (by omega) (by omega)]
    exact d1 k (by omega)
theorem DATA.s1 {w w' : List (List xE)} {K : Nat} (h : DATA w) (hm : ∀ s, s < 7 → s ≠ 1 → rwv w' 85 s = rwv w 85 s) (hK : rwv w 85 1 = K) (hK' : rwv w' 85 1 = K + 1) (hl : K < 4) (hos : ∀ j, (j < 50 + 2 * K ∨ 52 + 2 * K ≤ j) → j < 140 → rwv w' 86 j = rwv w 86 j) (hn : 1 ≤ rwv w' 86 (50 + 2 * K + 1) ∧ rwv w' 86 (50 + 2 * K + 1) ≤ 999) : DATA w' := by
  obtain ⟨m0, m1, m2, m3, m4, r5, r6, r7, r8, d0, d1⟩ := h
  have e0 := hm 0 (by decide) (by decide)
  have e2 := hm 2 (by decide) (by decide)
  have e3 := hm 3 (by decide) (by decide)
  have e4 := hm 4 (by decide) (by decide)
  have f5 := hos 5 (by omega) (by decide)
  have f6 := hos 6 (by omega) (by decide)
  have f7 := hos 7 (by omega) (by decide)
  have f8 := hos 8 (by omega) (by decide)
  refine ⟨by omega, by omega, by omega, by omega, by omega, by omega, by omega, by omega, by omega, fun k i hk hi => ?_, fun k hk => ?_⟩
  · rw [hos _ (by omega) (by omega)]
    exact d0 k i (by omega) hi
  · by_cases z : k = K
    · subst z
      have e : 51 + 2 * k = 50 + 2 * k + 1 := by omega
      rw [e]
      exact hn
    · rw [hos _ (by omega) (by omega)]
      exact d1 k (by omega)
theorem DATA.s2 {w w' : List (List xE)} {K : Nat} (h : DATA w) (hm : ∀ s, s < 7 → s ≠ 2 → rwv w' 85 s = rwv w 85 s) (hK : rwv w 85 2 = K) (hK' : rwv w' 85 2 = K + 1) (hl : K < 6) (hos : ∀ j, (j < 60 + 2 * K ∨ 62 + 2 * K ≤ j) → j < 140 → rwv w' 86 j = rwv w 86 j) (hn : True) : DATA w' := by
  obtain ⟨m0, m1, m2, m3, m4, r5, r6, r7, r8, d0, d1⟩ := h
  have e0 := hm 0 (by decide) (by decide)
  have e1 := hm 1 (by decide) (by decide)
  have e3 := hm 3 (by decide) (by decide)
  have e4 := hm 4 (by decide) (by decide)
  have f5 := hos 5 (by omega) (by decide)
  have f6 := hos 6 (by omega) (by decide)
  have f7 := hos 7 (by omega) (by decide)
  have f8 := hos 8 (by omega) (by decide)
  refine ⟨by omega, by omega, by omega, by omega, by omega, by omega, by omega, by omega, by omega, fun k i hk hi => ?_, fun k hk => ?_⟩
  · rw [hos _ (by omega) (by omega)]
    exact d0 k i (by omega) hi
  · rw [hos _ (by omega) (by omega)]
    exact d1 k (by omega)
theorem DATA.s3 {w w' : List (List xE)} {K : Nat} (h : DATA w) (hm : ∀ s, s < 7 → s ≠ 3 → rwv w' 85 s = rwv w 85 s) (hK : rwv w 85 3 = K) (hK' : rwv w' 85 3 = K + 1) (hl : K < 4) (hos : ∀ j, (j < 80 + 3 * K ∨ 83 + 3 * K ≤ j) → j < 140 → rwv w' 86 j = rwv w 86 j) (hn : True) : DATA w' := by
  obtain ⟨m0, m1, m2, m3, m4, r5, r6, r7, r8, d0, d1⟩ := h
  have e0 := hm 0 (by decide) (by decide)
  have e1 := hm 1 (by decide) (by decide)
  have e2 := hm 2 (by decide) (by decide)
  have e4 := hm 4 (by decide) (by decide)
  have f5 := hos 5 (by omega) (by decide)
  have f6 := hos 6 (by omega) (by decide)
  have f7 := hos 7 (by omega) (by decide)
  have f8 := hos 8 (by omega) (by decide)
  refine ⟨by omega, by omega, by omega, by omega, by omega, by omega, by omega, by omega, by omega, fun k i hk hi => ?_, fun k hk => ?_⟩
  · rw [hos _ (by omega) (by omega)]
    exact d0 k i (by omega) hi
  · rw [hos _ (by omega) (by omega)]
    exact d1 k (by omega)
theorem DATA.s4 {w w' : List (List xE)} {K : Nat} (h : DATA w) (hm : ∀ s, s < 7 → s ≠ 4 → rwv w' 85 s = rwv w 85 s) (hK : rwv w 85 4 = K) (hK' : rwv w' 85 4 = K + 1) (hl : K < 20) (hos : ∀ j, (j < 100 + 2 * K ∨ 102 + 2 * K ≤ j) → j < 140 → rwv w' 86 j = rwv w 86 j) (hn : True) : DATA w' := by
  obtain ⟨m0, m1, m2, m3, m4, r5, r6, r7, r8, d0, d1⟩ := h
  have e0 := hm 0 (by decide) (by decide)
  have e1 := hm 1 (by decide) (by decide)
  have e2 := hm 2 (by decide) (by decide)
  have e3 := hm 3 (by decide) (by decide)
  have f5 := hos 5 (by omega) (by decide)
  have f6 := hos 6 (by omega) (by decide)
  have f7 := hos 7 (by omega) (by decide)
  have f8 := hos 8 (by omega) (by decide)
  refine ⟨by omega, by omega, by omega, by omega, by omega, by omega, by omega, by omega, by omega, fun k i hk hi => ?_, fun k hk => ?_⟩
  · rw [hos _ (by omega) (by omega)]
    exact d0 k i (by omega) hi
  · rw [hos _ (by omega) (by omega)]
    exact d1 k (by omega)
theorem DATA.s5 {w w' : List (List xE)} {K : Nat} (h : DATA w) (hm : ∀ s, s < 7 → s ≠ 5 → rwv w' 85 s = rwv w 85 s) (hK : rwv w 85 5 = K) (hK' : rwv w' 85 5 = K + 1) (hl : K < 1) (hos : ∀ j, (j < 7 ∨ 9 ≤ j) → j < 140 → rwv w' 86 j = rwv w 86 j) (hn : 1 ≤ rwv w' 86 7 ∧ rwv w' 86 7 ≤ 10 ∧ 1 ≤ rwv w' 86 8 ∧ rwv w' 86 8 ≤ 10) : DATA w' := by
  obtain ⟨m0, m1, m2, m3, m4, r5, r6, r7, r8, d0, d1⟩ := h
  have e0 := hm 0 (by decide) (by decide)
  have e1 := hm 1 (by decide) (by decide)
  have e2 := hm 2 (by decide) (by decide)
  have e3 := hm 3 (by decide) (by decide)
  have e4 := hm 4 (by decide) (by decide)
  have f5 := hos 5 (by omega) (by decide)
  have f6 := hos 6 (by omega) (by decide)
  refine ⟨by omega, by omega, by omega, by omega, by omega, by omega, by omega, by omega, by omega, fun k i hk hi => ?_, fun k hk => ?_⟩
  · rw [hos _ (by omega) (by omega)]
    exact d0 k i (by omega) hi
  · rw [hos _ (by omega) (by omega)]
    exact d1 k (by omega)
theorem DATA.s6 {w w' : List (List xE)} {K : Nat} (h : DATA w) (hm : ∀ s, s < 7 → s ≠ 6 → rwv w' 85 s = rwv w 85 s) (hK : rwv w 85 6 = K) (hK' : rwv w' 85 6 = K + 1) (hl : K < 1) (hos : ∀ j, (j < 5 ∨ 7 ≤ j) → j < 140 → rwv w' 86 j = rwv w 86 j) (hn : 1 ≤ rwv w' 86 5 ∧ rwv w' 86 5 ≤ 6 ∧ 1 ≤ rwv w' 86 6 ∧ rwv w' 86 6 ≤ 6) : DATA w' := by
  obtain ⟨m0, m1, m2, m3, m4, r5, r6, r7, r8, d0, d1⟩ := h
  have e0 := hm 0 (by decide) (by decide)
  have e1 := hm 1 (by decide) (by decide)
  have e2 := hm 2 (by decide) (by decide)
  have e3 := hm 3 (by decide) (by decide)
  have e4 := hm 4 (by decide) (by decide)
  have f7 := hos 7 (by omega) (by decide)
  have f8 := hos 8 (by omega) (by decide)
  refine ⟨by omega, by omega, by omega, by omega, by omega, by omega, by omega, by omega, by omega, fun k i hk hi => ?_, fun k hk => ?_⟩
  · rw [hos _ (by omega) (by omega)]
    exact d0 k i (by omega) hi
  · rw [hos _ (by omega) (by omega)]
    exact d1 k (by omega)
section XMB
variable {d : Nat} {w : List (List xE)} {bd : List (Nat × Nat)} {fc : List (Nat × Nat × Bool)} {rr : Nat × Nat}
end XMB
end
section
/-! the model: film; images -/
theorem okB_sh {f : Nat → Nat} {b : Nat} (h : okB f 0) : okB (fun j => f (j - b)) b := by
  unfold okB at h ⊢
  simp only [Nat.zero_add] at h
  have e : ∀ t, b + t - b = t := fun t => Nat.add_sub_cancel_left ..
  have e0 : b - b = 0 := Nat.sub_self b
  simp only [e, e0, Nat.add_assoc]
  simp only [Nat.add_assoc] at h
  exact h
theorem okB_dn {f : Nat → Nat} {b : Nat} (h : okB f b) : okB (fun j => f (b + j)) 0 := by
  unfold okB at h ⊢
  simp only [Nat.zero_add, Nat.add_zero]
  simp only [Nat.add_assoc] at h ⊢
  exact h
noncomputable def rwk (w : List (List xE)) (k j : Nat) : Nat := match wget w k with
  | some (.inr a) => (xat a.1 a.2.2.2 j).2
  | _ => 0
theorem rwk_of {w : List (List xE)} {kd tg k L t j : Nat} {f : Nat → Nat} (h : xRk kd tg w k L t f) (hj : j < L) : rwk w k j = f j := by
  obtain ⟨us, h1, h2⟩ := h
  unfold rwk
  rw [h1]
  show (xat kd us j).2 = f j
  rw [h2 j hj]
theorem rwk_eq {w w' : List (List xE)} {k j : Nat} (h : wget w' k = wget w k) : rwk w' k j = rwk w k j := by
  unfold rwk
  rw [h]
def dt (m r : Nat → Nat) : Prop := m 0 ≤ 6 ∧ m 1 ≤ 4 ∧ m 2 ≤ 6 ∧ m 3 ≤ 4 ∧ m 4 ≤ 20 ∧ (1 ≤ r 5 ∧ r 5 ≤ 6) ∧ (1 ≤ r 6 ∧ r 6 ≤ 6) ∧ (1 ≤ r 7 ∧ r 7 ≤ 10) ∧ (1 ≤ r 8 ∧ r 8 ≤ 10) ∧ (∀ k i, k < m 0 → i < 3 → 1 ≤ r (20 + 4 * k + i) ∧ r (20 + 4 * k + i) ≤ 99) ∧ ∀ k, k < m 1 → 1 ≤ r (51 + 2 * k) ∧ r (51 + 2 * k) ≤ 999
theorem DATA.toDt {w : List (List xE)} {m r : Nat → Nat} (h : DATA w) (h1 : xRow w 85 7 52 m) (h2 : xRow w 86 140 53 r) : dt m r := by
  obtain ⟨m0, m1, m2, m3, m4, r5, r6, r7, r8, d0, d1⟩ := h
  have e0 := rwv_of h1 (show 0 < 7 by decide)
  have e1 := rwv_of h1 (show 1 < 7 by decide)
  have e2 := rwv_of h1 (show 2 < 7 by decide)
  have e3 := rwv_of h1 (show 3 < 7 by decide)
  have e4 := rwv_of h1 (show 4 < 7 by decide)
  have f5 := rwv_of h2 (show 5 < 140 by decide)
  have f6 := rwv_of h2 (show 6 < 140 by decide)
  have f7 := rwv_of h2 (show 7 < 140 by decide)
  have f8 := rwv_of h2 (show 8 < 140 by decide)
  refine ⟨by omega, by omega, by omega, by omega, by omega, by omega, by omega, by omega, by omega, fun k i hk hi => ?_, fun k hk => ?_⟩
  · rw [← rwv_of h2 (show 20 + 4 * k + i < 140 by omega)]
    exact d0 k i (by omega) hi
  · rw [← rwv_of h2 (show 51 + 2 * k < 140 by omega)]
    exact d1 k (by omega)
theorem DATA.fr {S : List Nat} {w w' : List (List xE)} (h : DATA w) (hf : xFr S w w') (h1 : 85 ∉ S) (h2 : 86 ∉ S) : DATA w' := by
  unfold DATA
  simp only [fun j => rwv_fr (k := 85) (j := j) hf h1, fun j => rwv_fr (k := 86) (j := j) hf h2]
  exact h
theorem film_ok {f h m r : Nat → Nat} (hf : okA f) (D : dt m r) (a0 : h 0 = m 0) (a1 : h 1 = m 1) (a2 : h 2 = m 2) (a3 : h 3 = m 3) (a4 : h 4 = m 4) (a5 : h 5 = r 5) (a6 : h 6 = r 6) (a7 : h 7 = r 7) (a8 : h 8 = r 8) (a9 : h 9 = 0) (a10 : h 10 = 0) (hr : ∀ j, 20 ≤ j → j < 140 → h j = r j) (ho : ∀ j, 140 ≤ j ∨ j = 13 ∨ j = 15 → h j = f j) : okA h := by
  obtain ⟨m0, m1, m2, m3, m4, r5, r6, r7, r8, d0, d1⟩ := D
  have e13 := ho 13 (by omega)
  have e15 := ho 15 (by omega)
  have e900 := ho 900 (by omega)
  have e901 := ho 901 (by omega)
  have e902 := ho 902 (by omega)
  have b13 := hf.l13
  have b15 := hf.l15
  have b900 := hf.l900
  have b901 := hf.l901
  have b902 := hf.l902
  refine hf.mk0 (fun j hj => ho j (by omega)) (okB.of0 ⟨by omega, by omega, by omega, by omega, by omega, by omega, by omega, by omega, by omega, by omega, by omega, by omega, by omega, by omega, by omega, by omega, by omega⟩ ?_ ?_ ?_ ?_)
  · intro k i hk hi
    rw [hr _ (by omega) (by omega)]
    exact d0 k i (by omega) hi
  · intro k hk
    rw [hr _ (by omega) (by omega)]
    exact d1 k (by omega)
  · intro p i hk hi
    omega
  · intro l hk
    rw [ho _ (by omega)]
    exact hf.rul (by omega)
theorem okA.copy {f g : Nat → Nat} {B : Nat} (hf : okA f) (hB : B = 1340 ∨ B = 2680 ∨ B = 4020) (h1 : ∀ i, 0 ≤ i → i < 1340 → g (B + i) = f i) (h2 : ∀ j, j < B ∨ B + 1340 ≤ j → g j = f j) : okA g := by
  have key : ∀ b, (b = 0 ∨ b = 1340 ∨ b = 2680 ∨ b = 4020) → okB f b → okB g b := by
    intro b hb hk
    by_cases z : b = B
    · subst z
      have q : okB (fun j => f (j - b)) b := okB_sh hf.1
      exact okB_congr (fun t ht => by rw [h1 t (by omega) ht]; show _ = f (b + t - b); rw [Nat.add_sub_cancel_left]) q
    · exact okB_congr (fun t ht => h2 _ (by omega)) hk
  exact ⟨key 0 (by omega) hf.1, key 1340 (by omega) hf.2.1, key 2680 (by omega) hf.2.2.1, key 4020 (by omega) hf.2.2.2⟩
theorem okA.back {f g : Nat → Nat} {B : Nat} (hf : okA f) (hB : B = 1340 ∨ B = 2680 ∨ B = 4020) (h1 : ∀ i, 0 ≤ i → i < 1340 → g i = f (B + i)) (h2 : ∀ j, j < 0 ∨ 1340 ≤ j → g j = f j) : okA g := by
  have hb : okB f B := by
    rcases hB with rfl | rfl | rfl
    · exact hf.2.1
    · exact hf.2.2.1
    · exact hf.2.2.2
  refine hf.mk0 (fun j hj => h2 j (Or.inr hj)) ?_
  have q : okB (fun j => f (B + j)) 0 := okB_dn hb
  exact okB_congr (fun t ht => by show g (0 + t) = f (B + (0 + t)); rw [Nat.zero_add]; exact h1 t (by omega) ht) q
section XMC
variable {d : Nat} {w : List (List xE)} {bd : List (Nat × Nat)} {fc : List (Nat × Nat × Bool)} {rr : Nat × Nat}
theorem cpFilm {P : xS → Prop} {r : Nat → Nat} {q0 q1 q2 q3 q4 q5 q6 q7 q8 q9 q10 q11 q12 q13 q14 q15 : Nat} : ∀ (n k : Nat) (w : List (List xE)) (f : Nat → Nat), k + n = 140 → xRow w 83 5360 50 f → (∀ j, f j ≤ 4294967295) → xRow w 86 140 53 r → (∀ j, r j ≤ 4294967295) → wget w 82 = some (.inl (12, [(2, 83), (2, 84), (0, q0), (0, q1), (0, q2), (0, q3), (0, q4), (0, q5), (0, q6), (0, q7), (0, q8), (2, 85), (2, 86), (2, 87), (0, q9), (2, 88), (2, 89), (2, 90), (2, 91), (2, 92), (2, 93), (2, 94), (4, q10), (4, q11), (0, q12), (2, 95), (2, 96), (2, 97), (2, 98), (2, 99), (2, 100), (2, 101), (2, 102), (0, q13), (2, 103), (2, 104), (2, 105), (2, 106), (2, 107), (2, 108), (2, 109), (0, q14), (0, q15), (2, 110), (2, 111), (2, 112), (2, 113)])) → (∀ w2 f2, xRow w2 83 5360 50 f2 → (∀ j, f2 j ≤ 4294967295) → xBut 83 w w2 → (∀ i, k ≤ i → i < 140 → f2 (i) = r (i)) → (∀ j, j < k ∨ 140 ≤ j → f2 j = f j) → xTo d mX12_film (256, [], [(0, (2, 82)), (1, (0, 140))], [], (w2, bd, fc, 0, 0, rr)) P) → xTo d mX12_film (231, [], [(0, (2, 82)), (1, (0, k))], [], (w, bd, fc, 0, 0, rr)) P
  | 0, k, w, f, hn, h, hB, hs, hsB, hc, K => by
    refine xg_t (xg_blq rfl) ?_
    refine xg_t (xg_iload (va := (0, k)) rfl rfl) ?_
    refine xg_t (xg_sip) ?_
    refine xg_t (xg_icT (u := k) (v := 140) rfl xnm0 xnm0 (xj_geT (by omega) (by omega))) ?_
    have e : k = 140 := by omega
    subst e
    exact K w f h hB xBut.rf (fun i hi hl => absurd hl (by omega)) (fun j _ => rfl)
  | n + 1, k, w, f, hn, h, hB, hs, hsB, hc, K => by
    refine xg_t (xg_blq rfl) ?_
    refine xg_t (xg_iload (va := (0, k)) rfl rfl) ?_
    refine xg_t (xg_sip) ?_
    refine xg_t (xg_icF (u := k) (v := 140) rfl xnm0 xnm0 (xj_geF (by omega) (by omega))) ?_
    refine xg_t (xg_aload (va := (2, 82)) rfl rfl) ?_
    refine xg_t (xg_getf (va := (2, 83)) hc rfl) ?_
    refine xg_t (xg_iload (va := (0, k)) rfl rfl) ?_
    refine xg_t (xg_aload (va := (2, 82)) rfl rfl) ?_
    refine xg_t (xg_getf (va := (2, 86)) hc rfl) ?_
    refine xg_t (xg_iload (va := (0, k)) rfl rfl) ?_
    refine xg_t (xg_ialdR (n := k) (u := r k) hs xnm0 (by omega) rfl) ?_
    refine xg_iastK (n := k) (u := r k) h xnm0 xnm0 rfl (by omega) (fun w1 hr2 hb3 => ?_)
    refine xg_t (xg_iinc (u := k) (z := k + 1) (l1 := [(0, (2, 82))]) rfl rfl (by omega) rfl) ?_
    refine xg_t (xg_goto) ?_
    refine xg_t (xg_drop (l1 := [(0, (2, 82)), (1, (0, k + 1))]) (List.forall_mem_cons.mpr ⟨List.mem_cons_of_mem _ (List.mem_cons_self), List.forall_mem_cons.mpr ⟨List.mem_cons_self, fun _ h => absurd h List.not_mem_nil⟩⟩)) ?_
    refine cpFilm n (k + 1) w1 (fun j => if j = k then r k else f j) (by omega) hr2 (xrb (by have q := hsB k; omega) hB) (hs.but hb3 (by decide)) hsB (hb3.get (by decide) hc) (fun w2 f2 g1 g2 g3 g4 g5 => K w2 f2 g1 g2 (hb3.tr g3) (fun i hi hl => ?_) (fun j hj => ?_))
    · by_cases z : i = k
      · subst z
        rw [g5 _ (by omega)]
        exact if_pos rfl
      · exact g4 i (by omega) hl
    · rw [g5 j (by omega)]
      exact if_neg (by omega)
theorem cpImg0 {P : xS → Prop} {q0 q1 q2 q3 q4 q5 q6 q7 q8 q9 q10 q11 q12 q13 q14 q15 : Nat} : ∀ (n k : Nat) (w : List (List xE)) (f : Nat → Nat), k + n = 1340 → xRow w 83 5360 50 f → (∀ j, f j ≤ 4294967295) → wget w 82 = some (.inl (12, [(2, 83), (2, 84), (0, q0), (0, q1), (0, q2), (0, q3), (0, q4), (0, q5), (0, q6), (0, q7), (0, q8), (2, 85), (2, 86), (2, 87), (0, q9), (2, 88), (2, 89), (2, 90), (2, 91), (2, 92), (2, 93), (2, 94), (4, q10), (4, q11), (0, q12), (2, 95), (2, 96), (2, 97), (2, 98), (2, 99), (2, 100), (2, 101), (2, 102), (0, q13), (2, 103), (2, 104), (2, 105), (2, 106), (2, 107), (2, 108), (2, 109), (0, q14), (0, q15), (2, 110), (2, 111), (2, 112), (2, 113)])) → (∀ w2 f2, xRow w2 83 5360 50 f2 → (∀ j, f2 j ≤ 4294967295) → xBut 83 w w2 → (∀ i, k ≤ i → i < 1340 → f2 (1340 + i) = f (i)) → (∀ j, j < 1340 + k ∨ 1340 + 1340 ≤ j → f2 j = f j) → xTo d mX12_image (53, [], [(0, (2, 82)), (1, (0, 0)), (2, (0, 1340))], [], (w2, bd, fc, 0, 0, rr)) P) → xTo d mX12_image (20, [], [(0, (2, 82)), (1, (0, 0)), (2, (0, k))], [], (w, bd, fc, 0, 0, rr)) P
  | 0, k, w, f, hn, h, hB, hc, K => by
    refine xg_t (xg_blq rfl) ?_
    refine xg_t (xg_iload (va := (0, k)) rfl rfl) ?_
    refine xg_t (xg_sip) ?_
    refine xg_t (xg_icT (u := k) (v := 1340) rfl xnm0 xnm0 (xj_geT (by omega) (by omega))) ?_
    have e : k = 1340 := by omega
    subst e
    exact K w f h hB xBut.rf (fun i hi hl => absurd hl (by omega)) (fun j _ => rfl)
  | n + 1, k, w, f, hn, h, hB, hc, K => by
    refine xg_t (xg_blq rfl) ?_
    refine xg_t (xg_iload (va := (0, k)) rfl rfl) ?_
    refine xg_t (xg_sip) ?_
    refine xg_t (xg_icF (u := k) (v := 1340) rfl xnm0 xnm0 (xj_geF (by omega) (by omega))) ?_
    refine xg_t (xg_aload (va := (2, 82)) rfl rfl) ?_
    refine xg_t (xg_getf (va := (2, 83)) hc rfl) ?_
    refine xg_t (xg_sip) ?_
    refine xg_t (xg_iload (va := (0, 0)) rfl rfl) ?_
    refine xg_t (xg_const) ?_
    refine xg_t (xg_iadd (u := 0) (v := 1) (z := 1) xnm0 xnm0 (by decide)) ?_
    refine xg_t (xg_imul (u := 1340) (v := 1) (z := 1340) xnm0 xnm0 (by decide)) ?_
    refine xg_t (xg_iload (va := (0, k)) rfl rfl) ?_
    refine xg_t (xg_iadd (u := 1340) (v := k) (z := 1340 + k) xnm0 xnm0 (by omega)) ?_
    refine xg_t (xg_aload (va := (2, 82)) rfl rfl) ?_
    refine xg_t (xg_getf (va := (2, 83)) hc rfl) ?_
    refine xg_t (xg_iload (va := (0, k)) rfl rfl) ?_
    refine xg_t (xg_ialdR (n := k) (u := f k) h xnm0 (by omega) rfl) ?_
    refine xg_iastK (n := 1340 + k) (u := f k) h xnm0 xnm0 rfl (by omega) (fun w1 hr2 hb3 => ?_)
    refine xg_t (xg_iinc (u := k) (z := k + 1) (l1 := [(0, (2, 82)), (1, (0, 0))]) rfl rfl (by omega) rfl) ?_
    refine xg_t (xg_goto) ?_
    refine xg_t (xg_drop (l1 := [(0, (2, 82)), (1, (0, 0)), (2, (0, k + 1))]) (List.forall_mem_cons.mpr ⟨List.mem_cons_of_mem _ (List.mem_cons_self), List.forall_mem_cons.mpr ⟨List.mem_cons_of_mem _ (List.mem_cons_of_mem _ (List.mem_cons_self)), List.forall_mem_cons.mpr ⟨List.mem_cons_self, fun _ h => absurd h List.not_mem_nil⟩⟩⟩)) ?_
    refine cpImg0 n (k + 1) w1 (fun j => if j = 1340 + k then f k else f j) (by omega) hr2 (xrb (by have q := hB k; omega) hB) (hb3.get (by decide) hc) (fun w2 f2 g1 g2 g3 g4 g5 => K w2 f2 g1 g2 (hb3.tr g3) (fun i hi hl => ?_) (fun j hj => ?_))
    · by_cases z : i = k
      · subst z
        rw [g5 _ (by omega)]
        exact if_pos rfl
      · rw [g4 i (by omega) hl]
        exact if_neg (by omega)
    · rw [g5 j (by omega)]
      exact if_neg (by omega)
theorem cpAgn0 {P : xS → Prop} {q0 q1 q2 q3 q4 q5 q6 q7 q8 q9 q10 q11 q12 q13 q14 q15 : Nat} : ∀ (n k : Nat) (w : List (List xE)) (f : Nat → Nat), k + n = 1340 → xRow w 83 5360 50 f → (∀ j, f j ≤ 4294967295) → wget w 82 = some (.inl (12, [(2, 83), (2, 84), (0, q0), (0, q1), (0, q2), (0, q3), (0, q4), (0, q5), (0, q6), (0, q7), (0, q8), (2, 85), (2, 86), (2, 87), (0, q9), (2, 88), (2, 89), (2, 90), (2, 91), (2, 92), (2, 93), (2, 94), (4, q10), (4, q11), (0, q12), (2, 95), (2, 96), (2, 97), (2, 98), (2, 99), (2, 100), (2, 101), (2, 102), (0, q13), (2, 103), (2, 104), (2, 105), (2, 106), (2, 107), (2, 108), (2, 109), (0, q14), (0, q15), (2, 110), (2, 111), (2, 112), (2, 113)])) → (∀ w2 f2, xRow w2 83 5360 50 f2 → (∀ j, f2 j ≤ 4294967295) → xBut 83 w w2 → (∀ i, k ≤ i → i < 1340 → f2 (i) = f (1340 + i)) → (∀ j, j < k ∨ 1340 ≤ j → f2 j = f j) → xTo d mX12_again (55, [], [(0, (2, 82)), (1, (0, 0)), (2, (0, 1340))], [], (w2, bd, fc, 0, 0, rr)) P) → xTo d mX12_again (22, [], [(0, (2, 82)), (1, (0, 0)), (2, (0, k))], [], (w, bd, fc, 0, 0, rr)) P
  | 0, k, w, f, hn, h, hB, hc, K => by
    refine xg_t (xg_blq rfl) ?_
    refine xg_t (xg_iload (va := (0, k)) rfl rfl) ?_
    refine xg_t (xg_sip) ?_
    refine xg_t (xg_icT (u := k) (v := 1340) rfl xnm0 xnm0 (xj_geT (by omega) (by omega))) ?_
    have e : k = 1340 := by omega
    subst e
    exact K w f h hB xBut.rf (fun i hi hl => absurd hl (by omega)) (fun j _ => rfl)
  | n + 1, k, w, f, hn, h, hB, hc, K => by
    refine xg_t (xg_blq rfl) ?_
    refine xg_t (xg_iload (va := (0, k)) rfl rfl) ?_
    refine xg_t (xg_sip) ?_
    refine xg_t (xg_icF (u := k) (v := 1340) rfl xnm0 xnm0 (xj_geF (by omega) (by omega))) ?_
    refine xg_t (xg_aload (va := (2, 82)) rfl rfl) ?_
    refine xg_t (xg_getf (va := (2, 83)) hc rfl) ?_
    refine xg_t (xg_iload (va := (0, k)) rfl rfl) ?_
    refine xg_t (xg_aload (va := (2, 82)) rfl rfl) ?_
    refine xg_t (xg_getf (va := (2, 83)) hc rfl) ?_
    refine xg_t (xg_sip) ?_
    refine xg_t (xg_iload (va := (0, 0)) rfl rfl) ?_
    refine xg_t (xg_const) ?_
    refine xg_t (xg_iadd (u := 0) (v := 1) (z := 1) xnm0 xnm0 (by decide)) ?_
    refine xg_t (xg_imul (u := 1340) (v := 1) (z := 1340) xnm0 xnm0 (by decide)) ?_
    refine xg_t (xg_iload (va := (0, k)) rfl rfl) ?_
    refine xg_t (xg_iadd (u := 1340) (v := k) (z := 1340 + k) xnm0 xnm0 (by omega)) ?_
    refine xg_t (xg_ialdR (n := 1340 + k) (u := f (1340 + k)) h xnm0 (by omega) rfl) ?_
    refine xg_iastK (n := k) (u := f (1340 + k)) h xnm0 xnm0 rfl (by omega) (fun w1 hr2 hb3 => ?_)
    refine xg_t (xg_iinc (u := k) (z := k + 1) (l1 := [(0, (2, 82)), (1, (0, 0))]) rfl rfl (by omega) rfl) ?_
    refine xg_t (xg_goto) ?_
    refine xg_t (xg_drop (l1 := [(0, (2, 82)), (1, (0, 0)), (2, (0, k + 1))]) (List.forall_mem_cons.mpr ⟨List.mem_cons_of_mem _ (List.mem_cons_self), List.forall_mem_cons.mpr ⟨List.mem_cons_of_mem _ (List.mem_cons_of_mem _ (List.mem_cons_self)), List.forall_mem_cons.mpr ⟨List.mem_cons_self, fun _ h => absurd h List.not_mem_nil⟩⟩⟩)) ?_
    refine cpAgn0 n (k + 1) w1 (fun j => if j = k then f (1340 + k) else f j) (by omega) hr2 (xrb (by have q := hB (1340 + k); omega) hB) (hb3.get (by decide) hc) (fun w2 f2 g1 g2 g3 g4 g5 => K w2 f2 g1 g2 (hb3.tr g3) (fun i hi hl => ?_) (fun j hj => ?_))
    · by_cases z : i = k
      · subst z
        rw [g5 _ (by omega)]
        exact if_pos rfl
      · rw [g4 i (by omega) hl]
        exact if_neg (by omega)
    · rw [g5 j (by omega)]
      exact if_neg (by omega)
theorem cpImg1 {P : xS → Prop} {q0 q1 q2 q3 q4 q5 q6 q7 q8 q9 q10 q11 q12 q13 q14 q15 : Nat} : ∀ (n k : Nat) (w : List (List xE)) (f : Nat → Nat), k + n = 1340 → xRow w 83 5360 50 f → (∀ j, f j ≤ 4294967295) → wget w 82 = some (.inl (12, [(2, 83), (2, 84), (0, q0), (0, q1), (0, q2), (0, q3), (0, q4), (0, q5), (0, q6), (0, q7), (0, q8), (2, 85), (2, 86), (2, 87), (0, q9), (2, 88), (2, 89), (2, 90), (2, 91), (2, 92), (2, 93), (2, 94), (4, q10), (4, q11), (0, q12), (2, 95), (2, 96), (2, 97), (2, 98), (2, 99), (2, 100), (2, 101), (2, 102), (0, q13), (2, 103), (2, 104), (2, 105), (2, 106), (2, 107), (2, 108), (2, 109), (0, q14), (0, q15), (2, 110), (2, 111), (2, 112), (2, 113)])) → (∀ w2 f2, xRow w2 83 5360 50 f2 → (∀ j, f2 j ≤ 4294967295) → xBut 83 w w2 → (∀ i, k ≤ i → i < 1340 → f2 (2680 + i) = f (i)) → (∀ j, j < 2680 + k ∨ 2680 + 1340 ≤ j → f2 j = f j) → xTo d mX12_image (53, [], [(0, (2, 82)), (1, (0, 1)), (2, (0, 1340))], [], (w2, bd, fc, 0, 0, rr)) P) → xTo d mX12_image (20, [], [(0, (2, 82)), (1, (0, 1)), (2, (0, k))], [], (w, bd, fc, 0, 0, rr)) P
  | 0, k, w, f, hn, h, hB, hc, K => by
    refine xg_t (xg_blq rfl) ?_
    refine xg_t (xg_iload (va := (0, k)) rfl rfl) ?_
    refine xg_t (xg_sip) ?_
    refine xg_t (xg_icT (u := k) (v := 1340) rfl xnm0 xnm0 (xj_geT (by omega) (by omega))) ?_
    have e : k = 1340 := by omega
    subst e
    exact K w f h hB xBut.rf (fun i hi hl => absurd hl (by omega)) (fun j _ => rfl)
  | n + 1, k, w, f, hn, h, hB, hc, K => by
    refine xg_t (xg_blq rfl) ?_
    refine xg_t (xg_iload (va := (0, k)) rfl rfl) ?_
    refine xg_t (xg_sip) ?_
    refine xg_t (xg_icF (u := k) (v := 1340) rfl xnm0 xnm0 (xj_geF (by omega) (by omega))) ?_
    refine xg_t (xg_aload (va := (2, 82)) rfl rfl) ?_
    refine xg_t (xg_getf (va := (2, 83)) hc rfl) ?_
    refine xg_t (xg_sip) ?_
    refine xg_t (xg_iload (va := (0, 1)) rfl rfl) ?_
    refine xg_t (xg_const) ?_
    refine xg_t (xg_iadd (u := 1) (v := 1) (z := 2) xnm0 xnm0 (by decide)) ?_
    refine xg_t (xg_imul (u := 1340) (v := 2) (z := 2680) xnm0 xnm0 (by decide)) ?_
    refine xg_t (xg_iload (va := (0, k)) rfl rfl) ?_
    refine xg_t (xg_iadd (u := 2680) (v := k) (z := 2680 + k) xnm0 xnm0 (by omega)) ?_
    refine xg_t (xg_aload (va := (2, 82)) rfl rfl) ?_
    refine xg_t (xg_getf (va := (2, 83)) hc rfl) ?_
    refine xg_t (xg_iload (va := (0, k)) rfl rfl) ?_
    refine xg_t (xg_ialdR (n := k) (u := f k) h xnm0 (by omega) rfl) ?_
    refine xg_iastK (n := 2680 + k) (u := f k) h xnm0 xnm0 rfl (by omega) (fun w1 hr2 hb3 => ?_)
    refine xg_t (xg_iinc (u := k) (z := k + 1) (l1 := [(0, (2, 82)), (1, (0, 1))]) rfl rfl (by omega) rfl) ?_
    refine xg_t (xg_goto) ?_
    refine xg_t (xg_drop (l1 := [(0, (2, 82)), (1, (0, 1)), (2, (0, k + 1))]) (List.forall_mem_cons.mpr ⟨List.mem_cons_of_mem _ (List.mem_cons_self), List.forall_mem_cons.mpr ⟨List.mem_cons_of_mem _ (List.mem_cons_of_mem _ (List.mem_cons_self)), List.forall_mem_cons.mpr ⟨List.mem_cons_self, fun _ h => absurd h List.not_mem_nil⟩⟩⟩)) ?_
    refine cpImg1 n (k + 1) w1 (fun j => if j = 2680 + k then f k else f j) (by omega) hr2 (xrb (by have q := hB k; omega) hB) (hb3.get (by decide) hc) (fun w2 f2 g1 g2 g3 g4 g5 => K w2 f2 g1 g2 (hb3.tr g3) (fun i hi hl => ?_) (fun j hj => ?_))
    · by_cases z : i = k
      · subst z
        rw [g5 _ (by omega)]
        exact if_pos rfl
      · rw [g4 i (by omega) hl]
        exact if_neg (by omega)
    · rw [g5 j (by omega)]
      exact if_neg (by omega)
theorem cpAgn1 {P : xS → Prop} {q0 q1 q2 q3 q4 q5 q6 q7 q8 q9 q10 q11 q12 q13 q14 q15 : Nat} : ∀ (n k : Nat) (w : List (List xE)) (f : Nat → Nat), k + n = 1340 → xRow w 83 5360 50 f → (∀ j, f j ≤ 4294967295) → wget w 82 = some (.inl (12, [(2, 83), (2, 84), (0, q0), (0, q1), (0, q2), (0, q3), (0, q4), (0, q5), (0, q6), (0, q7), (0, q8), (2, 85), (2, 86), (2, 87), (0, q9), (2, 88), (2, 89), (2, 90), (2, 91), (2, 92), (2, 93), (2, 94), (4, q10), (4, q11), (0, q12), (2, 95), (2, 96), (2, 97), (2, 98), (2, 99), (2, 100), (2, 101), (2, 102), (0, q13), (2, 103), (2, 104), (2, 105), (2, 106), (2, 107), (2, 108), (2, 109), (0, q14), (0, q15), (2, 110), (2, 111), (2, 112), (2, 113)])) → (∀ w2 f2, xRow w2 83 5360 50 f2 → (∀ j, f2 j ≤ 4294967295) → xBut 83 w w2 → (∀ i, k ≤ i → i < 1340 → f2 (i) = f (2680 + i)) → (∀ j, j < k ∨ 1340 ≤ j → f2 j = f j) → xTo d mX12_again (55, [], [(0, (2, 82)), (1, (0, 1)), (2, (0, 1340))], [], (w2, bd, fc, 0, 0, rr)) P) → xTo d mX12_again (22, [], [(0, (2, 82)), (1, (0, 1)), (2, (0, k))], [], (w, bd, fc, 0, 0, rr)) P
  | 0, k, w, f, hn, h, hB, hc, K => by
    refine xg_t (xg_blq rfl) ?_
    refine xg_t (xg_iload (va := (0, k)) rfl rfl) ?_
    refine xg_t (xg_sip) ?_
    refine xg_t (xg_icT (u := k) (v := 1340) rfl xnm0 xnm0 (xj_geT (by omega) (by omega))) ?_
    have e : k = 1340 := by omega
    subst e
    exact K w f h hB xBut.rf (fun i hi hl => absurd hl (by omega)) (fun j _ => rfl)
  | n + 1, k, w, f, hn, h, hB, hc, K => by
    refine xg_t (xg_blq rfl) ?_
    refine xg_t (xg_iload (va := (0, k)) rfl rfl) ?_
    refine xg_t (xg_sip) ?_
    refine xg_t (xg_icF (u := k) (v := 1340) rfl xnm0 xnm0 (xj_geF (by omega) (by omega))) ?_
    refine xg_t (xg_aload (va := (2, 82)) rfl rfl) ?_
    refine xg_t (xg_getf (va := (2, 83)) hc rfl) ?_
    refine xg_t (xg_iload (va := (0, k)) rfl rfl) ?_
    refine xg_t (xg_aload (va := (2, 82)) rfl rfl) ?_
    refine xg_t (xg_getf (va := (2, 83)) hc rfl) ?_
    refine xg_t (xg_sip) ?_
    refine xg_t (xg_iload (va := (0, 1)) rfl rfl) ?_
    refine xg_t (xg_const) ?_
    refine xg_t (xg_iadd (u := 1) (v := 1) (z := 2) xnm0 xnm0 (by decide)) ?_
    refine xg_t (xg_imul (u := 1340) (v := 2) (z := 2680) xnm0 xnm0 (by decide)) ?_
    refine xg_t (xg_iload (va := (0, k)) rfl rfl) ?_
    refine xg_t (xg_iadd (u := 2680) (v := k) (z := 2680 + k) xnm0 xnm0 (by omega)) ?_
    refine xg_t (xg_ialdR (n := 2680 + k) (u := f (2680 + k)) h xnm0 (by omega) rfl) ?_
    refine xg_iastK (n := k) (u := f (2680 + k)) h xnm0 xnm0 rfl (by omega) (fun w1 hr2 hb3 => ?_)
    refine xg_t (xg_iinc (u := k) (z := k + 1) (l1 := [(0, (2, 82)), (1, (0, 1))]) rfl rfl (by omega) rfl) ?_
    refine xg_t (xg_goto) ?_
    refine xg_t (xg_drop (l1 := [(0, (2, 82)), (1, (0, 1)), (2, (0, k + 1))]) (List.forall_mem_cons.mpr ⟨List.mem_cons_of_mem _ (List.mem_cons_self), List.forall_mem_cons.mpr ⟨List.mem_cons_of_mem _ (List.mem_cons_of_mem _ (List.mem_cons_self)), List.forall_mem_cons.mpr ⟨List.mem_cons_self, fun _ h => absurd h List.not_mem_nil⟩⟩⟩)) ?_
    refine cpAgn1 n (k + 1) w1 (fun j => if j = k then f (2680 + k) else f j) (by omega) hr2 (xrb (by have q := hB (2680 + k); omega) hB) (hb3.get (by decide) hc) (fun w2 f2 g1 g2 g3 g4 g5 => K w2 f2 g1 g2 (hb3.tr g3) (fun i hi hl => ?_) (fun j hj => ?_))
    · by_cases z : i = k
      · subst z
        rw [g5 _ (by omega)]
        exact if_pos rfl
      · rw [g4 i (by omega) hl]
        exact if_neg (by omega)
    · rw [g5 j (by omega)]
      exact if_neg (by omega)
theorem cpImg2 {P : xS → Prop} {q0 q1 q2 q3 q4 q5 q6 q7 q8 q9 q10 q11 q12 q13 q14 q15 : Nat} : ∀ (n k : Nat) (w : List (List xE)) (f : Nat → Nat), k + n = 1340 → xRow w 83 5360 50 f → (∀ j, f j ≤ 4294967295) → wget w 82 = some (.inl (12, [(2, 83), (2, 84), (0, q0), (0, q1), (0, q2), (0, q3), (0, q4), (0, q5), (0, q6), (0, q7), (0, q8), (2, 85), (2, 86), (2, 87), (0, q9), (2, 88), (2, 89), (2, 90), (2, 91), (2, 92), (2, 93), (2, 94), (4, q10), (4, q11), (0, q12), (2, 95), (2, 96), (2, 97), (2, 98), (2, 99), (2, 100), (2, 101), (2, 102), (0, q13), (2, 103), (2, 104), (2, 105), (2, 106), (2, 107), (2, 108), (2, 109), (0, q14), (0, q15), (2, 110), (2, 111), (2, 112), (2, 113)])) → (∀ w2 f2, xRow w2 83 5360 50 f2 → (∀ j, f2 j ≤ 4294967295) → xBut 83 w w2 → (∀ i, k ≤ i → i < 1340 → f2 (4020 + i) = f (i)) → (∀ j, j < 4020 + k ∨ 4020 + 1340 ≤ j → f2 j = f j) → xTo d mX12_image (53, [], [(0, (2, 82)), (1, (0, 2)), (2, (0, 1340))], [], (w2, bd, fc, 0, 0, rr)) P) → xTo d mX12_image (20, [], [(0, (2, 82)), (1, (0, 2)), (2, (0, k))], [], (w, bd, fc, 0, 0, rr)) P
  | 0, k, w, f, hn, h, hB, hc, K => by
    refine xg_t (xg_blq rfl) ?_
    refine xg_t (xg_iload (va := (0, k)) rfl rfl) ?_
    refine xg_t (xg_sip) ?_
    refine xg_t (xg_icT (u := k) (v := 1340) rfl xnm0 xnm0 (xj_geT (by omega) (by omega))) ?_
    have e : k = 1340 := by omega
    subst e
    exact K w f h hB xBut.rf (fun i hi hl => absurd hl (by omega)) (fun j _ => rfl)
  | n + 1, k, w, f, hn, h, hB, hc, K => by
    refine xg_t (xg_blq rfl) ?_
    refine xg_t (xg_iload (va := (0, k)) rfl rfl) ?_
    refine xg_t (xg_sip) ?_
    refine xg_t (xg_icF (u := k) (v := 1340) rfl xnm0 xnm0 (xj_geF (by omega) (by omega))) ?_
    refine xg_t (xg_aload (va := (2, 82)) rfl rfl) ?_
    refine xg_t (xg_getf (va := (2, 83)) hc rfl) ?_
    refine xg_t (xg_sip) ?_
    refine xg_t (xg_iload (va := (0, 2)) rfl rfl) ?_
    refine xg_t (xg_const) ?_
    refine xg_t (xg_iadd (u := 2) (v := 1) (z := 3) xnm0 xnm0 (by decide)) ?_
    refine xg_t (xg_imul (u := 1340) (v := 3) (z := 4020) xnm0 xnm0 (by decide)) ?_
    refine xg_t (xg_iload (va := (0, k)) rfl rfl) ?_
    refine xg_t (xg_iadd (u := 4020) (v := k) (z := 4020 + k) xnm0 xnm0 (by omega)) ?_
    refine xg_t (xg_aload (va := (2, 82)) rfl rfl) ?_
    refine xg_t (xg_getf (va := (2, 83)) hc rfl) ?_
    refine xg_t (xg_iload (va := (0, k)) rfl rfl) ?_
    refine xg_t (xg_ialdR (n := k) (u := f k) h xnm0 (by omega) rfl) ?_
    refine xg_iastK (n := 4020 + k) (u := f k) h xnm0 xnm0 rfl (by omega) (fun w1 hr2 hb3 => ?_)
    refine xg_t (xg_iinc (u := k) (z := k + 1) (l1 := [(0, (2, 82)), (1, (0, 2))]) rfl rfl (by omega) rfl) ?_
    refine xg_t (xg_goto) ?_
    refine xg_t (xg_drop (l1 := [(0, (2, 82)), (1, (0, 2)), (2, (0, k + 1))]) (List.forall_mem_cons.mpr ⟨List.mem_cons_of_mem _ (List.mem_cons_self), List.forall_mem_cons.mpr ⟨List.mem_cons_of_mem _ (List.mem_cons_of_mem _ (List.mem_cons_self)), List.forall_mem_cons.mpr ⟨List.mem_cons_self, fun _ h => absurd h List.not_mem_nil⟩⟩⟩)) ?_
    refine cpImg2 n (k + 1) w1 (fun j => if j = 4020 + k then f k else f j) (by omega) hr2 (xrb (by have q := hB k; omega) hB) (hb3.get (by decide) hc) (fun w2 f2 g1 g2 g3 g4 g5 => K w2 f2 g1 g2 (hb3.tr g3) (fun i hi hl => ?_) (fun j hj => ?_))
    · by_cases z : i = k
      · subst z
        rw [g5 _ (by omega)]
        exact if_pos rfl
      · rw [g4 i (by omega) hl]
        exact if_neg (by omega)
    · rw [g5 j (by omega)]
      exact if_neg (by omega)
theorem cpAgn2 {P : xS → Prop} {q0 q1 q2 q3 q4 q5 q6 q7 q8 q9 q10 q11 q12 q13 q14 q15 : Nat} : ∀ (n k : Nat) (w : List (List xE)) (f : Nat → Nat), k + n = 1340 → xRow w 83 5360 50 f → (∀ j, f j ≤ 4294967295) → wget w 82 = some (.inl (12, [(2, 83), (2, 84), (0, q0), (0, q1), (0, q2), (0, q3), (0, q4), (0, q5), (0, q6), (0, q7), (0, q8), (2, 85), (2, 86), (2, 87), (0, q9), (2, 88), (2, 89), (2, 90), (2, 91), (2, 92), (2, 93), (2, 94), (4, q10), (4, q11), (0, q12), (2, 95), (2, 96), (2, 97), (2, 98), (2, 99), (2, 100), (2, 101), (2, 102), (0, q13), (2, 103), (2, 104), (2, 105), (2, 106), (2, 107), (2, 108), (2, 109), (0, q14), (0, q15), (2, 110), (2, 111), (2, 112), (2, 113)])) → (∀ w2 f2, xRow w2 83 5360 50 f2 → (∀ j, f2 j ≤ 4294967295) → xBut 83 w w2 → (∀ i, k ≤ i → i < 1340 → f2 (i) = f (4020 + i)) → (∀ j, j < k ∨ 1340 ≤ j → f2 j = f j) → xTo d mX12_again (55, [], [(0, (2, 82)), (1, (0, 2)), (2, (0, 1340))], [], (w2, bd, fc, 0, 0, rr)) P) → xTo d mX12_again (22, [], [(0, (2, 82)), (1, (0, 2)), (2, (0, k))], [], (w, bd, fc, 0, 0, rr)) P
  | 0, k, w, f, hn, h, hB, hc, K => by
    refine xg_t (xg_blq rfl) ?_
    refine xg_t (xg_iload (va := (0, k)) rfl rfl) ?_
    refine xg_t (xg_sip) ?_
    refine xg_t (xg_icT (u := k) (v := 1340) rfl xnm0 xnm0 (xj_geT (by omega) (by omega))) ?_
    have e : k = 1340 := by omega
    subst e
    exact K w f h hB xBut.rf (fun i hi hl => absurd hl (by omega)) (fun j _ => rfl)
  | n + 1, k, w, f, hn, h, hB, hc, K => by
    refine xg_t (xg_blq rfl) ?_
    refine xg_t (xg_iload (va := (0, k)) rfl rfl) ?_
    refine xg_t (xg_sip) ?_
    refine xg_t (xg_icF (u := k) (v := 1340) rfl xnm0 xnm0 (xj_geF (by omega) (by omega))) ?_
    refine xg_t (xg_aload (va := (2, 82)) rfl rfl) ?_
    refine xg_t (xg_getf (va := (2, 83)) hc rfl) ?_
    refine xg_t (xg_iload (va := (0, k)) rfl rfl) ?_
    refine xg_t (xg_aload (va := (2, 82)) rfl rfl) ?_
    refine xg_t (xg_getf (va := (2, 83)) hc rfl) ?_
    refine xg_t (xg_sip) ?_
    refine xg_t (xg_iload (va := (0, 2)) rfl rfl) ?_
    refine xg_t (xg_const) ?_
    refine xg_t (xg_iadd (u := 2) (v := 1) (z := 3) xnm0 xnm0 (by decide)) ?_
    refine xg_t (xg_imul (u := 1340) (v := 3) (z := 4020) xnm0 xnm0 (by decide)) ?_
    refine xg_t (xg_iload (va := (0, k)) rfl rfl) ?_
    refine xg_t (xg_iadd (u := 4020) (v := k) (z := 4020 + k) xnm0 xnm0 (by omega)) ?_
    refine xg_t (xg_ialdR (n := 4020 + k) (u := f (4020 + k)) h xnm0 (by omega) rfl) ?_
    refine xg_iastK (n := k) (u := f (4020 + k)) h xnm0 xnm0 rfl (by omega) (fun w1 hr2 hb3 => ?_)
    refine xg_t (xg_iinc (u := k) (z := k + 1) (l1 := [(0, (2, 82)), (1, (0, 2))]) rfl rfl (by omega) rfl) ?_
    refine xg_t (xg_goto) ?_
    refine xg_t (xg_drop (l1 := [(0, (2, 82)), (1, (0, 2)), (2, (0, k + 1))]) (List.forall_mem_cons.mpr ⟨List.mem_cons_of_mem _ (List.mem_cons_self), List.forall_mem_cons.mpr ⟨List.mem_cons_of_mem _ (List.mem_cons_of_mem _ (List.mem_cons_self)), List.forall_mem_cons.mpr ⟨List.mem_cons_self, fun _ h => absurd h List.not_mem_nil⟩⟩⟩)) ?_
    refine cpAgn2 n (k + 1) w1 (fun j => if j = k then f (4020 + k) else f j) (by omega) hr2 (xrb (by have q := hB (4020 + k); omega) hB) (hb3.get (by decide) hc) (fun w2 f2 g1 g2 g3 g4 g5 => K w2 f2 g1 g2 (hb3.tr g3) (fun i hi hl => ?_) (fun j hj => ?_))
    · by_cases z : i = k
      · subst z
        rw [g5 _ (by omega)]
        exact if_pos rfl
      · rw [g4 i (by omega) hl]
        exact if_neg (by omega)
    · rw [g5 j (by omega)]
      exact if_neg (by omega)
theorem cpRul {P : xS → Prop} {r : Nat → Nat} {q0 q1 q2 q3 q4 q5 q6 q7 q8 q9 q10 q11 q12 q13 q14 q15 : Nat} : ∀ (n k : Nat) (w : List (List xE)) (f : Nat → Nat), k + n = 320 → xRow w 83 5360 50 f → (∀ j, f j ≤ 4294967295) → xRow w 112 320 79 r → (∀ j, r j ≤ 4294967295) → wget w 82 = some (.inl (12, [(2, 83), (2, 84), (0, q0), (0, q1), (0, q2), (0, q3), (0, q4), (0, q5), (0, q6), (0, q7), (0, q8), (2, 85), (2, 86), (2, 87), (0, q9), (2, 88), (2, 89), (2, 90), (2, 91), (2, 92), (2, 93), (2, 94), (4, q10), (4, q11), (0, q12), (2, 95), (2, 96), (2, 97), (2, 98), (2, 99), (2, 100), (2, 101), (2, 102), (0, q13), (2, 103), (2, 104), (2, 105), (2, 106), (2, 107), (2, 108), (2, 109), (0, q14), (0, q15), (2, 110), (2, 111), (2, 112), (2, 113)])) → (∀ w2 f2, xRow w2 83 5360 50 f2 → (∀ j, f2 j ≤ 4294967295) → xBut 83 w w2 → (∀ i, k ≤ i → i < 320 → f2 (1020 + i) = r (i)) → (∀ j, j < 1020 + k ∨ 1020 + 320 ≤ j → f2 j = f j) → xTo d mX12_rules (73, [], [(0, (2, 82)), (1, (0, 320))], [], (w2, bd, fc, 0, 0, rr)) P) → xTo d mX12_rules (44, [], [(0, (2, 82)), (1, (0, k))], [], (w, bd, fc, 0, 0, rr)) P
  | 0, k, w, f, hn, h, hB, hs, hsB, hc, K => by
    refine xg_t (xg_blq rfl) ?_
    refine xg_t (xg_iload (va := (0, k)) rfl rfl) ?_
    refine xg_t (xg_sip) ?_
    refine xg_t (xg_icT (u := k) (v := 320) rfl xnm0 xnm0 (xj_geT (by omega) (by omega))) ?_
    have e : k = 320 := by omega
    subst e
    exact K w f h hB xBut.rf (fun i hi hl => absurd hl (by omega)) (fun j _ => rfl)
  | n + 1, k, w, f, hn, h, hB, hs, hsB, hc, K => by
    refine xg_t (xg_blq rfl) ?_
    refine xg_t (xg_iload (va := (0, k)) rfl rfl) ?_
    refine xg_t (xg_sip) ?_
    refine xg_t (xg_icF (u := k) (v := 320) rfl xnm0 xnm0 (xj_geF (by omega) (by omega))) ?_
    refine xg_t (xg_aload (va := (2, 82)) rfl rfl) ?_
    refine xg_t (xg_getf (va := (2, 83)) hc rfl) ?_
    refine xg_t (xg_sip) ?_
    refine xg_t (xg_iload (va := (0, k)) rfl rfl) ?_
    refine xg_t (xg_iadd (u := 1020) (v := k) (z := 1020 + k) xnm0 xnm0 (by omega)) ?_
    refine xg_t (xg_aload (va := (2, 82)) rfl rfl) ?_
    refine xg_t (xg_getf (va := (2, 112)) hc rfl) ?_
    refine xg_t (xg_iload (va := (0, k)) rfl rfl) ?_
    refine xg_t (xg_ialdR (n := k) (u := r k) hs xnm0 (by omega) rfl) ?_
    refine xg_iastK (n := 1020 + k) (u := r k) h xnm0 xnm0 rfl (by omega) (fun w1 hr2 hb3 => ?_)
    refine xg_t (xg_iinc (u := k) (z := k + 1) (l1 := [(0, (2, 82))]) rfl rfl (by omega) rfl) ?_
    refine xg_t (xg_goto) ?_
    refine xg_t (xg_drop (l1 := [(0, (2, 82)), (1, (0, k + 1))]) (List.forall_mem_cons.mpr ⟨List.mem_cons_of_mem _ (List.mem_cons_self), List.forall_mem_cons.mpr ⟨List.mem_cons_self, fun _ h => absurd h List.not_mem_nil⟩⟩)) ?_
    refine cpRul n (k + 1) w1 (fun j => if j = 1020 + k then r k else f j) (by omega) hr2 (xrb (by have q := hsB k; omega) hB) (hs.but hb3 (by decide)) hsB (hb3.get (by decide) hc) (fun w2 f2 g1 g2 g3 g4 g5 => K w2 f2 g1 g2 (hb3.tr g3) (fun i hi hl => ?_) (fun j hj => ?_))
    · by_cases z : i = k
      · subst z
        rw [g5 _ (by omega)]
        exact if_pos rfl
      · exact g4 i (by omega) hl
    · rw [g5 j (by omega)]
      exact if_neg (by omega)
end XMC
end
section
/-! the model: film -/
/-- behind a text: the tape is empty, the rest of row 83 as it was, but for the fault and its place -/
def K15 (w w' : List (List xE)) : Prop := rwv w' 83 15 = 0 ∧ ∀ j, j < 5360 → j ≠ 15 → j ≠ 16 → j ≠ 17 → rwv w' 83 j = rwv w 83 j
theorem K15.k {w1 w2 w3 : List (List xE)} (h : K15 w1 w2) (k : K83 w2 w3) : K15 w1 w3 := ⟨(k 15 (by decide) (by decide) (by decide)).trans h.1, fun j a b c d => (k j a c d).trans (h.2 j a b c d)⟩
section XMD
variable {d : Nat} {w : List (List xE)} {bd : List (Nat × Nat)} {fc : List (Nat × Nat × Bool)} {rr : Nat × Nat}
theorem mBegins1 (hI : xMnv w)  : xPq d mX12_begins [(2, 82), (0, 1)] w bd fc rr [] (fun w' => xMnv w' ∧ xFr [82, 83] w w' ∧ (FA w' = 0 ∧ fld w' 82 10 = 0 ∧ fld w' 82 14 = 0 ∧ mu w' ≤ 1001 ∧ K15 w w')) := by
  refine xPq.of ?_
  show xTo d mX12_begins (0, [], [(0, (2, 82)), (1, (0, 1))], [], (w, bd, fc, 0, 0, rr)) (fun φ => ∃ w', xEnd 0 [] (w', bd, fc, 0, 0, rr) φ ∧ xMnv w' ∧ xFr [82, 83] w w' ∧ (FA w' = 0 ∧ fld w' 82 10 = 0 ∧ fld w' 82 14 = 0 ∧ mu w' ≤ 1001 ∧ K15 w w'))
  refine xoCh82 (xqc82 hI : cp82 (wget w 82)) (fun f82_1 f82_3 f82_5 f82_7 f82_9 f82_11 f82_13 f82_15 f82_17 f82_19 f82_21 f82_22 f82_23 f82_25 f82_27 f82_29 h82_31 hb2 hb4 hb6 hb8 hb10 hb12 hb14 hb16 hb18 hb20 hb24 hb26 hb28 hb30 hb32 => ?_)
  refine xoX83 (xqc83 hI : cpx83 (wget w 83)) (fun g83_33 h83_34 hb35 hx36 => ?_)
  refine xg_t (xg_blq rfl) ?_
  refine xg_t (xg_aload (va := (2, 82)) rfl rfl) ?_
  refine xg_t (xg_iload (va := (0, 1)) rfl rfl) ?_
  refine xg_putZ (fl1 := [(2, 83), (2, 84), (0, 1), (0, f82_3), (0, f82_5), (0, f82_7), (0, f82_9), (0, f82_11), (0, f82_13), (0, f82_15), (0, f82_17), (2, 85), (2, 86), (2, 87), (0, f82_19), (2, 88), (2, 89), (2, 90), (2, 91), (2, 92), (2, 93), (2, 94), (4, f82_21), (4, f82_22), (0, f82_23), (2, 95), (2, 96), (2, 97), (2, 98), (2, 99), (2, 100), (2, 101), (2, 102), (0, f82_25), (2, 103), (2, 104), (2, 105), (2, 106), (2, 107), (2, 108), (2, 109), (0, f82_27), (0, f82_29), (2, 110), (2, 111), (2, 112), (2, 113)]) h82_31 rfl rfl rfl (fun w37 hk38 hb39 => ?_)
  refine xg_t (xg_aload (va := (2, 82)) rfl rfl) ?_
  refine xg_t (xg_aload (va := (2, 82)) rfl rfl) ?_
  refine xg_t (xg_getf (va := (2, 83)) hk38 rfl) ?_
  refine xg_t (xg_bip) ?_
  refine xg_ialdB (n := 15) (B := 4294967295) (h83_34.but hb39 (by decide)) (hb35) xnm0 (by first | decide | omega) (fun u40 hu41 he42 => ?_)
  have hl43 : u40 ≤ 500 := by rw [← he42]; exact hx36.l15
  refine xg_putI (fl1 := [(2, 83), (2, 84), (0, 1), (0, f82_3), (0, u40), (0, f82_7), (0, f82_9), (0, f82_11), (0, f82_13), (0, f82_15), (0, f82_17), (2, 85), (2, 86), (2, 87), (0, f82_19), (2, 88), (2, 89), (2, 90), (2, 91), (2, 92), (2, 93), (2, 94), (4, f82_21), (4, f82_22), (0, f82_23), (2, 95), (2, 96), (2, 97), (2, 98), (2, 99), (2, 100), (2, 101), (2, 102), (0, f82_25), (2, 103), (2, 104), (2, 105), (2, 106), (2, 107), (2, 108), (2, 109), (0, f82_27), (0, f82_29), (2, 110), (2, 111), (2, 112), (2, 113)]) hk38 rfl rfl rfl (fun w44 hk45 hb46 => ?_)
  refine xg_t (xg_aload (va := (2, 82)) rfl rfl) ?_
  refine xg_t (xg_getf (va := (2, 83)) hk45 rfl) ?_
  refine xg_t (xg_bip) ?_
  refine xg_t (xg_const) ?_
  refine xg_iastK (n := 15) (u := 0) ((h83_34.but hb39 (by decide)).but hb46 (by decide)) xnm0 xnm0 rfl (by first | decide | omega) (fun w47 hr48 hb49 => ?_)
  have hx50 : okA (fun j => if j = 15 then 0 else g83_33 j) := hx36.upd (by omega) (by omega) (by omega) (fun _ => by omega) (by omega) (fun _ => by omega) (fun _ => by omega) (fun _ => by omega) (fun _ => by omega) (by omega) (fun _ _ => by omega)
  have hb51 : ∀ j, (fun j => if j = 15 then 0 else g83_33 j) j ≤ 4294967295 := xrb (by omega) (hb35)
  obtain ⟨g52, hg53⟩ : ∃ g : Nat → Nat, g = (fun j => if j = 15 then 0 else g83_33 j) := ⟨_, rfl⟩
  rw [← hg53] at hr48
  have he54 : g52 15 = 0 := by rw [hg53]; exact if_pos rfl
  have hk55 : ∀ j, j ≠ 15 → g52 j = g83_33 j := fun j hj => by rw [hg53]; exact if_neg hj
  rw [← hg53] at hx50
  rw [← hg53] at hb51
  have hk56 : g52 16 = g83_33 16 := hk55 16 (by omega)
  refine xg_t (xg_aload (va := (2, 82)) rfl rfl) ?_
  refine xg_t (xg_const) ?_
  refine xg_putI (fl1 := [(2, 83), (2, 84), (0, 1), (0, f82_3), (0, u40), (0, 0), (0, f82_9), (0, f82_11), (0, f82_13), (0, f82_15), (0, f82_17), (2, 85), (2, 86), (2, 87), (0, f82_19), (2, 88), (2, 89), (2, 90), (2, 91), (2, 92), (2, 93), (2, 94), (4, f82_21), (4, f82_22), (0, f82_23), (2, 95), (2, 96), (2, 97), (2, 98), (2, 99), (2, 100), (2, 101), (2, 102), (0, f82_25), (2, 103), (2, 104), (2, 105), (2, 106), (2, 107), (2, 108), (2, 109), (0, f82_27), (0, f82_29), (2, 110), (2, 111), (2, 112), (2, 113)]) (hb49.get (by decide) hk45) rfl rfl rfl (fun w57 hk58 hb59 => ?_)
  refine xg_t (xg_aload (va := (2, 82)) rfl rfl) ?_
  refine xg_t (xg_getf (va := (2, 83)) hk58 rfl) ?_
  refine xg_t (xg_bip) ?_
  refine xg_t (xg_const) ?_
  refine xg_iastK (n := 16) (u := 0) (hr48.but hb59 (by decide)) xnm0 xnm0 rfl (by first | decide | omega) (fun w60 hr61 hb62 => ?_)
  have hx63 : okA (fun j => if j = 16 then 0 else g52 j) := hx50.upd (by omega) (by omega) (by omega) (fun _ => by omega) (by omega) (fun _ => by omega) (fun _ => by omega) (fun _ => by omega) (fun _ => by omega) (by omega) (fun _ _ => by omega)
  have hb64 : ∀ j, (fun j => if j = 16 then 0 else g52 j) j ≤ 4294967295 := xrb (by omega) (hb51)
  obtain ⟨g65, hg66⟩ : ∃ g : Nat → Nat, g = (fun j => if j = 16 then 0 else g52 j) := ⟨_, rfl⟩
  rw [← hg66] at hr61
  have he67 : g65 16 = 0 := by rw [hg66]; exact if_pos rfl
  have hk68 : ∀ j, j ≠ 16 → g65 j = g52 j := fun j hj => by rw [hg66]; exact if_neg hj
  rw [← hg66] at hx63
  rw [← hg66] at hb64
  refine xg_t (xg_aload (va := (2, 82)) rfl rfl) ?_
  refine xg_t (xg_getf (va := (2, 83)) (hb62.get (by decide) hk58) rfl) ?_
  refine xg_t (xg_bip) ?_
  refine xg_t (xg_const) ?_
  refine xg_iastK (n := 17) (u := 4294967295) hr61 xnm0 xnm0 rfl (by first | decide | omega) (fun w69 hr70 hb71 => ?_)
  have hx72 : okA (fun j => if j = 17 then 4294967295 else g65 j) := hx63.upd (by omega) (by omega) (by omega) (fun _ => by omega) (by omega) (fun _ => by omega) (fun _ => by omega) (fun _ => by omega) (fun _ => by omega) (by omega) (fun _ _ => by omega)
  have hb73 : ∀ j, (fun j => if j = 17 then 4294967295 else g65 j) j ≤ 4294967295 := xrb (by omega) (hb64)
  obtain ⟨g74, hg75⟩ : ∃ g : Nat → Nat, g = (fun j => if j = 17 then 4294967295 else g65 j) := ⟨_, rfl⟩
  rw [← hg75] at hr70
  have he76 : g74 17 = 4294967295 := by rw [hg75]; exact if_pos rfl
  have hk77 : ∀ j, j ≠ 17 → g74 j = g65 j := fun j hj => by rw [hg75]; exact if_neg hj
  rw [← hg75] at hx72
  rw [← hg75] at hb73
  have hk78 : g74 16 = g65 16 := hk77 16 (by omega)
  refine xg_t (xg_aload (va := (2, 82)) rfl rfl) ?_
  refine xg_t (xg_const) ?_
  refine xg_putZ (fl1 := [(2, 83), (2, 84), (0, 1), (0, f82_3), (0, u40), (0, 0), (0, f82_9), (0, f82_11), (0, f82_13), (0, f82_15), (0, 0), (2, 85), (2, 86), (2, 87), (0, f82_19), (2, 88), (2, 89), (2, 90), (2, 91), (2, 92), (2, 93), (2, 94), (4, f82_21), (4, f82_22), (0, f82_23), (2, 95), (2, 96), (2, 97), (2, 98), (2, 99), (2, 100), (2, 101), (2, 102), (0, f82_25), (2, 103), (2, 104), (2, 105), (2, 106), (2, 107), (2, 108), (2, 109), (0, f82_27), (0, f82_29), (2, 110), (2, 111), (2, 112), (2, 113)]) (hb71.get (by decide) (hb62.get (by decide) hk58)) rfl rfl rfl (fun w79 hk80 hb81 => ?_)
  refine xg_t (xg_aload (va := (2, 82)) rfl rfl) ?_
  refine xg_t (xg_const) ?_
  refine xg_putI (fl1 := [(2, 83), (2, 84), (0, 1), (0, f82_3), (0, u40), (0, 0), (0, f82_9), (0, f82_11), (0, f82_13), (0, f82_15), (0, 0), (2, 85), (2, 86), (2, 87), (0, 0), (2, 88), (2, 89), (2, 90), (2, 91), (2, 92), (2, 93), (2, 94), (4, f82_21), (4, f82_22), (0, f82_23), (2, 95), (2, 96), (2, 97), (2, 98), (2, 99), (2, 100), (2, 101), (2, 102), (0, f82_25), (2, 103), (2, 104), (2, 105), (2, 106), (2, 107), (2, 108), (2, 109), (0, f82_27), (0, f82_29), (2, 110), (2, 111), (2, 112), (2, 113)]) hk80 rfl rfl rfl (fun w82 hk83 hb84 => ?_)
  have hf85 : fld w82 82 4 = u40 := fld_of hk83
  have hf86 : fld w82 82 5 = 0 := fld_of hk83
  have hf87 : fld w82 82 7 = f82_11 := fld_of hk83
  have hf88 : fld w82 82 10 = 0 := fld_of hk83
  have hf89 : fld w82 82 14 = 0 := fld_of hk83
  have hu90 : mu w82 = 2 * (fld w82 82 4 - fld w82 82 5) + min 1 (fld w82 82 7) := rfl
  have hA91 : FA w82 = g74 16 := rwv_of ((hr70.but hb81 (by decide)).but hb84 (by decide)) (by decide)
  exact xg_e ⟨w82, ⟨rfl, rfl⟩, xMnv.up (S := [82, 83]) hI ((((((((xFr.of (S := [82, 83]) hb39 (by decide)).tr (xFr.of (S := [82, 83]) hb46 (by decide))).tr (xFr.of (S := [82, 83]) hb49 (by decide))).tr (xFr.of (S := [82, 83]) hb59 (by decide))).tr (xFr.of (S := [82, 83]) hb62 (by decide))).tr (xFr.of (S := [82, 83]) hb71 (by decide))).tr (xFr.of (S := [82, 83]) hb81 (by decide))).tr (xFr.of (S := [82, 83]) hb84 (by decide))) (List.forall_mem_cons.mpr ⟨xqu82 (show cp82 (wget w82 82) from xmC82 1 f82_3 u40 0 f82_9 f82_11 f82_13 f82_15 0 0 f82_21 f82_22 f82_23 f82_25 f82_27 f82_29 hk83 (by decide) hb4 (by omega) (by decide) hb10 hb12 hb14 hb16 (by decide) (by decide) hb24 hb26 hb28 hb30 (by omega)), List.forall_mem_cons.mpr ⟨xqu83 (show cpx83 (wget w82 83) from ⟨_, ((hr70.but hb81 (by decide)).but hb84 (by decide)), hb73, hx72⟩), fun _ h => absurd h List.not_mem_nil⟩⟩), ((((((((xFr.of (S := [82, 83]) hb39 (by decide)).tr (xFr.of (S := [82, 83]) hb46 (by decide))).tr (xFr.of (S := [82, 83]) hb49 (by decide))).tr (xFr.of (S := [82, 83]) hb59 (by decide))).tr (xFr.of (S := [82, 83]) hb62 (by decide))).tr (xFr.of (S := [82, 83]) hb71 (by decide))).tr (xFr.of (S := [82, 83]) hb81 (by decide))).tr (xFr.of (S := [82, 83]) hb84 (by decide))), ⟨by omega, by omega, by omega, by omega, ⟨(rwv_of ((hr70.but hb81 (by decide)).but hb84 (by decide)) (by decide)).trans (by rw [hk77 15 (by decide), hk68 15 (by decide), he54]), fun j a b c d => (rwv_of ((hr70.but hb81 (by decide)).but hb84 (by decide)) a).trans (Eq.trans (by rw [hk77 j (by omega), hk68 j (by omega), hk55 j (by omega)]) (rwv_of h83_34 a).symm)⟩⟩⟩
end XMD
end
