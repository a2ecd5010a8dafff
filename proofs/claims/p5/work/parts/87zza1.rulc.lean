/-! the class: rules read, to the last number -/
/-- the fault of rules as it was found so far -/
def FTr (w : List (List xE)) (fp : Nat × Nat) : Prop := fld w 43 4 = fp.1 ∧ (fp.1 ≠ 0 → fld w 43 5 = fp.2)
theorem FTr.fr {w w' : List (List xE)} {fp : Nat × Nat} (h : FTr w fp) (e : wget w' 43 = wget w 43) : FTr w' fp := ⟨(fld_eq (j := 4) e).trans h.1, fun z => (fld_eq (j := 5) e).trans (h.2 z)⟩
section XRCA
variable {d : Nat} {w : List (List xE)} {bd : List (Nat × Nat)} {fc : List (Nat × Nat × Bool)} {rr : Nat × Nat}
theorem rgrowM {r a lim wd sz : Nat} (h : xRs w r a lim wd sz) (hl : lim < 2147483648) (hsz : sz ≤ lim) : xPi (d + 1) mX5_grow [(2, r)] w bd fc rr (fun n w' => n ≤ 4294967295 ∧ ∃ s1, s1 = min (sz + 1) lim ∧ xRs w' r a lim wd s1 ∧ xBut r w w') := by
  obtain ⟨w', ⟨q1, q2⟩, q3⟩ := rgrow_ok (d := d) (bd := bd) (fc := fc) (rr := rr) h hl hsz
  refine ⟨_, w', ⟨?_, _, ?_, q1, q2⟩, q3⟩
  · split <;> omega
  · split <;> omega
theorem rtManyX {B : Nat → Nat} {nn p : Nat} {fp : Nat × Nat} (hI : xInv w) (hT : TKw 48 B nn w p) (hF : FTr w fp) : xPq (d + 1) mX6_noteTooMany [(2, 43)] w bd fc rr [] (fun w' => xInv w' ∧ xFr [43] w w' ∧ (FTr w' (rnt fp (tq B nn p)))) := by
  refine xPq.of ?_
  show xTo (d + 1) mX6_noteTooMany (0, [], [(0, (2, 43))], [], (w, bd, fc, 0, 0, rr)) (fun φ => ∃ w', xEnd 0 [] (w', bd, fc, 0, 0, rr) φ ∧ xInv w' ∧ xFr [43] w w' ∧ (FTr w' (rnt fp (tq B nn p))))
  obtain ⟨f43_1, f43_3, h43_5, hb2, hb4⟩ := (hI 43 (by decide) : cp43 (wget w 43))
  obtain ⟨f48_6, f48_8, f48_10, f48_12, f48_14, h48_16, hb7, hb9, hb11, hb13, hb15, hb17⟩ := (hI 48 (by decide) : cp48 (wget w 48))
  have hq18 : fld w 43 4 = f43_1 := fld_of h43_5
  have hq19 : fld w 43 5 = f43_3 := fld_of h43_5
  obtain ⟨hf4, hf5⟩ := id hF
  obtain ⟨⟨-, -, hq3, -, -⟩, -⟩ := id hT
  have hq8 : fld w 48 3 = f48_10 := fld_of h48_16
  refine xg_t (xg_blk (b := [(0, 1, 0, 0, 0, 0), (1, 3, 1, 6, 4, 45), (4, 3, 7, 23, 1, 0), (7, 1, 0, 0, 0, 0), (8, 1, 3, 3, 0, 0), (9, 3, 14, 6, 4, 45), (12, 1, 0, 0, 0, 0), (13, 1, 0, 0, 0, 0), (14, 3, 1, 6, 1, 38), (17, 3, 1, 8, 3, 63), (20, 3, 14, 6, 5, 69)]) rfl) ?_
  refine xg_t (xg_aload (va := (2, 43)) rfl rfl) ?_
  refine xg_t (xg_getf (va := (0, f43_1)) h43_5 rfl) ?_
  by_cases hc20 : f43_1 = 0
  · refine xg_t (xg_ifF (u := f43_1) rfl xnm0 (xj_neF hc20)) ?_
    refine xg_t (xg_aload (va := (2, 43)) rfl rfl) ?_
    refine xg_t (xg_const) ?_
    refine xg_putI (fl1 := [(2, 1), (2, 48), (2, 44), (2, 46), (0, 3), (0, f43_3)]) h43_5 rfl rfl rfl (fun w21 hk22 hb23 => ?_)
    refine xg_t (xg_aload (va := (2, 43)) rfl rfl) ?_
    refine xg_t (xg_aload (va := (2, 43)) rfl rfl) ?_
    refine xg_t (xg_getf (va := (2, 48)) hk22 rfl) ?_
    refine xg_t (xg_getf (va := (0, f48_10)) (hb23.get (by decide) h48_16) rfl) ?_
    refine xg_putI (fl1 := [(2, 1), (2, 48), (2, 44), (2, 46), (0, 3), (0, f48_10)]) hk22 rfl rfl rfl (fun w24 hk25 hb26 => ?_)
    refine xg_t (xg_blk (b := [(23, 1, 12, 0, 0, 0)]) rfl) ?_
    have hq27 : fld w24 43 4 = 3 := fld_of hk25
    have hq28 : fld w24 43 5 = f48_10 := fld_of hk25
    exact xg_e ⟨w24, ⟨rfl, rfl⟩, xInv.up (S := [43]) hI ((xFr.of (S := [43]) hb23 (by decide)).tr (xFr.of (S := [43]) hb26 (by decide))) (List.forall_mem_cons.mpr ⟨(show cp43 (wget w24 43) from ⟨3, f48_10, hk25, by omega, by omega⟩), fun _ h => absurd h List.not_mem_nil⟩), ((xFr.of (S := [43]) hb23 (by decide)).tr (xFr.of (S := [43]) hb26 (by decide))), by rw [rnt_0 (by omega)]; exact ⟨hq27, fun _ => by show fld w24 43 5 = tq B nn p; omega⟩⟩
  · refine xg_t (xg_ifT (u := f43_1) rfl xnm0 (xj_neT hc20)) ?_
    refine xg_t (xg_blk (b := [(23, 1, 12, 0, 0, 0)]) rfl) ?_
    exact xg_e ⟨w, ⟨rfl, rfl⟩, hI, xFr.rf, by rw [rnt_1 (by omega)]; exact hF⟩
theorem rtVerbX {B : Nat → Nat} {nn p : Nat} (hI : xInv w) (hB : bsr w B nn) (hT : TKw 48 B nn w p) : xPi (d + 5) mX6_verbOfWord [(2, 43)] w bd fc rr (fun n w' => ((rwx B nn p = 40 ∧ n = 0) ∨ (41 ≤ rwx B nn p ∧ rwx B nn p ≤ 42 ∧ 1 ≤ n ∧ n ≤ 2) ∨ (¬ (40 ≤ rwx B nn p ∧ rwx B nn p ≤ 42) ∧ n = 4294967295)) ∧ xInv w' ∧ xFr [] w w') := by
  refine xPi.of ?_
  show xTo (d + 5) mX6_verbOfWord (0, [], [(0, (2, 43))], [], (w, bd, fc, 0, 0, rr)) (fun φ => ∃ n w', xEnd 1 [(0, n)] (w', bd, fc, 0, 0, rr) φ ∧ ((rwx B nn p = 40 ∧ n = 0) ∨ (41 ≤ rwx B nn p ∧ rwx B nn p ≤ 42 ∧ 1 ≤ n ∧ n ≤ 2) ∨ (¬ (40 ≤ rwx B nn p ∧ rwx B nn p ≤ 42) ∧ n = 4294967295)) ∧ xInv w' ∧ xFr [] w w')
  obtain ⟨f43_1, f43_3, h43_5, hb2, hb4⟩ := (hI 43 (by decide) : cp43 (wget w 43))
  obtain ⟨f48_6, f48_8, f48_10, f48_12, f48_14, h48_16, hb7, hb9, hb11, hb13, hb15, hb17⟩ := (hI 48 (by decide) : cp48 (wget w 48))
  refine xg_t (xg_blk (b := [(0, 1, 0, 0, 0, 0), (1, 3, 1, 6, 1, 38), (4, 2, 72, 23, 0, 122), (6, 3, 13, 318, 64, 97), (9, 3, 7, 14, 0, 0), (12, 1, 3, 0, 0, 0), (13, 1, 12, 0, 1, 0)]) rfl) ?_
  refine xg_t (xg_aload (va := (2, 43)) rfl rfl) ?_
  refine xg_t (xg_getf (va := (2, 48)) h43_5 rfl) ?_
  refine xg_t (xg_ldcS) ?_
  refine xg_cVi mX8_isWord (vs := [(8, 123)]) (rest := []) (cn1 := 0) (sl1 := 0) rfl (tkWrdX48 (C := 2098) (hI) (i := 23) rfl hB hT (by decide +kernel)) rfl h48_16 rfl rfl rfl rfl rfl rfl (fun n22 w18 hq19 => ?_)
  obtain ⟨hn23, hI20, hF21⟩ := hq19
  rcases hn23 with ⟨rfl, hk24⟩ | ⟨rfl, hk24⟩
  · refine xg_t (xg_ifF (u := 1) rfl xnm0 (by decide)) ?_
    refine xg_t (xg_const) ?_
    have hs25 : rwx B nn p = 40 := wixR_40.mpr hk24
    exact xg_e ⟨0, w18, ⟨rfl, rfl⟩, Or.inl ⟨hs25, rfl⟩, hI20, (hF21.up (by decide))⟩
  · refine xg_t (xg_ifT (u := 0) rfl xnm0 (by decide)) ?_
    refine xg_t (xg_blk (b := [(14, 1, 0, 0, 0, 0), (15, 3, 1, 6, 1, 38), (18, 2, 72, 24, 0, 124), (20, 3, 13, 318, 64, 97), (23, 3, 7, 28, 0, 0), (26, 1, 3, 1, 0, 0), (27, 1, 12, 0, 1, 0)]) rfl) ?_
    refine xg_t (xg_aload (va := (2, 43)) rfl rfl) ?_
    refine xg_t (xg_getf (va := (2, 48)) (hF21.get (by decide) h43_5) rfl) ?_
    refine xg_t (xg_ldcS) ?_
    refine xg_cVi mX8_isWord (vs := [(8, 124)]) (rest := []) (cn1 := 0) (sl1 := 0) rfl (tkWrdX48 (C := 17376357) (hI20) (i := 24) rfl (hB.fr (hF21.1 2 (by decide))) (hT.fr (hF21.1 48 (by decide))) (by decide +kernel)) rfl (hF21.get (by decide) h48_16) rfl rfl rfl rfl rfl rfl (fun n30 w26 hq27 => ?_)
    obtain ⟨hn31, hI28, hF29⟩ := hq27
    rcases hn31 with ⟨rfl, hk32⟩ | ⟨rfl, hk32⟩
    · refine xg_t (xg_ifF (u := 1) rfl xnm0 (by decide)) ?_
      refine xg_t (xg_const) ?_
      have hs33 : rwx B nn p = 41 := wixR_41.mpr hk32
      exact xg_e ⟨1, w26, ⟨rfl, rfl⟩, Or.inr (Or.inl ⟨by omega, by omega, by omega, by omega⟩), hI28, ((hF21.up (by decide)).tr (hF29.up (by decide)))⟩
    · refine xg_t (xg_ifT (u := 0) rfl xnm0 (by decide)) ?_
      refine xg_t (xg_blk (b := [(28, 1, 0, 0, 0, 0), (29, 3, 1, 6, 1, 38), (32, 2, 72, 25, 0, 126), (34, 3, 13, 318, 64, 97), (37, 3, 7, 44, 0, 0), (40, 1, 3, 2, 0, 0), (41, 3, 8, 45, 0, 0)]) rfl) ?_
      refine xg_t (xg_aload (va := (2, 43)) rfl rfl) ?_
      refine xg_t (xg_getf (va := (2, 48)) (hF29.get (by decide) (hF21.get (by decide) h43_5)) rfl) ?_
      refine xg_t (xg_ldcS) ?_
      refine xg_cVi mX8_isWord (vs := [(8, 125)]) (rest := []) (cn1 := 0) (sl1 := 0) rfl (tkWrdX48 (C := 398963) (hI28) (i := 25) rfl (hB.fr ((hF29.1 2 (by decide)).trans (hF21.1 2 (by decide)))) (hT.fr ((hF29.1 48 (by decide)).trans (hF21.1 48 (by decide)))) (by decide +kernel)) rfl (hF29.get (by decide) (hF21.get (by decide) h48_16)) rfl rfl rfl rfl rfl rfl (fun n38 w34 hq35 => ?_)
      obtain ⟨hn39, hI36, hF37⟩ := hq35
      rcases hn39 with ⟨rfl, hk40⟩ | ⟨rfl, hk40⟩
      · refine xg_t (xg_ifF (u := 1) rfl xnm0 (by decide)) ?_
        refine xg_t (xg_const) ?_
        refine xg_t (xg_goto) ?_
        refine xg_t (xg_blk (b := [(45, 1, 12, 0, 1, 0)]) rfl) ?_
        have hs41 : rwx B nn p = 42 := wixR_42.mpr hk40
        exact xg_e ⟨2, w34, ⟨rfl, rfl⟩, Or.inr (Or.inl ⟨by omega, by omega, by omega, by omega⟩), hI36, (((hF21.up (by decide)).tr (hF29.up (by decide))).tr (hF37.up (by decide)))⟩
      · refine xg_t (xg_ifT (u := 0) rfl xnm0 (by decide)) ?_
        refine xg_t (xg_blk (b := [(44, 1, 3, 4294967295, 0, 0)]) rfl) ?_
        refine xg_t (xg_const) ?_
        refine xg_t (xg_blk (b := [(45, 1, 12, 0, 1, 0)]) rfl) ?_
        have hs42 : ¬ (40 ≤ rwx B nn p ∧ rwx B nn p ≤ 42) := fun z => by
          rcases (show rwx B nn p = 40 ∨ rwx B nn p = 41 ∨ rwx B nn p = 42 by omega) with y | y | y
          · exact hk24 (wixR_40.mp y)
          · exact hk32 (wixR_41.mp y)
          · exact hk40 (wixR_42.mp y)
        exact xg_e ⟨4294967295, w34, ⟨rfl, rfl⟩, Or.inr (Or.inr (⟨hs42, rfl⟩)), hI36, (((hF21.up (by decide)).tr (hF29.up (by decide))).tr (hF37.up (by decide)))⟩
theorem rtMeasX {B : Nat → Nat} {nn p : Nat} (hI : xInv w) (hB : bsr w B nn) (hT : TKw 48 B nn w p) : xPi (d + 5) mX6_measureOfWord [(2, 43)] w bd fc rr (fun n w' => ((20 ≤ rwx B nn p ∧ rwx B nn p ≤ 30 ∧ rwx B nn p = n + 20) ∨ (¬ (20 ≤ rwx B nn p ∧ rwx B nn p ≤ 30) ∧ n = 4294967295)) ∧ xInv w' ∧ xFr [] w w') := by
  refine xPi.of ?_
  show xTo (d + 5) mX6_measureOfWord (0, [], [(0, (2, 43))], [], (w, bd, fc, 0, 0, rr)) (fun φ => ∃ n w', xEnd 1 [(0, n)] (w', bd, fc, 0, 0, rr) φ ∧ ((20 ≤ rwx B nn p ∧ rwx B nn p ≤ 30 ∧ rwx B nn p = n + 20) ∨ (¬ (20 ≤ rwx B nn p ∧ rwx B nn p ≤ 30) ∧ n = 4294967295)) ∧ xInv w' ∧ xFr [] w w')
  obtain ⟨f43_1, f43_3, h43_5, hb2, hb4⟩ := (hI 43 (by decide) : cp43 (wget w 43))
  obtain ⟨f48_6, f48_8, f48_10, f48_12, f48_14, h48_16, hb7, hb9, hb11, hb13, hb15, hb17⟩ := (hI 48 (by decide) : cp48 (wget w 48))
  refine xg_t (xg_blk (b := [(0, 1, 0, 0, 0, 0), (1, 3, 1, 6, 1, 38), (4, 2, 72, 9, 0, 138), (6, 3, 13, 318, 64, 97), (9, 3, 7, 14, 0, 0), (12, 1, 3, 0, 0, 0), (13, 1, 12, 0, 1, 0)]) rfl) ?_
  refine xg_t (xg_aload (va := (2, 43)) rfl rfl) ?_
  refine xg_t (xg_getf (va := (2, 48)) h43_5 rfl) ?_
  refine xg_t (xg_ldcS) ?_
  refine xg_cVi mX8_isWord (vs := [(8, 109)]) (rest := []) (cn1 := 0) (sl1 := 0) rfl (tkWrdX48 (C := 650416307) (hI) (i := 9) rfl hB hT (by decide +kernel)) rfl h48_16 rfl rfl rfl rfl rfl rfl (fun n22 w18 hq19 => ?_)
  obtain ⟨hn23, hI20, hF21⟩ := hq19
  rcases hn23 with ⟨rfl, hk24⟩ | ⟨rfl, hk24⟩
  · refine xg_t (xg_ifF (u := 1) rfl xnm0 (by decide)) ?_
    refine xg_t (xg_const) ?_
    have hs25 : rwx B nn p = 20 := by unfold rwx; rw [hk24]; rfl
    exact xg_e ⟨0, w18, ⟨rfl, rfl⟩, Or.inl ⟨by omega, by omega, by omega⟩, hI20, (hF21.up (by decide))⟩
  · refine xg_t (xg_ifT (u := 0) rfl xnm0 (by decide)) ?_
    refine xg_t (xg_blk (b := [(14, 1, 0, 0, 0, 0), (15, 3, 1, 6, 1, 38), (18, 2, 72, 10, 0, 140), (20, 3, 13, 318, 64, 97), (23, 3, 7, 28, 0, 0), (26, 1, 3, 1, 0, 0), (27, 1, 12, 0, 1, 0)]) rfl) ?_
    refine xg_t (xg_aload (va := (2, 43)) rfl rfl) ?_
    refine xg_t (xg_getf (va := (2, 48)) (hF21.get (by decide) h43_5) rfl) ?_
    refine xg_t (xg_ldcS) ?_
    refine xg_cVi mX8_isWord (vs := [(8, 110)]) (rest := []) (cn1 := 0) (sl1 := 0) rfl (tkWrdX48 (C := 24395141) (hI20) (i := 10) rfl (hB.fr (hF21.1 2 (by decide))) (hT.fr (hF21.1 48 (by decide))) (by decide +kernel)) rfl (hF21.get (by decide) h48_16) rfl rfl rfl rfl rfl rfl (fun n30 w26 hq27 => ?_)
    obtain ⟨hn31, hI28, hF29⟩ := hq27
    rcases hn31 with ⟨rfl, hk32⟩ | ⟨rfl, hk32⟩
    · refine xg_t (xg_ifF (u := 1) rfl xnm0 (by decide)) ?_
      refine xg_t (xg_const) ?_
      have hs33 : rwx B nn p = 21 := by unfold rwx; rw [hk32]; rfl
      exact xg_e ⟨1, w26, ⟨rfl, rfl⟩, Or.inl ⟨by omega, by omega, by omega⟩, hI28, ((hF21.up (by decide)).tr (hF29.up (by decide)))⟩
    · refine xg_t (xg_ifT (u := 0) rfl xnm0 (by decide)) ?_
      refine xg_t (xg_blk (b := [(28, 1, 0, 0, 0, 0), (29, 3, 1, 6, 1, 38), (32, 2, 72, 11, 0, 142), (34, 3, 13, 318, 64, 97), (37, 3, 7, 42, 0, 0), (40, 1, 3, 2, 0, 0), (41, 1, 12, 0, 1, 0)]) rfl) ?_
      refine xg_t (xg_aload (va := (2, 43)) rfl rfl) ?_
      refine xg_t (xg_getf (va := (2, 48)) (hF29.get (by decide) (hF21.get (by decide) h43_5)) rfl) ?_
      refine xg_t (xg_ldcS) ?_
      refine xg_cVi mX8_isWord (vs := [(8, 111)]) (rest := []) (cn1 := 0) (sl1 := 0) rfl (tkWrdX48 (C := 404526675) (hI28) (i := 11) rfl (hB.fr ((hF29.1 2 (by decide)).trans (hF21.1 2 (by decide)))) (hT.fr ((hF29.1 48 (by decide)).trans (hF21.1 48 (by decide)))) (by decide +kernel)) rfl (hF29.get (by decide) (hF21.get (by decide) h48_16)) rfl rfl rfl rfl rfl rfl (fun n38 w34 hq35 => ?_)
      obtain ⟨hn39, hI36, hF37⟩ := hq35
      rcases hn39 with ⟨rfl, hk40⟩ | ⟨rfl, hk40⟩
      · refine xg_t (xg_ifF (u := 1) rfl xnm0 (by decide)) ?_
        refine xg_t (xg_const) ?_
        have hs41 : rwx B nn p = 22 := by unfold rwx; rw [hk40]; rfl
        exact xg_e ⟨2, w34, ⟨rfl, rfl⟩, Or.inl ⟨by omega, by omega, by omega⟩, hI36, (((hF21.up (by decide)).tr (hF29.up (by decide))).tr (hF37.up (by decide)))⟩
      · refine xg_t (xg_ifT (u := 0) rfl xnm0 (by decide)) ?_
        refine xg_t (xg_blk (b := [(42, 1, 0, 0, 0, 0), (43, 3, 1, 6, 1, 38), (46, 2, 72, 12, 0, 144), (48, 3, 13, 318, 64, 97), (51, 3, 7, 56, 0, 0), (54, 1, 3, 3, 0, 0), (55, 1, 12, 0, 1, 0)]) rfl) ?_
        refine xg_t (xg_aload (va := (2, 43)) rfl rfl) ?_
        refine xg_t (xg_getf (va := (2, 48)) (hF37.get (by decide) (hF29.get (by decide) (hF21.get (by decide) h43_5))) rfl) ?_
        refine xg_t (xg_ldcS) ?_
        refine xg_cVi mX8_isWord (vs := [(8, 112)]) (rest := []) (cn1 := 0) (sl1 := 0) rfl (tkWrdX48 (C := 12748404) (hI36) (i := 12) rfl (hB.fr ((hF37.1 2 (by decide)).trans ((hF29.1 2 (by decide)).trans (hF21.1 2 (by decide))))) (hT.fr ((hF37.1 48 (by decide)).trans ((hF29.1 48 (by decide)).trans (hF21.1 48 (by decide))))) (by decide +kernel)) rfl (hF37.get (by decide) (hF29.get (by decide) (hF21.get (by decide) h48_16))) rfl rfl rfl rfl rfl rfl (fun n46 w42 hq43 => ?_)
        obtain ⟨hn47, hI44, hF45⟩ := hq43
        rcases hn47 with ⟨rfl, hk48⟩ | ⟨rfl, hk48⟩
        · refine xg_t (xg_ifF (u := 1) rfl xnm0 (by decide)) ?_
          refine xg_t (xg_const) ?_
          have hs49 : rwx B nn p = 23 := by unfold rwx; rw [hk48]; rfl
          exact xg_e ⟨3, w42, ⟨rfl, rfl⟩, Or.inl ⟨by omega, by omega, by omega⟩, hI44, ((((hF21.up (by decide)).tr (hF29.up (by decide))).tr (hF37.up (by decide))).tr (hF45.up (by decide)))⟩
        · refine xg_t (xg_ifT (u := 0) rfl xnm0 (by decide)) ?_
          refine xg_t (xg_blk (b := [(56, 1, 0, 0, 0, 0), (57, 3, 1, 6, 1, 38), (60, 2, 72, 13, 0, 146), (62, 3, 13, 318, 64, 97), (65, 3, 7, 70, 0, 0), (68, 1, 3, 4, 0, 0), (69, 1, 12, 0, 1, 0)]) rfl) ?_
          refine xg_t (xg_aload (va := (2, 43)) rfl rfl) ?_
          refine xg_t (xg_getf (va := (2, 48)) (hF45.get (by decide) (hF37.get (by decide) (hF29.get (by decide) (hF21.get (by decide) h43_5)))) rfl) ?_
          refine xg_t (xg_ldcS) ?_
          refine xg_cVi mX8_isWord (vs := [(8, 113)]) (rest := []) (cn1 := 0) (sl1 := 0) rfl (tkWrdX48 (C := 605939) (hI44) (i := 13) rfl (hB.fr ((hF45.1 2 (by decide)).trans ((hF37.1 2 (by decide)).trans ((hF29.1 2 (by decide)).trans (hF21.1 2 (by decide)))))) (hT.fr ((hF45.1 48 (by decide)).trans ((hF37.1 48 (by decide)).trans ((hF29.1 48 (by decide)).trans (hF21.1 48 (by decide)))))) (by decide +kernel)) rfl (hF45.get (by decide) (hF37.get (by decide) (hF29.get (by decide) (hF21.get (by decide) h48_16)))) rfl rfl rfl rfl rfl rfl (fun n54 w50 hq51 => ?_)
          obtain ⟨hn55, hI52, hF53⟩ := hq51
          rcases hn55 with ⟨rfl, hk56⟩ | ⟨rfl, hk56⟩
          · refine xg_t (xg_ifF (u := 1) rfl xnm0 (by decide)) ?_
            refine xg_t (xg_const) ?_
            have hs57 : rwx B nn p = 24 := by unfold rwx; rw [hk56]; rfl
            exact xg_e ⟨4, w50, ⟨rfl, rfl⟩, Or.inl ⟨by omega, by omega, by omega⟩, hI52, (((((hF21.up (by decide)).tr (hF29.up (by decide))).tr (hF37.up (by decide))).tr (hF45.up (by decide))).tr (hF53.up (by decide)))⟩
          · refine xg_t (xg_ifT (u := 0) rfl xnm0 (by decide)) ?_
            refine xg_t (xg_blk (b := [(70, 1, 0, 0, 0, 0), (71, 3, 1, 6, 1, 38), (74, 2, 72, 14, 0, 148), (76, 3, 13, 318, 64, 97), (79, 3, 7, 84, 0, 0), (82, 1, 3, 5, 0, 0), (83, 1, 12, 0, 1, 0)]) rfl) ?_
            refine xg_t (xg_aload (va := (2, 43)) rfl rfl) ?_
            refine xg_t (xg_getf (va := (2, 48)) (hF53.get (by decide) (hF45.get (by decide) (hF37.get (by decide) (hF29.get (by decide) (hF21.get (by decide) h43_5))))) rfl) ?_
            refine xg_t (xg_ldcS) ?_
            refine xg_cVi mX8_isWord (vs := [(8, 114)]) (rest := []) (cn1 := 0) (sl1 := 0) rfl (tkWrdX48 (C := 6308) (hI52) (i := 14) rfl (hB.fr ((hF53.1 2 (by decide)).trans ((hF45.1 2 (by decide)).trans ((hF37.1 2 (by decide)).trans ((hF29.1 2 (by decide)).trans (hF21.1 2 (by decide))))))) (hT.fr ((hF53.1 48 (by decide)).trans ((hF45.1 48 (by decide)).trans ((hF37.1 48 (by decide)).trans ((hF29.1 48 (by decide)).trans (hF21.1 48 (by decide))))))) (by decide +kernel)) rfl (hF53.get (by decide) (hF45.get (by decide) (hF37.get (by decide) (hF29.get (by decide) (hF21.get (by decide) h48_16))))) rfl rfl rfl rfl rfl rfl (fun n62 w58 hq59 => ?_)
            obtain ⟨hn63, hI60, hF61⟩ := hq59
            rcases hn63 with ⟨rfl, hk64⟩ | ⟨rfl, hk64⟩
            · refine xg_t (xg_ifF (u := 1) rfl xnm0 (by decide)) ?_
              refine xg_t (xg_const) ?_
              have hs65 : rwx B nn p = 25 := by unfold rwx; rw [hk64]; rfl
              exact xg_e ⟨5, w58, ⟨rfl, rfl⟩, Or.inl ⟨by omega, by omega, by omega⟩, hI60, ((((((hF21.up (by decide)).tr (hF29.up (by decide))).tr (hF37.up (by decide))).tr (hF45.up (by decide))).tr (hF53.up (by decide))).tr (hF61.up (by decide)))⟩
            · refine xg_t (xg_ifT (u := 0) rfl xnm0 (by decide)) ?_
              refine xg_t (xg_blk (b := [(84, 1, 0, 0, 0, 0), (85, 3, 1, 6, 1, 38), (88, 2, 72, 15, 0, 150), (90, 3, 13, 318, 64, 97), (93, 3, 7, 99, 0, 0), (96, 2, 4, 6, 0, 0), (98, 1, 12, 0, 1, 0)]) rfl) ?_
              refine xg_t (xg_aload (va := (2, 43)) rfl rfl) ?_
              refine xg_t (xg_getf (va := (2, 48)) (hF61.get (by decide) (hF53.get (by decide) (hF45.get (by decide) (hF37.get (by decide) (hF29.get (by decide) (hF21.get (by decide) h43_5)))))) rfl) ?_
              refine xg_t (xg_ldcS) ?_
              refine xg_cVi mX8_isWord (vs := [(8, 115)]) (rest := []) (cn1 := 0) (sl1 := 0) rfl (tkWrdX48 (C := 4245875) (hI60) (i := 15) rfl (hB.fr ((hF61.1 2 (by decide)).trans ((hF53.1 2 (by decide)).trans ((hF45.1 2 (by decide)).trans ((hF37.1 2 (by decide)).trans ((hF29.1 2 (by decide)).trans (hF21.1 2 (by decide)))))))) (hT.fr ((hF61.1 48 (by decide)).trans ((hF53.1 48 (by decide)).trans ((hF45.1 48 (by decide)).trans ((hF37.1 48 (by decide)).trans ((hF29.1 48 (by decide)).trans (hF21.1 48 (by decide)))))))) (by decide +kernel)) rfl (hF61.get (by decide) (hF53.get (by decide) (hF45.get (by decide) (hF37.get (by decide) (hF29.get (by decide) (hF21.get (by decide) h48_16)))))) rfl rfl rfl rfl rfl rfl (fun n70 w66 hq67 => ?_)
              obtain ⟨hn71, hI68, hF69⟩ := hq67
              rcases hn71 with ⟨rfl, hk72⟩ | ⟨rfl, hk72⟩
              · refine xg_t (xg_ifF (u := 1) rfl xnm0 (by decide)) ?_
                refine xg_t (xg_bip) ?_
                have hs73 : rwx B nn p = 26 := by unfold rwx; rw [hk72]; rfl
                exact xg_e ⟨6, w66, ⟨rfl, rfl⟩, Or.inl ⟨by omega, by omega, by omega⟩, hI68, (((((((hF21.up (by decide)).tr (hF29.up (by decide))).tr (hF37.up (by decide))).tr (hF45.up (by decide))).tr (hF53.up (by decide))).tr (hF61.up (by decide))).tr (hF69.up (by decide)))⟩
              · refine xg_t (xg_ifT (u := 0) rfl xnm0 (by decide)) ?_
                refine xg_t (xg_blk (b := [(99, 1, 0, 0, 0, 0), (100, 3, 1, 6, 1, 38), (103, 2, 72, 16, 0, 152), (105, 3, 13, 318, 64, 97), (108, 3, 7, 114, 0, 0), (111, 2, 4, 7, 0, 0), (113, 1, 12, 0, 1, 0)]) rfl) ?_
                refine xg_t (xg_aload (va := (2, 43)) rfl rfl) ?_
                refine xg_t (xg_getf (va := (2, 48)) (hF69.get (by decide) (hF61.get (by decide) (hF53.get (by decide) (hF45.get (by decide) (hF37.get (by decide) (hF29.get (by decide) (hF21.get (by decide) h43_5))))))) rfl) ?_
                refine xg_t (xg_ldcS) ?_
                refine xg_cVi mX8_isWord (vs := [(8, 116)]) (rest := []) (cn1 := 0) (sl1 := 0) rfl (tkWrdX48 (C := 24627848) (hI68) (i := 16) rfl (hB.fr ((hF69.1 2 (by decide)).trans ((hF61.1 2 (by decide)).trans ((hF53.1 2 (by decide)).trans ((hF45.1 2 (by decide)).trans ((hF37.1 2 (by decide)).trans ((hF29.1 2 (by decide)).trans (hF21.1 2 (by decide))))))))) (hT.fr ((hF69.1 48 (by decide)).trans ((hF61.1 48 (by decide)).trans ((hF53.1 48 (by decide)).trans ((hF45.1 48 (by decide)).trans ((hF37.1 48 (by decide)).trans ((hF29.1 48 (by decide)).trans (hF21.1 48 (by decide))))))))) (by decide +kernel)) rfl (hF69.get (by decide) (hF61.get (by decide) (hF53.get (by decide) (hF45.get (by decide) (hF37.get (by decide) (hF29.get (by decide) (hF21.get (by decide) h48_16))))))) rfl rfl rfl rfl rfl rfl (fun n78 w74 hq75 => ?_)
                obtain ⟨hn79, hI76, hF77⟩ := hq75
                rcases hn79 with ⟨rfl, hk80⟩ | ⟨rfl, hk80⟩
                · refine xg_t (xg_ifF (u := 1) rfl xnm0 (by decide)) ?_
                  refine xg_t (xg_bip) ?_
                  have hs81 : rwx B nn p = 27 := by unfold rwx; rw [hk80]; rfl
                  exact xg_e ⟨7, w74, ⟨rfl, rfl⟩, Or.inl ⟨by omega, by omega, by omega⟩, hI76, ((((((((hF21.up (by decide)).tr (hF29.up (by decide))).tr (hF37.up (by decide))).tr (hF45.up (by decide))).tr (hF53.up (by decide))).tr (hF61.up (by decide))).tr (hF69.up (by decide))).tr (hF77.up (by decide)))⟩
                · refine xg_t (xg_ifT (u := 0) rfl xnm0 (by decide)) ?_
                  refine xg_t (xg_blk (b := [(114, 1, 0, 0, 0, 0), (115, 3, 1, 6, 1, 38), (118, 2, 72, 17, 0, 154), (120, 3, 13, 318, 64, 97), (123, 3, 7, 129, 0, 0), (126, 2, 4, 8, 0, 0), (128, 1, 12, 0, 1, 0)]) rfl) ?_
                  refine xg_t (xg_aload (va := (2, 43)) rfl rfl) ?_
                  refine xg_t (xg_getf (va := (2, 48)) (hF77.get (by decide) (hF69.get (by decide) (hF61.get (by decide) (hF53.get (by decide) (hF45.get (by decide) (hF37.get (by decide) (hF29.get (by decide) (hF21.get (by decide) h43_5)))))))) rfl) ?_
                  refine xg_t (xg_ldcS) ?_
                  refine xg_cVi mX8_isWord (vs := [(8, 117)]) (rest := []) (cn1 := 0) (sl1 := 0) rfl (tkWrdX48 (C := 119573875) (hI76) (i := 17) rfl (hB.fr ((hF77.1 2 (by decide)).trans ((hF69.1 2 (by decide)).trans ((hF61.1 2 (by decide)).trans ((hF53.1 2 (by decide)).trans ((hF45.1 2 (by decide)).trans ((hF37.1 2 (by decide)).trans ((hF29.1 2 (by decide)).trans (hF21.1 2 (by decide)))))))))) (hT.fr ((hF77.1 48 (by decide)).trans ((hF69.1 48 (by decide)).trans ((hF61.1 48 (by decide)).trans ((hF53.1 48 (by decide)).trans ((hF45.1 48 (by decide)).trans ((hF37.1 48 (by decide)).trans ((hF29.1 48 (by decide)).trans (hF21.1 48 (by decide)))))))))) (by decide +kernel)) rfl (hF77.get (by decide) (hF69.get (by decide) (hF61.get (by decide) (hF53.get (by decide) (hF45.get (by decide) (hF37.get (by decide) (hF29.get (by decide) (hF21.get (by decide) h48_16)))))))) rfl rfl rfl rfl rfl rfl (fun n86 w82 hq83 => ?_)
                  obtain ⟨hn87, hI84, hF85⟩ := hq83
                  rcases hn87 with ⟨rfl, hk88⟩ | ⟨rfl, hk88⟩
                  · refine xg_t (xg_ifF (u := 1) rfl xnm0 (by decide)) ?_
                    refine xg_t (xg_bip) ?_
                    have hs89 : rwx B nn p = 28 := by unfold rwx; rw [hk88]; rfl
                    exact xg_e ⟨8, w82, ⟨rfl, rfl⟩, Or.inl ⟨by omega, by omega, by omega⟩, hI84, (((((((((hF21.up (by decide)).tr (hF29.up (by decide))).tr (hF37.up (by decide))).tr (hF45.up (by decide))).tr (hF53.up (by decide))).tr (hF61.up (by decide))).tr (hF69.up (by decide))).tr (hF77.up (by decide))).tr (hF85.up (by decide)))⟩
                  · refine xg_t (xg_ifT (u := 0) rfl xnm0 (by decide)) ?_
                    refine xg_t (xg_blk (b := [(129, 1, 0, 0, 0, 0), (130, 3, 1, 6, 1, 38), (133, 2, 72, 18, 0, 156), (135, 3, 13, 318, 64, 97), (138, 3, 7, 144, 0, 0), (141, 2, 4, 9, 0, 0), (143, 1, 12, 0, 1, 0)]) rfl) ?_
                    refine xg_t (xg_aload (va := (2, 43)) rfl rfl) ?_
                    refine xg_t (xg_getf (va := (2, 48)) (hF85.get (by decide) (hF77.get (by decide) (hF69.get (by decide) (hF61.get (by decide) (hF53.get (by decide) (hF45.get (by decide) (hF37.get (by decide) (hF29.get (by decide) (hF21.get (by decide) h43_5))))))))) rfl) ?_
                    refine xg_t (xg_ldcS) ?_
                    refine xg_cVi mX8_isWord (vs := [(8, 118)]) (rest := []) (cn1 := 0) (sl1 := 0) rfl (tkWrdX48 (C := 366100) (hI84) (i := 18) rfl (hB.fr ((hF85.1 2 (by decide)).trans ((hF77.1 2 (by decide)).trans ((hF69.1 2 (by decide)).trans ((hF61.1 2 (by decide)).trans ((hF53.1 2 (by decide)).trans ((hF45.1 2 (by decide)).trans ((hF37.1 2 (by decide)).trans ((hF29.1 2 (by decide)).trans (hF21.1 2 (by decide))))))))))) (hT.fr ((hF85.1 48 (by decide)).trans ((hF77.1 48 (by decide)).trans ((hF69.1 48 (by decide)).trans ((hF61.1 48 (by decide)).trans ((hF53.1 48 (by decide)).trans ((hF45.1 48 (by decide)).trans ((hF37.1 48 (by decide)).trans ((hF29.1 48 (by decide)).trans (hF21.1 48 (by decide))))))))))) (by decide +kernel)) rfl (hF85.get (by decide) (hF77.get (by decide) (hF69.get (by decide) (hF61.get (by decide) (hF53.get (by decide) (hF45.get (by decide) (hF37.get (by decide) (hF29.get (by decide) (hF21.get (by decide) h48_16))))))))) rfl rfl rfl rfl rfl rfl (fun n94 w90 hq91 => ?_)
                    obtain ⟨hn95, hI92, hF93⟩ := hq91
                    rcases hn95 with ⟨rfl, hk96⟩ | ⟨rfl, hk96⟩
                    · refine xg_t (xg_ifF (u := 1) rfl xnm0 (by decide)) ?_
                      refine xg_t (xg_bip) ?_
                      have hs97 : rwx B nn p = 29 := by unfold rwx; rw [hk96]; rfl
                      exact xg_e ⟨9, w90, ⟨rfl, rfl⟩, Or.inl ⟨by omega, by omega, by omega⟩, hI92, ((((((((((hF21.up (by decide)).tr (hF29.up (by decide))).tr (hF37.up (by decide))).tr (hF45.up (by decide))).tr (hF53.up (by decide))).tr (hF61.up (by decide))).tr (hF69.up (by decide))).tr (hF77.up (by decide))).tr (hF85.up (by decide))).tr (hF93.up (by decide)))⟩
                    · refine xg_t (xg_ifT (u := 0) rfl xnm0 (by decide)) ?_
                      refine xg_t (xg_blk (b := [(144, 1, 0, 0, 0, 0), (145, 3, 1, 6, 1, 38), (148, 2, 72, 19, 0, 158), (150, 3, 13, 318, 64, 97), (153, 3, 7, 161, 0, 0), (156, 2, 4, 10, 0, 0), (158, 3, 8, 162, 0, 0)]) rfl) ?_
                      refine xg_t (xg_aload (va := (2, 43)) rfl rfl) ?_
                      refine xg_t (xg_getf (va := (2, 48)) (hF93.get (by decide) (hF85.get (by decide) (hF77.get (by decide) (hF69.get (by decide) (hF61.get (by decide) (hF53.get (by decide) (hF45.get (by decide) (hF37.get (by decide) (hF29.get (by decide) (hF21.get (by decide) h43_5)))))))))) rfl) ?_
                      refine xg_t (xg_ldcS) ?_
                      refine xg_cVi mX8_isWord (vs := [(8, 119)]) (rest := []) (cn1 := 0) (sl1 := 0) rfl (tkWrdX48 (C := 4153) (hI92) (i := 19) rfl (hB.fr ((hF93.1 2 (by decide)).trans ((hF85.1 2 (by decide)).trans ((hF77.1 2 (by decide)).trans ((hF69.1 2 (by decide)).trans ((hF61.1 2 (by decide)).trans ((hF53.1 2 (by decide)).trans ((hF45.1 2 (by decide)).trans ((hF37.1 2 (by decide)).trans ((hF29.1 2 (by decide)).trans (hF21.1 2 (by decide)))))))))))) (hT.fr ((hF93.1 48 (by decide)).trans ((hF85.1 48 (by decide)).trans ((hF77.1 48 (by decide)).trans ((hF69.1 48 (by decide)).trans ((hF61.1 48 (by decide)).trans ((hF53.1 48 (by decide)).trans ((hF45.1 48 (by decide)).trans ((hF37.1 48 (by decide)).trans ((hF29.1 48 (by decide)).trans (hF21.1 48 (by decide)))))))))))) (by decide +kernel)) rfl (hF93.get (by decide) (hF85.get (by decide) (hF77.get (by decide) (hF69.get (by decide) (hF61.get (by decide) (hF53.get (by decide) (hF45.get (by decide) (hF37.get (by decide) (hF29.get (by decide) (hF21.get (by decide) h48_16)))))))))) rfl rfl rfl rfl rfl rfl (fun n102 w98 hq99 => ?_)
                      obtain ⟨hn103, hI100, hF101⟩ := hq99
                      rcases hn103 with ⟨rfl, hk104⟩ | ⟨rfl, hk104⟩
                      · refine xg_t (xg_ifF (u := 1) rfl xnm0 (by decide)) ?_
                        refine xg_t (xg_bip) ?_
                        refine xg_t (xg_goto) ?_
                        refine xg_t (xg_blk (b := [(162, 1, 12, 0, 1, 0)]) rfl) ?_
                        have hs105 : rwx B nn p = 30 := by unfold rwx; rw [hk104]; rfl
                        exact xg_e ⟨10, w98, ⟨rfl, rfl⟩, Or.inl ⟨by omega, by omega, by omega⟩, hI100, (((((((((((hF21.up (by decide)).tr (hF29.up (by decide))).tr (hF37.up (by decide))).tr (hF45.up (by decide))).tr (hF53.up (by decide))).tr (hF61.up (by decide))).tr (hF69.up (by decide))).tr (hF77.up (by decide))).tr (hF85.up (by decide))).tr (hF93.up (by decide))).tr (hF101.up (by decide)))⟩
                      · refine xg_t (xg_ifT (u := 0) rfl xnm0 (by decide)) ?_
                        refine xg_t (xg_blk (b := [(161, 1, 3, 4294967295, 0, 0)]) rfl) ?_
                        refine xg_t (xg_const) ?_
                        refine xg_t (xg_blk (b := [(162, 1, 12, 0, 1, 0)]) rfl) ?_
                        have hs106 : ¬ (20 ≤ rwx B nn p ∧ rwx B nn p ≤ 30) := wixR_ms hk24 hk32 hk40 hk48 hk56 hk64 hk72 hk80 hk88 hk96 hk104
                        exact xg_e ⟨4294967295, w98, ⟨rfl, rfl⟩, Or.inr ⟨hs106, rfl⟩, hI100, (((((((((((hF21.up (by decide)).tr (hF29.up (by decide))).tr (hF37.up (by decide))).tr (hF45.up (by decide))).tr (hF53.up (by decide))).tr (hF61.up (by decide))).tr (hF69.up (by decide))).tr (hF77.up (by decide))).tr (hF85.up (by decide))).tr (hF93.up (by decide))).tr (hF101.up (by decide)))⟩
theorem rtTestX {B : Nat → Nat} {nn p : Nat} {li : Nat} (hI : xInv w) (hB : bsr w B nn) (hT : TKw 48 B nn w p) (hli : li ≤ 4294967295) : xPi (d + 6) mX6_readTest [(2, 43), (0, li)] w bd fc rr (fun n w' => (((n = 1 ∧ (rtR B nn p).1 = true) ∨ (n = 0 ∧ (rtR B nn p).1 = false)) ∧ TKw 48 B nn w' (rtR B nn p).2) ∧ xInv w' ∧ xFr [46, 47, 48] w w') := by
  refine xPi.of ?_
  show xTo (d + 6) mX6_readTest (0, [], [(0, (2, 43)), (1, (0, li))], [], (w, bd, fc, 0, 0, rr)) (fun φ => ∃ n w', xEnd 4 [(0, n)] (w', bd, fc, 0, 0, rr) φ ∧ (((n = 1 ∧ (rtR B nn p).1 = true) ∨ (n = 0 ∧ (rtR B nn p).1 = false)) ∧ TKw 48 B nn w' (rtR B nn p).2) ∧ xInv w' ∧ xFr [46, 47, 48] w w')
  obtain ⟨f43_1, f43_3, h43_5, hb2, hb4⟩ := (hI 43 (by decide) : cp43 (wget w 43))
  obtain ⟨f48_6, f48_8, f48_10, f48_12, f48_14, h48_16, hb7, hb9, hb11, hb13, hb15, hb17⟩ := (hI 48 (by decide) : cp48 (wget w 48))
  obtain ⟨f46_18, h46_20, hb19⟩ := (hI 46 (by decide) : cp46 (wget w 46))
  obtain ⟨g47_21, h47_22, hb23⟩ := (hI 47 (by decide) : cpI 320 22 4294967295 (wget w 47))
  have h47_22 : xRow w 47 320 22 g47_21 := h47_22
  refine xg_t (xg_blk (b := [(0, 1, 0, 0, 0, 0), (1, 3, 1, 6, 1, 38), (4, 2, 72, 21, 0, 133), (6, 3, 13, 318, 64, 97), (9, 1, 15, 2, 0, 0), (10, 1, 2, 2, 0, 0), (11, 3, 7, 21, 0, 0), (14, 1, 0, 0, 0, 0), (15, 3, 1, 6, 1, 38), (18, 3, 13, 312, 64, 108)]) rfl) ?_
  refine xg_t (xg_aload (va := (2, 43)) rfl rfl) ?_
  refine xg_t (xg_getf (va := (2, 48)) h43_5 rfl) ?_
  refine xg_t (xg_ldcS) ?_
  refine xg_cVi mX8_isWord (vs := [(8, 121)]) (rest := []) (cn1 := 0) (sl1 := 0) rfl (tkWrdX48 (C := 14836) (hI) (i := 21) rfl hB hT (by decide +kernel)) rfl h48_16 rfl rfl rfl rfl rfl rfl (fun n28 w24 hq25 => ?_)
  obtain ⟨hn29, hI26, hF27⟩ := hq25
  rcases hn29 with ⟨rfl, hk30⟩ | ⟨rfl, hk30⟩
  · refine xg_t (xg_istore (l1 := [(0, (2, 43)), (1, (0, li))]) rfl rfl rfl) ?_
    refine xg_t (xg_iload (va := (0, 1)) rfl rfl) ?_
    refine xg_t (xg_ifF (u := 1) rfl xnm0 (by decide)) ?_
    refine xg_t (xg_aload (va := (2, 43)) rfl rfl) ?_
    refine xg_t (xg_getf (va := (2, 48)) (hF27.get (by decide) h43_5) rfl) ?_
    obtain ⟨⟨ht31, -, -, ht32, ht33⟩, -⟩ := id (hT.fr (hF27.1 48 (by decide)))
    refine xg_cVv mX8_advance (vs := []) (rest := []) (cn1 := 0) (sl1 := 0) rfl (tkAdvX48 (hI26) (hB.fr (hF27.1 2 (by decide))) ht31 (by rw [ht32]; exact tf_le ht33)) rfl (hF27.get (by decide) h48_16) rfl rfl rfl rfl rfl rfl (fun w34 hq35 => ?_)
    obtain ⟨hI36, hF37, hx38⟩ := hq35
    rw [ht32] at hx38
    clear ht31 ht32 ht33
    obtain ⟨p_39, hp40⟩ : ∃ x, x = tf B nn p := ⟨_, rfl⟩
    rw [← hp40] at hx38
    refine xg_t (xg_blk (b := [(21, 1, 0, 0, 0, 0), (22, 3, 13, 292, 48, 135), (25, 1, 15, 3, 0, 0), (26, 1, 2, 3, 0, 0), (27, 1, 3, 4294967295, 0, 0), (28, 3, 6, 33, 1, 0), (31, 1, 3, 0, 0, 0), (32, 1, 12, 0, 1, 0)]) rfl) ?_
    refine xg_t (xg_aload (va := (2, 43)) rfl rfl) ?_
    refine xg_cVi mX6_measureOfWord (vs := []) (rest := []) (cn1 := 0) (sl1 := 0) rfl (rtMeasX (hI36) (hB.fr ((hF37.1 2 (by decide)).trans (hF27.1 2 (by decide)))) hx38) rfl (hF37.get (by decide) (hF27.get (by decide) h43_5)) rfl rfl rfl rfl rfl rfl (fun n45 w41 hq42 => ?_)
    obtain ⟨hn46, hI43, hF44⟩ := hq42
    rcases hn46 with ⟨hm47, hm48, hm49⟩ | ⟨hm50, rfl⟩
    · have hl51 : n45 ≤ 10 := by omega
      refine xg_t (xg_istore (l1 := [(2, (0, 1)), (0, (2, 43)), (1, (0, li))]) rfl rfl rfl) ?_
      refine xg_t (xg_iload (va := (0, n45)) rfl rfl) ?_
      refine xg_t (xg_const) ?_
      refine xg_t (xg_icT (u := n45) (v := 4294967295) rfl xnm0 xnm0 (xj_neT (by omega))) ?_
      refine xg_t (xg_blk (b := [(33, 1, 0, 0, 0, 0), (34, 3, 1, 6, 1, 38), (37, 3, 13, 312, 64, 108), (40, 2, 4, 62, 0, 0), (42, 2, 15, 4, 0, 0), (44, 1, 3, 0, 0, 0), (45, 2, 15, 5, 0, 0), (47, 1, 2, 3, 0, 0), (48, 3, 7, 144, 0, 0), (51, 1, 2, 3, 0, 0), (52, 1, 3, 1, 0, 0), (53, 3, 6, 144, 0, 0), (56, 1, 0, 0, 0, 0), (57, 3, 1, 6, 1, 38), (60, 2, 4, 60, 0, 0), (62, 3, 13, 316, 64, 114), (65, 3, 7, 73, 0, 0), (68, 2, 4, 60, 0, 0), (70, 3, 8, 92, 0, 0)]) rfl) ?_
      refine xg_t (xg_aload (va := (2, 43)) rfl rfl) ?_
      refine xg_t (xg_getf (va := (2, 48)) (hF44.get (by decide) (hF37.get (by decide) (hF27.get (by decide) h43_5))) rfl) ?_
      obtain ⟨⟨ht52, -, -, ht53, ht54⟩, -⟩ := id (hx38.fr (hF44.1 48 (by decide)))
      obtain ⟨f48_55, f48_57, f48_59, f48_61, f48_63, h48_65, hb56, hb58, hb60, hb62, hb64, hb66⟩ := (hI43 48 (by decide) : cp48 (wget w41 48))
      refine xg_cVv mX8_advance (vs := []) (rest := []) (cn1 := 0) (sl1 := 0) rfl (tkAdvX48 (hI43) (hB.fr ((hF44.1 2 (by decide)).trans ((hF37.1 2 (by decide)).trans (hF27.1 2 (by decide))))) ht52 (by rw [ht53]; exact tf_le ht54)) rfl h48_65 rfl rfl rfl rfl rfl rfl (fun w67 hq68 => ?_)
      obtain ⟨hI69, hF70, hx71⟩ := hq68
      rw [ht53] at hx71
      clear ht52 ht53 ht54
      obtain ⟨p_72, hp73⟩ : ∃ x, x = tf B nn p_39 := ⟨_, rfl⟩
      rw [← hp73] at hx71
      refine xg_t (xg_bip) ?_
      have jn74 : ∀ (ms sg bo : Nat) (w75 : List (List xE)), ms ≤ 4294967295 → sg ≤ 4294967295 → bo ≤ 4294967295 → xInv w75 → xFr [46, 47, 48] w w75 → ((rtR B nn p).1 = true ∧ TKw 48 B nn w75 (rtR B nn p).2) → xTo (d + 6) mX6_readTest (144, [], [(0, (2, 43)), (1, (0, li)), (2, (0, 1)), (3, (0, ms)), (4, (0, sg)), (5, (0, bo))], [], (w75, bd, fc, 0, 0, rr)) (fun φ => ∃ n w', xEnd 4 [(0, n)] (w', bd, fc, 0, 0, rr) φ ∧ (((n = 1 ∧ (rtR B nn p).1 = true) ∨ (n = 0 ∧ (rtR B nn p).1 = false)) ∧ TKw 48 B nn w' (rtR B nn p).2) ∧ xInv w' ∧ xFr [46, 47, 48] w w') := by
        intro ms sg bo w75 hn79 hn80 hn81 hI76 hF77 he78
        obtain ⟨he82, he83⟩ := he78
        refine xg_t (xg_blk (b := [(144, 1, 0, 0, 0, 0), (145, 3, 1, 6, 4, 45), (148, 3, 7, 161, 1, 0), (151, 1, 0, 0, 0, 0), (152, 3, 1, 6, 3, 20), (155, 3, 13, 286, 40, 91), (158, 3, 8, 162, 0, 0)]) rfl) ?_
        refine xg_t (xg_aload (va := (2, 43)) rfl rfl) ?_
        refine xg_t (xg_getf (va := (0, f43_1)) (hF77.get (by decide) h43_5) rfl) ?_
        by_cases hc84 : f43_1 = 0
        · refine xg_t (xg_ifF (u := f43_1) rfl xnm0 (xj_neF hc84)) ?_
          refine xg_t (xg_aload (va := (2, 43)) rfl rfl) ?_
          refine xg_t (xg_getf (va := (2, 46)) (hF77.get (by decide) h43_5) rfl) ?_
          obtain ⟨f46_85, h46_87, hb86⟩ := (hI76 46 (by decide) : cp46 (wget w75 46))
          refine xg_cVi mX5_grow (vs := []) (rest := []) (cn1 := 0) (sl1 := 0) rfl (rgrowI h46_87 (by decide) (by omega)) rfl h46_87 rfl rfl rfl rfl rfl rfl (fun n90 w88 hq89 => ?_)
          obtain ⟨hn91, s92, hs93, hk94, hb95⟩ := hq89
          refine xg_t (xg_goto) ?_
          refine xg_t (xg_blk (b := [(162, 2, 15, 6, 0, 0), (164, 1, 0, 0, 0, 0), (165, 3, 1, 6, 3, 20), (168, 2, 2, 6, 0, 0), (170, 1, 3, 0, 0, 0), (171, 1, 2, 1, 0, 0), (172, 3, 13, 290, 40, 118), (175, 1, 0, 0, 0, 0), (176, 3, 1, 6, 3, 20), (179, 2, 2, 6, 0, 0), (181, 1, 3, 1, 0, 0), (182, 1, 2, 2, 0, 0), (183, 3, 7, 190, 0, 0), (186, 1, 3, 1, 0, 0), (187, 3, 8, 191, 0, 0)]) rfl) ?_
          refine xg_t (xg_istore (l1 := [(0, (2, 43)), (1, (0, li)), (2, (0, 1)), (3, (0, ms)), (4, (0, sg)), (5, (0, bo))]) rfl rfl rfl) ?_
          refine xg_t (xg_aload (va := (2, 43)) rfl rfl) ?_
          refine xg_t (xg_getf (va := (2, 46)) (hb95.get (by decide) (hF77.get (by decide) h43_5)) rfl) ?_
          refine xg_t (xg_iload (va := (0, n90)) rfl rfl) ?_
          refine xg_t (xg_const) ?_
          refine xg_t (xg_iload (va := (0, li)) rfl rfl) ?_
          obtain ⟨g47_96, h47_97, hb98⟩ := (hI76 47 (by decide) : cpI 320 22 4294967295 (wget w75 47))
          have h47_97 : xRow w75 47 320 22 g47_96 := h47_97
          refine xg_cVv mX5_put (vs := [(0, n90), (0, 0), (0, li)]) (rest := []) (cn1 := 0) (sl1 := 0) rfl (rputI (lim := 64) (wd := 5) (B := 4294967295) hk94 (h47_97.but hb95 (by decide)) (hb98) (by decide) (by omega) (by decide) (by decide) (by omega) (by omega) (by omega)) rfl hk94 rfl rfl rfl rfl rfl rfl (fun w99 hq100 => ?_)
          obtain ⟨g101, hr102, hb103, hb104⟩ := hq100
          refine xg_t (xg_aload (va := (2, 43)) rfl rfl) ?_
          refine xg_t (xg_getf (va := (2, 46)) (hb104.get (by decide) (hb95.get (by decide) (hF77.get (by decide) h43_5))) rfl) ?_
          refine xg_t (xg_iload (va := (0, n90)) rfl rfl) ?_
          refine xg_t (xg_const) ?_
          refine xg_t (xg_iload (va := (0, 1)) rfl rfl) ?_
          refine xg_t (xg_ifF (u := 1) rfl xnm0 (by decide)) ?_
          refine xg_t (xg_const) ?_
          refine xg_t (xg_goto) ?_
          refine xg_t (xg_blk (b := [(191, 3, 13, 290, 40, 118), (194, 1, 0, 0, 0, 0), (195, 3, 1, 6, 3, 20), (198, 2, 2, 6, 0, 0), (200, 1, 3, 2, 0, 0), (201, 1, 2, 3, 0, 0), (202, 3, 13, 290, 40, 118), (205, 1, 0, 0, 0, 0), (206, 3, 1, 6, 3, 20), (209, 2, 2, 6, 0, 0), (211, 1, 3, 3, 0, 0), (212, 2, 2, 4, 0, 0), (214, 3, 13, 290, 40, 118), (217, 1, 0, 0, 0, 0), (218, 3, 1, 6, 3, 20), (221, 2, 2, 6, 0, 0), (223, 1, 3, 4, 0, 0), (224, 2, 2, 5, 0, 0), (226, 3, 13, 290, 40, 118), (229, 1, 3, 1, 0, 0), (230, 1, 12, 0, 1, 0)]) rfl) ?_
          refine xg_cVv mX5_put (vs := [(0, n90), (0, 1), (0, 1)]) (rest := []) (cn1 := 0) (sl1 := 0) rfl (rputI (lim := 64) (wd := 5) (B := 4294967295) (hb104.get (by decide) hk94) hr102 (hb103) (by decide) (by omega) (by decide) (by decide) (by omega) (by omega) (by omega)) rfl (hb104.get (by decide) hk94) rfl rfl rfl rfl rfl rfl (fun w105 hq106 => ?_)
          obtain ⟨g107, hr108, hb109, hb110⟩ := hq106
          refine xg_t (xg_aload (va := (2, 43)) rfl rfl) ?_
          refine xg_t (xg_getf (va := (2, 46)) (hb110.get (by decide) (hb104.get (by decide) (hb95.get (by decide) (hF77.get (by decide) h43_5)))) rfl) ?_
          refine xg_t (xg_iload (va := (0, n90)) rfl rfl) ?_
          refine xg_t (xg_const) ?_
          refine xg_t (xg_iload (va := (0, ms)) rfl rfl) ?_
          refine xg_cVv mX5_put (vs := [(0, n90), (0, 2), (0, ms)]) (rest := []) (cn1 := 0) (sl1 := 0) rfl (rputI (lim := 64) (wd := 5) (B := 4294967295) (hb110.get (by decide) (hb104.get (by decide) hk94)) hr108 (hb109) (by decide) (by omega) (by decide) (by decide) (by omega) (by omega) (by omega)) rfl (hb110.get (by decide) (hb104.get (by decide) hk94)) rfl rfl rfl rfl rfl rfl (fun w111 hq112 => ?_)
          obtain ⟨g113, hr114, hb115, hb116⟩ := hq112
          refine xg_t (xg_aload (va := (2, 43)) rfl rfl) ?_
          refine xg_t (xg_getf (va := (2, 46)) (hb116.get (by decide) (hb110.get (by decide) (hb104.get (by decide) (hb95.get (by decide) (hF77.get (by decide) h43_5))))) rfl) ?_
          refine xg_t (xg_iload (va := (0, n90)) rfl rfl) ?_
          refine xg_t (xg_const) ?_
          refine xg_t (xg_iload (va := (0, sg)) rfl rfl) ?_
          refine xg_cVv mX5_put (vs := [(0, n90), (0, 3), (0, sg)]) (rest := []) (cn1 := 0) (sl1 := 0) rfl (rputI (lim := 64) (wd := 5) (B := 4294967295) (hb116.get (by decide) (hb110.get (by decide) (hb104.get (by decide) hk94))) hr114 (hb115) (by decide) (by omega) (by decide) (by decide) (by omega) (by omega) (by omega)) rfl (hb116.get (by decide) (hb110.get (by decide) (hb104.get (by decide) hk94))) rfl rfl rfl rfl rfl rfl (fun w117 hq118 => ?_)
          obtain ⟨g119, hr120, hb121, hb122⟩ := hq118
          refine xg_t (xg_aload (va := (2, 43)) rfl rfl) ?_
          refine xg_t (xg_getf (va := (2, 46)) (hb122.get (by decide) (hb116.get (by decide) (hb110.get (by decide) (hb104.get (by decide) (hb95.get (by decide) (hF77.get (by decide) h43_5)))))) rfl) ?_
          refine xg_t (xg_iload (va := (0, n90)) rfl rfl) ?_
          refine xg_t (xg_const) ?_
          refine xg_t (xg_iload (va := (0, bo)) rfl rfl) ?_
          refine xg_cVv mX5_put (vs := [(0, n90), (0, 4), (0, bo)]) (rest := []) (cn1 := 0) (sl1 := 0) rfl (rputI (lim := 64) (wd := 5) (B := 4294967295) (hb122.get (by decide) (hb116.get (by decide) (hb110.get (by decide) (hb104.get (by decide) hk94)))) hr120 (hb121) (by decide) (by omega) (by decide) (by decide) (by omega) (by omega) (by omega)) rfl (hb122.get (by decide) (hb116.get (by decide) (hb110.get (by decide) (hb104.get (by decide) hk94)))) rfl rfl rfl rfl rfl rfl (fun w123 hq124 => ?_)
          obtain ⟨g125, hr126, hb127, hb128⟩ := hq124
          refine xg_t (xg_const) ?_
          exact xg_e ⟨1, w123, ⟨rfl, rfl⟩, ⟨Or.inl ⟨rfl, he82⟩, (he83.fr ((hb128.1 48 (by decide)).trans ((hb122.1 48 (by decide)).trans ((hb116.1 48 (by decide)).trans ((hb110.1 48 (by decide)).trans ((hb104.1 48 (by decide)).trans (hb95.1 48 (by decide))))))))⟩, xInv.up (S := [46, 47]) hI76 ((((((xFr.of (S := [46, 47]) hb95 (by decide)).tr (xFr.of (S := [46, 47]) hb104 (by decide))).tr (xFr.of (S := [46, 47]) hb110 (by decide))).tr (xFr.of (S := [46, 47]) hb116 (by decide))).tr (xFr.of (S := [46, 47]) hb122 (by decide))).tr (xFr.of (S := [46, 47]) hb128 (by decide))) (List.forall_mem_cons.mpr ⟨(show cp46 (wget w123 46) from ⟨s92, (hb128.get (by decide) (hb122.get (by decide) (hb116.get (by decide) (hb110.get (by decide) (hb104.get (by decide) hk94))))), by omega⟩), List.forall_mem_cons.mpr ⟨(show cpI 320 22 4294967295 (wget w123 47) from ⟨_, hr126, hb127⟩), fun _ h => absurd h List.not_mem_nil⟩⟩), (hF77.tr ((((((xFr.of (S := [46, 47, 48]) hb95 (by decide)).tr (xFr.of (S := [46, 47, 48]) hb104 (by decide))).tr (xFr.of (S := [46, 47, 48]) hb110 (by decide))).tr (xFr.of (S := [46, 47, 48]) hb116 (by decide))).tr (xFr.of (S := [46, 47, 48]) hb122 (by decide))).tr (xFr.of (S := [46, 47, 48]) hb128 (by decide))))⟩
        · refine xg_t (xg_ifT (u := f43_1) rfl xnm0 (xj_neT hc84)) ?_
          refine xg_t (xg_blk (b := [(161, 1, 3, 4294967295, 0, 0)]) rfl) ?_
          refine xg_t (xg_const) ?_
          refine xg_t (xg_blk (b := [(162, 2, 15, 6, 0, 0), (164, 1, 0, 0, 0, 0), (165, 3, 1, 6, 3, 20), (168, 2, 2, 6, 0, 0), (170, 1, 3, 0, 0, 0), (171, 1, 2, 1, 0, 0), (172, 3, 13, 290, 40, 118), (175, 1, 0, 0, 0, 0), (176, 3, 1, 6, 3, 20), (179, 2, 2, 6, 0, 0), (181, 1, 3, 1, 0, 0), (182, 1, 2, 2, 0, 0), (183, 3, 7, 190, 0, 0), (186, 1, 3, 1, 0, 0), (187, 3, 8, 191, 0, 0)]) rfl) ?_
          refine xg_t (xg_istore (l1 := [(0, (2, 43)), (1, (0, li)), (2, (0, 1)), (3, (0, ms)), (4, (0, sg)), (5, (0, bo))]) rfl rfl rfl) ?_
          refine xg_t (xg_aload (va := (2, 43)) rfl rfl) ?_
          refine xg_t (xg_getf (va := (2, 46)) (hF77.get (by decide) h43_5) rfl) ?_
          refine xg_t (xg_iload (va := (0, 4294967295)) rfl rfl) ?_
          refine xg_t (xg_const) ?_
          refine xg_t (xg_iload (va := (0, li)) rfl rfl) ?_
          obtain ⟨f46_129, h46_131, hb130⟩ := (hI76 46 (by decide) : cp46 (wget w75 46))
          obtain ⟨g47_132, h47_133, hb134⟩ := (hI76 47 (by decide) : cpI 320 22 4294967295 (wget w75 47))
          have h47_133 : xRow w75 47 320 22 g47_132 := h47_133
          refine xg_cVv mX5_put (vs := [(0, 4294967295), (0, 0), (0, li)]) (rest := []) (cn1 := 0) (sl1 := 0) rfl (rputI (lim := 64) (wd := 5) (B := 4294967295) h46_131 h47_133 (hb134) (by decide) (by omega) (by decide) (by decide) (by omega) (by omega) (by omega)) rfl h46_131 rfl rfl rfl rfl rfl rfl (fun w135 hq136 => ?_)
          obtain ⟨g137, hr138, hb139, hb140⟩ := hq136
          refine xg_t (xg_aload (va := (2, 43)) rfl rfl) ?_
          refine xg_t (xg_getf (va := (2, 46)) (hb140.get (by decide) (hF77.get (by decide) h43_5)) rfl) ?_
          refine xg_t (xg_iload (va := (0, 4294967295)) rfl rfl) ?_
          refine xg_t (xg_const) ?_
          refine xg_t (xg_iload (va := (0, 1)) rfl rfl) ?_
          refine xg_t (xg_ifF (u := 1) rfl xnm0 (by decide)) ?_
          refine xg_t (xg_const) ?_
          refine xg_t (xg_goto) ?_
          refine xg_t (xg_blk (b := [(191, 3, 13, 290, 40, 118), (194, 1, 0, 0, 0, 0), (195, 3, 1, 6, 3, 20), (198, 2, 2, 6, 0, 0), (200, 1, 3, 2, 0, 0), (201, 1, 2, 3, 0, 0), (202, 3, 13, 290, 40, 118), (205, 1, 0, 0, 0, 0), (206, 3, 1, 6, 3, 20), (209, 2, 2, 6, 0, 0), (211, 1, 3, 3, 0, 0), (212, 2, 2, 4, 0, 0), (214, 3, 13, 290, 40, 118), (217, 1, 0, 0, 0, 0), (218, 3, 1, 6, 3, 20), (221, 2, 2, 6, 0, 0), (223, 1, 3, 4, 0, 0), (224, 2, 2, 5, 0, 0), (226, 3, 13, 290, 40, 118), (229, 1, 3, 1, 0, 0), (230, 1, 12, 0, 1, 0)]) rfl) ?_
          refine xg_cVv mX5_put (vs := [(0, 4294967295), (0, 1), (0, 1)]) (rest := []) (cn1 := 0) (sl1 := 0) rfl (rputI (lim := 64) (wd := 5) (B := 4294967295) (hb140.get (by decide) h46_131) hr138 (hb139) (by decide) (by omega) (by decide) (by decide) (by omega) (by omega) (by omega)) rfl (hb140.get (by decide) h46_131) rfl rfl rfl rfl rfl rfl (fun w141 hq142 => ?_)
          obtain ⟨g143, hr144, hb145, hb146⟩ := hq142
          refine xg_t (xg_aload (va := (2, 43)) rfl rfl) ?_
          refine xg_t (xg_getf (va := (2, 46)) (hb146.get (by decide) (hb140.get (by decide) (hF77.get (by decide) h43_5))) rfl) ?_
          refine xg_t (xg_iload (va := (0, 4294967295)) rfl rfl) ?_
          refine xg_t (xg_const) ?_
          refine xg_t (xg_iload (va := (0, ms)) rfl rfl) ?_
          refine xg_cVv mX5_put (vs := [(0, 4294967295), (0, 2), (0, ms)]) (rest := []) (cn1 := 0) (sl1 := 0) rfl (rputI (lim := 64) (wd := 5) (B := 4294967295) (hb146.get (by decide) (hb140.get (by decide) h46_131)) hr144 (hb145) (by decide) (by omega) (by decide) (by decide) (by omega) (by omega) (by omega)) rfl (hb146.get (by decide) (hb140.get (by decide) h46_131)) rfl rfl rfl rfl rfl rfl (fun w147 hq148 => ?_)
          obtain ⟨g149, hr150, hb151, hb152⟩ := hq148
          refine xg_t (xg_aload (va := (2, 43)) rfl rfl) ?_
          refine xg_t (xg_getf (va := (2, 46)) (hb152.get (by decide) (hb146.get (by decide) (hb140.get (by decide) (hF77.get (by decide) h43_5)))) rfl) ?_
          refine xg_t (xg_iload (va := (0, 4294967295)) rfl rfl) ?_
          refine xg_t (xg_const) ?_
          refine xg_t (xg_iload (va := (0, sg)) rfl rfl) ?_
          refine xg_cVv mX5_put (vs := [(0, 4294967295), (0, 3), (0, sg)]) (rest := []) (cn1 := 0) (sl1 := 0) rfl (rputI (lim := 64) (wd := 5) (B := 4294967295) (hb152.get (by decide) (hb146.get (by decide) (hb140.get (by decide) h46_131))) hr150 (hb151) (by decide) (by omega) (by decide) (by decide) (by omega) (by omega) (by omega)) rfl (hb152.get (by decide) (hb146.get (by decide) (hb140.get (by decide) h46_131))) rfl rfl rfl rfl rfl rfl (fun w153 hq154 => ?_)
          obtain ⟨g155, hr156, hb157, hb158⟩ := hq154
          refine xg_t (xg_aload (va := (2, 43)) rfl rfl) ?_
          refine xg_t (xg_getf (va := (2, 46)) (hb158.get (by decide) (hb152.get (by decide) (hb146.get (by decide) (hb140.get (by decide) (hF77.get (by decide) h43_5))))) rfl) ?_
          refine xg_t (xg_iload (va := (0, 4294967295)) rfl rfl) ?_
          refine xg_t (xg_const) ?_
          refine xg_t (xg_iload (va := (0, bo)) rfl rfl) ?_
          refine xg_cVv mX5_put (vs := [(0, 4294967295), (0, 4), (0, bo)]) (rest := []) (cn1 := 0) (sl1 := 0) rfl (rputI (lim := 64) (wd := 5) (B := 4294967295) (hb158.get (by decide) (hb152.get (by decide) (hb146.get (by decide) (hb140.get (by decide) h46_131)))) hr156 (hb157) (by decide) (by omega) (by decide) (by decide) (by omega) (by omega) (by omega)) rfl (hb158.get (by decide) (hb152.get (by decide) (hb146.get (by decide) (hb140.get (by decide) h46_131)))) rfl rfl rfl rfl rfl rfl (fun w159 hq160 => ?_)
          obtain ⟨g161, hr162, hb163, hb164⟩ := hq160
          refine xg_t (xg_const) ?_
          exact xg_e ⟨1, w159, ⟨rfl, rfl⟩, ⟨Or.inl ⟨rfl, he82⟩, (he83.fr ((hb164.1 48 (by decide)).trans ((hb158.1 48 (by decide)).trans ((hb152.1 48 (by decide)).trans ((hb146.1 48 (by decide)).trans (hb140.1 48 (by decide)))))))⟩, xInv.up (S := [47]) hI76 (((((xFr.of (S := [47]) hb140 (by decide)).tr (xFr.of (S := [47]) hb146 (by decide))).tr (xFr.of (S := [47]) hb152 (by decide))).tr (xFr.of (S := [47]) hb158 (by decide))).tr (xFr.of (S := [47]) hb164 (by decide))) (List.forall_mem_cons.mpr ⟨(show cpI 320 22 4294967295 (wget w159 47) from ⟨_, hr162, hb163⟩), fun _ h => absurd h List.not_mem_nil⟩), (hF77.tr (((((xFr.of (S := [46, 47, 48]) hb140 (by decide)).tr (xFr.of (S := [46, 47, 48]) hb146 (by decide))).tr (xFr.of (S := [46, 47, 48]) hb152 (by decide))).tr (xFr.of (S := [46, 47, 48]) hb158 (by decide))).tr (xFr.of (S := [46, 47, 48]) hb164 (by decide))))⟩
      refine xg_t (xg_istore (l1 := [(3, (0, n45)), (2, (0, 1)), (0, (2, 43)), (1, (0, li))]) rfl rfl rfl) ?_
      refine xg_t (xg_const) ?_
      refine xg_t (xg_istore (l1 := [(4, (0, 62)), (3, (0, n45)), (2, (0, 1)), (0, (2, 43)), (1, (0, li))]) rfl rfl rfl) ?_
      refine xg_t (xg_iload (va := (0, n45)) rfl rfl) ?_
      by_cases hc165 : n45 = 0
      · refine xg_t (xg_ifT (u := n45) rfl xnm0 (xj_eqT hc165)) ?_
        refine xg_t (xg_drop (l1 := [(0, (2, 43)), (1, (0, li)), (2, (0, 1)), (3, (0, n45)), (4, (0, 62)), (5, (0, 0))]) (List.forall_mem_cons.mpr ⟨List.mem_cons_of_mem _ (List.mem_cons_of_mem _ (List.mem_cons_of_mem _ (List.mem_cons_of_mem _ (List.mem_cons_self)))), List.forall_mem_cons.mpr ⟨List.mem_cons_of_mem _ (List.mem_cons_of_mem _ (List.mem_cons_of_mem _ (List.mem_cons_of_mem _ (List.mem_cons_of_mem _ (List.mem_cons_self))))), List.forall_mem_cons.mpr ⟨List.mem_cons_of_mem _ (List.mem_cons_of_mem _ (List.mem_cons_of_mem _ (List.mem_cons_self))), List.forall_mem_cons.mpr ⟨List.mem_cons_of_mem _ (List.mem_cons_of_mem _ (List.mem_cons_self)), List.forall_mem_cons.mpr ⟨List.mem_cons_of_mem _ (List.mem_cons_self), List.forall_mem_cons.mpr ⟨List.mem_cons_self, fun _ h => absurd h List.not_mem_nil⟩⟩⟩⟩⟩⟩)) ?_
        have hr166 : rtR B nn p = (true, p_72) := by
          unfold rtR
          rw [((rt1_y (wixR_52.mpr hk30)).trans hp40.symm), hp73]
          exact rt2_1 hm47 (by omega)
        exact jn74 n45 62 0 w67 (by omega) (by omega) (by omega) (hI69) (((((hF27.up (by decide)).tr (hF37.up (by decide))).tr (hF44.up (by decide))).tr (hF70.up (by decide)))) (⟨congrArg Prod.fst hr166, by rw [hr166]; exact hx71⟩)
      · refine xg_t (xg_ifF (u := n45) rfl xnm0 (xj_eqF hc165)) ?_
        refine xg_t (xg_iload (va := (0, n45)) rfl rfl) ?_
        refine xg_t (xg_const) ?_
        by_cases hc167 : n45 = 1
        · refine xg_t (xg_icT (u := n45) (v := 1) rfl xnm0 xnm0 (xj_eqT hc167)) ?_
          refine xg_t (xg_drop (l1 := [(0, (2, 43)), (1, (0, li)), (2, (0, 1)), (3, (0, n45)), (4, (0, 62)), (5, (0, 0))]) (List.forall_mem_cons.mpr ⟨List.mem_cons_of_mem _ (List.mem_cons_of_mem _ (List.mem_cons_of_mem _ (List.mem_cons_of_mem _ (List.mem_cons_self)))), List.forall_mem_cons.mpr ⟨List.mem_cons_of_mem _ (List.mem_cons_of_mem _ (List.mem_cons_of_mem _ (List.mem_cons_of_mem _ (List.mem_cons_of_mem _ (List.mem_cons_self))))), List.forall_mem_cons.mpr ⟨List.mem_cons_of_mem _ (List.mem_cons_of_mem _ (List.mem_cons_of_mem _ (List.mem_cons_self))), List.forall_mem_cons.mpr ⟨List.mem_cons_of_mem _ (List.mem_cons_of_mem _ (List.mem_cons_self)), List.forall_mem_cons.mpr ⟨List.mem_cons_of_mem _ (List.mem_cons_self), List.forall_mem_cons.mpr ⟨List.mem_cons_self, fun _ h => absurd h List.not_mem_nil⟩⟩⟩⟩⟩⟩)) ?_
          have hr168 : rtR B nn p = (true, p_72) := by
            unfold rtR
            rw [((rt1_y (wixR_52.mpr hk30)).trans hp40.symm), hp73]
            exact rt2_1 hm47 (by omega)
          exact jn74 n45 62 0 w67 (by omega) (by omega) (by omega) (hI69) (((((hF27.up (by decide)).tr (hF37.up (by decide))).tr (hF44.up (by decide))).tr (hF70.up (by decide)))) (⟨congrArg Prod.fst hr168, by rw [hr168]; exact hx71⟩)
        · refine xg_t (xg_icF (u := n45) (v := 1) rfl xnm0 xnm0 (xj_eqF hc167)) ?_
          refine xg_t (xg_aload (va := (2, 43)) rfl rfl) ?_
          refine xg_t (xg_getf (va := (2, 48)) (hF70.get (by decide) (hF44.get (by decide) (hF37.get (by decide) (hF27.get (by decide) h43_5)))) rfl) ?_
          refine xg_t (xg_bip) ?_
          obtain ⟨f48_169, f48_171, f48_173, f48_175, f48_177, h48_179, hb170, hb172, hb174, hb176, hb178, hb180⟩ := (hI69 48 (by decide) : cp48 (wget w67 48))
          refine xg_cVi mX8_isSign (vs := [(0, 60)]) (rest := []) (cn1 := 0) (sl1 := 0) rfl (tkSigX48 (hI69) (by omega) (hB.fr ((hF70.1 2 (by decide)).trans ((hF44.1 2 (by decide)).trans ((hF37.1 2 (by decide)).trans (hF27.1 2 (by decide)))))) hx71) rfl h48_179 rfl rfl rfl rfl rfl rfl (fun n185 w181 hq182 => ?_)
          obtain ⟨hn186, hI183, hF184⟩ := hq182
          rcases hn186 with ⟨rfl, hk187⟩ | ⟨rfl, hk187⟩
          · refine xg_t (xg_ifF (u := 1) rfl xnm0 (by decide)) ?_
            refine xg_t (xg_bip) ?_
            refine xg_t (xg_goto) ?_
            refine xg_t (xg_blk (b := [(92, 2, 15, 4, 0, 0), (94, 1, 0, 0, 0, 0), (95, 3, 1, 6, 1, 38), (98, 2, 2, 4, 0, 0), (100, 3, 13, 316, 64, 114), (103, 3, 7, 108, 1, 0), (106, 1, 3, 0, 0, 0), (107, 1, 12, 0, 1, 0)]) rfl) ?_
            refine xg_t (xg_istore (l1 := [(5, (0, 0)), (3, (0, n45)), (2, (0, 1)), (0, (2, 43)), (1, (0, li))]) rfl rfl rfl) ?_
            refine xg_t (xg_aload (va := (2, 43)) rfl rfl) ?_
            refine xg_t (xg_getf (va := (2, 48)) (hF184.get (by decide) (hF70.get (by decide) (hF44.get (by decide) (hF37.get (by decide) (hF27.get (by decide) h43_5))))) rfl) ?_
            refine xg_t (xg_iload (va := (0, 60)) rfl rfl) ?_
            refine xg_cVi mX8_isSign (vs := [(0, 60)]) (rest := []) (cn1 := 0) (sl1 := 0) rfl (tkSigX48 (hI183) (by omega) (hB.fr ((hF184.1 2 (by decide)).trans ((hF70.1 2 (by decide)).trans ((hF44.1 2 (by decide)).trans ((hF37.1 2 (by decide)).trans (hF27.1 2 (by decide))))))) (hx71.fr (hF184.1 48 (by decide)))) rfl (hF184.get (by decide) h48_179) rfl rfl rfl rfl rfl rfl (fun n192 w188 hq189 => ?_)
            obtain ⟨hn193, hI190, hF191⟩ := hq189
            rcases hn193 with ⟨rfl, hk194⟩ | ⟨rfl, hk194⟩
            · refine xg_t (xg_ifT (u := 1) rfl xnm0 (by decide)) ?_
              refine xg_t (xg_blk (b := [(108, 1, 0, 0, 0, 0), (109, 3, 1, 6, 1, 38), (112, 3, 13, 312, 64, 108), (115, 1, 0, 0, 0, 0), (116, 3, 1, 6, 1, 38), (119, 3, 1, 8, 2, 56), (122, 1, 3, 2, 0, 0), (123, 3, 6, 128, 0, 0), (126, 1, 3, 0, 0, 0), (127, 1, 12, 0, 1, 0)]) rfl) ?_
              refine xg_t (xg_aload (va := (2, 43)) rfl rfl) ?_
              refine xg_t (xg_getf (va := (2, 48)) (hF191.get (by decide) (hF184.get (by decide) (hF70.get (by decide) (hF44.get (by decide) (hF37.get (by decide) (hF27.get (by decide) h43_5)))))) rfl) ?_
              obtain ⟨⟨ht195, -, -, ht196, ht197⟩, -⟩ := id (hx71.fr ((hF191.1 48 (by decide)).trans (hF184.1 48 (by decide))))
              refine xg_cVv mX8_advance (vs := []) (rest := []) (cn1 := 0) (sl1 := 0) rfl (tkAdvX48 (hI190) (hB.fr ((hF191.1 2 (by decide)).trans ((hF184.1 2 (by decide)).trans ((hF70.1 2 (by decide)).trans ((hF44.1 2 (by decide)).trans ((hF37.1 2 (by decide)).trans (hF27.1 2 (by decide)))))))) ht195 (by rw [ht196]; exact tf_le ht197)) rfl (hF191.get (by decide) (hF184.get (by decide) h48_179)) rfl rfl rfl rfl rfl rfl (fun w198 hq199 => ?_)
              obtain ⟨hI200, hF201, hx202⟩ := hq199
              rw [ht196] at hx202
              clear ht195 ht196 ht197
              obtain ⟨p_203, hp204⟩ : ∃ x, x = tf B nn p_72 := ⟨_, rfl⟩
              rw [← hp204] at hx202
              obtain ⟨⟨ht205, ht206, ht207, ht208, ht209⟩, ht210⟩ := id hx202
              obtain ⟨f48_211, f48_213, f48_215, f48_217, f48_219, h48_221, hb212, hb214, hb216, hb218, hb220, hb222⟩ := (hI200 48 (by decide) : cp48 (wget w198 48))
              have hq223 : fld w198 48 1 = f48_211 := fld_of h48_221
              have hq224 : fld w198 48 2 = f48_213 := fld_of h48_221
              have hq225 : fld w198 48 3 = f48_215 := fld_of h48_221
              have hq226 : fld w198 48 4 = f48_217 := fld_of h48_221
              have hq227 : fld w198 48 5 = f48_219 := fld_of h48_221
              refine xg_t (xg_aload (va := (2, 43)) rfl rfl) ?_
              refine xg_t (xg_getf (va := (2, 48)) (hF201.get (by decide) (hF191.get (by decide) (hF184.get (by decide) (hF70.get (by decide) (hF44.get (by decide) (hF37.get (by decide) (hF27.get (by decide) h43_5))))))) rfl) ?_
              refine xg_t (xg_getf (va := (0, f48_213)) h48_221 rfl) ?_
              refine xg_t (xg_const) ?_
              by_cases hc228 : f48_213 = 2
              · refine xg_t (xg_icT (u := f48_213) (v := 2) rfl xnm0 xnm0 (xj_eqT hc228)) ?_
                refine xg_t (xg_blk (b := [(128, 1, 0, 0, 0, 0), (129, 3, 1, 6, 1, 38), (132, 3, 1, 8, 5, 111), (135, 2, 15, 5, 0, 0), (137, 1, 0, 0, 0, 0), (138, 3, 1, 6, 1, 38), (141, 3, 13, 312, 64, 108)]) rfl) ?_
                refine xg_t (xg_aload (va := (2, 43)) rfl rfl) ?_
                refine xg_t (xg_getf (va := (2, 48)) (hF201.get (by decide) (hF191.get (by decide) (hF184.get (by decide) (hF70.get (by decide) (hF44.get (by decide) (hF37.get (by decide) (hF27.get (by decide) h43_5))))))) rfl) ?_
                refine xg_t (xg_getf (va := (0, f48_219)) h48_221 rfl) ?_
                refine xg_t (xg_istore (l1 := [(4, (0, 60)), (3, (0, n45)), (2, (0, 1)), (0, (2, 43)), (1, (0, li))]) rfl rfl rfl) ?_
                refine xg_t (xg_aload (va := (2, 43)) rfl rfl) ?_
                refine xg_t (xg_getf (va := (2, 48)) (hF201.get (by decide) (hF191.get (by decide) (hF184.get (by decide) (hF70.get (by decide) (hF44.get (by decide) (hF37.get (by decide) (hF27.get (by decide) h43_5))))))) rfl) ?_
                obtain ⟨⟨ht229, -, -, ht230, ht231⟩, -⟩ := id hx202
                refine xg_cVv mX8_advance (vs := []) (rest := []) (cn1 := 0) (sl1 := 0) rfl (tkAdvX48 (hI200) (hB.fr ((hF201.1 2 (by decide)).trans ((hF191.1 2 (by decide)).trans ((hF184.1 2 (by decide)).trans ((hF70.1 2 (by decide)).trans ((hF44.1 2 (by decide)).trans ((hF37.1 2 (by decide)).trans (hF27.1 2 (by decide))))))))) ht229 (by rw [ht230]; exact tf_le ht231)) rfl h48_221 rfl rfl rfl rfl rfl rfl (fun w232 hq233 => ?_)
                obtain ⟨hI234, hF235, hx236⟩ := hq233
                rw [ht230] at hx236
                clear ht229 ht230 ht231
                obtain ⟨p_237, hp238⟩ : ∃ x, x = tf B nn p_203 := ⟨_, rfl⟩
                rw [← hp238] at hx236
                refine xg_t (xg_drop (l1 := [(0, (2, 43)), (1, (0, li)), (2, (0, 1)), (3, (0, n45)), (4, (0, 60)), (5, (0, f48_219))]) (List.forall_mem_cons.mpr ⟨List.mem_cons_of_mem _ (List.mem_cons_of_mem _ (List.mem_cons_of_mem _ (List.mem_cons_of_mem _ (List.mem_cons_self)))), List.forall_mem_cons.mpr ⟨List.mem_cons_of_mem _ (List.mem_cons_of_mem _ (List.mem_cons_of_mem _ (List.mem_cons_of_mem _ (List.mem_cons_of_mem _ (List.mem_cons_self))))), List.forall_mem_cons.mpr ⟨List.mem_cons_of_mem _ (List.mem_cons_of_mem _ (List.mem_cons_of_mem _ (List.mem_cons_self))), List.forall_mem_cons.mpr ⟨List.mem_cons_of_mem _ (List.mem_cons_of_mem _ (List.mem_cons_self)), List.forall_mem_cons.mpr ⟨List.mem_cons_of_mem _ (List.mem_cons_self), List.forall_mem_cons.mpr ⟨List.mem_cons_self, fun _ h => absurd h List.not_mem_nil⟩⟩⟩⟩⟩⟩)) ?_
                have hr239 : rtR B nn p = (true, p_237) := by
                  have z1 := hk187.1
                  have z2 := hk187.2
                  unfold rtR
                  rw [((rt1_y (wixR_52.mpr hk30)).trans hp40.symm), rt2_4 (by omega) hm48 (by rw [← hp73]; omega) (by rw [← hp73, ← hp204]; omega), ← hp73, ← hp204, ← hp238]
                exact jn74 n45 60 f48_219 w232 (by omega) (by omega) (by omega) (hI234) (((((((((hF27.up (by decide)).tr (hF37.up (by decide))).tr (hF44.up (by decide))).tr (hF70.up (by decide))).tr (hF184.up (by decide))).tr (hF191.up (by decide))).tr (hF201.up (by decide))).tr (hF235.up (by decide)))) (⟨congrArg Prod.fst hr239, by rw [hr239]; exact hx236⟩)
              · refine xg_t (xg_icF (u := f48_213) (v := 2) rfl xnm0 xnm0 (xj_eqF hc228)) ?_
                refine xg_t (xg_const) ?_
                have hr240 : rtR B nn p = (false, p_203) := by
                  have z1 := hk187.1
                  have z2 := hk187.2
                  unfold rtR
                  rw [((rt1_y (wixR_52.mpr hk30)).trans hp40.symm), rt2_3 (by omega) hm48 (by rw [← hp73]; omega) (by rw [← hp73, ← hp204]; omega), ← hp73, ← hp204]
                exact xg_e ⟨0, w198, ⟨rfl, rfl⟩, ⟨Or.inr ⟨rfl, congrArg Prod.fst hr240⟩, by rw [hr240]; exact hx202⟩, hI200, (((((((hF27.up (by decide)).tr (hF37.up (by decide))).tr (hF44.up (by decide))).tr (hF70.up (by decide))).tr (hF184.up (by decide))).tr (hF191.up (by decide))).tr (hF201.up (by decide)))⟩
            · exact absurd hk187 hk194
          · refine xg_t (xg_ifT (u := 0) rfl xnm0 (by decide)) ?_
            refine xg_t (xg_blk (b := [(73, 1, 0, 0, 0, 0), (74, 3, 1, 6, 1, 38), (77, 2, 4, 61, 0, 0), (79, 3, 13, 316, 64, 114), (82, 3, 7, 90, 0, 0), (85, 2, 4, 61, 0, 0), (87, 3, 8, 92, 0, 0)]) rfl) ?_
            refine xg_t (xg_aload (va := (2, 43)) rfl rfl) ?_
            refine xg_t (xg_getf (va := (2, 48)) (hF184.get (by decide) (hF70.get (by decide) (hF44.get (by decide) (hF37.get (by decide) (hF27.get (by decide) h43_5))))) rfl) ?_
            refine xg_t (xg_bip) ?_
            refine xg_cVi mX8_isSign (vs := [(0, 61)]) (rest := []) (cn1 := 0) (sl1 := 0) rfl (tkSigX48 (hI183) (by omega) (hB.fr ((hF184.1 2 (by decide)).trans ((hF70.1 2 (by decide)).trans ((hF44.1 2 (by decide)).trans ((hF37.1 2 (by decide)).trans (hF27.1 2 (by decide))))))) (hx71.fr (hF184.1 48 (by decide)))) rfl (hF184.get (by decide) h48_179) rfl rfl rfl rfl rfl rfl (fun n245 w241 hq242 => ?_)
            obtain ⟨hn246, hI243, hF244⟩ := hq242
            rcases hn246 with ⟨rfl, hk247⟩ | ⟨rfl, hk247⟩
            · refine xg_t (xg_ifF (u := 1) rfl xnm0 (by decide)) ?_
              refine xg_t (xg_bip) ?_
              refine xg_t (xg_goto) ?_
              refine xg_t (xg_blk (b := [(92, 2, 15, 4, 0, 0), (94, 1, 0, 0, 0, 0), (95, 3, 1, 6, 1, 38), (98, 2, 2, 4, 0, 0), (100, 3, 13, 316, 64, 114), (103, 3, 7, 108, 1, 0), (106, 1, 3, 0, 0, 0), (107, 1, 12, 0, 1, 0)]) rfl) ?_
              refine xg_t (xg_istore (l1 := [(5, (0, 0)), (3, (0, n45)), (2, (0, 1)), (0, (2, 43)), (1, (0, li))]) rfl rfl rfl) ?_
              refine xg_t (xg_aload (va := (2, 43)) rfl rfl) ?_
              refine xg_t (xg_getf (va := (2, 48)) (hF244.get (by decide) (hF184.get (by decide) (hF70.get (by decide) (hF44.get (by decide) (hF37.get (by decide) (hF27.get (by decide) h43_5)))))) rfl) ?_
              refine xg_t (xg_iload (va := (0, 61)) rfl rfl) ?_
              refine xg_cVi mX8_isSign (vs := [(0, 61)]) (rest := []) (cn1 := 0) (sl1 := 0) rfl (tkSigX48 (hI243) (by omega) (hB.fr ((hF244.1 2 (by decide)).trans ((hF184.1 2 (by decide)).trans ((hF70.1 2 (by decide)).trans ((hF44.1 2 (by decide)).trans ((hF37.1 2 (by decide)).trans (hF27.1 2 (by decide)))))))) (hx71.fr ((hF244.1 48 (by decide)).trans (hF184.1 48 (by decide))))) rfl (hF244.get (by decide) (hF184.get (by decide) h48_179)) rfl rfl rfl rfl rfl rfl (fun n252 w248 hq249 => ?_)
              obtain ⟨hn253, hI250, hF251⟩ := hq249
              rcases hn253 with ⟨rfl, hk254⟩ | ⟨rfl, hk254⟩
              · refine xg_t (xg_ifT (u := 1) rfl xnm0 (by decide)) ?_
                refine xg_t (xg_blk (b := [(108, 1, 0, 0, 0, 0), (109, 3, 1, 6, 1, 38), (112, 3, 13, 312, 64, 108), (115, 1, 0, 0, 0, 0), (116, 3, 1, 6, 1, 38), (119, 3, 1, 8, 2, 56), (122, 1, 3, 2, 0, 0), (123, 3, 6, 128, 0, 0), (126, 1, 3, 0, 0, 0), (127, 1, 12, 0, 1, 0)]) rfl) ?_
                refine xg_t (xg_aload (va := (2, 43)) rfl rfl) ?_
                refine xg_t (xg_getf (va := (2, 48)) (hF251.get (by decide) (hF244.get (by decide) (hF184.get (by decide) (hF70.get (by decide) (hF44.get (by decide) (hF37.get (by decide) (hF27.get (by decide) h43_5))))))) rfl) ?_
                obtain ⟨⟨ht255, -, -, ht256, ht257⟩, -⟩ := id (hx71.fr ((hF251.1 48 (by decide)).trans ((hF244.1 48 (by decide)).trans (hF184.1 48 (by decide)))))
                refine xg_cVv mX8_advance (vs := []) (rest := []) (cn1 := 0) (sl1 := 0) rfl (tkAdvX48 (hI250) (hB.fr ((hF251.1 2 (by decide)).trans ((hF244.1 2 (by decide)).trans ((hF184.1 2 (by decide)).trans ((hF70.1 2 (by decide)).trans ((hF44.1 2 (by decide)).trans ((hF37.1 2 (by decide)).trans (hF27.1 2 (by decide))))))))) ht255 (by rw [ht256]; exact tf_le ht257)) rfl (hF251.get (by decide) (hF244.get (by decide) (hF184.get (by decide) h48_179))) rfl rfl rfl rfl rfl rfl (fun w258 hq259 => ?_)
                obtain ⟨hI260, hF261, hx262⟩ := hq259
                rw [ht256] at hx262
                clear ht255 ht256 ht257
                obtain ⟨p_263, hp264⟩ : ∃ x, x = tf B nn p_72 := ⟨_, rfl⟩
                rw [← hp264] at hx262
                obtain ⟨⟨ht265, ht266, ht267, ht268, ht269⟩, ht270⟩ := id hx262
                obtain ⟨f48_271, f48_273, f48_275, f48_277, f48_279, h48_281, hb272, hb274, hb276, hb278, hb280, hb282⟩ := (hI260 48 (by decide) : cp48 (wget w258 48))
                have hq283 : fld w258 48 1 = f48_271 := fld_of h48_281
                have hq284 : fld w258 48 2 = f48_273 := fld_of h48_281
                have hq285 : fld w258 48 3 = f48_275 := fld_of h48_281
                have hq286 : fld w258 48 4 = f48_277 := fld_of h48_281
                have hq287 : fld w258 48 5 = f48_279 := fld_of h48_281
                refine xg_t (xg_aload (va := (2, 43)) rfl rfl) ?_
                refine xg_t (xg_getf (va := (2, 48)) (hF261.get (by decide) (hF251.get (by decide) (hF244.get (by decide) (hF184.get (by decide) (hF70.get (by decide) (hF44.get (by decide) (hF37.get (by decide) (hF27.get (by decide) h43_5)))))))) rfl) ?_
                refine xg_t (xg_getf (va := (0, f48_273)) h48_281 rfl) ?_
                refine xg_t (xg_const) ?_
                by_cases hc288 : f48_273 = 2
                · refine xg_t (xg_icT (u := f48_273) (v := 2) rfl xnm0 xnm0 (xj_eqT hc288)) ?_
                  refine xg_t (xg_blk (b := [(128, 1, 0, 0, 0, 0), (129, 3, 1, 6, 1, 38), (132, 3, 1, 8, 5, 111), (135, 2, 15, 5, 0, 0), (137, 1, 0, 0, 0, 0), (138, 3, 1, 6, 1, 38), (141, 3, 13, 312, 64, 108)]) rfl) ?_
                  refine xg_t (xg_aload (va := (2, 43)) rfl rfl) ?_
                  refine xg_t (xg_getf (va := (2, 48)) (hF261.get (by decide) (hF251.get (by decide) (hF244.get (by decide) (hF184.get (by decide) (hF70.get (by decide) (hF44.get (by decide) (hF37.get (by decide) (hF27.get (by decide) h43_5)))))))) rfl) ?_
                  refine xg_t (xg_getf (va := (0, f48_279)) h48_281 rfl) ?_
                  refine xg_t (xg_istore (l1 := [(4, (0, 61)), (3, (0, n45)), (2, (0, 1)), (0, (2, 43)), (1, (0, li))]) rfl rfl rfl) ?_
                  refine xg_t (xg_aload (va := (2, 43)) rfl rfl) ?_
                  refine xg_t (xg_getf (va := (2, 48)) (hF261.get (by decide) (hF251.get (by decide) (hF244.get (by decide) (hF184.get (by decide) (hF70.get (by decide) (hF44.get (by decide) (hF37.get (by decide) (hF27.get (by decide) h43_5)))))))) rfl) ?_
                  obtain ⟨⟨ht289, -, -, ht290, ht291⟩, -⟩ := id hx262
                  refine xg_cVv mX8_advance (vs := []) (rest := []) (cn1 := 0) (sl1 := 0) rfl (tkAdvX48 (hI260) (hB.fr ((hF261.1 2 (by decide)).trans ((hF251.1 2 (by decide)).trans ((hF244.1 2 (by decide)).trans ((hF184.1 2 (by decide)).trans ((hF70.1 2 (by decide)).trans ((hF44.1 2 (by decide)).trans ((hF37.1 2 (by decide)).trans (hF27.1 2 (by decide)))))))))) ht289 (by rw [ht290]; exact tf_le ht291)) rfl h48_281 rfl rfl rfl rfl rfl rfl (fun w292 hq293 => ?_)
                  obtain ⟨hI294, hF295, hx296⟩ := hq293
                  rw [ht290] at hx296
                  clear ht289 ht290 ht291
                  obtain ⟨p_297, hp298⟩ : ∃ x, x = tf B nn p_263 := ⟨_, rfl⟩
                  rw [← hp298] at hx296
                  refine xg_t (xg_drop (l1 := [(0, (2, 43)), (1, (0, li)), (2, (0, 1)), (3, (0, n45)), (4, (0, 61)), (5, (0, f48_279))]) (List.forall_mem_cons.mpr ⟨List.mem_cons_of_mem _ (List.mem_cons_of_mem _ (List.mem_cons_of_mem _ (List.mem_cons_of_mem _ (List.mem_cons_self)))), List.forall_mem_cons.mpr ⟨List.mem_cons_of_mem _ (List.mem_cons_of_mem _ (List.mem_cons_of_mem _ (List.mem_cons_of_mem _ (List.mem_cons_of_mem _ (List.mem_cons_self))))), List.forall_mem_cons.mpr ⟨List.mem_cons_of_mem _ (List.mem_cons_of_mem _ (List.mem_cons_of_mem _ (List.mem_cons_self))), List.forall_mem_cons.mpr ⟨List.mem_cons_of_mem _ (List.mem_cons_of_mem _ (List.mem_cons_self)), List.forall_mem_cons.mpr ⟨List.mem_cons_of_mem _ (List.mem_cons_self), List.forall_mem_cons.mpr ⟨List.mem_cons_self, fun _ h => absurd h List.not_mem_nil⟩⟩⟩⟩⟩⟩)) ?_
                  have hr299 : rtR B nn p = (true, p_297) := by
                    have z1 := hk247.1
                    have z2 := hk247.2
                    unfold rtR
                    rw [((rt1_y (wixR_52.mpr hk30)).trans hp40.symm), rt2_4 (by omega) hm48 (by rw [← hp73]; omega) (by rw [← hp73, ← hp264]; omega), ← hp73, ← hp264, ← hp298]
                  exact jn74 n45 61 f48_279 w292 (by omega) (by omega) (by omega) (hI294) ((((((((((hF27.up (by decide)).tr (hF37.up (by decide))).tr (hF44.up (by decide))).tr (hF70.up (by decide))).tr (hF184.up (by decide))).tr (hF244.up (by decide))).tr (hF251.up (by decide))).tr (hF261.up (by decide))).tr (hF295.up (by decide)))) (⟨congrArg Prod.fst hr299, by rw [hr299]; exact hx296⟩)
                · refine xg_t (xg_icF (u := f48_273) (v := 2) rfl xnm0 xnm0 (xj_eqF hc288)) ?_
                  refine xg_t (xg_const) ?_
                  have hr300 : rtR B nn p = (false, p_263) := by
                    have z1 := hk247.1
                    have z2 := hk247.2
                    unfold rtR
                    rw [((rt1_y (wixR_52.mpr hk30)).trans hp40.symm), rt2_3 (by omega) hm48 (by rw [← hp73]; omega) (by rw [← hp73, ← hp264]; omega), ← hp73, ← hp264]
                  exact xg_e ⟨0, w258, ⟨rfl, rfl⟩, ⟨Or.inr ⟨rfl, congrArg Prod.fst hr300⟩, by rw [hr300]; exact hx262⟩, hI260, ((((((((hF27.up (by decide)).tr (hF37.up (by decide))).tr (hF44.up (by decide))).tr (hF70.up (by decide))).tr (hF184.up (by decide))).tr (hF244.up (by decide))).tr (hF251.up (by decide))).tr (hF261.up (by decide)))⟩
              · exact absurd hk247 hk254
            · refine xg_t (xg_ifT (u := 0) rfl xnm0 (by decide)) ?_
              refine xg_t (xg_blk (b := [(90, 2, 4, 62, 0, 0)]) rfl) ?_
              refine xg_t (xg_bip) ?_
              refine xg_t (xg_blk (b := [(92, 2, 15, 4, 0, 0), (94, 1, 0, 0, 0, 0), (95, 3, 1, 6, 1, 38), (98, 2, 2, 4, 0, 0), (100, 3, 13, 316, 64, 114), (103, 3, 7, 108, 1, 0), (106, 1, 3, 0, 0, 0), (107, 1, 12, 0, 1, 0)]) rfl) ?_
              refine xg_t (xg_istore (l1 := [(5, (0, 0)), (3, (0, n45)), (2, (0, 1)), (0, (2, 43)), (1, (0, li))]) rfl rfl rfl) ?_
              refine xg_t (xg_aload (va := (2, 43)) rfl rfl) ?_
              refine xg_t (xg_getf (va := (2, 48)) (hF244.get (by decide) (hF184.get (by decide) (hF70.get (by decide) (hF44.get (by decide) (hF37.get (by decide) (hF27.get (by decide) h43_5)))))) rfl) ?_
              refine xg_t (xg_iload (va := (0, 62)) rfl rfl) ?_
              refine xg_cVi mX8_isSign (vs := [(0, 62)]) (rest := []) (cn1 := 0) (sl1 := 0) rfl (tkSigX48 (hI243) (by omega) (hB.fr ((hF244.1 2 (by decide)).trans ((hF184.1 2 (by decide)).trans ((hF70.1 2 (by decide)).trans ((hF44.1 2 (by decide)).trans ((hF37.1 2 (by decide)).trans (hF27.1 2 (by decide)))))))) (hx71.fr ((hF244.1 48 (by decide)).trans (hF184.1 48 (by decide))))) rfl (hF244.get (by decide) (hF184.get (by decide) h48_179)) rfl rfl rfl rfl rfl rfl (fun n305 w301 hq302 => ?_)
              obtain ⟨hn306, hI303, hF304⟩ := hq302
              rcases hn306 with ⟨rfl, hk307⟩ | ⟨rfl, hk307⟩
              · refine xg_t (xg_ifT (u := 1) rfl xnm0 (by decide)) ?_
                refine xg_t (xg_blk (b := [(108, 1, 0, 0, 0, 0), (109, 3, 1, 6, 1, 38), (112, 3, 13, 312, 64, 108), (115, 1, 0, 0, 0, 0), (116, 3, 1, 6, 1, 38), (119, 3, 1, 8, 2, 56), (122, 1, 3, 2, 0, 0), (123, 3, 6, 128, 0, 0), (126, 1, 3, 0, 0, 0), (127, 1, 12, 0, 1, 0)]) rfl) ?_
                refine xg_t (xg_aload (va := (2, 43)) rfl rfl) ?_
                refine xg_t (xg_getf (va := (2, 48)) (hF304.get (by decide) (hF244.get (by decide) (hF184.get (by decide) (hF70.get (by decide) (hF44.get (by decide) (hF37.get (by decide) (hF27.get (by decide) h43_5))))))) rfl) ?_
                obtain ⟨⟨ht308, -, -, ht309, ht310⟩, -⟩ := id (hx71.fr ((hF304.1 48 (by decide)).trans ((hF244.1 48 (by decide)).trans (hF184.1 48 (by decide)))))
                refine xg_cVv mX8_advance (vs := []) (rest := []) (cn1 := 0) (sl1 := 0) rfl (tkAdvX48 (hI303) (hB.fr ((hF304.1 2 (by decide)).trans ((hF244.1 2 (by decide)).trans ((hF184.1 2 (by decide)).trans ((hF70.1 2 (by decide)).trans ((hF44.1 2 (by decide)).trans ((hF37.1 2 (by decide)).trans (hF27.1 2 (by decide))))))))) ht308 (by rw [ht309]; exact tf_le ht310)) rfl (hF304.get (by decide) (hF244.get (by decide) (hF184.get (by decide) h48_179))) rfl rfl rfl rfl rfl rfl (fun w311 hq312 => ?_)
                obtain ⟨hI313, hF314, hx315⟩ := hq312
                rw [ht309] at hx315
                clear ht308 ht309 ht310
                obtain ⟨p_316, hp317⟩ : ∃ x, x = tf B nn p_72 := ⟨_, rfl⟩
                rw [← hp317] at hx315
                obtain ⟨⟨ht318, ht319, ht320, ht321, ht322⟩, ht323⟩ := id hx315
                obtain ⟨f48_324, f48_326, f48_328, f48_330, f48_332, h48_334, hb325, hb327, hb329, hb331, hb333, hb335⟩ := (hI313 48 (by decide) : cp48 (wget w311 48))
                have hq336 : fld w311 48 1 = f48_324 := fld_of h48_334
                have hq337 : fld w311 48 2 = f48_326 := fld_of h48_334
                have hq338 : fld w311 48 3 = f48_328 := fld_of h48_334
                have hq339 : fld w311 48 4 = f48_330 := fld_of h48_334
                have hq340 : fld w311 48 5 = f48_332 := fld_of h48_334
                refine xg_t (xg_aload (va := (2, 43)) rfl rfl) ?_
                refine xg_t (xg_getf (va := (2, 48)) (hF314.get (by decide) (hF304.get (by decide) (hF244.get (by decide) (hF184.get (by decide) (hF70.get (by decide) (hF44.get (by decide) (hF37.get (by decide) (hF27.get (by decide) h43_5)))))))) rfl) ?_
                refine xg_t (xg_getf (va := (0, f48_326)) h48_334 rfl) ?_
                refine xg_t (xg_const) ?_
                by_cases hc341 : f48_326 = 2
                · refine xg_t (xg_icT (u := f48_326) (v := 2) rfl xnm0 xnm0 (xj_eqT hc341)) ?_
                  refine xg_t (xg_blk (b := [(128, 1, 0, 0, 0, 0), (129, 3, 1, 6, 1, 38), (132, 3, 1, 8, 5, 111), (135, 2, 15, 5, 0, 0), (137, 1, 0, 0, 0, 0), (138, 3, 1, 6, 1, 38), (141, 3, 13, 312, 64, 108)]) rfl) ?_
                  refine xg_t (xg_aload (va := (2, 43)) rfl rfl) ?_
                  refine xg_t (xg_getf (va := (2, 48)) (hF314.get (by decide) (hF304.get (by decide) (hF244.get (by decide) (hF184.get (by decide) (hF70.get (by decide) (hF44.get (by decide) (hF37.get (by decide) (hF27.get (by decide) h43_5)))))))) rfl) ?_
                  refine xg_t (xg_getf (va := (0, f48_332)) h48_334 rfl) ?_
                  refine xg_t (xg_istore (l1 := [(4, (0, 62)), (3, (0, n45)), (2, (0, 1)), (0, (2, 43)), (1, (0, li))]) rfl rfl rfl) ?_
                  refine xg_t (xg_aload (va := (2, 43)) rfl rfl) ?_
                  refine xg_t (xg_getf (va := (2, 48)) (hF314.get (by decide) (hF304.get (by decide) (hF244.get (by decide) (hF184.get (by decide) (hF70.get (by decide) (hF44.get (by decide) (hF37.get (by decide) (hF27.get (by decide) h43_5)))))))) rfl) ?_
                  obtain ⟨⟨ht342, -, -, ht343, ht344⟩, -⟩ := id hx315
                  refine xg_cVv mX8_advance (vs := []) (rest := []) (cn1 := 0) (sl1 := 0) rfl (tkAdvX48 (hI313) (hB.fr ((hF314.1 2 (by decide)).trans ((hF304.1 2 (by decide)).trans ((hF244.1 2 (by decide)).trans ((hF184.1 2 (by decide)).trans ((hF70.1 2 (by decide)).trans ((hF44.1 2 (by decide)).trans ((hF37.1 2 (by decide)).trans (hF27.1 2 (by decide)))))))))) ht342 (by rw [ht343]; exact tf_le ht344)) rfl h48_334 rfl rfl rfl rfl rfl rfl (fun w345 hq346 => ?_)
                  obtain ⟨hI347, hF348, hx349⟩ := hq346
                  rw [ht343] at hx349
                  clear ht342 ht343 ht344
                  obtain ⟨p_350, hp351⟩ : ∃ x, x = tf B nn p_316 := ⟨_, rfl⟩
                  rw [← hp351] at hx349
                  refine xg_t (xg_drop (l1 := [(0, (2, 43)), (1, (0, li)), (2, (0, 1)), (3, (0, n45)), (4, (0, 62)), (5, (0, f48_332))]) (List.forall_mem_cons.mpr ⟨List.mem_cons_of_mem _ (List.mem_cons_of_mem _ (List.mem_cons_of_mem _ (List.mem_cons_of_mem _ (List.mem_cons_self)))), List.forall_mem_cons.mpr ⟨List.mem_cons_of_mem _ (List.mem_cons_of_mem _ (List.mem_cons_of_mem _ (List.mem_cons_of_mem _ (List.mem_cons_of_mem _ (List.mem_cons_self))))), List.forall_mem_cons.mpr ⟨List.mem_cons_of_mem _ (List.mem_cons_of_mem _ (List.mem_cons_of_mem _ (List.mem_cons_self))), List.forall_mem_cons.mpr ⟨List.mem_cons_of_mem _ (List.mem_cons_of_mem _ (List.mem_cons_self)), List.forall_mem_cons.mpr ⟨List.mem_cons_of_mem _ (List.mem_cons_self), List.forall_mem_cons.mpr ⟨List.mem_cons_self, fun _ h => absurd h List.not_mem_nil⟩⟩⟩⟩⟩⟩)) ?_
                  have hr352 : rtR B nn p = (true, p_350) := by
                    have z1 := hk307.1
                    have z2 := hk307.2
                    unfold rtR
                    rw [((rt1_y (wixR_52.mpr hk30)).trans hp40.symm), rt2_4 (by omega) hm48 (by rw [← hp73]; omega) (by rw [← hp73, ← hp317]; omega), ← hp73, ← hp317, ← hp351]
                  exact jn74 n45 62 f48_332 w345 (by omega) (by omega) (by omega) (hI347) ((((((((((hF27.up (by decide)).tr (hF37.up (by decide))).tr (hF44.up (by decide))).tr (hF70.up (by decide))).tr (hF184.up (by decide))).tr (hF244.up (by decide))).tr (hF304.up (by decide))).tr (hF314.up (by decide))).tr (hF348.up (by decide)))) (⟨congrArg Prod.fst hr352, by rw [hr352]; exact hx349⟩)
                · refine xg_t (xg_icF (u := f48_326) (v := 2) rfl xnm0 xnm0 (xj_eqF hc341)) ?_
                  refine xg_t (xg_const) ?_
                  have hr353 : rtR B nn p = (false, p_316) := by
                    have z1 := hk307.1
                    have z2 := hk307.2
                    unfold rtR
                    rw [((rt1_y (wixR_52.mpr hk30)).trans hp40.symm), rt2_3 (by omega) hm48 (by rw [← hp73]; omega) (by rw [← hp73, ← hp317]; omega), ← hp73, ← hp317]
                  exact xg_e ⟨0, w311, ⟨rfl, rfl⟩, ⟨Or.inr ⟨rfl, congrArg Prod.fst hr353⟩, by rw [hr353]; exact hx315⟩, hI313, ((((((((hF27.up (by decide)).tr (hF37.up (by decide))).tr (hF44.up (by decide))).tr (hF70.up (by decide))).tr (hF184.up (by decide))).tr (hF244.up (by decide))).tr (hF304.up (by decide))).tr (hF314.up (by decide)))⟩
              · refine xg_t (xg_ifF (u := 0) rfl xnm0 (by decide)) ?_
                refine xg_t (xg_const) ?_
                have hy355 : ¬ (tkd B nn p_72 = 3 ∧ B (tq B nn p_72) ≠ 58 ∧ B (tq B nn p_72) ≠ 59) := fun z => by
                  obtain ⟨z1, z2, z3⟩ := z
                  rcases tk3_of z1 with y | y | y | y | y
                  · exact z3 y
                  · exact z2 y
                  · exact hk187 ⟨z1, y⟩
                  · exact hk307 ⟨z1, y⟩
                  · exact hk247 ⟨z1, y⟩
                have hr354 : rtR B nn p = (false, p_72) := by
                  unfold rtR
                  rw [((rt1_y (wixR_52.mpr hk30)).trans hp40.symm), rt2_2 (by omega) hm48 (by rw [← hp73]; exact hy355), ← hp73]
                exact xg_e ⟨0, w301, ⟨rfl, rfl⟩, ⟨Or.inr ⟨rfl, congrArg Prod.fst hr354⟩, by rw [hr354]; exact (hx71.fr ((hF304.1 48 (by decide)).trans ((hF244.1 48 (by decide)).trans (hF184.1 48 (by decide)))))⟩, hI303, (((((((hF27.up (by decide)).tr (hF37.up (by decide))).tr (hF44.up (by decide))).tr (hF70.up (by decide))).tr (hF184.up (by decide))).tr (hF244.up (by decide))).tr (hF304.up (by decide)))⟩
    · refine xg_t (xg_istore (l1 := [(2, (0, 1)), (0, (2, 43)), (1, (0, li))]) rfl rfl rfl) ?_
      refine xg_t (xg_iload (va := (0, 4294967295)) rfl rfl) ?_
      refine xg_t (xg_const) ?_
      refine xg_t (xg_icF (u := 4294967295) (v := 4294967295) rfl xnm0 xnm0 (by decide)) ?_
      refine xg_t (xg_const) ?_
      have hr356 : rtR B nn p = (false, p_39) := by
        unfold rtR
        rw [((rt1_y (wixR_52.mpr hk30)).trans hp40.symm)]
        exact rt2_0 hm50
      exact xg_e ⟨0, w41, ⟨rfl, rfl⟩, ⟨Or.inr ⟨rfl, congrArg Prod.fst hr356⟩, by rw [hr356]; exact (hx38.fr (hF44.1 48 (by decide)))⟩, hI43, (((hF27.up (by decide)).tr (hF37.up (by decide))).tr (hF44.up (by decide)))⟩
  · refine xg_t (xg_istore (l1 := [(0, (2, 43)), (1, (0, li))]) rfl rfl rfl) ?_
    refine xg_t (xg_iload (va := (0, 0)) rfl rfl) ?_
    refine xg_t (xg_ifT (u := 0) rfl xnm0 (by decide)) ?_
    refine xg_t (xg_blk (b := [(21, 1, 0, 0, 0, 0), (22, 3, 13, 292, 48, 135), (25, 1, 15, 3, 0, 0), (26, 1, 2, 3, 0, 0), (27, 1, 3, 4294967295, 0, 0), (28, 3, 6, 33, 1, 0), (31, 1, 3, 0, 0, 0), (32, 1, 12, 0, 1, 0)]) rfl) ?_
    refine xg_t (xg_aload (va := (2, 43)) rfl rfl) ?_
    refine xg_cVi mX6_measureOfWord (vs := []) (rest := []) (cn1 := 0) (sl1 := 0) rfl (rtMeasX (hI26) (hB.fr (hF27.1 2 (by decide))) (hT.fr (hF27.1 48 (by decide)))) rfl (hF27.get (by decide) h43_5) rfl rfl rfl rfl rfl rfl (fun n361 w357 hq358 => ?_)
    obtain ⟨hn362, hI359, hF360⟩ := hq358
    rcases hn362 with ⟨hm363, hm364, hm365⟩ | ⟨hm366, rfl⟩
    · have hl367 : n361 ≤ 10 := by omega
      refine xg_t (xg_istore (l1 := [(2, (0, 0)), (0, (2, 43)), (1, (0, li))]) rfl rfl rfl) ?_
      refine xg_t (xg_iload (va := (0, n361)) rfl rfl) ?_
      refine xg_t (xg_const) ?_
      refine xg_t (xg_icT (u := n361) (v := 4294967295) rfl xnm0 xnm0 (xj_neT (by omega))) ?_
      refine xg_t (xg_blk (b := [(33, 1, 0, 0, 0, 0), (34, 3, 1, 6, 1, 38), (37, 3, 13, 312, 64, 108), (40, 2, 4, 62, 0, 0), (42, 2, 15, 4, 0, 0), (44, 1, 3, 0, 0, 0), (45, 2, 15, 5, 0, 0), (47, 1, 2, 3, 0, 0), (48, 3, 7, 144, 0, 0), (51, 1, 2, 3, 0, 0), (52, 1, 3, 1, 0, 0), (53, 3, 6, 144, 0, 0), (56, 1, 0, 0, 0, 0), (57, 3, 1, 6, 1, 38), (60, 2, 4, 60, 0, 0), (62, 3, 13, 316, 64, 114), (65, 3, 7, 73, 0, 0), (68, 2, 4, 60, 0, 0), (70, 3, 8, 92, 0, 0)]) rfl) ?_
      refine xg_t (xg_aload (va := (2, 43)) rfl rfl) ?_
      refine xg_t (xg_getf (va := (2, 48)) (hF360.get (by decide) (hF27.get (by decide) h43_5)) rfl) ?_
      obtain ⟨⟨ht368, -, -, ht369, ht370⟩, -⟩ := id (hT.fr ((hF360.1 48 (by decide)).trans (hF27.1 48 (by decide))))
      refine xg_cVv mX8_advance (vs := []) (rest := []) (cn1 := 0) (sl1 := 0) rfl (tkAdvX48 (hI359) (hB.fr ((hF360.1 2 (by decide)).trans (hF27.1 2 (by decide)))) ht368 (by rw [ht369]; exact tf_le ht370)) rfl (hF360.get (by decide) (hF27.get (by decide) h48_16)) rfl rfl rfl rfl rfl rfl (fun w371 hq372 => ?_)
      obtain ⟨hI373, hF374, hx375⟩ := hq372
      rw [ht369] at hx375
      clear ht368 ht369 ht370
      obtain ⟨p_376, hp377⟩ : ∃ x, x = tf B nn p := ⟨_, rfl⟩
      rw [← hp377] at hx375
      refine xg_t (xg_bip) ?_
      have jn378 : ∀ (ms sg bo : Nat) (w379 : List (List xE)), ms ≤ 4294967295 → sg ≤ 4294967295 → bo ≤ 4294967295 → xInv w379 → xFr [46, 47, 48] w w379 → ((rtR B nn p).1 = true ∧ TKw 48 B nn w379 (rtR B nn p).2) → xTo (d + 6) mX6_readTest (144, [], [(0, (2, 43)), (1, (0, li)), (2, (0, 0)), (3, (0, ms)), (4, (0, sg)), (5, (0, bo))], [], (w379, bd, fc, 0, 0, rr)) (fun φ => ∃ n w', xEnd 4 [(0, n)] (w', bd, fc, 0, 0, rr) φ ∧ (((n = 1 ∧ (rtR B nn p).1 = true) ∨ (n = 0 ∧ (rtR B nn p).1 = false)) ∧ TKw 48 B nn w' (rtR B nn p).2) ∧ xInv w' ∧ xFr [46, 47, 48] w w') := by
        intro ms sg bo w379 hn383 hn384 hn385 hI380 hF381 he382
        obtain ⟨he386, he387⟩ := he382
        refine xg_t (xg_blk (b := [(144, 1, 0, 0, 0, 0), (145, 3, 1, 6, 4, 45), (148, 3, 7, 161, 1, 0), (151, 1, 0, 0, 0, 0), (152, 3, 1, 6, 3, 20), (155, 3, 13, 286, 40, 91), (158, 3, 8, 162, 0, 0)]) rfl) ?_
        refine xg_t (xg_aload (va := (2, 43)) rfl rfl) ?_
        refine xg_t (xg_getf (va := (0, f43_1)) (hF381.get (by decide) h43_5) rfl) ?_
        by_cases hc388 : f43_1 = 0
        · refine xg_t (xg_ifF (u := f43_1) rfl xnm0 (xj_neF hc388)) ?_
          refine xg_t (xg_aload (va := (2, 43)) rfl rfl) ?_
          refine xg_t (xg_getf (va := (2, 46)) (hF381.get (by decide) h43_5) rfl) ?_
          obtain ⟨f46_389, h46_391, hb390⟩ := (hI380 46 (by decide) : cp46 (wget w379 46))
          refine xg_cVi mX5_grow (vs := []) (rest := []) (cn1 := 0) (sl1 := 0) rfl (rgrowI h46_391 (by decide) (by omega)) rfl h46_391 rfl rfl rfl rfl rfl rfl (fun n394 w392 hq393 => ?_)
          obtain ⟨hn395, s396, hs397, hk398, hb399⟩ := hq393
          refine xg_t (xg_goto) ?_
          refine xg_t (xg_blk (b := [(162, 2, 15, 6, 0, 0), (164, 1, 0, 0, 0, 0), (165, 3, 1, 6, 3, 20), (168, 2, 2, 6, 0, 0), (170, 1, 3, 0, 0, 0), (171, 1, 2, 1, 0, 0), (172, 3, 13, 290, 40, 118), (175, 1, 0, 0, 0, 0), (176, 3, 1, 6, 3, 20), (179, 2, 2, 6, 0, 0), (181, 1, 3, 1, 0, 0), (182, 1, 2, 2, 0, 0), (183, 3, 7, 190, 0, 0), (186, 1, 3, 1, 0, 0), (187, 3, 8, 191, 0, 0)]) rfl) ?_
          refine xg_t (xg_istore (l1 := [(0, (2, 43)), (1, (0, li)), (2, (0, 0)), (3, (0, ms)), (4, (0, sg)), (5, (0, bo))]) rfl rfl rfl) ?_
          refine xg_t (xg_aload (va := (2, 43)) rfl rfl) ?_
          refine xg_t (xg_getf (va := (2, 46)) (hb399.get (by decide) (hF381.get (by decide) h43_5)) rfl) ?_
          refine xg_t (xg_iload (va := (0, n394)) rfl rfl) ?_
          refine xg_t (xg_const) ?_
          refine xg_t (xg_iload (va := (0, li)) rfl rfl) ?_
          obtain ⟨g47_400, h47_401, hb402⟩ := (hI380 47 (by decide) : cpI 320 22 4294967295 (wget w379 47))
          have h47_401 : xRow w379 47 320 22 g47_400 := h47_401
          refine xg_cVv mX5_put (vs := [(0, n394), (0, 0), (0, li)]) (rest := []) (cn1 := 0) (sl1 := 0) rfl (rputI (lim := 64) (wd := 5) (B := 4294967295) hk398 (h47_401.but hb399 (by decide)) (hb402) (by decide) (by omega) (by decide) (by decide) (by omega) (by omega) (by omega)) rfl hk398 rfl rfl rfl rfl rfl rfl (fun w403 hq404 => ?_)
          obtain ⟨g405, hr406, hb407, hb408⟩ := hq404
          refine xg_t (xg_aload (va := (2, 43)) rfl rfl) ?_
          refine xg_t (xg_getf (va := (2, 46)) (hb408.get (by decide) (hb399.get (by decide) (hF381.get (by decide) h43_5))) rfl) ?_
          refine xg_t (xg_iload (va := (0, n394)) rfl rfl) ?_
          refine xg_t (xg_const) ?_
          refine xg_t (xg_iload (va := (0, 0)) rfl rfl) ?_
          refine xg_t (xg_ifT (u := 0) rfl xnm0 (by decide)) ?_
          refine xg_t (xg_blk (b := [(190, 1, 3, 0, 0, 0)]) rfl) ?_
          refine xg_t (xg_const) ?_
          refine xg_t (xg_blk (b := [(191, 3, 13, 290, 40, 118), (194, 1, 0, 0, 0, 0), (195, 3, 1, 6, 3, 20), (198, 2, 2, 6, 0, 0), (200, 1, 3, 2, 0, 0), (201, 1, 2, 3, 0, 0), (202, 3, 13, 290, 40, 118), (205, 1, 0, 0, 0, 0), (206, 3, 1, 6, 3, 20), (209, 2, 2, 6, 0, 0), (211, 1, 3, 3, 0, 0), (212, 2, 2, 4, 0, 0), (214, 3, 13, 290, 40, 118), (217, 1, 0, 0, 0, 0), (218, 3, 1, 6, 3, 20), (221, 2, 2, 6, 0, 0), (223, 1, 3, 4, 0, 0), (224, 2, 2, 5, 0, 0), (226, 3, 13, 290, 40, 118), (229, 1, 3, 1, 0, 0), (230, 1, 12, 0, 1, 0)]) rfl) ?_
          refine xg_cVv mX5_put (vs := [(0, n394), (0, 1), (0, 0)]) (rest := []) (cn1 := 0) (sl1 := 0) rfl (rputI (lim := 64) (wd := 5) (B := 4294967295) (hb408.get (by decide) hk398) hr406 (hb407) (by decide) (by omega) (by decide) (by decide) (by omega) (by omega) (by omega)) rfl (hb408.get (by decide) hk398) rfl rfl rfl rfl rfl rfl (fun w409 hq410 => ?_)
          obtain ⟨g411, hr412, hb413, hb414⟩ := hq410
          refine xg_t (xg_aload (va := (2, 43)) rfl rfl) ?_
          refine xg_t (xg_getf (va := (2, 46)) (hb414.get (by decide) (hb408.get (by decide) (hb399.get (by decide) (hF381.get (by decide) h43_5)))) rfl) ?_
          refine xg_t (xg_iload (va := (0, n394)) rfl rfl) ?_
          refine xg_t (xg_const) ?_
          refine xg_t (xg_iload (va := (0, ms)) rfl rfl) ?_
          refine xg_cVv mX5_put (vs := [(0, n394), (0, 2), (0, ms)]) (rest := []) (cn1 := 0) (sl1 := 0) rfl (rputI (lim := 64) (wd := 5) (B := 4294967295) (hb414.get (by decide) (hb408.get (by decide) hk398)) hr412 (hb413) (by decide) (by omega) (by decide) (by decide) (by omega) (by omega) (by omega)) rfl (hb414.get (by decide) (hb408.get (by decide) hk398)) rfl rfl rfl rfl rfl rfl (fun w415 hq416 => ?_)
          obtain ⟨g417, hr418, hb419, hb420⟩ := hq416
          refine xg_t (xg_aload (va := (2, 43)) rfl rfl) ?_
          refine xg_t (xg_getf (va := (2, 46)) (hb420.get (by decide) (hb414.get (by decide) (hb408.get (by decide) (hb399.get (by decide) (hF381.get (by decide) h43_5))))) rfl) ?_
          refine xg_t (xg_iload (va := (0, n394)) rfl rfl) ?_
          refine xg_t (xg_const) ?_
          refine xg_t (xg_iload (va := (0, sg)) rfl rfl) ?_
          refine xg_cVv mX5_put (vs := [(0, n394), (0, 3), (0, sg)]) (rest := []) (cn1 := 0) (sl1 := 0) rfl (rputI (lim := 64) (wd := 5) (B := 4294967295) (hb420.get (by decide) (hb414.get (by decide) (hb408.get (by decide) hk398))) hr418 (hb419) (by decide) (by omega) (by decide) (by decide) (by omega) (by omega) (by omega)) rfl (hb420.get (by decide) (hb414.get (by decide) (hb408.get (by decide) hk398))) rfl rfl rfl rfl rfl rfl (fun w421 hq422 => ?_)
          obtain ⟨g423, hr424, hb425, hb426⟩ := hq422
          refine xg_t (xg_aload (va := (2, 43)) rfl rfl) ?_
          refine xg_t (xg_getf (va := (2, 46)) (hb426.get (by decide) (hb420.get (by decide) (hb414.get (by decide) (hb408.get (by decide) (hb399.get (by decide) (hF381.get (by decide) h43_5)))))) rfl) ?_
          refine xg_t (xg_iload (va := (0, n394)) rfl rfl) ?_
          refine xg_t (xg_const) ?_
          refine xg_t (xg_iload (va := (0, bo)) rfl rfl) ?_
          refine xg_cVv mX5_put (vs := [(0, n394), (0, 4), (0, bo)]) (rest := []) (cn1 := 0) (sl1 := 0) rfl (rputI (lim := 64) (wd := 5) (B := 4294967295) (hb426.get (by decide) (hb420.get (by decide) (hb414.get (by decide) (hb408.get (by decide) hk398)))) hr424 (hb425) (by decide) (by omega) (by decide) (by decide) (by omega) (by omega) (by omega)) rfl (hb426.get (by decide) (hb420.get (by decide) (hb414.get (by decide) (hb408.get (by decide) hk398)))) rfl rfl rfl rfl rfl rfl (fun w427 hq428 => ?_)
          obtain ⟨g429, hr430, hb431, hb432⟩ := hq428
          refine xg_t (xg_const) ?_
          exact xg_e ⟨1, w427, ⟨rfl, rfl⟩, ⟨Or.inl ⟨rfl, he386⟩, (he387.fr ((hb432.1 48 (by decide)).trans ((hb426.1 48 (by decide)).trans ((hb420.1 48 (by decide)).trans ((hb414.1 48 (by decide)).trans ((hb408.1 48 (by decide)).trans (hb399.1 48 (by decide))))))))⟩, xInv.up (S := [46, 47]) hI380 ((((((xFr.of (S := [46, 47]) hb399 (by decide)).tr (xFr.of (S := [46, 47]) hb408 (by decide))).tr (xFr.of (S := [46, 47]) hb414 (by decide))).tr (xFr.of (S := [46, 47]) hb420 (by decide))).tr (xFr.of (S := [46, 47]) hb426 (by decide))).tr (xFr.of (S := [46, 47]) hb432 (by decide))) (List.forall_mem_cons.mpr ⟨(show cp46 (wget w427 46) from ⟨s396, (hb432.get (by decide) (hb426.get (by decide) (hb420.get (by decide) (hb414.get (by decide) (hb408.get (by decide) hk398))))), by omega⟩), List.forall_mem_cons.mpr ⟨(show cpI 320 22 4294967295 (wget w427 47) from ⟨_, hr430, hb431⟩), fun _ h => absurd h List.not_mem_nil⟩⟩), (hF381.tr ((((((xFr.of (S := [46, 47, 48]) hb399 (by decide)).tr (xFr.of (S := [46, 47, 48]) hb408 (by decide))).tr (xFr.of (S := [46, 47, 48]) hb414 (by decide))).tr (xFr.of (S := [46, 47, 48]) hb420 (by decide))).tr (xFr.of (S := [46, 47, 48]) hb426 (by decide))).tr (xFr.of (S := [46, 47, 48]) hb432 (by decide))))⟩
        · refine xg_t (xg_ifT (u := f43_1) rfl xnm0 (xj_neT hc388)) ?_
          refine xg_t (xg_blk (b := [(161, 1, 3, 4294967295, 0, 0)]) rfl) ?_
          refine xg_t (xg_const) ?_
          refine xg_t (xg_blk (b := [(162, 2, 15, 6, 0, 0), (164, 1, 0, 0, 0, 0), (165, 3, 1, 6, 3, 20), (168, 2, 2, 6, 0, 0), (170, 1, 3, 0, 0, 0), (171, 1, 2, 1, 0, 0), (172, 3, 13, 290, 40, 118), (175, 1, 0, 0, 0, 0), (176, 3, 1, 6, 3, 20), (179, 2, 2, 6, 0, 0), (181, 1, 3, 1, 0, 0), (182, 1, 2, 2, 0, 0), (183, 3, 7, 190, 0, 0), (186, 1, 3, 1, 0, 0), (187, 3, 8, 191, 0, 0)]) rfl) ?_
          refine xg_t (xg_istore (l1 := [(0, (2, 43)), (1, (0, li)), (2, (0, 0)), (3, (0, ms)), (4, (0, sg)), (5, (0, bo))]) rfl rfl rfl) ?_
          refine xg_t (xg_aload (va := (2, 43)) rfl rfl) ?_
          refine xg_t (xg_getf (va := (2, 46)) (hF381.get (by decide) h43_5) rfl) ?_
          refine xg_t (xg_iload (va := (0, 4294967295)) rfl rfl) ?_
          refine xg_t (xg_const) ?_
          refine xg_t (xg_iload (va := (0, li)) rfl rfl) ?_
          obtain ⟨f46_433, h46_435, hb434⟩ := (hI380 46 (by decide) : cp46 (wget w379 46))
          obtain ⟨g47_436, h47_437, hb438⟩ := (hI380 47 (by decide) : cpI 320 22 4294967295 (wget w379 47))
          have h47_437 : xRow w379 47 320 22 g47_436 := h47_437
          refine xg_cVv mX5_put (vs := [(0, 4294967295), (0, 0), (0, li)]) (rest := []) (cn1 := 0) (sl1 := 0) rfl (rputI (lim := 64) (wd := 5) (B := 4294967295) h46_435 h47_437 (hb438) (by decide) (by omega) (by decide) (by decide) (by omega) (by omega) (by omega)) rfl h46_435 rfl rfl rfl rfl rfl rfl (fun w439 hq440 => ?_)
          obtain ⟨g441, hr442, hb443, hb444⟩ := hq440
          refine xg_t (xg_aload (va := (2, 43)) rfl rfl) ?_
          refine xg_t (xg_getf (va := (2, 46)) (hb444.get (by decide) (hF381.get (by decide) h43_5)) rfl) ?_
          refine xg_t (xg_iload (va := (0, 4294967295)) rfl rfl) ?_
          refine xg_t (xg_const) ?_
          refine xg_t (xg_iload (va := (0, 0)) rfl rfl) ?_
          refine xg_t (xg_ifT (u := 0) rfl xnm0 (by decide)) ?_
          refine xg_t (xg_blk (b := [(190, 1, 3, 0, 0, 0)]) rfl) ?_
          refine xg_t (xg_const) ?_
          refine xg_t (xg_blk (b := [(191, 3, 13, 290, 40, 118), (194, 1, 0, 0, 0, 0), (195, 3, 1, 6, 3, 20), (198, 2, 2, 6, 0, 0), (200, 1, 3, 2, 0, 0), (201, 1, 2, 3, 0, 0), (202, 3, 13, 290, 40, 118), (205, 1, 0, 0, 0, 0), (206, 3, 1, 6, 3, 20), (209, 2, 2, 6, 0, 0), (211, 1, 3, 3, 0, 0), (212, 2, 2, 4, 0, 0), (214, 3, 13, 290, 40, 118), (217, 1, 0, 0, 0, 0), (218, 3, 1, 6, 3, 20), (221, 2, 2, 6, 0, 0), (223, 1, 3, 4, 0, 0), (224, 2, 2, 5, 0, 0), (226, 3, 13, 290, 40, 118), (229, 1, 3, 1, 0, 0), (230, 1, 12, 0, 1, 0)]) rfl) ?_
          refine xg_cVv mX5_put (vs := [(0, 4294967295), (0, 1), (0, 0)]) (rest := []) (cn1 := 0) (sl1 := 0) rfl (rputI (lim := 64) (wd := 5) (B := 4294967295) (hb444.get (by decide) h46_435) hr442 (hb443) (by decide) (by omega) (by decide) (by decide) (by omega) (by omega) (by omega)) rfl (hb444.get (by decide) h46_435) rfl rfl rfl rfl rfl rfl (fun w445 hq446 => ?_)
          obtain ⟨g447, hr448, hb449, hb450⟩ := hq446
          refine xg_t (xg_aload (va := (2, 43)) rfl rfl) ?_
          refine xg_t (xg_getf (va := (2, 46)) (hb450.get (by decide) (hb444.get (by decide) (hF381.get (by decide) h43_5))) rfl) ?_
          refine xg_t (xg_iload (va := (0, 4294967295)) rfl rfl) ?_
          refine xg_t (xg_const) ?_
          refine xg_t (xg_iload (va := (0, ms)) rfl rfl) ?_
          refine xg_cVv mX5_put (vs := [(0, 4294967295), (0, 2), (0, ms)]) (rest := []) (cn1 := 0) (sl1 := 0) rfl (rputI (lim := 64) (wd := 5) (B := 4294967295) (hb450.get (by decide) (hb444.get (by decide) h46_435)) hr448 (hb449) (by decide) (by omega) (by decide) (by decide) (by omega) (by omega) (by omega)) rfl (hb450.get (by decide) (hb444.get (by decide) h46_435)) rfl rfl rfl rfl rfl rfl (fun w451 hq452 => ?_)
          obtain ⟨g453, hr454, hb455, hb456⟩ := hq452
          refine xg_t (xg_aload (va := (2, 43)) rfl rfl) ?_
          refine xg_t (xg_getf (va := (2, 46)) (hb456.get (by decide) (hb450.get (by decide) (hb444.get (by decide) (hF381.get (by decide) h43_5)))) rfl) ?_
          refine xg_t (xg_iload (va := (0, 4294967295)) rfl rfl) ?_
          refine xg_t (xg_const) ?_
          refine xg_t (xg_iload (va := (0, sg)) rfl rfl) ?_
          refine xg_cVv mX5_put (vs := [(0, 4294967295), (0, 3), (0, sg)]) (rest := []) (cn1 := 0) (sl1 := 0) rfl (rputI (lim := 64) (wd := 5) (B := 4294967295) (hb456.get (by decide) (hb450.get (by decide) (hb444.get (by decide) h46_435))) hr454 (hb455) (by decide) (by omega) (by decide) (by decide) (by omega) (by omega) (by omega)) rfl (hb456.get (by decide) (hb450.get (by decide) (hb444.get (by decide) h46_435))) rfl rfl rfl rfl rfl rfl (fun w457 hq458 => ?_)
          obtain ⟨g459, hr460, hb461, hb462⟩ := hq458
          refine xg_t (xg_aload (va := (2, 43)) rfl rfl) ?_
          refine xg_t (xg_getf (va := (2, 46)) (hb462.get (by decide) (hb456.get (by decide) (hb450.get (by decide) (hb444.get (by decide) (hF381.get (by decide) h43_5))))) rfl) ?_
          refine xg_t (xg_iload (va := (0, 4294967295)) rfl rfl) ?_
          refine xg_t (xg_const) ?_
          refine xg_t (xg_iload (va := (0, bo)) rfl rfl) ?_
          refine xg_cVv mX5_put (vs := [(0, 4294967295), (0, 4), (0, bo)]) (rest := []) (cn1 := 0) (sl1 := 0) rfl (rputI (lim := 64) (wd := 5) (B := 4294967295) (hb462.get (by decide) (hb456.get (by decide) (hb450.get (by decide) (hb444.get (by decide) h46_435)))) hr460 (hb461) (by decide) (by omega) (by decide) (by decide) (by omega) (by omega) (by omega)) rfl (hb462.get (by decide) (hb456.get (by decide) (hb450.get (by decide) (hb444.get (by decide) h46_435)))) rfl rfl rfl rfl rfl rfl (fun w463 hq464 => ?_)
          obtain ⟨g465, hr466, hb467, hb468⟩ := hq464
          refine xg_t (xg_const) ?_
          exact xg_e ⟨1, w463, ⟨rfl, rfl⟩, ⟨Or.inl ⟨rfl, he386⟩, (he387.fr ((hb468.1 48 (by decide)).trans ((hb462.1 48 (by decide)).trans ((hb456.1 48 (by decide)).trans ((hb450.1 48 (by decide)).trans (hb444.1 48 (by decide)))))))⟩, xInv.up (S := [47]) hI380 (((((xFr.of (S := [47]) hb444 (by decide)).tr (xFr.of (S := [47]) hb450 (by decide))).tr (xFr.of (S := [47]) hb456 (by decide))).tr (xFr.of (S := [47]) hb462 (by decide))).tr (xFr.of (S := [47]) hb468 (by decide))) (List.forall_mem_cons.mpr ⟨(show cpI 320 22 4294967295 (wget w463 47) from ⟨_, hr466, hb467⟩), fun _ h => absurd h List.not_mem_nil⟩), (hF381.tr (((((xFr.of (S := [46, 47, 48]) hb444 (by decide)).tr (xFr.of (S := [46, 47, 48]) hb450 (by decide))).tr (xFr.of (S := [46, 47, 48]) hb456 (by decide))).tr (xFr.of (S := [46, 47, 48]) hb462 (by decide))).tr (xFr.of (S := [46, 47, 48]) hb468 (by decide))))⟩
      refine xg_t (xg_istore (l1 := [(3, (0, n361)), (2, (0, 0)), (0, (2, 43)), (1, (0, li))]) rfl rfl rfl) ?_
      refine xg_t (xg_const) ?_
      refine xg_t (xg_istore (l1 := [(4, (0, 62)), (3, (0, n361)), (2, (0, 0)), (0, (2, 43)), (1, (0, li))]) rfl rfl rfl) ?_
      refine xg_t (xg_iload (va := (0, n361)) rfl rfl) ?_
      by_cases hc469 : n361 = 0
      · refine xg_t (xg_ifT (u := n361) rfl xnm0 (xj_eqT hc469)) ?_
        refine xg_t (xg_drop (l1 := [(0, (2, 43)), (1, (0, li)), (2, (0, 0)), (3, (0, n361)), (4, (0, 62)), (5, (0, 0))]) (List.forall_mem_cons.mpr ⟨List.mem_cons_of_mem _ (List.mem_cons_of_mem _ (List.mem_cons_of_mem _ (List.mem_cons_of_mem _ (List.mem_cons_self)))), List.forall_mem_cons.mpr ⟨List.mem_cons_of_mem _ (List.mem_cons_of_mem _ (List.mem_cons_of_mem _ (List.mem_cons_of_mem _ (List.mem_cons_of_mem _ (List.mem_cons_self))))), List.forall_mem_cons.mpr ⟨List.mem_cons_of_mem _ (List.mem_cons_of_mem _ (List.mem_cons_of_mem _ (List.mem_cons_self))), List.forall_mem_cons.mpr ⟨List.mem_cons_of_mem _ (List.mem_cons_of_mem _ (List.mem_cons_self)), List.forall_mem_cons.mpr ⟨List.mem_cons_of_mem _ (List.mem_cons_self), List.forall_mem_cons.mpr ⟨List.mem_cons_self, fun _ h => absurd h List.not_mem_nil⟩⟩⟩⟩⟩⟩)) ?_
        have hr470 : rtR B nn p = (true, p_376) := by
          unfold rtR
          rw [(rt1_n (fun z => hk30 (wixR_52.mp z))), hp377]
          exact rt2_1 hm363 (by omega)
        exact jn378 n361 62 0 w371 (by omega) (by omega) (by omega) (hI373) ((((hF27.up (by decide)).tr (hF360.up (by decide))).tr (hF374.up (by decide)))) (⟨congrArg Prod.fst hr470, by rw [hr470]; exact hx375⟩)
      · refine xg_t (xg_ifF (u := n361) rfl xnm0 (xj_eqF hc469)) ?_
        refine xg_t (xg_iload (va := (0, n361)) rfl rfl) ?_
        refine xg_t (xg_const) ?_
        by_cases hc471 : n361 = 1
        · refine xg_t (xg_icT (u := n361) (v := 1) rfl xnm0 xnm0 (xj_eqT hc471)) ?_
          refine xg_t (xg_drop (l1 := [(0, (2, 43)), (1, (0, li)), (2, (0, 0)), (3, (0, n361)), (4, (0, 62)), (5, (0, 0))]) (List.forall_mem_cons.mpr ⟨List.mem_cons_of_mem _ (List.mem_cons_of_mem _ (List.mem_cons_of_mem _ (List.mem_cons_of_mem _ (List.mem_cons_self)))), List.forall_mem_cons.mpr ⟨List.mem_cons_of_mem _ (List.mem_cons_of_mem _ (List.mem_cons_of_mem _ (List.mem_cons_of_mem _ (List.mem_cons_of_mem _ (List.mem_cons_self))))), List.forall_mem_cons.mpr ⟨List.mem_cons_of_mem _ (List.mem_cons_of_mem _ (List.mem_cons_of_mem _ (List.mem_cons_self))), List.forall_mem_cons.mpr ⟨List.mem_cons_of_mem _ (List.mem_cons_of_mem _ (List.mem_cons_self)), List.forall_mem_cons.mpr ⟨List.mem_cons_of_mem _ (List.mem_cons_self), List.forall_mem_cons.mpr ⟨List.mem_cons_self, fun _ h => absurd h List.not_mem_nil⟩⟩⟩⟩⟩⟩)) ?_
          have hr472 : rtR B nn p = (true, p_376) := by
            unfold rtR
            rw [(rt1_n (fun z => hk30 (wixR_52.mp z))), hp377]
            exact rt2_1 hm363 (by omega)
          exact jn378 n361 62 0 w371 (by omega) (by omega) (by omega) (hI373) ((((hF27.up (by decide)).tr (hF360.up (by decide))).tr (hF374.up (by decide)))) (⟨congrArg Prod.fst hr472, by rw [hr472]; exact hx375⟩)
        · refine xg_t (xg_icF (u := n361) (v := 1) rfl xnm0 xnm0 (xj_eqF hc471)) ?_
          refine xg_t (xg_aload (va := (2, 43)) rfl rfl) ?_
          refine xg_t (xg_getf (va := (2, 48)) (hF374.get (by decide) (hF360.get (by decide) (hF27.get (by decide) h43_5))) rfl) ?_
          refine xg_t (xg_bip) ?_
          obtain ⟨f48_473, f48_475, f48_477, f48_479, f48_481, h48_483, hb474, hb476, hb478, hb480, hb482, hb484⟩ := (hI373 48 (by decide) : cp48 (wget w371 48))
          refine xg_cVi mX8_isSign (vs := [(0, 60)]) (rest := []) (cn1 := 0) (sl1 := 0) rfl (tkSigX48 (hI373) (by omega) (hB.fr ((hF374.1 2 (by decide)).trans ((hF360.1 2 (by decide)).trans (hF27.1 2 (by decide))))) hx375) rfl h48_483 rfl rfl rfl rfl rfl rfl (fun n489 w485 hq486 => ?_)
          obtain ⟨hn490, hI487, hF488⟩ := hq486
          rcases hn490 with ⟨rfl, hk491⟩ | ⟨rfl, hk491⟩
          · refine xg_t (xg_ifF (u := 1) rfl xnm0 (by decide)) ?_
            refine xg_t (xg_bip) ?_
            refine xg_t (xg_goto) ?_
            refine xg_t (xg_blk (b := [(92, 2, 15, 4, 0, 0), (94, 1, 0, 0, 0, 0), (95, 3, 1, 6, 1, 38), (98, 2, 2, 4, 0, 0), (100, 3, 13, 316, 64, 114), (103, 3, 7, 108, 1, 0), (106, 1, 3, 0, 0, 0), (107, 1, 12, 0, 1, 0)]) rfl) ?_
            refine xg_t (xg_istore (l1 := [(5, (0, 0)), (3, (0, n361)), (2, (0, 0)), (0, (2, 43)), (1, (0, li))]) rfl rfl rfl) ?_
            refine xg_t (xg_aload (va := (2, 43)) rfl rfl) ?_
            refine xg_t (xg_getf (va := (2, 48)) (hF488.get (by decide) (hF374.get (by decide) (hF360.get (by decide) (hF27.get (by decide) h43_5)))) rfl) ?_
            refine xg_t (xg_iload (va := (0, 60)) rfl rfl) ?_
            refine xg_cVi mX8_isSign (vs := [(0, 60)]) (rest := []) (cn1 := 0) (sl1 := 0) rfl (tkSigX48 (hI487) (by omega) (hB.fr ((hF488.1 2 (by decide)).trans ((hF374.1 2 (by decide)).trans ((hF360.1 2 (by decide)).trans (hF27.1 2 (by decide)))))) (hx375.fr (hF488.1 48 (by decide)))) rfl (hF488.get (by decide) h48_483) rfl rfl rfl rfl rfl rfl (fun n496 w492 hq493 => ?_)
            obtain ⟨hn497, hI494, hF495⟩ := hq493
            rcases hn497 with ⟨rfl, hk498⟩ | ⟨rfl, hk498⟩
            · refine xg_t (xg_ifT (u := 1) rfl xnm0 (by decide)) ?_
              refine xg_t (xg_blk (b := [(108, 1, 0, 0, 0, 0), (109, 3, 1, 6, 1, 38), (112, 3, 13, 312, 64, 108), (115, 1, 0, 0, 0, 0), (116, 3, 1, 6, 1, 38), (119, 3, 1, 8, 2, 56), (122, 1, 3, 2, 0, 0), (123, 3, 6, 128, 0, 0), (126, 1, 3, 0, 0, 0), (127, 1, 12, 0, 1, 0)]) rfl) ?_
              refine xg_t (xg_aload (va := (2, 43)) rfl rfl) ?_
              refine xg_t (xg_getf (va := (2, 48)) (hF495.get (by decide) (hF488.get (by decide) (hF374.get (by decide) (hF360.get (by decide) (hF27.get (by decide) h43_5))))) rfl) ?_
              obtain ⟨⟨ht499, -, -, ht500, ht501⟩, -⟩ := id (hx375.fr ((hF495.1 48 (by decide)).trans (hF488.1 48 (by decide))))
              refine xg_cVv mX8_advance (vs := []) (rest := []) (cn1 := 0) (sl1 := 0) rfl (tkAdvX48 (hI494) (hB.fr ((hF495.1 2 (by decide)).trans ((hF488.1 2 (by decide)).trans ((hF374.1 2 (by decide)).trans ((hF360.1 2 (by decide)).trans (hF27.1 2 (by decide))))))) ht499 (by rw [ht500]; exact tf_le ht501)) rfl (hF495.get (by decide) (hF488.get (by decide) h48_483)) rfl rfl rfl rfl rfl rfl (fun w502 hq503 => ?_)
              obtain ⟨hI504, hF505, hx506⟩ := hq503
              rw [ht500] at hx506
              clear ht499 ht500 ht501
              obtain ⟨p_507, hp508⟩ : ∃ x, x = tf B nn p_376 := ⟨_, rfl⟩
              rw [← hp508] at hx506
              obtain ⟨⟨ht509, ht510, ht511, ht512, ht513⟩, ht514⟩ := id hx506
              obtain ⟨f48_515, f48_517, f48_519, f48_521, f48_523, h48_525, hb516, hb518, hb520, hb522, hb524, hb526⟩ := (hI504 48 (by decide) : cp48 (wget w502 48))
              have hq527 : fld w502 48 1 = f48_515 := fld_of h48_525
              have hq528 : fld w502 48 2 = f48_517 := fld_of h48_525
              have hq529 : fld w502 48 3 = f48_519 := fld_of h48_525
              have hq530 : fld w502 48 4 = f48_521 := fld_of h48_525
              have hq531 : fld w502 48 5 = f48_523 := fld_of h48_525
              refine xg_t (xg_aload (va := (2, 43)) rfl rfl) ?_
              refine xg_t (xg_getf (va := (2, 48)) (hF505.get (by decide) (hF495.get (by decide) (hF488.get (by decide) (hF374.get (by decide) (hF360.get (by decide) (hF27.get (by decide) h43_5)))))) rfl) ?_
              refine xg_t (xg_getf (va := (0, f48_517)) h48_525 rfl) ?_
              refine xg_t (xg_const) ?_
              by_cases hc532 : f48_517 = 2
              · refine xg_t (xg_icT (u := f48_517) (v := 2) rfl xnm0 xnm0 (xj_eqT hc532)) ?_
                refine xg_t (xg_blk (b := [(128, 1, 0, 0, 0, 0), (129, 3, 1, 6, 1, 38), (132, 3, 1, 8, 5, 111), (135, 2, 15, 5, 0, 0), (137, 1, 0, 0, 0, 0), (138, 3, 1, 6, 1, 38), (141, 3, 13, 312, 64, 108)]) rfl) ?_
                refine xg_t (xg_aload (va := (2, 43)) rfl rfl) ?_
                refine xg_t (xg_getf (va := (2, 48)) (hF505.get (by decide) (hF495.get (by decide) (hF488.get (by decide) (hF374.get (by decide) (hF360.get (by decide) (hF27.get (by decide) h43_5)))))) rfl) ?_
                refine xg_t (xg_getf (va := (0, f48_523)) h48_525 rfl) ?_
                refine xg_t (xg_istore (l1 := [(4, (0, 60)), (3, (0, n361)), (2, (0, 0)), (0, (2, 43)), (1, (0, li))]) rfl rfl rfl) ?_
                refine xg_t (xg_aload (va := (2, 43)) rfl rfl) ?_
                refine xg_t (xg_getf (va := (2, 48)) (hF505.get (by decide) (hF495.get (by decide) (hF488.get (by decide) (hF374.get (by decide) (hF360.get (by decide) (hF27.get (by decide) h43_5)))))) rfl) ?_
                obtain ⟨⟨ht533, -, -, ht534, ht535⟩, -⟩ := id hx506
                refine xg_cVv mX8_advance (vs := []) (rest := []) (cn1 := 0) (sl1 := 0) rfl (tkAdvX48 (hI504) (hB.fr ((hF505.1 2 (by decide)).trans ((hF495.1 2 (by decide)).trans ((hF488.1 2 (by decide)).trans ((hF374.1 2 (by decide)).trans ((hF360.1 2 (by decide)).trans (hF27.1 2 (by decide)))))))) ht533 (by rw [ht534]; exact tf_le ht535)) rfl h48_525 rfl rfl rfl rfl rfl rfl (fun w536 hq537 => ?_)
                obtain ⟨hI538, hF539, hx540⟩ := hq537
                rw [ht534] at hx540
                clear ht533 ht534 ht535
                obtain ⟨p_541, hp542⟩ : ∃ x, x = tf B nn p_507 := ⟨_, rfl⟩
                rw [← hp542] at hx540
                refine xg_t (xg_drop (l1 := [(0, (2, 43)), (1, (0, li)), (2, (0, 0)), (3, (0, n361)), (4, (0, 60)), (5, (0, f48_523))]) (List.forall_mem_cons.mpr ⟨List.mem_cons_of_mem _ (List.mem_cons_of_mem _ (List.mem_cons_of_mem _ (List.mem_cons_of_mem _ (List.mem_cons_self)))), List.forall_mem_cons.mpr ⟨List.mem_cons_of_mem _ (List.mem_cons_of_mem _ (List.mem_cons_of_mem _ (List.mem_cons_of_mem _ (List.mem_cons_of_mem _ (List.mem_cons_self))))), List.forall_mem_cons.mpr ⟨List.mem_cons_of_mem _ (List.mem_cons_of_mem _ (List.mem_cons_of_mem _ (List.mem_cons_self))), List.forall_mem_cons.mpr ⟨List.mem_cons_of_mem _ (List.mem_cons_of_mem _ (List.mem_cons_self)), List.forall_mem_cons.mpr ⟨List.mem_cons_of_mem _ (List.mem_cons_self), List.forall_mem_cons.mpr ⟨List.mem_cons_self, fun _ h => absurd h List.not_mem_nil⟩⟩⟩⟩⟩⟩)) ?_
                have hr543 : rtR B nn p = (true, p_541) := by
                  have z1 := hk491.1
                  have z2 := hk491.2
                  unfold rtR
                  rw [(rt1_n (fun z => hk30 (wixR_52.mp z))), rt2_4 (by omega) hm364 (by rw [← hp377]; omega) (by rw [← hp377, ← hp508]; omega), ← hp377, ← hp508, ← hp542]
                exact jn378 n361 60 f48_523 w536 (by omega) (by omega) (by omega) (hI538) ((((((((hF27.up (by decide)).tr (hF360.up (by decide))).tr (hF374.up (by decide))).tr (hF488.up (by decide))).tr (hF495.up (by decide))).tr (hF505.up (by decide))).tr (hF539.up (by decide)))) (⟨congrArg Prod.fst hr543, by rw [hr543]; exact hx540⟩)
              · refine xg_t (xg_icF (u := f48_517) (v := 2) rfl xnm0 xnm0 (xj_eqF hc532)) ?_
                refine xg_t (xg_const) ?_
                have hr544 : rtR B nn p = (false, p_507) := by
                  have z1 := hk491.1
                  have z2 := hk491.2
                  unfold rtR
                  rw [(rt1_n (fun z => hk30 (wixR_52.mp z))), rt2_3 (by omega) hm364 (by rw [← hp377]; omega) (by rw [← hp377, ← hp508]; omega), ← hp377, ← hp508]
                exact xg_e ⟨0, w502, ⟨rfl, rfl⟩, ⟨Or.inr ⟨rfl, congrArg Prod.fst hr544⟩, by rw [hr544]; exact hx506⟩, hI504, ((((((hF27.up (by decide)).tr (hF360.up (by decide))).tr (hF374.up (by decide))).tr (hF488.up (by decide))).tr (hF495.up (by decide))).tr (hF505.up (by decide)))⟩
            · exact absurd hk491 hk498
          · refine xg_t (xg_ifT (u := 0) rfl xnm0 (by decide)) ?_
            refine xg_t (xg_blk (b := [(73, 1, 0, 0, 0, 0), (74, 3, 1, 6, 1, 38), (77, 2, 4, 61, 0, 0), (79, 3, 13, 316, 64, 114), (82, 3, 7, 90, 0, 0), (85, 2, 4, 61, 0, 0), (87, 3, 8, 92, 0, 0)]) rfl) ?_
            refine xg_t (xg_aload (va := (2, 43)) rfl rfl) ?_
            refine xg_t (xg_getf (va := (2, 48)) (hF488.get (by decide) (hF374.get (by decide) (hF360.get (by decide) (hF27.get (by decide) h43_5)))) rfl) ?_
            refine xg_t (xg_bip) ?_
            refine xg_cVi mX8_isSign (vs := [(0, 61)]) (rest := []) (cn1 := 0) (sl1 := 0) rfl (tkSigX48 (hI487) (by omega) (hB.fr ((hF488.1 2 (by decide)).trans ((hF374.1 2 (by decide)).trans ((hF360.1 2 (by decide)).trans (hF27.1 2 (by decide)))))) (hx375.fr (hF488.1 48 (by decide)))) rfl (hF488.get (by decide) h48_483) rfl rfl rfl rfl rfl rfl (fun n549 w545 hq546 => ?_)
            obtain ⟨hn550, hI547, hF548⟩ := hq546
            rcases hn550 with ⟨rfl, hk551⟩ | ⟨rfl, hk551⟩
            · refine xg_t (xg_ifF (u := 1) rfl xnm0 (by decide)) ?_
              refine xg_t (xg_bip) ?_
              refine xg_t (xg_goto) ?_
              refine xg_t (xg_blk (b := [(92, 2, 15, 4, 0, 0), (94, 1, 0, 0, 0, 0), (95, 3, 1, 6, 1, 38), (98, 2, 2, 4, 0, 0), (100, 3, 13, 316, 64, 114), (103, 3, 7, 108, 1, 0), (106, 1, 3, 0, 0, 0), (107, 1, 12, 0, 1, 0)]) rfl) ?_
              refine xg_t (xg_istore (l1 := [(5, (0, 0)), (3, (0, n361)), (2, (0, 0)), (0, (2, 43)), (1, (0, li))]) rfl rfl rfl) ?_
              refine xg_t (xg_aload (va := (2, 43)) rfl rfl) ?_
              refine xg_t (xg_getf (va := (2, 48)) (hF548.get (by decide) (hF488.get (by decide) (hF374.get (by decide) (hF360.get (by decide) (hF27.get (by decide) h43_5))))) rfl) ?_
              refine xg_t (xg_iload (va := (0, 61)) rfl rfl) ?_
              refine xg_cVi mX8_isSign (vs := [(0, 61)]) (rest := []) (cn1 := 0) (sl1 := 0) rfl (tkSigX48 (hI547) (by omega) (hB.fr ((hF548.1 2 (by decide)).trans ((hF488.1 2 (by decide)).trans ((hF374.1 2 (by decide)).trans ((hF360.1 2 (by decide)).trans (hF27.1 2 (by decide))))))) (hx375.fr ((hF548.1 48 (by decide)).trans (hF488.1 48 (by decide))))) rfl (hF548.get (by decide) (hF488.get (by decide) h48_483)) rfl rfl rfl rfl rfl rfl (fun n556 w552 hq553 => ?_)
              obtain ⟨hn557, hI554, hF555⟩ := hq553
              rcases hn557 with ⟨rfl, hk558⟩ | ⟨rfl, hk558⟩
              · refine xg_t (xg_ifT (u := 1) rfl xnm0 (by decide)) ?_
                refine xg_t (xg_blk (b := [(108, 1, 0, 0, 0, 0), (109, 3, 1, 6, 1, 38), (112, 3, 13, 312, 64, 108), (115, 1, 0, 0, 0, 0), (116, 3, 1, 6, 1, 38), (119, 3, 1, 8, 2, 56), (122, 1, 3, 2, 0, 0), (123, 3, 6, 128, 0, 0), (126, 1, 3, 0, 0, 0), (127, 1, 12, 0, 1, 0)]) rfl) ?_
                refine xg_t (xg_aload (va := (2, 43)) rfl rfl) ?_
                refine xg_t (xg_getf (va := (2, 48)) (hF555.get (by decide) (hF548.get (by decide) (hF488.get (by decide) (hF374.get (by decide) (hF360.get (by decide) (hF27.get (by decide) h43_5)))))) rfl) ?_
                obtain ⟨⟨ht559, -, -, ht560, ht561⟩, -⟩ := id (hx375.fr ((hF555.1 48 (by decide)).trans ((hF548.1 48 (by decide)).trans (hF488.1 48 (by decide)))))
                refine xg_cVv mX8_advance (vs := []) (rest := []) (cn1 := 0) (sl1 := 0) rfl (tkAdvX48 (hI554) (hB.fr ((hF555.1 2 (by decide)).trans ((hF548.1 2 (by decide)).trans ((hF488.1 2 (by decide)).trans ((hF374.1 2 (by decide)).trans ((hF360.1 2 (by decide)).trans (hF27.1 2 (by decide)))))))) ht559 (by rw [ht560]; exact tf_le ht561)) rfl (hF555.get (by decide) (hF548.get (by decide) (hF488.get (by decide) h48_483))) rfl rfl rfl rfl rfl rfl (fun w562 hq563 => ?_)
                obtain ⟨hI564, hF565, hx566⟩ := hq563
                rw [ht560] at hx566
                clear ht559 ht560 ht561
                obtain ⟨p_567, hp568⟩ : ∃ x, x = tf B nn p_376 := ⟨_, rfl⟩
                rw [← hp568] at hx566
                obtain ⟨⟨ht569, ht570, ht571, ht572, ht573⟩, ht574⟩ := id hx566
                obtain ⟨f48_575, f48_577, f48_579, f48_581, f48_583, h48_585, hb576, hb578, hb580, hb582, hb584, hb586⟩ := (hI564 48 (by decide) : cp48 (wget w562 48))
                have hq587 : fld w562 48 1 = f48_575 := fld_of h48_585
                have hq588 : fld w562 48 2 = f48_577 := fld_of h48_585
                have hq589 : fld w562 48 3 = f48_579 := fld_of h48_585
                have hq590 : fld w562 48 4 = f48_581 := fld_of h48_585
                have hq591 : fld w562 48 5 = f48_583 := fld_of h48_585
                refine xg_t (xg_aload (va := (2, 43)) rfl rfl) ?_
                refine xg_t (xg_getf (va := (2, 48)) (hF565.get (by decide) (hF555.get (by decide) (hF548.get (by decide) (hF488.get (by decide) (hF374.get (by decide) (hF360.get (by decide) (hF27.get (by decide) h43_5))))))) rfl) ?_
                refine xg_t (xg_getf (va := (0, f48_577)) h48_585 rfl) ?_
                refine xg_t (xg_const) ?_
                by_cases hc592 : f48_577 = 2
                · refine xg_t (xg_icT (u := f48_577) (v := 2) rfl xnm0 xnm0 (xj_eqT hc592)) ?_
                  refine xg_t (xg_blk (b := [(128, 1, 0, 0, 0, 0), (129, 3, 1, 6, 1, 38), (132, 3, 1, 8, 5, 111), (135, 2, 15, 5, 0, 0), (137, 1, 0, 0, 0, 0), (138, 3, 1, 6, 1, 38), (141, 3, 13, 312, 64, 108)]) rfl) ?_
                  refine xg_t (xg_aload (va := (2, 43)) rfl rfl) ?_
                  refine xg_t (xg_getf (va := (2, 48)) (hF565.get (by decide) (hF555.get (by decide) (hF548.get (by decide) (hF488.get (by decide) (hF374.get (by decide) (hF360.get (by decide) (hF27.get (by decide) h43_5))))))) rfl) ?_
                  refine xg_t (xg_getf (va := (0, f48_583)) h48_585 rfl) ?_
                  refine xg_t (xg_istore (l1 := [(4, (0, 61)), (3, (0, n361)), (2, (0, 0)), (0, (2, 43)), (1, (0, li))]) rfl rfl rfl) ?_
                  refine xg_t (xg_aload (va := (2, 43)) rfl rfl) ?_
                  refine xg_t (xg_getf (va := (2, 48)) (hF565.get (by decide) (hF555.get (by decide) (hF548.get (by decide) (hF488.get (by decide) (hF374.get (by decide) (hF360.get (by decide) (hF27.get (by decide) h43_5))))))) rfl) ?_
                  obtain ⟨⟨ht593, -, -, ht594, ht595⟩, -⟩ := id hx566
                  refine xg_cVv mX8_advance (vs := []) (rest := []) (cn1 := 0) (sl1 := 0) rfl (tkAdvX48 (hI564) (hB.fr ((hF565.1 2 (by decide)).trans ((hF555.1 2 (by decide)).trans ((hF548.1 2 (by decide)).trans ((hF488.1 2 (by decide)).trans ((hF374.1 2 (by decide)).trans ((hF360.1 2 (by decide)).trans (hF27.1 2 (by decide))))))))) ht593 (by rw [ht594]; exact tf_le ht595)) rfl h48_585 rfl rfl rfl rfl rfl rfl (fun w596 hq597 => ?_)
                  obtain ⟨hI598, hF599, hx600⟩ := hq597
                  rw [ht594] at hx600
                  clear ht593 ht594 ht595
                  obtain ⟨p_601, hp602⟩ : ∃ x, x = tf B nn p_567 := ⟨_, rfl⟩
                  rw [← hp602] at hx600
                  refine xg_t (xg_drop (l1 := [(0, (2, 43)), (1, (0, li)), (2, (0, 0)), (3, (0, n361)), (4, (0, 61)), (5, (0, f48_583))]) (List.forall_mem_cons.mpr ⟨List.mem_cons_of_mem _ (List.mem_cons_of_mem _ (List.mem_cons_of_mem _ (List.mem_cons_of_mem _ (List.mem_cons_self)))), List.forall_mem_cons.mpr ⟨List.mem_cons_of_mem _ (List.mem_cons_of_mem _ (List.mem_cons_of_mem _ (List.mem_cons_of_mem _ (List.mem_cons_of_mem _ (List.mem_cons_self))))), List.forall_mem_cons.mpr ⟨List.mem_cons_of_mem _ (List.mem_cons_of_mem _ (List.mem_cons_of_mem _ (List.mem_cons_self))), List.forall_mem_cons.mpr ⟨List.mem_cons_of_mem _ (List.mem_cons_of_mem _ (List.mem_cons_self)), List.forall_mem_cons.mpr ⟨List.mem_cons_of_mem _ (List.mem_cons_self), List.forall_mem_cons.mpr ⟨List.mem_cons_self, fun _ h => absurd h List.not_mem_nil⟩⟩⟩⟩⟩⟩)) ?_
                  have hr603 : rtR B nn p = (true, p_601) := by
                    have z1 := hk551.1
                    have z2 := hk551.2
                    unfold rtR
                    rw [(rt1_n (fun z => hk30 (wixR_52.mp z))), rt2_4 (by omega) hm364 (by rw [← hp377]; omega) (by rw [← hp377, ← hp568]; omega), ← hp377, ← hp568, ← hp602]
                  exact jn378 n361 61 f48_583 w596 (by omega) (by omega) (by omega) (hI598) (((((((((hF27.up (by decide)).tr (hF360.up (by decide))).tr (hF374.up (by decide))).tr (hF488.up (by decide))).tr (hF548.up (by decide))).tr (hF555.up (by decide))).tr (hF565.up (by decide))).tr (hF599.up (by decide)))) (⟨congrArg Prod.fst hr603, by rw [hr603]; exact hx600⟩)
                · refine xg_t (xg_icF (u := f48_577) (v := 2) rfl xnm0 xnm0 (xj_eqF hc592)) ?_
                  refine xg_t (xg_const) ?_
                  have hr604 : rtR B nn p = (false, p_567) := by
                    have z1 := hk551.1
                    have z2 := hk551.2
                    unfold rtR
                    rw [(rt1_n (fun z => hk30 (wixR_52.mp z))), rt2_3 (by omega) hm364 (by rw [← hp377]; omega) (by rw [← hp377, ← hp568]; omega), ← hp377, ← hp568]
                  exact xg_e ⟨0, w562, ⟨rfl, rfl⟩, ⟨Or.inr ⟨rfl, congrArg Prod.fst hr604⟩, by rw [hr604]; exact hx566⟩, hI564, (((((((hF27.up (by decide)).tr (hF360.up (by decide))).tr (hF374.up (by decide))).tr (hF488.up (by decide))).tr (hF548.up (by decide))).tr (hF555.up (by decide))).tr (hF565.up (by decide)))⟩
              · exact absurd hk551 hk558
            · refine xg_t (xg_ifT (u := 0) rfl xnm0 (by decide)) ?_
              refine xg_t (xg_blk (b := [(90, 2, 4, 62, 0, 0)]) rfl) ?_
              refine xg_t (xg_bip) ?_
              refine xg_t (xg_blk (b := [(92, 2, 15, 4, 0, 0), (94, 1, 0, 0, 0, 0), (95, 3, 1, 6, 1, 38), (98, 2, 2, 4, 0, 0), (100, 3, 13, 316, 64, 114), (103, 3, 7, 108, 1, 0), (106, 1, 3, 0, 0, 0), (107, 1, 12, 0, 1, 0)]) rfl) ?_
              refine xg_t (xg_istore (l1 := [(5, (0, 0)), (3, (0, n361)), (2, (0, 0)), (0, (2, 43)), (1, (0, li))]) rfl rfl rfl) ?_
              refine xg_t (xg_aload (va := (2, 43)) rfl rfl) ?_
              refine xg_t (xg_getf (va := (2, 48)) (hF548.get (by decide) (hF488.get (by decide) (hF374.get (by decide) (hF360.get (by decide) (hF27.get (by decide) h43_5))))) rfl) ?_
              refine xg_t (xg_iload (va := (0, 62)) rfl rfl) ?_
              refine xg_cVi mX8_isSign (vs := [(0, 62)]) (rest := []) (cn1 := 0) (sl1 := 0) rfl (tkSigX48 (hI547) (by omega) (hB.fr ((hF548.1 2 (by decide)).trans ((hF488.1 2 (by decide)).trans ((hF374.1 2 (by decide)).trans ((hF360.1 2 (by decide)).trans (hF27.1 2 (by decide))))))) (hx375.fr ((hF548.1 48 (by decide)).trans (hF488.1 48 (by decide))))) rfl (hF548.get (by decide) (hF488.get (by decide) h48_483)) rfl rfl rfl rfl rfl rfl (fun n609 w605 hq606 => ?_)
              obtain ⟨hn610, hI607, hF608⟩ := hq606
              rcases hn610 with ⟨rfl, hk611⟩ | ⟨rfl, hk611⟩
              · refine xg_t (xg_ifT (u := 1) rfl xnm0 (by decide)) ?_
                refine xg_t (xg_blk (b := [(108, 1, 0, 0, 0, 0), (109, 3, 1, 6, 1, 38), (112, 3, 13, 312, 64, 108), (115, 1, 0, 0, 0, 0), (116, 3, 1, 6, 1, 38), (119, 3, 1, 8, 2, 56), (122, 1, 3, 2, 0, 0), (123, 3, 6, 128, 0, 0), (126, 1, 3, 0, 0, 0), (127, 1, 12, 0, 1, 0)]) rfl) ?_
                refine xg_t (xg_aload (va := (2, 43)) rfl rfl) ?_
                refine xg_t (xg_getf (va := (2, 48)) (hF608.get (by decide) (hF548.get (by decide) (hF488.get (by decide) (hF374.get (by decide) (hF360.get (by decide) (hF27.get (by decide) h43_5)))))) rfl) ?_
                obtain ⟨⟨ht612, -, -, ht613, ht614⟩, -⟩ := id (hx375.fr ((hF608.1 48 (by decide)).trans ((hF548.1 48 (by decide)).trans (hF488.1 48 (by decide)))))
                refine xg_cVv mX8_advance (vs := []) (rest := []) (cn1 := 0) (sl1 := 0) rfl (tkAdvX48 (hI607) (hB.fr ((hF608.1 2 (by decide)).trans ((hF548.1 2 (by decide)).trans ((hF488.1 2 (by decide)).trans ((hF374.1 2 (by decide)).trans ((hF360.1 2 (by decide)).trans (hF27.1 2 (by decide)))))))) ht612 (by rw [ht613]; exact tf_le ht614)) rfl (hF608.get (by decide) (hF548.get (by decide) (hF488.get (by decide) h48_483))) rfl rfl rfl rfl rfl rfl (fun w615 hq616 => ?_)
                obtain ⟨hI617, hF618, hx619⟩ := hq616
                rw [ht613] at hx619
                clear ht612 ht613 ht614
                obtain ⟨p_620, hp621⟩ : ∃ x, x = tf B nn p_376 := ⟨_, rfl⟩
                rw [← hp621] at hx619
                obtain ⟨⟨ht622, ht623, ht624, ht625, ht626⟩, ht627⟩ := id hx619
                obtain ⟨f48_628, f48_630, f48_632, f48_634, f48_636, h48_638, hb629, hb631, hb633, hb635, hb637, hb639⟩ := (hI617 48 (by decide) : cp48 (wget w615 48))
                have hq640 : fld w615 48 1 = f48_628 := fld_of h48_638
                have hq641 : fld w615 48 2 = f48_630 := fld_of h48_638
                have hq642 : fld w615 48 3 = f48_632 := fld_of h48_638
                have hq643 : fld w615 48 4 = f48_634 := fld_of h48_638
                have hq644 : fld w615 48 5 = f48_636 := fld_of h48_638
                refine xg_t (xg_aload (va := (2, 43)) rfl rfl) ?_
                refine xg_t (xg_getf (va := (2, 48)) (hF618.get (by decide) (hF608.get (by decide) (hF548.get (by decide) (hF488.get (by decide) (hF374.get (by decide) (hF360.get (by decide) (hF27.get (by decide) h43_5))))))) rfl) ?_
                refine xg_t (xg_getf (va := (0, f48_630)) h48_638 rfl) ?_
                refine xg_t (xg_const) ?_
                by_cases hc645 : f48_630 = 2
                · refine xg_t (xg_icT (u := f48_630) (v := 2) rfl xnm0 xnm0 (xj_eqT hc645)) ?_
                  refine xg_t (xg_blk (b := [(128, 1, 0, 0, 0, 0), (129, 3, 1, 6, 1, 38), (132, 3, 1, 8, 5, 111), (135, 2, 15, 5, 0, 0), (137, 1, 0, 0, 0, 0), (138, 3, 1, 6, 1, 38), (141, 3, 13, 312, 64, 108)]) rfl) ?_
                  refine xg_t (xg_aload (va := (2, 43)) rfl rfl) ?_
                  refine xg_t (xg_getf (va := (2, 48)) (hF618.get (by decide) (hF608.get (by decide) (hF548.get (by decide) (hF488.get (by decide) (hF374.get (by decide) (hF360.get (by decide) (hF27.get (by decide) h43_5))))))) rfl) ?_
                  refine xg_t (xg_getf (va := (0, f48_636)) h48_638 rfl) ?_
                  refine xg_t (xg_istore (l1 := [(4, (0, 62)), (3, (0, n361)), (2, (0, 0)), (0, (2, 43)), (1, (0, li))]) rfl rfl rfl) ?_
                  refine xg_t (xg_aload (va := (2, 43)) rfl rfl) ?_
                  refine xg_t (xg_getf (va := (2, 48)) (hF618.get (by decide) (hF608.get (by decide) (hF548.get (by decide) (hF488.get (by decide) (hF374.get (by decide) (hF360.get (by decide) (hF27.get (by decide) h43_5))))))) rfl) ?_
                  obtain ⟨⟨ht646, -, -, ht647, ht648⟩, -⟩ := id hx619
                  refine xg_cVv mX8_advance (vs := []) (rest := []) (cn1 := 0) (sl1 := 0) rfl (tkAdvX48 (hI617) (hB.fr ((hF618.1 2 (by decide)).trans ((hF608.1 2 (by decide)).trans ((hF548.1 2 (by decide)).trans ((hF488.1 2 (by decide)).trans ((hF374.1 2 (by decide)).trans ((hF360.1 2 (by decide)).trans (hF27.1 2 (by decide))))))))) ht646 (by rw [ht647]; exact tf_le ht648)) rfl h48_638 rfl rfl rfl rfl rfl rfl (fun w649 hq650 => ?_)
                  obtain ⟨hI651, hF652, hx653⟩ := hq650
                  rw [ht647] at hx653
                  clear ht646 ht647 ht648
                  obtain ⟨p_654, hp655⟩ : ∃ x, x = tf B nn p_620 := ⟨_, rfl⟩
                  rw [← hp655] at hx653
                  refine xg_t (xg_drop (l1 := [(0, (2, 43)), (1, (0, li)), (2, (0, 0)), (3, (0, n361)), (4, (0, 62)), (5, (0, f48_636))]) (List.forall_mem_cons.mpr ⟨List.mem_cons_of_mem _ (List.mem_cons_of_mem _ (List.mem_cons_of_mem _ (List.mem_cons_of_mem _ (List.mem_cons_self)))), List.forall_mem_cons.mpr ⟨List.mem_cons_of_mem _ (List.mem_cons_of_mem _ (List.mem_cons_of_mem _ (List.mem_cons_of_mem _ (List.mem_cons_of_mem _ (List.mem_cons_self))))), List.forall_mem_cons.mpr ⟨List.mem_cons_of_mem _ (List.mem_cons_of_mem _ (List.mem_cons_of_mem _ (List.mem_cons_self))), List.forall_mem_cons.mpr ⟨List.mem_cons_of_mem _ (List.mem_cons_of_mem _ (List.mem_cons_self)), List.forall_mem_cons.mpr ⟨List.mem_cons_of_mem _ (List.mem_cons_self), List.forall_mem_cons.mpr ⟨List.mem_cons_self, fun _ h => absurd h List.not_mem_nil⟩⟩⟩⟩⟩⟩)) ?_
                  have hr656 : rtR B nn p = (true, p_654) := by
                    have z1 := hk611.1
                    have z2 := hk611.2
                    unfold rtR
                    rw [(rt1_n (fun z => hk30 (wixR_52.mp z))), rt2_4 (by omega) hm364 (by rw [← hp377]; omega) (by rw [← hp377, ← hp621]; omega), ← hp377, ← hp621, ← hp655]
                  exact jn378 n361 62 f48_636 w649 (by omega) (by omega) (by omega) (hI651) (((((((((hF27.up (by decide)).tr (hF360.up (by decide))).tr (hF374.up (by decide))).tr (hF488.up (by decide))).tr (hF548.up (by decide))).tr (hF608.up (by decide))).tr (hF618.up (by decide))).tr (hF652.up (by decide)))) (⟨congrArg Prod.fst hr656, by rw [hr656]; exact hx653⟩)
                · refine xg_t (xg_icF (u := f48_630) (v := 2) rfl xnm0 xnm0 (xj_eqF hc645)) ?_
                  refine xg_t (xg_const) ?_
                  have hr657 : rtR B nn p = (false, p_620) := by
                    have z1 := hk611.1
                    have z2 := hk611.2
                    unfold rtR
                    rw [(rt1_n (fun z => hk30 (wixR_52.mp z))), rt2_3 (by omega) hm364 (by rw [← hp377]; omega) (by rw [← hp377, ← hp621]; omega), ← hp377, ← hp621]
                  exact xg_e ⟨0, w615, ⟨rfl, rfl⟩, ⟨Or.inr ⟨rfl, congrArg Prod.fst hr657⟩, by rw [hr657]; exact hx619⟩, hI617, (((((((hF27.up (by decide)).tr (hF360.up (by decide))).tr (hF374.up (by decide))).tr (hF488.up (by decide))).tr (hF548.up (by decide))).tr (hF608.up (by decide))).tr (hF618.up (by decide)))⟩
              · refine xg_t (xg_ifF (u := 0) rfl xnm0 (by decide)) ?_
                refine xg_t (xg_const) ?_
                have hy659 : ¬ (tkd B nn p_376 = 3 ∧ B (tq B nn p_376) ≠ 58 ∧ B (tq B nn p_376) ≠ 59) := fun z => by
                  obtain ⟨z1, z2, z3⟩ := z
                  rcases tk3_of z1 with y | y | y | y | y
                  · exact z3 y
                  · exact z2 y
                  · exact hk491 ⟨z1, y⟩
                  · exact hk611 ⟨z1, y⟩
                  · exact hk551 ⟨z1, y⟩
                have hr658 : rtR B nn p = (false, p_376) := by
                  unfold rtR
                  rw [(rt1_n (fun z => hk30 (wixR_52.mp z))), rt2_2 (by omega) hm364 (by rw [← hp377]; exact hy659), ← hp377]
                exact xg_e ⟨0, w605, ⟨rfl, rfl⟩, ⟨Or.inr ⟨rfl, congrArg Prod.fst hr658⟩, by rw [hr658]; exact (hx375.fr ((hF608.1 48 (by decide)).trans ((hF548.1 48 (by decide)).trans (hF488.1 48 (by decide)))))⟩, hI607, ((((((hF27.up (by decide)).tr (hF360.up (by decide))).tr (hF374.up (by decide))).tr (hF488.up (by decide))).tr (hF548.up (by decide))).tr (hF608.up (by decide)))⟩
    · refine xg_t (xg_istore (l1 := [(2, (0, 0)), (0, (2, 43)), (1, (0, li))]) rfl rfl rfl) ?_
      refine xg_t (xg_iload (va := (0, 4294967295)) rfl rfl) ?_
      refine xg_t (xg_const) ?_
      refine xg_t (xg_icF (u := 4294967295) (v := 4294967295) rfl xnm0 xnm0 (by decide)) ?_
      refine xg_t (xg_const) ?_
      have hr660 : rtR B nn p = (false, p) := by
        unfold rtR
        rw [(rt1_n (fun z => hk30 (wixR_52.mp z)))]
        exact rt2_0 hm366
      exact xg_e ⟨0, w357, ⟨rfl, rfl⟩, ⟨Or.inr ⟨rfl, congrArg Prod.fst hr660⟩, by rw [hr660]; exact (hT.fr ((hF360.1 48 (by decide)).trans (hF27.1 48 (by decide))))⟩, hI359, ((hF27.up (by decide)).tr (hF360.up (by decide)))⟩
theorem rtTestsX {B : Nat → Nat} {nn p : Nat} {fp : Nat × Nat} {li : Nat} (hI : xInv w) (hB : bsr w B nn) (hT : TKw 48 B nn w p) (h1k : tkd B nn p = 1) (hF : FTr w fp) (hli : li ≤ 4294967295) : xPi (d + 7) mX6_readTests [(2, 43), (0, li)] w bd fc rr (fun n w' => (((n = 1 ∧ (rs B nn 0 (tf B nn p) fp).1 = true) ∨ (n = 0 ∧ (rs B nn 0 (tf B nn p) fp).1 = false)) ∧ TKw 48 B nn w' (rs B nn 0 (tf B nn p) fp).2.1 ∧ FTr w' (rs B nn 0 (tf B nn p) fp).2.2) ∧ xInv w' ∧ xFr [43, 46, 47, 48] w w') := by
  refine xPi.of ?_
  show xTo (d + 7) mX6_readTests (0, [], [(0, (2, 43)), (1, (0, li))], [], (w, bd, fc, 0, 0, rr)) (fun φ => ∃ n w', xEnd 4 [(0, n)] (w', bd, fc, 0, 0, rr) φ ∧ (((n = 1 ∧ (rs B nn 0 (tf B nn p) fp).1 = true) ∨ (n = 0 ∧ (rs B nn 0 (tf B nn p) fp).1 = false)) ∧ TKw 48 B nn w' (rs B nn 0 (tf B nn p) fp).2.1 ∧ FTr w' (rs B nn 0 (tf B nn p) fp).2.2) ∧ xInv w' ∧ xFr [43, 46, 47, 48] w w')
  obtain ⟨f43_1, f43_3, h43_5, hb2, hb4⟩ := (hI 43 (by decide) : cp43 (wget w 43))
  obtain ⟨f48_6, f48_8, f48_10, f48_12, f48_14, h48_16, hb7, hb9, hb11, hb13, hb15, hb17⟩ := (hI 48 (by decide) : cp48 (wget w 48))
  refine xg_t (xg_blk (b := [(0, 1, 3, 0, 0, 0), (1, 1, 15, 2, 0, 0)]) rfl) ?_
  refine xg_t (xg_const) ?_
  refine xg_t (xg_istore (l1 := [(0, (2, 43)), (1, (0, li))]) rfl rfl rfl) ?_
  refine xg_t (xg_drop (l1 := [(0, (2, 43)), (1, (0, li)), (2, (0, 0))]) (List.forall_mem_cons.mpr ⟨List.mem_cons_of_mem _ (List.mem_cons_self), List.forall_mem_cons.mpr ⟨List.mem_cons_of_mem _ (List.mem_cons_of_mem _ (List.mem_cons_self)), List.forall_mem_cons.mpr ⟨List.mem_cons_self, fun _ h => absurd h List.not_mem_nil⟩⟩⟩)) ?_
  have key18 : ∀ (m20 : Nat) (ki : Nat) (w21 : List (List xE)), 501 - ki < m20 → ki ≤ 501 → xInv w21 → xFr [43, 46, 47, 48] w w21 → (∃ (q : Nat) (f : Nat × Nat), TKw 48 B nn w21 q ∧ FTr w21 f ∧ tkd B nn q = 1 ∧ ki ≤ q ∧ rs B nn ki (tf B nn q) f = rs B nn 0 (tf B nn p) fp) → xTo (d + 7) mX6_readTests (2, [], [(0, (2, 43)), (1, (0, li)), (2, (0, ki))], [], (w21, bd, fc, 0, 0, rr)) (fun φ => ∃ n w', xEnd 4 [(0, n)] (w', bd, fc, 0, 0, rr) φ ∧ (((n = 1 ∧ (rs B nn 0 (tf B nn p) fp).1 = true) ∨ (n = 0 ∧ (rs B nn 0 (tf B nn p) fp).1 = false)) ∧ TKw 48 B nn w' (rs B nn 0 (tf B nn p) fp).2.1 ∧ FTr w' (rs B nn 0 (tf B nn p) fp).2.2) ∧ xInv w' ∧ xFr [43, 46, 47, 48] w w') := by
    intro m20
    induction m20 with
    | zero => intro ki w21 hz; exact absurd hz (Nat.not_lt_zero _)
    | succ m20 ih19 =>
      intro ki w21 hm26 hn24 hI22 hF23 he25
      obtain ⟨q_27, f_28, hT_29, hF_30, hk_31, hl_32, hX_33⟩ := he25
      obtain ⟨⟨-, -, -, -, hz34⟩, -⟩ := id hT_29
      have hg35 := tfp_gt (B := B) (n := nn) (p := q_27) (by omega)
      refine xg_t (xg_blk (b := [(2, 1, 2, 2, 0, 0), (3, 3, 5, 500, 0, 0), (6, 3, 6, 76, 4, 0), (9, 1, 0, 0, 0, 0), (10, 3, 1, 6, 1, 38), (13, 3, 13, 312, 64, 108), (16, 1, 2, 2, 0, 0), (17, 1, 3, 4, 0, 0), (18, 3, 6, 25, 2, 0), (21, 1, 0, 0, 0, 0), (22, 3, 13, 293, 48, 88)]) rfl) ?_
      refine xg_t (xg_iload (va := (0, ki)) rfl rfl) ?_
      refine xg_t (xg_sip) ?_
      by_cases hc36 : 500 < ki
      · refine xg_t (xg_icT (u := ki) (v := 500) rfl xnm0 xnm0 (xj_gtT hc36 (by omega))) ?_
        refine xg_t (xg_blk (b := [(76, 1, 3, 0, 0, 0), (77, 1, 12, 0, 1, 0)]) rfl) ?_
        exfalso
        have hBn := hB.1
        omega
      · refine xg_t (xg_icF (u := ki) (v := 500) rfl xnm0 xnm0 (xj_gtF (by omega) (by omega))) ?_
        refine xg_t (xg_aload (va := (2, 43)) rfl rfl) ?_
        obtain ⟨f43_37, f43_39, h43_41, hb38, hb40⟩ := (hI22 43 (by decide) : cp43 (wget w21 43))
        refine xg_t (xg_getf (va := (2, 48)) h43_41 rfl) ?_
        obtain ⟨⟨ht42, -, -, ht43, ht44⟩, -⟩ := id hT_29
        obtain ⟨f48_45, f48_47, f48_49, f48_51, f48_53, h48_55, hb46, hb48, hb50, hb52, hb54, hb56⟩ := (hI22 48 (by decide) : cp48 (wget w21 48))
        refine xg_cVv mX8_advance (vs := []) (rest := []) (cn1 := 0) (sl1 := 0) rfl (tkAdvX48 (hI22) (hB.fr (hF23.1 2 (by decide))) ht42 (by rw [ht43]; exact tf_le ht44)) rfl h48_55 rfl rfl rfl rfl rfl rfl (fun w57 hq58 => ?_)
        obtain ⟨hI59, hF60, hx61⟩ := hq58
        rw [ht43] at hx61
        clear ht42 ht43 ht44
        obtain ⟨p_62, hp63⟩ : ∃ x, x = tf B nn q_27 := ⟨_, rfl⟩
        rw [← hp63] at hx61
        refine xg_t (xg_iload (va := (0, ki)) rfl rfl) ?_
        refine xg_t (xg_const) ?_
        by_cases hc64 : ki < 4
        · refine xg_t (xg_icT (u := ki) (v := 4) rfl xnm0 xnm0 (xj_ltT hc64 (by omega))) ?_
          refine xg_t (xg_blk (b := [(25, 1, 0, 0, 0, 0), (26, 1, 2, 1, 0, 0), (27, 3, 13, 296, 48, 128), (30, 3, 7, 35, 1, 0), (33, 1, 3, 0, 0, 0), (34, 1, 12, 0, 1, 0)]) rfl) ?_
          obtain ⟨g_65, hg66⟩ : ∃ x, x = rg B nn ki p_62 f_28 := ⟨_, rfl⟩
          have hF_68 : FTr w57 g_65 := by
            rw [hg66, rg_n (by omega)]
            exact (hF_30.fr (hF60.1 43 (by decide)))
          refine xg_t (xg_aload (va := (2, 43)) rfl rfl) ?_
          refine xg_t (xg_iload (va := (0, li)) rfl rfl) ?_
          refine xg_cVi mX6_readTest (vs := [(0, li)]) (rest := []) (cn1 := 0) (sl1 := 0) rfl (rtTestX (hI59) (hB.fr ((hF60.1 2 (by decide)).trans (hF23.1 2 (by decide)))) hx61 (by omega)) rfl (hF60.get (by decide) h43_41) rfl rfl rfl rfl rfl rfl (fun n73 w69 hq70 => ?_)
          obtain ⟨hn74, hI71, hF72⟩ := hq70
          obtain ⟨hn75, hn76⟩ := hn74
          obtain ⟨r_77, hr78⟩ : ∃ x, x = (rtR B nn p_62).2 := ⟨_, rfl⟩
          rw [← hr78] at hn76
          rcases hn75 with ⟨rfl, hy79⟩ | ⟨rfl, hy79⟩
          · refine xg_t (xg_ifT (u := 1) rfl xnm0 (by decide)) ?_
            refine xg_t (xg_blk (b := [(35, 1, 0, 0, 0, 0), (36, 3, 1, 6, 1, 38), (39, 2, 4, 58, 0, 0), (41, 3, 13, 316, 64, 114), (44, 3, 7, 56, 0, 0), (47, 1, 0, 0, 0, 0), (48, 3, 1, 6, 1, 38), (51, 3, 13, 312, 64, 108), (54, 1, 3, 1, 0, 0), (55, 1, 12, 0, 1, 0)]) rfl) ?_
            refine xg_t (xg_aload (va := (2, 43)) rfl rfl) ?_
            refine xg_t (xg_getf (va := (2, 48)) (hF72.get (by decide) (hF60.get (by decide) h43_41)) rfl) ?_
            refine xg_t (xg_bip) ?_
            obtain ⟨f48_80, f48_82, f48_84, f48_86, f48_88, h48_90, hb81, hb83, hb85, hb87, hb89, hb91⟩ := (hI71 48 (by decide) : cp48 (wget w69 48))
            refine xg_cVi mX8_isSign (vs := [(0, 58)]) (rest := []) (cn1 := 0) (sl1 := 0) rfl (tkSigX48 (hI71) (by omega) (hB.fr ((hF72.1 2 (by decide)).trans ((hF60.1 2 (by decide)).trans (hF23.1 2 (by decide))))) hn76) rfl h48_90 rfl rfl rfl rfl rfl rfl (fun n96 w92 hq93 => ?_)
            obtain ⟨hn97, hI94, hF95⟩ := hq93
            rcases hn97 with ⟨rfl, hk98⟩ | ⟨rfl, hk98⟩
            · refine xg_t (xg_ifF (u := 1) rfl xnm0 (by decide)) ?_
              refine xg_t (xg_aload (va := (2, 43)) rfl rfl) ?_
              refine xg_t (xg_getf (va := (2, 48)) (hF95.get (by decide) (hF72.get (by decide) (hF60.get (by decide) h43_41))) rfl) ?_
              obtain ⟨⟨ht99, -, -, ht100, ht101⟩, -⟩ := id (hn76.fr (hF95.1 48 (by decide)))
              refine xg_cVv mX8_advance (vs := []) (rest := []) (cn1 := 0) (sl1 := 0) rfl (tkAdvX48 (hI94) (hB.fr ((hF95.1 2 (by decide)).trans ((hF72.1 2 (by decide)).trans ((hF60.1 2 (by decide)).trans (hF23.1 2 (by decide)))))) ht99 (by rw [ht100]; exact tf_le ht101)) rfl (hF95.get (by decide) h48_90) rfl rfl rfl rfl rfl rfl (fun w102 hq103 => ?_)
              obtain ⟨hI104, hF105, hx106⟩ := hq103
              rw [ht100] at hx106
              clear ht99 ht100 ht101
              obtain ⟨p_107, hp108⟩ : ∃ x, x = tf B nn r_77 := ⟨_, rfl⟩
              rw [← hp108] at hx106
              refine xg_t (xg_const) ?_
              have hz109 : (rs B nn 0 (tf B nn p) fp) = (true, p_107, g_65) := hX_33.symm.trans (by rw [← hp63, rs_col hy79 (by rw [← hr78]; exact hk98), ← hr78, ← hp108, ← hg66])
              exact xg_e ⟨1, w102, ⟨rfl, rfl⟩, ⟨Or.inl ⟨rfl, congrArg Prod.fst hz109⟩, by rw [hz109]; exact hx106, by rw [hz109]; exact (hF_68.fr ((hF105.1 43 (by decide)).trans ((hF95.1 43 (by decide)).trans (hF72.1 43 (by decide)))))⟩, hI104, ((((hF23.tr (hF60.up (by decide))).tr (hF72.up (by decide))).tr (hF95.up (by decide))).tr (hF105.up (by decide)))⟩
            · refine xg_t (xg_ifT (u := 0) rfl xnm0 (by decide)) ?_
              refine xg_t (xg_blk (b := [(56, 1, 0, 0, 0, 0), (57, 3, 1, 6, 1, 38), (60, 2, 72, 22, 0, 131), (62, 3, 13, 318, 64, 97), (65, 3, 7, 70, 1, 0), (68, 1, 3, 0, 0, 0), (69, 1, 12, 0, 1, 0)]) rfl) ?_
              refine xg_t (xg_aload (va := (2, 43)) rfl rfl) ?_
              refine xg_t (xg_getf (va := (2, 48)) (hF95.get (by decide) (hF72.get (by decide) (hF60.get (by decide) h43_41))) rfl) ?_
              refine xg_t (xg_ldcS) ?_
              refine xg_cVi mX8_isWord (vs := [(8, 122)]) (rest := []) (cn1 := 0) (sl1 := 0) rfl (tkWrdX48 (C := 1476) (hI94) (i := 22) rfl (hB.fr ((hF95.1 2 (by decide)).trans ((hF72.1 2 (by decide)).trans ((hF60.1 2 (by decide)).trans (hF23.1 2 (by decide)))))) (hn76.fr (hF95.1 48 (by decide))) (by decide +kernel)) rfl (hF95.get (by decide) h48_90) rfl rfl rfl rfl rfl rfl (fun n114 w110 hq111 => ?_)
              obtain ⟨hn115, hI112, hF113⟩ := hq111
              rcases hn115 with ⟨rfl, hk116⟩ | ⟨rfl, hk116⟩
              · refine xg_t (xg_ifT (u := 1) rfl xnm0 (by decide)) ?_
                refine xg_t (xg_blk (b := [(70, 3, 9, 2, 1, 0), (73, 3, 8, 2, 0, 0)]) rfl) ?_
                refine xg_t (xg_iinc (u := ki) (z := ki + 1) (l1 := [(0, (2, 43)), (1, (0, li))]) rfl rfl (by omega) rfl) ?_
                refine xg_t (xg_goto) ?_
                refine xg_t (xg_drop (l1 := [(0, (2, 43)), (1, (0, li)), (2, (0, ki + 1))]) (List.forall_mem_cons.mpr ⟨List.mem_cons_of_mem _ (List.mem_cons_self), List.forall_mem_cons.mpr ⟨List.mem_cons_of_mem _ (List.mem_cons_of_mem _ (List.mem_cons_self)), List.forall_mem_cons.mpr ⟨List.mem_cons_self, fun _ h => absurd h List.not_mem_nil⟩⟩⟩)) ?_
                have hw117 : rwx B nn r_77 = 51 := wixR_51.mpr hk116
                have hpn118 : p_62 ≤ nn := by rw [hp63]; exact tf_le hz34
                have hb119 := (rtR_b (B := B) hpn118).1
                exact ih19 (ki + 1) w110 (by omega) (by omega) (hI112) (((((hF23.tr (hF60.up (by decide))).tr (hF72.up (by decide))).tr (hF95.up (by decide))).tr (hF113.up (by decide)))) (⟨r_77, g_65, (hn76.fr ((hF113.1 48 (by decide)).trans (hF95.1 48 (by decide)))), (hF_68.fr ((hF113.1 43 (by decide)).trans ((hF95.1 43 (by decide)).trans (hF72.1 43 (by decide))))), rwx_1 (by rw [hw117]; decide), by omega, by rw [← hX_33, ← hp63, rs_and hpn118 hy79 (by rw [← hr78]; exact hw117), ← hr78, ← hg66]⟩)
              · refine xg_t (xg_ifF (u := 0) rfl xnm0 (by decide)) ?_
                refine xg_t (xg_const) ?_
                have hz120 : (rs B nn 0 (tf B nn p) fp) = (false, r_77, g_65) := hX_33.symm.trans (by rw [← hp63, rs_bad hy79 (by rw [← hr78]; exact fun z => hk116 (wixR_51.mp z)) (by rw [← hr78]; exact hk98), ← hr78, ← hg66])
                exact xg_e ⟨0, w110, ⟨rfl, rfl⟩, ⟨Or.inr ⟨rfl, congrArg Prod.fst hz120⟩, by rw [hz120]; exact (hn76.fr ((hF113.1 48 (by decide)).trans (hF95.1 48 (by decide)))), by rw [hz120]; exact (hF_68.fr ((hF113.1 43 (by decide)).trans ((hF95.1 43 (by decide)).trans (hF72.1 43 (by decide)))))⟩, hI112, ((((hF23.tr (hF60.up (by decide))).tr (hF72.up (by decide))).tr (hF95.up (by decide))).tr (hF113.up (by decide)))⟩
          · refine xg_t (xg_ifF (u := 0) rfl xnm0 (by decide)) ?_
            refine xg_t (xg_const) ?_
            have hz121 : (rs B nn 0 (tf B nn p) fp) = (false, r_77, g_65) := hX_33.symm.trans (by rw [← hp63, rs_no hy79, ← hr78, ← hg66])
            exact xg_e ⟨0, w69, ⟨rfl, rfl⟩, ⟨Or.inr ⟨rfl, congrArg Prod.fst hz121⟩, by rw [hz121]; exact hn76, by rw [hz121]; exact (hF_68.fr (hF72.1 43 (by decide)))⟩, hI71, ((hF23.tr (hF60.up (by decide))).tr (hF72.up (by decide)))⟩
        · refine xg_t (xg_icF (u := ki) (v := 4) rfl xnm0 xnm0 (xj_ltF (by omega) (by omega))) ?_
          refine xg_t (xg_aload (va := (2, 43)) rfl rfl) ?_
          refine xg_cVv mX6_noteTooMany (vs := []) (rest := []) (cn1 := 0) (sl1 := 0) rfl (rtManyX (hI59) hx61 (hF_30.fr (hF60.1 43 (by decide)))) rfl (hF60.get (by decide) h43_41) rfl rfl rfl rfl rfl rfl (fun w122 hq123 => ?_)
          obtain ⟨hI124, hF125, hx126⟩ := hq123
          refine xg_t (xg_blk (b := [(25, 1, 0, 0, 0, 0), (26, 1, 2, 1, 0, 0), (27, 3, 13, 296, 48, 128), (30, 3, 7, 35, 1, 0), (33, 1, 3, 0, 0, 0), (34, 1, 12, 0, 1, 0)]) rfl) ?_
          obtain ⟨g_127, hg128⟩ : ∃ x, x = rg B nn ki p_62 f_28 := ⟨_, rfl⟩
          have hF_130 : FTr w122 g_127 := by
            rw [hg128, rg_y (by omega)]
            exact hx126
          refine xg_t (xg_aload (va := (2, 43)) rfl rfl) ?_
          refine xg_t (xg_iload (va := (0, li)) rfl rfl) ?_
          obtain ⟨f43_131, f43_133, h43_135, hb132, hb134⟩ := (hI124 43 (by decide) : cp43 (wget w122 43))
          refine xg_cVi mX6_readTest (vs := [(0, li)]) (rest := []) (cn1 := 0) (sl1 := 0) rfl (rtTestX (hI124) (hB.fr ((hF125.1 2 (by decide)).trans ((hF60.1 2 (by decide)).trans (hF23.1 2 (by decide))))) (hx61.fr (hF125.1 48 (by decide))) (by omega)) rfl h43_135 rfl rfl rfl rfl rfl rfl (fun n140 w136 hq137 => ?_)
          obtain ⟨hn141, hI138, hF139⟩ := hq137
          obtain ⟨hn142, hn143⟩ := hn141
          obtain ⟨r_144, hr145⟩ : ∃ x, x = (rtR B nn p_62).2 := ⟨_, rfl⟩
          rw [← hr145] at hn143
          rcases hn142 with ⟨rfl, hy146⟩ | ⟨rfl, hy146⟩
          · refine xg_t (xg_ifT (u := 1) rfl xnm0 (by decide)) ?_
            refine xg_t (xg_blk (b := [(35, 1, 0, 0, 0, 0), (36, 3, 1, 6, 1, 38), (39, 2, 4, 58, 0, 0), (41, 3, 13, 316, 64, 114), (44, 3, 7, 56, 0, 0), (47, 1, 0, 0, 0, 0), (48, 3, 1, 6, 1, 38), (51, 3, 13, 312, 64, 108), (54, 1, 3, 1, 0, 0), (55, 1, 12, 0, 1, 0)]) rfl) ?_
            refine xg_t (xg_aload (va := (2, 43)) rfl rfl) ?_
            refine xg_t (xg_getf (va := (2, 48)) (hF139.get (by decide) h43_135) rfl) ?_
            refine xg_t (xg_bip) ?_
            obtain ⟨f48_147, f48_149, f48_151, f48_153, f48_155, h48_157, hb148, hb150, hb152, hb154, hb156, hb158⟩ := (hI138 48 (by decide) : cp48 (wget w136 48))
            refine xg_cVi mX8_isSign (vs := [(0, 58)]) (rest := []) (cn1 := 0) (sl1 := 0) rfl (tkSigX48 (hI138) (by omega) (hB.fr ((hF139.1 2 (by decide)).trans ((hF125.1 2 (by decide)).trans ((hF60.1 2 (by decide)).trans (hF23.1 2 (by decide)))))) hn143) rfl h48_157 rfl rfl rfl rfl rfl rfl (fun n163 w159 hq160 => ?_)
            obtain ⟨hn164, hI161, hF162⟩ := hq160
            rcases hn164 with ⟨rfl, hk165⟩ | ⟨rfl, hk165⟩
            · refine xg_t (xg_ifF (u := 1) rfl xnm0 (by decide)) ?_
              refine xg_t (xg_aload (va := (2, 43)) rfl rfl) ?_
              refine xg_t (xg_getf (va := (2, 48)) (hF162.get (by decide) (hF139.get (by decide) h43_135)) rfl) ?_
              obtain ⟨⟨ht166, -, -, ht167, ht168⟩, -⟩ := id (hn143.fr (hF162.1 48 (by decide)))
              refine xg_cVv mX8_advance (vs := []) (rest := []) (cn1 := 0) (sl1 := 0) rfl (tkAdvX48 (hI161) (hB.fr ((hF162.1 2 (by decide)).trans ((hF139.1 2 (by decide)).trans ((hF125.1 2 (by decide)).trans ((hF60.1 2 (by decide)).trans (hF23.1 2 (by decide))))))) ht166 (by rw [ht167]; exact tf_le ht168)) rfl (hF162.get (by decide) h48_157) rfl rfl rfl rfl rfl rfl (fun w169 hq170 => ?_)
              obtain ⟨hI171, hF172, hx173⟩ := hq170
              rw [ht167] at hx173
              clear ht166 ht167 ht168
              obtain ⟨p_174, hp175⟩ : ∃ x, x = tf B nn r_144 := ⟨_, rfl⟩
              rw [← hp175] at hx173
              refine xg_t (xg_const) ?_
              have hz176 : (rs B nn 0 (tf B nn p) fp) = (true, p_174, g_127) := hX_33.symm.trans (by rw [← hp63, rs_col hy146 (by rw [← hr145]; exact hk165), ← hr145, ← hp175, ← hg128])
              exact xg_e ⟨1, w169, ⟨rfl, rfl⟩, ⟨Or.inl ⟨rfl, congrArg Prod.fst hz176⟩, by rw [hz176]; exact hx173, by rw [hz176]; exact (hF_130.fr ((hF172.1 43 (by decide)).trans ((hF162.1 43 (by decide)).trans (hF139.1 43 (by decide)))))⟩, hI171, (((((hF23.tr (hF60.up (by decide))).tr (hF125.up (by decide))).tr (hF139.up (by decide))).tr (hF162.up (by decide))).tr (hF172.up (by decide)))⟩
            · refine xg_t (xg_ifT (u := 0) rfl xnm0 (by decide)) ?_
              refine xg_t (xg_blk (b := [(56, 1, 0, 0, 0, 0), (57, 3, 1, 6, 1, 38), (60, 2, 72, 22, 0, 131), (62, 3, 13, 318, 64, 97), (65, 3, 7, 70, 1, 0), (68, 1, 3, 0, 0, 0), (69, 1, 12, 0, 1, 0)]) rfl) ?_
              refine xg_t (xg_aload (va := (2, 43)) rfl rfl) ?_
              refine xg_t (xg_getf (va := (2, 48)) (hF162.get (by decide) (hF139.get (by decide) h43_135)) rfl) ?_
              refine xg_t (xg_ldcS) ?_
              refine xg_cVi mX8_isWord (vs := [(8, 122)]) (rest := []) (cn1 := 0) (sl1 := 0) rfl (tkWrdX48 (C := 1476) (hI161) (i := 22) rfl (hB.fr ((hF162.1 2 (by decide)).trans ((hF139.1 2 (by decide)).trans ((hF125.1 2 (by decide)).trans ((hF60.1 2 (by decide)).trans (hF23.1 2 (by decide))))))) (hn143.fr (hF162.1 48 (by decide))) (by decide +kernel)) rfl (hF162.get (by decide) h48_157) rfl rfl rfl rfl rfl rfl (fun n181 w177 hq178 => ?_)
              obtain ⟨hn182, hI179, hF180⟩ := hq178
              rcases hn182 with ⟨rfl, hk183⟩ | ⟨rfl, hk183⟩
              · refine xg_t (xg_ifT (u := 1) rfl xnm0 (by decide)) ?_
                refine xg_t (xg_blk (b := [(70, 3, 9, 2, 1, 0), (73, 3, 8, 2, 0, 0)]) rfl) ?_
                refine xg_t (xg_iinc (u := ki) (z := ki + 1) (l1 := [(0, (2, 43)), (1, (0, li))]) rfl rfl (by omega) rfl) ?_
                refine xg_t (xg_goto) ?_
                refine xg_t (xg_drop (l1 := [(0, (2, 43)), (1, (0, li)), (2, (0, ki + 1))]) (List.forall_mem_cons.mpr ⟨List.mem_cons_of_mem _ (List.mem_cons_self), List.forall_mem_cons.mpr ⟨List.mem_cons_of_mem _ (List.mem_cons_of_mem _ (List.mem_cons_self)), List.forall_mem_cons.mpr ⟨List.mem_cons_self, fun _ h => absurd h List.not_mem_nil⟩⟩⟩)) ?_
                have hw184 : rwx B nn r_144 = 51 := wixR_51.mpr hk183
                have hpn185 : p_62 ≤ nn := by rw [hp63]; exact tf_le hz34
                have hb186 := (rtR_b (B := B) hpn185).1
                exact ih19 (ki + 1) w177 (by omega) (by omega) (hI179) ((((((hF23.tr (hF60.up (by decide))).tr (hF125.up (by decide))).tr (hF139.up (by decide))).tr (hF162.up (by decide))).tr (hF180.up (by decide)))) (⟨r_144, g_127, (hn143.fr ((hF180.1 48 (by decide)).trans (hF162.1 48 (by decide)))), (hF_130.fr ((hF180.1 43 (by decide)).trans ((hF162.1 43 (by decide)).trans (hF139.1 43 (by decide))))), rwx_1 (by rw [hw184]; decide), by omega, by rw [← hX_33, ← hp63, rs_and hpn185 hy146 (by rw [← hr145]; exact hw184), ← hr145, ← hg128]⟩)
              · refine xg_t (xg_ifF (u := 0) rfl xnm0 (by decide)) ?_
                refine xg_t (xg_const) ?_
                have hz187 : (rs B nn 0 (tf B nn p) fp) = (false, r_144, g_127) := hX_33.symm.trans (by rw [← hp63, rs_bad hy146 (by rw [← hr145]; exact fun z => hk183 (wixR_51.mp z)) (by rw [← hr145]; exact hk165), ← hr145, ← hg128])
                exact xg_e ⟨0, w177, ⟨rfl, rfl⟩, ⟨Or.inr ⟨rfl, congrArg Prod.fst hz187⟩, by rw [hz187]; exact (hn143.fr ((hF180.1 48 (by decide)).trans (hF162.1 48 (by decide)))), by rw [hz187]; exact (hF_130.fr ((hF180.1 43 (by decide)).trans ((hF162.1 43 (by decide)).trans (hF139.1 43 (by decide)))))⟩, hI179, (((((hF23.tr (hF60.up (by decide))).tr (hF125.up (by decide))).tr (hF139.up (by decide))).tr (hF162.up (by decide))).tr (hF180.up (by decide)))⟩
          · refine xg_t (xg_ifF (u := 0) rfl xnm0 (by decide)) ?_
            refine xg_t (xg_const) ?_
            have hz188 : (rs B nn 0 (tf B nn p) fp) = (false, r_144, g_127) := hX_33.symm.trans (by rw [← hp63, rs_no hy146, ← hr145, ← hg128])
            exact xg_e ⟨0, w136, ⟨rfl, rfl⟩, ⟨Or.inr ⟨rfl, congrArg Prod.fst hz188⟩, by rw [hz188]; exact hn143, by rw [hz188]; exact (hF_130.fr (hF139.1 43 (by decide)))⟩, hI138, (((hF23.tr (hF60.up (by decide))).tr (hF125.up (by decide))).tr (hF139.up (by decide)))⟩
  exact key18 _ 0 w (Nat.lt_succ_self _) (by omega) (hI) (xFr.rf) (⟨p, fp, hT, hF, h1k, Nat.zero_le _, rfl⟩)
theorem rtLineX {B : Nat → Nat} {nn p : Nat} {fp : Nat × Nat} {k : Nat} (hI : xInv w) (hB : bsr w B nn) (hT : TKw 48 B nn w p) (hF : FTr w fp) (hz : fld w 44 3 = min k 16) : xPi (d + 8) mX6_readLine [(2, 43)] w bd fc rr (fun n w' => (((n = 1 ∧ (rlR B nn k p fp).1 = true) ∨ (n = 0 ∧ (rlR B nn k p fp).1 = false)) ∧ TKw 48 B nn w' (rlR B nn k p fp).2.1 ∧ FTr w' (rlR B nn k p fp).2.2 ∧ fld w' 44 3 = min (k + 1) 16) ∧ xInv w' ∧ xFr [43, 44, 45, 46, 47, 48] w w') := by
  refine xPi.of ?_
  show xTo (d + 8) mX6_readLine (0, [], [(0, (2, 43))], [], (w, bd, fc, 0, 0, rr)) (fun φ => ∃ n w', xEnd 4 [(0, n)] (w', bd, fc, 0, 0, rr) φ ∧ (((n = 1 ∧ (rlR B nn k p fp).1 = true) ∨ (n = 0 ∧ (rlR B nn k p fp).1 = false)) ∧ TKw 48 B nn w' (rlR B nn k p fp).2.1 ∧ FTr w' (rlR B nn k p fp).2.2 ∧ fld w' 44 3 = min (k + 1) 16) ∧ xInv w' ∧ xFr [43, 44, 45, 46, 47, 48] w w')
  obtain ⟨f43_1, f43_3, h43_5, hb2, hb4⟩ := (hI 43 (by decide) : cp43 (wget w 43))
  obtain ⟨f48_6, f48_8, f48_10, f48_12, f48_14, h48_16, hb7, hb9, hb11, hb13, hb15, hb17⟩ := (hI 48 (by decide) : cp48 (wget w 48))
  obtain ⟨f44_18, h44_20, hb19⟩ := (hI 44 (by decide) : cp44 (wget w 44))
  obtain ⟨g45_21, h45_22, hb23⟩ := (hI 45 (by decide) : cpI 32 21 4294967295 (wget w 45))
  have h45_22 : xRow w 45 32 21 g45_21 := h45_22
  have hsz : fld w 44 3 = f44_18 := fld_of h44_20
  refine xg_t (xg_blk (b := [(0, 1, 0, 0, 0, 0), (1, 3, 1, 6, 2, 16), (4, 3, 13, 289, 40, 85), (7, 3, 7, 14, 0, 0), (10, 1, 0, 0, 0, 0), (11, 3, 13, 293, 48, 88)]) rfl) ?_
  refine xg_t (xg_aload (va := (2, 43)) rfl rfl) ?_
  refine xg_t (xg_getf (va := (2, 44)) h43_5 rfl) ?_
  refine xg_t (xg_cVr mX5_isFull (vs := []) (rest := []) (rs := [(0, if 16 ≤ f44_18 then 1 else 0)]) (cn1 := 0) (sl1 := 0) rfl (rfull_ok h44_20 (by decide) (by omega)) rfl h44_20 rfl rfl rfl rfl rfl rfl rfl) ?_
  by_cases hc24 : 16 ≤ f44_18
  · refine xg_t (xg_ifF (u := (if 16 ≤ f44_18 then 1 else 0)) rfl xnm0 (xj_eqF (xite1 hc24))) ?_
    refine xg_t (xg_aload (va := (2, 43)) rfl rfl) ?_
    refine xg_cVv mX6_noteTooMany (vs := []) (rest := []) (cn1 := 0) (sl1 := 0) rfl (rtManyX (hI) hT hF) rfl h43_5 rfl rfl rfl rfl rfl rfl (fun w25 hq26 => ?_)
    obtain ⟨hI27, hF28, hx29⟩ := hq26
    refine xg_t (xg_blk (b := [(14, 1, 0, 0, 0, 0), (15, 3, 1, 6, 2, 16), (18, 3, 13, 286, 40, 91), (21, 1, 15, 1, 0, 0), (22, 1, 0, 0, 0, 0), (23, 3, 1, 6, 1, 38), (26, 2, 72, 20, 0, 95), (28, 3, 13, 318, 64, 97), (31, 3, 7, 44, 0, 0), (34, 1, 0, 0, 0, 0), (35, 1, 2, 1, 0, 0), (36, 3, 13, 297, 48, 101), (39, 3, 7, 44, 1, 0), (42, 1, 3, 0, 0, 0), (43, 1, 12, 0, 1, 0)]) rfl) ?_
    obtain ⟨g_30, hg31⟩ : ∃ x, x = rlg B nn k p fp := ⟨_, rfl⟩
    have hF_33 : FTr w25 g_30 := by
      rw [hg31, rlg_y (by omega)]
      exact hx29
    refine xg_t (xg_aload (va := (2, 43)) rfl rfl) ?_
    obtain ⟨f43_34, f43_36, h43_38, hb35, hb37⟩ := (hI27 43 (by decide) : cp43 (wget w25 43))
    refine xg_t (xg_getf (va := (2, 44)) h43_38 rfl) ?_
    refine xg_cVi mX5_grow (vs := []) (rest := []) (cn1 := 0) (sl1 := 0) rfl (rgrowM (hF28.get (by decide) h44_20) (by decide) (by omega)) rfl (hF28.get (by decide) h44_20) rfl rfl rfl rfl rfl rfl (fun n41 w39 hq40 => ?_)
    obtain ⟨hn42, s43, hs44, hk45, hb46⟩ := hq40
    have hs47 : s43 = min (k + 1) 16 := by omega
    refine xg_t (xg_istore (l1 := [(0, (2, 43))]) rfl rfl rfl) ?_
    refine xg_t (xg_aload (va := (2, 43)) rfl rfl) ?_
    refine xg_t (xg_getf (va := (2, 48)) (hb46.get (by decide) h43_38) rfl) ?_
    refine xg_t (xg_ldcS) ?_
    refine xg_cVi mX8_isWord (vs := [(8, 120)]) (rest := []) (cn1 := 0) (sl1 := 0) rfl (tkWrdX48 (C := 294) (xInv.up (S := [44]) hI27 (xFr.of (S := [44]) hb46 (by decide)) (List.forall_mem_cons.mpr ⟨(show cp44 (wget w39 44) from ⟨s43, hk45, by omega⟩), fun _ h => absurd h List.not_mem_nil⟩)) (i := 20) rfl (hB.fr ((hb46.1 2 (by decide)).trans (hF28.1 2 (by decide)))) (hT.fr ((hb46.1 48 (by decide)).trans (hF28.1 48 (by decide)))) (by decide +kernel)) rfl (hb46.get (by decide) (hF28.get (by decide) h48_16)) rfl rfl rfl rfl rfl rfl (fun n52 w48 hq49 => ?_)
    obtain ⟨hn53, hI50, hF51⟩ := hq49
    rcases hn53 with ⟨rfl, hk54⟩ | ⟨rfl, hk54⟩
    · refine xg_t (xg_ifF (u := 1) rfl xnm0 (by decide)) ?_
      refine xg_t (xg_aload (va := (2, 43)) rfl rfl) ?_
      refine xg_t (xg_iload (va := (0, n41)) rfl rfl) ?_
      have hw55 : rwx B nn p = 50 := wixR_50.mpr hk54
      refine xg_cVi mX6_readTests (vs := [(0, n41)]) (rest := []) (cn1 := 0) (sl1 := 0) rfl (rtTestsX (hI50) (hB.fr ((hF51.1 2 (by decide)).trans ((hb46.1 2 (by decide)).trans (hF28.1 2 (by decide))))) (hT.fr ((hF51.1 48 (by decide)).trans ((hb46.1 48 (by decide)).trans (hF28.1 48 (by decide))))) (rwx_1 (by rw [hw55]; decide)) (hF_33.fr ((hF51.1 43 (by decide)).trans (hb46.1 43 (by decide)))) (by omega)) rfl (hF51.get (by decide) (hb46.get (by decide) h43_38)) rfl rfl rfl rfl rfl rfl (fun n60 w56 hq57 => ?_)
      obtain ⟨hn61, hI58, hF59⟩ := hq57
      obtain ⟨hn62, hn63, hn64⟩ := hn61
      obtain ⟨t_65, ht66⟩ : ∃ x, x = rs B nn 0 (tf B nn p) g_30 := ⟨_, rfl⟩
      rw [← ht66] at hn62 hn63 hn64
      rcases hn62 with ⟨rfl, hy67⟩ | ⟨rfl, hy67⟩
      · have hE68 : (rlR B nn k p fp) = rvR B nn t_65.2.1 t_65.2.2 := by rw [rlR_1 hw55 (by rw [← hg31, ← ht66]; exact hy67), ← hg31, ← ht66]
        refine xg_t (xg_ifT (u := 1) rfl xnm0 (by decide)) ?_
        refine xg_t (xg_blk (b := [(44, 1, 0, 0, 0, 0), (45, 3, 13, 298, 48, 105), (48, 1, 15, 2, 0, 0), (49, 1, 3, 0, 0, 0), (50, 1, 15, 3, 0, 0), (51, 1, 2, 2, 0, 0), (52, 1, 3, 4294967295, 0, 0), (53, 3, 6, 58, 1, 0), (56, 1, 3, 0, 0, 0), (57, 1, 12, 0, 1, 0)]) rfl) ?_
        refine xg_t (xg_aload (va := (2, 43)) rfl rfl) ?_
        obtain ⟨f43_69, f43_71, h43_73, hb70, hb72⟩ := (hI58 43 (by decide) : cp43 (wget w56 43))
        refine xg_cVi mX6_verbOfWord (vs := []) (rest := []) (cn1 := 0) (sl1 := 0) rfl (rtVerbX (hI58) (hB.fr ((hF59.1 2 (by decide)).trans ((hF51.1 2 (by decide)).trans ((hb46.1 2 (by decide)).trans (hF28.1 2 (by decide)))))) hn63) rfl h43_73 rfl rfl rfl rfl rfl rfl (fun n78 w74 hq75 => ?_)
        obtain ⟨hn79, hI76, hF77⟩ := hq75
        rcases hn79 with ⟨hv80, rfl⟩ | ⟨hv81, hv82, hv83, hv84⟩ | ⟨hv85, rfl⟩
        · refine xg_t (xg_istore (l1 := [(1, (0, n41)), (0, (2, 43))]) rfl rfl rfl) ?_
          refine xg_t (xg_const) ?_
          refine xg_t (xg_istore (l1 := [(2, (0, 0)), (1, (0, n41)), (0, (2, 43))]) rfl rfl rfl) ?_
          refine xg_t (xg_iload (va := (0, 0)) rfl rfl) ?_
          refine xg_t (xg_const) ?_
          refine xg_t (xg_icT (u := 0) (v := 4294967295) rfl xnm0 xnm0 (by decide)) ?_
          refine xg_t (xg_blk (b := [(58, 1, 0, 0, 0, 0), (59, 3, 1, 6, 1, 38), (62, 3, 13, 312, 64, 108), (65, 1, 2, 2, 0, 0), (66, 3, 7, 97, 0, 0), (69, 1, 0, 0, 0, 0), (70, 3, 1, 6, 1, 38), (73, 3, 1, 8, 2, 56), (76, 1, 3, 2, 0, 0), (77, 3, 6, 82, 0, 0), (80, 1, 3, 0, 0, 0), (81, 1, 12, 0, 1, 0)]) rfl) ?_
          refine xg_t (xg_aload (va := (2, 43)) rfl rfl) ?_
          refine xg_t (xg_getf (va := (2, 48)) (hF77.get (by decide) h43_73) rfl) ?_
          obtain ⟨⟨ht86, -, -, ht87, ht88⟩, -⟩ := id (hn63.fr (hF77.1 48 (by decide)))
          obtain ⟨f48_89, f48_91, f48_93, f48_95, f48_97, h48_99, hb90, hb92, hb94, hb96, hb98, hb100⟩ := (hI76 48 (by decide) : cp48 (wget w74 48))
          refine xg_cVv mX8_advance (vs := []) (rest := []) (cn1 := 0) (sl1 := 0) rfl (tkAdvX48 (hI76) (hB.fr ((hF77.1 2 (by decide)).trans ((hF59.1 2 (by decide)).trans ((hF51.1 2 (by decide)).trans ((hb46.1 2 (by decide)).trans (hF28.1 2 (by decide))))))) ht86 (by rw [ht87]; exact tf_le ht88)) rfl h48_99 rfl rfl rfl rfl rfl rfl (fun w101 hq102 => ?_)
          obtain ⟨hI103, hF104, hx105⟩ := hq102
          rw [ht87] at hx105
          clear ht86 ht87 ht88
          obtain ⟨p_106, hp107⟩ : ∃ x, x = tf B nn t_65.2.1 := ⟨_, rfl⟩
          rw [← hp107] at hx105
          refine xg_t (xg_iload (va := (0, 0)) rfl rfl) ?_
          refine xg_t (xg_ifT (u := 0) rfl xnm0 (by decide)) ?_
          refine xg_t (xg_blk (b := [(97, 1, 0, 0, 0, 0), (98, 3, 1, 6, 1, 38), (101, 2, 4, 59, 0, 0), (103, 3, 13, 316, 64, 114), (106, 3, 7, 111, 1, 0), (109, 1, 3, 0, 0, 0), (110, 1, 12, 0, 1, 0)]) rfl) ?_
          refine xg_t (xg_aload (va := (2, 43)) rfl rfl) ?_
          refine xg_t (xg_getf (va := (2, 48)) (hF104.get (by decide) (hF77.get (by decide) h43_73)) rfl) ?_
          refine xg_t (xg_bip) ?_
          obtain ⟨f48_108, f48_110, f48_112, f48_114, f48_116, h48_118, hb109, hb111, hb113, hb115, hb117, hb119⟩ := (hI103 48 (by decide) : cp48 (wget w101 48))
          refine xg_cVi mX8_isSign (vs := [(0, 59)]) (rest := []) (cn1 := 0) (sl1 := 0) rfl (tkSigX48 (hI103) (by omega) (hB.fr ((hF104.1 2 (by decide)).trans ((hF77.1 2 (by decide)).trans ((hF59.1 2 (by decide)).trans ((hF51.1 2 (by decide)).trans ((hb46.1 2 (by decide)).trans (hF28.1 2 (by decide)))))))) hx105) rfl h48_118 rfl rfl rfl rfl rfl rfl (fun n124 w120 hq121 => ?_)
          obtain ⟨hn125, hI122, hF123⟩ := hq121
          rcases hn125 with ⟨rfl, hk126⟩ | ⟨rfl, hk126⟩
          · refine xg_t (xg_ifT (u := 1) rfl xnm0 (by decide)) ?_
            refine xg_t (xg_blk (b := [(111, 1, 0, 0, 0, 0), (112, 3, 1, 6, 1, 38), (115, 3, 13, 312, 64, 108), (118, 1, 0, 0, 0, 0), (119, 3, 1, 6, 2, 16), (122, 1, 2, 1, 0, 0), (123, 1, 3, 0, 0, 0), (124, 1, 2, 2, 0, 0), (125, 3, 13, 290, 40, 118), (128, 1, 0, 0, 0, 0), (129, 3, 1, 6, 2, 16), (132, 1, 2, 1, 0, 0), (133, 1, 3, 1, 0, 0), (134, 1, 2, 3, 0, 0), (135, 3, 13, 290, 40, 118), (138, 1, 3, 1, 0, 0), (139, 1, 12, 0, 1, 0)]) rfl) ?_
            refine xg_t (xg_aload (va := (2, 43)) rfl rfl) ?_
            refine xg_t (xg_getf (va := (2, 48)) (hF123.get (by decide) (hF104.get (by decide) (hF77.get (by decide) h43_73))) rfl) ?_
            obtain ⟨⟨ht127, -, -, ht128, ht129⟩, -⟩ := id (hx105.fr (hF123.1 48 (by decide)))
            refine xg_cVv mX8_advance (vs := []) (rest := []) (cn1 := 0) (sl1 := 0) rfl (tkAdvX48 (hI122) (hB.fr ((hF123.1 2 (by decide)).trans ((hF104.1 2 (by decide)).trans ((hF77.1 2 (by decide)).trans ((hF59.1 2 (by decide)).trans ((hF51.1 2 (by decide)).trans ((hb46.1 2 (by decide)).trans (hF28.1 2 (by decide))))))))) ht127 (by rw [ht128]; exact tf_le ht129)) rfl (hF123.get (by decide) h48_118) rfl rfl rfl rfl rfl rfl (fun w130 hq131 => ?_)
            obtain ⟨hI132, hF133, hx134⟩ := hq131
            rw [ht128] at hx134
            clear ht127 ht128 ht129
            obtain ⟨p_135, hp136⟩ : ∃ x, x = tf B nn p_106 := ⟨_, rfl⟩
            rw [← hp136] at hx134
            refine xg_t (xg_aload (va := (2, 43)) rfl rfl) ?_
            refine xg_t (xg_getf (va := (2, 44)) (hF133.get (by decide) (hF123.get (by decide) (hF104.get (by decide) (hF77.get (by decide) h43_73)))) rfl) ?_
            refine xg_t (xg_iload (va := (0, n41)) rfl rfl) ?_
            refine xg_t (xg_const) ?_
            refine xg_t (xg_iload (va := (0, 0)) rfl rfl) ?_
            refine xg_cVv mX5_put (vs := [(0, n41), (0, 0), (0, 0)]) (rest := []) (cn1 := 0) (sl1 := 0) rfl (rputI (lim := 16) (wd := 2) (B := 4294967295) (hF133.get (by decide) (hF123.get (by decide) (hF104.get (by decide) (hF77.get (by decide) (hF59.get (by decide) (hF51.get (by decide) hk45)))))) ((((((((h45_22.fr hF28 (by decide)).but hb46 (by decide)).fr hF51 (by decide)).fr hF59 (by decide)).fr hF77 (by decide)).fr hF104 (by decide)).fr hF123 (by decide)).fr hF133 (by decide)) (hb23) (by decide) (by omega) (by decide) (by decide) (by omega) (by omega) (by omega)) rfl (hF133.get (by decide) (hF123.get (by decide) (hF104.get (by decide) (hF77.get (by decide) (hF59.get (by decide) (hF51.get (by decide) hk45)))))) rfl rfl rfl rfl rfl rfl (fun w137 hq138 => ?_)
            obtain ⟨g139, hr140, hb141, hb142⟩ := hq138
            refine xg_t (xg_aload (va := (2, 43)) rfl rfl) ?_
            refine xg_t (xg_getf (va := (2, 44)) (hb142.get (by decide) (hF133.get (by decide) (hF123.get (by decide) (hF104.get (by decide) (hF77.get (by decide) h43_73))))) rfl) ?_
            refine xg_t (xg_iload (va := (0, n41)) rfl rfl) ?_
            refine xg_t (xg_const) ?_
            refine xg_t (xg_iload (va := (0, 0)) rfl rfl) ?_
            refine xg_cVv mX5_put (vs := [(0, n41), (0, 1), (0, 0)]) (rest := []) (cn1 := 0) (sl1 := 0) rfl (rputI (lim := 16) (wd := 2) (B := 4294967295) (hb142.get (by decide) (hF133.get (by decide) (hF123.get (by decide) (hF104.get (by decide) (hF77.get (by decide) (hF59.get (by decide) (hF51.get (by decide) hk45))))))) hr140 (hb141) (by decide) (by omega) (by decide) (by decide) (by omega) (by omega) (by omega)) rfl (hb142.get (by decide) (hF133.get (by decide) (hF123.get (by decide) (hF104.get (by decide) (hF77.get (by decide) (hF59.get (by decide) (hF51.get (by decide) hk45))))))) rfl rfl rfl rfl rfl rfl (fun w143 hq144 => ?_)
            obtain ⟨g145, hr146, hb147, hb148⟩ := hq144
            refine xg_t (xg_const) ?_
            have hq149 : fld w143 44 3 = s43 := fld_of (hb148.get (by decide) (hb142.get (by decide) (hF133.get (by decide) (hF123.get (by decide) (hF104.get (by decide) (hF77.get (by decide) (hF59.get (by decide) (hF51.get (by decide) hk45))))))))
            have hz150 : (rlR B nn k p fp) = (true, p_135, t_65.2.2) := by rw [hE68, rvR_1 hv80, ← hp107, rvS_y hk126, ← hp136]
            exact xg_e ⟨1, w143, ⟨rfl, rfl⟩, ⟨Or.inl ⟨rfl, congrArg Prod.fst hz150⟩, by rw [hz150]; exact (hx134.fr ((hb148.1 48 (by decide)).trans (hb142.1 48 (by decide)))), by rw [hz150]; exact (hn64.fr ((hb148.1 43 (by decide)).trans ((hb142.1 43 (by decide)).trans ((hF133.1 43 (by decide)).trans ((hF123.1 43 (by decide)).trans ((hF104.1 43 (by decide)).trans (hF77.1 43 (by decide)))))))), hq149.trans hs47⟩, xInv.up (S := [45]) hI132 ((xFr.of (S := [45]) hb142 (by decide)).tr (xFr.of (S := [45]) hb148 (by decide))) (List.forall_mem_cons.mpr ⟨(show cpI 32 21 4294967295 (wget w143 45) from ⟨_, hr146, hb147⟩), fun _ h => absurd h List.not_mem_nil⟩), (((((((((hF28.up (by decide)).tr (xFr.of (S := [43, 44, 45, 46, 47, 48]) hb46 (by decide))).tr (hF51.up (by decide))).tr (hF59.up (by decide))).tr (hF77.up (by decide))).tr (hF104.up (by decide))).tr (hF123.up (by decide))).tr (hF133.up (by decide))).tr ((xFr.of (S := [43, 44, 45, 46, 47, 48]) hb142 (by decide)).tr (xFr.of (S := [43, 44, 45, 46, 47, 48]) hb148 (by decide))))⟩
          · refine xg_t (xg_ifF (u := 0) rfl xnm0 (by decide)) ?_
            refine xg_t (xg_const) ?_
            have hq151 : fld w120 44 3 = s43 := fld_of (hF123.get (by decide) (hF104.get (by decide) (hF77.get (by decide) (hF59.get (by decide) (hF51.get (by decide) hk45)))))
            have hz152 : (rlR B nn k p fp) = (false, p_106, t_65.2.2) := by rw [hE68, rvR_1 hv80, ← hp107, rvS_n hk126]
            exact xg_e ⟨0, w120, ⟨rfl, rfl⟩, ⟨Or.inr ⟨rfl, congrArg Prod.fst hz152⟩, by rw [hz152]; exact (hx105.fr (hF123.1 48 (by decide))), by rw [hz152]; exact (hn64.fr ((hF123.1 43 (by decide)).trans ((hF104.1 43 (by decide)).trans (hF77.1 43 (by decide))))), hq151.trans hs47⟩, hI122, (((((((hF28.up (by decide)).tr (xFr.of (S := [43, 44, 45, 46, 47, 48]) hb46 (by decide))).tr (hF51.up (by decide))).tr (hF59.up (by decide))).tr (hF77.up (by decide))).tr (hF104.up (by decide))).tr (hF123.up (by decide)))⟩
        · refine xg_t (xg_istore (l1 := [(1, (0, n41)), (0, (2, 43))]) rfl rfl rfl) ?_
          refine xg_t (xg_const) ?_
          refine xg_t (xg_istore (l1 := [(2, (0, n78)), (1, (0, n41)), (0, (2, 43))]) rfl rfl rfl) ?_
          refine xg_t (xg_iload (va := (0, n78)) rfl rfl) ?_
          refine xg_t (xg_const) ?_
          refine xg_t (xg_icT (u := n78) (v := 4294967295) rfl xnm0 xnm0 (xj_neT (by omega))) ?_
          refine xg_t (xg_blk (b := [(58, 1, 0, 0, 0, 0), (59, 3, 1, 6, 1, 38), (62, 3, 13, 312, 64, 108), (65, 1, 2, 2, 0, 0), (66, 3, 7, 97, 0, 0), (69, 1, 0, 0, 0, 0), (70, 3, 1, 6, 1, 38), (73, 3, 1, 8, 2, 56), (76, 1, 3, 2, 0, 0), (77, 3, 6, 82, 0, 0), (80, 1, 3, 0, 0, 0), (81, 1, 12, 0, 1, 0)]) rfl) ?_
          refine xg_t (xg_aload (va := (2, 43)) rfl rfl) ?_
          refine xg_t (xg_getf (va := (2, 48)) (hF77.get (by decide) h43_73) rfl) ?_
          obtain ⟨⟨ht153, -, -, ht154, ht155⟩, -⟩ := id (hn63.fr (hF77.1 48 (by decide)))
          obtain ⟨f48_156, f48_158, f48_160, f48_162, f48_164, h48_166, hb157, hb159, hb161, hb163, hb165, hb167⟩ := (hI76 48 (by decide) : cp48 (wget w74 48))
          refine xg_cVv mX8_advance (vs := []) (rest := []) (cn1 := 0) (sl1 := 0) rfl (tkAdvX48 (hI76) (hB.fr ((hF77.1 2 (by decide)).trans ((hF59.1 2 (by decide)).trans ((hF51.1 2 (by decide)).trans ((hb46.1 2 (by decide)).trans (hF28.1 2 (by decide))))))) ht153 (by rw [ht154]; exact tf_le ht155)) rfl h48_166 rfl rfl rfl rfl rfl rfl (fun w168 hq169 => ?_)
          obtain ⟨hI170, hF171, hx172⟩ := hq169
          rw [ht154] at hx172
          clear ht153 ht154 ht155
          obtain ⟨p_173, hp174⟩ : ∃ x, x = tf B nn t_65.2.1 := ⟨_, rfl⟩
          rw [← hp174] at hx172
          refine xg_t (xg_iload (va := (0, n78)) rfl rfl) ?_
          refine xg_t (xg_ifF (u := n78) rfl xnm0 (xj_eqF (by omega))) ?_
          obtain ⟨⟨ht175, ht176, ht177, ht178, ht179⟩, ht180⟩ := id hx172
          obtain ⟨f48_181, f48_183, f48_185, f48_187, f48_189, h48_191, hb182, hb184, hb186, hb188, hb190, hb192⟩ := (hI170 48 (by decide) : cp48 (wget w168 48))
          have hq193 : fld w168 48 1 = f48_181 := fld_of h48_191
          have hq194 : fld w168 48 2 = f48_183 := fld_of h48_191
          have hq195 : fld w168 48 3 = f48_185 := fld_of h48_191
          have hq196 : fld w168 48 4 = f48_187 := fld_of h48_191
          have hq197 : fld w168 48 5 = f48_189 := fld_of h48_191
          refine xg_t (xg_aload (va := (2, 43)) rfl rfl) ?_
          refine xg_t (xg_getf (va := (2, 48)) (hF171.get (by decide) (hF77.get (by decide) h43_73)) rfl) ?_
          refine xg_t (xg_getf (va := (0, f48_183)) h48_191 rfl) ?_
          refine xg_t (xg_const) ?_
          by_cases hc198 : f48_183 = 2
          · refine xg_t (xg_icT (u := f48_183) (v := 2) rfl xnm0 xnm0 (xj_eqT hc198)) ?_
            refine xg_t (xg_blk (b := [(82, 1, 0, 0, 0, 0), (83, 3, 1, 6, 1, 38), (86, 3, 1, 8, 5, 111), (89, 1, 15, 3, 0, 0), (90, 1, 0, 0, 0, 0), (91, 3, 1, 6, 1, 38), (94, 3, 13, 312, 64, 108)]) rfl) ?_
            refine xg_t (xg_aload (va := (2, 43)) rfl rfl) ?_
            refine xg_t (xg_getf (va := (2, 48)) (hF171.get (by decide) (hF77.get (by decide) h43_73)) rfl) ?_
            refine xg_t (xg_getf (va := (0, f48_189)) h48_191 rfl) ?_
            refine xg_t (xg_istore (l1 := [(2, (0, n78)), (1, (0, n41)), (0, (2, 43))]) rfl rfl rfl) ?_
            refine xg_t (xg_aload (va := (2, 43)) rfl rfl) ?_
            refine xg_t (xg_getf (va := (2, 48)) (hF171.get (by decide) (hF77.get (by decide) h43_73)) rfl) ?_
            obtain ⟨⟨ht199, -, -, ht200, ht201⟩, -⟩ := id hx172
            refine xg_cVv mX8_advance (vs := []) (rest := []) (cn1 := 0) (sl1 := 0) rfl (tkAdvX48 (hI170) (hB.fr ((hF171.1 2 (by decide)).trans ((hF77.1 2 (by decide)).trans ((hF59.1 2 (by decide)).trans ((hF51.1 2 (by decide)).trans ((hb46.1 2 (by decide)).trans (hF28.1 2 (by decide)))))))) ht199 (by rw [ht200]; exact tf_le ht201)) rfl h48_191 rfl rfl rfl rfl rfl rfl (fun w202 hq203 => ?_)
            obtain ⟨hI204, hF205, hx206⟩ := hq203
            rw [ht200] at hx206
            clear ht199 ht200 ht201
            obtain ⟨p_207, hp208⟩ : ∃ x, x = tf B nn p_173 := ⟨_, rfl⟩
            rw [← hp208] at hx206
            refine xg_t (xg_blk (b := [(97, 1, 0, 0, 0, 0), (98, 3, 1, 6, 1, 38), (101, 2, 4, 59, 0, 0), (103, 3, 13, 316, 64, 114), (106, 3, 7, 111, 1, 0), (109, 1, 3, 0, 0, 0), (110, 1, 12, 0, 1, 0)]) rfl) ?_
            refine xg_t (xg_aload (va := (2, 43)) rfl rfl) ?_
            refine xg_t (xg_getf (va := (2, 48)) (hF205.get (by decide) (hF171.get (by decide) (hF77.get (by decide) h43_73))) rfl) ?_
            refine xg_t (xg_bip) ?_
            obtain ⟨f48_209, f48_211, f48_213, f48_215, f48_217, h48_219, hb210, hb212, hb214, hb216, hb218, hb220⟩ := (hI204 48 (by decide) : cp48 (wget w202 48))
            refine xg_cVi mX8_isSign (vs := [(0, 59)]) (rest := []) (cn1 := 0) (sl1 := 0) rfl (tkSigX48 (hI204) (by omega) (hB.fr ((hF205.1 2 (by decide)).trans ((hF171.1 2 (by decide)).trans ((hF77.1 2 (by decide)).trans ((hF59.1 2 (by decide)).trans ((hF51.1 2 (by decide)).trans ((hb46.1 2 (by decide)).trans (hF28.1 2 (by decide))))))))) hx206) rfl h48_219 rfl rfl rfl rfl rfl rfl (fun n225 w221 hq222 => ?_)
            obtain ⟨hn226, hI223, hF224⟩ := hq222
            rcases hn226 with ⟨rfl, hk227⟩ | ⟨rfl, hk227⟩
            · refine xg_t (xg_ifT (u := 1) rfl xnm0 (by decide)) ?_
              refine xg_t (xg_blk (b := [(111, 1, 0, 0, 0, 0), (112, 3, 1, 6, 1, 38), (115, 3, 13, 312, 64, 108), (118, 1, 0, 0, 0, 0), (119, 3, 1, 6, 2, 16), (122, 1, 2, 1, 0, 0), (123, 1, 3, 0, 0, 0), (124, 1, 2, 2, 0, 0), (125, 3, 13, 290, 40, 118), (128, 1, 0, 0, 0, 0), (129, 3, 1, 6, 2, 16), (132, 1, 2, 1, 0, 0), (133, 1, 3, 1, 0, 0), (134, 1, 2, 3, 0, 0), (135, 3, 13, 290, 40, 118), (138, 1, 3, 1, 0, 0), (139, 1, 12, 0, 1, 0)]) rfl) ?_
              refine xg_t (xg_aload (va := (2, 43)) rfl rfl) ?_
              refine xg_t (xg_getf (va := (2, 48)) (hF224.get (by decide) (hF205.get (by decide) (hF171.get (by decide) (hF77.get (by decide) h43_73)))) rfl) ?_
              obtain ⟨⟨ht228, -, -, ht229, ht230⟩, -⟩ := id (hx206.fr (hF224.1 48 (by decide)))
              refine xg_cVv mX8_advance (vs := []) (rest := []) (cn1 := 0) (sl1 := 0) rfl (tkAdvX48 (hI223) (hB.fr ((hF224.1 2 (by decide)).trans ((hF205.1 2 (by decide)).trans ((hF171.1 2 (by decide)).trans ((hF77.1 2 (by decide)).trans ((hF59.1 2 (by decide)).trans ((hF51.1 2 (by decide)).trans ((hb46.1 2 (by decide)).trans (hF28.1 2 (by decide)))))))))) ht228 (by rw [ht229]; exact tf_le ht230)) rfl (hF224.get (by decide) h48_219) rfl rfl rfl rfl rfl rfl (fun w231 hq232 => ?_)
              obtain ⟨hI233, hF234, hx235⟩ := hq232
              rw [ht229] at hx235
              clear ht228 ht229 ht230
              obtain ⟨p_236, hp237⟩ : ∃ x, x = tf B nn p_207 := ⟨_, rfl⟩
              rw [← hp237] at hx235
              refine xg_t (xg_aload (va := (2, 43)) rfl rfl) ?_
              refine xg_t (xg_getf (va := (2, 44)) (hF234.get (by decide) (hF224.get (by decide) (hF205.get (by decide) (hF171.get (by decide) (hF77.get (by decide) h43_73))))) rfl) ?_
              refine xg_t (xg_iload (va := (0, n41)) rfl rfl) ?_
              refine xg_t (xg_const) ?_
              refine xg_t (xg_iload (va := (0, n78)) rfl rfl) ?_
              refine xg_cVv mX5_put (vs := [(0, n41), (0, 0), (0, n78)]) (rest := []) (cn1 := 0) (sl1 := 0) rfl (rputI (lim := 16) (wd := 2) (B := 4294967295) (hF234.get (by decide) (hF224.get (by decide) (hF205.get (by decide) (hF171.get (by decide) (hF77.get (by decide) (hF59.get (by decide) (hF51.get (by decide) hk45))))))) (((((((((h45_22.fr hF28 (by decide)).but hb46 (by decide)).fr hF51 (by decide)).fr hF59 (by decide)).fr hF77 (by decide)).fr hF171 (by decide)).fr hF205 (by decide)).fr hF224 (by decide)).fr hF234 (by decide)) (hb23) (by decide) (by omega) (by decide) (by decide) (by omega) (by omega) (by omega)) rfl (hF234.get (by decide) (hF224.get (by decide) (hF205.get (by decide) (hF171.get (by decide) (hF77.get (by decide) (hF59.get (by decide) (hF51.get (by decide) hk45))))))) rfl rfl rfl rfl rfl rfl (fun w238 hq239 => ?_)
              obtain ⟨g240, hr241, hb242, hb243⟩ := hq239
              refine xg_t (xg_aload (va := (2, 43)) rfl rfl) ?_
              refine xg_t (xg_getf (va := (2, 44)) (hb243.get (by decide) (hF234.get (by decide) (hF224.get (by decide) (hF205.get (by decide) (hF171.get (by decide) (hF77.get (by decide) h43_73)))))) rfl) ?_
              refine xg_t (xg_iload (va := (0, n41)) rfl rfl) ?_
              refine xg_t (xg_const) ?_
              refine xg_t (xg_iload (va := (0, f48_189)) rfl rfl) ?_
              refine xg_cVv mX5_put (vs := [(0, n41), (0, 1), (0, f48_189)]) (rest := []) (cn1 := 0) (sl1 := 0) rfl (rputI (lim := 16) (wd := 2) (B := 4294967295) (hb243.get (by decide) (hF234.get (by decide) (hF224.get (by decide) (hF205.get (by decide) (hF171.get (by decide) (hF77.get (by decide) (hF59.get (by decide) (hF51.get (by decide) hk45)))))))) hr241 (hb242) (by decide) (by omega) (by decide) (by decide) (by omega) (by omega) (by omega)) rfl (hb243.get (by decide) (hF234.get (by decide) (hF224.get (by decide) (hF205.get (by decide) (hF171.get (by decide) (hF77.get (by decide) (hF59.get (by decide) (hF51.get (by decide) hk45)))))))) rfl rfl rfl rfl rfl rfl (fun w244 hq245 => ?_)
              obtain ⟨g246, hr247, hb248, hb249⟩ := hq245
              refine xg_t (xg_const) ?_
              have hq250 : fld w244 44 3 = s43 := fld_of (hb249.get (by decide) (hb243.get (by decide) (hF234.get (by decide) (hF224.get (by decide) (hF205.get (by decide) (hF171.get (by decide) (hF77.get (by decide) (hF59.get (by decide) (hF51.get (by decide) hk45)))))))))
              have hz251 : (rlR B nn k p fp) = (true, p_236, t_65.2.2) := by rw [hE68, rvR_2 hv81 hv82 (by rw [← hp174]; omega), ← hp174, ← hp208, rvS_y hk227, ← hp237]
              exact xg_e ⟨1, w244, ⟨rfl, rfl⟩, ⟨Or.inl ⟨rfl, congrArg Prod.fst hz251⟩, by rw [hz251]; exact (hx235.fr ((hb249.1 48 (by decide)).trans (hb243.1 48 (by decide)))), by rw [hz251]; exact (hn64.fr ((hb249.1 43 (by decide)).trans ((hb243.1 43 (by decide)).trans ((hF234.1 43 (by decide)).trans ((hF224.1 43 (by decide)).trans ((hF205.1 43 (by decide)).trans ((hF171.1 43 (by decide)).trans (hF77.1 43 (by decide))))))))), hq250.trans hs47⟩, xInv.up (S := [45]) hI233 ((xFr.of (S := [45]) hb243 (by decide)).tr (xFr.of (S := [45]) hb249 (by decide))) (List.forall_mem_cons.mpr ⟨(show cpI 32 21 4294967295 (wget w244 45) from ⟨_, hr247, hb248⟩), fun _ h => absurd h List.not_mem_nil⟩), ((((((((((hF28.up (by decide)).tr (xFr.of (S := [43, 44, 45, 46, 47, 48]) hb46 (by decide))).tr (hF51.up (by decide))).tr (hF59.up (by decide))).tr (hF77.up (by decide))).tr (hF171.up (by decide))).tr (hF205.up (by decide))).tr (hF224.up (by decide))).tr (hF234.up (by decide))).tr ((xFr.of (S := [43, 44, 45, 46, 47, 48]) hb243 (by decide)).tr (xFr.of (S := [43, 44, 45, 46, 47, 48]) hb249 (by decide))))⟩
            · refine xg_t (xg_ifF (u := 0) rfl xnm0 (by decide)) ?_
              refine xg_t (xg_const) ?_
              have hq252 : fld w221 44 3 = s43 := fld_of (hF224.get (by decide) (hF205.get (by decide) (hF171.get (by decide) (hF77.get (by decide) (hF59.get (by decide) (hF51.get (by decide) hk45))))))
              have hz253 : (rlR B nn k p fp) = (false, p_207, t_65.2.2) := by rw [hE68, rvR_2 hv81 hv82 (by rw [← hp174]; omega), ← hp174, ← hp208, rvS_n hk227]
              exact xg_e ⟨0, w221, ⟨rfl, rfl⟩, ⟨Or.inr ⟨rfl, congrArg Prod.fst hz253⟩, by rw [hz253]; exact (hx206.fr (hF224.1 48 (by decide))), by rw [hz253]; exact (hn64.fr ((hF224.1 43 (by decide)).trans ((hF205.1 43 (by decide)).trans ((hF171.1 43 (by decide)).trans (hF77.1 43 (by decide)))))), hq252.trans hs47⟩, hI223, ((((((((hF28.up (by decide)).tr (xFr.of (S := [43, 44, 45, 46, 47, 48]) hb46 (by decide))).tr (hF51.up (by decide))).tr (hF59.up (by decide))).tr (hF77.up (by decide))).tr (hF171.up (by decide))).tr (hF205.up (by decide))).tr (hF224.up (by decide)))⟩
          · refine xg_t (xg_icF (u := f48_183) (v := 2) rfl xnm0 xnm0 (xj_eqF hc198)) ?_
            refine xg_t (xg_const) ?_
            have hq254 : fld w168 44 3 = s43 := fld_of (hF171.get (by decide) (hF77.get (by decide) (hF59.get (by decide) (hF51.get (by decide) hk45))))
            have hz255 : (rlR B nn k p fp) = (false, p_173, t_65.2.2) := by rw [hE68, rvR_3 hv81 hv82 (by rw [← hp174]; omega), ← hp174]
            exact xg_e ⟨0, w168, ⟨rfl, rfl⟩, ⟨Or.inr ⟨rfl, congrArg Prod.fst hz255⟩, by rw [hz255]; exact hx172, by rw [hz255]; exact (hn64.fr ((hF171.1 43 (by decide)).trans (hF77.1 43 (by decide)))), hq254.trans hs47⟩, hI170, ((((((hF28.up (by decide)).tr (xFr.of (S := [43, 44, 45, 46, 47, 48]) hb46 (by decide))).tr (hF51.up (by decide))).tr (hF59.up (by decide))).tr (hF77.up (by decide))).tr (hF171.up (by decide)))⟩
        · refine xg_t (xg_istore (l1 := [(1, (0, n41)), (0, (2, 43))]) rfl rfl rfl) ?_
          refine xg_t (xg_const) ?_
          refine xg_t (xg_istore (l1 := [(2, (0, 4294967295)), (1, (0, n41)), (0, (2, 43))]) rfl rfl rfl) ?_
          refine xg_t (xg_iload (va := (0, 4294967295)) rfl rfl) ?_
          refine xg_t (xg_const) ?_
          refine xg_t (xg_icF (u := 4294967295) (v := 4294967295) rfl xnm0 xnm0 (by decide)) ?_
          refine xg_t (xg_const) ?_
          have hq256 : fld w74 44 3 = s43 := fld_of (hF77.get (by decide) (hF59.get (by decide) (hF51.get (by decide) hk45)))
          have hz257 : (rlR B nn k p fp) = (false, t_65.2.1, t_65.2.2) := by rw [hE68, rvR_0 hv85]
          exact xg_e ⟨0, w74, ⟨rfl, rfl⟩, ⟨Or.inr ⟨rfl, congrArg Prod.fst hz257⟩, by rw [hz257]; exact (hn63.fr (hF77.1 48 (by decide))), by rw [hz257]; exact (hn64.fr (hF77.1 43 (by decide))), hq256.trans hs47⟩, hI76, (((((hF28.up (by decide)).tr (xFr.of (S := [43, 44, 45, 46, 47, 48]) hb46 (by decide))).tr (hF51.up (by decide))).tr (hF59.up (by decide))).tr (hF77.up (by decide)))⟩
      · have hE258 : (rlR B nn k p fp) = t_65 := by rw [rlR_2 hw55 (by rw [← hg31, ← ht66]; exact hy67), ← hg31, ← ht66]
        refine xg_t (xg_ifF (u := 0) rfl xnm0 (by decide)) ?_
        refine xg_t (xg_const) ?_
        have hq259 : fld w56 44 3 = s43 := fld_of (hF59.get (by decide) (hF51.get (by decide) hk45))
        exact xg_e ⟨0, w56, ⟨rfl, rfl⟩, ⟨Or.inr ⟨rfl, by rw [hE258]; exact hy67⟩, by rw [hE258]; exact hn63, by rw [hE258]; exact hn64, hq259.trans hs47⟩, hI58, ((((hF28.up (by decide)).tr (xFr.of (S := [43, 44, 45, 46, 47, 48]) hb46 (by decide))).tr (hF51.up (by decide))).tr (hF59.up (by decide)))⟩
    · refine xg_t (xg_ifT (u := 0) rfl xnm0 (by decide)) ?_
      refine xg_t (xg_blk (b := [(44, 1, 0, 0, 0, 0), (45, 3, 13, 298, 48, 105), (48, 1, 15, 2, 0, 0), (49, 1, 3, 0, 0, 0), (50, 1, 15, 3, 0, 0), (51, 1, 2, 2, 0, 0), (52, 1, 3, 4294967295, 0, 0), (53, 3, 6, 58, 1, 0), (56, 1, 3, 0, 0, 0), (57, 1, 12, 0, 1, 0)]) rfl) ?_
      refine xg_t (xg_aload (va := (2, 43)) rfl rfl) ?_
      have hE260 : (rlR B nn k p fp) = rvR B nn p g_30 := by rw [rlR_0 (fun z => hk54 (wixR_50.mp z)), ← hg31]
      refine xg_cVi mX6_verbOfWord (vs := []) (rest := []) (cn1 := 0) (sl1 := 0) rfl (rtVerbX (hI50) (hB.fr ((hF51.1 2 (by decide)).trans ((hb46.1 2 (by decide)).trans (hF28.1 2 (by decide))))) (hT.fr ((hF51.1 48 (by decide)).trans ((hb46.1 48 (by decide)).trans (hF28.1 48 (by decide)))))) rfl (hF51.get (by decide) (hb46.get (by decide) h43_38)) rfl rfl rfl rfl rfl rfl (fun n265 w261 hq262 => ?_)
      obtain ⟨hn266, hI263, hF264⟩ := hq262
      rcases hn266 with ⟨hv267, rfl⟩ | ⟨hv268, hv269, hv270, hv271⟩ | ⟨hv272, rfl⟩
      · refine xg_t (xg_istore (l1 := [(1, (0, n41)), (0, (2, 43))]) rfl rfl rfl) ?_
        refine xg_t (xg_const) ?_
        refine xg_t (xg_istore (l1 := [(2, (0, 0)), (1, (0, n41)), (0, (2, 43))]) rfl rfl rfl) ?_
        refine xg_t (xg_iload (va := (0, 0)) rfl rfl) ?_
        refine xg_t (xg_const) ?_
        refine xg_t (xg_icT (u := 0) (v := 4294967295) rfl xnm0 xnm0 (by decide)) ?_
        refine xg_t (xg_blk (b := [(58, 1, 0, 0, 0, 0), (59, 3, 1, 6, 1, 38), (62, 3, 13, 312, 64, 108), (65, 1, 2, 2, 0, 0), (66, 3, 7, 97, 0, 0), (69, 1, 0, 0, 0, 0), (70, 3, 1, 6, 1, 38), (73, 3, 1, 8, 2, 56), (76, 1, 3, 2, 0, 0), (77, 3, 6, 82, 0, 0), (80, 1, 3, 0, 0, 0), (81, 1, 12, 0, 1, 0)]) rfl) ?_
        refine xg_t (xg_aload (va := (2, 43)) rfl rfl) ?_
        refine xg_t (xg_getf (va := (2, 48)) (hF264.get (by decide) (hF51.get (by decide) (hb46.get (by decide) h43_38))) rfl) ?_
        obtain ⟨⟨ht273, -, -, ht274, ht275⟩, -⟩ := id (hT.fr ((hF264.1 48 (by decide)).trans ((hF51.1 48 (by decide)).trans ((hb46.1 48 (by decide)).trans (hF28.1 48 (by decide))))))
        refine xg_cVv mX8_advance (vs := []) (rest := []) (cn1 := 0) (sl1 := 0) rfl (tkAdvX48 (hI263) (hB.fr ((hF264.1 2 (by decide)).trans ((hF51.1 2 (by decide)).trans ((hb46.1 2 (by decide)).trans (hF28.1 2 (by decide)))))) ht273 (by rw [ht274]; exact tf_le ht275)) rfl (hF264.get (by decide) (hF51.get (by decide) (hb46.get (by decide) (hF28.get (by decide) h48_16)))) rfl rfl rfl rfl rfl rfl (fun w276 hq277 => ?_)
        obtain ⟨hI278, hF279, hx280⟩ := hq277
        rw [ht274] at hx280
        clear ht273 ht274 ht275
        obtain ⟨p_281, hp282⟩ : ∃ x, x = tf B nn p := ⟨_, rfl⟩
        rw [← hp282] at hx280
        refine xg_t (xg_iload (va := (0, 0)) rfl rfl) ?_
        refine xg_t (xg_ifT (u := 0) rfl xnm0 (by decide)) ?_
        refine xg_t (xg_blk (b := [(97, 1, 0, 0, 0, 0), (98, 3, 1, 6, 1, 38), (101, 2, 4, 59, 0, 0), (103, 3, 13, 316, 64, 114), (106, 3, 7, 111, 1, 0), (109, 1, 3, 0, 0, 0), (110, 1, 12, 0, 1, 0)]) rfl) ?_
        refine xg_t (xg_aload (va := (2, 43)) rfl rfl) ?_
        refine xg_t (xg_getf (va := (2, 48)) (hF279.get (by decide) (hF264.get (by decide) (hF51.get (by decide) (hb46.get (by decide) h43_38)))) rfl) ?_
        refine xg_t (xg_bip) ?_
        obtain ⟨f48_283, f48_285, f48_287, f48_289, f48_291, h48_293, hb284, hb286, hb288, hb290, hb292, hb294⟩ := (hI278 48 (by decide) : cp48 (wget w276 48))
        refine xg_cVi mX8_isSign (vs := [(0, 59)]) (rest := []) (cn1 := 0) (sl1 := 0) rfl (tkSigX48 (hI278) (by omega) (hB.fr ((hF279.1 2 (by decide)).trans ((hF264.1 2 (by decide)).trans ((hF51.1 2 (by decide)).trans ((hb46.1 2 (by decide)).trans (hF28.1 2 (by decide))))))) hx280) rfl h48_293 rfl rfl rfl rfl rfl rfl (fun n299 w295 hq296 => ?_)
        obtain ⟨hn300, hI297, hF298⟩ := hq296
        rcases hn300 with ⟨rfl, hk301⟩ | ⟨rfl, hk301⟩
        · refine xg_t (xg_ifT (u := 1) rfl xnm0 (by decide)) ?_
          refine xg_t (xg_blk (b := [(111, 1, 0, 0, 0, 0), (112, 3, 1, 6, 1, 38), (115, 3, 13, 312, 64, 108), (118, 1, 0, 0, 0, 0), (119, 3, 1, 6, 2, 16), (122, 1, 2, 1, 0, 0), (123, 1, 3, 0, 0, 0), (124, 1, 2, 2, 0, 0), (125, 3, 13, 290, 40, 118), (128, 1, 0, 0, 0, 0), (129, 3, 1, 6, 2, 16), (132, 1, 2, 1, 0, 0), (133, 1, 3, 1, 0, 0), (134, 1, 2, 3, 0, 0), (135, 3, 13, 290, 40, 118), (138, 1, 3, 1, 0, 0), (139, 1, 12, 0, 1, 0)]) rfl) ?_
          refine xg_t (xg_aload (va := (2, 43)) rfl rfl) ?_
          refine xg_t (xg_getf (va := (2, 48)) (hF298.get (by decide) (hF279.get (by decide) (hF264.get (by decide) (hF51.get (by decide) (hb46.get (by decide) h43_38))))) rfl) ?_
          obtain ⟨⟨ht302, -, -, ht303, ht304⟩, -⟩ := id (hx280.fr (hF298.1 48 (by decide)))
          refine xg_cVv mX8_advance (vs := []) (rest := []) (cn1 := 0) (sl1 := 0) rfl (tkAdvX48 (hI297) (hB.fr ((hF298.1 2 (by decide)).trans ((hF279.1 2 (by decide)).trans ((hF264.1 2 (by decide)).trans ((hF51.1 2 (by decide)).trans ((hb46.1 2 (by decide)).trans (hF28.1 2 (by decide)))))))) ht302 (by rw [ht303]; exact tf_le ht304)) rfl (hF298.get (by decide) h48_293) rfl rfl rfl rfl rfl rfl (fun w305 hq306 => ?_)
          obtain ⟨hI307, hF308, hx309⟩ := hq306
          rw [ht303] at hx309
          clear ht302 ht303 ht304
          obtain ⟨p_310, hp311⟩ : ∃ x, x = tf B nn p_281 := ⟨_, rfl⟩
          rw [← hp311] at hx309
          refine xg_t (xg_aload (va := (2, 43)) rfl rfl) ?_
          refine xg_t (xg_getf (va := (2, 44)) (hF308.get (by decide) (hF298.get (by decide) (hF279.get (by decide) (hF264.get (by decide) (hF51.get (by decide) (hb46.get (by decide) h43_38)))))) rfl) ?_
          refine xg_t (xg_iload (va := (0, n41)) rfl rfl) ?_
          refine xg_t (xg_const) ?_
          refine xg_t (xg_iload (va := (0, 0)) rfl rfl) ?_
          refine xg_cVv mX5_put (vs := [(0, n41), (0, 0), (0, 0)]) (rest := []) (cn1 := 0) (sl1 := 0) rfl (rputI (lim := 16) (wd := 2) (B := 4294967295) (hF308.get (by decide) (hF298.get (by decide) (hF279.get (by decide) (hF264.get (by decide) (hF51.get (by decide) hk45))))) (((((((h45_22.fr hF28 (by decide)).but hb46 (by decide)).fr hF51 (by decide)).fr hF264 (by decide)).fr hF279 (by decide)).fr hF298 (by decide)).fr hF308 (by decide)) (hb23) (by decide) (by omega) (by decide) (by decide) (by omega) (by omega) (by omega)) rfl (hF308.get (by decide) (hF298.get (by decide) (hF279.get (by decide) (hF264.get (by decide) (hF51.get (by decide) hk45))))) rfl rfl rfl rfl rfl rfl (fun w312 hq313 => ?_)
          obtain ⟨g314, hr315, hb316, hb317⟩ := hq313
          refine xg_t (xg_aload (va := (2, 43)) rfl rfl) ?_
          refine xg_t (xg_getf (va := (2, 44)) (hb317.get (by decide) (hF308.get (by decide) (hF298.get (by decide) (hF279.get (by decide) (hF264.get (by decide) (hF51.get (by decide) (hb46.get (by decide) h43_38))))))) rfl) ?_
          refine xg_t (xg_iload (va := (0, n41)) rfl rfl) ?_
          refine xg_t (xg_const) ?_
          refine xg_t (xg_iload (va := (0, 0)) rfl rfl) ?_
          refine xg_cVv mX5_put (vs := [(0, n41), (0, 1), (0, 0)]) (rest := []) (cn1 := 0) (sl1 := 0) rfl (rputI (lim := 16) (wd := 2) (B := 4294967295) (hb317.get (by decide) (hF308.get (by decide) (hF298.get (by decide) (hF279.get (by decide) (hF264.get (by decide) (hF51.get (by decide) hk45)))))) hr315 (hb316) (by decide) (by omega) (by decide) (by decide) (by omega) (by omega) (by omega)) rfl (hb317.get (by decide) (hF308.get (by decide) (hF298.get (by decide) (hF279.get (by decide) (hF264.get (by decide) (hF51.get (by decide) hk45)))))) rfl rfl rfl rfl rfl rfl (fun w318 hq319 => ?_)
          obtain ⟨g320, hr321, hb322, hb323⟩ := hq319
          refine xg_t (xg_const) ?_
          have hq324 : fld w318 44 3 = s43 := fld_of (hb323.get (by decide) (hb317.get (by decide) (hF308.get (by decide) (hF298.get (by decide) (hF279.get (by decide) (hF264.get (by decide) (hF51.get (by decide) hk45)))))))
          have hz325 : (rlR B nn k p fp) = (true, p_310, g_30) := by rw [hE260, rvR_1 hv267, ← hp282, rvS_y hk301, ← hp311]
          exact xg_e ⟨1, w318, ⟨rfl, rfl⟩, ⟨Or.inl ⟨rfl, congrArg Prod.fst hz325⟩, by rw [hz325]; exact (hx309.fr ((hb323.1 48 (by decide)).trans (hb317.1 48 (by decide)))), by rw [hz325]; exact (hF_33.fr ((hb323.1 43 (by decide)).trans ((hb317.1 43 (by decide)).trans ((hF308.1 43 (by decide)).trans ((hF298.1 43 (by decide)).trans ((hF279.1 43 (by decide)).trans ((hF264.1 43 (by decide)).trans ((hF51.1 43 (by decide)).trans (hb46.1 43 (by decide)))))))))), hq324.trans hs47⟩, xInv.up (S := [45]) hI307 ((xFr.of (S := [45]) hb317 (by decide)).tr (xFr.of (S := [45]) hb323 (by decide))) (List.forall_mem_cons.mpr ⟨(show cpI 32 21 4294967295 (wget w318 45) from ⟨_, hr321, hb322⟩), fun _ h => absurd h List.not_mem_nil⟩), ((((((((hF28.up (by decide)).tr (xFr.of (S := [43, 44, 45, 46, 47, 48]) hb46 (by decide))).tr (hF51.up (by decide))).tr (hF264.up (by decide))).tr (hF279.up (by decide))).tr (hF298.up (by decide))).tr (hF308.up (by decide))).tr ((xFr.of (S := [43, 44, 45, 46, 47, 48]) hb317 (by decide)).tr (xFr.of (S := [43, 44, 45, 46, 47, 48]) hb323 (by decide))))⟩
        · refine xg_t (xg_ifF (u := 0) rfl xnm0 (by decide)) ?_
          refine xg_t (xg_const) ?_
          have hq326 : fld w295 44 3 = s43 := fld_of (hF298.get (by decide) (hF279.get (by decide) (hF264.get (by decide) (hF51.get (by decide) hk45))))
          have hz327 : (rlR B nn k p fp) = (false, p_281, g_30) := by rw [hE260, rvR_1 hv267, ← hp282, rvS_n hk301]
          exact xg_e ⟨0, w295, ⟨rfl, rfl⟩, ⟨Or.inr ⟨rfl, congrArg Prod.fst hz327⟩, by rw [hz327]; exact (hx280.fr (hF298.1 48 (by decide))), by rw [hz327]; exact (hF_33.fr ((hF298.1 43 (by decide)).trans ((hF279.1 43 (by decide)).trans ((hF264.1 43 (by decide)).trans ((hF51.1 43 (by decide)).trans (hb46.1 43 (by decide))))))), hq326.trans hs47⟩, hI297, ((((((hF28.up (by decide)).tr (xFr.of (S := [43, 44, 45, 46, 47, 48]) hb46 (by decide))).tr (hF51.up (by decide))).tr (hF264.up (by decide))).tr (hF279.up (by decide))).tr (hF298.up (by decide)))⟩
      · refine xg_t (xg_istore (l1 := [(1, (0, n41)), (0, (2, 43))]) rfl rfl rfl) ?_
        refine xg_t (xg_const) ?_
        refine xg_t (xg_istore (l1 := [(2, (0, n265)), (1, (0, n41)), (0, (2, 43))]) rfl rfl rfl) ?_
        refine xg_t (xg_iload (va := (0, n265)) rfl rfl) ?_
        refine xg_t (xg_const) ?_
        refine xg_t (xg_icT (u := n265) (v := 4294967295) rfl xnm0 xnm0 (xj_neT (by omega))) ?_
        refine xg_t (xg_blk (b := [(58, 1, 0, 0, 0, 0), (59, 3, 1, 6, 1, 38), (62, 3, 13, 312, 64, 108), (65, 1, 2, 2, 0, 0), (66, 3, 7, 97, 0, 0), (69, 1, 0, 0, 0, 0), (70, 3, 1, 6, 1, 38), (73, 3, 1, 8, 2, 56), (76, 1, 3, 2, 0, 0), (77, 3, 6, 82, 0, 0), (80, 1, 3, 0, 0, 0), (81, 1, 12, 0, 1, 0)]) rfl) ?_
        refine xg_t (xg_aload (va := (2, 43)) rfl rfl) ?_
        refine xg_t (xg_getf (va := (2, 48)) (hF264.get (by decide) (hF51.get (by decide) (hb46.get (by decide) h43_38))) rfl) ?_
        obtain ⟨⟨ht328, -, -, ht329, ht330⟩, -⟩ := id (hT.fr ((hF264.1 48 (by decide)).trans ((hF51.1 48 (by decide)).trans ((hb46.1 48 (by decide)).trans (hF28.1 48 (by decide))))))
        refine xg_cVv mX8_advance (vs := []) (rest := []) (cn1 := 0) (sl1 := 0) rfl (tkAdvX48 (hI263) (hB.fr ((hF264.1 2 (by decide)).trans ((hF51.1 2 (by decide)).trans ((hb46.1 2 (by decide)).trans (hF28.1 2 (by decide)))))) ht328 (by rw [ht329]; exact tf_le ht330)) rfl (hF264.get (by decide) (hF51.get (by decide) (hb46.get (by decide) (hF28.get (by decide) h48_16)))) rfl rfl rfl rfl rfl rfl (fun w331 hq332 => ?_)
        obtain ⟨hI333, hF334, hx335⟩ := hq332
        rw [ht329] at hx335
        clear ht328 ht329 ht330
        obtain ⟨p_336, hp337⟩ : ∃ x, x = tf B nn p := ⟨_, rfl⟩
        rw [← hp337] at hx335
        refine xg_t (xg_iload (va := (0, n265)) rfl rfl) ?_
        refine xg_t (xg_ifF (u := n265) rfl xnm0 (xj_eqF (by omega))) ?_
        obtain ⟨⟨ht338, ht339, ht340, ht341, ht342⟩, ht343⟩ := id hx335
        obtain ⟨f48_344, f48_346, f48_348, f48_350, f48_352, h48_354, hb345, hb347, hb349, hb351, hb353, hb355⟩ := (hI333 48 (by decide) : cp48 (wget w331 48))
        have hq356 : fld w331 48 1 = f48_344 := fld_of h48_354
        have hq357 : fld w331 48 2 = f48_346 := fld_of h48_354
        have hq358 : fld w331 48 3 = f48_348 := fld_of h48_354
        have hq359 : fld w331 48 4 = f48_350 := fld_of h48_354
        have hq360 : fld w331 48 5 = f48_352 := fld_of h48_354
        refine xg_t (xg_aload (va := (2, 43)) rfl rfl) ?_
        refine xg_t (xg_getf (va := (2, 48)) (hF334.get (by decide) (hF264.get (by decide) (hF51.get (by decide) (hb46.get (by decide) h43_38)))) rfl) ?_
        refine xg_t (xg_getf (va := (0, f48_346)) h48_354 rfl) ?_
        refine xg_t (xg_const) ?_
        by_cases hc361 : f48_346 = 2
        · refine xg_t (xg_icT (u := f48_346) (v := 2) rfl xnm0 xnm0 (xj_eqT hc361)) ?_
          refine xg_t (xg_blk (b := [(82, 1, 0, 0, 0, 0), (83, 3, 1, 6, 1, 38), (86, 3, 1, 8, 5, 111), (89, 1, 15, 3, 0, 0), (90, 1, 0, 0, 0, 0), (91, 3, 1, 6, 1, 38), (94, 3, 13, 312, 64, 108)]) rfl) ?_
          refine xg_t (xg_aload (va := (2, 43)) rfl rfl) ?_
          refine xg_t (xg_getf (va := (2, 48)) (hF334.get (by decide) (hF264.get (by decide) (hF51.get (by decide) (hb46.get (by decide) h43_38)))) rfl) ?_
          refine xg_t (xg_getf (va := (0, f48_352)) h48_354 rfl) ?_
          refine xg_t (xg_istore (l1 := [(2, (0, n265)), (1, (0, n41)), (0, (2, 43))]) rfl rfl rfl) ?_
          refine xg_t (xg_aload (va := (2, 43)) rfl rfl) ?_
          refine xg_t (xg_getf (va := (2, 48)) (hF334.get (by decide) (hF264.get (by decide) (hF51.get (by decide) (hb46.get (by decide) h43_38)))) rfl) ?_
          obtain ⟨⟨ht362, -, -, ht363, ht364⟩, -⟩ := id hx335
          refine xg_cVv mX8_advance (vs := []) (rest := []) (cn1 := 0) (sl1 := 0) rfl (tkAdvX48 (hI333) (hB.fr ((hF334.1 2 (by decide)).trans ((hF264.1 2 (by decide)).trans ((hF51.1 2 (by decide)).trans ((hb46.1 2 (by decide)).trans (hF28.1 2 (by decide))))))) ht362 (by rw [ht363]; exact tf_le ht364)) rfl h48_354 rfl rfl rfl rfl rfl rfl (fun w365 hq366 => ?_)
          obtain ⟨hI367, hF368, hx369⟩ := hq366
          rw [ht363] at hx369
          clear ht362 ht363 ht364
          obtain ⟨p_370, hp371⟩ : ∃ x, x = tf B nn p_336 := ⟨_, rfl⟩
          rw [← hp371] at hx369
          refine xg_t (xg_blk (b := [(97, 1, 0, 0, 0, 0), (98, 3, 1, 6, 1, 38), (101, 2, 4, 59, 0, 0), (103, 3, 13, 316, 64, 114), (106, 3, 7, 111, 1, 0), (109, 1, 3, 0, 0, 0), (110, 1, 12, 0, 1, 0)]) rfl) ?_
          refine xg_t (xg_aload (va := (2, 43)) rfl rfl) ?_
          refine xg_t (xg_getf (va := (2, 48)) (hF368.get (by decide) (hF334.get (by decide) (hF264.get (by decide) (hF51.get (by decide) (hb46.get (by decide) h43_38))))) rfl) ?_
          refine xg_t (xg_bip) ?_
          obtain ⟨f48_372, f48_374, f48_376, f48_378, f48_380, h48_382, hb373, hb375, hb377, hb379, hb381, hb383⟩ := (hI367 48 (by decide) : cp48 (wget w365 48))
          refine xg_cVi mX8_isSign (vs := [(0, 59)]) (rest := []) (cn1 := 0) (sl1 := 0) rfl (tkSigX48 (hI367) (by omega) (hB.fr ((hF368.1 2 (by decide)).trans ((hF334.1 2 (by decide)).trans ((hF264.1 2 (by decide)).trans ((hF51.1 2 (by decide)).trans ((hb46.1 2 (by decide)).trans (hF28.1 2 (by decide)))))))) hx369) rfl h48_382 rfl rfl rfl rfl rfl rfl (fun n388 w384 hq385 => ?_)
          obtain ⟨hn389, hI386, hF387⟩ := hq385
          rcases hn389 with ⟨rfl, hk390⟩ | ⟨rfl, hk390⟩
          · refine xg_t (xg_ifT (u := 1) rfl xnm0 (by decide)) ?_
            refine xg_t (xg_blk (b := [(111, 1, 0, 0, 0, 0), (112, 3, 1, 6, 1, 38), (115, 3, 13, 312, 64, 108), (118, 1, 0, 0, 0, 0), (119, 3, 1, 6, 2, 16), (122, 1, 2, 1, 0, 0), (123, 1, 3, 0, 0, 0), (124, 1, 2, 2, 0, 0), (125, 3, 13, 290, 40, 118), (128, 1, 0, 0, 0, 0), (129, 3, 1, 6, 2, 16), (132, 1, 2, 1, 0, 0), (133, 1, 3, 1, 0, 0), (134, 1, 2, 3, 0, 0), (135, 3, 13, 290, 40, 118), (138, 1, 3, 1, 0, 0), (139, 1, 12, 0, 1, 0)]) rfl) ?_
            refine xg_t (xg_aload (va := (2, 43)) rfl rfl) ?_
            refine xg_t (xg_getf (va := (2, 48)) (hF387.get (by decide) (hF368.get (by decide) (hF334.get (by decide) (hF264.get (by decide) (hF51.get (by decide) (hb46.get (by decide) h43_38)))))) rfl) ?_
            obtain ⟨⟨ht391, -, -, ht392, ht393⟩, -⟩ := id (hx369.fr (hF387.1 48 (by decide)))
            refine xg_cVv mX8_advance (vs := []) (rest := []) (cn1 := 0) (sl1 := 0) rfl (tkAdvX48 (hI386) (hB.fr ((hF387.1 2 (by decide)).trans ((hF368.1 2 (by decide)).trans ((hF334.1 2 (by decide)).trans ((hF264.1 2 (by decide)).trans ((hF51.1 2 (by decide)).trans ((hb46.1 2 (by decide)).trans (hF28.1 2 (by decide))))))))) ht391 (by rw [ht392]; exact tf_le ht393)) rfl (hF387.get (by decide) h48_382) rfl rfl rfl rfl rfl rfl (fun w394 hq395 => ?_)
            obtain ⟨hI396, hF397, hx398⟩ := hq395
            rw [ht392] at hx398
            clear ht391 ht392 ht393
            obtain ⟨p_399, hp400⟩ : ∃ x, x = tf B nn p_370 := ⟨_, rfl⟩
            rw [← hp400] at hx398
            refine xg_t (xg_aload (va := (2, 43)) rfl rfl) ?_
            refine xg_t (xg_getf (va := (2, 44)) (hF397.get (by decide) (hF387.get (by decide) (hF368.get (by decide) (hF334.get (by decide) (hF264.get (by decide) (hF51.get (by decide) (hb46.get (by decide) h43_38))))))) rfl) ?_
            refine xg_t (xg_iload (va := (0, n41)) rfl rfl) ?_
            refine xg_t (xg_const) ?_
            refine xg_t (xg_iload (va := (0, n265)) rfl rfl) ?_
            refine xg_cVv mX5_put (vs := [(0, n41), (0, 0), (0, n265)]) (rest := []) (cn1 := 0) (sl1 := 0) rfl (rputI (lim := 16) (wd := 2) (B := 4294967295) (hF397.get (by decide) (hF387.get (by decide) (hF368.get (by decide) (hF334.get (by decide) (hF264.get (by decide) (hF51.get (by decide) hk45)))))) ((((((((h45_22.fr hF28 (by decide)).but hb46 (by decide)).fr hF51 (by decide)).fr hF264 (by decide)).fr hF334 (by decide)).fr hF368 (by decide)).fr hF387 (by decide)).fr hF397 (by decide)) (hb23) (by decide) (by omega) (by decide) (by decide) (by omega) (by omega) (by omega)) rfl (hF397.get (by decide) (hF387.get (by decide) (hF368.get (by decide) (hF334.get (by decide) (hF264.get (by decide) (hF51.get (by decide) hk45)))))) rfl rfl rfl rfl rfl rfl (fun w401 hq402 => ?_)
            obtain ⟨g403, hr404, hb405, hb406⟩ := hq402
            refine xg_t (xg_aload (va := (2, 43)) rfl rfl) ?_
            refine xg_t (xg_getf (va := (2, 44)) (hb406.get (by decide) (hF397.get (by decide) (hF387.get (by decide) (hF368.get (by decide) (hF334.get (by decide) (hF264.get (by decide) (hF51.get (by decide) (hb46.get (by decide) h43_38)))))))) rfl) ?_
            refine xg_t (xg_iload (va := (0, n41)) rfl rfl) ?_
            refine xg_t (xg_const) ?_
            refine xg_t (xg_iload (va := (0, f48_352)) rfl rfl) ?_
            refine xg_cVv mX5_put (vs := [(0, n41), (0, 1), (0, f48_352)]) (rest := []) (cn1 := 0) (sl1 := 0) rfl (rputI (lim := 16) (wd := 2) (B := 4294967295) (hb406.get (by decide) (hF397.get (by decide) (hF387.get (by decide) (hF368.get (by decide) (hF334.get (by decide) (hF264.get (by decide) (hF51.get (by decide) hk45))))))) hr404 (hb405) (by decide) (by omega) (by decide) (by decide) (by omega) (by omega) (by omega)) rfl (hb406.get (by decide) (hF397.get (by decide) (hF387.get (by decide) (hF368.get (by decide) (hF334.get (by decide) (hF264.get (by decide) (hF51.get (by decide) hk45))))))) rfl rfl rfl rfl rfl rfl (fun w407 hq408 => ?_)
            obtain ⟨g409, hr410, hb411, hb412⟩ := hq408
            refine xg_t (xg_const) ?_
            have hq413 : fld w407 44 3 = s43 := fld_of (hb412.get (by decide) (hb406.get (by decide) (hF397.get (by decide) (hF387.get (by decide) (hF368.get (by decide) (hF334.get (by decide) (hF264.get (by decide) (hF51.get (by decide) hk45))))))))
            have hz414 : (rlR B nn k p fp) = (true, p_399, g_30) := by rw [hE260, rvR_2 hv268 hv269 (by rw [← hp337]; omega), ← hp337, ← hp371, rvS_y hk390, ← hp400]
            exact xg_e ⟨1, w407, ⟨rfl, rfl⟩, ⟨Or.inl ⟨rfl, congrArg Prod.fst hz414⟩, by rw [hz414]; exact (hx398.fr ((hb412.1 48 (by decide)).trans (hb406.1 48 (by decide)))), by rw [hz414]; exact (hF_33.fr ((hb412.1 43 (by decide)).trans ((hb406.1 43 (by decide)).trans ((hF397.1 43 (by decide)).trans ((hF387.1 43 (by decide)).trans ((hF368.1 43 (by decide)).trans ((hF334.1 43 (by decide)).trans ((hF264.1 43 (by decide)).trans ((hF51.1 43 (by decide)).trans (hb46.1 43 (by decide))))))))))), hq413.trans hs47⟩, xInv.up (S := [45]) hI396 ((xFr.of (S := [45]) hb406 (by decide)).tr (xFr.of (S := [45]) hb412 (by decide))) (List.forall_mem_cons.mpr ⟨(show cpI 32 21 4294967295 (wget w407 45) from ⟨_, hr410, hb411⟩), fun _ h => absurd h List.not_mem_nil⟩), (((((((((hF28.up (by decide)).tr (xFr.of (S := [43, 44, 45, 46, 47, 48]) hb46 (by decide))).tr (hF51.up (by decide))).tr (hF264.up (by decide))).tr (hF334.up (by decide))).tr (hF368.up (by decide))).tr (hF387.up (by decide))).tr (hF397.up (by decide))).tr ((xFr.of (S := [43, 44, 45, 46, 47, 48]) hb406 (by decide)).tr (xFr.of (S := [43, 44, 45, 46, 47, 48]) hb412 (by decide))))⟩
          · refine xg_t (xg_ifF (u := 0) rfl xnm0 (by decide)) ?_
            refine xg_t (xg_const) ?_
            have hq415 : fld w384 44 3 = s43 := fld_of (hF387.get (by decide) (hF368.get (by decide) (hF334.get (by decide) (hF264.get (by decide) (hF51.get (by decide) hk45)))))
            have hz416 : (rlR B nn k p fp) = (false, p_370, g_30) := by rw [hE260, rvR_2 hv268 hv269 (by rw [← hp337]; omega), ← hp337, ← hp371, rvS_n hk390]
            exact xg_e ⟨0, w384, ⟨rfl, rfl⟩, ⟨Or.inr ⟨rfl, congrArg Prod.fst hz416⟩, by rw [hz416]; exact (hx369.fr (hF387.1 48 (by decide))), by rw [hz416]; exact (hF_33.fr ((hF387.1 43 (by decide)).trans ((hF368.1 43 (by decide)).trans ((hF334.1 43 (by decide)).trans ((hF264.1 43 (by decide)).trans ((hF51.1 43 (by decide)).trans (hb46.1 43 (by decide)))))))), hq415.trans hs47⟩, hI386, (((((((hF28.up (by decide)).tr (xFr.of (S := [43, 44, 45, 46, 47, 48]) hb46 (by decide))).tr (hF51.up (by decide))).tr (hF264.up (by decide))).tr (hF334.up (by decide))).tr (hF368.up (by decide))).tr (hF387.up (by decide)))⟩
        · refine xg_t (xg_icF (u := f48_346) (v := 2) rfl xnm0 xnm0 (xj_eqF hc361)) ?_
          refine xg_t (xg_const) ?_
          have hq417 : fld w331 44 3 = s43 := fld_of (hF334.get (by decide) (hF264.get (by decide) (hF51.get (by decide) hk45)))
          have hz418 : (rlR B nn k p fp) = (false, p_336, g_30) := by rw [hE260, rvR_3 hv268 hv269 (by rw [← hp337]; omega), ← hp337]
          exact xg_e ⟨0, w331, ⟨rfl, rfl⟩, ⟨Or.inr ⟨rfl, congrArg Prod.fst hz418⟩, by rw [hz418]; exact hx335, by rw [hz418]; exact (hF_33.fr ((hF334.1 43 (by decide)).trans ((hF264.1 43 (by decide)).trans ((hF51.1 43 (by decide)).trans (hb46.1 43 (by decide)))))), hq417.trans hs47⟩, hI333, (((((hF28.up (by decide)).tr (xFr.of (S := [43, 44, 45, 46, 47, 48]) hb46 (by decide))).tr (hF51.up (by decide))).tr (hF264.up (by decide))).tr (hF334.up (by decide)))⟩
      · refine xg_t (xg_istore (l1 := [(1, (0, n41)), (0, (2, 43))]) rfl rfl rfl) ?_
        refine xg_t (xg_const) ?_
        refine xg_t (xg_istore (l1 := [(2, (0, 4294967295)), (1, (0, n41)), (0, (2, 43))]) rfl rfl rfl) ?_
        refine xg_t (xg_iload (va := (0, 4294967295)) rfl rfl) ?_
        refine xg_t (xg_const) ?_
        refine xg_t (xg_icF (u := 4294967295) (v := 4294967295) rfl xnm0 xnm0 (by decide)) ?_
        refine xg_t (xg_const) ?_
        have hq419 : fld w261 44 3 = s43 := fld_of (hF264.get (by decide) (hF51.get (by decide) hk45))
        have hz420 : (rlR B nn k p fp) = (false, p, g_30) := by rw [hE260, rvR_0 hv272]
        exact xg_e ⟨0, w261, ⟨rfl, rfl⟩, ⟨Or.inr ⟨rfl, congrArg Prod.fst hz420⟩, by rw [hz420]; exact (hT.fr ((hF264.1 48 (by decide)).trans ((hF51.1 48 (by decide)).trans ((hb46.1 48 (by decide)).trans (hF28.1 48 (by decide)))))), by rw [hz420]; exact (hF_33.fr ((hF264.1 43 (by decide)).trans ((hF51.1 43 (by decide)).trans (hb46.1 43 (by decide))))), hq419.trans hs47⟩, hI263, ((((hF28.up (by decide)).tr (xFr.of (S := [43, 44, 45, 46, 47, 48]) hb46 (by decide))).tr (hF51.up (by decide))).tr (hF264.up (by decide)))⟩
  · refine xg_t (xg_ifT (u := (if 16 ≤ f44_18 then 1 else 0)) rfl xnm0 (xj_eqT (xite0 hc24))) ?_
    refine xg_t (xg_blk (b := [(14, 1, 0, 0, 0, 0), (15, 3, 1, 6, 2, 16), (18, 3, 13, 286, 40, 91), (21, 1, 15, 1, 0, 0), (22, 1, 0, 0, 0, 0), (23, 3, 1, 6, 1, 38), (26, 2, 72, 20, 0, 95), (28, 3, 13, 318, 64, 97), (31, 3, 7, 44, 0, 0), (34, 1, 0, 0, 0, 0), (35, 1, 2, 1, 0, 0), (36, 3, 13, 297, 48, 101), (39, 3, 7, 44, 1, 0), (42, 1, 3, 0, 0, 0), (43, 1, 12, 0, 1, 0)]) rfl) ?_
    obtain ⟨g_421, hg422⟩ : ∃ x, x = rlg B nn k p fp := ⟨_, rfl⟩
    have hF_424 : FTr w g_421 := by
      rw [hg422, rlg_n (by omega)]
      exact hF
    refine xg_t (xg_aload (va := (2, 43)) rfl rfl) ?_
    refine xg_t (xg_getf (va := (2, 44)) h43_5 rfl) ?_
    refine xg_cVi mX5_grow (vs := []) (rest := []) (cn1 := 0) (sl1 := 0) rfl (rgrowM h44_20 (by decide) (by omega)) rfl h44_20 rfl rfl rfl rfl rfl rfl (fun n427 w425 hq426 => ?_)
    obtain ⟨hn428, s429, hs430, hk431, hb432⟩ := hq426
    have hs433 : s429 = min (k + 1) 16 := by omega
    refine xg_t (xg_istore (l1 := [(0, (2, 43))]) rfl rfl rfl) ?_
    refine xg_t (xg_aload (va := (2, 43)) rfl rfl) ?_
    refine xg_t (xg_getf (va := (2, 48)) (hb432.get (by decide) h43_5) rfl) ?_
    refine xg_t (xg_ldcS) ?_
    refine xg_cVi mX8_isWord (vs := [(8, 120)]) (rest := []) (cn1 := 0) (sl1 := 0) rfl (tkWrdX48 (C := 294) (xInv.up (S := [44]) hI (xFr.of (S := [44]) hb432 (by decide)) (List.forall_mem_cons.mpr ⟨(show cp44 (wget w425 44) from ⟨s429, hk431, by omega⟩), fun _ h => absurd h List.not_mem_nil⟩)) (i := 20) rfl (hB.fr (hb432.1 2 (by decide))) (hT.fr (hb432.1 48 (by decide))) (by decide +kernel)) rfl (hb432.get (by decide) h48_16) rfl rfl rfl rfl rfl rfl (fun n438 w434 hq435 => ?_)
    obtain ⟨hn439, hI436, hF437⟩ := hq435
    rcases hn439 with ⟨rfl, hk440⟩ | ⟨rfl, hk440⟩
    · refine xg_t (xg_ifF (u := 1) rfl xnm0 (by decide)) ?_
      refine xg_t (xg_aload (va := (2, 43)) rfl rfl) ?_
      refine xg_t (xg_iload (va := (0, n427)) rfl rfl) ?_
      have hw441 : rwx B nn p = 50 := wixR_50.mpr hk440
      refine xg_cVi mX6_readTests (vs := [(0, n427)]) (rest := []) (cn1 := 0) (sl1 := 0) rfl (rtTestsX (hI436) (hB.fr ((hF437.1 2 (by decide)).trans (hb432.1 2 (by decide)))) (hT.fr ((hF437.1 48 (by decide)).trans (hb432.1 48 (by decide)))) (rwx_1 (by rw [hw441]; decide)) (hF_424.fr ((hF437.1 43 (by decide)).trans (hb432.1 43 (by decide)))) (by omega)) rfl (hF437.get (by decide) (hb432.get (by decide) h43_5)) rfl rfl rfl rfl rfl rfl (fun n446 w442 hq443 => ?_)
      obtain ⟨hn447, hI444, hF445⟩ := hq443
      obtain ⟨hn448, hn449, hn450⟩ := hn447
      obtain ⟨t_451, ht452⟩ : ∃ x, x = rs B nn 0 (tf B nn p) g_421 := ⟨_, rfl⟩
      rw [← ht452] at hn448 hn449 hn450
      rcases hn448 with ⟨rfl, hy453⟩ | ⟨rfl, hy453⟩
      · have hE454 : (rlR B nn k p fp) = rvR B nn t_451.2.1 t_451.2.2 := by rw [rlR_1 hw441 (by rw [← hg422, ← ht452]; exact hy453), ← hg422, ← ht452]
        refine xg_t (xg_ifT (u := 1) rfl xnm0 (by decide)) ?_
        refine xg_t (xg_blk (b := [(44, 1, 0, 0, 0, 0), (45, 3, 13, 298, 48, 105), (48, 1, 15, 2, 0, 0), (49, 1, 3, 0, 0, 0), (50, 1, 15, 3, 0, 0), (51, 1, 2, 2, 0, 0), (52, 1, 3, 4294967295, 0, 0), (53, 3, 6, 58, 1, 0), (56, 1, 3, 0, 0, 0), (57, 1, 12, 0, 1, 0)]) rfl) ?_
        refine xg_t (xg_aload (va := (2, 43)) rfl rfl) ?_
        obtain ⟨f43_455, f43_457, h43_459, hb456, hb458⟩ := (hI444 43 (by decide) : cp43 (wget w442 43))
        refine xg_cVi mX6_verbOfWord (vs := []) (rest := []) (cn1 := 0) (sl1 := 0) rfl (rtVerbX (hI444) (hB.fr ((hF445.1 2 (by decide)).trans ((hF437.1 2 (by decide)).trans (hb432.1 2 (by decide))))) hn449) rfl h43_459 rfl rfl rfl rfl rfl rfl (fun n464 w460 hq461 => ?_)
        obtain ⟨hn465, hI462, hF463⟩ := hq461
        rcases hn465 with ⟨hv466, rfl⟩ | ⟨hv467, hv468, hv469, hv470⟩ | ⟨hv471, rfl⟩
        · refine xg_t (xg_istore (l1 := [(1, (0, n427)), (0, (2, 43))]) rfl rfl rfl) ?_
          refine xg_t (xg_const) ?_
          refine xg_t (xg_istore (l1 := [(2, (0, 0)), (1, (0, n427)), (0, (2, 43))]) rfl rfl rfl) ?_
          refine xg_t (xg_iload (va := (0, 0)) rfl rfl) ?_
          refine xg_t (xg_const) ?_
          refine xg_t (xg_icT (u := 0) (v := 4294967295) rfl xnm0 xnm0 (by decide)) ?_
          refine xg_t (xg_blk (b := [(58, 1, 0, 0, 0, 0), (59, 3, 1, 6, 1, 38), (62, 3, 13, 312, 64, 108), (65, 1, 2, 2, 0, 0), (66, 3, 7, 97, 0, 0), (69, 1, 0, 0, 0, 0), (70, 3, 1, 6, 1, 38), (73, 3, 1, 8, 2, 56), (76, 1, 3, 2, 0, 0), (77, 3, 6, 82, 0, 0), (80, 1, 3, 0, 0, 0), (81, 1, 12, 0, 1, 0)]) rfl) ?_
          refine xg_t (xg_aload (va := (2, 43)) rfl rfl) ?_
          refine xg_t (xg_getf (va := (2, 48)) (hF463.get (by decide) h43_459) rfl) ?_
          obtain ⟨⟨ht472, -, -, ht473, ht474⟩, -⟩ := id (hn449.fr (hF463.1 48 (by decide)))
          obtain ⟨f48_475, f48_477, f48_479, f48_481, f48_483, h48_485, hb476, hb478, hb480, hb482, hb484, hb486⟩ := (hI462 48 (by decide) : cp48 (wget w460 48))
          refine xg_cVv mX8_advance (vs := []) (rest := []) (cn1 := 0) (sl1 := 0) rfl (tkAdvX48 (hI462) (hB.fr ((hF463.1 2 (by decide)).trans ((hF445.1 2 (by decide)).trans ((hF437.1 2 (by decide)).trans (hb432.1 2 (by decide)))))) ht472 (by rw [ht473]; exact tf_le ht474)) rfl h48_485 rfl rfl rfl rfl rfl rfl (fun w487 hq488 => ?_)
          obtain ⟨hI489, hF490, hx491⟩ := hq488
          rw [ht473] at hx491
          clear ht472 ht473 ht474
          obtain ⟨p_492, hp493⟩ : ∃ x, x = tf B nn t_451.2.1 := ⟨_, rfl⟩
          rw [← hp493] at hx491
          refine xg_t (xg_iload (va := (0, 0)) rfl rfl) ?_
          refine xg_t (xg_ifT (u := 0) rfl xnm0 (by decide)) ?_
          refine xg_t (xg_blk (b := [(97, 1, 0, 0, 0, 0), (98, 3, 1, 6, 1, 38), (101, 2, 4, 59, 0, 0), (103, 3, 13, 316, 64, 114), (106, 3, 7, 111, 1, 0), (109, 1, 3, 0, 0, 0), (110, 1, 12, 0, 1, 0)]) rfl) ?_
          refine xg_t (xg_aload (va := (2, 43)) rfl rfl) ?_
          refine xg_t (xg_getf (va := (2, 48)) (hF490.get (by decide) (hF463.get (by decide) h43_459)) rfl) ?_
          refine xg_t (xg_bip) ?_
          obtain ⟨f48_494, f48_496, f48_498, f48_500, f48_502, h48_504, hb495, hb497, hb499, hb501, hb503, hb505⟩ := (hI489 48 (by decide) : cp48 (wget w487 48))
          refine xg_cVi mX8_isSign (vs := [(0, 59)]) (rest := []) (cn1 := 0) (sl1 := 0) rfl (tkSigX48 (hI489) (by omega) (hB.fr ((hF490.1 2 (by decide)).trans ((hF463.1 2 (by decide)).trans ((hF445.1 2 (by decide)).trans ((hF437.1 2 (by decide)).trans (hb432.1 2 (by decide))))))) hx491) rfl h48_504 rfl rfl rfl rfl rfl rfl (fun n510 w506 hq507 => ?_)
          obtain ⟨hn511, hI508, hF509⟩ := hq507
          rcases hn511 with ⟨rfl, hk512⟩ | ⟨rfl, hk512⟩
          · refine xg_t (xg_ifT (u := 1) rfl xnm0 (by decide)) ?_
            refine xg_t (xg_blk (b := [(111, 1, 0, 0, 0, 0), (112, 3, 1, 6, 1, 38), (115, 3, 13, 312, 64, 108), (118, 1, 0, 0, 0, 0), (119, 3, 1, 6, 2, 16), (122, 1, 2, 1, 0, 0), (123, 1, 3, 0, 0, 0), (124, 1, 2, 2, 0, 0), (125, 3, 13, 290, 40, 118), (128, 1, 0, 0, 0, 0), (129, 3, 1, 6, 2, 16), (132, 1, 2, 1, 0, 0), (133, 1, 3, 1, 0, 0), (134, 1, 2, 3, 0, 0), (135, 3, 13, 290, 40, 118), (138, 1, 3, 1, 0, 0), (139, 1, 12, 0, 1, 0)]) rfl) ?_
            refine xg_t (xg_aload (va := (2, 43)) rfl rfl) ?_
            refine xg_t (xg_getf (va := (2, 48)) (hF509.get (by decide) (hF490.get (by decide) (hF463.get (by decide) h43_459))) rfl) ?_
            obtain ⟨⟨ht513, -, -, ht514, ht515⟩, -⟩ := id (hx491.fr (hF509.1 48 (by decide)))
            refine xg_cVv mX8_advance (vs := []) (rest := []) (cn1 := 0) (sl1 := 0) rfl (tkAdvX48 (hI508) (hB.fr ((hF509.1 2 (by decide)).trans ((hF490.1 2 (by decide)).trans ((hF463.1 2 (by decide)).trans ((hF445.1 2 (by decide)).trans ((hF437.1 2 (by decide)).trans (hb432.1 2 (by decide)))))))) ht513 (by rw [ht514]; exact tf_le ht515)) rfl (hF509.get (by decide) h48_504) rfl rfl rfl rfl rfl rfl (fun w516 hq517 => ?_)
            obtain ⟨hI518, hF519, hx520⟩ := hq517
            rw [ht514] at hx520
            clear ht513 ht514 ht515
            obtain ⟨p_521, hp522⟩ : ∃ x, x = tf B nn p_492 := ⟨_, rfl⟩
            rw [← hp522] at hx520
            refine xg_t (xg_aload (va := (2, 43)) rfl rfl) ?_
            refine xg_t (xg_getf (va := (2, 44)) (hF519.get (by decide) (hF509.get (by decide) (hF490.get (by decide) (hF463.get (by decide) h43_459)))) rfl) ?_
            refine xg_t (xg_iload (va := (0, n427)) rfl rfl) ?_
            refine xg_t (xg_const) ?_
            refine xg_t (xg_iload (va := (0, 0)) rfl rfl) ?_
            refine xg_cVv mX5_put (vs := [(0, n427), (0, 0), (0, 0)]) (rest := []) (cn1 := 0) (sl1 := 0) rfl (rputI (lim := 16) (wd := 2) (B := 4294967295) (hF519.get (by decide) (hF509.get (by decide) (hF490.get (by decide) (hF463.get (by decide) (hF445.get (by decide) (hF437.get (by decide) hk431)))))) (((((((h45_22.but hb432 (by decide)).fr hF437 (by decide)).fr hF445 (by decide)).fr hF463 (by decide)).fr hF490 (by decide)).fr hF509 (by decide)).fr hF519 (by decide)) (hb23) (by decide) (by omega) (by decide) (by decide) (by omega) (by omega) (by omega)) rfl (hF519.get (by decide) (hF509.get (by decide) (hF490.get (by decide) (hF463.get (by decide) (hF445.get (by decide) (hF437.get (by decide) hk431)))))) rfl rfl rfl rfl rfl rfl (fun w523 hq524 => ?_)
            obtain ⟨g525, hr526, hb527, hb528⟩ := hq524
            refine xg_t (xg_aload (va := (2, 43)) rfl rfl) ?_
            refine xg_t (xg_getf (va := (2, 44)) (hb528.get (by decide) (hF519.get (by decide) (hF509.get (by decide) (hF490.get (by decide) (hF463.get (by decide) h43_459))))) rfl) ?_
            refine xg_t (xg_iload (va := (0, n427)) rfl rfl) ?_
            refine xg_t (xg_const) ?_
            refine xg_t (xg_iload (va := (0, 0)) rfl rfl) ?_
            refine xg_cVv mX5_put (vs := [(0, n427), (0, 1), (0, 0)]) (rest := []) (cn1 := 0) (sl1 := 0) rfl (rputI (lim := 16) (wd := 2) (B := 4294967295) (hb528.get (by decide) (hF519.get (by decide) (hF509.get (by decide) (hF490.get (by decide) (hF463.get (by decide) (hF445.get (by decide) (hF437.get (by decide) hk431))))))) hr526 (hb527) (by decide) (by omega) (by decide) (by decide) (by omega) (by omega) (by omega)) rfl (hb528.get (by decide) (hF519.get (by decide) (hF509.get (by decide) (hF490.get (by decide) (hF463.get (by decide) (hF445.get (by decide) (hF437.get (by decide) hk431))))))) rfl rfl rfl rfl rfl rfl (fun w529 hq530 => ?_)
            obtain ⟨g531, hr532, hb533, hb534⟩ := hq530
            refine xg_t (xg_const) ?_
            have hq535 : fld w529 44 3 = s429 := fld_of (hb534.get (by decide) (hb528.get (by decide) (hF519.get (by decide) (hF509.get (by decide) (hF490.get (by decide) (hF463.get (by decide) (hF445.get (by decide) (hF437.get (by decide) hk431))))))))
            have hz536 : (rlR B nn k p fp) = (true, p_521, t_451.2.2) := by rw [hE454, rvR_1 hv466, ← hp493, rvS_y hk512, ← hp522]
            exact xg_e ⟨1, w529, ⟨rfl, rfl⟩, ⟨Or.inl ⟨rfl, congrArg Prod.fst hz536⟩, by rw [hz536]; exact (hx520.fr ((hb534.1 48 (by decide)).trans (hb528.1 48 (by decide)))), by rw [hz536]; exact (hn450.fr ((hb534.1 43 (by decide)).trans ((hb528.1 43 (by decide)).trans ((hF519.1 43 (by decide)).trans ((hF509.1 43 (by decide)).trans ((hF490.1 43 (by decide)).trans (hF463.1 43 (by decide)))))))), hq535.trans hs433⟩, xInv.up (S := [45]) hI518 ((xFr.of (S := [45]) hb528 (by decide)).tr (xFr.of (S := [45]) hb534 (by decide))) (List.forall_mem_cons.mpr ⟨(show cpI 32 21 4294967295 (wget w529 45) from ⟨_, hr532, hb533⟩), fun _ h => absurd h List.not_mem_nil⟩), ((((((((xFr.of (S := [43, 44, 45, 46, 47, 48]) hb432 (by decide)).tr (hF437.up (by decide))).tr (hF445.up (by decide))).tr (hF463.up (by decide))).tr (hF490.up (by decide))).tr (hF509.up (by decide))).tr (hF519.up (by decide))).tr ((xFr.of (S := [43, 44, 45, 46, 47, 48]) hb528 (by decide)).tr (xFr.of (S := [43, 44, 45, 46, 47, 48]) hb534 (by decide))))⟩
          · refine xg_t (xg_ifF (u := 0) rfl xnm0 (by decide)) ?_
            refine xg_t (xg_const) ?_
            have hq537 : fld w506 44 3 = s429 := fld_of (hF509.get (by decide) (hF490.get (by decide) (hF463.get (by decide) (hF445.get (by decide) (hF437.get (by decide) hk431)))))
            have hz538 : (rlR B nn k p fp) = (false, p_492, t_451.2.2) := by rw [hE454, rvR_1 hv466, ← hp493, rvS_n hk512]
            exact xg_e ⟨0, w506, ⟨rfl, rfl⟩, ⟨Or.inr ⟨rfl, congrArg Prod.fst hz538⟩, by rw [hz538]; exact (hx491.fr (hF509.1 48 (by decide))), by rw [hz538]; exact (hn450.fr ((hF509.1 43 (by decide)).trans ((hF490.1 43 (by decide)).trans (hF463.1 43 (by decide))))), hq537.trans hs433⟩, hI508, ((((((xFr.of (S := [43, 44, 45, 46, 47, 48]) hb432 (by decide)).tr (hF437.up (by decide))).tr (hF445.up (by decide))).tr (hF463.up (by decide))).tr (hF490.up (by decide))).tr (hF509.up (by decide)))⟩
        · refine xg_t (xg_istore (l1 := [(1, (0, n427)), (0, (2, 43))]) rfl rfl rfl) ?_
          refine xg_t (xg_const) ?_
          refine xg_t (xg_istore (l1 := [(2, (0, n464)), (1, (0, n427)), (0, (2, 43))]) rfl rfl rfl) ?_
          refine xg_t (xg_iload (va := (0, n464)) rfl rfl) ?_
          refine xg_t (xg_const) ?_
          refine xg_t (xg_icT (u := n464) (v := 4294967295) rfl xnm0 xnm0 (xj_neT (by omega))) ?_
          refine xg_t (xg_blk (b := [(58, 1, 0, 0, 0, 0), (59, 3, 1, 6, 1, 38), (62, 3, 13, 312, 64, 108), (65, 1, 2, 2, 0, 0), (66, 3, 7, 97, 0, 0), (69, 1, 0, 0, 0, 0), (70, 3, 1, 6, 1, 38), (73, 3, 1, 8, 2, 56), (76, 1, 3, 2, 0, 0), (77, 3, 6, 82, 0, 0), (80, 1, 3, 0, 0, 0), (81, 1, 12, 0, 1, 0)]) rfl) ?_
          refine xg_t (xg_aload (va := (2, 43)) rfl rfl) ?_
          refine xg_t (xg_getf (va := (2, 48)) (hF463.get (by decide) h43_459) rfl) ?_
          obtain ⟨⟨ht539, -, -, ht540, ht541⟩, -⟩ := id (hn449.fr (hF463.1 48 (by decide)))
          obtain ⟨f48_542, f48_544, f48_546, f48_548, f48_550, h48_552, hb543, hb545, hb547, hb549, hb551, hb553⟩ := (hI462 48 (by decide) : cp48 (wget w460 48))
          refine xg_cVv mX8_advance (vs := []) (rest := []) (cn1 := 0) (sl1 := 0) rfl (tkAdvX48 (hI462) (hB.fr ((hF463.1 2 (by decide)).trans ((hF445.1 2 (by decide)).trans ((hF437.1 2 (by decide)).trans (hb432.1 2 (by decide)))))) ht539 (by rw [ht540]; exact tf_le ht541)) rfl h48_552 rfl rfl rfl rfl rfl rfl (fun w554 hq555 => ?_)
          obtain ⟨hI556, hF557, hx558⟩ := hq555
          rw [ht540] at hx558
          clear ht539 ht540 ht541
          obtain ⟨p_559, hp560⟩ : ∃ x, x = tf B nn t_451.2.1 := ⟨_, rfl⟩
          rw [← hp560] at hx558
          refine xg_t (xg_iload (va := (0, n464)) rfl rfl) ?_
          refine xg_t (xg_ifF (u := n464) rfl xnm0 (xj_eqF (by omega))) ?_
          obtain ⟨⟨ht561, ht562, ht563, ht564, ht565⟩, ht566⟩ := id hx558
          obtain ⟨f48_567, f48_569, f48_571, f48_573, f48_575, h48_577, hb568, hb570, hb572, hb574, hb576, hb578⟩ := (hI556 48 (by decide) : cp48 (wget w554 48))
          have hq579 : fld w554 48 1 = f48_567 := fld_of h48_577
          have hq580 : fld w554 48 2 = f48_569 := fld_of h48_577
          have hq581 : fld w554 48 3 = f48_571 := fld_of h48_577
          have hq582 : fld w554 48 4 = f48_573 := fld_of h48_577
          have hq583 : fld w554 48 5 = f48_575 := fld_of h48_577
          refine xg_t (xg_aload (va := (2, 43)) rfl rfl) ?_
          refine xg_t (xg_getf (va := (2, 48)) (hF557.get (by decide) (hF463.get (by decide) h43_459)) rfl) ?_
          refine xg_t (xg_getf (va := (0, f48_569)) h48_577 rfl) ?_
          refine xg_t (xg_const) ?_
          by_cases hc584 : f48_569 = 2
          · refine xg_t (xg_icT (u := f48_569) (v := 2) rfl xnm0 xnm0 (xj_eqT hc584)) ?_
            refine xg_t (xg_blk (b := [(82, 1, 0, 0, 0, 0), (83, 3, 1, 6, 1, 38), (86, 3, 1, 8, 5, 111), (89, 1, 15, 3, 0, 0), (90, 1, 0, 0, 0, 0), (91, 3, 1, 6, 1, 38), (94, 3, 13, 312, 64, 108)]) rfl) ?_
            refine xg_t (xg_aload (va := (2, 43)) rfl rfl) ?_
            refine xg_t (xg_getf (va := (2, 48)) (hF557.get (by decide) (hF463.get (by decide) h43_459)) rfl) ?_
            refine xg_t (xg_getf (va := (0, f48_575)) h48_577 rfl) ?_
            refine xg_t (xg_istore (l1 := [(2, (0, n464)), (1, (0, n427)), (0, (2, 43))]) rfl rfl rfl) ?_
            refine xg_t (xg_aload (va := (2, 43)) rfl rfl) ?_
            refine xg_t (xg_getf (va := (2, 48)) (hF557.get (by decide) (hF463.get (by decide) h43_459)) rfl) ?_
            obtain ⟨⟨ht585, -, -, ht586, ht587⟩, -⟩ := id hx558
            refine xg_cVv mX8_advance (vs := []) (rest := []) (cn1 := 0) (sl1 := 0) rfl (tkAdvX48 (hI556) (hB.fr ((hF557.1 2 (by decide)).trans ((hF463.1 2 (by decide)).trans ((hF445.1 2 (by decide)).trans ((hF437.1 2 (by decide)).trans (hb432.1 2 (by decide))))))) ht585 (by rw [ht586]; exact tf_le ht587)) rfl h48_577 rfl rfl rfl rfl rfl rfl (fun w588 hq589 => ?_)
            obtain ⟨hI590, hF591, hx592⟩ := hq589
            rw [ht586] at hx592
            clear ht585 ht586 ht587
            obtain ⟨p_593, hp594⟩ : ∃ x, x = tf B nn p_559 := ⟨_, rfl⟩
            rw [← hp594] at hx592
            refine xg_t (xg_blk (b := [(97, 1, 0, 0, 0, 0), (98, 3, 1, 6, 1, 38), (101, 2, 4, 59, 0, 0), (103, 3, 13, 316, 64, 114), (106, 3, 7, 111, 1, 0), (109, 1, 3, 0, 0, 0), (110, 1, 12, 0, 1, 0)]) rfl) ?_
            refine xg_t (xg_aload (va := (2, 43)) rfl rfl) ?_
            refine xg_t (xg_getf (va := (2, 48)) (hF591.get (by decide) (hF557.get (by decide) (hF463.get (by decide) h43_459))) rfl) ?_
            refine xg_t (xg_bip) ?_
            obtain ⟨f48_595, f48_597, f48_599, f48_601, f48_603, h48_605, hb596, hb598, hb600, hb602, hb604, hb606⟩ := (hI590 48 (by decide) : cp48 (wget w588 48))
            refine xg_cVi mX8_isSign (vs := [(0, 59)]) (rest := []) (cn1 := 0) (sl1 := 0) rfl (tkSigX48 (hI590) (by omega) (hB.fr ((hF591.1 2 (by decide)).trans ((hF557.1 2 (by decide)).trans ((hF463.1 2 (by decide)).trans ((hF445.1 2 (by decide)).trans ((hF437.1 2 (by decide)).trans (hb432.1 2 (by decide)))))))) hx592) rfl h48_605 rfl rfl rfl rfl rfl rfl (fun n611 w607 hq608 => ?_)
            obtain ⟨hn612, hI609, hF610⟩ := hq608
            rcases hn612 with ⟨rfl, hk613⟩ | ⟨rfl, hk613⟩
            · refine xg_t (xg_ifT (u := 1) rfl xnm0 (by decide)) ?_
              refine xg_t (xg_blk (b := [(111, 1, 0, 0, 0, 0), (112, 3, 1, 6, 1, 38), (115, 3, 13, 312, 64, 108), (118, 1, 0, 0, 0, 0), (119, 3, 1, 6, 2, 16), (122, 1, 2, 1, 0, 0), (123, 1, 3, 0, 0, 0), (124, 1, 2, 2, 0, 0), (125, 3, 13, 290, 40, 118), (128, 1, 0, 0, 0, 0), (129, 3, 1, 6, 2, 16), (132, 1, 2, 1, 0, 0), (133, 1, 3, 1, 0, 0), (134, 1, 2, 3, 0, 0), (135, 3, 13, 290, 40, 118), (138, 1, 3, 1, 0, 0), (139, 1, 12, 0, 1, 0)]) rfl) ?_
              refine xg_t (xg_aload (va := (2, 43)) rfl rfl) ?_
              refine xg_t (xg_getf (va := (2, 48)) (hF610.get (by decide) (hF591.get (by decide) (hF557.get (by decide) (hF463.get (by decide) h43_459)))) rfl) ?_
              obtain ⟨⟨ht614, -, -, ht615, ht616⟩, -⟩ := id (hx592.fr (hF610.1 48 (by decide)))
              refine xg_cVv mX8_advance (vs := []) (rest := []) (cn1 := 0) (sl1 := 0) rfl (tkAdvX48 (hI609) (hB.fr ((hF610.1 2 (by decide)).trans ((hF591.1 2 (by decide)).trans ((hF557.1 2 (by decide)).trans ((hF463.1 2 (by decide)).trans ((hF445.1 2 (by decide)).trans ((hF437.1 2 (by decide)).trans (hb432.1 2 (by decide))))))))) ht614 (by rw [ht615]; exact tf_le ht616)) rfl (hF610.get (by decide) h48_605) rfl rfl rfl rfl rfl rfl (fun w617 hq618 => ?_)
              obtain ⟨hI619, hF620, hx621⟩ := hq618
              rw [ht615] at hx621
              clear ht614 ht615 ht616
              obtain ⟨p_622, hp623⟩ : ∃ x, x = tf B nn p_593 := ⟨_, rfl⟩
              rw [← hp623] at hx621
              refine xg_t (xg_aload (va := (2, 43)) rfl rfl) ?_
              refine xg_t (xg_getf (va := (2, 44)) (hF620.get (by decide) (hF610.get (by decide) (hF591.get (by decide) (hF557.get (by decide) (hF463.get (by decide) h43_459))))) rfl) ?_
              refine xg_t (xg_iload (va := (0, n427)) rfl rfl) ?_
              refine xg_t (xg_const) ?_
              refine xg_t (xg_iload (va := (0, n464)) rfl rfl) ?_
              refine xg_cVv mX5_put (vs := [(0, n427), (0, 0), (0, n464)]) (rest := []) (cn1 := 0) (sl1 := 0) rfl (rputI (lim := 16) (wd := 2) (B := 4294967295) (hF620.get (by decide) (hF610.get (by decide) (hF591.get (by decide) (hF557.get (by decide) (hF463.get (by decide) (hF445.get (by decide) (hF437.get (by decide) hk431))))))) ((((((((h45_22.but hb432 (by decide)).fr hF437 (by decide)).fr hF445 (by decide)).fr hF463 (by decide)).fr hF557 (by decide)).fr hF591 (by decide)).fr hF610 (by decide)).fr hF620 (by decide)) (hb23) (by decide) (by omega) (by decide) (by decide) (by omega) (by omega) (by omega)) rfl (hF620.get (by decide) (hF610.get (by decide) (hF591.get (by decide) (hF557.get (by decide) (hF463.get (by decide) (hF445.get (by decide) (hF437.get (by decide) hk431))))))) rfl rfl rfl rfl rfl rfl (fun w624 hq625 => ?_)
              obtain ⟨g626, hr627, hb628, hb629⟩ := hq625
              refine xg_t (xg_aload (va := (2, 43)) rfl rfl) ?_
              refine xg_t (xg_getf (va := (2, 44)) (hb629.get (by decide) (hF620.get (by decide) (hF610.get (by decide) (hF591.get (by decide) (hF557.get (by decide) (hF463.get (by decide) h43_459)))))) rfl) ?_
              refine xg_t (xg_iload (va := (0, n427)) rfl rfl) ?_
              refine xg_t (xg_const) ?_
              refine xg_t (xg_iload (va := (0, f48_575)) rfl rfl) ?_
              refine xg_cVv mX5_put (vs := [(0, n427), (0, 1), (0, f48_575)]) (rest := []) (cn1 := 0) (sl1 := 0) rfl (rputI (lim := 16) (wd := 2) (B := 4294967295) (hb629.get (by decide) (hF620.get (by decide) (hF610.get (by decide) (hF591.get (by decide) (hF557.get (by decide) (hF463.get (by decide) (hF445.get (by decide) (hF437.get (by decide) hk431)))))))) hr627 (hb628) (by decide) (by omega) (by decide) (by decide) (by omega) (by omega) (by omega)) rfl (hb629.get (by decide) (hF620.get (by decide) (hF610.get (by decide) (hF591.get (by decide) (hF557.get (by decide) (hF463.get (by decide) (hF445.get (by decide) (hF437.get (by decide) hk431)))))))) rfl rfl rfl rfl rfl rfl (fun w630 hq631 => ?_)
              obtain ⟨g632, hr633, hb634, hb635⟩ := hq631
              refine xg_t (xg_const) ?_
              have hq636 : fld w630 44 3 = s429 := fld_of (hb635.get (by decide) (hb629.get (by decide) (hF620.get (by decide) (hF610.get (by decide) (hF591.get (by decide) (hF557.get (by decide) (hF463.get (by decide) (hF445.get (by decide) (hF437.get (by decide) hk431)))))))))
              have hz637 : (rlR B nn k p fp) = (true, p_622, t_451.2.2) := by rw [hE454, rvR_2 hv467 hv468 (by rw [← hp560]; omega), ← hp560, ← hp594, rvS_y hk613, ← hp623]
              exact xg_e ⟨1, w630, ⟨rfl, rfl⟩, ⟨Or.inl ⟨rfl, congrArg Prod.fst hz637⟩, by rw [hz637]; exact (hx621.fr ((hb635.1 48 (by decide)).trans (hb629.1 48 (by decide)))), by rw [hz637]; exact (hn450.fr ((hb635.1 43 (by decide)).trans ((hb629.1 43 (by decide)).trans ((hF620.1 43 (by decide)).trans ((hF610.1 43 (by decide)).trans ((hF591.1 43 (by decide)).trans ((hF557.1 43 (by decide)).trans (hF463.1 43 (by decide))))))))), hq636.trans hs433⟩, xInv.up (S := [45]) hI619 ((xFr.of (S := [45]) hb629 (by decide)).tr (xFr.of (S := [45]) hb635 (by decide))) (List.forall_mem_cons.mpr ⟨(show cpI 32 21 4294967295 (wget w630 45) from ⟨_, hr633, hb634⟩), fun _ h => absurd h List.not_mem_nil⟩), (((((((((xFr.of (S := [43, 44, 45, 46, 47, 48]) hb432 (by decide)).tr (hF437.up (by decide))).tr (hF445.up (by decide))).tr (hF463.up (by decide))).tr (hF557.up (by decide))).tr (hF591.up (by decide))).tr (hF610.up (by decide))).tr (hF620.up (by decide))).tr ((xFr.of (S := [43, 44, 45, 46, 47, 48]) hb629 (by decide)).tr (xFr.of (S := [43, 44, 45, 46, 47, 48]) hb635 (by decide))))⟩
            · refine xg_t (xg_ifF (u := 0) rfl xnm0 (by decide)) ?_
              refine xg_t (xg_const) ?_
              have hq638 : fld w607 44 3 = s429 := fld_of (hF610.get (by decide) (hF591.get (by decide) (hF557.get (by decide) (hF463.get (by decide) (hF445.get (by decide) (hF437.get (by decide) hk431))))))
              have hz639 : (rlR B nn k p fp) = (false, p_593, t_451.2.2) := by rw [hE454, rvR_2 hv467 hv468 (by rw [← hp560]; omega), ← hp560, ← hp594, rvS_n hk613]
              exact xg_e ⟨0, w607, ⟨rfl, rfl⟩, ⟨Or.inr ⟨rfl, congrArg Prod.fst hz639⟩, by rw [hz639]; exact (hx592.fr (hF610.1 48 (by decide))), by rw [hz639]; exact (hn450.fr ((hF610.1 43 (by decide)).trans ((hF591.1 43 (by decide)).trans ((hF557.1 43 (by decide)).trans (hF463.1 43 (by decide)))))), hq638.trans hs433⟩, hI609, (((((((xFr.of (S := [43, 44, 45, 46, 47, 48]) hb432 (by decide)).tr (hF437.up (by decide))).tr (hF445.up (by decide))).tr (hF463.up (by decide))).tr (hF557.up (by decide))).tr (hF591.up (by decide))).tr (hF610.up (by decide)))⟩
          · refine xg_t (xg_icF (u := f48_569) (v := 2) rfl xnm0 xnm0 (xj_eqF hc584)) ?_
            refine xg_t (xg_const) ?_
            have hq640 : fld w554 44 3 = s429 := fld_of (hF557.get (by decide) (hF463.get (by decide) (hF445.get (by decide) (hF437.get (by decide) hk431))))
            have hz641 : (rlR B nn k p fp) = (false, p_559, t_451.2.2) := by rw [hE454, rvR_3 hv467 hv468 (by rw [← hp560]; omega), ← hp560]
            exact xg_e ⟨0, w554, ⟨rfl, rfl⟩, ⟨Or.inr ⟨rfl, congrArg Prod.fst hz641⟩, by rw [hz641]; exact hx558, by rw [hz641]; exact (hn450.fr ((hF557.1 43 (by decide)).trans (hF463.1 43 (by decide)))), hq640.trans hs433⟩, hI556, (((((xFr.of (S := [43, 44, 45, 46, 47, 48]) hb432 (by decide)).tr (hF437.up (by decide))).tr (hF445.up (by decide))).tr (hF463.up (by decide))).tr (hF557.up (by decide)))⟩
        · refine xg_t (xg_istore (l1 := [(1, (0, n427)), (0, (2, 43))]) rfl rfl rfl) ?_
          refine xg_t (xg_const) ?_
          refine xg_t (xg_istore (l1 := [(2, (0, 4294967295)), (1, (0, n427)), (0, (2, 43))]) rfl rfl rfl) ?_
          refine xg_t (xg_iload (va := (0, 4294967295)) rfl rfl) ?_
          refine xg_t (xg_const) ?_
          refine xg_t (xg_icF (u := 4294967295) (v := 4294967295) rfl xnm0 xnm0 (by decide)) ?_
          refine xg_t (xg_const) ?_
          have hq642 : fld w460 44 3 = s429 := fld_of (hF463.get (by decide) (hF445.get (by decide) (hF437.get (by decide) hk431)))
          have hz643 : (rlR B nn k p fp) = (false, t_451.2.1, t_451.2.2) := by rw [hE454, rvR_0 hv471]
          exact xg_e ⟨0, w460, ⟨rfl, rfl⟩, ⟨Or.inr ⟨rfl, congrArg Prod.fst hz643⟩, by rw [hz643]; exact (hn449.fr (hF463.1 48 (by decide))), by rw [hz643]; exact (hn450.fr (hF463.1 43 (by decide))), hq642.trans hs433⟩, hI462, ((((xFr.of (S := [43, 44, 45, 46, 47, 48]) hb432 (by decide)).tr (hF437.up (by decide))).tr (hF445.up (by decide))).tr (hF463.up (by decide)))⟩
      · have hE644 : (rlR B nn k p fp) = t_451 := by rw [rlR_2 hw441 (by rw [← hg422, ← ht452]; exact hy453), ← hg422, ← ht452]
        refine xg_t (xg_ifF (u := 0) rfl xnm0 (by decide)) ?_
        refine xg_t (xg_const) ?_
        have hq645 : fld w442 44 3 = s429 := fld_of (hF445.get (by decide) (hF437.get (by decide) hk431))
        exact xg_e ⟨0, w442, ⟨rfl, rfl⟩, ⟨Or.inr ⟨rfl, by rw [hE644]; exact hy453⟩, by rw [hE644]; exact hn449, by rw [hE644]; exact hn450, hq645.trans hs433⟩, hI444, (((xFr.of (S := [43, 44, 45, 46, 47, 48]) hb432 (by decide)).tr (hF437.up (by decide))).tr (hF445.up (by decide)))⟩
    · refine xg_t (xg_ifT (u := 0) rfl xnm0 (by decide)) ?_
      refine xg_t (xg_blk (b := [(44, 1, 0, 0, 0, 0), (45, 3, 13, 298, 48, 105), (48, 1, 15, 2, 0, 0), (49, 1, 3, 0, 0, 0), (50, 1, 15, 3, 0, 0), (51, 1, 2, 2, 0, 0), (52, 1, 3, 4294967295, 0, 0), (53, 3, 6, 58, 1, 0), (56, 1, 3, 0, 0, 0), (57, 1, 12, 0, 1, 0)]) rfl) ?_
      refine xg_t (xg_aload (va := (2, 43)) rfl rfl) ?_
      have hE646 : (rlR B nn k p fp) = rvR B nn p g_421 := by rw [rlR_0 (fun z => hk440 (wixR_50.mp z)), ← hg422]
      refine xg_cVi mX6_verbOfWord (vs := []) (rest := []) (cn1 := 0) (sl1 := 0) rfl (rtVerbX (hI436) (hB.fr ((hF437.1 2 (by decide)).trans (hb432.1 2 (by decide)))) (hT.fr ((hF437.1 48 (by decide)).trans (hb432.1 48 (by decide))))) rfl (hF437.get (by decide) (hb432.get (by decide) h43_5)) rfl rfl rfl rfl rfl rfl (fun n651 w647 hq648 => ?_)
      obtain ⟨hn652, hI649, hF650⟩ := hq648
      rcases hn652 with ⟨hv653, rfl⟩ | ⟨hv654, hv655, hv656, hv657⟩ | ⟨hv658, rfl⟩
      · refine xg_t (xg_istore (l1 := [(1, (0, n427)), (0, (2, 43))]) rfl rfl rfl) ?_
        refine xg_t (xg_const) ?_
        refine xg_t (xg_istore (l1 := [(2, (0, 0)), (1, (0, n427)), (0, (2, 43))]) rfl rfl rfl) ?_
        refine xg_t (xg_iload (va := (0, 0)) rfl rfl) ?_
        refine xg_t (xg_const) ?_
        refine xg_t (xg_icT (u := 0) (v := 4294967295) rfl xnm0 xnm0 (by decide)) ?_
        refine xg_t (xg_blk (b := [(58, 1, 0, 0, 0, 0), (59, 3, 1, 6, 1, 38), (62, 3, 13, 312, 64, 108), (65, 1, 2, 2, 0, 0), (66, 3, 7, 97, 0, 0), (69, 1, 0, 0, 0, 0), (70, 3, 1, 6, 1, 38), (73, 3, 1, 8, 2, 56), (76, 1, 3, 2, 0, 0), (77, 3, 6, 82, 0, 0), (80, 1, 3, 0, 0, 0), (81, 1, 12, 0, 1, 0)]) rfl) ?_
        refine xg_t (xg_aload (va := (2, 43)) rfl rfl) ?_
        refine xg_t (xg_getf (va := (2, 48)) (hF650.get (by decide) (hF437.get (by decide) (hb432.get (by decide) h43_5))) rfl) ?_
        obtain ⟨⟨ht659, -, -, ht660, ht661⟩, -⟩ := id (hT.fr ((hF650.1 48 (by decide)).trans ((hF437.1 48 (by decide)).trans (hb432.1 48 (by decide)))))
        refine xg_cVv mX8_advance (vs := []) (rest := []) (cn1 := 0) (sl1 := 0) rfl (tkAdvX48 (hI649) (hB.fr ((hF650.1 2 (by decide)).trans ((hF437.1 2 (by decide)).trans (hb432.1 2 (by decide))))) ht659 (by rw [ht660]; exact tf_le ht661)) rfl (hF650.get (by decide) (hF437.get (by decide) (hb432.get (by decide) h48_16))) rfl rfl rfl rfl rfl rfl (fun w662 hq663 => ?_)
        obtain ⟨hI664, hF665, hx666⟩ := hq663
        rw [ht660] at hx666
        clear ht659 ht660 ht661
        obtain ⟨p_667, hp668⟩ : ∃ x, x = tf B nn p := ⟨_, rfl⟩
        rw [← hp668] at hx666
        refine xg_t (xg_iload (va := (0, 0)) rfl rfl) ?_
        refine xg_t (xg_ifT (u := 0) rfl xnm0 (by decide)) ?_
        refine xg_t (xg_blk (b := [(97, 1, 0, 0, 0, 0), (98, 3, 1, 6, 1, 38), (101, 2, 4, 59, 0, 0), (103, 3, 13, 316, 64, 114), (106, 3, 7, 111, 1, 0), (109, 1, 3, 0, 0, 0), (110, 1, 12, 0, 1, 0)]) rfl) ?_
        refine xg_t (xg_aload (va := (2, 43)) rfl rfl) ?_
        refine xg_t (xg_getf (va := (2, 48)) (hF665.get (by decide) (hF650.get (by decide) (hF437.get (by decide) (hb432.get (by decide) h43_5)))) rfl) ?_
        refine xg_t (xg_bip) ?_
        obtain ⟨f48_669, f48_671, f48_673, f48_675, f48_677, h48_679, hb670, hb672, hb674, hb676, hb678, hb680⟩ := (hI664 48 (by decide) : cp48 (wget w662 48))
        refine xg_cVi mX8_isSign (vs := [(0, 59)]) (rest := []) (cn1 := 0) (sl1 := 0) rfl (tkSigX48 (hI664) (by omega) (hB.fr ((hF665.1 2 (by decide)).trans ((hF650.1 2 (by decide)).trans ((hF437.1 2 (by decide)).trans (hb432.1 2 (by decide)))))) hx666) rfl h48_679 rfl rfl rfl rfl rfl rfl (fun n685 w681 hq682 => ?_)
        obtain ⟨hn686, hI683, hF684⟩ := hq682
        rcases hn686 with ⟨rfl, hk687⟩ | ⟨rfl, hk687⟩
        · refine xg_t (xg_ifT (u := 1) rfl xnm0 (by decide)) ?_
          refine xg_t (xg_blk (b := [(111, 1, 0, 0, 0, 0), (112, 3, 1, 6, 1, 38), (115, 3, 13, 312, 64, 108), (118, 1, 0, 0, 0, 0), (119, 3, 1, 6, 2, 16), (122, 1, 2, 1, 0, 0), (123, 1, 3, 0, 0, 0), (124, 1, 2, 2, 0, 0), (125, 3, 13, 290, 40, 118), (128, 1, 0, 0, 0, 0), (129, 3, 1, 6, 2, 16), (132, 1, 2, 1, 0, 0), (133, 1, 3, 1, 0, 0), (134, 1, 2, 3, 0, 0), (135, 3, 13, 290, 40, 118), (138, 1, 3, 1, 0, 0), (139, 1, 12, 0, 1, 0)]) rfl) ?_
          refine xg_t (xg_aload (va := (2, 43)) rfl rfl) ?_
          refine xg_t (xg_getf (va := (2, 48)) (hF684.get (by decide) (hF665.get (by decide) (hF650.get (by decide) (hF437.get (by decide) (hb432.get (by decide) h43_5))))) rfl) ?_
          obtain ⟨⟨ht688, -, -, ht689, ht690⟩, -⟩ := id (hx666.fr (hF684.1 48 (by decide)))
          refine xg_cVv mX8_advance (vs := []) (rest := []) (cn1 := 0) (sl1 := 0) rfl (tkAdvX48 (hI683) (hB.fr ((hF684.1 2 (by decide)).trans ((hF665.1 2 (by decide)).trans ((hF650.1 2 (by decide)).trans ((hF437.1 2 (by decide)).trans (hb432.1 2 (by decide))))))) ht688 (by rw [ht689]; exact tf_le ht690)) rfl (hF684.get (by decide) h48_679) rfl rfl rfl rfl rfl rfl (fun w691 hq692 => ?_)
          obtain ⟨hI693, hF694, hx695⟩ := hq692
          rw [ht689] at hx695
          clear ht688 ht689 ht690
          obtain ⟨p_696, hp697⟩ : ∃ x, x = tf B nn p_667 := ⟨_, rfl⟩
          rw [← hp697] at hx695
          refine xg_t (xg_aload (va := (2, 43)) rfl rfl) ?_
          refine xg_t (xg_getf (va := (2, 44)) (hF694.get (by decide) (hF684.get (by decide) (hF665.get (by decide) (hF650.get (by decide) (hF437.get (by decide) (hb432.get (by decide) h43_5)))))) rfl) ?_
          refine xg_t (xg_iload (va := (0, n427)) rfl rfl) ?_
          refine xg_t (xg_const) ?_
          refine xg_t (xg_iload (va := (0, 0)) rfl rfl) ?_
          refine xg_cVv mX5_put (vs := [(0, n427), (0, 0), (0, 0)]) (rest := []) (cn1 := 0) (sl1 := 0) rfl (rputI (lim := 16) (wd := 2) (B := 4294967295) (hF694.get (by decide) (hF684.get (by decide) (hF665.get (by decide) (hF650.get (by decide) (hF437.get (by decide) hk431))))) ((((((h45_22.but hb432 (by decide)).fr hF437 (by decide)).fr hF650 (by decide)).fr hF665 (by decide)).fr hF684 (by decide)).fr hF694 (by decide)) (hb23) (by decide) (by omega) (by decide) (by decide) (by omega) (by omega) (by omega)) rfl (hF694.get (by decide) (hF684.get (by decide) (hF665.get (by decide) (hF650.get (by decide) (hF437.get (by decide) hk431))))) rfl rfl rfl rfl rfl rfl (fun w698 hq699 => ?_)
          obtain ⟨g700, hr701, hb702, hb703⟩ := hq699
          refine xg_t (xg_aload (va := (2, 43)) rfl rfl) ?_
          refine xg_t (xg_getf (va := (2, 44)) (hb703.get (by decide) (hF694.get (by decide) (hF684.get (by decide) (hF665.get (by decide) (hF650.get (by decide) (hF437.get (by decide) (hb432.get (by decide) h43_5))))))) rfl) ?_
          refine xg_t (xg_iload (va := (0, n427)) rfl rfl) ?_
          refine xg_t (xg_const) ?_
          refine xg_t (xg_iload (va := (0, 0)) rfl rfl) ?_
          refine xg_cVv mX5_put (vs := [(0, n427), (0, 1), (0, 0)]) (rest := []) (cn1 := 0) (sl1 := 0) rfl (rputI (lim := 16) (wd := 2) (B := 4294967295) (hb703.get (by decide) (hF694.get (by decide) (hF684.get (by decide) (hF665.get (by decide) (hF650.get (by decide) (hF437.get (by decide) hk431)))))) hr701 (hb702) (by decide) (by omega) (by decide) (by decide) (by omega) (by omega) (by omega)) rfl (hb703.get (by decide) (hF694.get (by decide) (hF684.get (by decide) (hF665.get (by decide) (hF650.get (by decide) (hF437.get (by decide) hk431)))))) rfl rfl rfl rfl rfl rfl (fun w704 hq705 => ?_)
          obtain ⟨g706, hr707, hb708, hb709⟩ := hq705
          refine xg_t (xg_const) ?_
          have hq710 : fld w704 44 3 = s429 := fld_of (hb709.get (by decide) (hb703.get (by decide) (hF694.get (by decide) (hF684.get (by decide) (hF665.get (by decide) (hF650.get (by decide) (hF437.get (by decide) hk431)))))))
          have hz711 : (rlR B nn k p fp) = (true, p_696, g_421) := by rw [hE646, rvR_1 hv653, ← hp668, rvS_y hk687, ← hp697]
          exact xg_e ⟨1, w704, ⟨rfl, rfl⟩, ⟨Or.inl ⟨rfl, congrArg Prod.fst hz711⟩, by rw [hz711]; exact (hx695.fr ((hb709.1 48 (by decide)).trans (hb703.1 48 (by decide)))), by rw [hz711]; exact (hF_424.fr ((hb709.1 43 (by decide)).trans ((hb703.1 43 (by decide)).trans ((hF694.1 43 (by decide)).trans ((hF684.1 43 (by decide)).trans ((hF665.1 43 (by decide)).trans ((hF650.1 43 (by decide)).trans ((hF437.1 43 (by decide)).trans (hb432.1 43 (by decide)))))))))), hq710.trans hs433⟩, xInv.up (S := [45]) hI693 ((xFr.of (S := [45]) hb703 (by decide)).tr (xFr.of (S := [45]) hb709 (by decide))) (List.forall_mem_cons.mpr ⟨(show cpI 32 21 4294967295 (wget w704 45) from ⟨_, hr707, hb708⟩), fun _ h => absurd h List.not_mem_nil⟩), (((((((xFr.of (S := [43, 44, 45, 46, 47, 48]) hb432 (by decide)).tr (hF437.up (by decide))).tr (hF650.up (by decide))).tr (hF665.up (by decide))).tr (hF684.up (by decide))).tr (hF694.up (by decide))).tr ((xFr.of (S := [43, 44, 45, 46, 47, 48]) hb703 (by decide)).tr (xFr.of (S := [43, 44, 45, 46, 47, 48]) hb709 (by decide))))⟩
        · refine xg_t (xg_ifF (u := 0) rfl xnm0 (by decide)) ?_
          refine xg_t (xg_const) ?_
          have hq712 : fld w681 44 3 = s429 := fld_of (hF684.get (by decide) (hF665.get (by decide) (hF650.get (by decide) (hF437.get (by decide) hk431))))
          have hz713 : (rlR B nn k p fp) = (false, p_667, g_421) := by rw [hE646, rvR_1 hv653, ← hp668, rvS_n hk687]
          exact xg_e ⟨0, w681, ⟨rfl, rfl⟩, ⟨Or.inr ⟨rfl, congrArg Prod.fst hz713⟩, by rw [hz713]; exact (hx666.fr (hF684.1 48 (by decide))), by rw [hz713]; exact (hF_424.fr ((hF684.1 43 (by decide)).trans ((hF665.1 43 (by decide)).trans ((hF650.1 43 (by decide)).trans ((hF437.1 43 (by decide)).trans (hb432.1 43 (by decide))))))), hq712.trans hs433⟩, hI683, (((((xFr.of (S := [43, 44, 45, 46, 47, 48]) hb432 (by decide)).tr (hF437.up (by decide))).tr (hF650.up (by decide))).tr (hF665.up (by decide))).tr (hF684.up (by decide)))⟩
      · refine xg_t (xg_istore (l1 := [(1, (0, n427)), (0, (2, 43))]) rfl rfl rfl) ?_
        refine xg_t (xg_const) ?_
        refine xg_t (xg_istore (l1 := [(2, (0, n651)), (1, (0, n427)), (0, (2, 43))]) rfl rfl rfl) ?_
        refine xg_t (xg_iload (va := (0, n651)) rfl rfl) ?_
        refine xg_t (xg_const) ?_
        refine xg_t (xg_icT (u := n651) (v := 4294967295) rfl xnm0 xnm0 (xj_neT (by omega))) ?_
        refine xg_t (xg_blk (b := [(58, 1, 0, 0, 0, 0), (59, 3, 1, 6, 1, 38), (62, 3, 13, 312, 64, 108), (65, 1, 2, 2, 0, 0), (66, 3, 7, 97, 0, 0), (69, 1, 0, 0, 0, 0), (70, 3, 1, 6, 1, 38), (73, 3, 1, 8, 2, 56), (76, 1, 3, 2, 0, 0), (77, 3, 6, 82, 0, 0), (80, 1, 3, 0, 0, 0), (81, 1, 12, 0, 1, 0)]) rfl) ?_
        refine xg_t (xg_aload (va := (2, 43)) rfl rfl) ?_
        refine xg_t (xg_getf (va := (2, 48)) (hF650.get (by decide) (hF437.get (by decide) (hb432.get (by decide) h43_5))) rfl) ?_
        obtain ⟨⟨ht714, -, -, ht715, ht716⟩, -⟩ := id (hT.fr ((hF650.1 48 (by decide)).trans ((hF437.1 48 (by decide)).trans (hb432.1 48 (by decide)))))
        refine xg_cVv mX8_advance (vs := []) (rest := []) (cn1 := 0) (sl1 := 0) rfl (tkAdvX48 (hI649) (hB.fr ((hF650.1 2 (by decide)).trans ((hF437.1 2 (by decide)).trans (hb432.1 2 (by decide))))) ht714 (by rw [ht715]; exact tf_le ht716)) rfl (hF650.get (by decide) (hF437.get (by decide) (hb432.get (by decide) h48_16))) rfl rfl rfl rfl rfl rfl (fun w717 hq718 => ?_)
        obtain ⟨hI719, hF720, hx721⟩ := hq718
        rw [ht715] at hx721
        clear ht714 ht715 ht716
        obtain ⟨p_722, hp723⟩ : ∃ x, x = tf B nn p := ⟨_, rfl⟩
        rw [← hp723] at hx721
        refine xg_t (xg_iload (va := (0, n651)) rfl rfl) ?_
        refine xg_t (xg_ifF (u := n651) rfl xnm0 (xj_eqF (by omega))) ?_
        obtain ⟨⟨ht724, ht725, ht726, ht727, ht728⟩, ht729⟩ := id hx721
        obtain ⟨f48_730, f48_732, f48_734, f48_736, f48_738, h48_740, hb731, hb733, hb735, hb737, hb739, hb741⟩ := (hI719 48 (by decide) : cp48 (wget w717 48))
        have hq742 : fld w717 48 1 = f48_730 := fld_of h48_740
        have hq743 : fld w717 48 2 = f48_732 := fld_of h48_740
        have hq744 : fld w717 48 3 = f48_734 := fld_of h48_740
        have hq745 : fld w717 48 4 = f48_736 := fld_of h48_740
        have hq746 : fld w717 48 5 = f48_738 := fld_of h48_740
        refine xg_t (xg_aload (va := (2, 43)) rfl rfl) ?_
        refine xg_t (xg_getf (va := (2, 48)) (hF720.get (by decide) (hF650.get (by decide) (hF437.get (by decide) (hb432.get (by decide) h43_5)))) rfl) ?_
        refine xg_t (xg_getf (va := (0, f48_732)) h48_740 rfl) ?_
        refine xg_t (xg_const) ?_
        by_cases hc747 : f48_732 = 2
        · refine xg_t (xg_icT (u := f48_732) (v := 2) rfl xnm0 xnm0 (xj_eqT hc747)) ?_
          refine xg_t (xg_blk (b := [(82, 1, 0, 0, 0, 0), (83, 3, 1, 6, 1, 38), (86, 3, 1, 8, 5, 111), (89, 1, 15, 3, 0, 0), (90, 1, 0, 0, 0, 0), (91, 3, 1, 6, 1, 38), (94, 3, 13, 312, 64, 108)]) rfl) ?_
          refine xg_t (xg_aload (va := (2, 43)) rfl rfl) ?_
          refine xg_t (xg_getf (va := (2, 48)) (hF720.get (by decide) (hF650.get (by decide) (hF437.get (by decide) (hb432.get (by decide) h43_5)))) rfl) ?_
          refine xg_t (xg_getf (va := (0, f48_738)) h48_740 rfl) ?_
          refine xg_t (xg_istore (l1 := [(2, (0, n651)), (1, (0, n427)), (0, (2, 43))]) rfl rfl rfl) ?_
          refine xg_t (xg_aload (va := (2, 43)) rfl rfl) ?_
          refine xg_t (xg_getf (va := (2, 48)) (hF720.get (by decide) (hF650.get (by decide) (hF437.get (by decide) (hb432.get (by decide) h43_5)))) rfl) ?_
          obtain ⟨⟨ht748, -, -, ht749, ht750⟩, -⟩ := id hx721
          refine xg_cVv mX8_advance (vs := []) (rest := []) (cn1 := 0) (sl1 := 0) rfl (tkAdvX48 (hI719) (hB.fr ((hF720.1 2 (by decide)).trans ((hF650.1 2 (by decide)).trans ((hF437.1 2 (by decide)).trans (hb432.1 2 (by decide)))))) ht748 (by rw [ht749]; exact tf_le ht750)) rfl h48_740 rfl rfl rfl rfl rfl rfl (fun w751 hq752 => ?_)
          obtain ⟨hI753, hF754, hx755⟩ := hq752
          rw [ht749] at hx755
          clear ht748 ht749 ht750
          obtain ⟨p_756, hp757⟩ : ∃ x, x = tf B nn p_722 := ⟨_, rfl⟩
          rw [← hp757] at hx755
          refine xg_t (xg_blk (b := [(97, 1, 0, 0, 0, 0), (98, 3, 1, 6, 1, 38), (101, 2, 4, 59, 0, 0), (103, 3, 13, 316, 64, 114), (106, 3, 7, 111, 1, 0), (109, 1, 3, 0, 0, 0), (110, 1, 12, 0, 1, 0)]) rfl) ?_
          refine xg_t (xg_aload (va := (2, 43)) rfl rfl) ?_
          refine xg_t (xg_getf (va := (2, 48)) (hF754.get (by decide) (hF720.get (by decide) (hF650.get (by decide) (hF437.get (by decide) (hb432.get (by decide) h43_5))))) rfl) ?_
          refine xg_t (xg_bip) ?_
          obtain ⟨f48_758, f48_760, f48_762, f48_764, f48_766, h48_768, hb759, hb761, hb763, hb765, hb767, hb769⟩ := (hI753 48 (by decide) : cp48 (wget w751 48))
          refine xg_cVi mX8_isSign (vs := [(0, 59)]) (rest := []) (cn1 := 0) (sl1 := 0) rfl (tkSigX48 (hI753) (by omega) (hB.fr ((hF754.1 2 (by decide)).trans ((hF720.1 2 (by decide)).trans ((hF650.1 2 (by decide)).trans ((hF437.1 2 (by decide)).trans (hb432.1 2 (by decide))))))) hx755) rfl h48_768 rfl rfl rfl rfl rfl rfl (fun n774 w770 hq771 => ?_)
          obtain ⟨hn775, hI772, hF773⟩ := hq771
          rcases hn775 with ⟨rfl, hk776⟩ | ⟨rfl, hk776⟩
          · refine xg_t (xg_ifT (u := 1) rfl xnm0 (by decide)) ?_
            refine xg_t (xg_blk (b := [(111, 1, 0, 0, 0, 0), (112, 3, 1, 6, 1, 38), (115, 3, 13, 312, 64, 108), (118, 1, 0, 0, 0, 0), (119, 3, 1, 6, 2, 16), (122, 1, 2, 1, 0, 0), (123, 1, 3, 0, 0, 0), (124, 1, 2, 2, 0, 0), (125, 3, 13, 290, 40, 118), (128, 1, 0, 0, 0, 0), (129, 3, 1, 6, 2, 16), (132, 1, 2, 1, 0, 0), (133, 1, 3, 1, 0, 0), (134, 1, 2, 3, 0, 0), (135, 3, 13, 290, 40, 118), (138, 1, 3, 1, 0, 0), (139, 1, 12, 0, 1, 0)]) rfl) ?_
            refine xg_t (xg_aload (va := (2, 43)) rfl rfl) ?_
            refine xg_t (xg_getf (va := (2, 48)) (hF773.get (by decide) (hF754.get (by decide) (hF720.get (by decide) (hF650.get (by decide) (hF437.get (by decide) (hb432.get (by decide) h43_5)))))) rfl) ?_
            obtain ⟨⟨ht777, -, -, ht778, ht779⟩, -⟩ := id (hx755.fr (hF773.1 48 (by decide)))
            refine xg_cVv mX8_advance (vs := []) (rest := []) (cn1 := 0) (sl1 := 0) rfl (tkAdvX48 (hI772) (hB.fr ((hF773.1 2 (by decide)).trans ((hF754.1 2 (by decide)).trans ((hF720.1 2 (by decide)).trans ((hF650.1 2 (by decide)).trans ((hF437.1 2 (by decide)).trans (hb432.1 2 (by decide)))))))) ht777 (by rw [ht778]; exact tf_le ht779)) rfl (hF773.get (by decide) h48_768) rfl rfl rfl rfl rfl rfl (fun w780 hq781 => ?_)
            obtain ⟨hI782, hF783, hx784⟩ := hq781
            rw [ht778] at hx784
            clear ht777 ht778 ht779
            obtain ⟨p_785, hp786⟩ : ∃ x, x = tf B nn p_756 := ⟨_, rfl⟩
            rw [← hp786] at hx784
            refine xg_t (xg_aload (va := (2, 43)) rfl rfl) ?_
            refine xg_t (xg_getf (va := (2, 44)) (hF783.get (by decide) (hF773.get (by decide) (hF754.get (by decide) (hF720.get (by decide) (hF650.get (by decide) (hF437.get (by decide) (hb432.get (by decide) h43_5))))))) rfl) ?_
            refine xg_t (xg_iload (va := (0, n427)) rfl rfl) ?_
            refine xg_t (xg_const) ?_
            refine xg_t (xg_iload (va := (0, n651)) rfl rfl) ?_
            refine xg_cVv mX5_put (vs := [(0, n427), (0, 0), (0, n651)]) (rest := []) (cn1 := 0) (sl1 := 0) rfl (rputI (lim := 16) (wd := 2) (B := 4294967295) (hF783.get (by decide) (hF773.get (by decide) (hF754.get (by decide) (hF720.get (by decide) (hF650.get (by decide) (hF437.get (by decide) hk431)))))) (((((((h45_22.but hb432 (by decide)).fr hF437 (by decide)).fr hF650 (by decide)).fr hF720 (by decide)).fr hF754 (by decide)).fr hF773 (by decide)).fr hF783 (by decide)) (hb23) (by decide) (by omega) (by decide) (by decide) (by omega) (by omega) (by omega)) rfl (hF783.get (by decide) (hF773.get (by decide) (hF754.get (by decide) (hF720.get (by decide) (hF650.get (by decide) (hF437.get (by decide) hk431)))))) rfl rfl rfl rfl rfl rfl (fun w787 hq788 => ?_)
            obtain ⟨g789, hr790, hb791, hb792⟩ := hq788
            refine xg_t (xg_aload (va := (2, 43)) rfl rfl) ?_
            refine xg_t (xg_getf (va := (2, 44)) (hb792.get (by decide) (hF783.get (by decide) (hF773.get (by decide) (hF754.get (by decide) (hF720.get (by decide) (hF650.get (by decide) (hF437.get (by decide) (hb432.get (by decide) h43_5)))))))) rfl) ?_
            refine xg_t (xg_iload (va := (0, n427)) rfl rfl) ?_
            refine xg_t (xg_const) ?_
            refine xg_t (xg_iload (va := (0, f48_738)) rfl rfl) ?_
            refine xg_cVv mX5_put (vs := [(0, n427), (0, 1), (0, f48_738)]) (rest := []) (cn1 := 0) (sl1 := 0) rfl (rputI (lim := 16) (wd := 2) (B := 4294967295) (hb792.get (by decide) (hF783.get (by decide) (hF773.get (by decide) (hF754.get (by decide) (hF720.get (by decide) (hF650.get (by decide) (hF437.get (by decide) hk431))))))) hr790 (hb791) (by decide) (by omega) (by decide) (by decide) (by omega) (by omega) (by omega)) rfl (hb792.get (by decide) (hF783.get (by decide) (hF773.get (by decide) (hF754.get (by decide) (hF720.get (by decide) (hF650.get (by decide) (hF437.get (by decide) hk431))))))) rfl rfl rfl rfl rfl rfl (fun w793 hq794 => ?_)
            obtain ⟨g795, hr796, hb797, hb798⟩ := hq794
            refine xg_t (xg_const) ?_
            have hq799 : fld w793 44 3 = s429 := fld_of (hb798.get (by decide) (hb792.get (by decide) (hF783.get (by decide) (hF773.get (by decide) (hF754.get (by decide) (hF720.get (by decide) (hF650.get (by decide) (hF437.get (by decide) hk431))))))))
            have hz800 : (rlR B nn k p fp) = (true, p_785, g_421) := by rw [hE646, rvR_2 hv654 hv655 (by rw [← hp723]; omega), ← hp723, ← hp757, rvS_y hk776, ← hp786]
            exact xg_e ⟨1, w793, ⟨rfl, rfl⟩, ⟨Or.inl ⟨rfl, congrArg Prod.fst hz800⟩, by rw [hz800]; exact (hx784.fr ((hb798.1 48 (by decide)).trans (hb792.1 48 (by decide)))), by rw [hz800]; exact (hF_424.fr ((hb798.1 43 (by decide)).trans ((hb792.1 43 (by decide)).trans ((hF783.1 43 (by decide)).trans ((hF773.1 43 (by decide)).trans ((hF754.1 43 (by decide)).trans ((hF720.1 43 (by decide)).trans ((hF650.1 43 (by decide)).trans ((hF437.1 43 (by decide)).trans (hb432.1 43 (by decide))))))))))), hq799.trans hs433⟩, xInv.up (S := [45]) hI782 ((xFr.of (S := [45]) hb792 (by decide)).tr (xFr.of (S := [45]) hb798 (by decide))) (List.forall_mem_cons.mpr ⟨(show cpI 32 21 4294967295 (wget w793 45) from ⟨_, hr796, hb797⟩), fun _ h => absurd h List.not_mem_nil⟩), ((((((((xFr.of (S := [43, 44, 45, 46, 47, 48]) hb432 (by decide)).tr (hF437.up (by decide))).tr (hF650.up (by decide))).tr (hF720.up (by decide))).tr (hF754.up (by decide))).tr (hF773.up (by decide))).tr (hF783.up (by decide))).tr ((xFr.of (S := [43, 44, 45, 46, 47, 48]) hb792 (by decide)).tr (xFr.of (S := [43, 44, 45, 46, 47, 48]) hb798 (by decide))))⟩
          · refine xg_t (xg_ifF (u := 0) rfl xnm0 (by decide)) ?_
            refine xg_t (xg_const) ?_
            have hq801 : fld w770 44 3 = s429 := fld_of (hF773.get (by decide) (hF754.get (by decide) (hF720.get (by decide) (hF650.get (by decide) (hF437.get (by decide) hk431)))))
            have hz802 : (rlR B nn k p fp) = (false, p_756, g_421) := by rw [hE646, rvR_2 hv654 hv655 (by rw [← hp723]; omega), ← hp723, ← hp757, rvS_n hk776]
            exact xg_e ⟨0, w770, ⟨rfl, rfl⟩, ⟨Or.inr ⟨rfl, congrArg Prod.fst hz802⟩, by rw [hz802]; exact (hx755.fr (hF773.1 48 (by decide))), by rw [hz802]; exact (hF_424.fr ((hF773.1 43 (by decide)).trans ((hF754.1 43 (by decide)).trans ((hF720.1 43 (by decide)).trans ((hF650.1 43 (by decide)).trans ((hF437.1 43 (by decide)).trans (hb432.1 43 (by decide)))))))), hq801.trans hs433⟩, hI772, ((((((xFr.of (S := [43, 44, 45, 46, 47, 48]) hb432 (by decide)).tr (hF437.up (by decide))).tr (hF650.up (by decide))).tr (hF720.up (by decide))).tr (hF754.up (by decide))).tr (hF773.up (by decide)))⟩
        · refine xg_t (xg_icF (u := f48_732) (v := 2) rfl xnm0 xnm0 (xj_eqF hc747)) ?_
          refine xg_t (xg_const) ?_
          have hq803 : fld w717 44 3 = s429 := fld_of (hF720.get (by decide) (hF650.get (by decide) (hF437.get (by decide) hk431)))
          have hz804 : (rlR B nn k p fp) = (false, p_722, g_421) := by rw [hE646, rvR_3 hv654 hv655 (by rw [← hp723]; omega), ← hp723]
          exact xg_e ⟨0, w717, ⟨rfl, rfl⟩, ⟨Or.inr ⟨rfl, congrArg Prod.fst hz804⟩, by rw [hz804]; exact hx721, by rw [hz804]; exact (hF_424.fr ((hF720.1 43 (by decide)).trans ((hF650.1 43 (by decide)).trans ((hF437.1 43 (by decide)).trans (hb432.1 43 (by decide)))))), hq803.trans hs433⟩, hI719, ((((xFr.of (S := [43, 44, 45, 46, 47, 48]) hb432 (by decide)).tr (hF437.up (by decide))).tr (hF650.up (by decide))).tr (hF720.up (by decide)))⟩
      · refine xg_t (xg_istore (l1 := [(1, (0, n427)), (0, (2, 43))]) rfl rfl rfl) ?_
        refine xg_t (xg_const) ?_
        refine xg_t (xg_istore (l1 := [(2, (0, 4294967295)), (1, (0, n427)), (0, (2, 43))]) rfl rfl rfl) ?_
        refine xg_t (xg_iload (va := (0, 4294967295)) rfl rfl) ?_
        refine xg_t (xg_const) ?_
        refine xg_t (xg_icF (u := 4294967295) (v := 4294967295) rfl xnm0 xnm0 (by decide)) ?_
        refine xg_t (xg_const) ?_
        have hq805 : fld w647 44 3 = s429 := fld_of (hF650.get (by decide) (hF437.get (by decide) hk431))
        have hz806 : (rlR B nn k p fp) = (false, p, g_421) := by rw [hE646, rvR_0 hv658]
        exact xg_e ⟨0, w647, ⟨rfl, rfl⟩, ⟨Or.inr ⟨rfl, congrArg Prod.fst hz806⟩, by rw [hz806]; exact (hT.fr ((hF650.1 48 (by decide)).trans ((hF437.1 48 (by decide)).trans (hb432.1 48 (by decide))))), by rw [hz806]; exact (hF_424.fr ((hF650.1 43 (by decide)).trans ((hF437.1 43 (by decide)).trans (hb432.1 43 (by decide))))), hq805.trans hs433⟩, hI649, (((xFr.of (S := [43, 44, 45, 46, 47, 48]) hb432 (by decide)).tr (hF437.up (by decide))).tr (hF650.up (by decide)))⟩
theorem rtReadU {B : Nat → Nat} {nn : Nat} (hI : xInv w) (hB : bsr w B nn) (hnn : fld w 1 1 = nn) : xPi (d + 9) mX6_readRules [(2, 43)] w bd fc rr (fun n w' => (n = (RU B nn).1 ∧ fld w' 1 2 = (RU B nn).2.1 ∧ fld w' 1 3 = (RU B nn).2.2 ∧ fld w' 1 1 = 0 ∧ fld w' 1 6 = fld w 1 6 ∧ fld w' 1 7 = fld w 1 7 ∧ fld w' 1 9 = fld w 1 9 ∧ (n = 4294967295 → fld w' 22 3 = fld w 22 3) ∧ (n ≠ 4294967295 → n ≤ 16 ∧ fld w' 22 3 = n)) ∧ xInv w' ∧ xFr [1, 22, 23, 24, 25, 43, 44, 45, 46, 47, 48] w w') := by
  refine xPi.of ?_
  show xTo (d + 9) mX6_readRules (0, [], [(0, (2, 43))], [], (w, bd, fc, 0, 0, rr)) (fun φ => ∃ n w', xEnd 1 [(0, n)] (w', bd, fc, 0, 0, rr) φ ∧ (n = (RU B nn).1 ∧ fld w' 1 2 = (RU B nn).2.1 ∧ fld w' 1 3 = (RU B nn).2.2 ∧ fld w' 1 1 = 0 ∧ fld w' 1 6 = fld w 1 6 ∧ fld w' 1 7 = fld w 1 7 ∧ fld w' 1 9 = fld w 1 9 ∧ (n = 4294967295 → fld w' 22 3 = fld w 22 3) ∧ (n ≠ 4294967295 → n ≤ 16 ∧ fld w' 22 3 = n)) ∧ xInv w' ∧ xFr [1, 22, 23, 24, 25, 43, 44, 45, 46, 47, 48] w w')
  obtain ⟨f43_1, f43_3, h43_5, hb2, hb4⟩ := (hI 43 (by decide) : cp43 (wget w 43))
  obtain ⟨f1_6, f1_8, f1_10, f1_12, f1_14, f1_16, h1_18, hb7, hb9, hb11, hb13, hb15, hb17⟩ := (hI 1 (by decide) : cp1 (wget w 1))
  obtain ⟨f22_19, h22_21, hb20⟩ := (hI 22 (by decide) : cp22 (wget w 22))
  obtain ⟨g23_22, h23_23, hb24⟩ := (hI 23 (by decide) : cpI 32 10 4294967295 (wget w 23))
  have h23_23 : xRow w 23 32 10 g23_22 := h23_23
  obtain ⟨f24_25, h24_27, hb26⟩ := (hI 24 (by decide) : cp24 (wget w 24))
  obtain ⟨g25_28, h25_29, hb30⟩ := (hI 25 (by decide) : cpI 320 11 4294967295 (wget w 25))
  have h25_29 : xRow w 25 320 11 g25_28 := h25_29
  obtain ⟨f44_31, h44_33, hb32⟩ := (hI 44 (by decide) : cp44 (wget w 44))
  obtain ⟨g45_34, h45_35, hb36⟩ := (hI 45 (by decide) : cpI 32 21 4294967295 (wget w 45))
  have h45_35 : xRow w 45 32 21 g45_34 := h45_35
  obtain ⟨f46_37, h46_39, hb38⟩ := (hI 46 (by decide) : cp46 (wget w 46))
  obtain ⟨g47_40, h47_41, hb42⟩ := (hI 47 (by decide) : cpI 320 22 4294967295 (wget w 47))
  have h47_41 : xRow w 47 320 22 g47_40 := h47_41
  have hq43 : fld w 1 1 = f1_6 := fld_of h1_18
  refine xg_t (xg_blk (b := [(0, 1, 0, 0, 0, 0), (1, 3, 1, 6, 2, 16), (4, 3, 13, 283, 40, 42), (7, 1, 0, 0, 0, 0), (8, 3, 1, 6, 3, 20), (11, 3, 13, 283, 40, 42), (14, 1, 0, 0, 0, 0), (15, 1, 3, 0, 0, 0), (16, 3, 14, 6, 4, 45), (19, 1, 0, 0, 0, 0), (20, 3, 1, 6, 1, 38), (23, 1, 0, 0, 0, 0), (24, 3, 1, 6, 0, 23), (27, 3, 1, 9, 1, 49), (30, 3, 13, 319, 64, 52), (33, 1, 3, 0, 0, 0), (34, 1, 15, 1, 0, 0)]) rfl) ?_
  refine xg_t (xg_aload (va := (2, 43)) rfl rfl) ?_
  refine xg_t (xg_getf (va := (2, 44)) h43_5 rfl) ?_
  refine xg_cV mX5_clear (vs := []) (rest := []) (rs := []) (cn1 := 0) (sl1 := 0) rfl (rclear_ok h44_33) rfl h44_33 rfl rfl rfl rfl rfl rfl rfl (fun w44 hq45 => ?_)
  refine xg_t (xg_aload (va := (2, 43)) rfl rfl) ?_
  refine xg_t (xg_getf (va := (2, 46)) (hq45.2.get (by decide) h43_5) rfl) ?_
  refine xg_cV mX5_clear (vs := []) (rest := []) (rs := []) (cn1 := 0) (sl1 := 0) rfl (rclear_ok (hq45.2.get (by decide) h46_39)) rfl (hq45.2.get (by decide) h46_39) rfl rfl rfl rfl rfl rfl rfl (fun w46 hq47 => ?_)
  refine xg_t (xg_aload (va := (2, 43)) rfl rfl) ?_
  refine xg_t (xg_const) ?_
  refine xg_putI (fl1 := [(2, 1), (2, 48), (2, 44), (2, 46), (0, 0), (0, f43_3)]) (hq47.2.get (by decide) (hq45.2.get (by decide) h43_5)) rfl rfl rfl (fun w48 hk49 hb50 => ?_)
  refine xg_t (xg_aload (va := (2, 43)) rfl rfl) ?_
  refine xg_t (xg_getf (va := (2, 48)) hk49 rfl) ?_
  refine xg_t (xg_aload (va := (2, 43)) rfl rfl) ?_
  refine xg_t (xg_getf (va := (2, 1)) hk49 rfl) ?_
  refine xg_t (xg_getf (va := (0, f1_6)) (hb50.get (by decide) (hq47.2.get (by decide) (hq45.2.get (by decide) h1_18))) rfl) ?_
  have he51 : f1_6 = nn := by omega
  have hB52 : bsr w48 B f1_6 := by rw [he51]; exact (hB.fr ((hb50.1 2 (by decide)).trans ((hq47.2.1 2 (by decide)).trans (hq45.2.1 2 (by decide)))))
  obtain ⟨f48_53, f48_55, f48_57, f48_59, f48_61, h48_63, hb54, hb56, hb58, hb60, hb62, hb64⟩ := (hI 48 (by decide) : cp48 (wget w 48))
  refine xg_cVv mX8_start (vs := [(0, f1_6)]) (rest := []) (cn1 := 0) (sl1 := 0) rfl (tkStaX48 (xInv.up (S := [44, 46, 43]) hI (((xFr.of (S := [44, 46, 43]) hq45.2 (by decide)).tr (xFr.of (S := [44, 46, 43]) hq47.2 (by decide))).tr (xFr.of (S := [44, 46, 43]) hb50 (by decide))) (List.forall_mem_cons.mpr ⟨(show cp44 (wget w48 44) from ⟨0, (hb50.get (by decide) (hq47.2.get (by decide) hq45.1)), by omega⟩), List.forall_mem_cons.mpr ⟨(show cp46 (wget w48 46) from ⟨0, (hb50.get (by decide) hq47.1), by omega⟩), List.forall_mem_cons.mpr ⟨(show cp43 (wget w48 43) from ⟨0, f43_3, hk49, by omega, by omega⟩), fun _ h => absurd h List.not_mem_nil⟩⟩⟩)) (by have := hB.1; omega) hB52) rfl (hb50.get (by decide) (hq47.2.get (by decide) (hq45.2.get (by decide) h48_63))) rfl rfl rfl rfl rfl rfl (fun w65 hq66 => ?_)
  obtain ⟨hI67, hF68, hx69⟩ := hq66
  rw [he51] at hx69
  refine xg_t (xg_const) ?_
  refine xg_t (xg_istore (l1 := [(0, (2, 43))]) rfl rfl rfl) ?_
  refine xg_t (xg_drop (l1 := [(0, (2, 43)), (1, (0, 0))]) (List.forall_mem_cons.mpr ⟨List.mem_cons_of_mem _ (List.mem_cons_self), List.forall_mem_cons.mpr ⟨List.mem_cons_self, fun _ h => absurd h List.not_mem_nil⟩⟩)) ?_
  have hq76 : fld w65 43 4 = 0 := fld_of (hF68.get (by decide) hk49)
  have hq77 : fld w65 44 3 = 0 := fld_of (hF68.get (by decide) (hb50.get (by decide) (hq47.2.get (by decide) hq45.1)))
  have key70 : ∀ (m72 : Nat) (ki : Nat) (w73 : List (List xE)), 501 - ki < m72 → ki ≤ 501 → xInv w73 → xFr [1, 22, 23, 24, 25, 43, 44, 45, 46, 47, 48] w w73 → ((∃ (q : Nat) (f : Nat × Nat), TKw 48 B nn w73 q ∧ FTr w73 f ∧ fld w73 44 3 = min ki 16 ∧ ki ≤ q ∧ rx B nn ki q f = RU B nn ∧ (f.1 = 0 → ki ≤ 16)) ∧ wget w73 1 = wget w 1 ∧ wget w73 22 = wget w 22) → xTo (d + 9) mX6_readRules (35, [], [(0, (2, 43)), (1, (0, ki))], [], (w73, bd, fc, 0, 0, rr)) (fun φ => ∃ n w', xEnd 1 [(0, n)] (w', bd, fc, 0, 0, rr) φ ∧ (n = (RU B nn).1 ∧ fld w' 1 2 = (RU B nn).2.1 ∧ fld w' 1 3 = (RU B nn).2.2 ∧ fld w' 1 1 = 0 ∧ fld w' 1 6 = fld w 1 6 ∧ fld w' 1 7 = fld w 1 7 ∧ fld w' 1 9 = fld w 1 9 ∧ (n = 4294967295 → fld w' 22 3 = fld w 22 3) ∧ (n ≠ 4294967295 → n ≤ 16 ∧ fld w' 22 3 = n)) ∧ xInv w' ∧ xFr [1, 22, 23, 24, 25, 43, 44, 45, 46, 47, 48] w w') := by
    intro m72
    induction m72 with
    | zero => intro ki w73 hz; exact absurd hz (Nat.not_lt_zero _)
    | succ m72 ih71 =>
      intro ki w73 hm80 hn78 hI74 hF75 he79
      obtain ⟨⟨q_81, f_82, hT_83, hF_84, hs_85, hl_86, hX_87, h6_88⟩, k1_89, k22_90⟩ := he79
      obtain ⟨⟨-, -, -, -, hz91⟩, -⟩ := id hT_83
      obtain ⟨f48_92, f48_94, f48_96, f48_98, f48_100, h48_102, hb93, hb95, hb97, hb99, hb101, hb103⟩ := (hI74 48 (by decide) : cp48 (wget w73 48))
      obtain ⟨⟨ht104, ht105, ht106, ht107, ht108⟩, ht109⟩ := id hT_83
      have hq110 : fld w73 48 1 = f48_92 := fld_of h48_102
      have hq111 : fld w73 48 2 = f48_94 := fld_of h48_102
      have hq112 : fld w73 48 3 = f48_96 := fld_of h48_102
      have hq113 : fld w73 48 4 = f48_98 := fld_of h48_102
      have hq114 : fld w73 48 5 = f48_100 := fld_of h48_102
      refine xg_t (xg_blk (b := [(35, 1, 2, 1, 0, 0), (36, 3, 5, 500, 0, 0), (39, 3, 6, 82, 4, 0), (42, 1, 0, 0, 0, 0), (43, 3, 1, 6, 1, 38), (46, 3, 1, 8, 2, 56), (49, 3, 7, 82, 0, 0), (52, 1, 0, 0, 0, 0), (53, 3, 13, 294, 48, 59), (56, 3, 7, 76, 1, 0), (59, 1, 0, 0, 0, 0), (60, 3, 1, 6, 0, 23), (63, 1, 3, 1, 0, 0), (64, 1, 0, 0, 0, 0), (65, 3, 1, 6, 1, 38), (68, 3, 1, 8, 3, 63), (71, 3, 13, 326, 72, 66), (74, 1, 3, 4294967295, 0, 0), (75, 1, 12, 0, 1, 0)]) rfl) ?_
      refine xg_t (xg_iload (va := (0, ki)) rfl rfl) ?_
      refine xg_t (xg_sip) ?_
      by_cases hc115 : 500 < ki
      · refine xg_t (xg_icT (u := ki) (v := 500) rfl xnm0 xnm0 (xj_gtT hc115 (by omega))) ?_
        refine xg_t (xg_blk (b := [(82, 1, 0, 0, 0, 0), (83, 3, 1, 6, 0, 23), (86, 1, 0, 0, 0, 0), (87, 3, 1, 6, 4, 45), (90, 1, 0, 0, 0, 0), (91, 3, 1, 6, 5, 69), (94, 3, 13, 326, 72, 66), (97, 1, 0, 0, 0, 0), (98, 3, 1, 6, 4, 45), (101, 3, 7, 106, 0, 0), (104, 1, 3, 4294967295, 0, 0), (105, 1, 12, 0, 1, 0)]) rfl) ?_
        have hBn := hB.1
        have hend : tkd B nn q_81 = 0 := by
          by_cases z : tkd B nn q_81 = 0
          · exact z
          · have z1 := (tf_gt z).1
            have z2 := tq_ge (B := B) (n := nn) (p := q_81)
            omega
        obtain ⟨f43_116, f43_118, h43_120, hb117, hb119⟩ := (hI74 43 (by decide) : cp43 (wget w73 43))
        have hq121 : fld w73 43 4 = f43_116 := fld_of h43_120
        have hq122 : fld w73 43 5 = f43_118 := fld_of h43_120
        obtain ⟨hf123, hf124⟩ := id hF_84
        have hFE125 := hF_84
        obtain ⟨f44_126, h44_128, hb127⟩ := (hI74 44 (by decide) : cp44 (wget w73 44))
        have hq129 : fld w73 44 3 = f44_126 := fld_of h44_128
        have hq130 : fld w73 44 3 = min ki 16 := hs_85
        refine xg_t (xg_aload (va := (2, 43)) rfl rfl) ?_
        refine xg_t (xg_getf (va := (2, 1)) h43_120 rfl) ?_
        refine xg_t (xg_aload (va := (2, 43)) rfl rfl) ?_
        refine xg_t (xg_getf (va := (0, f43_116)) h43_120 rfl) ?_
        refine xg_t (xg_aload (va := (2, 43)) rfl rfl) ?_
        refine xg_t (xg_getf (va := (0, f43_118)) h43_120 rfl) ?_
        have kw131 : wget w73 1 = wget w 1 := k1_89
        have kw132 : wget w73 22 = wget w 22 := k22_90
        obtain ⟨f1_133, f1_135, f1_137, f1_139, f1_141, f1_143, h1_145, hb134, hb136, hb138, hb140, hb142, hb144⟩ := (hI74 1 (by decide) : cp1 (wget w73 1))
        refine xg_cVv mX9_take (vs := [(0, f43_116), (0, f43_118)]) (rest := []) (cn1 := 0) (sl1 := 0) rfl (tdTakeF (hI74) (by omega) (by omega)) rfl h1_145 rfl rfl rfl rfl rfl rfl (fun w146 hq147 => ?_)
        obtain ⟨hI148, hF149, hx150⟩ := hq147
        obtain ⟨ht151, ht152, ht153, ht154, ht155, ht156⟩ := hx150
        have k157 : fld w146 1 6 = fld w 1 6 := ht154.trans (fld_eq (j := 6) kw131)
        have k158 : fld w146 1 7 = fld w 1 7 := ht155.trans (fld_eq (j := 7) kw131)
        have k159 : fld w146 1 9 = fld w 1 9 := ht156.trans (fld_eq (j := 9) kw131)
        have kw160 : fld w146 22 3 = fld w 22 3 := fld_eq (j := 3) ((hF149.1 22 (by decide)).trans kw132)
        refine xg_t (xg_aload (va := (2, 43)) rfl rfl) ?_
        refine xg_t (xg_getf (va := (0, f43_116)) (hF149.get (by decide) h43_120) rfl) ?_
        by_cases hc161 : f43_116 = 0
        · refine xg_t (xg_ifT (u := f43_116) rfl xnm0 (xj_eqT hc161)) ?_
          refine xg_t (xg_blk (b := [(106, 1, 0, 0, 0, 0), (107, 3, 1, 6, 0, 23), (110, 3, 1, 9, 12, 72), (113, 1, 0, 0, 0, 0), (114, 3, 1, 6, 2, 16), (117, 3, 13, 284, 40, 75), (120, 1, 0, 0, 0, 0), (121, 3, 1, 6, 0, 23), (124, 3, 1, 9, 13, 79), (127, 1, 0, 0, 0, 0), (128, 3, 1, 6, 3, 20), (131, 3, 13, 284, 40, 75), (134, 1, 0, 0, 0, 0), (135, 3, 1, 6, 2, 16), (138, 3, 1, 5, 3, 82), (141, 1, 12, 0, 1, 0)]) rfl) ?_
          refine xg_t (xg_aload (va := (2, 43)) rfl rfl) ?_
          refine xg_t (xg_getf (va := (2, 1)) (hF149.get (by decide) h43_120) rfl) ?_
          obtain ⟨f1_162, f1_164, f1_166, f1_168, f1_170, f1_172, h1_174, hb163, hb165, hb167, hb169, hb171, hb173⟩ := (hI148 1 (by decide) : cp1 (wget w146 1))
          refine xg_t (xg_getf (va := (2, 22)) h1_174 rfl) ?_
          refine xg_t (xg_aload (va := (2, 43)) rfl rfl) ?_
          refine xg_t (xg_getf (va := (2, 44)) (hF149.get (by decide) h43_120) rfl) ?_
          obtain ⟨f22_175, h22_177, hb176⟩ := (hI148 22 (by decide) : cp22 (wget w146 22))
          obtain ⟨g23_178, h23_179, hb180⟩ := (hI148 23 (by decide) : cpI 32 10 4294967295 (wget w146 23))
          have h23_179 : xRow w146 23 32 10 g23_178 := h23_179
          obtain ⟨g45_181, h45_182, hb183⟩ := (hI148 45 (by decide) : cpI 32 21 4294967295 (wget w146 45))
          have h45_182 : xRow w146 45 32 21 g45_181 := h45_182
          refine xg_cVv mX5_copy (vs := [(2, 44)]) (rest := []) (cn1 := 0) (sl1 := 0) rfl (rcopyX (lim := 16) (wd := 2) (B := 4294967295) h22_177 (hF149.get (by decide) h44_128) h23_179 h45_182 (hb180) (hb183) (by decide) (by omega) (by decide) (by decide) (by decide) (by decide) (by decide) (by decide)) rfl h22_177 rfl rfl rfl rfl rfl rfl (fun w184 hq185 => ?_)
          obtain ⟨hk186, g187, hr188, hb189, hx191, hF190⟩ := hq185
          refine xg_t (xg_aload (va := (2, 43)) rfl rfl) ?_
          refine xg_t (xg_getf (va := (2, 1)) (hF190.get (by decide) (hF149.get (by decide) h43_120)) rfl) ?_
          refine xg_t (xg_getf (va := (2, 24)) (hF190.get (by decide) h1_174) rfl) ?_
          refine xg_t (xg_aload (va := (2, 43)) rfl rfl) ?_
          refine xg_t (xg_getf (va := (2, 46)) (hF190.get (by decide) (hF149.get (by decide) h43_120)) rfl) ?_
          obtain ⟨f24_192, h24_194, hb193⟩ := (hI148 24 (by decide) : cp24 (wget w146 24))
          obtain ⟨f46_195, h46_197, hb196⟩ := (hI148 46 (by decide) : cp46 (wget w146 46))
          obtain ⟨g25_198, h25_199, hb200⟩ := (hI148 25 (by decide) : cpI 320 11 4294967295 (wget w146 25))
          have h25_199 : xRow w146 25 320 11 g25_198 := h25_199
          obtain ⟨g47_201, h47_202, hb203⟩ := (hI148 47 (by decide) : cpI 320 22 4294967295 (wget w146 47))
          have h47_202 : xRow w146 47 320 22 g47_201 := h47_202
          refine xg_cVv mX5_copy (vs := [(2, 46)]) (rest := []) (cn1 := 0) (sl1 := 0) rfl (rcopyX (lim := 64) (wd := 5) (B := 4294967295) (hF190.get (by decide) h24_194) (hF190.get (by decide) h46_197) (h25_199.fr hF190 (by decide)) (h47_202.fr hF190 (by decide)) (hb200) (hb203) (by decide) (by omega) (by decide) (by decide) (by decide) (by decide) (by decide) (by decide)) rfl (hF190.get (by decide) h24_194) rfl rfl rfl rfl rfl rfl (fun w204 hq205 => ?_)
          obtain ⟨hk206, g207, hr208, hb209, hx211, hF210⟩ := hq205
          refine xg_t (xg_aload (va := (2, 43)) rfl rfl) ?_
          refine xg_t (xg_getf (va := (2, 44)) (hF210.get (by decide) (hF190.get (by decide) (hF149.get (by decide) h43_120))) rfl) ?_
          refine xg_t (xg_getf (va := (0, f44_126)) (hF210.get (by decide) (hF190.get (by decide) (hF149.get (by decide) h44_128))) rfl) ?_
          have hR212 : RU B nn = (ki, 0, 4294967295) := by rw [← hX_87]; exact rx_0 hend (by omega)
          have h16 := h6_88 (by omega)
          have hq213 : fld w204 22 3 = f44_126 := fld_of (hF210.get (by decide) hk186)
          exact xg_e ⟨f44_126, w204, ⟨rfl, rfl⟩, ⟨by rw [hR212]; show _ = ki; omega, by rw [hR212]; show _ = 0; have y2 := ((fld_eq (j := 2) ((hF210.1 1 (by decide)).trans (hF190.1 1 (by decide)))).trans ht152); omega, by rw [hR212]; show _ = 4294967295; have y3 := ((fld_eq (j := 3) ((hF210.1 1 (by decide)).trans (hF190.1 1 (by decide)))).trans ht153); rw [if_pos (by omega)] at y3; omega, ((fld_eq (j := 1) ((hF210.1 1 (by decide)).trans (hF190.1 1 (by decide)))).trans ht151), ((fld_eq (j := 6) ((hF210.1 1 (by decide)).trans (hF190.1 1 (by decide)))).trans k157), ((fld_eq (j := 7) ((hF210.1 1 (by decide)).trans (hF190.1 1 (by decide)))).trans k158), ((fld_eq (j := 9) ((hF210.1 1 (by decide)).trans (hF190.1 1 (by decide)))).trans k159), fun y => absurd y (by omega), fun _ => ⟨by omega, by omega⟩⟩, xInv.up (S := [22, 23, 24, 25]) hI148 ((hF190.up (T := [22, 23, 24, 25]) (by decide)).tr (hF210.up (T := [22, 23, 24, 25]) (by decide))) (List.forall_mem_cons.mpr ⟨(show cp22 (wget w204 22) from ⟨f44_126, (hF210.get (by decide) hk186), by omega⟩), List.forall_mem_cons.mpr ⟨(show cpI 32 10 4294967295 (wget w204 23) from ⟨_, (hr188.fr hF210 (by decide)), hb189⟩), List.forall_mem_cons.mpr ⟨(show cp24 (wget w204 24) from ⟨f46_195, hk206, by omega⟩), List.forall_mem_cons.mpr ⟨(show cpI 320 11 4294967295 (wget w204 25) from ⟨_, hr208, hb209⟩), fun _ h => absurd h List.not_mem_nil⟩⟩⟩⟩), ((hF75.tr (hF149.up (by decide))).tr ((hF190.up (T := [1, 22, 23, 24, 25, 43, 44, 45, 46, 47, 48]) (by decide)).tr (hF210.up (T := [1, 22, 23, 24, 25, 43, 44, 45, 46, 47, 48]) (by decide))))⟩
        · refine xg_t (xg_ifF (u := f43_116) rfl xnm0 (xj_eqF hc161)) ?_
          refine xg_t (xg_const) ?_
          have hR214 : RU B nn = (4294967295, f_82.1, f_82.2) := by rw [← hX_87]; exact rx_1 hend (by omega)
          have hp3215 : fld w146 1 3 = f_82.2 := by
            rw [ht153, if_neg (by omega)]
            have y3 := hFE125.2 (by omega)
            omega
          exact xg_e ⟨4294967295, w146, ⟨rfl, rfl⟩, ⟨(congrArg Prod.fst hR214).symm, by rw [hR214]; show _ = f_82.1; omega, by rw [hR214]; exact hp3215, ht151, k157, k158, k159, fun _ => kw160, fun y => absurd rfl y⟩, hI148, (hF75.tr (hF149.up (by decide)))⟩
      · refine xg_t (xg_icF (u := ki) (v := 500) rfl xnm0 xnm0 (xj_gtF (by omega) (by omega))) ?_
        refine xg_t (xg_aload (va := (2, 43)) rfl rfl) ?_
        obtain ⟨f43_216, f43_218, h43_220, hb217, hb219⟩ := (hI74 43 (by decide) : cp43 (wget w73 43))
        refine xg_t (xg_getf (va := (2, 48)) h43_220 rfl) ?_
        refine xg_t (xg_getf (va := (0, f48_94)) h48_102 rfl) ?_
        by_cases hc221 : f48_94 = 0
        · refine xg_t (xg_ifT (u := f48_94) rfl xnm0 (xj_eqT hc221)) ?_
          refine xg_t (xg_blk (b := [(82, 1, 0, 0, 0, 0), (83, 3, 1, 6, 0, 23), (86, 1, 0, 0, 0, 0), (87, 3, 1, 6, 4, 45), (90, 1, 0, 0, 0, 0), (91, 3, 1, 6, 5, 69), (94, 3, 13, 326, 72, 66), (97, 1, 0, 0, 0, 0), (98, 3, 1, 6, 4, 45), (101, 3, 7, 106, 0, 0), (104, 1, 3, 4294967295, 0, 0), (105, 1, 12, 0, 1, 0)]) rfl) ?_
          have hBn := hB.1
          have hend : tkd B nn q_81 = 0 := by
            by_cases z : tkd B nn q_81 = 0
            · exact z
            · have z1 := (tf_gt z).1
              have z2 := tq_ge (B := B) (n := nn) (p := q_81)
              omega
          have hq222 : fld w73 43 4 = f43_216 := fld_of h43_220
          have hq223 : fld w73 43 5 = f43_218 := fld_of h43_220
          obtain ⟨hf224, hf225⟩ := id hF_84
          have hFE226 := hF_84
          obtain ⟨f44_227, h44_229, hb228⟩ := (hI74 44 (by decide) : cp44 (wget w73 44))
          have hq230 : fld w73 44 3 = f44_227 := fld_of h44_229
          have hq231 : fld w73 44 3 = min ki 16 := hs_85
          refine xg_t (xg_aload (va := (2, 43)) rfl rfl) ?_
          refine xg_t (xg_getf (va := (2, 1)) h43_220 rfl) ?_
          refine xg_t (xg_aload (va := (2, 43)) rfl rfl) ?_
          refine xg_t (xg_getf (va := (0, f43_216)) h43_220 rfl) ?_
          refine xg_t (xg_aload (va := (2, 43)) rfl rfl) ?_
          refine xg_t (xg_getf (va := (0, f43_218)) h43_220 rfl) ?_
          have kw232 : wget w73 1 = wget w 1 := k1_89
          have kw233 : wget w73 22 = wget w 22 := k22_90
          obtain ⟨f1_234, f1_236, f1_238, f1_240, f1_242, f1_244, h1_246, hb235, hb237, hb239, hb241, hb243, hb245⟩ := (hI74 1 (by decide) : cp1 (wget w73 1))
          refine xg_cVv mX9_take (vs := [(0, f43_216), (0, f43_218)]) (rest := []) (cn1 := 0) (sl1 := 0) rfl (tdTakeF (hI74) (by omega) (by omega)) rfl h1_246 rfl rfl rfl rfl rfl rfl (fun w247 hq248 => ?_)
          obtain ⟨hI249, hF250, hx251⟩ := hq248
          obtain ⟨ht252, ht253, ht254, ht255, ht256, ht257⟩ := hx251
          have k258 : fld w247 1 6 = fld w 1 6 := ht255.trans (fld_eq (j := 6) kw232)
          have k259 : fld w247 1 7 = fld w 1 7 := ht256.trans (fld_eq (j := 7) kw232)
          have k260 : fld w247 1 9 = fld w 1 9 := ht257.trans (fld_eq (j := 9) kw232)
          have kw261 : fld w247 22 3 = fld w 22 3 := fld_eq (j := 3) ((hF250.1 22 (by decide)).trans kw233)
          refine xg_t (xg_aload (va := (2, 43)) rfl rfl) ?_
          refine xg_t (xg_getf (va := (0, f43_216)) (hF250.get (by decide) h43_220) rfl) ?_
          by_cases hc262 : f43_216 = 0
          · refine xg_t (xg_ifT (u := f43_216) rfl xnm0 (xj_eqT hc262)) ?_
            refine xg_t (xg_blk (b := [(106, 1, 0, 0, 0, 0), (107, 3, 1, 6, 0, 23), (110, 3, 1, 9, 12, 72), (113, 1, 0, 0, 0, 0), (114, 3, 1, 6, 2, 16), (117, 3, 13, 284, 40, 75), (120, 1, 0, 0, 0, 0), (121, 3, 1, 6, 0, 23), (124, 3, 1, 9, 13, 79), (127, 1, 0, 0, 0, 0), (128, 3, 1, 6, 3, 20), (131, 3, 13, 284, 40, 75), (134, 1, 0, 0, 0, 0), (135, 3, 1, 6, 2, 16), (138, 3, 1, 5, 3, 82), (141, 1, 12, 0, 1, 0)]) rfl) ?_
            refine xg_t (xg_aload (va := (2, 43)) rfl rfl) ?_
            refine xg_t (xg_getf (va := (2, 1)) (hF250.get (by decide) h43_220) rfl) ?_
            obtain ⟨f1_263, f1_265, f1_267, f1_269, f1_271, f1_273, h1_275, hb264, hb266, hb268, hb270, hb272, hb274⟩ := (hI249 1 (by decide) : cp1 (wget w247 1))
            refine xg_t (xg_getf (va := (2, 22)) h1_275 rfl) ?_
            refine xg_t (xg_aload (va := (2, 43)) rfl rfl) ?_
            refine xg_t (xg_getf (va := (2, 44)) (hF250.get (by decide) h43_220) rfl) ?_
            obtain ⟨f22_276, h22_278, hb277⟩ := (hI249 22 (by decide) : cp22 (wget w247 22))
            obtain ⟨g23_279, h23_280, hb281⟩ := (hI249 23 (by decide) : cpI 32 10 4294967295 (wget w247 23))
            have h23_280 : xRow w247 23 32 10 g23_279 := h23_280
            obtain ⟨g45_282, h45_283, hb284⟩ := (hI249 45 (by decide) : cpI 32 21 4294967295 (wget w247 45))
            have h45_283 : xRow w247 45 32 21 g45_282 := h45_283
            refine xg_cVv mX5_copy (vs := [(2, 44)]) (rest := []) (cn1 := 0) (sl1 := 0) rfl (rcopyX (lim := 16) (wd := 2) (B := 4294967295) h22_278 (hF250.get (by decide) h44_229) h23_280 h45_283 (hb281) (hb284) (by decide) (by omega) (by decide) (by decide) (by decide) (by decide) (by decide) (by decide)) rfl h22_278 rfl rfl rfl rfl rfl rfl (fun w285 hq286 => ?_)
            obtain ⟨hk287, g288, hr289, hb290, hx292, hF291⟩ := hq286
            refine xg_t (xg_aload (va := (2, 43)) rfl rfl) ?_
            refine xg_t (xg_getf (va := (2, 1)) (hF291.get (by decide) (hF250.get (by decide) h43_220)) rfl) ?_
            refine xg_t (xg_getf (va := (2, 24)) (hF291.get (by decide) h1_275) rfl) ?_
            refine xg_t (xg_aload (va := (2, 43)) rfl rfl) ?_
            refine xg_t (xg_getf (va := (2, 46)) (hF291.get (by decide) (hF250.get (by decide) h43_220)) rfl) ?_
            obtain ⟨f24_293, h24_295, hb294⟩ := (hI249 24 (by decide) : cp24 (wget w247 24))
            obtain ⟨f46_296, h46_298, hb297⟩ := (hI249 46 (by decide) : cp46 (wget w247 46))
            obtain ⟨g25_299, h25_300, hb301⟩ := (hI249 25 (by decide) : cpI 320 11 4294967295 (wget w247 25))
            have h25_300 : xRow w247 25 320 11 g25_299 := h25_300
            obtain ⟨g47_302, h47_303, hb304⟩ := (hI249 47 (by decide) : cpI 320 22 4294967295 (wget w247 47))
            have h47_303 : xRow w247 47 320 22 g47_302 := h47_303
            refine xg_cVv mX5_copy (vs := [(2, 46)]) (rest := []) (cn1 := 0) (sl1 := 0) rfl (rcopyX (lim := 64) (wd := 5) (B := 4294967295) (hF291.get (by decide) h24_295) (hF291.get (by decide) h46_298) (h25_300.fr hF291 (by decide)) (h47_303.fr hF291 (by decide)) (hb301) (hb304) (by decide) (by omega) (by decide) (by decide) (by decide) (by decide) (by decide) (by decide)) rfl (hF291.get (by decide) h24_295) rfl rfl rfl rfl rfl rfl (fun w305 hq306 => ?_)
            obtain ⟨hk307, g308, hr309, hb310, hx312, hF311⟩ := hq306
            refine xg_t (xg_aload (va := (2, 43)) rfl rfl) ?_
            refine xg_t (xg_getf (va := (2, 44)) (hF311.get (by decide) (hF291.get (by decide) (hF250.get (by decide) h43_220))) rfl) ?_
            refine xg_t (xg_getf (va := (0, f44_227)) (hF311.get (by decide) (hF291.get (by decide) (hF250.get (by decide) h44_229))) rfl) ?_
            have hR313 : RU B nn = (ki, 0, 4294967295) := by rw [← hX_87]; exact rx_0 hend (by omega)
            have h16 := h6_88 (by omega)
            have hq314 : fld w305 22 3 = f44_227 := fld_of (hF311.get (by decide) hk287)
            exact xg_e ⟨f44_227, w305, ⟨rfl, rfl⟩, ⟨by rw [hR313]; show _ = ki; omega, by rw [hR313]; show _ = 0; have y2 := ((fld_eq (j := 2) ((hF311.1 1 (by decide)).trans (hF291.1 1 (by decide)))).trans ht253); omega, by rw [hR313]; show _ = 4294967295; have y3 := ((fld_eq (j := 3) ((hF311.1 1 (by decide)).trans (hF291.1 1 (by decide)))).trans ht254); rw [if_pos (by omega)] at y3; omega, ((fld_eq (j := 1) ((hF311.1 1 (by decide)).trans (hF291.1 1 (by decide)))).trans ht252), ((fld_eq (j := 6) ((hF311.1 1 (by decide)).trans (hF291.1 1 (by decide)))).trans k258), ((fld_eq (j := 7) ((hF311.1 1 (by decide)).trans (hF291.1 1 (by decide)))).trans k259), ((fld_eq (j := 9) ((hF311.1 1 (by decide)).trans (hF291.1 1 (by decide)))).trans k260), fun y => absurd y (by omega), fun _ => ⟨by omega, by omega⟩⟩, xInv.up (S := [22, 23, 24, 25]) hI249 ((hF291.up (T := [22, 23, 24, 25]) (by decide)).tr (hF311.up (T := [22, 23, 24, 25]) (by decide))) (List.forall_mem_cons.mpr ⟨(show cp22 (wget w305 22) from ⟨f44_227, (hF311.get (by decide) hk287), by omega⟩), List.forall_mem_cons.mpr ⟨(show cpI 32 10 4294967295 (wget w305 23) from ⟨_, (hr289.fr hF311 (by decide)), hb290⟩), List.forall_mem_cons.mpr ⟨(show cp24 (wget w305 24) from ⟨f46_296, hk307, by omega⟩), List.forall_mem_cons.mpr ⟨(show cpI 320 11 4294967295 (wget w305 25) from ⟨_, hr309, hb310⟩), fun _ h => absurd h List.not_mem_nil⟩⟩⟩⟩), ((hF75.tr (hF250.up (by decide))).tr ((hF291.up (T := [1, 22, 23, 24, 25, 43, 44, 45, 46, 47, 48]) (by decide)).tr (hF311.up (T := [1, 22, 23, 24, 25, 43, 44, 45, 46, 47, 48]) (by decide))))⟩
          · refine xg_t (xg_ifF (u := f43_216) rfl xnm0 (xj_eqF hc262)) ?_
            refine xg_t (xg_const) ?_
            have hR315 : RU B nn = (4294967295, f_82.1, f_82.2) := by rw [← hX_87]; exact rx_1 hend (by omega)
            have hp3316 : fld w247 1 3 = f_82.2 := by
              rw [ht254, if_neg (by omega)]
              have y3 := hFE226.2 (by omega)
              omega
            exact xg_e ⟨4294967295, w247, ⟨rfl, rfl⟩, ⟨(congrArg Prod.fst hR315).symm, by rw [hR315]; show _ = f_82.1; omega, by rw [hR315]; exact hp3316, ht252, k258, k259, k260, fun _ => kw261, fun y => absurd rfl y⟩, hI249, (hF75.tr (hF250.up (by decide)))⟩
        · refine xg_t (xg_ifF (u := f48_94) rfl xnm0 (xj_eqF hc221)) ?_
          refine xg_t (xg_aload (va := (2, 43)) rfl rfl) ?_
          refine xg_cVi mX6_readLine (vs := []) (rest := []) (cn1 := 0) (sl1 := 0) rfl (rtLineX (k := ki) (hI74) (hB.fr (hF75.1 2 (by decide))) hT_83 hF_84 hs_85) rfl h43_220 rfl rfl rfl rfl rfl rfl (fun n321 w317 hq318 => ?_)
          obtain ⟨hn322, hI319, hF320⟩ := hq318
          have hnz330 : tkd B nn q_81 ≠ 0 := by omega
          obtain ⟨hn323, hn324, hn325, hn326⟩ := hn322
          obtain ⟨t_327, ht328⟩ : ∃ x, x = rlR B nn ki q_81 f_82 := ⟨_, rfl⟩
          rw [← ht328] at hn323 hn324 hn325
          rcases hn323 with ⟨rfl, hy329⟩ | ⟨rfl, hy329⟩
          · refine xg_t (xg_ifT (u := 1) rfl xnm0 (by decide)) ?_
            refine xg_t (xg_blk (b := [(76, 3, 9, 1, 1, 0), (79, 3, 8, 35, 0, 0)]) rfl) ?_
            refine xg_t (xg_iinc (u := ki) (z := ki + 1) (l1 := [(0, (2, 43))]) rfl rfl (by omega) rfl) ?_
            refine xg_t (xg_goto) ?_
            refine xg_t (xg_drop (l1 := [(0, (2, 43)), (1, (0, ki + 1))]) (List.forall_mem_cons.mpr ⟨List.mem_cons_of_mem _ (List.mem_cons_self), List.forall_mem_cons.mpr ⟨List.mem_cons_self, fun _ h => absurd h List.not_mem_nil⟩⟩)) ?_
            have hb331 := (rlR_b (B := B) (k := ki) (fp := f_82) hz91).2.2 (by rw [← ht328]; exact hy329)
            rw [← ht328] at hb331
            exact ih71 (ki + 1) w317 (by omega) (by omega) (hI319) ((hF75.tr (hF320.up (by decide)))) (⟨⟨t_327.2.1, t_327.2.2, hn324, hn325, hn326, by omega, by rw [← hX_87, rx_y hz91 hnz330 (by rw [← ht328]; exact hy329), ← ht328], fun z => by
              by_cases y6 : 16 ≤ ki
              · exact absurd z (by rw [ht328]; exact rlR_nz y6)
              · omega⟩, ((hF320.1 1 (by decide)).trans k1_89), ((hF320.1 22 (by decide)).trans k22_90)⟩)
          · have hR332 : RU B nn = (4294967295, 1, tq B nn t_327.2.1) := by rw [← hX_87, rx_n hnz330 (by rw [← ht328]; exact hy329), ← ht328]
            obtain ⟨f48_333, f48_335, f48_337, f48_339, f48_341, h48_343, hb334, hb336, hb338, hb340, hb342, hb344⟩ := (hI319 48 (by decide) : cp48 (wget w317 48))
            obtain ⟨⟨ht345, ht346, ht347, ht348, ht349⟩, ht350⟩ := id hn324
            have hq351 : fld w317 48 1 = f48_333 := fld_of h48_343
            have hq352 : fld w317 48 2 = f48_335 := fld_of h48_343
            have hq353 : fld w317 48 3 = f48_337 := fld_of h48_343
            have hq354 : fld w317 48 4 = f48_339 := fld_of h48_343
            have hq355 : fld w317 48 5 = f48_341 := fld_of h48_343
            refine xg_t (xg_ifF (u := 0) rfl xnm0 (by decide)) ?_
            refine xg_t (xg_aload (va := (2, 43)) rfl rfl) ?_
            obtain ⟨f43_356, f43_358, h43_360, hb357, hb359⟩ := (hI319 43 (by decide) : cp43 (wget w317 43))
            refine xg_t (xg_getf (va := (2, 1)) h43_360 rfl) ?_
            refine xg_t (xg_const) ?_
            refine xg_t (xg_aload (va := (2, 43)) rfl rfl) ?_
            refine xg_t (xg_getf (va := (2, 48)) h43_360 rfl) ?_
            refine xg_t (xg_getf (va := (0, f48_337)) h48_343 rfl) ?_
            have kw361 : wget w317 1 = wget w 1 := ((hF320.1 1 (by decide)).trans k1_89)
            have kw362 : wget w317 22 = wget w 22 := ((hF320.1 22 (by decide)).trans k22_90)
            obtain ⟨f1_363, f1_365, f1_367, f1_369, f1_371, f1_373, h1_375, hb364, hb366, hb368, hb370, hb372, hb374⟩ := (hI319 1 (by decide) : cp1 (wget w317 1))
            refine xg_cVv mX9_take (vs := [(0, 1), (0, f48_337)]) (rest := []) (cn1 := 0) (sl1 := 0) rfl (tdTakeF (hI319) (by omega) (by omega)) rfl h1_375 rfl rfl rfl rfl rfl rfl (fun w376 hq377 => ?_)
            obtain ⟨hI378, hF379, hx380⟩ := hq377
            obtain ⟨ht381, ht382, ht383, ht384, ht385, ht386⟩ := hx380
            have k387 : fld w376 1 6 = fld w 1 6 := ht384.trans (fld_eq (j := 6) kw361)
            have k388 : fld w376 1 7 = fld w 1 7 := ht385.trans (fld_eq (j := 7) kw361)
            have k389 : fld w376 1 9 = fld w 1 9 := ht386.trans (fld_eq (j := 9) kw361)
            have kw390 : fld w376 22 3 = fld w 22 3 := fld_eq (j := 3) ((hF379.1 22 (by decide)).trans kw362)
            refine xg_t (xg_const) ?_
            exact xg_e ⟨4294967295, w376, ⟨rfl, rfl⟩, ⟨(congrArg Prod.fst hR332).symm, by rw [hR332]; exact ht382, by rw [hR332]; show _ = tq B nn t_327.2.1; rw [ht383, if_neg (by decide)]; omega, ht381, k387, k388, k389, fun _ => kw390, fun y => absurd rfl y⟩, hI378, ((hF75.tr (hF320.up (by decide))).tr (hF379.up (by decide)))⟩
  exact key70 _ 0 w65 (Nat.lt_succ_self _) (by omega) (hI67) (((((xFr.of (S := [1, 22, 23, 24, 25, 43, 44, 45, 46, 47, 48]) hq45.2 (by decide)).tr (xFr.of (S := [1, 22, 23, 24, 25, 43, 44, 45, 46, 47, 48]) hq47.2 (by decide))).tr (xFr.of (S := [1, 22, 23, 24, 25, 43, 44, 45, 46, 47, 48]) hb50 (by decide))).tr (hF68.up (by decide)))) (⟨⟨0, (0, 0), hx69, ⟨hq76, fun y => absurd rfl y⟩, by omega, Nat.zero_le _, rfl, fun _ => Nat.zero_le _⟩, ((hF68.1 1 (by decide)).trans ((hb50.1 1 (by decide)).trans ((hq47.2.1 1 (by decide)).trans (hq45.2.1 1 (by decide))))), ((hF68.1 22 (by decide)).trans ((hb50.1 22 (by decide)).trans ((hq47.2.1 22 (by decide)).trans (hq45.2.1 22 (by decide)))))⟩)
theorem bsRulesF {B : Nat → Nat} {nn : Nat} (hI : xInv w) (hB : bsr w B nn) (hnn : fld w 1 1 = nn) : xPi (d + 10) mX11_rules [(2, 0)] w bd fc rr (fun n w' => (n = (RU B nn).1 ∧ fld w' 1 2 = (RU B nn).2.1 ∧ fld w' 1 3 = (RU B nn).2.2 ∧ fld w' 1 1 = 0 ∧ fld w' 1 6 = fld w 1 6 ∧ fld w' 1 7 = fld w 1 7 ∧ fld w' 1 9 = fld w 1 9 ∧ (n = 4294967295 → fld w' 22 3 = fld w 22 3) ∧ (n ≠ 4294967295 → n ≤ 16 ∧ fld w' 22 3 = n)) ∧ xInv w' ∧ xFr [1, 22, 23, 24, 25, 43, 44, 45, 46, 47, 48] w w') := by
  refine xPi.of ?_
  show xTo (d + 10) mX11_rules (0, [], [(0, (2, 0))], [], (w, bd, fc, 0, 0, rr)) (fun φ => ∃ n w', xEnd 1 [(0, n)] (w', bd, fc, 0, 0, rr) φ ∧ (n = (RU B nn).1 ∧ fld w' 1 2 = (RU B nn).2.1 ∧ fld w' 1 3 = (RU B nn).2.2 ∧ fld w' 1 1 = 0 ∧ fld w' 1 6 = fld w 1 6 ∧ fld w' 1 7 = fld w 1 7 ∧ fld w' 1 9 = fld w 1 9 ∧ (n = 4294967295 → fld w' 22 3 = fld w 22 3) ∧ (n ≠ 4294967295 → n ≤ 16 ∧ fld w' 22 3 = n)) ∧ xInv w' ∧ xFr [1, 22, 23, 24, 25, 43, 44, 45, 46, 47, 48] w w')
  have h0_1 := (hI 0 (by decide) : cp0 (wget w 0))
  refine xg_t (xg_blk (b := [(0, 1, 0, 0, 0, 0), (1, 3, 1, 11, 3, 32), (4, 3, 13, 295, 48, 358), (7, 1, 12, 0, 1, 0)]) rfl) ?_
  refine xg_t (xg_aload (va := (2, 0)) rfl rfl) ?_
  refine xg_t (xg_getf (va := (2, 43)) h0_1 rfl) ?_
  obtain ⟨f43_2, f43_4, h43_6, hb3, hb5⟩ := (hI 43 (by decide) : cp43 (wget w 43))
  refine xg_cVi mX6_readRules (vs := []) (rest := []) (cn1 := 0) (sl1 := 0) rfl (rtReadU (hI) hB hnn) rfl h43_6 rfl rfl rfl rfl rfl rfl (fun n11 w7 hq8 => ?_)
  obtain ⟨hn12, hI9, hF10⟩ := hq8
  exact xg_e ⟨n11, w7, ⟨rfl, rfl⟩, hn12, hI9, (hF10.up (by decide))⟩
theorem scFaultX {wh : Nat} (hI : xInv w) (hwh : wh ≤ 4294967295) : xPi (d + 1) mX11_fault [(2, 0), (0, wh)] w bd fc rr (fun n w' => ((wh = 0 ∧ n = fld w 1 2) ∨ (wh = 1 ∧ n = fld w 1 3) ∨ (wh ≠ 0 ∧ wh ≠ 1 ∧ n = 4294967295)) ∧ xInv w' ∧ xFr [] w w') := by
  refine xPi.of ?_
  show xTo (d + 1) mX11_fault (0, [], [(0, (2, 0)), (1, (0, wh))], [], (w, bd, fc, 0, 0, rr)) (fun φ => ∃ n w', xEnd 1 [(0, n)] (w', bd, fc, 0, 0, rr) φ ∧ ((wh = 0 ∧ n = fld w 1 2) ∨ (wh = 1 ∧ n = fld w 1 3) ∨ (wh ≠ 0 ∧ wh ≠ 1 ∧ n = 4294967295)) ∧ xInv w' ∧ xFr [] w w')
  obtain ⟨f1_1, f1_3, f1_5, f1_7, f1_9, f1_11, h1_13, hb2, hb4, hb6, hb8, hb10, hb12⟩ := (hI 1 (by decide) : cp1 (wget w 1))
  have hq14 : fld w 1 2 = f1_3 := fld_of h1_13
  have hq15 : fld w 1 3 = f1_5 := fld_of h1_13
  refine xg_t (xg_blk (b := [(0, 1, 2, 1, 0, 0), (1, 27, 34, 44, 0, 4)]) rfl) ?_
  refine xg_t (xg_iload (va := (0, wh)) rfl rfl) ?_
  by_cases hc16 : wh = 0
  · refine xg_t (xg_swt (ks := [(0, 28), (1, 36)]) (u := wh) (z := 28) rfl rfl rfl xnm0 (xsw_y hc16)) ?_
    refine xg_t (xg_blk (b := [(28, 1, 0, 0, 0, 0), (29, 3, 1, 11, 0, 10), (32, 3, 1, 9, 2, 106), (35, 1, 12, 0, 1, 0)]) rfl) ?_
    refine xg_t (xg_aload (va := (2, 0)) rfl rfl) ?_
    have h0_17 := (hI 0 (by decide) : cp0 (wget w 0))
    refine xg_t (xg_getf (va := (2, 1)) h0_17 rfl) ?_
    refine xg_t (xg_getf (va := (0, f1_3)) h1_13 rfl) ?_
    exact xg_e ⟨f1_3, w, ⟨rfl, rfl⟩, by omega, hI, xFr.rf⟩
  · by_cases hc18 : wh = 1
    · refine xg_t (xg_swt (ks := [(0, 28), (1, 36)]) (u := wh) (z := 36) rfl rfl rfl xnm0 (xsw_n hc16 (xsw_y hc18))) ?_
      refine xg_t (xg_blk (b := [(36, 1, 0, 0, 0, 0), (37, 3, 1, 11, 0, 10), (40, 3, 1, 9, 3, 109), (43, 1, 12, 0, 1, 0)]) rfl) ?_
      refine xg_t (xg_aload (va := (2, 0)) rfl rfl) ?_
      have h0_19 := (hI 0 (by decide) : cp0 (wget w 0))
      refine xg_t (xg_getf (va := (2, 1)) h0_19 rfl) ?_
      refine xg_t (xg_getf (va := (0, f1_5)) h1_13 rfl) ?_
      exact xg_e ⟨f1_5, w, ⟨rfl, rfl⟩, by omega, hI, xFr.rf⟩
    · refine xg_t (xg_swt (ks := [(0, 28), (1, 36)]) (u := wh) (z := 44) rfl rfl rfl xnm0 (xsw_n hc16 (xsw_n hc18 (xsw_d)))) ?_
      refine xg_t (xg_blk (b := [(44, 1, 3, 4294967295, 0, 0), (45, 1, 12, 0, 1, 0)]) rfl) ?_
      refine xg_t (xg_const) ?_
      exact xg_e ⟨4294967295, w, ⟨rfl, rfl⟩, by omega, hI, xFr.rf⟩
end XRCA
