/-! the class: lines of films, to the last number -/
section XFCB
variable {d : Nat} {w : List (List xE)} {bd : List (Nat × Nat)} {fc : List (Nat × Nat × Bool)} {rr : Nat × Nat}
theorem ftSortX {B : Nat → Nat} {nn p : Nat} (hI : xInv w) (hB : bsr w B nn) (hT : TKw 42 B nn w p) : xPi (d + 5) mX2_sortOfWord [(2, 27)] w bd fc rr (fun n w' => ((slt B nn p = 0 ∧ n = 0) ∨ (slt B nn p = 1 ∧ n = 1) ∨ (slt B nn p = 2 ∧ n = 2) ∨ (slt B nn p = 3 ∧ n = 3) ∨ (slt B nn p = 4 ∧ n = 4) ∨ (slt B nn p = 5 ∧ n = 5) ∨ (slt B nn p = 6 ∧ n = 6) ∨ (slt B nn p = 7 ∧ n = 4294967295)) ∧ xInv w' ∧ xFr [] w w') := by
  refine xPi.of ?_
  show xTo (d + 5) mX2_sortOfWord (0, [], [(0, (2, 27))], [], (w, bd, fc, 0, 0, rr)) (fun φ => ∃ n w', xEnd 1 [(0, n)] (w', bd, fc, 0, 0, rr) φ ∧ ((slt B nn p = 0 ∧ n = 0) ∨ (slt B nn p = 1 ∧ n = 1) ∨ (slt B nn p = 2 ∧ n = 2) ∨ (slt B nn p = 3 ∧ n = 3) ∨ (slt B nn p = 4 ∧ n = 4) ∨ (slt B nn p = 5 ∧ n = 5) ∨ (slt B nn p = 6 ∧ n = 6) ∨ (slt B nn p = 7 ∧ n = 4294967295)) ∧ xInv w' ∧ xFr [] w w')
  refine xoC27 (xqc27 hI : cp27 (wget w 27)) (fun f27_1 f27_3 f27_5 f27_7 f27_9 h27_11 hb2 hb4 hb6 hb8 hb10 => ?_)
  refine xoC42 (xqc42 hI : cp42 (wget w 42)) (fun f42_12 f42_14 f42_16 f42_18 f42_20 h42_22 hb13 hb15 hb17 hb19 hb21 hb23 => ?_)
  refine xg_t (xg_blq rfl) ?_
  refine xg_t (xg_aload (va := (2, 27)) rfl rfl) ?_
  refine xg_t (xg_getf (va := (2, 42)) h27_11 rfl) ?_
  refine xg_t (xg_ldcS) ?_
  refine xg_cVi mX8_isWord (vs := [(8, 102)]) (rest := []) (cn1 := 0) (sl1 := 0) rfl (tkWrdX42 (C := 12641458) (hI) (i := 2) rfl hB hT (by decide +kernel)) rfl h42_22 rfl rfl rfl rfl rfl rfl (fun n28 w24 hq25 => ?_)
  obtain ⟨hn29, hI26, hF27⟩ := hq25
  rcases hn29 with ⟨rfl, hk30⟩ | ⟨rfl, hk30⟩
  · refine xg_t (xg_ifF (u := 1) rfl xnm0 (by decide)) ?_
    refine xg_t (xg_const) ?_
    have hs31 : slt B nn p = 0 := by
      unfold slt srt
      rw [if_pos hk30]
    exact xg_e ⟨0, w24, ⟨rfl, rfl⟩, Or.inl ⟨hs31, rfl⟩, hI26, (hF27.up (by decide))⟩
  · refine xg_t (xg_ifT (u := 0) rfl xnm0 (by decide)) ?_
    refine xg_t (xg_blq rfl) ?_
    refine xg_t (xg_aload (va := (2, 27)) rfl rfl) ?_
    refine xg_t (xg_getf (va := (2, 42)) (hF27.get (by decide) h27_11) rfl) ?_
    refine xg_t (xg_ldcS) ?_
    refine xg_cVi mX8_isWord (vs := [(8, 103)]) (rest := []) (cn1 := 0) (sl1 := 0) rfl (tkWrdX42 (C := 402629) (hI26) (i := 3) rfl (hB.fr (hF27.1 2 (by decide))) (hT.fr (hF27.1 42 (by decide))) (by decide +kernel)) rfl (hF27.get (by decide) h42_22) rfl rfl rfl rfl rfl rfl (fun n36 w32 hq33 => ?_)
    obtain ⟨hn37, hI34, hF35⟩ := hq33
    rcases hn37 with ⟨rfl, hk38⟩ | ⟨rfl, hk38⟩
    · refine xg_t (xg_ifF (u := 1) rfl xnm0 (by decide)) ?_
      refine xg_t (xg_const) ?_
      have hs39 : slt B nn p = 1 := by
        unfold slt srt
        rw [if_neg hk30, if_pos hk38]
      exact xg_e ⟨1, w32, ⟨rfl, rfl⟩, Or.inr (Or.inl ⟨hs39, rfl⟩), hI34, ((hF27.up (by decide)).tr (hF35.up (by decide)))⟩
    · refine xg_t (xg_ifT (u := 0) rfl xnm0 (by decide)) ?_
      refine xg_t (xg_blq rfl) ?_
      refine xg_t (xg_aload (va := (2, 27)) rfl rfl) ?_
      refine xg_t (xg_getf (va := (2, 42)) (hF35.get (by decide) (hF27.get (by decide) h27_11)) rfl) ?_
      refine xg_t (xg_ldcS) ?_
      refine xg_cVi mX8_isWord (vs := [(8, 104)]) (rest := []) (cn1 := 0) (sl1 := 0) rfl (tkWrdX42 (C := 6795411) (hI34) (i := 4) rfl (hB.fr ((hF35.1 2 (by decide)).trans (hF27.1 2 (by decide)))) (hT.fr ((hF35.1 42 (by decide)).trans (hF27.1 42 (by decide)))) (by decide +kernel)) rfl (hF35.get (by decide) (hF27.get (by decide) h42_22)) rfl rfl rfl rfl rfl rfl (fun n44 w40 hq41 => ?_)
      obtain ⟨hn45, hI42, hF43⟩ := hq41
      rcases hn45 with ⟨rfl, hk46⟩ | ⟨rfl, hk46⟩
      · refine xg_t (xg_ifF (u := 1) rfl xnm0 (by decide)) ?_
        refine xg_t (xg_const) ?_
        have hs47 : slt B nn p = 2 := by
          unfold slt srt
          rw [if_neg hk30, if_neg hk38, if_pos hk46]
        exact xg_e ⟨2, w40, ⟨rfl, rfl⟩, Or.inr (Or.inr (Or.inl ⟨hs47, rfl⟩)), hI42, (((hF27.up (by decide)).tr (hF35.up (by decide))).tr (hF43.up (by decide)))⟩
      · refine xg_t (xg_ifT (u := 0) rfl xnm0 (by decide)) ?_
        refine xg_t (xg_blq rfl) ?_
        refine xg_t (xg_aload (va := (2, 27)) rfl rfl) ?_
        refine xg_t (xg_getf (va := (2, 42)) (hF43.get (by decide) (hF35.get (by decide) (hF27.get (by decide) h27_11))) rfl) ?_
        refine xg_t (xg_ldcS) ?_
        refine xg_cVi mX8_isWord (vs := [(8, 105)]) (rest := []) (cn1 := 0) (sl1 := 0) rfl (tkWrdX42 (C := 16824492) (hI42) (i := 5) rfl (hB.fr ((hF43.1 2 (by decide)).trans ((hF35.1 2 (by decide)).trans (hF27.1 2 (by decide))))) (hT.fr ((hF43.1 42 (by decide)).trans ((hF35.1 42 (by decide)).trans (hF27.1 42 (by decide))))) (by decide +kernel)) rfl (hF43.get (by decide) (hF35.get (by decide) (hF27.get (by decide) h42_22))) rfl rfl rfl rfl rfl rfl (fun n52 w48 hq49 => ?_)
        obtain ⟨hn53, hI50, hF51⟩ := hq49
        rcases hn53 with ⟨rfl, hk54⟩ | ⟨rfl, hk54⟩
        · refine xg_t (xg_ifF (u := 1) rfl xnm0 (by decide)) ?_
          refine xg_t (xg_const) ?_
          have hs55 : slt B nn p = 3 := by
            unfold slt srt
            rw [if_neg hk30, if_neg hk38, if_neg hk46, if_pos hk54]
          exact xg_e ⟨3, w48, ⟨rfl, rfl⟩, Or.inr (Or.inr (Or.inr (Or.inl ⟨hs55, rfl⟩))), hI50, ((((hF27.up (by decide)).tr (hF35.up (by decide))).tr (hF43.up (by decide))).tr (hF51.up (by decide)))⟩
        · refine xg_t (xg_ifT (u := 0) rfl xnm0 (by decide)) ?_
          refine xg_t (xg_blq rfl) ?_
          refine xg_t (xg_aload (va := (2, 27)) rfl rfl) ?_
          refine xg_t (xg_getf (va := (2, 42)) (hF51.get (by decide) (hF43.get (by decide) (hF35.get (by decide) (hF27.get (by decide) h27_11)))) rfl) ?_
          refine xg_t (xg_ldcS) ?_
          refine xg_cVi mX8_isWord (vs := [(8, 106)]) (rest := []) (cn1 := 0) (sl1 := 0) rfl (tkWrdX42 (C := 208951) (hI50) (i := 6) rfl (hB.fr ((hF51.1 2 (by decide)).trans ((hF43.1 2 (by decide)).trans ((hF35.1 2 (by decide)).trans (hF27.1 2 (by decide)))))) (hT.fr ((hF51.1 42 (by decide)).trans ((hF43.1 42 (by decide)).trans ((hF35.1 42 (by decide)).trans (hF27.1 42 (by decide)))))) (by decide +kernel)) rfl (hF51.get (by decide) (hF43.get (by decide) (hF35.get (by decide) (hF27.get (by decide) h42_22)))) rfl rfl rfl rfl rfl rfl (fun n60 w56 hq57 => ?_)
          obtain ⟨hn61, hI58, hF59⟩ := hq57
          rcases hn61 with ⟨rfl, hk62⟩ | ⟨rfl, hk62⟩
          · refine xg_t (xg_ifF (u := 1) rfl xnm0 (by decide)) ?_
            refine xg_t (xg_const) ?_
            have hs63 : slt B nn p = 4 := by
              unfold slt srt
              rw [if_neg hk30, if_neg hk38, if_neg hk46, if_neg hk54, if_pos hk62]
            exact xg_e ⟨4, w56, ⟨rfl, rfl⟩, Or.inr (Or.inr (Or.inr (Or.inr (Or.inl ⟨hs63, rfl⟩)))), hI58, (((((hF27.up (by decide)).tr (hF35.up (by decide))).tr (hF43.up (by decide))).tr (hF51.up (by decide))).tr (hF59.up (by decide)))⟩
          · refine xg_t (xg_ifT (u := 0) rfl xnm0 (by decide)) ?_
            refine xg_t (xg_blq rfl) ?_
            refine xg_t (xg_aload (va := (2, 27)) rfl rfl) ?_
            refine xg_t (xg_getf (va := (2, 42)) (hF59.get (by decide) (hF51.get (by decide) (hF43.get (by decide) (hF35.get (by decide) (hF27.get (by decide) h27_11))))) rfl) ?_
            refine xg_t (xg_ldcS) ?_
            refine xg_cVi mX8_isWord (vs := [(8, 107)]) (rest := []) (cn1 := 0) (sl1 := 0) rfl (tkWrdX42 (C := 20190388) (hI58) (i := 7) rfl (hB.fr ((hF59.1 2 (by decide)).trans ((hF51.1 2 (by decide)).trans ((hF43.1 2 (by decide)).trans ((hF35.1 2 (by decide)).trans (hF27.1 2 (by decide))))))) (hT.fr ((hF59.1 42 (by decide)).trans ((hF51.1 42 (by decide)).trans ((hF43.1 42 (by decide)).trans ((hF35.1 42 (by decide)).trans (hF27.1 42 (by decide))))))) (by decide +kernel)) rfl (hF59.get (by decide) (hF51.get (by decide) (hF43.get (by decide) (hF35.get (by decide) (hF27.get (by decide) h42_22))))) rfl rfl rfl rfl rfl rfl (fun n68 w64 hq65 => ?_)
            obtain ⟨hn69, hI66, hF67⟩ := hq65
            rcases hn69 with ⟨rfl, hk70⟩ | ⟨rfl, hk70⟩
            · refine xg_t (xg_ifF (u := 1) rfl xnm0 (by decide)) ?_
              refine xg_t (xg_const) ?_
              have hs71 : slt B nn p = 5 := by
                unfold slt srt
                rw [if_neg hk30, if_neg hk38, if_neg hk46, if_neg hk54, if_neg hk62, if_pos hk70]
              exact xg_e ⟨5, w64, ⟨rfl, rfl⟩, Or.inr (Or.inr (Or.inr (Or.inr (Or.inr (Or.inl ⟨hs71, rfl⟩))))), hI66, ((((((hF27.up (by decide)).tr (hF35.up (by decide))).tr (hF43.up (by decide))).tr (hF51.up (by decide))).tr (hF59.up (by decide))).tr (hF67.up (by decide)))⟩
            · refine xg_t (xg_ifT (u := 0) rfl xnm0 (by decide)) ?_
              refine xg_t (xg_blq rfl) ?_
              refine xg_t (xg_aload (va := (2, 27)) rfl rfl) ?_
              refine xg_t (xg_getf (va := (2, 42)) (hF67.get (by decide) (hF59.get (by decide) (hF51.get (by decide) (hF43.get (by decide) (hF35.get (by decide) (hF27.get (by decide) h27_11)))))) rfl) ?_
              refine xg_t (xg_ldcS) ?_
              refine xg_cVi mX8_isWord (vs := [(8, 108)]) (rest := []) (cn1 := 0) (sl1 := 0) rfl (tkWrdX42 (C := 14516) (hI66) (i := 8) rfl (hB.fr ((hF67.1 2 (by decide)).trans ((hF59.1 2 (by decide)).trans ((hF51.1 2 (by decide)).trans ((hF43.1 2 (by decide)).trans ((hF35.1 2 (by decide)).trans (hF27.1 2 (by decide)))))))) (hT.fr ((hF67.1 42 (by decide)).trans ((hF59.1 42 (by decide)).trans ((hF51.1 42 (by decide)).trans ((hF43.1 42 (by decide)).trans ((hF35.1 42 (by decide)).trans (hF27.1 42 (by decide)))))))) (by decide +kernel)) rfl (hF67.get (by decide) (hF59.get (by decide) (hF51.get (by decide) (hF43.get (by decide) (hF35.get (by decide) (hF27.get (by decide) h42_22)))))) rfl rfl rfl rfl rfl rfl (fun n76 w72 hq73 => ?_)
              obtain ⟨hn77, hI74, hF75⟩ := hq73
              rcases hn77 with ⟨rfl, hk78⟩ | ⟨rfl, hk78⟩
              · refine xg_t (xg_ifF (u := 1) rfl xnm0 (by decide)) ?_
                refine xg_t (xg_bip) ?_
                refine xg_t (xg_goto) ?_
                refine xg_t (xg_blq rfl) ?_
                have hs79 : slt B nn p = 6 := by
                  unfold slt srt
                  rw [if_neg hk30, if_neg hk38, if_neg hk46, if_neg hk54, if_neg hk62, if_neg hk70, if_pos hk78]
                exact xg_e ⟨6, w72, ⟨rfl, rfl⟩, Or.inr (Or.inr (Or.inr (Or.inr (Or.inr (Or.inr (Or.inl ⟨hs79, rfl⟩)))))), hI74, (((((((hF27.up (by decide)).tr (hF35.up (by decide))).tr (hF43.up (by decide))).tr (hF51.up (by decide))).tr (hF59.up (by decide))).tr (hF67.up (by decide))).tr (hF75.up (by decide)))⟩
              · refine xg_t (xg_ifT (u := 0) rfl xnm0 (by decide)) ?_
                refine xg_t (xg_blq rfl) ?_
                refine xg_t (xg_const) ?_
                refine xg_t (xg_blq rfl) ?_
                have hs80 : slt B nn p = 7 := by
                  unfold slt srt
                  rw [if_neg hk30, if_neg hk38, if_neg hk46, if_neg hk54, if_neg hk62, if_neg hk70, if_neg hk78]
                exact xg_e ⟨4294967295, w72, ⟨rfl, rfl⟩, Or.inr (Or.inr (Or.inr (Or.inr (Or.inr (Or.inr (Or.inr (⟨hs80, rfl⟩))))))), hI74, (((((((hF27.up (by decide)).tr (hF35.up (by decide))).tr (hF43.up (by decide))).tr (hF51.up (by decide))).tr (hF59.up (by decide))).tr (hF67.up (by decide))).tr (hF75.up (by decide)))⟩
theorem ftGlueX {B : Nat → Nat} {nn p : Nat} (hI : xInv w) (hB : bsr w B nn) (hT : TKw 42 B nn w p) : xPi (d + 5) mX2_readGlue [(2, 27)] w bd fc rr (fun n w' => ((n = 1 ∧ (twk B nn p = 277892 ∨ twk B nn p = 20325509) ∧ TKw 42 B nn w' (tf B nn p) ∧ fld w' 27 6 = (if twk B nn p = 20325509 then 1 else 0) ∧ fld w' 27 7 = fld w 27 7 ∧ fld w' 27 8 = fld w 27 8 ∧ fld w' 27 9 = fld w 27 9 ∧ fld w' 27 10 = fld w 27 10) ∨ (n = 0 ∧ ¬ (twk B nn p = 277892 ∨ twk B nn p = 20325509) ∧ fld w' 42 3 = tq B nn p ∧ fld w' 27 7 = fld w 27 7 ∧ fld w' 27 8 = fld w 27 8 ∧ fld w' 27 9 = fld w 27 9 ∧ fld w' 27 10 = fld w 27 10)) ∧ xInv w' ∧ xFr [27, 42] w w') := by
  refine xPi.of ?_
  show xTo (d + 5) mX2_readGlue (0, [], [(0, (2, 27))], [], (w, bd, fc, 0, 0, rr)) (fun φ => ∃ n w', xEnd 4 [(0, n)] (w', bd, fc, 0, 0, rr) φ ∧ ((n = 1 ∧ (twk B nn p = 277892 ∨ twk B nn p = 20325509) ∧ TKw 42 B nn w' (tf B nn p) ∧ fld w' 27 6 = (if twk B nn p = 20325509 then 1 else 0) ∧ fld w' 27 7 = fld w 27 7 ∧ fld w' 27 8 = fld w 27 8 ∧ fld w' 27 9 = fld w 27 9 ∧ fld w' 27 10 = fld w 27 10) ∨ (n = 0 ∧ ¬ (twk B nn p = 277892 ∨ twk B nn p = 20325509) ∧ fld w' 42 3 = tq B nn p ∧ fld w' 27 7 = fld w 27 7 ∧ fld w' 27 8 = fld w 27 8 ∧ fld w' 27 9 = fld w 27 9 ∧ fld w' 27 10 = fld w 27 10)) ∧ xInv w' ∧ xFr [27, 42] w w')
  refine xoC27 (xqc27 hI : cp27 (wget w 27)) (fun f27_1 f27_3 f27_5 f27_7 f27_9 h27_11 hb2 hb4 hb6 hb8 hb10 => ?_)
  refine xoC42 (xqc42 hI : cp42 (wget w 42)) (fun f42_12 f42_14 f42_16 f42_18 f42_20 h42_22 hb13 hb15 hb17 hb19 hb21 hb23 => ?_)
  have hq24 : fld w 27 6 = f27_1 := fld_of h27_11
  have hq25 : fld w 27 7 = f27_3 := fld_of h27_11
  have hq26 : fld w 27 8 = f27_5 := fld_of h27_11
  have hq27 : fld w 27 9 = f27_7 := fld_of h27_11
  have hq28 : fld w 27 10 = f27_9 := fld_of h27_11
  refine xg_t (xg_blq rfl) ?_
  refine xg_t (xg_aload (va := (2, 27)) rfl rfl) ?_
  refine xg_t (xg_aload (va := (2, 27)) rfl rfl) ?_
  refine xg_t (xg_getf (va := (2, 42)) h27_11 rfl) ?_
  refine xg_t (xg_ldcS) ?_
  refine xg_cVi mX8_isWord (vs := [(8, 100)]) (rest := [(2, 27)]) (cn1 := 0) (sl1 := 0) rfl (tkWrdX42 (C := 20325509) (hI) (i := 0) rfl hB hT (by decide +kernel)) rfl h42_22 rfl rfl rfl rfl rfl rfl (fun n33 w29 hq30 => ?_)
  obtain ⟨hn34, hI31, hF32⟩ := hq30
  rcases hn34 with ⟨rfl, hk35⟩ | ⟨rfl, hk35⟩
  · refine xg_putZ (fl1 := [(2, 1), (2, 42), (2, 28), (2, 39), (2, 40), (2, 41), (0, 1), (0, f27_3), (0, f27_5), (0, f27_7), (0, f27_9)]) (hF32.get (by decide) h27_11) rfl rfl rfl (fun w36 hk37 hb38 => ?_)
    refine xg_t (xg_aload (va := (2, 27)) rfl rfl) ?_
    refine xg_t (xg_getf (va := (0, 1)) hk37 rfl) ?_
    refine xg_t (xg_ifT (u := 1) rfl xnm0 (by decide)) ?_
    refine xg_t (xg_blq rfl) ?_
    refine xg_t (xg_aload (va := (2, 27)) rfl rfl) ?_
    refine xg_t (xg_getf (va := (2, 42)) hk37 rfl) ?_
    obtain ⟨⟨ht39, -, -, ht40, ht41⟩, -⟩ := id (hT.fr ((hb38.1 42 (by decide)).trans (hF32.1 42 (by decide))))
    refine xg_cVv mX8_advance (vs := []) (rest := []) (cn1 := 0) (sl1 := 0) rfl (tkAdvX42 (xInv.up (S := [27]) hI31 (xFr.of (S := [27]) hb38 (by decide)) (List.forall_mem_cons.mpr ⟨xqu27 (show cp27 (wget w36 27) from xmC27 1 f27_3 f27_5 f27_7 f27_9 hk37 (by decide) hb4 hb6 hb8 hb10), fun _ h => absurd h List.not_mem_nil⟩)) (hB.fr ((hb38.1 2 (by decide)).trans (hF32.1 2 (by decide)))) ht39 (by rw [ht40]; exact tf_le ht41)) rfl (hb38.get (by decide) (hF32.get (by decide) h42_22)) rfl rfl rfl rfl rfl rfl (fun w42 hq43 => ?_)
    obtain ⟨hI44, hF45, hx46⟩ := hq43
    rw [ht40] at hx46
    clear ht39 ht40 ht41
    obtain ⟨p_47, hp48⟩ : ∃ x, x = tf B nn p := ⟨_, rfl⟩
    rw [← hp48] at hx46
    refine xg_t (xg_const) ?_
    have hq49 : fld w42 27 6 = 1 := fld_of (hF45.get (by decide) hk37)
    have hq50 : fld w42 27 7 = f27_3 := fld_of (hF45.get (by decide) hk37)
    have hq51 : fld w42 27 8 = f27_5 := fld_of (hF45.get (by decide) hk37)
    have hq52 : fld w42 27 9 = f27_7 := fld_of (hF45.get (by decide) hk37)
    have hq53 : fld w42 27 10 = f27_9 := fld_of (hF45.get (by decide) hk37)
    exact xg_e ⟨1, w42, ⟨rfl, rfl⟩, Or.inl ⟨rfl, Or.inr hk35, by rw [← hp48]; exact hx46, by rw [if_pos hk35]; omega, by omega, by omega, by omega, by omega⟩, hI44, (((hF32.up (by decide)).tr (xFr.of (S := [27, 42]) hb38 (by decide))).tr (hF45.up (by decide)))⟩
  · refine xg_putZ (fl1 := [(2, 1), (2, 42), (2, 28), (2, 39), (2, 40), (2, 41), (0, 0), (0, f27_3), (0, f27_5), (0, f27_7), (0, f27_9)]) (hF32.get (by decide) h27_11) rfl rfl rfl (fun w54 hk55 hb56 => ?_)
    refine xg_t (xg_aload (va := (2, 27)) rfl rfl) ?_
    refine xg_t (xg_getf (va := (0, 0)) hk55 rfl) ?_
    refine xg_t (xg_ifF (u := 0) rfl xnm0 (by decide)) ?_
    refine xg_t (xg_aload (va := (2, 27)) rfl rfl) ?_
    refine xg_t (xg_getf (va := (2, 42)) hk55 rfl) ?_
    refine xg_t (xg_ldcS) ?_
    refine xg_cVi mX8_isWord (vs := [(8, 101)]) (rest := []) (cn1 := 0) (sl1 := 0) rfl (tkWrdX42 (C := 277892) (xInv.up (S := [27]) hI31 (xFr.of (S := [27]) hb56 (by decide)) (List.forall_mem_cons.mpr ⟨xqu27 (show cp27 (wget w54 27) from xmC27 0 f27_3 f27_5 f27_7 f27_9 hk55 (by decide) hb4 hb6 hb8 hb10), fun _ h => absurd h List.not_mem_nil⟩)) (i := 1) rfl (hB.fr ((hb56.1 2 (by decide)).trans (hF32.1 2 (by decide)))) (hT.fr ((hb56.1 42 (by decide)).trans (hF32.1 42 (by decide)))) (by decide +kernel)) rfl (hb56.get (by decide) (hF32.get (by decide) h42_22)) rfl rfl rfl rfl rfl rfl (fun n61 w57 hq58 => ?_)
    obtain ⟨hn62, hI59, hF60⟩ := hq58
    rcases hn62 with ⟨rfl, hk63⟩ | ⟨rfl, hk63⟩
    · refine xg_t (xg_ifT (u := 1) rfl xnm0 (by decide)) ?_
      refine xg_t (xg_blq rfl) ?_
      refine xg_t (xg_aload (va := (2, 27)) rfl rfl) ?_
      refine xg_t (xg_getf (va := (2, 42)) (hF60.get (by decide) hk55) rfl) ?_
      obtain ⟨⟨ht64, -, -, ht65, ht66⟩, -⟩ := id (hT.fr ((hF60.1 42 (by decide)).trans ((hb56.1 42 (by decide)).trans (hF32.1 42 (by decide)))))
      refine xg_cVv mX8_advance (vs := []) (rest := []) (cn1 := 0) (sl1 := 0) rfl (tkAdvX42 (hI59) (hB.fr ((hF60.1 2 (by decide)).trans ((hb56.1 2 (by decide)).trans (hF32.1 2 (by decide))))) ht64 (by rw [ht65]; exact tf_le ht66)) rfl (hF60.get (by decide) (hb56.get (by decide) (hF32.get (by decide) h42_22))) rfl rfl rfl rfl rfl rfl (fun w67 hq68 => ?_)
      obtain ⟨hI69, hF70, hx71⟩ := hq68
      rw [ht65] at hx71
      clear ht64 ht65 ht66
      obtain ⟨p_72, hp73⟩ : ∃ x, x = tf B nn p := ⟨_, rfl⟩
      rw [← hp73] at hx71
      refine xg_t (xg_const) ?_
      have hq74 : fld w67 27 6 = 0 := fld_of (hF70.get (by decide) (hF60.get (by decide) hk55))
      have hq75 : fld w67 27 7 = f27_3 := fld_of (hF70.get (by decide) (hF60.get (by decide) hk55))
      have hq76 : fld w67 27 8 = f27_5 := fld_of (hF70.get (by decide) (hF60.get (by decide) hk55))
      have hq77 : fld w67 27 9 = f27_7 := fld_of (hF70.get (by decide) (hF60.get (by decide) hk55))
      have hq78 : fld w67 27 10 = f27_9 := fld_of (hF70.get (by decide) (hF60.get (by decide) hk55))
      exact xg_e ⟨1, w67, ⟨rfl, rfl⟩, Or.inl ⟨rfl, Or.inl hk63, by rw [← hp73]; exact hx71, by rw [if_neg hk35]; omega, by omega, by omega, by omega, by omega⟩, hI69, ((((hF32.up (by decide)).tr (xFr.of (S := [27, 42]) hb56 (by decide))).tr (hF60.up (by decide))).tr (hF70.up (by decide)))⟩
    · refine xg_t (xg_ifF (u := 0) rfl xnm0 (by decide)) ?_
      refine xg_t (xg_const) ?_
      have hq79 : fld w57 27 6 = 0 := fld_of (hF60.get (by decide) hk55)
      have hq80 : fld w57 27 7 = f27_3 := fld_of (hF60.get (by decide) hk55)
      have hq81 : fld w57 27 8 = f27_5 := fld_of (hF60.get (by decide) hk55)
      have hq82 : fld w57 27 9 = f27_7 := fld_of (hF60.get (by decide) hk55)
      have hq83 : fld w57 27 10 = f27_9 := fld_of (hF60.get (by decide) hk55)
      exact xg_e ⟨0, w57, ⟨rfl, rfl⟩, Or.inr ⟨rfl, fun z => z.elim hk63 hk35, (hT.fr ((hF60.1 42 (by decide)).trans ((hb56.1 42 (by decide)).trans (hF32.1 42 (by decide))))).1.2.2.1, by omega, by omega, by omega, by omega⟩, hI59, (((hF32.up (by decide)).tr (xFr.of (S := [27, 42]) hb56 (by decide))).tr (hF60.up (by decide)))⟩
theorem rowsX0 (hI : xInv w) : xPr d mX1_rowsOf [(2, 28), (0, 0)] w bd fc rr [(2, 29)] w := by
  refine xPr.of ?_
  show xTo d mX1_rowsOf (0, [], [(0, (2, 28)), (1, (0, 0))], [], (w, bd, fc, 0, 0, rr)) (xEnd 3 [(2, 29)] (w, bd, fc, 0, 0, rr))
  refine xg_t (xg_blq rfl) ?_
  refine xg_t (xg_iload (va := (0, 0)) rfl rfl) ?_
  refine xg_t (xg_swt (ks := [(0, 36), (1, 41), (2, 46), (3, 51), (4, 56)]) (u := 0) (z := 36) rfl rfl rfl xnm0 (xsw_y rfl)) ?_
  refine xg_t (xg_blq rfl) ?_
  refine xg_t (xg_aload (va := (2, 28)) rfl rfl) ?_
  refine xoC28 (xqc28 hI : cp28 (wget w 28)) (fun f28_1 f28_3 f28_5 f28_7 f28_9 h28_11 hb2 hb4 hb6 hb8 hb10 => ?_)
  refine xg_t (xg_getf (va := (2, 29)) h28_11 rfl) ?_
  exact xg_e ⟨rfl, rfl⟩
theorem rowsX1 (hI : xInv w) : xPr d mX1_rowsOf [(2, 28), (0, 1)] w bd fc rr [(2, 31)] w := by
  refine xPr.of ?_
  show xTo d mX1_rowsOf (0, [], [(0, (2, 28)), (1, (0, 1))], [], (w, bd, fc, 0, 0, rr)) (xEnd 3 [(2, 31)] (w, bd, fc, 0, 0, rr))
  refine xg_t (xg_blq rfl) ?_
  refine xg_t (xg_iload (va := (0, 1)) rfl rfl) ?_
  refine xg_t (xg_swt (ks := [(0, 36), (1, 41), (2, 46), (3, 51), (4, 56)]) (u := 1) (z := 41) rfl rfl rfl xnm0 (xsw_n (by omega) (xsw_y rfl))) ?_
  refine xg_t (xg_blq rfl) ?_
  refine xg_t (xg_aload (va := (2, 28)) rfl rfl) ?_
  refine xoC28 (xqc28 hI : cp28 (wget w 28)) (fun f28_1 f28_3 f28_5 f28_7 f28_9 h28_11 hb2 hb4 hb6 hb8 hb10 => ?_)
  refine xg_t (xg_getf (va := (2, 31)) h28_11 rfl) ?_
  exact xg_e ⟨rfl, rfl⟩
theorem rowsX2 (hI : xInv w) : xPr d mX1_rowsOf [(2, 28), (0, 2)] w bd fc rr [(2, 33)] w := by
  refine xPr.of ?_
  show xTo d mX1_rowsOf (0, [], [(0, (2, 28)), (1, (0, 2))], [], (w, bd, fc, 0, 0, rr)) (xEnd 3 [(2, 33)] (w, bd, fc, 0, 0, rr))
  refine xg_t (xg_blq rfl) ?_
  refine xg_t (xg_iload (va := (0, 2)) rfl rfl) ?_
  refine xg_t (xg_swt (ks := [(0, 36), (1, 41), (2, 46), (3, 51), (4, 56)]) (u := 2) (z := 46) rfl rfl rfl xnm0 (xsw_n (by omega) (xsw_n (by omega) (xsw_y rfl)))) ?_
  refine xg_t (xg_blq rfl) ?_
  refine xg_t (xg_aload (va := (2, 28)) rfl rfl) ?_
  refine xoC28 (xqc28 hI : cp28 (wget w 28)) (fun f28_1 f28_3 f28_5 f28_7 f28_9 h28_11 hb2 hb4 hb6 hb8 hb10 => ?_)
  refine xg_t (xg_getf (va := (2, 33)) h28_11 rfl) ?_
  exact xg_e ⟨rfl, rfl⟩
theorem rowsX3 (hI : xInv w) : xPr d mX1_rowsOf [(2, 28), (0, 3)] w bd fc rr [(2, 35)] w := by
  refine xPr.of ?_
  show xTo d mX1_rowsOf (0, [], [(0, (2, 28)), (1, (0, 3))], [], (w, bd, fc, 0, 0, rr)) (xEnd 3 [(2, 35)] (w, bd, fc, 0, 0, rr))
  refine xg_t (xg_blq rfl) ?_
  refine xg_t (xg_iload (va := (0, 3)) rfl rfl) ?_
  refine xg_t (xg_swt (ks := [(0, 36), (1, 41), (2, 46), (3, 51), (4, 56)]) (u := 3) (z := 51) rfl rfl rfl xnm0 (xsw_n (by omega) (xsw_n (by omega) (xsw_n (by omega) (xsw_y rfl))))) ?_
  refine xg_t (xg_blq rfl) ?_
  refine xg_t (xg_aload (va := (2, 28)) rfl rfl) ?_
  refine xoC28 (xqc28 hI : cp28 (wget w 28)) (fun f28_1 f28_3 f28_5 f28_7 f28_9 h28_11 hb2 hb4 hb6 hb8 hb10 => ?_)
  refine xg_t (xg_getf (va := (2, 35)) h28_11 rfl) ?_
  exact xg_e ⟨rfl, rfl⟩
theorem rowsX4 (hI : xInv w) : xPr d mX1_rowsOf [(2, 28), (0, 4)] w bd fc rr [(2, 37)] w := by
  refine xPr.of ?_
  show xTo d mX1_rowsOf (0, [], [(0, (2, 28)), (1, (0, 4))], [], (w, bd, fc, 0, 0, rr)) (xEnd 3 [(2, 37)] (w, bd, fc, 0, 0, rr))
  refine xg_t (xg_blq rfl) ?_
  refine xg_t (xg_iload (va := (0, 4)) rfl rfl) ?_
  refine xg_t (xg_swt (ks := [(0, 36), (1, 41), (2, 46), (3, 51), (4, 56)]) (u := 4) (z := 56) rfl rfl rfl xnm0 (xsw_n (by omega) (xsw_n (by omega) (xsw_n (by omega) (xsw_n (by omega) (xsw_y rfl)))))) ?_
  refine xg_t (xg_blq rfl) ?_
  refine xg_t (xg_aload (va := (2, 28)) rfl rfl) ?_
  refine xoC28 (xqc28 hI : cp28 (wget w 28)) (fun f28_1 f28_3 f28_5 f28_7 f28_9 h28_11 hb2 hb4 hb6 hb8 hb10 => ?_)
  refine xg_t (xg_getf (va := (2, 37)) h28_11 rfl) ?_
  exact xg_e ⟨rfl, rfl⟩
theorem ftLifeX {fr : Nat} (hI : xInv w) (h1 : fr ≤ 4294967295) : xPi (d + 1) mX2_isLifeTold [(2, 27), (0, fr)] w bd fc rr (fun n w' => ((n = 1 ∧ ∃ m, m < fld w 31 3 ∧ rwv w 32 (2 * m) = fr) ∨ (n = 0 ∧ ∀ m, m < fld w 31 3 → rwv w 32 (2 * m) ≠ fr)) ∧ xInv w' ∧ xFr [] w w') := by
  refine xPi.of ?_
  show xTo (d + 1) mX2_isLifeTold (0, [], [(0, (2, 27)), (1, (0, fr))], [], (w, bd, fc, 0, 0, rr)) (fun φ => ∃ n w', xEnd 4 [(0, n)] (w', bd, fc, 0, 0, rr) φ ∧ ((n = 1 ∧ ∃ m, m < fld w 31 3 ∧ rwv w 32 (2 * m) = fr) ∨ (n = 0 ∧ ∀ m, m < fld w 31 3 → rwv w 32 (2 * m) ≠ fr)) ∧ xInv w' ∧ xFr [] w w')
  refine xoC27 (xqc27 hI : cp27 (wget w 27)) (fun f27_1 f27_3 f27_5 f27_7 f27_9 h27_11 hb2 hb4 hb6 hb8 hb10 => ?_)
  refine xoC28 (xqc28 hI : cp28 (wget w 28)) (fun f28_12 f28_14 f28_16 f28_18 f28_20 h28_22 hb13 hb15 hb17 hb19 hb21 => ?_)
  obtain ⟨f31_23, h31_25, hb24⟩ := (xqc31 hI : cp31 (wget w 31))
  refine xoI (xqc32 hI : cpI 8 14 4294967295 (wget w 32)) (fun g32_26 h32_27 hb28 => ?_)
  have hsz : fld w 31 3 = f31_23 := fld_of h31_25
  refine xg_t (xg_blq rfl) ?_
  refine xg_t (xg_const) ?_
  refine xg_t (xg_istore (l1 := [(0, (2, 27)), (1, (0, fr))]) rfl rfl rfl) ?_
  refine xg_t (xg_drop (l1 := [(0, (2, 27)), (1, (0, fr)), (2, (0, 0))]) (List.forall_mem_cons.mpr ⟨List.mem_cons_of_mem _ (List.mem_cons_self), List.forall_mem_cons.mpr ⟨List.mem_cons_of_mem _ (List.mem_cons_of_mem _ (List.mem_cons_self)), List.forall_mem_cons.mpr ⟨List.mem_cons_self, fun _ h => absurd h List.not_mem_nil⟩⟩⟩)) ?_
  have key29 : ∀ (m31 : Nat) (ki : Nat) (w32 : List (List xE)), 4 - ki < m31 → ki ≤ 4 → xInv w32 → xFr [] w w32 → (∀ m, m < ki → rwv w 32 (2 * m) ≠ fr) → xTo (d + 1) mX2_isLifeTold (2, [], [(0, (2, 27)), (1, (0, fr)), (2, (0, ki))], [], (w32, bd, fc, 0, 0, rr)) (fun φ => ∃ n w', xEnd 4 [(0, n)] (w', bd, fc, 0, 0, rr) φ ∧ ((n = 1 ∧ ∃ m, m < fld w 31 3 ∧ rwv w 32 (2 * m) = fr) ∨ (n = 0 ∧ ∀ m, m < fld w 31 3 → rwv w 32 (2 * m) ≠ fr)) ∧ xInv w' ∧ xFr [] w w') := by
    intro m31
    induction m31 with
    | zero => intro ki w32 hz; exact absurd hz (Nat.not_lt_zero _)
    | succ m31 ih30 =>
      intro ki w32 hm37 hn35 hI33 hF34 he36
      refine xg_t (xg_blq rfl) ?_
      refine xg_t (xg_iload (va := (0, ki)) rfl rfl) ?_
      refine xg_t (xg_aload (va := (2, 27)) rfl rfl) ?_
      refine xg_t (xg_getf (va := (2, 28)) (hF34.get (by decide) h27_11) rfl) ?_
      refine xg_t (xg_getf (va := (2, 31)) (hF34.get (by decide) h28_22) rfl) ?_
      refine xg_t (xg_getf (va := (0, f31_23)) (hF34.get (by decide) h31_25) rfl) ?_
      by_cases hc38 : ki < f31_23
      · refine xg_t (xg_icF (u := ki) (v := f31_23) rfl xnm0 xnm0 (xj_geF hc38 (by omega))) ?_
        refine xg_t (xg_aload (va := (2, 27)) rfl rfl) ?_
        refine xg_t (xg_getf (va := (2, 28)) (hF34.get (by decide) h27_11) rfl) ?_
        refine xg_t (xg_getf (va := (2, 31)) (hF34.get (by decide) h28_22) rfl) ?_
        refine xg_t (xg_iload (va := (0, ki)) rfl rfl) ?_
        refine xg_t (xg_const) ?_
        refine xg_kE (xg_cVr mX5_get (vs := [(0, ki), (0, 0)]) (rest := []) (rs := [(0, g32_26 (ki * 2 + 0))]) (cn1 := 0) (sl1 := 0) rfl (rgetX (lim := 4) (wd := 2) (sz := f31_23) (hF34.get (by decide) h31_25) (h32_27.fr hF34 (by decide)) (by decide) (by omega) (by decide) (by decide) (by omega) (by decide)) rfl (hF34.get (by decide) h31_25) rfl rfl rfl rfl rfl rfl rfl) (Nat.lt_succ_of_le ((hb28) _)) (fun z39 hz40 he41 => ?_)
        have ht42 : rwv w 32 (2 * ki) = z39 := by rw [Nat.mul_comm]; exact (rwv_of h32_27 (by omega)).trans he41
        refine xg_t (xg_iload (va := (0, fr)) rfl rfl) ?_
        by_cases hc43 : z39 = fr
        · refine xg_t (xg_icF (u := z39) (v := fr) rfl xnm0 xnm0 (xj_neF hc43)) ?_
          refine xg_t (xg_const) ?_
          exact xg_e ⟨1, w32, ⟨rfl, rfl⟩, Or.inl ⟨rfl, ki, by omega, by omega⟩, hI33, hF34⟩
        · refine xg_t (xg_icT (u := z39) (v := fr) rfl xnm0 xnm0 (xj_neT hc43)) ?_
          refine xg_t (xg_blq rfl) ?_
          refine xg_t (xg_iinc (u := ki) (z := ki + 1) (l1 := [(0, (2, 27)), (1, (0, fr))]) rfl rfl (by omega) rfl) ?_
          refine xg_t (xg_goto) ?_
          refine xg_t (xg_drop (l1 := [(0, (2, 27)), (1, (0, fr)), (2, (0, ki + 1))]) (List.forall_mem_cons.mpr ⟨List.mem_cons_of_mem _ (List.mem_cons_self), List.forall_mem_cons.mpr ⟨List.mem_cons_of_mem _ (List.mem_cons_of_mem _ (List.mem_cons_self)), List.forall_mem_cons.mpr ⟨List.mem_cons_self, fun _ h => absurd h List.not_mem_nil⟩⟩⟩)) ?_
          have hy44 : ∀ m, m < ki + 1 → rwv w 32 (2 * m) ≠ fr := fun m hm => by
            by_cases e : m = ki
            · rw [e]; omega
            · exact he36 m (by omega)
          exact ih30 (ki + 1) w32 (by omega) (by omega) (hI33) (hF34) (hy44)
      · refine xg_t (xg_icT (u := ki) (v := f31_23) rfl xnm0 xnm0 (xj_geT (by omega) (by omega))) ?_
        refine xg_t (xg_blq rfl) ?_
        refine xg_t (xg_const) ?_
        exact xg_e ⟨0, w32, ⟨rfl, rfl⟩, Or.inr ⟨rfl, fun m hm => he36 m (by omega)⟩, hI33, hF34⟩
  exact key29 _ 0 w (Nat.lt_succ_self _) (by omega) (hI) (xFr.rf) (fun m hm => absurd hm (Nat.not_lt_zero _))
theorem ftManyX0 (hI : xInv w)  : xPi (d + 2) mX2_isTooMany [(2, 27), (0, 0)] w bd fc rr (fun n w' => ((n = 1 ∧ 6 ≤ fld w 29 3) ∨ (n = 0 ∧ ¬ (6 ≤ fld w 29 3))) ∧ xInv w' ∧ xFr [] w w') := by
  refine xPi.of ?_
  show xTo (d + 2) mX2_isTooMany (0, [], [(0, (2, 27)), (1, (0, 0))], [], (w, bd, fc, 0, 0, rr)) (fun φ => ∃ n w', xEnd 4 [(0, n)] (w', bd, fc, 0, 0, rr) φ ∧ ((n = 1 ∧ 6 ≤ fld w 29 3) ∨ (n = 0 ∧ ¬ (6 ≤ fld w 29 3))) ∧ xInv w' ∧ xFr [] w w')
  refine xoC27 (xqc27 hI : cp27 (wget w 27)) (fun f27_1 f27_3 f27_5 f27_7 f27_9 h27_11 hb2 hb4 hb6 hb8 hb10 => ?_)
  refine xoI (xqc39 hI : cpI 3 18 4294967295 (wget w 39)) (fun g39_12 h39_13 hb14 => ?_)
  have hq15 : fld w 27 7 = f27_3 := fld_of h27_11
  have hq16 : fld w 27 8 = f27_5 := fld_of h27_11
  obtain ⟨f29_17, h29_19, hb18⟩ := (xqc29 hI : cp29 (wget w 29))
  have hsz : fld w 29 3 = f29_17 := fld_of h29_19
  refine xg_t (xg_blq rfl) ?_
  refine xg_t (xg_iload (va := (0, 0)) rfl rfl) ?_
  refine xg_t (xg_const) ?_
  refine xg_t (xg_icT (u := 0) (v := 5) rfl xnm0 xnm0 (by decide)) ?_
  refine xg_t (xg_blq rfl) ?_
  refine xg_t (xg_iload (va := (0, 0)) rfl rfl) ?_
  refine xg_t (xg_bip) ?_
  refine xg_t (xg_icT (u := 0) (v := 6) rfl xnm0 xnm0 (by decide)) ?_
  refine xg_t (xg_blq rfl) ?_
  refine xg_t (xg_aload (va := (2, 27)) rfl rfl) ?_
  refine xg_t (xg_getf (va := (2, 28)) h27_11 rfl) ?_
  refine xg_t (xg_iload (va := (0, 0)) rfl rfl) ?_
  refine xoC28 (xqc28 hI : cp28 (wget w 28)) (fun f28_20 f28_22 f28_24 f28_26 f28_28 h28_30 hb21 hb23 hb25 hb27 hb29 => ?_)
  refine xg_t (xg_cVr mX1_rowsOf (vs := [(0, 0)]) (rest := []) (rs := [(2, 29)]) (cn1 := 0) (sl1 := 0) rfl (rowsX0 hI) rfl h28_30 rfl rfl rfl rfl rfl rfl rfl) ?_
  refine xg_t (xg_astore (l1 := [(0, (2, 27)), (1, (0, 0))]) rfl rfl rfl) ?_
  refine xg_t (xg_aload (va := (2, 29)) rfl rfl) ?_
  refine xg_t (xg_ifnullF) ?_
  refine xg_t (xg_aload (va := (2, 29)) rfl rfl) ?_
  refine xg_t (xg_cVr mX5_isFull (vs := []) (rest := []) (rs := [(0, if 6 ≤ f29_17 then 1 else 0)]) (cn1 := 0) (sl1 := 0) rfl (rfull_ok h29_19 (by decide) (by omega)) rfl h29_19 rfl rfl rfl rfl rfl rfl rfl) ?_
  by_cases hc31 : 6 ≤ f29_17
  · refine xg_t (xg_ifT (u := (if 6 ≤ f29_17 then 1 else 0)) rfl xnm0 (xj_neT (xite1 hc31))) ?_
    refine xg_t (xg_blq rfl) ?_
    refine xg_t (xg_const) ?_
    refine xg_t (xg_goto) ?_
    refine xg_t (xg_blq rfl) ?_
    exact xg_e ⟨1, w, ⟨rfl, rfl⟩, by first | decide | omega, hI, xFr.rf⟩
  · refine xg_t (xg_ifF (u := (if 6 ≤ f29_17 then 1 else 0)) rfl xnm0 (xj_neF (xite0 hc31))) ?_
    refine xg_t (xg_iload (va := (0, 0)) rfl rfl) ?_
    refine xg_t (xg_const) ?_
    refine xg_t (xg_icT (u := 0) (v := 1) rfl xnm0 xnm0 (by decide)) ?_
    refine xg_t (xg_blq rfl) ?_
    refine xg_t (xg_const) ?_
    refine xg_t (xg_blq rfl) ?_
    exact xg_e ⟨0, w, ⟨rfl, rfl⟩, by first | decide | omega, hI, xFr.rf⟩
theorem ftManyX1 (hI : xInv w)  : xPi (d + 2) mX2_isTooMany [(2, 27), (0, 1)] w bd fc rr (fun n w' => ((n = 1 ∧ (4 ≤ fld w 31 3 ∨ ∃ m, m < fld w 31 3 ∧ rwv w 32 (2 * m) = rwv w 39 0)) ∨ (n = 0 ∧ ¬ ((4 ≤ fld w 31 3 ∨ ∃ m, m < fld w 31 3 ∧ rwv w 32 (2 * m) = rwv w 39 0)))) ∧ xInv w' ∧ xFr [] w w') := by
  refine xPi.of ?_
  show xTo (d + 2) mX2_isTooMany (0, [], [(0, (2, 27)), (1, (0, 1))], [], (w, bd, fc, 0, 0, rr)) (fun φ => ∃ n w', xEnd 4 [(0, n)] (w', bd, fc, 0, 0, rr) φ ∧ ((n = 1 ∧ (4 ≤ fld w 31 3 ∨ ∃ m, m < fld w 31 3 ∧ rwv w 32 (2 * m) = rwv w 39 0)) ∨ (n = 0 ∧ ¬ ((4 ≤ fld w 31 3 ∨ ∃ m, m < fld w 31 3 ∧ rwv w 32 (2 * m) = rwv w 39 0)))) ∧ xInv w' ∧ xFr [] w w')
  refine xoC27 (xqc27 hI : cp27 (wget w 27)) (fun f27_1 f27_3 f27_5 f27_7 f27_9 h27_11 hb2 hb4 hb6 hb8 hb10 => ?_)
  refine xoI (xqc39 hI : cpI 3 18 4294967295 (wget w 39)) (fun g39_12 h39_13 hb14 => ?_)
  have hq15 : fld w 27 7 = f27_3 := fld_of h27_11
  have hq16 : fld w 27 8 = f27_5 := fld_of h27_11
  obtain ⟨f31_17, h31_19, hb18⟩ := (xqc31 hI : cp31 (wget w 31))
  have hsz : fld w 31 3 = f31_17 := fld_of h31_19
  refine xg_t (xg_blq rfl) ?_
  refine xg_t (xg_iload (va := (0, 1)) rfl rfl) ?_
  refine xg_t (xg_const) ?_
  refine xg_t (xg_icT (u := 1) (v := 5) rfl xnm0 xnm0 (by decide)) ?_
  refine xg_t (xg_blq rfl) ?_
  refine xg_t (xg_iload (va := (0, 1)) rfl rfl) ?_
  refine xg_t (xg_bip) ?_
  refine xg_t (xg_icT (u := 1) (v := 6) rfl xnm0 xnm0 (by decide)) ?_
  refine xg_t (xg_blq rfl) ?_
  refine xg_t (xg_aload (va := (2, 27)) rfl rfl) ?_
  refine xg_t (xg_getf (va := (2, 28)) h27_11 rfl) ?_
  refine xg_t (xg_iload (va := (0, 1)) rfl rfl) ?_
  refine xoC28 (xqc28 hI : cp28 (wget w 28)) (fun f28_20 f28_22 f28_24 f28_26 f28_28 h28_30 hb21 hb23 hb25 hb27 hb29 => ?_)
  refine xg_t (xg_cVr mX1_rowsOf (vs := [(0, 1)]) (rest := []) (rs := [(2, 31)]) (cn1 := 0) (sl1 := 0) rfl (rowsX1 hI) rfl h28_30 rfl rfl rfl rfl rfl rfl rfl) ?_
  refine xg_t (xg_astore (l1 := [(0, (2, 27)), (1, (0, 1))]) rfl rfl rfl) ?_
  refine xg_t (xg_aload (va := (2, 31)) rfl rfl) ?_
  refine xg_t (xg_ifnullF) ?_
  refine xg_t (xg_aload (va := (2, 31)) rfl rfl) ?_
  refine xg_t (xg_cVr mX5_isFull (vs := []) (rest := []) (rs := [(0, if 4 ≤ f31_17 then 1 else 0)]) (cn1 := 0) (sl1 := 0) rfl (rfull_ok h31_19 (by decide) (by omega)) rfl h31_19 rfl rfl rfl rfl rfl rfl rfl) ?_
  by_cases hc31 : 4 ≤ f31_17
  · refine xg_t (xg_ifT (u := (if 4 ≤ f31_17 then 1 else 0)) rfl xnm0 (xj_neT (xite1 hc31))) ?_
    refine xg_t (xg_blq rfl) ?_
    refine xg_t (xg_const) ?_
    refine xg_t (xg_goto) ?_
    refine xg_t (xg_blq rfl) ?_
    exact xg_e ⟨1, w, ⟨rfl, rfl⟩, Or.inl ⟨rfl, Or.inl (by omega)⟩, hI, xFr.rf⟩
  · refine xg_t (xg_ifF (u := (if 4 ≤ f31_17 then 1 else 0)) rfl xnm0 (xj_neF (xite0 hc31))) ?_
    refine xg_t (xg_iload (va := (0, 1)) rfl rfl) ?_
    refine xg_t (xg_const) ?_
    refine xg_t (xg_icF (u := 1) (v := 1) rfl xnm0 xnm0 (by decide)) ?_
    refine xg_t (xg_aload (va := (2, 27)) rfl rfl) ?_
    refine xg_t (xg_aload (va := (2, 27)) rfl rfl) ?_
    refine xg_t (xg_getf (va := (2, 39)) h27_11 rfl) ?_
    refine xg_t (xg_const) ?_
    refine xg_ialdB (n := 0) (B := 4294967295) h39_13 (hb14) xnm0 (by first | decide | omega) (fun u32 hu33 he34 => ?_)
    have hv35 : rwv w 39 0 = u32 := (rwv_of h39_13 (by decide)).trans he34
    refine xg_cVi mX2_isLifeTold (vs := [(0, u32)]) (rest := []) (cn1 := 0) (sl1 := 0) rfl (ftLifeX (hI) (by omega)) rfl h27_11 rfl rfl rfl rfl rfl rfl (fun n40 w36 hq37 => ?_)
    obtain ⟨hn41, hI38, hF39⟩ := hq37
    rcases hn41 with ⟨rfl, hk42⟩ | ⟨rfl, hk42⟩
    · rw [← hv35] at hk42
      refine xg_t (xg_ifF (u := 1) rfl xnm0 (by decide)) ?_
      refine xg_t (xg_blq rfl) ?_
      refine xg_t (xg_const) ?_
      refine xg_t (xg_goto) ?_
      refine xg_t (xg_blq rfl) ?_
      exact xg_e ⟨1, w36, ⟨rfl, rfl⟩, Or.inl ⟨rfl, Or.inr hk42⟩, hI38, (hF39.up (by decide))⟩
    · have hk42 : ¬ (∃ m, m < fld w 31 3 ∧ rwv w 32 (2 * m) = rwv w 39 0) := fun z => by obtain ⟨m, z1, z2⟩ := z; exact hk42 m z1 (z2.trans hv35)
      refine xg_t (xg_ifT (u := 0) rfl xnm0 (by decide)) ?_
      refine xg_t (xg_blq rfl) ?_
      refine xg_t (xg_const) ?_
      refine xg_t (xg_blq rfl) ?_
      exact xg_e ⟨0, w36, ⟨rfl, rfl⟩, Or.inr ⟨rfl, fun z => z.elim (fun z => by omega) hk42⟩, hI38, (hF39.up (by decide))⟩
theorem ftManyX2 (hI : xInv w)  : xPi (d + 2) mX2_isTooMany [(2, 27), (0, 2)] w bd fc rr (fun n w' => ((n = 1 ∧ 6 ≤ fld w 33 3) ∨ (n = 0 ∧ ¬ (6 ≤ fld w 33 3))) ∧ xInv w' ∧ xFr [] w w') := by
  refine xPi.of ?_
  show xTo (d + 2) mX2_isTooMany (0, [], [(0, (2, 27)), (1, (0, 2))], [], (w, bd, fc, 0, 0, rr)) (fun φ => ∃ n w', xEnd 4 [(0, n)] (w', bd, fc, 0, 0, rr) φ ∧ ((n = 1 ∧ 6 ≤ fld w 33 3) ∨ (n = 0 ∧ ¬ (6 ≤ fld w 33 3))) ∧ xInv w' ∧ xFr [] w w')
  refine xoC27 (xqc27 hI : cp27 (wget w 27)) (fun f27_1 f27_3 f27_5 f27_7 f27_9 h27_11 hb2 hb4 hb6 hb8 hb10 => ?_)
  refine xoI (xqc39 hI : cpI 3 18 4294967295 (wget w 39)) (fun g39_12 h39_13 hb14 => ?_)
  have hq15 : fld w 27 7 = f27_3 := fld_of h27_11
  have hq16 : fld w 27 8 = f27_5 := fld_of h27_11
  obtain ⟨f33_17, h33_19, hb18⟩ := (xqc33 hI : cp33 (wget w 33))
  have hsz : fld w 33 3 = f33_17 := fld_of h33_19
  refine xg_t (xg_blq rfl) ?_
  refine xg_t (xg_iload (va := (0, 2)) rfl rfl) ?_
  refine xg_t (xg_const) ?_
  refine xg_t (xg_icT (u := 2) (v := 5) rfl xnm0 xnm0 (by decide)) ?_
  refine xg_t (xg_blq rfl) ?_
  refine xg_t (xg_iload (va := (0, 2)) rfl rfl) ?_
  refine xg_t (xg_bip) ?_
  refine xg_t (xg_icT (u := 2) (v := 6) rfl xnm0 xnm0 (by decide)) ?_
  refine xg_t (xg_blq rfl) ?_
  refine xg_t (xg_aload (va := (2, 27)) rfl rfl) ?_
  refine xg_t (xg_getf (va := (2, 28)) h27_11 rfl) ?_
  refine xg_t (xg_iload (va := (0, 2)) rfl rfl) ?_
  refine xoC28 (xqc28 hI : cp28 (wget w 28)) (fun f28_20 f28_22 f28_24 f28_26 f28_28 h28_30 hb21 hb23 hb25 hb27 hb29 => ?_)
  refine xg_t (xg_cVr mX1_rowsOf (vs := [(0, 2)]) (rest := []) (rs := [(2, 33)]) (cn1 := 0) (sl1 := 0) rfl (rowsX2 hI) rfl h28_30 rfl rfl rfl rfl rfl rfl rfl) ?_
  refine xg_t (xg_astore (l1 := [(0, (2, 27)), (1, (0, 2))]) rfl rfl rfl) ?_
  refine xg_t (xg_aload (va := (2, 33)) rfl rfl) ?_
  refine xg_t (xg_ifnullF) ?_
  refine xg_t (xg_aload (va := (2, 33)) rfl rfl) ?_
  refine xg_t (xg_cVr mX5_isFull (vs := []) (rest := []) (rs := [(0, if 6 ≤ f33_17 then 1 else 0)]) (cn1 := 0) (sl1 := 0) rfl (rfull_ok h33_19 (by decide) (by omega)) rfl h33_19 rfl rfl rfl rfl rfl rfl rfl) ?_
  by_cases hc31 : 6 ≤ f33_17
  · refine xg_t (xg_ifT (u := (if 6 ≤ f33_17 then 1 else 0)) rfl xnm0 (xj_neT (xite1 hc31))) ?_
    refine xg_t (xg_blq rfl) ?_
    refine xg_t (xg_const) ?_
    refine xg_t (xg_goto) ?_
    refine xg_t (xg_blq rfl) ?_
    exact xg_e ⟨1, w, ⟨rfl, rfl⟩, by first | decide | omega, hI, xFr.rf⟩
  · refine xg_t (xg_ifF (u := (if 6 ≤ f33_17 then 1 else 0)) rfl xnm0 (xj_neF (xite0 hc31))) ?_
    refine xg_t (xg_iload (va := (0, 2)) rfl rfl) ?_
    refine xg_t (xg_const) ?_
    refine xg_t (xg_icT (u := 2) (v := 1) rfl xnm0 xnm0 (by decide)) ?_
    refine xg_t (xg_blq rfl) ?_
    refine xg_t (xg_const) ?_
    refine xg_t (xg_blq rfl) ?_
    exact xg_e ⟨0, w, ⟨rfl, rfl⟩, by first | decide | omega, hI, xFr.rf⟩
theorem ftManyX3 (hI : xInv w)  : xPi (d + 2) mX2_isTooMany [(2, 27), (0, 3)] w bd fc rr (fun n w' => ((n = 1 ∧ 4 ≤ fld w 35 3) ∨ (n = 0 ∧ ¬ (4 ≤ fld w 35 3))) ∧ xInv w' ∧ xFr [] w w') := by
  refine xPi.of ?_
  show xTo (d + 2) mX2_isTooMany (0, [], [(0, (2, 27)), (1, (0, 3))], [], (w, bd, fc, 0, 0, rr)) (fun φ => ∃ n w', xEnd 4 [(0, n)] (w', bd, fc, 0, 0, rr) φ ∧ ((n = 1 ∧ 4 ≤ fld w 35 3) ∨ (n = 0 ∧ ¬ (4 ≤ fld w 35 3))) ∧ xInv w' ∧ xFr [] w w')
  refine xoC27 (xqc27 hI : cp27 (wget w 27)) (fun f27_1 f27_3 f27_5 f27_7 f27_9 h27_11 hb2 hb4 hb6 hb8 hb10 => ?_)
  refine xoI (xqc39 hI : cpI 3 18 4294967295 (wget w 39)) (fun g39_12 h39_13 hb14 => ?_)
  have hq15 : fld w 27 7 = f27_3 := fld_of h27_11
  have hq16 : fld w 27 8 = f27_5 := fld_of h27_11
  obtain ⟨f35_17, h35_19, hb18⟩ := (xqc35 hI : cp35 (wget w 35))
  have hsz : fld w 35 3 = f35_17 := fld_of h35_19
  refine xg_t (xg_blq rfl) ?_
  refine xg_t (xg_iload (va := (0, 3)) rfl rfl) ?_
  refine xg_t (xg_const) ?_
  refine xg_t (xg_icT (u := 3) (v := 5) rfl xnm0 xnm0 (by decide)) ?_
  refine xg_t (xg_blq rfl) ?_
  refine xg_t (xg_iload (va := (0, 3)) rfl rfl) ?_
  refine xg_t (xg_bip) ?_
  refine xg_t (xg_icT (u := 3) (v := 6) rfl xnm0 xnm0 (by decide)) ?_
  refine xg_t (xg_blq rfl) ?_
  refine xg_t (xg_aload (va := (2, 27)) rfl rfl) ?_
  refine xg_t (xg_getf (va := (2, 28)) h27_11 rfl) ?_
  refine xg_t (xg_iload (va := (0, 3)) rfl rfl) ?_
  refine xoC28 (xqc28 hI : cp28 (wget w 28)) (fun f28_20 f28_22 f28_24 f28_26 f28_28 h28_30 hb21 hb23 hb25 hb27 hb29 => ?_)
  refine xg_t (xg_cVr mX1_rowsOf (vs := [(0, 3)]) (rest := []) (rs := [(2, 35)]) (cn1 := 0) (sl1 := 0) rfl (rowsX3 hI) rfl h28_30 rfl rfl rfl rfl rfl rfl rfl) ?_
  refine xg_t (xg_astore (l1 := [(0, (2, 27)), (1, (0, 3))]) rfl rfl rfl) ?_
  refine xg_t (xg_aload (va := (2, 35)) rfl rfl) ?_
  refine xg_t (xg_ifnullF) ?_
  refine xg_t (xg_aload (va := (2, 35)) rfl rfl) ?_
  refine xg_t (xg_cVr mX5_isFull (vs := []) (rest := []) (rs := [(0, if 4 ≤ f35_17 then 1 else 0)]) (cn1 := 0) (sl1 := 0) rfl (rfull_ok h35_19 (by decide) (by omega)) rfl h35_19 rfl rfl rfl rfl rfl rfl rfl) ?_
  by_cases hc31 : 4 ≤ f35_17
  · refine xg_t (xg_ifT (u := (if 4 ≤ f35_17 then 1 else 0)) rfl xnm0 (xj_neT (xite1 hc31))) ?_
    refine xg_t (xg_blq rfl) ?_
    refine xg_t (xg_const) ?_
    refine xg_t (xg_goto) ?_
    refine xg_t (xg_blq rfl) ?_
    exact xg_e ⟨1, w, ⟨rfl, rfl⟩, by first | decide | omega, hI, xFr.rf⟩
  · refine xg_t (xg_ifF (u := (if 4 ≤ f35_17 then 1 else 0)) rfl xnm0 (xj_neF (xite0 hc31))) ?_
    refine xg_t (xg_iload (va := (0, 3)) rfl rfl) ?_
    refine xg_t (xg_const) ?_
    refine xg_t (xg_icT (u := 3) (v := 1) rfl xnm0 xnm0 (by decide)) ?_
    refine xg_t (xg_blq rfl) ?_
    refine xg_t (xg_const) ?_
    refine xg_t (xg_blq rfl) ?_
    exact xg_e ⟨0, w, ⟨rfl, rfl⟩, by first | decide | omega, hI, xFr.rf⟩
theorem ftManyX4 (hI : xInv w)  : xPi (d + 2) mX2_isTooMany [(2, 27), (0, 4)] w bd fc rr (fun n w' => ((n = 1 ∧ 20 ≤ fld w 37 3) ∨ (n = 0 ∧ ¬ (20 ≤ fld w 37 3))) ∧ xInv w' ∧ xFr [] w w') := by
  refine xPi.of ?_
  show xTo (d + 2) mX2_isTooMany (0, [], [(0, (2, 27)), (1, (0, 4))], [], (w, bd, fc, 0, 0, rr)) (fun φ => ∃ n w', xEnd 4 [(0, n)] (w', bd, fc, 0, 0, rr) φ ∧ ((n = 1 ∧ 20 ≤ fld w 37 3) ∨ (n = 0 ∧ ¬ (20 ≤ fld w 37 3))) ∧ xInv w' ∧ xFr [] w w')
  refine xoC27 (xqc27 hI : cp27 (wget w 27)) (fun f27_1 f27_3 f27_5 f27_7 f27_9 h27_11 hb2 hb4 hb6 hb8 hb10 => ?_)
  refine xoI (xqc39 hI : cpI 3 18 4294967295 (wget w 39)) (fun g39_12 h39_13 hb14 => ?_)
  have hq15 : fld w 27 7 = f27_3 := fld_of h27_11
  have hq16 : fld w 27 8 = f27_5 := fld_of h27_11
  obtain ⟨f37_17, h37_19, hb18⟩ := (xqc37 hI : cp37 (wget w 37))
  have hsz : fld w 37 3 = f37_17 := fld_of h37_19
  refine xg_t (xg_blq rfl) ?_
  refine xg_t (xg_iload (va := (0, 4)) rfl rfl) ?_
  refine xg_t (xg_const) ?_
  refine xg_t (xg_icT (u := 4) (v := 5) rfl xnm0 xnm0 (by decide)) ?_
  refine xg_t (xg_blq rfl) ?_
  refine xg_t (xg_iload (va := (0, 4)) rfl rfl) ?_
  refine xg_t (xg_bip) ?_
  refine xg_t (xg_icT (u := 4) (v := 6) rfl xnm0 xnm0 (by decide)) ?_
  refine xg_t (xg_blq rfl) ?_
  refine xg_t (xg_aload (va := (2, 27)) rfl rfl) ?_
  refine xg_t (xg_getf (va := (2, 28)) h27_11 rfl) ?_
  refine xg_t (xg_iload (va := (0, 4)) rfl rfl) ?_
  refine xoC28 (xqc28 hI : cp28 (wget w 28)) (fun f28_20 f28_22 f28_24 f28_26 f28_28 h28_30 hb21 hb23 hb25 hb27 hb29 => ?_)
  refine xg_t (xg_cVr mX1_rowsOf (vs := [(0, 4)]) (rest := []) (rs := [(2, 37)]) (cn1 := 0) (sl1 := 0) rfl (rowsX4 hI) rfl h28_30 rfl rfl rfl rfl rfl rfl rfl) ?_
  refine xg_t (xg_astore (l1 := [(0, (2, 27)), (1, (0, 4))]) rfl rfl rfl) ?_
  refine xg_t (xg_aload (va := (2, 37)) rfl rfl) ?_
  refine xg_t (xg_ifnullF) ?_
  refine xg_t (xg_aload (va := (2, 37)) rfl rfl) ?_
  refine xg_t (xg_cVr mX5_isFull (vs := []) (rest := []) (rs := [(0, if 20 ≤ f37_17 then 1 else 0)]) (cn1 := 0) (sl1 := 0) rfl (rfull_ok h37_19 (by decide) (by omega)) rfl h37_19 rfl rfl rfl rfl rfl rfl rfl) ?_
  by_cases hc31 : 20 ≤ f37_17
  · refine xg_t (xg_ifT (u := (if 20 ≤ f37_17 then 1 else 0)) rfl xnm0 (xj_neT (xite1 hc31))) ?_
    refine xg_t (xg_blq rfl) ?_
    refine xg_t (xg_const) ?_
    refine xg_t (xg_goto) ?_
    refine xg_t (xg_blq rfl) ?_
    exact xg_e ⟨1, w, ⟨rfl, rfl⟩, by first | decide | omega, hI, xFr.rf⟩
  · refine xg_t (xg_ifF (u := (if 20 ≤ f37_17 then 1 else 0)) rfl xnm0 (xj_neF (xite0 hc31))) ?_
    refine xg_t (xg_iload (va := (0, 4)) rfl rfl) ?_
    refine xg_t (xg_const) ?_
    refine xg_t (xg_icT (u := 4) (v := 1) rfl xnm0 xnm0 (by decide)) ?_
    refine xg_t (xg_blq rfl) ?_
    refine xg_t (xg_const) ?_
    refine xg_t (xg_blq rfl) ?_
    exact xg_e ⟨0, w, ⟨rfl, rfl⟩, by first | decide | omega, hI, xFr.rf⟩
theorem ftManyX5 (hI : xInv w)  : xPi (d + 2) mX2_isTooMany [(2, 27), (0, 5)] w bd fc rr (fun n w' => ((n = 1 ∧ fld w 27 7 ≠ 0) ∨ (n = 0 ∧ ¬ (fld w 27 7 ≠ 0))) ∧ xInv w' ∧ xFr [] w w') := by
  refine xPi.of ?_
  show xTo (d + 2) mX2_isTooMany (0, [], [(0, (2, 27)), (1, (0, 5))], [], (w, bd, fc, 0, 0, rr)) (fun φ => ∃ n w', xEnd 4 [(0, n)] (w', bd, fc, 0, 0, rr) φ ∧ ((n = 1 ∧ fld w 27 7 ≠ 0) ∨ (n = 0 ∧ ¬ (fld w 27 7 ≠ 0))) ∧ xInv w' ∧ xFr [] w w')
  refine xoC27 (xqc27 hI : cp27 (wget w 27)) (fun f27_1 f27_3 f27_5 f27_7 f27_9 h27_11 hb2 hb4 hb6 hb8 hb10 => ?_)
  refine xoI (xqc39 hI : cpI 3 18 4294967295 (wget w 39)) (fun g39_12 h39_13 hb14 => ?_)
  have hq15 : fld w 27 7 = f27_3 := fld_of h27_11
  have hq16 : fld w 27 8 = f27_5 := fld_of h27_11
  refine xg_t (xg_blq rfl) ?_
  refine xg_t (xg_iload (va := (0, 5)) rfl rfl) ?_
  refine xg_t (xg_const) ?_
  refine xg_t (xg_icF (u := 5) (v := 5) rfl xnm0 xnm0 (by decide)) ?_
  refine xg_t (xg_aload (va := (2, 27)) rfl rfl) ?_
  refine xg_t (xg_getf (va := (0, f27_3)) h27_11 rfl) ?_
  exact xg_e ⟨f27_3, w, ⟨xret_b (by omega), rfl⟩, by omega, hI, xFr.rf⟩
theorem ftManyX6 (hI : xInv w)  : xPi (d + 2) mX2_isTooMany [(2, 27), (0, 6)] w bd fc rr (fun n w' => ((n = 1 ∧ fld w 27 8 ≠ 0) ∨ (n = 0 ∧ ¬ (fld w 27 8 ≠ 0))) ∧ xInv w' ∧ xFr [] w w') := by
  refine xPi.of ?_
  show xTo (d + 2) mX2_isTooMany (0, [], [(0, (2, 27)), (1, (0, 6))], [], (w, bd, fc, 0, 0, rr)) (fun φ => ∃ n w', xEnd 4 [(0, n)] (w', bd, fc, 0, 0, rr) φ ∧ ((n = 1 ∧ fld w 27 8 ≠ 0) ∨ (n = 0 ∧ ¬ (fld w 27 8 ≠ 0))) ∧ xInv w' ∧ xFr [] w w')
  refine xoC27 (xqc27 hI : cp27 (wget w 27)) (fun f27_1 f27_3 f27_5 f27_7 f27_9 h27_11 hb2 hb4 hb6 hb8 hb10 => ?_)
  refine xoI (xqc39 hI : cpI 3 18 4294967295 (wget w 39)) (fun g39_12 h39_13 hb14 => ?_)
  have hq15 : fld w 27 7 = f27_3 := fld_of h27_11
  have hq16 : fld w 27 8 = f27_5 := fld_of h27_11
  refine xg_t (xg_blq rfl) ?_
  refine xg_t (xg_iload (va := (0, 6)) rfl rfl) ?_
  refine xg_t (xg_const) ?_
  refine xg_t (xg_icT (u := 6) (v := 5) rfl xnm0 xnm0 (by decide)) ?_
  refine xg_t (xg_blq rfl) ?_
  refine xg_t (xg_iload (va := (0, 6)) rfl rfl) ?_
  refine xg_t (xg_bip) ?_
  refine xg_t (xg_icF (u := 6) (v := 6) rfl xnm0 xnm0 (by decide)) ?_
  refine xg_t (xg_aload (va := (2, 27)) rfl rfl) ?_
  refine xg_t (xg_getf (va := (0, f27_5)) h27_11 rfl) ?_
  exact xg_e ⟨f27_5, w, ⟨xret_b (by omega), rfl⟩, by omega, hI, xFr.rf⟩
theorem ftFineX0 {pc_ : Nat} (hI : xInv w) (h1 : pc_ ≤ 4294967295) : xPi (d + 3) mX2_isFine [(2, 27), (0, 0), (0, pc_)] w bd fc rr (fun n w' => ((n = 1 ∧ ¬ (6 ≤ fld w 29 3) ∧ (1 ≤ rwv w 39 0 ∧ rwv w 39 0 ≤ 99) ∧ (1 ≤ rwv w 39 1 ∧ rwv w 39 1 ≤ 99) ∧ (1 ≤ rwv w 39 2 ∧ rwv w 39 2 ≤ 99) ∧ xFr [] w w') ∨ (n = 0 ∧ (6 ≤ fld w 29 3) ∧ fld w' 27 9 = 3 ∧ fld w' 27 10 = pc_) ∨ (n = 0 ∧ ¬ (6 ≤ fld w 29 3) ∧ ¬ (1 ≤ rwv w 39 0 ∧ rwv w 39 0 ≤ 99) ∧ fld w' 27 9 = 2 ∧ fld w' 27 10 = rwv w 40 0) ∨ (n = 0 ∧ ¬ (6 ≤ fld w 29 3) ∧ (1 ≤ rwv w 39 0 ∧ rwv w 39 0 ≤ 99) ∧ ¬ (1 ≤ rwv w 39 1 ∧ rwv w 39 1 ≤ 99) ∧ fld w' 27 9 = 2 ∧ fld w' 27 10 = rwv w 40 1) ∨ (n = 0 ∧ ¬ (6 ≤ fld w 29 3) ∧ (1 ≤ rwv w 39 0 ∧ rwv w 39 0 ≤ 99) ∧ (1 ≤ rwv w 39 1 ∧ rwv w 39 1 ≤ 99) ∧ ¬ (1 ≤ rwv w 39 2 ∧ rwv w 39 2 ≤ 99) ∧ fld w' 27 9 = 2 ∧ fld w' 27 10 = rwv w 40 2)) ∧ xInv w' ∧ xFr [27] w w') := by
  refine xPi.of ?_
  show xTo (d + 3) mX2_isFine (0, [], [(0, (2, 27)), (1, (0, 0)), (2, (0, pc_))], [], (w, bd, fc, 0, 0, rr)) (fun φ => ∃ n w', xEnd 4 [(0, n)] (w', bd, fc, 0, 0, rr) φ ∧ ((n = 1 ∧ ¬ (6 ≤ fld w 29 3) ∧ (1 ≤ rwv w 39 0 ∧ rwv w 39 0 ≤ 99) ∧ (1 ≤ rwv w 39 1 ∧ rwv w 39 1 ≤ 99) ∧ (1 ≤ rwv w 39 2 ∧ rwv w 39 2 ≤ 99) ∧ xFr [] w w') ∨ (n = 0 ∧ (6 ≤ fld w 29 3) ∧ fld w' 27 9 = 3 ∧ fld w' 27 10 = pc_) ∨ (n = 0 ∧ ¬ (6 ≤ fld w 29 3) ∧ ¬ (1 ≤ rwv w 39 0 ∧ rwv w 39 0 ≤ 99) ∧ fld w' 27 9 = 2 ∧ fld w' 27 10 = rwv w 40 0) ∨ (n = 0 ∧ ¬ (6 ≤ fld w 29 3) ∧ (1 ≤ rwv w 39 0 ∧ rwv w 39 0 ≤ 99) ∧ ¬ (1 ≤ rwv w 39 1 ∧ rwv w 39 1 ≤ 99) ∧ fld w' 27 9 = 2 ∧ fld w' 27 10 = rwv w 40 1) ∨ (n = 0 ∧ ¬ (6 ≤ fld w 29 3) ∧ (1 ≤ rwv w 39 0 ∧ rwv w 39 0 ≤ 99) ∧ (1 ≤ rwv w 39 1 ∧ rwv w 39 1 ≤ 99) ∧ ¬ (1 ≤ rwv w 39 2 ∧ rwv w 39 2 ≤ 99) ∧ fld w' 27 9 = 2 ∧ fld w' 27 10 = rwv w 40 2)) ∧ xInv w' ∧ xFr [27] w w')
  refine xoC27 (xqc27 hI : cp27 (wget w 27)) (fun f27_1 f27_3 f27_5 f27_7 f27_9 h27_11 hb2 hb4 hb6 hb8 hb10 => ?_)
  refine xoI (xqc39 hI : cpI 3 18 4294967295 (wget w 39)) (fun g39_12 h39_13 hb14 => ?_)
  refine xoI (xqc40 hI : cpI 3 19 4294967295 (wget w 40)) (fun g40_15 h40_16 hb17 => ?_)
  have hq18 : fld w 27 6 = f27_1 := fld_of h27_11
  have hq19 : fld w 27 7 = f27_3 := fld_of h27_11
  have hq20 : fld w 27 8 = f27_5 := fld_of h27_11
  have hq21 : fld w 27 9 = f27_7 := fld_of h27_11
  have hq22 : fld w 27 10 = f27_9 := fld_of h27_11
  refine xg_t (xg_blq rfl) ?_
  refine xg_t (xg_aload (va := (2, 27)) rfl rfl) ?_
  refine xg_t (xg_iload (va := (0, 0)) rfl rfl) ?_
  refine xg_cVi mX2_isTooMany (vs := [(0, 0)]) (rest := []) (cn1 := 0) (sl1 := 0) rfl (ftManyX0 (hI)) rfl h27_11 rfl rfl rfl rfl rfl rfl (fun n27 w23 hq24 => ?_)
  obtain ⟨hn28, hI25, hF26⟩ := hq24
  rcases hn28 with ⟨rfl, hk29⟩ | ⟨rfl, hk29⟩
  · refine xg_t (xg_ifF (u := 1) rfl xnm0 (by decide)) ?_
    refine xg_t (xg_aload (va := (2, 27)) rfl rfl) ?_
    refine xg_t (xg_const) ?_
    refine xg_putI (fl1 := [(2, 1), (2, 42), (2, 28), (2, 39), (2, 40), (2, 41), (0, f27_1), (0, f27_3), (0, f27_5), (0, 3), (0, f27_9)]) (hF26.get (by decide) h27_11) rfl rfl rfl (fun w30 hk31 hb32 => ?_)
    refine xg_t (xg_aload (va := (2, 27)) rfl rfl) ?_
    refine xg_t (xg_iload (va := (0, pc_)) rfl rfl) ?_
    refine xg_putI (fl1 := [(2, 1), (2, 42), (2, 28), (2, 39), (2, 40), (2, 41), (0, f27_1), (0, f27_3), (0, f27_5), (0, 3), (0, pc_)]) hk31 rfl rfl rfl (fun w33 hk34 hb35 => ?_)
    refine xg_t (xg_const) ?_
    have hq36 : fld w33 27 9 = 3 := fld_of hk34
    have hq37 : fld w33 27 10 = pc_ := fld_of hk34
    exact xg_e ⟨0, w33, ⟨rfl, rfl⟩, Or.inr (Or.inl ⟨rfl, hk29, by omega, by omega⟩), xInv.up (S := [27]) hI25 ((xFr.of (S := [27]) hb32 (by decide)).tr (xFr.of (S := [27]) hb35 (by decide))) (List.forall_mem_cons.mpr ⟨xqu27 (show cp27 (wget w33 27) from xmC27 f27_1 f27_3 f27_5 3 pc_ hk34 hb2 hb4 hb6 (by decide) (by omega)), fun _ h => absurd h List.not_mem_nil⟩), ((hF26.up (by decide)).tr ((xFr.of (S := [27]) hb32 (by decide)).tr (xFr.of (S := [27]) hb35 (by decide))))⟩
  · refine xg_t (xg_ifT (u := 0) rfl xnm0 (by decide)) ?_
    refine xg_t (xg_blq rfl) ?_
    refine xg_t (xg_iload (va := (0, 0)) rfl rfl) ?_
    refine xg_t (xg_ifF (u := 0) rfl xnm0 (by decide)) ?_
    refine xg_t (xg_iload (va := (0, 0)) rfl rfl) ?_
    refine xg_t (xg_bip) ?_
    refine xg_t (xg_icT (u := 0) (v := 7) rfl xnm0 xnm0 (by decide)) ?_
    refine xg_t (xg_blq rfl) ?_
    refine xg_t (xg_const) ?_
    refine xg_t (xg_istore (l1 := [(0, (2, 27)), (1, (0, 0)), (2, (0, pc_))]) rfl rfl rfl) ?_
    refine xg_t (xg_blq rfl) ?_
    refine xg_t (xg_iload (va := (0, 0)) rfl rfl) ?_
    refine xg_t (xg_gets) ?_
    refine xg_t (xg_iload (va := (0, 0)) rfl rfl) ?_
    refine xg_t (xg_ald8L (n := 0) (u := 3) xnm0 rfl rfl) ?_
    refine xg_t (xg_icF (u := 0) (v := 3) rfl xnm0 xnm0 (by decide)) ?_
    refine xg_t (xg_iload (va := (0, 0)) rfl rfl) ?_
    refine xg_t (xg_const) ?_
    refine xg_t (xg_icF (u := 0) (v := 3) rfl xnm0 xnm0 (by decide)) ?_
    refine xg_t (xg_aload (va := (2, 27)) rfl rfl) ?_
    refine xg_t (xg_getf (va := (2, 39)) (hF26.get (by decide) h27_11) rfl) ?_
    refine xg_t (xg_iload (va := (0, 0)) rfl rfl) ?_
    refine xg_ialdB (n := 0) (B := 4294967295) (h39_13.fr hF26 (by decide)) (hb14) xnm0 (by first | decide | omega) (fun u38 hu39 he40 => ?_)
    have hv41 : rwv w 39 0 = u38 := (rwv_of h39_13 (by decide)).trans he40
    refine xg_t (xg_gets) ?_
    refine xg_t (xg_iload (va := (0, 0)) rfl rfl) ?_
    refine xg_t (xg_const) ?_
    refine xg_t (xg_imul (u := 0) (v := 3) (z := 0) xnm0 xnm0 (by decide)) ?_
    refine xg_t (xg_iload (va := (0, 0)) rfl rfl) ?_
    refine xg_t (xg_iadd (u := 0) (v := 0) (z := 0) xnm0 xnm0 (by decide)) ?_
    refine xg_t (xg_ald8L (n := 0) (u := 1) xnm0 rfl rfl) ?_
    refine xg_t (xg_gets) ?_
    refine xg_t (xg_iload (va := (0, 0)) rfl rfl) ?_
    refine xg_t (xg_const) ?_
    refine xg_t (xg_imul (u := 0) (v := 3) (z := 0) xnm0 xnm0 (by decide)) ?_
    refine xg_t (xg_iload (va := (0, 0)) rfl rfl) ?_
    refine xg_t (xg_iadd (u := 0) (v := 0) (z := 0) xnm0 xnm0 (by decide)) ?_
    refine xg_t (xg_ald8L (n := 0) (u := 99) xnm0 rfl rfl) ?_
    refine xg_t (xg_cNr mX11_isIn (vs := [(0, u38), (0, 1), (0, 99)]) (rest := []) (rs := [(0, if 1 ≤ u38 ∧ u38 ≤ 99 then 1 else 0)]) (cn1 := 0) (sl1 := 0) rfl (isIn_ok (by omega) (by omega) (by omega)) rfl rfl rfl rfl rfl rfl rfl rfl) ?_
    by_cases hc42 : 1 ≤ u38 ∧ u38 ≤ 99
    · refine xg_t (xg_ifT (u := (if 1 ≤ u38 ∧ u38 ≤ 99 then 1 else 0)) rfl xnm0 (xj_neT (xite1 hc42))) ?_
      refine xg_t (xg_blq rfl) ?_
      refine xg_t (xg_iinc (u := 0) (z := 1) (l1 := [(0, (2, 27)), (1, (0, 0)), (2, (0, pc_))]) rfl rfl (by decide) rfl) ?_
      refine xg_t (xg_goto) ?_
      refine xg_t (xg_blq rfl) ?_
      refine xg_t (xg_iload (va := (0, 1)) rfl rfl) ?_
      refine xg_t (xg_gets) ?_
      refine xg_t (xg_iload (va := (0, 0)) rfl rfl) ?_
      refine xg_t (xg_ald8L (n := 0) (u := 3) xnm0 rfl rfl) ?_
      refine xg_t (xg_icF (u := 1) (v := 3) rfl xnm0 xnm0 (by decide)) ?_
      refine xg_t (xg_iload (va := (0, 1)) rfl rfl) ?_
      refine xg_t (xg_const) ?_
      refine xg_t (xg_icF (u := 1) (v := 3) rfl xnm0 xnm0 (by decide)) ?_
      refine xg_t (xg_aload (va := (2, 27)) rfl rfl) ?_
      refine xg_t (xg_getf (va := (2, 39)) (hF26.get (by decide) h27_11) rfl) ?_
      refine xg_t (xg_iload (va := (0, 1)) rfl rfl) ?_
      refine xg_ialdB (n := 1) (B := 4294967295) (h39_13.fr hF26 (by decide)) (hb14) xnm0 (by first | decide | omega) (fun u43 hu44 he45 => ?_)
      have hv46 : rwv w 39 1 = u43 := (rwv_of h39_13 (by decide)).trans he45
      refine xg_t (xg_gets) ?_
      refine xg_t (xg_iload (va := (0, 0)) rfl rfl) ?_
      refine xg_t (xg_const) ?_
      refine xg_t (xg_imul (u := 0) (v := 3) (z := 0) xnm0 xnm0 (by decide)) ?_
      refine xg_t (xg_iload (va := (0, 1)) rfl rfl) ?_
      refine xg_t (xg_iadd (u := 0) (v := 1) (z := 1) xnm0 xnm0 (by decide)) ?_
      refine xg_t (xg_ald8L (n := 1) (u := 1) xnm0 rfl rfl) ?_
      refine xg_t (xg_gets) ?_
      refine xg_t (xg_iload (va := (0, 0)) rfl rfl) ?_
      refine xg_t (xg_const) ?_
      refine xg_t (xg_imul (u := 0) (v := 3) (z := 0) xnm0 xnm0 (by decide)) ?_
      refine xg_t (xg_iload (va := (0, 1)) rfl rfl) ?_
      refine xg_t (xg_iadd (u := 0) (v := 1) (z := 1) xnm0 xnm0 (by decide)) ?_
      refine xg_t (xg_ald8L (n := 1) (u := 99) xnm0 rfl rfl) ?_
      refine xg_t (xg_cNr mX11_isIn (vs := [(0, u43), (0, 1), (0, 99)]) (rest := []) (rs := [(0, if 1 ≤ u43 ∧ u43 ≤ 99 then 1 else 0)]) (cn1 := 0) (sl1 := 0) rfl (isIn_ok (by omega) (by omega) (by omega)) rfl rfl rfl rfl rfl rfl rfl rfl) ?_
      by_cases hc47 : 1 ≤ u43 ∧ u43 ≤ 99
      · refine xg_t (xg_ifT (u := (if 1 ≤ u43 ∧ u43 ≤ 99 then 1 else 0)) rfl xnm0 (xj_neT (xite1 hc47))) ?_
        refine xg_t (xg_blq rfl) ?_
        refine xg_t (xg_iinc (u := 1) (z := 2) (l1 := [(0, (2, 27)), (1, (0, 0)), (2, (0, pc_))]) rfl rfl (by decide) rfl) ?_
        refine xg_t (xg_goto) ?_
        refine xg_t (xg_blq rfl) ?_
        refine xg_t (xg_iload (va := (0, 2)) rfl rfl) ?_
        refine xg_t (xg_gets) ?_
        refine xg_t (xg_iload (va := (0, 0)) rfl rfl) ?_
        refine xg_t (xg_ald8L (n := 0) (u := 3) xnm0 rfl rfl) ?_
        refine xg_t (xg_icF (u := 2) (v := 3) rfl xnm0 xnm0 (by decide)) ?_
        refine xg_t (xg_iload (va := (0, 2)) rfl rfl) ?_
        refine xg_t (xg_const) ?_
        refine xg_t (xg_icF (u := 2) (v := 3) rfl xnm0 xnm0 (by decide)) ?_
        refine xg_t (xg_aload (va := (2, 27)) rfl rfl) ?_
        refine xg_t (xg_getf (va := (2, 39)) (hF26.get (by decide) h27_11) rfl) ?_
        refine xg_t (xg_iload (va := (0, 2)) rfl rfl) ?_
        refine xg_ialdB (n := 2) (B := 4294967295) (h39_13.fr hF26 (by decide)) (hb14) xnm0 (by first | decide | omega) (fun u48 hu49 he50 => ?_)
        have hv51 : rwv w 39 2 = u48 := (rwv_of h39_13 (by decide)).trans he50
        refine xg_t (xg_gets) ?_
        refine xg_t (xg_iload (va := (0, 0)) rfl rfl) ?_
        refine xg_t (xg_const) ?_
        refine xg_t (xg_imul (u := 0) (v := 3) (z := 0) xnm0 xnm0 (by decide)) ?_
        refine xg_t (xg_iload (va := (0, 2)) rfl rfl) ?_
        refine xg_t (xg_iadd (u := 0) (v := 2) (z := 2) xnm0 xnm0 (by decide)) ?_
        refine xg_t (xg_ald8L (n := 2) (u := 1) xnm0 rfl rfl) ?_
        refine xg_t (xg_gets) ?_
        refine xg_t (xg_iload (va := (0, 0)) rfl rfl) ?_
        refine xg_t (xg_const) ?_
        refine xg_t (xg_imul (u := 0) (v := 3) (z := 0) xnm0 xnm0 (by decide)) ?_
        refine xg_t (xg_iload (va := (0, 2)) rfl rfl) ?_
        refine xg_t (xg_iadd (u := 0) (v := 2) (z := 2) xnm0 xnm0 (by decide)) ?_
        refine xg_t (xg_ald8L (n := 2) (u := 99) xnm0 rfl rfl) ?_
        refine xg_t (xg_cNr mX11_isIn (vs := [(0, u48), (0, 1), (0, 99)]) (rest := []) (rs := [(0, if 1 ≤ u48 ∧ u48 ≤ 99 then 1 else 0)]) (cn1 := 0) (sl1 := 0) rfl (isIn_ok (by omega) (by omega) (by omega)) rfl rfl rfl rfl rfl rfl rfl rfl) ?_
        by_cases hc52 : 1 ≤ u48 ∧ u48 ≤ 99
        · refine xg_t (xg_ifT (u := (if 1 ≤ u48 ∧ u48 ≤ 99 then 1 else 0)) rfl xnm0 (xj_neT (xite1 hc52))) ?_
          refine xg_t (xg_blq rfl) ?_
          refine xg_t (xg_iinc (u := 2) (z := 3) (l1 := [(0, (2, 27)), (1, (0, 0)), (2, (0, pc_))]) rfl rfl (by decide) rfl) ?_
          refine xg_t (xg_goto) ?_
          refine xg_t (xg_blq rfl) ?_
          refine xg_t (xg_iload (va := (0, 3)) rfl rfl) ?_
          refine xg_t (xg_gets) ?_
          refine xg_t (xg_iload (va := (0, 0)) rfl rfl) ?_
          refine xg_t (xg_ald8L (n := 0) (u := 3) xnm0 rfl rfl) ?_
          refine xg_t (xg_icT (u := 3) (v := 3) rfl xnm0 xnm0 (by decide)) ?_
          refine xg_t (xg_blq rfl) ?_
          refine xg_t (xg_const) ?_
          exact xg_e ⟨1, w23, ⟨rfl, rfl⟩, Or.inl ⟨rfl, hk29, by omega, by omega, by omega, hF26⟩, hI25, (hF26.up (by decide))⟩
        · refine xg_t (xg_ifF (u := (if 1 ≤ u48 ∧ u48 ≤ 99 then 1 else 0)) rfl xnm0 (xj_neF (xite0 hc52))) ?_
          refine xg_t (xg_aload (va := (2, 27)) rfl rfl) ?_
          refine xg_t (xg_const) ?_
          refine xg_putI (fl1 := [(2, 1), (2, 42), (2, 28), (2, 39), (2, 40), (2, 41), (0, f27_1), (0, f27_3), (0, f27_5), (0, 2), (0, f27_9)]) (hF26.get (by decide) h27_11) rfl rfl rfl (fun w53 hk54 hb55 => ?_)
          refine xg_t (xg_aload (va := (2, 27)) rfl rfl) ?_
          refine xg_t (xg_aload (va := (2, 27)) rfl rfl) ?_
          refine xg_t (xg_getf (va := (2, 40)) hk54 rfl) ?_
          refine xg_t (xg_iload (va := (0, 2)) rfl rfl) ?_
          refine xg_ialdB (n := 2) (B := 4294967295) ((h40_16.fr hF26 (by decide)).but hb55 (by decide)) (hb17) xnm0 (by first | decide | omega) (fun u56 hu57 he58 => ?_)
          have hv59 : rwv w 40 2 = u56 := (rwv_of h40_16 (by decide)).trans he58
          refine xg_putI (fl1 := [(2, 1), (2, 42), (2, 28), (2, 39), (2, 40), (2, 41), (0, f27_1), (0, f27_3), (0, f27_5), (0, 2), (0, u56)]) hk54 rfl rfl rfl (fun w60 hk61 hb62 => ?_)
          refine xg_t (xg_const) ?_
          have hq63 : fld w60 27 9 = 2 := fld_of hk61
          have hq64 : fld w60 27 10 = u56 := fld_of hk61
          exact xg_e ⟨0, w60, ⟨rfl, rfl⟩, Or.inr (Or.inr (Or.inr (Or.inr (⟨rfl, hk29, by omega, by omega, by omega, by omega, by omega⟩)))), xInv.up (S := [27]) hI25 ((xFr.of (S := [27]) hb55 (by decide)).tr (xFr.of (S := [27]) hb62 (by decide))) (List.forall_mem_cons.mpr ⟨xqu27 (show cp27 (wget w60 27) from xmC27 f27_1 f27_3 f27_5 2 u56 hk61 hb2 hb4 hb6 (by decide) (by omega)), fun _ h => absurd h List.not_mem_nil⟩), ((hF26.up (by decide)).tr ((xFr.of (S := [27]) hb55 (by decide)).tr (xFr.of (S := [27]) hb62 (by decide))))⟩
      · refine xg_t (xg_ifF (u := (if 1 ≤ u43 ∧ u43 ≤ 99 then 1 else 0)) rfl xnm0 (xj_neF (xite0 hc47))) ?_
        refine xg_t (xg_aload (va := (2, 27)) rfl rfl) ?_
        refine xg_t (xg_const) ?_
        refine xg_putI (fl1 := [(2, 1), (2, 42), (2, 28), (2, 39), (2, 40), (2, 41), (0, f27_1), (0, f27_3), (0, f27_5), (0, 2), (0, f27_9)]) (hF26.get (by decide) h27_11) rfl rfl rfl (fun w65 hk66 hb67 => ?_)
        refine xg_t (xg_aload (va := (2, 27)) rfl rfl) ?_
        refine xg_t (xg_aload (va := (2, 27)) rfl rfl) ?_
        refine xg_t (xg_getf (va := (2, 40)) hk66 rfl) ?_
        refine xg_t (xg_iload (va := (0, 1)) rfl rfl) ?_
        refine xg_ialdB (n := 1) (B := 4294967295) ((h40_16.fr hF26 (by decide)).but hb67 (by decide)) (hb17) xnm0 (by first | decide | omega) (fun u68 hu69 he70 => ?_)
        have hv71 : rwv w 40 1 = u68 := (rwv_of h40_16 (by decide)).trans he70
        refine xg_putI (fl1 := [(2, 1), (2, 42), (2, 28), (2, 39), (2, 40), (2, 41), (0, f27_1), (0, f27_3), (0, f27_5), (0, 2), (0, u68)]) hk66 rfl rfl rfl (fun w72 hk73 hb74 => ?_)
        refine xg_t (xg_const) ?_
        have hq75 : fld w72 27 9 = 2 := fld_of hk73
        have hq76 : fld w72 27 10 = u68 := fld_of hk73
        exact xg_e ⟨0, w72, ⟨rfl, rfl⟩, Or.inr (Or.inr (Or.inr (Or.inl ⟨rfl, hk29, by omega, by omega, by omega, by omega⟩))), xInv.up (S := [27]) hI25 ((xFr.of (S := [27]) hb67 (by decide)).tr (xFr.of (S := [27]) hb74 (by decide))) (List.forall_mem_cons.mpr ⟨xqu27 (show cp27 (wget w72 27) from xmC27 f27_1 f27_3 f27_5 2 u68 hk73 hb2 hb4 hb6 (by decide) (by omega)), fun _ h => absurd h List.not_mem_nil⟩), ((hF26.up (by decide)).tr ((xFr.of (S := [27]) hb67 (by decide)).tr (xFr.of (S := [27]) hb74 (by decide))))⟩
    · refine xg_t (xg_ifF (u := (if 1 ≤ u38 ∧ u38 ≤ 99 then 1 else 0)) rfl xnm0 (xj_neF (xite0 hc42))) ?_
      refine xg_t (xg_aload (va := (2, 27)) rfl rfl) ?_
      refine xg_t (xg_const) ?_
      refine xg_putI (fl1 := [(2, 1), (2, 42), (2, 28), (2, 39), (2, 40), (2, 41), (0, f27_1), (0, f27_3), (0, f27_5), (0, 2), (0, f27_9)]) (hF26.get (by decide) h27_11) rfl rfl rfl (fun w77 hk78 hb79 => ?_)
      refine xg_t (xg_aload (va := (2, 27)) rfl rfl) ?_
      refine xg_t (xg_aload (va := (2, 27)) rfl rfl) ?_
      refine xg_t (xg_getf (va := (2, 40)) hk78 rfl) ?_
      refine xg_t (xg_iload (va := (0, 0)) rfl rfl) ?_
      refine xg_ialdB (n := 0) (B := 4294967295) ((h40_16.fr hF26 (by decide)).but hb79 (by decide)) (hb17) xnm0 (by first | decide | omega) (fun u80 hu81 he82 => ?_)
      have hv83 : rwv w 40 0 = u80 := (rwv_of h40_16 (by decide)).trans he82
      refine xg_putI (fl1 := [(2, 1), (2, 42), (2, 28), (2, 39), (2, 40), (2, 41), (0, f27_1), (0, f27_3), (0, f27_5), (0, 2), (0, u80)]) hk78 rfl rfl rfl (fun w84 hk85 hb86 => ?_)
      refine xg_t (xg_const) ?_
      have hq87 : fld w84 27 9 = 2 := fld_of hk85
      have hq88 : fld w84 27 10 = u80 := fld_of hk85
      exact xg_e ⟨0, w84, ⟨rfl, rfl⟩, Or.inr (Or.inr (Or.inl ⟨rfl, hk29, by omega, by omega, by omega⟩)), xInv.up (S := [27]) hI25 ((xFr.of (S := [27]) hb79 (by decide)).tr (xFr.of (S := [27]) hb86 (by decide))) (List.forall_mem_cons.mpr ⟨xqu27 (show cp27 (wget w84 27) from xmC27 f27_1 f27_3 f27_5 2 u80 hk85 hb2 hb4 hb6 (by decide) (by omega)), fun _ h => absurd h List.not_mem_nil⟩), ((hF26.up (by decide)).tr ((xFr.of (S := [27]) hb79 (by decide)).tr (xFr.of (S := [27]) hb86 (by decide))))⟩
theorem ftFineX1 {pc_ : Nat} (hI : xInv w) (h1 : pc_ ≤ 4294967295) : xPi (d + 3) mX2_isFine [(2, 27), (0, 1), (0, pc_)] w bd fc rr (fun n w' => ((n = 1 ∧ ¬ ((4 ≤ fld w 31 3 ∨ ∃ m, m < fld w 31 3 ∧ rwv w 32 (2 * m) = rwv w 39 0)) ∧ (0 ≤ rwv w 39 0 ∧ rwv w 39 0 ≤ 99) ∧ (1 ≤ rwv w 39 1 ∧ rwv w 39 1 ≤ 999) ∧ xFr [] w w') ∨ (n = 0 ∧ ((4 ≤ fld w 31 3 ∨ ∃ m, m < fld w 31 3 ∧ rwv w 32 (2 * m) = rwv w 39 0)) ∧ fld w' 27 9 = 3 ∧ fld w' 27 10 = pc_) ∨ (n = 0 ∧ ¬ ((4 ≤ fld w 31 3 ∨ ∃ m, m < fld w 31 3 ∧ rwv w 32 (2 * m) = rwv w 39 0)) ∧ ¬ (0 ≤ rwv w 39 0 ∧ rwv w 39 0 ≤ 99) ∧ fld w' 27 9 = 2 ∧ fld w' 27 10 = rwv w 40 0) ∨ (n = 0 ∧ ¬ ((4 ≤ fld w 31 3 ∨ ∃ m, m < fld w 31 3 ∧ rwv w 32 (2 * m) = rwv w 39 0)) ∧ (0 ≤ rwv w 39 0 ∧ rwv w 39 0 ≤ 99) ∧ ¬ (1 ≤ rwv w 39 1 ∧ rwv w 39 1 ≤ 999) ∧ fld w' 27 9 = 2 ∧ fld w' 27 10 = rwv w 40 1)) ∧ xInv w' ∧ xFr [27] w w') := by
  refine xPi.of ?_
  show xTo (d + 3) mX2_isFine (0, [], [(0, (2, 27)), (1, (0, 1)), (2, (0, pc_))], [], (w, bd, fc, 0, 0, rr)) (fun φ => ∃ n w', xEnd 4 [(0, n)] (w', bd, fc, 0, 0, rr) φ ∧ ((n = 1 ∧ ¬ ((4 ≤ fld w 31 3 ∨ ∃ m, m < fld w 31 3 ∧ rwv w 32 (2 * m) = rwv w 39 0)) ∧ (0 ≤ rwv w 39 0 ∧ rwv w 39 0 ≤ 99) ∧ (1 ≤ rwv w 39 1 ∧ rwv w 39 1 ≤ 999) ∧ xFr [] w w') ∨ (n = 0 ∧ ((4 ≤ fld w 31 3 ∨ ∃ m, m < fld w 31 3 ∧ rwv w 32 (2 * m) = rwv w 39 0)) ∧ fld w' 27 9 = 3 ∧ fld w' 27 10 = pc_) ∨ (n = 0 ∧ ¬ ((4 ≤ fld w 31 3 ∨ ∃ m, m < fld w 31 3 ∧ rwv w 32 (2 * m) = rwv w 39 0)) ∧ ¬ (0 ≤ rwv w 39 0 ∧ rwv w 39 0 ≤ 99) ∧ fld w' 27 9 = 2 ∧ fld w' 27 10 = rwv w 40 0) ∨ (n = 0 ∧ ¬ ((4 ≤ fld w 31 3 ∨ ∃ m, m < fld w 31 3 ∧ rwv w 32 (2 * m) = rwv w 39 0)) ∧ (0 ≤ rwv w 39 0 ∧ rwv w 39 0 ≤ 99) ∧ ¬ (1 ≤ rwv w 39 1 ∧ rwv w 39 1 ≤ 999) ∧ fld w' 27 9 = 2 ∧ fld w' 27 10 = rwv w 40 1)) ∧ xInv w' ∧ xFr [27] w w')
  refine xoC27 (xqc27 hI : cp27 (wget w 27)) (fun f27_1 f27_3 f27_5 f27_7 f27_9 h27_11 hb2 hb4 hb6 hb8 hb10 => ?_)
  refine xoI (xqc39 hI : cpI 3 18 4294967295 (wget w 39)) (fun g39_12 h39_13 hb14 => ?_)
  refine xoI (xqc40 hI : cpI 3 19 4294967295 (wget w 40)) (fun g40_15 h40_16 hb17 => ?_)
  have hq18 : fld w 27 6 = f27_1 := fld_of h27_11
  have hq19 : fld w 27 7 = f27_3 := fld_of h27_11
  have hq20 : fld w 27 8 = f27_5 := fld_of h27_11
  have hq21 : fld w 27 9 = f27_7 := fld_of h27_11
  have hq22 : fld w 27 10 = f27_9 := fld_of h27_11
  refine xg_t (xg_blq rfl) ?_
  refine xg_t (xg_aload (va := (2, 27)) rfl rfl) ?_
  refine xg_t (xg_iload (va := (0, 1)) rfl rfl) ?_
  refine xg_cVi mX2_isTooMany (vs := [(0, 1)]) (rest := []) (cn1 := 0) (sl1 := 0) rfl (ftManyX1 (hI)) rfl h27_11 rfl rfl rfl rfl rfl rfl (fun n27 w23 hq24 => ?_)
  obtain ⟨hn28, hI25, hF26⟩ := hq24
  rcases hn28 with ⟨rfl, hk29⟩ | ⟨rfl, hk29⟩
  · refine xg_t (xg_ifF (u := 1) rfl xnm0 (by decide)) ?_
    refine xg_t (xg_aload (va := (2, 27)) rfl rfl) ?_
    refine xg_t (xg_const) ?_
    refine xg_putI (fl1 := [(2, 1), (2, 42), (2, 28), (2, 39), (2, 40), (2, 41), (0, f27_1), (0, f27_3), (0, f27_5), (0, 3), (0, f27_9)]) (hF26.get (by decide) h27_11) rfl rfl rfl (fun w30 hk31 hb32 => ?_)
    refine xg_t (xg_aload (va := (2, 27)) rfl rfl) ?_
    refine xg_t (xg_iload (va := (0, pc_)) rfl rfl) ?_
    refine xg_putI (fl1 := [(2, 1), (2, 42), (2, 28), (2, 39), (2, 40), (2, 41), (0, f27_1), (0, f27_3), (0, f27_5), (0, 3), (0, pc_)]) hk31 rfl rfl rfl (fun w33 hk34 hb35 => ?_)
    refine xg_t (xg_const) ?_
    have hq36 : fld w33 27 9 = 3 := fld_of hk34
    have hq37 : fld w33 27 10 = pc_ := fld_of hk34
    exact xg_e ⟨0, w33, ⟨rfl, rfl⟩, Or.inr (Or.inl ⟨rfl, hk29, by omega, by omega⟩), xInv.up (S := [27]) hI25 ((xFr.of (S := [27]) hb32 (by decide)).tr (xFr.of (S := [27]) hb35 (by decide))) (List.forall_mem_cons.mpr ⟨xqu27 (show cp27 (wget w33 27) from xmC27 f27_1 f27_3 f27_5 3 pc_ hk34 hb2 hb4 hb6 (by decide) (by omega)), fun _ h => absurd h List.not_mem_nil⟩), ((hF26.up (by decide)).tr ((xFr.of (S := [27]) hb32 (by decide)).tr (xFr.of (S := [27]) hb35 (by decide))))⟩
  · refine xg_t (xg_ifT (u := 0) rfl xnm0 (by decide)) ?_
    refine xg_t (xg_blq rfl) ?_
    refine xg_t (xg_iload (va := (0, 1)) rfl rfl) ?_
    refine xg_t (xg_ifF (u := 1) rfl xnm0 (by decide)) ?_
    refine xg_t (xg_iload (va := (0, 1)) rfl rfl) ?_
    refine xg_t (xg_bip) ?_
    refine xg_t (xg_icT (u := 1) (v := 7) rfl xnm0 xnm0 (by decide)) ?_
    refine xg_t (xg_blq rfl) ?_
    refine xg_t (xg_const) ?_
    refine xg_t (xg_istore (l1 := [(0, (2, 27)), (1, (0, 1)), (2, (0, pc_))]) rfl rfl rfl) ?_
    refine xg_t (xg_blq rfl) ?_
    refine xg_t (xg_iload (va := (0, 0)) rfl rfl) ?_
    refine xg_t (xg_gets) ?_
    refine xg_t (xg_iload (va := (0, 1)) rfl rfl) ?_
    refine xg_t (xg_ald8L (n := 1) (u := 2) xnm0 rfl rfl) ?_
    refine xg_t (xg_icF (u := 0) (v := 2) rfl xnm0 xnm0 (by decide)) ?_
    refine xg_t (xg_iload (va := (0, 0)) rfl rfl) ?_
    refine xg_t (xg_const) ?_
    refine xg_t (xg_icF (u := 0) (v := 3) rfl xnm0 xnm0 (by decide)) ?_
    refine xg_t (xg_aload (va := (2, 27)) rfl rfl) ?_
    refine xg_t (xg_getf (va := (2, 39)) (hF26.get (by decide) h27_11) rfl) ?_
    refine xg_t (xg_iload (va := (0, 0)) rfl rfl) ?_
    refine xg_ialdB (n := 0) (B := 4294967295) (h39_13.fr hF26 (by decide)) (hb14) xnm0 (by first | decide | omega) (fun u38 hu39 he40 => ?_)
    have hv41 : rwv w 39 0 = u38 := (rwv_of h39_13 (by decide)).trans he40
    refine xg_t (xg_gets) ?_
    refine xg_t (xg_iload (va := (0, 1)) rfl rfl) ?_
    refine xg_t (xg_const) ?_
    refine xg_t (xg_imul (u := 1) (v := 3) (z := 3) xnm0 xnm0 (by decide)) ?_
    refine xg_t (xg_iload (va := (0, 0)) rfl rfl) ?_
    refine xg_t (xg_iadd (u := 3) (v := 0) (z := 3) xnm0 xnm0 (by decide)) ?_
    refine xg_t (xg_ald8L (n := 3) (u := 0) xnm0 rfl rfl) ?_
    refine xg_t (xg_gets) ?_
    refine xg_t (xg_iload (va := (0, 1)) rfl rfl) ?_
    refine xg_t (xg_const) ?_
    refine xg_t (xg_imul (u := 1) (v := 3) (z := 3) xnm0 xnm0 (by decide)) ?_
    refine xg_t (xg_iload (va := (0, 0)) rfl rfl) ?_
    refine xg_t (xg_iadd (u := 3) (v := 0) (z := 3) xnm0 xnm0 (by decide)) ?_
    refine xg_t (xg_ald8L (n := 3) (u := 99) xnm0 rfl rfl) ?_
    refine xg_t (xg_cNr mX11_isIn (vs := [(0, u38), (0, 0), (0, 99)]) (rest := []) (rs := [(0, if 0 ≤ u38 ∧ u38 ≤ 99 then 1 else 0)]) (cn1 := 0) (sl1 := 0) rfl (isIn_ok (by omega) (by omega) (by omega)) rfl rfl rfl rfl rfl rfl rfl rfl) ?_
    by_cases hc42 : 0 ≤ u38 ∧ u38 ≤ 99
    · refine xg_t (xg_ifT (u := (if 0 ≤ u38 ∧ u38 ≤ 99 then 1 else 0)) rfl xnm0 (xj_neT (xite1 hc42))) ?_
      refine xg_t (xg_blq rfl) ?_
      refine xg_t (xg_iinc (u := 0) (z := 1) (l1 := [(0, (2, 27)), (1, (0, 1)), (2, (0, pc_))]) rfl rfl (by decide) rfl) ?_
      refine xg_t (xg_goto) ?_
      refine xg_t (xg_blq rfl) ?_
      refine xg_t (xg_iload (va := (0, 1)) rfl rfl) ?_
      refine xg_t (xg_gets) ?_
      refine xg_t (xg_iload (va := (0, 1)) rfl rfl) ?_
      refine xg_t (xg_ald8L (n := 1) (u := 2) xnm0 rfl rfl) ?_
      refine xg_t (xg_icF (u := 1) (v := 2) rfl xnm0 xnm0 (by decide)) ?_
      refine xg_t (xg_iload (va := (0, 1)) rfl rfl) ?_
      refine xg_t (xg_const) ?_
      refine xg_t (xg_icF (u := 1) (v := 3) rfl xnm0 xnm0 (by decide)) ?_
      refine xg_t (xg_aload (va := (2, 27)) rfl rfl) ?_
      refine xg_t (xg_getf (va := (2, 39)) (hF26.get (by decide) h27_11) rfl) ?_
      refine xg_t (xg_iload (va := (0, 1)) rfl rfl) ?_
      refine xg_ialdB (n := 1) (B := 4294967295) (h39_13.fr hF26 (by decide)) (hb14) xnm0 (by first | decide | omega) (fun u43 hu44 he45 => ?_)
      have hv46 : rwv w 39 1 = u43 := (rwv_of h39_13 (by decide)).trans he45
      refine xg_t (xg_gets) ?_
      refine xg_t (xg_iload (va := (0, 1)) rfl rfl) ?_
      refine xg_t (xg_const) ?_
      refine xg_t (xg_imul (u := 1) (v := 3) (z := 3) xnm0 xnm0 (by decide)) ?_
      refine xg_t (xg_iload (va := (0, 1)) rfl rfl) ?_
      refine xg_t (xg_iadd (u := 3) (v := 1) (z := 4) xnm0 xnm0 (by decide)) ?_
      refine xg_t (xg_ald8L (n := 4) (u := 1) xnm0 rfl rfl) ?_
      refine xg_t (xg_gets) ?_
      refine xg_t (xg_iload (va := (0, 1)) rfl rfl) ?_
      refine xg_t (xg_const) ?_
      refine xg_t (xg_imul (u := 1) (v := 3) (z := 3) xnm0 xnm0 (by decide)) ?_
      refine xg_t (xg_iload (va := (0, 1)) rfl rfl) ?_
      refine xg_t (xg_iadd (u := 3) (v := 1) (z := 4) xnm0 xnm0 (by decide)) ?_
      refine xg_t (xg_ald8L (n := 4) (u := 999) xnm0 rfl rfl) ?_
      refine xg_t (xg_cNr mX11_isIn (vs := [(0, u43), (0, 1), (0, 999)]) (rest := []) (rs := [(0, if 1 ≤ u43 ∧ u43 ≤ 999 then 1 else 0)]) (cn1 := 0) (sl1 := 0) rfl (isIn_ok (by omega) (by omega) (by omega)) rfl rfl rfl rfl rfl rfl rfl rfl) ?_
      by_cases hc47 : 1 ≤ u43 ∧ u43 ≤ 999
      · refine xg_t (xg_ifT (u := (if 1 ≤ u43 ∧ u43 ≤ 999 then 1 else 0)) rfl xnm0 (xj_neT (xite1 hc47))) ?_
        refine xg_t (xg_blq rfl) ?_
        refine xg_t (xg_iinc (u := 1) (z := 2) (l1 := [(0, (2, 27)), (1, (0, 1)), (2, (0, pc_))]) rfl rfl (by decide) rfl) ?_
        refine xg_t (xg_goto) ?_
        refine xg_t (xg_blq rfl) ?_
        refine xg_t (xg_iload (va := (0, 2)) rfl rfl) ?_
        refine xg_t (xg_gets) ?_
        refine xg_t (xg_iload (va := (0, 1)) rfl rfl) ?_
        refine xg_t (xg_ald8L (n := 1) (u := 2) xnm0 rfl rfl) ?_
        refine xg_t (xg_icT (u := 2) (v := 2) rfl xnm0 xnm0 (by decide)) ?_
        refine xg_t (xg_blq rfl) ?_
        refine xg_t (xg_const) ?_
        exact xg_e ⟨1, w23, ⟨rfl, rfl⟩, Or.inl ⟨rfl, hk29, by omega, by omega, hF26⟩, hI25, (hF26.up (by decide))⟩
      · refine xg_t (xg_ifF (u := (if 1 ≤ u43 ∧ u43 ≤ 999 then 1 else 0)) rfl xnm0 (xj_neF (xite0 hc47))) ?_
        refine xg_t (xg_aload (va := (2, 27)) rfl rfl) ?_
        refine xg_t (xg_const) ?_
        refine xg_putI (fl1 := [(2, 1), (2, 42), (2, 28), (2, 39), (2, 40), (2, 41), (0, f27_1), (0, f27_3), (0, f27_5), (0, 2), (0, f27_9)]) (hF26.get (by decide) h27_11) rfl rfl rfl (fun w48 hk49 hb50 => ?_)
        refine xg_t (xg_aload (va := (2, 27)) rfl rfl) ?_
        refine xg_t (xg_aload (va := (2, 27)) rfl rfl) ?_
        refine xg_t (xg_getf (va := (2, 40)) hk49 rfl) ?_
        refine xg_t (xg_iload (va := (0, 1)) rfl rfl) ?_
        refine xg_ialdB (n := 1) (B := 4294967295) ((h40_16.fr hF26 (by decide)).but hb50 (by decide)) (hb17) xnm0 (by first | decide | omega) (fun u51 hu52 he53 => ?_)
        have hv54 : rwv w 40 1 = u51 := (rwv_of h40_16 (by decide)).trans he53
        refine xg_putI (fl1 := [(2, 1), (2, 42), (2, 28), (2, 39), (2, 40), (2, 41), (0, f27_1), (0, f27_3), (0, f27_5), (0, 2), (0, u51)]) hk49 rfl rfl rfl (fun w55 hk56 hb57 => ?_)
        refine xg_t (xg_const) ?_
        have hq58 : fld w55 27 9 = 2 := fld_of hk56
        have hq59 : fld w55 27 10 = u51 := fld_of hk56
        exact xg_e ⟨0, w55, ⟨rfl, rfl⟩, Or.inr (Or.inr (Or.inr (⟨rfl, hk29, by omega, by omega, by omega, by omega⟩))), xInv.up (S := [27]) hI25 ((xFr.of (S := [27]) hb50 (by decide)).tr (xFr.of (S := [27]) hb57 (by decide))) (List.forall_mem_cons.mpr ⟨xqu27 (show cp27 (wget w55 27) from xmC27 f27_1 f27_3 f27_5 2 u51 hk56 hb2 hb4 hb6 (by decide) (by omega)), fun _ h => absurd h List.not_mem_nil⟩), ((hF26.up (by decide)).tr ((xFr.of (S := [27]) hb50 (by decide)).tr (xFr.of (S := [27]) hb57 (by decide))))⟩
    · refine xg_t (xg_ifF (u := (if 0 ≤ u38 ∧ u38 ≤ 99 then 1 else 0)) rfl xnm0 (xj_neF (xite0 hc42))) ?_
      refine xg_t (xg_aload (va := (2, 27)) rfl rfl) ?_
      refine xg_t (xg_const) ?_
      refine xg_putI (fl1 := [(2, 1), (2, 42), (2, 28), (2, 39), (2, 40), (2, 41), (0, f27_1), (0, f27_3), (0, f27_5), (0, 2), (0, f27_9)]) (hF26.get (by decide) h27_11) rfl rfl rfl (fun w60 hk61 hb62 => ?_)
      refine xg_t (xg_aload (va := (2, 27)) rfl rfl) ?_
      refine xg_t (xg_aload (va := (2, 27)) rfl rfl) ?_
      refine xg_t (xg_getf (va := (2, 40)) hk61 rfl) ?_
      refine xg_t (xg_iload (va := (0, 0)) rfl rfl) ?_
      refine xg_ialdB (n := 0) (B := 4294967295) ((h40_16.fr hF26 (by decide)).but hb62 (by decide)) (hb17) xnm0 (by first | decide | omega) (fun u63 hu64 he65 => ?_)
      have hv66 : rwv w 40 0 = u63 := (rwv_of h40_16 (by decide)).trans he65
      refine xg_putI (fl1 := [(2, 1), (2, 42), (2, 28), (2, 39), (2, 40), (2, 41), (0, f27_1), (0, f27_3), (0, f27_5), (0, 2), (0, u63)]) hk61 rfl rfl rfl (fun w67 hk68 hb69 => ?_)
      refine xg_t (xg_const) ?_
      have hq70 : fld w67 27 9 = 2 := fld_of hk68
      have hq71 : fld w67 27 10 = u63 := fld_of hk68
      exact xg_e ⟨0, w67, ⟨rfl, rfl⟩, Or.inr (Or.inr (Or.inl ⟨rfl, hk29, by omega, by omega, by omega⟩)), xInv.up (S := [27]) hI25 ((xFr.of (S := [27]) hb62 (by decide)).tr (xFr.of (S := [27]) hb69 (by decide))) (List.forall_mem_cons.mpr ⟨xqu27 (show cp27 (wget w67 27) from xmC27 f27_1 f27_3 f27_5 2 u63 hk68 hb2 hb4 hb6 (by decide) (by omega)), fun _ h => absurd h List.not_mem_nil⟩), ((hF26.up (by decide)).tr ((xFr.of (S := [27]) hb62 (by decide)).tr (xFr.of (S := [27]) hb69 (by decide))))⟩
theorem ftFineX2 {pc_ : Nat} (hI : xInv w) (h1 : pc_ ≤ 4294967295) : xPi (d + 3) mX2_isFine [(2, 27), (0, 2), (0, pc_)] w bd fc rr (fun n w' => ((n = 1 ∧ ¬ (6 ≤ fld w 33 3) ∧ (1 ≤ rwv w 39 0 ∧ rwv w 39 0 ≤ 9999) ∧ (1 ≤ rwv w 39 1 ∧ rwv w 39 1 ≤ 9999) ∧ xFr [] w w') ∨ (n = 0 ∧ (6 ≤ fld w 33 3) ∧ fld w' 27 9 = 3 ∧ fld w' 27 10 = pc_) ∨ (n = 0 ∧ ¬ (6 ≤ fld w 33 3) ∧ ¬ (1 ≤ rwv w 39 0 ∧ rwv w 39 0 ≤ 9999) ∧ fld w' 27 9 = 2 ∧ fld w' 27 10 = rwv w 40 0) ∨ (n = 0 ∧ ¬ (6 ≤ fld w 33 3) ∧ (1 ≤ rwv w 39 0 ∧ rwv w 39 0 ≤ 9999) ∧ ¬ (1 ≤ rwv w 39 1 ∧ rwv w 39 1 ≤ 9999) ∧ fld w' 27 9 = 2 ∧ fld w' 27 10 = rwv w 40 1)) ∧ xInv w' ∧ xFr [27] w w') := by
  refine xPi.of ?_
  show xTo (d + 3) mX2_isFine (0, [], [(0, (2, 27)), (1, (0, 2)), (2, (0, pc_))], [], (w, bd, fc, 0, 0, rr)) (fun φ => ∃ n w', xEnd 4 [(0, n)] (w', bd, fc, 0, 0, rr) φ ∧ ((n = 1 ∧ ¬ (6 ≤ fld w 33 3) ∧ (1 ≤ rwv w 39 0 ∧ rwv w 39 0 ≤ 9999) ∧ (1 ≤ rwv w 39 1 ∧ rwv w 39 1 ≤ 9999) ∧ xFr [] w w') ∨ (n = 0 ∧ (6 ≤ fld w 33 3) ∧ fld w' 27 9 = 3 ∧ fld w' 27 10 = pc_) ∨ (n = 0 ∧ ¬ (6 ≤ fld w 33 3) ∧ ¬ (1 ≤ rwv w 39 0 ∧ rwv w 39 0 ≤ 9999) ∧ fld w' 27 9 = 2 ∧ fld w' 27 10 = rwv w 40 0) ∨ (n = 0 ∧ ¬ (6 ≤ fld w 33 3) ∧ (1 ≤ rwv w 39 0 ∧ rwv w 39 0 ≤ 9999) ∧ ¬ (1 ≤ rwv w 39 1 ∧ rwv w 39 1 ≤ 9999) ∧ fld w' 27 9 = 2 ∧ fld w' 27 10 = rwv w 40 1)) ∧ xInv w' ∧ xFr [27] w w')
  refine xoC27 (xqc27 hI : cp27 (wget w 27)) (fun f27_1 f27_3 f27_5 f27_7 f27_9 h27_11 hb2 hb4 hb6 hb8 hb10 => ?_)
  refine xoI (xqc39 hI : cpI 3 18 4294967295 (wget w 39)) (fun g39_12 h39_13 hb14 => ?_)
  refine xoI (xqc40 hI : cpI 3 19 4294967295 (wget w 40)) (fun g40_15 h40_16 hb17 => ?_)
  have hq18 : fld w 27 6 = f27_1 := fld_of h27_11
  have hq19 : fld w 27 7 = f27_3 := fld_of h27_11
  have hq20 : fld w 27 8 = f27_5 := fld_of h27_11
  have hq21 : fld w 27 9 = f27_7 := fld_of h27_11
  have hq22 : fld w 27 10 = f27_9 := fld_of h27_11
  refine xg_t (xg_blq rfl) ?_
  refine xg_t (xg_aload (va := (2, 27)) rfl rfl) ?_
  refine xg_t (xg_iload (va := (0, 2)) rfl rfl) ?_
  refine xg_cVi mX2_isTooMany (vs := [(0, 2)]) (rest := []) (cn1 := 0) (sl1 := 0) rfl (ftManyX2 (hI)) rfl h27_11 rfl rfl rfl rfl rfl rfl (fun n27 w23 hq24 => ?_)
  obtain ⟨hn28, hI25, hF26⟩ := hq24
  rcases hn28 with ⟨rfl, hk29⟩ | ⟨rfl, hk29⟩
  · refine xg_t (xg_ifF (u := 1) rfl xnm0 (by decide)) ?_
    refine xg_t (xg_aload (va := (2, 27)) rfl rfl) ?_
    refine xg_t (xg_const) ?_
    refine xg_putI (fl1 := [(2, 1), (2, 42), (2, 28), (2, 39), (2, 40), (2, 41), (0, f27_1), (0, f27_3), (0, f27_5), (0, 3), (0, f27_9)]) (hF26.get (by decide) h27_11) rfl rfl rfl (fun w30 hk31 hb32 => ?_)
    refine xg_t (xg_aload (va := (2, 27)) rfl rfl) ?_
    refine xg_t (xg_iload (va := (0, pc_)) rfl rfl) ?_
    refine xg_putI (fl1 := [(2, 1), (2, 42), (2, 28), (2, 39), (2, 40), (2, 41), (0, f27_1), (0, f27_3), (0, f27_5), (0, 3), (0, pc_)]) hk31 rfl rfl rfl (fun w33 hk34 hb35 => ?_)
    refine xg_t (xg_const) ?_
    have hq36 : fld w33 27 9 = 3 := fld_of hk34
    have hq37 : fld w33 27 10 = pc_ := fld_of hk34
    exact xg_e ⟨0, w33, ⟨rfl, rfl⟩, Or.inr (Or.inl ⟨rfl, hk29, by omega, by omega⟩), xInv.up (S := [27]) hI25 ((xFr.of (S := [27]) hb32 (by decide)).tr (xFr.of (S := [27]) hb35 (by decide))) (List.forall_mem_cons.mpr ⟨xqu27 (show cp27 (wget w33 27) from xmC27 f27_1 f27_3 f27_5 3 pc_ hk34 hb2 hb4 hb6 (by decide) (by omega)), fun _ h => absurd h List.not_mem_nil⟩), ((hF26.up (by decide)).tr ((xFr.of (S := [27]) hb32 (by decide)).tr (xFr.of (S := [27]) hb35 (by decide))))⟩
  · refine xg_t (xg_ifT (u := 0) rfl xnm0 (by decide)) ?_
    refine xg_t (xg_blq rfl) ?_
    refine xg_t (xg_iload (va := (0, 2)) rfl rfl) ?_
    refine xg_t (xg_ifF (u := 2) rfl xnm0 (by decide)) ?_
    refine xg_t (xg_iload (va := (0, 2)) rfl rfl) ?_
    refine xg_t (xg_bip) ?_
    refine xg_t (xg_icT (u := 2) (v := 7) rfl xnm0 xnm0 (by decide)) ?_
    refine xg_t (xg_blq rfl) ?_
    refine xg_t (xg_const) ?_
    refine xg_t (xg_istore (l1 := [(0, (2, 27)), (1, (0, 2)), (2, (0, pc_))]) rfl rfl rfl) ?_
    refine xg_t (xg_blq rfl) ?_
    refine xg_t (xg_iload (va := (0, 0)) rfl rfl) ?_
    refine xg_t (xg_gets) ?_
    refine xg_t (xg_iload (va := (0, 2)) rfl rfl) ?_
    refine xg_t (xg_ald8L (n := 2) (u := 2) xnm0 rfl rfl) ?_
    refine xg_t (xg_icF (u := 0) (v := 2) rfl xnm0 xnm0 (by decide)) ?_
    refine xg_t (xg_iload (va := (0, 0)) rfl rfl) ?_
    refine xg_t (xg_const) ?_
    refine xg_t (xg_icF (u := 0) (v := 3) rfl xnm0 xnm0 (by decide)) ?_
    refine xg_t (xg_aload (va := (2, 27)) rfl rfl) ?_
    refine xg_t (xg_getf (va := (2, 39)) (hF26.get (by decide) h27_11) rfl) ?_
    refine xg_t (xg_iload (va := (0, 0)) rfl rfl) ?_
    refine xg_ialdB (n := 0) (B := 4294967295) (h39_13.fr hF26 (by decide)) (hb14) xnm0 (by first | decide | omega) (fun u38 hu39 he40 => ?_)
    have hv41 : rwv w 39 0 = u38 := (rwv_of h39_13 (by decide)).trans he40
    refine xg_t (xg_gets) ?_
    refine xg_t (xg_iload (va := (0, 2)) rfl rfl) ?_
    refine xg_t (xg_const) ?_
    refine xg_t (xg_imul (u := 2) (v := 3) (z := 6) xnm0 xnm0 (by decide)) ?_
    refine xg_t (xg_iload (va := (0, 0)) rfl rfl) ?_
    refine xg_t (xg_iadd (u := 6) (v := 0) (z := 6) xnm0 xnm0 (by decide)) ?_
    refine xg_t (xg_ald8L (n := 6) (u := 1) xnm0 rfl rfl) ?_
    refine xg_t (xg_gets) ?_
    refine xg_t (xg_iload (va := (0, 2)) rfl rfl) ?_
    refine xg_t (xg_const) ?_
    refine xg_t (xg_imul (u := 2) (v := 3) (z := 6) xnm0 xnm0 (by decide)) ?_
    refine xg_t (xg_iload (va := (0, 0)) rfl rfl) ?_
    refine xg_t (xg_iadd (u := 6) (v := 0) (z := 6) xnm0 xnm0 (by decide)) ?_
    refine xg_t (xg_ald8L (n := 6) (u := 9999) xnm0 rfl rfl) ?_
    refine xg_t (xg_cNr mX11_isIn (vs := [(0, u38), (0, 1), (0, 9999)]) (rest := []) (rs := [(0, if 1 ≤ u38 ∧ u38 ≤ 9999 then 1 else 0)]) (cn1 := 0) (sl1 := 0) rfl (isIn_ok (by omega) (by omega) (by omega)) rfl rfl rfl rfl rfl rfl rfl rfl) ?_
    by_cases hc42 : 1 ≤ u38 ∧ u38 ≤ 9999
    · refine xg_t (xg_ifT (u := (if 1 ≤ u38 ∧ u38 ≤ 9999 then 1 else 0)) rfl xnm0 (xj_neT (xite1 hc42))) ?_
      refine xg_t (xg_blq rfl) ?_
      refine xg_t (xg_iinc (u := 0) (z := 1) (l1 := [(0, (2, 27)), (1, (0, 2)), (2, (0, pc_))]) rfl rfl (by decide) rfl) ?_
      refine xg_t (xg_goto) ?_
      refine xg_t (xg_blq rfl) ?_
      refine xg_t (xg_iload (va := (0, 1)) rfl rfl) ?_
      refine xg_t (xg_gets) ?_
      refine xg_t (xg_iload (va := (0, 2)) rfl rfl) ?_
      refine xg_t (xg_ald8L (n := 2) (u := 2) xnm0 rfl rfl) ?_
      refine xg_t (xg_icF (u := 1) (v := 2) rfl xnm0 xnm0 (by decide)) ?_
      refine xg_t (xg_iload (va := (0, 1)) rfl rfl) ?_
      refine xg_t (xg_const) ?_
      refine xg_t (xg_icF (u := 1) (v := 3) rfl xnm0 xnm0 (by decide)) ?_
      refine xg_t (xg_aload (va := (2, 27)) rfl rfl) ?_
      refine xg_t (xg_getf (va := (2, 39)) (hF26.get (by decide) h27_11) rfl) ?_
      refine xg_t (xg_iload (va := (0, 1)) rfl rfl) ?_
      refine xg_ialdB (n := 1) (B := 4294967295) (h39_13.fr hF26 (by decide)) (hb14) xnm0 (by first | decide | omega) (fun u43 hu44 he45 => ?_)
      have hv46 : rwv w 39 1 = u43 := (rwv_of h39_13 (by decide)).trans he45
      refine xg_t (xg_gets) ?_
      refine xg_t (xg_iload (va := (0, 2)) rfl rfl) ?_
      refine xg_t (xg_const) ?_
      refine xg_t (xg_imul (u := 2) (v := 3) (z := 6) xnm0 xnm0 (by decide)) ?_
      refine xg_t (xg_iload (va := (0, 1)) rfl rfl) ?_
      refine xg_t (xg_iadd (u := 6) (v := 1) (z := 7) xnm0 xnm0 (by decide)) ?_
      refine xg_t (xg_ald8L (n := 7) (u := 1) xnm0 rfl rfl) ?_
      refine xg_t (xg_gets) ?_
      refine xg_t (xg_iload (va := (0, 2)) rfl rfl) ?_
      refine xg_t (xg_const) ?_
      refine xg_t (xg_imul (u := 2) (v := 3) (z := 6) xnm0 xnm0 (by decide)) ?_
      refine xg_t (xg_iload (va := (0, 1)) rfl rfl) ?_
      refine xg_t (xg_iadd (u := 6) (v := 1) (z := 7) xnm0 xnm0 (by decide)) ?_
      refine xg_t (xg_ald8L (n := 7) (u := 9999) xnm0 rfl rfl) ?_
      refine xg_t (xg_cNr mX11_isIn (vs := [(0, u43), (0, 1), (0, 9999)]) (rest := []) (rs := [(0, if 1 ≤ u43 ∧ u43 ≤ 9999 then 1 else 0)]) (cn1 := 0) (sl1 := 0) rfl (isIn_ok (by omega) (by omega) (by omega)) rfl rfl rfl rfl rfl rfl rfl rfl) ?_
      by_cases hc47 : 1 ≤ u43 ∧ u43 ≤ 9999
      · refine xg_t (xg_ifT (u := (if 1 ≤ u43 ∧ u43 ≤ 9999 then 1 else 0)) rfl xnm0 (xj_neT (xite1 hc47))) ?_
        refine xg_t (xg_blq rfl) ?_
        refine xg_t (xg_iinc (u := 1) (z := 2) (l1 := [(0, (2, 27)), (1, (0, 2)), (2, (0, pc_))]) rfl rfl (by decide) rfl) ?_
        refine xg_t (xg_goto) ?_
        refine xg_t (xg_blq rfl) ?_
        refine xg_t (xg_iload (va := (0, 2)) rfl rfl) ?_
        refine xg_t (xg_gets) ?_
        refine xg_t (xg_iload (va := (0, 2)) rfl rfl) ?_
        refine xg_t (xg_ald8L (n := 2) (u := 2) xnm0 rfl rfl) ?_
        refine xg_t (xg_icT (u := 2) (v := 2) rfl xnm0 xnm0 (by decide)) ?_
        refine xg_t (xg_blq rfl) ?_
        refine xg_t (xg_const) ?_
        exact xg_e ⟨1, w23, ⟨rfl, rfl⟩, Or.inl ⟨rfl, hk29, by omega, by omega, hF26⟩, hI25, (hF26.up (by decide))⟩
      · refine xg_t (xg_ifF (u := (if 1 ≤ u43 ∧ u43 ≤ 9999 then 1 else 0)) rfl xnm0 (xj_neF (xite0 hc47))) ?_
        refine xg_t (xg_aload (va := (2, 27)) rfl rfl) ?_
        refine xg_t (xg_const) ?_
        refine xg_putI (fl1 := [(2, 1), (2, 42), (2, 28), (2, 39), (2, 40), (2, 41), (0, f27_1), (0, f27_3), (0, f27_5), (0, 2), (0, f27_9)]) (hF26.get (by decide) h27_11) rfl rfl rfl (fun w48 hk49 hb50 => ?_)
        refine xg_t (xg_aload (va := (2, 27)) rfl rfl) ?_
        refine xg_t (xg_aload (va := (2, 27)) rfl rfl) ?_
        refine xg_t (xg_getf (va := (2, 40)) hk49 rfl) ?_
        refine xg_t (xg_iload (va := (0, 1)) rfl rfl) ?_
        refine xg_ialdB (n := 1) (B := 4294967295) ((h40_16.fr hF26 (by decide)).but hb50 (by decide)) (hb17) xnm0 (by first | decide | omega) (fun u51 hu52 he53 => ?_)
        have hv54 : rwv w 40 1 = u51 := (rwv_of h40_16 (by decide)).trans he53
        refine xg_putI (fl1 := [(2, 1), (2, 42), (2, 28), (2, 39), (2, 40), (2, 41), (0, f27_1), (0, f27_3), (0, f27_5), (0, 2), (0, u51)]) hk49 rfl rfl rfl (fun w55 hk56 hb57 => ?_)
        refine xg_t (xg_const) ?_
        have hq58 : fld w55 27 9 = 2 := fld_of hk56
        have hq59 : fld w55 27 10 = u51 := fld_of hk56
        exact xg_e ⟨0, w55, ⟨rfl, rfl⟩, Or.inr (Or.inr (Or.inr (⟨rfl, hk29, by omega, by omega, by omega, by omega⟩))), xInv.up (S := [27]) hI25 ((xFr.of (S := [27]) hb50 (by decide)).tr (xFr.of (S := [27]) hb57 (by decide))) (List.forall_mem_cons.mpr ⟨xqu27 (show cp27 (wget w55 27) from xmC27 f27_1 f27_3 f27_5 2 u51 hk56 hb2 hb4 hb6 (by decide) (by omega)), fun _ h => absurd h List.not_mem_nil⟩), ((hF26.up (by decide)).tr ((xFr.of (S := [27]) hb50 (by decide)).tr (xFr.of (S := [27]) hb57 (by decide))))⟩
    · refine xg_t (xg_ifF (u := (if 1 ≤ u38 ∧ u38 ≤ 9999 then 1 else 0)) rfl xnm0 (xj_neF (xite0 hc42))) ?_
      refine xg_t (xg_aload (va := (2, 27)) rfl rfl) ?_
      refine xg_t (xg_const) ?_
      refine xg_putI (fl1 := [(2, 1), (2, 42), (2, 28), (2, 39), (2, 40), (2, 41), (0, f27_1), (0, f27_3), (0, f27_5), (0, 2), (0, f27_9)]) (hF26.get (by decide) h27_11) rfl rfl rfl (fun w60 hk61 hb62 => ?_)
      refine xg_t (xg_aload (va := (2, 27)) rfl rfl) ?_
      refine xg_t (xg_aload (va := (2, 27)) rfl rfl) ?_
      refine xg_t (xg_getf (va := (2, 40)) hk61 rfl) ?_
      refine xg_t (xg_iload (va := (0, 0)) rfl rfl) ?_
      refine xg_ialdB (n := 0) (B := 4294967295) ((h40_16.fr hF26 (by decide)).but hb62 (by decide)) (hb17) xnm0 (by first | decide | omega) (fun u63 hu64 he65 => ?_)
      have hv66 : rwv w 40 0 = u63 := (rwv_of h40_16 (by decide)).trans he65
      refine xg_putI (fl1 := [(2, 1), (2, 42), (2, 28), (2, 39), (2, 40), (2, 41), (0, f27_1), (0, f27_3), (0, f27_5), (0, 2), (0, u63)]) hk61 rfl rfl rfl (fun w67 hk68 hb69 => ?_)
      refine xg_t (xg_const) ?_
      have hq70 : fld w67 27 9 = 2 := fld_of hk68
      have hq71 : fld w67 27 10 = u63 := fld_of hk68
      exact xg_e ⟨0, w67, ⟨rfl, rfl⟩, Or.inr (Or.inr (Or.inl ⟨rfl, hk29, by omega, by omega, by omega⟩)), xInv.up (S := [27]) hI25 ((xFr.of (S := [27]) hb62 (by decide)).tr (xFr.of (S := [27]) hb69 (by decide))) (List.forall_mem_cons.mpr ⟨xqu27 (show cp27 (wget w67 27) from xmC27 f27_1 f27_3 f27_5 2 u63 hk68 hb2 hb4 hb6 (by decide) (by omega)), fun _ h => absurd h List.not_mem_nil⟩), ((hF26.up (by decide)).tr ((xFr.of (S := [27]) hb62 (by decide)).tr (xFr.of (S := [27]) hb69 (by decide))))⟩
theorem ftFineX3 {pc_ : Nat} (hI : xInv w) (h1 : pc_ ≤ 4294967295) : xPi (d + 3) mX2_isFine [(2, 27), (0, 3), (0, pc_)] w bd fc rr (fun n w' => ((n = 1 ∧ ¬ (4 ≤ fld w 35 3) ∧ (1 ≤ rwv w 39 0 ∧ rwv w 39 0 ≤ 10) ∧ (1 ≤ rwv w 39 1 ∧ rwv w 39 1 ≤ 10) ∧ (1 ≤ rwv w 39 2 ∧ rwv w 39 2 ≤ 999) ∧ xFr [] w w') ∨ (n = 0 ∧ (4 ≤ fld w 35 3) ∧ fld w' 27 9 = 3 ∧ fld w' 27 10 = pc_) ∨ (n = 0 ∧ ¬ (4 ≤ fld w 35 3) ∧ ¬ (1 ≤ rwv w 39 0 ∧ rwv w 39 0 ≤ 10) ∧ fld w' 27 9 = 2 ∧ fld w' 27 10 = rwv w 40 0) ∨ (n = 0 ∧ ¬ (4 ≤ fld w 35 3) ∧ (1 ≤ rwv w 39 0 ∧ rwv w 39 0 ≤ 10) ∧ ¬ (1 ≤ rwv w 39 1 ∧ rwv w 39 1 ≤ 10) ∧ fld w' 27 9 = 2 ∧ fld w' 27 10 = rwv w 40 1) ∨ (n = 0 ∧ ¬ (4 ≤ fld w 35 3) ∧ (1 ≤ rwv w 39 0 ∧ rwv w 39 0 ≤ 10) ∧ (1 ≤ rwv w 39 1 ∧ rwv w 39 1 ≤ 10) ∧ ¬ (1 ≤ rwv w 39 2 ∧ rwv w 39 2 ≤ 999) ∧ fld w' 27 9 = 2 ∧ fld w' 27 10 = rwv w 40 2)) ∧ xInv w' ∧ xFr [27] w w') := by
  refine xPi.of ?_
  show xTo (d + 3) mX2_isFine (0, [], [(0, (2, 27)), (1, (0, 3)), (2, (0, pc_))], [], (w, bd, fc, 0, 0, rr)) (fun φ => ∃ n w', xEnd 4 [(0, n)] (w', bd, fc, 0, 0, rr) φ ∧ ((n = 1 ∧ ¬ (4 ≤ fld w 35 3) ∧ (1 ≤ rwv w 39 0 ∧ rwv w 39 0 ≤ 10) ∧ (1 ≤ rwv w 39 1 ∧ rwv w 39 1 ≤ 10) ∧ (1 ≤ rwv w 39 2 ∧ rwv w 39 2 ≤ 999) ∧ xFr [] w w') ∨ (n = 0 ∧ (4 ≤ fld w 35 3) ∧ fld w' 27 9 = 3 ∧ fld w' 27 10 = pc_) ∨ (n = 0 ∧ ¬ (4 ≤ fld w 35 3) ∧ ¬ (1 ≤ rwv w 39 0 ∧ rwv w 39 0 ≤ 10) ∧ fld w' 27 9 = 2 ∧ fld w' 27 10 = rwv w 40 0) ∨ (n = 0 ∧ ¬ (4 ≤ fld w 35 3) ∧ (1 ≤ rwv w 39 0 ∧ rwv w 39 0 ≤ 10) ∧ ¬ (1 ≤ rwv w 39 1 ∧ rwv w 39 1 ≤ 10) ∧ fld w' 27 9 = 2 ∧ fld w' 27 10 = rwv w 40 1) ∨ (n = 0 ∧ ¬ (4 ≤ fld w 35 3) ∧ (1 ≤ rwv w 39 0 ∧ rwv w 39 0 ≤ 10) ∧ (1 ≤ rwv w 39 1 ∧ rwv w 39 1 ≤ 10) ∧ ¬ (1 ≤ rwv w 39 2 ∧ rwv w 39 2 ≤ 999) ∧ fld w' 27 9 = 2 ∧ fld w' 27 10 = rwv w 40 2)) ∧ xInv w' ∧ xFr [27] w w')
  refine xoC27 (xqc27 hI : cp27 (wget w 27)) (fun f27_1 f27_3 f27_5 f27_7 f27_9 h27_11 hb2 hb4 hb6 hb8 hb10 => ?_)
  refine xoI (xqc39 hI : cpI 3 18 4294967295 (wget w 39)) (fun g39_12 h39_13 hb14 => ?_)
  refine xoI (xqc40 hI : cpI 3 19 4294967295 (wget w 40)) (fun g40_15 h40_16 hb17 => ?_)
  have hq18 : fld w 27 6 = f27_1 := fld_of h27_11
  have hq19 : fld w 27 7 = f27_3 := fld_of h27_11
  have hq20 : fld w 27 8 = f27_5 := fld_of h27_11
  have hq21 : fld w 27 9 = f27_7 := fld_of h27_11
  have hq22 : fld w 27 10 = f27_9 := fld_of h27_11
  refine xg_t (xg_blq rfl) ?_
  refine xg_t (xg_aload (va := (2, 27)) rfl rfl) ?_
  refine xg_t (xg_iload (va := (0, 3)) rfl rfl) ?_
  refine xg_cVi mX2_isTooMany (vs := [(0, 3)]) (rest := []) (cn1 := 0) (sl1 := 0) rfl (ftManyX3 (hI)) rfl h27_11 rfl rfl rfl rfl rfl rfl (fun n27 w23 hq24 => ?_)
  obtain ⟨hn28, hI25, hF26⟩ := hq24
  rcases hn28 with ⟨rfl, hk29⟩ | ⟨rfl, hk29⟩
  · refine xg_t (xg_ifF (u := 1) rfl xnm0 (by decide)) ?_
    refine xg_t (xg_aload (va := (2, 27)) rfl rfl) ?_
    refine xg_t (xg_const) ?_
    refine xg_putI (fl1 := [(2, 1), (2, 42), (2, 28), (2, 39), (2, 40), (2, 41), (0, f27_1), (0, f27_3), (0, f27_5), (0, 3), (0, f27_9)]) (hF26.get (by decide) h27_11) rfl rfl rfl (fun w30 hk31 hb32 => ?_)
    refine xg_t (xg_aload (va := (2, 27)) rfl rfl) ?_
    refine xg_t (xg_iload (va := (0, pc_)) rfl rfl) ?_
    refine xg_putI (fl1 := [(2, 1), (2, 42), (2, 28), (2, 39), (2, 40), (2, 41), (0, f27_1), (0, f27_3), (0, f27_5), (0, 3), (0, pc_)]) hk31 rfl rfl rfl (fun w33 hk34 hb35 => ?_)
    refine xg_t (xg_const) ?_
    have hq36 : fld w33 27 9 = 3 := fld_of hk34
    have hq37 : fld w33 27 10 = pc_ := fld_of hk34
    exact xg_e ⟨0, w33, ⟨rfl, rfl⟩, Or.inr (Or.inl ⟨rfl, hk29, by omega, by omega⟩), xInv.up (S := [27]) hI25 ((xFr.of (S := [27]) hb32 (by decide)).tr (xFr.of (S := [27]) hb35 (by decide))) (List.forall_mem_cons.mpr ⟨xqu27 (show cp27 (wget w33 27) from xmC27 f27_1 f27_3 f27_5 3 pc_ hk34 hb2 hb4 hb6 (by decide) (by omega)), fun _ h => absurd h List.not_mem_nil⟩), ((hF26.up (by decide)).tr ((xFr.of (S := [27]) hb32 (by decide)).tr (xFr.of (S := [27]) hb35 (by decide))))⟩
  · refine xg_t (xg_ifT (u := 0) rfl xnm0 (by decide)) ?_
    refine xg_t (xg_blq rfl) ?_
    refine xg_t (xg_iload (va := (0, 3)) rfl rfl) ?_
    refine xg_t (xg_ifF (u := 3) rfl xnm0 (by decide)) ?_
    refine xg_t (xg_iload (va := (0, 3)) rfl rfl) ?_
    refine xg_t (xg_bip) ?_
    refine xg_t (xg_icT (u := 3) (v := 7) rfl xnm0 xnm0 (by decide)) ?_
    refine xg_t (xg_blq rfl) ?_
    refine xg_t (xg_const) ?_
    refine xg_t (xg_istore (l1 := [(0, (2, 27)), (1, (0, 3)), (2, (0, pc_))]) rfl rfl rfl) ?_
    refine xg_t (xg_blq rfl) ?_
    refine xg_t (xg_iload (va := (0, 0)) rfl rfl) ?_
    refine xg_t (xg_gets) ?_
    refine xg_t (xg_iload (va := (0, 3)) rfl rfl) ?_
    refine xg_t (xg_ald8L (n := 3) (u := 3) xnm0 rfl rfl) ?_
    refine xg_t (xg_icF (u := 0) (v := 3) rfl xnm0 xnm0 (by decide)) ?_
    refine xg_t (xg_iload (va := (0, 0)) rfl rfl) ?_
    refine xg_t (xg_const) ?_
    refine xg_t (xg_icF (u := 0) (v := 3) rfl xnm0 xnm0 (by decide)) ?_
    refine xg_t (xg_aload (va := (2, 27)) rfl rfl) ?_
    refine xg_t (xg_getf (va := (2, 39)) (hF26.get (by decide) h27_11) rfl) ?_
    refine xg_t (xg_iload (va := (0, 0)) rfl rfl) ?_
    refine xg_ialdB (n := 0) (B := 4294967295) (h39_13.fr hF26 (by decide)) (hb14) xnm0 (by first | decide | omega) (fun u38 hu39 he40 => ?_)
    have hv41 : rwv w 39 0 = u38 := (rwv_of h39_13 (by decide)).trans he40
    refine xg_t (xg_gets) ?_
    refine xg_t (xg_iload (va := (0, 3)) rfl rfl) ?_
    refine xg_t (xg_const) ?_
    refine xg_t (xg_imul (u := 3) (v := 3) (z := 9) xnm0 xnm0 (by decide)) ?_
    refine xg_t (xg_iload (va := (0, 0)) rfl rfl) ?_
    refine xg_t (xg_iadd (u := 9) (v := 0) (z := 9) xnm0 xnm0 (by decide)) ?_
    refine xg_t (xg_ald8L (n := 9) (u := 1) xnm0 rfl rfl) ?_
    refine xg_t (xg_gets) ?_
    refine xg_t (xg_iload (va := (0, 3)) rfl rfl) ?_
    refine xg_t (xg_const) ?_
    refine xg_t (xg_imul (u := 3) (v := 3) (z := 9) xnm0 xnm0 (by decide)) ?_
    refine xg_t (xg_iload (va := (0, 0)) rfl rfl) ?_
    refine xg_t (xg_iadd (u := 9) (v := 0) (z := 9) xnm0 xnm0 (by decide)) ?_
    refine xg_t (xg_ald8L (n := 9) (u := 10) xnm0 rfl rfl) ?_
    refine xg_t (xg_cNr mX11_isIn (vs := [(0, u38), (0, 1), (0, 10)]) (rest := []) (rs := [(0, if 1 ≤ u38 ∧ u38 ≤ 10 then 1 else 0)]) (cn1 := 0) (sl1 := 0) rfl (isIn_ok (by omega) (by omega) (by omega)) rfl rfl rfl rfl rfl rfl rfl rfl) ?_
    by_cases hc42 : 1 ≤ u38 ∧ u38 ≤ 10
    · refine xg_t (xg_ifT (u := (if 1 ≤ u38 ∧ u38 ≤ 10 then 1 else 0)) rfl xnm0 (xj_neT (xite1 hc42))) ?_
      refine xg_t (xg_blq rfl) ?_
      refine xg_t (xg_iinc (u := 0) (z := 1) (l1 := [(0, (2, 27)), (1, (0, 3)), (2, (0, pc_))]) rfl rfl (by decide) rfl) ?_
      refine xg_t (xg_goto) ?_
      refine xg_t (xg_blq rfl) ?_
      refine xg_t (xg_iload (va := (0, 1)) rfl rfl) ?_
      refine xg_t (xg_gets) ?_
      refine xg_t (xg_iload (va := (0, 3)) rfl rfl) ?_
      refine xg_t (xg_ald8L (n := 3) (u := 3) xnm0 rfl rfl) ?_
      refine xg_t (xg_icF (u := 1) (v := 3) rfl xnm0 xnm0 (by decide)) ?_
      refine xg_t (xg_iload (va := (0, 1)) rfl rfl) ?_
      refine xg_t (xg_const) ?_
      refine xg_t (xg_icF (u := 1) (v := 3) rfl xnm0 xnm0 (by decide)) ?_
      refine xg_t (xg_aload (va := (2, 27)) rfl rfl) ?_
      refine xg_t (xg_getf (va := (2, 39)) (hF26.get (by decide) h27_11) rfl) ?_
      refine xg_t (xg_iload (va := (0, 1)) rfl rfl) ?_
      refine xg_ialdB (n := 1) (B := 4294967295) (h39_13.fr hF26 (by decide)) (hb14) xnm0 (by first | decide | omega) (fun u43 hu44 he45 => ?_)
      have hv46 : rwv w 39 1 = u43 := (rwv_of h39_13 (by decide)).trans he45
      refine xg_t (xg_gets) ?_
      refine xg_t (xg_iload (va := (0, 3)) rfl rfl) ?_
      refine xg_t (xg_const) ?_
      refine xg_t (xg_imul (u := 3) (v := 3) (z := 9) xnm0 xnm0 (by decide)) ?_
      refine xg_t (xg_iload (va := (0, 1)) rfl rfl) ?_
      refine xg_t (xg_iadd (u := 9) (v := 1) (z := 10) xnm0 xnm0 (by decide)) ?_
      refine xg_t (xg_ald8L (n := 10) (u := 1) xnm0 rfl rfl) ?_
      refine xg_t (xg_gets) ?_
      refine xg_t (xg_iload (va := (0, 3)) rfl rfl) ?_
      refine xg_t (xg_const) ?_
      refine xg_t (xg_imul (u := 3) (v := 3) (z := 9) xnm0 xnm0 (by decide)) ?_
      refine xg_t (xg_iload (va := (0, 1)) rfl rfl) ?_
      refine xg_t (xg_iadd (u := 9) (v := 1) (z := 10) xnm0 xnm0 (by decide)) ?_
      refine xg_t (xg_ald8L (n := 10) (u := 10) xnm0 rfl rfl) ?_
      refine xg_t (xg_cNr mX11_isIn (vs := [(0, u43), (0, 1), (0, 10)]) (rest := []) (rs := [(0, if 1 ≤ u43 ∧ u43 ≤ 10 then 1 else 0)]) (cn1 := 0) (sl1 := 0) rfl (isIn_ok (by omega) (by omega) (by omega)) rfl rfl rfl rfl rfl rfl rfl rfl) ?_
      by_cases hc47 : 1 ≤ u43 ∧ u43 ≤ 10
      · refine xg_t (xg_ifT (u := (if 1 ≤ u43 ∧ u43 ≤ 10 then 1 else 0)) rfl xnm0 (xj_neT (xite1 hc47))) ?_
        refine xg_t (xg_blq rfl) ?_
        refine xg_t (xg_iinc (u := 1) (z := 2) (l1 := [(0, (2, 27)), (1, (0, 3)), (2, (0, pc_))]) rfl rfl (by decide) rfl) ?_
        refine xg_t (xg_goto) ?_
        refine xg_t (xg_blq rfl) ?_
        refine xg_t (xg_iload (va := (0, 2)) rfl rfl) ?_
        refine xg_t (xg_gets) ?_
        refine xg_t (xg_iload (va := (0, 3)) rfl rfl) ?_
        refine xg_t (xg_ald8L (n := 3) (u := 3) xnm0 rfl rfl) ?_
        refine xg_t (xg_icF (u := 2) (v := 3) rfl xnm0 xnm0 (by decide)) ?_
        refine xg_t (xg_iload (va := (0, 2)) rfl rfl) ?_
        refine xg_t (xg_const) ?_
        refine xg_t (xg_icF (u := 2) (v := 3) rfl xnm0 xnm0 (by decide)) ?_
        refine xg_t (xg_aload (va := (2, 27)) rfl rfl) ?_
        refine xg_t (xg_getf (va := (2, 39)) (hF26.get (by decide) h27_11) rfl) ?_
        refine xg_t (xg_iload (va := (0, 2)) rfl rfl) ?_
        refine xg_ialdB (n := 2) (B := 4294967295) (h39_13.fr hF26 (by decide)) (hb14) xnm0 (by first | decide | omega) (fun u48 hu49 he50 => ?_)
        have hv51 : rwv w 39 2 = u48 := (rwv_of h39_13 (by decide)).trans he50
        refine xg_t (xg_gets) ?_
        refine xg_t (xg_iload (va := (0, 3)) rfl rfl) ?_
        refine xg_t (xg_const) ?_
        refine xg_t (xg_imul (u := 3) (v := 3) (z := 9) xnm0 xnm0 (by decide)) ?_
        refine xg_t (xg_iload (va := (0, 2)) rfl rfl) ?_
        refine xg_t (xg_iadd (u := 9) (v := 2) (z := 11) xnm0 xnm0 (by decide)) ?_
        refine xg_t (xg_ald8L (n := 11) (u := 1) xnm0 rfl rfl) ?_
        refine xg_t (xg_gets) ?_
        refine xg_t (xg_iload (va := (0, 3)) rfl rfl) ?_
        refine xg_t (xg_const) ?_
        refine xg_t (xg_imul (u := 3) (v := 3) (z := 9) xnm0 xnm0 (by decide)) ?_
        refine xg_t (xg_iload (va := (0, 2)) rfl rfl) ?_
        refine xg_t (xg_iadd (u := 9) (v := 2) (z := 11) xnm0 xnm0 (by decide)) ?_
        refine xg_t (xg_ald8L (n := 11) (u := 999) xnm0 rfl rfl) ?_
        refine xg_t (xg_cNr mX11_isIn (vs := [(0, u48), (0, 1), (0, 999)]) (rest := []) (rs := [(0, if 1 ≤ u48 ∧ u48 ≤ 999 then 1 else 0)]) (cn1 := 0) (sl1 := 0) rfl (isIn_ok (by omega) (by omega) (by omega)) rfl rfl rfl rfl rfl rfl rfl rfl) ?_
        by_cases hc52 : 1 ≤ u48 ∧ u48 ≤ 999
        · refine xg_t (xg_ifT (u := (if 1 ≤ u48 ∧ u48 ≤ 999 then 1 else 0)) rfl xnm0 (xj_neT (xite1 hc52))) ?_
          refine xg_t (xg_blq rfl) ?_
          refine xg_t (xg_iinc (u := 2) (z := 3) (l1 := [(0, (2, 27)), (1, (0, 3)), (2, (0, pc_))]) rfl rfl (by decide) rfl) ?_
          refine xg_t (xg_goto) ?_
          refine xg_t (xg_blq rfl) ?_
          refine xg_t (xg_iload (va := (0, 3)) rfl rfl) ?_
          refine xg_t (xg_gets) ?_
          refine xg_t (xg_iload (va := (0, 3)) rfl rfl) ?_
          refine xg_t (xg_ald8L (n := 3) (u := 3) xnm0 rfl rfl) ?_
          refine xg_t (xg_icT (u := 3) (v := 3) rfl xnm0 xnm0 (by decide)) ?_
          refine xg_t (xg_blq rfl) ?_
          refine xg_t (xg_const) ?_
          exact xg_e ⟨1, w23, ⟨rfl, rfl⟩, Or.inl ⟨rfl, hk29, by omega, by omega, by omega, hF26⟩, hI25, (hF26.up (by decide))⟩
        · refine xg_t (xg_ifF (u := (if 1 ≤ u48 ∧ u48 ≤ 999 then 1 else 0)) rfl xnm0 (xj_neF (xite0 hc52))) ?_
          refine xg_t (xg_aload (va := (2, 27)) rfl rfl) ?_
          refine xg_t (xg_const) ?_
          refine xg_putI (fl1 := [(2, 1), (2, 42), (2, 28), (2, 39), (2, 40), (2, 41), (0, f27_1), (0, f27_3), (0, f27_5), (0, 2), (0, f27_9)]) (hF26.get (by decide) h27_11) rfl rfl rfl (fun w53 hk54 hb55 => ?_)
          refine xg_t (xg_aload (va := (2, 27)) rfl rfl) ?_
          refine xg_t (xg_aload (va := (2, 27)) rfl rfl) ?_
          refine xg_t (xg_getf (va := (2, 40)) hk54 rfl) ?_
          refine xg_t (xg_iload (va := (0, 2)) rfl rfl) ?_
          refine xg_ialdB (n := 2) (B := 4294967295) ((h40_16.fr hF26 (by decide)).but hb55 (by decide)) (hb17) xnm0 (by first | decide | omega) (fun u56 hu57 he58 => ?_)
          have hv59 : rwv w 40 2 = u56 := (rwv_of h40_16 (by decide)).trans he58
          refine xg_putI (fl1 := [(2, 1), (2, 42), (2, 28), (2, 39), (2, 40), (2, 41), (0, f27_1), (0, f27_3), (0, f27_5), (0, 2), (0, u56)]) hk54 rfl rfl rfl (fun w60 hk61 hb62 => ?_)
          refine xg_t (xg_const) ?_
          have hq63 : fld w60 27 9 = 2 := fld_of hk61
          have hq64 : fld w60 27 10 = u56 := fld_of hk61
          exact xg_e ⟨0, w60, ⟨rfl, rfl⟩, Or.inr (Or.inr (Or.inr (Or.inr (⟨rfl, hk29, by omega, by omega, by omega, by omega, by omega⟩)))), xInv.up (S := [27]) hI25 ((xFr.of (S := [27]) hb55 (by decide)).tr (xFr.of (S := [27]) hb62 (by decide))) (List.forall_mem_cons.mpr ⟨xqu27 (show cp27 (wget w60 27) from xmC27 f27_1 f27_3 f27_5 2 u56 hk61 hb2 hb4 hb6 (by decide) (by omega)), fun _ h => absurd h List.not_mem_nil⟩), ((hF26.up (by decide)).tr ((xFr.of (S := [27]) hb55 (by decide)).tr (xFr.of (S := [27]) hb62 (by decide))))⟩
      · refine xg_t (xg_ifF (u := (if 1 ≤ u43 ∧ u43 ≤ 10 then 1 else 0)) rfl xnm0 (xj_neF (xite0 hc47))) ?_
        refine xg_t (xg_aload (va := (2, 27)) rfl rfl) ?_
        refine xg_t (xg_const) ?_
        refine xg_putI (fl1 := [(2, 1), (2, 42), (2, 28), (2, 39), (2, 40), (2, 41), (0, f27_1), (0, f27_3), (0, f27_5), (0, 2), (0, f27_9)]) (hF26.get (by decide) h27_11) rfl rfl rfl (fun w65 hk66 hb67 => ?_)
        refine xg_t (xg_aload (va := (2, 27)) rfl rfl) ?_
        refine xg_t (xg_aload (va := (2, 27)) rfl rfl) ?_
        refine xg_t (xg_getf (va := (2, 40)) hk66 rfl) ?_
        refine xg_t (xg_iload (va := (0, 1)) rfl rfl) ?_
        refine xg_ialdB (n := 1) (B := 4294967295) ((h40_16.fr hF26 (by decide)).but hb67 (by decide)) (hb17) xnm0 (by first | decide | omega) (fun u68 hu69 he70 => ?_)
        have hv71 : rwv w 40 1 = u68 := (rwv_of h40_16 (by decide)).trans he70
        refine xg_putI (fl1 := [(2, 1), (2, 42), (2, 28), (2, 39), (2, 40), (2, 41), (0, f27_1), (0, f27_3), (0, f27_5), (0, 2), (0, u68)]) hk66 rfl rfl rfl (fun w72 hk73 hb74 => ?_)
        refine xg_t (xg_const) ?_
        have hq75 : fld w72 27 9 = 2 := fld_of hk73
        have hq76 : fld w72 27 10 = u68 := fld_of hk73
        exact xg_e ⟨0, w72, ⟨rfl, rfl⟩, Or.inr (Or.inr (Or.inr (Or.inl ⟨rfl, hk29, by omega, by omega, by omega, by omega⟩))), xInv.up (S := [27]) hI25 ((xFr.of (S := [27]) hb67 (by decide)).tr (xFr.of (S := [27]) hb74 (by decide))) (List.forall_mem_cons.mpr ⟨xqu27 (show cp27 (wget w72 27) from xmC27 f27_1 f27_3 f27_5 2 u68 hk73 hb2 hb4 hb6 (by decide) (by omega)), fun _ h => absurd h List.not_mem_nil⟩), ((hF26.up (by decide)).tr ((xFr.of (S := [27]) hb67 (by decide)).tr (xFr.of (S := [27]) hb74 (by decide))))⟩
    · refine xg_t (xg_ifF (u := (if 1 ≤ u38 ∧ u38 ≤ 10 then 1 else 0)) rfl xnm0 (xj_neF (xite0 hc42))) ?_
      refine xg_t (xg_aload (va := (2, 27)) rfl rfl) ?_
      refine xg_t (xg_const) ?_
      refine xg_putI (fl1 := [(2, 1), (2, 42), (2, 28), (2, 39), (2, 40), (2, 41), (0, f27_1), (0, f27_3), (0, f27_5), (0, 2), (0, f27_9)]) (hF26.get (by decide) h27_11) rfl rfl rfl (fun w77 hk78 hb79 => ?_)
      refine xg_t (xg_aload (va := (2, 27)) rfl rfl) ?_
      refine xg_t (xg_aload (va := (2, 27)) rfl rfl) ?_
      refine xg_t (xg_getf (va := (2, 40)) hk78 rfl) ?_
      refine xg_t (xg_iload (va := (0, 0)) rfl rfl) ?_
      refine xg_ialdB (n := 0) (B := 4294967295) ((h40_16.fr hF26 (by decide)).but hb79 (by decide)) (hb17) xnm0 (by first | decide | omega) (fun u80 hu81 he82 => ?_)
      have hv83 : rwv w 40 0 = u80 := (rwv_of h40_16 (by decide)).trans he82
      refine xg_putI (fl1 := [(2, 1), (2, 42), (2, 28), (2, 39), (2, 40), (2, 41), (0, f27_1), (0, f27_3), (0, f27_5), (0, 2), (0, u80)]) hk78 rfl rfl rfl (fun w84 hk85 hb86 => ?_)
      refine xg_t (xg_const) ?_
      have hq87 : fld w84 27 9 = 2 := fld_of hk85
      have hq88 : fld w84 27 10 = u80 := fld_of hk85
      exact xg_e ⟨0, w84, ⟨rfl, rfl⟩, Or.inr (Or.inr (Or.inl ⟨rfl, hk29, by omega, by omega, by omega⟩)), xInv.up (S := [27]) hI25 ((xFr.of (S := [27]) hb79 (by decide)).tr (xFr.of (S := [27]) hb86 (by decide))) (List.forall_mem_cons.mpr ⟨xqu27 (show cp27 (wget w84 27) from xmC27 f27_1 f27_3 f27_5 2 u80 hk85 hb2 hb4 hb6 (by decide) (by omega)), fun _ h => absurd h List.not_mem_nil⟩), ((hF26.up (by decide)).tr ((xFr.of (S := [27]) hb79 (by decide)).tr (xFr.of (S := [27]) hb86 (by decide))))⟩
theorem ftFineX4 {pc_ : Nat} (hI : xInv w) (h1 : pc_ ≤ 4294967295) : xPi (d + 3) mX2_isFine [(2, 27), (0, 4), (0, pc_)] w bd fc rr (fun n w' => ((n = 1 ∧ ¬ (20 ≤ fld w 37 3) ∧ (0 ≤ rwv w 39 0 ∧ rwv w 39 0 ≤ 9) ∧ (0 ≤ rwv w 39 1 ∧ rwv w 39 1 ≤ 9) ∧ xFr [] w w') ∨ (n = 0 ∧ (20 ≤ fld w 37 3) ∧ fld w' 27 9 = 3 ∧ fld w' 27 10 = pc_) ∨ (n = 0 ∧ ¬ (20 ≤ fld w 37 3) ∧ ¬ (0 ≤ rwv w 39 0 ∧ rwv w 39 0 ≤ 9) ∧ fld w' 27 9 = 2 ∧ fld w' 27 10 = rwv w 40 0) ∨ (n = 0 ∧ ¬ (20 ≤ fld w 37 3) ∧ (0 ≤ rwv w 39 0 ∧ rwv w 39 0 ≤ 9) ∧ ¬ (0 ≤ rwv w 39 1 ∧ rwv w 39 1 ≤ 9) ∧ fld w' 27 9 = 2 ∧ fld w' 27 10 = rwv w 40 1)) ∧ xInv w' ∧ xFr [27] w w') := by
  refine xPi.of ?_
  show xTo (d + 3) mX2_isFine (0, [], [(0, (2, 27)), (1, (0, 4)), (2, (0, pc_))], [], (w, bd, fc, 0, 0, rr)) (fun φ => ∃ n w', xEnd 4 [(0, n)] (w', bd, fc, 0, 0, rr) φ ∧ ((n = 1 ∧ ¬ (20 ≤ fld w 37 3) ∧ (0 ≤ rwv w 39 0 ∧ rwv w 39 0 ≤ 9) ∧ (0 ≤ rwv w 39 1 ∧ rwv w 39 1 ≤ 9) ∧ xFr [] w w') ∨ (n = 0 ∧ (20 ≤ fld w 37 3) ∧ fld w' 27 9 = 3 ∧ fld w' 27 10 = pc_) ∨ (n = 0 ∧ ¬ (20 ≤ fld w 37 3) ∧ ¬ (0 ≤ rwv w 39 0 ∧ rwv w 39 0 ≤ 9) ∧ fld w' 27 9 = 2 ∧ fld w' 27 10 = rwv w 40 0) ∨ (n = 0 ∧ ¬ (20 ≤ fld w 37 3) ∧ (0 ≤ rwv w 39 0 ∧ rwv w 39 0 ≤ 9) ∧ ¬ (0 ≤ rwv w 39 1 ∧ rwv w 39 1 ≤ 9) ∧ fld w' 27 9 = 2 ∧ fld w' 27 10 = rwv w 40 1)) ∧ xInv w' ∧ xFr [27] w w')
  refine xoC27 (xqc27 hI : cp27 (wget w 27)) (fun f27_1 f27_3 f27_5 f27_7 f27_9 h27_11 hb2 hb4 hb6 hb8 hb10 => ?_)
  refine xoI (xqc39 hI : cpI 3 18 4294967295 (wget w 39)) (fun g39_12 h39_13 hb14 => ?_)
  refine xoI (xqc40 hI : cpI 3 19 4294967295 (wget w 40)) (fun g40_15 h40_16 hb17 => ?_)
  have hq18 : fld w 27 6 = f27_1 := fld_of h27_11
  have hq19 : fld w 27 7 = f27_3 := fld_of h27_11
  have hq20 : fld w 27 8 = f27_5 := fld_of h27_11
  have hq21 : fld w 27 9 = f27_7 := fld_of h27_11
  have hq22 : fld w 27 10 = f27_9 := fld_of h27_11
  refine xg_t (xg_blq rfl) ?_
  refine xg_t (xg_aload (va := (2, 27)) rfl rfl) ?_
  refine xg_t (xg_iload (va := (0, 4)) rfl rfl) ?_
  refine xg_cVi mX2_isTooMany (vs := [(0, 4)]) (rest := []) (cn1 := 0) (sl1 := 0) rfl (ftManyX4 (hI)) rfl h27_11 rfl rfl rfl rfl rfl rfl (fun n27 w23 hq24 => ?_)
  obtain ⟨hn28, hI25, hF26⟩ := hq24
  rcases hn28 with ⟨rfl, hk29⟩ | ⟨rfl, hk29⟩
  · refine xg_t (xg_ifF (u := 1) rfl xnm0 (by decide)) ?_
    refine xg_t (xg_aload (va := (2, 27)) rfl rfl) ?_
    refine xg_t (xg_const) ?_
    refine xg_putI (fl1 := [(2, 1), (2, 42), (2, 28), (2, 39), (2, 40), (2, 41), (0, f27_1), (0, f27_3), (0, f27_5), (0, 3), (0, f27_9)]) (hF26.get (by decide) h27_11) rfl rfl rfl (fun w30 hk31 hb32 => ?_)
    refine xg_t (xg_aload (va := (2, 27)) rfl rfl) ?_
    refine xg_t (xg_iload (va := (0, pc_)) rfl rfl) ?_
    refine xg_putI (fl1 := [(2, 1), (2, 42), (2, 28), (2, 39), (2, 40), (2, 41), (0, f27_1), (0, f27_3), (0, f27_5), (0, 3), (0, pc_)]) hk31 rfl rfl rfl (fun w33 hk34 hb35 => ?_)
    refine xg_t (xg_const) ?_
    have hq36 : fld w33 27 9 = 3 := fld_of hk34
    have hq37 : fld w33 27 10 = pc_ := fld_of hk34
    exact xg_e ⟨0, w33, ⟨rfl, rfl⟩, Or.inr (Or.inl ⟨rfl, hk29, by omega, by omega⟩), xInv.up (S := [27]) hI25 ((xFr.of (S := [27]) hb32 (by decide)).tr (xFr.of (S := [27]) hb35 (by decide))) (List.forall_mem_cons.mpr ⟨xqu27 (show cp27 (wget w33 27) from xmC27 f27_1 f27_3 f27_5 3 pc_ hk34 hb2 hb4 hb6 (by decide) (by omega)), fun _ h => absurd h List.not_mem_nil⟩), ((hF26.up (by decide)).tr ((xFr.of (S := [27]) hb32 (by decide)).tr (xFr.of (S := [27]) hb35 (by decide))))⟩
  · refine xg_t (xg_ifT (u := 0) rfl xnm0 (by decide)) ?_
    refine xg_t (xg_blq rfl) ?_
    refine xg_t (xg_iload (va := (0, 4)) rfl rfl) ?_
    refine xg_t (xg_ifF (u := 4) rfl xnm0 (by decide)) ?_
    refine xg_t (xg_iload (va := (0, 4)) rfl rfl) ?_
    refine xg_t (xg_bip) ?_
    refine xg_t (xg_icT (u := 4) (v := 7) rfl xnm0 xnm0 (by decide)) ?_
    refine xg_t (xg_blq rfl) ?_
    refine xg_t (xg_const) ?_
    refine xg_t (xg_istore (l1 := [(0, (2, 27)), (1, (0, 4)), (2, (0, pc_))]) rfl rfl rfl) ?_
    refine xg_t (xg_blq rfl) ?_
    refine xg_t (xg_iload (va := (0, 0)) rfl rfl) ?_
    refine xg_t (xg_gets) ?_
    refine xg_t (xg_iload (va := (0, 4)) rfl rfl) ?_
    refine xg_t (xg_ald8L (n := 4) (u := 2) xnm0 rfl rfl) ?_
    refine xg_t (xg_icF (u := 0) (v := 2) rfl xnm0 xnm0 (by decide)) ?_
    refine xg_t (xg_iload (va := (0, 0)) rfl rfl) ?_
    refine xg_t (xg_const) ?_
    refine xg_t (xg_icF (u := 0) (v := 3) rfl xnm0 xnm0 (by decide)) ?_
    refine xg_t (xg_aload (va := (2, 27)) rfl rfl) ?_
    refine xg_t (xg_getf (va := (2, 39)) (hF26.get (by decide) h27_11) rfl) ?_
    refine xg_t (xg_iload (va := (0, 0)) rfl rfl) ?_
    refine xg_ialdB (n := 0) (B := 4294967295) (h39_13.fr hF26 (by decide)) (hb14) xnm0 (by first | decide | omega) (fun u38 hu39 he40 => ?_)
    have hv41 : rwv w 39 0 = u38 := (rwv_of h39_13 (by decide)).trans he40
    refine xg_t (xg_gets) ?_
    refine xg_t (xg_iload (va := (0, 4)) rfl rfl) ?_
    refine xg_t (xg_const) ?_
    refine xg_t (xg_imul (u := 4) (v := 3) (z := 12) xnm0 xnm0 (by decide)) ?_
    refine xg_t (xg_iload (va := (0, 0)) rfl rfl) ?_
    refine xg_t (xg_iadd (u := 12) (v := 0) (z := 12) xnm0 xnm0 (by decide)) ?_
    refine xg_t (xg_ald8L (n := 12) (u := 0) xnm0 rfl rfl) ?_
    refine xg_t (xg_gets) ?_
    refine xg_t (xg_iload (va := (0, 4)) rfl rfl) ?_
    refine xg_t (xg_const) ?_
    refine xg_t (xg_imul (u := 4) (v := 3) (z := 12) xnm0 xnm0 (by decide)) ?_
    refine xg_t (xg_iload (va := (0, 0)) rfl rfl) ?_
    refine xg_t (xg_iadd (u := 12) (v := 0) (z := 12) xnm0 xnm0 (by decide)) ?_
    refine xg_t (xg_ald8L (n := 12) (u := 9) xnm0 rfl rfl) ?_
    refine xg_t (xg_cNr mX11_isIn (vs := [(0, u38), (0, 0), (0, 9)]) (rest := []) (rs := [(0, if 0 ≤ u38 ∧ u38 ≤ 9 then 1 else 0)]) (cn1 := 0) (sl1 := 0) rfl (isIn_ok (by omega) (by omega) (by omega)) rfl rfl rfl rfl rfl rfl rfl rfl) ?_
    by_cases hc42 : 0 ≤ u38 ∧ u38 ≤ 9
    · refine xg_t (xg_ifT (u := (if 0 ≤ u38 ∧ u38 ≤ 9 then 1 else 0)) rfl xnm0 (xj_neT (xite1 hc42))) ?_
      refine xg_t (xg_blq rfl) ?_
      refine xg_t (xg_iinc (u := 0) (z := 1) (l1 := [(0, (2, 27)), (1, (0, 4)), (2, (0, pc_))]) rfl rfl (by decide) rfl) ?_
      refine xg_t (xg_goto) ?_
      refine xg_t (xg_blq rfl) ?_
      refine xg_t (xg_iload (va := (0, 1)) rfl rfl) ?_
      refine xg_t (xg_gets) ?_
      refine xg_t (xg_iload (va := (0, 4)) rfl rfl) ?_
      refine xg_t (xg_ald8L (n := 4) (u := 2) xnm0 rfl rfl) ?_
      refine xg_t (xg_icF (u := 1) (v := 2) rfl xnm0 xnm0 (by decide)) ?_
      refine xg_t (xg_iload (va := (0, 1)) rfl rfl) ?_
      refine xg_t (xg_const) ?_
      refine xg_t (xg_icF (u := 1) (v := 3) rfl xnm0 xnm0 (by decide)) ?_
      refine xg_t (xg_aload (va := (2, 27)) rfl rfl) ?_
      refine xg_t (xg_getf (va := (2, 39)) (hF26.get (by decide) h27_11) rfl) ?_
      refine xg_t (xg_iload (va := (0, 1)) rfl rfl) ?_
      refine xg_ialdB (n := 1) (B := 4294967295) (h39_13.fr hF26 (by decide)) (hb14) xnm0 (by first | decide | omega) (fun u43 hu44 he45 => ?_)
      have hv46 : rwv w 39 1 = u43 := (rwv_of h39_13 (by decide)).trans he45
      refine xg_t (xg_gets) ?_
      refine xg_t (xg_iload (va := (0, 4)) rfl rfl) ?_
      refine xg_t (xg_const) ?_
      refine xg_t (xg_imul (u := 4) (v := 3) (z := 12) xnm0 xnm0 (by decide)) ?_
      refine xg_t (xg_iload (va := (0, 1)) rfl rfl) ?_
      refine xg_t (xg_iadd (u := 12) (v := 1) (z := 13) xnm0 xnm0 (by decide)) ?_
      refine xg_t (xg_ald8L (n := 13) (u := 0) xnm0 rfl rfl) ?_
      refine xg_t (xg_gets) ?_
      refine xg_t (xg_iload (va := (0, 4)) rfl rfl) ?_
      refine xg_t (xg_const) ?_
      refine xg_t (xg_imul (u := 4) (v := 3) (z := 12) xnm0 xnm0 (by decide)) ?_
      refine xg_t (xg_iload (va := (0, 1)) rfl rfl) ?_
      refine xg_t (xg_iadd (u := 12) (v := 1) (z := 13) xnm0 xnm0 (by decide)) ?_
      refine xg_t (xg_ald8L (n := 13) (u := 9) xnm0 rfl rfl) ?_
      refine xg_t (xg_cNr mX11_isIn (vs := [(0, u43), (0, 0), (0, 9)]) (rest := []) (rs := [(0, if 0 ≤ u43 ∧ u43 ≤ 9 then 1 else 0)]) (cn1 := 0) (sl1 := 0) rfl (isIn_ok (by omega) (by omega) (by omega)) rfl rfl rfl rfl rfl rfl rfl rfl) ?_
      by_cases hc47 : 0 ≤ u43 ∧ u43 ≤ 9
      · refine xg_t (xg_ifT (u := (if 0 ≤ u43 ∧ u43 ≤ 9 then 1 else 0)) rfl xnm0 (xj_neT (xite1 hc47))) ?_
        refine xg_t (xg_blq rfl) ?_
        refine xg_t (xg_iinc (u := 1) (z := 2) (l1 := [(0, (2, 27)), (1, (0, 4)), (2, (0, pc_))]) rfl rfl (by decide) rfl) ?_
        refine xg_t (xg_goto) ?_
        refine xg_t (xg_blq rfl) ?_
        refine xg_t (xg_iload (va := (0, 2)) rfl rfl) ?_
        refine xg_t (xg_gets) ?_
        refine xg_t (xg_iload (va := (0, 4)) rfl rfl) ?_
        refine xg_t (xg_ald8L (n := 4) (u := 2) xnm0 rfl rfl) ?_
        refine xg_t (xg_icT (u := 2) (v := 2) rfl xnm0 xnm0 (by decide)) ?_
        refine xg_t (xg_blq rfl) ?_
        refine xg_t (xg_const) ?_
        exact xg_e ⟨1, w23, ⟨rfl, rfl⟩, Or.inl ⟨rfl, hk29, by omega, by omega, hF26⟩, hI25, (hF26.up (by decide))⟩
      · refine xg_t (xg_ifF (u := (if 0 ≤ u43 ∧ u43 ≤ 9 then 1 else 0)) rfl xnm0 (xj_neF (xite0 hc47))) ?_
        refine xg_t (xg_aload (va := (2, 27)) rfl rfl) ?_
        refine xg_t (xg_const) ?_
        refine xg_putI (fl1 := [(2, 1), (2, 42), (2, 28), (2, 39), (2, 40), (2, 41), (0, f27_1), (0, f27_3), (0, f27_5), (0, 2), (0, f27_9)]) (hF26.get (by decide) h27_11) rfl rfl rfl (fun w48 hk49 hb50 => ?_)
        refine xg_t (xg_aload (va := (2, 27)) rfl rfl) ?_
        refine xg_t (xg_aload (va := (2, 27)) rfl rfl) ?_
        refine xg_t (xg_getf (va := (2, 40)) hk49 rfl) ?_
        refine xg_t (xg_iload (va := (0, 1)) rfl rfl) ?_
        refine xg_ialdB (n := 1) (B := 4294967295) ((h40_16.fr hF26 (by decide)).but hb50 (by decide)) (hb17) xnm0 (by first | decide | omega) (fun u51 hu52 he53 => ?_)
        have hv54 : rwv w 40 1 = u51 := (rwv_of h40_16 (by decide)).trans he53
        refine xg_putI (fl1 := [(2, 1), (2, 42), (2, 28), (2, 39), (2, 40), (2, 41), (0, f27_1), (0, f27_3), (0, f27_5), (0, 2), (0, u51)]) hk49 rfl rfl rfl (fun w55 hk56 hb57 => ?_)
        refine xg_t (xg_const) ?_
        have hq58 : fld w55 27 9 = 2 := fld_of hk56
        have hq59 : fld w55 27 10 = u51 := fld_of hk56
        exact xg_e ⟨0, w55, ⟨rfl, rfl⟩, Or.inr (Or.inr (Or.inr (⟨rfl, hk29, by omega, by omega, by omega, by omega⟩))), xInv.up (S := [27]) hI25 ((xFr.of (S := [27]) hb50 (by decide)).tr (xFr.of (S := [27]) hb57 (by decide))) (List.forall_mem_cons.mpr ⟨xqu27 (show cp27 (wget w55 27) from xmC27 f27_1 f27_3 f27_5 2 u51 hk56 hb2 hb4 hb6 (by decide) (by omega)), fun _ h => absurd h List.not_mem_nil⟩), ((hF26.up (by decide)).tr ((xFr.of (S := [27]) hb50 (by decide)).tr (xFr.of (S := [27]) hb57 (by decide))))⟩
    · refine xg_t (xg_ifF (u := (if 0 ≤ u38 ∧ u38 ≤ 9 then 1 else 0)) rfl xnm0 (xj_neF (xite0 hc42))) ?_
      refine xg_t (xg_aload (va := (2, 27)) rfl rfl) ?_
      refine xg_t (xg_const) ?_
      refine xg_putI (fl1 := [(2, 1), (2, 42), (2, 28), (2, 39), (2, 40), (2, 41), (0, f27_1), (0, f27_3), (0, f27_5), (0, 2), (0, f27_9)]) (hF26.get (by decide) h27_11) rfl rfl rfl (fun w60 hk61 hb62 => ?_)
      refine xg_t (xg_aload (va := (2, 27)) rfl rfl) ?_
      refine xg_t (xg_aload (va := (2, 27)) rfl rfl) ?_
      refine xg_t (xg_getf (va := (2, 40)) hk61 rfl) ?_
      refine xg_t (xg_iload (va := (0, 0)) rfl rfl) ?_
      refine xg_ialdB (n := 0) (B := 4294967295) ((h40_16.fr hF26 (by decide)).but hb62 (by decide)) (hb17) xnm0 (by first | decide | omega) (fun u63 hu64 he65 => ?_)
      have hv66 : rwv w 40 0 = u63 := (rwv_of h40_16 (by decide)).trans he65
      refine xg_putI (fl1 := [(2, 1), (2, 42), (2, 28), (2, 39), (2, 40), (2, 41), (0, f27_1), (0, f27_3), (0, f27_5), (0, 2), (0, u63)]) hk61 rfl rfl rfl (fun w67 hk68 hb69 => ?_)
      refine xg_t (xg_const) ?_
      have hq70 : fld w67 27 9 = 2 := fld_of hk68
      have hq71 : fld w67 27 10 = u63 := fld_of hk68
      exact xg_e ⟨0, w67, ⟨rfl, rfl⟩, Or.inr (Or.inr (Or.inl ⟨rfl, hk29, by omega, by omega, by omega⟩)), xInv.up (S := [27]) hI25 ((xFr.of (S := [27]) hb62 (by decide)).tr (xFr.of (S := [27]) hb69 (by decide))) (List.forall_mem_cons.mpr ⟨xqu27 (show cp27 (wget w67 27) from xmC27 f27_1 f27_3 f27_5 2 u63 hk68 hb2 hb4 hb6 (by decide) (by omega)), fun _ h => absurd h List.not_mem_nil⟩), ((hF26.up (by decide)).tr ((xFr.of (S := [27]) hb62 (by decide)).tr (xFr.of (S := [27]) hb69 (by decide))))⟩
theorem ftFineX5 {pc_ : Nat} (hI : xInv w) (h1 : pc_ ≤ 4294967295) : xPi (d + 3) mX2_isFine [(2, 27), (0, 5), (0, pc_)] w bd fc rr (fun n w' => ((n = 1 ∧ ¬ (fld w 27 7 ≠ 0) ∧ (1 ≤ rwv w 39 0 ∧ rwv w 39 0 ≤ 10) ∧ (1 ≤ rwv w 39 1 ∧ rwv w 39 1 ≤ 10) ∧ xFr [] w w') ∨ (n = 0 ∧ (fld w 27 7 ≠ 0) ∧ fld w' 27 9 = 3 ∧ fld w' 27 10 = pc_) ∨ (n = 0 ∧ ¬ (fld w 27 7 ≠ 0) ∧ ¬ (1 ≤ rwv w 39 0 ∧ rwv w 39 0 ≤ 10) ∧ fld w' 27 9 = 2 ∧ fld w' 27 10 = rwv w 40 0) ∨ (n = 0 ∧ ¬ (fld w 27 7 ≠ 0) ∧ (1 ≤ rwv w 39 0 ∧ rwv w 39 0 ≤ 10) ∧ ¬ (1 ≤ rwv w 39 1 ∧ rwv w 39 1 ≤ 10) ∧ fld w' 27 9 = 2 ∧ fld w' 27 10 = rwv w 40 1)) ∧ xInv w' ∧ xFr [27] w w') := by
  refine xPi.of ?_
  show xTo (d + 3) mX2_isFine (0, [], [(0, (2, 27)), (1, (0, 5)), (2, (0, pc_))], [], (w, bd, fc, 0, 0, rr)) (fun φ => ∃ n w', xEnd 4 [(0, n)] (w', bd, fc, 0, 0, rr) φ ∧ ((n = 1 ∧ ¬ (fld w 27 7 ≠ 0) ∧ (1 ≤ rwv w 39 0 ∧ rwv w 39 0 ≤ 10) ∧ (1 ≤ rwv w 39 1 ∧ rwv w 39 1 ≤ 10) ∧ xFr [] w w') ∨ (n = 0 ∧ (fld w 27 7 ≠ 0) ∧ fld w' 27 9 = 3 ∧ fld w' 27 10 = pc_) ∨ (n = 0 ∧ ¬ (fld w 27 7 ≠ 0) ∧ ¬ (1 ≤ rwv w 39 0 ∧ rwv w 39 0 ≤ 10) ∧ fld w' 27 9 = 2 ∧ fld w' 27 10 = rwv w 40 0) ∨ (n = 0 ∧ ¬ (fld w 27 7 ≠ 0) ∧ (1 ≤ rwv w 39 0 ∧ rwv w 39 0 ≤ 10) ∧ ¬ (1 ≤ rwv w 39 1 ∧ rwv w 39 1 ≤ 10) ∧ fld w' 27 9 = 2 ∧ fld w' 27 10 = rwv w 40 1)) ∧ xInv w' ∧ xFr [27] w w')
  refine xoC27 (xqc27 hI : cp27 (wget w 27)) (fun f27_1 f27_3 f27_5 f27_7 f27_9 h27_11 hb2 hb4 hb6 hb8 hb10 => ?_)
  refine xoI (xqc39 hI : cpI 3 18 4294967295 (wget w 39)) (fun g39_12 h39_13 hb14 => ?_)
  refine xoI (xqc40 hI : cpI 3 19 4294967295 (wget w 40)) (fun g40_15 h40_16 hb17 => ?_)
  have hq18 : fld w 27 6 = f27_1 := fld_of h27_11
  have hq19 : fld w 27 7 = f27_3 := fld_of h27_11
  have hq20 : fld w 27 8 = f27_5 := fld_of h27_11
  have hq21 : fld w 27 9 = f27_7 := fld_of h27_11
  have hq22 : fld w 27 10 = f27_9 := fld_of h27_11
  refine xg_t (xg_blq rfl) ?_
  refine xg_t (xg_aload (va := (2, 27)) rfl rfl) ?_
  refine xg_t (xg_iload (va := (0, 5)) rfl rfl) ?_
  refine xg_cVi mX2_isTooMany (vs := [(0, 5)]) (rest := []) (cn1 := 0) (sl1 := 0) rfl (ftManyX5 (hI)) rfl h27_11 rfl rfl rfl rfl rfl rfl (fun n27 w23 hq24 => ?_)
  obtain ⟨hn28, hI25, hF26⟩ := hq24
  rcases hn28 with ⟨rfl, hk29⟩ | ⟨rfl, hk29⟩
  · refine xg_t (xg_ifF (u := 1) rfl xnm0 (by decide)) ?_
    refine xg_t (xg_aload (va := (2, 27)) rfl rfl) ?_
    refine xg_t (xg_const) ?_
    refine xg_putI (fl1 := [(2, 1), (2, 42), (2, 28), (2, 39), (2, 40), (2, 41), (0, f27_1), (0, f27_3), (0, f27_5), (0, 3), (0, f27_9)]) (hF26.get (by decide) h27_11) rfl rfl rfl (fun w30 hk31 hb32 => ?_)
    refine xg_t (xg_aload (va := (2, 27)) rfl rfl) ?_
    refine xg_t (xg_iload (va := (0, pc_)) rfl rfl) ?_
    refine xg_putI (fl1 := [(2, 1), (2, 42), (2, 28), (2, 39), (2, 40), (2, 41), (0, f27_1), (0, f27_3), (0, f27_5), (0, 3), (0, pc_)]) hk31 rfl rfl rfl (fun w33 hk34 hb35 => ?_)
    refine xg_t (xg_const) ?_
    have hq36 : fld w33 27 9 = 3 := fld_of hk34
    have hq37 : fld w33 27 10 = pc_ := fld_of hk34
    exact xg_e ⟨0, w33, ⟨rfl, rfl⟩, Or.inr (Or.inl ⟨rfl, hk29, by omega, by omega⟩), xInv.up (S := [27]) hI25 ((xFr.of (S := [27]) hb32 (by decide)).tr (xFr.of (S := [27]) hb35 (by decide))) (List.forall_mem_cons.mpr ⟨xqu27 (show cp27 (wget w33 27) from xmC27 f27_1 f27_3 f27_5 3 pc_ hk34 hb2 hb4 hb6 (by decide) (by omega)), fun _ h => absurd h List.not_mem_nil⟩), ((hF26.up (by decide)).tr ((xFr.of (S := [27]) hb32 (by decide)).tr (xFr.of (S := [27]) hb35 (by decide))))⟩
  · refine xg_t (xg_ifT (u := 0) rfl xnm0 (by decide)) ?_
    refine xg_t (xg_blq rfl) ?_
    refine xg_t (xg_iload (va := (0, 5)) rfl rfl) ?_
    refine xg_t (xg_ifF (u := 5) rfl xnm0 (by decide)) ?_
    refine xg_t (xg_iload (va := (0, 5)) rfl rfl) ?_
    refine xg_t (xg_bip) ?_
    refine xg_t (xg_icT (u := 5) (v := 7) rfl xnm0 xnm0 (by decide)) ?_
    refine xg_t (xg_blq rfl) ?_
    refine xg_t (xg_const) ?_
    refine xg_t (xg_istore (l1 := [(0, (2, 27)), (1, (0, 5)), (2, (0, pc_))]) rfl rfl rfl) ?_
    refine xg_t (xg_blq rfl) ?_
    refine xg_t (xg_iload (va := (0, 0)) rfl rfl) ?_
    refine xg_t (xg_gets) ?_
    refine xg_t (xg_iload (va := (0, 5)) rfl rfl) ?_
    refine xg_t (xg_ald8L (n := 5) (u := 2) xnm0 rfl rfl) ?_
    refine xg_t (xg_icF (u := 0) (v := 2) rfl xnm0 xnm0 (by decide)) ?_
    refine xg_t (xg_iload (va := (0, 0)) rfl rfl) ?_
    refine xg_t (xg_const) ?_
    refine xg_t (xg_icF (u := 0) (v := 3) rfl xnm0 xnm0 (by decide)) ?_
    refine xg_t (xg_aload (va := (2, 27)) rfl rfl) ?_
    refine xg_t (xg_getf (va := (2, 39)) (hF26.get (by decide) h27_11) rfl) ?_
    refine xg_t (xg_iload (va := (0, 0)) rfl rfl) ?_
    refine xg_ialdB (n := 0) (B := 4294967295) (h39_13.fr hF26 (by decide)) (hb14) xnm0 (by first | decide | omega) (fun u38 hu39 he40 => ?_)
    have hv41 : rwv w 39 0 = u38 := (rwv_of h39_13 (by decide)).trans he40
    refine xg_t (xg_gets) ?_
    refine xg_t (xg_iload (va := (0, 5)) rfl rfl) ?_
    refine xg_t (xg_const) ?_
    refine xg_t (xg_imul (u := 5) (v := 3) (z := 15) xnm0 xnm0 (by decide)) ?_
    refine xg_t (xg_iload (va := (0, 0)) rfl rfl) ?_
    refine xg_t (xg_iadd (u := 15) (v := 0) (z := 15) xnm0 xnm0 (by decide)) ?_
    refine xg_t (xg_ald8L (n := 15) (u := 1) xnm0 rfl rfl) ?_
    refine xg_t (xg_gets) ?_
    refine xg_t (xg_iload (va := (0, 5)) rfl rfl) ?_
    refine xg_t (xg_const) ?_
    refine xg_t (xg_imul (u := 5) (v := 3) (z := 15) xnm0 xnm0 (by decide)) ?_
    refine xg_t (xg_iload (va := (0, 0)) rfl rfl) ?_
    refine xg_t (xg_iadd (u := 15) (v := 0) (z := 15) xnm0 xnm0 (by decide)) ?_
    refine xg_t (xg_ald8L (n := 15) (u := 10) xnm0 rfl rfl) ?_
    refine xg_t (xg_cNr mX11_isIn (vs := [(0, u38), (0, 1), (0, 10)]) (rest := []) (rs := [(0, if 1 ≤ u38 ∧ u38 ≤ 10 then 1 else 0)]) (cn1 := 0) (sl1 := 0) rfl (isIn_ok (by omega) (by omega) (by omega)) rfl rfl rfl rfl rfl rfl rfl rfl) ?_
    by_cases hc42 : 1 ≤ u38 ∧ u38 ≤ 10
    · refine xg_t (xg_ifT (u := (if 1 ≤ u38 ∧ u38 ≤ 10 then 1 else 0)) rfl xnm0 (xj_neT (xite1 hc42))) ?_
      refine xg_t (xg_blq rfl) ?_
      refine xg_t (xg_iinc (u := 0) (z := 1) (l1 := [(0, (2, 27)), (1, (0, 5)), (2, (0, pc_))]) rfl rfl (by decide) rfl) ?_
      refine xg_t (xg_goto) ?_
      refine xg_t (xg_blq rfl) ?_
      refine xg_t (xg_iload (va := (0, 1)) rfl rfl) ?_
      refine xg_t (xg_gets) ?_
      refine xg_t (xg_iload (va := (0, 5)) rfl rfl) ?_
      refine xg_t (xg_ald8L (n := 5) (u := 2) xnm0 rfl rfl) ?_
      refine xg_t (xg_icF (u := 1) (v := 2) rfl xnm0 xnm0 (by decide)) ?_
      refine xg_t (xg_iload (va := (0, 1)) rfl rfl) ?_
      refine xg_t (xg_const) ?_
      refine xg_t (xg_icF (u := 1) (v := 3) rfl xnm0 xnm0 (by decide)) ?_
      refine xg_t (xg_aload (va := (2, 27)) rfl rfl) ?_
      refine xg_t (xg_getf (va := (2, 39)) (hF26.get (by decide) h27_11) rfl) ?_
      refine xg_t (xg_iload (va := (0, 1)) rfl rfl) ?_
      refine xg_ialdB (n := 1) (B := 4294967295) (h39_13.fr hF26 (by decide)) (hb14) xnm0 (by first | decide | omega) (fun u43 hu44 he45 => ?_)
      have hv46 : rwv w 39 1 = u43 := (rwv_of h39_13 (by decide)).trans he45
      refine xg_t (xg_gets) ?_
      refine xg_t (xg_iload (va := (0, 5)) rfl rfl) ?_
      refine xg_t (xg_const) ?_
      refine xg_t (xg_imul (u := 5) (v := 3) (z := 15) xnm0 xnm0 (by decide)) ?_
      refine xg_t (xg_iload (va := (0, 1)) rfl rfl) ?_
      refine xg_t (xg_iadd (u := 15) (v := 1) (z := 16) xnm0 xnm0 (by decide)) ?_
      refine xg_t (xg_ald8L (n := 16) (u := 1) xnm0 rfl rfl) ?_
      refine xg_t (xg_gets) ?_
      refine xg_t (xg_iload (va := (0, 5)) rfl rfl) ?_
      refine xg_t (xg_const) ?_
      refine xg_t (xg_imul (u := 5) (v := 3) (z := 15) xnm0 xnm0 (by decide)) ?_
      refine xg_t (xg_iload (va := (0, 1)) rfl rfl) ?_
      refine xg_t (xg_iadd (u := 15) (v := 1) (z := 16) xnm0 xnm0 (by decide)) ?_
      refine xg_t (xg_ald8L (n := 16) (u := 10) xnm0 rfl rfl) ?_
      refine xg_t (xg_cNr mX11_isIn (vs := [(0, u43), (0, 1), (0, 10)]) (rest := []) (rs := [(0, if 1 ≤ u43 ∧ u43 ≤ 10 then 1 else 0)]) (cn1 := 0) (sl1 := 0) rfl (isIn_ok (by omega) (by omega) (by omega)) rfl rfl rfl rfl rfl rfl rfl rfl) ?_
      by_cases hc47 : 1 ≤ u43 ∧ u43 ≤ 10
      · refine xg_t (xg_ifT (u := (if 1 ≤ u43 ∧ u43 ≤ 10 then 1 else 0)) rfl xnm0 (xj_neT (xite1 hc47))) ?_
        refine xg_t (xg_blq rfl) ?_
        refine xg_t (xg_iinc (u := 1) (z := 2) (l1 := [(0, (2, 27)), (1, (0, 5)), (2, (0, pc_))]) rfl rfl (by decide) rfl) ?_
        refine xg_t (xg_goto) ?_
        refine xg_t (xg_blq rfl) ?_
        refine xg_t (xg_iload (va := (0, 2)) rfl rfl) ?_
        refine xg_t (xg_gets) ?_
        refine xg_t (xg_iload (va := (0, 5)) rfl rfl) ?_
        refine xg_t (xg_ald8L (n := 5) (u := 2) xnm0 rfl rfl) ?_
        refine xg_t (xg_icT (u := 2) (v := 2) rfl xnm0 xnm0 (by decide)) ?_
        refine xg_t (xg_blq rfl) ?_
        refine xg_t (xg_const) ?_
        exact xg_e ⟨1, w23, ⟨rfl, rfl⟩, Or.inl ⟨rfl, hk29, by omega, by omega, hF26⟩, hI25, (hF26.up (by decide))⟩
      · refine xg_t (xg_ifF (u := (if 1 ≤ u43 ∧ u43 ≤ 10 then 1 else 0)) rfl xnm0 (xj_neF (xite0 hc47))) ?_
        refine xg_t (xg_aload (va := (2, 27)) rfl rfl) ?_
        refine xg_t (xg_const) ?_
        refine xg_putI (fl1 := [(2, 1), (2, 42), (2, 28), (2, 39), (2, 40), (2, 41), (0, f27_1), (0, f27_3), (0, f27_5), (0, 2), (0, f27_9)]) (hF26.get (by decide) h27_11) rfl rfl rfl (fun w48 hk49 hb50 => ?_)
        refine xg_t (xg_aload (va := (2, 27)) rfl rfl) ?_
        refine xg_t (xg_aload (va := (2, 27)) rfl rfl) ?_
        refine xg_t (xg_getf (va := (2, 40)) hk49 rfl) ?_
        refine xg_t (xg_iload (va := (0, 1)) rfl rfl) ?_
        refine xg_ialdB (n := 1) (B := 4294967295) ((h40_16.fr hF26 (by decide)).but hb50 (by decide)) (hb17) xnm0 (by first | decide | omega) (fun u51 hu52 he53 => ?_)
        have hv54 : rwv w 40 1 = u51 := (rwv_of h40_16 (by decide)).trans he53
        refine xg_putI (fl1 := [(2, 1), (2, 42), (2, 28), (2, 39), (2, 40), (2, 41), (0, f27_1), (0, f27_3), (0, f27_5), (0, 2), (0, u51)]) hk49 rfl rfl rfl (fun w55 hk56 hb57 => ?_)
        refine xg_t (xg_const) ?_
        have hq58 : fld w55 27 9 = 2 := fld_of hk56
        have hq59 : fld w55 27 10 = u51 := fld_of hk56
        exact xg_e ⟨0, w55, ⟨rfl, rfl⟩, Or.inr (Or.inr (Or.inr (⟨rfl, hk29, by omega, by omega, by omega, by omega⟩))), xInv.up (S := [27]) hI25 ((xFr.of (S := [27]) hb50 (by decide)).tr (xFr.of (S := [27]) hb57 (by decide))) (List.forall_mem_cons.mpr ⟨xqu27 (show cp27 (wget w55 27) from xmC27 f27_1 f27_3 f27_5 2 u51 hk56 hb2 hb4 hb6 (by decide) (by omega)), fun _ h => absurd h List.not_mem_nil⟩), ((hF26.up (by decide)).tr ((xFr.of (S := [27]) hb50 (by decide)).tr (xFr.of (S := [27]) hb57 (by decide))))⟩
    · refine xg_t (xg_ifF (u := (if 1 ≤ u38 ∧ u38 ≤ 10 then 1 else 0)) rfl xnm0 (xj_neF (xite0 hc42))) ?_
      refine xg_t (xg_aload (va := (2, 27)) rfl rfl) ?_
      refine xg_t (xg_const) ?_
      refine xg_putI (fl1 := [(2, 1), (2, 42), (2, 28), (2, 39), (2, 40), (2, 41), (0, f27_1), (0, f27_3), (0, f27_5), (0, 2), (0, f27_9)]) (hF26.get (by decide) h27_11) rfl rfl rfl (fun w60 hk61 hb62 => ?_)
      refine xg_t (xg_aload (va := (2, 27)) rfl rfl) ?_
      refine xg_t (xg_aload (va := (2, 27)) rfl rfl) ?_
      refine xg_t (xg_getf (va := (2, 40)) hk61 rfl) ?_
      refine xg_t (xg_iload (va := (0, 0)) rfl rfl) ?_
      refine xg_ialdB (n := 0) (B := 4294967295) ((h40_16.fr hF26 (by decide)).but hb62 (by decide)) (hb17) xnm0 (by first | decide | omega) (fun u63 hu64 he65 => ?_)
      have hv66 : rwv w 40 0 = u63 := (rwv_of h40_16 (by decide)).trans he65
      refine xg_putI (fl1 := [(2, 1), (2, 42), (2, 28), (2, 39), (2, 40), (2, 41), (0, f27_1), (0, f27_3), (0, f27_5), (0, 2), (0, u63)]) hk61 rfl rfl rfl (fun w67 hk68 hb69 => ?_)
      refine xg_t (xg_const) ?_
      have hq70 : fld w67 27 9 = 2 := fld_of hk68
      have hq71 : fld w67 27 10 = u63 := fld_of hk68
      exact xg_e ⟨0, w67, ⟨rfl, rfl⟩, Or.inr (Or.inr (Or.inl ⟨rfl, hk29, by omega, by omega, by omega⟩)), xInv.up (S := [27]) hI25 ((xFr.of (S := [27]) hb62 (by decide)).tr (xFr.of (S := [27]) hb69 (by decide))) (List.forall_mem_cons.mpr ⟨xqu27 (show cp27 (wget w67 27) from xmC27 f27_1 f27_3 f27_5 2 u63 hk68 hb2 hb4 hb6 (by decide) (by omega)), fun _ h => absurd h List.not_mem_nil⟩), ((hF26.up (by decide)).tr ((xFr.of (S := [27]) hb62 (by decide)).tr (xFr.of (S := [27]) hb69 (by decide))))⟩
theorem ftFineX6 {pc_ : Nat} (hI : xInv w) (h1 : pc_ ≤ 4294967295) : xPi (d + 3) mX2_isFine [(2, 27), (0, 6), (0, pc_)] w bd fc rr (fun n w' => ((n = 1 ∧ ¬ (fld w 27 8 ≠ 0) ∧ (1 ≤ rwv w 39 0 ∧ rwv w 39 0 ≤ 6) ∧ (1 ≤ rwv w 39 1 ∧ rwv w 39 1 ≤ 6) ∧ xFr [] w w') ∨ (n = 0 ∧ (fld w 27 8 ≠ 0) ∧ fld w' 27 9 = 3 ∧ fld w' 27 10 = pc_) ∨ (n = 0 ∧ ¬ (fld w 27 8 ≠ 0) ∧ ¬ (1 ≤ rwv w 39 0 ∧ rwv w 39 0 ≤ 6) ∧ fld w' 27 9 = 2 ∧ fld w' 27 10 = rwv w 40 0) ∨ (n = 0 ∧ ¬ (fld w 27 8 ≠ 0) ∧ (1 ≤ rwv w 39 0 ∧ rwv w 39 0 ≤ 6) ∧ ¬ (1 ≤ rwv w 39 1 ∧ rwv w 39 1 ≤ 6) ∧ fld w' 27 9 = 2 ∧ fld w' 27 10 = rwv w 40 1)) ∧ xInv w' ∧ xFr [27] w w') := by
  refine xPi.of ?_
  show xTo (d + 3) mX2_isFine (0, [], [(0, (2, 27)), (1, (0, 6)), (2, (0, pc_))], [], (w, bd, fc, 0, 0, rr)) (fun φ => ∃ n w', xEnd 4 [(0, n)] (w', bd, fc, 0, 0, rr) φ ∧ ((n = 1 ∧ ¬ (fld w 27 8 ≠ 0) ∧ (1 ≤ rwv w 39 0 ∧ rwv w 39 0 ≤ 6) ∧ (1 ≤ rwv w 39 1 ∧ rwv w 39 1 ≤ 6) ∧ xFr [] w w') ∨ (n = 0 ∧ (fld w 27 8 ≠ 0) ∧ fld w' 27 9 = 3 ∧ fld w' 27 10 = pc_) ∨ (n = 0 ∧ ¬ (fld w 27 8 ≠ 0) ∧ ¬ (1 ≤ rwv w 39 0 ∧ rwv w 39 0 ≤ 6) ∧ fld w' 27 9 = 2 ∧ fld w' 27 10 = rwv w 40 0) ∨ (n = 0 ∧ ¬ (fld w 27 8 ≠ 0) ∧ (1 ≤ rwv w 39 0 ∧ rwv w 39 0 ≤ 6) ∧ ¬ (1 ≤ rwv w 39 1 ∧ rwv w 39 1 ≤ 6) ∧ fld w' 27 9 = 2 ∧ fld w' 27 10 = rwv w 40 1)) ∧ xInv w' ∧ xFr [27] w w')
  refine xoC27 (xqc27 hI : cp27 (wget w 27)) (fun f27_1 f27_3 f27_5 f27_7 f27_9 h27_11 hb2 hb4 hb6 hb8 hb10 => ?_)
  refine xoI (xqc39 hI : cpI 3 18 4294967295 (wget w 39)) (fun g39_12 h39_13 hb14 => ?_)
  refine xoI (xqc40 hI : cpI 3 19 4294967295 (wget w 40)) (fun g40_15 h40_16 hb17 => ?_)
  have hq18 : fld w 27 6 = f27_1 := fld_of h27_11
  have hq19 : fld w 27 7 = f27_3 := fld_of h27_11
  have hq20 : fld w 27 8 = f27_5 := fld_of h27_11
  have hq21 : fld w 27 9 = f27_7 := fld_of h27_11
  have hq22 : fld w 27 10 = f27_9 := fld_of h27_11
  refine xg_t (xg_blq rfl) ?_
  refine xg_t (xg_aload (va := (2, 27)) rfl rfl) ?_
  refine xg_t (xg_iload (va := (0, 6)) rfl rfl) ?_
  refine xg_cVi mX2_isTooMany (vs := [(0, 6)]) (rest := []) (cn1 := 0) (sl1 := 0) rfl (ftManyX6 (hI)) rfl h27_11 rfl rfl rfl rfl rfl rfl (fun n27 w23 hq24 => ?_)
  obtain ⟨hn28, hI25, hF26⟩ := hq24
  rcases hn28 with ⟨rfl, hk29⟩ | ⟨rfl, hk29⟩
  · refine xg_t (xg_ifF (u := 1) rfl xnm0 (by decide)) ?_
    refine xg_t (xg_aload (va := (2, 27)) rfl rfl) ?_
    refine xg_t (xg_const) ?_
    refine xg_putI (fl1 := [(2, 1), (2, 42), (2, 28), (2, 39), (2, 40), (2, 41), (0, f27_1), (0, f27_3), (0, f27_5), (0, 3), (0, f27_9)]) (hF26.get (by decide) h27_11) rfl rfl rfl (fun w30 hk31 hb32 => ?_)
    refine xg_t (xg_aload (va := (2, 27)) rfl rfl) ?_
    refine xg_t (xg_iload (va := (0, pc_)) rfl rfl) ?_
    refine xg_putI (fl1 := [(2, 1), (2, 42), (2, 28), (2, 39), (2, 40), (2, 41), (0, f27_1), (0, f27_3), (0, f27_5), (0, 3), (0, pc_)]) hk31 rfl rfl rfl (fun w33 hk34 hb35 => ?_)
    refine xg_t (xg_const) ?_
    have hq36 : fld w33 27 9 = 3 := fld_of hk34
    have hq37 : fld w33 27 10 = pc_ := fld_of hk34
    exact xg_e ⟨0, w33, ⟨rfl, rfl⟩, Or.inr (Or.inl ⟨rfl, hk29, by omega, by omega⟩), xInv.up (S := [27]) hI25 ((xFr.of (S := [27]) hb32 (by decide)).tr (xFr.of (S := [27]) hb35 (by decide))) (List.forall_mem_cons.mpr ⟨xqu27 (show cp27 (wget w33 27) from xmC27 f27_1 f27_3 f27_5 3 pc_ hk34 hb2 hb4 hb6 (by decide) (by omega)), fun _ h => absurd h List.not_mem_nil⟩), ((hF26.up (by decide)).tr ((xFr.of (S := [27]) hb32 (by decide)).tr (xFr.of (S := [27]) hb35 (by decide))))⟩
  · refine xg_t (xg_ifT (u := 0) rfl xnm0 (by decide)) ?_
    refine xg_t (xg_blq rfl) ?_
    refine xg_t (xg_iload (va := (0, 6)) rfl rfl) ?_
    refine xg_t (xg_ifF (u := 6) rfl xnm0 (by decide)) ?_
    refine xg_t (xg_iload (va := (0, 6)) rfl rfl) ?_
    refine xg_t (xg_bip) ?_
    refine xg_t (xg_icT (u := 6) (v := 7) rfl xnm0 xnm0 (by decide)) ?_
    refine xg_t (xg_blq rfl) ?_
    refine xg_t (xg_const) ?_
    refine xg_t (xg_istore (l1 := [(0, (2, 27)), (1, (0, 6)), (2, (0, pc_))]) rfl rfl rfl) ?_
    refine xg_t (xg_blq rfl) ?_
    refine xg_t (xg_iload (va := (0, 0)) rfl rfl) ?_
    refine xg_t (xg_gets) ?_
    refine xg_t (xg_iload (va := (0, 6)) rfl rfl) ?_
    refine xg_t (xg_ald8L (n := 6) (u := 2) xnm0 rfl rfl) ?_
    refine xg_t (xg_icF (u := 0) (v := 2) rfl xnm0 xnm0 (by decide)) ?_
    refine xg_t (xg_iload (va := (0, 0)) rfl rfl) ?_
    refine xg_t (xg_const) ?_
    refine xg_t (xg_icF (u := 0) (v := 3) rfl xnm0 xnm0 (by decide)) ?_
    refine xg_t (xg_aload (va := (2, 27)) rfl rfl) ?_
    refine xg_t (xg_getf (va := (2, 39)) (hF26.get (by decide) h27_11) rfl) ?_
    refine xg_t (xg_iload (va := (0, 0)) rfl rfl) ?_
    refine xg_ialdB (n := 0) (B := 4294967295) (h39_13.fr hF26 (by decide)) (hb14) xnm0 (by first | decide | omega) (fun u38 hu39 he40 => ?_)
    have hv41 : rwv w 39 0 = u38 := (rwv_of h39_13 (by decide)).trans he40
    refine xg_t (xg_gets) ?_
    refine xg_t (xg_iload (va := (0, 6)) rfl rfl) ?_
    refine xg_t (xg_const) ?_
    refine xg_t (xg_imul (u := 6) (v := 3) (z := 18) xnm0 xnm0 (by decide)) ?_
    refine xg_t (xg_iload (va := (0, 0)) rfl rfl) ?_
    refine xg_t (xg_iadd (u := 18) (v := 0) (z := 18) xnm0 xnm0 (by decide)) ?_
    refine xg_t (xg_ald8L (n := 18) (u := 1) xnm0 rfl rfl) ?_
    refine xg_t (xg_gets) ?_
    refine xg_t (xg_iload (va := (0, 6)) rfl rfl) ?_
    refine xg_t (xg_const) ?_
    refine xg_t (xg_imul (u := 6) (v := 3) (z := 18) xnm0 xnm0 (by decide)) ?_
    refine xg_t (xg_iload (va := (0, 0)) rfl rfl) ?_
    refine xg_t (xg_iadd (u := 18) (v := 0) (z := 18) xnm0 xnm0 (by decide)) ?_
    refine xg_t (xg_ald8L (n := 18) (u := 6) xnm0 rfl rfl) ?_
    refine xg_t (xg_cNr mX11_isIn (vs := [(0, u38), (0, 1), (0, 6)]) (rest := []) (rs := [(0, if 1 ≤ u38 ∧ u38 ≤ 6 then 1 else 0)]) (cn1 := 0) (sl1 := 0) rfl (isIn_ok (by omega) (by omega) (by omega)) rfl rfl rfl rfl rfl rfl rfl rfl) ?_
    by_cases hc42 : 1 ≤ u38 ∧ u38 ≤ 6
    · refine xg_t (xg_ifT (u := (if 1 ≤ u38 ∧ u38 ≤ 6 then 1 else 0)) rfl xnm0 (xj_neT (xite1 hc42))) ?_
      refine xg_t (xg_blq rfl) ?_
      refine xg_t (xg_iinc (u := 0) (z := 1) (l1 := [(0, (2, 27)), (1, (0, 6)), (2, (0, pc_))]) rfl rfl (by decide) rfl) ?_
      refine xg_t (xg_goto) ?_
      refine xg_t (xg_blq rfl) ?_
      refine xg_t (xg_iload (va := (0, 1)) rfl rfl) ?_
      refine xg_t (xg_gets) ?_
      refine xg_t (xg_iload (va := (0, 6)) rfl rfl) ?_
      refine xg_t (xg_ald8L (n := 6) (u := 2) xnm0 rfl rfl) ?_
      refine xg_t (xg_icF (u := 1) (v := 2) rfl xnm0 xnm0 (by decide)) ?_
      refine xg_t (xg_iload (va := (0, 1)) rfl rfl) ?_
      refine xg_t (xg_const) ?_
      refine xg_t (xg_icF (u := 1) (v := 3) rfl xnm0 xnm0 (by decide)) ?_
      refine xg_t (xg_aload (va := (2, 27)) rfl rfl) ?_
      refine xg_t (xg_getf (va := (2, 39)) (hF26.get (by decide) h27_11) rfl) ?_
      refine xg_t (xg_iload (va := (0, 1)) rfl rfl) ?_
      refine xg_ialdB (n := 1) (B := 4294967295) (h39_13.fr hF26 (by decide)) (hb14) xnm0 (by first | decide | omega) (fun u43 hu44 he45 => ?_)
      have hv46 : rwv w 39 1 = u43 := (rwv_of h39_13 (by decide)).trans he45
      refine xg_t (xg_gets) ?_
      refine xg_t (xg_iload (va := (0, 6)) rfl rfl) ?_
      refine xg_t (xg_const) ?_
      refine xg_t (xg_imul (u := 6) (v := 3) (z := 18) xnm0 xnm0 (by decide)) ?_
      refine xg_t (xg_iload (va := (0, 1)) rfl rfl) ?_
      refine xg_t (xg_iadd (u := 18) (v := 1) (z := 19) xnm0 xnm0 (by decide)) ?_
      refine xg_t (xg_ald8L (n := 19) (u := 1) xnm0 rfl rfl) ?_
      refine xg_t (xg_gets) ?_
      refine xg_t (xg_iload (va := (0, 6)) rfl rfl) ?_
      refine xg_t (xg_const) ?_
      refine xg_t (xg_imul (u := 6) (v := 3) (z := 18) xnm0 xnm0 (by decide)) ?_
      refine xg_t (xg_iload (va := (0, 1)) rfl rfl) ?_
      refine xg_t (xg_iadd (u := 18) (v := 1) (z := 19) xnm0 xnm0 (by decide)) ?_
      refine xg_t (xg_ald8L (n := 19) (u := 6) xnm0 rfl rfl) ?_
      refine xg_t (xg_cNr mX11_isIn (vs := [(0, u43), (0, 1), (0, 6)]) (rest := []) (rs := [(0, if 1 ≤ u43 ∧ u43 ≤ 6 then 1 else 0)]) (cn1 := 0) (sl1 := 0) rfl (isIn_ok (by omega) (by omega) (by omega)) rfl rfl rfl rfl rfl rfl rfl rfl) ?_
      by_cases hc47 : 1 ≤ u43 ∧ u43 ≤ 6
      · refine xg_t (xg_ifT (u := (if 1 ≤ u43 ∧ u43 ≤ 6 then 1 else 0)) rfl xnm0 (xj_neT (xite1 hc47))) ?_
        refine xg_t (xg_blq rfl) ?_
        refine xg_t (xg_iinc (u := 1) (z := 2) (l1 := [(0, (2, 27)), (1, (0, 6)), (2, (0, pc_))]) rfl rfl (by decide) rfl) ?_
        refine xg_t (xg_goto) ?_
        refine xg_t (xg_blq rfl) ?_
        refine xg_t (xg_iload (va := (0, 2)) rfl rfl) ?_
        refine xg_t (xg_gets) ?_
        refine xg_t (xg_iload (va := (0, 6)) rfl rfl) ?_
        refine xg_t (xg_ald8L (n := 6) (u := 2) xnm0 rfl rfl) ?_
        refine xg_t (xg_icT (u := 2) (v := 2) rfl xnm0 xnm0 (by decide)) ?_
        refine xg_t (xg_blq rfl) ?_
        refine xg_t (xg_const) ?_
        exact xg_e ⟨1, w23, ⟨rfl, rfl⟩, Or.inl ⟨rfl, hk29, by omega, by omega, hF26⟩, hI25, (hF26.up (by decide))⟩
      · refine xg_t (xg_ifF (u := (if 1 ≤ u43 ∧ u43 ≤ 6 then 1 else 0)) rfl xnm0 (xj_neF (xite0 hc47))) ?_
        refine xg_t (xg_aload (va := (2, 27)) rfl rfl) ?_
        refine xg_t (xg_const) ?_
        refine xg_putI (fl1 := [(2, 1), (2, 42), (2, 28), (2, 39), (2, 40), (2, 41), (0, f27_1), (0, f27_3), (0, f27_5), (0, 2), (0, f27_9)]) (hF26.get (by decide) h27_11) rfl rfl rfl (fun w48 hk49 hb50 => ?_)
        refine xg_t (xg_aload (va := (2, 27)) rfl rfl) ?_
        refine xg_t (xg_aload (va := (2, 27)) rfl rfl) ?_
        refine xg_t (xg_getf (va := (2, 40)) hk49 rfl) ?_
        refine xg_t (xg_iload (va := (0, 1)) rfl rfl) ?_
        refine xg_ialdB (n := 1) (B := 4294967295) ((h40_16.fr hF26 (by decide)).but hb50 (by decide)) (hb17) xnm0 (by first | decide | omega) (fun u51 hu52 he53 => ?_)
        have hv54 : rwv w 40 1 = u51 := (rwv_of h40_16 (by decide)).trans he53
        refine xg_putI (fl1 := [(2, 1), (2, 42), (2, 28), (2, 39), (2, 40), (2, 41), (0, f27_1), (0, f27_3), (0, f27_5), (0, 2), (0, u51)]) hk49 rfl rfl rfl (fun w55 hk56 hb57 => ?_)
        refine xg_t (xg_const) ?_
        have hq58 : fld w55 27 9 = 2 := fld_of hk56
        have hq59 : fld w55 27 10 = u51 := fld_of hk56
        exact xg_e ⟨0, w55, ⟨rfl, rfl⟩, Or.inr (Or.inr (Or.inr (⟨rfl, hk29, by omega, by omega, by omega, by omega⟩))), xInv.up (S := [27]) hI25 ((xFr.of (S := [27]) hb50 (by decide)).tr (xFr.of (S := [27]) hb57 (by decide))) (List.forall_mem_cons.mpr ⟨xqu27 (show cp27 (wget w55 27) from xmC27 f27_1 f27_3 f27_5 2 u51 hk56 hb2 hb4 hb6 (by decide) (by omega)), fun _ h => absurd h List.not_mem_nil⟩), ((hF26.up (by decide)).tr ((xFr.of (S := [27]) hb50 (by decide)).tr (xFr.of (S := [27]) hb57 (by decide))))⟩
    · refine xg_t (xg_ifF (u := (if 1 ≤ u38 ∧ u38 ≤ 6 then 1 else 0)) rfl xnm0 (xj_neF (xite0 hc42))) ?_
      refine xg_t (xg_aload (va := (2, 27)) rfl rfl) ?_
      refine xg_t (xg_const) ?_
      refine xg_putI (fl1 := [(2, 1), (2, 42), (2, 28), (2, 39), (2, 40), (2, 41), (0, f27_1), (0, f27_3), (0, f27_5), (0, 2), (0, f27_9)]) (hF26.get (by decide) h27_11) rfl rfl rfl (fun w60 hk61 hb62 => ?_)
      refine xg_t (xg_aload (va := (2, 27)) rfl rfl) ?_
      refine xg_t (xg_aload (va := (2, 27)) rfl rfl) ?_
      refine xg_t (xg_getf (va := (2, 40)) hk61 rfl) ?_
      refine xg_t (xg_iload (va := (0, 0)) rfl rfl) ?_
      refine xg_ialdB (n := 0) (B := 4294967295) ((h40_16.fr hF26 (by decide)).but hb62 (by decide)) (hb17) xnm0 (by first | decide | omega) (fun u63 hu64 he65 => ?_)
      have hv66 : rwv w 40 0 = u63 := (rwv_of h40_16 (by decide)).trans he65
      refine xg_putI (fl1 := [(2, 1), (2, 42), (2, 28), (2, 39), (2, 40), (2, 41), (0, f27_1), (0, f27_3), (0, f27_5), (0, 2), (0, u63)]) hk61 rfl rfl rfl (fun w67 hk68 hb69 => ?_)
      refine xg_t (xg_const) ?_
      have hq70 : fld w67 27 9 = 2 := fld_of hk68
      have hq71 : fld w67 27 10 = u63 := fld_of hk68
      exact xg_e ⟨0, w67, ⟨rfl, rfl⟩, Or.inr (Or.inr (Or.inl ⟨rfl, hk29, by omega, by omega, by omega⟩)), xInv.up (S := [27]) hI25 ((xFr.of (S := [27]) hb62 (by decide)).tr (xFr.of (S := [27]) hb69 (by decide))) (List.forall_mem_cons.mpr ⟨xqu27 (show cp27 (wget w67 27) from xmC27 f27_1 f27_3 f27_5 2 u63 hk68 hb2 hb4 hb6 (by decide) (by omega)), fun _ h => absurd h List.not_mem_nil⟩), ((hF26.up (by decide)).tr ((xFr.of (S := [27]) hb62 (by decide)).tr (xFr.of (S := [27]) hb69 (by decide))))⟩
theorem ftTakeX0 {pc_ : Nat} (hI : xInv w) (h1 : pc_ ≤ 4294967295) (hz : fld w 29 3 < 6) : xPq (d + 2) mX2_take [(2, 27), (0, 0), (0, pc_)] w bd fc rr [] (fun w' => xInv w' ∧ xFr [29, 30] w w' ∧ (fld w' 29 3 = fld w 29 3 + 1 ∧ (∀ j, j < 4 * fld w 29 3 → rwv w' 30 j = rwv w 30 j) ∧ (∀ t, t < 3 → rwv w' 30 (4 * fld w 29 3 + t) = rwv w 39 t) ∧ rwv w' 30 (4 * fld w 29 3 + 3) = fld w 27 6)) := by
  refine xPq.of ?_
  show xTo (d + 2) mX2_take (0, [], [(0, (2, 27)), (1, (0, 0)), (2, (0, pc_))], [], (w, bd, fc, 0, 0, rr)) (fun φ => ∃ w', xEnd 0 [] (w', bd, fc, 0, 0, rr) φ ∧ xInv w' ∧ xFr [29, 30] w w' ∧ (fld w' 29 3 = fld w 29 3 + 1 ∧ (∀ j, j < 4 * fld w 29 3 → rwv w' 30 j = rwv w 30 j) ∧ (∀ t, t < 3 → rwv w' 30 (4 * fld w 29 3 + t) = rwv w 39 t) ∧ rwv w' 30 (4 * fld w 29 3 + 3) = fld w 27 6))
  refine xoC27 (xqc27 hI : cp27 (wget w 27)) (fun f27_1 f27_3 f27_5 f27_7 f27_9 h27_11 hb2 hb4 hb6 hb8 hb10 => ?_)
  refine xoI (xqc39 hI : cpI 3 18 4294967295 (wget w 39)) (fun g39_12 h39_13 hb14 => ?_)
  refine xoI (xqc41 hI : cpI 20 20 4294967295 (wget w 41)) (fun g41_15 h41_16 hb17 => ?_)
  obtain ⟨f29_18, h29_20, hb19⟩ := (xqc29 hI : cp29 (wget w 29))
  refine xoI (xqc30 hI : cpI 24 13 4294967295 (wget w 30)) (fun g30_21 h30_22 hb23 => ?_)
  have hq24 : fld w 27 6 = f27_1 := fld_of h27_11
  have hsz : fld w 29 3 = f29_18 := fld_of h29_20
  refine xg_t (xg_blq rfl) ?_
  refine xg_t (xg_iload (va := (0, 0)) rfl rfl) ?_
  refine xg_t (xg_const) ?_
  refine xg_t (xg_icT (u := 0) (v := 5) rfl xnm0 xnm0 (by decide)) ?_
  refine xg_t (xg_blq rfl) ?_
  refine xg_t (xg_iload (va := (0, 0)) rfl rfl) ?_
  refine xg_t (xg_bip) ?_
  refine xg_t (xg_icT (u := 0) (v := 6) rfl xnm0 xnm0 (by decide)) ?_
  refine xg_t (xg_blq rfl) ?_
  refine xg_t (xg_aload (va := (2, 27)) rfl rfl) ?_
  refine xg_t (xg_getf (va := (2, 28)) h27_11 rfl) ?_
  refine xg_t (xg_iload (va := (0, 0)) rfl rfl) ?_
  refine xoC28 (xqc28 hI : cp28 (wget w 28)) (fun f28_25 f28_27 f28_29 f28_31 f28_33 h28_35 hb26 hb28 hb30 hb32 hb34 => ?_)
  refine xg_t (xg_cVr mX1_rowsOf (vs := [(0, 0)]) (rest := []) (rs := [(2, 29)]) (cn1 := 0) (sl1 := 0) rfl (rowsX0 hI) rfl h28_35 rfl rfl rfl rfl rfl rfl rfl) ?_
  refine xg_t (xg_astore (l1 := [(0, (2, 27)), (1, (0, 0)), (2, (0, pc_))]) rfl rfl rfl) ?_
  refine xg_t (xg_aload (va := (2, 29)) rfl rfl) ?_
  refine xg_t (xg_ifnullF) ?_
  refine xg_t (xg_aload (va := (2, 29)) rfl rfl) ?_
  refine xg_t (xg_cVr mX5_isFull (vs := []) (rest := []) (rs := [(0, if 6 ≤ f29_18 then 1 else 0)]) (cn1 := 0) (sl1 := 0) rfl (rfull_ok h29_20 (by decide) (by omega)) rfl h29_20 rfl rfl rfl rfl rfl rfl rfl) ?_
  refine xg_t (xg_ifT (u := (if 6 ≤ f29_18 then 1 else 0)) rfl xnm0 (xj_eqT (xite0 (by omega)))) ?_
  refine xg_t (xg_blq rfl) ?_
  refine xg_t (xg_aload (va := (2, 29)) rfl rfl) ?_
  refine xg_cV mX5_grow (vs := []) (rest := []) (rs := [(0, f29_18)]) (cn1 := 0) (sl1 := 0) rfl (rgrowX h29_20 (by decide) (by omega)) rfl h29_20 rfl rfl rfl rfl rfl rfl rfl (fun w36 hq37 => ?_)
  refine xg_t (xg_istore (l1 := [(3, (2, 29)), (0, (2, 27)), (1, (0, 0)), (2, (0, pc_))]) rfl rfl rfl) ?_
  refine xg_t (xg_const) ?_
  refine xg_t (xg_istore (l1 := [(4, (0, f29_18)), (3, (2, 29)), (0, (2, 27)), (1, (0, 0)), (2, (0, pc_))]) rfl rfl rfl) ?_
  refine xg_t (xg_blq rfl) ?_
  refine xg_t (xg_iload (va := (0, 0)) rfl rfl) ?_
  refine xg_t (xg_gets) ?_
  refine xg_t (xg_iload (va := (0, 0)) rfl rfl) ?_
  refine xg_t (xg_ald8L (n := 0) (u := 3) xnm0 rfl rfl) ?_
  refine xg_t (xg_icF (u := 0) (v := 3) rfl xnm0 xnm0 (by decide)) ?_
  refine xg_t (xg_iload (va := (0, 0)) rfl rfl) ?_
  refine xg_t (xg_const) ?_
  refine xg_t (xg_icF (u := 0) (v := 3) rfl xnm0 xnm0 (by decide)) ?_
  refine xg_t (xg_aload (va := (2, 29)) rfl rfl) ?_
  refine xg_t (xg_iload (va := (0, f29_18)) rfl rfl) ?_
  refine xg_t (xg_iload (va := (0, 0)) rfl rfl) ?_
  refine xg_t (xg_aload (va := (2, 27)) rfl rfl) ?_
  refine xg_t (xg_getf (va := (2, 39)) (hq37.2.get (by decide) h27_11) rfl) ?_
  refine xg_t (xg_iload (va := (0, 0)) rfl rfl) ?_
  refine xg_ialdB (n := 0) (B := 4294967295) (h39_13.but hq37.2 (by decide)) (hb14) xnm0 (by first | decide | omega) (fun u38 hu39 he40 => ?_)
  have hv41 : rwv w 39 0 = u38 := (rwv_of h39_13 (by decide)).trans he40
  refine xg_cVv mX5_put (vs := [(0, f29_18), (0, 0), (0, u38)]) (rest := []) (cn1 := 0) (sl1 := 0) rfl (rputX (lim := 6) (wd := 4) (B := 4294967295) hq37.1 (h30_22.but hq37.2 (by decide)) (hb23) (by decide) (by omega) (by decide) (by decide) (by omega) (by decide) (by omega)) rfl hq37.1 rfl rfl rfl rfl rfl rfl (fun w42 hq43 => ?_)
  obtain ⟨g44, hr45, hb46, he48, hk49, hb47⟩ := hq43
  refine xg_t (xg_iinc (u := 0) (z := 1) (l1 := [(4, (0, f29_18)), (3, (2, 29)), (0, (2, 27)), (1, (0, 0)), (2, (0, pc_))]) rfl rfl (by decide) rfl) ?_
  refine xg_t (xg_goto) ?_
  refine xg_t (xg_blq rfl) ?_
  refine xg_t (xg_iload (va := (0, 1)) rfl rfl) ?_
  refine xg_t (xg_gets) ?_
  refine xg_t (xg_iload (va := (0, 0)) rfl rfl) ?_
  refine xg_t (xg_ald8L (n := 0) (u := 3) xnm0 rfl rfl) ?_
  refine xg_t (xg_icF (u := 1) (v := 3) rfl xnm0 xnm0 (by decide)) ?_
  refine xg_t (xg_iload (va := (0, 1)) rfl rfl) ?_
  refine xg_t (xg_const) ?_
  refine xg_t (xg_icF (u := 1) (v := 3) rfl xnm0 xnm0 (by decide)) ?_
  refine xg_t (xg_aload (va := (2, 29)) rfl rfl) ?_
  refine xg_t (xg_iload (va := (0, f29_18)) rfl rfl) ?_
  refine xg_t (xg_iload (va := (0, 1)) rfl rfl) ?_
  refine xg_t (xg_aload (va := (2, 27)) rfl rfl) ?_
  refine xg_t (xg_getf (va := (2, 39)) (hb47.get (by decide) (hq37.2.get (by decide) h27_11)) rfl) ?_
  refine xg_t (xg_iload (va := (0, 1)) rfl rfl) ?_
  refine xg_ialdB (n := 1) (B := 4294967295) ((h39_13.but hq37.2 (by decide)).but hb47 (by decide)) (hb14) xnm0 (by first | decide | omega) (fun u50 hu51 he52 => ?_)
  have hv53 : rwv w 39 1 = u50 := (rwv_of h39_13 (by decide)).trans he52
  refine xg_cVv mX5_put (vs := [(0, f29_18), (0, 1), (0, u50)]) (rest := []) (cn1 := 0) (sl1 := 0) rfl (rputX (lim := 6) (wd := 4) (B := 4294967295) (hb47.get (by decide) hq37.1) hr45 (hb46) (by decide) (by omega) (by decide) (by decide) (by omega) (by decide) (by omega)) rfl (hb47.get (by decide) hq37.1) rfl rfl rfl rfl rfl rfl (fun w54 hq55 => ?_)
  obtain ⟨g56, hr57, hb58, he60, hk61, hb59⟩ := hq55
  refine xg_t (xg_iinc (u := 1) (z := 2) (l1 := [(4, (0, f29_18)), (3, (2, 29)), (0, (2, 27)), (1, (0, 0)), (2, (0, pc_))]) rfl rfl (by decide) rfl) ?_
  refine xg_t (xg_goto) ?_
  refine xg_t (xg_blq rfl) ?_
  refine xg_t (xg_iload (va := (0, 2)) rfl rfl) ?_
  refine xg_t (xg_gets) ?_
  refine xg_t (xg_iload (va := (0, 0)) rfl rfl) ?_
  refine xg_t (xg_ald8L (n := 0) (u := 3) xnm0 rfl rfl) ?_
  refine xg_t (xg_icF (u := 2) (v := 3) rfl xnm0 xnm0 (by decide)) ?_
  refine xg_t (xg_iload (va := (0, 2)) rfl rfl) ?_
  refine xg_t (xg_const) ?_
  refine xg_t (xg_icF (u := 2) (v := 3) rfl xnm0 xnm0 (by decide)) ?_
  refine xg_t (xg_aload (va := (2, 29)) rfl rfl) ?_
  refine xg_t (xg_iload (va := (0, f29_18)) rfl rfl) ?_
  refine xg_t (xg_iload (va := (0, 2)) rfl rfl) ?_
  refine xg_t (xg_aload (va := (2, 27)) rfl rfl) ?_
  refine xg_t (xg_getf (va := (2, 39)) (hb59.get (by decide) (hb47.get (by decide) (hq37.2.get (by decide) h27_11))) rfl) ?_
  refine xg_t (xg_iload (va := (0, 2)) rfl rfl) ?_
  refine xg_ialdB (n := 2) (B := 4294967295) (((h39_13.but hq37.2 (by decide)).but hb47 (by decide)).but hb59 (by decide)) (hb14) xnm0 (by first | decide | omega) (fun u62 hu63 he64 => ?_)
  have hv65 : rwv w 39 2 = u62 := (rwv_of h39_13 (by decide)).trans he64
  refine xg_cVv mX5_put (vs := [(0, f29_18), (0, 2), (0, u62)]) (rest := []) (cn1 := 0) (sl1 := 0) rfl (rputX (lim := 6) (wd := 4) (B := 4294967295) (hb59.get (by decide) (hb47.get (by decide) hq37.1)) hr57 (hb58) (by decide) (by omega) (by decide) (by decide) (by omega) (by decide) (by omega)) rfl (hb59.get (by decide) (hb47.get (by decide) hq37.1)) rfl rfl rfl rfl rfl rfl (fun w66 hq67 => ?_)
  obtain ⟨g68, hr69, hb70, he72, hk73, hb71⟩ := hq67
  refine xg_t (xg_iinc (u := 2) (z := 3) (l1 := [(4, (0, f29_18)), (3, (2, 29)), (0, (2, 27)), (1, (0, 0)), (2, (0, pc_))]) rfl rfl (by decide) rfl) ?_
  refine xg_t (xg_goto) ?_
  refine xg_t (xg_blq rfl) ?_
  refine xg_t (xg_iload (va := (0, 3)) rfl rfl) ?_
  refine xg_t (xg_gets) ?_
  refine xg_t (xg_iload (va := (0, 0)) rfl rfl) ?_
  refine xg_t (xg_ald8L (n := 0) (u := 3) xnm0 rfl rfl) ?_
  refine xg_t (xg_icT (u := 3) (v := 3) rfl xnm0 xnm0 (by decide)) ?_
  refine xg_t (xg_blq rfl) ?_
  refine xg_t (xg_iload (va := (0, 0)) rfl rfl) ?_
  refine xg_t (xg_ifF (u := 0) rfl xnm0 (by decide)) ?_
  refine xg_t (xg_aload (va := (2, 29)) rfl rfl) ?_
  refine xg_t (xg_iload (va := (0, f29_18)) rfl rfl) ?_
  refine xg_t (xg_const) ?_
  refine xg_t (xg_aload (va := (2, 27)) rfl rfl) ?_
  refine xg_t (xg_getf (va := (0, f27_1)) (hb71.get (by decide) (hb59.get (by decide) (hb47.get (by decide) (hq37.2.get (by decide) h27_11)))) rfl) ?_
  by_cases hc74 : f27_1 = 0
  · refine xg_t (xg_ifT (u := f27_1) rfl xnm0 (xj_eqT hc74)) ?_
    refine xg_t (xg_blq rfl) ?_
    refine xg_t (xg_const) ?_
    refine xg_t (xg_blq rfl) ?_
    refine xg_cVv mX5_put (vs := [(0, f29_18), (0, 3), (0, 0)]) (rest := []) (cn1 := 0) (sl1 := 0) rfl (rputX (lim := 6) (wd := 4) (B := 4294967295) (hb71.get (by decide) (hb59.get (by decide) (hb47.get (by decide) hq37.1))) hr69 (hb70) (by decide) (by omega) (by decide) (by decide) (by omega) (by decide) (by omega)) rfl (hb71.get (by decide) (hb59.get (by decide) (hb47.get (by decide) hq37.1))) rfl rfl rfl rfl rfl rfl (fun w75 hq76 => ?_)
    obtain ⟨g77, hr78, hb79, he81, hk82, hb80⟩ := hq76
    refine xg_t (xg_blq rfl) ?_
    refine xg_t (xg_iload (va := (0, 0)) rfl rfl) ?_
    refine xg_t (xg_const) ?_
    refine xg_t (xg_icT (u := 0) (v := 4) rfl xnm0 xnm0 (by decide)) ?_
    refine xg_t (xg_blq rfl) ?_
    have hq83 : fld w75 29 3 = (f29_18 + 1) := fld_of (hb80.get (by decide) (hb71.get (by decide) (hb59.get (by decide) (hb47.get (by decide) hq37.1))))
    have hq85 : 4 * fld w 29 3 = f29_18 * 4 + 0 := by omega
    have hq84 : rwv w75 30 (4 * fld w 29 3) = u38 := by
      rw [hq85, rwv_of hr78 (by omega), hk82 _ (by omega), hk73 _ (by omega), hk61 _ (by omega), he48]
    have hq87 : 4 * fld w 29 3 + 1 = f29_18 * 4 + 1 := by omega
    have hq86 : rwv w75 30 (4 * fld w 29 3 + 1) = u50 := by
      rw [hq87, rwv_of hr78 (by omega), hk82 _ (by omega), hk73 _ (by omega), he60]
    have hq89 : 4 * fld w 29 3 + 2 = f29_18 * 4 + 2 := by omega
    have hq88 : rwv w75 30 (4 * fld w 29 3 + 2) = u62 := by
      rw [hq89, rwv_of hr78 (by omega), hk82 _ (by omega), he72]
    have hn90 : ∀ t, t < 3 → rwv w75 30 (4 * fld w 29 3 + t) = rwv w 39 t := fun t ht => by
      rcases (show t = 0 ∨ t = 1 ∨ t = 2 by omega) with rfl | rfl | rfl
      · exact hq84.trans hv41.symm
      · exact hq86.trans hv53.symm
      · exact hq88.trans hv65.symm
    have hq92 : 4 * fld w 29 3 + 3 = f29_18 * 4 + 3 := by omega
    have hq91 : rwv w75 30 (4 * fld w 29 3 + 3) = 0 := by
      rw [hq92, rwv_of hr78 (by omega), he81]
    exact xg_e ⟨w75, ⟨rfl, rfl⟩, xInv.up (S := [29, 30]) hI (((((xFr.of (S := [29, 30]) hq37.2 (by decide)).tr (xFr.of (S := [29, 30]) hb47 (by decide))).tr (xFr.of (S := [29, 30]) hb59 (by decide))).tr (xFr.of (S := [29, 30]) hb71 (by decide))).tr (xFr.of (S := [29, 30]) hb80 (by decide))) (List.forall_mem_cons.mpr ⟨xqu29 (show cp29 (wget w75 29) from ⟨(f29_18 + 1), (hb80.get (by decide) (hb71.get (by decide) (hb59.get (by decide) (hb47.get (by decide) hq37.1)))), by omega⟩), List.forall_mem_cons.mpr ⟨xqu30 (show cpI 24 13 4294967295 (wget w75 30) from ⟨_, hr78, hb79⟩), fun _ h => absurd h List.not_mem_nil⟩⟩), (((((xFr.of (S := [29, 30]) hq37.2 (by decide)).tr (xFr.of (S := [29, 30]) hb47 (by decide))).tr (xFr.of (S := [29, 30]) hb59 (by decide))).tr (xFr.of (S := [29, 30]) hb71 (by decide))).tr (xFr.of (S := [29, 30]) hb80 (by decide))), ⟨by omega, fun j hj => (rwv_of hr78 (by omega)).trans (Eq.trans (by rw [hk82 j (by omega), hk73 j (by omega), hk61 j (by omega), hk49 j (by omega)]) (rwv_of h30_22 (by omega)).symm), hn90, hq91.trans (by omega)⟩⟩
  · refine xg_t (xg_ifF (u := f27_1) rfl xnm0 (xj_eqF hc74)) ?_
    refine xg_t (xg_const) ?_
    refine xg_t (xg_goto) ?_
    refine xg_t (xg_blq rfl) ?_
    refine xg_cVv mX5_put (vs := [(0, f29_18), (0, 3), (0, 1)]) (rest := []) (cn1 := 0) (sl1 := 0) rfl (rputX (lim := 6) (wd := 4) (B := 4294967295) (hb71.get (by decide) (hb59.get (by decide) (hb47.get (by decide) hq37.1))) hr69 (hb70) (by decide) (by omega) (by decide) (by decide) (by omega) (by decide) (by omega)) rfl (hb71.get (by decide) (hb59.get (by decide) (hb47.get (by decide) hq37.1))) rfl rfl rfl rfl rfl rfl (fun w93 hq94 => ?_)
    obtain ⟨g95, hr96, hb97, he99, hk100, hb98⟩ := hq94
    refine xg_t (xg_blq rfl) ?_
    refine xg_t (xg_iload (va := (0, 0)) rfl rfl) ?_
    refine xg_t (xg_const) ?_
    refine xg_t (xg_icT (u := 0) (v := 4) rfl xnm0 xnm0 (by decide)) ?_
    refine xg_t (xg_blq rfl) ?_
    have hq101 : fld w93 29 3 = (f29_18 + 1) := fld_of (hb98.get (by decide) (hb71.get (by decide) (hb59.get (by decide) (hb47.get (by decide) hq37.1))))
    have hq103 : 4 * fld w 29 3 = f29_18 * 4 + 0 := by omega
    have hq102 : rwv w93 30 (4 * fld w 29 3) = u38 := by
      rw [hq103, rwv_of hr96 (by omega), hk100 _ (by omega), hk73 _ (by omega), hk61 _ (by omega), he48]
    have hq105 : 4 * fld w 29 3 + 1 = f29_18 * 4 + 1 := by omega
    have hq104 : rwv w93 30 (4 * fld w 29 3 + 1) = u50 := by
      rw [hq105, rwv_of hr96 (by omega), hk100 _ (by omega), hk73 _ (by omega), he60]
    have hq107 : 4 * fld w 29 3 + 2 = f29_18 * 4 + 2 := by omega
    have hq106 : rwv w93 30 (4 * fld w 29 3 + 2) = u62 := by
      rw [hq107, rwv_of hr96 (by omega), hk100 _ (by omega), he72]
    have hn108 : ∀ t, t < 3 → rwv w93 30 (4 * fld w 29 3 + t) = rwv w 39 t := fun t ht => by
      rcases (show t = 0 ∨ t = 1 ∨ t = 2 by omega) with rfl | rfl | rfl
      · exact hq102.trans hv41.symm
      · exact hq104.trans hv53.symm
      · exact hq106.trans hv65.symm
    have hq110 : 4 * fld w 29 3 + 3 = f29_18 * 4 + 3 := by omega
    have hq109 : rwv w93 30 (4 * fld w 29 3 + 3) = 1 := by
      rw [hq110, rwv_of hr96 (by omega), he99]
    exact xg_e ⟨w93, ⟨rfl, rfl⟩, xInv.up (S := [29, 30]) hI (((((xFr.of (S := [29, 30]) hq37.2 (by decide)).tr (xFr.of (S := [29, 30]) hb47 (by decide))).tr (xFr.of (S := [29, 30]) hb59 (by decide))).tr (xFr.of (S := [29, 30]) hb71 (by decide))).tr (xFr.of (S := [29, 30]) hb98 (by decide))) (List.forall_mem_cons.mpr ⟨xqu29 (show cp29 (wget w93 29) from ⟨(f29_18 + 1), (hb98.get (by decide) (hb71.get (by decide) (hb59.get (by decide) (hb47.get (by decide) hq37.1)))), by omega⟩), List.forall_mem_cons.mpr ⟨xqu30 (show cpI 24 13 4294967295 (wget w93 30) from ⟨_, hr96, hb97⟩), fun _ h => absurd h List.not_mem_nil⟩⟩), (((((xFr.of (S := [29, 30]) hq37.2 (by decide)).tr (xFr.of (S := [29, 30]) hb47 (by decide))).tr (xFr.of (S := [29, 30]) hb59 (by decide))).tr (xFr.of (S := [29, 30]) hb71 (by decide))).tr (xFr.of (S := [29, 30]) hb98 (by decide))), ⟨by omega, fun j hj => (rwv_of hr96 (by omega)).trans (Eq.trans (by rw [hk100 j (by omega), hk73 j (by omega), hk61 j (by omega), hk49 j (by omega)]) (rwv_of h30_22 (by omega)).symm), hn108, hq109.trans (by omega)⟩⟩
theorem ftTakeX1 {pc_ : Nat} (hI : xInv w) (h1 : pc_ ≤ 4294967295) (hz : fld w 31 3 < 4) : xPq (d + 2) mX2_take [(2, 27), (0, 1), (0, pc_)] w bd fc rr [] (fun w' => xInv w' ∧ xFr [31, 32] w w' ∧ (fld w' 31 3 = fld w 31 3 + 1 ∧ (∀ j, j < 2 * fld w 31 3 → rwv w' 32 j = rwv w 32 j) ∧ (∀ t, t < 2 → rwv w' 32 (2 * fld w 31 3 + t) = rwv w 39 t))) := by
  refine xPq.of ?_
  show xTo (d + 2) mX2_take (0, [], [(0, (2, 27)), (1, (0, 1)), (2, (0, pc_))], [], (w, bd, fc, 0, 0, rr)) (fun φ => ∃ w', xEnd 0 [] (w', bd, fc, 0, 0, rr) φ ∧ xInv w' ∧ xFr [31, 32] w w' ∧ (fld w' 31 3 = fld w 31 3 + 1 ∧ (∀ j, j < 2 * fld w 31 3 → rwv w' 32 j = rwv w 32 j) ∧ (∀ t, t < 2 → rwv w' 32 (2 * fld w 31 3 + t) = rwv w 39 t)))
  refine xoC27 (xqc27 hI : cp27 (wget w 27)) (fun f27_1 f27_3 f27_5 f27_7 f27_9 h27_11 hb2 hb4 hb6 hb8 hb10 => ?_)
  refine xoI (xqc39 hI : cpI 3 18 4294967295 (wget w 39)) (fun g39_12 h39_13 hb14 => ?_)
  refine xoI (xqc41 hI : cpI 20 20 4294967295 (wget w 41)) (fun g41_15 h41_16 hb17 => ?_)
  obtain ⟨f31_18, h31_20, hb19⟩ := (xqc31 hI : cp31 (wget w 31))
  refine xoI (xqc32 hI : cpI 8 14 4294967295 (wget w 32)) (fun g32_21 h32_22 hb23 => ?_)
  have hq24 : fld w 27 6 = f27_1 := fld_of h27_11
  have hsz : fld w 31 3 = f31_18 := fld_of h31_20
  refine xg_t (xg_blq rfl) ?_
  refine xg_t (xg_iload (va := (0, 1)) rfl rfl) ?_
  refine xg_t (xg_const) ?_
  refine xg_t (xg_icT (u := 1) (v := 5) rfl xnm0 xnm0 (by decide)) ?_
  refine xg_t (xg_blq rfl) ?_
  refine xg_t (xg_iload (va := (0, 1)) rfl rfl) ?_
  refine xg_t (xg_bip) ?_
  refine xg_t (xg_icT (u := 1) (v := 6) rfl xnm0 xnm0 (by decide)) ?_
  refine xg_t (xg_blq rfl) ?_
  refine xg_t (xg_aload (va := (2, 27)) rfl rfl) ?_
  refine xg_t (xg_getf (va := (2, 28)) h27_11 rfl) ?_
  refine xg_t (xg_iload (va := (0, 1)) rfl rfl) ?_
  refine xoC28 (xqc28 hI : cp28 (wget w 28)) (fun f28_25 f28_27 f28_29 f28_31 f28_33 h28_35 hb26 hb28 hb30 hb32 hb34 => ?_)
  refine xg_t (xg_cVr mX1_rowsOf (vs := [(0, 1)]) (rest := []) (rs := [(2, 31)]) (cn1 := 0) (sl1 := 0) rfl (rowsX1 hI) rfl h28_35 rfl rfl rfl rfl rfl rfl rfl) ?_
  refine xg_t (xg_astore (l1 := [(0, (2, 27)), (1, (0, 1)), (2, (0, pc_))]) rfl rfl rfl) ?_
  refine xg_t (xg_aload (va := (2, 31)) rfl rfl) ?_
  refine xg_t (xg_ifnullF) ?_
  refine xg_t (xg_aload (va := (2, 31)) rfl rfl) ?_
  refine xg_t (xg_cVr mX5_isFull (vs := []) (rest := []) (rs := [(0, if 4 ≤ f31_18 then 1 else 0)]) (cn1 := 0) (sl1 := 0) rfl (rfull_ok h31_20 (by decide) (by omega)) rfl h31_20 rfl rfl rfl rfl rfl rfl rfl) ?_
  refine xg_t (xg_ifT (u := (if 4 ≤ f31_18 then 1 else 0)) rfl xnm0 (xj_eqT (xite0 (by omega)))) ?_
  refine xg_t (xg_blq rfl) ?_
  refine xg_t (xg_aload (va := (2, 31)) rfl rfl) ?_
  refine xg_cV mX5_grow (vs := []) (rest := []) (rs := [(0, f31_18)]) (cn1 := 0) (sl1 := 0) rfl (rgrowX h31_20 (by decide) (by omega)) rfl h31_20 rfl rfl rfl rfl rfl rfl rfl (fun w36 hq37 => ?_)
  refine xg_t (xg_istore (l1 := [(3, (2, 31)), (0, (2, 27)), (1, (0, 1)), (2, (0, pc_))]) rfl rfl rfl) ?_
  refine xg_t (xg_const) ?_
  refine xg_t (xg_istore (l1 := [(4, (0, f31_18)), (3, (2, 31)), (0, (2, 27)), (1, (0, 1)), (2, (0, pc_))]) rfl rfl rfl) ?_
  refine xg_t (xg_blq rfl) ?_
  refine xg_t (xg_iload (va := (0, 0)) rfl rfl) ?_
  refine xg_t (xg_gets) ?_
  refine xg_t (xg_iload (va := (0, 1)) rfl rfl) ?_
  refine xg_t (xg_ald8L (n := 1) (u := 2) xnm0 rfl rfl) ?_
  refine xg_t (xg_icF (u := 0) (v := 2) rfl xnm0 xnm0 (by decide)) ?_
  refine xg_t (xg_iload (va := (0, 0)) rfl rfl) ?_
  refine xg_t (xg_const) ?_
  refine xg_t (xg_icF (u := 0) (v := 3) rfl xnm0 xnm0 (by decide)) ?_
  refine xg_t (xg_aload (va := (2, 31)) rfl rfl) ?_
  refine xg_t (xg_iload (va := (0, f31_18)) rfl rfl) ?_
  refine xg_t (xg_iload (va := (0, 0)) rfl rfl) ?_
  refine xg_t (xg_aload (va := (2, 27)) rfl rfl) ?_
  refine xg_t (xg_getf (va := (2, 39)) (hq37.2.get (by decide) h27_11) rfl) ?_
  refine xg_t (xg_iload (va := (0, 0)) rfl rfl) ?_
  refine xg_ialdB (n := 0) (B := 4294967295) (h39_13.but hq37.2 (by decide)) (hb14) xnm0 (by first | decide | omega) (fun u38 hu39 he40 => ?_)
  have hv41 : rwv w 39 0 = u38 := (rwv_of h39_13 (by decide)).trans he40
  refine xg_cVv mX5_put (vs := [(0, f31_18), (0, 0), (0, u38)]) (rest := []) (cn1 := 0) (sl1 := 0) rfl (rputX (lim := 4) (wd := 2) (B := 4294967295) hq37.1 (h32_22.but hq37.2 (by decide)) (hb23) (by decide) (by omega) (by decide) (by decide) (by omega) (by decide) (by omega)) rfl hq37.1 rfl rfl rfl rfl rfl rfl (fun w42 hq43 => ?_)
  obtain ⟨g44, hr45, hb46, he48, hk49, hb47⟩ := hq43
  refine xg_t (xg_iinc (u := 0) (z := 1) (l1 := [(4, (0, f31_18)), (3, (2, 31)), (0, (2, 27)), (1, (0, 1)), (2, (0, pc_))]) rfl rfl (by decide) rfl) ?_
  refine xg_t (xg_goto) ?_
  refine xg_t (xg_blq rfl) ?_
  refine xg_t (xg_iload (va := (0, 1)) rfl rfl) ?_
  refine xg_t (xg_gets) ?_
  refine xg_t (xg_iload (va := (0, 1)) rfl rfl) ?_
  refine xg_t (xg_ald8L (n := 1) (u := 2) xnm0 rfl rfl) ?_
  refine xg_t (xg_icF (u := 1) (v := 2) rfl xnm0 xnm0 (by decide)) ?_
  refine xg_t (xg_iload (va := (0, 1)) rfl rfl) ?_
  refine xg_t (xg_const) ?_
  refine xg_t (xg_icF (u := 1) (v := 3) rfl xnm0 xnm0 (by decide)) ?_
  refine xg_t (xg_aload (va := (2, 31)) rfl rfl) ?_
  refine xg_t (xg_iload (va := (0, f31_18)) rfl rfl) ?_
  refine xg_t (xg_iload (va := (0, 1)) rfl rfl) ?_
  refine xg_t (xg_aload (va := (2, 27)) rfl rfl) ?_
  refine xg_t (xg_getf (va := (2, 39)) (hb47.get (by decide) (hq37.2.get (by decide) h27_11)) rfl) ?_
  refine xg_t (xg_iload (va := (0, 1)) rfl rfl) ?_
  refine xg_ialdB (n := 1) (B := 4294967295) ((h39_13.but hq37.2 (by decide)).but hb47 (by decide)) (hb14) xnm0 (by first | decide | omega) (fun u50 hu51 he52 => ?_)
  have hv53 : rwv w 39 1 = u50 := (rwv_of h39_13 (by decide)).trans he52
  refine xg_cVv mX5_put (vs := [(0, f31_18), (0, 1), (0, u50)]) (rest := []) (cn1 := 0) (sl1 := 0) rfl (rputX (lim := 4) (wd := 2) (B := 4294967295) (hb47.get (by decide) hq37.1) hr45 (hb46) (by decide) (by omega) (by decide) (by decide) (by omega) (by decide) (by omega)) rfl (hb47.get (by decide) hq37.1) rfl rfl rfl rfl rfl rfl (fun w54 hq55 => ?_)
  obtain ⟨g56, hr57, hb58, he60, hk61, hb59⟩ := hq55
  refine xg_t (xg_iinc (u := 1) (z := 2) (l1 := [(4, (0, f31_18)), (3, (2, 31)), (0, (2, 27)), (1, (0, 1)), (2, (0, pc_))]) rfl rfl (by decide) rfl) ?_
  refine xg_t (xg_goto) ?_
  refine xg_t (xg_blq rfl) ?_
  refine xg_t (xg_iload (va := (0, 2)) rfl rfl) ?_
  refine xg_t (xg_gets) ?_
  refine xg_t (xg_iload (va := (0, 1)) rfl rfl) ?_
  refine xg_t (xg_ald8L (n := 1) (u := 2) xnm0 rfl rfl) ?_
  refine xg_t (xg_icT (u := 2) (v := 2) rfl xnm0 xnm0 (by decide)) ?_
  refine xg_t (xg_blq rfl) ?_
  refine xg_t (xg_iload (va := (0, 1)) rfl rfl) ?_
  refine xg_t (xg_ifT (u := 1) rfl xnm0 (by decide)) ?_
  refine xg_t (xg_blq rfl) ?_
  refine xg_t (xg_iload (va := (0, 1)) rfl rfl) ?_
  refine xg_t (xg_const) ?_
  refine xg_t (xg_icT (u := 1) (v := 4) rfl xnm0 xnm0 (by decide)) ?_
  refine xg_t (xg_blq rfl) ?_
  have hq62 : fld w54 31 3 = (f31_18 + 1) := fld_of (hb59.get (by decide) (hb47.get (by decide) hq37.1))
  have hq64 : 2 * fld w 31 3 = f31_18 * 2 + 0 := by omega
  have hq63 : rwv w54 32 (2 * fld w 31 3) = u38 := by
    rw [hq64, rwv_of hr57 (by omega), hk61 _ (by omega), he48]
  have hq66 : 2 * fld w 31 3 + 1 = f31_18 * 2 + 1 := by omega
  have hq65 : rwv w54 32 (2 * fld w 31 3 + 1) = u50 := by
    rw [hq66, rwv_of hr57 (by omega), he60]
  have hn67 : ∀ t, t < 2 → rwv w54 32 (2 * fld w 31 3 + t) = rwv w 39 t := fun t ht => by
    rcases (show t = 0 ∨ t = 1 by omega) with rfl | rfl
    · exact hq63.trans hv41.symm
    · exact hq65.trans hv53.symm
  exact xg_e ⟨w54, ⟨rfl, rfl⟩, xInv.up (S := [31, 32]) hI (((xFr.of (S := [31, 32]) hq37.2 (by decide)).tr (xFr.of (S := [31, 32]) hb47 (by decide))).tr (xFr.of (S := [31, 32]) hb59 (by decide))) (List.forall_mem_cons.mpr ⟨xqu31 (show cp31 (wget w54 31) from ⟨(f31_18 + 1), (hb59.get (by decide) (hb47.get (by decide) hq37.1)), by omega⟩), List.forall_mem_cons.mpr ⟨xqu32 (show cpI 8 14 4294967295 (wget w54 32) from ⟨_, hr57, hb58⟩), fun _ h => absurd h List.not_mem_nil⟩⟩), (((xFr.of (S := [31, 32]) hq37.2 (by decide)).tr (xFr.of (S := [31, 32]) hb47 (by decide))).tr (xFr.of (S := [31, 32]) hb59 (by decide))), ⟨by omega, fun j hj => (rwv_of hr57 (by omega)).trans (Eq.trans (by rw [hk61 j (by omega), hk49 j (by omega)]) (rwv_of h32_22 (by omega)).symm), hn67⟩⟩
theorem ftTakeX2 {pc_ : Nat} (hI : xInv w) (h1 : pc_ ≤ 4294967295) (hz : fld w 33 3 < 6) : xPq (d + 2) mX2_take [(2, 27), (0, 2), (0, pc_)] w bd fc rr [] (fun w' => xInv w' ∧ xFr [33, 34] w w' ∧ (fld w' 33 3 = fld w 33 3 + 1 ∧ (∀ j, j < 2 * fld w 33 3 → rwv w' 34 j = rwv w 34 j) ∧ (∀ t, t < 2 → rwv w' 34 (2 * fld w 33 3 + t) = rwv w 39 t))) := by
  refine xPq.of ?_
  show xTo (d + 2) mX2_take (0, [], [(0, (2, 27)), (1, (0, 2)), (2, (0, pc_))], [], (w, bd, fc, 0, 0, rr)) (fun φ => ∃ w', xEnd 0 [] (w', bd, fc, 0, 0, rr) φ ∧ xInv w' ∧ xFr [33, 34] w w' ∧ (fld w' 33 3 = fld w 33 3 + 1 ∧ (∀ j, j < 2 * fld w 33 3 → rwv w' 34 j = rwv w 34 j) ∧ (∀ t, t < 2 → rwv w' 34 (2 * fld w 33 3 + t) = rwv w 39 t)))
  refine xoC27 (xqc27 hI : cp27 (wget w 27)) (fun f27_1 f27_3 f27_5 f27_7 f27_9 h27_11 hb2 hb4 hb6 hb8 hb10 => ?_)
  refine xoI (xqc39 hI : cpI 3 18 4294967295 (wget w 39)) (fun g39_12 h39_13 hb14 => ?_)
  refine xoI (xqc41 hI : cpI 20 20 4294967295 (wget w 41)) (fun g41_15 h41_16 hb17 => ?_)
  obtain ⟨f33_18, h33_20, hb19⟩ := (xqc33 hI : cp33 (wget w 33))
  refine xoI (xqc34 hI : cpI 12 15 4294967295 (wget w 34)) (fun g34_21 h34_22 hb23 => ?_)
  have hq24 : fld w 27 6 = f27_1 := fld_of h27_11
  have hsz : fld w 33 3 = f33_18 := fld_of h33_20
  refine xg_t (xg_blq rfl) ?_
  refine xg_t (xg_iload (va := (0, 2)) rfl rfl) ?_
  refine xg_t (xg_const) ?_
  refine xg_t (xg_icT (u := 2) (v := 5) rfl xnm0 xnm0 (by decide)) ?_
  refine xg_t (xg_blq rfl) ?_
  refine xg_t (xg_iload (va := (0, 2)) rfl rfl) ?_
  refine xg_t (xg_bip) ?_
  refine xg_t (xg_icT (u := 2) (v := 6) rfl xnm0 xnm0 (by decide)) ?_
  refine xg_t (xg_blq rfl) ?_
  refine xg_t (xg_aload (va := (2, 27)) rfl rfl) ?_
  refine xg_t (xg_getf (va := (2, 28)) h27_11 rfl) ?_
  refine xg_t (xg_iload (va := (0, 2)) rfl rfl) ?_
  refine xoC28 (xqc28 hI : cp28 (wget w 28)) (fun f28_25 f28_27 f28_29 f28_31 f28_33 h28_35 hb26 hb28 hb30 hb32 hb34 => ?_)
  refine xg_t (xg_cVr mX1_rowsOf (vs := [(0, 2)]) (rest := []) (rs := [(2, 33)]) (cn1 := 0) (sl1 := 0) rfl (rowsX2 hI) rfl h28_35 rfl rfl rfl rfl rfl rfl rfl) ?_
  refine xg_t (xg_astore (l1 := [(0, (2, 27)), (1, (0, 2)), (2, (0, pc_))]) rfl rfl rfl) ?_
  refine xg_t (xg_aload (va := (2, 33)) rfl rfl) ?_
  refine xg_t (xg_ifnullF) ?_
  refine xg_t (xg_aload (va := (2, 33)) rfl rfl) ?_
  refine xg_t (xg_cVr mX5_isFull (vs := []) (rest := []) (rs := [(0, if 6 ≤ f33_18 then 1 else 0)]) (cn1 := 0) (sl1 := 0) rfl (rfull_ok h33_20 (by decide) (by omega)) rfl h33_20 rfl rfl rfl rfl rfl rfl rfl) ?_
  refine xg_t (xg_ifT (u := (if 6 ≤ f33_18 then 1 else 0)) rfl xnm0 (xj_eqT (xite0 (by omega)))) ?_
  refine xg_t (xg_blq rfl) ?_
  refine xg_t (xg_aload (va := (2, 33)) rfl rfl) ?_
  refine xg_cV mX5_grow (vs := []) (rest := []) (rs := [(0, f33_18)]) (cn1 := 0) (sl1 := 0) rfl (rgrowX h33_20 (by decide) (by omega)) rfl h33_20 rfl rfl rfl rfl rfl rfl rfl (fun w36 hq37 => ?_)
  refine xg_t (xg_istore (l1 := [(3, (2, 33)), (0, (2, 27)), (1, (0, 2)), (2, (0, pc_))]) rfl rfl rfl) ?_
  refine xg_t (xg_const) ?_
  refine xg_t (xg_istore (l1 := [(4, (0, f33_18)), (3, (2, 33)), (0, (2, 27)), (1, (0, 2)), (2, (0, pc_))]) rfl rfl rfl) ?_
  refine xg_t (xg_blq rfl) ?_
  refine xg_t (xg_iload (va := (0, 0)) rfl rfl) ?_
  refine xg_t (xg_gets) ?_
  refine xg_t (xg_iload (va := (0, 2)) rfl rfl) ?_
  refine xg_t (xg_ald8L (n := 2) (u := 2) xnm0 rfl rfl) ?_
  refine xg_t (xg_icF (u := 0) (v := 2) rfl xnm0 xnm0 (by decide)) ?_
  refine xg_t (xg_iload (va := (0, 0)) rfl rfl) ?_
  refine xg_t (xg_const) ?_
  refine xg_t (xg_icF (u := 0) (v := 3) rfl xnm0 xnm0 (by decide)) ?_
  refine xg_t (xg_aload (va := (2, 33)) rfl rfl) ?_
  refine xg_t (xg_iload (va := (0, f33_18)) rfl rfl) ?_
  refine xg_t (xg_iload (va := (0, 0)) rfl rfl) ?_
  refine xg_t (xg_aload (va := (2, 27)) rfl rfl) ?_
  refine xg_t (xg_getf (va := (2, 39)) (hq37.2.get (by decide) h27_11) rfl) ?_
  refine xg_t (xg_iload (va := (0, 0)) rfl rfl) ?_
  refine xg_ialdB (n := 0) (B := 4294967295) (h39_13.but hq37.2 (by decide)) (hb14) xnm0 (by first | decide | omega) (fun u38 hu39 he40 => ?_)
  have hv41 : rwv w 39 0 = u38 := (rwv_of h39_13 (by decide)).trans he40
  refine xg_cVv mX5_put (vs := [(0, f33_18), (0, 0), (0, u38)]) (rest := []) (cn1 := 0) (sl1 := 0) rfl (rputX (lim := 6) (wd := 2) (B := 4294967295) hq37.1 (h34_22.but hq37.2 (by decide)) (hb23) (by decide) (by omega) (by decide) (by decide) (by omega) (by decide) (by omega)) rfl hq37.1 rfl rfl rfl rfl rfl rfl (fun w42 hq43 => ?_)
  obtain ⟨g44, hr45, hb46, he48, hk49, hb47⟩ := hq43
  refine xg_t (xg_iinc (u := 0) (z := 1) (l1 := [(4, (0, f33_18)), (3, (2, 33)), (0, (2, 27)), (1, (0, 2)), (2, (0, pc_))]) rfl rfl (by decide) rfl) ?_
  refine xg_t (xg_goto) ?_
  refine xg_t (xg_blq rfl) ?_
  refine xg_t (xg_iload (va := (0, 1)) rfl rfl) ?_
  refine xg_t (xg_gets) ?_
  refine xg_t (xg_iload (va := (0, 2)) rfl rfl) ?_
  refine xg_t (xg_ald8L (n := 2) (u := 2) xnm0 rfl rfl) ?_
  refine xg_t (xg_icF (u := 1) (v := 2) rfl xnm0 xnm0 (by decide)) ?_
  refine xg_t (xg_iload (va := (0, 1)) rfl rfl) ?_
  refine xg_t (xg_const) ?_
  refine xg_t (xg_icF (u := 1) (v := 3) rfl xnm0 xnm0 (by decide)) ?_
  refine xg_t (xg_aload (va := (2, 33)) rfl rfl) ?_
  refine xg_t (xg_iload (va := (0, f33_18)) rfl rfl) ?_
  refine xg_t (xg_iload (va := (0, 1)) rfl rfl) ?_
  refine xg_t (xg_aload (va := (2, 27)) rfl rfl) ?_
  refine xg_t (xg_getf (va := (2, 39)) (hb47.get (by decide) (hq37.2.get (by decide) h27_11)) rfl) ?_
  refine xg_t (xg_iload (va := (0, 1)) rfl rfl) ?_
  refine xg_ialdB (n := 1) (B := 4294967295) ((h39_13.but hq37.2 (by decide)).but hb47 (by decide)) (hb14) xnm0 (by first | decide | omega) (fun u50 hu51 he52 => ?_)
  have hv53 : rwv w 39 1 = u50 := (rwv_of h39_13 (by decide)).trans he52
  refine xg_cVv mX5_put (vs := [(0, f33_18), (0, 1), (0, u50)]) (rest := []) (cn1 := 0) (sl1 := 0) rfl (rputX (lim := 6) (wd := 2) (B := 4294967295) (hb47.get (by decide) hq37.1) hr45 (hb46) (by decide) (by omega) (by decide) (by decide) (by omega) (by decide) (by omega)) rfl (hb47.get (by decide) hq37.1) rfl rfl rfl rfl rfl rfl (fun w54 hq55 => ?_)
  obtain ⟨g56, hr57, hb58, he60, hk61, hb59⟩ := hq55
  refine xg_t (xg_iinc (u := 1) (z := 2) (l1 := [(4, (0, f33_18)), (3, (2, 33)), (0, (2, 27)), (1, (0, 2)), (2, (0, pc_))]) rfl rfl (by decide) rfl) ?_
  refine xg_t (xg_goto) ?_
  refine xg_t (xg_blq rfl) ?_
  refine xg_t (xg_iload (va := (0, 2)) rfl rfl) ?_
  refine xg_t (xg_gets) ?_
  refine xg_t (xg_iload (va := (0, 2)) rfl rfl) ?_
  refine xg_t (xg_ald8L (n := 2) (u := 2) xnm0 rfl rfl) ?_
  refine xg_t (xg_icT (u := 2) (v := 2) rfl xnm0 xnm0 (by decide)) ?_
  refine xg_t (xg_blq rfl) ?_
  refine xg_t (xg_iload (va := (0, 2)) rfl rfl) ?_
  refine xg_t (xg_ifT (u := 2) rfl xnm0 (by decide)) ?_
  refine xg_t (xg_blq rfl) ?_
  refine xg_t (xg_iload (va := (0, 2)) rfl rfl) ?_
  refine xg_t (xg_const) ?_
  refine xg_t (xg_icT (u := 2) (v := 4) rfl xnm0 xnm0 (by decide)) ?_
  refine xg_t (xg_blq rfl) ?_
  have hq62 : fld w54 33 3 = (f33_18 + 1) := fld_of (hb59.get (by decide) (hb47.get (by decide) hq37.1))
  have hq64 : 2 * fld w 33 3 = f33_18 * 2 + 0 := by omega
  have hq63 : rwv w54 34 (2 * fld w 33 3) = u38 := by
    rw [hq64, rwv_of hr57 (by omega), hk61 _ (by omega), he48]
  have hq66 : 2 * fld w 33 3 + 1 = f33_18 * 2 + 1 := by omega
  have hq65 : rwv w54 34 (2 * fld w 33 3 + 1) = u50 := by
    rw [hq66, rwv_of hr57 (by omega), he60]
  have hn67 : ∀ t, t < 2 → rwv w54 34 (2 * fld w 33 3 + t) = rwv w 39 t := fun t ht => by
    rcases (show t = 0 ∨ t = 1 by omega) with rfl | rfl
    · exact hq63.trans hv41.symm
    · exact hq65.trans hv53.symm
  exact xg_e ⟨w54, ⟨rfl, rfl⟩, xInv.up (S := [33, 34]) hI (((xFr.of (S := [33, 34]) hq37.2 (by decide)).tr (xFr.of (S := [33, 34]) hb47 (by decide))).tr (xFr.of (S := [33, 34]) hb59 (by decide))) (List.forall_mem_cons.mpr ⟨xqu33 (show cp33 (wget w54 33) from ⟨(f33_18 + 1), (hb59.get (by decide) (hb47.get (by decide) hq37.1)), by omega⟩), List.forall_mem_cons.mpr ⟨xqu34 (show cpI 12 15 4294967295 (wget w54 34) from ⟨_, hr57, hb58⟩), fun _ h => absurd h List.not_mem_nil⟩⟩), (((xFr.of (S := [33, 34]) hq37.2 (by decide)).tr (xFr.of (S := [33, 34]) hb47 (by decide))).tr (xFr.of (S := [33, 34]) hb59 (by decide))), ⟨by omega, fun j hj => (rwv_of hr57 (by omega)).trans (Eq.trans (by rw [hk61 j (by omega), hk49 j (by omega)]) (rwv_of h34_22 (by omega)).symm), hn67⟩⟩
theorem ftTakeX3 {pc_ : Nat} (hI : xInv w) (h1 : pc_ ≤ 4294967295) (hz : fld w 35 3 < 4) : xPq (d + 2) mX2_take [(2, 27), (0, 3), (0, pc_)] w bd fc rr [] (fun w' => xInv w' ∧ xFr [35, 36] w w' ∧ (fld w' 35 3 = fld w 35 3 + 1 ∧ (∀ j, j < 3 * fld w 35 3 → rwv w' 36 j = rwv w 36 j) ∧ (∀ t, t < 3 → rwv w' 36 (3 * fld w 35 3 + t) = rwv w 39 t))) := by
  refine xPq.of ?_
  show xTo (d + 2) mX2_take (0, [], [(0, (2, 27)), (1, (0, 3)), (2, (0, pc_))], [], (w, bd, fc, 0, 0, rr)) (fun φ => ∃ w', xEnd 0 [] (w', bd, fc, 0, 0, rr) φ ∧ xInv w' ∧ xFr [35, 36] w w' ∧ (fld w' 35 3 = fld w 35 3 + 1 ∧ (∀ j, j < 3 * fld w 35 3 → rwv w' 36 j = rwv w 36 j) ∧ (∀ t, t < 3 → rwv w' 36 (3 * fld w 35 3 + t) = rwv w 39 t)))
  refine xoC27 (xqc27 hI : cp27 (wget w 27)) (fun f27_1 f27_3 f27_5 f27_7 f27_9 h27_11 hb2 hb4 hb6 hb8 hb10 => ?_)
  refine xoI (xqc39 hI : cpI 3 18 4294967295 (wget w 39)) (fun g39_12 h39_13 hb14 => ?_)
  refine xoI (xqc41 hI : cpI 20 20 4294967295 (wget w 41)) (fun g41_15 h41_16 hb17 => ?_)
  obtain ⟨f35_18, h35_20, hb19⟩ := (xqc35 hI : cp35 (wget w 35))
  refine xoI (xqc36 hI : cpI 12 16 4294967295 (wget w 36)) (fun g36_21 h36_22 hb23 => ?_)
  have hq24 : fld w 27 6 = f27_1 := fld_of h27_11
  have hsz : fld w 35 3 = f35_18 := fld_of h35_20
  refine xg_t (xg_blq rfl) ?_
  refine xg_t (xg_iload (va := (0, 3)) rfl rfl) ?_
  refine xg_t (xg_const) ?_
  refine xg_t (xg_icT (u := 3) (v := 5) rfl xnm0 xnm0 (by decide)) ?_
  refine xg_t (xg_blq rfl) ?_
  refine xg_t (xg_iload (va := (0, 3)) rfl rfl) ?_
  refine xg_t (xg_bip) ?_
  refine xg_t (xg_icT (u := 3) (v := 6) rfl xnm0 xnm0 (by decide)) ?_
  refine xg_t (xg_blq rfl) ?_
  refine xg_t (xg_aload (va := (2, 27)) rfl rfl) ?_
  refine xg_t (xg_getf (va := (2, 28)) h27_11 rfl) ?_
  refine xg_t (xg_iload (va := (0, 3)) rfl rfl) ?_
  refine xoC28 (xqc28 hI : cp28 (wget w 28)) (fun f28_25 f28_27 f28_29 f28_31 f28_33 h28_35 hb26 hb28 hb30 hb32 hb34 => ?_)
  refine xg_t (xg_cVr mX1_rowsOf (vs := [(0, 3)]) (rest := []) (rs := [(2, 35)]) (cn1 := 0) (sl1 := 0) rfl (rowsX3 hI) rfl h28_35 rfl rfl rfl rfl rfl rfl rfl) ?_
  refine xg_t (xg_astore (l1 := [(0, (2, 27)), (1, (0, 3)), (2, (0, pc_))]) rfl rfl rfl) ?_
  refine xg_t (xg_aload (va := (2, 35)) rfl rfl) ?_
  refine xg_t (xg_ifnullF) ?_
  refine xg_t (xg_aload (va := (2, 35)) rfl rfl) ?_
  refine xg_t (xg_cVr mX5_isFull (vs := []) (rest := []) (rs := [(0, if 4 ≤ f35_18 then 1 else 0)]) (cn1 := 0) (sl1 := 0) rfl (rfull_ok h35_20 (by decide) (by omega)) rfl h35_20 rfl rfl rfl rfl rfl rfl rfl) ?_
  refine xg_t (xg_ifT (u := (if 4 ≤ f35_18 then 1 else 0)) rfl xnm0 (xj_eqT (xite0 (by omega)))) ?_
  refine xg_t (xg_blq rfl) ?_
  refine xg_t (xg_aload (va := (2, 35)) rfl rfl) ?_
  refine xg_cV mX5_grow (vs := []) (rest := []) (rs := [(0, f35_18)]) (cn1 := 0) (sl1 := 0) rfl (rgrowX h35_20 (by decide) (by omega)) rfl h35_20 rfl rfl rfl rfl rfl rfl rfl (fun w36 hq37 => ?_)
  refine xg_t (xg_istore (l1 := [(3, (2, 35)), (0, (2, 27)), (1, (0, 3)), (2, (0, pc_))]) rfl rfl rfl) ?_
  refine xg_t (xg_const) ?_
  refine xg_t (xg_istore (l1 := [(4, (0, f35_18)), (3, (2, 35)), (0, (2, 27)), (1, (0, 3)), (2, (0, pc_))]) rfl rfl rfl) ?_
  refine xg_t (xg_blq rfl) ?_
  refine xg_t (xg_iload (va := (0, 0)) rfl rfl) ?_
  refine xg_t (xg_gets) ?_
  refine xg_t (xg_iload (va := (0, 3)) rfl rfl) ?_
  refine xg_t (xg_ald8L (n := 3) (u := 3) xnm0 rfl rfl) ?_
  refine xg_t (xg_icF (u := 0) (v := 3) rfl xnm0 xnm0 (by decide)) ?_
  refine xg_t (xg_iload (va := (0, 0)) rfl rfl) ?_
  refine xg_t (xg_const) ?_
  refine xg_t (xg_icF (u := 0) (v := 3) rfl xnm0 xnm0 (by decide)) ?_
  refine xg_t (xg_aload (va := (2, 35)) rfl rfl) ?_
  refine xg_t (xg_iload (va := (0, f35_18)) rfl rfl) ?_
  refine xg_t (xg_iload (va := (0, 0)) rfl rfl) ?_
  refine xg_t (xg_aload (va := (2, 27)) rfl rfl) ?_
  refine xg_t (xg_getf (va := (2, 39)) (hq37.2.get (by decide) h27_11) rfl) ?_
  refine xg_t (xg_iload (va := (0, 0)) rfl rfl) ?_
  refine xg_ialdB (n := 0) (B := 4294967295) (h39_13.but hq37.2 (by decide)) (hb14) xnm0 (by first | decide | omega) (fun u38 hu39 he40 => ?_)
  have hv41 : rwv w 39 0 = u38 := (rwv_of h39_13 (by decide)).trans he40
  refine xg_cVv mX5_put (vs := [(0, f35_18), (0, 0), (0, u38)]) (rest := []) (cn1 := 0) (sl1 := 0) rfl (rputX (lim := 4) (wd := 3) (B := 4294967295) hq37.1 (h36_22.but hq37.2 (by decide)) (hb23) (by decide) (by omega) (by decide) (by decide) (by omega) (by decide) (by omega)) rfl hq37.1 rfl rfl rfl rfl rfl rfl (fun w42 hq43 => ?_)
  obtain ⟨g44, hr45, hb46, he48, hk49, hb47⟩ := hq43
  refine xg_t (xg_iinc (u := 0) (z := 1) (l1 := [(4, (0, f35_18)), (3, (2, 35)), (0, (2, 27)), (1, (0, 3)), (2, (0, pc_))]) rfl rfl (by decide) rfl) ?_
  refine xg_t (xg_goto) ?_
  refine xg_t (xg_blq rfl) ?_
  refine xg_t (xg_iload (va := (0, 1)) rfl rfl) ?_
  refine xg_t (xg_gets) ?_
  refine xg_t (xg_iload (va := (0, 3)) rfl rfl) ?_
  refine xg_t (xg_ald8L (n := 3) (u := 3) xnm0 rfl rfl) ?_
  refine xg_t (xg_icF (u := 1) (v := 3) rfl xnm0 xnm0 (by decide)) ?_
  refine xg_t (xg_iload (va := (0, 1)) rfl rfl) ?_
  refine xg_t (xg_const) ?_
  refine xg_t (xg_icF (u := 1) (v := 3) rfl xnm0 xnm0 (by decide)) ?_
  refine xg_t (xg_aload (va := (2, 35)) rfl rfl) ?_
  refine xg_t (xg_iload (va := (0, f35_18)) rfl rfl) ?_
  refine xg_t (xg_iload (va := (0, 1)) rfl rfl) ?_
  refine xg_t (xg_aload (va := (2, 27)) rfl rfl) ?_
  refine xg_t (xg_getf (va := (2, 39)) (hb47.get (by decide) (hq37.2.get (by decide) h27_11)) rfl) ?_
  refine xg_t (xg_iload (va := (0, 1)) rfl rfl) ?_
  refine xg_ialdB (n := 1) (B := 4294967295) ((h39_13.but hq37.2 (by decide)).but hb47 (by decide)) (hb14) xnm0 (by first | decide | omega) (fun u50 hu51 he52 => ?_)
  have hv53 : rwv w 39 1 = u50 := (rwv_of h39_13 (by decide)).trans he52
  refine xg_cVv mX5_put (vs := [(0, f35_18), (0, 1), (0, u50)]) (rest := []) (cn1 := 0) (sl1 := 0) rfl (rputX (lim := 4) (wd := 3) (B := 4294967295) (hb47.get (by decide) hq37.1) hr45 (hb46) (by decide) (by omega) (by decide) (by decide) (by omega) (by decide) (by omega)) rfl (hb47.get (by decide) hq37.1) rfl rfl rfl rfl rfl rfl (fun w54 hq55 => ?_)
  obtain ⟨g56, hr57, hb58, he60, hk61, hb59⟩ := hq55
  refine xg_t (xg_iinc (u := 1) (z := 2) (l1 := [(4, (0, f35_18)), (3, (2, 35)), (0, (2, 27)), (1, (0, 3)), (2, (0, pc_))]) rfl rfl (by decide) rfl) ?_
  refine xg_t (xg_goto) ?_
  refine xg_t (xg_blq rfl) ?_
  refine xg_t (xg_iload (va := (0, 2)) rfl rfl) ?_
  refine xg_t (xg_gets) ?_
  refine xg_t (xg_iload (va := (0, 3)) rfl rfl) ?_
  refine xg_t (xg_ald8L (n := 3) (u := 3) xnm0 rfl rfl) ?_
  refine xg_t (xg_icF (u := 2) (v := 3) rfl xnm0 xnm0 (by decide)) ?_
  refine xg_t (xg_iload (va := (0, 2)) rfl rfl) ?_
  refine xg_t (xg_const) ?_
  refine xg_t (xg_icF (u := 2) (v := 3) rfl xnm0 xnm0 (by decide)) ?_
  refine xg_t (xg_aload (va := (2, 35)) rfl rfl) ?_
  refine xg_t (xg_iload (va := (0, f35_18)) rfl rfl) ?_
  refine xg_t (xg_iload (va := (0, 2)) rfl rfl) ?_
  refine xg_t (xg_aload (va := (2, 27)) rfl rfl) ?_
  refine xg_t (xg_getf (va := (2, 39)) (hb59.get (by decide) (hb47.get (by decide) (hq37.2.get (by decide) h27_11))) rfl) ?_
  refine xg_t (xg_iload (va := (0, 2)) rfl rfl) ?_
  refine xg_ialdB (n := 2) (B := 4294967295) (((h39_13.but hq37.2 (by decide)).but hb47 (by decide)).but hb59 (by decide)) (hb14) xnm0 (by first | decide | omega) (fun u62 hu63 he64 => ?_)
  have hv65 : rwv w 39 2 = u62 := (rwv_of h39_13 (by decide)).trans he64
  refine xg_cVv mX5_put (vs := [(0, f35_18), (0, 2), (0, u62)]) (rest := []) (cn1 := 0) (sl1 := 0) rfl (rputX (lim := 4) (wd := 3) (B := 4294967295) (hb59.get (by decide) (hb47.get (by decide) hq37.1)) hr57 (hb58) (by decide) (by omega) (by decide) (by decide) (by omega) (by decide) (by omega)) rfl (hb59.get (by decide) (hb47.get (by decide) hq37.1)) rfl rfl rfl rfl rfl rfl (fun w66 hq67 => ?_)
  obtain ⟨g68, hr69, hb70, he72, hk73, hb71⟩ := hq67
  refine xg_t (xg_iinc (u := 2) (z := 3) (l1 := [(4, (0, f35_18)), (3, (2, 35)), (0, (2, 27)), (1, (0, 3)), (2, (0, pc_))]) rfl rfl (by decide) rfl) ?_
  refine xg_t (xg_goto) ?_
  refine xg_t (xg_blq rfl) ?_
  refine xg_t (xg_iload (va := (0, 3)) rfl rfl) ?_
  refine xg_t (xg_gets) ?_
  refine xg_t (xg_iload (va := (0, 3)) rfl rfl) ?_
  refine xg_t (xg_ald8L (n := 3) (u := 3) xnm0 rfl rfl) ?_
  refine xg_t (xg_icT (u := 3) (v := 3) rfl xnm0 xnm0 (by decide)) ?_
  refine xg_t (xg_blq rfl) ?_
  refine xg_t (xg_iload (va := (0, 3)) rfl rfl) ?_
  refine xg_t (xg_ifT (u := 3) rfl xnm0 (by decide)) ?_
  refine xg_t (xg_blq rfl) ?_
  refine xg_t (xg_iload (va := (0, 3)) rfl rfl) ?_
  refine xg_t (xg_const) ?_
  refine xg_t (xg_icT (u := 3) (v := 4) rfl xnm0 xnm0 (by decide)) ?_
  refine xg_t (xg_blq rfl) ?_
  have hq74 : fld w66 35 3 = (f35_18 + 1) := fld_of (hb71.get (by decide) (hb59.get (by decide) (hb47.get (by decide) hq37.1)))
  have hq76 : 3 * fld w 35 3 = f35_18 * 3 + 0 := by omega
  have hq75 : rwv w66 36 (3 * fld w 35 3) = u38 := by
    rw [hq76, rwv_of hr69 (by omega), hk73 _ (by omega), hk61 _ (by omega), he48]
  have hq78 : 3 * fld w 35 3 + 1 = f35_18 * 3 + 1 := by omega
  have hq77 : rwv w66 36 (3 * fld w 35 3 + 1) = u50 := by
    rw [hq78, rwv_of hr69 (by omega), hk73 _ (by omega), he60]
  have hq80 : 3 * fld w 35 3 + 2 = f35_18 * 3 + 2 := by omega
  have hq79 : rwv w66 36 (3 * fld w 35 3 + 2) = u62 := by
    rw [hq80, rwv_of hr69 (by omega), he72]
  have hn81 : ∀ t, t < 3 → rwv w66 36 (3 * fld w 35 3 + t) = rwv w 39 t := fun t ht => by
    rcases (show t = 0 ∨ t = 1 ∨ t = 2 by omega) with rfl | rfl | rfl
    · exact hq75.trans hv41.symm
    · exact hq77.trans hv53.symm
    · exact hq79.trans hv65.symm
  exact xg_e ⟨w66, ⟨rfl, rfl⟩, xInv.up (S := [35, 36]) hI ((((xFr.of (S := [35, 36]) hq37.2 (by decide)).tr (xFr.of (S := [35, 36]) hb47 (by decide))).tr (xFr.of (S := [35, 36]) hb59 (by decide))).tr (xFr.of (S := [35, 36]) hb71 (by decide))) (List.forall_mem_cons.mpr ⟨xqu35 (show cp35 (wget w66 35) from ⟨(f35_18 + 1), (hb71.get (by decide) (hb59.get (by decide) (hb47.get (by decide) hq37.1))), by omega⟩), List.forall_mem_cons.mpr ⟨xqu36 (show cpI 12 16 4294967295 (wget w66 36) from ⟨_, hr69, hb70⟩), fun _ h => absurd h List.not_mem_nil⟩⟩), ((((xFr.of (S := [35, 36]) hq37.2 (by decide)).tr (xFr.of (S := [35, 36]) hb47 (by decide))).tr (xFr.of (S := [35, 36]) hb59 (by decide))).tr (xFr.of (S := [35, 36]) hb71 (by decide))), ⟨by omega, fun j hj => (rwv_of hr69 (by omega)).trans (Eq.trans (by rw [hk73 j (by omega), hk61 j (by omega), hk49 j (by omega)]) (rwv_of h36_22 (by omega)).symm), hn81⟩⟩
theorem ftTakeX4 {pc_ : Nat} (hI : xInv w) (h1 : pc_ ≤ 4294967295) (hz : fld w 37 3 < 20) : xPq (d + 2) mX2_take [(2, 27), (0, 4), (0, pc_)] w bd fc rr [] (fun w' => xInv w' ∧ xFr [37, 38, 41] w w' ∧ (fld w' 37 3 = fld w 37 3 + 1 ∧ (∀ j, j < 2 * fld w 37 3 → rwv w' 38 j = rwv w 38 j) ∧ (∀ t, t < 2 → rwv w' 38 (2 * fld w 37 3 + t) = rwv w 39 t) ∧ rwv w' 41 (fld w 37 3) = pc_ ∧ ∀ j, j < fld w 37 3 → rwv w' 41 j = rwv w 41 j)) := by
  refine xPq.of ?_
  show xTo (d + 2) mX2_take (0, [], [(0, (2, 27)), (1, (0, 4)), (2, (0, pc_))], [], (w, bd, fc, 0, 0, rr)) (fun φ => ∃ w', xEnd 0 [] (w', bd, fc, 0, 0, rr) φ ∧ xInv w' ∧ xFr [37, 38, 41] w w' ∧ (fld w' 37 3 = fld w 37 3 + 1 ∧ (∀ j, j < 2 * fld w 37 3 → rwv w' 38 j = rwv w 38 j) ∧ (∀ t, t < 2 → rwv w' 38 (2 * fld w 37 3 + t) = rwv w 39 t) ∧ rwv w' 41 (fld w 37 3) = pc_ ∧ ∀ j, j < fld w 37 3 → rwv w' 41 j = rwv w 41 j))
  refine xoC27 (xqc27 hI : cp27 (wget w 27)) (fun f27_1 f27_3 f27_5 f27_7 f27_9 h27_11 hb2 hb4 hb6 hb8 hb10 => ?_)
  refine xoI (xqc39 hI : cpI 3 18 4294967295 (wget w 39)) (fun g39_12 h39_13 hb14 => ?_)
  refine xoI (xqc41 hI : cpI 20 20 4294967295 (wget w 41)) (fun g41_15 h41_16 hb17 => ?_)
  obtain ⟨f37_18, h37_20, hb19⟩ := (xqc37 hI : cp37 (wget w 37))
  refine xoI (xqc38 hI : cpI 40 17 4294967295 (wget w 38)) (fun g38_21 h38_22 hb23 => ?_)
  have hq24 : fld w 27 6 = f27_1 := fld_of h27_11
  have hsz : fld w 37 3 = f37_18 := fld_of h37_20
  refine xg_t (xg_blq rfl) ?_
  refine xg_t (xg_iload (va := (0, 4)) rfl rfl) ?_
  refine xg_t (xg_const) ?_
  refine xg_t (xg_icT (u := 4) (v := 5) rfl xnm0 xnm0 (by decide)) ?_
  refine xg_t (xg_blq rfl) ?_
  refine xg_t (xg_iload (va := (0, 4)) rfl rfl) ?_
  refine xg_t (xg_bip) ?_
  refine xg_t (xg_icT (u := 4) (v := 6) rfl xnm0 xnm0 (by decide)) ?_
  refine xg_t (xg_blq rfl) ?_
  refine xg_t (xg_aload (va := (2, 27)) rfl rfl) ?_
  refine xg_t (xg_getf (va := (2, 28)) h27_11 rfl) ?_
  refine xg_t (xg_iload (va := (0, 4)) rfl rfl) ?_
  refine xoC28 (xqc28 hI : cp28 (wget w 28)) (fun f28_25 f28_27 f28_29 f28_31 f28_33 h28_35 hb26 hb28 hb30 hb32 hb34 => ?_)
  refine xg_t (xg_cVr mX1_rowsOf (vs := [(0, 4)]) (rest := []) (rs := [(2, 37)]) (cn1 := 0) (sl1 := 0) rfl (rowsX4 hI) rfl h28_35 rfl rfl rfl rfl rfl rfl rfl) ?_
  refine xg_t (xg_astore (l1 := [(0, (2, 27)), (1, (0, 4)), (2, (0, pc_))]) rfl rfl rfl) ?_
  refine xg_t (xg_aload (va := (2, 37)) rfl rfl) ?_
  refine xg_t (xg_ifnullF) ?_
  refine xg_t (xg_aload (va := (2, 37)) rfl rfl) ?_
  refine xg_t (xg_cVr mX5_isFull (vs := []) (rest := []) (rs := [(0, if 20 ≤ f37_18 then 1 else 0)]) (cn1 := 0) (sl1 := 0) rfl (rfull_ok h37_20 (by decide) (by omega)) rfl h37_20 rfl rfl rfl rfl rfl rfl rfl) ?_
  refine xg_t (xg_ifT (u := (if 20 ≤ f37_18 then 1 else 0)) rfl xnm0 (xj_eqT (xite0 (by omega)))) ?_
  refine xg_t (xg_blq rfl) ?_
  refine xg_t (xg_aload (va := (2, 37)) rfl rfl) ?_
  refine xg_cV mX5_grow (vs := []) (rest := []) (rs := [(0, f37_18)]) (cn1 := 0) (sl1 := 0) rfl (rgrowX h37_20 (by decide) (by omega)) rfl h37_20 rfl rfl rfl rfl rfl rfl rfl (fun w36 hq37 => ?_)
  refine xg_t (xg_istore (l1 := [(3, (2, 37)), (0, (2, 27)), (1, (0, 4)), (2, (0, pc_))]) rfl rfl rfl) ?_
  refine xg_t (xg_const) ?_
  refine xg_t (xg_istore (l1 := [(4, (0, f37_18)), (3, (2, 37)), (0, (2, 27)), (1, (0, 4)), (2, (0, pc_))]) rfl rfl rfl) ?_
  refine xg_t (xg_blq rfl) ?_
  refine xg_t (xg_iload (va := (0, 0)) rfl rfl) ?_
  refine xg_t (xg_gets) ?_
  refine xg_t (xg_iload (va := (0, 4)) rfl rfl) ?_
  refine xg_t (xg_ald8L (n := 4) (u := 2) xnm0 rfl rfl) ?_
  refine xg_t (xg_icF (u := 0) (v := 2) rfl xnm0 xnm0 (by decide)) ?_
  refine xg_t (xg_iload (va := (0, 0)) rfl rfl) ?_
  refine xg_t (xg_const) ?_
  refine xg_t (xg_icF (u := 0) (v := 3) rfl xnm0 xnm0 (by decide)) ?_
  refine xg_t (xg_aload (va := (2, 37)) rfl rfl) ?_
  refine xg_t (xg_iload (va := (0, f37_18)) rfl rfl) ?_
  refine xg_t (xg_iload (va := (0, 0)) rfl rfl) ?_
  refine xg_t (xg_aload (va := (2, 27)) rfl rfl) ?_
  refine xg_t (xg_getf (va := (2, 39)) (hq37.2.get (by decide) h27_11) rfl) ?_
  refine xg_t (xg_iload (va := (0, 0)) rfl rfl) ?_
  refine xg_ialdB (n := 0) (B := 4294967295) (h39_13.but hq37.2 (by decide)) (hb14) xnm0 (by first | decide | omega) (fun u38 hu39 he40 => ?_)
  have hv41 : rwv w 39 0 = u38 := (rwv_of h39_13 (by decide)).trans he40
  refine xg_cVv mX5_put (vs := [(0, f37_18), (0, 0), (0, u38)]) (rest := []) (cn1 := 0) (sl1 := 0) rfl (rputX (lim := 20) (wd := 2) (B := 4294967295) hq37.1 (h38_22.but hq37.2 (by decide)) (hb23) (by decide) (by omega) (by decide) (by decide) (by omega) (by decide) (by omega)) rfl hq37.1 rfl rfl rfl rfl rfl rfl (fun w42 hq43 => ?_)
  obtain ⟨g44, hr45, hb46, he48, hk49, hb47⟩ := hq43
  refine xg_t (xg_iinc (u := 0) (z := 1) (l1 := [(4, (0, f37_18)), (3, (2, 37)), (0, (2, 27)), (1, (0, 4)), (2, (0, pc_))]) rfl rfl (by decide) rfl) ?_
  refine xg_t (xg_goto) ?_
  refine xg_t (xg_blq rfl) ?_
  refine xg_t (xg_iload (va := (0, 1)) rfl rfl) ?_
  refine xg_t (xg_gets) ?_
  refine xg_t (xg_iload (va := (0, 4)) rfl rfl) ?_
  refine xg_t (xg_ald8L (n := 4) (u := 2) xnm0 rfl rfl) ?_
  refine xg_t (xg_icF (u := 1) (v := 2) rfl xnm0 xnm0 (by decide)) ?_
  refine xg_t (xg_iload (va := (0, 1)) rfl rfl) ?_
  refine xg_t (xg_const) ?_
  refine xg_t (xg_icF (u := 1) (v := 3) rfl xnm0 xnm0 (by decide)) ?_
  refine xg_t (xg_aload (va := (2, 37)) rfl rfl) ?_
  refine xg_t (xg_iload (va := (0, f37_18)) rfl rfl) ?_
  refine xg_t (xg_iload (va := (0, 1)) rfl rfl) ?_
  refine xg_t (xg_aload (va := (2, 27)) rfl rfl) ?_
  refine xg_t (xg_getf (va := (2, 39)) (hb47.get (by decide) (hq37.2.get (by decide) h27_11)) rfl) ?_
  refine xg_t (xg_iload (va := (0, 1)) rfl rfl) ?_
  refine xg_ialdB (n := 1) (B := 4294967295) ((h39_13.but hq37.2 (by decide)).but hb47 (by decide)) (hb14) xnm0 (by first | decide | omega) (fun u50 hu51 he52 => ?_)
  have hv53 : rwv w 39 1 = u50 := (rwv_of h39_13 (by decide)).trans he52
  refine xg_cVv mX5_put (vs := [(0, f37_18), (0, 1), (0, u50)]) (rest := []) (cn1 := 0) (sl1 := 0) rfl (rputX (lim := 20) (wd := 2) (B := 4294967295) (hb47.get (by decide) hq37.1) hr45 (hb46) (by decide) (by omega) (by decide) (by decide) (by omega) (by decide) (by omega)) rfl (hb47.get (by decide) hq37.1) rfl rfl rfl rfl rfl rfl (fun w54 hq55 => ?_)
  obtain ⟨g56, hr57, hb58, he60, hk61, hb59⟩ := hq55
  refine xg_t (xg_iinc (u := 1) (z := 2) (l1 := [(4, (0, f37_18)), (3, (2, 37)), (0, (2, 27)), (1, (0, 4)), (2, (0, pc_))]) rfl rfl (by decide) rfl) ?_
  refine xg_t (xg_goto) ?_
  refine xg_t (xg_blq rfl) ?_
  refine xg_t (xg_iload (va := (0, 2)) rfl rfl) ?_
  refine xg_t (xg_gets) ?_
  refine xg_t (xg_iload (va := (0, 4)) rfl rfl) ?_
  refine xg_t (xg_ald8L (n := 4) (u := 2) xnm0 rfl rfl) ?_
  refine xg_t (xg_icT (u := 2) (v := 2) rfl xnm0 xnm0 (by decide)) ?_
  refine xg_t (xg_blq rfl) ?_
  refine xg_t (xg_iload (va := (0, 4)) rfl rfl) ?_
  refine xg_t (xg_ifT (u := 4) rfl xnm0 (by decide)) ?_
  refine xg_t (xg_blq rfl) ?_
  refine xg_t (xg_iload (va := (0, 4)) rfl rfl) ?_
  refine xg_t (xg_const) ?_
  refine xg_t (xg_icF (u := 4) (v := 4) rfl xnm0 xnm0 (by decide)) ?_
  refine xg_t (xg_iload (va := (0, f37_18)) rfl rfl) ?_
  refine xg_t (xg_aload (va := (2, 27)) rfl rfl) ?_
  refine xg_t (xg_getf (va := (2, 41)) (hb59.get (by decide) (hb47.get (by decide) (hq37.2.get (by decide) h27_11))) rfl) ?_
  obtain ⟨us62, ha63, ha64⟩ := id (((h41_16.but hq37.2 (by decide)).but hb47 (by decide)).but hb59 (by decide))
  refine xg_t (xg_alen ha63) ?_
  refine xg_t (xg_icF (u := f37_18) (v := 20) rfl xnm0 xnm0 (xj_geF (by omega) (by omega))) ?_
  refine xg_t (xg_aload (va := (2, 27)) rfl rfl) ?_
  refine xg_t (xg_getf (va := (2, 41)) (hb59.get (by decide) (hb47.get (by decide) (hq37.2.get (by decide) h27_11))) rfl) ?_
  refine xg_t (xg_iload (va := (0, f37_18)) rfl rfl) ?_
  refine xg_t (xg_iload (va := (0, pc_)) rfl rfl) ?_
  refine xg_iastK (n := f37_18) (u := pc_) (((h41_16.but hq37.2 (by decide)).but hb47 (by decide)).but hb59 (by decide)) xnm0 xnm0 rfl (by omega) (fun w65 hr66 hb67 => ?_)
  refine xg_t (xg_blq rfl) ?_
  have hq68 : fld w65 37 3 = (f37_18 + 1) := fld_of (hb67.get (by decide) (hb59.get (by decide) (hb47.get (by decide) hq37.1)))
  have hq70 : 2 * fld w 37 3 = f37_18 * 2 + 0 := by omega
  have hq69 : rwv w65 38 (2 * fld w 37 3) = u38 := by
    rw [hq70, rwv_of (hr57.but hb67 (by decide)) (by omega), hk61 _ (by omega), he48]
  have hq72 : 2 * fld w 37 3 + 1 = f37_18 * 2 + 1 := by omega
  have hq71 : rwv w65 38 (2 * fld w 37 3 + 1) = u50 := by
    rw [hq72, rwv_of (hr57.but hb67 (by decide)) (by omega), he60]
  have hn73 : ∀ t, t < 2 → rwv w65 38 (2 * fld w 37 3 + t) = rwv w 39 t := fun t ht => by
    rcases (show t = 0 ∨ t = 1 by omega) with rfl | rfl
    · exact hq69.trans hv41.symm
    · exact hq71.trans hv53.symm
  exact xg_e ⟨w65, ⟨rfl, rfl⟩, xInv.up (S := [37, 38, 41]) hI ((((xFr.of (S := [37, 38, 41]) hq37.2 (by decide)).tr (xFr.of (S := [37, 38, 41]) hb47 (by decide))).tr (xFr.of (S := [37, 38, 41]) hb59 (by decide))).tr (xFr.of (S := [37, 38, 41]) hb67 (by decide))) (List.forall_mem_cons.mpr ⟨xqu37 (show cp37 (wget w65 37) from ⟨(f37_18 + 1), (hb67.get (by decide) (hb59.get (by decide) (hb47.get (by decide) hq37.1))), by omega⟩), List.forall_mem_cons.mpr ⟨xqu38 (show cpI 40 17 4294967295 (wget w65 38) from ⟨_, (hr57.but hb67 (by decide)), hb58⟩), List.forall_mem_cons.mpr ⟨xqu41 (show cpI 20 20 4294967295 (wget w65 41) from ⟨_, hr66, xrb (by omega) (hb17)⟩), fun _ h => absurd h List.not_mem_nil⟩⟩⟩), ((((xFr.of (S := [37, 38, 41]) hq37.2 (by decide)).tr (xFr.of (S := [37, 38, 41]) hb47 (by decide))).tr (xFr.of (S := [37, 38, 41]) hb59 (by decide))).tr (xFr.of (S := [37, 38, 41]) hb67 (by decide))), ⟨by omega, fun j hj => (rwv_of (hr57.but hb67 (by decide)) (by omega)).trans (Eq.trans (by rw [hk61 j (by omega), hk49 j (by omega)]) (rwv_of h38_22 (by omega)).symm), hn73, (rwv_of hr66 (by omega)).trans (if_pos (by omega)), fun j hj => (rwv_of hr66 (by omega)).trans ((if_neg (by omega)).trans (rwv_of h41_16 (by omega)).symm)⟩⟩
theorem ftTakeX5 {pc_ : Nat} (hI : xInv w) (h1 : pc_ ≤ 4294967295) (hb0 : rwv w 39 0 ≤ 10) (hb1 : rwv w 39 1 ≤ 10) : xPq (d + 1) mX2_take [(2, 27), (0, 5), (0, pc_)] w bd fc rr [] (fun w' => xInv w' ∧ xFr [27, 28] w w' ∧ ((∀ t, t < 2 → fld w' 28 (5 + t) = rwv w 39 t) ∧ (∀ t, t < 2 → fld w' 28 (7 + t) = fld w 28 (7 + t)) ∧ fld w' 28 9 = fld w 28 9 ∧ fld w' 27 7 = 1 ∧ fld w' 27 8 = fld w 27 8 ∧ fld w' 27 9 = fld w 27 9 ∧ fld w' 27 10 = fld w 27 10)) := by
  refine xPq.of ?_
  show xTo (d + 1) mX2_take (0, [], [(0, (2, 27)), (1, (0, 5)), (2, (0, pc_))], [], (w, bd, fc, 0, 0, rr)) (fun φ => ∃ w', xEnd 0 [] (w', bd, fc, 0, 0, rr) φ ∧ xInv w' ∧ xFr [27, 28] w w' ∧ ((∀ t, t < 2 → fld w' 28 (5 + t) = rwv w 39 t) ∧ (∀ t, t < 2 → fld w' 28 (7 + t) = fld w 28 (7 + t)) ∧ fld w' 28 9 = fld w 28 9 ∧ fld w' 27 7 = 1 ∧ fld w' 27 8 = fld w 27 8 ∧ fld w' 27 9 = fld w 27 9 ∧ fld w' 27 10 = fld w 27 10))
  refine xoC27 (xqc27 hI : cp27 (wget w 27)) (fun f27_1 f27_3 f27_5 f27_7 f27_9 h27_11 hb2 hb4 hb6 hb8 hb10 => ?_)
  refine xoC28 (xqc28 hI : cp28 (wget w 28)) (fun f28_12 f28_14 f28_16 f28_18 f28_20 h28_22 hb13 hb15 hb17 hb19 hb21 => ?_)
  refine xoI (xqc39 hI : cpI 3 18 4294967295 (wget w 39)) (fun g39_23 h39_24 hb25 => ?_)
  have hq26 : fld w 27 6 = f27_1 := fld_of h27_11
  have hq27 : fld w 27 7 = f27_3 := fld_of h27_11
  have hq28 : fld w 27 8 = f27_5 := fld_of h27_11
  have hq29 : fld w 27 9 = f27_7 := fld_of h27_11
  have hq30 : fld w 27 10 = f27_9 := fld_of h27_11
  have hq31 : fld w 28 5 = f28_12 := fld_of h28_22
  have hq32 : fld w 28 6 = f28_14 := fld_of h28_22
  have hq33 : fld w 28 7 = f28_16 := fld_of h28_22
  have hq34 : fld w 28 8 = f28_18 := fld_of h28_22
  have hq35 : fld w 28 9 = f28_20 := fld_of h28_22
  refine xg_t (xg_blq rfl) ?_
  refine xg_t (xg_iload (va := (0, 5)) rfl rfl) ?_
  refine xg_t (xg_const) ?_
  refine xg_t (xg_icF (u := 5) (v := 5) rfl xnm0 xnm0 (by decide)) ?_
  refine xg_t (xg_aload (va := (2, 27)) rfl rfl) ?_
  refine xg_t (xg_getf (va := (2, 28)) h27_11 rfl) ?_
  refine xg_t (xg_aload (va := (2, 27)) rfl rfl) ?_
  refine xg_t (xg_getf (va := (2, 39)) h27_11 rfl) ?_
  refine xg_t (xg_const) ?_
  refine xg_ialdB (n := 0) (B := 4294967295) h39_24 (hb25) xnm0 (by first | decide | omega) (fun u36 hu37 he38 => ?_)
  have hv39 : rwv w 39 0 = u36 := (rwv_of h39_24 (by decide)).trans he38
  refine xg_putI (fl1 := [(2, 29), (2, 31), (2, 33), (2, 35), (2, 37), (0, u36), (0, f28_14), (0, f28_16), (0, f28_18), (0, f28_20)]) h28_22 rfl rfl rfl (fun w40 hk41 hb42 => ?_)
  refine xg_t (xg_aload (va := (2, 27)) rfl rfl) ?_
  refine xg_t (xg_getf (va := (2, 28)) (hb42.get (by decide) h27_11) rfl) ?_
  refine xg_t (xg_aload (va := (2, 27)) rfl rfl) ?_
  refine xg_t (xg_getf (va := (2, 39)) (hb42.get (by decide) h27_11) rfl) ?_
  refine xg_t (xg_const) ?_
  refine xg_ialdB (n := 1) (B := 4294967295) (h39_24.but hb42 (by decide)) (hb25) xnm0 (by first | decide | omega) (fun u43 hu44 he45 => ?_)
  have hv46 : rwv w 39 1 = u43 := (rwv_of h39_24 (by decide)).trans he45
  refine xg_putI (fl1 := [(2, 29), (2, 31), (2, 33), (2, 35), (2, 37), (0, u36), (0, u43), (0, f28_16), (0, f28_18), (0, f28_20)]) hk41 rfl rfl rfl (fun w47 hk48 hb49 => ?_)
  refine xg_t (xg_aload (va := (2, 27)) rfl rfl) ?_
  refine xg_t (xg_const) ?_
  refine xg_putZ (fl1 := [(2, 1), (2, 42), (2, 28), (2, 39), (2, 40), (2, 41), (0, f27_1), (0, 1), (0, f27_5), (0, f27_7), (0, f27_9)]) (hb49.get (by decide) (hb42.get (by decide) h27_11)) rfl rfl rfl (fun w50 hk51 hb52 => ?_)
  have hq53 : fld w50 28 5 = u36 := fld_of (hb52.get (by decide) hk48)
  have hq54 : fld w50 28 6 = u43 := fld_of (hb52.get (by decide) hk48)
  have hq55 : fld w50 28 7 = f28_16 := fld_of (hb52.get (by decide) hk48)
  have hq56 : fld w50 28 8 = f28_18 := fld_of (hb52.get (by decide) hk48)
  have hq57 : fld w50 28 9 = f28_20 := fld_of (hb52.get (by decide) hk48)
  have hq58 : fld w50 27 6 = f27_1 := fld_of hk51
  have hq59 : fld w50 27 7 = 1 := fld_of hk51
  have hq60 : fld w50 27 8 = f27_5 := fld_of hk51
  have hq61 : fld w50 27 9 = f27_7 := fld_of hk51
  have hq62 : fld w50 27 10 = f27_9 := fld_of hk51
  exact xg_e ⟨w50, ⟨rfl, rfl⟩, xInv.up (S := [28, 27]) hI (((xFr.of (S := [28, 27]) hb42 (by decide)).tr (xFr.of (S := [28, 27]) hb49 (by decide))).tr (xFr.of (S := [28, 27]) hb52 (by decide))) (List.forall_mem_cons.mpr ⟨xqu28 (show cp28 (wget w50 28) from xmC28 u36 u43 f28_16 f28_18 f28_20 (hb52.get (by decide) hk48) (by omega) (by omega) hb17 hb19 hb21), List.forall_mem_cons.mpr ⟨xqu27 (show cp27 (wget w50 27) from xmC27 f27_1 1 f27_5 f27_7 f27_9 hk51 hb2 (by decide) hb6 hb8 hb10), fun _ h => absurd h List.not_mem_nil⟩⟩), (((xFr.of (S := [27, 28]) hb42 (by decide)).tr (xFr.of (S := [27, 28]) hb49 (by decide))).tr (xFr.of (S := [27, 28]) hb52 (by decide))), ⟨fun t ht => by rcases (show t = 0 ∨ t = 1 by omega) with rfl | rfl <;> simp only [Nat.reduceAdd] <;> omega, fun t ht => by rcases (show t = 0 ∨ t = 1 by omega) with rfl | rfl <;> simp only [Nat.reduceAdd] <;> omega, by omega, by omega, by omega, by omega, by omega⟩⟩
theorem ftTakeX6 {pc_ : Nat} (hI : xInv w) (h1 : pc_ ≤ 4294967295) (hb0 : rwv w 39 0 ≤ 6) (hb1 : rwv w 39 1 ≤ 6) : xPq (d + 1) mX2_take [(2, 27), (0, 6), (0, pc_)] w bd fc rr [] (fun w' => xInv w' ∧ xFr [27, 28] w w' ∧ ((∀ t, t < 2 → fld w' 28 (7 + t) = rwv w 39 t) ∧ (∀ t, t < 2 → fld w' 28 (5 + t) = fld w 28 (5 + t)) ∧ fld w' 28 9 = fld w 28 9 ∧ fld w' 27 8 = 1 ∧ fld w' 27 7 = fld w 27 7 ∧ fld w' 27 9 = fld w 27 9 ∧ fld w' 27 10 = fld w 27 10)) := by
  refine xPq.of ?_
  show xTo (d + 1) mX2_take (0, [], [(0, (2, 27)), (1, (0, 6)), (2, (0, pc_))], [], (w, bd, fc, 0, 0, rr)) (fun φ => ∃ w', xEnd 0 [] (w', bd, fc, 0, 0, rr) φ ∧ xInv w' ∧ xFr [27, 28] w w' ∧ ((∀ t, t < 2 → fld w' 28 (7 + t) = rwv w 39 t) ∧ (∀ t, t < 2 → fld w' 28 (5 + t) = fld w 28 (5 + t)) ∧ fld w' 28 9 = fld w 28 9 ∧ fld w' 27 8 = 1 ∧ fld w' 27 7 = fld w 27 7 ∧ fld w' 27 9 = fld w 27 9 ∧ fld w' 27 10 = fld w 27 10))
  refine xoC27 (xqc27 hI : cp27 (wget w 27)) (fun f27_1 f27_3 f27_5 f27_7 f27_9 h27_11 hb2 hb4 hb6 hb8 hb10 => ?_)
  refine xoC28 (xqc28 hI : cp28 (wget w 28)) (fun f28_12 f28_14 f28_16 f28_18 f28_20 h28_22 hb13 hb15 hb17 hb19 hb21 => ?_)
  refine xoI (xqc39 hI : cpI 3 18 4294967295 (wget w 39)) (fun g39_23 h39_24 hb25 => ?_)
  have hq26 : fld w 27 6 = f27_1 := fld_of h27_11
  have hq27 : fld w 27 7 = f27_3 := fld_of h27_11
  have hq28 : fld w 27 8 = f27_5 := fld_of h27_11
  have hq29 : fld w 27 9 = f27_7 := fld_of h27_11
  have hq30 : fld w 27 10 = f27_9 := fld_of h27_11
  have hq31 : fld w 28 5 = f28_12 := fld_of h28_22
  have hq32 : fld w 28 6 = f28_14 := fld_of h28_22
  have hq33 : fld w 28 7 = f28_16 := fld_of h28_22
  have hq34 : fld w 28 8 = f28_18 := fld_of h28_22
  have hq35 : fld w 28 9 = f28_20 := fld_of h28_22
  refine xg_t (xg_blq rfl) ?_
  refine xg_t (xg_iload (va := (0, 6)) rfl rfl) ?_
  refine xg_t (xg_const) ?_
  refine xg_t (xg_icT (u := 6) (v := 5) rfl xnm0 xnm0 (by decide)) ?_
  refine xg_t (xg_blq rfl) ?_
  refine xg_t (xg_iload (va := (0, 6)) rfl rfl) ?_
  refine xg_t (xg_bip) ?_
  refine xg_t (xg_icF (u := 6) (v := 6) rfl xnm0 xnm0 (by decide)) ?_
  refine xg_t (xg_aload (va := (2, 27)) rfl rfl) ?_
  refine xg_t (xg_getf (va := (2, 28)) h27_11 rfl) ?_
  refine xg_t (xg_aload (va := (2, 27)) rfl rfl) ?_
  refine xg_t (xg_getf (va := (2, 39)) h27_11 rfl) ?_
  refine xg_t (xg_const) ?_
  refine xg_ialdB (n := 0) (B := 4294967295) h39_24 (hb25) xnm0 (by first | decide | omega) (fun u36 hu37 he38 => ?_)
  have hv39 : rwv w 39 0 = u36 := (rwv_of h39_24 (by decide)).trans he38
  refine xg_putI (fl1 := [(2, 29), (2, 31), (2, 33), (2, 35), (2, 37), (0, f28_12), (0, f28_14), (0, u36), (0, f28_18), (0, f28_20)]) h28_22 rfl rfl rfl (fun w40 hk41 hb42 => ?_)
  refine xg_t (xg_aload (va := (2, 27)) rfl rfl) ?_
  refine xg_t (xg_getf (va := (2, 28)) (hb42.get (by decide) h27_11) rfl) ?_
  refine xg_t (xg_aload (va := (2, 27)) rfl rfl) ?_
  refine xg_t (xg_getf (va := (2, 39)) (hb42.get (by decide) h27_11) rfl) ?_
  refine xg_t (xg_const) ?_
  refine xg_ialdB (n := 1) (B := 4294967295) (h39_24.but hb42 (by decide)) (hb25) xnm0 (by first | decide | omega) (fun u43 hu44 he45 => ?_)
  have hv46 : rwv w 39 1 = u43 := (rwv_of h39_24 (by decide)).trans he45
  refine xg_putI (fl1 := [(2, 29), (2, 31), (2, 33), (2, 35), (2, 37), (0, f28_12), (0, f28_14), (0, u36), (0, u43), (0, f28_20)]) hk41 rfl rfl rfl (fun w47 hk48 hb49 => ?_)
  refine xg_t (xg_aload (va := (2, 27)) rfl rfl) ?_
  refine xg_t (xg_const) ?_
  refine xg_putZ (fl1 := [(2, 1), (2, 42), (2, 28), (2, 39), (2, 40), (2, 41), (0, f27_1), (0, f27_3), (0, 1), (0, f27_7), (0, f27_9)]) (hb49.get (by decide) (hb42.get (by decide) h27_11)) rfl rfl rfl (fun w50 hk51 hb52 => ?_)
  have hq53 : fld w50 28 5 = f28_12 := fld_of (hb52.get (by decide) hk48)
  have hq54 : fld w50 28 6 = f28_14 := fld_of (hb52.get (by decide) hk48)
  have hq55 : fld w50 28 7 = u36 := fld_of (hb52.get (by decide) hk48)
  have hq56 : fld w50 28 8 = u43 := fld_of (hb52.get (by decide) hk48)
  have hq57 : fld w50 28 9 = f28_20 := fld_of (hb52.get (by decide) hk48)
  have hq58 : fld w50 27 6 = f27_1 := fld_of hk51
  have hq59 : fld w50 27 7 = f27_3 := fld_of hk51
  have hq60 : fld w50 27 8 = 1 := fld_of hk51
  have hq61 : fld w50 27 9 = f27_7 := fld_of hk51
  have hq62 : fld w50 27 10 = f27_9 := fld_of hk51
  exact xg_e ⟨w50, ⟨rfl, rfl⟩, xInv.up (S := [28, 27]) hI (((xFr.of (S := [28, 27]) hb42 (by decide)).tr (xFr.of (S := [28, 27]) hb49 (by decide))).tr (xFr.of (S := [28, 27]) hb52 (by decide))) (List.forall_mem_cons.mpr ⟨xqu28 (show cp28 (wget w50 28) from xmC28 f28_12 f28_14 u36 u43 f28_20 (hb52.get (by decide) hk48) hb13 hb15 (by omega) (by omega) hb21), List.forall_mem_cons.mpr ⟨xqu27 (show cp27 (wget w50 27) from xmC27 f27_1 f27_3 1 f27_7 f27_9 hk51 hb2 hb4 (by decide) hb8 hb10), fun _ h => absurd h List.not_mem_nil⟩⟩), (((xFr.of (S := [27, 28]) hb42 (by decide)).tr (xFr.of (S := [27, 28]) hb49 (by decide))).tr (xFr.of (S := [27, 28]) hb52 (by decide))), ⟨fun t ht => by rcases (show t = 0 ∨ t = 1 by omega) with rfl | rfl <;> simp only [Nat.reduceAdd] <;> omega, fun t ht => by rcases (show t = 0 ∨ t = 1 by omega) with rfl | rfl <;> simp only [Nat.reduceAdd] <;> omega, by omega, by omega, by omega, by omega, by omega⟩⟩
end XFCB
