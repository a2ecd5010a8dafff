/-! the texts of films -/
section XWE
variable {d : Nat} {w : List (List xE)} {bd : List (Nat × Nat)} {fc : List (Nat × Nat × Bool)} {rr : Nat × Nat}
theorem ftLine {a5 a6 a7 a8 l0 : Nat} (hI : xInv w) (hc0 : wget w 28 = some (.inl (1, [(2, 29), (2, 31), (2, 33), (2, 35), (2, 37), (0, a5), (0, a6), (0, a7), (0, a8), (0, l0)]))) (hb5 : a5 ≤ 10) (hb6 : a6 ≤ 10) (hb7 : a7 ≤ 6) (hb8 : a8 ≤ 6) (hbl : l0 ≤ 500) : xPi (d + 6) mX2_readLine [(2, 27)] w bd fc rr (fun n w' => (n ≤ 1 ∧ ∃ a b c e : Nat, wget w' 28 = some (.inl (1, [(2, 29), (2, 31), (2, 33), (2, 35), (2, 37), (0, a), (0, b), (0, c), (0, e), (0, l0)]))) ∧ xInv w' ∧ xFr [27, 28, 29, 30, 31, 32, 33, 34, 35, 36, 37, 38, 39, 40, 41, 42] w w') := by
  refine xPi.of ?_
  show xTo (d + 6) mX2_readLine (0, [], [(0, (2, 27))], [], (w, bd, fc, 0, 0, rr)) (fun φ => ∃ n w', xEnd 4 [(0, n)] (w', bd, fc, 0, 0, rr) φ ∧ (n ≤ 1 ∧ ∃ a b c e : Nat, wget w' 28 = some (.inl (1, [(2, 29), (2, 31), (2, 33), (2, 35), (2, 37), (0, a), (0, b), (0, c), (0, e), (0, l0)]))) ∧ xInv w' ∧ xFr [27, 28, 29, 30, 31, 32, 33, 34, 35, 36, 37, 38, 39, 40, 41, 42] w w')
  refine xoC27 (xqc27 hI : cp27 (wget w 27)) (fun f27_1 f27_3 f27_5 f27_7 f27_9 h27_11 hb2 hb4 hb6 hb8 hb10 => ?_)
  refine xg_t (xg_blq rfl) ?_
  refine xg_t (xg_aload (va := (2, 27)) rfl rfl) ?_
  refine xg_cVi mX2_sortOfWord (vs := []) (rest := []) (cn1 := 0) (sl1 := 0) rfl (ftSort (hI)) rfl h27_11 rfl rfl rfl rfl rfl rfl (fun n16 w12 hq13 => ?_)
  obtain ⟨hn17, hI14, hF15⟩ := hq13
  rcases (show n16 = 0 ∨ n16 = 1 ∨ n16 = 2 ∨ n16 = 3 ∨ n16 = 4 ∨ n16 = 5 ∨ n16 = 6 ∨ n16 = 4294967295 by omega) with rfl | rfl | rfl | rfl | rfl | rfl | rfl | rfl
  · refine xg_t (xg_istore (l1 := [(0, (2, 27))]) rfl rfl rfl) ?_
    refine xg_t (xg_aload (va := (2, 27)) rfl rfl) ?_
    refine xg_t (xg_getf (va := (2, 42)) (hF15.get (by decide) h27_11) rfl) ?_
    refine xoC42 (xqc42 hI14 : cp42 (wget w12 42)) (fun f42_18 f42_20 f42_22 f42_24 f42_26 h42_28 hb19 hb21 hb23 hb25 hb27 hb29 => ?_)
    refine xg_t (xg_getf (va := (0, f42_22)) h42_28 rfl) ?_
    refine xg_t (xg_istore (l1 := [(1, (0, 0)), (0, (2, 27))]) rfl rfl rfl) ?_
    refine xg_t (xg_iload (va := (0, 0)) rfl rfl) ?_
    refine xg_t (xg_const) ?_
    refine xg_t (xg_icT (u := 0) (v := 4294967295) rfl xnm0 xnm0 (by decide)) ?_
    refine xg_t (xg_blq rfl) ?_
    refine xg_t (xg_aload (va := (2, 27)) rfl rfl) ?_
    refine xg_t (xg_getf (va := (2, 42)) (hF15.get (by decide) h27_11) rfl) ?_
    refine xg_cVv mX8_advance (vs := []) (rest := []) (cn1 := 0) (sl1 := 0) rfl (tkAdvance42 (hI14)) rfl h42_28 rfl rfl rfl rfl rfl rfl (fun w30 hq31 => ?_)
    obtain ⟨hI32, hF33⟩ := hq31
    refine xg_t (xg_const) ?_
    refine xg_t (xg_istore (l1 := [(2, (0, f42_22)), (1, (0, 0)), (0, (2, 27))]) rfl rfl rfl) ?_
    refine xg_t (xg_blq rfl) ?_
    refine xg_t (xg_iload (va := (0, 0)) rfl rfl) ?_
    refine xg_t (xg_gets) ?_
    refine xg_t (xg_iload (va := (0, 0)) rfl rfl) ?_
    refine xg_t (xg_ald8L (n := 0) (u := 3) xnm0 rfl rfl) ?_
    refine xg_t (xg_icF (u := 0) (v := 3) rfl xnm0 xnm0 (by decide)) ?_
    refine xg_t (xg_iload (va := (0, 0)) rfl rfl) ?_
    refine xg_t (xg_const) ?_
    refine xg_t (xg_icF (u := 0) (v := 3) rfl xnm0 xnm0 (by decide)) ?_
    refine xg_t (xg_aload (va := (2, 27)) rfl rfl) ?_
    refine xg_t (xg_getf (va := (2, 42)) (hF33.get (by decide) (hF15.get (by decide) h27_11)) rfl) ?_
    refine xoC42 (xqc42 hI32 : cp42 (wget w30 42)) (fun f42_34 f42_36 f42_38 f42_40 f42_42 h42_44 hb35 hb37 hb39 hb41 hb43 hb45 => ?_)
    refine xg_t (xg_getf (va := (0, f42_36)) h42_44 rfl) ?_
    refine xg_t (xg_const) ?_
    by_cases hc46 : f42_36 = 2
    · refine xg_t (xg_icT (u := f42_36) (v := 2) rfl xnm0 xnm0 (xj_eqT hc46)) ?_
      refine xg_t (xg_blq rfl) ?_
      refine xg_t (xg_aload (va := (2, 27)) rfl rfl) ?_
      refine xg_t (xg_getf (va := (2, 39)) (hF33.get (by decide) (hF15.get (by decide) h27_11)) rfl) ?_
      refine xg_t (xg_iload (va := (0, 0)) rfl rfl) ?_
      refine xg_t (xg_aload (va := (2, 27)) rfl rfl) ?_
      refine xg_t (xg_getf (va := (2, 42)) (hF33.get (by decide) (hF15.get (by decide) h27_11)) rfl) ?_
      refine xg_t (xg_getf (va := (0, f42_42)) h42_44 rfl) ?_
      refine xoI (xqc39 hI32 : cpI 3 18 4294967295 (wget w30 39)) (fun g39_47 h39_48 hb49 => ?_)
      refine xg_iastK (n := 0) (u := f42_42) h39_48 xnm0 xnm0 rfl (by first | decide | omega) (fun w50 hr51 hb52 => ?_)
      refine xg_t (xg_aload (va := (2, 27)) rfl rfl) ?_
      refine xg_t (xg_getf (va := (2, 40)) (hb52.get (by decide) (hF33.get (by decide) (hF15.get (by decide) h27_11))) rfl) ?_
      refine xg_t (xg_iload (va := (0, 0)) rfl rfl) ?_
      refine xg_t (xg_aload (va := (2, 27)) rfl rfl) ?_
      refine xg_t (xg_getf (va := (2, 42)) (hb52.get (by decide) (hF33.get (by decide) (hF15.get (by decide) h27_11))) rfl) ?_
      refine xg_t (xg_getf (va := (0, f42_38)) (hb52.get (by decide) h42_44) rfl) ?_
      refine xoI (xqc40 hI32 : cpI 3 19 4294967295 (wget w30 40)) (fun g40_53 h40_54 hb55 => ?_)
      refine xg_iastK (n := 0) (u := f42_38) (h40_54.but hb52 (by decide)) xnm0 xnm0 rfl (by first | decide | omega) (fun w56 hr57 hb58 => ?_)
      refine xg_t (xg_aload (va := (2, 27)) rfl rfl) ?_
      refine xg_t (xg_getf (va := (2, 42)) (hb58.get (by decide) (hb52.get (by decide) (hF33.get (by decide) (hF15.get (by decide) h27_11)))) rfl) ?_
      refine xg_cVv mX8_advance (vs := []) (rest := []) (cn1 := 0) (sl1 := 0) rfl (tkAdvance42 (xInv.up (S := [39, 40]) hI32 ((xFr.of (S := [39, 40]) hb52 (by decide)).tr (xFr.of (S := [39, 40]) hb58 (by decide))) (List.forall_mem_cons.mpr ⟨xqu39 (show cpI 3 18 4294967295 (wget w56 39) from ⟨_, (hr51.but hb58 (by decide)), xrb (by omega) (hb49)⟩), List.forall_mem_cons.mpr ⟨xqu40 (show cpI 3 19 4294967295 (wget w56 40) from ⟨_, hr57, xrb (by omega) (hb55)⟩), fun _ h => absurd h List.not_mem_nil⟩⟩))) rfl (hb58.get (by decide) (hb52.get (by decide) h42_44)) rfl rfl rfl rfl rfl rfl (fun w59 hq60 => ?_)
      obtain ⟨hI61, hF62⟩ := hq60
      refine xg_t (xg_iinc (u := 0) (z := 1) (l1 := [(2, (0, f42_22)), (1, (0, 0)), (0, (2, 27))]) rfl rfl (by decide) rfl) ?_
      refine xg_t (xg_goto) ?_
      refine xg_t (xg_blq rfl) ?_
      refine xg_t (xg_iload (va := (0, 1)) rfl rfl) ?_
      refine xg_t (xg_gets) ?_
      refine xg_t (xg_iload (va := (0, 0)) rfl rfl) ?_
      refine xg_t (xg_ald8L (n := 0) (u := 3) xnm0 rfl rfl) ?_
      refine xg_t (xg_icF (u := 1) (v := 3) rfl xnm0 xnm0 (by decide)) ?_
      refine xg_t (xg_iload (va := (0, 1)) rfl rfl) ?_
      refine xg_t (xg_const) ?_
      refine xg_t (xg_icF (u := 1) (v := 3) rfl xnm0 xnm0 (by decide)) ?_
      refine xg_t (xg_aload (va := (2, 27)) rfl rfl) ?_
      refine xg_t (xg_getf (va := (2, 42)) (hF62.get (by decide) (hb58.get (by decide) (hb52.get (by decide) (hF33.get (by decide) (hF15.get (by decide) h27_11))))) rfl) ?_
      refine xoC42 (xqc42 hI61 : cp42 (wget w59 42)) (fun f42_63 f42_65 f42_67 f42_69 f42_71 h42_73 hb64 hb66 hb68 hb70 hb72 hb74 => ?_)
      refine xg_t (xg_getf (va := (0, f42_65)) h42_73 rfl) ?_
      refine xg_t (xg_const) ?_
      by_cases hc75 : f42_65 = 2
      · refine xg_t (xg_icT (u := f42_65) (v := 2) rfl xnm0 xnm0 (xj_eqT hc75)) ?_
        refine xg_t (xg_blq rfl) ?_
        refine xg_t (xg_aload (va := (2, 27)) rfl rfl) ?_
        refine xg_t (xg_getf (va := (2, 39)) (hF62.get (by decide) (hb58.get (by decide) (hb52.get (by decide) (hF33.get (by decide) (hF15.get (by decide) h27_11))))) rfl) ?_
        refine xg_t (xg_iload (va := (0, 1)) rfl rfl) ?_
        refine xg_t (xg_aload (va := (2, 27)) rfl rfl) ?_
        refine xg_t (xg_getf (va := (2, 42)) (hF62.get (by decide) (hb58.get (by decide) (hb52.get (by decide) (hF33.get (by decide) (hF15.get (by decide) h27_11))))) rfl) ?_
        refine xg_t (xg_getf (va := (0, f42_71)) h42_73 rfl) ?_
        refine xg_iastK (n := 1) (u := f42_71) ((hr51.but hb58 (by decide)).fr hF62 (by decide)) xnm0 xnm0 rfl (by first | decide | omega) (fun w76 hr77 hb78 => ?_)
        refine xg_t (xg_aload (va := (2, 27)) rfl rfl) ?_
        refine xg_t (xg_getf (va := (2, 40)) (hb78.get (by decide) (hF62.get (by decide) (hb58.get (by decide) (hb52.get (by decide) (hF33.get (by decide) (hF15.get (by decide) h27_11)))))) rfl) ?_
        refine xg_t (xg_iload (va := (0, 1)) rfl rfl) ?_
        refine xg_t (xg_aload (va := (2, 27)) rfl rfl) ?_
        refine xg_t (xg_getf (va := (2, 42)) (hb78.get (by decide) (hF62.get (by decide) (hb58.get (by decide) (hb52.get (by decide) (hF33.get (by decide) (hF15.get (by decide) h27_11)))))) rfl) ?_
        refine xg_t (xg_getf (va := (0, f42_67)) (hb78.get (by decide) h42_73) rfl) ?_
        refine xg_iastK (n := 1) (u := f42_67) ((hr57.fr hF62 (by decide)).but hb78 (by decide)) xnm0 xnm0 rfl (by first | decide | omega) (fun w79 hr80 hb81 => ?_)
        refine xg_t (xg_aload (va := (2, 27)) rfl rfl) ?_
        refine xg_t (xg_getf (va := (2, 42)) (hb81.get (by decide) (hb78.get (by decide) (hF62.get (by decide) (hb58.get (by decide) (hb52.get (by decide) (hF33.get (by decide) (hF15.get (by decide) h27_11))))))) rfl) ?_
        refine xg_cVv mX8_advance (vs := []) (rest := []) (cn1 := 0) (sl1 := 0) rfl (tkAdvance42 (xInv.up (S := [39, 40]) hI61 ((xFr.of (S := [39, 40]) hb78 (by decide)).tr (xFr.of (S := [39, 40]) hb81 (by decide))) (List.forall_mem_cons.mpr ⟨xqu39 (show cpI 3 18 4294967295 (wget w79 39) from ⟨_, (hr77.but hb81 (by decide)), xrb (by omega) (xrb (by omega) (hb49))⟩), List.forall_mem_cons.mpr ⟨xqu40 (show cpI 3 19 4294967295 (wget w79 40) from ⟨_, hr80, xrb (by omega) (xrb (by omega) (hb55))⟩), fun _ h => absurd h List.not_mem_nil⟩⟩))) rfl (hb81.get (by decide) (hb78.get (by decide) h42_73)) rfl rfl rfl rfl rfl rfl (fun w82 hq83 => ?_)
        obtain ⟨hI84, hF85⟩ := hq83
        refine xg_t (xg_iinc (u := 1) (z := 2) (l1 := [(2, (0, f42_22)), (1, (0, 0)), (0, (2, 27))]) rfl rfl (by decide) rfl) ?_
        refine xg_t (xg_goto) ?_
        refine xg_t (xg_blq rfl) ?_
        refine xg_t (xg_iload (va := (0, 2)) rfl rfl) ?_
        refine xg_t (xg_gets) ?_
        refine xg_t (xg_iload (va := (0, 0)) rfl rfl) ?_
        refine xg_t (xg_ald8L (n := 0) (u := 3) xnm0 rfl rfl) ?_
        refine xg_t (xg_icF (u := 2) (v := 3) rfl xnm0 xnm0 (by decide)) ?_
        refine xg_t (xg_iload (va := (0, 2)) rfl rfl) ?_
        refine xg_t (xg_const) ?_
        refine xg_t (xg_icF (u := 2) (v := 3) rfl xnm0 xnm0 (by decide)) ?_
        refine xg_t (xg_aload (va := (2, 27)) rfl rfl) ?_
        refine xg_t (xg_getf (va := (2, 42)) (hF85.get (by decide) (hb81.get (by decide) (hb78.get (by decide) (hF62.get (by decide) (hb58.get (by decide) (hb52.get (by decide) (hF33.get (by decide) (hF15.get (by decide) h27_11)))))))) rfl) ?_
        refine xoC42 (xqc42 hI84 : cp42 (wget w82 42)) (fun f42_86 f42_88 f42_90 f42_92 f42_94 h42_96 hb87 hb89 hb91 hb93 hb95 hb97 => ?_)
        refine xg_t (xg_getf (va := (0, f42_88)) h42_96 rfl) ?_
        refine xg_t (xg_const) ?_
        by_cases hc98 : f42_88 = 2
        · refine xg_t (xg_icT (u := f42_88) (v := 2) rfl xnm0 xnm0 (xj_eqT hc98)) ?_
          refine xg_t (xg_blq rfl) ?_
          refine xg_t (xg_aload (va := (2, 27)) rfl rfl) ?_
          refine xg_t (xg_getf (va := (2, 39)) (hF85.get (by decide) (hb81.get (by decide) (hb78.get (by decide) (hF62.get (by decide) (hb58.get (by decide) (hb52.get (by decide) (hF33.get (by decide) (hF15.get (by decide) h27_11)))))))) rfl) ?_
          refine xg_t (xg_iload (va := (0, 2)) rfl rfl) ?_
          refine xg_t (xg_aload (va := (2, 27)) rfl rfl) ?_
          refine xg_t (xg_getf (va := (2, 42)) (hF85.get (by decide) (hb81.get (by decide) (hb78.get (by decide) (hF62.get (by decide) (hb58.get (by decide) (hb52.get (by decide) (hF33.get (by decide) (hF15.get (by decide) h27_11)))))))) rfl) ?_
          refine xg_t (xg_getf (va := (0, f42_94)) h42_96 rfl) ?_
          refine xg_iastK (n := 2) (u := f42_94) ((hr77.but hb81 (by decide)).fr hF85 (by decide)) xnm0 xnm0 rfl (by first | decide | omega) (fun w99 hr100 hb101 => ?_)
          refine xg_t (xg_aload (va := (2, 27)) rfl rfl) ?_
          refine xg_t (xg_getf (va := (2, 40)) (hb101.get (by decide) (hF85.get (by decide) (hb81.get (by decide) (hb78.get (by decide) (hF62.get (by decide) (hb58.get (by decide) (hb52.get (by decide) (hF33.get (by decide) (hF15.get (by decide) h27_11))))))))) rfl) ?_
          refine xg_t (xg_iload (va := (0, 2)) rfl rfl) ?_
          refine xg_t (xg_aload (va := (2, 27)) rfl rfl) ?_
          refine xg_t (xg_getf (va := (2, 42)) (hb101.get (by decide) (hF85.get (by decide) (hb81.get (by decide) (hb78.get (by decide) (hF62.get (by decide) (hb58.get (by decide) (hb52.get (by decide) (hF33.get (by decide) (hF15.get (by decide) h27_11))))))))) rfl) ?_
          refine xg_t (xg_getf (va := (0, f42_90)) (hb101.get (by decide) h42_96) rfl) ?_
          refine xg_iastK (n := 2) (u := f42_90) ((hr80.fr hF85 (by decide)).but hb101 (by decide)) xnm0 xnm0 rfl (by first | decide | omega) (fun w102 hr103 hb104 => ?_)
          refine xg_t (xg_aload (va := (2, 27)) rfl rfl) ?_
          refine xg_t (xg_getf (va := (2, 42)) (hb104.get (by decide) (hb101.get (by decide) (hF85.get (by decide) (hb81.get (by decide) (hb78.get (by decide) (hF62.get (by decide) (hb58.get (by decide) (hb52.get (by decide) (hF33.get (by decide) (hF15.get (by decide) h27_11)))))))))) rfl) ?_
          refine xg_cVv mX8_advance (vs := []) (rest := []) (cn1 := 0) (sl1 := 0) rfl (tkAdvance42 (xInv.up (S := [39, 40]) hI84 ((xFr.of (S := [39, 40]) hb101 (by decide)).tr (xFr.of (S := [39, 40]) hb104 (by decide))) (List.forall_mem_cons.mpr ⟨xqu39 (show cpI 3 18 4294967295 (wget w102 39) from ⟨_, (hr100.but hb104 (by decide)), xrb (by omega) (xrb (by omega) (xrb (by omega) (hb49)))⟩), List.forall_mem_cons.mpr ⟨xqu40 (show cpI 3 19 4294967295 (wget w102 40) from ⟨_, hr103, xrb (by omega) (xrb (by omega) (xrb (by omega) (hb55)))⟩), fun _ h => absurd h List.not_mem_nil⟩⟩))) rfl (hb104.get (by decide) (hb101.get (by decide) h42_96)) rfl rfl rfl rfl rfl rfl (fun w105 hq106 => ?_)
          obtain ⟨hI107, hF108⟩ := hq106
          refine xg_t (xg_iinc (u := 2) (z := 3) (l1 := [(2, (0, f42_22)), (1, (0, 0)), (0, (2, 27))]) rfl rfl (by decide) rfl) ?_
          refine xg_t (xg_goto) ?_
          refine xg_t (xg_blq rfl) ?_
          refine xg_t (xg_iload (va := (0, 3)) rfl rfl) ?_
          refine xg_t (xg_gets) ?_
          refine xg_t (xg_iload (va := (0, 0)) rfl rfl) ?_
          refine xg_t (xg_ald8L (n := 0) (u := 3) xnm0 rfl rfl) ?_
          refine xg_t (xg_icT (u := 3) (v := 3) rfl xnm0 xnm0 (by decide)) ?_
          refine xg_t (xg_blq rfl) ?_
          refine xg_t (xg_iload (va := (0, 0)) rfl rfl) ?_
          refine xg_t (xg_ifF (u := 0) rfl xnm0 (by decide)) ?_
          refine xg_t (xg_aload (va := (2, 27)) rfl rfl) ?_
          refine xg_cVi mX2_readGlue (vs := []) (rest := []) (cn1 := 0) (sl1 := 0) rfl (ftGlue (hI107)) rfl (hF108.get (by decide) (hb104.get (by decide) (hb101.get (by decide) (hF85.get (by decide) (hb81.get (by decide) (hb78.get (by decide) (hF62.get (by decide) (hb58.get (by decide) (hb52.get (by decide) (hF33.get (by decide) (hF15.get (by decide) h27_11))))))))))) rfl rfl rfl rfl rfl rfl (fun n113 w109 hq110 => ?_)
          obtain ⟨hn114, hI111, hF112⟩ := hq110
          by_cases hc115 : n113 = 0
          · refine xg_t (xg_ifF (u := n113) rfl xnm0 (xj_neF hc115)) ?_
            refine xg_t (xg_const) ?_
            exact xg_e ⟨0, w109, ⟨rfl, rfl⟩, ⟨by omega, _, _, _, _, (hF112.get (by decide) (hF108.get (by decide) (hb104.get (by decide) (hb101.get (by decide) (hF85.get (by decide) (hb81.get (by decide) (hb78.get (by decide) (hF62.get (by decide) (hb58.get (by decide) (hb52.get (by decide) (hF33.get (by decide) (hF15.get (by decide) hc0))))))))))))⟩, hI111, (((((((((hF15.up (by decide)).tr (hF33.up (by decide))).tr ((xFr.of (S := [27, 28, 29, 30, 31, 32, 33, 34, 35, 36, 37, 38, 39, 40, 41, 42]) hb52 (by decide)).tr (xFr.of (S := [27, 28, 29, 30, 31, 32, 33, 34, 35, 36, 37, 38, 39, 40, 41, 42]) hb58 (by decide)))).tr (hF62.up (by decide))).tr ((xFr.of (S := [27, 28, 29, 30, 31, 32, 33, 34, 35, 36, 37, 38, 39, 40, 41, 42]) hb78 (by decide)).tr (xFr.of (S := [27, 28, 29, 30, 31, 32, 33, 34, 35, 36, 37, 38, 39, 40, 41, 42]) hb81 (by decide)))).tr (hF85.up (by decide))).tr ((xFr.of (S := [27, 28, 29, 30, 31, 32, 33, 34, 35, 36, 37, 38, 39, 40, 41, 42]) hb101 (by decide)).tr (xFr.of (S := [27, 28, 29, 30, 31, 32, 33, 34, 35, 36, 37, 38, 39, 40, 41, 42]) hb104 (by decide)))).tr (hF108.up (by decide))).tr (hF112.up (by decide)))⟩
          · refine xg_t (xg_ifT (u := n113) rfl xnm0 (xj_neT hc115)) ?_
            refine xg_t (xg_blq rfl) ?_
            refine xg_t (xg_aload (va := (2, 27)) rfl rfl) ?_
            refine xoC27 (xqc27 hI111 : cp27 (wget w109 27)) (fun f27_116 f27_118 f27_120 f27_122 f27_124 h27_126 hb117 hb119 hb121 hb123 hb125 => ?_)
            refine xg_t (xg_getf (va := (2, 42)) h27_126 rfl) ?_
            refine xg_t (xg_bip) ?_
            refine xoC42 (xqc42 hI111 : cp42 (wget w109 42)) (fun f42_127 f42_129 f42_131 f42_133 f42_135 h42_137 hb128 hb130 hb132 hb134 hb136 hb138 => ?_)
            refine xg_cVi mX8_isSign (vs := [(0, 59)]) (rest := []) (cn1 := 0) (sl1 := 0) rfl (tkIsSign42 (hI111) (by omega)) rfl h42_137 rfl rfl rfl rfl rfl rfl (fun n143 w139 hq140 => ?_)
            obtain ⟨hn144, hI141, hF142⟩ := hq140
            by_cases hc145 : n143 = 0
            · refine xg_t (xg_ifF (u := n143) rfl xnm0 (xj_neF hc145)) ?_
              refine xg_t (xg_const) ?_
              exact xg_e ⟨0, w139, ⟨rfl, rfl⟩, ⟨by omega, _, _, _, _, (hF142.get (by decide) (hF112.get (by decide) (hF108.get (by decide) (hb104.get (by decide) (hb101.get (by decide) (hF85.get (by decide) (hb81.get (by decide) (hb78.get (by decide) (hF62.get (by decide) (hb58.get (by decide) (hb52.get (by decide) (hF33.get (by decide) (hF15.get (by decide) hc0)))))))))))))⟩, hI141, ((((((((((hF15.up (by decide)).tr (hF33.up (by decide))).tr ((xFr.of (S := [27, 28, 29, 30, 31, 32, 33, 34, 35, 36, 37, 38, 39, 40, 41, 42]) hb52 (by decide)).tr (xFr.of (S := [27, 28, 29, 30, 31, 32, 33, 34, 35, 36, 37, 38, 39, 40, 41, 42]) hb58 (by decide)))).tr (hF62.up (by decide))).tr ((xFr.of (S := [27, 28, 29, 30, 31, 32, 33, 34, 35, 36, 37, 38, 39, 40, 41, 42]) hb78 (by decide)).tr (xFr.of (S := [27, 28, 29, 30, 31, 32, 33, 34, 35, 36, 37, 38, 39, 40, 41, 42]) hb81 (by decide)))).tr (hF85.up (by decide))).tr ((xFr.of (S := [27, 28, 29, 30, 31, 32, 33, 34, 35, 36, 37, 38, 39, 40, 41, 42]) hb101 (by decide)).tr (xFr.of (S := [27, 28, 29, 30, 31, 32, 33, 34, 35, 36, 37, 38, 39, 40, 41, 42]) hb104 (by decide)))).tr (hF108.up (by decide))).tr (hF112.up (by decide))).tr (hF142.up (by decide)))⟩
            · refine xg_t (xg_ifT (u := n143) rfl xnm0 (xj_neT hc145)) ?_
              refine xg_t (xg_blq rfl) ?_
              refine xg_t (xg_aload (va := (2, 27)) rfl rfl) ?_
              refine xg_t (xg_getf (va := (2, 42)) (hF142.get (by decide) h27_126) rfl) ?_
              refine xg_cVv mX8_advance (vs := []) (rest := []) (cn1 := 0) (sl1 := 0) rfl (tkAdvance42 (hI141)) rfl (hF142.get (by decide) h42_137) rfl rfl rfl rfl rfl rfl (fun w146 hq147 => ?_)
              obtain ⟨hI148, hF149⟩ := hq147
              refine xg_t (xg_aload (va := (2, 27)) rfl rfl) ?_
              refine xg_t (xg_getf (va := (0, f27_122)) (hF149.get (by decide) (hF142.get (by decide) h27_126)) rfl) ?_
              by_cases hc150 : f27_122 = 0
              · refine xg_t (xg_ifF (u := f27_122) rfl xnm0 (xj_neF hc150)) ?_
                refine xg_t (xg_aload (va := (2, 27)) rfl rfl) ?_
                refine xg_t (xg_iload (va := (0, 0)) rfl rfl) ?_
                refine xg_t (xg_iload (va := (0, f42_22)) rfl rfl) ?_
                refine xg_cVi mX2_isFine (vs := [(0, 0), (0, f42_22)]) (rest := []) (cn1 := 0) (sl1 := 0) rfl (ftFine0 (hI148) (by omega)) rfl (hF149.get (by decide) (hF142.get (by decide) h27_126)) rfl rfl rfl rfl rfl rfl (fun n155 w151 hq152 => ?_)
                obtain ⟨hn156, hI153, hF154⟩ := hq152
                by_cases hc157 : n155 = 0
                · refine xg_t (xg_ifT (u := n155) rfl xnm0 (xj_eqT hc157)) ?_
                  refine xg_t (xg_blq rfl) ?_
                  refine xg_t (xg_const) ?_
                  exact xg_e ⟨1, w151, ⟨rfl, rfl⟩, ⟨by omega, _, _, _, _, (hF154.get (by decide) (hF149.get (by decide) (hF142.get (by decide) (hF112.get (by decide) (hF108.get (by decide) (hb104.get (by decide) (hb101.get (by decide) (hF85.get (by decide) (hb81.get (by decide) (hb78.get (by decide) (hF62.get (by decide) (hb58.get (by decide) (hb52.get (by decide) (hF33.get (by decide) (hF15.get (by decide) hc0)))))))))))))))⟩, hI153, ((((((((((((hF15.up (by decide)).tr (hF33.up (by decide))).tr ((xFr.of (S := [27, 28, 29, 30, 31, 32, 33, 34, 35, 36, 37, 38, 39, 40, 41, 42]) hb52 (by decide)).tr (xFr.of (S := [27, 28, 29, 30, 31, 32, 33, 34, 35, 36, 37, 38, 39, 40, 41, 42]) hb58 (by decide)))).tr (hF62.up (by decide))).tr ((xFr.of (S := [27, 28, 29, 30, 31, 32, 33, 34, 35, 36, 37, 38, 39, 40, 41, 42]) hb78 (by decide)).tr (xFr.of (S := [27, 28, 29, 30, 31, 32, 33, 34, 35, 36, 37, 38, 39, 40, 41, 42]) hb81 (by decide)))).tr (hF85.up (by decide))).tr ((xFr.of (S := [27, 28, 29, 30, 31, 32, 33, 34, 35, 36, 37, 38, 39, 40, 41, 42]) hb101 (by decide)).tr (xFr.of (S := [27, 28, 29, 30, 31, 32, 33, 34, 35, 36, 37, 38, 39, 40, 41, 42]) hb104 (by decide)))).tr (hF108.up (by decide))).tr (hF112.up (by decide))).tr (hF142.up (by decide))).tr (hF149.up (by decide))).tr (hF154.up (by decide)))⟩
                · refine xg_t (xg_ifF (u := n155) rfl xnm0 (xj_eqF hc157)) ?_
                  refine xg_t (xg_aload (va := (2, 27)) rfl rfl) ?_
                  refine xg_t (xg_iload (va := (0, 0)) rfl rfl) ?_
                  refine xg_t (xg_iload (va := (0, f42_22)) rfl rfl) ?_
                  refine xoC27 (xqc27 hI153 : cp27 (wget w151 27)) (fun f27_158 f27_160 f27_162 f27_164 f27_166 h27_168 hb159 hb161 hb163 hb165 hb167 => ?_)
                  refine xg_cVv mX2_take (vs := [(0, 0), (0, f42_22)]) (rest := []) (cn1 := 0) (sl1 := 0) rfl (ftTake0 (hI153) (by omega)) rfl h27_168 rfl rfl rfl rfl rfl rfl (fun w169 hq170 => ?_)
                  obtain ⟨hI171, hF172⟩ := hq170
                  refine xg_t (xg_blq rfl) ?_
                  refine xg_t (xg_const) ?_
                  exact xg_e ⟨1, w169, ⟨rfl, rfl⟩, ⟨by omega, _, _, _, _, (hF172.get (by decide) (hF154.get (by decide) (hF149.get (by decide) (hF142.get (by decide) (hF112.get (by decide) (hF108.get (by decide) (hb104.get (by decide) (hb101.get (by decide) (hF85.get (by decide) (hb81.get (by decide) (hb78.get (by decide) (hF62.get (by decide) (hb58.get (by decide) (hb52.get (by decide) (hF33.get (by decide) (hF15.get (by decide) hc0))))))))))))))))⟩, hI171, (((((((((((((hF15.up (by decide)).tr (hF33.up (by decide))).tr ((xFr.of (S := [27, 28, 29, 30, 31, 32, 33, 34, 35, 36, 37, 38, 39, 40, 41, 42]) hb52 (by decide)).tr (xFr.of (S := [27, 28, 29, 30, 31, 32, 33, 34, 35, 36, 37, 38, 39, 40, 41, 42]) hb58 (by decide)))).tr (hF62.up (by decide))).tr ((xFr.of (S := [27, 28, 29, 30, 31, 32, 33, 34, 35, 36, 37, 38, 39, 40, 41, 42]) hb78 (by decide)).tr (xFr.of (S := [27, 28, 29, 30, 31, 32, 33, 34, 35, 36, 37, 38, 39, 40, 41, 42]) hb81 (by decide)))).tr (hF85.up (by decide))).tr ((xFr.of (S := [27, 28, 29, 30, 31, 32, 33, 34, 35, 36, 37, 38, 39, 40, 41, 42]) hb101 (by decide)).tr (xFr.of (S := [27, 28, 29, 30, 31, 32, 33, 34, 35, 36, 37, 38, 39, 40, 41, 42]) hb104 (by decide)))).tr (hF108.up (by decide))).tr (hF112.up (by decide))).tr (hF142.up (by decide))).tr (hF149.up (by decide))).tr (hF154.up (by decide))).tr (hF172.up (by decide)))⟩
              · refine xg_t (xg_ifT (u := f27_122) rfl xnm0 (xj_neT hc150)) ?_
                refine xg_t (xg_blq rfl) ?_
                refine xg_t (xg_const) ?_
                exact xg_e ⟨1, w146, ⟨rfl, rfl⟩, ⟨by omega, _, _, _, _, (hF149.get (by decide) (hF142.get (by decide) (hF112.get (by decide) (hF108.get (by decide) (hb104.get (by decide) (hb101.get (by decide) (hF85.get (by decide) (hb81.get (by decide) (hb78.get (by decide) (hF62.get (by decide) (hb58.get (by decide) (hb52.get (by decide) (hF33.get (by decide) (hF15.get (by decide) hc0))))))))))))))⟩, hI148, (((((((((((hF15.up (by decide)).tr (hF33.up (by decide))).tr ((xFr.of (S := [27, 28, 29, 30, 31, 32, 33, 34, 35, 36, 37, 38, 39, 40, 41, 42]) hb52 (by decide)).tr (xFr.of (S := [27, 28, 29, 30, 31, 32, 33, 34, 35, 36, 37, 38, 39, 40, 41, 42]) hb58 (by decide)))).tr (hF62.up (by decide))).tr ((xFr.of (S := [27, 28, 29, 30, 31, 32, 33, 34, 35, 36, 37, 38, 39, 40, 41, 42]) hb78 (by decide)).tr (xFr.of (S := [27, 28, 29, 30, 31, 32, 33, 34, 35, 36, 37, 38, 39, 40, 41, 42]) hb81 (by decide)))).tr (hF85.up (by decide))).tr ((xFr.of (S := [27, 28, 29, 30, 31, 32, 33, 34, 35, 36, 37, 38, 39, 40, 41, 42]) hb101 (by decide)).tr (xFr.of (S := [27, 28, 29, 30, 31, 32, 33, 34, 35, 36, 37, 38, 39, 40, 41, 42]) hb104 (by decide)))).tr (hF108.up (by decide))).tr (hF112.up (by decide))).tr (hF142.up (by decide))).tr (hF149.up (by decide)))⟩
        · refine xg_t (xg_icF (u := f42_88) (v := 2) rfl xnm0 xnm0 (xj_eqF hc98)) ?_
          refine xg_t (xg_const) ?_
          exact xg_e ⟨0, w82, ⟨rfl, rfl⟩, ⟨by omega, _, _, _, _, (hF85.get (by decide) (hb81.get (by decide) (hb78.get (by decide) (hF62.get (by decide) (hb58.get (by decide) (hb52.get (by decide) (hF33.get (by decide) (hF15.get (by decide) hc0))))))))⟩, hI84, ((((((hF15.up (by decide)).tr (hF33.up (by decide))).tr ((xFr.of (S := [27, 28, 29, 30, 31, 32, 33, 34, 35, 36, 37, 38, 39, 40, 41, 42]) hb52 (by decide)).tr (xFr.of (S := [27, 28, 29, 30, 31, 32, 33, 34, 35, 36, 37, 38, 39, 40, 41, 42]) hb58 (by decide)))).tr (hF62.up (by decide))).tr ((xFr.of (S := [27, 28, 29, 30, 31, 32, 33, 34, 35, 36, 37, 38, 39, 40, 41, 42]) hb78 (by decide)).tr (xFr.of (S := [27, 28, 29, 30, 31, 32, 33, 34, 35, 36, 37, 38, 39, 40, 41, 42]) hb81 (by decide)))).tr (hF85.up (by decide)))⟩
      · refine xg_t (xg_icF (u := f42_65) (v := 2) rfl xnm0 xnm0 (xj_eqF hc75)) ?_
        refine xg_t (xg_const) ?_
        exact xg_e ⟨0, w59, ⟨rfl, rfl⟩, ⟨by omega, _, _, _, _, (hF62.get (by decide) (hb58.get (by decide) (hb52.get (by decide) (hF33.get (by decide) (hF15.get (by decide) hc0)))))⟩, hI61, ((((hF15.up (by decide)).tr (hF33.up (by decide))).tr ((xFr.of (S := [27, 28, 29, 30, 31, 32, 33, 34, 35, 36, 37, 38, 39, 40, 41, 42]) hb52 (by decide)).tr (xFr.of (S := [27, 28, 29, 30, 31, 32, 33, 34, 35, 36, 37, 38, 39, 40, 41, 42]) hb58 (by decide)))).tr (hF62.up (by decide)))⟩
    · refine xg_t (xg_icF (u := f42_36) (v := 2) rfl xnm0 xnm0 (xj_eqF hc46)) ?_
      refine xg_t (xg_const) ?_
      exact xg_e ⟨0, w30, ⟨rfl, rfl⟩, ⟨by omega, _, _, _, _, (hF33.get (by decide) (hF15.get (by decide) hc0))⟩, hI32, ((hF15.up (by decide)).tr (hF33.up (by decide)))⟩
  · refine xg_t (xg_istore (l1 := [(0, (2, 27))]) rfl rfl rfl) ?_
    refine xg_t (xg_aload (va := (2, 27)) rfl rfl) ?_
    refine xg_t (xg_getf (va := (2, 42)) (hF15.get (by decide) h27_11) rfl) ?_
    refine xoC42 (xqc42 hI14 : cp42 (wget w12 42)) (fun f42_173 f42_175 f42_177 f42_179 f42_181 h42_183 hb174 hb176 hb178 hb180 hb182 hb184 => ?_)
    refine xg_t (xg_getf (va := (0, f42_177)) h42_183 rfl) ?_
    refine xg_t (xg_istore (l1 := [(1, (0, 1)), (0, (2, 27))]) rfl rfl rfl) ?_
    refine xg_t (xg_iload (va := (0, 1)) rfl rfl) ?_
    refine xg_t (xg_const) ?_
    refine xg_t (xg_icT (u := 1) (v := 4294967295) rfl xnm0 xnm0 (by decide)) ?_
    refine xg_t (xg_blq rfl) ?_
    refine xg_t (xg_aload (va := (2, 27)) rfl rfl) ?_
    refine xg_t (xg_getf (va := (2, 42)) (hF15.get (by decide) h27_11) rfl) ?_
    refine xg_cVv mX8_advance (vs := []) (rest := []) (cn1 := 0) (sl1 := 0) rfl (tkAdvance42 (hI14)) rfl h42_183 rfl rfl rfl rfl rfl rfl (fun w185 hq186 => ?_)
    obtain ⟨hI187, hF188⟩ := hq186
    refine xg_t (xg_const) ?_
    refine xg_t (xg_istore (l1 := [(2, (0, f42_177)), (1, (0, 1)), (0, (2, 27))]) rfl rfl rfl) ?_
    refine xg_t (xg_blq rfl) ?_
    refine xg_t (xg_iload (va := (0, 0)) rfl rfl) ?_
    refine xg_t (xg_gets) ?_
    refine xg_t (xg_iload (va := (0, 1)) rfl rfl) ?_
    refine xg_t (xg_ald8L (n := 1) (u := 2) xnm0 rfl rfl) ?_
    refine xg_t (xg_icF (u := 0) (v := 2) rfl xnm0 xnm0 (by decide)) ?_
    refine xg_t (xg_iload (va := (0, 0)) rfl rfl) ?_
    refine xg_t (xg_const) ?_
    refine xg_t (xg_icF (u := 0) (v := 3) rfl xnm0 xnm0 (by decide)) ?_
    refine xg_t (xg_aload (va := (2, 27)) rfl rfl) ?_
    refine xg_t (xg_getf (va := (2, 42)) (hF188.get (by decide) (hF15.get (by decide) h27_11)) rfl) ?_
    refine xoC42 (xqc42 hI187 : cp42 (wget w185 42)) (fun f42_189 f42_191 f42_193 f42_195 f42_197 h42_199 hb190 hb192 hb194 hb196 hb198 hb200 => ?_)
    refine xg_t (xg_getf (va := (0, f42_191)) h42_199 rfl) ?_
    refine xg_t (xg_const) ?_
    by_cases hc201 : f42_191 = 2
    · refine xg_t (xg_icT (u := f42_191) (v := 2) rfl xnm0 xnm0 (xj_eqT hc201)) ?_
      refine xg_t (xg_blq rfl) ?_
      refine xg_t (xg_aload (va := (2, 27)) rfl rfl) ?_
      refine xg_t (xg_getf (va := (2, 39)) (hF188.get (by decide) (hF15.get (by decide) h27_11)) rfl) ?_
      refine xg_t (xg_iload (va := (0, 0)) rfl rfl) ?_
      refine xg_t (xg_aload (va := (2, 27)) rfl rfl) ?_
      refine xg_t (xg_getf (va := (2, 42)) (hF188.get (by decide) (hF15.get (by decide) h27_11)) rfl) ?_
      refine xg_t (xg_getf (va := (0, f42_197)) h42_199 rfl) ?_
      refine xoI (xqc39 hI187 : cpI 3 18 4294967295 (wget w185 39)) (fun g39_202 h39_203 hb204 => ?_)
      refine xg_iastK (n := 0) (u := f42_197) h39_203 xnm0 xnm0 rfl (by first | decide | omega) (fun w205 hr206 hb207 => ?_)
      refine xg_t (xg_aload (va := (2, 27)) rfl rfl) ?_
      refine xg_t (xg_getf (va := (2, 40)) (hb207.get (by decide) (hF188.get (by decide) (hF15.get (by decide) h27_11))) rfl) ?_
      refine xg_t (xg_iload (va := (0, 0)) rfl rfl) ?_
      refine xg_t (xg_aload (va := (2, 27)) rfl rfl) ?_
      refine xg_t (xg_getf (va := (2, 42)) (hb207.get (by decide) (hF188.get (by decide) (hF15.get (by decide) h27_11))) rfl) ?_
      refine xg_t (xg_getf (va := (0, f42_193)) (hb207.get (by decide) h42_199) rfl) ?_
      refine xoI (xqc40 hI187 : cpI 3 19 4294967295 (wget w185 40)) (fun g40_208 h40_209 hb210 => ?_)
      refine xg_iastK (n := 0) (u := f42_193) (h40_209.but hb207 (by decide)) xnm0 xnm0 rfl (by first | decide | omega) (fun w211 hr212 hb213 => ?_)
      refine xg_t (xg_aload (va := (2, 27)) rfl rfl) ?_
      refine xg_t (xg_getf (va := (2, 42)) (hb213.get (by decide) (hb207.get (by decide) (hF188.get (by decide) (hF15.get (by decide) h27_11)))) rfl) ?_
      refine xg_cVv mX8_advance (vs := []) (rest := []) (cn1 := 0) (sl1 := 0) rfl (tkAdvance42 (xInv.up (S := [39, 40]) hI187 ((xFr.of (S := [39, 40]) hb207 (by decide)).tr (xFr.of (S := [39, 40]) hb213 (by decide))) (List.forall_mem_cons.mpr ⟨xqu39 (show cpI 3 18 4294967295 (wget w211 39) from ⟨_, (hr206.but hb213 (by decide)), xrb (by omega) (hb204)⟩), List.forall_mem_cons.mpr ⟨xqu40 (show cpI 3 19 4294967295 (wget w211 40) from ⟨_, hr212, xrb (by omega) (hb210)⟩), fun _ h => absurd h List.not_mem_nil⟩⟩))) rfl (hb213.get (by decide) (hb207.get (by decide) h42_199)) rfl rfl rfl rfl rfl rfl (fun w214 hq215 => ?_)
      obtain ⟨hI216, hF217⟩ := hq215
      refine xg_t (xg_iinc (u := 0) (z := 1) (l1 := [(2, (0, f42_177)), (1, (0, 1)), (0, (2, 27))]) rfl rfl (by decide) rfl) ?_
      refine xg_t (xg_goto) ?_
      refine xg_t (xg_blq rfl) ?_
      refine xg_t (xg_iload (va := (0, 1)) rfl rfl) ?_
      refine xg_t (xg_gets) ?_
      refine xg_t (xg_iload (va := (0, 1)) rfl rfl) ?_
      refine xg_t (xg_ald8L (n := 1) (u := 2) xnm0 rfl rfl) ?_
      refine xg_t (xg_icF (u := 1) (v := 2) rfl xnm0 xnm0 (by decide)) ?_
      refine xg_t (xg_iload (va := (0, 1)) rfl rfl) ?_
      refine xg_t (xg_const) ?_
      refine xg_t (xg_icF (u := 1) (v := 3) rfl xnm0 xnm0 (by decide)) ?_
      refine xg_t (xg_aload (va := (2, 27)) rfl rfl) ?_
      refine xg_t (xg_getf (va := (2, 42)) (hF217.get (by decide) (hb213.get (by decide) (hb207.get (by decide) (hF188.get (by decide) (hF15.get (by decide) h27_11))))) rfl) ?_
      refine xoC42 (xqc42 hI216 : cp42 (wget w214 42)) (fun f42_218 f42_220 f42_222 f42_224 f42_226 h42_228 hb219 hb221 hb223 hb225 hb227 hb229 => ?_)
      refine xg_t (xg_getf (va := (0, f42_220)) h42_228 rfl) ?_
      refine xg_t (xg_const) ?_
      by_cases hc230 : f42_220 = 2
      · refine xg_t (xg_icT (u := f42_220) (v := 2) rfl xnm0 xnm0 (xj_eqT hc230)) ?_
        refine xg_t (xg_blq rfl) ?_
        refine xg_t (xg_aload (va := (2, 27)) rfl rfl) ?_
        refine xg_t (xg_getf (va := (2, 39)) (hF217.get (by decide) (hb213.get (by decide) (hb207.get (by decide) (hF188.get (by decide) (hF15.get (by decide) h27_11))))) rfl) ?_
        refine xg_t (xg_iload (va := (0, 1)) rfl rfl) ?_
        refine xg_t (xg_aload (va := (2, 27)) rfl rfl) ?_
        refine xg_t (xg_getf (va := (2, 42)) (hF217.get (by decide) (hb213.get (by decide) (hb207.get (by decide) (hF188.get (by decide) (hF15.get (by decide) h27_11))))) rfl) ?_
        refine xg_t (xg_getf (va := (0, f42_226)) h42_228 rfl) ?_
        refine xg_iastK (n := 1) (u := f42_226) ((hr206.but hb213 (by decide)).fr hF217 (by decide)) xnm0 xnm0 rfl (by first | decide | omega) (fun w231 hr232 hb233 => ?_)
        refine xg_t (xg_aload (va := (2, 27)) rfl rfl) ?_
        refine xg_t (xg_getf (va := (2, 40)) (hb233.get (by decide) (hF217.get (by decide) (hb213.get (by decide) (hb207.get (by decide) (hF188.get (by decide) (hF15.get (by decide) h27_11)))))) rfl) ?_
        refine xg_t (xg_iload (va := (0, 1)) rfl rfl) ?_
        refine xg_t (xg_aload (va := (2, 27)) rfl rfl) ?_
        refine xg_t (xg_getf (va := (2, 42)) (hb233.get (by decide) (hF217.get (by decide) (hb213.get (by decide) (hb207.get (by decide) (hF188.get (by decide) (hF15.get (by decide) h27_11)))))) rfl) ?_
        refine xg_t (xg_getf (va := (0, f42_222)) (hb233.get (by decide) h42_228) rfl) ?_
        refine xg_iastK (n := 1) (u := f42_222) ((hr212.fr hF217 (by decide)).but hb233 (by decide)) xnm0 xnm0 rfl (by first | decide | omega) (fun w234 hr235 hb236 => ?_)
        refine xg_t (xg_aload (va := (2, 27)) rfl rfl) ?_
        refine xg_t (xg_getf (va := (2, 42)) (hb236.get (by decide) (hb233.get (by decide) (hF217.get (by decide) (hb213.get (by decide) (hb207.get (by decide) (hF188.get (by decide) (hF15.get (by decide) h27_11))))))) rfl) ?_
        refine xg_cVv mX8_advance (vs := []) (rest := []) (cn1 := 0) (sl1 := 0) rfl (tkAdvance42 (xInv.up (S := [39, 40]) hI216 ((xFr.of (S := [39, 40]) hb233 (by decide)).tr (xFr.of (S := [39, 40]) hb236 (by decide))) (List.forall_mem_cons.mpr ⟨xqu39 (show cpI 3 18 4294967295 (wget w234 39) from ⟨_, (hr232.but hb236 (by decide)), xrb (by omega) (xrb (by omega) (hb204))⟩), List.forall_mem_cons.mpr ⟨xqu40 (show cpI 3 19 4294967295 (wget w234 40) from ⟨_, hr235, xrb (by omega) (xrb (by omega) (hb210))⟩), fun _ h => absurd h List.not_mem_nil⟩⟩))) rfl (hb236.get (by decide) (hb233.get (by decide) h42_228)) rfl rfl rfl rfl rfl rfl (fun w237 hq238 => ?_)
        obtain ⟨hI239, hF240⟩ := hq238
        refine xg_t (xg_iinc (u := 1) (z := 2) (l1 := [(2, (0, f42_177)), (1, (0, 1)), (0, (2, 27))]) rfl rfl (by decide) rfl) ?_
        refine xg_t (xg_goto) ?_
        refine xg_t (xg_blq rfl) ?_
        refine xg_t (xg_iload (va := (0, 2)) rfl rfl) ?_
        refine xg_t (xg_gets) ?_
        refine xg_t (xg_iload (va := (0, 1)) rfl rfl) ?_
        refine xg_t (xg_ald8L (n := 1) (u := 2) xnm0 rfl rfl) ?_
        refine xg_t (xg_icT (u := 2) (v := 2) rfl xnm0 xnm0 (by decide)) ?_
        refine xg_t (xg_blq rfl) ?_
        refine xg_t (xg_iload (va := (0, 1)) rfl rfl) ?_
        refine xg_t (xg_ifT (u := 1) rfl xnm0 (by decide)) ?_
        refine xg_t (xg_blq rfl) ?_
        refine xg_t (xg_aload (va := (2, 27)) rfl rfl) ?_
        refine xg_t (xg_getf (va := (2, 42)) (hF240.get (by decide) (hb236.get (by decide) (hb233.get (by decide) (hF217.get (by decide) (hb213.get (by decide) (hb207.get (by decide) (hF188.get (by decide) (hF15.get (by decide) h27_11)))))))) rfl) ?_
        refine xg_t (xg_bip) ?_
        refine xoC42 (xqc42 hI239 : cp42 (wget w237 42)) (fun f42_241 f42_243 f42_245 f42_247 f42_249 h42_251 hb242 hb244 hb246 hb248 hb250 hb252 => ?_)
        refine xg_cVi mX8_isSign (vs := [(0, 59)]) (rest := []) (cn1 := 0) (sl1 := 0) rfl (tkIsSign42 (hI239) (by omega)) rfl h42_251 rfl rfl rfl rfl rfl rfl (fun n257 w253 hq254 => ?_)
        obtain ⟨hn258, hI255, hF256⟩ := hq254
        by_cases hc259 : n257 = 0
        · refine xg_t (xg_ifF (u := n257) rfl xnm0 (xj_neF hc259)) ?_
          refine xg_t (xg_const) ?_
          exact xg_e ⟨0, w253, ⟨rfl, rfl⟩, ⟨by omega, _, _, _, _, (hF256.get (by decide) (hF240.get (by decide) (hb236.get (by decide) (hb233.get (by decide) (hF217.get (by decide) (hb213.get (by decide) (hb207.get (by decide) (hF188.get (by decide) (hF15.get (by decide) hc0)))))))))⟩, hI255, (((((((hF15.up (by decide)).tr (hF188.up (by decide))).tr ((xFr.of (S := [27, 28, 29, 30, 31, 32, 33, 34, 35, 36, 37, 38, 39, 40, 41, 42]) hb207 (by decide)).tr (xFr.of (S := [27, 28, 29, 30, 31, 32, 33, 34, 35, 36, 37, 38, 39, 40, 41, 42]) hb213 (by decide)))).tr (hF217.up (by decide))).tr ((xFr.of (S := [27, 28, 29, 30, 31, 32, 33, 34, 35, 36, 37, 38, 39, 40, 41, 42]) hb233 (by decide)).tr (xFr.of (S := [27, 28, 29, 30, 31, 32, 33, 34, 35, 36, 37, 38, 39, 40, 41, 42]) hb236 (by decide)))).tr (hF240.up (by decide))).tr (hF256.up (by decide)))⟩
        · refine xg_t (xg_ifT (u := n257) rfl xnm0 (xj_neT hc259)) ?_
          refine xg_t (xg_blq rfl) ?_
          refine xg_t (xg_aload (va := (2, 27)) rfl rfl) ?_
          refine xg_t (xg_getf (va := (2, 42)) (hF256.get (by decide) (hF240.get (by decide) (hb236.get (by decide) (hb233.get (by decide) (hF217.get (by decide) (hb213.get (by decide) (hb207.get (by decide) (hF188.get (by decide) (hF15.get (by decide) h27_11))))))))) rfl) ?_
          refine xg_cVv mX8_advance (vs := []) (rest := []) (cn1 := 0) (sl1 := 0) rfl (tkAdvance42 (hI255)) rfl (hF256.get (by decide) h42_251) rfl rfl rfl rfl rfl rfl (fun w260 hq261 => ?_)
          obtain ⟨hI262, hF263⟩ := hq261
          refine xg_t (xg_aload (va := (2, 27)) rfl rfl) ?_
          refine xg_t (xg_getf (va := (0, f27_7)) (hF263.get (by decide) (hF256.get (by decide) (hF240.get (by decide) (hb236.get (by decide) (hb233.get (by decide) (hF217.get (by decide) (hb213.get (by decide) (hb207.get (by decide) (hF188.get (by decide) (hF15.get (by decide) h27_11)))))))))) rfl) ?_
          by_cases hc264 : f27_7 = 0
          · refine xg_t (xg_ifF (u := f27_7) rfl xnm0 (xj_neF hc264)) ?_
            refine xg_t (xg_aload (va := (2, 27)) rfl rfl) ?_
            refine xg_t (xg_iload (va := (0, 1)) rfl rfl) ?_
            refine xg_t (xg_iload (va := (0, f42_177)) rfl rfl) ?_
            refine xg_cVi mX2_isFine (vs := [(0, 1), (0, f42_177)]) (rest := []) (cn1 := 0) (sl1 := 0) rfl (ftFine1 (hI262) (by omega)) rfl (hF263.get (by decide) (hF256.get (by decide) (hF240.get (by decide) (hb236.get (by decide) (hb233.get (by decide) (hF217.get (by decide) (hb213.get (by decide) (hb207.get (by decide) (hF188.get (by decide) (hF15.get (by decide) h27_11)))))))))) rfl rfl rfl rfl rfl rfl (fun n269 w265 hq266 => ?_)
            obtain ⟨hn270, hI267, hF268⟩ := hq266
            by_cases hc271 : n269 = 0
            · refine xg_t (xg_ifT (u := n269) rfl xnm0 (xj_eqT hc271)) ?_
              refine xg_t (xg_blq rfl) ?_
              refine xg_t (xg_const) ?_
              exact xg_e ⟨1, w265, ⟨rfl, rfl⟩, ⟨by omega, _, _, _, _, (hF268.get (by decide) (hF263.get (by decide) (hF256.get (by decide) (hF240.get (by decide) (hb236.get (by decide) (hb233.get (by decide) (hF217.get (by decide) (hb213.get (by decide) (hb207.get (by decide) (hF188.get (by decide) (hF15.get (by decide) hc0)))))))))))⟩, hI267, (((((((((hF15.up (by decide)).tr (hF188.up (by decide))).tr ((xFr.of (S := [27, 28, 29, 30, 31, 32, 33, 34, 35, 36, 37, 38, 39, 40, 41, 42]) hb207 (by decide)).tr (xFr.of (S := [27, 28, 29, 30, 31, 32, 33, 34, 35, 36, 37, 38, 39, 40, 41, 42]) hb213 (by decide)))).tr (hF217.up (by decide))).tr ((xFr.of (S := [27, 28, 29, 30, 31, 32, 33, 34, 35, 36, 37, 38, 39, 40, 41, 42]) hb233 (by decide)).tr (xFr.of (S := [27, 28, 29, 30, 31, 32, 33, 34, 35, 36, 37, 38, 39, 40, 41, 42]) hb236 (by decide)))).tr (hF240.up (by decide))).tr (hF256.up (by decide))).tr (hF263.up (by decide))).tr (hF268.up (by decide)))⟩
            · refine xg_t (xg_ifF (u := n269) rfl xnm0 (xj_eqF hc271)) ?_
              refine xg_t (xg_aload (va := (2, 27)) rfl rfl) ?_
              refine xg_t (xg_iload (va := (0, 1)) rfl rfl) ?_
              refine xg_t (xg_iload (va := (0, f42_177)) rfl rfl) ?_
              refine xoC27 (xqc27 hI267 : cp27 (wget w265 27)) (fun f27_272 f27_274 f27_276 f27_278 f27_280 h27_282 hb273 hb275 hb277 hb279 hb281 => ?_)
              refine xg_cVv mX2_take (vs := [(0, 1), (0, f42_177)]) (rest := []) (cn1 := 0) (sl1 := 0) rfl (ftTake1 (hI267) (by omega)) rfl h27_282 rfl rfl rfl rfl rfl rfl (fun w283 hq284 => ?_)
              obtain ⟨hI285, hF286⟩ := hq284
              refine xg_t (xg_blq rfl) ?_
              refine xg_t (xg_const) ?_
              exact xg_e ⟨1, w283, ⟨rfl, rfl⟩, ⟨by omega, _, _, _, _, (hF286.get (by decide) (hF268.get (by decide) (hF263.get (by decide) (hF256.get (by decide) (hF240.get (by decide) (hb236.get (by decide) (hb233.get (by decide) (hF217.get (by decide) (hb213.get (by decide) (hb207.get (by decide) (hF188.get (by decide) (hF15.get (by decide) hc0))))))))))))⟩, hI285, ((((((((((hF15.up (by decide)).tr (hF188.up (by decide))).tr ((xFr.of (S := [27, 28, 29, 30, 31, 32, 33, 34, 35, 36, 37, 38, 39, 40, 41, 42]) hb207 (by decide)).tr (xFr.of (S := [27, 28, 29, 30, 31, 32, 33, 34, 35, 36, 37, 38, 39, 40, 41, 42]) hb213 (by decide)))).tr (hF217.up (by decide))).tr ((xFr.of (S := [27, 28, 29, 30, 31, 32, 33, 34, 35, 36, 37, 38, 39, 40, 41, 42]) hb233 (by decide)).tr (xFr.of (S := [27, 28, 29, 30, 31, 32, 33, 34, 35, 36, 37, 38, 39, 40, 41, 42]) hb236 (by decide)))).tr (hF240.up (by decide))).tr (hF256.up (by decide))).tr (hF263.up (by decide))).tr (hF268.up (by decide))).tr (hF286.up (by decide)))⟩
          · refine xg_t (xg_ifT (u := f27_7) rfl xnm0 (xj_neT hc264)) ?_
            refine xg_t (xg_blq rfl) ?_
            refine xg_t (xg_const) ?_
            exact xg_e ⟨1, w260, ⟨rfl, rfl⟩, ⟨by omega, _, _, _, _, (hF263.get (by decide) (hF256.get (by decide) (hF240.get (by decide) (hb236.get (by decide) (hb233.get (by decide) (hF217.get (by decide) (hb213.get (by decide) (hb207.get (by decide) (hF188.get (by decide) (hF15.get (by decide) hc0))))))))))⟩, hI262, ((((((((hF15.up (by decide)).tr (hF188.up (by decide))).tr ((xFr.of (S := [27, 28, 29, 30, 31, 32, 33, 34, 35, 36, 37, 38, 39, 40, 41, 42]) hb207 (by decide)).tr (xFr.of (S := [27, 28, 29, 30, 31, 32, 33, 34, 35, 36, 37, 38, 39, 40, 41, 42]) hb213 (by decide)))).tr (hF217.up (by decide))).tr ((xFr.of (S := [27, 28, 29, 30, 31, 32, 33, 34, 35, 36, 37, 38, 39, 40, 41, 42]) hb233 (by decide)).tr (xFr.of (S := [27, 28, 29, 30, 31, 32, 33, 34, 35, 36, 37, 38, 39, 40, 41, 42]) hb236 (by decide)))).tr (hF240.up (by decide))).tr (hF256.up (by decide))).tr (hF263.up (by decide)))⟩
      · refine xg_t (xg_icF (u := f42_220) (v := 2) rfl xnm0 xnm0 (xj_eqF hc230)) ?_
        refine xg_t (xg_const) ?_
        exact xg_e ⟨0, w214, ⟨rfl, rfl⟩, ⟨by omega, _, _, _, _, (hF217.get (by decide) (hb213.get (by decide) (hb207.get (by decide) (hF188.get (by decide) (hF15.get (by decide) hc0)))))⟩, hI216, ((((hF15.up (by decide)).tr (hF188.up (by decide))).tr ((xFr.of (S := [27, 28, 29, 30, 31, 32, 33, 34, 35, 36, 37, 38, 39, 40, 41, 42]) hb207 (by decide)).tr (xFr.of (S := [27, 28, 29, 30, 31, 32, 33, 34, 35, 36, 37, 38, 39, 40, 41, 42]) hb213 (by decide)))).tr (hF217.up (by decide)))⟩
    · refine xg_t (xg_icF (u := f42_191) (v := 2) rfl xnm0 xnm0 (xj_eqF hc201)) ?_
      refine xg_t (xg_const) ?_
      exact xg_e ⟨0, w185, ⟨rfl, rfl⟩, ⟨by omega, _, _, _, _, (hF188.get (by decide) (hF15.get (by decide) hc0))⟩, hI187, ((hF15.up (by decide)).tr (hF188.up (by decide)))⟩
  · refine xg_t (xg_istore (l1 := [(0, (2, 27))]) rfl rfl rfl) ?_
    refine xg_t (xg_aload (va := (2, 27)) rfl rfl) ?_
    refine xg_t (xg_getf (va := (2, 42)) (hF15.get (by decide) h27_11) rfl) ?_
    refine xoC42 (xqc42 hI14 : cp42 (wget w12 42)) (fun f42_287 f42_289 f42_291 f42_293 f42_295 h42_297 hb288 hb290 hb292 hb294 hb296 hb298 => ?_)
    refine xg_t (xg_getf (va := (0, f42_291)) h42_297 rfl) ?_
    refine xg_t (xg_istore (l1 := [(1, (0, 2)), (0, (2, 27))]) rfl rfl rfl) ?_
    refine xg_t (xg_iload (va := (0, 2)) rfl rfl) ?_
    refine xg_t (xg_const) ?_
    refine xg_t (xg_icT (u := 2) (v := 4294967295) rfl xnm0 xnm0 (by decide)) ?_
    refine xg_t (xg_blq rfl) ?_
    refine xg_t (xg_aload (va := (2, 27)) rfl rfl) ?_
    refine xg_t (xg_getf (va := (2, 42)) (hF15.get (by decide) h27_11) rfl) ?_
    refine xg_cVv mX8_advance (vs := []) (rest := []) (cn1 := 0) (sl1 := 0) rfl (tkAdvance42 (hI14)) rfl h42_297 rfl rfl rfl rfl rfl rfl (fun w299 hq300 => ?_)
    obtain ⟨hI301, hF302⟩ := hq300
    refine xg_t (xg_const) ?_
    refine xg_t (xg_istore (l1 := [(2, (0, f42_291)), (1, (0, 2)), (0, (2, 27))]) rfl rfl rfl) ?_
    refine xg_t (xg_blq rfl) ?_
    refine xg_t (xg_iload (va := (0, 0)) rfl rfl) ?_
    refine xg_t (xg_gets) ?_
    refine xg_t (xg_iload (va := (0, 2)) rfl rfl) ?_
    refine xg_t (xg_ald8L (n := 2) (u := 2) xnm0 rfl rfl) ?_
    refine xg_t (xg_icF (u := 0) (v := 2) rfl xnm0 xnm0 (by decide)) ?_
    refine xg_t (xg_iload (va := (0, 0)) rfl rfl) ?_
    refine xg_t (xg_const) ?_
    refine xg_t (xg_icF (u := 0) (v := 3) rfl xnm0 xnm0 (by decide)) ?_
    refine xg_t (xg_aload (va := (2, 27)) rfl rfl) ?_
    refine xg_t (xg_getf (va := (2, 42)) (hF302.get (by decide) (hF15.get (by decide) h27_11)) rfl) ?_
    refine xoC42 (xqc42 hI301 : cp42 (wget w299 42)) (fun f42_303 f42_305 f42_307 f42_309 f42_311 h42_313 hb304 hb306 hb308 hb310 hb312 hb314 => ?_)
    refine xg_t (xg_getf (va := (0, f42_305)) h42_313 rfl) ?_
    refine xg_t (xg_const) ?_
    by_cases hc315 : f42_305 = 2
    · refine xg_t (xg_icT (u := f42_305) (v := 2) rfl xnm0 xnm0 (xj_eqT hc315)) ?_
      refine xg_t (xg_blq rfl) ?_
      refine xg_t (xg_aload (va := (2, 27)) rfl rfl) ?_
      refine xg_t (xg_getf (va := (2, 39)) (hF302.get (by decide) (hF15.get (by decide) h27_11)) rfl) ?_
      refine xg_t (xg_iload (va := (0, 0)) rfl rfl) ?_
      refine xg_t (xg_aload (va := (2, 27)) rfl rfl) ?_
      refine xg_t (xg_getf (va := (2, 42)) (hF302.get (by decide) (hF15.get (by decide) h27_11)) rfl) ?_
      refine xg_t (xg_getf (va := (0, f42_311)) h42_313 rfl) ?_
      refine xoI (xqc39 hI301 : cpI 3 18 4294967295 (wget w299 39)) (fun g39_316 h39_317 hb318 => ?_)
      refine xg_iastK (n := 0) (u := f42_311) h39_317 xnm0 xnm0 rfl (by first | decide | omega) (fun w319 hr320 hb321 => ?_)
      refine xg_t (xg_aload (va := (2, 27)) rfl rfl) ?_
      refine xg_t (xg_getf (va := (2, 40)) (hb321.get (by decide) (hF302.get (by decide) (hF15.get (by decide) h27_11))) rfl) ?_
      refine xg_t (xg_iload (va := (0, 0)) rfl rfl) ?_
      refine xg_t (xg_aload (va := (2, 27)) rfl rfl) ?_
      refine xg_t (xg_getf (va := (2, 42)) (hb321.get (by decide) (hF302.get (by decide) (hF15.get (by decide) h27_11))) rfl) ?_
      refine xg_t (xg_getf (va := (0, f42_307)) (hb321.get (by decide) h42_313) rfl) ?_
      refine xoI (xqc40 hI301 : cpI 3 19 4294967295 (wget w299 40)) (fun g40_322 h40_323 hb324 => ?_)
      refine xg_iastK (n := 0) (u := f42_307) (h40_323.but hb321 (by decide)) xnm0 xnm0 rfl (by first | decide | omega) (fun w325 hr326 hb327 => ?_)
      refine xg_t (xg_aload (va := (2, 27)) rfl rfl) ?_
      refine xg_t (xg_getf (va := (2, 42)) (hb327.get (by decide) (hb321.get (by decide) (hF302.get (by decide) (hF15.get (by decide) h27_11)))) rfl) ?_
      refine xg_cVv mX8_advance (vs := []) (rest := []) (cn1 := 0) (sl1 := 0) rfl (tkAdvance42 (xInv.up (S := [39, 40]) hI301 ((xFr.of (S := [39, 40]) hb321 (by decide)).tr (xFr.of (S := [39, 40]) hb327 (by decide))) (List.forall_mem_cons.mpr ⟨xqu39 (show cpI 3 18 4294967295 (wget w325 39) from ⟨_, (hr320.but hb327 (by decide)), xrb (by omega) (hb318)⟩), List.forall_mem_cons.mpr ⟨xqu40 (show cpI 3 19 4294967295 (wget w325 40) from ⟨_, hr326, xrb (by omega) (hb324)⟩), fun _ h => absurd h List.not_mem_nil⟩⟩))) rfl (hb327.get (by decide) (hb321.get (by decide) h42_313)) rfl rfl rfl rfl rfl rfl (fun w328 hq329 => ?_)
      obtain ⟨hI330, hF331⟩ := hq329
      refine xg_t (xg_iinc (u := 0) (z := 1) (l1 := [(2, (0, f42_291)), (1, (0, 2)), (0, (2, 27))]) rfl rfl (by decide) rfl) ?_
      refine xg_t (xg_goto) ?_
      refine xg_t (xg_blq rfl) ?_
      refine xg_t (xg_iload (va := (0, 1)) rfl rfl) ?_
      refine xg_t (xg_gets) ?_
      refine xg_t (xg_iload (va := (0, 2)) rfl rfl) ?_
      refine xg_t (xg_ald8L (n := 2) (u := 2) xnm0 rfl rfl) ?_
      refine xg_t (xg_icF (u := 1) (v := 2) rfl xnm0 xnm0 (by decide)) ?_
      refine xg_t (xg_iload (va := (0, 1)) rfl rfl) ?_
      refine xg_t (xg_const) ?_
      refine xg_t (xg_icF (u := 1) (v := 3) rfl xnm0 xnm0 (by decide)) ?_
      refine xg_t (xg_aload (va := (2, 27)) rfl rfl) ?_
      refine xg_t (xg_getf (va := (2, 42)) (hF331.get (by decide) (hb327.get (by decide) (hb321.get (by decide) (hF302.get (by decide) (hF15.get (by decide) h27_11))))) rfl) ?_
      refine xoC42 (xqc42 hI330 : cp42 (wget w328 42)) (fun f42_332 f42_334 f42_336 f42_338 f42_340 h42_342 hb333 hb335 hb337 hb339 hb341 hb343 => ?_)
      refine xg_t (xg_getf (va := (0, f42_334)) h42_342 rfl) ?_
      refine xg_t (xg_const) ?_
      by_cases hc344 : f42_334 = 2
      · refine xg_t (xg_icT (u := f42_334) (v := 2) rfl xnm0 xnm0 (xj_eqT hc344)) ?_
        refine xg_t (xg_blq rfl) ?_
        refine xg_t (xg_aload (va := (2, 27)) rfl rfl) ?_
        refine xg_t (xg_getf (va := (2, 39)) (hF331.get (by decide) (hb327.get (by decide) (hb321.get (by decide) (hF302.get (by decide) (hF15.get (by decide) h27_11))))) rfl) ?_
        refine xg_t (xg_iload (va := (0, 1)) rfl rfl) ?_
        refine xg_t (xg_aload (va := (2, 27)) rfl rfl) ?_
        refine xg_t (xg_getf (va := (2, 42)) (hF331.get (by decide) (hb327.get (by decide) (hb321.get (by decide) (hF302.get (by decide) (hF15.get (by decide) h27_11))))) rfl) ?_
        refine xg_t (xg_getf (va := (0, f42_340)) h42_342 rfl) ?_
        refine xg_iastK (n := 1) (u := f42_340) ((hr320.but hb327 (by decide)).fr hF331 (by decide)) xnm0 xnm0 rfl (by first | decide | omega) (fun w345 hr346 hb347 => ?_)
        refine xg_t (xg_aload (va := (2, 27)) rfl rfl) ?_
        refine xg_t (xg_getf (va := (2, 40)) (hb347.get (by decide) (hF331.get (by decide) (hb327.get (by decide) (hb321.get (by decide) (hF302.get (by decide) (hF15.get (by decide) h27_11)))))) rfl) ?_
        refine xg_t (xg_iload (va := (0, 1)) rfl rfl) ?_
        refine xg_t (xg_aload (va := (2, 27)) rfl rfl) ?_
        refine xg_t (xg_getf (va := (2, 42)) (hb347.get (by decide) (hF331.get (by decide) (hb327.get (by decide) (hb321.get (by decide) (hF302.get (by decide) (hF15.get (by decide) h27_11)))))) rfl) ?_
        refine xg_t (xg_getf (va := (0, f42_336)) (hb347.get (by decide) h42_342) rfl) ?_
        refine xg_iastK (n := 1) (u := f42_336) ((hr326.fr hF331 (by decide)).but hb347 (by decide)) xnm0 xnm0 rfl (by first | decide | omega) (fun w348 hr349 hb350 => ?_)
        refine xg_t (xg_aload (va := (2, 27)) rfl rfl) ?_
        refine xg_t (xg_getf (va := (2, 42)) (hb350.get (by decide) (hb347.get (by decide) (hF331.get (by decide) (hb327.get (by decide) (hb321.get (by decide) (hF302.get (by decide) (hF15.get (by decide) h27_11))))))) rfl) ?_
        refine xg_cVv mX8_advance (vs := []) (rest := []) (cn1 := 0) (sl1 := 0) rfl (tkAdvance42 (xInv.up (S := [39, 40]) hI330 ((xFr.of (S := [39, 40]) hb347 (by decide)).tr (xFr.of (S := [39, 40]) hb350 (by decide))) (List.forall_mem_cons.mpr ⟨xqu39 (show cpI 3 18 4294967295 (wget w348 39) from ⟨_, (hr346.but hb350 (by decide)), xrb (by omega) (xrb (by omega) (hb318))⟩), List.forall_mem_cons.mpr ⟨xqu40 (show cpI 3 19 4294967295 (wget w348 40) from ⟨_, hr349, xrb (by omega) (xrb (by omega) (hb324))⟩), fun _ h => absurd h List.not_mem_nil⟩⟩))) rfl (hb350.get (by decide) (hb347.get (by decide) h42_342)) rfl rfl rfl rfl rfl rfl (fun w351 hq352 => ?_)
        obtain ⟨hI353, hF354⟩ := hq352
        refine xg_t (xg_iinc (u := 1) (z := 2) (l1 := [(2, (0, f42_291)), (1, (0, 2)), (0, (2, 27))]) rfl rfl (by decide) rfl) ?_
        refine xg_t (xg_goto) ?_
        refine xg_t (xg_blq rfl) ?_
        refine xg_t (xg_iload (va := (0, 2)) rfl rfl) ?_
        refine xg_t (xg_gets) ?_
        refine xg_t (xg_iload (va := (0, 2)) rfl rfl) ?_
        refine xg_t (xg_ald8L (n := 2) (u := 2) xnm0 rfl rfl) ?_
        refine xg_t (xg_icT (u := 2) (v := 2) rfl xnm0 xnm0 (by decide)) ?_
        refine xg_t (xg_blq rfl) ?_
        refine xg_t (xg_iload (va := (0, 2)) rfl rfl) ?_
        refine xg_t (xg_ifT (u := 2) rfl xnm0 (by decide)) ?_
        refine xg_t (xg_blq rfl) ?_
        refine xg_t (xg_aload (va := (2, 27)) rfl rfl) ?_
        refine xg_t (xg_getf (va := (2, 42)) (hF354.get (by decide) (hb350.get (by decide) (hb347.get (by decide) (hF331.get (by decide) (hb327.get (by decide) (hb321.get (by decide) (hF302.get (by decide) (hF15.get (by decide) h27_11)))))))) rfl) ?_
        refine xg_t (xg_bip) ?_
        refine xoC42 (xqc42 hI353 : cp42 (wget w351 42)) (fun f42_355 f42_357 f42_359 f42_361 f42_363 h42_365 hb356 hb358 hb360 hb362 hb364 hb366 => ?_)
        refine xg_cVi mX8_isSign (vs := [(0, 59)]) (rest := []) (cn1 := 0) (sl1 := 0) rfl (tkIsSign42 (hI353) (by omega)) rfl h42_365 rfl rfl rfl rfl rfl rfl (fun n371 w367 hq368 => ?_)
        obtain ⟨hn372, hI369, hF370⟩ := hq368
        by_cases hc373 : n371 = 0
        · refine xg_t (xg_ifF (u := n371) rfl xnm0 (xj_neF hc373)) ?_
          refine xg_t (xg_const) ?_
          exact xg_e ⟨0, w367, ⟨rfl, rfl⟩, ⟨by omega, _, _, _, _, (hF370.get (by decide) (hF354.get (by decide) (hb350.get (by decide) (hb347.get (by decide) (hF331.get (by decide) (hb327.get (by decide) (hb321.get (by decide) (hF302.get (by decide) (hF15.get (by decide) hc0)))))))))⟩, hI369, (((((((hF15.up (by decide)).tr (hF302.up (by decide))).tr ((xFr.of (S := [27, 28, 29, 30, 31, 32, 33, 34, 35, 36, 37, 38, 39, 40, 41, 42]) hb321 (by decide)).tr (xFr.of (S := [27, 28, 29, 30, 31, 32, 33, 34, 35, 36, 37, 38, 39, 40, 41, 42]) hb327 (by decide)))).tr (hF331.up (by decide))).tr ((xFr.of (S := [27, 28, 29, 30, 31, 32, 33, 34, 35, 36, 37, 38, 39, 40, 41, 42]) hb347 (by decide)).tr (xFr.of (S := [27, 28, 29, 30, 31, 32, 33, 34, 35, 36, 37, 38, 39, 40, 41, 42]) hb350 (by decide)))).tr (hF354.up (by decide))).tr (hF370.up (by decide)))⟩
        · refine xg_t (xg_ifT (u := n371) rfl xnm0 (xj_neT hc373)) ?_
          refine xg_t (xg_blq rfl) ?_
          refine xg_t (xg_aload (va := (2, 27)) rfl rfl) ?_
          refine xg_t (xg_getf (va := (2, 42)) (hF370.get (by decide) (hF354.get (by decide) (hb350.get (by decide) (hb347.get (by decide) (hF331.get (by decide) (hb327.get (by decide) (hb321.get (by decide) (hF302.get (by decide) (hF15.get (by decide) h27_11))))))))) rfl) ?_
          refine xg_cVv mX8_advance (vs := []) (rest := []) (cn1 := 0) (sl1 := 0) rfl (tkAdvance42 (hI369)) rfl (hF370.get (by decide) h42_365) rfl rfl rfl rfl rfl rfl (fun w374 hq375 => ?_)
          obtain ⟨hI376, hF377⟩ := hq375
          refine xg_t (xg_aload (va := (2, 27)) rfl rfl) ?_
          refine xg_t (xg_getf (va := (0, f27_7)) (hF377.get (by decide) (hF370.get (by decide) (hF354.get (by decide) (hb350.get (by decide) (hb347.get (by decide) (hF331.get (by decide) (hb327.get (by decide) (hb321.get (by decide) (hF302.get (by decide) (hF15.get (by decide) h27_11)))))))))) rfl) ?_
          by_cases hc378 : f27_7 = 0
          · refine xg_t (xg_ifF (u := f27_7) rfl xnm0 (xj_neF hc378)) ?_
            refine xg_t (xg_aload (va := (2, 27)) rfl rfl) ?_
            refine xg_t (xg_iload (va := (0, 2)) rfl rfl) ?_
            refine xg_t (xg_iload (va := (0, f42_291)) rfl rfl) ?_
            refine xg_cVi mX2_isFine (vs := [(0, 2), (0, f42_291)]) (rest := []) (cn1 := 0) (sl1 := 0) rfl (ftFine2 (hI376) (by omega)) rfl (hF377.get (by decide) (hF370.get (by decide) (hF354.get (by decide) (hb350.get (by decide) (hb347.get (by decide) (hF331.get (by decide) (hb327.get (by decide) (hb321.get (by decide) (hF302.get (by decide) (hF15.get (by decide) h27_11)))))))))) rfl rfl rfl rfl rfl rfl (fun n383 w379 hq380 => ?_)
            obtain ⟨hn384, hI381, hF382⟩ := hq380
            by_cases hc385 : n383 = 0
            · refine xg_t (xg_ifT (u := n383) rfl xnm0 (xj_eqT hc385)) ?_
              refine xg_t (xg_blq rfl) ?_
              refine xg_t (xg_const) ?_
              exact xg_e ⟨1, w379, ⟨rfl, rfl⟩, ⟨by omega, _, _, _, _, (hF382.get (by decide) (hF377.get (by decide) (hF370.get (by decide) (hF354.get (by decide) (hb350.get (by decide) (hb347.get (by decide) (hF331.get (by decide) (hb327.get (by decide) (hb321.get (by decide) (hF302.get (by decide) (hF15.get (by decide) hc0)))))))))))⟩, hI381, (((((((((hF15.up (by decide)).tr (hF302.up (by decide))).tr ((xFr.of (S := [27, 28, 29, 30, 31, 32, 33, 34, 35, 36, 37, 38, 39, 40, 41, 42]) hb321 (by decide)).tr (xFr.of (S := [27, 28, 29, 30, 31, 32, 33, 34, 35, 36, 37, 38, 39, 40, 41, 42]) hb327 (by decide)))).tr (hF331.up (by decide))).tr ((xFr.of (S := [27, 28, 29, 30, 31, 32, 33, 34, 35, 36, 37, 38, 39, 40, 41, 42]) hb347 (by decide)).tr (xFr.of (S := [27, 28, 29, 30, 31, 32, 33, 34, 35, 36, 37, 38, 39, 40, 41, 42]) hb350 (by decide)))).tr (hF354.up (by decide))).tr (hF370.up (by decide))).tr (hF377.up (by decide))).tr (hF382.up (by decide)))⟩
            · refine xg_t (xg_ifF (u := n383) rfl xnm0 (xj_eqF hc385)) ?_
              refine xg_t (xg_aload (va := (2, 27)) rfl rfl) ?_
              refine xg_t (xg_iload (va := (0, 2)) rfl rfl) ?_
              refine xg_t (xg_iload (va := (0, f42_291)) rfl rfl) ?_
              refine xoC27 (xqc27 hI381 : cp27 (wget w379 27)) (fun f27_386 f27_388 f27_390 f27_392 f27_394 h27_396 hb387 hb389 hb391 hb393 hb395 => ?_)
              refine xg_cVv mX2_take (vs := [(0, 2), (0, f42_291)]) (rest := []) (cn1 := 0) (sl1 := 0) rfl (ftTake2 (hI381) (by omega)) rfl h27_396 rfl rfl rfl rfl rfl rfl (fun w397 hq398 => ?_)
              obtain ⟨hI399, hF400⟩ := hq398
              refine xg_t (xg_blq rfl) ?_
              refine xg_t (xg_const) ?_
              exact xg_e ⟨1, w397, ⟨rfl, rfl⟩, ⟨by omega, _, _, _, _, (hF400.get (by decide) (hF382.get (by decide) (hF377.get (by decide) (hF370.get (by decide) (hF354.get (by decide) (hb350.get (by decide) (hb347.get (by decide) (hF331.get (by decide) (hb327.get (by decide) (hb321.get (by decide) (hF302.get (by decide) (hF15.get (by decide) hc0))))))))))))⟩, hI399, ((((((((((hF15.up (by decide)).tr (hF302.up (by decide))).tr ((xFr.of (S := [27, 28, 29, 30, 31, 32, 33, 34, 35, 36, 37, 38, 39, 40, 41, 42]) hb321 (by decide)).tr (xFr.of (S := [27, 28, 29, 30, 31, 32, 33, 34, 35, 36, 37, 38, 39, 40, 41, 42]) hb327 (by decide)))).tr (hF331.up (by decide))).tr ((xFr.of (S := [27, 28, 29, 30, 31, 32, 33, 34, 35, 36, 37, 38, 39, 40, 41, 42]) hb347 (by decide)).tr (xFr.of (S := [27, 28, 29, 30, 31, 32, 33, 34, 35, 36, 37, 38, 39, 40, 41, 42]) hb350 (by decide)))).tr (hF354.up (by decide))).tr (hF370.up (by decide))).tr (hF377.up (by decide))).tr (hF382.up (by decide))).tr (hF400.up (by decide)))⟩
          · refine xg_t (xg_ifT (u := f27_7) rfl xnm0 (xj_neT hc378)) ?_
            refine xg_t (xg_blq rfl) ?_
            refine xg_t (xg_const) ?_
            exact xg_e ⟨1, w374, ⟨rfl, rfl⟩, ⟨by omega, _, _, _, _, (hF377.get (by decide) (hF370.get (by decide) (hF354.get (by decide) (hb350.get (by decide) (hb347.get (by decide) (hF331.get (by decide) (hb327.get (by decide) (hb321.get (by decide) (hF302.get (by decide) (hF15.get (by decide) hc0))))))))))⟩, hI376, ((((((((hF15.up (by decide)).tr (hF302.up (by decide))).tr ((xFr.of (S := [27, 28, 29, 30, 31, 32, 33, 34, 35, 36, 37, 38, 39, 40, 41, 42]) hb321 (by decide)).tr (xFr.of (S := [27, 28, 29, 30, 31, 32, 33, 34, 35, 36, 37, 38, 39, 40, 41, 42]) hb327 (by decide)))).tr (hF331.up (by decide))).tr ((xFr.of (S := [27, 28, 29, 30, 31, 32, 33, 34, 35, 36, 37, 38, 39, 40, 41, 42]) hb347 (by decide)).tr (xFr.of (S := [27, 28, 29, 30, 31, 32, 33, 34, 35, 36, 37, 38, 39, 40, 41, 42]) hb350 (by decide)))).tr (hF354.up (by decide))).tr (hF370.up (by decide))).tr (hF377.up (by decide)))⟩
      · refine xg_t (xg_icF (u := f42_334) (v := 2) rfl xnm0 xnm0 (xj_eqF hc344)) ?_
        refine xg_t (xg_const) ?_
        exact xg_e ⟨0, w328, ⟨rfl, rfl⟩, ⟨by omega, _, _, _, _, (hF331.get (by decide) (hb327.get (by decide) (hb321.get (by decide) (hF302.get (by decide) (hF15.get (by decide) hc0)))))⟩, hI330, ((((hF15.up (by decide)).tr (hF302.up (by decide))).tr ((xFr.of (S := [27, 28, 29, 30, 31, 32, 33, 34, 35, 36, 37, 38, 39, 40, 41, 42]) hb321 (by decide)).tr (xFr.of (S := [27, 28, 29, 30, 31, 32, 33, 34, 35, 36, 37, 38, 39, 40, 41, 42]) hb327 (by decide)))).tr (hF331.up (by decide)))⟩
    · refine xg_t (xg_icF (u := f42_305) (v := 2) rfl xnm0 xnm0 (xj_eqF hc315)) ?_
      refine xg_t (xg_const) ?_
      exact xg_e ⟨0, w299, ⟨rfl, rfl⟩, ⟨by omega, _, _, _, _, (hF302.get (by decide) (hF15.get (by decide) hc0))⟩, hI301, ((hF15.up (by decide)).tr (hF302.up (by decide)))⟩
  · refine xg_t (xg_istore (l1 := [(0, (2, 27))]) rfl rfl rfl) ?_
    refine xg_t (xg_aload (va := (2, 27)) rfl rfl) ?_
    refine xg_t (xg_getf (va := (2, 42)) (hF15.get (by decide) h27_11) rfl) ?_
    refine xoC42 (xqc42 hI14 : cp42 (wget w12 42)) (fun f42_401 f42_403 f42_405 f42_407 f42_409 h42_411 hb402 hb404 hb406 hb408 hb410 hb412 => ?_)
    refine xg_t (xg_getf (va := (0, f42_405)) h42_411 rfl) ?_
    refine xg_t (xg_istore (l1 := [(1, (0, 3)), (0, (2, 27))]) rfl rfl rfl) ?_
    refine xg_t (xg_iload (va := (0, 3)) rfl rfl) ?_
    refine xg_t (xg_const) ?_
    refine xg_t (xg_icT (u := 3) (v := 4294967295) rfl xnm0 xnm0 (by decide)) ?_
    refine xg_t (xg_blq rfl) ?_
    refine xg_t (xg_aload (va := (2, 27)) rfl rfl) ?_
    refine xg_t (xg_getf (va := (2, 42)) (hF15.get (by decide) h27_11) rfl) ?_
    refine xg_cVv mX8_advance (vs := []) (rest := []) (cn1 := 0) (sl1 := 0) rfl (tkAdvance42 (hI14)) rfl h42_411 rfl rfl rfl rfl rfl rfl (fun w413 hq414 => ?_)
    obtain ⟨hI415, hF416⟩ := hq414
    refine xg_t (xg_const) ?_
    refine xg_t (xg_istore (l1 := [(2, (0, f42_405)), (1, (0, 3)), (0, (2, 27))]) rfl rfl rfl) ?_
    refine xg_t (xg_blq rfl) ?_
    refine xg_t (xg_iload (va := (0, 0)) rfl rfl) ?_
    refine xg_t (xg_gets) ?_
    refine xg_t (xg_iload (va := (0, 3)) rfl rfl) ?_
    refine xg_t (xg_ald8L (n := 3) (u := 3) xnm0 rfl rfl) ?_
    refine xg_t (xg_icF (u := 0) (v := 3) rfl xnm0 xnm0 (by decide)) ?_
    refine xg_t (xg_iload (va := (0, 0)) rfl rfl) ?_
    refine xg_t (xg_const) ?_
    refine xg_t (xg_icF (u := 0) (v := 3) rfl xnm0 xnm0 (by decide)) ?_
    refine xg_t (xg_aload (va := (2, 27)) rfl rfl) ?_
    refine xg_t (xg_getf (va := (2, 42)) (hF416.get (by decide) (hF15.get (by decide) h27_11)) rfl) ?_
    refine xoC42 (xqc42 hI415 : cp42 (wget w413 42)) (fun f42_417 f42_419 f42_421 f42_423 f42_425 h42_427 hb418 hb420 hb422 hb424 hb426 hb428 => ?_)
    refine xg_t (xg_getf (va := (0, f42_419)) h42_427 rfl) ?_
    refine xg_t (xg_const) ?_
    by_cases hc429 : f42_419 = 2
    · refine xg_t (xg_icT (u := f42_419) (v := 2) rfl xnm0 xnm0 (xj_eqT hc429)) ?_
      refine xg_t (xg_blq rfl) ?_
      refine xg_t (xg_aload (va := (2, 27)) rfl rfl) ?_
      refine xg_t (xg_getf (va := (2, 39)) (hF416.get (by decide) (hF15.get (by decide) h27_11)) rfl) ?_
      refine xg_t (xg_iload (va := (0, 0)) rfl rfl) ?_
      refine xg_t (xg_aload (va := (2, 27)) rfl rfl) ?_
      refine xg_t (xg_getf (va := (2, 42)) (hF416.get (by decide) (hF15.get (by decide) h27_11)) rfl) ?_
      refine xg_t (xg_getf (va := (0, f42_425)) h42_427 rfl) ?_
      refine xoI (xqc39 hI415 : cpI 3 18 4294967295 (wget w413 39)) (fun g39_430 h39_431 hb432 => ?_)
      refine xg_iastK (n := 0) (u := f42_425) h39_431 xnm0 xnm0 rfl (by first | decide | omega) (fun w433 hr434 hb435 => ?_)
      refine xg_t (xg_aload (va := (2, 27)) rfl rfl) ?_
      refine xg_t (xg_getf (va := (2, 40)) (hb435.get (by decide) (hF416.get (by decide) (hF15.get (by decide) h27_11))) rfl) ?_
      refine xg_t (xg_iload (va := (0, 0)) rfl rfl) ?_
      refine xg_t (xg_aload (va := (2, 27)) rfl rfl) ?_
      refine xg_t (xg_getf (va := (2, 42)) (hb435.get (by decide) (hF416.get (by decide) (hF15.get (by decide) h27_11))) rfl) ?_
      refine xg_t (xg_getf (va := (0, f42_421)) (hb435.get (by decide) h42_427) rfl) ?_
      refine xoI (xqc40 hI415 : cpI 3 19 4294967295 (wget w413 40)) (fun g40_436 h40_437 hb438 => ?_)
      refine xg_iastK (n := 0) (u := f42_421) (h40_437.but hb435 (by decide)) xnm0 xnm0 rfl (by first | decide | omega) (fun w439 hr440 hb441 => ?_)
      refine xg_t (xg_aload (va := (2, 27)) rfl rfl) ?_
      refine xg_t (xg_getf (va := (2, 42)) (hb441.get (by decide) (hb435.get (by decide) (hF416.get (by decide) (hF15.get (by decide) h27_11)))) rfl) ?_
      refine xg_cVv mX8_advance (vs := []) (rest := []) (cn1 := 0) (sl1 := 0) rfl (tkAdvance42 (xInv.up (S := [39, 40]) hI415 ((xFr.of (S := [39, 40]) hb435 (by decide)).tr (xFr.of (S := [39, 40]) hb441 (by decide))) (List.forall_mem_cons.mpr ⟨xqu39 (show cpI 3 18 4294967295 (wget w439 39) from ⟨_, (hr434.but hb441 (by decide)), xrb (by omega) (hb432)⟩), List.forall_mem_cons.mpr ⟨xqu40 (show cpI 3 19 4294967295 (wget w439 40) from ⟨_, hr440, xrb (by omega) (hb438)⟩), fun _ h => absurd h List.not_mem_nil⟩⟩))) rfl (hb441.get (by decide) (hb435.get (by decide) h42_427)) rfl rfl rfl rfl rfl rfl (fun w442 hq443 => ?_)
      obtain ⟨hI444, hF445⟩ := hq443
      refine xg_t (xg_iinc (u := 0) (z := 1) (l1 := [(2, (0, f42_405)), (1, (0, 3)), (0, (2, 27))]) rfl rfl (by decide) rfl) ?_
      refine xg_t (xg_goto) ?_
      refine xg_t (xg_blq rfl) ?_
      refine xg_t (xg_iload (va := (0, 1)) rfl rfl) ?_
      refine xg_t (xg_gets) ?_
      refine xg_t (xg_iload (va := (0, 3)) rfl rfl) ?_
      refine xg_t (xg_ald8L (n := 3) (u := 3) xnm0 rfl rfl) ?_
      refine xg_t (xg_icF (u := 1) (v := 3) rfl xnm0 xnm0 (by decide)) ?_
      refine xg_t (xg_iload (va := (0, 1)) rfl rfl) ?_
      refine xg_t (xg_const) ?_
      refine xg_t (xg_icF (u := 1) (v := 3) rfl xnm0 xnm0 (by decide)) ?_
      refine xg_t (xg_aload (va := (2, 27)) rfl rfl) ?_
      refine xg_t (xg_getf (va := (2, 42)) (hF445.get (by decide) (hb441.get (by decide) (hb435.get (by decide) (hF416.get (by decide) (hF15.get (by decide) h27_11))))) rfl) ?_
      refine xoC42 (xqc42 hI444 : cp42 (wget w442 42)) (fun f42_446 f42_448 f42_450 f42_452 f42_454 h42_456 hb447 hb449 hb451 hb453 hb455 hb457 => ?_)
      refine xg_t (xg_getf (va := (0, f42_448)) h42_456 rfl) ?_
      refine xg_t (xg_const) ?_
      by_cases hc458 : f42_448 = 2
      · refine xg_t (xg_icT (u := f42_448) (v := 2) rfl xnm0 xnm0 (xj_eqT hc458)) ?_
        refine xg_t (xg_blq rfl) ?_
        refine xg_t (xg_aload (va := (2, 27)) rfl rfl) ?_
        refine xg_t (xg_getf (va := (2, 39)) (hF445.get (by decide) (hb441.get (by decide) (hb435.get (by decide) (hF416.get (by decide) (hF15.get (by decide) h27_11))))) rfl) ?_
        refine xg_t (xg_iload (va := (0, 1)) rfl rfl) ?_
        refine xg_t (xg_aload (va := (2, 27)) rfl rfl) ?_
        refine xg_t (xg_getf (va := (2, 42)) (hF445.get (by decide) (hb441.get (by decide) (hb435.get (by decide) (hF416.get (by decide) (hF15.get (by decide) h27_11))))) rfl) ?_
        refine xg_t (xg_getf (va := (0, f42_454)) h42_456 rfl) ?_
        refine xg_iastK (n := 1) (u := f42_454) ((hr434.but hb441 (by decide)).fr hF445 (by decide)) xnm0 xnm0 rfl (by first | decide | omega) (fun w459 hr460 hb461 => ?_)
        refine xg_t (xg_aload (va := (2, 27)) rfl rfl) ?_
        refine xg_t (xg_getf (va := (2, 40)) (hb461.get (by decide) (hF445.get (by decide) (hb441.get (by decide) (hb435.get (by decide) (hF416.get (by decide) (hF15.get (by decide) h27_11)))))) rfl) ?_
        refine xg_t (xg_iload (va := (0, 1)) rfl rfl) ?_
        refine xg_t (xg_aload (va := (2, 27)) rfl rfl) ?_
        refine xg_t (xg_getf (va := (2, 42)) (hb461.get (by decide) (hF445.get (by decide) (hb441.get (by decide) (hb435.get (by decide) (hF416.get (by decide) (hF15.get (by decide) h27_11)))))) rfl) ?_
        refine xg_t (xg_getf (va := (0, f42_450)) (hb461.get (by decide) h42_456) rfl) ?_
        refine xg_iastK (n := 1) (u := f42_450) ((hr440.fr hF445 (by decide)).but hb461 (by decide)) xnm0 xnm0 rfl (by first | decide | omega) (fun w462 hr463 hb464 => ?_)
        refine xg_t (xg_aload (va := (2, 27)) rfl rfl) ?_
        refine xg_t (xg_getf (va := (2, 42)) (hb464.get (by decide) (hb461.get (by decide) (hF445.get (by decide) (hb441.get (by decide) (hb435.get (by decide) (hF416.get (by decide) (hF15.get (by decide) h27_11))))))) rfl) ?_
        refine xg_cVv mX8_advance (vs := []) (rest := []) (cn1 := 0) (sl1 := 0) rfl (tkAdvance42 (xInv.up (S := [39, 40]) hI444 ((xFr.of (S := [39, 40]) hb461 (by decide)).tr (xFr.of (S := [39, 40]) hb464 (by decide))) (List.forall_mem_cons.mpr ⟨xqu39 (show cpI 3 18 4294967295 (wget w462 39) from ⟨_, (hr460.but hb464 (by decide)), xrb (by omega) (xrb (by omega) (hb432))⟩), List.forall_mem_cons.mpr ⟨xqu40 (show cpI 3 19 4294967295 (wget w462 40) from ⟨_, hr463, xrb (by omega) (xrb (by omega) (hb438))⟩), fun _ h => absurd h List.not_mem_nil⟩⟩))) rfl (hb464.get (by decide) (hb461.get (by decide) h42_456)) rfl rfl rfl rfl rfl rfl (fun w465 hq466 => ?_)
        obtain ⟨hI467, hF468⟩ := hq466
        refine xg_t (xg_iinc (u := 1) (z := 2) (l1 := [(2, (0, f42_405)), (1, (0, 3)), (0, (2, 27))]) rfl rfl (by decide) rfl) ?_
        refine xg_t (xg_goto) ?_
        refine xg_t (xg_blq rfl) ?_
        refine xg_t (xg_iload (va := (0, 2)) rfl rfl) ?_
        refine xg_t (xg_gets) ?_
        refine xg_t (xg_iload (va := (0, 3)) rfl rfl) ?_
        refine xg_t (xg_ald8L (n := 3) (u := 3) xnm0 rfl rfl) ?_
        refine xg_t (xg_icF (u := 2) (v := 3) rfl xnm0 xnm0 (by decide)) ?_
        refine xg_t (xg_iload (va := (0, 2)) rfl rfl) ?_
        refine xg_t (xg_const) ?_
        refine xg_t (xg_icF (u := 2) (v := 3) rfl xnm0 xnm0 (by decide)) ?_
        refine xg_t (xg_aload (va := (2, 27)) rfl rfl) ?_
        refine xg_t (xg_getf (va := (2, 42)) (hF468.get (by decide) (hb464.get (by decide) (hb461.get (by decide) (hF445.get (by decide) (hb441.get (by decide) (hb435.get (by decide) (hF416.get (by decide) (hF15.get (by decide) h27_11)))))))) rfl) ?_
        refine xoC42 (xqc42 hI467 : cp42 (wget w465 42)) (fun f42_469 f42_471 f42_473 f42_475 f42_477 h42_479 hb470 hb472 hb474 hb476 hb478 hb480 => ?_)
        refine xg_t (xg_getf (va := (0, f42_471)) h42_479 rfl) ?_
        refine xg_t (xg_const) ?_
        by_cases hc481 : f42_471 = 2
        · refine xg_t (xg_icT (u := f42_471) (v := 2) rfl xnm0 xnm0 (xj_eqT hc481)) ?_
          refine xg_t (xg_blq rfl) ?_
          refine xg_t (xg_aload (va := (2, 27)) rfl rfl) ?_
          refine xg_t (xg_getf (va := (2, 39)) (hF468.get (by decide) (hb464.get (by decide) (hb461.get (by decide) (hF445.get (by decide) (hb441.get (by decide) (hb435.get (by decide) (hF416.get (by decide) (hF15.get (by decide) h27_11)))))))) rfl) ?_
          refine xg_t (xg_iload (va := (0, 2)) rfl rfl) ?_
          refine xg_t (xg_aload (va := (2, 27)) rfl rfl) ?_
          refine xg_t (xg_getf (va := (2, 42)) (hF468.get (by decide) (hb464.get (by decide) (hb461.get (by decide) (hF445.get (by decide) (hb441.get (by decide) (hb435.get (by decide) (hF416.get (by decide) (hF15.get (by decide) h27_11)))))))) rfl) ?_
          refine xg_t (xg_getf (va := (0, f42_477)) h42_479 rfl) ?_
          refine xg_iastK (n := 2) (u := f42_477) ((hr460.but hb464 (by decide)).fr hF468 (by decide)) xnm0 xnm0 rfl (by first | decide | omega) (fun w482 hr483 hb484 => ?_)
          refine xg_t (xg_aload (va := (2, 27)) rfl rfl) ?_
          refine xg_t (xg_getf (va := (2, 40)) (hb484.get (by decide) (hF468.get (by decide) (hb464.get (by decide) (hb461.get (by decide) (hF445.get (by decide) (hb441.get (by decide) (hb435.get (by decide) (hF416.get (by decide) (hF15.get (by decide) h27_11))))))))) rfl) ?_
          refine xg_t (xg_iload (va := (0, 2)) rfl rfl) ?_
          refine xg_t (xg_aload (va := (2, 27)) rfl rfl) ?_
          refine xg_t (xg_getf (va := (2, 42)) (hb484.get (by decide) (hF468.get (by decide) (hb464.get (by decide) (hb461.get (by decide) (hF445.get (by decide) (hb441.get (by decide) (hb435.get (by decide) (hF416.get (by decide) (hF15.get (by decide) h27_11))))))))) rfl) ?_
          refine xg_t (xg_getf (va := (0, f42_473)) (hb484.get (by decide) h42_479) rfl) ?_
          refine xg_iastK (n := 2) (u := f42_473) ((hr463.fr hF468 (by decide)).but hb484 (by decide)) xnm0 xnm0 rfl (by first | decide | omega) (fun w485 hr486 hb487 => ?_)
          refine xg_t (xg_aload (va := (2, 27)) rfl rfl) ?_
          refine xg_t (xg_getf (va := (2, 42)) (hb487.get (by decide) (hb484.get (by decide) (hF468.get (by decide) (hb464.get (by decide) (hb461.get (by decide) (hF445.get (by decide) (hb441.get (by decide) (hb435.get (by decide) (hF416.get (by decide) (hF15.get (by decide) h27_11)))))))))) rfl) ?_
          refine xg_cVv mX8_advance (vs := []) (rest := []) (cn1 := 0) (sl1 := 0) rfl (tkAdvance42 (xInv.up (S := [39, 40]) hI467 ((xFr.of (S := [39, 40]) hb484 (by decide)).tr (xFr.of (S := [39, 40]) hb487 (by decide))) (List.forall_mem_cons.mpr ⟨xqu39 (show cpI 3 18 4294967295 (wget w485 39) from ⟨_, (hr483.but hb487 (by decide)), xrb (by omega) (xrb (by omega) (xrb (by omega) (hb432)))⟩), List.forall_mem_cons.mpr ⟨xqu40 (show cpI 3 19 4294967295 (wget w485 40) from ⟨_, hr486, xrb (by omega) (xrb (by omega) (xrb (by omega) (hb438)))⟩), fun _ h => absurd h List.not_mem_nil⟩⟩))) rfl (hb487.get (by decide) (hb484.get (by decide) h42_479)) rfl rfl rfl rfl rfl rfl (fun w488 hq489 => ?_)
          obtain ⟨hI490, hF491⟩ := hq489
          refine xg_t (xg_iinc (u := 2) (z := 3) (l1 := [(2, (0, f42_405)), (1, (0, 3)), (0, (2, 27))]) rfl rfl (by decide) rfl) ?_
          refine xg_t (xg_goto) ?_
          refine xg_t (xg_blq rfl) ?_
          refine xg_t (xg_iload (va := (0, 3)) rfl rfl) ?_
          refine xg_t (xg_gets) ?_
          refine xg_t (xg_iload (va := (0, 3)) rfl rfl) ?_
          refine xg_t (xg_ald8L (n := 3) (u := 3) xnm0 rfl rfl) ?_
          refine xg_t (xg_icT (u := 3) (v := 3) rfl xnm0 xnm0 (by decide)) ?_
          refine xg_t (xg_blq rfl) ?_
          refine xg_t (xg_iload (va := (0, 3)) rfl rfl) ?_
          refine xg_t (xg_ifT (u := 3) rfl xnm0 (by decide)) ?_
          refine xg_t (xg_blq rfl) ?_
          refine xg_t (xg_aload (va := (2, 27)) rfl rfl) ?_
          refine xg_t (xg_getf (va := (2, 42)) (hF491.get (by decide) (hb487.get (by decide) (hb484.get (by decide) (hF468.get (by decide) (hb464.get (by decide) (hb461.get (by decide) (hF445.get (by decide) (hb441.get (by decide) (hb435.get (by decide) (hF416.get (by decide) (hF15.get (by decide) h27_11))))))))))) rfl) ?_
          refine xg_t (xg_bip) ?_
          refine xoC42 (xqc42 hI490 : cp42 (wget w488 42)) (fun f42_492 f42_494 f42_496 f42_498 f42_500 h42_502 hb493 hb495 hb497 hb499 hb501 hb503 => ?_)
          refine xg_cVi mX8_isSign (vs := [(0, 59)]) (rest := []) (cn1 := 0) (sl1 := 0) rfl (tkIsSign42 (hI490) (by omega)) rfl h42_502 rfl rfl rfl rfl rfl rfl (fun n508 w504 hq505 => ?_)
          obtain ⟨hn509, hI506, hF507⟩ := hq505
          by_cases hc510 : n508 = 0
          · refine xg_t (xg_ifF (u := n508) rfl xnm0 (xj_neF hc510)) ?_
            refine xg_t (xg_const) ?_
            exact xg_e ⟨0, w504, ⟨rfl, rfl⟩, ⟨by omega, _, _, _, _, (hF507.get (by decide) (hF491.get (by decide) (hb487.get (by decide) (hb484.get (by decide) (hF468.get (by decide) (hb464.get (by decide) (hb461.get (by decide) (hF445.get (by decide) (hb441.get (by decide) (hb435.get (by decide) (hF416.get (by decide) (hF15.get (by decide) hc0))))))))))))⟩, hI506, (((((((((hF15.up (by decide)).tr (hF416.up (by decide))).tr ((xFr.of (S := [27, 28, 29, 30, 31, 32, 33, 34, 35, 36, 37, 38, 39, 40, 41, 42]) hb435 (by decide)).tr (xFr.of (S := [27, 28, 29, 30, 31, 32, 33, 34, 35, 36, 37, 38, 39, 40, 41, 42]) hb441 (by decide)))).tr (hF445.up (by decide))).tr ((xFr.of (S := [27, 28, 29, 30, 31, 32, 33, 34, 35, 36, 37, 38, 39, 40, 41, 42]) hb461 (by decide)).tr (xFr.of (S := [27, 28, 29, 30, 31, 32, 33, 34, 35, 36, 37, 38, 39, 40, 41, 42]) hb464 (by decide)))).tr (hF468.up (by decide))).tr ((xFr.of (S := [27, 28, 29, 30, 31, 32, 33, 34, 35, 36, 37, 38, 39, 40, 41, 42]) hb484 (by decide)).tr (xFr.of (S := [27, 28, 29, 30, 31, 32, 33, 34, 35, 36, 37, 38, 39, 40, 41, 42]) hb487 (by decide)))).tr (hF491.up (by decide))).tr (hF507.up (by decide)))⟩
          · refine xg_t (xg_ifT (u := n508) rfl xnm0 (xj_neT hc510)) ?_
            refine xg_t (xg_blq rfl) ?_
            refine xg_t (xg_aload (va := (2, 27)) rfl rfl) ?_
            refine xg_t (xg_getf (va := (2, 42)) (hF507.get (by decide) (hF491.get (by decide) (hb487.get (by decide) (hb484.get (by decide) (hF468.get (by decide) (hb464.get (by decide) (hb461.get (by decide) (hF445.get (by decide) (hb441.get (by decide) (hb435.get (by decide) (hF416.get (by decide) (hF15.get (by decide) h27_11)))))))))))) rfl) ?_
            refine xg_cVv mX8_advance (vs := []) (rest := []) (cn1 := 0) (sl1 := 0) rfl (tkAdvance42 (hI506)) rfl (hF507.get (by decide) h42_502) rfl rfl rfl rfl rfl rfl (fun w511 hq512 => ?_)
            obtain ⟨hI513, hF514⟩ := hq512
            refine xg_t (xg_aload (va := (2, 27)) rfl rfl) ?_
            refine xg_t (xg_getf (va := (0, f27_7)) (hF514.get (by decide) (hF507.get (by decide) (hF491.get (by decide) (hb487.get (by decide) (hb484.get (by decide) (hF468.get (by decide) (hb464.get (by decide) (hb461.get (by decide) (hF445.get (by decide) (hb441.get (by decide) (hb435.get (by decide) (hF416.get (by decide) (hF15.get (by decide) h27_11))))))))))))) rfl) ?_
            by_cases hc515 : f27_7 = 0
            · refine xg_t (xg_ifF (u := f27_7) rfl xnm0 (xj_neF hc515)) ?_
              refine xg_t (xg_aload (va := (2, 27)) rfl rfl) ?_
              refine xg_t (xg_iload (va := (0, 3)) rfl rfl) ?_
              refine xg_t (xg_iload (va := (0, f42_405)) rfl rfl) ?_
              refine xg_cVi mX2_isFine (vs := [(0, 3), (0, f42_405)]) (rest := []) (cn1 := 0) (sl1 := 0) rfl (ftFine3 (hI513) (by omega)) rfl (hF514.get (by decide) (hF507.get (by decide) (hF491.get (by decide) (hb487.get (by decide) (hb484.get (by decide) (hF468.get (by decide) (hb464.get (by decide) (hb461.get (by decide) (hF445.get (by decide) (hb441.get (by decide) (hb435.get (by decide) (hF416.get (by decide) (hF15.get (by decide) h27_11))))))))))))) rfl rfl rfl rfl rfl rfl (fun n520 w516 hq517 => ?_)
              obtain ⟨hn521, hI518, hF519⟩ := hq517
              by_cases hc522 : n520 = 0
              · refine xg_t (xg_ifT (u := n520) rfl xnm0 (xj_eqT hc522)) ?_
                refine xg_t (xg_blq rfl) ?_
                refine xg_t (xg_const) ?_
                exact xg_e ⟨1, w516, ⟨rfl, rfl⟩, ⟨by omega, _, _, _, _, (hF519.get (by decide) (hF514.get (by decide) (hF507.get (by decide) (hF491.get (by decide) (hb487.get (by decide) (hb484.get (by decide) (hF468.get (by decide) (hb464.get (by decide) (hb461.get (by decide) (hF445.get (by decide) (hb441.get (by decide) (hb435.get (by decide) (hF416.get (by decide) (hF15.get (by decide) hc0))))))))))))))⟩, hI518, (((((((((((hF15.up (by decide)).tr (hF416.up (by decide))).tr ((xFr.of (S := [27, 28, 29, 30, 31, 32, 33, 34, 35, 36, 37, 38, 39, 40, 41, 42]) hb435 (by decide)).tr (xFr.of (S := [27, 28, 29, 30, 31, 32, 33, 34, 35, 36, 37, 38, 39, 40, 41, 42]) hb441 (by decide)))).tr (hF445.up (by decide))).tr ((xFr.of (S := [27, 28, 29, 30, 31, 32, 33, 34, 35, 36, 37, 38, 39, 40, 41, 42]) hb461 (by decide)).tr (xFr.of (S := [27, 28, 29, 30, 31, 32, 33, 34, 35, 36, 37, 38, 39, 40, 41, 42]) hb464 (by decide)))).tr (hF468.up (by decide))).tr ((xFr.of (S := [27, 28, 29, 30, 31, 32, 33, 34, 35, 36, 37, 38, 39, 40, 41, 42]) hb484 (by decide)).tr (xFr.of (S := [27, 28, 29, 30, 31, 32, 33, 34, 35, 36, 37, 38, 39, 40, 41, 42]) hb487 (by decide)))).tr (hF491.up (by decide))).tr (hF507.up (by decide))).tr (hF514.up (by decide))).tr (hF519.up (by decide)))⟩
              · refine xg_t (xg_ifF (u := n520) rfl xnm0 (xj_eqF hc522)) ?_
                refine xg_t (xg_aload (va := (2, 27)) rfl rfl) ?_
                refine xg_t (xg_iload (va := (0, 3)) rfl rfl) ?_
                refine xg_t (xg_iload (va := (0, f42_405)) rfl rfl) ?_
                refine xoC27 (xqc27 hI518 : cp27 (wget w516 27)) (fun f27_523 f27_525 f27_527 f27_529 f27_531 h27_533 hb524 hb526 hb528 hb530 hb532 => ?_)
                refine xg_cVv mX2_take (vs := [(0, 3), (0, f42_405)]) (rest := []) (cn1 := 0) (sl1 := 0) rfl (ftTake3 (hI518) (by omega)) rfl h27_533 rfl rfl rfl rfl rfl rfl (fun w534 hq535 => ?_)
                obtain ⟨hI536, hF537⟩ := hq535
                refine xg_t (xg_blq rfl) ?_
                refine xg_t (xg_const) ?_
                exact xg_e ⟨1, w534, ⟨rfl, rfl⟩, ⟨by omega, _, _, _, _, (hF537.get (by decide) (hF519.get (by decide) (hF514.get (by decide) (hF507.get (by decide) (hF491.get (by decide) (hb487.get (by decide) (hb484.get (by decide) (hF468.get (by decide) (hb464.get (by decide) (hb461.get (by decide) (hF445.get (by decide) (hb441.get (by decide) (hb435.get (by decide) (hF416.get (by decide) (hF15.get (by decide) hc0)))))))))))))))⟩, hI536, ((((((((((((hF15.up (by decide)).tr (hF416.up (by decide))).tr ((xFr.of (S := [27, 28, 29, 30, 31, 32, 33, 34, 35, 36, 37, 38, 39, 40, 41, 42]) hb435 (by decide)).tr (xFr.of (S := [27, 28, 29, 30, 31, 32, 33, 34, 35, 36, 37, 38, 39, 40, 41, 42]) hb441 (by decide)))).tr (hF445.up (by decide))).tr ((xFr.of (S := [27, 28, 29, 30, 31, 32, 33, 34, 35, 36, 37, 38, 39, 40, 41, 42]) hb461 (by decide)).tr (xFr.of (S := [27, 28, 29, 30, 31, 32, 33, 34, 35, 36, 37, 38, 39, 40, 41, 42]) hb464 (by decide)))).tr (hF468.up (by decide))).tr ((xFr.of (S := [27, 28, 29, 30, 31, 32, 33, 34, 35, 36, 37, 38, 39, 40, 41, 42]) hb484 (by decide)).tr (xFr.of (S := [27, 28, 29, 30, 31, 32, 33, 34, 35, 36, 37, 38, 39, 40, 41, 42]) hb487 (by decide)))).tr (hF491.up (by decide))).tr (hF507.up (by decide))).tr (hF514.up (by decide))).tr (hF519.up (by decide))).tr (hF537.up (by decide)))⟩
            · refine xg_t (xg_ifT (u := f27_7) rfl xnm0 (xj_neT hc515)) ?_
              refine xg_t (xg_blq rfl) ?_
              refine xg_t (xg_const) ?_
              exact xg_e ⟨1, w511, ⟨rfl, rfl⟩, ⟨by omega, _, _, _, _, (hF514.get (by decide) (hF507.get (by decide) (hF491.get (by decide) (hb487.get (by decide) (hb484.get (by decide) (hF468.get (by decide) (hb464.get (by decide) (hb461.get (by decide) (hF445.get (by decide) (hb441.get (by decide) (hb435.get (by decide) (hF416.get (by decide) (hF15.get (by decide) hc0)))))))))))))⟩, hI513, ((((((((((hF15.up (by decide)).tr (hF416.up (by decide))).tr ((xFr.of (S := [27, 28, 29, 30, 31, 32, 33, 34, 35, 36, 37, 38, 39, 40, 41, 42]) hb435 (by decide)).tr (xFr.of (S := [27, 28, 29, 30, 31, 32, 33, 34, 35, 36, 37, 38, 39, 40, 41, 42]) hb441 (by decide)))).tr (hF445.up (by decide))).tr ((xFr.of (S := [27, 28, 29, 30, 31, 32, 33, 34, 35, 36, 37, 38, 39, 40, 41, 42]) hb461 (by decide)).tr (xFr.of (S := [27, 28, 29, 30, 31, 32, 33, 34, 35, 36, 37, 38, 39, 40, 41, 42]) hb464 (by decide)))).tr (hF468.up (by decide))).tr ((xFr.of (S := [27, 28, 29, 30, 31, 32, 33, 34, 35, 36, 37, 38, 39, 40, 41, 42]) hb484 (by decide)).tr (xFr.of (S := [27, 28, 29, 30, 31, 32, 33, 34, 35, 36, 37, 38, 39, 40, 41, 42]) hb487 (by decide)))).tr (hF491.up (by decide))).tr (hF507.up (by decide))).tr (hF514.up (by decide)))⟩
        · refine xg_t (xg_icF (u := f42_471) (v := 2) rfl xnm0 xnm0 (xj_eqF hc481)) ?_
          refine xg_t (xg_const) ?_
          exact xg_e ⟨0, w465, ⟨rfl, rfl⟩, ⟨by omega, _, _, _, _, (hF468.get (by decide) (hb464.get (by decide) (hb461.get (by decide) (hF445.get (by decide) (hb441.get (by decide) (hb435.get (by decide) (hF416.get (by decide) (hF15.get (by decide) hc0))))))))⟩, hI467, ((((((hF15.up (by decide)).tr (hF416.up (by decide))).tr ((xFr.of (S := [27, 28, 29, 30, 31, 32, 33, 34, 35, 36, 37, 38, 39, 40, 41, 42]) hb435 (by decide)).tr (xFr.of (S := [27, 28, 29, 30, 31, 32, 33, 34, 35, 36, 37, 38, 39, 40, 41, 42]) hb441 (by decide)))).tr (hF445.up (by decide))).tr ((xFr.of (S := [27, 28, 29, 30, 31, 32, 33, 34, 35, 36, 37, 38, 39, 40, 41, 42]) hb461 (by decide)).tr (xFr.of (S := [27, 28, 29, 30, 31, 32, 33, 34, 35, 36, 37, 38, 39, 40, 41, 42]) hb464 (by decide)))).tr (hF468.up (by decide)))⟩
      · refine xg_t (xg_icF (u := f42_448) (v := 2) rfl xnm0 xnm0 (xj_eqF hc458)) ?_
        refine xg_t (xg_const) ?_
        exact xg_e ⟨0, w442, ⟨rfl, rfl⟩, ⟨by omega, _, _, _, _, (hF445.get (by decide) (hb441.get (by decide) (hb435.get (by decide) (hF416.get (by decide) (hF15.get (by decide) hc0)))))⟩, hI444, ((((hF15.up (by decide)).tr (hF416.up (by decide))).tr ((xFr.of (S := [27, 28, 29, 30, 31, 32, 33, 34, 35, 36, 37, 38, 39, 40, 41, 42]) hb435 (by decide)).tr (xFr.of (S := [27, 28, 29, 30, 31, 32, 33, 34, 35, 36, 37, 38, 39, 40, 41, 42]) hb441 (by decide)))).tr (hF445.up (by decide)))⟩
    · refine xg_t (xg_icF (u := f42_419) (v := 2) rfl xnm0 xnm0 (xj_eqF hc429)) ?_
      refine xg_t (xg_const) ?_
      exact xg_e ⟨0, w413, ⟨rfl, rfl⟩, ⟨by omega, _, _, _, _, (hF416.get (by decide) (hF15.get (by decide) hc0))⟩, hI415, ((hF15.up (by decide)).tr (hF416.up (by decide)))⟩
  · refine xg_t (xg_istore (l1 := [(0, (2, 27))]) rfl rfl rfl) ?_
    refine xg_t (xg_aload (va := (2, 27)) rfl rfl) ?_
    refine xg_t (xg_getf (va := (2, 42)) (hF15.get (by decide) h27_11) rfl) ?_
    refine xoC42 (xqc42 hI14 : cp42 (wget w12 42)) (fun f42_538 f42_540 f42_542 f42_544 f42_546 h42_548 hb539 hb541 hb543 hb545 hb547 hb549 => ?_)
    refine xg_t (xg_getf (va := (0, f42_542)) h42_548 rfl) ?_
    refine xg_t (xg_istore (l1 := [(1, (0, 4)), (0, (2, 27))]) rfl rfl rfl) ?_
    refine xg_t (xg_iload (va := (0, 4)) rfl rfl) ?_
    refine xg_t (xg_const) ?_
    refine xg_t (xg_icT (u := 4) (v := 4294967295) rfl xnm0 xnm0 (by decide)) ?_
    refine xg_t (xg_blq rfl) ?_
    refine xg_t (xg_aload (va := (2, 27)) rfl rfl) ?_
    refine xg_t (xg_getf (va := (2, 42)) (hF15.get (by decide) h27_11) rfl) ?_
    refine xg_cVv mX8_advance (vs := []) (rest := []) (cn1 := 0) (sl1 := 0) rfl (tkAdvance42 (hI14)) rfl h42_548 rfl rfl rfl rfl rfl rfl (fun w550 hq551 => ?_)
    obtain ⟨hI552, hF553⟩ := hq551
    refine xg_t (xg_const) ?_
    refine xg_t (xg_istore (l1 := [(2, (0, f42_542)), (1, (0, 4)), (0, (2, 27))]) rfl rfl rfl) ?_
    refine xg_t (xg_blq rfl) ?_
    refine xg_t (xg_iload (va := (0, 0)) rfl rfl) ?_
    refine xg_t (xg_gets) ?_
    refine xg_t (xg_iload (va := (0, 4)) rfl rfl) ?_
    refine xg_t (xg_ald8L (n := 4) (u := 2) xnm0 rfl rfl) ?_
    refine xg_t (xg_icF (u := 0) (v := 2) rfl xnm0 xnm0 (by decide)) ?_
    refine xg_t (xg_iload (va := (0, 0)) rfl rfl) ?_
    refine xg_t (xg_const) ?_
    refine xg_t (xg_icF (u := 0) (v := 3) rfl xnm0 xnm0 (by decide)) ?_
    refine xg_t (xg_aload (va := (2, 27)) rfl rfl) ?_
    refine xg_t (xg_getf (va := (2, 42)) (hF553.get (by decide) (hF15.get (by decide) h27_11)) rfl) ?_
    refine xoC42 (xqc42 hI552 : cp42 (wget w550 42)) (fun f42_554 f42_556 f42_558 f42_560 f42_562 h42_564 hb555 hb557 hb559 hb561 hb563 hb565 => ?_)
    refine xg_t (xg_getf (va := (0, f42_556)) h42_564 rfl) ?_
    refine xg_t (xg_const) ?_
    by_cases hc566 : f42_556 = 2
    · refine xg_t (xg_icT (u := f42_556) (v := 2) rfl xnm0 xnm0 (xj_eqT hc566)) ?_
      refine xg_t (xg_blq rfl) ?_
      refine xg_t (xg_aload (va := (2, 27)) rfl rfl) ?_
      refine xg_t (xg_getf (va := (2, 39)) (hF553.get (by decide) (hF15.get (by decide) h27_11)) rfl) ?_
      refine xg_t (xg_iload (va := (0, 0)) rfl rfl) ?_
      refine xg_t (xg_aload (va := (2, 27)) rfl rfl) ?_
      refine xg_t (xg_getf (va := (2, 42)) (hF553.get (by decide) (hF15.get (by decide) h27_11)) rfl) ?_
      refine xg_t (xg_getf (va := (0, f42_562)) h42_564 rfl) ?_
      refine xoI (xqc39 hI552 : cpI 3 18 4294967295 (wget w550 39)) (fun g39_567 h39_568 hb569 => ?_)
      refine xg_iastK (n := 0) (u := f42_562) h39_568 xnm0 xnm0 rfl (by first | decide | omega) (fun w570 hr571 hb572 => ?_)
      refine xg_t (xg_aload (va := (2, 27)) rfl rfl) ?_
      refine xg_t (xg_getf (va := (2, 40)) (hb572.get (by decide) (hF553.get (by decide) (hF15.get (by decide) h27_11))) rfl) ?_
      refine xg_t (xg_iload (va := (0, 0)) rfl rfl) ?_
      refine xg_t (xg_aload (va := (2, 27)) rfl rfl) ?_
      refine xg_t (xg_getf (va := (2, 42)) (hb572.get (by decide) (hF553.get (by decide) (hF15.get (by decide) h27_11))) rfl) ?_
      refine xg_t (xg_getf (va := (0, f42_558)) (hb572.get (by decide) h42_564) rfl) ?_
      refine xoI (xqc40 hI552 : cpI 3 19 4294967295 (wget w550 40)) (fun g40_573 h40_574 hb575 => ?_)
      refine xg_iastK (n := 0) (u := f42_558) (h40_574.but hb572 (by decide)) xnm0 xnm0 rfl (by first | decide | omega) (fun w576 hr577 hb578 => ?_)
      refine xg_t (xg_aload (va := (2, 27)) rfl rfl) ?_
      refine xg_t (xg_getf (va := (2, 42)) (hb578.get (by decide) (hb572.get (by decide) (hF553.get (by decide) (hF15.get (by decide) h27_11)))) rfl) ?_
      refine xg_cVv mX8_advance (vs := []) (rest := []) (cn1 := 0) (sl1 := 0) rfl (tkAdvance42 (xInv.up (S := [39, 40]) hI552 ((xFr.of (S := [39, 40]) hb572 (by decide)).tr (xFr.of (S := [39, 40]) hb578 (by decide))) (List.forall_mem_cons.mpr ⟨xqu39 (show cpI 3 18 4294967295 (wget w576 39) from ⟨_, (hr571.but hb578 (by decide)), xrb (by omega) (hb569)⟩), List.forall_mem_cons.mpr ⟨xqu40 (show cpI 3 19 4294967295 (wget w576 40) from ⟨_, hr577, xrb (by omega) (hb575)⟩), fun _ h => absurd h List.not_mem_nil⟩⟩))) rfl (hb578.get (by decide) (hb572.get (by decide) h42_564)) rfl rfl rfl rfl rfl rfl (fun w579 hq580 => ?_)
      obtain ⟨hI581, hF582⟩ := hq580
      refine xg_t (xg_iinc (u := 0) (z := 1) (l1 := [(2, (0, f42_542)), (1, (0, 4)), (0, (2, 27))]) rfl rfl (by decide) rfl) ?_
      refine xg_t (xg_goto) ?_
      refine xg_t (xg_blq rfl) ?_
      refine xg_t (xg_iload (va := (0, 1)) rfl rfl) ?_
      refine xg_t (xg_gets) ?_
      refine xg_t (xg_iload (va := (0, 4)) rfl rfl) ?_
      refine xg_t (xg_ald8L (n := 4) (u := 2) xnm0 rfl rfl) ?_
      refine xg_t (xg_icF (u := 1) (v := 2) rfl xnm0 xnm0 (by decide)) ?_
      refine xg_t (xg_iload (va := (0, 1)) rfl rfl) ?_
      refine xg_t (xg_const) ?_
      refine xg_t (xg_icF (u := 1) (v := 3) rfl xnm0 xnm0 (by decide)) ?_
      refine xg_t (xg_aload (va := (2, 27)) rfl rfl) ?_
      refine xg_t (xg_getf (va := (2, 42)) (hF582.get (by decide) (hb578.get (by decide) (hb572.get (by decide) (hF553.get (by decide) (hF15.get (by decide) h27_11))))) rfl) ?_
      refine xoC42 (xqc42 hI581 : cp42 (wget w579 42)) (fun f42_583 f42_585 f42_587 f42_589 f42_591 h42_593 hb584 hb586 hb588 hb590 hb592 hb594 => ?_)
      refine xg_t (xg_getf (va := (0, f42_585)) h42_593 rfl) ?_
      refine xg_t (xg_const) ?_
      by_cases hc595 : f42_585 = 2
      · refine xg_t (xg_icT (u := f42_585) (v := 2) rfl xnm0 xnm0 (xj_eqT hc595)) ?_
        refine xg_t (xg_blq rfl) ?_
        refine xg_t (xg_aload (va := (2, 27)) rfl rfl) ?_
        refine xg_t (xg_getf (va := (2, 39)) (hF582.get (by decide) (hb578.get (by decide) (hb572.get (by decide) (hF553.get (by decide) (hF15.get (by decide) h27_11))))) rfl) ?_
        refine xg_t (xg_iload (va := (0, 1)) rfl rfl) ?_
        refine xg_t (xg_aload (va := (2, 27)) rfl rfl) ?_
        refine xg_t (xg_getf (va := (2, 42)) (hF582.get (by decide) (hb578.get (by decide) (hb572.get (by decide) (hF553.get (by decide) (hF15.get (by decide) h27_11))))) rfl) ?_
        refine xg_t (xg_getf (va := (0, f42_591)) h42_593 rfl) ?_
        refine xg_iastK (n := 1) (u := f42_591) ((hr571.but hb578 (by decide)).fr hF582 (by decide)) xnm0 xnm0 rfl (by first | decide | omega) (fun w596 hr597 hb598 => ?_)
        refine xg_t (xg_aload (va := (2, 27)) rfl rfl) ?_
        refine xg_t (xg_getf (va := (2, 40)) (hb598.get (by decide) (hF582.get (by decide) (hb578.get (by decide) (hb572.get (by decide) (hF553.get (by decide) (hF15.get (by decide) h27_11)))))) rfl) ?_
        refine xg_t (xg_iload (va := (0, 1)) rfl rfl) ?_
        refine xg_t (xg_aload (va := (2, 27)) rfl rfl) ?_
        refine xg_t (xg_getf (va := (2, 42)) (hb598.get (by decide) (hF582.get (by decide) (hb578.get (by decide) (hb572.get (by decide) (hF553.get (by decide) (hF15.get (by decide) h27_11)))))) rfl) ?_
        refine xg_t (xg_getf (va := (0, f42_587)) (hb598.get (by decide) h42_593) rfl) ?_
        refine xg_iastK (n := 1) (u := f42_587) ((hr577.fr hF582 (by decide)).but hb598 (by decide)) xnm0 xnm0 rfl (by first | decide | omega) (fun w599 hr600 hb601 => ?_)
        refine xg_t (xg_aload (va := (2, 27)) rfl rfl) ?_
        refine xg_t (xg_getf (va := (2, 42)) (hb601.get (by decide) (hb598.get (by decide) (hF582.get (by decide) (hb578.get (by decide) (hb572.get (by decide) (hF553.get (by decide) (hF15.get (by decide) h27_11))))))) rfl) ?_
        refine xg_cVv mX8_advance (vs := []) (rest := []) (cn1 := 0) (sl1 := 0) rfl (tkAdvance42 (xInv.up (S := [39, 40]) hI581 ((xFr.of (S := [39, 40]) hb598 (by decide)).tr (xFr.of (S := [39, 40]) hb601 (by decide))) (List.forall_mem_cons.mpr ⟨xqu39 (show cpI 3 18 4294967295 (wget w599 39) from ⟨_, (hr597.but hb601 (by decide)), xrb (by omega) (xrb (by omega) (hb569))⟩), List.forall_mem_cons.mpr ⟨xqu40 (show cpI 3 19 4294967295 (wget w599 40) from ⟨_, hr600, xrb (by omega) (xrb (by omega) (hb575))⟩), fun _ h => absurd h List.not_mem_nil⟩⟩))) rfl (hb601.get (by decide) (hb598.get (by decide) h42_593)) rfl rfl rfl rfl rfl rfl (fun w602 hq603 => ?_)
        obtain ⟨hI604, hF605⟩ := hq603
        refine xg_t (xg_iinc (u := 1) (z := 2) (l1 := [(2, (0, f42_542)), (1, (0, 4)), (0, (2, 27))]) rfl rfl (by decide) rfl) ?_
        refine xg_t (xg_goto) ?_
        refine xg_t (xg_blq rfl) ?_
        refine xg_t (xg_iload (va := (0, 2)) rfl rfl) ?_
        refine xg_t (xg_gets) ?_
        refine xg_t (xg_iload (va := (0, 4)) rfl rfl) ?_
        refine xg_t (xg_ald8L (n := 4) (u := 2) xnm0 rfl rfl) ?_
        refine xg_t (xg_icT (u := 2) (v := 2) rfl xnm0 xnm0 (by decide)) ?_
        refine xg_t (xg_blq rfl) ?_
        refine xg_t (xg_iload (va := (0, 4)) rfl rfl) ?_
        refine xg_t (xg_ifT (u := 4) rfl xnm0 (by decide)) ?_
        refine xg_t (xg_blq rfl) ?_
        refine xg_t (xg_aload (va := (2, 27)) rfl rfl) ?_
        refine xg_t (xg_getf (va := (2, 42)) (hF605.get (by decide) (hb601.get (by decide) (hb598.get (by decide) (hF582.get (by decide) (hb578.get (by decide) (hb572.get (by decide) (hF553.get (by decide) (hF15.get (by decide) h27_11)))))))) rfl) ?_
        refine xg_t (xg_bip) ?_
        refine xoC42 (xqc42 hI604 : cp42 (wget w602 42)) (fun f42_606 f42_608 f42_610 f42_612 f42_614 h42_616 hb607 hb609 hb611 hb613 hb615 hb617 => ?_)
        refine xg_cVi mX8_isSign (vs := [(0, 59)]) (rest := []) (cn1 := 0) (sl1 := 0) rfl (tkIsSign42 (hI604) (by omega)) rfl h42_616 rfl rfl rfl rfl rfl rfl (fun n622 w618 hq619 => ?_)
        obtain ⟨hn623, hI620, hF621⟩ := hq619
        by_cases hc624 : n622 = 0
        · refine xg_t (xg_ifF (u := n622) rfl xnm0 (xj_neF hc624)) ?_
          refine xg_t (xg_const) ?_
          exact xg_e ⟨0, w618, ⟨rfl, rfl⟩, ⟨by omega, _, _, _, _, (hF621.get (by decide) (hF605.get (by decide) (hb601.get (by decide) (hb598.get (by decide) (hF582.get (by decide) (hb578.get (by decide) (hb572.get (by decide) (hF553.get (by decide) (hF15.get (by decide) hc0)))))))))⟩, hI620, (((((((hF15.up (by decide)).tr (hF553.up (by decide))).tr ((xFr.of (S := [27, 28, 29, 30, 31, 32, 33, 34, 35, 36, 37, 38, 39, 40, 41, 42]) hb572 (by decide)).tr (xFr.of (S := [27, 28, 29, 30, 31, 32, 33, 34, 35, 36, 37, 38, 39, 40, 41, 42]) hb578 (by decide)))).tr (hF582.up (by decide))).tr ((xFr.of (S := [27, 28, 29, 30, 31, 32, 33, 34, 35, 36, 37, 38, 39, 40, 41, 42]) hb598 (by decide)).tr (xFr.of (S := [27, 28, 29, 30, 31, 32, 33, 34, 35, 36, 37, 38, 39, 40, 41, 42]) hb601 (by decide)))).tr (hF605.up (by decide))).tr (hF621.up (by decide)))⟩
        · refine xg_t (xg_ifT (u := n622) rfl xnm0 (xj_neT hc624)) ?_
          refine xg_t (xg_blq rfl) ?_
          refine xg_t (xg_aload (va := (2, 27)) rfl rfl) ?_
          refine xg_t (xg_getf (va := (2, 42)) (hF621.get (by decide) (hF605.get (by decide) (hb601.get (by decide) (hb598.get (by decide) (hF582.get (by decide) (hb578.get (by decide) (hb572.get (by decide) (hF553.get (by decide) (hF15.get (by decide) h27_11))))))))) rfl) ?_
          refine xg_cVv mX8_advance (vs := []) (rest := []) (cn1 := 0) (sl1 := 0) rfl (tkAdvance42 (hI620)) rfl (hF621.get (by decide) h42_616) rfl rfl rfl rfl rfl rfl (fun w625 hq626 => ?_)
          obtain ⟨hI627, hF628⟩ := hq626
          refine xg_t (xg_aload (va := (2, 27)) rfl rfl) ?_
          refine xg_t (xg_getf (va := (0, f27_7)) (hF628.get (by decide) (hF621.get (by decide) (hF605.get (by decide) (hb601.get (by decide) (hb598.get (by decide) (hF582.get (by decide) (hb578.get (by decide) (hb572.get (by decide) (hF553.get (by decide) (hF15.get (by decide) h27_11)))))))))) rfl) ?_
          by_cases hc629 : f27_7 = 0
          · refine xg_t (xg_ifF (u := f27_7) rfl xnm0 (xj_neF hc629)) ?_
            refine xg_t (xg_aload (va := (2, 27)) rfl rfl) ?_
            refine xg_t (xg_iload (va := (0, 4)) rfl rfl) ?_
            refine xg_t (xg_iload (va := (0, f42_542)) rfl rfl) ?_
            refine xg_cVi mX2_isFine (vs := [(0, 4), (0, f42_542)]) (rest := []) (cn1 := 0) (sl1 := 0) rfl (ftFine4 (hI627) (by omega)) rfl (hF628.get (by decide) (hF621.get (by decide) (hF605.get (by decide) (hb601.get (by decide) (hb598.get (by decide) (hF582.get (by decide) (hb578.get (by decide) (hb572.get (by decide) (hF553.get (by decide) (hF15.get (by decide) h27_11)))))))))) rfl rfl rfl rfl rfl rfl (fun n634 w630 hq631 => ?_)
            obtain ⟨hn635, hI632, hF633⟩ := hq631
            by_cases hc636 : n634 = 0
            · refine xg_t (xg_ifT (u := n634) rfl xnm0 (xj_eqT hc636)) ?_
              refine xg_t (xg_blq rfl) ?_
              refine xg_t (xg_const) ?_
              exact xg_e ⟨1, w630, ⟨rfl, rfl⟩, ⟨by omega, _, _, _, _, (hF633.get (by decide) (hF628.get (by decide) (hF621.get (by decide) (hF605.get (by decide) (hb601.get (by decide) (hb598.get (by decide) (hF582.get (by decide) (hb578.get (by decide) (hb572.get (by decide) (hF553.get (by decide) (hF15.get (by decide) hc0)))))))))))⟩, hI632, (((((((((hF15.up (by decide)).tr (hF553.up (by decide))).tr ((xFr.of (S := [27, 28, 29, 30, 31, 32, 33, 34, 35, 36, 37, 38, 39, 40, 41, 42]) hb572 (by decide)).tr (xFr.of (S := [27, 28, 29, 30, 31, 32, 33, 34, 35, 36, 37, 38, 39, 40, 41, 42]) hb578 (by decide)))).tr (hF582.up (by decide))).tr ((xFr.of (S := [27, 28, 29, 30, 31, 32, 33, 34, 35, 36, 37, 38, 39, 40, 41, 42]) hb598 (by decide)).tr (xFr.of (S := [27, 28, 29, 30, 31, 32, 33, 34, 35, 36, 37, 38, 39, 40, 41, 42]) hb601 (by decide)))).tr (hF605.up (by decide))).tr (hF621.up (by decide))).tr (hF628.up (by decide))).tr (hF633.up (by decide)))⟩
            · refine xg_t (xg_ifF (u := n634) rfl xnm0 (xj_eqF hc636)) ?_
              refine xg_t (xg_aload (va := (2, 27)) rfl rfl) ?_
              refine xg_t (xg_iload (va := (0, 4)) rfl rfl) ?_
              refine xg_t (xg_iload (va := (0, f42_542)) rfl rfl) ?_
              refine xoC27 (xqc27 hI632 : cp27 (wget w630 27)) (fun f27_637 f27_639 f27_641 f27_643 f27_645 h27_647 hb638 hb640 hb642 hb644 hb646 => ?_)
              refine xg_cVv mX2_take (vs := [(0, 4), (0, f42_542)]) (rest := []) (cn1 := 0) (sl1 := 0) rfl (ftTake4 (hI632) (by omega)) rfl h27_647 rfl rfl rfl rfl rfl rfl (fun w648 hq649 => ?_)
              obtain ⟨hI650, hF651⟩ := hq649
              refine xg_t (xg_blq rfl) ?_
              refine xg_t (xg_const) ?_
              exact xg_e ⟨1, w648, ⟨rfl, rfl⟩, ⟨by omega, _, _, _, _, (hF651.get (by decide) (hF633.get (by decide) (hF628.get (by decide) (hF621.get (by decide) (hF605.get (by decide) (hb601.get (by decide) (hb598.get (by decide) (hF582.get (by decide) (hb578.get (by decide) (hb572.get (by decide) (hF553.get (by decide) (hF15.get (by decide) hc0))))))))))))⟩, hI650, ((((((((((hF15.up (by decide)).tr (hF553.up (by decide))).tr ((xFr.of (S := [27, 28, 29, 30, 31, 32, 33, 34, 35, 36, 37, 38, 39, 40, 41, 42]) hb572 (by decide)).tr (xFr.of (S := [27, 28, 29, 30, 31, 32, 33, 34, 35, 36, 37, 38, 39, 40, 41, 42]) hb578 (by decide)))).tr (hF582.up (by decide))).tr ((xFr.of (S := [27, 28, 29, 30, 31, 32, 33, 34, 35, 36, 37, 38, 39, 40, 41, 42]) hb598 (by decide)).tr (xFr.of (S := [27, 28, 29, 30, 31, 32, 33, 34, 35, 36, 37, 38, 39, 40, 41, 42]) hb601 (by decide)))).tr (hF605.up (by decide))).tr (hF621.up (by decide))).tr (hF628.up (by decide))).tr (hF633.up (by decide))).tr (hF651.up (by decide)))⟩
          · refine xg_t (xg_ifT (u := f27_7) rfl xnm0 (xj_neT hc629)) ?_
            refine xg_t (xg_blq rfl) ?_
            refine xg_t (xg_const) ?_
            exact xg_e ⟨1, w625, ⟨rfl, rfl⟩, ⟨by omega, _, _, _, _, (hF628.get (by decide) (hF621.get (by decide) (hF605.get (by decide) (hb601.get (by decide) (hb598.get (by decide) (hF582.get (by decide) (hb578.get (by decide) (hb572.get (by decide) (hF553.get (by decide) (hF15.get (by decide) hc0))))))))))⟩, hI627, ((((((((hF15.up (by decide)).tr (hF553.up (by decide))).tr ((xFr.of (S := [27, 28, 29, 30, 31, 32, 33, 34, 35, 36, 37, 38, 39, 40, 41, 42]) hb572 (by decide)).tr (xFr.of (S := [27, 28, 29, 30, 31, 32, 33, 34, 35, 36, 37, 38, 39, 40, 41, 42]) hb578 (by decide)))).tr (hF582.up (by decide))).tr ((xFr.of (S := [27, 28, 29, 30, 31, 32, 33, 34, 35, 36, 37, 38, 39, 40, 41, 42]) hb598 (by decide)).tr (xFr.of (S := [27, 28, 29, 30, 31, 32, 33, 34, 35, 36, 37, 38, 39, 40, 41, 42]) hb601 (by decide)))).tr (hF605.up (by decide))).tr (hF621.up (by decide))).tr (hF628.up (by decide)))⟩
      · refine xg_t (xg_icF (u := f42_585) (v := 2) rfl xnm0 xnm0 (xj_eqF hc595)) ?_
        refine xg_t (xg_const) ?_
        exact xg_e ⟨0, w579, ⟨rfl, rfl⟩, ⟨by omega, _, _, _, _, (hF582.get (by decide) (hb578.get (by decide) (hb572.get (by decide) (hF553.get (by decide) (hF15.get (by decide) hc0)))))⟩, hI581, ((((hF15.up (by decide)).tr (hF553.up (by decide))).tr ((xFr.of (S := [27, 28, 29, 30, 31, 32, 33, 34, 35, 36, 37, 38, 39, 40, 41, 42]) hb572 (by decide)).tr (xFr.of (S := [27, 28, 29, 30, 31, 32, 33, 34, 35, 36, 37, 38, 39, 40, 41, 42]) hb578 (by decide)))).tr (hF582.up (by decide)))⟩
    · refine xg_t (xg_icF (u := f42_556) (v := 2) rfl xnm0 xnm0 (xj_eqF hc566)) ?_
      refine xg_t (xg_const) ?_
      exact xg_e ⟨0, w550, ⟨rfl, rfl⟩, ⟨by omega, _, _, _, _, (hF553.get (by decide) (hF15.get (by decide) hc0))⟩, hI552, ((hF15.up (by decide)).tr (hF553.up (by decide)))⟩
  · refine xg_t (xg_istore (l1 := [(0, (2, 27))]) rfl rfl rfl) ?_
    refine xg_t (xg_aload (va := (2, 27)) rfl rfl) ?_
    refine xg_t (xg_getf (va := (2, 42)) (hF15.get (by decide) h27_11) rfl) ?_
    refine xoC42 (xqc42 hI14 : cp42 (wget w12 42)) (fun f42_652 f42_654 f42_656 f42_658 f42_660 h42_662 hb653 hb655 hb657 hb659 hb661 hb663 => ?_)
    refine xg_t (xg_getf (va := (0, f42_656)) h42_662 rfl) ?_
    refine xg_t (xg_istore (l1 := [(1, (0, 5)), (0, (2, 27))]) rfl rfl rfl) ?_
    refine xg_t (xg_iload (va := (0, 5)) rfl rfl) ?_
    refine xg_t (xg_const) ?_
    refine xg_t (xg_icT (u := 5) (v := 4294967295) rfl xnm0 xnm0 (by decide)) ?_
    refine xg_t (xg_blq rfl) ?_
    refine xg_t (xg_aload (va := (2, 27)) rfl rfl) ?_
    refine xg_t (xg_getf (va := (2, 42)) (hF15.get (by decide) h27_11) rfl) ?_
    refine xg_cVv mX8_advance (vs := []) (rest := []) (cn1 := 0) (sl1 := 0) rfl (tkAdvance42 (hI14)) rfl h42_662 rfl rfl rfl rfl rfl rfl (fun w664 hq665 => ?_)
    obtain ⟨hI666, hF667⟩ := hq665
    refine xg_t (xg_const) ?_
    refine xg_t (xg_istore (l1 := [(2, (0, f42_656)), (1, (0, 5)), (0, (2, 27))]) rfl rfl rfl) ?_
    refine xg_t (xg_blq rfl) ?_
    refine xg_t (xg_iload (va := (0, 0)) rfl rfl) ?_
    refine xg_t (xg_gets) ?_
    refine xg_t (xg_iload (va := (0, 5)) rfl rfl) ?_
    refine xg_t (xg_ald8L (n := 5) (u := 2) xnm0 rfl rfl) ?_
    refine xg_t (xg_icF (u := 0) (v := 2) rfl xnm0 xnm0 (by decide)) ?_
    refine xg_t (xg_iload (va := (0, 0)) rfl rfl) ?_
    refine xg_t (xg_const) ?_
    refine xg_t (xg_icF (u := 0) (v := 3) rfl xnm0 xnm0 (by decide)) ?_
    refine xg_t (xg_aload (va := (2, 27)) rfl rfl) ?_
    refine xg_t (xg_getf (va := (2, 42)) (hF667.get (by decide) (hF15.get (by decide) h27_11)) rfl) ?_
    refine xoC42 (xqc42 hI666 : cp42 (wget w664 42)) (fun f42_668 f42_670 f42_672 f42_674 f42_676 h42_678 hb669 hb671 hb673 hb675 hb677 hb679 => ?_)
    refine xg_t (xg_getf (va := (0, f42_670)) h42_678 rfl) ?_
    refine xg_t (xg_const) ?_
    by_cases hc680 : f42_670 = 2
    · refine xg_t (xg_icT (u := f42_670) (v := 2) rfl xnm0 xnm0 (xj_eqT hc680)) ?_
      refine xg_t (xg_blq rfl) ?_
      refine xg_t (xg_aload (va := (2, 27)) rfl rfl) ?_
      refine xg_t (xg_getf (va := (2, 39)) (hF667.get (by decide) (hF15.get (by decide) h27_11)) rfl) ?_
      refine xg_t (xg_iload (va := (0, 0)) rfl rfl) ?_
      refine xg_t (xg_aload (va := (2, 27)) rfl rfl) ?_
      refine xg_t (xg_getf (va := (2, 42)) (hF667.get (by decide) (hF15.get (by decide) h27_11)) rfl) ?_
      refine xg_t (xg_getf (va := (0, f42_676)) h42_678 rfl) ?_
      refine xoI (xqc39 hI666 : cpI 3 18 4294967295 (wget w664 39)) (fun g39_681 h39_682 hb683 => ?_)
      refine xg_iastK (n := 0) (u := f42_676) h39_682 xnm0 xnm0 rfl (by first | decide | omega) (fun w684 hr685 hb686 => ?_)
      refine xg_t (xg_aload (va := (2, 27)) rfl rfl) ?_
      refine xg_t (xg_getf (va := (2, 40)) (hb686.get (by decide) (hF667.get (by decide) (hF15.get (by decide) h27_11))) rfl) ?_
      refine xg_t (xg_iload (va := (0, 0)) rfl rfl) ?_
      refine xg_t (xg_aload (va := (2, 27)) rfl rfl) ?_
      refine xg_t (xg_getf (va := (2, 42)) (hb686.get (by decide) (hF667.get (by decide) (hF15.get (by decide) h27_11))) rfl) ?_
      refine xg_t (xg_getf (va := (0, f42_672)) (hb686.get (by decide) h42_678) rfl) ?_
      refine xoI (xqc40 hI666 : cpI 3 19 4294967295 (wget w664 40)) (fun g40_687 h40_688 hb689 => ?_)
      refine xg_iastK (n := 0) (u := f42_672) (h40_688.but hb686 (by decide)) xnm0 xnm0 rfl (by first | decide | omega) (fun w690 hr691 hb692 => ?_)
      refine xg_t (xg_aload (va := (2, 27)) rfl rfl) ?_
      refine xg_t (xg_getf (va := (2, 42)) (hb692.get (by decide) (hb686.get (by decide) (hF667.get (by decide) (hF15.get (by decide) h27_11)))) rfl) ?_
      refine xg_cVv mX8_advance (vs := []) (rest := []) (cn1 := 0) (sl1 := 0) rfl (tkAdvance42 (xInv.up (S := [39, 40]) hI666 ((xFr.of (S := [39, 40]) hb686 (by decide)).tr (xFr.of (S := [39, 40]) hb692 (by decide))) (List.forall_mem_cons.mpr ⟨xqu39 (show cpI 3 18 4294967295 (wget w690 39) from ⟨_, (hr685.but hb692 (by decide)), xrb (by omega) (hb683)⟩), List.forall_mem_cons.mpr ⟨xqu40 (show cpI 3 19 4294967295 (wget w690 40) from ⟨_, hr691, xrb (by omega) (hb689)⟩), fun _ h => absurd h List.not_mem_nil⟩⟩))) rfl (hb692.get (by decide) (hb686.get (by decide) h42_678)) rfl rfl rfl rfl rfl rfl (fun w693 hq694 => ?_)
      obtain ⟨hI695, hF696⟩ := hq694
      refine xg_t (xg_iinc (u := 0) (z := 1) (l1 := [(2, (0, f42_656)), (1, (0, 5)), (0, (2, 27))]) rfl rfl (by decide) rfl) ?_
      refine xg_t (xg_goto) ?_
      refine xg_t (xg_blq rfl) ?_
      refine xg_t (xg_iload (va := (0, 1)) rfl rfl) ?_
      refine xg_t (xg_gets) ?_
      refine xg_t (xg_iload (va := (0, 5)) rfl rfl) ?_
      refine xg_t (xg_ald8L (n := 5) (u := 2) xnm0 rfl rfl) ?_
      refine xg_t (xg_icF (u := 1) (v := 2) rfl xnm0 xnm0 (by decide)) ?_
      refine xg_t (xg_iload (va := (0, 1)) rfl rfl) ?_
      refine xg_t (xg_const) ?_
      refine xg_t (xg_icF (u := 1) (v := 3) rfl xnm0 xnm0 (by decide)) ?_
      refine xg_t (xg_aload (va := (2, 27)) rfl rfl) ?_
      refine xg_t (xg_getf (va := (2, 42)) (hF696.get (by decide) (hb692.get (by decide) (hb686.get (by decide) (hF667.get (by decide) (hF15.get (by decide) h27_11))))) rfl) ?_
      refine xoC42 (xqc42 hI695 : cp42 (wget w693 42)) (fun f42_697 f42_699 f42_701 f42_703 f42_705 h42_707 hb698 hb700 hb702 hb704 hb706 hb708 => ?_)
      refine xg_t (xg_getf (va := (0, f42_699)) h42_707 rfl) ?_
      refine xg_t (xg_const) ?_
      by_cases hc709 : f42_699 = 2
      · refine xg_t (xg_icT (u := f42_699) (v := 2) rfl xnm0 xnm0 (xj_eqT hc709)) ?_
        refine xg_t (xg_blq rfl) ?_
        refine xg_t (xg_aload (va := (2, 27)) rfl rfl) ?_
        refine xg_t (xg_getf (va := (2, 39)) (hF696.get (by decide) (hb692.get (by decide) (hb686.get (by decide) (hF667.get (by decide) (hF15.get (by decide) h27_11))))) rfl) ?_
        refine xg_t (xg_iload (va := (0, 1)) rfl rfl) ?_
        refine xg_t (xg_aload (va := (2, 27)) rfl rfl) ?_
        refine xg_t (xg_getf (va := (2, 42)) (hF696.get (by decide) (hb692.get (by decide) (hb686.get (by decide) (hF667.get (by decide) (hF15.get (by decide) h27_11))))) rfl) ?_
        refine xg_t (xg_getf (va := (0, f42_705)) h42_707 rfl) ?_
        refine xg_iastK (n := 1) (u := f42_705) ((hr685.but hb692 (by decide)).fr hF696 (by decide)) xnm0 xnm0 rfl (by first | decide | omega) (fun w710 hr711 hb712 => ?_)
        refine xg_t (xg_aload (va := (2, 27)) rfl rfl) ?_
        refine xg_t (xg_getf (va := (2, 40)) (hb712.get (by decide) (hF696.get (by decide) (hb692.get (by decide) (hb686.get (by decide) (hF667.get (by decide) (hF15.get (by decide) h27_11)))))) rfl) ?_
        refine xg_t (xg_iload (va := (0, 1)) rfl rfl) ?_
        refine xg_t (xg_aload (va := (2, 27)) rfl rfl) ?_
        refine xg_t (xg_getf (va := (2, 42)) (hb712.get (by decide) (hF696.get (by decide) (hb692.get (by decide) (hb686.get (by decide) (hF667.get (by decide) (hF15.get (by decide) h27_11)))))) rfl) ?_
        refine xg_t (xg_getf (va := (0, f42_701)) (hb712.get (by decide) h42_707) rfl) ?_
        refine xg_iastK (n := 1) (u := f42_701) ((hr691.fr hF696 (by decide)).but hb712 (by decide)) xnm0 xnm0 rfl (by first | decide | omega) (fun w713 hr714 hb715 => ?_)
        refine xg_t (xg_aload (va := (2, 27)) rfl rfl) ?_
        refine xg_t (xg_getf (va := (2, 42)) (hb715.get (by decide) (hb712.get (by decide) (hF696.get (by decide) (hb692.get (by decide) (hb686.get (by decide) (hF667.get (by decide) (hF15.get (by decide) h27_11))))))) rfl) ?_
        refine xg_cVv mX8_advance (vs := []) (rest := []) (cn1 := 0) (sl1 := 0) rfl (tkAdvance42 (xInv.up (S := [39, 40]) hI695 ((xFr.of (S := [39, 40]) hb712 (by decide)).tr (xFr.of (S := [39, 40]) hb715 (by decide))) (List.forall_mem_cons.mpr ⟨xqu39 (show cpI 3 18 4294967295 (wget w713 39) from ⟨_, (hr711.but hb715 (by decide)), xrb (by omega) (xrb (by omega) (hb683))⟩), List.forall_mem_cons.mpr ⟨xqu40 (show cpI 3 19 4294967295 (wget w713 40) from ⟨_, hr714, xrb (by omega) (xrb (by omega) (hb689))⟩), fun _ h => absurd h List.not_mem_nil⟩⟩))) rfl (hb715.get (by decide) (hb712.get (by decide) h42_707)) rfl rfl rfl rfl rfl rfl (fun w716 hq717 => ?_)
        obtain ⟨hI718, hF719⟩ := hq717
        refine xg_t (xg_iinc (u := 1) (z := 2) (l1 := [(2, (0, f42_656)), (1, (0, 5)), (0, (2, 27))]) rfl rfl (by decide) rfl) ?_
        refine xg_t (xg_goto) ?_
        refine xg_t (xg_blq rfl) ?_
        refine xg_t (xg_iload (va := (0, 2)) rfl rfl) ?_
        refine xg_t (xg_gets) ?_
        refine xg_t (xg_iload (va := (0, 5)) rfl rfl) ?_
        refine xg_t (xg_ald8L (n := 5) (u := 2) xnm0 rfl rfl) ?_
        refine xg_t (xg_icT (u := 2) (v := 2) rfl xnm0 xnm0 (by decide)) ?_
        refine xg_t (xg_blq rfl) ?_
        refine xg_t (xg_iload (va := (0, 5)) rfl rfl) ?_
        refine xg_t (xg_ifT (u := 5) rfl xnm0 (by decide)) ?_
        refine xg_t (xg_blq rfl) ?_
        refine xg_t (xg_aload (va := (2, 27)) rfl rfl) ?_
        refine xg_t (xg_getf (va := (2, 42)) (hF719.get (by decide) (hb715.get (by decide) (hb712.get (by decide) (hF696.get (by decide) (hb692.get (by decide) (hb686.get (by decide) (hF667.get (by decide) (hF15.get (by decide) h27_11)))))))) rfl) ?_
        refine xg_t (xg_bip) ?_
        refine xoC42 (xqc42 hI718 : cp42 (wget w716 42)) (fun f42_720 f42_722 f42_724 f42_726 f42_728 h42_730 hb721 hb723 hb725 hb727 hb729 hb731 => ?_)
        refine xg_cVi mX8_isSign (vs := [(0, 59)]) (rest := []) (cn1 := 0) (sl1 := 0) rfl (tkIsSign42 (hI718) (by omega)) rfl h42_730 rfl rfl rfl rfl rfl rfl (fun n736 w732 hq733 => ?_)
        obtain ⟨hn737, hI734, hF735⟩ := hq733
        by_cases hc738 : n736 = 0
        · refine xg_t (xg_ifF (u := n736) rfl xnm0 (xj_neF hc738)) ?_
          refine xg_t (xg_const) ?_
          exact xg_e ⟨0, w732, ⟨rfl, rfl⟩, ⟨by omega, _, _, _, _, (hF735.get (by decide) (hF719.get (by decide) (hb715.get (by decide) (hb712.get (by decide) (hF696.get (by decide) (hb692.get (by decide) (hb686.get (by decide) (hF667.get (by decide) (hF15.get (by decide) hc0)))))))))⟩, hI734, (((((((hF15.up (by decide)).tr (hF667.up (by decide))).tr ((xFr.of (S := [27, 28, 29, 30, 31, 32, 33, 34, 35, 36, 37, 38, 39, 40, 41, 42]) hb686 (by decide)).tr (xFr.of (S := [27, 28, 29, 30, 31, 32, 33, 34, 35, 36, 37, 38, 39, 40, 41, 42]) hb692 (by decide)))).tr (hF696.up (by decide))).tr ((xFr.of (S := [27, 28, 29, 30, 31, 32, 33, 34, 35, 36, 37, 38, 39, 40, 41, 42]) hb712 (by decide)).tr (xFr.of (S := [27, 28, 29, 30, 31, 32, 33, 34, 35, 36, 37, 38, 39, 40, 41, 42]) hb715 (by decide)))).tr (hF719.up (by decide))).tr (hF735.up (by decide)))⟩
        · refine xg_t (xg_ifT (u := n736) rfl xnm0 (xj_neT hc738)) ?_
          refine xg_t (xg_blq rfl) ?_
          refine xg_t (xg_aload (va := (2, 27)) rfl rfl) ?_
          refine xg_t (xg_getf (va := (2, 42)) (hF735.get (by decide) (hF719.get (by decide) (hb715.get (by decide) (hb712.get (by decide) (hF696.get (by decide) (hb692.get (by decide) (hb686.get (by decide) (hF667.get (by decide) (hF15.get (by decide) h27_11))))))))) rfl) ?_
          refine xg_cVv mX8_advance (vs := []) (rest := []) (cn1 := 0) (sl1 := 0) rfl (tkAdvance42 (hI734)) rfl (hF735.get (by decide) h42_730) rfl rfl rfl rfl rfl rfl (fun w739 hq740 => ?_)
          obtain ⟨hI741, hF742⟩ := hq740
          refine xg_t (xg_aload (va := (2, 27)) rfl rfl) ?_
          refine xg_t (xg_getf (va := (0, f27_7)) (hF742.get (by decide) (hF735.get (by decide) (hF719.get (by decide) (hb715.get (by decide) (hb712.get (by decide) (hF696.get (by decide) (hb692.get (by decide) (hb686.get (by decide) (hF667.get (by decide) (hF15.get (by decide) h27_11)))))))))) rfl) ?_
          by_cases hc743 : f27_7 = 0
          · refine xg_t (xg_ifF (u := f27_7) rfl xnm0 (xj_neF hc743)) ?_
            refine xg_t (xg_aload (va := (2, 27)) rfl rfl) ?_
            refine xg_t (xg_iload (va := (0, 5)) rfl rfl) ?_
            refine xg_t (xg_iload (va := (0, f42_656)) rfl rfl) ?_
            refine xg_cVi mX2_isFine (vs := [(0, 5), (0, f42_656)]) (rest := []) (cn1 := 0) (sl1 := 0) rfl (ftFine5 (hI741) (by omega)) rfl (hF742.get (by decide) (hF735.get (by decide) (hF719.get (by decide) (hb715.get (by decide) (hb712.get (by decide) (hF696.get (by decide) (hb692.get (by decide) (hb686.get (by decide) (hF667.get (by decide) (hF15.get (by decide) h27_11)))))))))) rfl rfl rfl rfl rfl rfl (fun n748 w744 hq745 => ?_)
            obtain ⟨hn749, hI746, hF747⟩ := hq745
            by_cases hc750 : n748 = 0
            · refine xg_t (xg_ifT (u := n748) rfl xnm0 (xj_eqT hc750)) ?_
              refine xg_t (xg_blq rfl) ?_
              refine xg_t (xg_const) ?_
              exact xg_e ⟨1, w744, ⟨rfl, rfl⟩, ⟨by omega, _, _, _, _, (hF747.get (by decide) (hF742.get (by decide) (hF735.get (by decide) (hF719.get (by decide) (hb715.get (by decide) (hb712.get (by decide) (hF696.get (by decide) (hb692.get (by decide) (hb686.get (by decide) (hF667.get (by decide) (hF15.get (by decide) hc0)))))))))))⟩, hI746, (((((((((hF15.up (by decide)).tr (hF667.up (by decide))).tr ((xFr.of (S := [27, 28, 29, 30, 31, 32, 33, 34, 35, 36, 37, 38, 39, 40, 41, 42]) hb686 (by decide)).tr (xFr.of (S := [27, 28, 29, 30, 31, 32, 33, 34, 35, 36, 37, 38, 39, 40, 41, 42]) hb692 (by decide)))).tr (hF696.up (by decide))).tr ((xFr.of (S := [27, 28, 29, 30, 31, 32, 33, 34, 35, 36, 37, 38, 39, 40, 41, 42]) hb712 (by decide)).tr (xFr.of (S := [27, 28, 29, 30, 31, 32, 33, 34, 35, 36, 37, 38, 39, 40, 41, 42]) hb715 (by decide)))).tr (hF719.up (by decide))).tr (hF735.up (by decide))).tr (hF742.up (by decide))).tr (hF747.up (by decide)))⟩
            · refine xg_t (xg_ifF (u := n748) rfl xnm0 (xj_eqF hc750)) ?_
              refine xg_t (xg_aload (va := (2, 27)) rfl rfl) ?_
              refine xg_t (xg_iload (va := (0, 5)) rfl rfl) ?_
              refine xg_t (xg_iload (va := (0, f42_656)) rfl rfl) ?_
              obtain ⟨-, nf751, hz752, hz753, hz754, hz755⟩ := hn749.resolve_left (by omega)
              refine xoC27 (xqc27 hI746 : cp27 (wget w744 27)) (fun f27_756 f27_758 f27_760 f27_762 f27_764 h27_766 hb757 hb759 hb761 hb763 hb765 => ?_)
              refine xg_cVv mX2_take (vs := [(0, 5), (0, f42_656)]) (rest := []) (cn1 := 0) (sl1 := 0) rfl (ftTake5 (hI746) (by omega) (hF747.get (by decide) (hF742.get (by decide) (hF735.get (by decide) (hF719.get (by decide) (hb715.get (by decide) (hb712.get (by decide) (hF696.get (by decide) (hb692.get (by decide) (hb686.get (by decide) (hF667.get (by decide) (hF15.get (by decide) hc0))))))))))) (by omega) (by omega) (by omega) (by omega) (by omega) hz752 hz753 hz754 hz755) rfl h27_766 rfl rfl rfl rfl rfl rfl (fun w767 hq768 => ?_)
              obtain ⟨hI769, hF770, hx771⟩ := hq768
              obtain ⟨a772, b773, hc774, hb775, hb776⟩ := hx771
              refine xg_t (xg_blq rfl) ?_
              refine xg_t (xg_const) ?_
              exact xg_e ⟨1, w767, ⟨rfl, rfl⟩, ⟨by omega, _, _, _, _, hc774⟩, hI769, ((((((((((hF15.up (by decide)).tr (hF667.up (by decide))).tr ((xFr.of (S := [27, 28, 29, 30, 31, 32, 33, 34, 35, 36, 37, 38, 39, 40, 41, 42]) hb686 (by decide)).tr (xFr.of (S := [27, 28, 29, 30, 31, 32, 33, 34, 35, 36, 37, 38, 39, 40, 41, 42]) hb692 (by decide)))).tr (hF696.up (by decide))).tr ((xFr.of (S := [27, 28, 29, 30, 31, 32, 33, 34, 35, 36, 37, 38, 39, 40, 41, 42]) hb712 (by decide)).tr (xFr.of (S := [27, 28, 29, 30, 31, 32, 33, 34, 35, 36, 37, 38, 39, 40, 41, 42]) hb715 (by decide)))).tr (hF719.up (by decide))).tr (hF735.up (by decide))).tr (hF742.up (by decide))).tr (hF747.up (by decide))).tr (hF770.up (by decide)))⟩
          · refine xg_t (xg_ifT (u := f27_7) rfl xnm0 (xj_neT hc743)) ?_
            refine xg_t (xg_blq rfl) ?_
            refine xg_t (xg_const) ?_
            exact xg_e ⟨1, w739, ⟨rfl, rfl⟩, ⟨by omega, _, _, _, _, (hF742.get (by decide) (hF735.get (by decide) (hF719.get (by decide) (hb715.get (by decide) (hb712.get (by decide) (hF696.get (by decide) (hb692.get (by decide) (hb686.get (by decide) (hF667.get (by decide) (hF15.get (by decide) hc0))))))))))⟩, hI741, ((((((((hF15.up (by decide)).tr (hF667.up (by decide))).tr ((xFr.of (S := [27, 28, 29, 30, 31, 32, 33, 34, 35, 36, 37, 38, 39, 40, 41, 42]) hb686 (by decide)).tr (xFr.of (S := [27, 28, 29, 30, 31, 32, 33, 34, 35, 36, 37, 38, 39, 40, 41, 42]) hb692 (by decide)))).tr (hF696.up (by decide))).tr ((xFr.of (S := [27, 28, 29, 30, 31, 32, 33, 34, 35, 36, 37, 38, 39, 40, 41, 42]) hb712 (by decide)).tr (xFr.of (S := [27, 28, 29, 30, 31, 32, 33, 34, 35, 36, 37, 38, 39, 40, 41, 42]) hb715 (by decide)))).tr (hF719.up (by decide))).tr (hF735.up (by decide))).tr (hF742.up (by decide)))⟩
      · refine xg_t (xg_icF (u := f42_699) (v := 2) rfl xnm0 xnm0 (xj_eqF hc709)) ?_
        refine xg_t (xg_const) ?_
        exact xg_e ⟨0, w693, ⟨rfl, rfl⟩, ⟨by omega, _, _, _, _, (hF696.get (by decide) (hb692.get (by decide) (hb686.get (by decide) (hF667.get (by decide) (hF15.get (by decide) hc0)))))⟩, hI695, ((((hF15.up (by decide)).tr (hF667.up (by decide))).tr ((xFr.of (S := [27, 28, 29, 30, 31, 32, 33, 34, 35, 36, 37, 38, 39, 40, 41, 42]) hb686 (by decide)).tr (xFr.of (S := [27, 28, 29, 30, 31, 32, 33, 34, 35, 36, 37, 38, 39, 40, 41, 42]) hb692 (by decide)))).tr (hF696.up (by decide)))⟩
    · refine xg_t (xg_icF (u := f42_670) (v := 2) rfl xnm0 xnm0 (xj_eqF hc680)) ?_
      refine xg_t (xg_const) ?_
      exact xg_e ⟨0, w664, ⟨rfl, rfl⟩, ⟨by omega, _, _, _, _, (hF667.get (by decide) (hF15.get (by decide) hc0))⟩, hI666, ((hF15.up (by decide)).tr (hF667.up (by decide)))⟩
  · refine xg_t (xg_istore (l1 := [(0, (2, 27))]) rfl rfl rfl) ?_
    refine xg_t (xg_aload (va := (2, 27)) rfl rfl) ?_
    refine xg_t (xg_getf (va := (2, 42)) (hF15.get (by decide) h27_11) rfl) ?_
    refine xoC42 (xqc42 hI14 : cp42 (wget w12 42)) (fun f42_777 f42_779 f42_781 f42_783 f42_785 h42_787 hb778 hb780 hb782 hb784 hb786 hb788 => ?_)
    refine xg_t (xg_getf (va := (0, f42_781)) h42_787 rfl) ?_
    refine xg_t (xg_istore (l1 := [(1, (0, 6)), (0, (2, 27))]) rfl rfl rfl) ?_
    refine xg_t (xg_iload (va := (0, 6)) rfl rfl) ?_
    refine xg_t (xg_const) ?_
    refine xg_t (xg_icT (u := 6) (v := 4294967295) rfl xnm0 xnm0 (by decide)) ?_
    refine xg_t (xg_blq rfl) ?_
    refine xg_t (xg_aload (va := (2, 27)) rfl rfl) ?_
    refine xg_t (xg_getf (va := (2, 42)) (hF15.get (by decide) h27_11) rfl) ?_
    refine xg_cVv mX8_advance (vs := []) (rest := []) (cn1 := 0) (sl1 := 0) rfl (tkAdvance42 (hI14)) rfl h42_787 rfl rfl rfl rfl rfl rfl (fun w789 hq790 => ?_)
    obtain ⟨hI791, hF792⟩ := hq790
    refine xg_t (xg_const) ?_
    refine xg_t (xg_istore (l1 := [(2, (0, f42_781)), (1, (0, 6)), (0, (2, 27))]) rfl rfl rfl) ?_
    refine xg_t (xg_blq rfl) ?_
    refine xg_t (xg_iload (va := (0, 0)) rfl rfl) ?_
    refine xg_t (xg_gets) ?_
    refine xg_t (xg_iload (va := (0, 6)) rfl rfl) ?_
    refine xg_t (xg_ald8L (n := 6) (u := 2) xnm0 rfl rfl) ?_
    refine xg_t (xg_icF (u := 0) (v := 2) rfl xnm0 xnm0 (by decide)) ?_
    refine xg_t (xg_iload (va := (0, 0)) rfl rfl) ?_
    refine xg_t (xg_const) ?_
    refine xg_t (xg_icF (u := 0) (v := 3) rfl xnm0 xnm0 (by decide)) ?_
    refine xg_t (xg_aload (va := (2, 27)) rfl rfl) ?_
    refine xg_t (xg_getf (va := (2, 42)) (hF792.get (by decide) (hF15.get (by decide) h27_11)) rfl) ?_
    refine xoC42 (xqc42 hI791 : cp42 (wget w789 42)) (fun f42_793 f42_795 f42_797 f42_799 f42_801 h42_803 hb794 hb796 hb798 hb800 hb802 hb804 => ?_)
    refine xg_t (xg_getf (va := (0, f42_795)) h42_803 rfl) ?_
    refine xg_t (xg_const) ?_
    by_cases hc805 : f42_795 = 2
    · refine xg_t (xg_icT (u := f42_795) (v := 2) rfl xnm0 xnm0 (xj_eqT hc805)) ?_
      refine xg_t (xg_blq rfl) ?_
      refine xg_t (xg_aload (va := (2, 27)) rfl rfl) ?_
      refine xg_t (xg_getf (va := (2, 39)) (hF792.get (by decide) (hF15.get (by decide) h27_11)) rfl) ?_
      refine xg_t (xg_iload (va := (0, 0)) rfl rfl) ?_
      refine xg_t (xg_aload (va := (2, 27)) rfl rfl) ?_
      refine xg_t (xg_getf (va := (2, 42)) (hF792.get (by decide) (hF15.get (by decide) h27_11)) rfl) ?_
      refine xg_t (xg_getf (va := (0, f42_801)) h42_803 rfl) ?_
      refine xoI (xqc39 hI791 : cpI 3 18 4294967295 (wget w789 39)) (fun g39_806 h39_807 hb808 => ?_)
      refine xg_iastK (n := 0) (u := f42_801) h39_807 xnm0 xnm0 rfl (by first | decide | omega) (fun w809 hr810 hb811 => ?_)
      refine xg_t (xg_aload (va := (2, 27)) rfl rfl) ?_
      refine xg_t (xg_getf (va := (2, 40)) (hb811.get (by decide) (hF792.get (by decide) (hF15.get (by decide) h27_11))) rfl) ?_
      refine xg_t (xg_iload (va := (0, 0)) rfl rfl) ?_
      refine xg_t (xg_aload (va := (2, 27)) rfl rfl) ?_
      refine xg_t (xg_getf (va := (2, 42)) (hb811.get (by decide) (hF792.get (by decide) (hF15.get (by decide) h27_11))) rfl) ?_
      refine xg_t (xg_getf (va := (0, f42_797)) (hb811.get (by decide) h42_803) rfl) ?_
      refine xoI (xqc40 hI791 : cpI 3 19 4294967295 (wget w789 40)) (fun g40_812 h40_813 hb814 => ?_)
      refine xg_iastK (n := 0) (u := f42_797) (h40_813.but hb811 (by decide)) xnm0 xnm0 rfl (by first | decide | omega) (fun w815 hr816 hb817 => ?_)
      refine xg_t (xg_aload (va := (2, 27)) rfl rfl) ?_
      refine xg_t (xg_getf (va := (2, 42)) (hb817.get (by decide) (hb811.get (by decide) (hF792.get (by decide) (hF15.get (by decide) h27_11)))) rfl) ?_
      refine xg_cVv mX8_advance (vs := []) (rest := []) (cn1 := 0) (sl1 := 0) rfl (tkAdvance42 (xInv.up (S := [39, 40]) hI791 ((xFr.of (S := [39, 40]) hb811 (by decide)).tr (xFr.of (S := [39, 40]) hb817 (by decide))) (List.forall_mem_cons.mpr ⟨xqu39 (show cpI 3 18 4294967295 (wget w815 39) from ⟨_, (hr810.but hb817 (by decide)), xrb (by omega) (hb808)⟩), List.forall_mem_cons.mpr ⟨xqu40 (show cpI 3 19 4294967295 (wget w815 40) from ⟨_, hr816, xrb (by omega) (hb814)⟩), fun _ h => absurd h List.not_mem_nil⟩⟩))) rfl (hb817.get (by decide) (hb811.get (by decide) h42_803)) rfl rfl rfl rfl rfl rfl (fun w818 hq819 => ?_)
      obtain ⟨hI820, hF821⟩ := hq819
      refine xg_t (xg_iinc (u := 0) (z := 1) (l1 := [(2, (0, f42_781)), (1, (0, 6)), (0, (2, 27))]) rfl rfl (by decide) rfl) ?_
      refine xg_t (xg_goto) ?_
      refine xg_t (xg_blq rfl) ?_
      refine xg_t (xg_iload (va := (0, 1)) rfl rfl) ?_
      refine xg_t (xg_gets) ?_
      refine xg_t (xg_iload (va := (0, 6)) rfl rfl) ?_
      refine xg_t (xg_ald8L (n := 6) (u := 2) xnm0 rfl rfl) ?_
      refine xg_t (xg_icF (u := 1) (v := 2) rfl xnm0 xnm0 (by decide)) ?_
      refine xg_t (xg_iload (va := (0, 1)) rfl rfl) ?_
      refine xg_t (xg_const) ?_
      refine xg_t (xg_icF (u := 1) (v := 3) rfl xnm0 xnm0 (by decide)) ?_
      refine xg_t (xg_aload (va := (2, 27)) rfl rfl) ?_
      refine xg_t (xg_getf (va := (2, 42)) (hF821.get (by decide) (hb817.get (by decide) (hb811.get (by decide) (hF792.get (by decide) (hF15.get (by decide) h27_11))))) rfl) ?_
      refine xoC42 (xqc42 hI820 : cp42 (wget w818 42)) (fun f42_822 f42_824 f42_826 f42_828 f42_830 h42_832 hb823 hb825 hb827 hb829 hb831 hb833 => ?_)
      refine xg_t (xg_getf (va := (0, f42_824)) h42_832 rfl) ?_
      refine xg_t (xg_const) ?_
      by_cases hc834 : f42_824 = 2
      · refine xg_t (xg_icT (u := f42_824) (v := 2) rfl xnm0 xnm0 (xj_eqT hc834)) ?_
        refine xg_t (xg_blq rfl) ?_
        refine xg_t (xg_aload (va := (2, 27)) rfl rfl) ?_
        refine xg_t (xg_getf (va := (2, 39)) (hF821.get (by decide) (hb817.get (by decide) (hb811.get (by decide) (hF792.get (by decide) (hF15.get (by decide) h27_11))))) rfl) ?_
        refine xg_t (xg_iload (va := (0, 1)) rfl rfl) ?_
        refine xg_t (xg_aload (va := (2, 27)) rfl rfl) ?_
        refine xg_t (xg_getf (va := (2, 42)) (hF821.get (by decide) (hb817.get (by decide) (hb811.get (by decide) (hF792.get (by decide) (hF15.get (by decide) h27_11))))) rfl) ?_
        refine xg_t (xg_getf (va := (0, f42_830)) h42_832 rfl) ?_
        refine xg_iastK (n := 1) (u := f42_830) ((hr810.but hb817 (by decide)).fr hF821 (by decide)) xnm0 xnm0 rfl (by first | decide | omega) (fun w835 hr836 hb837 => ?_)
        refine xg_t (xg_aload (va := (2, 27)) rfl rfl) ?_
        refine xg_t (xg_getf (va := (2, 40)) (hb837.get (by decide) (hF821.get (by decide) (hb817.get (by decide) (hb811.get (by decide) (hF792.get (by decide) (hF15.get (by decide) h27_11)))))) rfl) ?_
        refine xg_t (xg_iload (va := (0, 1)) rfl rfl) ?_
        refine xg_t (xg_aload (va := (2, 27)) rfl rfl) ?_
        refine xg_t (xg_getf (va := (2, 42)) (hb837.get (by decide) (hF821.get (by decide) (hb817.get (by decide) (hb811.get (by decide) (hF792.get (by decide) (hF15.get (by decide) h27_11)))))) rfl) ?_
        refine xg_t (xg_getf (va := (0, f42_826)) (hb837.get (by decide) h42_832) rfl) ?_
        refine xg_iastK (n := 1) (u := f42_826) ((hr816.fr hF821 (by decide)).but hb837 (by decide)) xnm0 xnm0 rfl (by first | decide | omega) (fun w838 hr839 hb840 => ?_)
        refine xg_t (xg_aload (va := (2, 27)) rfl rfl) ?_
        refine xg_t (xg_getf (va := (2, 42)) (hb840.get (by decide) (hb837.get (by decide) (hF821.get (by decide) (hb817.get (by decide) (hb811.get (by decide) (hF792.get (by decide) (hF15.get (by decide) h27_11))))))) rfl) ?_
        refine xg_cVv mX8_advance (vs := []) (rest := []) (cn1 := 0) (sl1 := 0) rfl (tkAdvance42 (xInv.up (S := [39, 40]) hI820 ((xFr.of (S := [39, 40]) hb837 (by decide)).tr (xFr.of (S := [39, 40]) hb840 (by decide))) (List.forall_mem_cons.mpr ⟨xqu39 (show cpI 3 18 4294967295 (wget w838 39) from ⟨_, (hr836.but hb840 (by decide)), xrb (by omega) (xrb (by omega) (hb808))⟩), List.forall_mem_cons.mpr ⟨xqu40 (show cpI 3 19 4294967295 (wget w838 40) from ⟨_, hr839, xrb (by omega) (xrb (by omega) (hb814))⟩), fun _ h => absurd h List.not_mem_nil⟩⟩))) rfl (hb840.get (by decide) (hb837.get (by decide) h42_832)) rfl rfl rfl rfl rfl rfl (fun w841 hq842 => ?_)
        obtain ⟨hI843, hF844⟩ := hq842
        refine xg_t (xg_iinc (u := 1) (z := 2) (l1 := [(2, (0, f42_781)), (1, (0, 6)), (0, (2, 27))]) rfl rfl (by decide) rfl) ?_
        refine xg_t (xg_goto) ?_
        refine xg_t (xg_blq rfl) ?_
        refine xg_t (xg_iload (va := (0, 2)) rfl rfl) ?_
        refine xg_t (xg_gets) ?_
        refine xg_t (xg_iload (va := (0, 6)) rfl rfl) ?_
        refine xg_t (xg_ald8L (n := 6) (u := 2) xnm0 rfl rfl) ?_
        refine xg_t (xg_icT (u := 2) (v := 2) rfl xnm0 xnm0 (by decide)) ?_
        refine xg_t (xg_blq rfl) ?_
        refine xg_t (xg_iload (va := (0, 6)) rfl rfl) ?_
        refine xg_t (xg_ifT (u := 6) rfl xnm0 (by decide)) ?_
        refine xg_t (xg_blq rfl) ?_
        refine xg_t (xg_aload (va := (2, 27)) rfl rfl) ?_
        refine xg_t (xg_getf (va := (2, 42)) (hF844.get (by decide) (hb840.get (by decide) (hb837.get (by decide) (hF821.get (by decide) (hb817.get (by decide) (hb811.get (by decide) (hF792.get (by decide) (hF15.get (by decide) h27_11)))))))) rfl) ?_
        refine xg_t (xg_bip) ?_
        refine xoC42 (xqc42 hI843 : cp42 (wget w841 42)) (fun f42_845 f42_847 f42_849 f42_851 f42_853 h42_855 hb846 hb848 hb850 hb852 hb854 hb856 => ?_)
        refine xg_cVi mX8_isSign (vs := [(0, 59)]) (rest := []) (cn1 := 0) (sl1 := 0) rfl (tkIsSign42 (hI843) (by omega)) rfl h42_855 rfl rfl rfl rfl rfl rfl (fun n861 w857 hq858 => ?_)
        obtain ⟨hn862, hI859, hF860⟩ := hq858
        by_cases hc863 : n861 = 0
        · refine xg_t (xg_ifF (u := n861) rfl xnm0 (xj_neF hc863)) ?_
          refine xg_t (xg_const) ?_
          exact xg_e ⟨0, w857, ⟨rfl, rfl⟩, ⟨by omega, _, _, _, _, (hF860.get (by decide) (hF844.get (by decide) (hb840.get (by decide) (hb837.get (by decide) (hF821.get (by decide) (hb817.get (by decide) (hb811.get (by decide) (hF792.get (by decide) (hF15.get (by decide) hc0)))))))))⟩, hI859, (((((((hF15.up (by decide)).tr (hF792.up (by decide))).tr ((xFr.of (S := [27, 28, 29, 30, 31, 32, 33, 34, 35, 36, 37, 38, 39, 40, 41, 42]) hb811 (by decide)).tr (xFr.of (S := [27, 28, 29, 30, 31, 32, 33, 34, 35, 36, 37, 38, 39, 40, 41, 42]) hb817 (by decide)))).tr (hF821.up (by decide))).tr ((xFr.of (S := [27, 28, 29, 30, 31, 32, 33, 34, 35, 36, 37, 38, 39, 40, 41, 42]) hb837 (by decide)).tr (xFr.of (S := [27, 28, 29, 30, 31, 32, 33, 34, 35, 36, 37, 38, 39, 40, 41, 42]) hb840 (by decide)))).tr (hF844.up (by decide))).tr (hF860.up (by decide)))⟩
        · refine xg_t (xg_ifT (u := n861) rfl xnm0 (xj_neT hc863)) ?_
          refine xg_t (xg_blq rfl) ?_
          refine xg_t (xg_aload (va := (2, 27)) rfl rfl) ?_
          refine xg_t (xg_getf (va := (2, 42)) (hF860.get (by decide) (hF844.get (by decide) (hb840.get (by decide) (hb837.get (by decide) (hF821.get (by decide) (hb817.get (by decide) (hb811.get (by decide) (hF792.get (by decide) (hF15.get (by decide) h27_11))))))))) rfl) ?_
          refine xg_cVv mX8_advance (vs := []) (rest := []) (cn1 := 0) (sl1 := 0) rfl (tkAdvance42 (hI859)) rfl (hF860.get (by decide) h42_855) rfl rfl rfl rfl rfl rfl (fun w864 hq865 => ?_)
          obtain ⟨hI866, hF867⟩ := hq865
          refine xg_t (xg_aload (va := (2, 27)) rfl rfl) ?_
          refine xg_t (xg_getf (va := (0, f27_7)) (hF867.get (by decide) (hF860.get (by decide) (hF844.get (by decide) (hb840.get (by decide) (hb837.get (by decide) (hF821.get (by decide) (hb817.get (by decide) (hb811.get (by decide) (hF792.get (by decide) (hF15.get (by decide) h27_11)))))))))) rfl) ?_
          by_cases hc868 : f27_7 = 0
          · refine xg_t (xg_ifF (u := f27_7) rfl xnm0 (xj_neF hc868)) ?_
            refine xg_t (xg_aload (va := (2, 27)) rfl rfl) ?_
            refine xg_t (xg_iload (va := (0, 6)) rfl rfl) ?_
            refine xg_t (xg_iload (va := (0, f42_781)) rfl rfl) ?_
            refine xg_cVi mX2_isFine (vs := [(0, 6), (0, f42_781)]) (rest := []) (cn1 := 0) (sl1 := 0) rfl (ftFine6 (hI866) (by omega)) rfl (hF867.get (by decide) (hF860.get (by decide) (hF844.get (by decide) (hb840.get (by decide) (hb837.get (by decide) (hF821.get (by decide) (hb817.get (by decide) (hb811.get (by decide) (hF792.get (by decide) (hF15.get (by decide) h27_11)))))))))) rfl rfl rfl rfl rfl rfl (fun n873 w869 hq870 => ?_)
            obtain ⟨hn874, hI871, hF872⟩ := hq870
            by_cases hc875 : n873 = 0
            · refine xg_t (xg_ifT (u := n873) rfl xnm0 (xj_eqT hc875)) ?_
              refine xg_t (xg_blq rfl) ?_
              refine xg_t (xg_const) ?_
              exact xg_e ⟨1, w869, ⟨rfl, rfl⟩, ⟨by omega, _, _, _, _, (hF872.get (by decide) (hF867.get (by decide) (hF860.get (by decide) (hF844.get (by decide) (hb840.get (by decide) (hb837.get (by decide) (hF821.get (by decide) (hb817.get (by decide) (hb811.get (by decide) (hF792.get (by decide) (hF15.get (by decide) hc0)))))))))))⟩, hI871, (((((((((hF15.up (by decide)).tr (hF792.up (by decide))).tr ((xFr.of (S := [27, 28, 29, 30, 31, 32, 33, 34, 35, 36, 37, 38, 39, 40, 41, 42]) hb811 (by decide)).tr (xFr.of (S := [27, 28, 29, 30, 31, 32, 33, 34, 35, 36, 37, 38, 39, 40, 41, 42]) hb817 (by decide)))).tr (hF821.up (by decide))).tr ((xFr.of (S := [27, 28, 29, 30, 31, 32, 33, 34, 35, 36, 37, 38, 39, 40, 41, 42]) hb837 (by decide)).tr (xFr.of (S := [27, 28, 29, 30, 31, 32, 33, 34, 35, 36, 37, 38, 39, 40, 41, 42]) hb840 (by decide)))).tr (hF844.up (by decide))).tr (hF860.up (by decide))).tr (hF867.up (by decide))).tr (hF872.up (by decide)))⟩
            · refine xg_t (xg_ifF (u := n873) rfl xnm0 (xj_eqF hc875)) ?_
              refine xg_t (xg_aload (va := (2, 27)) rfl rfl) ?_
              refine xg_t (xg_iload (va := (0, 6)) rfl rfl) ?_
              refine xg_t (xg_iload (va := (0, f42_781)) rfl rfl) ?_
              obtain ⟨-, nf876, hz877, hz878, hz879, hz880⟩ := hn874.resolve_left (by omega)
              refine xoC27 (xqc27 hI871 : cp27 (wget w869 27)) (fun f27_881 f27_883 f27_885 f27_887 f27_889 h27_891 hb882 hb884 hb886 hb888 hb890 => ?_)
              refine xg_cVv mX2_take (vs := [(0, 6), (0, f42_781)]) (rest := []) (cn1 := 0) (sl1 := 0) rfl (ftTake6 (hI871) (by omega) (hF872.get (by decide) (hF867.get (by decide) (hF860.get (by decide) (hF844.get (by decide) (hb840.get (by decide) (hb837.get (by decide) (hF821.get (by decide) (hb817.get (by decide) (hb811.get (by decide) (hF792.get (by decide) (hF15.get (by decide) hc0))))))))))) (by omega) (by omega) (by omega) (by omega) (by omega) hz877 hz878 hz879 hz880) rfl h27_891 rfl rfl rfl rfl rfl rfl (fun w892 hq893 => ?_)
              obtain ⟨hI894, hF895, hx896⟩ := hq893
              obtain ⟨a897, b898, hc899, hb900, hb901⟩ := hx896
              refine xg_t (xg_blq rfl) ?_
              refine xg_t (xg_const) ?_
              exact xg_e ⟨1, w892, ⟨rfl, rfl⟩, ⟨by omega, _, _, _, _, hc899⟩, hI894, ((((((((((hF15.up (by decide)).tr (hF792.up (by decide))).tr ((xFr.of (S := [27, 28, 29, 30, 31, 32, 33, 34, 35, 36, 37, 38, 39, 40, 41, 42]) hb811 (by decide)).tr (xFr.of (S := [27, 28, 29, 30, 31, 32, 33, 34, 35, 36, 37, 38, 39, 40, 41, 42]) hb817 (by decide)))).tr (hF821.up (by decide))).tr ((xFr.of (S := [27, 28, 29, 30, 31, 32, 33, 34, 35, 36, 37, 38, 39, 40, 41, 42]) hb837 (by decide)).tr (xFr.of (S := [27, 28, 29, 30, 31, 32, 33, 34, 35, 36, 37, 38, 39, 40, 41, 42]) hb840 (by decide)))).tr (hF844.up (by decide))).tr (hF860.up (by decide))).tr (hF867.up (by decide))).tr (hF872.up (by decide))).tr (hF895.up (by decide)))⟩
          · refine xg_t (xg_ifT (u := f27_7) rfl xnm0 (xj_neT hc868)) ?_
            refine xg_t (xg_blq rfl) ?_
            refine xg_t (xg_const) ?_
            exact xg_e ⟨1, w864, ⟨rfl, rfl⟩, ⟨by omega, _, _, _, _, (hF867.get (by decide) (hF860.get (by decide) (hF844.get (by decide) (hb840.get (by decide) (hb837.get (by decide) (hF821.get (by decide) (hb817.get (by decide) (hb811.get (by decide) (hF792.get (by decide) (hF15.get (by decide) hc0))))))))))⟩, hI866, ((((((((hF15.up (by decide)).tr (hF792.up (by decide))).tr ((xFr.of (S := [27, 28, 29, 30, 31, 32, 33, 34, 35, 36, 37, 38, 39, 40, 41, 42]) hb811 (by decide)).tr (xFr.of (S := [27, 28, 29, 30, 31, 32, 33, 34, 35, 36, 37, 38, 39, 40, 41, 42]) hb817 (by decide)))).tr (hF821.up (by decide))).tr ((xFr.of (S := [27, 28, 29, 30, 31, 32, 33, 34, 35, 36, 37, 38, 39, 40, 41, 42]) hb837 (by decide)).tr (xFr.of (S := [27, 28, 29, 30, 31, 32, 33, 34, 35, 36, 37, 38, 39, 40, 41, 42]) hb840 (by decide)))).tr (hF844.up (by decide))).tr (hF860.up (by decide))).tr (hF867.up (by decide)))⟩
      · refine xg_t (xg_icF (u := f42_824) (v := 2) rfl xnm0 xnm0 (xj_eqF hc834)) ?_
        refine xg_t (xg_const) ?_
        exact xg_e ⟨0, w818, ⟨rfl, rfl⟩, ⟨by omega, _, _, _, _, (hF821.get (by decide) (hb817.get (by decide) (hb811.get (by decide) (hF792.get (by decide) (hF15.get (by decide) hc0)))))⟩, hI820, ((((hF15.up (by decide)).tr (hF792.up (by decide))).tr ((xFr.of (S := [27, 28, 29, 30, 31, 32, 33, 34, 35, 36, 37, 38, 39, 40, 41, 42]) hb811 (by decide)).tr (xFr.of (S := [27, 28, 29, 30, 31, 32, 33, 34, 35, 36, 37, 38, 39, 40, 41, 42]) hb817 (by decide)))).tr (hF821.up (by decide)))⟩
    · refine xg_t (xg_icF (u := f42_795) (v := 2) rfl xnm0 xnm0 (xj_eqF hc805)) ?_
      refine xg_t (xg_const) ?_
      exact xg_e ⟨0, w789, ⟨rfl, rfl⟩, ⟨by omega, _, _, _, _, (hF792.get (by decide) (hF15.get (by decide) hc0))⟩, hI791, ((hF15.up (by decide)).tr (hF792.up (by decide)))⟩
  · refine xg_t (xg_istore (l1 := [(0, (2, 27))]) rfl rfl rfl) ?_
    refine xg_t (xg_aload (va := (2, 27)) rfl rfl) ?_
    refine xg_t (xg_getf (va := (2, 42)) (hF15.get (by decide) h27_11) rfl) ?_
    refine xoC42 (xqc42 hI14 : cp42 (wget w12 42)) (fun f42_902 f42_904 f42_906 f42_908 f42_910 h42_912 hb903 hb905 hb907 hb909 hb911 hb913 => ?_)
    refine xg_t (xg_getf (va := (0, f42_906)) h42_912 rfl) ?_
    refine xg_t (xg_istore (l1 := [(1, (0, 4294967295)), (0, (2, 27))]) rfl rfl rfl) ?_
    refine xg_t (xg_iload (va := (0, 4294967295)) rfl rfl) ?_
    refine xg_t (xg_const) ?_
    refine xg_t (xg_icF (u := 4294967295) (v := 4294967295) rfl xnm0 xnm0 (by decide)) ?_
    refine xg_t (xg_const) ?_
    exact xg_e ⟨0, w12, ⟨rfl, rfl⟩, ⟨by omega, _, _, _, _, (hF15.get (by decide) hc0)⟩, hI14, (hF15.up (by decide))⟩
end XWE
