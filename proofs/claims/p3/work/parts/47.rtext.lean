section
/-! the texts of rules; film, rules -/
section XRT
variable {d : Nat} {w : List (List xE)} {bd : List (Nat × Nat)} {fc : List (Nat × Nat × Bool)} {rr : Nat × Nat}
theorem rtMany (hI : xInv w)  : xPq (d + 1) mX6_noteTooMany [(2, 43)] w bd fc rr [] (fun w' => xInv w' ∧ xFr [43] w w') := by
  refine xPq.of ?_
  show xTo (d + 1) mX6_noteTooMany (0, [], [(0, (2, 43))], [], (w, bd, fc, 0, 0, rr)) (fun φ => ∃ w', xEnd 0 [] (w', bd, fc, 0, 0, rr) φ ∧ xInv w' ∧ xFr [43] w w')
  refine xoC43 (xqc43 hI : cp43 (wget w 43)) (fun f43_1 f43_3 h43_5 hb2 hb4 => ?_)
  refine xoC48 (xqc48 hI : cp48 (wget w 48)) (fun f48_6 f48_8 f48_10 f48_12 f48_14 h48_16 hb7 hb9 hb11 hb13 hb15 hb17 => ?_)
  refine xg_t (xg_blq rfl) ?_
  refine xg_t (xg_aload (va := (2, 43)) rfl rfl) ?_
  refine xg_t (xg_getf (va := (0, f43_1)) h43_5 rfl) ?_
  by_cases hc18 : f43_1 = 0
  · refine xg_t (xg_ifF (u := f43_1) rfl xnm0 (xj_neF hc18)) ?_
    refine xg_t (xg_aload (va := (2, 43)) rfl rfl) ?_
    refine xg_t (xg_const) ?_
    refine xg_putI (fl1 := [(2, 1), (2, 48), (2, 44), (2, 46), (0, 3), (0, f43_3)]) h43_5 rfl rfl rfl (fun w19 hk20 hb21 => ?_)
    refine xg_t (xg_aload (va := (2, 43)) rfl rfl) ?_
    refine xg_t (xg_aload (va := (2, 43)) rfl rfl) ?_
    refine xg_t (xg_getf (va := (2, 48)) hk20 rfl) ?_
    refine xg_t (xg_getf (va := (0, f48_10)) (hb21.get (by decide) h48_16) rfl) ?_
    refine xg_putI (fl1 := [(2, 1), (2, 48), (2, 44), (2, 46), (0, 3), (0, f48_10)]) hk20 rfl rfl rfl (fun w22 hk23 hb24 => ?_)
    refine xg_t (xg_blq rfl) ?_
    exact xg_e ⟨w22, ⟨rfl, rfl⟩, xInv.up (S := [43]) hI ((xFr.of (S := [43]) hb21 (by decide)).tr (xFr.of (S := [43]) hb24 (by decide))) (List.forall_mem_cons.mpr ⟨xqu43 (show cp43 (wget w22 43) from ⟨3, f48_10, hk23, by decide, by omega⟩), fun _ h => absurd h List.not_mem_nil⟩), ((xFr.of (S := [43]) hb21 (by decide)).tr (xFr.of (S := [43]) hb24 (by decide)))⟩
  · refine xg_t (xg_ifT (u := f43_1) rfl xnm0 (xj_neT hc18)) ?_
    refine xg_t (xg_blq rfl) ?_
    exact xg_e ⟨w, ⟨rfl, rfl⟩, hI, xFr.rf⟩
theorem rtVerb (hI : xInv w)  : xPi (d + 5) mX6_verbOfWord [(2, 43)] w bd fc rr (fun n w' => (n ≤ 4294967295) ∧ xInv w' ∧ xFr [] w w') := by
  refine xPi.of ?_
  show xTo (d + 5) mX6_verbOfWord (0, [], [(0, (2, 43))], [], (w, bd, fc, 0, 0, rr)) (fun φ => ∃ n w', xEnd 1 [(0, n)] (w', bd, fc, 0, 0, rr) φ ∧ (n ≤ 4294967295) ∧ xInv w' ∧ xFr [] w w')
  refine xoC43 (xqc43 hI : cp43 (wget w 43)) (fun f43_1 f43_3 h43_5 hb2 hb4 => ?_)
  refine xg_t (xg_blq rfl) ?_
  refine xg_t (xg_aload (va := (2, 43)) rfl rfl) ?_
  refine xg_t (xg_getf (va := (2, 48)) h43_5 rfl) ?_
  refine xg_t (xg_ldcS) ?_
  refine xoC48 (xqc48 hI : cp48 (wget w 48)) (fun f48_6 f48_8 f48_10 f48_12 f48_14 h48_16 hb7 hb9 hb11 hb13 hb15 hb17 => ?_)
  refine xg_cVi mX8_isWord (vs := [(8, 123)]) (rest := []) (cn1 := 0) (sl1 := 0) rfl (tkIsWord48 (hI) (i := 23) rfl) rfl h48_16 rfl rfl rfl rfl rfl rfl (fun n22 w18 hq19 => ?_)
  obtain ⟨hn23, hI20, hF21⟩ := hq19
  by_cases hc24 : n22 = 0
  · refine xg_t (xg_ifT (u := n22) rfl xnm0 (xj_eqT hc24)) ?_
    refine xg_t (xg_blq rfl) ?_
    refine xg_t (xg_aload (va := (2, 43)) rfl rfl) ?_
    refine xg_t (xg_getf (va := (2, 48)) (hF21.get (by decide) h43_5) rfl) ?_
    refine xg_t (xg_ldcS) ?_
    refine xg_cVi mX8_isWord (vs := [(8, 124)]) (rest := []) (cn1 := 0) (sl1 := 0) rfl (tkIsWord48 (hI20) (i := 24) rfl) rfl (hF21.get (by decide) h48_16) rfl rfl rfl rfl rfl rfl (fun n29 w25 hq26 => ?_)
    obtain ⟨hn30, hI27, hF28⟩ := hq26
    by_cases hc31 : n29 = 0
    · refine xg_t (xg_ifT (u := n29) rfl xnm0 (xj_eqT hc31)) ?_
      refine xg_t (xg_blq rfl) ?_
      refine xg_t (xg_aload (va := (2, 43)) rfl rfl) ?_
      refine xg_t (xg_getf (va := (2, 48)) (hF28.get (by decide) (hF21.get (by decide) h43_5)) rfl) ?_
      refine xg_t (xg_ldcS) ?_
      refine xg_cVi mX8_isWord (vs := [(8, 125)]) (rest := []) (cn1 := 0) (sl1 := 0) rfl (tkIsWord48 (hI27) (i := 25) rfl) rfl (hF28.get (by decide) (hF21.get (by decide) h48_16)) rfl rfl rfl rfl rfl rfl (fun n36 w32 hq33 => ?_)
      obtain ⟨hn37, hI34, hF35⟩ := hq33
      by_cases hc38 : n36 = 0
      · refine xg_t (xg_ifT (u := n36) rfl xnm0 (xj_eqT hc38)) ?_
        refine xg_t (xg_blq rfl) ?_
        refine xg_t (xg_const) ?_
        refine xg_t (xg_blq rfl) ?_
        exact xg_e ⟨4294967295, w32, ⟨rfl, rfl⟩, by first | decide | omega, hI34, (((hF21.up (by decide)).tr (hF28.up (by decide))).tr (hF35.up (by decide)))⟩
      · refine xg_t (xg_ifF (u := n36) rfl xnm0 (xj_eqF hc38)) ?_
        refine xg_t (xg_const) ?_
        refine xg_t (xg_goto) ?_
        refine xg_t (xg_blq rfl) ?_
        exact xg_e ⟨2, w32, ⟨rfl, rfl⟩, by first | decide | omega, hI34, (((hF21.up (by decide)).tr (hF28.up (by decide))).tr (hF35.up (by decide)))⟩
    · refine xg_t (xg_ifF (u := n29) rfl xnm0 (xj_eqF hc31)) ?_
      refine xg_t (xg_const) ?_
      exact xg_e ⟨1, w25, ⟨rfl, rfl⟩, by first | decide | omega, hI27, ((hF21.up (by decide)).tr (hF28.up (by decide)))⟩
  · refine xg_t (xg_ifF (u := n22) rfl xnm0 (xj_eqF hc24)) ?_
    refine xg_t (xg_const) ?_
    exact xg_e ⟨0, w18, ⟨rfl, rfl⟩, by first | decide | omega, hI20, (hF21.up (by decide))⟩
theorem rtMeasure (hI : xInv w)  : xPi (d + 5) mX6_measureOfWord [(2, 43)] w bd fc rr (fun n w' => (n ≤ 4294967295) ∧ xInv w' ∧ xFr [] w w') := by
  refine xPi.of ?_
  show xTo (d + 5) mX6_measureOfWord (0, [], [(0, (2, 43))], [], (w, bd, fc, 0, 0, rr)) (fun φ => ∃ n w', xEnd 1 [(0, n)] (w', bd, fc, 0, 0, rr) φ ∧ (n ≤ 4294967295) ∧ xInv w' ∧ xFr [] w w')
  refine xoC43 (xqc43 hI : cp43 (wget w 43)) (fun f43_1 f43_3 h43_5 hb2 hb4 => ?_)
  refine xg_t (xg_blq rfl) ?_
  refine xg_t (xg_aload (va := (2, 43)) rfl rfl) ?_
  refine xg_t (xg_getf (va := (2, 48)) h43_5 rfl) ?_
  refine xg_t (xg_ldcS) ?_
  refine xoC48 (xqc48 hI : cp48 (wget w 48)) (fun f48_6 f48_8 f48_10 f48_12 f48_14 h48_16 hb7 hb9 hb11 hb13 hb15 hb17 => ?_)
  refine xg_cVi mX8_isWord (vs := [(8, 109)]) (rest := []) (cn1 := 0) (sl1 := 0) rfl (tkIsWord48 (hI) (i := 9) rfl) rfl h48_16 rfl rfl rfl rfl rfl rfl (fun n22 w18 hq19 => ?_)
  obtain ⟨hn23, hI20, hF21⟩ := hq19
  by_cases hc24 : n22 = 0
  · refine xg_t (xg_ifT (u := n22) rfl xnm0 (xj_eqT hc24)) ?_
    refine xg_t (xg_blq rfl) ?_
    refine xg_t (xg_aload (va := (2, 43)) rfl rfl) ?_
    refine xg_t (xg_getf (va := (2, 48)) (hF21.get (by decide) h43_5) rfl) ?_
    refine xg_t (xg_ldcS) ?_
    refine xg_cVi mX8_isWord (vs := [(8, 110)]) (rest := []) (cn1 := 0) (sl1 := 0) rfl (tkIsWord48 (hI20) (i := 10) rfl) rfl (hF21.get (by decide) h48_16) rfl rfl rfl rfl rfl rfl (fun n29 w25 hq26 => ?_)
    obtain ⟨hn30, hI27, hF28⟩ := hq26
    by_cases hc31 : n29 = 0
    · refine xg_t (xg_ifT (u := n29) rfl xnm0 (xj_eqT hc31)) ?_
      refine xg_t (xg_blq rfl) ?_
      refine xg_t (xg_aload (va := (2, 43)) rfl rfl) ?_
      refine xg_t (xg_getf (va := (2, 48)) (hF28.get (by decide) (hF21.get (by decide) h43_5)) rfl) ?_
      refine xg_t (xg_ldcS) ?_
      refine xg_cVi mX8_isWord (vs := [(8, 111)]) (rest := []) (cn1 := 0) (sl1 := 0) rfl (tkIsWord48 (hI27) (i := 11) rfl) rfl (hF28.get (by decide) (hF21.get (by decide) h48_16)) rfl rfl rfl rfl rfl rfl (fun n36 w32 hq33 => ?_)
      obtain ⟨hn37, hI34, hF35⟩ := hq33
      by_cases hc38 : n36 = 0
      · refine xg_t (xg_ifT (u := n36) rfl xnm0 (xj_eqT hc38)) ?_
        refine xg_t (xg_blq rfl) ?_
        refine xg_t (xg_aload (va := (2, 43)) rfl rfl) ?_
        refine xg_t (xg_getf (va := (2, 48)) (hF35.get (by decide) (hF28.get (by decide) (hF21.get (by decide) h43_5))) rfl) ?_
        refine xg_t (xg_ldcS) ?_
        refine xg_cVi mX8_isWord (vs := [(8, 112)]) (rest := []) (cn1 := 0) (sl1 := 0) rfl (tkIsWord48 (hI34) (i := 12) rfl) rfl (hF35.get (by decide) (hF28.get (by decide) (hF21.get (by decide) h48_16))) rfl rfl rfl rfl rfl rfl (fun n43 w39 hq40 => ?_)
        obtain ⟨hn44, hI41, hF42⟩ := hq40
        by_cases hc45 : n43 = 0
        · refine xg_t (xg_ifT (u := n43) rfl xnm0 (xj_eqT hc45)) ?_
          refine xg_t (xg_blq rfl) ?_
          refine xg_t (xg_aload (va := (2, 43)) rfl rfl) ?_
          refine xg_t (xg_getf (va := (2, 48)) (hF42.get (by decide) (hF35.get (by decide) (hF28.get (by decide) (hF21.get (by decide) h43_5)))) rfl) ?_
          refine xg_t (xg_ldcS) ?_
          refine xg_cVi mX8_isWord (vs := [(8, 113)]) (rest := []) (cn1 := 0) (sl1 := 0) rfl (tkIsWord48 (hI41) (i := 13) rfl) rfl (hF42.get (by decide) (hF35.get (by decide) (hF28.get (by decide) (hF21.get (by decide) h48_16)))) rfl rfl rfl rfl rfl rfl (fun n50 w46 hq47 => ?_)
          obtain ⟨hn51, hI48, hF49⟩ := hq47
          by_cases hc52 : n50 = 0
          · refine xg_t (xg_ifT (u := n50) rfl xnm0 (xj_eqT hc52)) ?_
            refine xg_t (xg_blq rfl) ?_
            refine xg_t (xg_aload (va := (2, 43)) rfl rfl) ?_
            refine xg_t (xg_getf (va := (2, 48)) (hF49.get (by decide) (hF42.get (by decide) (hF35.get (by decide) (hF28.get (by decide) (hF21.get (by decide) h43_5))))) rfl) ?_
            refine xg_t (xg_ldcS) ?_
            refine xg_cVi mX8_isWord (vs := [(8, 114)]) (rest := []) (cn1 := 0) (sl1 := 0) rfl (tkIsWord48 (hI48) (i := 14) rfl) rfl (hF49.get (by decide) (hF42.get (by decide) (hF35.get (by decide) (hF28.get (by decide) (hF21.get (by decide) h48_16))))) rfl rfl rfl rfl rfl rfl (fun n57 w53 hq54 => ?_)
            obtain ⟨hn58, hI55, hF56⟩ := hq54
            by_cases hc59 : n57 = 0
            · refine xg_t (xg_ifT (u := n57) rfl xnm0 (xj_eqT hc59)) ?_
              refine xg_t (xg_blq rfl) ?_
              refine xg_t (xg_aload (va := (2, 43)) rfl rfl) ?_
              refine xg_t (xg_getf (va := (2, 48)) (hF56.get (by decide) (hF49.get (by decide) (hF42.get (by decide) (hF35.get (by decide) (hF28.get (by decide) (hF21.get (by decide) h43_5)))))) rfl) ?_
              refine xg_t (xg_ldcS) ?_
              refine xg_cVi mX8_isWord (vs := [(8, 115)]) (rest := []) (cn1 := 0) (sl1 := 0) rfl (tkIsWord48 (hI55) (i := 15) rfl) rfl (hF56.get (by decide) (hF49.get (by decide) (hF42.get (by decide) (hF35.get (by decide) (hF28.get (by decide) (hF21.get (by decide) h48_16)))))) rfl rfl rfl rfl rfl rfl (fun n64 w60 hq61 => ?_)
              obtain ⟨hn65, hI62, hF63⟩ := hq61
              by_cases hc66 : n64 = 0
              · refine xg_t (xg_ifT (u := n64) rfl xnm0 (xj_eqT hc66)) ?_
                refine xg_t (xg_blq rfl) ?_
                refine xg_t (xg_aload (va := (2, 43)) rfl rfl) ?_
                refine xg_t (xg_getf (va := (2, 48)) (hF63.get (by decide) (hF56.get (by decide) (hF49.get (by decide) (hF42.get (by decide) (hF35.get (by decide) (hF28.get (by decide) (hF21.get (by decide) h43_5))))))) rfl) ?_
                refine xg_t (xg_ldcS) ?_
                refine xg_cVi mX8_isWord (vs := [(8, 116)]) (rest := []) (cn1 := 0) (sl1 := 0) rfl (tkIsWord48 (hI62) (i := 16) rfl) rfl (hF63.get (by decide) (hF56.get (by decide) (hF49.get (by decide) (hF42.get (by decide) (hF35.get (by decide) (hF28.get (by decide) (hF21.get (by decide) h48_16))))))) rfl rfl rfl rfl rfl rfl (fun n71 w67 hq68 => ?_)
                obtain ⟨hn72, hI69, hF70⟩ := hq68
                by_cases hc73 : n71 = 0
                · refine xg_t (xg_ifT (u := n71) rfl xnm0 (xj_eqT hc73)) ?_
                  refine xg_t (xg_blq rfl) ?_
                  refine xg_t (xg_aload (va := (2, 43)) rfl rfl) ?_
                  refine xg_t (xg_getf (va := (2, 48)) (hF70.get (by decide) (hF63.get (by decide) (hF56.get (by decide) (hF49.get (by decide) (hF42.get (by decide) (hF35.get (by decide) (hF28.get (by decide) (hF21.get (by decide) h43_5)))))))) rfl) ?_
                  refine xg_t (xg_ldcS) ?_
                  refine xg_cVi mX8_isWord (vs := [(8, 117)]) (rest := []) (cn1 := 0) (sl1 := 0) rfl (tkIsWord48 (hI69) (i := 17) rfl) rfl (hF70.get (by decide) (hF63.get (by decide) (hF56.get (by decide) (hF49.get (by decide) (hF42.get (by decide) (hF35.get (by decide) (hF28.get (by decide) (hF21.get (by decide) h48_16)))))))) rfl rfl rfl rfl rfl rfl (fun n78 w74 hq75 => ?_)
                  obtain ⟨hn79, hI76, hF77⟩ := hq75
                  by_cases hc80 : n78 = 0
                  · refine xg_t (xg_ifT (u := n78) rfl xnm0 (xj_eqT hc80)) ?_
                    refine xg_t (xg_blq rfl) ?_
                    refine xg_t (xg_aload (va := (2, 43)) rfl rfl) ?_
                    refine xg_t (xg_getf (va := (2, 48)) (hF77.get (by decide) (hF70.get (by decide) (hF63.get (by decide) (hF56.get (by decide) (hF49.get (by decide) (hF42.get (by decide) (hF35.get (by decide) (hF28.get (by decide) (hF21.get (by decide) h43_5))))))))) rfl) ?_
                    refine xg_t (xg_ldcS) ?_
                    refine xg_cVi mX8_isWord (vs := [(8, 118)]) (rest := []) (cn1 := 0) (sl1 := 0) rfl (tkIsWord48 (hI76) (i := 18) rfl) rfl (hF77.get (by decide) (hF70.get (by decide) (hF63.get (by decide) (hF56.get (by decide) (hF49.get (by decide) (hF42.get (by decide) (hF35.get (by decide) (hF28.get (by decide) (hF21.get (by decide) h48_16))))))))) rfl rfl rfl rfl rfl rfl (fun n85 w81 hq82 => ?_)
                    obtain ⟨hn86, hI83, hF84⟩ := hq82
                    by_cases hc87 : n85 = 0
                    · refine xg_t (xg_ifT (u := n85) rfl xnm0 (xj_eqT hc87)) ?_
                      refine xg_t (xg_blq rfl) ?_
                      refine xg_t (xg_aload (va := (2, 43)) rfl rfl) ?_
                      refine xg_t (xg_getf (va := (2, 48)) (hF84.get (by decide) (hF77.get (by decide) (hF70.get (by decide) (hF63.get (by decide) (hF56.get (by decide) (hF49.get (by decide) (hF42.get (by decide) (hF35.get (by decide) (hF28.get (by decide) (hF21.get (by decide) h43_5)))))))))) rfl) ?_
                      refine xg_t (xg_ldcS) ?_
                      refine xg_cVi mX8_isWord (vs := [(8, 119)]) (rest := []) (cn1 := 0) (sl1 := 0) rfl (tkIsWord48 (hI83) (i := 19) rfl) rfl (hF84.get (by decide) (hF77.get (by decide) (hF70.get (by decide) (hF63.get (by decide) (hF56.get (by decide) (hF49.get (by decide) (hF42.get (by decide) (hF35.get (by decide) (hF28.get (by decide) (hF21.get (by decide) h48_16)))))))))) rfl rfl rfl rfl rfl rfl (fun n92 w88 hq89 => ?_)
                      obtain ⟨hn93, hI90, hF91⟩ := hq89
                      by_cases hc94 : n92 = 0
                      · refine xg_t (xg_ifT (u := n92) rfl xnm0 (xj_eqT hc94)) ?_
                        refine xg_t (xg_blq rfl) ?_
                        refine xg_t (xg_const) ?_
                        refine xg_t (xg_blq rfl) ?_
                        exact xg_e ⟨4294967295, w88, ⟨rfl, rfl⟩, by first | decide | omega, hI90, (((((((((((hF21.up (by decide)).tr (hF28.up (by decide))).tr (hF35.up (by decide))).tr (hF42.up (by decide))).tr (hF49.up (by decide))).tr (hF56.up (by decide))).tr (hF63.up (by decide))).tr (hF70.up (by decide))).tr (hF77.up (by decide))).tr (hF84.up (by decide))).tr (hF91.up (by decide)))⟩
                      · refine xg_t (xg_ifF (u := n92) rfl xnm0 (xj_eqF hc94)) ?_
                        refine xg_t (xg_bip) ?_
                        refine xg_t (xg_goto) ?_
                        refine xg_t (xg_blq rfl) ?_
                        exact xg_e ⟨10, w88, ⟨rfl, rfl⟩, by first | decide | omega, hI90, (((((((((((hF21.up (by decide)).tr (hF28.up (by decide))).tr (hF35.up (by decide))).tr (hF42.up (by decide))).tr (hF49.up (by decide))).tr (hF56.up (by decide))).tr (hF63.up (by decide))).tr (hF70.up (by decide))).tr (hF77.up (by decide))).tr (hF84.up (by decide))).tr (hF91.up (by decide)))⟩
                    · refine xg_t (xg_ifF (u := n85) rfl xnm0 (xj_eqF hc87)) ?_
                      refine xg_t (xg_bip) ?_
                      exact xg_e ⟨9, w81, ⟨rfl, rfl⟩, by first | decide | omega, hI83, ((((((((((hF21.up (by decide)).tr (hF28.up (by decide))).tr (hF35.up (by decide))).tr (hF42.up (by decide))).tr (hF49.up (by decide))).tr (hF56.up (by decide))).tr (hF63.up (by decide))).tr (hF70.up (by decide))).tr (hF77.up (by decide))).tr (hF84.up (by decide)))⟩
                  · refine xg_t (xg_ifF (u := n78) rfl xnm0 (xj_eqF hc80)) ?_
                    refine xg_t (xg_bip) ?_
                    exact xg_e ⟨8, w74, ⟨rfl, rfl⟩, by first | decide | omega, hI76, (((((((((hF21.up (by decide)).tr (hF28.up (by decide))).tr (hF35.up (by decide))).tr (hF42.up (by decide))).tr (hF49.up (by decide))).tr (hF56.up (by decide))).tr (hF63.up (by decide))).tr (hF70.up (by decide))).tr (hF77.up (by decide)))⟩
                · refine xg_t (xg_ifF (u := n71) rfl xnm0 (xj_eqF hc73)) ?_
                  refine xg_t (xg_bip) ?_
                  exact xg_e ⟨7, w67, ⟨rfl, rfl⟩, by first | decide | omega, hI69, ((((((((hF21.up (by decide)).tr (hF28.up (by decide))).tr (hF35.up (by decide))).tr (hF42.up (by decide))).tr (hF49.up (by decide))).tr (hF56.up (by decide))).tr (hF63.up (by decide))).tr (hF70.up (by decide)))⟩
              · refine xg_t (xg_ifF (u := n64) rfl xnm0 (xj_eqF hc66)) ?_
                refine xg_t (xg_bip) ?_
                exact xg_e ⟨6, w60, ⟨rfl, rfl⟩, by first | decide | omega, hI62, (((((((hF21.up (by decide)).tr (hF28.up (by decide))).tr (hF35.up (by decide))).tr (hF42.up (by decide))).tr (hF49.up (by decide))).tr (hF56.up (by decide))).tr (hF63.up (by decide)))⟩
            · refine xg_t (xg_ifF (u := n57) rfl xnm0 (xj_eqF hc59)) ?_
              refine xg_t (xg_const) ?_
              exact xg_e ⟨5, w53, ⟨rfl, rfl⟩, by first | decide | omega, hI55, ((((((hF21.up (by decide)).tr (hF28.up (by decide))).tr (hF35.up (by decide))).tr (hF42.up (by decide))).tr (hF49.up (by decide))).tr (hF56.up (by decide)))⟩
          · refine xg_t (xg_ifF (u := n50) rfl xnm0 (xj_eqF hc52)) ?_
            refine xg_t (xg_const) ?_
            exact xg_e ⟨4, w46, ⟨rfl, rfl⟩, by first | decide | omega, hI48, (((((hF21.up (by decide)).tr (hF28.up (by decide))).tr (hF35.up (by decide))).tr (hF42.up (by decide))).tr (hF49.up (by decide)))⟩
        · refine xg_t (xg_ifF (u := n43) rfl xnm0 (xj_eqF hc45)) ?_
          refine xg_t (xg_const) ?_
          exact xg_e ⟨3, w39, ⟨rfl, rfl⟩, by first | decide | omega, hI41, ((((hF21.up (by decide)).tr (hF28.up (by decide))).tr (hF35.up (by decide))).tr (hF42.up (by decide)))⟩
      · refine xg_t (xg_ifF (u := n36) rfl xnm0 (xj_eqF hc38)) ?_
        refine xg_t (xg_const) ?_
        exact xg_e ⟨2, w32, ⟨rfl, rfl⟩, by first | decide | omega, hI34, (((hF21.up (by decide)).tr (hF28.up (by decide))).tr (hF35.up (by decide)))⟩
    · refine xg_t (xg_ifF (u := n29) rfl xnm0 (xj_eqF hc31)) ?_
      refine xg_t (xg_const) ?_
      exact xg_e ⟨1, w25, ⟨rfl, rfl⟩, by first | decide | omega, hI27, ((hF21.up (by decide)).tr (hF28.up (by decide)))⟩
  · refine xg_t (xg_ifF (u := n22) rfl xnm0 (xj_eqF hc24)) ?_
    refine xg_t (xg_const) ?_
    exact xg_e ⟨0, w18, ⟨rfl, rfl⟩, by first | decide | omega, hI20, (hF21.up (by decide))⟩
theorem rtTest {li : Nat} (hI : xInv w) (hli : li ≤ 4294967295) : xPi (d + 6) mX6_readTest [(2, 43), (0, li)] w bd fc rr (fun n w' => (n ≤ 1) ∧ xInv w' ∧ xFr [46, 47, 48] w w') := by
  refine xPi.of ?_
  show xTo (d + 6) mX6_readTest (0, [], [(0, (2, 43)), (1, (0, li))], [], (w, bd, fc, 0, 0, rr)) (fun φ => ∃ n w', xEnd 4 [(0, n)] (w', bd, fc, 0, 0, rr) φ ∧ (n ≤ 1) ∧ xInv w' ∧ xFr [46, 47, 48] w w')
  refine xoC43 (xqc43 hI : cp43 (wget w 43)) (fun f43_1 f43_3 h43_5 hb2 hb4 => ?_)
  obtain ⟨f46_6, h46_8, hb7⟩ := (xqc46 hI : cp46 (wget w 46))
  refine xoI (xqc47 hI : cpI 320 22 4294967295 (wget w 47)) (fun g47_9 h47_10 hb11 => ?_)
  refine xg_t (xg_blq rfl) ?_
  refine xg_t (xg_aload (va := (2, 43)) rfl rfl) ?_
  refine xg_t (xg_getf (va := (2, 48)) h43_5 rfl) ?_
  refine xg_t (xg_ldcS) ?_
  refine xoC48 (xqc48 hI : cp48 (wget w 48)) (fun f48_12 f48_14 f48_16 f48_18 f48_20 h48_22 hb13 hb15 hb17 hb19 hb21 hb23 => ?_)
  refine xg_cVi mX8_isWord (vs := [(8, 121)]) (rest := []) (cn1 := 0) (sl1 := 0) rfl (tkIsWord48 (hI) (i := 21) rfl) rfl h48_22 rfl rfl rfl rfl rfl rfl (fun n28 w24 hq25 => ?_)
  obtain ⟨hn29, hI26, hF27⟩ := hq25
  refine xg_t (xg_istore (l1 := [(0, (2, 43)), (1, (0, li))]) rfl rfl rfl) ?_
  refine xg_t (xg_iload (va := (0, n28)) rfl rfl) ?_
  have jn30 : ∀ (no : Nat) (w31 : List (List xE)), no ≤ 1 → xInv w31 → xFr [46, 47, 48] w w31 → xTo (d + 6) mX6_readTest (21, [], [(0, (2, 43)), (1, (0, li)), (2, (0, no))], [], (w31, bd, fc, 0, 0, rr)) (fun φ => ∃ n w', xEnd 4 [(0, n)] (w', bd, fc, 0, 0, rr) φ ∧ (n ≤ 1) ∧ xInv w' ∧ xFr [46, 47, 48] w w') := by
    intro no w31 hn34 hI32 hF33
    refine xg_t (xg_blq rfl) ?_
    refine xg_t (xg_aload (va := (2, 43)) rfl rfl) ?_
    refine xg_cVi mX6_measureOfWord (vs := []) (rest := []) (cn1 := 0) (sl1 := 0) rfl (rtMeasure (hI32)) rfl (hF33.get (by decide) h43_5) rfl rfl rfl rfl rfl rfl (fun n39 w35 hq36 => ?_)
    obtain ⟨hn40, hI37, hF38⟩ := hq36
    refine xg_t (xg_istore (l1 := [(0, (2, 43)), (1, (0, li)), (2, (0, no))]) rfl rfl rfl) ?_
    refine xg_t (xg_iload (va := (0, n39)) rfl rfl) ?_
    refine xg_t (xg_const) ?_
    by_cases hc41 : n39 = 4294967295
    · refine xg_t (xg_icF (u := n39) (v := 4294967295) rfl xnm0 xnm0 (xj_neF hc41)) ?_
      refine xg_t (xg_const) ?_
      exact xg_e ⟨0, w35, ⟨rfl, rfl⟩, by first | decide | omega, hI37, (hF33.tr (hF38.up (by decide)))⟩
    · refine xg_t (xg_icT (u := n39) (v := 4294967295) rfl xnm0 xnm0 (xj_neT hc41)) ?_
      refine xg_t (xg_blq rfl) ?_
      refine xg_t (xg_aload (va := (2, 43)) rfl rfl) ?_
      refine xg_t (xg_getf (va := (2, 48)) (hF38.get (by decide) (hF33.get (by decide) h43_5)) rfl) ?_
      refine xoC48 (xqc48 hI37 : cp48 (wget w35 48)) (fun f48_42 f48_44 f48_46 f48_48 f48_50 h48_52 hb43 hb45 hb47 hb49 hb51 hb53 => ?_)
      refine xg_cVv mX8_advance (vs := []) (rest := []) (cn1 := 0) (sl1 := 0) rfl (tkAdvance48 (hI37)) rfl h48_52 rfl rfl rfl rfl rfl rfl (fun w54 hq55 => ?_)
      obtain ⟨hI56, hF57⟩ := hq55
      refine xg_t (xg_bip) ?_
      have jn58 : ∀ (ms sg bo : Nat) (w59 : List (List xE)), ms ≤ 4294967295 → sg ≤ 4294967295 → bo ≤ 4294967295 → xInv w59 → xFr [46, 47, 48] w w59 → xTo (d + 6) mX6_readTest (144, [], [(0, (2, 43)), (1, (0, li)), (2, (0, no)), (3, (0, ms)), (4, (0, sg)), (5, (0, bo))], [], (w59, bd, fc, 0, 0, rr)) (fun φ => ∃ n w', xEnd 4 [(0, n)] (w', bd, fc, 0, 0, rr) φ ∧ (n ≤ 1) ∧ xInv w' ∧ xFr [46, 47, 48] w w') := by
        intro ms sg bo w59 hn62 hn63 hn64 hI60 hF61
        refine xg_t (xg_blq rfl) ?_
        refine xg_t (xg_aload (va := (2, 43)) rfl rfl) ?_
        refine xg_t (xg_getf (va := (0, f43_1)) (hF61.get (by decide) h43_5) rfl) ?_
        by_cases hc65 : f43_1 = 0
        · refine xg_t (xg_ifF (u := f43_1) rfl xnm0 (xj_neF hc65)) ?_
          refine xg_t (xg_aload (va := (2, 43)) rfl rfl) ?_
          refine xg_t (xg_getf (va := (2, 46)) (hF61.get (by decide) h43_5) rfl) ?_
          obtain ⟨f46_66, h46_68, hb67⟩ := (xqc46 hI60 : cp46 (wget w59 46))
          refine xg_cVi mX5_grow (vs := []) (rest := []) (cn1 := 0) (sl1 := 0) rfl (rgrowI h46_68 (by decide) (by omega)) rfl h46_68 rfl rfl rfl rfl rfl rfl (fun n71 w69 hq70 => ?_)
          obtain ⟨hn72, s73, hs74, hk75, hb76⟩ := hq70
          refine xg_t (xg_goto) ?_
          refine xg_t (xg_blq rfl) ?_
          refine xg_t (xg_istore (l1 := [(0, (2, 43)), (1, (0, li)), (2, (0, no)), (3, (0, ms)), (4, (0, sg)), (5, (0, bo))]) rfl rfl rfl) ?_
          refine xg_t (xg_aload (va := (2, 43)) rfl rfl) ?_
          refine xg_t (xg_getf (va := (2, 46)) (hb76.get (by decide) (hF61.get (by decide) h43_5)) rfl) ?_
          refine xg_t (xg_iload (va := (0, n71)) rfl rfl) ?_
          refine xg_t (xg_const) ?_
          refine xg_t (xg_iload (va := (0, li)) rfl rfl) ?_
          refine xoI (xqc47 hI60 : cpI 320 22 4294967295 (wget w59 47)) (fun g47_77 h47_78 hb79 => ?_)
          refine xg_cVv mX5_put (vs := [(0, n71), (0, 0), (0, li)]) (rest := []) (cn1 := 0) (sl1 := 0) rfl (rputI (lim := 64) (wd := 5) (B := 4294967295) hk75 (h47_78.but hb76 (by decide)) (hb79) (by decide) (by omega) (by decide) (by decide) (by omega) (by omega) (by omega)) rfl hk75 rfl rfl rfl rfl rfl rfl (fun w80 hq81 => ?_)
          obtain ⟨g82, hr83, hb84, hb85⟩ := hq81
          refine xg_t (xg_aload (va := (2, 43)) rfl rfl) ?_
          refine xg_t (xg_getf (va := (2, 46)) (hb85.get (by decide) (hb76.get (by decide) (hF61.get (by decide) h43_5))) rfl) ?_
          refine xg_t (xg_iload (va := (0, n71)) rfl rfl) ?_
          refine xg_t (xg_const) ?_
          refine xg_t (xg_iload (va := (0, no)) rfl rfl) ?_
          by_cases hc86 : no = 0
          · refine xg_t (xg_ifT (u := no) rfl xnm0 (xj_eqT hc86)) ?_
            refine xg_t (xg_blq rfl) ?_
            refine xg_t (xg_const) ?_
            refine xg_t (xg_blq rfl) ?_
            refine xg_cVv mX5_put (vs := [(0, n71), (0, 1), (0, 0)]) (rest := []) (cn1 := 0) (sl1 := 0) rfl (rputI (lim := 64) (wd := 5) (B := 4294967295) (hb85.get (by decide) hk75) hr83 (hb84) (by decide) (by omega) (by decide) (by decide) (by omega) (by omega) (by omega)) rfl (hb85.get (by decide) hk75) rfl rfl rfl rfl rfl rfl (fun w87 hq88 => ?_)
            obtain ⟨g89, hr90, hb91, hb92⟩ := hq88
            refine xg_t (xg_aload (va := (2, 43)) rfl rfl) ?_
            refine xg_t (xg_getf (va := (2, 46)) (hb92.get (by decide) (hb85.get (by decide) (hb76.get (by decide) (hF61.get (by decide) h43_5)))) rfl) ?_
            refine xg_t (xg_iload (va := (0, n71)) rfl rfl) ?_
            refine xg_t (xg_const) ?_
            refine xg_t (xg_iload (va := (0, ms)) rfl rfl) ?_
            refine xg_cVv mX5_put (vs := [(0, n71), (0, 2), (0, ms)]) (rest := []) (cn1 := 0) (sl1 := 0) rfl (rputI (lim := 64) (wd := 5) (B := 4294967295) (hb92.get (by decide) (hb85.get (by decide) hk75)) hr90 (hb91) (by decide) (by omega) (by decide) (by decide) (by omega) (by omega) (by omega)) rfl (hb92.get (by decide) (hb85.get (by decide) hk75)) rfl rfl rfl rfl rfl rfl (fun w93 hq94 => ?_)
            obtain ⟨g95, hr96, hb97, hb98⟩ := hq94
            refine xg_t (xg_aload (va := (2, 43)) rfl rfl) ?_
            refine xg_t (xg_getf (va := (2, 46)) (hb98.get (by decide) (hb92.get (by decide) (hb85.get (by decide) (hb76.get (by decide) (hF61.get (by decide) h43_5))))) rfl) ?_
            refine xg_t (xg_iload (va := (0, n71)) rfl rfl) ?_
            refine xg_t (xg_const) ?_
            refine xg_t (xg_iload (va := (0, sg)) rfl rfl) ?_
            refine xg_cVv mX5_put (vs := [(0, n71), (0, 3), (0, sg)]) (rest := []) (cn1 := 0) (sl1 := 0) rfl (rputI (lim := 64) (wd := 5) (B := 4294967295) (hb98.get (by decide) (hb92.get (by decide) (hb85.get (by decide) hk75))) hr96 (hb97) (by decide) (by omega) (by decide) (by decide) (by omega) (by omega) (by omega)) rfl (hb98.get (by decide) (hb92.get (by decide) (hb85.get (by decide) hk75))) rfl rfl rfl rfl rfl rfl (fun w99 hq100 => ?_)
            obtain ⟨g101, hr102, hb103, hb104⟩ := hq100
            refine xg_t (xg_aload (va := (2, 43)) rfl rfl) ?_
            refine xg_t (xg_getf (va := (2, 46)) (hb104.get (by decide) (hb98.get (by decide) (hb92.get (by decide) (hb85.get (by decide) (hb76.get (by decide) (hF61.get (by decide) h43_5)))))) rfl) ?_
            refine xg_t (xg_iload (va := (0, n71)) rfl rfl) ?_
            refine xg_t (xg_const) ?_
            refine xg_t (xg_iload (va := (0, bo)) rfl rfl) ?_
            refine xg_cVv mX5_put (vs := [(0, n71), (0, 4), (0, bo)]) (rest := []) (cn1 := 0) (sl1 := 0) rfl (rputI (lim := 64) (wd := 5) (B := 4294967295) (hb104.get (by decide) (hb98.get (by decide) (hb92.get (by decide) (hb85.get (by decide) hk75)))) hr102 (hb103) (by decide) (by omega) (by decide) (by decide) (by omega) (by omega) (by omega)) rfl (hb104.get (by decide) (hb98.get (by decide) (hb92.get (by decide) (hb85.get (by decide) hk75)))) rfl rfl rfl rfl rfl rfl (fun w105 hq106 => ?_)
            obtain ⟨g107, hr108, hb109, hb110⟩ := hq106
            refine xg_t (xg_const) ?_
            exact xg_e ⟨1, w105, ⟨rfl, rfl⟩, by first | decide | omega, xInv.up (S := [46, 47]) hI60 ((((((xFr.of (S := [46, 47]) hb76 (by decide)).tr (xFr.of (S := [46, 47]) hb85 (by decide))).tr (xFr.of (S := [46, 47]) hb92 (by decide))).tr (xFr.of (S := [46, 47]) hb98 (by decide))).tr (xFr.of (S := [46, 47]) hb104 (by decide))).tr (xFr.of (S := [46, 47]) hb110 (by decide))) (List.forall_mem_cons.mpr ⟨xqu46 (show cp46 (wget w105 46) from ⟨s73, (hb110.get (by decide) (hb104.get (by decide) (hb98.get (by decide) (hb92.get (by decide) (hb85.get (by decide) hk75))))), by omega⟩), List.forall_mem_cons.mpr ⟨xqu47 (show cpI 320 22 4294967295 (wget w105 47) from ⟨_, hr108, hb109⟩), fun _ h => absurd h List.not_mem_nil⟩⟩), (hF61.tr ((((((xFr.of (S := [46, 47, 48]) hb76 (by decide)).tr (xFr.of (S := [46, 47, 48]) hb85 (by decide))).tr (xFr.of (S := [46, 47, 48]) hb92 (by decide))).tr (xFr.of (S := [46, 47, 48]) hb98 (by decide))).tr (xFr.of (S := [46, 47, 48]) hb104 (by decide))).tr (xFr.of (S := [46, 47, 48]) hb110 (by decide))))⟩
          · refine xg_t (xg_ifF (u := no) rfl xnm0 (xj_eqF hc86)) ?_
            refine xg_t (xg_const) ?_
            refine xg_t (xg_goto) ?_
            refine xg_t (xg_blq rfl) ?_
            refine xg_cVv mX5_put (vs := [(0, n71), (0, 1), (0, 1)]) (rest := []) (cn1 := 0) (sl1 := 0) rfl (rputI (lim := 64) (wd := 5) (B := 4294967295) (hb85.get (by decide) hk75) hr83 (hb84) (by decide) (by omega) (by decide) (by decide) (by omega) (by omega) (by omega)) rfl (hb85.get (by decide) hk75) rfl rfl rfl rfl rfl rfl (fun w111 hq112 => ?_)
            obtain ⟨g113, hr114, hb115, hb116⟩ := hq112
            refine xg_t (xg_aload (va := (2, 43)) rfl rfl) ?_
            refine xg_t (xg_getf (va := (2, 46)) (hb116.get (by decide) (hb85.get (by decide) (hb76.get (by decide) (hF61.get (by decide) h43_5)))) rfl) ?_
            refine xg_t (xg_iload (va := (0, n71)) rfl rfl) ?_
            refine xg_t (xg_const) ?_
            refine xg_t (xg_iload (va := (0, ms)) rfl rfl) ?_
            refine xg_cVv mX5_put (vs := [(0, n71), (0, 2), (0, ms)]) (rest := []) (cn1 := 0) (sl1 := 0) rfl (rputI (lim := 64) (wd := 5) (B := 4294967295) (hb116.get (by decide) (hb85.get (by decide) hk75)) hr114 (hb115) (by decide) (by omega) (by decide) (by decide) (by omega) (by omega) (by omega)) rfl (hb116.get (by decide) (hb85.get (by decide) hk75)) rfl rfl rfl rfl rfl rfl (fun w117 hq118 => ?_)
            obtain ⟨g119, hr120, hb121, hb122⟩ := hq118
            refine xg_t (xg_aload (va := (2, 43)) rfl rfl) ?_
            refine xg_t (xg_getf (va := (2, 46)) (hb122.get (by decide) (hb116.get (by decide) (hb85.get (by decide) (hb76.get (by decide) (hF61.get (by decide) h43_5))))) rfl) ?_
            refine xg_t (xg_iload (va := (0, n71)) rfl rfl) ?_
            refine xg_t (xg_const) ?_
            refine xg_t (xg_iload (va := (0, sg)) rfl rfl) ?_
            refine xg_cVv mX5_put (vs := [(0, n71), (0, 3), (0, sg)]) (rest := []) (cn1 := 0) (sl1 := 0) rfl (rputI (lim := 64) (wd := 5) (B := 4294967295) (hb122.get (by decide) (hb116.get (by decide) (hb85.get (by decide) hk75))) hr120 (hb121) (by decide) (by omega) (by decide) (by decide) (by omega) (by omega) (by omega)) rfl (hb122.get (by decide) (hb116.get (by decide) (hb85.get (by decide) hk75))) rfl rfl rfl rfl rfl rfl (fun w123 hq124 => ?_)
            obtain ⟨g125, hr126, hb127, hb128⟩ := hq124
            refine xg_t (xg_aload (va := (2, 43)) rfl rfl) ?_
            refine xg_t (xg_getf (va := (2, 46)) (hb128.get (by decide) (hb122.get (by decide) (hb116.get (by decide) (hb85.get (by decide) (hb76.get (by decide) (hF61.get (by decide) h43_5)))))) rfl) ?_
            refine xg_t (xg_iload (va := (0, n71)) rfl rfl) ?_
            refine xg_t (xg_const) ?_
            refine xg_t (xg_iload (va := (0, bo)) rfl rfl) ?_
            refine xg_cVv mX5_put (vs := [(0, n71), (0, 4), (0, bo)]) (rest := []) (cn1 := 0) (sl1 := 0) rfl (rputI (lim := 64) (wd := 5) (B := 4294967295) (hb128.get (by decide) (hb122.get (by decide) (hb116.get (by decide) (hb85.get (by decide) hk75)))) hr126 (hb127) (by decide) (by omega) (by decide) (by decide) (by omega) (by omega) (by omega)) rfl (hb128.get (by decide) (hb122.get (by decide) (hb116.get (by decide) (hb85.get (by decide) hk75)))) rfl rfl rfl rfl rfl rfl (fun w129 hq130 => ?_)
            obtain ⟨g131, hr132, hb133, hb134⟩ := hq130
            refine xg_t (xg_const) ?_
            exact xg_e ⟨1, w129, ⟨rfl, rfl⟩, by first | decide | omega, xInv.up (S := [46, 47]) hI60 ((((((xFr.of (S := [46, 47]) hb76 (by decide)).tr (xFr.of (S := [46, 47]) hb85 (by decide))).tr (xFr.of (S := [46, 47]) hb116 (by decide))).tr (xFr.of (S := [46, 47]) hb122 (by decide))).tr (xFr.of (S := [46, 47]) hb128 (by decide))).tr (xFr.of (S := [46, 47]) hb134 (by decide))) (List.forall_mem_cons.mpr ⟨xqu46 (show cp46 (wget w129 46) from ⟨s73, (hb134.get (by decide) (hb128.get (by decide) (hb122.get (by decide) (hb116.get (by decide) (hb85.get (by decide) hk75))))), by omega⟩), List.forall_mem_cons.mpr ⟨xqu47 (show cpI 320 22 4294967295 (wget w129 47) from ⟨_, hr132, hb133⟩), fun _ h => absurd h List.not_mem_nil⟩⟩), (hF61.tr ((((((xFr.of (S := [46, 47, 48]) hb76 (by decide)).tr (xFr.of (S := [46, 47, 48]) hb85 (by decide))).tr (xFr.of (S := [46, 47, 48]) hb116 (by decide))).tr (xFr.of (S := [46, 47, 48]) hb122 (by decide))).tr (xFr.of (S := [46, 47, 48]) hb128 (by decide))).tr (xFr.of (S := [46, 47, 48]) hb134 (by decide))))⟩
        · refine xg_t (xg_ifT (u := f43_1) rfl xnm0 (xj_neT hc65)) ?_
          refine xg_t (xg_blq rfl) ?_
          refine xg_t (xg_const) ?_
          refine xg_t (xg_blq rfl) ?_
          refine xg_t (xg_istore (l1 := [(0, (2, 43)), (1, (0, li)), (2, (0, no)), (3, (0, ms)), (4, (0, sg)), (5, (0, bo))]) rfl rfl rfl) ?_
          refine xg_t (xg_aload (va := (2, 43)) rfl rfl) ?_
          refine xg_t (xg_getf (va := (2, 46)) (hF61.get (by decide) h43_5) rfl) ?_
          refine xg_t (xg_iload (va := (0, 4294967295)) rfl rfl) ?_
          refine xg_t (xg_const) ?_
          refine xg_t (xg_iload (va := (0, li)) rfl rfl) ?_
          obtain ⟨f46_135, h46_137, hb136⟩ := (xqc46 hI60 : cp46 (wget w59 46))
          refine xoI (xqc47 hI60 : cpI 320 22 4294967295 (wget w59 47)) (fun g47_138 h47_139 hb140 => ?_)
          refine xg_cVv mX5_put (vs := [(0, 4294967295), (0, 0), (0, li)]) (rest := []) (cn1 := 0) (sl1 := 0) rfl (rputI (lim := 64) (wd := 5) (B := 4294967295) h46_137 h47_139 (hb140) (by decide) (by omega) (by decide) (by decide) (by omega) (by omega) (by omega)) rfl h46_137 rfl rfl rfl rfl rfl rfl (fun w141 hq142 => ?_)
          obtain ⟨g143, hr144, hb145, hb146⟩ := hq142
          refine xg_t (xg_aload (va := (2, 43)) rfl rfl) ?_
          refine xg_t (xg_getf (va := (2, 46)) (hb146.get (by decide) (hF61.get (by decide) h43_5)) rfl) ?_
          refine xg_t (xg_iload (va := (0, 4294967295)) rfl rfl) ?_
          refine xg_t (xg_const) ?_
          refine xg_t (xg_iload (va := (0, no)) rfl rfl) ?_
          by_cases hc147 : no = 0
          · refine xg_t (xg_ifT (u := no) rfl xnm0 (xj_eqT hc147)) ?_
            refine xg_t (xg_blq rfl) ?_
            refine xg_t (xg_const) ?_
            refine xg_t (xg_blq rfl) ?_
            refine xg_cVv mX5_put (vs := [(0, 4294967295), (0, 1), (0, 0)]) (rest := []) (cn1 := 0) (sl1 := 0) rfl (rputI (lim := 64) (wd := 5) (B := 4294967295) (hb146.get (by decide) h46_137) hr144 (hb145) (by decide) (by omega) (by decide) (by decide) (by omega) (by omega) (by omega)) rfl (hb146.get (by decide) h46_137) rfl rfl rfl rfl rfl rfl (fun w148 hq149 => ?_)
            obtain ⟨g150, hr151, hb152, hb153⟩ := hq149
            refine xg_t (xg_aload (va := (2, 43)) rfl rfl) ?_
            refine xg_t (xg_getf (va := (2, 46)) (hb153.get (by decide) (hb146.get (by decide) (hF61.get (by decide) h43_5))) rfl) ?_
            refine xg_t (xg_iload (va := (0, 4294967295)) rfl rfl) ?_
            refine xg_t (xg_const) ?_
            refine xg_t (xg_iload (va := (0, ms)) rfl rfl) ?_
            refine xg_cVv mX5_put (vs := [(0, 4294967295), (0, 2), (0, ms)]) (rest := []) (cn1 := 0) (sl1 := 0) rfl (rputI (lim := 64) (wd := 5) (B := 4294967295) (hb153.get (by decide) (hb146.get (by decide) h46_137)) hr151 (hb152) (by decide) (by omega) (by decide) (by decide) (by omega) (by omega) (by omega)) rfl (hb153.get (by decide) (hb146.get (by decide) h46_137)) rfl rfl rfl rfl rfl rfl (fun w154 hq155 => ?_)
            obtain ⟨g156, hr157, hb158, hb159⟩ := hq155
            refine xg_t (xg_aload (va := (2, 43)) rfl rfl) ?_
            refine xg_t (xg_getf (va := (2, 46)) (hb159.get (by decide) (hb153.get (by decide) (hb146.get (by decide) (hF61.get (by decide) h43_5)))) rfl) ?_
            refine xg_t (xg_iload (va := (0, 4294967295)) rfl rfl) ?_
            refine xg_t (xg_const) ?_
            refine xg_t (xg_iload (va := (0, sg)) rfl rfl) ?_
            refine xg_cVv mX5_put (vs := [(0, 4294967295), (0, 3), (0, sg)]) (rest := []) (cn1 := 0) (sl1 := 0) rfl (rputI (lim := 64) (wd := 5) (B := 4294967295) (hb159.get (by decide) (hb153.get (by decide) (hb146.get (by decide) h46_137))) hr157 (hb158) (by decide) (by omega) (by decide) (by decide) (by omega) (by omega) (by omega)) rfl (hb159.get (by decide) (hb153.get (by decide) (hb146.get (by decide) h46_137))) rfl rfl rfl rfl rfl rfl (fun w160 hq161 => ?_)
            obtain ⟨g162, hr163, hb164, hb165⟩ := hq161
            refine xg_t (xg_aload (va := (2, 43)) rfl rfl) ?_
            refine xg_t (xg_getf (va := (2, 46)) (hb165.get (by decide) (hb159.get (by decide) (hb153.get (by decide) (hb146.get (by decide) (hF61.get (by decide) h43_5))))) rfl) ?_
            refine xg_t (xg_iload (va := (0, 4294967295)) rfl rfl) ?_
            refine xg_t (xg_const) ?_
            refine xg_t (xg_iload (va := (0, bo)) rfl rfl) ?_
            refine xg_cVv mX5_put (vs := [(0, 4294967295), (0, 4), (0, bo)]) (rest := []) (cn1 := 0) (sl1 := 0) rfl (rputI (lim := 64) (wd := 5) (B := 4294967295) (hb165.get (by decide) (hb159.get (by decide) (hb153.get (by decide) (hb146.get (by decide) h46_137)))) hr163 (hb164) (by decide) (by omega) (by decide) (by decide) (by omega) (by omega) (by omega)) rfl (hb165.get (by decide) (hb159.get (by decide) (hb153.get (by decide) (hb146.get (by decide) h46_137)))) rfl rfl rfl rfl rfl rfl (fun w166 hq167 => ?_)
            obtain ⟨g168, hr169, hb170, hb171⟩ := hq167
            refine xg_t (xg_const) ?_
            exact xg_e ⟨1, w166, ⟨rfl, rfl⟩, by first | decide | omega, xInv.up (S := [47]) hI60 (((((xFr.of (S := [47]) hb146 (by decide)).tr (xFr.of (S := [47]) hb153 (by decide))).tr (xFr.of (S := [47]) hb159 (by decide))).tr (xFr.of (S := [47]) hb165 (by decide))).tr (xFr.of (S := [47]) hb171 (by decide))) (List.forall_mem_cons.mpr ⟨xqu47 (show cpI 320 22 4294967295 (wget w166 47) from ⟨_, hr169, hb170⟩), fun _ h => absurd h List.not_mem_nil⟩), (hF61.tr (((((xFr.of (S := [46, 47, 48]) hb146 (by decide)).tr (xFr.of (S := [46, 47, 48]) hb153 (by decide))).tr (xFr.of (S := [46, 47, 48]) hb159 (by decide))).tr (xFr.of (S := [46, 47, 48]) hb165 (by decide))).tr (xFr.of (S := [46, 47, 48]) hb171 (by decide))))⟩
          · refine xg_t (xg_ifF (u := no) rfl xnm0 (xj_eqF hc147)) ?_
            refine xg_t (xg_const) ?_
            refine xg_t (xg_goto) ?_
            refine xg_t (xg_blq rfl) ?_
            refine xg_cVv mX5_put (vs := [(0, 4294967295), (0, 1), (0, 1)]) (rest := []) (cn1 := 0) (sl1 := 0) rfl (rputI (lim := 64) (wd := 5) (B := 4294967295) (hb146.get (by decide) h46_137) hr144 (hb145) (by decide) (by omega) (by decide) (by decide) (by omega) (by omega) (by omega)) rfl (hb146.get (by decide) h46_137) rfl rfl rfl rfl rfl rfl (fun w172 hq173 => ?_)
            obtain ⟨g174, hr175, hb176, hb177⟩ := hq173
            refine xg_t (xg_aload (va := (2, 43)) rfl rfl) ?_
            refine xg_t (xg_getf (va := (2, 46)) (hb177.get (by decide) (hb146.get (by decide) (hF61.get (by decide) h43_5))) rfl) ?_
            refine xg_t (xg_iload (va := (0, 4294967295)) rfl rfl) ?_
            refine xg_t (xg_const) ?_
            refine xg_t (xg_iload (va := (0, ms)) rfl rfl) ?_
            refine xg_cVv mX5_put (vs := [(0, 4294967295), (0, 2), (0, ms)]) (rest := []) (cn1 := 0) (sl1 := 0) rfl (rputI (lim := 64) (wd := 5) (B := 4294967295) (hb177.get (by decide) (hb146.get (by decide) h46_137)) hr175 (hb176) (by decide) (by omega) (by decide) (by decide) (by omega) (by omega) (by omega)) rfl (hb177.get (by decide) (hb146.get (by decide) h46_137)) rfl rfl rfl rfl rfl rfl (fun w178 hq179 => ?_)
            obtain ⟨g180, hr181, hb182, hb183⟩ := hq179
            refine xg_t (xg_aload (va := (2, 43)) rfl rfl) ?_
            refine xg_t (xg_getf (va := (2, 46)) (hb183.get (by decide) (hb177.get (by decide) (hb146.get (by decide) (hF61.get (by decide) h43_5)))) rfl) ?_
            refine xg_t (xg_iload (va := (0, 4294967295)) rfl rfl) ?_
            refine xg_t (xg_const) ?_
            refine xg_t (xg_iload (va := (0, sg)) rfl rfl) ?_
            refine xg_cVv mX5_put (vs := [(0, 4294967295), (0, 3), (0, sg)]) (rest := []) (cn1 := 0) (sl1 := 0) rfl (rputI (lim := 64) (wd := 5) (B := 4294967295) (hb183.get (by decide) (hb177.get (by decide) (hb146.get (by decide) h46_137))) hr181 (hb182) (by decide) (by omega) (by decide) (by decide) (by omega) (by omega) (by omega)) rfl (hb183.get (by decide) (hb177.get (by decide) (hb146.get (by decide) h46_137))) rfl rfl rfl rfl rfl rfl (fun w184 hq185 => ?_)
            obtain ⟨g186, hr187, hb188, hb189⟩ := hq185
            refine xg_t (xg_aload (va := (2, 43)) rfl rfl) ?_
            refine xg_t (xg_getf (va := (2, 46)) (hb189.get (by decide) (hb183.get (by decide) (hb177.get (by decide) (hb146.get (by decide) (hF61.get (by decide) h43_5))))) rfl) ?_
            refine xg_t (xg_iload (va := (0, 4294967295)) rfl rfl) ?_
            refine xg_t (xg_const) ?_
            refine xg_t (xg_iload (va := (0, bo)) rfl rfl) ?_
            refine xg_cVv mX5_put (vs := [(0, 4294967295), (0, 4), (0, bo)]) (rest := []) (cn1 := 0) (sl1 := 0) rfl (rputI (lim := 64) (wd := 5) (B := 4294967295) (hb189.get (by decide) (hb183.get (by decide) (hb177.get (by decide) (hb146.get (by decide) h46_137)))) hr187 (hb188) (by decide) (by omega) (by decide) (by decide) (by omega) (by omega) (by omega)) rfl (hb189.get (by decide) (hb183.get (by decide) (hb177.get (by decide) (hb146.get (by decide) h46_137)))) rfl rfl rfl rfl rfl rfl (fun w190 hq191 => ?_)
            obtain ⟨g192, hr193, hb194, hb195⟩ := hq191
            refine xg_t (xg_const) ?_
            exact xg_e ⟨1, w190, ⟨rfl, rfl⟩, by first | decide | omega, xInv.up (S := [47]) hI60 (((((xFr.of (S := [47]) hb146 (by decide)).tr (xFr.of (S := [47]) hb177 (by decide))).tr (xFr.of (S := [47]) hb183 (by decide))).tr (xFr.of (S := [47]) hb189 (by decide))).tr (xFr.of (S := [47]) hb195 (by decide))) (List.forall_mem_cons.mpr ⟨xqu47 (show cpI 320 22 4294967295 (wget w190 47) from ⟨_, hr193, hb194⟩), fun _ h => absurd h List.not_mem_nil⟩), (hF61.tr (((((xFr.of (S := [46, 47, 48]) hb146 (by decide)).tr (xFr.of (S := [46, 47, 48]) hb177 (by decide))).tr (xFr.of (S := [46, 47, 48]) hb183 (by decide))).tr (xFr.of (S := [46, 47, 48]) hb189 (by decide))).tr (xFr.of (S := [46, 47, 48]) hb195 (by decide))))⟩
      refine xg_t (xg_istore (l1 := [(3, (0, n39)), (0, (2, 43)), (1, (0, li)), (2, (0, no))]) rfl rfl rfl) ?_
      refine xg_t (xg_const) ?_
      refine xg_t (xg_istore (l1 := [(4, (0, 62)), (3, (0, n39)), (0, (2, 43)), (1, (0, li)), (2, (0, no))]) rfl rfl rfl) ?_
      refine xg_t (xg_iload (va := (0, n39)) rfl rfl) ?_
      by_cases hc196 : n39 = 0
      · refine xg_t (xg_ifT (u := n39) rfl xnm0 (xj_eqT hc196)) ?_
        refine xg_t (xg_drop (l1 := [(0, (2, 43)), (1, (0, li)), (2, (0, no)), (3, (0, n39)), (4, (0, 62)), (5, (0, 0))]) (List.forall_mem_cons.mpr ⟨List.mem_cons_of_mem _ (List.mem_cons_of_mem _ (List.mem_cons_of_mem _ (List.mem_cons_self))), List.forall_mem_cons.mpr ⟨List.mem_cons_of_mem _ (List.mem_cons_of_mem _ (List.mem_cons_of_mem _ (List.mem_cons_of_mem _ (List.mem_cons_self)))), List.forall_mem_cons.mpr ⟨List.mem_cons_of_mem _ (List.mem_cons_of_mem _ (List.mem_cons_of_mem _ (List.mem_cons_of_mem _ (List.mem_cons_of_mem _ (List.mem_cons_self))))), List.forall_mem_cons.mpr ⟨List.mem_cons_of_mem _ (List.mem_cons_of_mem _ (List.mem_cons_self)), List.forall_mem_cons.mpr ⟨List.mem_cons_of_mem _ (List.mem_cons_self), List.forall_mem_cons.mpr ⟨List.mem_cons_self, fun _ h => absurd h List.not_mem_nil⟩⟩⟩⟩⟩⟩)) ?_
        exact jn58 n39 62 0 w54 (by omega) (by omega) (by omega) (hI56) (((hF33.tr (hF38.up (by decide))).tr (hF57.up (by decide))))
      · refine xg_t (xg_ifF (u := n39) rfl xnm0 (xj_eqF hc196)) ?_
        refine xg_t (xg_iload (va := (0, n39)) rfl rfl) ?_
        refine xg_t (xg_const) ?_
        by_cases hc197 : n39 = 1
        · refine xg_t (xg_icT (u := n39) (v := 1) rfl xnm0 xnm0 (xj_eqT hc197)) ?_
          refine xg_t (xg_drop (l1 := [(0, (2, 43)), (1, (0, li)), (2, (0, no)), (3, (0, n39)), (4, (0, 62)), (5, (0, 0))]) (List.forall_mem_cons.mpr ⟨List.mem_cons_of_mem _ (List.mem_cons_of_mem _ (List.mem_cons_of_mem _ (List.mem_cons_self))), List.forall_mem_cons.mpr ⟨List.mem_cons_of_mem _ (List.mem_cons_of_mem _ (List.mem_cons_of_mem _ (List.mem_cons_of_mem _ (List.mem_cons_self)))), List.forall_mem_cons.mpr ⟨List.mem_cons_of_mem _ (List.mem_cons_of_mem _ (List.mem_cons_of_mem _ (List.mem_cons_of_mem _ (List.mem_cons_of_mem _ (List.mem_cons_self))))), List.forall_mem_cons.mpr ⟨List.mem_cons_of_mem _ (List.mem_cons_of_mem _ (List.mem_cons_self)), List.forall_mem_cons.mpr ⟨List.mem_cons_of_mem _ (List.mem_cons_self), List.forall_mem_cons.mpr ⟨List.mem_cons_self, fun _ h => absurd h List.not_mem_nil⟩⟩⟩⟩⟩⟩)) ?_
          exact jn58 n39 62 0 w54 (by omega) (by omega) (by omega) (hI56) (((hF33.tr (hF38.up (by decide))).tr (hF57.up (by decide))))
        · refine xg_t (xg_icF (u := n39) (v := 1) rfl xnm0 xnm0 (xj_eqF hc197)) ?_
          refine xg_t (xg_aload (va := (2, 43)) rfl rfl) ?_
          refine xg_t (xg_getf (va := (2, 48)) (hF57.get (by decide) (hF38.get (by decide) (hF33.get (by decide) h43_5))) rfl) ?_
          refine xg_t (xg_bip) ?_
          refine xoC48 (xqc48 hI56 : cp48 (wget w54 48)) (fun f48_198 f48_200 f48_202 f48_204 f48_206 h48_208 hb199 hb201 hb203 hb205 hb207 hb209 => ?_)
          refine xg_cVi mX8_isSign (vs := [(0, 60)]) (rest := []) (cn1 := 0) (sl1 := 0) rfl (tkIsSign48 (hI56) (by omega)) rfl h48_208 rfl rfl rfl rfl rfl rfl (fun n214 w210 hq211 => ?_)
          obtain ⟨hn215, hI212, hF213⟩ := hq211
          by_cases hc216 : n214 = 0
          · refine xg_t (xg_ifT (u := n214) rfl xnm0 (xj_eqT hc216)) ?_
            refine xg_t (xg_blq rfl) ?_
            refine xg_t (xg_aload (va := (2, 43)) rfl rfl) ?_
            refine xg_t (xg_getf (va := (2, 48)) (hF213.get (by decide) (hF57.get (by decide) (hF38.get (by decide) (hF33.get (by decide) h43_5)))) rfl) ?_
            refine xg_t (xg_bip) ?_
            refine xg_cVi mX8_isSign (vs := [(0, 61)]) (rest := []) (cn1 := 0) (sl1 := 0) rfl (tkIsSign48 (hI212) (by omega)) rfl (hF213.get (by decide) h48_208) rfl rfl rfl rfl rfl rfl (fun n221 w217 hq218 => ?_)
            obtain ⟨hn222, hI219, hF220⟩ := hq218
            by_cases hc223 : n221 = 0
            · refine xg_t (xg_ifT (u := n221) rfl xnm0 (xj_eqT hc223)) ?_
              refine xg_t (xg_blq rfl) ?_
              refine xg_t (xg_bip) ?_
              refine xg_t (xg_blq rfl) ?_
              refine xg_t (xg_istore (l1 := [(5, (0, 0)), (3, (0, n39)), (0, (2, 43)), (1, (0, li)), (2, (0, no))]) rfl rfl rfl) ?_
              refine xg_t (xg_aload (va := (2, 43)) rfl rfl) ?_
              refine xg_t (xg_getf (va := (2, 48)) (hF220.get (by decide) (hF213.get (by decide) (hF57.get (by decide) (hF38.get (by decide) (hF33.get (by decide) h43_5))))) rfl) ?_
              refine xg_t (xg_iload (va := (0, 62)) rfl rfl) ?_
              refine xg_cVi mX8_isSign (vs := [(0, 62)]) (rest := []) (cn1 := 0) (sl1 := 0) rfl (tkIsSign48 (hI219) (by omega)) rfl (hF220.get (by decide) (hF213.get (by decide) h48_208)) rfl rfl rfl rfl rfl rfl (fun n228 w224 hq225 => ?_)
              obtain ⟨hn229, hI226, hF227⟩ := hq225
              by_cases hc230 : n228 = 0
              · refine xg_t (xg_ifF (u := n228) rfl xnm0 (xj_neF hc230)) ?_
                refine xg_t (xg_const) ?_
                exact xg_e ⟨0, w224, ⟨rfl, rfl⟩, by first | decide | omega, hI226, (((((hF33.tr (hF38.up (by decide))).tr (hF57.up (by decide))).tr (hF213.up (by decide))).tr (hF220.up (by decide))).tr (hF227.up (by decide)))⟩
              · refine xg_t (xg_ifT (u := n228) rfl xnm0 (xj_neT hc230)) ?_
                refine xg_t (xg_blq rfl) ?_
                refine xg_t (xg_aload (va := (2, 43)) rfl rfl) ?_
                refine xg_t (xg_getf (va := (2, 48)) (hF227.get (by decide) (hF220.get (by decide) (hF213.get (by decide) (hF57.get (by decide) (hF38.get (by decide) (hF33.get (by decide) h43_5)))))) rfl) ?_
                refine xg_cVv mX8_advance (vs := []) (rest := []) (cn1 := 0) (sl1 := 0) rfl (tkAdvance48 (hI226)) rfl (hF227.get (by decide) (hF220.get (by decide) (hF213.get (by decide) h48_208))) rfl rfl rfl rfl rfl rfl (fun w231 hq232 => ?_)
                obtain ⟨hI233, hF234⟩ := hq232
                refine xg_t (xg_aload (va := (2, 43)) rfl rfl) ?_
                refine xg_t (xg_getf (va := (2, 48)) (hF234.get (by decide) (hF227.get (by decide) (hF220.get (by decide) (hF213.get (by decide) (hF57.get (by decide) (hF38.get (by decide) (hF33.get (by decide) h43_5))))))) rfl) ?_
                refine xoC48 (xqc48 hI233 : cp48 (wget w231 48)) (fun f48_235 f48_237 f48_239 f48_241 f48_243 h48_245 hb236 hb238 hb240 hb242 hb244 hb246 => ?_)
                refine xg_t (xg_getf (va := (0, f48_237)) h48_245 rfl) ?_
                refine xg_t (xg_const) ?_
                by_cases hc247 : f48_237 = 2
                · refine xg_t (xg_icT (u := f48_237) (v := 2) rfl xnm0 xnm0 (xj_eqT hc247)) ?_
                  refine xg_t (xg_blq rfl) ?_
                  refine xg_t (xg_aload (va := (2, 43)) rfl rfl) ?_
                  refine xg_t (xg_getf (va := (2, 48)) (hF234.get (by decide) (hF227.get (by decide) (hF220.get (by decide) (hF213.get (by decide) (hF57.get (by decide) (hF38.get (by decide) (hF33.get (by decide) h43_5))))))) rfl) ?_
                  refine xg_t (xg_getf (va := (0, f48_243)) h48_245 rfl) ?_
                  refine xg_t (xg_istore (l1 := [(4, (0, 62)), (3, (0, n39)), (0, (2, 43)), (1, (0, li)), (2, (0, no))]) rfl rfl rfl) ?_
                  refine xg_t (xg_aload (va := (2, 43)) rfl rfl) ?_
                  refine xg_t (xg_getf (va := (2, 48)) (hF234.get (by decide) (hF227.get (by decide) (hF220.get (by decide) (hF213.get (by decide) (hF57.get (by decide) (hF38.get (by decide) (hF33.get (by decide) h43_5))))))) rfl) ?_
                  refine xg_cVv mX8_advance (vs := []) (rest := []) (cn1 := 0) (sl1 := 0) rfl (tkAdvance48 (hI233)) rfl h48_245 rfl rfl rfl rfl rfl rfl (fun w248 hq249 => ?_)
                  obtain ⟨hI250, hF251⟩ := hq249
                  refine xg_t (xg_drop (l1 := [(0, (2, 43)), (1, (0, li)), (2, (0, no)), (3, (0, n39)), (4, (0, 62)), (5, (0, f48_243))]) (List.forall_mem_cons.mpr ⟨List.mem_cons_of_mem _ (List.mem_cons_of_mem _ (List.mem_cons_of_mem _ (List.mem_cons_self))), List.forall_mem_cons.mpr ⟨List.mem_cons_of_mem _ (List.mem_cons_of_mem _ (List.mem_cons_of_mem _ (List.mem_cons_of_mem _ (List.mem_cons_self)))), List.forall_mem_cons.mpr ⟨List.mem_cons_of_mem _ (List.mem_cons_of_mem _ (List.mem_cons_of_mem _ (List.mem_cons_of_mem _ (List.mem_cons_of_mem _ (List.mem_cons_self))))), List.forall_mem_cons.mpr ⟨List.mem_cons_of_mem _ (List.mem_cons_of_mem _ (List.mem_cons_self)), List.forall_mem_cons.mpr ⟨List.mem_cons_of_mem _ (List.mem_cons_self), List.forall_mem_cons.mpr ⟨List.mem_cons_self, fun _ h => absurd h List.not_mem_nil⟩⟩⟩⟩⟩⟩)) ?_
                  exact jn58 n39 62 f48_243 w248 (by omega) (by omega) (by omega) (hI250) ((((((((hF33.tr (hF38.up (by decide))).tr (hF57.up (by decide))).tr (hF213.up (by decide))).tr (hF220.up (by decide))).tr (hF227.up (by decide))).tr (hF234.up (by decide))).tr (hF251.up (by decide))))
                · refine xg_t (xg_icF (u := f48_237) (v := 2) rfl xnm0 xnm0 (xj_eqF hc247)) ?_
                  refine xg_t (xg_const) ?_
                  exact xg_e ⟨0, w231, ⟨rfl, rfl⟩, by first | decide | omega, hI233, ((((((hF33.tr (hF38.up (by decide))).tr (hF57.up (by decide))).tr (hF213.up (by decide))).tr (hF220.up (by decide))).tr (hF227.up (by decide))).tr (hF234.up (by decide)))⟩
            · refine xg_t (xg_ifF (u := n221) rfl xnm0 (xj_eqF hc223)) ?_
              refine xg_t (xg_bip) ?_
              refine xg_t (xg_goto) ?_
              refine xg_t (xg_blq rfl) ?_
              refine xg_t (xg_istore (l1 := [(5, (0, 0)), (3, (0, n39)), (0, (2, 43)), (1, (0, li)), (2, (0, no))]) rfl rfl rfl) ?_
              refine xg_t (xg_aload (va := (2, 43)) rfl rfl) ?_
              refine xg_t (xg_getf (va := (2, 48)) (hF220.get (by decide) (hF213.get (by decide) (hF57.get (by decide) (hF38.get (by decide) (hF33.get (by decide) h43_5))))) rfl) ?_
              refine xg_t (xg_iload (va := (0, 61)) rfl rfl) ?_
              refine xg_cVi mX8_isSign (vs := [(0, 61)]) (rest := []) (cn1 := 0) (sl1 := 0) rfl (tkIsSign48 (hI219) (by omega)) rfl (hF220.get (by decide) (hF213.get (by decide) h48_208)) rfl rfl rfl rfl rfl rfl (fun n256 w252 hq253 => ?_)
              obtain ⟨hn257, hI254, hF255⟩ := hq253
              by_cases hc258 : n256 = 0
              · refine xg_t (xg_ifF (u := n256) rfl xnm0 (xj_neF hc258)) ?_
                refine xg_t (xg_const) ?_
                exact xg_e ⟨0, w252, ⟨rfl, rfl⟩, by first | decide | omega, hI254, (((((hF33.tr (hF38.up (by decide))).tr (hF57.up (by decide))).tr (hF213.up (by decide))).tr (hF220.up (by decide))).tr (hF255.up (by decide)))⟩
              · refine xg_t (xg_ifT (u := n256) rfl xnm0 (xj_neT hc258)) ?_
                refine xg_t (xg_blq rfl) ?_
                refine xg_t (xg_aload (va := (2, 43)) rfl rfl) ?_
                refine xg_t (xg_getf (va := (2, 48)) (hF255.get (by decide) (hF220.get (by decide) (hF213.get (by decide) (hF57.get (by decide) (hF38.get (by decide) (hF33.get (by decide) h43_5)))))) rfl) ?_
                refine xg_cVv mX8_advance (vs := []) (rest := []) (cn1 := 0) (sl1 := 0) rfl (tkAdvance48 (hI254)) rfl (hF255.get (by decide) (hF220.get (by decide) (hF213.get (by decide) h48_208))) rfl rfl rfl rfl rfl rfl (fun w259 hq260 => ?_)
                obtain ⟨hI261, hF262⟩ := hq260
                refine xg_t (xg_aload (va := (2, 43)) rfl rfl) ?_
                refine xg_t (xg_getf (va := (2, 48)) (hF262.get (by decide) (hF255.get (by decide) (hF220.get (by decide) (hF213.get (by decide) (hF57.get (by decide) (hF38.get (by decide) (hF33.get (by decide) h43_5))))))) rfl) ?_
                refine xoC48 (xqc48 hI261 : cp48 (wget w259 48)) (fun f48_263 f48_265 f48_267 f48_269 f48_271 h48_273 hb264 hb266 hb268 hb270 hb272 hb274 => ?_)
                refine xg_t (xg_getf (va := (0, f48_265)) h48_273 rfl) ?_
                refine xg_t (xg_const) ?_
                by_cases hc275 : f48_265 = 2
                · refine xg_t (xg_icT (u := f48_265) (v := 2) rfl xnm0 xnm0 (xj_eqT hc275)) ?_
                  refine xg_t (xg_blq rfl) ?_
                  refine xg_t (xg_aload (va := (2, 43)) rfl rfl) ?_
                  refine xg_t (xg_getf (va := (2, 48)) (hF262.get (by decide) (hF255.get (by decide) (hF220.get (by decide) (hF213.get (by decide) (hF57.get (by decide) (hF38.get (by decide) (hF33.get (by decide) h43_5))))))) rfl) ?_
                  refine xg_t (xg_getf (va := (0, f48_271)) h48_273 rfl) ?_
                  refine xg_t (xg_istore (l1 := [(4, (0, 61)), (3, (0, n39)), (0, (2, 43)), (1, (0, li)), (2, (0, no))]) rfl rfl rfl) ?_
                  refine xg_t (xg_aload (va := (2, 43)) rfl rfl) ?_
                  refine xg_t (xg_getf (va := (2, 48)) (hF262.get (by decide) (hF255.get (by decide) (hF220.get (by decide) (hF213.get (by decide) (hF57.get (by decide) (hF38.get (by decide) (hF33.get (by decide) h43_5))))))) rfl) ?_
                  refine xg_cVv mX8_advance (vs := []) (rest := []) (cn1 := 0) (sl1 := 0) rfl (tkAdvance48 (hI261)) rfl h48_273 rfl rfl rfl rfl rfl rfl (fun w276 hq277 => ?_)
                  obtain ⟨hI278, hF279⟩ := hq277
                  refine xg_t (xg_drop (l1 := [(0, (2, 43)), (1, (0, li)), (2, (0, no)), (3, (0, n39)), (4, (0, 61)), (5, (0, f48_271))]) (List.forall_mem_cons.mpr ⟨List.mem_cons_of_mem _ (List.mem_cons_of_mem _ (List.mem_cons_of_mem _ (List.mem_cons_self))), List.forall_mem_cons.mpr ⟨List.mem_cons_of_mem _ (List.mem_cons_of_mem _ (List.mem_cons_of_mem _ (List.mem_cons_of_mem _ (List.mem_cons_self)))), List.forall_mem_cons.mpr ⟨List.mem_cons_of_mem _ (List.mem_cons_of_mem _ (List.mem_cons_of_mem _ (List.mem_cons_of_mem _ (List.mem_cons_of_mem _ (List.mem_cons_self))))), List.forall_mem_cons.mpr ⟨List.mem_cons_of_mem _ (List.mem_cons_of_mem _ (List.mem_cons_self)), List.forall_mem_cons.mpr ⟨List.mem_cons_of_mem _ (List.mem_cons_self), List.forall_mem_cons.mpr ⟨List.mem_cons_self, fun _ h => absurd h List.not_mem_nil⟩⟩⟩⟩⟩⟩)) ?_
                  exact jn58 n39 61 f48_271 w276 (by omega) (by omega) (by omega) (hI278) ((((((((hF33.tr (hF38.up (by decide))).tr (hF57.up (by decide))).tr (hF213.up (by decide))).tr (hF220.up (by decide))).tr (hF255.up (by decide))).tr (hF262.up (by decide))).tr (hF279.up (by decide))))
                · refine xg_t (xg_icF (u := f48_265) (v := 2) rfl xnm0 xnm0 (xj_eqF hc275)) ?_
                  refine xg_t (xg_const) ?_
                  exact xg_e ⟨0, w259, ⟨rfl, rfl⟩, by first | decide | omega, hI261, ((((((hF33.tr (hF38.up (by decide))).tr (hF57.up (by decide))).tr (hF213.up (by decide))).tr (hF220.up (by decide))).tr (hF255.up (by decide))).tr (hF262.up (by decide)))⟩
          · refine xg_t (xg_ifF (u := n214) rfl xnm0 (xj_eqF hc216)) ?_
            refine xg_t (xg_bip) ?_
            refine xg_t (xg_goto) ?_
            refine xg_t (xg_blq rfl) ?_
            refine xg_t (xg_istore (l1 := [(5, (0, 0)), (3, (0, n39)), (0, (2, 43)), (1, (0, li)), (2, (0, no))]) rfl rfl rfl) ?_
            refine xg_t (xg_aload (va := (2, 43)) rfl rfl) ?_
            refine xg_t (xg_getf (va := (2, 48)) (hF213.get (by decide) (hF57.get (by decide) (hF38.get (by decide) (hF33.get (by decide) h43_5)))) rfl) ?_
            refine xg_t (xg_iload (va := (0, 60)) rfl rfl) ?_
            refine xg_cVi mX8_isSign (vs := [(0, 60)]) (rest := []) (cn1 := 0) (sl1 := 0) rfl (tkIsSign48 (hI212) (by omega)) rfl (hF213.get (by decide) h48_208) rfl rfl rfl rfl rfl rfl (fun n284 w280 hq281 => ?_)
            obtain ⟨hn285, hI282, hF283⟩ := hq281
            by_cases hc286 : n284 = 0
            · refine xg_t (xg_ifF (u := n284) rfl xnm0 (xj_neF hc286)) ?_
              refine xg_t (xg_const) ?_
              exact xg_e ⟨0, w280, ⟨rfl, rfl⟩, by first | decide | omega, hI282, ((((hF33.tr (hF38.up (by decide))).tr (hF57.up (by decide))).tr (hF213.up (by decide))).tr (hF283.up (by decide)))⟩
            · refine xg_t (xg_ifT (u := n284) rfl xnm0 (xj_neT hc286)) ?_
              refine xg_t (xg_blq rfl) ?_
              refine xg_t (xg_aload (va := (2, 43)) rfl rfl) ?_
              refine xg_t (xg_getf (va := (2, 48)) (hF283.get (by decide) (hF213.get (by decide) (hF57.get (by decide) (hF38.get (by decide) (hF33.get (by decide) h43_5))))) rfl) ?_
              refine xg_cVv mX8_advance (vs := []) (rest := []) (cn1 := 0) (sl1 := 0) rfl (tkAdvance48 (hI282)) rfl (hF283.get (by decide) (hF213.get (by decide) h48_208)) rfl rfl rfl rfl rfl rfl (fun w287 hq288 => ?_)
              obtain ⟨hI289, hF290⟩ := hq288
              refine xg_t (xg_aload (va := (2, 43)) rfl rfl) ?_
              refine xg_t (xg_getf (va := (2, 48)) (hF290.get (by decide) (hF283.get (by decide) (hF213.get (by decide) (hF57.get (by decide) (hF38.get (by decide) (hF33.get (by decide) h43_5)))))) rfl) ?_
              refine xoC48 (xqc48 hI289 : cp48 (wget w287 48)) (fun f48_291 f48_293 f48_295 f48_297 f48_299 h48_301 hb292 hb294 hb296 hb298 hb300 hb302 => ?_)
              refine xg_t (xg_getf (va := (0, f48_293)) h48_301 rfl) ?_
              refine xg_t (xg_const) ?_
              by_cases hc303 : f48_293 = 2
              · refine xg_t (xg_icT (u := f48_293) (v := 2) rfl xnm0 xnm0 (xj_eqT hc303)) ?_
                refine xg_t (xg_blq rfl) ?_
                refine xg_t (xg_aload (va := (2, 43)) rfl rfl) ?_
                refine xg_t (xg_getf (va := (2, 48)) (hF290.get (by decide) (hF283.get (by decide) (hF213.get (by decide) (hF57.get (by decide) (hF38.get (by decide) (hF33.get (by decide) h43_5)))))) rfl) ?_
                refine xg_t (xg_getf (va := (0, f48_299)) h48_301 rfl) ?_
                refine xg_t (xg_istore (l1 := [(4, (0, 60)), (3, (0, n39)), (0, (2, 43)), (1, (0, li)), (2, (0, no))]) rfl rfl rfl) ?_
                refine xg_t (xg_aload (va := (2, 43)) rfl rfl) ?_
                refine xg_t (xg_getf (va := (2, 48)) (hF290.get (by decide) (hF283.get (by decide) (hF213.get (by decide) (hF57.get (by decide) (hF38.get (by decide) (hF33.get (by decide) h43_5)))))) rfl) ?_
                refine xg_cVv mX8_advance (vs := []) (rest := []) (cn1 := 0) (sl1 := 0) rfl (tkAdvance48 (hI289)) rfl h48_301 rfl rfl rfl rfl rfl rfl (fun w304 hq305 => ?_)
                obtain ⟨hI306, hF307⟩ := hq305
                refine xg_t (xg_drop (l1 := [(0, (2, 43)), (1, (0, li)), (2, (0, no)), (3, (0, n39)), (4, (0, 60)), (5, (0, f48_299))]) (List.forall_mem_cons.mpr ⟨List.mem_cons_of_mem _ (List.mem_cons_of_mem _ (List.mem_cons_of_mem _ (List.mem_cons_self))), List.forall_mem_cons.mpr ⟨List.mem_cons_of_mem _ (List.mem_cons_of_mem _ (List.mem_cons_of_mem _ (List.mem_cons_of_mem _ (List.mem_cons_self)))), List.forall_mem_cons.mpr ⟨List.mem_cons_of_mem _ (List.mem_cons_of_mem _ (List.mem_cons_of_mem _ (List.mem_cons_of_mem _ (List.mem_cons_of_mem _ (List.mem_cons_self))))), List.forall_mem_cons.mpr ⟨List.mem_cons_of_mem _ (List.mem_cons_of_mem _ (List.mem_cons_self)), List.forall_mem_cons.mpr ⟨List.mem_cons_of_mem _ (List.mem_cons_self), List.forall_mem_cons.mpr ⟨List.mem_cons_self, fun _ h => absurd h List.not_mem_nil⟩⟩⟩⟩⟩⟩)) ?_
                exact jn58 n39 60 f48_299 w304 (by omega) (by omega) (by omega) (hI306) (((((((hF33.tr (hF38.up (by decide))).tr (hF57.up (by decide))).tr (hF213.up (by decide))).tr (hF283.up (by decide))).tr (hF290.up (by decide))).tr (hF307.up (by decide))))
              · refine xg_t (xg_icF (u := f48_293) (v := 2) rfl xnm0 xnm0 (xj_eqF hc303)) ?_
                refine xg_t (xg_const) ?_
                exact xg_e ⟨0, w287, ⟨rfl, rfl⟩, by first | decide | omega, hI289, (((((hF33.tr (hF38.up (by decide))).tr (hF57.up (by decide))).tr (hF213.up (by decide))).tr (hF283.up (by decide))).tr (hF290.up (by decide)))⟩
  by_cases hc308 : n28 = 0
  · refine xg_t (xg_ifT (u := n28) rfl xnm0 (xj_eqT hc308)) ?_
    refine xg_t (xg_drop (l1 := [(0, (2, 43)), (1, (0, li)), (2, (0, n28))]) (List.forall_mem_cons.mpr ⟨List.mem_cons_of_mem _ (List.mem_cons_self), List.forall_mem_cons.mpr ⟨List.mem_cons_of_mem _ (List.mem_cons_of_mem _ (List.mem_cons_self)), List.forall_mem_cons.mpr ⟨List.mem_cons_self, fun _ h => absurd h List.not_mem_nil⟩⟩⟩)) ?_
    exact jn30 n28 w24 (by omega) (hI26) ((hF27.up (by decide)))
  · refine xg_t (xg_ifF (u := n28) rfl xnm0 (xj_eqF hc308)) ?_
    refine xg_t (xg_aload (va := (2, 43)) rfl rfl) ?_
    refine xg_t (xg_getf (va := (2, 48)) (hF27.get (by decide) h43_5) rfl) ?_
    refine xg_cVv mX8_advance (vs := []) (rest := []) (cn1 := 0) (sl1 := 0) rfl (tkAdvance48 (hI26)) rfl (hF27.get (by decide) h48_22) rfl rfl rfl rfl rfl rfl (fun w309 hq310 => ?_)
    obtain ⟨hI311, hF312⟩ := hq310
    refine xg_t (xg_drop (l1 := [(0, (2, 43)), (1, (0, li)), (2, (0, n28))]) (List.forall_mem_cons.mpr ⟨List.mem_cons_of_mem _ (List.mem_cons_self), List.forall_mem_cons.mpr ⟨List.mem_cons_of_mem _ (List.mem_cons_of_mem _ (List.mem_cons_self)), List.forall_mem_cons.mpr ⟨List.mem_cons_self, fun _ h => absurd h List.not_mem_nil⟩⟩⟩)) ?_
    exact jn30 n28 w309 (by omega) (hI311) (((hF27.up (by decide)).tr (hF312.up (by decide))))
theorem rtTests {li : Nat} (hI : xInv w) (hli : li ≤ 4294967295) : xPi (d + 7) mX6_readTests [(2, 43), (0, li)] w bd fc rr (fun n w' => (n ≤ 1) ∧ xInv w' ∧ xFr [43, 46, 47, 48] w w') := by
  refine xPi.of ?_
  show xTo (d + 7) mX6_readTests (0, [], [(0, (2, 43)), (1, (0, li))], [], (w, bd, fc, 0, 0, rr)) (fun φ => ∃ n w', xEnd 4 [(0, n)] (w', bd, fc, 0, 0, rr) φ ∧ (n ≤ 1) ∧ xInv w' ∧ xFr [43, 46, 47, 48] w w')
  refine xoC43 (xqc43 hI : cp43 (wget w 43)) (fun f43_1 f43_3 h43_5 hb2 hb4 => ?_)
  refine xg_t (xg_blq rfl) ?_
  refine xg_t (xg_const) ?_
  refine xg_t (xg_istore (l1 := [(0, (2, 43)), (1, (0, li))]) rfl rfl rfl) ?_
  refine xg_t (xg_drop (l1 := [(0, (2, 43)), (1, (0, li)), (2, (0, 0))]) (List.forall_mem_cons.mpr ⟨List.mem_cons_of_mem _ (List.mem_cons_self), List.forall_mem_cons.mpr ⟨List.mem_cons_of_mem _ (List.mem_cons_of_mem _ (List.mem_cons_self)), List.forall_mem_cons.mpr ⟨List.mem_cons_self, fun _ h => absurd h List.not_mem_nil⟩⟩⟩)) ?_
  have key6 : ∀ (m8 : Nat) (ki : Nat) (w9 : List (List xE)), 501 - ki < m8 → ki ≤ 501 → xInv w9 → xFr [43, 46, 47, 48] w w9 → xTo (d + 7) mX6_readTests (2, [], [(0, (2, 43)), (1, (0, li)), (2, (0, ki))], [], (w9, bd, fc, 0, 0, rr)) (fun φ => ∃ n w', xEnd 4 [(0, n)] (w', bd, fc, 0, 0, rr) φ ∧ (n ≤ 1) ∧ xInv w' ∧ xFr [43, 46, 47, 48] w w') := by
    intro m8
    induction m8 with
    | zero => intro ki w9 hz; exact absurd hz (Nat.not_lt_zero _)
    | succ m8 ih7 =>
      intro ki w9 hm13 hn12 hI10 hF11
      refine xg_t (xg_blq rfl) ?_
      refine xg_t (xg_iload (va := (0, ki)) rfl rfl) ?_
      refine xg_t (xg_sip) ?_
      by_cases hc14 : 500 < ki
      · refine xg_t (xg_icT (u := ki) (v := 500) rfl xnm0 xnm0 (xj_gtT hc14 (by omega))) ?_
        refine xg_t (xg_blq rfl) ?_
        refine xg_t (xg_const) ?_
        exact xg_e ⟨0, w9, ⟨rfl, rfl⟩, by first | decide | omega, hI10, hF11⟩
      · refine xg_t (xg_icF (u := ki) (v := 500) rfl xnm0 xnm0 (xj_gtF (by omega) (by omega))) ?_
        refine xg_t (xg_aload (va := (2, 43)) rfl rfl) ?_
        refine xoC43 (xqc43 hI10 : cp43 (wget w9 43)) (fun f43_15 f43_17 h43_19 hb16 hb18 => ?_)
        refine xg_t (xg_getf (va := (2, 48)) h43_19 rfl) ?_
        refine xoC48 (xqc48 hI10 : cp48 (wget w9 48)) (fun f48_20 f48_22 f48_24 f48_26 f48_28 h48_30 hb21 hb23 hb25 hb27 hb29 hb31 => ?_)
        refine xg_cVv mX8_advance (vs := []) (rest := []) (cn1 := 0) (sl1 := 0) rfl (tkAdvance48 (hI10)) rfl h48_30 rfl rfl rfl rfl rfl rfl (fun w32 hq33 => ?_)
        obtain ⟨hI34, hF35⟩ := hq33
        refine xg_t (xg_iload (va := (0, ki)) rfl rfl) ?_
        refine xg_t (xg_const) ?_
        by_cases hc36 : ki < 4
        · refine xg_t (xg_icT (u := ki) (v := 4) rfl xnm0 xnm0 (xj_ltT hc36 (by omega))) ?_
          refine xg_t (xg_blq rfl) ?_
          refine xg_t (xg_aload (va := (2, 43)) rfl rfl) ?_
          refine xg_t (xg_iload (va := (0, li)) rfl rfl) ?_
          refine xg_cVi mX6_readTest (vs := [(0, li)]) (rest := []) (cn1 := 0) (sl1 := 0) rfl (rtTest (hI34) (by omega)) rfl (hF35.get (by decide) h43_19) rfl rfl rfl rfl rfl rfl (fun n41 w37 hq38 => ?_)
          obtain ⟨hn42, hI39, hF40⟩ := hq38
          by_cases hc43 : n41 = 0
          · refine xg_t (xg_ifF (u := n41) rfl xnm0 (xj_neF hc43)) ?_
            refine xg_t (xg_const) ?_
            exact xg_e ⟨0, w37, ⟨rfl, rfl⟩, by first | decide | omega, hI39, ((hF11.tr (hF35.up (by decide))).tr (hF40.up (by decide)))⟩
          · refine xg_t (xg_ifT (u := n41) rfl xnm0 (xj_neT hc43)) ?_
            refine xg_t (xg_blq rfl) ?_
            refine xg_t (xg_aload (va := (2, 43)) rfl rfl) ?_
            refine xg_t (xg_getf (va := (2, 48)) (hF40.get (by decide) (hF35.get (by decide) h43_19)) rfl) ?_
            refine xg_t (xg_bip) ?_
            refine xoC48 (xqc48 hI39 : cp48 (wget w37 48)) (fun f48_44 f48_46 f48_48 f48_50 f48_52 h48_54 hb45 hb47 hb49 hb51 hb53 hb55 => ?_)
            refine xg_cVi mX8_isSign (vs := [(0, 58)]) (rest := []) (cn1 := 0) (sl1 := 0) rfl (tkIsSign48 (hI39) (by omega)) rfl h48_54 rfl rfl rfl rfl rfl rfl (fun n60 w56 hq57 => ?_)
            obtain ⟨hn61, hI58, hF59⟩ := hq57
            by_cases hc62 : n60 = 0
            · refine xg_t (xg_ifT (u := n60) rfl xnm0 (xj_eqT hc62)) ?_
              refine xg_t (xg_blq rfl) ?_
              refine xg_t (xg_aload (va := (2, 43)) rfl rfl) ?_
              refine xg_t (xg_getf (va := (2, 48)) (hF59.get (by decide) (hF40.get (by decide) (hF35.get (by decide) h43_19))) rfl) ?_
              refine xg_t (xg_ldcS) ?_
              refine xg_cVi mX8_isWord (vs := [(8, 122)]) (rest := []) (cn1 := 0) (sl1 := 0) rfl (tkIsWord48 (hI58) (i := 22) rfl) rfl (hF59.get (by decide) h48_54) rfl rfl rfl rfl rfl rfl (fun n67 w63 hq64 => ?_)
              obtain ⟨hn68, hI65, hF66⟩ := hq64
              by_cases hc69 : n67 = 0
              · refine xg_t (xg_ifF (u := n67) rfl xnm0 (xj_neF hc69)) ?_
                refine xg_t (xg_const) ?_
                exact xg_e ⟨0, w63, ⟨rfl, rfl⟩, by first | decide | omega, hI65, ((((hF11.tr (hF35.up (by decide))).tr (hF40.up (by decide))).tr (hF59.up (by decide))).tr (hF66.up (by decide)))⟩
              · refine xg_t (xg_ifT (u := n67) rfl xnm0 (xj_neT hc69)) ?_
                refine xg_t (xg_blq rfl) ?_
                refine xg_t (xg_iinc (u := ki) (z := ki + 1) (l1 := [(0, (2, 43)), (1, (0, li))]) rfl rfl (by omega) rfl) ?_
                refine xg_t (xg_goto) ?_
                refine xg_t (xg_drop (l1 := [(0, (2, 43)), (1, (0, li)), (2, (0, ki + 1))]) (List.forall_mem_cons.mpr ⟨List.mem_cons_of_mem _ (List.mem_cons_self), List.forall_mem_cons.mpr ⟨List.mem_cons_of_mem _ (List.mem_cons_of_mem _ (List.mem_cons_self)), List.forall_mem_cons.mpr ⟨List.mem_cons_self, fun _ h => absurd h List.not_mem_nil⟩⟩⟩)) ?_
                exact ih7 (ki + 1) w63 (by omega) (by omega) (hI65) (((((hF11.tr (hF35.up (by decide))).tr (hF40.up (by decide))).tr (hF59.up (by decide))).tr (hF66.up (by decide))))
            · refine xg_t (xg_ifF (u := n60) rfl xnm0 (xj_eqF hc62)) ?_
              refine xg_t (xg_aload (va := (2, 43)) rfl rfl) ?_
              refine xg_t (xg_getf (va := (2, 48)) (hF59.get (by decide) (hF40.get (by decide) (hF35.get (by decide) h43_19))) rfl) ?_
              refine xg_cVv mX8_advance (vs := []) (rest := []) (cn1 := 0) (sl1 := 0) rfl (tkAdvance48 (hI58)) rfl (hF59.get (by decide) h48_54) rfl rfl rfl rfl rfl rfl (fun w70 hq71 => ?_)
              obtain ⟨hI72, hF73⟩ := hq71
              refine xg_t (xg_const) ?_
              exact xg_e ⟨1, w70, ⟨rfl, rfl⟩, by first | decide | omega, hI72, ((((hF11.tr (hF35.up (by decide))).tr (hF40.up (by decide))).tr (hF59.up (by decide))).tr (hF73.up (by decide)))⟩
        · refine xg_t (xg_icF (u := ki) (v := 4) rfl xnm0 xnm0 (xj_ltF (by omega) (by omega))) ?_
          refine xg_t (xg_aload (va := (2, 43)) rfl rfl) ?_
          refine xg_cVv mX6_noteTooMany (vs := []) (rest := []) (cn1 := 0) (sl1 := 0) rfl (rtMany (hI34)) rfl (hF35.get (by decide) h43_19) rfl rfl rfl rfl rfl rfl (fun w74 hq75 => ?_)
          obtain ⟨hI76, hF77⟩ := hq75
          refine xg_t (xg_blq rfl) ?_
          refine xg_t (xg_aload (va := (2, 43)) rfl rfl) ?_
          refine xg_t (xg_iload (va := (0, li)) rfl rfl) ?_
          refine xoC43 (xqc43 hI76 : cp43 (wget w74 43)) (fun f43_78 f43_80 h43_82 hb79 hb81 => ?_)
          refine xg_cVi mX6_readTest (vs := [(0, li)]) (rest := []) (cn1 := 0) (sl1 := 0) rfl (rtTest (hI76) (by omega)) rfl h43_82 rfl rfl rfl rfl rfl rfl (fun n87 w83 hq84 => ?_)
          obtain ⟨hn88, hI85, hF86⟩ := hq84
          by_cases hc89 : n87 = 0
          · refine xg_t (xg_ifF (u := n87) rfl xnm0 (xj_neF hc89)) ?_
            refine xg_t (xg_const) ?_
            exact xg_e ⟨0, w83, ⟨rfl, rfl⟩, by first | decide | omega, hI85, (((hF11.tr (hF35.up (by decide))).tr (hF77.up (by decide))).tr (hF86.up (by decide)))⟩
          · refine xg_t (xg_ifT (u := n87) rfl xnm0 (xj_neT hc89)) ?_
            refine xg_t (xg_blq rfl) ?_
            refine xg_t (xg_aload (va := (2, 43)) rfl rfl) ?_
            refine xg_t (xg_getf (va := (2, 48)) (hF86.get (by decide) h43_82) rfl) ?_
            refine xg_t (xg_bip) ?_
            refine xoC48 (xqc48 hI85 : cp48 (wget w83 48)) (fun f48_90 f48_92 f48_94 f48_96 f48_98 h48_100 hb91 hb93 hb95 hb97 hb99 hb101 => ?_)
            refine xg_cVi mX8_isSign (vs := [(0, 58)]) (rest := []) (cn1 := 0) (sl1 := 0) rfl (tkIsSign48 (hI85) (by omega)) rfl h48_100 rfl rfl rfl rfl rfl rfl (fun n106 w102 hq103 => ?_)
            obtain ⟨hn107, hI104, hF105⟩ := hq103
            by_cases hc108 : n106 = 0
            · refine xg_t (xg_ifT (u := n106) rfl xnm0 (xj_eqT hc108)) ?_
              refine xg_t (xg_blq rfl) ?_
              refine xg_t (xg_aload (va := (2, 43)) rfl rfl) ?_
              refine xg_t (xg_getf (va := (2, 48)) (hF105.get (by decide) (hF86.get (by decide) h43_82)) rfl) ?_
              refine xg_t (xg_ldcS) ?_
              refine xg_cVi mX8_isWord (vs := [(8, 122)]) (rest := []) (cn1 := 0) (sl1 := 0) rfl (tkIsWord48 (hI104) (i := 22) rfl) rfl (hF105.get (by decide) h48_100) rfl rfl rfl rfl rfl rfl (fun n113 w109 hq110 => ?_)
              obtain ⟨hn114, hI111, hF112⟩ := hq110
              by_cases hc115 : n113 = 0
              · refine xg_t (xg_ifF (u := n113) rfl xnm0 (xj_neF hc115)) ?_
                refine xg_t (xg_const) ?_
                exact xg_e ⟨0, w109, ⟨rfl, rfl⟩, by first | decide | omega, hI111, (((((hF11.tr (hF35.up (by decide))).tr (hF77.up (by decide))).tr (hF86.up (by decide))).tr (hF105.up (by decide))).tr (hF112.up (by decide)))⟩
              · refine xg_t (xg_ifT (u := n113) rfl xnm0 (xj_neT hc115)) ?_
                refine xg_t (xg_blq rfl) ?_
                refine xg_t (xg_iinc (u := ki) (z := ki + 1) (l1 := [(0, (2, 43)), (1, (0, li))]) rfl rfl (by omega) rfl) ?_
                refine xg_t (xg_goto) ?_
                refine xg_t (xg_drop (l1 := [(0, (2, 43)), (1, (0, li)), (2, (0, ki + 1))]) (List.forall_mem_cons.mpr ⟨List.mem_cons_of_mem _ (List.mem_cons_self), List.forall_mem_cons.mpr ⟨List.mem_cons_of_mem _ (List.mem_cons_of_mem _ (List.mem_cons_self)), List.forall_mem_cons.mpr ⟨List.mem_cons_self, fun _ h => absurd h List.not_mem_nil⟩⟩⟩)) ?_
                exact ih7 (ki + 1) w109 (by omega) (by omega) (hI111) ((((((hF11.tr (hF35.up (by decide))).tr (hF77.up (by decide))).tr (hF86.up (by decide))).tr (hF105.up (by decide))).tr (hF112.up (by decide))))
            · refine xg_t (xg_ifF (u := n106) rfl xnm0 (xj_eqF hc108)) ?_
              refine xg_t (xg_aload (va := (2, 43)) rfl rfl) ?_
              refine xg_t (xg_getf (va := (2, 48)) (hF105.get (by decide) (hF86.get (by decide) h43_82)) rfl) ?_
              refine xg_cVv mX8_advance (vs := []) (rest := []) (cn1 := 0) (sl1 := 0) rfl (tkAdvance48 (hI104)) rfl (hF105.get (by decide) h48_100) rfl rfl rfl rfl rfl rfl (fun w116 hq117 => ?_)
              obtain ⟨hI118, hF119⟩ := hq117
              refine xg_t (xg_const) ?_
              exact xg_e ⟨1, w116, ⟨rfl, rfl⟩, by first | decide | omega, hI118, (((((hF11.tr (hF35.up (by decide))).tr (hF77.up (by decide))).tr (hF86.up (by decide))).tr (hF105.up (by decide))).tr (hF119.up (by decide)))⟩
  exact key6 _ 0 w (Nat.lt_succ_self _) (by omega) (hI) (xFr.rf)
theorem rtLine (hI : xInv w)  : xPi (d + 8) mX6_readLine [(2, 43)] w bd fc rr (fun n w' => (n ≤ 1) ∧ xInv w' ∧ xFr [43, 44, 45, 46, 47, 48] w w') := by
  refine xPi.of ?_
  show xTo (d + 8) mX6_readLine (0, [], [(0, (2, 43))], [], (w, bd, fc, 0, 0, rr)) (fun φ => ∃ n w', xEnd 4 [(0, n)] (w', bd, fc, 0, 0, rr) φ ∧ (n ≤ 1) ∧ xInv w' ∧ xFr [43, 44, 45, 46, 47, 48] w w')
  refine xoC43 (xqc43 hI : cp43 (wget w 43)) (fun f43_1 f43_3 h43_5 hb2 hb4 => ?_)
  obtain ⟨f44_6, h44_8, hb7⟩ := (xqc44 hI : cp44 (wget w 44))
  refine xoI (xqc45 hI : cpI 32 21 4294967295 (wget w 45)) (fun g45_9 h45_10 hb11 => ?_)
  refine xg_t (xg_blq rfl) ?_
  refine xg_t (xg_aload (va := (2, 43)) rfl rfl) ?_
  refine xg_t (xg_getf (va := (2, 44)) h43_5 rfl) ?_
  refine xg_t (xg_cVr mX5_isFull (vs := []) (rest := []) (rs := [(0, if 16 ≤ f44_6 then 1 else 0)]) (cn1 := 0) (sl1 := 0) rfl (rfull_ok h44_8 (by decide) (by omega)) rfl h44_8 rfl rfl rfl rfl rfl rfl rfl) ?_
  by_cases hc12 : 16 ≤ f44_6
  · refine xg_t (xg_ifF (u := (if 16 ≤ f44_6 then 1 else 0)) rfl xnm0 (xj_eqF (xite1 hc12))) ?_
    refine xg_t (xg_aload (va := (2, 43)) rfl rfl) ?_
    refine xg_cVv mX6_noteTooMany (vs := []) (rest := []) (cn1 := 0) (sl1 := 0) rfl (rtMany (hI)) rfl h43_5 rfl rfl rfl rfl rfl rfl (fun w13 hq14 => ?_)
    obtain ⟨hI15, hF16⟩ := hq14
    refine xg_t (xg_blq rfl) ?_
    refine xg_t (xg_aload (va := (2, 43)) rfl rfl) ?_
    refine xoC43 (xqc43 hI15 : cp43 (wget w13 43)) (fun f43_17 f43_19 h43_21 hb18 hb20 => ?_)
    refine xg_t (xg_getf (va := (2, 44)) h43_21 rfl) ?_
    refine xg_cVi mX5_grow (vs := []) (rest := []) (cn1 := 0) (sl1 := 0) rfl (rgrowI (hF16.get (by decide) h44_8) (by decide) (by omega)) rfl (hF16.get (by decide) h44_8) rfl rfl rfl rfl rfl rfl (fun n24 w22 hq23 => ?_)
    obtain ⟨hn25, s26, hs27, hk28, hb29⟩ := hq23
    refine xg_t (xg_istore (l1 := [(0, (2, 43))]) rfl rfl rfl) ?_
    refine xg_t (xg_aload (va := (2, 43)) rfl rfl) ?_
    refine xg_t (xg_getf (va := (2, 48)) (hb29.get (by decide) h43_21) rfl) ?_
    refine xg_t (xg_ldcS) ?_
    refine xoC48 (xqc48 hI15 : cp48 (wget w13 48)) (fun f48_30 f48_32 f48_34 f48_36 f48_38 h48_40 hb31 hb33 hb35 hb37 hb39 hb41 => ?_)
    refine xg_cVi mX8_isWord (vs := [(8, 120)]) (rest := []) (cn1 := 0) (sl1 := 0) rfl (tkIsWord48 (xInv.up (S := [44]) hI15 (xFr.of (S := [44]) hb29 (by decide)) (List.forall_mem_cons.mpr ⟨xqu44 (show cp44 (wget w22 44) from ⟨s26, hk28, by omega⟩), fun _ h => absurd h List.not_mem_nil⟩)) (i := 20) rfl) rfl (hb29.get (by decide) h48_40) rfl rfl rfl rfl rfl rfl (fun n46 w42 hq43 => ?_)
    obtain ⟨hn47, hI44, hF45⟩ := hq43
    by_cases hc48 : n46 = 0
    · refine xg_t (xg_ifT (u := n46) rfl xnm0 (xj_eqT hc48)) ?_
      refine xg_t (xg_blq rfl) ?_
      refine xg_t (xg_aload (va := (2, 43)) rfl rfl) ?_
      refine xg_cVi mX6_verbOfWord (vs := []) (rest := []) (cn1 := 0) (sl1 := 0) rfl (rtVerb (hI44)) rfl (hF45.get (by decide) (hb29.get (by decide) h43_21)) rfl rfl rfl rfl rfl rfl (fun n53 w49 hq50 => ?_)
      obtain ⟨hn54, hI51, hF52⟩ := hq50
      refine xg_t (xg_istore (l1 := [(1, (0, n24)), (0, (2, 43))]) rfl rfl rfl) ?_
      refine xg_t (xg_const) ?_
      refine xg_t (xg_istore (l1 := [(2, (0, n53)), (1, (0, n24)), (0, (2, 43))]) rfl rfl rfl) ?_
      refine xg_t (xg_iload (va := (0, n53)) rfl rfl) ?_
      refine xg_t (xg_const) ?_
      by_cases hc55 : n53 = 4294967295
      · refine xg_t (xg_icF (u := n53) (v := 4294967295) rfl xnm0 xnm0 (xj_neF hc55)) ?_
        refine xg_t (xg_const) ?_
        exact xg_e ⟨0, w49, ⟨rfl, rfl⟩, by first | decide | omega, hI51, ((((hF16.up (by decide)).tr (xFr.of (S := [43, 44, 45, 46, 47, 48]) hb29 (by decide))).tr (hF45.up (by decide))).tr (hF52.up (by decide)))⟩
      · refine xg_t (xg_icT (u := n53) (v := 4294967295) rfl xnm0 xnm0 (xj_neT hc55)) ?_
        refine xg_t (xg_blq rfl) ?_
        refine xg_t (xg_aload (va := (2, 43)) rfl rfl) ?_
        refine xg_t (xg_getf (va := (2, 48)) (hF52.get (by decide) (hF45.get (by decide) (hb29.get (by decide) h43_21))) rfl) ?_
        refine xg_cVv mX8_advance (vs := []) (rest := []) (cn1 := 0) (sl1 := 0) rfl (tkAdvance48 (hI51)) rfl (hF52.get (by decide) (hF45.get (by decide) (hb29.get (by decide) h48_40))) rfl rfl rfl rfl rfl rfl (fun w56 hq57 => ?_)
        obtain ⟨hI58, hF59⟩ := hq57
        refine xg_t (xg_iload (va := (0, n53)) rfl rfl) ?_
        by_cases hc60 : n53 = 0
        · refine xg_t (xg_ifT (u := n53) rfl xnm0 (xj_eqT hc60)) ?_
          refine xg_t (xg_blq rfl) ?_
          refine xg_t (xg_aload (va := (2, 43)) rfl rfl) ?_
          refine xg_t (xg_getf (va := (2, 48)) (hF59.get (by decide) (hF52.get (by decide) (hF45.get (by decide) (hb29.get (by decide) h43_21)))) rfl) ?_
          refine xg_t (xg_bip) ?_
          refine xoC48 (xqc48 hI58 : cp48 (wget w56 48)) (fun f48_61 f48_63 f48_65 f48_67 f48_69 h48_71 hb62 hb64 hb66 hb68 hb70 hb72 => ?_)
          refine xg_cVi mX8_isSign (vs := [(0, 59)]) (rest := []) (cn1 := 0) (sl1 := 0) rfl (tkIsSign48 (hI58) (by omega)) rfl h48_71 rfl rfl rfl rfl rfl rfl (fun n77 w73 hq74 => ?_)
          obtain ⟨hn78, hI75, hF76⟩ := hq74
          by_cases hc79 : n77 = 0
          · refine xg_t (xg_ifF (u := n77) rfl xnm0 (xj_neF hc79)) ?_
            refine xg_t (xg_const) ?_
            exact xg_e ⟨0, w73, ⟨rfl, rfl⟩, by first | decide | omega, hI75, ((((((hF16.up (by decide)).tr (xFr.of (S := [43, 44, 45, 46, 47, 48]) hb29 (by decide))).tr (hF45.up (by decide))).tr (hF52.up (by decide))).tr (hF59.up (by decide))).tr (hF76.up (by decide)))⟩
          · refine xg_t (xg_ifT (u := n77) rfl xnm0 (xj_neT hc79)) ?_
            refine xg_t (xg_blq rfl) ?_
            refine xg_t (xg_aload (va := (2, 43)) rfl rfl) ?_
            refine xg_t (xg_getf (va := (2, 48)) (hF76.get (by decide) (hF59.get (by decide) (hF52.get (by decide) (hF45.get (by decide) (hb29.get (by decide) h43_21))))) rfl) ?_
            refine xg_cVv mX8_advance (vs := []) (rest := []) (cn1 := 0) (sl1 := 0) rfl (tkAdvance48 (hI75)) rfl (hF76.get (by decide) h48_71) rfl rfl rfl rfl rfl rfl (fun w80 hq81 => ?_)
            obtain ⟨hI82, hF83⟩ := hq81
            refine xg_t (xg_aload (va := (2, 43)) rfl rfl) ?_
            refine xg_t (xg_getf (va := (2, 44)) (hF83.get (by decide) (hF76.get (by decide) (hF59.get (by decide) (hF52.get (by decide) (hF45.get (by decide) (hb29.get (by decide) h43_21)))))) rfl) ?_
            refine xg_t (xg_iload (va := (0, n24)) rfl rfl) ?_
            refine xg_t (xg_const) ?_
            refine xg_t (xg_iload (va := (0, n53)) rfl rfl) ?_
            refine xg_cVv mX5_put (vs := [(0, n24), (0, 0), (0, n53)]) (rest := []) (cn1 := 0) (sl1 := 0) rfl (rputI (lim := 16) (wd := 2) (B := 4294967295) (hF83.get (by decide) (hF76.get (by decide) (hF59.get (by decide) (hF52.get (by decide) (hF45.get (by decide) hk28))))) (((((((h45_10.fr hF16 (by decide)).but hb29 (by decide)).fr hF45 (by decide)).fr hF52 (by decide)).fr hF59 (by decide)).fr hF76 (by decide)).fr hF83 (by decide)) (hb11) (by decide) (by omega) (by decide) (by decide) (by omega) (by omega) (by omega)) rfl (hF83.get (by decide) (hF76.get (by decide) (hF59.get (by decide) (hF52.get (by decide) (hF45.get (by decide) hk28))))) rfl rfl rfl rfl rfl rfl (fun w84 hq85 => ?_)
            obtain ⟨g86, hr87, hb88, hb89⟩ := hq85
            refine xg_t (xg_aload (va := (2, 43)) rfl rfl) ?_
            refine xg_t (xg_getf (va := (2, 44)) (hb89.get (by decide) (hF83.get (by decide) (hF76.get (by decide) (hF59.get (by decide) (hF52.get (by decide) (hF45.get (by decide) (hb29.get (by decide) h43_21))))))) rfl) ?_
            refine xg_t (xg_iload (va := (0, n24)) rfl rfl) ?_
            refine xg_t (xg_const) ?_
            refine xg_t (xg_iload (va := (0, 0)) rfl rfl) ?_
            refine xg_cVv mX5_put (vs := [(0, n24), (0, 1), (0, 0)]) (rest := []) (cn1 := 0) (sl1 := 0) rfl (rputI (lim := 16) (wd := 2) (B := 4294967295) (hb89.get (by decide) (hF83.get (by decide) (hF76.get (by decide) (hF59.get (by decide) (hF52.get (by decide) (hF45.get (by decide) hk28)))))) hr87 (hb88) (by decide) (by omega) (by decide) (by decide) (by omega) (by omega) (by omega)) rfl (hb89.get (by decide) (hF83.get (by decide) (hF76.get (by decide) (hF59.get (by decide) (hF52.get (by decide) (hF45.get (by decide) hk28)))))) rfl rfl rfl rfl rfl rfl (fun w90 hq91 => ?_)
            obtain ⟨g92, hr93, hb94, hb95⟩ := hq91
            refine xg_t (xg_const) ?_
            exact xg_e ⟨1, w90, ⟨rfl, rfl⟩, by first | decide | omega, xInv.up (S := [45]) hI82 ((xFr.of (S := [45]) hb89 (by decide)).tr (xFr.of (S := [45]) hb95 (by decide))) (List.forall_mem_cons.mpr ⟨xqu45 (show cpI 32 21 4294967295 (wget w90 45) from ⟨_, hr93, hb94⟩), fun _ h => absurd h List.not_mem_nil⟩), ((((((((hF16.up (by decide)).tr (xFr.of (S := [43, 44, 45, 46, 47, 48]) hb29 (by decide))).tr (hF45.up (by decide))).tr (hF52.up (by decide))).tr (hF59.up (by decide))).tr (hF76.up (by decide))).tr (hF83.up (by decide))).tr ((xFr.of (S := [43, 44, 45, 46, 47, 48]) hb89 (by decide)).tr (xFr.of (S := [43, 44, 45, 46, 47, 48]) hb95 (by decide))))⟩
        · refine xg_t (xg_ifF (u := n53) rfl xnm0 (xj_eqF hc60)) ?_
          refine xg_t (xg_aload (va := (2, 43)) rfl rfl) ?_
          refine xg_t (xg_getf (va := (2, 48)) (hF59.get (by decide) (hF52.get (by decide) (hF45.get (by decide) (hb29.get (by decide) h43_21)))) rfl) ?_
          refine xoC48 (xqc48 hI58 : cp48 (wget w56 48)) (fun f48_96 f48_98 f48_100 f48_102 f48_104 h48_106 hb97 hb99 hb101 hb103 hb105 hb107 => ?_)
          refine xg_t (xg_getf (va := (0, f48_98)) h48_106 rfl) ?_
          refine xg_t (xg_const) ?_
          by_cases hc108 : f48_98 = 2
          · refine xg_t (xg_icT (u := f48_98) (v := 2) rfl xnm0 xnm0 (xj_eqT hc108)) ?_
            refine xg_t (xg_blq rfl) ?_
            refine xg_t (xg_aload (va := (2, 43)) rfl rfl) ?_
            refine xg_t (xg_getf (va := (2, 48)) (hF59.get (by decide) (hF52.get (by decide) (hF45.get (by decide) (hb29.get (by decide) h43_21)))) rfl) ?_
            refine xg_t (xg_getf (va := (0, f48_104)) h48_106 rfl) ?_
            refine xg_t (xg_istore (l1 := [(2, (0, n53)), (1, (0, n24)), (0, (2, 43))]) rfl rfl rfl) ?_
            refine xg_t (xg_aload (va := (2, 43)) rfl rfl) ?_
            refine xg_t (xg_getf (va := (2, 48)) (hF59.get (by decide) (hF52.get (by decide) (hF45.get (by decide) (hb29.get (by decide) h43_21)))) rfl) ?_
            refine xg_cVv mX8_advance (vs := []) (rest := []) (cn1 := 0) (sl1 := 0) rfl (tkAdvance48 (hI58)) rfl h48_106 rfl rfl rfl rfl rfl rfl (fun w109 hq110 => ?_)
            obtain ⟨hI111, hF112⟩ := hq110
            refine xg_t (xg_blq rfl) ?_
            refine xg_t (xg_aload (va := (2, 43)) rfl rfl) ?_
            refine xg_t (xg_getf (va := (2, 48)) (hF112.get (by decide) (hF59.get (by decide) (hF52.get (by decide) (hF45.get (by decide) (hb29.get (by decide) h43_21))))) rfl) ?_
            refine xg_t (xg_bip) ?_
            refine xoC48 (xqc48 hI111 : cp48 (wget w109 48)) (fun f48_113 f48_115 f48_117 f48_119 f48_121 h48_123 hb114 hb116 hb118 hb120 hb122 hb124 => ?_)
            refine xg_cVi mX8_isSign (vs := [(0, 59)]) (rest := []) (cn1 := 0) (sl1 := 0) rfl (tkIsSign48 (hI111) (by omega)) rfl h48_123 rfl rfl rfl rfl rfl rfl (fun n129 w125 hq126 => ?_)
            obtain ⟨hn130, hI127, hF128⟩ := hq126
            by_cases hc131 : n129 = 0
            · refine xg_t (xg_ifF (u := n129) rfl xnm0 (xj_neF hc131)) ?_
              refine xg_t (xg_const) ?_
              exact xg_e ⟨0, w125, ⟨rfl, rfl⟩, by first | decide | omega, hI127, (((((((hF16.up (by decide)).tr (xFr.of (S := [43, 44, 45, 46, 47, 48]) hb29 (by decide))).tr (hF45.up (by decide))).tr (hF52.up (by decide))).tr (hF59.up (by decide))).tr (hF112.up (by decide))).tr (hF128.up (by decide)))⟩
            · refine xg_t (xg_ifT (u := n129) rfl xnm0 (xj_neT hc131)) ?_
              refine xg_t (xg_blq rfl) ?_
              refine xg_t (xg_aload (va := (2, 43)) rfl rfl) ?_
              refine xg_t (xg_getf (va := (2, 48)) (hF128.get (by decide) (hF112.get (by decide) (hF59.get (by decide) (hF52.get (by decide) (hF45.get (by decide) (hb29.get (by decide) h43_21)))))) rfl) ?_
              refine xg_cVv mX8_advance (vs := []) (rest := []) (cn1 := 0) (sl1 := 0) rfl (tkAdvance48 (hI127)) rfl (hF128.get (by decide) h48_123) rfl rfl rfl rfl rfl rfl (fun w132 hq133 => ?_)
              obtain ⟨hI134, hF135⟩ := hq133
              refine xg_t (xg_aload (va := (2, 43)) rfl rfl) ?_
              refine xg_t (xg_getf (va := (2, 44)) (hF135.get (by decide) (hF128.get (by decide) (hF112.get (by decide) (hF59.get (by decide) (hF52.get (by decide) (hF45.get (by decide) (hb29.get (by decide) h43_21))))))) rfl) ?_
              refine xg_t (xg_iload (va := (0, n24)) rfl rfl) ?_
              refine xg_t (xg_const) ?_
              refine xg_t (xg_iload (va := (0, n53)) rfl rfl) ?_
              refine xg_cVv mX5_put (vs := [(0, n24), (0, 0), (0, n53)]) (rest := []) (cn1 := 0) (sl1 := 0) rfl (rputI (lim := 16) (wd := 2) (B := 4294967295) (hF135.get (by decide) (hF128.get (by decide) (hF112.get (by decide) (hF59.get (by decide) (hF52.get (by decide) (hF45.get (by decide) hk28)))))) ((((((((h45_10.fr hF16 (by decide)).but hb29 (by decide)).fr hF45 (by decide)).fr hF52 (by decide)).fr hF59 (by decide)).fr hF112 (by decide)).fr hF128 (by decide)).fr hF135 (by decide)) (hb11) (by decide) (by omega) (by decide) (by decide) (by omega) (by omega) (by omega)) rfl (hF135.get (by decide) (hF128.get (by decide) (hF112.get (by decide) (hF59.get (by decide) (hF52.get (by decide) (hF45.get (by decide) hk28)))))) rfl rfl rfl rfl rfl rfl (fun w136 hq137 => ?_)
              obtain ⟨g138, hr139, hb140, hb141⟩ := hq137
              refine xg_t (xg_aload (va := (2, 43)) rfl rfl) ?_
              refine xg_t (xg_getf (va := (2, 44)) (hb141.get (by decide) (hF135.get (by decide) (hF128.get (by decide) (hF112.get (by decide) (hF59.get (by decide) (hF52.get (by decide) (hF45.get (by decide) (hb29.get (by decide) h43_21)))))))) rfl) ?_
              refine xg_t (xg_iload (va := (0, n24)) rfl rfl) ?_
              refine xg_t (xg_const) ?_
              refine xg_t (xg_iload (va := (0, f48_104)) rfl rfl) ?_
              refine xg_cVv mX5_put (vs := [(0, n24), (0, 1), (0, f48_104)]) (rest := []) (cn1 := 0) (sl1 := 0) rfl (rputI (lim := 16) (wd := 2) (B := 4294967295) (hb141.get (by decide) (hF135.get (by decide) (hF128.get (by decide) (hF112.get (by decide) (hF59.get (by decide) (hF52.get (by decide) (hF45.get (by decide) hk28))))))) hr139 (hb140) (by decide) (by omega) (by decide) (by decide) (by omega) (by omega) (by omega)) rfl (hb141.get (by decide) (hF135.get (by decide) (hF128.get (by decide) (hF112.get (by decide) (hF59.get (by decide) (hF52.get (by decide) (hF45.get (by decide) hk28))))))) rfl rfl rfl rfl rfl rfl (fun w142 hq143 => ?_)
              obtain ⟨g144, hr145, hb146, hb147⟩ := hq143
              refine xg_t (xg_const) ?_
              exact xg_e ⟨1, w142, ⟨rfl, rfl⟩, by first | decide | omega, xInv.up (S := [45]) hI134 ((xFr.of (S := [45]) hb141 (by decide)).tr (xFr.of (S := [45]) hb147 (by decide))) (List.forall_mem_cons.mpr ⟨xqu45 (show cpI 32 21 4294967295 (wget w142 45) from ⟨_, hr145, hb146⟩), fun _ h => absurd h List.not_mem_nil⟩), (((((((((hF16.up (by decide)).tr (xFr.of (S := [43, 44, 45, 46, 47, 48]) hb29 (by decide))).tr (hF45.up (by decide))).tr (hF52.up (by decide))).tr (hF59.up (by decide))).tr (hF112.up (by decide))).tr (hF128.up (by decide))).tr (hF135.up (by decide))).tr ((xFr.of (S := [43, 44, 45, 46, 47, 48]) hb141 (by decide)).tr (xFr.of (S := [43, 44, 45, 46, 47, 48]) hb147 (by decide))))⟩
          · refine xg_t (xg_icF (u := f48_98) (v := 2) rfl xnm0 xnm0 (xj_eqF hc108)) ?_
            refine xg_t (xg_const) ?_
            exact xg_e ⟨0, w56, ⟨rfl, rfl⟩, by first | decide | omega, hI58, (((((hF16.up (by decide)).tr (xFr.of (S := [43, 44, 45, 46, 47, 48]) hb29 (by decide))).tr (hF45.up (by decide))).tr (hF52.up (by decide))).tr (hF59.up (by decide)))⟩
    · refine xg_t (xg_ifF (u := n46) rfl xnm0 (xj_eqF hc48)) ?_
      refine xg_t (xg_aload (va := (2, 43)) rfl rfl) ?_
      refine xg_t (xg_iload (va := (0, n24)) rfl rfl) ?_
      refine xg_cVi mX6_readTests (vs := [(0, n24)]) (rest := []) (cn1 := 0) (sl1 := 0) rfl (rtTests (hI44) (by omega)) rfl (hF45.get (by decide) (hb29.get (by decide) h43_21)) rfl rfl rfl rfl rfl rfl (fun n152 w148 hq149 => ?_)
      obtain ⟨hn153, hI150, hF151⟩ := hq149
      by_cases hc154 : n152 = 0
      · refine xg_t (xg_ifF (u := n152) rfl xnm0 (xj_neF hc154)) ?_
        refine xg_t (xg_const) ?_
        exact xg_e ⟨0, w148, ⟨rfl, rfl⟩, by first | decide | omega, hI150, ((((hF16.up (by decide)).tr (xFr.of (S := [43, 44, 45, 46, 47, 48]) hb29 (by decide))).tr (hF45.up (by decide))).tr (hF151.up (by decide)))⟩
      · refine xg_t (xg_ifT (u := n152) rfl xnm0 (xj_neT hc154)) ?_
        refine xg_t (xg_blq rfl) ?_
        refine xg_t (xg_aload (va := (2, 43)) rfl rfl) ?_
        refine xoC43 (xqc43 hI150 : cp43 (wget w148 43)) (fun f43_155 f43_157 h43_159 hb156 hb158 => ?_)
        refine xg_cVi mX6_verbOfWord (vs := []) (rest := []) (cn1 := 0) (sl1 := 0) rfl (rtVerb (hI150)) rfl h43_159 rfl rfl rfl rfl rfl rfl (fun n164 w160 hq161 => ?_)
        obtain ⟨hn165, hI162, hF163⟩ := hq161
        refine xg_t (xg_istore (l1 := [(1, (0, n24)), (0, (2, 43))]) rfl rfl rfl) ?_
        refine xg_t (xg_const) ?_
        refine xg_t (xg_istore (l1 := [(2, (0, n164)), (1, (0, n24)), (0, (2, 43))]) rfl rfl rfl) ?_
        refine xg_t (xg_iload (va := (0, n164)) rfl rfl) ?_
        refine xg_t (xg_const) ?_
        by_cases hc166 : n164 = 4294967295
        · refine xg_t (xg_icF (u := n164) (v := 4294967295) rfl xnm0 xnm0 (xj_neF hc166)) ?_
          refine xg_t (xg_const) ?_
          exact xg_e ⟨0, w160, ⟨rfl, rfl⟩, by first | decide | omega, hI162, (((((hF16.up (by decide)).tr (xFr.of (S := [43, 44, 45, 46, 47, 48]) hb29 (by decide))).tr (hF45.up (by decide))).tr (hF151.up (by decide))).tr (hF163.up (by decide)))⟩
        · refine xg_t (xg_icT (u := n164) (v := 4294967295) rfl xnm0 xnm0 (xj_neT hc166)) ?_
          refine xg_t (xg_blq rfl) ?_
          refine xg_t (xg_aload (va := (2, 43)) rfl rfl) ?_
          refine xg_t (xg_getf (va := (2, 48)) (hF163.get (by decide) h43_159) rfl) ?_
          refine xoC48 (xqc48 hI162 : cp48 (wget w160 48)) (fun f48_167 f48_169 f48_171 f48_173 f48_175 h48_177 hb168 hb170 hb172 hb174 hb176 hb178 => ?_)
          refine xg_cVv mX8_advance (vs := []) (rest := []) (cn1 := 0) (sl1 := 0) rfl (tkAdvance48 (hI162)) rfl h48_177 rfl rfl rfl rfl rfl rfl (fun w179 hq180 => ?_)
          obtain ⟨hI181, hF182⟩ := hq180
          refine xg_t (xg_iload (va := (0, n164)) rfl rfl) ?_
          by_cases hc183 : n164 = 0
          · refine xg_t (xg_ifT (u := n164) rfl xnm0 (xj_eqT hc183)) ?_
            refine xg_t (xg_blq rfl) ?_
            refine xg_t (xg_aload (va := (2, 43)) rfl rfl) ?_
            refine xg_t (xg_getf (va := (2, 48)) (hF182.get (by decide) (hF163.get (by decide) h43_159)) rfl) ?_
            refine xg_t (xg_bip) ?_
            refine xoC48 (xqc48 hI181 : cp48 (wget w179 48)) (fun f48_184 f48_186 f48_188 f48_190 f48_192 h48_194 hb185 hb187 hb189 hb191 hb193 hb195 => ?_)
            refine xg_cVi mX8_isSign (vs := [(0, 59)]) (rest := []) (cn1 := 0) (sl1 := 0) rfl (tkIsSign48 (hI181) (by omega)) rfl h48_194 rfl rfl rfl rfl rfl rfl (fun n200 w196 hq197 => ?_)
            obtain ⟨hn201, hI198, hF199⟩ := hq197
            by_cases hc202 : n200 = 0
            · refine xg_t (xg_ifF (u := n200) rfl xnm0 (xj_neF hc202)) ?_
              refine xg_t (xg_const) ?_
              exact xg_e ⟨0, w196, ⟨rfl, rfl⟩, by first | decide | omega, hI198, (((((((hF16.up (by decide)).tr (xFr.of (S := [43, 44, 45, 46, 47, 48]) hb29 (by decide))).tr (hF45.up (by decide))).tr (hF151.up (by decide))).tr (hF163.up (by decide))).tr (hF182.up (by decide))).tr (hF199.up (by decide)))⟩
            · refine xg_t (xg_ifT (u := n200) rfl xnm0 (xj_neT hc202)) ?_
              refine xg_t (xg_blq rfl) ?_
              refine xg_t (xg_aload (va := (2, 43)) rfl rfl) ?_
              refine xg_t (xg_getf (va := (2, 48)) (hF199.get (by decide) (hF182.get (by decide) (hF163.get (by decide) h43_159))) rfl) ?_
              refine xg_cVv mX8_advance (vs := []) (rest := []) (cn1 := 0) (sl1 := 0) rfl (tkAdvance48 (hI198)) rfl (hF199.get (by decide) h48_194) rfl rfl rfl rfl rfl rfl (fun w203 hq204 => ?_)
              obtain ⟨hI205, hF206⟩ := hq204
              refine xg_t (xg_aload (va := (2, 43)) rfl rfl) ?_
              refine xg_t (xg_getf (va := (2, 44)) (hF206.get (by decide) (hF199.get (by decide) (hF182.get (by decide) (hF163.get (by decide) h43_159)))) rfl) ?_
              refine xg_t (xg_iload (va := (0, n24)) rfl rfl) ?_
              refine xg_t (xg_const) ?_
              refine xg_t (xg_iload (va := (0, n164)) rfl rfl) ?_
              refine xg_cVv mX5_put (vs := [(0, n24), (0, 0), (0, n164)]) (rest := []) (cn1 := 0) (sl1 := 0) rfl (rputI (lim := 16) (wd := 2) (B := 4294967295) (hF206.get (by decide) (hF199.get (by decide) (hF182.get (by decide) (hF163.get (by decide) (hF151.get (by decide) (hF45.get (by decide) hk28)))))) ((((((((h45_10.fr hF16 (by decide)).but hb29 (by decide)).fr hF45 (by decide)).fr hF151 (by decide)).fr hF163 (by decide)).fr hF182 (by decide)).fr hF199 (by decide)).fr hF206 (by decide)) (hb11) (by decide) (by omega) (by decide) (by decide) (by omega) (by omega) (by omega)) rfl (hF206.get (by decide) (hF199.get (by decide) (hF182.get (by decide) (hF163.get (by decide) (hF151.get (by decide) (hF45.get (by decide) hk28)))))) rfl rfl rfl rfl rfl rfl (fun w207 hq208 => ?_)
              obtain ⟨g209, hr210, hb211, hb212⟩ := hq208
              refine xg_t (xg_aload (va := (2, 43)) rfl rfl) ?_
              refine xg_t (xg_getf (va := (2, 44)) (hb212.get (by decide) (hF206.get (by decide) (hF199.get (by decide) (hF182.get (by decide) (hF163.get (by decide) h43_159))))) rfl) ?_
              refine xg_t (xg_iload (va := (0, n24)) rfl rfl) ?_
              refine xg_t (xg_const) ?_
              refine xg_t (xg_iload (va := (0, 0)) rfl rfl) ?_
              refine xg_cVv mX5_put (vs := [(0, n24), (0, 1), (0, 0)]) (rest := []) (cn1 := 0) (sl1 := 0) rfl (rputI (lim := 16) (wd := 2) (B := 4294967295) (hb212.get (by decide) (hF206.get (by decide) (hF199.get (by decide) (hF182.get (by decide) (hF163.get (by decide) (hF151.get (by decide) (hF45.get (by decide) hk28))))))) hr210 (hb211) (by decide) (by omega) (by decide) (by decide) (by omega) (by omega) (by omega)) rfl (hb212.get (by decide) (hF206.get (by decide) (hF199.get (by decide) (hF182.get (by decide) (hF163.get (by decide) (hF151.get (by decide) (hF45.get (by decide) hk28))))))) rfl rfl rfl rfl rfl rfl (fun w213 hq214 => ?_)
              obtain ⟨g215, hr216, hb217, hb218⟩ := hq214
              refine xg_t (xg_const) ?_
              exact xg_e ⟨1, w213, ⟨rfl, rfl⟩, by first | decide | omega, xInv.up (S := [45]) hI205 ((xFr.of (S := [45]) hb212 (by decide)).tr (xFr.of (S := [45]) hb218 (by decide))) (List.forall_mem_cons.mpr ⟨xqu45 (show cpI 32 21 4294967295 (wget w213 45) from ⟨_, hr216, hb217⟩), fun _ h => absurd h List.not_mem_nil⟩), (((((((((hF16.up (by decide)).tr (xFr.of (S := [43, 44, 45, 46, 47, 48]) hb29 (by decide))).tr (hF45.up (by decide))).tr (hF151.up (by decide))).tr (hF163.up (by decide))).tr (hF182.up (by decide))).tr (hF199.up (by decide))).tr (hF206.up (by decide))).tr ((xFr.of (S := [43, 44, 45, 46, 47, 48]) hb212 (by decide)).tr (xFr.of (S := [43, 44, 45, 46, 47, 48]) hb218 (by decide))))⟩
          · refine xg_t (xg_ifF (u := n164) rfl xnm0 (xj_eqF hc183)) ?_
            refine xg_t (xg_aload (va := (2, 43)) rfl rfl) ?_
            refine xg_t (xg_getf (va := (2, 48)) (hF182.get (by decide) (hF163.get (by decide) h43_159)) rfl) ?_
            refine xoC48 (xqc48 hI181 : cp48 (wget w179 48)) (fun f48_219 f48_221 f48_223 f48_225 f48_227 h48_229 hb220 hb222 hb224 hb226 hb228 hb230 => ?_)
            refine xg_t (xg_getf (va := (0, f48_221)) h48_229 rfl) ?_
            refine xg_t (xg_const) ?_
            by_cases hc231 : f48_221 = 2
            · refine xg_t (xg_icT (u := f48_221) (v := 2) rfl xnm0 xnm0 (xj_eqT hc231)) ?_
              refine xg_t (xg_blq rfl) ?_
              refine xg_t (xg_aload (va := (2, 43)) rfl rfl) ?_
              refine xg_t (xg_getf (va := (2, 48)) (hF182.get (by decide) (hF163.get (by decide) h43_159)) rfl) ?_
              refine xg_t (xg_getf (va := (0, f48_227)) h48_229 rfl) ?_
              refine xg_t (xg_istore (l1 := [(2, (0, n164)), (1, (0, n24)), (0, (2, 43))]) rfl rfl rfl) ?_
              refine xg_t (xg_aload (va := (2, 43)) rfl rfl) ?_
              refine xg_t (xg_getf (va := (2, 48)) (hF182.get (by decide) (hF163.get (by decide) h43_159)) rfl) ?_
              refine xg_cVv mX8_advance (vs := []) (rest := []) (cn1 := 0) (sl1 := 0) rfl (tkAdvance48 (hI181)) rfl h48_229 rfl rfl rfl rfl rfl rfl (fun w232 hq233 => ?_)
              obtain ⟨hI234, hF235⟩ := hq233
              refine xg_t (xg_blq rfl) ?_
              refine xg_t (xg_aload (va := (2, 43)) rfl rfl) ?_
              refine xg_t (xg_getf (va := (2, 48)) (hF235.get (by decide) (hF182.get (by decide) (hF163.get (by decide) h43_159))) rfl) ?_
              refine xg_t (xg_bip) ?_
              refine xoC48 (xqc48 hI234 : cp48 (wget w232 48)) (fun f48_236 f48_238 f48_240 f48_242 f48_244 h48_246 hb237 hb239 hb241 hb243 hb245 hb247 => ?_)
              refine xg_cVi mX8_isSign (vs := [(0, 59)]) (rest := []) (cn1 := 0) (sl1 := 0) rfl (tkIsSign48 (hI234) (by omega)) rfl h48_246 rfl rfl rfl rfl rfl rfl (fun n252 w248 hq249 => ?_)
              obtain ⟨hn253, hI250, hF251⟩ := hq249
              by_cases hc254 : n252 = 0
              · refine xg_t (xg_ifF (u := n252) rfl xnm0 (xj_neF hc254)) ?_
                refine xg_t (xg_const) ?_
                exact xg_e ⟨0, w248, ⟨rfl, rfl⟩, by first | decide | omega, hI250, ((((((((hF16.up (by decide)).tr (xFr.of (S := [43, 44, 45, 46, 47, 48]) hb29 (by decide))).tr (hF45.up (by decide))).tr (hF151.up (by decide))).tr (hF163.up (by decide))).tr (hF182.up (by decide))).tr (hF235.up (by decide))).tr (hF251.up (by decide)))⟩
              · refine xg_t (xg_ifT (u := n252) rfl xnm0 (xj_neT hc254)) ?_
                refine xg_t (xg_blq rfl) ?_
                refine xg_t (xg_aload (va := (2, 43)) rfl rfl) ?_
                refine xg_t (xg_getf (va := (2, 48)) (hF251.get (by decide) (hF235.get (by decide) (hF182.get (by decide) (hF163.get (by decide) h43_159)))) rfl) ?_
                refine xg_cVv mX8_advance (vs := []) (rest := []) (cn1 := 0) (sl1 := 0) rfl (tkAdvance48 (hI250)) rfl (hF251.get (by decide) h48_246) rfl rfl rfl rfl rfl rfl (fun w255 hq256 => ?_)
                obtain ⟨hI257, hF258⟩ := hq256
                refine xg_t (xg_aload (va := (2, 43)) rfl rfl) ?_
                refine xg_t (xg_getf (va := (2, 44)) (hF258.get (by decide) (hF251.get (by decide) (hF235.get (by decide) (hF182.get (by decide) (hF163.get (by decide) h43_159))))) rfl) ?_
                refine xg_t (xg_iload (va := (0, n24)) rfl rfl) ?_
                refine xg_t (xg_const) ?_
                refine xg_t (xg_iload (va := (0, n164)) rfl rfl) ?_
                refine xg_cVv mX5_put (vs := [(0, n24), (0, 0), (0, n164)]) (rest := []) (cn1 := 0) (sl1 := 0) rfl (rputI (lim := 16) (wd := 2) (B := 4294967295) (hF258.get (by decide) (hF251.get (by decide) (hF235.get (by decide) (hF182.get (by decide) (hF163.get (by decide) (hF151.get (by decide) (hF45.get (by decide) hk28))))))) (((((((((h45_10.fr hF16 (by decide)).but hb29 (by decide)).fr hF45 (by decide)).fr hF151 (by decide)).fr hF163 (by decide)).fr hF182 (by decide)).fr hF235 (by decide)).fr hF251 (by decide)).fr hF258 (by decide)) (hb11) (by decide) (by omega) (by decide) (by decide) (by omega) (by omega) (by omega)) rfl (hF258.get (by decide) (hF251.get (by decide) (hF235.get (by decide) (hF182.get (by decide) (hF163.get (by decide) (hF151.get (by decide) (hF45.get (by decide) hk28))))))) rfl rfl rfl rfl rfl rfl (fun w259 hq260 => ?_)
                obtain ⟨g261, hr262, hb263, hb264⟩ := hq260
                refine xg_t (xg_aload (va := (2, 43)) rfl rfl) ?_
                refine xg_t (xg_getf (va := (2, 44)) (hb264.get (by decide) (hF258.get (by decide) (hF251.get (by decide) (hF235.get (by decide) (hF182.get (by decide) (hF163.get (by decide) h43_159)))))) rfl) ?_
                refine xg_t (xg_iload (va := (0, n24)) rfl rfl) ?_
                refine xg_t (xg_const) ?_
                refine xg_t (xg_iload (va := (0, f48_227)) rfl rfl) ?_
                refine xg_cVv mX5_put (vs := [(0, n24), (0, 1), (0, f48_227)]) (rest := []) (cn1 := 0) (sl1 := 0) rfl (rputI (lim := 16) (wd := 2) (B := 4294967295) (hb264.get (by decide) (hF258.get (by decide) (hF251.get (by decide) (hF235.get (by decide) (hF182.get (by decide) (hF163.get (by decide) (hF151.get (by decide) (hF45.get (by decide) hk28)))))))) hr262 (hb263) (by decide) (by omega) (by decide) (by decide) (by omega) (by omega) (by omega)) rfl (hb264.get (by decide) (hF258.get (by decide) (hF251.get (by decide) (hF235.get (by decide) (hF182.get (by decide) (hF163.get (by decide) (hF151.get (by decide) (hF45.get (by decide) hk28)))))))) rfl rfl rfl rfl rfl rfl (fun w265 hq266 => ?_)
                obtain ⟨g267, hr268, hb269, hb270⟩ := hq266
                refine xg_t (xg_const) ?_
                exact xg_e ⟨1, w265, ⟨rfl, rfl⟩, by first | decide | omega, xInv.up (S := [45]) hI257 ((xFr.of (S := [45]) hb264 (by decide)).tr (xFr.of (S := [45]) hb270 (by decide))) (List.forall_mem_cons.mpr ⟨xqu45 (show cpI 32 21 4294967295 (wget w265 45) from ⟨_, hr268, hb269⟩), fun _ h => absurd h List.not_mem_nil⟩), ((((((((((hF16.up (by decide)).tr (xFr.of (S := [43, 44, 45, 46, 47, 48]) hb29 (by decide))).tr (hF45.up (by decide))).tr (hF151.up (by decide))).tr (hF163.up (by decide))).tr (hF182.up (by decide))).tr (hF235.up (by decide))).tr (hF251.up (by decide))).tr (hF258.up (by decide))).tr ((xFr.of (S := [43, 44, 45, 46, 47, 48]) hb264 (by decide)).tr (xFr.of (S := [43, 44, 45, 46, 47, 48]) hb270 (by decide))))⟩
            · refine xg_t (xg_icF (u := f48_221) (v := 2) rfl xnm0 xnm0 (xj_eqF hc231)) ?_
              refine xg_t (xg_const) ?_
              exact xg_e ⟨0, w179, ⟨rfl, rfl⟩, by first | decide | omega, hI181, ((((((hF16.up (by decide)).tr (xFr.of (S := [43, 44, 45, 46, 47, 48]) hb29 (by decide))).tr (hF45.up (by decide))).tr (hF151.up (by decide))).tr (hF163.up (by decide))).tr (hF182.up (by decide)))⟩
  · refine xg_t (xg_ifT (u := (if 16 ≤ f44_6 then 1 else 0)) rfl xnm0 (xj_eqT (xite0 hc12))) ?_
    refine xg_t (xg_blq rfl) ?_
    refine xg_t (xg_aload (va := (2, 43)) rfl rfl) ?_
    refine xg_t (xg_getf (va := (2, 44)) h43_5 rfl) ?_
    refine xg_cVi mX5_grow (vs := []) (rest := []) (cn1 := 0) (sl1 := 0) rfl (rgrowI h44_8 (by decide) (by omega)) rfl h44_8 rfl rfl rfl rfl rfl rfl (fun n273 w271 hq272 => ?_)
    obtain ⟨hn274, s275, hs276, hk277, hb278⟩ := hq272
    refine xg_t (xg_istore (l1 := [(0, (2, 43))]) rfl rfl rfl) ?_
    refine xg_t (xg_aload (va := (2, 43)) rfl rfl) ?_
    refine xg_t (xg_getf (va := (2, 48)) (hb278.get (by decide) h43_5) rfl) ?_
    refine xg_t (xg_ldcS) ?_
    refine xoC48 (xqc48 hI : cp48 (wget w 48)) (fun f48_279 f48_281 f48_283 f48_285 f48_287 h48_289 hb280 hb282 hb284 hb286 hb288 hb290 => ?_)
    refine xg_cVi mX8_isWord (vs := [(8, 120)]) (rest := []) (cn1 := 0) (sl1 := 0) rfl (tkIsWord48 (xInv.up (S := [44]) hI (xFr.of (S := [44]) hb278 (by decide)) (List.forall_mem_cons.mpr ⟨xqu44 (show cp44 (wget w271 44) from ⟨s275, hk277, by omega⟩), fun _ h => absurd h List.not_mem_nil⟩)) (i := 20) rfl) rfl (hb278.get (by decide) h48_289) rfl rfl rfl rfl rfl rfl (fun n295 w291 hq292 => ?_)
    obtain ⟨hn296, hI293, hF294⟩ := hq292
    by_cases hc297 : n295 = 0
    · refine xg_t (xg_ifT (u := n295) rfl xnm0 (xj_eqT hc297)) ?_
      refine xg_t (xg_blq rfl) ?_
      refine xg_t (xg_aload (va := (2, 43)) rfl rfl) ?_
      refine xg_cVi mX6_verbOfWord (vs := []) (rest := []) (cn1 := 0) (sl1 := 0) rfl (rtVerb (hI293)) rfl (hF294.get (by decide) (hb278.get (by decide) h43_5)) rfl rfl rfl rfl rfl rfl (fun n302 w298 hq299 => ?_)
      obtain ⟨hn303, hI300, hF301⟩ := hq299
      refine xg_t (xg_istore (l1 := [(1, (0, n273)), (0, (2, 43))]) rfl rfl rfl) ?_
      refine xg_t (xg_const) ?_
      refine xg_t (xg_istore (l1 := [(2, (0, n302)), (1, (0, n273)), (0, (2, 43))]) rfl rfl rfl) ?_
      refine xg_t (xg_iload (va := (0, n302)) rfl rfl) ?_
      refine xg_t (xg_const) ?_
      by_cases hc304 : n302 = 4294967295
      · refine xg_t (xg_icF (u := n302) (v := 4294967295) rfl xnm0 xnm0 (xj_neF hc304)) ?_
        refine xg_t (xg_const) ?_
        exact xg_e ⟨0, w298, ⟨rfl, rfl⟩, by first | decide | omega, hI300, (((xFr.of (S := [43, 44, 45, 46, 47, 48]) hb278 (by decide)).tr (hF294.up (by decide))).tr (hF301.up (by decide)))⟩
      · refine xg_t (xg_icT (u := n302) (v := 4294967295) rfl xnm0 xnm0 (xj_neT hc304)) ?_
        refine xg_t (xg_blq rfl) ?_
        refine xg_t (xg_aload (va := (2, 43)) rfl rfl) ?_
        refine xg_t (xg_getf (va := (2, 48)) (hF301.get (by decide) (hF294.get (by decide) (hb278.get (by decide) h43_5))) rfl) ?_
        refine xg_cVv mX8_advance (vs := []) (rest := []) (cn1 := 0) (sl1 := 0) rfl (tkAdvance48 (hI300)) rfl (hF301.get (by decide) (hF294.get (by decide) (hb278.get (by decide) h48_289))) rfl rfl rfl rfl rfl rfl (fun w305 hq306 => ?_)
        obtain ⟨hI307, hF308⟩ := hq306
        refine xg_t (xg_iload (va := (0, n302)) rfl rfl) ?_
        by_cases hc309 : n302 = 0
        · refine xg_t (xg_ifT (u := n302) rfl xnm0 (xj_eqT hc309)) ?_
          refine xg_t (xg_blq rfl) ?_
          refine xg_t (xg_aload (va := (2, 43)) rfl rfl) ?_
          refine xg_t (xg_getf (va := (2, 48)) (hF308.get (by decide) (hF301.get (by decide) (hF294.get (by decide) (hb278.get (by decide) h43_5)))) rfl) ?_
          refine xg_t (xg_bip) ?_
          refine xoC48 (xqc48 hI307 : cp48 (wget w305 48)) (fun f48_310 f48_312 f48_314 f48_316 f48_318 h48_320 hb311 hb313 hb315 hb317 hb319 hb321 => ?_)
          refine xg_cVi mX8_isSign (vs := [(0, 59)]) (rest := []) (cn1 := 0) (sl1 := 0) rfl (tkIsSign48 (hI307) (by omega)) rfl h48_320 rfl rfl rfl rfl rfl rfl (fun n326 w322 hq323 => ?_)
          obtain ⟨hn327, hI324, hF325⟩ := hq323
          by_cases hc328 : n326 = 0
          · refine xg_t (xg_ifF (u := n326) rfl xnm0 (xj_neF hc328)) ?_
            refine xg_t (xg_const) ?_
            exact xg_e ⟨0, w322, ⟨rfl, rfl⟩, by first | decide | omega, hI324, (((((xFr.of (S := [43, 44, 45, 46, 47, 48]) hb278 (by decide)).tr (hF294.up (by decide))).tr (hF301.up (by decide))).tr (hF308.up (by decide))).tr (hF325.up (by decide)))⟩
          · refine xg_t (xg_ifT (u := n326) rfl xnm0 (xj_neT hc328)) ?_
            refine xg_t (xg_blq rfl) ?_
            refine xg_t (xg_aload (va := (2, 43)) rfl rfl) ?_
            refine xg_t (xg_getf (va := (2, 48)) (hF325.get (by decide) (hF308.get (by decide) (hF301.get (by decide) (hF294.get (by decide) (hb278.get (by decide) h43_5))))) rfl) ?_
            refine xg_cVv mX8_advance (vs := []) (rest := []) (cn1 := 0) (sl1 := 0) rfl (tkAdvance48 (hI324)) rfl (hF325.get (by decide) h48_320) rfl rfl rfl rfl rfl rfl (fun w329 hq330 => ?_)
            obtain ⟨hI331, hF332⟩ := hq330
            refine xg_t (xg_aload (va := (2, 43)) rfl rfl) ?_
            refine xg_t (xg_getf (va := (2, 44)) (hF332.get (by decide) (hF325.get (by decide) (hF308.get (by decide) (hF301.get (by decide) (hF294.get (by decide) (hb278.get (by decide) h43_5)))))) rfl) ?_
            refine xg_t (xg_iload (va := (0, n273)) rfl rfl) ?_
            refine xg_t (xg_const) ?_
            refine xg_t (xg_iload (va := (0, n302)) rfl rfl) ?_
            refine xg_cVv mX5_put (vs := [(0, n273), (0, 0), (0, n302)]) (rest := []) (cn1 := 0) (sl1 := 0) rfl (rputI (lim := 16) (wd := 2) (B := 4294967295) (hF332.get (by decide) (hF325.get (by decide) (hF308.get (by decide) (hF301.get (by decide) (hF294.get (by decide) hk277))))) ((((((h45_10.but hb278 (by decide)).fr hF294 (by decide)).fr hF301 (by decide)).fr hF308 (by decide)).fr hF325 (by decide)).fr hF332 (by decide)) (hb11) (by decide) (by omega) (by decide) (by decide) (by omega) (by omega) (by omega)) rfl (hF332.get (by decide) (hF325.get (by decide) (hF308.get (by decide) (hF301.get (by decide) (hF294.get (by decide) hk277))))) rfl rfl rfl rfl rfl rfl (fun w333 hq334 => ?_)
            obtain ⟨g335, hr336, hb337, hb338⟩ := hq334
            refine xg_t (xg_aload (va := (2, 43)) rfl rfl) ?_
            refine xg_t (xg_getf (va := (2, 44)) (hb338.get (by decide) (hF332.get (by decide) (hF325.get (by decide) (hF308.get (by decide) (hF301.get (by decide) (hF294.get (by decide) (hb278.get (by decide) h43_5))))))) rfl) ?_
            refine xg_t (xg_iload (va := (0, n273)) rfl rfl) ?_
            refine xg_t (xg_const) ?_
            refine xg_t (xg_iload (va := (0, 0)) rfl rfl) ?_
            refine xg_cVv mX5_put (vs := [(0, n273), (0, 1), (0, 0)]) (rest := []) (cn1 := 0) (sl1 := 0) rfl (rputI (lim := 16) (wd := 2) (B := 4294967295) (hb338.get (by decide) (hF332.get (by decide) (hF325.get (by decide) (hF308.get (by decide) (hF301.get (by decide) (hF294.get (by decide) hk277)))))) hr336 (hb337) (by decide) (by omega) (by decide) (by decide) (by omega) (by omega) (by omega)) rfl (hb338.get (by decide) (hF332.get (by decide) (hF325.get (by decide) (hF308.get (by decide) (hF301.get (by decide) (hF294.get (by decide) hk277)))))) rfl rfl rfl rfl rfl rfl (fun w339 hq340 => ?_)
            obtain ⟨g341, hr342, hb343, hb344⟩ := hq340
            refine xg_t (xg_const) ?_
            exact xg_e ⟨1, w339, ⟨rfl, rfl⟩, by first | decide | omega, xInv.up (S := [45]) hI331 ((xFr.of (S := [45]) hb338 (by decide)).tr (xFr.of (S := [45]) hb344 (by decide))) (List.forall_mem_cons.mpr ⟨xqu45 (show cpI 32 21 4294967295 (wget w339 45) from ⟨_, hr342, hb343⟩), fun _ h => absurd h List.not_mem_nil⟩), (((((((xFr.of (S := [43, 44, 45, 46, 47, 48]) hb278 (by decide)).tr (hF294.up (by decide))).tr (hF301.up (by decide))).tr (hF308.up (by decide))).tr (hF325.up (by decide))).tr (hF332.up (by decide))).tr ((xFr.of (S := [43, 44, 45, 46, 47, 48]) hb338 (by decide)).tr (xFr.of (S := [43, 44, 45, 46, 47, 48]) hb344 (by decide))))⟩
        · refine xg_t (xg_ifF (u := n302) rfl xnm0 (xj_eqF hc309)) ?_
          refine xg_t (xg_aload (va := (2, 43)) rfl rfl) ?_
          refine xg_t (xg_getf (va := (2, 48)) (hF308.get (by decide) (hF301.get (by decide) (hF294.get (by decide) (hb278.get (by decide) h43_5)))) rfl) ?_
          refine xoC48 (xqc48 hI307 : cp48 (wget w305 48)) (fun f48_345 f48_347 f48_349 f48_351 f48_353 h48_355 hb346 hb348 hb350 hb352 hb354 hb356 => ?_)
          refine xg_t (xg_getf (va := (0, f48_347)) h48_355 rfl) ?_
          refine xg_t (xg_const) ?_
          by_cases hc357 : f48_347 = 2
          · refine xg_t (xg_icT (u := f48_347) (v := 2) rfl xnm0 xnm0 (xj_eqT hc357)) ?_
            refine xg_t (xg_blq rfl) ?_
            refine xg_t (xg_aload (va := (2, 43)) rfl rfl) ?_
            refine xg_t (xg_getf (va := (2, 48)) (hF308.get (by decide) (hF301.get (by decide) (hF294.get (by decide) (hb278.get (by decide) h43_5)))) rfl) ?_
            refine xg_t (xg_getf (va := (0, f48_353)) h48_355 rfl) ?_
            refine xg_t (xg_istore (l1 := [(2, (0, n302)), (1, (0, n273)), (0, (2, 43))]) rfl rfl rfl) ?_
            refine xg_t (xg_aload (va := (2, 43)) rfl rfl) ?_
            refine xg_t (xg_getf (va := (2, 48)) (hF308.get (by decide) (hF301.get (by decide) (hF294.get (by decide) (hb278.get (by decide) h43_5)))) rfl) ?_
            refine xg_cVv mX8_advance (vs := []) (rest := []) (cn1 := 0) (sl1 := 0) rfl (tkAdvance48 (hI307)) rfl h48_355 rfl rfl rfl rfl rfl rfl (fun w358 hq359 => ?_)
            obtain ⟨hI360, hF361⟩ := hq359
            refine xg_t (xg_blq rfl) ?_
            refine xg_t (xg_aload (va := (2, 43)) rfl rfl) ?_
            refine xg_t (xg_getf (va := (2, 48)) (hF361.get (by decide) (hF308.get (by decide) (hF301.get (by decide) (hF294.get (by decide) (hb278.get (by decide) h43_5))))) rfl) ?_
            refine xg_t (xg_bip) ?_
            refine xoC48 (xqc48 hI360 : cp48 (wget w358 48)) (fun f48_362 f48_364 f48_366 f48_368 f48_370 h48_372 hb363 hb365 hb367 hb369 hb371 hb373 => ?_)
            refine xg_cVi mX8_isSign (vs := [(0, 59)]) (rest := []) (cn1 := 0) (sl1 := 0) rfl (tkIsSign48 (hI360) (by omega)) rfl h48_372 rfl rfl rfl rfl rfl rfl (fun n378 w374 hq375 => ?_)
            obtain ⟨hn379, hI376, hF377⟩ := hq375
            by_cases hc380 : n378 = 0
            · refine xg_t (xg_ifF (u := n378) rfl xnm0 (xj_neF hc380)) ?_
              refine xg_t (xg_const) ?_
              exact xg_e ⟨0, w374, ⟨rfl, rfl⟩, by first | decide | omega, hI376, ((((((xFr.of (S := [43, 44, 45, 46, 47, 48]) hb278 (by decide)).tr (hF294.up (by decide))).tr (hF301.up (by decide))).tr (hF308.up (by decide))).tr (hF361.up (by decide))).tr (hF377.up (by decide)))⟩
            · refine xg_t (xg_ifT (u := n378) rfl xnm0 (xj_neT hc380)) ?_
              refine xg_t (xg_blq rfl) ?_
              refine xg_t (xg_aload (va := (2, 43)) rfl rfl) ?_
              refine xg_t (xg_getf (va := (2, 48)) (hF377.get (by decide) (hF361.get (by decide) (hF308.get (by decide) (hF301.get (by decide) (hF294.get (by decide) (hb278.get (by decide) h43_5)))))) rfl) ?_
              refine xg_cVv mX8_advance (vs := []) (rest := []) (cn1 := 0) (sl1 := 0) rfl (tkAdvance48 (hI376)) rfl (hF377.get (by decide) h48_372) rfl rfl rfl rfl rfl rfl (fun w381 hq382 => ?_)
              obtain ⟨hI383, hF384⟩ := hq382
              refine xg_t (xg_aload (va := (2, 43)) rfl rfl) ?_
              refine xg_t (xg_getf (va := (2, 44)) (hF384.get (by decide) (hF377.get (by decide) (hF361.get (by decide) (hF308.get (by decide) (hF301.get (by decide) (hF294.get (by decide) (hb278.get (by decide) h43_5))))))) rfl) ?_
              refine xg_t (xg_iload (va := (0, n273)) rfl rfl) ?_
              refine xg_t (xg_const) ?_
              refine xg_t (xg_iload (va := (0, n302)) rfl rfl) ?_
              refine xg_cVv mX5_put (vs := [(0, n273), (0, 0), (0, n302)]) (rest := []) (cn1 := 0) (sl1 := 0) rfl (rputI (lim := 16) (wd := 2) (B := 4294967295) (hF384.get (by decide) (hF377.get (by decide) (hF361.get (by decide) (hF308.get (by decide) (hF301.get (by decide) (hF294.get (by decide) hk277)))))) (((((((h45_10.but hb278 (by decide)).fr hF294 (by decide)).fr hF301 (by decide)).fr hF308 (by decide)).fr hF361 (by decide)).fr hF377 (by decide)).fr hF384 (by decide)) (hb11) (by decide) (by omega) (by decide) (by decide) (by omega) (by omega) (by omega)) rfl (hF384.get (by decide) (hF377.get (by decide) (hF361.get (by decide) (hF308.get (by decide) (hF301.get (by decide) (hF294.get (by decide) hk277)))))) rfl rfl rfl rfl rfl rfl (fun w385 hq386 => ?_)
              obtain ⟨g387, hr388, hb389, hb390⟩ := hq386
              refine xg_t (xg_aload (va := (2, 43)) rfl rfl) ?_
              refine xg_t (xg_getf (va := (2, 44)) (hb390.get (by decide) (hF384.get (by decide) (hF377.get (by decide) (hF361.get (by decide) (hF308.get (by decide) (hF301.get (by decide) (hF294.get (by decide) (hb278.get (by decide) h43_5)))))))) rfl) ?_
              refine xg_t (xg_iload (va := (0, n273)) rfl rfl) ?_
              refine xg_t (xg_const) ?_
              refine xg_t (xg_iload (va := (0, f48_353)) rfl rfl) ?_
              refine xg_cVv mX5_put (vs := [(0, n273), (0, 1), (0, f48_353)]) (rest := []) (cn1 := 0) (sl1 := 0) rfl (rputI (lim := 16) (wd := 2) (B := 4294967295) (hb390.get (by decide) (hF384.get (by decide) (hF377.get (by decide) (hF361.get (by decide) (hF308.get (by decide) (hF301.get (by decide) (hF294.get (by decide) hk277))))))) hr388 (hb389) (by decide) (by omega) (by decide) (by decide) (by omega) (by omega) (by omega)) rfl (hb390.get (by decide) (hF384.get (by decide) (hF377.get (by decide) (hF361.get (by decide) (hF308.get (by decide) (hF301.get (by decide) (hF294.get (by decide) hk277))))))) rfl rfl rfl rfl rfl rfl (fun w391 hq392 => ?_)
              obtain ⟨g393, hr394, hb395, hb396⟩ := hq392
              refine xg_t (xg_const) ?_
              exact xg_e ⟨1, w391, ⟨rfl, rfl⟩, by first | decide | omega, xInv.up (S := [45]) hI383 ((xFr.of (S := [45]) hb390 (by decide)).tr (xFr.of (S := [45]) hb396 (by decide))) (List.forall_mem_cons.mpr ⟨xqu45 (show cpI 32 21 4294967295 (wget w391 45) from ⟨_, hr394, hb395⟩), fun _ h => absurd h List.not_mem_nil⟩), ((((((((xFr.of (S := [43, 44, 45, 46, 47, 48]) hb278 (by decide)).tr (hF294.up (by decide))).tr (hF301.up (by decide))).tr (hF308.up (by decide))).tr (hF361.up (by decide))).tr (hF377.up (by decide))).tr (hF384.up (by decide))).tr ((xFr.of (S := [43, 44, 45, 46, 47, 48]) hb390 (by decide)).tr (xFr.of (S := [43, 44, 45, 46, 47, 48]) hb396 (by decide))))⟩
          · refine xg_t (xg_icF (u := f48_347) (v := 2) rfl xnm0 xnm0 (xj_eqF hc357)) ?_
            refine xg_t (xg_const) ?_
            exact xg_e ⟨0, w305, ⟨rfl, rfl⟩, by first | decide | omega, hI307, ((((xFr.of (S := [43, 44, 45, 46, 47, 48]) hb278 (by decide)).tr (hF294.up (by decide))).tr (hF301.up (by decide))).tr (hF308.up (by decide)))⟩
    · refine xg_t (xg_ifF (u := n295) rfl xnm0 (xj_eqF hc297)) ?_
      refine xg_t (xg_aload (va := (2, 43)) rfl rfl) ?_
      refine xg_t (xg_iload (va := (0, n273)) rfl rfl) ?_
      refine xg_cVi mX6_readTests (vs := [(0, n273)]) (rest := []) (cn1 := 0) (sl1 := 0) rfl (rtTests (hI293) (by omega)) rfl (hF294.get (by decide) (hb278.get (by decide) h43_5)) rfl rfl rfl rfl rfl rfl (fun n401 w397 hq398 => ?_)
      obtain ⟨hn402, hI399, hF400⟩ := hq398
      by_cases hc403 : n401 = 0
      · refine xg_t (xg_ifF (u := n401) rfl xnm0 (xj_neF hc403)) ?_
        refine xg_t (xg_const) ?_
        exact xg_e ⟨0, w397, ⟨rfl, rfl⟩, by first | decide | omega, hI399, (((xFr.of (S := [43, 44, 45, 46, 47, 48]) hb278 (by decide)).tr (hF294.up (by decide))).tr (hF400.up (by decide)))⟩
      · refine xg_t (xg_ifT (u := n401) rfl xnm0 (xj_neT hc403)) ?_
        refine xg_t (xg_blq rfl) ?_
        refine xg_t (xg_aload (va := (2, 43)) rfl rfl) ?_
        refine xoC43 (xqc43 hI399 : cp43 (wget w397 43)) (fun f43_404 f43_406 h43_408 hb405 hb407 => ?_)
        refine xg_cVi mX6_verbOfWord (vs := []) (rest := []) (cn1 := 0) (sl1 := 0) rfl (rtVerb (hI399)) rfl h43_408 rfl rfl rfl rfl rfl rfl (fun n413 w409 hq410 => ?_)
        obtain ⟨hn414, hI411, hF412⟩ := hq410
        refine xg_t (xg_istore (l1 := [(1, (0, n273)), (0, (2, 43))]) rfl rfl rfl) ?_
        refine xg_t (xg_const) ?_
        refine xg_t (xg_istore (l1 := [(2, (0, n413)), (1, (0, n273)), (0, (2, 43))]) rfl rfl rfl) ?_
        refine xg_t (xg_iload (va := (0, n413)) rfl rfl) ?_
        refine xg_t (xg_const) ?_
        by_cases hc415 : n413 = 4294967295
        · refine xg_t (xg_icF (u := n413) (v := 4294967295) rfl xnm0 xnm0 (xj_neF hc415)) ?_
          refine xg_t (xg_const) ?_
          exact xg_e ⟨0, w409, ⟨rfl, rfl⟩, by first | decide | omega, hI411, ((((xFr.of (S := [43, 44, 45, 46, 47, 48]) hb278 (by decide)).tr (hF294.up (by decide))).tr (hF400.up (by decide))).tr (hF412.up (by decide)))⟩
        · refine xg_t (xg_icT (u := n413) (v := 4294967295) rfl xnm0 xnm0 (xj_neT hc415)) ?_
          refine xg_t (xg_blq rfl) ?_
          refine xg_t (xg_aload (va := (2, 43)) rfl rfl) ?_
          refine xg_t (xg_getf (va := (2, 48)) (hF412.get (by decide) h43_408) rfl) ?_
          refine xoC48 (xqc48 hI411 : cp48 (wget w409 48)) (fun f48_416 f48_418 f48_420 f48_422 f48_424 h48_426 hb417 hb419 hb421 hb423 hb425 hb427 => ?_)
          refine xg_cVv mX8_advance (vs := []) (rest := []) (cn1 := 0) (sl1 := 0) rfl (tkAdvance48 (hI411)) rfl h48_426 rfl rfl rfl rfl rfl rfl (fun w428 hq429 => ?_)
          obtain ⟨hI430, hF431⟩ := hq429
          refine xg_t (xg_iload (va := (0, n413)) rfl rfl) ?_
          by_cases hc432 : n413 = 0
          · refine xg_t (xg_ifT (u := n413) rfl xnm0 (xj_eqT hc432)) ?_
            refine xg_t (xg_blq rfl) ?_
            refine xg_t (xg_aload (va := (2, 43)) rfl rfl) ?_
            refine xg_t (xg_getf (va := (2, 48)) (hF431.get (by decide) (hF412.get (by decide) h43_408)) rfl) ?_
            refine xg_t (xg_bip) ?_
            refine xoC48 (xqc48 hI430 : cp48 (wget w428 48)) (fun f48_433 f48_435 f48_437 f48_439 f48_441 h48_443 hb434 hb436 hb438 hb440 hb442 hb444 => ?_)
            refine xg_cVi mX8_isSign (vs := [(0, 59)]) (rest := []) (cn1 := 0) (sl1 := 0) rfl (tkIsSign48 (hI430) (by omega)) rfl h48_443 rfl rfl rfl rfl rfl rfl (fun n449 w445 hq446 => ?_)
            obtain ⟨hn450, hI447, hF448⟩ := hq446
            by_cases hc451 : n449 = 0
            · refine xg_t (xg_ifF (u := n449) rfl xnm0 (xj_neF hc451)) ?_
              refine xg_t (xg_const) ?_
              exact xg_e ⟨0, w445, ⟨rfl, rfl⟩, by first | decide | omega, hI447, ((((((xFr.of (S := [43, 44, 45, 46, 47, 48]) hb278 (by decide)).tr (hF294.up (by decide))).tr (hF400.up (by decide))).tr (hF412.up (by decide))).tr (hF431.up (by decide))).tr (hF448.up (by decide)))⟩
            · refine xg_t (xg_ifT (u := n449) rfl xnm0 (xj_neT hc451)) ?_
              refine xg_t (xg_blq rfl) ?_
              refine xg_t (xg_aload (va := (2, 43)) rfl rfl) ?_
              refine xg_t (xg_getf (va := (2, 48)) (hF448.get (by decide) (hF431.get (by decide) (hF412.get (by decide) h43_408))) rfl) ?_
              refine xg_cVv mX8_advance (vs := []) (rest := []) (cn1 := 0) (sl1 := 0) rfl (tkAdvance48 (hI447)) rfl (hF448.get (by decide) h48_443) rfl rfl rfl rfl rfl rfl (fun w452 hq453 => ?_)
              obtain ⟨hI454, hF455⟩ := hq453
              refine xg_t (xg_aload (va := (2, 43)) rfl rfl) ?_
              refine xg_t (xg_getf (va := (2, 44)) (hF455.get (by decide) (hF448.get (by decide) (hF431.get (by decide) (hF412.get (by decide) h43_408)))) rfl) ?_
              refine xg_t (xg_iload (va := (0, n273)) rfl rfl) ?_
              refine xg_t (xg_const) ?_
              refine xg_t (xg_iload (va := (0, n413)) rfl rfl) ?_
              refine xg_cVv mX5_put (vs := [(0, n273), (0, 0), (0, n413)]) (rest := []) (cn1 := 0) (sl1 := 0) rfl (rputI (lim := 16) (wd := 2) (B := 4294967295) (hF455.get (by decide) (hF448.get (by decide) (hF431.get (by decide) (hF412.get (by decide) (hF400.get (by decide) (hF294.get (by decide) hk277)))))) (((((((h45_10.but hb278 (by decide)).fr hF294 (by decide)).fr hF400 (by decide)).fr hF412 (by decide)).fr hF431 (by decide)).fr hF448 (by decide)).fr hF455 (by decide)) (hb11) (by decide) (by omega) (by decide) (by decide) (by omega) (by omega) (by omega)) rfl (hF455.get (by decide) (hF448.get (by decide) (hF431.get (by decide) (hF412.get (by decide) (hF400.get (by decide) (hF294.get (by decide) hk277)))))) rfl rfl rfl rfl rfl rfl (fun w456 hq457 => ?_)
              obtain ⟨g458, hr459, hb460, hb461⟩ := hq457
              refine xg_t (xg_aload (va := (2, 43)) rfl rfl) ?_
              refine xg_t (xg_getf (va := (2, 44)) (hb461.get (by decide) (hF455.get (by decide) (hF448.get (by decide) (hF431.get (by decide) (hF412.get (by decide) h43_408))))) rfl) ?_
              refine xg_t (xg_iload (va := (0, n273)) rfl rfl) ?_
              refine xg_t (xg_const) ?_
              refine xg_t (xg_iload (va := (0, 0)) rfl rfl) ?_
              refine xg_cVv mX5_put (vs := [(0, n273), (0, 1), (0, 0)]) (rest := []) (cn1 := 0) (sl1 := 0) rfl (rputI (lim := 16) (wd := 2) (B := 4294967295) (hb461.get (by decide) (hF455.get (by decide) (hF448.get (by decide) (hF431.get (by decide) (hF412.get (by decide) (hF400.get (by decide) (hF294.get (by decide) hk277))))))) hr459 (hb460) (by decide) (by omega) (by decide) (by decide) (by omega) (by omega) (by omega)) rfl (hb461.get (by decide) (hF455.get (by decide) (hF448.get (by decide) (hF431.get (by decide) (hF412.get (by decide) (hF400.get (by decide) (hF294.get (by decide) hk277))))))) rfl rfl rfl rfl rfl rfl (fun w462 hq463 => ?_)
              obtain ⟨g464, hr465, hb466, hb467⟩ := hq463
              refine xg_t (xg_const) ?_
              exact xg_e ⟨1, w462, ⟨rfl, rfl⟩, by first | decide | omega, xInv.up (S := [45]) hI454 ((xFr.of (S := [45]) hb461 (by decide)).tr (xFr.of (S := [45]) hb467 (by decide))) (List.forall_mem_cons.mpr ⟨xqu45 (show cpI 32 21 4294967295 (wget w462 45) from ⟨_, hr465, hb466⟩), fun _ h => absurd h List.not_mem_nil⟩), ((((((((xFr.of (S := [43, 44, 45, 46, 47, 48]) hb278 (by decide)).tr (hF294.up (by decide))).tr (hF400.up (by decide))).tr (hF412.up (by decide))).tr (hF431.up (by decide))).tr (hF448.up (by decide))).tr (hF455.up (by decide))).tr ((xFr.of (S := [43, 44, 45, 46, 47, 48]) hb461 (by decide)).tr (xFr.of (S := [43, 44, 45, 46, 47, 48]) hb467 (by decide))))⟩
          · refine xg_t (xg_ifF (u := n413) rfl xnm0 (xj_eqF hc432)) ?_
            refine xg_t (xg_aload (va := (2, 43)) rfl rfl) ?_
            refine xg_t (xg_getf (va := (2, 48)) (hF431.get (by decide) (hF412.get (by decide) h43_408)) rfl) ?_
            refine xoC48 (xqc48 hI430 : cp48 (wget w428 48)) (fun f48_468 f48_470 f48_472 f48_474 f48_476 h48_478 hb469 hb471 hb473 hb475 hb477 hb479 => ?_)
            refine xg_t (xg_getf (va := (0, f48_470)) h48_478 rfl) ?_
            refine xg_t (xg_const) ?_
            by_cases hc480 : f48_470 = 2
            · refine xg_t (xg_icT (u := f48_470) (v := 2) rfl xnm0 xnm0 (xj_eqT hc480)) ?_
              refine xg_t (xg_blq rfl) ?_
              refine xg_t (xg_aload (va := (2, 43)) rfl rfl) ?_
              refine xg_t (xg_getf (va := (2, 48)) (hF431.get (by decide) (hF412.get (by decide) h43_408)) rfl) ?_
              refine xg_t (xg_getf (va := (0, f48_476)) h48_478 rfl) ?_
              refine xg_t (xg_istore (l1 := [(2, (0, n413)), (1, (0, n273)), (0, (2, 43))]) rfl rfl rfl) ?_
              refine xg_t (xg_aload (va := (2, 43)) rfl rfl) ?_
              refine xg_t (xg_getf (va := (2, 48)) (hF431.get (by decide) (hF412.get (by decide) h43_408)) rfl) ?_
              refine xg_cVv mX8_advance (vs := []) (rest := []) (cn1 := 0) (sl1 := 0) rfl (tkAdvance48 (hI430)) rfl h48_478 rfl rfl rfl rfl rfl rfl (fun w481 hq482 => ?_)
              obtain ⟨hI483, hF484⟩ := hq482
              refine xg_t (xg_blq rfl) ?_
              refine xg_t (xg_aload (va := (2, 43)) rfl rfl) ?_
              refine xg_t (xg_getf (va := (2, 48)) (hF484.get (by decide) (hF431.get (by decide) (hF412.get (by decide) h43_408))) rfl) ?_
              refine xg_t (xg_bip) ?_
              refine xoC48 (xqc48 hI483 : cp48 (wget w481 48)) (fun f48_485 f48_487 f48_489 f48_491 f48_493 h48_495 hb486 hb488 hb490 hb492 hb494 hb496 => ?_)
              refine xg_cVi mX8_isSign (vs := [(0, 59)]) (rest := []) (cn1 := 0) (sl1 := 0) rfl (tkIsSign48 (hI483) (by omega)) rfl h48_495 rfl rfl rfl rfl rfl rfl (fun n501 w497 hq498 => ?_)
              obtain ⟨hn502, hI499, hF500⟩ := hq498
              by_cases hc503 : n501 = 0
              · refine xg_t (xg_ifF (u := n501) rfl xnm0 (xj_neF hc503)) ?_
                refine xg_t (xg_const) ?_
                exact xg_e ⟨0, w497, ⟨rfl, rfl⟩, by first | decide | omega, hI499, (((((((xFr.of (S := [43, 44, 45, 46, 47, 48]) hb278 (by decide)).tr (hF294.up (by decide))).tr (hF400.up (by decide))).tr (hF412.up (by decide))).tr (hF431.up (by decide))).tr (hF484.up (by decide))).tr (hF500.up (by decide)))⟩
              · refine xg_t (xg_ifT (u := n501) rfl xnm0 (xj_neT hc503)) ?_
                refine xg_t (xg_blq rfl) ?_
                refine xg_t (xg_aload (va := (2, 43)) rfl rfl) ?_
                refine xg_t (xg_getf (va := (2, 48)) (hF500.get (by decide) (hF484.get (by decide) (hF431.get (by decide) (hF412.get (by decide) h43_408)))) rfl) ?_
                refine xg_cVv mX8_advance (vs := []) (rest := []) (cn1 := 0) (sl1 := 0) rfl (tkAdvance48 (hI499)) rfl (hF500.get (by decide) h48_495) rfl rfl rfl rfl rfl rfl (fun w504 hq505 => ?_)
                obtain ⟨hI506, hF507⟩ := hq505
                refine xg_t (xg_aload (va := (2, 43)) rfl rfl) ?_
                refine xg_t (xg_getf (va := (2, 44)) (hF507.get (by decide) (hF500.get (by decide) (hF484.get (by decide) (hF431.get (by decide) (hF412.get (by decide) h43_408))))) rfl) ?_
                refine xg_t (xg_iload (va := (0, n273)) rfl rfl) ?_
                refine xg_t (xg_const) ?_
                refine xg_t (xg_iload (va := (0, n413)) rfl rfl) ?_
                refine xg_cVv mX5_put (vs := [(0, n273), (0, 0), (0, n413)]) (rest := []) (cn1 := 0) (sl1 := 0) rfl (rputI (lim := 16) (wd := 2) (B := 4294967295) (hF507.get (by decide) (hF500.get (by decide) (hF484.get (by decide) (hF431.get (by decide) (hF412.get (by decide) (hF400.get (by decide) (hF294.get (by decide) hk277))))))) ((((((((h45_10.but hb278 (by decide)).fr hF294 (by decide)).fr hF400 (by decide)).fr hF412 (by decide)).fr hF431 (by decide)).fr hF484 (by decide)).fr hF500 (by decide)).fr hF507 (by decide)) (hb11) (by decide) (by omega) (by decide) (by decide) (by omega) (by omega) (by omega)) rfl (hF507.get (by decide) (hF500.get (by decide) (hF484.get (by decide) (hF431.get (by decide) (hF412.get (by decide) (hF400.get (by decide) (hF294.get (by decide) hk277))))))) rfl rfl rfl rfl rfl rfl (fun w508 hq509 => ?_)
                obtain ⟨g510, hr511, hb512, hb513⟩ := hq509
                refine xg_t (xg_aload (va := (2, 43)) rfl rfl) ?_
                refine xg_t (xg_getf (va := (2, 44)) (hb513.get (by decide) (hF507.get (by decide) (hF500.get (by decide) (hF484.get (by decide) (hF431.get (by decide) (hF412.get (by decide) h43_408)))))) rfl) ?_
                refine xg_t (xg_iload (va := (0, n273)) rfl rfl) ?_
                refine xg_t (xg_const) ?_
                refine xg_t (xg_iload (va := (0, f48_476)) rfl rfl) ?_
                refine xg_cVv mX5_put (vs := [(0, n273), (0, 1), (0, f48_476)]) (rest := []) (cn1 := 0) (sl1 := 0) rfl (rputI (lim := 16) (wd := 2) (B := 4294967295) (hb513.get (by decide) (hF507.get (by decide) (hF500.get (by decide) (hF484.get (by decide) (hF431.get (by decide) (hF412.get (by decide) (hF400.get (by decide) (hF294.get (by decide) hk277)))))))) hr511 (hb512) (by decide) (by omega) (by decide) (by decide) (by omega) (by omega) (by omega)) rfl (hb513.get (by decide) (hF507.get (by decide) (hF500.get (by decide) (hF484.get (by decide) (hF431.get (by decide) (hF412.get (by decide) (hF400.get (by decide) (hF294.get (by decide) hk277)))))))) rfl rfl rfl rfl rfl rfl (fun w514 hq515 => ?_)
                obtain ⟨g516, hr517, hb518, hb519⟩ := hq515
                refine xg_t (xg_const) ?_
                exact xg_e ⟨1, w514, ⟨rfl, rfl⟩, by first | decide | omega, xInv.up (S := [45]) hI506 ((xFr.of (S := [45]) hb513 (by decide)).tr (xFr.of (S := [45]) hb519 (by decide))) (List.forall_mem_cons.mpr ⟨xqu45 (show cpI 32 21 4294967295 (wget w514 45) from ⟨_, hr517, hb518⟩), fun _ h => absurd h List.not_mem_nil⟩), (((((((((xFr.of (S := [43, 44, 45, 46, 47, 48]) hb278 (by decide)).tr (hF294.up (by decide))).tr (hF400.up (by decide))).tr (hF412.up (by decide))).tr (hF431.up (by decide))).tr (hF484.up (by decide))).tr (hF500.up (by decide))).tr (hF507.up (by decide))).tr ((xFr.of (S := [43, 44, 45, 46, 47, 48]) hb513 (by decide)).tr (xFr.of (S := [43, 44, 45, 46, 47, 48]) hb519 (by decide))))⟩
            · refine xg_t (xg_icF (u := f48_470) (v := 2) rfl xnm0 xnm0 (xj_eqF hc480)) ?_
              refine xg_t (xg_const) ?_
              exact xg_e ⟨0, w428, ⟨rfl, rfl⟩, by first | decide | omega, hI430, (((((xFr.of (S := [43, 44, 45, 46, 47, 48]) hb278 (by decide)).tr (hF294.up (by decide))).tr (hF400.up (by decide))).tr (hF412.up (by decide))).tr (hF431.up (by decide)))⟩
end XRT
end
section
/-! what holds of the cells of the model between calls -/
/-- a fact kept out of sight -/
def xHid (p : Prop) : Prop := p
theorem xHid.of {p : Prop} (h : p) : xHid p := h
def okB (f : Nat → Nat) (b : Nat) : Prop := f b ≤ 6 ∧ f (b + 1) ≤ 4 ∧ f (b + 2) ≤ 6 ∧ f (b + 3) ≤ 4 ∧ f (b + 4) ≤ 20 ∧ f (b + 5) ≤ 6 ∧ f (b + 6) ≤ 6 ∧ f (b + 7) ≤ 10 ∧ f (b + 8) ≤ 10 ∧ f (b + 9) ≤ 40 ∧ f (b + 10) ≤ 12 ∧ f (b + 13) ≤ 200 ∧ f (b + 15) ≤ 500 ∧ f (b + 900) ≤ 4 ∧ f (b + 901) ≤ 12 ∧ f (b + 902) ≤ 16 ∧ (f (b + 5) = 0 ∨ 1 ≤ f (b + 6)) ∧ (∀ k i, k < f b → i < 3 → 1 ≤ f (b + 20 + 4 * k + i) ∧ f (b + 20 + 4 * k + i) ≤ 99) ∧ (∀ k, k < f (b + 1) → 1 ≤ f (b + 51 + 2 * k) ∧ f (b + 51 + 2 * k) ≤ 999) ∧ (∀ p i, p < f (b + 10) → i < 4 → f (b + 300 + 6 * p + i) ≤ 5) ∧ (∀ l, l < f (b + 902) → f (b + 1020 + 20 * l) ≤ 4)
def okA (f : Nat → Nat) : Prop := okB f 0 ∧ okB f 1340 ∧ okB f 2680 ∧ okB f 4020
theorem okB_congr {f g : Nat → Nat} {b : Nat} (e : ∀ t, t < 1340 → g (b + t) = f (b + t)) (h : okB f b) : okB g b := by
  obtain ⟨h0, h1, h2, h3, h4, h5, h6, h7, h8, h9, h10, h11, h12, h13, h14, h15, hc, hl, hv, hp, hr⟩ := h
  have e0 : g b = f b := e 0 (by decide)
  have e1 := e 1 (by decide)
  have e2 := e 2 (by decide)
  have e3 := e 3 (by decide)
  have e4 := e 4 (by decide)
  have e5 := e 5 (by decide)
  have e6 := e 6 (by decide)
  have e7 := e 7 (by decide)
  have e8 := e 8 (by decide)
  have e9 := e 9 (by decide)
  have e10 := e 10 (by decide)
  have e13 := e 13 (by decide)
  have e15 := e 15 (by decide)
  have e900 := e 900 (by decide)
  have e901 := e 901 (by decide)
  have e902 := e 902 (by decide)
  refine ⟨by rw [e0]; exact h0, by rw [e1]; exact h1, by rw [e2]; exact h2, by rw [e3]; exact h3, by rw [e4]; exact h4, by rw [e5]; exact h5, by rw [e6]; exact h6, by rw [e7]; exact h7, by rw [e8]; exact h8, by rw [e9]; exact h9, by rw [e10]; exact h10, by rw [e13]; exact h11, by rw [e15]; exact h12, by rw [e900]; exact h13, by rw [e901]; exact h14, by rw [e902]; exact h15, ?_, ?_, ?_, ?_, ?_⟩
  · rw [e5, e6]; exact hc
  · intro k i hk hi
    rw [e0] at hk
    have q := e (20 + 4 * k + i) (by omega)
    have q2 : g (b + 20 + 4 * k + i) = f (b + 20 + 4 * k + i) := by
      have z : b + 20 + 4 * k + i = b + (20 + 4 * k + i) := by omega
      rw [z]; exact q
    rw [q2]; exact hl k i hk hi
  · intro k hk
    rw [e1] at hk
    have q := e (51 + 2 * k) (by omega)
    have q2 : g (b + 51 + 2 * k) = f (b + 51 + 2 * k) := by
      have z : b + 51 + 2 * k = b + (51 + 2 * k) := by omega
      rw [z]; exact q
    rw [q2]; exact hv k hk
  · intro p i hk hi
    rw [e10] at hk
    have q := e (300 + 6 * p + i) (by omega)
    have q2 : g (b + 300 + 6 * p + i) = f (b + 300 + 6 * p + i) := by
      have z : b + 300 + 6 * p + i = b + (300 + 6 * p + i) := by omega
      rw [z]; exact q
    rw [q2]; exact hp p i hk hi
  · intro l hk
    rw [e902] at hk
    have q := e (1020 + 20 * l) (by omega)
    have q2 : g (b + 1020 + 20 * l) = f (b + 1020 + 20 * l) := by
      have z : b + 1020 + 20 * l = b + (1020 + 20 * l) := by omega
      rw [z]; exact q
    rw [q2]; exact hr l hk
theorem okA.lits {f : Nat → Nat} (h : okA f) : f 0 ≤ 6 ∧ f 1 ≤ 4 ∧ f 2 ≤ 6 ∧ f 3 ≤ 4 ∧ f 4 ≤ 20 ∧ f 5 ≤ 6 ∧ f 6 ≤ 6 ∧ f 7 ≤ 10 ∧ f 8 ≤ 10 ∧ f 9 ≤ 40 ∧ f 10 ≤ 12 ∧ f 13 ≤ 200 ∧ f 15 ≤ 500 ∧ f 900 ≤ 4 ∧ f 901 ≤ 12 ∧ f 902 ≤ 16 ∧ (f 5 = 0 ∨ 1 ≤ f 6) := by
  obtain ⟨⟨h0, h1, h2, h3, h4, h5, h6, h7, h8, h9, h10, h11, h12, h13, h14, h15, hc, hl, hv, hp, hr⟩, -⟩ := h
  simp only [Nat.zero_add] at h1 h2 h3 h4 h5 h6 h7 h8 h9 h10 h11 h12 h13 h14 h15 hc
  exact ⟨h0, h1, h2, h3, h4, h5, h6, h7, h8, h9, h10, h11, h12, h13, h14, h15, hc⟩
theorem okA.lay {f : Nat → Nat} (h : okA f) {k i : Nat} (hk : k < f 0) (hi : i < 3) : 1 ≤ f (20 + 4 * k + i) ∧ f (20 + 4 * k + i) ≤ 99 := by
  have q := h.1.2.2.2.2.2.2.2.2.2.2.2.2.2.2.2.2.2.1 k i hk hi
  simp only [Nat.zero_add] at q
  exact q
theorem okA.lif {f : Nat → Nat} (h : okA f) {k : Nat} (hk : k < f 1) : 1 ≤ f (51 + 2 * k) ∧ f (51 + 2 * k) ≤ 999 := by
  have q := h.1.2.2.2.2.2.2.2.2.2.2.2.2.2.2.2.2.2.2.1 k hk
  simp only [Nat.zero_add] at q
  exact q
theorem okA.pic {f : Nat → Nat} (h : okA f) {p i : Nat} (hk : p < f 10) (hi : i < 4) : f (300 + 6 * p + i) ≤ 5 := by
  have q := h.1.2.2.2.2.2.2.2.2.2.2.2.2.2.2.2.2.2.2.2.1 p i hk hi
  simp only [Nat.zero_add] at q
  exact q
theorem okA.rul {f : Nat → Nat} (h : okA f) {l : Nat} (hk : l < f 902) : f (1020 + 20 * l) ≤ 4 := by
  have q := h.1.2.2.2.2.2.2.2.2.2.2.2.2.2.2.2.2.2.2.2.2 l hk
  simp only [Nat.zero_add] at q
  exact q
theorem okA.mk0 {f g : Nat → Nat} (h : okA f) (e : ∀ j, 1340 ≤ j → g j = f j) (q : okB g 0) : okA g :=
  ⟨q, okB_congr (fun t _ => e _ (by omega)) h.2.1, okB_congr (fun t _ => e _ (by omega)) h.2.2.1, okB_congr (fun t _ => e _ (by omega)) h.2.2.2⟩
theorem okB.of0 {f : Nat → Nat} (hlit : f 0 ≤ 6 ∧ f 1 ≤ 4 ∧ f 2 ≤ 6 ∧ f 3 ≤ 4 ∧ f 4 ≤ 20 ∧ f 5 ≤ 6 ∧ f 6 ≤ 6 ∧ f 7 ≤ 10 ∧ f 8 ≤ 10 ∧ f 9 ≤ 40 ∧ f 10 ≤ 12 ∧ f 13 ≤ 200 ∧ f 15 ≤ 500 ∧ f 900 ≤ 4 ∧ f 901 ≤ 12 ∧ f 902 ≤ 16 ∧ (f 5 = 0 ∨ 1 ≤ f 6)) (hl : ∀ k i, k < f 0 → i < 3 → 1 ≤ f (20 + 4 * k + i) ∧ f (20 + 4 * k + i) ≤ 99) (hv : ∀ k, k < f 1 → 1 ≤ f (51 + 2 * k) ∧ f (51 + 2 * k) ≤ 999) (hp : ∀ p i, p < f 10 → i < 4 → f (300 + 6 * p + i) ≤ 5) (hr : ∀ l, l < f 902 → f (1020 + 20 * l) ≤ 4) : okB f 0 := by
  obtain ⟨h0, h1, h2, h3, h4, h5, h6, h7, h8, h9, h10, h11, h12, h13, h14, h15, hc⟩ := hlit
  unfold okB
  simp only [Nat.zero_add]
  exact ⟨h0, h1, h2, h3, h4, h5, h6, h7, h8, h9, h10, h11, h12, h13, h14, h15, hc, hl, hv, hp, hr⟩
theorem okA.upd {f : Nat → Nat} {i v : Nat} (h : okA f) (hi : i < 1020) (h9 : 9 ≤ i) (h20 : ¬ (20 ≤ i ∧ i < 140)) (c9 : i = 9 → v ≤ 40) (c10 : i ≠ 10) (c13 : i = 13 → v ≤ 200) (c15 : i = 15 → v ≤ 500) (c900 : i = 900 → v ≤ 4) (c901 : i = 901 → v ≤ 12) (c902 : i ≠ 902) (c300 : 300 ≤ i → i < 372 → 300 + 6 * f 10 ≤ i) : okA (fun j => if j = i then v else f j) := by
  have hh := h
  obtain ⟨h0, h1, h2, h3, h4, h5, h6, h7, h8, h9, h10, h11, h12, h13, h14, h15, hc⟩ := h.lits
  generalize hg : (fun j => if j = i then v else f j) = g
  have e : ∀ j, j ≠ i → g j = f j := fun j hj => by rw [← hg]; exact if_neg hj
  have ei : g i = v := by rw [← hg]; exact if_pos rfl
  have ie : ∀ j, j = i → g j = v := fun j hj => by rw [hj]; exact ei
  have e0 : g 0 = f 0 := e 0 (by omega)
  have e1 : g 1 = f 1 := e 1 (by omega)
  have e2 : g 2 = f 2 := e 2 (by omega)
  have e3 : g 3 = f 3 := e 3 (by omega)
  have e4 : g 4 = f 4 := e 4 (by omega)
  have e5 : g 5 = f 5 := e 5 (by omega)
  have e6 : g 6 = f 6 := e 6 (by omega)
  have e7 : g 7 = f 7 := e 7 (by omega)
  have e8 : g 8 = f 8 := e 8 (by omega)
  have e9 : g 9 = f 9 ∨ (9 = i ∧ g 9 = v) := by
    by_cases z : 9 = i
    · exact Or.inr ⟨z, ie _ z⟩
    · exact Or.inl (e 9 z)
  have e10 : g 10 = f 10 := e 10 (by omega)
  have e13 : g 13 = f 13 ∨ (13 = i ∧ g 13 = v) := by
    by_cases z : 13 = i
    · exact Or.inr ⟨z, ie _ z⟩
    · exact Or.inl (e 13 z)
  have e15 : g 15 = f 15 ∨ (15 = i ∧ g 15 = v) := by
    by_cases z : 15 = i
    · exact Or.inr ⟨z, ie _ z⟩
    · exact Or.inl (e 15 z)
  have e900 : g 900 = f 900 ∨ (900 = i ∧ g 900 = v) := by
    by_cases z : 900 = i
    · exact Or.inr ⟨z, ie _ z⟩
    · exact Or.inl (e 900 z)
  have e901 : g 901 = f 901 ∨ (901 = i ∧ g 901 = v) := by
    by_cases z : 901 = i
    · exact Or.inr ⟨z, ie _ z⟩
    · exact Or.inl (e 901 z)
  have e902 : g 902 = f 902 := e 902 (by omega)
  refine h.mk0 (fun j hj => e j (by omega)) (okB.of0 ⟨by omega, by omega, by omega, by omega, by omega, by omega, by omega, by omega, by omega, by omega, by omega, by omega, by omega, by omega, by omega, by omega, by omega⟩ ?_ ?_ ?_ ?_)
  · intro k t hk ht
    rw [e _ (by omega)]
    exact hh.lay (by omega) ht
  · intro k hk
    rw [e _ (by omega)]
    exact hh.lif (by omega)
  · intro p t hk ht
    rw [e _ (by omega)]
    exact hh.pic (by omega) ht
  · intro l hk
    rw [e _ (by omega)]
    exact hh.rul (by omega)
theorem okA.updP {f : Nat → Nat} {v : Nat} (h : okA f) (hv : v ≤ 12) (hp : ∀ p t, p < v → t < 4 → f (300 + 6 * p + t) ≤ 5) : okA (fun j => if j = 10 then v else f j) := by
  have hh := h
  obtain ⟨h0, h1, h2, h3, h4, h5, h6, h7, h8, h9, h10, h11, h12, h13, h14, h15, hc⟩ := h.lits
  generalize hg : (fun j => if j = 10 then v else f j) = g
  have e : ∀ j, j ≠ 10 → g j = f j := fun j hj => by rw [← hg]; exact if_neg hj
  have ei : g 10 = v := by rw [← hg]; exact if_pos rfl
  have e0 : g 0 = f 0 := e 0 (by decide)
  have e1 : g 1 = f 1 := e 1 (by decide)
  have e2 : g 2 = f 2 := e 2 (by decide)
  have e3 : g 3 = f 3 := e 3 (by decide)
  have e4 : g 4 = f 4 := e 4 (by decide)
  have e5 : g 5 = f 5 := e 5 (by decide)
  have e6 : g 6 = f 6 := e 6 (by decide)
  have e7 : g 7 = f 7 := e 7 (by decide)
  have e8 : g 8 = f 8 := e 8 (by decide)
  have e9 : g 9 = f 9 := e 9 (by decide)
  have e13 : g 13 = f 13 := e 13 (by decide)
  have e15 : g 15 = f 15 := e 15 (by decide)
  have e900 : g 900 = f 900 := e 900 (by decide)
  have e901 : g 901 = f 901 := e 901 (by decide)
  have e902 : g 902 = f 902 := e 902 (by decide)
  refine h.mk0 (fun j hj => e j (by omega)) (okB.of0 ⟨by omega, by omega, by omega, by omega, by omega, by omega, by omega, by omega, by omega, by omega, by omega, by omega, by omega, by omega, by omega, by omega, by omega⟩ ?_ ?_ ?_ ?_)
  · intro k t hk ht
    rw [e _ (by omega)]
    exact hh.lay (by omega) ht
  · intro k hk
    rw [e _ (by omega)]
    exact hh.lif (by omega)
  · intro p t hk ht
    rw [e _ (by omega)]
    exact hp p t (by omega) ht
  · intro l hk
    rw [e _ (by omega)]
    exact hh.rul (by omega)
/-- lines and rails that are there -/
def okL (f : Nat → Nat) : Prop := ∀ j, f j = 1 → j % 6 ≤ 4
def okD (f : Nat → Nat) : Prop := ∀ j, f j = 1 → j < 30
theorem okL.upd {f : Nat → Nat} {i v : Nat} (h : okL f) (hv : v = 1 → i % 6 ≤ 4) : okL (fun j => if j = i then v else f j) := by
  intro j hj
  have hj : (if j = i then v else f j) = 1 := hj
  by_cases z : j = i
  · subst z
    rw [if_pos rfl] at hj
    exact hv hj
  · rw [if_neg z] at hj
    exact h j hj
theorem okD.upd {f : Nat → Nat} {i v : Nat} (h : okD f) (hv : v = 1 → i < 30) : okD (fun j => if j = i then v else f j) := by
  intro j hj
  have hj : (if j = i then v else f j) = 1 := hj
  by_cases z : j = i
  · subst z
    rw [if_pos rfl] at hj
    exact hv hj
  · rw [if_neg z] at hj
    exact h j hj
/-- a piece of the sheet, by its number -/
def okP (v : Nat) : Prop := v < 14641 ∧ v / 1331 + v / 11 % 11 ≤ 10 ∧ v / 121 % 11 + v % 11 ≤ 10
def okS (f : Nat → Nat) : Prop := ∀ j, okP (f j)
theorem okS.upd {f : Nat → Nat} {i v : Nat} (h : okS f) (hv : okP v) : okS (fun j => if j = i then v else f j) := by
  intro j
  show okP (if j = i then v else f j)
  by_cases z : j = i
  · rw [if_pos z]; exact hv
  · rw [if_neg z]; exact h j
/-- whence a place was met: the way back comes to an end -/
def okN (f : Nat → Nat) : Prop := ∀ j, f j = 4294967295 ∨ f j < 36
theorem okN.upd {f : Nat → Nat} {i v : Nat} (h : okN f) (hv : v = 4294967295 ∨ v < 36) : okN (fun j => if j = i then v else f j) := by
  intro j
  show (if j = i then v else f j) = 4294967295 ∨ (if j = i then v else f j) < 36
  by_cases z : j = i
  · rw [if_pos z]; exact hv
  · rw [if_neg z]; exact h j
def okF (f : Nat → Nat) : Prop := ∃ rk : Nat → Nat, ∀ p, p < 36 → f p = 4294967295 ∨ (f p < 36 ∧ f (f p) ≠ 4294967295 ∧ (f p = p ∨ rk (f p) < rk p))
theorem okF.upd {f : Nat → Nat} {p b : Nat} (h : okF f) (hp : p < 36) (hn : f p = 4294967295) (hb : b < 36) (hc : b = p ∨ f b ≠ 4294967295) : okF (fun j => if j = p then b else f j) := by
  obtain ⟨rk, hr⟩ := h
  refine ⟨fun j => if j = p then rk b + 1 else rk j, fun q hq => ?_⟩
  by_cases z : q = p
  · subst z
    refine Or.inr ?_
    simp only [if_true]
    refine ⟨hb, ?_, ?_⟩
    · by_cases y : b = q
      · rw [if_pos y]; omega
      · rw [if_neg y]
        rcases hc with hc | hc
        · exact absurd hc y
        · exact hc
    · by_cases y : b = q
      · exact Or.inl y
      · rw [if_neg y]
        exact Or.inr (by omega)
  · simp only [if_neg z]
    rcases hr q hq with h1 | ⟨h1, h2, h3⟩
    · exact Or.inl h1
    · have y : f q ≠ p := fun y => h2 (by rw [y]; exact hn)
      simp only [if_neg y]
      exact Or.inr ⟨h1, h2, h3⟩
theorem okF.none : okF (fun _ => 4294967295) := ⟨fun _ => 0, fun _ _ => Or.inl rfl⟩
def cp82 (q : Option xE) : Prop := ∃ a2 a3 a4 a5 a6 a7 a8 a9 a10 a14 a22 a23 a24 a33 a41 a42 : Nat, q = some (.inl (12, [(2, 83), (2, 84), (0, a2), (0, a3), (0, a4), (0, a5), (0, a6), (0, a7), (0, a8), (0, a9), (0, a10), (2, 85), (2, 86), (2, 87), (0, a14), (2, 88), (2, 89), (2, 90), (2, 91), (2, 92), (2, 93), (2, 94), (4, a22), (4, a23), (0, a24), (2, 95), (2, 96), (2, 97), (2, 98), (2, 99), (2, 100), (2, 101), (2, 102), (0, a33), (2, 103), (2, 104), (2, 105), (2, 106), (2, 107), (2, 108), (2, 109), (0, a41), (0, a42), (2, 110), (2, 111), (2, 112), (2, 113)])) ∧ a2 ≤ 1 ∧ a3 ≤ 4294967295 ∧ a4 ≤ 500 ∧ a5 ≤ 500 ∧ a6 ≤ 4294967295 ∧ a7 ≤ 4 ∧ a8 ≤ 4294967295 ∧ a9 ≤ 4294967295 ∧ a10 ≤ 1 ∧ a14 ≤ 4294967295 ∧ a24 ≤ 4294967295 ∧ a33 ≤ 36 ∧ a41 ≤ 100 ∧ a42 ≤ 200 ∧ (a5 ≤ a4)
def cpx83 (q : Option xE) : Prop := ∃ f : Nat → Nat, (∃ us, q = some (.inr (0, 5360, 50, us)) ∧ ∀ j, j < 5360 → xat 0 us j = (0, f j)) ∧ (∀ j, f j ≤ 4294967295) ∧ okA f
def cpx99 (q : Option xE) : Prop := ∃ f : Nat → Nat, (∃ us, q = some (.inr (2, 36, 66, us)) ∧ ∀ j, j < 36 → xat 2 us j = (0, f j)) ∧ (∀ j, f j ≤ 1) ∧ okL f
def cpx100 (q : Option xE) : Prop := ∃ f : Nat → Nat, (∃ us, q = some (.inr (2, 36, 67, us)) ∧ ∀ j, j < 36 → xat 2 us j = (0, f j)) ∧ (∀ j, f j ≤ 1) ∧ okD f
def cpx102 (q : Option xE) : Prop := ∃ f : Nat → Nat, (∃ us, q = some (.inr (0, 36, 69, us)) ∧ ∀ j, j < 36 → xat 0 us j = (0, f j)) ∧ (∀ j, f j ≤ 4294967295) ∧ okN f
def cpx108 (q : Option xE) : Prop := ∃ f : Nat → Nat, (∃ us, q = some (.inr (0, 200, 75, us)) ∧ ∀ j, j < 200 → xat 0 us j = (0, f j)) ∧ (∀ j, f j ≤ 4294967295) ∧ okS f
def mps : List (Option xE → Prop) := [cp82, cpx83, cpK 2 0 3 51 1, cpI 7 52 4294967295, cpI 140 53 4294967295, cpI 20 54 4294967295, cpI 6 55 5, cpI 6 56 4294967295, cpI 6 57 4294967295, cpI 6 58 5, cpJ 6 59, cpJ 6 60, cpJ 6 61, cpI 36 62 4294967295, cpI 36 63 4294967295, cpI 6 64 4294967295, cpI 6 65 4294967295, cpx99, cpx100, cpI 36 68 35, cpx102, cpI 36 70 4294967295, cpI 36 71 4294967295, cpI 36 72 4294967295, cpI 14641 73 4294967295, cpK 2 0 14641 74 1, cpx108, cpI 300 76 4294967295, cpI 36 77 4294967295, cpI 240 78 4294967295, cpI 320 79 4294967295, cpI 4 80 4294967295]
def mpk (k : Nat) : Option xE → Prop := mps.getD (k - 82) (fun _ => True)
def xMnv (w : List (List xE)) : Prop := ∀ k, k < 114 → 82 ≤ k → mpk k (wget w k)
theorem xoX83 {P : Prop} {w : List (List xE)} (h : cpx83 (wget w 83)) (K : ∀ f : Nat → Nat, xRow w 83 5360 50 f → (∀ j, f j ≤ 4294967295) → okA f → P) : P := by
  obtain ⟨f, a, b, c⟩ := h
  exact K f a b c
theorem xmC82 {q : Option xE} (a2 a3 a4 a5 a6 a7 a8 a9 a10 a14 a22 a23 a24 a33 a41 a42 : Nat) (e : q = some (.inl (12, [(2, 83), (2, 84), (0, a2), (0, a3), (0, a4), (0, a5), (0, a6), (0, a7), (0, a8), (0, a9), (0, a10), (2, 85), (2, 86), (2, 87), (0, a14), (2, 88), (2, 89), (2, 90), (2, 91), (2, 92), (2, 93), (2, 94), (4, a22), (4, a23), (0, a24), (2, 95), (2, 96), (2, 97), (2, 98), (2, 99), (2, 100), (2, 101), (2, 102), (0, a33), (2, 103), (2, 104), (2, 105), (2, 106), (2, 107), (2, 108), (2, 109), (0, a41), (0, a42), (2, 110), (2, 111), (2, 112), (2, 113)]))) (z0 : a2 ≤ 1) (z1 : a3 ≤ 4294967295) (z2 : a4 ≤ 500) (z3 : a5 ≤ 500) (z4 : a6 ≤ 4294967295) (z5 : a7 ≤ 4) (z6 : a8 ≤ 4294967295) (z7 : a9 ≤ 4294967295) (z8 : a10 ≤ 1) (z9 : a14 ≤ 4294967295) (z10 : a24 ≤ 4294967295) (z11 : a33 ≤ 36) (z12 : a41 ≤ 100) (z13 : a42 ≤ 200) (z14 : a5 ≤ a4) : cp82 q := ⟨a2, a3, a4, a5, a6, a7, a8, a9, a10, a14, a22, a23, a24, a33, a41, a42, e, z0, z1, z2, z3, z4, z5, z6, z7, z8, z9, z10, z11, z12, z13, z14⟩
theorem xoCh82 {P : Prop} {q : Option xE} (h : cp82 q) (k : ∀ a2 a3 a4 a5 a6 a7 a8 a9 a10 a14 a22 a23 a24 a33 a41 a42 : Nat, q = some (.inl (12, [(2, 83), (2, 84), (0, a2), (0, a3), (0, a4), (0, a5), (0, a6), (0, a7), (0, a8), (0, a9), (0, a10), (2, 85), (2, 86), (2, 87), (0, a14), (2, 88), (2, 89), (2, 90), (2, 91), (2, 92), (2, 93), (2, 94), (4, a22), (4, a23), (0, a24), (2, 95), (2, 96), (2, 97), (2, 98), (2, 99), (2, 100), (2, 101), (2, 102), (0, a33), (2, 103), (2, 104), (2, 105), (2, 106), (2, 107), (2, 108), (2, 109), (0, a41), (0, a42), (2, 110), (2, 111), (2, 112), (2, 113)])) → (a2 ≤ 1) → xHid (a3 ≤ 4294967295) → (a4 ≤ 500) → (a5 ≤ 500) → xHid (a6 ≤ 4294967295) → (a7 ≤ 4) → xHid (a8 ≤ 4294967295) → xHid (a9 ≤ 4294967295) → (a10 ≤ 1) → xHid (a14 ≤ 4294967295) → xHid (a24 ≤ 4294967295) → xHid (a33 ≤ 36) → xHid (a41 ≤ 100) → xHid (a42 ≤ 200) → (a5 ≤ a4) → P) : P := by
  obtain ⟨a2, a3, a4, a5, a6, a7, a8, a9, a10, a14, a22, a23, a24, a33, a41, a42, e, z0, z1, z2, z3, z4, z5, z6, z7, z8, z9, z10, z11, z12, z13, z14⟩ := h
  exact k a2 a3 a4 a5 a6 a7 a8 a9 a10 a14 a22 a23 a24 a33 a41 a42 e z0 z1 z2 z3 z4 z5 z6 z7 z8 z9 z10 z11 z12 z13 z14
theorem xqc82 {w : List (List xE)} (h : xMnv w) : cp82 (wget w 82) := h 82 (by decide) (by decide)
theorem xqu82 {q : Option xE} (h : cp82 q) : mpk 82 q := h
theorem xqc83 {w : List (List xE)} (h : xMnv w) : cpx83 (wget w 83) := h 83 (by decide) (by decide)
theorem xqu83 {q : Option xE} (h : cpx83 q) : mpk 83 q := h
theorem xqc84 {w : List (List xE)} (h : xMnv w) : cpK 2 0 3 51 1 (wget w 84) := h 84 (by decide) (by decide)
theorem xqu84 {q : Option xE} (h : cpK 2 0 3 51 1 q) : mpk 84 q := h
theorem xqc85 {w : List (List xE)} (h : xMnv w) : cpI 7 52 4294967295 (wget w 85) := h 85 (by decide) (by decide)
theorem xqu85 {q : Option xE} (h : cpI 7 52 4294967295 q) : mpk 85 q := h
theorem xqc86 {w : List (List xE)} (h : xMnv w) : cpI 140 53 4294967295 (wget w 86) := h 86 (by decide) (by decide)
theorem xqu86 {q : Option xE} (h : cpI 140 53 4294967295 q) : mpk 86 q := h
theorem xqc87 {w : List (List xE)} (h : xMnv w) : cpI 20 54 4294967295 (wget w 87) := h 87 (by decide) (by decide)
theorem xqu87 {q : Option xE} (h : cpI 20 54 4294967295 q) : mpk 87 q := h
theorem xqc88 {w : List (List xE)} (h : xMnv w) : cpI 6 55 5 (wget w 88) := h 88 (by decide) (by decide)
theorem xqu88 {q : Option xE} (h : cpI 6 55 5 q) : mpk 88 q := h
theorem xqc89 {w : List (List xE)} (h : xMnv w) : cpI 6 56 4294967295 (wget w 89) := h 89 (by decide) (by decide)
theorem xqu89 {q : Option xE} (h : cpI 6 56 4294967295 q) : mpk 89 q := h
theorem xqc90 {w : List (List xE)} (h : xMnv w) : cpI 6 57 4294967295 (wget w 90) := h 90 (by decide) (by decide)
theorem xqu90 {q : Option xE} (h : cpI 6 57 4294967295 q) : mpk 90 q := h
theorem xqc91 {w : List (List xE)} (h : xMnv w) : cpI 6 58 5 (wget w 91) := h 91 (by decide) (by decide)
theorem xqu91 {q : Option xE} (h : cpI 6 58 5 q) : mpk 91 q := h
theorem xqc92 {w : List (List xE)} (h : xMnv w) : cpJ 6 59 (wget w 92) := h 92 (by decide) (by decide)
theorem xqu92 {q : Option xE} (h : cpJ 6 59 q) : mpk 92 q := h
theorem xqc93 {w : List (List xE)} (h : xMnv w) : cpJ 6 60 (wget w 93) := h 93 (by decide) (by decide)
theorem xqu93 {q : Option xE} (h : cpJ 6 60 q) : mpk 93 q := h
theorem xqc94 {w : List (List xE)} (h : xMnv w) : cpJ 6 61 (wget w 94) := h 94 (by decide) (by decide)
theorem xqu94 {q : Option xE} (h : cpJ 6 61 q) : mpk 94 q := h
theorem xqc95 {w : List (List xE)} (h : xMnv w) : cpI 36 62 4294967295 (wget w 95) := h 95 (by decide) (by decide)
theorem xqu95 {q : Option xE} (h : cpI 36 62 4294967295 q) : mpk 95 q := h
theorem xqc96 {w : List (List xE)} (h : xMnv w) : cpI 36 63 4294967295 (wget w 96) := h 96 (by decide) (by decide)
theorem xqu96 {q : Option xE} (h : cpI 36 63 4294967295 q) : mpk 96 q := h
theorem xqc97 {w : List (List xE)} (h : xMnv w) : cpI 6 64 4294967295 (wget w 97) := h 97 (by decide) (by decide)
theorem xqu97 {q : Option xE} (h : cpI 6 64 4294967295 q) : mpk 97 q := h
theorem xqc98 {w : List (List xE)} (h : xMnv w) : cpI 6 65 4294967295 (wget w 98) := h 98 (by decide) (by decide)
theorem xqu98 {q : Option xE} (h : cpI 6 65 4294967295 q) : mpk 98 q := h
theorem xqc99 {w : List (List xE)} (h : xMnv w) : cpx99 (wget w 99) := h 99 (by decide) (by decide)
theorem xqu99 {q : Option xE} (h : cpx99 q) : mpk 99 q := h
theorem xqc100 {w : List (List xE)} (h : xMnv w) : cpx100 (wget w 100) := h 100 (by decide) (by decide)
theorem xqu100 {q : Option xE} (h : cpx100 q) : mpk 100 q := h
theorem xqc101 {w : List (List xE)} (h : xMnv w) : cpI 36 68 35 (wget w 101) := h 101 (by decide) (by decide)
theorem xqu101 {q : Option xE} (h : cpI 36 68 35 q) : mpk 101 q := h
theorem xqc102 {w : List (List xE)} (h : xMnv w) : cpx102 (wget w 102) := h 102 (by decide) (by decide)
theorem xqu102 {q : Option xE} (h : cpx102 q) : mpk 102 q := h
theorem xqc103 {w : List (List xE)} (h : xMnv w) : cpI 36 70 4294967295 (wget w 103) := h 103 (by decide) (by decide)
theorem xqu103 {q : Option xE} (h : cpI 36 70 4294967295 q) : mpk 103 q := h
theorem xqc104 {w : List (List xE)} (h : xMnv w) : cpI 36 71 4294967295 (wget w 104) := h 104 (by decide) (by decide)
theorem xqu104 {q : Option xE} (h : cpI 36 71 4294967295 q) : mpk 104 q := h
theorem xqc105 {w : List (List xE)} (h : xMnv w) : cpI 36 72 4294967295 (wget w 105) := h 105 (by decide) (by decide)
theorem xqu105 {q : Option xE} (h : cpI 36 72 4294967295 q) : mpk 105 q := h
theorem xqc106 {w : List (List xE)} (h : xMnv w) : cpI 14641 73 4294967295 (wget w 106) := h 106 (by decide) (by decide)
theorem xqu106 {q : Option xE} (h : cpI 14641 73 4294967295 q) : mpk 106 q := h
theorem xqc107 {w : List (List xE)} (h : xMnv w) : cpK 2 0 14641 74 1 (wget w 107) := h 107 (by decide) (by decide)
theorem xqu107 {q : Option xE} (h : cpK 2 0 14641 74 1 q) : mpk 107 q := h
theorem xqc108 {w : List (List xE)} (h : xMnv w) : cpx108 (wget w 108) := h 108 (by decide) (by decide)
theorem xqu108 {q : Option xE} (h : cpx108 q) : mpk 108 q := h
theorem xqc109 {w : List (List xE)} (h : xMnv w) : cpI 300 76 4294967295 (wget w 109) := h 109 (by decide) (by decide)
theorem xqu109 {q : Option xE} (h : cpI 300 76 4294967295 q) : mpk 109 q := h
theorem xqc110 {w : List (List xE)} (h : xMnv w) : cpI 36 77 4294967295 (wget w 110) := h 110 (by decide) (by decide)
theorem xqu110 {q : Option xE} (h : cpI 36 77 4294967295 q) : mpk 110 q := h
theorem xqc111 {w : List (List xE)} (h : xMnv w) : cpI 240 78 4294967295 (wget w 111) := h 111 (by decide) (by decide)
theorem xqu111 {q : Option xE} (h : cpI 240 78 4294967295 q) : mpk 111 q := h
theorem xqc112 {w : List (List xE)} (h : xMnv w) : cpI 320 79 4294967295 (wget w 112) := h 112 (by decide) (by decide)
theorem xqu112 {q : Option xE} (h : cpI 320 79 4294967295 q) : mpk 112 q := h
theorem xqc113 {w : List (List xE)} (h : xMnv w) : cpI 4 80 4294967295 (wget w 113) := h 113 (by decide) (by decide)
theorem xqu113 {q : Option xE} (h : cpI 4 80 4294967295 q) : mpk 113 q := h
theorem xMnv.up {w w' : List (List xE)} {S : List Nat} (h : xMnv w) (hf : xFr S w w') (hs : ∀ k ∈ S, mpk k (wget w' k)) : xMnv w' := by
  intro k hk h8
  by_cases hc : k ∈ S
  · exact hs k hc
  · rw [hf.1 k hc]
    exact h k hk h8
end
