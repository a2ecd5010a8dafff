/-! Ways: every method ends and keeps what holds of the cells -/
section XWY
variable {d : Nat} {w : List (List xE)} {bd : List (Nat × Nat)} {fc : List (Nat × Nat × Bool)} {rr : Nat × Nat}
theorem wyForget (hI : xInv w)  : xPq d mX10_forget [(2, 58)] w bd fc rr [] (fun w' => xInv w' ∧ xFr [58] w w') := by
  refine xPq.of ?_
  show xTo d mX10_forget (0, [], [(0, (2, 58))], [], (w, bd, fc, 0, 0, rr)) (fun φ => ∃ w', xEnd 0 [] (w', bd, fc, 0, 0, rr) φ ∧ xInv w' ∧ xFr [58] w w')
  refine xg_t (xg_blq rfl) ?_
  refine xg_t (xg_aload (va := (2, 58)) rfl rfl) ?_
  refine xg_t (xg_const) ?_
  refine xoC58 (xqc58 hI : cp58 (wget w 58)) (fun f58_1 f58_3 f58_5 h58_7 hb2 hb4 hb6 => ?_)
  refine xg_putZ (fl1 := [(2, 1), (2, 59), (2, 60), (2, 61), (2, 62), (2, 63), (2, 64), (2, 65), (2, 66), (2, 67), (0, f58_1), (0, f58_3), (0, 0)]) h58_7 rfl rfl rfl (fun w8 hk9 hb10 => ?_)
  exact xg_e ⟨w8, ⟨rfl, rfl⟩, xInv.up (S := [58]) hI (xFr.of (S := [58]) hb10 (by decide)) (List.forall_mem_cons.mpr ⟨xqu58 (show cp58 (wget w8 58) from xmC58 f58_1 f58_3 0 hk9 hb2 hb4 (by decide)), fun _ h => absurd h List.not_mem_nil⟩), (xFr.of (S := [58]) hb10 (by decide))⟩
theorem wyReach {pt bj : Nat} (hI : xInv w) (h1 : pt ≤ 4294967295) (h2 : bj ≤ 4294967295) : xPq d mX10_reach [(2, 58), (0, pt), (0, bj)] w bd fc rr [] (fun w' => xInv w' ∧ xFr [58, 66, 67] w w') := by
  refine xPq.of ?_
  show xTo d mX10_reach (0, [], [(0, (2, 58)), (1, (0, pt)), (2, (0, bj))], [], (w, bd, fc, 0, 0, rr)) (fun φ => ∃ w', xEnd 0 [] (w', bd, fc, 0, 0, rr) φ ∧ xInv w' ∧ xFr [58, 66, 67] w w')
  refine xg_t (xg_blq rfl) ?_
  refine xg_t (xg_iload (va := (0, pt)) rfl rfl) ?_
  by_cases hc1 : pt < 2147483648
  · refine xg_t (xg_ifF (u := pt) rfl xnm0 (xjz_ltF hc1)) ?_
    refine xg_t (xg_iload (va := (0, pt)) rfl rfl) ?_
    refine xg_t (xg_bip) ?_
    by_cases hc2 : pt < 36
    · refine xg_t (xg_icF (u := pt) (v := 36) rfl xnm0 xnm0 (xj_geF hc2 (by omega))) ?_
      refine xg_t (xg_aload (va := (2, 58)) rfl rfl) ?_
      refine xoC58 (xqc58 hI : cp58 (wget w 58)) (fun f58_3 f58_5 f58_7 h58_9 hb4 hb6 hb8 => ?_)
      refine xg_t (xg_getf (va := (2, 66)) h58_9 rfl) ?_
      refine xg_t (xg_iload (va := (0, pt)) rfl rfl) ?_
      refine xoI (xqc66 hI : cpI 36 38 4294967295 (wget w 66)) (fun g66_10 h66_11 hb12 => ?_)
      refine xg_ialdB (n := pt) (B := 4294967295) h66_11 (hb12) xnm0 (by omega) (fun u13 hu14 he15 => ?_)
      refine xg_t (xg_const) ?_
      by_cases hc16 : u13 = 4294967295
      · refine xg_t (xg_icF (u := u13) (v := 4294967295) rfl xnm0 xnm0 (xj_neF hc16)) ?_
        refine xg_t (xg_aload (va := (2, 58)) rfl rfl) ?_
        refine xg_t (xg_getf (va := (0, f58_3)) h58_9 rfl) ?_
        refine xg_t (xg_bip) ?_
        by_cases hc17 : f58_3 < 36
        · refine xg_t (xg_icF (u := f58_3) (v := 36) rfl xnm0 xnm0 (xj_geF hc17 (by omega))) ?_
          refine xg_t (xg_aload (va := (2, 58)) rfl rfl) ?_
          refine xg_t (xg_getf (va := (2, 66)) h58_9 rfl) ?_
          refine xg_t (xg_iload (va := (0, pt)) rfl rfl) ?_
          refine xg_t (xg_iload (va := (0, bj)) rfl rfl) ?_
          refine xg_iastK (n := pt) (u := bj) h66_11 xnm0 xnm0 rfl (by omega) (fun w18 hr19 hb20 => ?_)
          refine xg_t (xg_aload (va := (2, 58)) rfl rfl) ?_
          refine xg_t (xg_getf (va := (2, 67)) (hb20.get (by decide) h58_9) rfl) ?_
          refine xg_t (xg_aload (va := (2, 58)) rfl rfl) ?_
          refine xg_t (xg_getf (va := (0, f58_3)) (hb20.get (by decide) h58_9) rfl) ?_
          refine xg_t (xg_iload (va := (0, pt)) rfl rfl) ?_
          refine xoI (xqc67 hI : cpI 36 39 35 (wget w 67)) (fun g67_21 h67_22 hb23 => ?_)
          refine xg_iastK (n := f58_3) (u := pt) (h67_22.but hb20 (by decide)) xnm0 xnm0 rfl (by omega) (fun w24 hr25 hb26 => ?_)
          refine xg_t (xg_aload (va := (2, 58)) rfl rfl) ?_
          refine xg_t (xg_dup rfl) ?_
          refine xg_t (xg_getf (va := (0, f58_3)) (hb26.get (by decide) (hb20.get (by decide) h58_9)) rfl) ?_
          refine xg_t (xg_const) ?_
          refine xg_t (xg_iadd (u := f58_3) (v := 1) (z := f58_3 + 1) xnm0 xnm0 (by omega)) ?_
          refine xg_putI (fl1 := [(2, 1), (2, 59), (2, 60), (2, 61), (2, 62), (2, 63), (2, 64), (2, 65), (2, 66), (2, 67), (0, f58_3 + 1), (0, f58_5), (0, f58_7)]) (hb26.get (by decide) (hb20.get (by decide) h58_9)) rfl rfl rfl (fun w27 hk28 hb29 => ?_)
          refine xg_t (xg_blq rfl) ?_
          exact xg_e ⟨w27, ⟨rfl, rfl⟩, xInv.up (S := [66, 67, 58]) hI (((xFr.of (S := [66, 67, 58]) hb20 (by decide)).tr (xFr.of (S := [66, 67, 58]) hb26 (by decide))).tr (xFr.of (S := [66, 67, 58]) hb29 (by decide))) (List.forall_mem_cons.mpr ⟨xqu66 (show cpI 36 38 4294967295 (wget w27 66) from ⟨_, ((hr19.but hb26 (by decide)).but hb29 (by decide)), xrb (by omega) (hb12)⟩), List.forall_mem_cons.mpr ⟨xqu67 (show cpI 36 39 35 (wget w27 67) from ⟨_, (hr25.but hb29 (by decide)), xrb (by omega) (hb23)⟩), List.forall_mem_cons.mpr ⟨xqu58 (show cp58 (wget w27 58) from xmC58 (f58_3 + 1) f58_5 f58_7 hk28 (by omega) hb6 hb8), fun _ h => absurd h List.not_mem_nil⟩⟩⟩), (((xFr.of (S := [58, 66, 67]) hb20 (by decide)).tr (xFr.of (S := [58, 66, 67]) hb26 (by decide))).tr (xFr.of (S := [58, 66, 67]) hb29 (by decide)))⟩
        · refine xg_t (xg_icT (u := f58_3) (v := 36) rfl xnm0 xnm0 (xj_geT (by omega) (by omega))) ?_
          refine xg_t (xg_blq rfl) ?_
          exact xg_e ⟨w, ⟨rfl, rfl⟩, hI, xFr.rf⟩
      · refine xg_t (xg_icT (u := u13) (v := 4294967295) rfl xnm0 xnm0 (xj_neT hc16)) ?_
        refine xg_t (xg_blq rfl) ?_
        exact xg_e ⟨w, ⟨rfl, rfl⟩, hI, xFr.rf⟩
    · refine xg_t (xg_icT (u := pt) (v := 36) rfl xnm0 xnm0 (xj_geT (by omega) (by omega))) ?_
      refine xg_t (xg_blq rfl) ?_
      exact xg_e ⟨w, ⟨rfl, rfl⟩, hI, xFr.rf⟩
  · refine xg_t (xg_ifT (u := pt) rfl xnm0 (xjz_ltT (by omega) (by omega))) ?_
    refine xg_t (xg_blq rfl) ?_
    exact xg_e ⟨w, ⟨rfl, rfl⟩, hI, xFr.rf⟩
theorem wyIsReached {pt : Nat} (hI : xInv w) (h1 : pt ≤ 4294967295) : xPi d mX10_isReached [(2, 58), (0, pt)] w bd fc rr (fun n w' => (n ≤ 1 ∧ (n = 0 ∨ pt ≤ 35)) ∧ xInv w' ∧ xFr [] w w') := by
  refine xPi.of ?_
  show xTo d mX10_isReached (0, [], [(0, (2, 58)), (1, (0, pt))], [], (w, bd, fc, 0, 0, rr)) (fun φ => ∃ n w', xEnd 4 [(0, n)] (w', bd, fc, 0, 0, rr) φ ∧ (n ≤ 1 ∧ (n = 0 ∨ pt ≤ 35)) ∧ xInv w' ∧ xFr [] w w')
  refine xg_t (xg_blq rfl) ?_
  refine xg_t (xg_iload (va := (0, pt)) rfl rfl) ?_
  by_cases hc1 : pt < 2147483648
  · refine xg_t (xg_ifF (u := pt) rfl xnm0 (xjz_ltF hc1)) ?_
    refine xg_t (xg_iload (va := (0, pt)) rfl rfl) ?_
    refine xg_t (xg_bip) ?_
    by_cases hc2 : pt < 36
    · refine xg_t (xg_icF (u := pt) (v := 36) rfl xnm0 xnm0 (xj_geF hc2 (by omega))) ?_
      refine xg_t (xg_aload (va := (2, 58)) rfl rfl) ?_
      refine xoC58 (xqc58 hI : cp58 (wget w 58)) (fun f58_3 f58_5 f58_7 h58_9 hb4 hb6 hb8 => ?_)
      refine xg_t (xg_getf (va := (2, 66)) h58_9 rfl) ?_
      refine xg_t (xg_iload (va := (0, pt)) rfl rfl) ?_
      refine xoI (xqc66 hI : cpI 36 38 4294967295 (wget w 66)) (fun g66_10 h66_11 hb12 => ?_)
      refine xg_ialdB (n := pt) (B := 4294967295) h66_11 (hb12) xnm0 (by omega) (fun u13 hu14 he15 => ?_)
      refine xg_t (xg_const) ?_
      by_cases hc16 : u13 = 4294967295
      · refine xg_t (xg_icT (u := u13) (v := 4294967295) rfl xnm0 xnm0 (xj_eqT hc16)) ?_
        refine xg_t (xg_blq rfl) ?_
        refine xg_t (xg_const) ?_
        refine xg_t (xg_blq rfl) ?_
        exact xg_e ⟨0, w, ⟨rfl, rfl⟩, by first | decide | omega, hI, xFr.rf⟩
      · refine xg_t (xg_icF (u := u13) (v := 4294967295) rfl xnm0 xnm0 (xj_eqF hc16)) ?_
        refine xg_t (xg_const) ?_
        refine xg_t (xg_goto) ?_
        refine xg_t (xg_blq rfl) ?_
        exact xg_e ⟨1, w, ⟨rfl, rfl⟩, by first | decide | omega, hI, xFr.rf⟩
    · refine xg_t (xg_icT (u := pt) (v := 36) rfl xnm0 xnm0 (xj_geT (by omega) (by omega))) ?_
      refine xg_t (xg_blq rfl) ?_
      refine xg_t (xg_const) ?_
      refine xg_t (xg_blq rfl) ?_
      exact xg_e ⟨0, w, ⟨rfl, rfl⟩, by first | decide | omega, hI, xFr.rf⟩
  · refine xg_t (xg_ifT (u := pt) rfl xnm0 (xjz_ltT (by omega) (by omega))) ?_
    refine xg_t (xg_blq rfl) ?_
    refine xg_t (xg_const) ?_
    refine xg_t (xg_blq rfl) ?_
    exact xg_e ⟨0, w, ⟨rfl, rfl⟩, by first | decide | omega, hI, xFr.rf⟩
theorem wyExplore (hI : xInv w)  : xPi (d + 1) mX10_explore [(2, 58)] w bd fc rr (fun n w' => (n ≤ 35 ∨ n = 4294967295) ∧ xInv w' ∧ xFr [58, 66, 67] w w') := by
  refine xPi.of ?_
  show xTo (d + 1) mX10_explore (0, [], [(0, (2, 58))], [], (w, bd, fc, 0, 0, rr)) (fun φ => ∃ n w', xEnd 1 [(0, n)] (w', bd, fc, 0, 0, rr) φ ∧ (n ≤ 35 ∨ n = 4294967295) ∧ xInv w' ∧ xFr [58, 66, 67] w w')
  refine xoC58 (xqc58 hI : cp58 (wget w 58)) (fun f58_1 f58_3 f58_5 h58_7 hb2 hb4 hb6 => ?_)
  refine xoC1 (xqc1 hI : cp1 (wget w 1)) (fun f1_8 f1_10 f1_12 f1_14 f1_16 f1_18 h1_20 hb9 hb11 hb13 hb15 hb17 hb19 => ?_)
  refine xoC3 (xqc3 hI : cp3 (wget w 3)) (fun f3_21 f3_23 f3_25 f3_27 f3_29 h3_31 hb22 hb24 hb26 hb28 hb30 => ?_)
  refine xg_t (xg_blq rfl) ?_
  refine xg_t (xg_aload (va := (2, 58)) rfl rfl) ?_
  refine xg_t (xg_getf (va := (2, 66)) h58_7 rfl) ?_
  refine xg_t (xg_const) ?_
  refine xoI (xqc66 hI : cpI 36 38 4294967295 (wget w 66)) (fun g66_32 h66_33 hb34 => ?_)
  refine xg_cS mJ7_fill_53178 (vs := [(2, 66), (0, 4294967295)]) (rest := []) (rs := []) (cn1 := 0) (sl1 := 0) rfl (fillI (v := 4294967295) h66_33 (by decide)) rfl rfl rfl rfl rfl rfl rfl rfl (fun w35 hq36 => ?_)
  refine xg_t (xg_aload (va := (2, 58)) rfl rfl) ?_
  refine xg_t (xg_const) ?_
  refine xg_putI (fl1 := [(2, 1), (2, 59), (2, 60), (2, 61), (2, 62), (2, 63), (2, 64), (2, 65), (2, 66), (2, 67), (0, 0), (0, f58_3), (0, f58_5)]) (hq36.2.get (by decide) h58_7) rfl rfl rfl (fun w37 hk38 hb39 => ?_)
  refine xg_t (xg_const) ?_
  refine xg_t (xg_istore (l1 := [(0, (2, 58))]) rfl rfl rfl) ?_
  refine xg_t (xg_drop (l1 := [(0, (2, 58)), (1, (0, 0))]) (List.forall_mem_cons.mpr ⟨List.mem_cons_of_mem _ (List.mem_cons_self), List.forall_mem_cons.mpr ⟨List.mem_cons_self, fun _ h => absurd h List.not_mem_nil⟩⟩)) ?_
  have key40 : ∀ (m42 : Nat) (ro : Nat) (w43 : List (List xE)), 6 - ro < m42 → ro ≤ 6 → xInv w43 → xFr [58, 66, 67] w w43 → xTo (d + 1) mX10_explore (15, [], [(0, (2, 58)), (1, (0, ro))], [], (w43, bd, fc, 0, 0, rr)) (fun φ => ∃ n w', xEnd 1 [(0, n)] (w', bd, fc, 0, 0, rr) φ ∧ (n ≤ 35 ∨ n = 4294967295) ∧ xInv w' ∧ xFr [58, 66, 67] w w') := by
    intro m42
    induction m42 with
    | zero => intro ro w43 hz; exact absurd hz (Nat.not_lt_zero _)
    | succ m42 ih41 =>
      intro ro w43 hm47 hn46 hI44 hF45
      refine xg_t (xg_blq rfl) ?_
      refine xg_t (xg_iload (va := (0, ro)) rfl rfl) ?_
      refine xg_t (xg_aload (va := (2, 58)) rfl rfl) ?_
      refine xoC58 (xqc58 hI44 : cp58 (wget w43 58)) (fun f58_48 f58_50 f58_52 h58_54 hb49 hb51 hb53 => ?_)
      refine xg_t (xg_getf (va := (2, 1)) h58_54 rfl) ?_
      refine xg_t (xg_getf (va := (2, 3)) (hF45.get (by decide) h1_20) rfl) ?_
      refine xg_t (xg_getf (va := (0, f3_25)) (hF45.get (by decide) h3_31) rfl) ?_
      by_cases hc55 : ro < f3_25
      · refine xg_t (xg_icF (u := ro) (v := f3_25) rfl xnm0 xnm0 (xj_geF hc55 (by omega))) ?_
        refine xg_t (xg_aload (va := (2, 58)) rfl rfl) ?_
        refine xg_t (xg_getf (va := (2, 63)) h58_54 rfl) ?_
        refine xg_t (xg_iload (va := (0, ro)) rfl rfl) ?_
        obtain ⟨g63_56, h63_57, hb58⟩ := (xqc63 hI44 : cpK 2 0 6 35 1 (wget w43 63))
        have h63_57 : xRk 2 0 w43 63 6 35 g63_56 := h63_57
        refine xg_baldB (n := ro) (B := 1) h63_57 rfl (hb58) xnm0 (by omega) (fun u59 hu60 he61 => ?_)
        by_cases hc62 : u59 = 0
        · refine xg_t (xg_ifF (u := u59) rfl xnm0 (xj_neF hc62)) ?_
          refine xg_t (xg_aload (va := (2, 58)) rfl rfl) ?_
          refine xg_t (xg_iload (va := (0, ro)) rfl rfl) ?_
          refine xg_t (xg_bip) ?_
          refine xg_t (xg_imul (u := ro) (v := 6) (z := ro * 6) xnm0 xnm0 (by omega)) ?_
          refine xg_t (xg_const) ?_
          refine xg_cVv mX10_reach (vs := [(0, ro * 6), (0, 0)]) (rest := []) (cn1 := 0) (sl1 := 0) rfl (wyReach (hI44) (by omega) (by omega)) rfl h58_54 rfl rfl rfl rfl rfl rfl (fun w63 hq64 => ?_)
          obtain ⟨hI65, hF66⟩ := hq64
          refine xg_t (xg_blq rfl) ?_
          refine xg_t (xg_iinc (u := ro) (z := ro + 1) (l1 := [(0, (2, 58))]) rfl rfl (by omega) rfl) ?_
          refine xg_t (xg_goto) ?_
          refine xg_t (xg_drop (l1 := [(0, (2, 58)), (1, (0, ro + 1))]) (List.forall_mem_cons.mpr ⟨List.mem_cons_of_mem _ (List.mem_cons_self), List.forall_mem_cons.mpr ⟨List.mem_cons_self, fun _ h => absurd h List.not_mem_nil⟩⟩)) ?_
          exact ih41 (ro + 1) w63 (by omega) (by omega) (hI65) ((hF45.tr (hF66.up (by decide))))
        · refine xg_t (xg_ifT (u := u59) rfl xnm0 (xj_neT hc62)) ?_
          refine xg_t (xg_blq rfl) ?_
          refine xg_t (xg_iinc (u := ro) (z := ro + 1) (l1 := [(0, (2, 58))]) rfl rfl (by omega) rfl) ?_
          refine xg_t (xg_goto) ?_
          refine xg_t (xg_drop (l1 := [(0, (2, 58)), (1, (0, ro + 1))]) (List.forall_mem_cons.mpr ⟨List.mem_cons_of_mem _ (List.mem_cons_self), List.forall_mem_cons.mpr ⟨List.mem_cons_self, fun _ h => absurd h List.not_mem_nil⟩⟩)) ?_
          exact ih41 (ro + 1) w43 (by omega) (by omega) (hI44) (hF45)
      · refine xg_t (xg_icT (u := ro) (v := f3_25) rfl xnm0 xnm0 (xj_geT (by omega) (by omega))) ?_
        refine xg_t (xg_blq rfl) ?_
        refine xg_t (xg_aload (va := (2, 58)) rfl rfl) ?_
        refine xg_t (xg_getf (va := (2, 1)) h58_54 rfl) ?_
        refine xg_t (xg_getf (va := (2, 3)) (hF45.get (by decide) h1_20) rfl) ?_
        refine xg_t (xg_getf (va := (0, f3_27)) (hF45.get (by decide) h3_31) rfl) ?_
        refine xg_t (xg_const) ?_
        refine xg_k (xg_isub (u := f3_27) (v := 1) (z := (f3_27 + (4294967296 - 1)) % 4294967296) xnm0 xnm0 rfl) (Nat.mod_lt _ (by decide)) (fun z67 hz68 => ?_)
        refine xg_t (xg_istore (l1 := [(0, (2, 58))]) rfl rfl rfl) ?_
        refine xg_t (xg_const) ?_
        refine xg_t (xg_istore (l1 := [(1, (0, z67)), (0, (2, 58))]) rfl rfl rfl) ?_
        refine xg_t (xg_drop (l1 := [(0, (2, 58)), (1, (0, z67)), (2, (0, 0))]) (List.forall_mem_cons.mpr ⟨List.mem_cons_of_mem _ (List.mem_cons_of_mem _ (List.mem_cons_self)), List.forall_mem_cons.mpr ⟨List.mem_cons_of_mem _ (List.mem_cons_self), List.forall_mem_cons.mpr ⟨List.mem_cons_self, fun _ h => absurd h List.not_mem_nil⟩⟩⟩)) ?_
        have key69 : ∀ (m71 : Nat) (ki : Nat) (w72 : List (List xE)), 36 - ki < m71 → ki ≤ 36 → xInv w72 → xFr [58, 66, 67] w w72 → xTo (d + 1) mX10_explore (68, [], [(0, (2, 58)), (1, (0, z67)), (2, (0, ki))], [], (w72, bd, fc, 0, 0, rr)) (fun φ => ∃ n w', xEnd 1 [(0, n)] (w', bd, fc, 0, 0, rr) φ ∧ (n ≤ 35 ∨ n = 4294967295) ∧ xInv w' ∧ xFr [58, 66, 67] w w') := by
          intro m71
          induction m71 with
          | zero => intro ki w72 hz; exact absurd hz (Nat.not_lt_zero _)
          | succ m71 ih70 =>
            intro ki w72 hm76 hn75 hI73 hF74
            refine xg_t (xg_blq rfl) ?_
            refine xg_t (xg_iload (va := (0, ki)) rfl rfl) ?_
            refine xg_t (xg_bip) ?_
            by_cases hc77 : ki < 36
            · refine xg_t (xg_icF (u := ki) (v := 36) rfl xnm0 xnm0 (xj_geF hc77 (by omega))) ?_
              refine xg_t (xg_iload (va := (0, ki)) rfl rfl) ?_
              refine xg_t (xg_aload (va := (2, 58)) rfl rfl) ?_
              refine xoC58 (xqc58 hI73 : cp58 (wget w72 58)) (fun f58_78 f58_80 f58_82 h58_84 hb79 hb81 hb83 => ?_)
              refine xg_t (xg_getf (va := (0, f58_78)) h58_84 rfl) ?_
              by_cases hc85 : ki < f58_78
              · refine xg_t (xg_icF (u := ki) (v := f58_78) rfl xnm0 xnm0 (xj_geF hc85 (by omega))) ?_
                refine xg_t (xg_aload (va := (2, 58)) rfl rfl) ?_
                refine xg_t (xg_getf (va := (2, 67)) h58_84 rfl) ?_
                refine xg_t (xg_iload (va := (0, ki)) rfl rfl) ?_
                refine xoI (xqc67 hI73 : cpI 36 39 35 (wget w72 67)) (fun g67_86 h67_87 hb88 => ?_)
                refine xg_ialdB (n := ki) (B := 35) h67_87 (hb88) xnm0 (by omega) (fun u89 hu90 he91 => ?_)
                refine xg_t (xg_istore (l1 := [(0, (2, 58)), (1, (0, z67)), (2, (0, ki))]) rfl rfl rfl) ?_
                refine xg_t (xg_iload (va := (0, u89)) rfl rfl) ?_
                refine xg_t (xg_bip) ?_
                refine xg_t (xg_idiv (u := u89) (v := 6) (z := u89 / 6) xnm0 xnm0 (by omega) (by decide) (by decide) (rfl)) ?_
                refine xg_t (xg_istore (l1 := [(3, (0, u89)), (0, (2, 58)), (1, (0, z67)), (2, (0, ki))]) rfl rfl rfl) ?_
                refine xg_t (xg_iload (va := (0, u89)) rfl rfl) ?_
                refine xg_t (xg_bip) ?_
                refine xg_t (xg_irem (u := u89) (v := 6) (z := u89 % 6) xnm0 xnm0 (by omega) (by decide) (by decide) (rfl)) ?_
                refine xg_t (xg_istore (l1 := [(4, (0, u89 / 6)), (3, (0, u89)), (0, (2, 58)), (1, (0, z67)), (2, (0, ki))]) rfl rfl rfl) ?_
                have jn92 : ∀ (w93 : List (List xE)), xInv w93 → xFr [58, 66, 67] w w93 → xTo (d + 1) mX10_explore (129, [], [(0, (2, 58)), (1, (0, z67)), (2, (0, ki)), (3, (0, u89)), (4, (0, u89 / 6)), (5, (0, u89 % 6))], [], (w93, bd, fc, 0, 0, rr)) (fun φ => ∃ n w', xEnd 1 [(0, n)] (w', bd, fc, 0, 0, rr) φ ∧ (n ≤ 35 ∨ n = 4294967295) ∧ xInv w' ∧ xFr [58, 66, 67] w w') := by
                  intro w93 hI94 hF95
                  refine xg_t (xg_blq rfl) ?_
                  have jn96 : ∀ (w97 : List (List xE)), xInv w97 → xFr [58, 66, 67] w w97 → xTo (d + 1) mX10_explore (155, [], [(0, (2, 58)), (1, (0, z67)), (2, (0, ki)), (3, (0, u89)), (4, (0, u89 / 6)), (5, (0, u89 % 6))], [], (w97, bd, fc, 0, 0, rr)) (fun φ => ∃ n w', xEnd 1 [(0, n)] (w', bd, fc, 0, 0, rr) φ ∧ (n ≤ 35 ∨ n = 4294967295) ∧ xInv w' ∧ xFr [58, 66, 67] w w') := by
                    intro w97 hI98 hF99
                    refine xg_t (xg_blq rfl) ?_
                    have jn100 : ∀ (w101 : List (List xE)), xInv w101 → xFr [58, 66, 67] w w101 → xTo (d + 1) mX10_explore (179, [], [(0, (2, 58)), (1, (0, z67)), (2, (0, ki)), (3, (0, u89)), (4, (0, u89 / 6)), (5, (0, u89 % 6))], [], (w101, bd, fc, 0, 0, rr)) (fun φ => ∃ n w', xEnd 1 [(0, n)] (w', bd, fc, 0, 0, rr) φ ∧ (n ≤ 35 ∨ n = 4294967295) ∧ xInv w' ∧ xFr [58, 66, 67] w w') := by
                      intro w101 hI102 hF103
                      refine xg_t (xg_blq rfl) ?_
                      have jn104 : ∀ (w105 : List (List xE)), xInv w105 → xFr [58, 66, 67] w w105 → xTo (d + 1) mX10_explore (207, [], [(0, (2, 58)), (1, (0, z67)), (2, (0, ki)), (3, (0, u89)), (4, (0, u89 / 6)), (5, (0, u89 % 6))], [], (w105, bd, fc, 0, 0, rr)) (fun φ => ∃ n w', xEnd 1 [(0, n)] (w', bd, fc, 0, 0, rr) φ ∧ (n ≤ 35 ∨ n = 4294967295) ∧ xInv w' ∧ xFr [58, 66, 67] w w') := by
                        intro w105 hI106 hF107
                        refine xg_t (xg_blq rfl) ?_
                        have jn108 : ∀ (w109 : List (List xE)), xInv w109 → xFr [58, 66, 67] w w109 → xTo (d + 1) mX10_explore (246, [], [(0, (2, 58)), (1, (0, z67)), (2, (0, ki)), (3, (0, u89)), (4, (0, u89 / 6)), (5, (0, u89 % 6))], [], (w109, bd, fc, 0, 0, rr)) (fun φ => ∃ n w', xEnd 1 [(0, n)] (w', bd, fc, 0, 0, rr) φ ∧ (n ≤ 35 ∨ n = 4294967295) ∧ xInv w' ∧ xFr [58, 66, 67] w w') := by
                          intro w109 hI110 hF111
                          refine xg_t (xg_blq rfl) ?_
                          refine xg_t (xg_iinc (u := ki) (z := ki + 1) (l1 := [(0, (2, 58)), (1, (0, z67)), (3, (0, u89)), (4, (0, u89 / 6)), (5, (0, u89 % 6))]) rfl rfl (by omega) rfl) ?_
                          refine xg_t (xg_goto) ?_
                          refine xg_t (xg_drop (l1 := [(0, (2, 58)), (1, (0, z67)), (2, (0, ki + 1))]) (List.forall_mem_cons.mpr ⟨List.mem_cons_of_mem _ (List.mem_cons_self), List.forall_mem_cons.mpr ⟨List.mem_cons_of_mem _ (List.mem_cons_of_mem _ (List.mem_cons_self)), List.forall_mem_cons.mpr ⟨List.mem_cons_self, fun _ h => absurd h List.not_mem_nil⟩⟩⟩)) ?_
                          exact ih70 (ki + 1) w109 (by omega) (by omega) (hI110) (hF111)
                        refine xg_t (xg_iload (va := (0, u89 / 6)) rfl rfl) ?_
                        by_cases hc112 : 0 < (u89 / 6)
                        · refine xg_t (xg_ifF (u := u89 / 6) rfl xnm0 (xj_leF hc112 (by omega))) ?_
                          refine xg_t (xg_aload (va := (2, 58)) rfl rfl) ?_
                          refine xoC58 (xqc58 hI106 : cp58 (wget w105 58)) (fun f58_113 f58_115 f58_117 h58_119 hb114 hb116 hb118 => ?_)
                          refine xg_t (xg_getf (va := (2, 60)) h58_119 rfl) ?_
                          refine xg_t (xg_iload (va := (0, u89)) rfl rfl) ?_
                          refine xg_t (xg_bip) ?_
                          refine xg_t (xg_isub (u := u89) (v := 6) (z := u89 - 6) xnm0 xnm0 (by omega)) ?_
                          obtain ⟨g60_120, h60_121, hb122⟩ := (xqc60 hI106 : cpK 2 0 36 32 1 (wget w105 60))
                          have h60_121 : xRk 2 0 w105 60 36 32 g60_120 := h60_121
                          refine xg_baldB (n := u89 - 6) (B := 1) h60_121 rfl (hb122) xnm0 (by omega) (fun u123 hu124 he125 => ?_)
                          by_cases hc126 : u123 = 0
                          · refine xg_t (xg_ifT (u := u123) rfl xnm0 (xj_eqT hc126)) ?_
                            exact jn108 w105 (hI106) (hF107)
                          · refine xg_t (xg_ifF (u := u123) rfl xnm0 (xj_eqF hc126)) ?_
                            refine xg_t (xg_aload (va := (2, 58)) rfl rfl) ?_
                            refine xg_t (xg_getf (va := (2, 62)) h58_119 rfl) ?_
                            refine xg_t (xg_iload (va := (0, u89)) rfl rfl) ?_
                            refine xg_t (xg_bip) ?_
                            refine xg_t (xg_isub (u := u89) (v := 6) (z := u89 - 6) xnm0 xnm0 (by omega)) ?_
                            refine xoI (xqc62 hI106 : cpI 36 34 4294967295 (wget w105 62)) (fun g62_127 h62_128 hb129 => ?_)
                            refine xg_ialdB (n := u89 - 6) (B := 4294967295) h62_128 (hb129) xnm0 (by omega) (fun u130 hu131 he132 => ?_)
                            refine xg_t (xg_const) ?_
                            by_cases hc133 : xbs 4294967295 < xbs u130
                            · have hc133u := hc133
                              unfold xbs at hc133u
                              have hn134 : u130 ≤ 2147483647 := by omega
                              refine xg_t (xg_icF (u := u130) (v := 4294967295) rfl xnm0 xnm0 (xjs_leF hc133)) ?_
                              refine xg_t (xg_aload (va := (2, 58)) rfl rfl) ?_
                              refine xg_t (xg_iload (va := (0, u89)) rfl rfl) ?_
                              refine xg_t (xg_bip) ?_
                              refine xg_t (xg_isub (u := u89) (v := 6) (z := u89 - 6) xnm0 xnm0 (by omega)) ?_
                              refine xg_t (xg_const) ?_
                              refine xg_cVv mX10_reach (vs := [(0, u89 - 6), (0, 4)]) (rest := []) (cn1 := 0) (sl1 := 0) rfl (wyReach (hI106) (by omega) (by omega)) rfl h58_119 rfl rfl rfl rfl rfl rfl (fun w135 hq136 => ?_)
                              obtain ⟨hI137, hF138⟩ := hq136
                              exact jn108 w135 (hI137) ((hF107.tr (hF138.up (by decide))))
                            · have hc133u := hc133
                              unfold xbs at hc133u
                              refine xg_t (xg_icT (u := u130) (v := 4294967295) rfl xnm0 xnm0 (xjs_leT hc133)) ?_
                              exact jn108 w105 (hI106) (hF107)
                        · refine xg_t (xg_ifT (u := u89 / 6) rfl xnm0 (xj_leT (by omega) (by omega))) ?_
                          exact jn108 w105 (hI106) (hF107)
                      refine xg_t (xg_aload (va := (2, 58)) rfl rfl) ?_
                      refine xoC58 (xqc58 hI102 : cp58 (wget w101 58)) (fun f58_139 f58_141 f58_143 h58_145 hb140 hb142 hb144 => ?_)
                      refine xg_t (xg_getf (va := (2, 60)) h58_145 rfl) ?_
                      refine xg_t (xg_iload (va := (0, u89)) rfl rfl) ?_
                      obtain ⟨g60_146, h60_147, hb148⟩ := (xqc60 hI102 : cpK 2 0 36 32 1 (wget w101 60))
                      have h60_147 : xRk 2 0 w101 60 36 32 g60_146 := h60_147
                      refine xg_baldB (n := u89) (B := 1) h60_147 rfl (hb148) xnm0 (by omega) (fun u149 hu150 he151 => ?_)
                      by_cases hc152 : u149 = 0
                      · refine xg_t (xg_ifT (u := u149) rfl xnm0 (xj_eqT hc152)) ?_
                        exact jn104 w101 (hI102) (hF103)
                      · refine xg_t (xg_ifF (u := u149) rfl xnm0 (xj_eqF hc152)) ?_
                        refine xg_t (xg_aload (va := (2, 58)) rfl rfl) ?_
                        refine xg_t (xg_getf (va := (2, 62)) h58_145 rfl) ?_
                        refine xg_t (xg_iload (va := (0, u89)) rfl rfl) ?_
                        refine xoI (xqc62 hI102 : cpI 36 34 4294967295 (wget w101 62)) (fun g62_153 h62_154 hb155 => ?_)
                        refine xg_ialdB (n := u89) (B := 4294967295) h62_154 (hb155) xnm0 (by omega) (fun u156 hu157 he158 => ?_)
                        refine xg_t (xg_const) ?_
                        by_cases hc159 : xbs u156 < xbs 1
                        · have hc159u := hc159
                          unfold xbs at hc159u
                          refine xg_t (xg_icF (u := u156) (v := 1) rfl xnm0 xnm0 (xjs_geF hc159)) ?_
                          refine xg_t (xg_aload (va := (2, 58)) rfl rfl) ?_
                          refine xg_t (xg_iload (va := (0, u89)) rfl rfl) ?_
                          refine xg_t (xg_bip) ?_
                          refine xg_t (xg_iadd (u := u89) (v := 6) (z := u89 + 6) xnm0 xnm0 (by omega)) ?_
                          refine xg_t (xg_const) ?_
                          refine xg_cVv mX10_reach (vs := [(0, u89 + 6), (0, 3)]) (rest := []) (cn1 := 0) (sl1 := 0) rfl (wyReach (hI102) (by omega) (by omega)) rfl h58_145 rfl rfl rfl rfl rfl rfl (fun w160 hq161 => ?_)
                          obtain ⟨hI162, hF163⟩ := hq161
                          exact jn104 w160 (hI162) ((hF103.tr (hF163.up (by decide))))
                        · have hc159u := hc159
                          unfold xbs at hc159u
                          have hn164 : u156 ≤ 2147483647 := by omega
                          refine xg_t (xg_icT (u := u156) (v := 1) rfl xnm0 xnm0 (xjs_geT hc159)) ?_
                          exact jn104 w101 (hI102) (hF103)
                    refine xg_t (xg_iload (va := (0, u89 % 6)) rfl rfl) ?_
                    by_cases hc165 : 0 < (u89 % 6)
                    · refine xg_t (xg_ifF (u := u89 % 6) rfl xnm0 (xj_leF hc165 (by omega))) ?_
                      refine xg_t (xg_aload (va := (2, 58)) rfl rfl) ?_
                      refine xoC58 (xqc58 hI98 : cp58 (wget w97 58)) (fun f58_166 f58_168 f58_170 h58_172 hb167 hb169 hb171 => ?_)
                      refine xg_t (xg_getf (va := (2, 61)) h58_172 rfl) ?_
                      refine xg_t (xg_iload (va := (0, u89)) rfl rfl) ?_
                      refine xg_t (xg_const) ?_
                      refine xg_t (xg_isub (u := u89) (v := 1) (z := u89 - 1) xnm0 xnm0 (by omega)) ?_
                      refine xoI (xqc61 hI98 : cpI 36 33 4294967295 (wget w97 61)) (fun g61_173 h61_174 hb175 => ?_)
                      refine xg_ialdB (n := u89 - 1) (B := 4294967295) h61_174 (hb175) xnm0 (by omega) (fun u176 hu177 he178 => ?_)
                      by_cases hc179 : xbs 0 < xbs u176
                      · have hc179u := hc179
                        unfold xbs at hc179u
                        have hn180 : u176 ≤ 2147483647 := by omega
                        refine xg_t (xg_ifF (u := u176) rfl xnm0 (xjs_leF hc179)) ?_
                        refine xg_t (xg_aload (va := (2, 58)) rfl rfl) ?_
                        refine xg_t (xg_iload (va := (0, u89)) rfl rfl) ?_
                        refine xg_t (xg_const) ?_
                        refine xg_t (xg_isub (u := u89) (v := 1) (z := u89 - 1) xnm0 xnm0 (by omega)) ?_
                        refine xg_t (xg_const) ?_
                        refine xg_cVv mX10_reach (vs := [(0, u89 - 1), (0, 2)]) (rest := []) (cn1 := 0) (sl1 := 0) rfl (wyReach (hI98) (by omega) (by omega)) rfl h58_172 rfl rfl rfl rfl rfl rfl (fun w181 hq182 => ?_)
                        obtain ⟨hI183, hF184⟩ := hq182
                        exact jn100 w181 (hI183) ((hF99.tr (hF184.up (by decide))))
                      · have hc179u := hc179
                        unfold xbs at hc179u
                        refine xg_t (xg_ifT (u := u176) rfl xnm0 (xjs_leT hc179)) ?_
                        exact jn100 w97 (hI98) (hF99)
                    · refine xg_t (xg_ifT (u := u89 % 6) rfl xnm0 (xj_leT (by omega) (by omega))) ?_
                      exact jn100 w97 (hI98) (hF99)
                  refine xg_t (xg_aload (va := (2, 58)) rfl rfl) ?_
                  refine xoC58 (xqc58 hI94 : cp58 (wget w93 58)) (fun f58_185 f58_187 f58_189 h58_191 hb186 hb188 hb190 => ?_)
                  refine xg_t (xg_getf (va := (2, 59)) h58_191 rfl) ?_
                  refine xg_t (xg_iload (va := (0, u89)) rfl rfl) ?_
                  obtain ⟨g59_192, h59_193, hb194⟩ := (xqc59 hI94 : cpK 2 0 36 31 1 (wget w93 59))
                  have h59_193 : xRk 2 0 w93 59 36 31 g59_192 := h59_193
                  refine xg_baldB (n := u89) (B := 1) h59_193 rfl (hb194) xnm0 (by omega) (fun u195 hu196 he197 => ?_)
                  by_cases hc198 : u195 = 0
                  · refine xg_t (xg_ifT (u := u195) rfl xnm0 (xj_eqT hc198)) ?_
                    exact jn96 w93 (hI94) (hF95)
                  · refine xg_t (xg_ifF (u := u195) rfl xnm0 (xj_eqF hc198)) ?_
                    refine xg_t (xg_aload (va := (2, 58)) rfl rfl) ?_
                    refine xg_t (xg_getf (va := (2, 61)) h58_191 rfl) ?_
                    refine xg_t (xg_iload (va := (0, u89)) rfl rfl) ?_
                    refine xoI (xqc61 hI94 : cpI 36 33 4294967295 (wget w93 61)) (fun g61_199 h61_200 hb201 => ?_)
                    refine xg_ialdB (n := u89) (B := 4294967295) h61_200 (hb201) xnm0 (by omega) (fun u202 hu203 he204 => ?_)
                    by_cases hc205 : u202 = 0
                    · refine xg_t (xg_ifF (u := u202) rfl xnm0 (xj_neF hc205)) ?_
                      refine xg_t (xg_aload (va := (2, 58)) rfl rfl) ?_
                      refine xg_t (xg_iload (va := (0, u89)) rfl rfl) ?_
                      refine xg_t (xg_const) ?_
                      refine xg_t (xg_iadd (u := u89) (v := 1) (z := u89 + 1) xnm0 xnm0 (by omega)) ?_
                      refine xg_t (xg_const) ?_
                      refine xg_cVv mX10_reach (vs := [(0, u89 + 1), (0, 1)]) (rest := []) (cn1 := 0) (sl1 := 0) rfl (wyReach (hI94) (by omega) (by omega)) rfl h58_191 rfl rfl rfl rfl rfl rfl (fun w206 hq207 => ?_)
                      obtain ⟨hI208, hF209⟩ := hq207
                      exact jn96 w206 (hI208) ((hF95.tr (hF209.up (by decide))))
                    · refine xg_t (xg_ifT (u := u202) rfl xnm0 (xj_neT hc205)) ?_
                      exact jn96 w93 (hI94) (hF95)
                refine xg_t (xg_iload (va := (0, u89 % 6)) rfl rfl) ?_
                refine xg_t (xg_iload (va := (0, z67)) rfl rfl) ?_
                by_cases hc210 : (u89 % 6) = z67
                · refine xg_t (xg_icF (u := u89 % 6) (v := z67) rfl xnm0 xnm0 (xj_neF hc210)) ?_
                  refine xg_t (xg_aload (va := (2, 58)) rfl rfl) ?_
                  refine xg_t (xg_getf (va := (2, 64)) h58_84 rfl) ?_
                  refine xg_t (xg_iload (va := (0, u89 / 6)) rfl rfl) ?_
                  obtain ⟨g64_211, h64_212, hb213⟩ := (xqc64 hI73 : cpK 2 0 6 36 1 (wget w72 64))
                  have h64_212 : xRk 2 0 w72 64 6 36 g64_211 := h64_212
                  refine xg_baldB (n := u89 / 6) (B := 1) h64_212 rfl (hb213) xnm0 (by omega) (fun u214 hu215 he216 => ?_)
                  by_cases hc217 : u214 = 0
                  · refine xg_t (xg_ifT (u := u214) rfl xnm0 (xj_eqT hc217)) ?_
                    refine xg_t (xg_drop (l1 := [(0, (2, 58)), (1, (0, z67)), (2, (0, ki)), (3, (0, u89)), (4, (0, u89 / 6)), (5, (0, u89 % 6))]) (List.forall_mem_cons.mpr ⟨List.mem_cons_of_mem _ (List.mem_cons_of_mem _ (List.mem_cons_of_mem _ (List.mem_cons_self))), List.forall_mem_cons.mpr ⟨List.mem_cons_of_mem _ (List.mem_cons_of_mem _ (List.mem_cons_of_mem _ (List.mem_cons_of_mem _ (List.mem_cons_self)))), List.forall_mem_cons.mpr ⟨List.mem_cons_of_mem _ (List.mem_cons_of_mem _ (List.mem_cons_of_mem _ (List.mem_cons_of_mem _ (List.mem_cons_of_mem _ (List.mem_cons_self))))), List.forall_mem_cons.mpr ⟨List.mem_cons_of_mem _ (List.mem_cons_of_mem _ (List.mem_cons_self)), List.forall_mem_cons.mpr ⟨List.mem_cons_of_mem _ (List.mem_cons_self), List.forall_mem_cons.mpr ⟨List.mem_cons_self, fun _ h => absurd h List.not_mem_nil⟩⟩⟩⟩⟩⟩)) ?_
                    exact jn92 w72 (hI73) (hF74)
                  · refine xg_t (xg_ifF (u := u214) rfl xnm0 (xj_eqF hc217)) ?_
                    refine xg_t (xg_aload (va := (2, 58)) rfl rfl) ?_
                    refine xg_t (xg_getf (va := (2, 65)) h58_84 rfl) ?_
                    refine xg_t (xg_iload (va := (0, u89 / 6)) rfl rfl) ?_
                    obtain ⟨g65_218, h65_219, hb220⟩ := (xqc65 hI73 : cpK 2 0 6 37 1 (wget w72 65))
                    have h65_219 : xRk 2 0 w72 65 6 37 g65_218 := h65_219
                    refine xg_baldB (n := u89 / 6) (B := 1) h65_219 rfl (hb220) xnm0 (by omega) (fun u221 hu222 he223 => ?_)
                    by_cases hc224 : u221 = 0
                    · refine xg_t (xg_ifF (u := u221) rfl xnm0 (xj_neF hc224)) ?_
                      refine xg_t (xg_iload (va := (0, u89)) rfl rfl) ?_
                      exact xg_e ⟨u89, w72, ⟨rfl, rfl⟩, by omega, hI73, hF74⟩
                    · refine xg_t (xg_ifT (u := u221) rfl xnm0 (xj_neT hc224)) ?_
                      refine xg_t (xg_drop (l1 := [(0, (2, 58)), (1, (0, z67)), (2, (0, ki)), (3, (0, u89)), (4, (0, u89 / 6)), (5, (0, u89 % 6))]) (List.forall_mem_cons.mpr ⟨List.mem_cons_of_mem _ (List.mem_cons_of_mem _ (List.mem_cons_of_mem _ (List.mem_cons_self))), List.forall_mem_cons.mpr ⟨List.mem_cons_of_mem _ (List.mem_cons_of_mem _ (List.mem_cons_of_mem _ (List.mem_cons_of_mem _ (List.mem_cons_self)))), List.forall_mem_cons.mpr ⟨List.mem_cons_of_mem _ (List.mem_cons_of_mem _ (List.mem_cons_of_mem _ (List.mem_cons_of_mem _ (List.mem_cons_of_mem _ (List.mem_cons_self))))), List.forall_mem_cons.mpr ⟨List.mem_cons_of_mem _ (List.mem_cons_of_mem _ (List.mem_cons_self)), List.forall_mem_cons.mpr ⟨List.mem_cons_of_mem _ (List.mem_cons_self), List.forall_mem_cons.mpr ⟨List.mem_cons_self, fun _ h => absurd h List.not_mem_nil⟩⟩⟩⟩⟩⟩)) ?_
                      exact jn92 w72 (hI73) (hF74)
                · refine xg_t (xg_icT (u := u89 % 6) (v := z67) rfl xnm0 xnm0 (xj_neT hc210)) ?_
                  refine xg_t (xg_drop (l1 := [(0, (2, 58)), (1, (0, z67)), (2, (0, ki)), (3, (0, u89)), (4, (0, u89 / 6)), (5, (0, u89 % 6))]) (List.forall_mem_cons.mpr ⟨List.mem_cons_of_mem _ (List.mem_cons_of_mem _ (List.mem_cons_of_mem _ (List.mem_cons_self))), List.forall_mem_cons.mpr ⟨List.mem_cons_of_mem _ (List.mem_cons_of_mem _ (List.mem_cons_of_mem _ (List.mem_cons_of_mem _ (List.mem_cons_self)))), List.forall_mem_cons.mpr ⟨List.mem_cons_of_mem _ (List.mem_cons_of_mem _ (List.mem_cons_of_mem _ (List.mem_cons_of_mem _ (List.mem_cons_of_mem _ (List.mem_cons_self))))), List.forall_mem_cons.mpr ⟨List.mem_cons_of_mem _ (List.mem_cons_of_mem _ (List.mem_cons_self)), List.forall_mem_cons.mpr ⟨List.mem_cons_of_mem _ (List.mem_cons_self), List.forall_mem_cons.mpr ⟨List.mem_cons_self, fun _ h => absurd h List.not_mem_nil⟩⟩⟩⟩⟩⟩)) ?_
                  exact jn92 w72 (hI73) (hF74)
              · refine xg_t (xg_icT (u := ki) (v := f58_78) rfl xnm0 xnm0 (xj_geT (by omega) (by omega))) ?_
                refine xg_t (xg_blq rfl) ?_
                refine xg_t (xg_const) ?_
                exact xg_e ⟨4294967295, w72, ⟨rfl, rfl⟩, by first | decide | omega, hI73, hF74⟩
            · refine xg_t (xg_icT (u := ki) (v := 36) rfl xnm0 xnm0 (xj_geT (by omega) (by omega))) ?_
              refine xg_t (xg_blq rfl) ?_
              refine xg_t (xg_const) ?_
              exact xg_e ⟨4294967295, w72, ⟨rfl, rfl⟩, by first | decide | omega, hI73, hF74⟩
        exact key69 _ 0 w43 (Nat.lt_succ_self _) (by omega) (hI44) (hF45)
  exact key40 _ 0 w37 (Nat.lt_succ_self _) (by omega) (xInv.up (S := [66, 58]) hI ((xFr.of (S := [66, 58]) hq36.2 (by decide)).tr (xFr.of (S := [66, 58]) hb39 (by decide))) (List.forall_mem_cons.mpr ⟨xqu66 (show cpI 36 38 4294967295 (wget w37 66) from ⟨_, (hq36.1.but hb39 (by decide)), fun _ => (by omega : 4294967295 ≤ 4294967295)⟩), List.forall_mem_cons.mpr ⟨xqu58 (show cp58 (wget w37 58) from xmC58 0 f58_3 f58_5 hk38 (by decide) hb4 hb6), fun _ h => absurd h List.not_mem_nil⟩⟩)) (((xFr.of (S := [58, 66, 67]) hq36.2 (by decide)).tr (xFr.of (S := [58, 66, 67]) hb39 (by decide))))
theorem wyTurn {k L t pt by_ : Nat} {f : Nat → Nat} (h : xRow w k L t f) (hB : ∀ j, f j ≤ 4294967295) (hL : L < 2147483648) (h1 : pt ≤ 4294967295) : xPq d mX10_turnFlow [(2, k), (0, pt), (0, by_)] w bd fc rr [] (fun w' => ∃ g, xRow w' k L t g ∧ (∀ j, g j ≤ 4294967295) ∧ xBut k w w') := by
  refine xPq.of ?_
  show xTo d mX10_turnFlow (0, [], [(0, (2, k)), (1, (0, pt)), (2, (0, by_))], [], (w, bd, fc, 0, 0, rr)) (fun φ => ∃ w', xEnd 0 [] (w', bd, fc, 0, 0, rr) φ ∧ ∃ g, xRow w' k L t g ∧ (∀ j, g j ≤ 4294967295) ∧ xBut k w w')
  refine xg_t (xg_blq rfl) ?_
  refine xg_t (xg_iload (va := (0, pt)) rfl rfl) ?_
  by_cases hc1 : pt < 2147483648
  · refine xg_t (xg_ifF (u := pt) rfl xnm0 (xjz_ltF hc1)) ?_
    refine xg_t (xg_iload (va := (0, pt)) rfl rfl) ?_
    refine xg_t (xg_aload (va := (2, k)) rfl rfl) ?_
    obtain ⟨us, hus, hut⟩ := id h
    refine xg_t (xg_alen hus) ?_
    by_cases hc2 : pt < L
    · refine xg_t (xg_icF (u := pt) (v := L) rfl xnm0 xnm0 (xj_geF hc2 (by omega))) ?_
      refine xg_t (xg_aload (va := (2, k)) rfl rfl) ?_
      refine xg_t (xg_iload (va := (0, pt)) rfl rfl) ?_
      refine xg_t (xg_dup2 rfl) ?_
      refine xg_t (xg_ialdR (n := pt) (u := f pt) h xnm0 (by omega) rfl) ?_
      refine xg_t (xg_iload (va := (0, by_)) rfl rfl) ?_
      refine xg_k (xg_iadd (u := f pt) (v := by_) (z := ((f pt) + by_) % 4294967296) xnm0 xnm0 rfl) (Nat.mod_lt _ (by decide)) (fun z3 hz4 => ?_)
      refine xg_iastK (n := pt) (u := z3) h xnm0 xnm0 rfl (by omega) (fun w5 hr6 hb7 => ?_)
      refine xg_t (xg_blq rfl) ?_
      exact xg_e ⟨w5, ⟨rfl, rfl⟩, _, hr6, xrb (by omega) hB, hb7⟩
    · refine xg_t (xg_icT (u := pt) (v := L) rfl xnm0 xnm0 (xj_geT (by omega) (by omega))) ?_
      refine xg_t (xg_blq rfl) ?_
      exact xg_e ⟨w, ⟨rfl, rfl⟩, f, h, hB, xBut.rf⟩
  · refine xg_t (xg_ifT (u := pt) rfl xnm0 (xjz_ltT (by omega) (by omega))) ?_
    refine xg_t (xg_blq rfl) ?_
    exact xg_e ⟨w, ⟨rfl, rfl⟩, f, h, hB, xBut.rf⟩
theorem wyAddWay (hI : xInv w)  : xPi (d + 2) mX10_addWay [(2, 58)] w bd fc rr (fun n w' => (n ≤ 1) ∧ xInv w' ∧ xFr [58, 61, 62, 63, 65, 66, 67] w w') := by
  refine xPi.of ?_
  show xTo (d + 2) mX10_addWay (0, [], [(0, (2, 58))], [], (w, bd, fc, 0, 0, rr)) (fun φ => ∃ n w', xEnd 4 [(0, n)] (w', bd, fc, 0, 0, rr) φ ∧ (n ≤ 1) ∧ xInv w' ∧ xFr [58, 61, 62, 63, 65, 66, 67] w w')
  refine xg_t (xg_blq rfl) ?_
  refine xg_t (xg_aload (va := (2, 58)) rfl rfl) ?_
  refine xoC58 (xqc58 hI : cp58 (wget w 58)) (fun f58_1 f58_3 f58_5 h58_7 hb2 hb4 hb6 => ?_)
  refine xg_cVi mX10_explore (vs := []) (rest := []) (cn1 := 0) (sl1 := 0) rfl (wyExplore (hI)) rfl h58_7 rfl rfl rfl rfl rfl rfl (fun n12 w8 hq9 => ?_)
  obtain ⟨hn13, hI10, hF11⟩ := hq9
  refine xg_t (xg_istore (l1 := [(0, (2, 58))]) rfl rfl rfl) ?_
  refine xg_t (xg_iload (va := (0, n12)) rfl rfl) ?_
  refine xg_t (xg_const) ?_
  by_cases hc14 : n12 = 4294967295
  · refine xg_t (xg_icF (u := n12) (v := 4294967295) rfl xnm0 xnm0 (xj_neF hc14)) ?_
    refine xg_t (xg_const) ?_
    exact xg_e ⟨0, w8, ⟨rfl, rfl⟩, by first | decide | omega, hI10, (hF11.up (by decide))⟩
  · have hn15 : n12 ≤ 35 := by omega
    refine xg_t (xg_icT (u := n12) (v := 4294967295) rfl xnm0 xnm0 (xj_neT hc14)) ?_
    refine xg_t (xg_blq rfl) ?_
    refine xg_t (xg_aload (va := (2, 58)) rfl rfl) ?_
    refine xoC58 (xqc58 hI10 : cp58 (wget w8 58)) (fun f58_16 f58_18 f58_20 h58_22 hb17 hb19 hb21 => ?_)
    refine xg_t (xg_getf (va := (2, 65)) h58_22 rfl) ?_
    refine xg_t (xg_iload (va := (0, n12)) rfl rfl) ?_
    refine xg_t (xg_bip) ?_
    refine xg_t (xg_idiv (u := n12) (v := 6) (z := n12 / 6) xnm0 xnm0 (by omega) (by decide) (by decide) (rfl)) ?_
    refine xg_t (xg_const) ?_
    obtain ⟨g65_23, h65_24, hb25⟩ := (xqc65 hI10 : cpK 2 0 6 37 1 (wget w8 65))
    have h65_24 : xRk 2 0 w8 65 6 37 g65_23 := h65_24
    refine xg_bastZ (n := n12 / 6) (u := 1) h65_24 xnm0 xnm0 rfl (by omega) (by omega) (fun w26 hr27 hb28 => ?_)
    refine xg_t (xg_const) ?_
    refine xg_t (xg_istore (l1 := [(1, (0, n12)), (0, (2, 58))]) rfl rfl rfl) ?_
    refine xg_t (xg_drop (l1 := [(0, (2, 58)), (1, (0, n12)), (2, (0, 0))]) (List.forall_mem_cons.mpr ⟨List.mem_cons_of_mem _ (List.mem_cons_of_mem _ (List.mem_cons_self)), List.forall_mem_cons.mpr ⟨List.mem_cons_of_mem _ (List.mem_cons_self), List.forall_mem_cons.mpr ⟨List.mem_cons_self, fun _ h => absurd h List.not_mem_nil⟩⟩⟩)) ?_
    have key29 : ∀ (m31 : Nat) (pt ki : Nat) (w32 : List (List xE)), 36 - ki < m31 → pt ≤ 4294967295 → ki ≤ 36 → xInv w32 → xFr [58, 61, 62, 63, 65, 66, 67] w w32 → xTo (d + 2) mX10_addWay (24, [], [(0, (2, 58)), (1, (0, pt)), (2, (0, ki))], [], (w32, bd, fc, 0, 0, rr)) (fun φ => ∃ n w', xEnd 4 [(0, n)] (w', bd, fc, 0, 0, rr) φ ∧ (n ≤ 1) ∧ xInv w' ∧ xFr [58, 61, 62, 63, 65, 66, 67] w w') := by
      intro m31
      induction m31 with
      | zero => intro pt ki w32 hz; exact absurd hz (Nat.not_lt_zero _)
      | succ m31 ih30 =>
        intro pt ki w32 hm37 hn35 hn36 hI33 hF34
        refine xg_t (xg_blq rfl) ?_
        refine xg_t (xg_iload (va := (0, ki)) rfl rfl) ?_
        refine xg_t (xg_bip) ?_
        by_cases hc38 : ki < 36
        · refine xg_t (xg_icF (u := ki) (v := 36) rfl xnm0 xnm0 (xj_geF hc38 (by omega))) ?_
          refine xg_t (xg_aload (va := (2, 58)) rfl rfl) ?_
          refine xg_t (xg_iload (va := (0, pt)) rfl rfl) ?_
          refine xoC58 (xqc58 hI33 : cp58 (wget w32 58)) (fun f58_39 f58_41 f58_43 h58_45 hb40 hb42 hb44 => ?_)
          refine xg_cVi mX10_isReached (vs := [(0, pt)]) (rest := []) (cn1 := 0) (sl1 := 0) rfl (wyIsReached (hI33) (by omega)) rfl h58_45 rfl rfl rfl rfl rfl rfl (fun n50 w46 hq47 => ?_)
          obtain ⟨hn51, hI48, hF49⟩ := hq47
          by_cases hc52 : n50 = 0
          · refine xg_t (xg_ifT (u := n50) rfl xnm0 (xj_eqT hc52)) ?_
            refine xg_t (xg_blq rfl) ?_
            refine xg_t (xg_const) ?_
            exact xg_e ⟨1, w46, ⟨rfl, rfl⟩, by first | decide | omega, hI48, (hF34.tr (hF49.up (by decide)))⟩
          · refine xg_t (xg_ifF (u := n50) rfl xnm0 (xj_eqF hc52)) ?_
            refine xg_t (xg_aload (va := (2, 58)) rfl rfl) ?_
            refine xg_t (xg_getf (va := (2, 66)) (hF49.get (by decide) h58_45) rfl) ?_
            refine xg_t (xg_iload (va := (0, pt)) rfl rfl) ?_
            refine xoI (xqc66 hI48 : cpI 36 38 4294967295 (wget w46 66)) (fun g66_53 h66_54 hb55 => ?_)
            refine xg_ialdB (n := pt) (B := 4294967295) h66_54 (hb55) xnm0 (by omega) (fun u56 hu57 he58 => ?_)
            by_cases hc59 : u56 = 1
            · refine xg_t (xg_swt (ks := [(1, 76), (2, 91), (3, 106), (4, 121)]) (u := u56) (z := 76) rfl rfl rfl xnm0 (xsw_y hc59)) ?_
              refine xg_t (xg_blq rfl) ?_
              refine xg_t (xg_iinc (u := pt) (z := (pt + 4294967295) % 4294967296) (l1 := [(0, (2, 58)), (2, (0, ki))]) rfl rfl (rfl) rfl) ?_
              refine xg_t (xg_aload (va := (2, 58)) rfl rfl) ?_
              refine xg_t (xg_getf (va := (2, 61)) (hF49.get (by decide) h58_45) rfl) ?_
              refine xg_t (xg_iload (va := (0, (pt + 4294967295) % 4294967296)) rfl rfl) ?_
              refine xg_t (xg_const) ?_
              refine xoI (xqc61 hI48 : cpI 36 33 4294967295 (wget w46 61)) (fun g61_60 h61_61 hb62 => ?_)
              refine xg_cS mX10_turnFlow (vs := [(2, 61), (0, (pt + 4294967295) % 4294967296), (0, 1)]) (rest := []) (rs := []) (cn1 := 0) (sl1 := 0) rfl (wyTurn (L := 36) h61_61 (hb62) (by decide) (by omega)) rfl rfl rfl rfl rfl rfl rfl rfl (fun w63 hq64 => ?_)
              obtain ⟨tf65, h66, h67, h68⟩ := hq64
              refine xg_t (xg_goto) ?_
              refine xg_t (xg_blq rfl) ?_
              refine xg_t (xg_iinc (u := ki) (z := ki + 1) (l1 := [(1, (0, (pt + 4294967295) % 4294967296)), (0, (2, 58))]) rfl rfl (by omega) rfl) ?_
              refine xg_t (xg_goto) ?_
              refine xg_t (xg_drop (l1 := [(0, (2, 58)), (1, (0, (pt + 4294967295) % 4294967296)), (2, (0, ki + 1))]) (List.forall_mem_cons.mpr ⟨List.mem_cons_of_mem _ (List.mem_cons_of_mem _ (List.mem_cons_self)), List.forall_mem_cons.mpr ⟨List.mem_cons_of_mem _ (List.mem_cons_self), List.forall_mem_cons.mpr ⟨List.mem_cons_self, fun _ h => absurd h List.not_mem_nil⟩⟩⟩)) ?_
              exact ih30 ((pt + 4294967295) % 4294967296) (ki + 1) w63 (by omega) (by omega) (by omega) (xInv.up (S := [61]) hI48 (xFr.of (S := [61]) h68 (by decide)) (List.forall_mem_cons.mpr ⟨xqu61 (show cpI 36 33 4294967295 (wget w63 61) from ⟨_, h66, h67⟩), fun _ h => absurd h List.not_mem_nil⟩)) (((hF34.tr (hF49.up (by decide))).tr (xFr.of (S := [58, 61, 62, 63, 65, 66, 67]) h68 (by decide))))
            · by_cases hc69 : u56 = 2
              · refine xg_t (xg_swt (ks := [(1, 76), (2, 91), (3, 106), (4, 121)]) (u := u56) (z := 91) rfl rfl rfl xnm0 (xsw_n hc59 (xsw_y hc69))) ?_
                refine xg_t (xg_blq rfl) ?_
                refine xg_t (xg_aload (va := (2, 58)) rfl rfl) ?_
                refine xg_t (xg_getf (va := (2, 61)) (hF49.get (by decide) h58_45) rfl) ?_
                refine xg_t (xg_iload (va := (0, pt)) rfl rfl) ?_
                refine xg_t (xg_const) ?_
                refine xoI (xqc61 hI48 : cpI 36 33 4294967295 (wget w46 61)) (fun g61_70 h61_71 hb72 => ?_)
                refine xg_cS mX10_turnFlow (vs := [(2, 61), (0, pt), (0, 4294967295)]) (rest := []) (rs := []) (cn1 := 0) (sl1 := 0) rfl (wyTurn (L := 36) h61_71 (hb72) (by decide) (by omega)) rfl rfl rfl rfl rfl rfl rfl rfl (fun w73 hq74 => ?_)
                obtain ⟨tf75, h76, h77, h78⟩ := hq74
                refine xg_t (xg_iinc (u := pt) (z := pt + 1) (l1 := [(0, (2, 58)), (2, (0, ki))]) rfl rfl (by omega) rfl) ?_
                refine xg_t (xg_goto) ?_
                refine xg_t (xg_blq rfl) ?_
                refine xg_t (xg_iinc (u := ki) (z := ki + 1) (l1 := [(1, (0, pt + 1)), (0, (2, 58))]) rfl rfl (by omega) rfl) ?_
                refine xg_t (xg_goto) ?_
                refine xg_t (xg_drop (l1 := [(0, (2, 58)), (1, (0, pt + 1)), (2, (0, ki + 1))]) (List.forall_mem_cons.mpr ⟨List.mem_cons_of_mem _ (List.mem_cons_of_mem _ (List.mem_cons_self)), List.forall_mem_cons.mpr ⟨List.mem_cons_of_mem _ (List.mem_cons_self), List.forall_mem_cons.mpr ⟨List.mem_cons_self, fun _ h => absurd h List.not_mem_nil⟩⟩⟩)) ?_
                exact ih30 (pt + 1) (ki + 1) w73 (by omega) (by omega) (by omega) (xInv.up (S := [61]) hI48 (xFr.of (S := [61]) h78 (by decide)) (List.forall_mem_cons.mpr ⟨xqu61 (show cpI 36 33 4294967295 (wget w73 61) from ⟨_, h76, h77⟩), fun _ h => absurd h List.not_mem_nil⟩)) (((hF34.tr (hF49.up (by decide))).tr (xFr.of (S := [58, 61, 62, 63, 65, 66, 67]) h78 (by decide))))
              · by_cases hc79 : u56 = 3
                · refine xg_t (xg_swt (ks := [(1, 76), (2, 91), (3, 106), (4, 121)]) (u := u56) (z := 106) rfl rfl rfl xnm0 (xsw_n hc59 (xsw_n hc69 (xsw_y hc79)))) ?_
                  refine xg_t (xg_blq rfl) ?_
                  refine xg_t (xg_iinc (u := pt) (z := (pt + 4294967290) % 4294967296) (l1 := [(0, (2, 58)), (2, (0, ki))]) rfl rfl (rfl) rfl) ?_
                  refine xg_t (xg_aload (va := (2, 58)) rfl rfl) ?_
                  refine xg_t (xg_getf (va := (2, 62)) (hF49.get (by decide) h58_45) rfl) ?_
                  refine xg_t (xg_iload (va := (0, (pt + 4294967290) % 4294967296)) rfl rfl) ?_
                  refine xg_t (xg_const) ?_
                  refine xoI (xqc62 hI48 : cpI 36 34 4294967295 (wget w46 62)) (fun g62_80 h62_81 hb82 => ?_)
                  refine xg_cS mX10_turnFlow (vs := [(2, 62), (0, (pt + 4294967290) % 4294967296), (0, 1)]) (rest := []) (rs := []) (cn1 := 0) (sl1 := 0) rfl (wyTurn (L := 36) h62_81 (hb82) (by decide) (by omega)) rfl rfl rfl rfl rfl rfl rfl rfl (fun w83 hq84 => ?_)
                  obtain ⟨tf85, h86, h87, h88⟩ := hq84
                  refine xg_t (xg_goto) ?_
                  refine xg_t (xg_blq rfl) ?_
                  refine xg_t (xg_iinc (u := ki) (z := ki + 1) (l1 := [(1, (0, (pt + 4294967290) % 4294967296)), (0, (2, 58))]) rfl rfl (by omega) rfl) ?_
                  refine xg_t (xg_goto) ?_
                  refine xg_t (xg_drop (l1 := [(0, (2, 58)), (1, (0, (pt + 4294967290) % 4294967296)), (2, (0, ki + 1))]) (List.forall_mem_cons.mpr ⟨List.mem_cons_of_mem _ (List.mem_cons_of_mem _ (List.mem_cons_self)), List.forall_mem_cons.mpr ⟨List.mem_cons_of_mem _ (List.mem_cons_self), List.forall_mem_cons.mpr ⟨List.mem_cons_self, fun _ h => absurd h List.not_mem_nil⟩⟩⟩)) ?_
                  exact ih30 ((pt + 4294967290) % 4294967296) (ki + 1) w83 (by omega) (by omega) (by omega) (xInv.up (S := [62]) hI48 (xFr.of (S := [62]) h88 (by decide)) (List.forall_mem_cons.mpr ⟨xqu62 (show cpI 36 34 4294967295 (wget w83 62) from ⟨_, h86, h87⟩), fun _ h => absurd h List.not_mem_nil⟩)) (((hF34.tr (hF49.up (by decide))).tr (xFr.of (S := [58, 61, 62, 63, 65, 66, 67]) h88 (by decide))))
                · by_cases hc89 : u56 = 4
                  · refine xg_t (xg_swt (ks := [(1, 76), (2, 91), (3, 106), (4, 121)]) (u := u56) (z := 121) rfl rfl rfl xnm0 (xsw_n hc59 (xsw_n hc69 (xsw_n hc79 (xsw_y hc89))))) ?_
                    refine xg_t (xg_blq rfl) ?_
                    refine xg_t (xg_aload (va := (2, 58)) rfl rfl) ?_
                    refine xg_t (xg_getf (va := (2, 62)) (hF49.get (by decide) h58_45) rfl) ?_
                    refine xg_t (xg_iload (va := (0, pt)) rfl rfl) ?_
                    refine xg_t (xg_const) ?_
                    refine xoI (xqc62 hI48 : cpI 36 34 4294967295 (wget w46 62)) (fun g62_90 h62_91 hb92 => ?_)
                    refine xg_cS mX10_turnFlow (vs := [(2, 62), (0, pt), (0, 4294967295)]) (rest := []) (rs := []) (cn1 := 0) (sl1 := 0) rfl (wyTurn (L := 36) h62_91 (hb92) (by decide) (by omega)) rfl rfl rfl rfl rfl rfl rfl rfl (fun w93 hq94 => ?_)
                    obtain ⟨tf95, h96, h97, h98⟩ := hq94
                    refine xg_t (xg_iinc (u := pt) (z := pt + 6) (l1 := [(0, (2, 58)), (2, (0, ki))]) rfl rfl (by omega) rfl) ?_
                    refine xg_t (xg_goto) ?_
                    refine xg_t (xg_blq rfl) ?_
                    refine xg_t (xg_iinc (u := ki) (z := ki + 1) (l1 := [(1, (0, pt + 6)), (0, (2, 58))]) rfl rfl (by omega) rfl) ?_
                    refine xg_t (xg_goto) ?_
                    refine xg_t (xg_drop (l1 := [(0, (2, 58)), (1, (0, pt + 6)), (2, (0, ki + 1))]) (List.forall_mem_cons.mpr ⟨List.mem_cons_of_mem _ (List.mem_cons_of_mem _ (List.mem_cons_self)), List.forall_mem_cons.mpr ⟨List.mem_cons_of_mem _ (List.mem_cons_self), List.forall_mem_cons.mpr ⟨List.mem_cons_self, fun _ h => absurd h List.not_mem_nil⟩⟩⟩)) ?_
                    exact ih30 (pt + 6) (ki + 1) w93 (by omega) (by omega) (by omega) (xInv.up (S := [62]) hI48 (xFr.of (S := [62]) h98 (by decide)) (List.forall_mem_cons.mpr ⟨xqu62 (show cpI 36 34 4294967295 (wget w93 62) from ⟨_, h96, h97⟩), fun _ h => absurd h List.not_mem_nil⟩)) (((hF34.tr (hF49.up (by decide))).tr (xFr.of (S := [58, 61, 62, 63, 65, 66, 67]) h98 (by decide))))
                  · refine xg_t (xg_swt (ks := [(1, 76), (2, 91), (3, 106), (4, 121)]) (u := u56) (z := 136) rfl rfl rfl xnm0 (xsw_n hc59 (xsw_n hc69 (xsw_n hc79 (xsw_n hc89 (xsw_d)))))) ?_
                    refine xg_t (xg_blq rfl) ?_
                    refine xg_t (xg_aload (va := (2, 58)) rfl rfl) ?_
                    refine xg_t (xg_getf (va := (2, 63)) (hF49.get (by decide) h58_45) rfl) ?_
                    refine xg_t (xg_iload (va := (0, pt)) rfl rfl) ?_
                    refine xg_t (xg_bip) ?_
                    refine xg_t (xg_idiv (u := pt) (v := 6) (z := pt / 6) xnm0 xnm0 (by omega) (by decide) (by decide) (rfl)) ?_
                    refine xg_t (xg_const) ?_
                    obtain ⟨g63_99, h63_100, hb101⟩ := (xqc63 hI48 : cpK 2 0 6 35 1 (wget w46 63))
                    have h63_100 : xRk 2 0 w46 63 6 35 g63_99 := h63_100
                    refine xg_bastZ (n := pt / 6) (u := 1) h63_100 xnm0 xnm0 rfl (by omega) (by omega) (fun w102 hr103 hb104 => ?_)
                    refine xg_t (xg_const) ?_
                    exact xg_e ⟨1, w102, ⟨rfl, rfl⟩, by first | decide | omega, xInv.up (S := [63]) hI48 (xFr.of (S := [63]) hb104 (by decide)) (List.forall_mem_cons.mpr ⟨xqu63 (show cpK 2 0 6 35 1 (wget w102 63) from ⟨_, hr103, xrb (by omega) (hb101)⟩), fun _ h => absurd h List.not_mem_nil⟩), ((hF34.tr (hF49.up (by decide))).tr (xFr.of (S := [58, 61, 62, 63, 65, 66, 67]) hb104 (by decide)))⟩
        · refine xg_t (xg_icT (u := ki) (v := 36) rfl xnm0 xnm0 (xj_geT (by omega) (by omega))) ?_
          refine xg_t (xg_blq rfl) ?_
          refine xg_t (xg_const) ?_
          exact xg_e ⟨1, w32, ⟨rfl, rfl⟩, by first | decide | omega, hI33, hF34⟩
    exact key29 _ n12 0 w26 (Nat.lt_succ_self _) (by omega) (by omega) (xInv.up (S := [65]) hI10 (xFr.of (S := [65]) hb28 (by decide)) (List.forall_mem_cons.mpr ⟨xqu65 (show cpK 2 0 6 37 1 (wget w26 65) from ⟨_, hr27, xrb (by omega) (hb25)⟩), fun _ h => absurd h List.not_mem_nil⟩)) (((hF11.up (by decide)).tr (xFr.of (S := [58, 61, 62, 63, 65, 66, 67]) hb28 (by decide))))
theorem wyFindWays (hI : xInv w)  : xPq (d + 3) mX10_findWays [(2, 58)] w bd fc rr [] (fun w' => xInv w' ∧ xFr [58, 61, 62, 63, 64, 65, 66, 67] w w') := by
  refine xPq.of ?_
  show xTo (d + 3) mX10_findWays (0, [], [(0, (2, 58))], [], (w, bd, fc, 0, 0, rr)) (fun φ => ∃ w', xEnd 0 [] (w', bd, fc, 0, 0, rr) φ ∧ xInv w' ∧ xFr [58, 61, 62, 63, 64, 65, 66, 67] w w')
  refine xoC58 (xqc58 hI : cp58 (wget w 58)) (fun f58_1 f58_3 f58_5 h58_7 hb2 hb4 hb6 => ?_)
  refine xoC1 (xqc1 hI : cp1 (wget w 1)) (fun f1_8 f1_10 f1_12 f1_14 f1_16 f1_18 h1_20 hb9 hb11 hb13 hb15 hb17 hb19 => ?_)
  refine xoC3 (xqc3 hI : cp3 (wget w 3)) (fun f3_21 f3_23 f3_25 f3_27 f3_29 h3_31 hb22 hb24 hb26 hb28 hb30 => ?_)
  refine xg_t (xg_blq rfl) ?_
  refine xg_t (xg_aload (va := (2, 58)) rfl rfl) ?_
  refine xg_t (xg_getf (va := (2, 61)) h58_7 rfl) ?_
  refine xg_t (xg_const) ?_
  refine xoI (xqc61 hI : cpI 36 33 4294967295 (wget w 61)) (fun g61_32 h61_33 hb34 => ?_)
  refine xg_cS mJ7_fill_53178 (vs := [(2, 61), (0, 0)]) (rest := []) (rs := []) (cn1 := 0) (sl1 := 0) rfl (fillI (v := 0) h61_33 (by decide)) rfl rfl rfl rfl rfl rfl rfl rfl (fun w35 hq36 => ?_)
  refine xg_t (xg_aload (va := (2, 58)) rfl rfl) ?_
  refine xg_t (xg_getf (va := (2, 62)) (hq36.2.get (by decide) h58_7) rfl) ?_
  refine xg_t (xg_const) ?_
  refine xoI (xqc62 hI : cpI 36 34 4294967295 (wget w 62)) (fun g62_37 h62_38 hb39 => ?_)
  refine xg_cS mJ7_fill_53178 (vs := [(2, 62), (0, 0)]) (rest := []) (rs := []) (cn1 := 0) (sl1 := 0) rfl (fillI (v := 0) (h62_38.but hq36.2 (by decide)) (by decide)) rfl rfl rfl rfl rfl rfl rfl rfl (fun w40 hq41 => ?_)
  refine xg_t (xg_const) ?_
  refine xg_t (xg_istore (l1 := [(0, (2, 58))]) rfl rfl rfl) ?_
  refine xg_t (xg_drop (l1 := [(0, (2, 58)), (1, (0, 0))]) (List.forall_mem_cons.mpr ⟨List.mem_cons_of_mem _ (List.mem_cons_self), List.forall_mem_cons.mpr ⟨List.mem_cons_self, fun _ h => absurd h List.not_mem_nil⟩⟩)) ?_
  have key42 : ∀ (m44 : Nat) (ro : Nat) (w45 : List (List xE)), 6 - ro < m44 → ro ≤ 6 → xInv w45 → xFr [58, 61, 62, 63, 64, 65, 66, 67] w w45 → xTo (d + 3) mX10_findWays (18, [], [(0, (2, 58)), (1, (0, ro))], [], (w45, bd, fc, 0, 0, rr)) (fun φ => ∃ w', xEnd 0 [] (w', bd, fc, 0, 0, rr) φ ∧ xInv w' ∧ xFr [58, 61, 62, 63, 64, 65, 66, 67] w w') := by
    intro m44
    induction m44 with
    | zero => intro ro w45 hz; exact absurd hz (Nat.not_lt_zero _)
    | succ m44 ih43 =>
      intro ro w45 hm49 hn48 hI46 hF47
      refine xg_t (xg_blq rfl) ?_
      refine xg_t (xg_iload (va := (0, ro)) rfl rfl) ?_
      refine xg_t (xg_bip) ?_
      by_cases hc50 : ro < 6
      · refine xg_t (xg_icF (u := ro) (v := 6) rfl xnm0 xnm0 (xj_geF hc50 (by omega))) ?_
        refine xg_t (xg_aload (va := (2, 58)) rfl rfl) ?_
        refine xoC58 (xqc58 hI46 : cp58 (wget w45 58)) (fun f58_51 f58_53 f58_55 h58_57 hb52 hb54 hb56 => ?_)
        refine xg_t (xg_getf (va := (2, 63)) h58_57 rfl) ?_
        refine xg_t (xg_iload (va := (0, ro)) rfl rfl) ?_
        refine xg_t (xg_const) ?_
        obtain ⟨g63_58, h63_59, hb60⟩ := (xqc63 hI46 : cpK 2 0 6 35 1 (wget w45 63))
        have h63_59 : xRk 2 0 w45 63 6 35 g63_58 := h63_59
        refine xg_bastZ (n := ro) (u := 0) h63_59 xnm0 xnm0 rfl (by omega) (by omega) (fun w61 hr62 hb63 => ?_)
        refine xg_t (xg_aload (va := (2, 58)) rfl rfl) ?_
        refine xg_t (xg_getf (va := (2, 64)) (hb63.get (by decide) h58_57) rfl) ?_
        refine xg_t (xg_iload (va := (0, ro)) rfl rfl) ?_
        refine xg_t (xg_const) ?_
        obtain ⟨g64_64, h64_65, hb66⟩ := (xqc64 hI46 : cpK 2 0 6 36 1 (wget w45 64))
        have h64_65 : xRk 2 0 w45 64 6 36 g64_64 := h64_65
        refine xg_bastZ (n := ro) (u := 0) (h64_65.but hb63 (by decide)) xnm0 xnm0 rfl (by omega) (by omega) (fun w67 hr68 hb69 => ?_)
        refine xg_t (xg_aload (va := (2, 58)) rfl rfl) ?_
        refine xg_t (xg_getf (va := (2, 65)) (hb69.get (by decide) (hb63.get (by decide) h58_57)) rfl) ?_
        refine xg_t (xg_iload (va := (0, ro)) rfl rfl) ?_
        refine xg_t (xg_const) ?_
        obtain ⟨g65_70, h65_71, hb72⟩ := (xqc65 hI46 : cpK 2 0 6 37 1 (wget w45 65))
        have h65_71 : xRk 2 0 w45 65 6 37 g65_70 := h65_71
        refine xg_bastZ (n := ro) (u := 0) ((h65_71.but hb63 (by decide)).but hb69 (by decide)) xnm0 xnm0 rfl (by omega) (by omega) (fun w73 hr74 hb75 => ?_)
        refine xg_t (xg_iinc (u := ro) (z := ro + 1) (l1 := [(0, (2, 58))]) rfl rfl (by omega) rfl) ?_
        refine xg_t (xg_goto) ?_
        refine xg_t (xg_drop (l1 := [(0, (2, 58)), (1, (0, ro + 1))]) (List.forall_mem_cons.mpr ⟨List.mem_cons_of_mem _ (List.mem_cons_self), List.forall_mem_cons.mpr ⟨List.mem_cons_self, fun _ h => absurd h List.not_mem_nil⟩⟩)) ?_
        exact ih43 (ro + 1) w73 (by omega) (by omega) (xInv.up (S := [63, 64, 65]) hI46 (((xFr.of (S := [63, 64, 65]) hb63 (by decide)).tr (xFr.of (S := [63, 64, 65]) hb69 (by decide))).tr (xFr.of (S := [63, 64, 65]) hb75 (by decide))) (List.forall_mem_cons.mpr ⟨xqu63 (show cpK 2 0 6 35 1 (wget w73 63) from ⟨_, ((hr62.but hb69 (by decide)).but hb75 (by decide)), xrb (by omega) (hb60)⟩), List.forall_mem_cons.mpr ⟨xqu64 (show cpK 2 0 6 36 1 (wget w73 64) from ⟨_, (hr68.but hb75 (by decide)), xrb (by omega) (hb66)⟩), List.forall_mem_cons.mpr ⟨xqu65 (show cpK 2 0 6 37 1 (wget w73 65) from ⟨_, hr74, xrb (by omega) (hb72)⟩), fun _ h => absurd h List.not_mem_nil⟩⟩⟩)) ((hF47.tr (((xFr.of (S := [58, 61, 62, 63, 64, 65, 66, 67]) hb63 (by decide)).tr (xFr.of (S := [58, 61, 62, 63, 64, 65, 66, 67]) hb69 (by decide))).tr (xFr.of (S := [58, 61, 62, 63, 64, 65, 66, 67]) hb75 (by decide)))))
      · refine xg_t (xg_icT (u := ro) (v := 6) rfl xnm0 xnm0 (xj_geT (by omega) (by omega))) ?_
        refine xg_t (xg_blq rfl) ?_
        refine xg_t (xg_aload (va := (2, 58)) rfl rfl) ?_
        refine xg_t (xg_const) ?_
        refine xoC58 (xqc58 hI46 : cp58 (wget w45 58)) (fun f58_76 f58_78 f58_80 h58_82 hb77 hb79 hb81 => ?_)
        refine xg_putI (fl1 := [(2, 1), (2, 59), (2, 60), (2, 61), (2, 62), (2, 63), (2, 64), (2, 65), (2, 66), (2, 67), (0, f58_76), (0, 0), (0, f58_80)]) h58_82 rfl rfl rfl (fun w83 hk84 hb85 => ?_)
        refine xg_t (xg_const) ?_
        refine xg_t (xg_istore (l1 := [(0, (2, 58))]) rfl rfl rfl) ?_
        refine xg_t (xg_drop (l1 := [(0, (2, 58)), (1, (0, 0))]) (List.forall_mem_cons.mpr ⟨List.mem_cons_of_mem _ (List.mem_cons_self), List.forall_mem_cons.mpr ⟨List.mem_cons_self, fun _ h => absurd h List.not_mem_nil⟩⟩)) ?_
        have key86 : ∀ (m88 : Nat) (rp : Nat) (w89 : List (List xE)), 6 - rp < m88 → rp ≤ 6 → xInv w89 → xFr [58, 61, 62, 63, 64, 65, 66, 67] w w89 → xTo (d + 3) mX10_findWays (58, [], [(0, (2, 58)), (1, (0, rp))], [], (w89, bd, fc, 0, 0, rr)) (fun φ => ∃ w', xEnd 0 [] (w', bd, fc, 0, 0, rr) φ ∧ xInv w' ∧ xFr [58, 61, 62, 63, 64, 65, 66, 67] w w') := by
          intro m88
          induction m88 with
          | zero => intro rp w89 hz; exact absurd hz (Nat.not_lt_zero _)
          | succ m88 ih87 =>
            intro rp w89 hm93 hn92 hI90 hF91
            refine xg_t (xg_blq rfl) ?_
            refine xg_t (xg_iload (va := (0, rp)) rfl rfl) ?_
            refine xg_t (xg_aload (va := (2, 58)) rfl rfl) ?_
            refine xoC58 (xqc58 hI90 : cp58 (wget w89 58)) (fun f58_94 f58_96 f58_98 h58_100 hb95 hb97 hb99 => ?_)
            refine xg_t (xg_getf (va := (2, 1)) h58_100 rfl) ?_
            refine xg_t (xg_getf (va := (2, 3)) (hF91.get (by decide) h1_20) rfl) ?_
            refine xg_t (xg_getf (va := (0, f3_25)) (hF91.get (by decide) h3_31) rfl) ?_
            by_cases hc101 : rp < f3_25
            · refine xg_t (xg_icF (u := rp) (v := f3_25) rfl xnm0 xnm0 (xj_geF hc101 (by omega))) ?_
              refine xg_t (xg_aload (va := (2, 58)) rfl rfl) ?_
              refine xg_t (xg_getf (va := (2, 64)) h58_100 rfl) ?_
              refine xg_t (xg_iload (va := (0, rp)) rfl rfl) ?_
              refine xg_t (xg_const) ?_
              obtain ⟨g64_102, h64_103, hb104⟩ := (xqc64 hI90 : cpK 2 0 6 36 1 (wget w89 64))
              have h64_103 : xRk 2 0 w89 64 6 36 g64_102 := h64_103
              refine xg_bastZ (n := rp) (u := 1) h64_103 xnm0 xnm0 rfl (by omega) (by omega) (fun w105 hr106 hb107 => ?_)
              refine xg_t (xg_aload (va := (2, 58)) rfl rfl) ?_
              refine xg_cVi mX10_addWay (vs := []) (rest := []) (cn1 := 0) (sl1 := 0) rfl (wyAddWay (xInv.up (S := [64]) hI90 (xFr.of (S := [64]) hb107 (by decide)) (List.forall_mem_cons.mpr ⟨xqu64 (show cpK 2 0 6 36 1 (wget w105 64) from ⟨_, hr106, xrb (by omega) (hb104)⟩), fun _ h => absurd h List.not_mem_nil⟩))) rfl (hb107.get (by decide) h58_100) rfl rfl rfl rfl rfl rfl (fun n112 w108 hq109 => ?_)
              obtain ⟨hn113, hI110, hF111⟩ := hq109
              by_cases hc114 : n112 = 0
              · refine xg_t (xg_ifT (u := n112) rfl xnm0 (xj_eqT hc114)) ?_
                refine xg_t (xg_blq rfl) ?_
                refine xg_t (xg_aload (va := (2, 58)) rfl rfl) ?_
                refine xoC58 (xqc58 hI110 : cp58 (wget w108 58)) (fun f58_115 f58_117 f58_119 h58_121 hb116 hb118 hb120 => ?_)
                refine xg_t (xg_getf (va := (2, 64)) h58_121 rfl) ?_
                refine xg_t (xg_iload (va := (0, rp)) rfl rfl) ?_
                refine xg_t (xg_const) ?_
                refine xg_bastZ (n := rp) (u := 0) (hr106.fr hF111 (by decide)) xnm0 xnm0 rfl (by omega) (by omega) (fun w122 hr123 hb124 => ?_)
                refine xg_t (xg_blq rfl) ?_
                refine xg_t (xg_iinc (u := rp) (z := rp + 1) (l1 := [(0, (2, 58))]) rfl rfl (by omega) rfl) ?_
                refine xg_t (xg_goto) ?_
                refine xg_t (xg_drop (l1 := [(0, (2, 58)), (1, (0, rp + 1))]) (List.forall_mem_cons.mpr ⟨List.mem_cons_of_mem _ (List.mem_cons_self), List.forall_mem_cons.mpr ⟨List.mem_cons_self, fun _ h => absurd h List.not_mem_nil⟩⟩)) ?_
                exact ih87 (rp + 1) w122 (by omega) (by omega) (xInv.up (S := [64]) hI110 (xFr.of (S := [64]) hb124 (by decide)) (List.forall_mem_cons.mpr ⟨xqu64 (show cpK 2 0 6 36 1 (wget w122 64) from ⟨_, hr123, xrb (by omega) (xrb (by omega) (hb104))⟩), fun _ h => absurd h List.not_mem_nil⟩)) ((((hF91.tr (xFr.of (S := [58, 61, 62, 63, 64, 65, 66, 67]) hb107 (by decide))).tr (hF111.up (by decide))).tr (xFr.of (S := [58, 61, 62, 63, 64, 65, 66, 67]) hb124 (by decide))))
              · refine xg_t (xg_ifF (u := n112) rfl xnm0 (xj_eqF hc114)) ?_
                refine xg_t (xg_aload (va := (2, 58)) rfl rfl) ?_
                refine xg_t (xg_dup rfl) ?_
                refine xoC58 (xqc58 hI110 : cp58 (wget w108 58)) (fun f58_125 f58_127 f58_129 h58_131 hb126 hb128 hb130 => ?_)
                refine xg_t (xg_getf (va := (0, f58_127)) h58_131 rfl) ?_
                refine xg_t (xg_const) ?_
                refine xg_k (xg_iadd (u := f58_127) (v := 1) (z := (f58_127 + 1) % 4294967296) xnm0 xnm0 rfl) (Nat.mod_lt _ (by decide)) (fun z132 hz133 => ?_)
                refine xg_putI (fl1 := [(2, 1), (2, 59), (2, 60), (2, 61), (2, 62), (2, 63), (2, 64), (2, 65), (2, 66), (2, 67), (0, f58_125), (0, z132), (0, f58_129)]) h58_131 rfl rfl rfl (fun w134 hk135 hb136 => ?_)
                refine xg_t (xg_goto) ?_
                refine xg_t (xg_blq rfl) ?_
                refine xg_t (xg_iinc (u := rp) (z := rp + 1) (l1 := [(0, (2, 58))]) rfl rfl (by omega) rfl) ?_
                refine xg_t (xg_goto) ?_
                refine xg_t (xg_drop (l1 := [(0, (2, 58)), (1, (0, rp + 1))]) (List.forall_mem_cons.mpr ⟨List.mem_cons_of_mem _ (List.mem_cons_self), List.forall_mem_cons.mpr ⟨List.mem_cons_self, fun _ h => absurd h List.not_mem_nil⟩⟩)) ?_
                exact ih87 (rp + 1) w134 (by omega) (by omega) (xInv.up (S := [58]) hI110 (xFr.of (S := [58]) hb136 (by decide)) (List.forall_mem_cons.mpr ⟨xqu58 (show cp58 (wget w134 58) from xmC58 f58_125 z132 f58_129 hk135 hb126 (by omega) hb130), fun _ h => absurd h List.not_mem_nil⟩)) ((((hF91.tr (xFr.of (S := [58, 61, 62, 63, 64, 65, 66, 67]) hb107 (by decide))).tr (hF111.up (by decide))).tr (xFr.of (S := [58, 61, 62, 63, 64, 65, 66, 67]) hb136 (by decide))))
            · refine xg_t (xg_icT (u := rp) (v := f3_25) rfl xnm0 xnm0 (xj_geT (by omega) (by omega))) ?_
              refine xg_t (xg_blq rfl) ?_
              refine xg_t (xg_aload (va := (2, 58)) rfl rfl) ?_
              refine xg_cVi mX10_explore (vs := []) (rest := []) (cn1 := 0) (sl1 := 0) rfl (wyExplore (hI90)) rfl h58_100 rfl rfl rfl rfl rfl rfl (fun n141 w137 hq138 => ?_)
              obtain ⟨hn142, hI139, hF140⟩ := hq138
              refine xg_t (xg_pop rfl) ?_
              exact xg_e ⟨w137, ⟨rfl, rfl⟩, hI139, (hF91.tr (hF140.up (by decide)))⟩
        exact key86 _ 0 w83 (Nat.lt_succ_self _) (by omega) (xInv.up (S := [58]) hI46 (xFr.of (S := [58]) hb85 (by decide)) (List.forall_mem_cons.mpr ⟨xqu58 (show cp58 (wget w83 58) from xmC58 f58_76 0 f58_80 hk84 hb77 (by decide) hb81), fun _ h => absurd h List.not_mem_nil⟩)) ((hF47.tr (xFr.of (S := [58, 61, 62, 63, 64, 65, 66, 67]) hb85 (by decide))))
  exact key42 _ 0 w40 (Nat.lt_succ_self _) (by omega) (xInv.up (S := [61, 62]) hI ((xFr.of (S := [61, 62]) hq36.2 (by decide)).tr (xFr.of (S := [61, 62]) hq41.2 (by decide))) (List.forall_mem_cons.mpr ⟨xqu61 (show cpI 36 33 4294967295 (wget w40 61) from ⟨_, (hq36.1.but hq41.2 (by decide)), fun _ => (by omega : 0 ≤ 4294967295)⟩), List.forall_mem_cons.mpr ⟨xqu62 (show cpI 36 34 4294967295 (wget w40 62) from ⟨_, hq41.1, fun _ => (by omega : 0 ≤ 4294967295)⟩), fun _ h => absurd h List.not_mem_nil⟩⟩)) (((xFr.of (S := [58, 61, 62, 63, 64, 65, 66, 67]) hq36.2 (by decide)).tr (xFr.of (S := [58, 61, 62, 63, 64, 65, 66, 67]) hq41.2 (by decide))))
theorem wyLayNet (hI : xInv w)  : xPq (d + 2) mX10_layNet [(2, 58)] w bd fc rr [] (fun w' => xInv w' ∧ xFr [59, 60] w w') := by
  refine xPq.of ?_
  show xTo (d + 2) mX10_layNet (0, [], [(0, (2, 58))], [], (w, bd, fc, 0, 0, rr)) (fun φ => ∃ w', xEnd 0 [] (w', bd, fc, 0, 0, rr) φ ∧ xInv w' ∧ xFr [59, 60] w w')
  refine xoC58 (xqc58 hI : cp58 (wget w 58)) (fun f58_1 f58_3 f58_5 h58_7 hb2 hb4 hb6 => ?_)
  refine xoC1 (xqc1 hI : cp1 (wget w 1)) (fun f1_8 f1_10 f1_12 f1_14 f1_16 f1_18 h1_20 hb9 hb11 hb13 hb15 hb17 hb19 => ?_)
  refine xoC3 (xqc3 hI : cp3 (wget w 3)) (fun f3_21 f3_23 f3_25 f3_27 f3_29 h3_31 hb22 hb24 hb26 hb28 hb30 => ?_)
  obtain ⟨f14_32, h14_34, hb33⟩ := (xqc14 hI : cp14 (wget w 14))
  refine xoI (xqc15 hI : cpI 200 6 4294967295 (wget w 15)) (fun g15_35 h15_36 hb37 => ?_)
  refine xg_t (xg_blq rfl) ?_
  refine xg_t (xg_aload (va := (2, 58)) rfl rfl) ?_
  refine xg_t (xg_getf (va := (2, 1)) h58_7 rfl) ?_
  refine xg_t (xg_getf (va := (2, 3)) h1_20 rfl) ?_
  refine xg_t (xg_astore (l1 := [(0, (2, 58))]) rfl rfl rfl) ?_
  refine xg_t (xg_const) ?_
  refine xg_t (xg_istore (l1 := [(1, (2, 3)), (0, (2, 58))]) rfl rfl rfl) ?_
  refine xg_t (xg_drop (l1 := [(0, (2, 58)), (1, (2, 3)), (2, (0, 0))]) (List.forall_mem_cons.mpr ⟨List.mem_cons_of_mem _ (List.mem_cons_of_mem _ (List.mem_cons_self)), List.forall_mem_cons.mpr ⟨List.mem_cons_of_mem _ (List.mem_cons_self), List.forall_mem_cons.mpr ⟨List.mem_cons_self, fun _ h => absurd h List.not_mem_nil⟩⟩⟩)) ?_
  have key38 : ∀ (m40 : Nat) (ro : Nat) (w41 : List (List xE)), 6 - ro < m40 → ro ≤ 6 → xInv w41 → xFr [59, 60] w w41 → xTo (d + 2) mX10_layNet (10, [], [(0, (2, 58)), (1, (2, 3)), (2, (0, ro))], [], (w41, bd, fc, 0, 0, rr)) (fun φ => ∃ w', xEnd 0 [] (w', bd, fc, 0, 0, rr) φ ∧ xInv w' ∧ xFr [59, 60] w w') := by
    intro m40
    induction m40 with
    | zero => intro ro w41 hz; exact absurd hz (Nat.not_lt_zero _)
    | succ m40 ih39 =>
      intro ro w41 hm45 hn44 hI42 hF43
      refine xg_t (xg_blq rfl) ?_
      refine xg_t (xg_iload (va := (0, ro)) rfl rfl) ?_
      refine xg_t (xg_bip) ?_
      by_cases hc46 : ro < 6
      · refine xg_t (xg_icF (u := ro) (v := 6) rfl xnm0 xnm0 (xj_geF hc46 (by omega))) ?_
        refine xg_t (xg_const) ?_
        refine xg_t (xg_istore (l1 := [(0, (2, 58)), (1, (2, 3)), (2, (0, ro))]) rfl rfl rfl) ?_
        refine xg_t (xg_drop (l1 := [(0, (2, 58)), (1, (2, 3)), (2, (0, ro)), (3, (0, 0))]) (List.forall_mem_cons.mpr ⟨List.mem_cons_of_mem _ (List.mem_cons_self), List.forall_mem_cons.mpr ⟨List.mem_cons_of_mem _ (List.mem_cons_of_mem _ (List.mem_cons_self)), List.forall_mem_cons.mpr ⟨List.mem_cons_of_mem _ (List.mem_cons_of_mem _ (List.mem_cons_of_mem _ (List.mem_cons_self))), List.forall_mem_cons.mpr ⟨List.mem_cons_self, fun _ h => absurd h List.not_mem_nil⟩⟩⟩⟩)) ?_
        have key47 : ∀ (m49 : Nat) (co : Nat) (w50 : List (List xE)), 6 - co < m49 → co ≤ 6 → xInv w50 → xFr [59, 60] w w50 → xTo (d + 2) mX10_layNet (18, [], [(0, (2, 58)), (1, (2, 3)), (2, (0, ro)), (3, (0, co))], [], (w50, bd, fc, 0, 0, rr)) (fun φ => ∃ w', xEnd 0 [] (w', bd, fc, 0, 0, rr) φ ∧ xInv w' ∧ xFr [59, 60] w w') := by
          intro m49
          induction m49 with
          | zero => intro co w50 hz; exact absurd hz (Nat.not_lt_zero _)
          | succ m49 ih48 =>
            intro co w50 hm54 hn53 hI51 hF52
            refine xg_t (xg_blq rfl) ?_
            refine xg_t (xg_iload (va := (0, co)) rfl rfl) ?_
            refine xg_t (xg_bip) ?_
            by_cases hc55 : co < 6
            · refine xg_t (xg_icF (u := co) (v := 6) rfl xnm0 xnm0 (xj_geF hc55 (by omega))) ?_
              refine xg_t (xg_iload (va := (0, ro)) rfl rfl) ?_
              refine xg_t (xg_bip) ?_
              refine xg_t (xg_imul (u := ro) (v := 6) (z := ro * 6) xnm0 xnm0 (by omega)) ?_
              refine xg_t (xg_iload (va := (0, co)) rfl rfl) ?_
              refine xg_t (xg_iadd (u := ro * 6) (v := co) (z := (ro * 6) + co) xnm0 xnm0 (by omega)) ?_
              refine xg_t (xg_istore (l1 := [(0, (2, 58)), (1, (2, 3)), (2, (0, ro)), (3, (0, co))]) rfl rfl rfl) ?_
              refine xg_t (xg_aload (va := (2, 58)) rfl rfl) ?_
              refine xg_t (xg_getf (va := (2, 59)) (hF52.get (by decide) h58_7) rfl) ?_
              refine xg_t (xg_iload (va := (0, (ro * 6) + co)) rfl rfl) ?_
              refine xg_t (xg_iload (va := (0, ro)) rfl rfl) ?_
              refine xg_t (xg_aload (va := (2, 3)) rfl rfl) ?_
              refine xg_t (xg_getf (va := (0, f3_25)) (hF52.get (by decide) h3_31) rfl) ?_
              by_cases hc56 : ro < f3_25
              · refine xg_t (xg_icF (u := ro) (v := f3_25) rfl xnm0 xnm0 (xj_geF hc56 (by omega))) ?_
                refine xg_t (xg_iload (va := (0, co)) rfl rfl) ?_
                refine xg_t (xg_const) ?_
                refine xg_t (xg_iadd (u := co) (v := 1) (z := co + 1) xnm0 xnm0 (by omega)) ?_
                refine xg_t (xg_aload (va := (2, 3)) rfl rfl) ?_
                refine xg_t (xg_getf (va := (0, f3_27)) (hF52.get (by decide) h3_31) rfl) ?_
                by_cases hc57 : (co + 1) < f3_27
                · refine xg_t (xg_icF (u := co + 1) (v := f3_27) rfl xnm0 xnm0 (xj_geF hc57 (by omega))) ?_
                  refine xg_t (xg_const) ?_
                  refine xg_t (xg_goto) ?_
                  refine xg_t (xg_blq rfl) ?_
                  obtain ⟨g59_58, h59_59, hb60⟩ := (xqc59 hI51 : cpK 2 0 36 31 1 (wget w50 59))
                  have h59_59 : xRk 2 0 w50 59 36 31 g59_58 := h59_59
                  refine xg_bastZ (n := (ro * 6) + co) (u := 1) h59_59 xnm0 xnm0 rfl (by omega) (by omega) (fun w61 hr62 hb63 => ?_)
                  refine xg_t (xg_aload (va := (2, 58)) rfl rfl) ?_
                  refine xg_t (xg_getf (va := (2, 60)) (hb63.get (by decide) (hF52.get (by decide) h58_7)) rfl) ?_
                  refine xg_t (xg_iload (va := (0, (ro * 6) + co)) rfl rfl) ?_
                  refine xg_t (xg_iload (va := (0, ro)) rfl rfl) ?_
                  refine xg_t (xg_const) ?_
                  refine xg_t (xg_iadd (u := ro) (v := 1) (z := ro + 1) xnm0 xnm0 (by omega)) ?_
                  refine xg_t (xg_aload (va := (2, 3)) rfl rfl) ?_
                  refine xg_t (xg_getf (va := (0, f3_25)) (hb63.get (by decide) (hF52.get (by decide) h3_31)) rfl) ?_
                  by_cases hc64 : (ro + 1) < f3_25
                  · refine xg_t (xg_icF (u := ro + 1) (v := f3_25) rfl xnm0 xnm0 (xj_geF hc64 (by omega))) ?_
                    refine xg_t (xg_iload (va := (0, co)) rfl rfl) ?_
                    refine xg_t (xg_aload (va := (2, 3)) rfl rfl) ?_
                    refine xg_t (xg_getf (va := (0, f3_27)) (hb63.get (by decide) (hF52.get (by decide) h3_31)) rfl) ?_
                    by_cases hc65 : co < f3_27
                    · refine xg_t (xg_icF (u := co) (v := f3_27) rfl xnm0 xnm0 (xj_geF hc65 (by omega))) ?_
                      refine xg_t (xg_const) ?_
                      refine xg_t (xg_goto) ?_
                      refine xg_t (xg_blq rfl) ?_
                      obtain ⟨g60_66, h60_67, hb68⟩ := (xqc60 hI51 : cpK 2 0 36 32 1 (wget w50 60))
                      have h60_67 : xRk 2 0 w50 60 36 32 g60_66 := h60_67
                      refine xg_bastZ (n := (ro * 6) + co) (u := 1) (h60_67.but hb63 (by decide)) xnm0 xnm0 rfl (by omega) (by omega) (fun w69 hr70 hb71 => ?_)
                      refine xg_t (xg_iinc (u := co) (z := co + 1) (l1 := [(4, (0, (ro * 6) + co)), (0, (2, 58)), (1, (2, 3)), (2, (0, ro))]) rfl rfl (by omega) rfl) ?_
                      refine xg_t (xg_goto) ?_
                      refine xg_t (xg_drop (l1 := [(0, (2, 58)), (1, (2, 3)), (2, (0, ro)), (3, (0, co + 1))]) (List.forall_mem_cons.mpr ⟨List.mem_cons_of_mem _ (List.mem_cons_of_mem _ (List.mem_cons_self)), List.forall_mem_cons.mpr ⟨List.mem_cons_of_mem _ (List.mem_cons_of_mem _ (List.mem_cons_of_mem _ (List.mem_cons_self))), List.forall_mem_cons.mpr ⟨List.mem_cons_of_mem _ (List.mem_cons_of_mem _ (List.mem_cons_of_mem _ (List.mem_cons_of_mem _ (List.mem_cons_self)))), List.forall_mem_cons.mpr ⟨List.mem_cons_self, fun _ h => absurd h List.not_mem_nil⟩⟩⟩⟩)) ?_
                      exact ih48 (co + 1) w69 (by omega) (by omega) (xInv.up (S := [59, 60]) hI51 ((xFr.of (S := [59, 60]) hb63 (by decide)).tr (xFr.of (S := [59, 60]) hb71 (by decide))) (List.forall_mem_cons.mpr ⟨xqu59 (show cpK 2 0 36 31 1 (wget w69 59) from ⟨_, (hr62.but hb71 (by decide)), xrb (by omega) (hb60)⟩), List.forall_mem_cons.mpr ⟨xqu60 (show cpK 2 0 36 32 1 (wget w69 60) from ⟨_, hr70, xrb (by omega) (hb68)⟩), fun _ h => absurd h List.not_mem_nil⟩⟩)) ((hF52.tr ((xFr.of (S := [59, 60]) hb63 (by decide)).tr (xFr.of (S := [59, 60]) hb71 (by decide)))))
                    · refine xg_t (xg_icT (u := co) (v := f3_27) rfl xnm0 xnm0 (xj_geT (by omega) (by omega))) ?_
                      refine xg_t (xg_blq rfl) ?_
                      refine xg_t (xg_const) ?_
                      refine xg_t (xg_blq rfl) ?_
                      obtain ⟨g60_72, h60_73, hb74⟩ := (xqc60 hI51 : cpK 2 0 36 32 1 (wget w50 60))
                      have h60_73 : xRk 2 0 w50 60 36 32 g60_72 := h60_73
                      refine xg_bastZ (n := (ro * 6) + co) (u := 0) (h60_73.but hb63 (by decide)) xnm0 xnm0 rfl (by omega) (by omega) (fun w75 hr76 hb77 => ?_)
                      refine xg_t (xg_iinc (u := co) (z := co + 1) (l1 := [(4, (0, (ro * 6) + co)), (0, (2, 58)), (1, (2, 3)), (2, (0, ro))]) rfl rfl (by omega) rfl) ?_
                      refine xg_t (xg_goto) ?_
                      refine xg_t (xg_drop (l1 := [(0, (2, 58)), (1, (2, 3)), (2, (0, ro)), (3, (0, co + 1))]) (List.forall_mem_cons.mpr ⟨List.mem_cons_of_mem _ (List.mem_cons_of_mem _ (List.mem_cons_self)), List.forall_mem_cons.mpr ⟨List.mem_cons_of_mem _ (List.mem_cons_of_mem _ (List.mem_cons_of_mem _ (List.mem_cons_self))), List.forall_mem_cons.mpr ⟨List.mem_cons_of_mem _ (List.mem_cons_of_mem _ (List.mem_cons_of_mem _ (List.mem_cons_of_mem _ (List.mem_cons_self)))), List.forall_mem_cons.mpr ⟨List.mem_cons_self, fun _ h => absurd h List.not_mem_nil⟩⟩⟩⟩)) ?_
                      exact ih48 (co + 1) w75 (by omega) (by omega) (xInv.up (S := [59, 60]) hI51 ((xFr.of (S := [59, 60]) hb63 (by decide)).tr (xFr.of (S := [59, 60]) hb77 (by decide))) (List.forall_mem_cons.mpr ⟨xqu59 (show cpK 2 0 36 31 1 (wget w75 59) from ⟨_, (hr62.but hb77 (by decide)), xrb (by omega) (hb60)⟩), List.forall_mem_cons.mpr ⟨xqu60 (show cpK 2 0 36 32 1 (wget w75 60) from ⟨_, hr76, xrb (by omega) (hb74)⟩), fun _ h => absurd h List.not_mem_nil⟩⟩)) ((hF52.tr ((xFr.of (S := [59, 60]) hb63 (by decide)).tr (xFr.of (S := [59, 60]) hb77 (by decide)))))
                  · refine xg_t (xg_icT (u := ro + 1) (v := f3_25) rfl xnm0 xnm0 (xj_geT (by omega) (by omega))) ?_
                    refine xg_t (xg_blq rfl) ?_
                    refine xg_t (xg_const) ?_
                    refine xg_t (xg_blq rfl) ?_
                    obtain ⟨g60_78, h60_79, hb80⟩ := (xqc60 hI51 : cpK 2 0 36 32 1 (wget w50 60))
                    have h60_79 : xRk 2 0 w50 60 36 32 g60_78 := h60_79
                    refine xg_bastZ (n := (ro * 6) + co) (u := 0) (h60_79.but hb63 (by decide)) xnm0 xnm0 rfl (by omega) (by omega) (fun w81 hr82 hb83 => ?_)
                    refine xg_t (xg_iinc (u := co) (z := co + 1) (l1 := [(4, (0, (ro * 6) + co)), (0, (2, 58)), (1, (2, 3)), (2, (0, ro))]) rfl rfl (by omega) rfl) ?_
                    refine xg_t (xg_goto) ?_
                    refine xg_t (xg_drop (l1 := [(0, (2, 58)), (1, (2, 3)), (2, (0, ro)), (3, (0, co + 1))]) (List.forall_mem_cons.mpr ⟨List.mem_cons_of_mem _ (List.mem_cons_of_mem _ (List.mem_cons_self)), List.forall_mem_cons.mpr ⟨List.mem_cons_of_mem _ (List.mem_cons_of_mem _ (List.mem_cons_of_mem _ (List.mem_cons_self))), List.forall_mem_cons.mpr ⟨List.mem_cons_of_mem _ (List.mem_cons_of_mem _ (List.mem_cons_of_mem _ (List.mem_cons_of_mem _ (List.mem_cons_self)))), List.forall_mem_cons.mpr ⟨List.mem_cons_self, fun _ h => absurd h List.not_mem_nil⟩⟩⟩⟩)) ?_
                    exact ih48 (co + 1) w81 (by omega) (by omega) (xInv.up (S := [59, 60]) hI51 ((xFr.of (S := [59, 60]) hb63 (by decide)).tr (xFr.of (S := [59, 60]) hb83 (by decide))) (List.forall_mem_cons.mpr ⟨xqu59 (show cpK 2 0 36 31 1 (wget w81 59) from ⟨_, (hr62.but hb83 (by decide)), xrb (by omega) (hb60)⟩), List.forall_mem_cons.mpr ⟨xqu60 (show cpK 2 0 36 32 1 (wget w81 60) from ⟨_, hr82, xrb (by omega) (hb80)⟩), fun _ h => absurd h List.not_mem_nil⟩⟩)) ((hF52.tr ((xFr.of (S := [59, 60]) hb63 (by decide)).tr (xFr.of (S := [59, 60]) hb83 (by decide)))))
                · refine xg_t (xg_icT (u := co + 1) (v := f3_27) rfl xnm0 xnm0 (xj_geT (by omega) (by omega))) ?_
                  refine xg_t (xg_blq rfl) ?_
                  refine xg_t (xg_const) ?_
                  refine xg_t (xg_blq rfl) ?_
                  obtain ⟨g59_84, h59_85, hb86⟩ := (xqc59 hI51 : cpK 2 0 36 31 1 (wget w50 59))
                  have h59_85 : xRk 2 0 w50 59 36 31 g59_84 := h59_85
                  refine xg_bastZ (n := (ro * 6) + co) (u := 0) h59_85 xnm0 xnm0 rfl (by omega) (by omega) (fun w87 hr88 hb89 => ?_)
                  refine xg_t (xg_aload (va := (2, 58)) rfl rfl) ?_
                  refine xg_t (xg_getf (va := (2, 60)) (hb89.get (by decide) (hF52.get (by decide) h58_7)) rfl) ?_
                  refine xg_t (xg_iload (va := (0, (ro * 6) + co)) rfl rfl) ?_
                  refine xg_t (xg_iload (va := (0, ro)) rfl rfl) ?_
                  refine xg_t (xg_const) ?_
                  refine xg_t (xg_iadd (u := ro) (v := 1) (z := ro + 1) xnm0 xnm0 (by omega)) ?_
                  refine xg_t (xg_aload (va := (2, 3)) rfl rfl) ?_
                  refine xg_t (xg_getf (va := (0, f3_25)) (hb89.get (by decide) (hF52.get (by decide) h3_31)) rfl) ?_
                  by_cases hc90 : (ro + 1) < f3_25
                  · refine xg_t (xg_icF (u := ro + 1) (v := f3_25) rfl xnm0 xnm0 (xj_geF hc90 (by omega))) ?_
                    refine xg_t (xg_iload (va := (0, co)) rfl rfl) ?_
                    refine xg_t (xg_aload (va := (2, 3)) rfl rfl) ?_
                    refine xg_t (xg_getf (va := (0, f3_27)) (hb89.get (by decide) (hF52.get (by decide) h3_31)) rfl) ?_
                    by_cases hc91 : co < f3_27
                    · refine xg_t (xg_icF (u := co) (v := f3_27) rfl xnm0 xnm0 (xj_geF hc91 (by omega))) ?_
                      refine xg_t (xg_const) ?_
                      refine xg_t (xg_goto) ?_
                      refine xg_t (xg_blq rfl) ?_
                      obtain ⟨g60_92, h60_93, hb94⟩ := (xqc60 hI51 : cpK 2 0 36 32 1 (wget w50 60))
                      have h60_93 : xRk 2 0 w50 60 36 32 g60_92 := h60_93
                      refine xg_bastZ (n := (ro * 6) + co) (u := 1) (h60_93.but hb89 (by decide)) xnm0 xnm0 rfl (by omega) (by omega) (fun w95 hr96 hb97 => ?_)
                      refine xg_t (xg_iinc (u := co) (z := co + 1) (l1 := [(4, (0, (ro * 6) + co)), (0, (2, 58)), (1, (2, 3)), (2, (0, ro))]) rfl rfl (by omega) rfl) ?_
                      refine xg_t (xg_goto) ?_
                      refine xg_t (xg_drop (l1 := [(0, (2, 58)), (1, (2, 3)), (2, (0, ro)), (3, (0, co + 1))]) (List.forall_mem_cons.mpr ⟨List.mem_cons_of_mem _ (List.mem_cons_of_mem _ (List.mem_cons_self)), List.forall_mem_cons.mpr ⟨List.mem_cons_of_mem _ (List.mem_cons_of_mem _ (List.mem_cons_of_mem _ (List.mem_cons_self))), List.forall_mem_cons.mpr ⟨List.mem_cons_of_mem _ (List.mem_cons_of_mem _ (List.mem_cons_of_mem _ (List.mem_cons_of_mem _ (List.mem_cons_self)))), List.forall_mem_cons.mpr ⟨List.mem_cons_self, fun _ h => absurd h List.not_mem_nil⟩⟩⟩⟩)) ?_
                      exact ih48 (co + 1) w95 (by omega) (by omega) (xInv.up (S := [59, 60]) hI51 ((xFr.of (S := [59, 60]) hb89 (by decide)).tr (xFr.of (S := [59, 60]) hb97 (by decide))) (List.forall_mem_cons.mpr ⟨xqu59 (show cpK 2 0 36 31 1 (wget w95 59) from ⟨_, (hr88.but hb97 (by decide)), xrb (by omega) (hb86)⟩), List.forall_mem_cons.mpr ⟨xqu60 (show cpK 2 0 36 32 1 (wget w95 60) from ⟨_, hr96, xrb (by omega) (hb94)⟩), fun _ h => absurd h List.not_mem_nil⟩⟩)) ((hF52.tr ((xFr.of (S := [59, 60]) hb89 (by decide)).tr (xFr.of (S := [59, 60]) hb97 (by decide)))))
                    · refine xg_t (xg_icT (u := co) (v := f3_27) rfl xnm0 xnm0 (xj_geT (by omega) (by omega))) ?_
                      refine xg_t (xg_blq rfl) ?_
                      refine xg_t (xg_const) ?_
                      refine xg_t (xg_blq rfl) ?_
                      obtain ⟨g60_98, h60_99, hb100⟩ := (xqc60 hI51 : cpK 2 0 36 32 1 (wget w50 60))
                      have h60_99 : xRk 2 0 w50 60 36 32 g60_98 := h60_99
                      refine xg_bastZ (n := (ro * 6) + co) (u := 0) (h60_99.but hb89 (by decide)) xnm0 xnm0 rfl (by omega) (by omega) (fun w101 hr102 hb103 => ?_)
                      refine xg_t (xg_iinc (u := co) (z := co + 1) (l1 := [(4, (0, (ro * 6) + co)), (0, (2, 58)), (1, (2, 3)), (2, (0, ro))]) rfl rfl (by omega) rfl) ?_
                      refine xg_t (xg_goto) ?_
                      refine xg_t (xg_drop (l1 := [(0, (2, 58)), (1, (2, 3)), (2, (0, ro)), (3, (0, co + 1))]) (List.forall_mem_cons.mpr ⟨List.mem_cons_of_mem _ (List.mem_cons_of_mem _ (List.mem_cons_self)), List.forall_mem_cons.mpr ⟨List.mem_cons_of_mem _ (List.mem_cons_of_mem _ (List.mem_cons_of_mem _ (List.mem_cons_self))), List.forall_mem_cons.mpr ⟨List.mem_cons_of_mem _ (List.mem_cons_of_mem _ (List.mem_cons_of_mem _ (List.mem_cons_of_mem _ (List.mem_cons_self)))), List.forall_mem_cons.mpr ⟨List.mem_cons_self, fun _ h => absurd h List.not_mem_nil⟩⟩⟩⟩)) ?_
                      exact ih48 (co + 1) w101 (by omega) (by omega) (xInv.up (S := [59, 60]) hI51 ((xFr.of (S := [59, 60]) hb89 (by decide)).tr (xFr.of (S := [59, 60]) hb103 (by decide))) (List.forall_mem_cons.mpr ⟨xqu59 (show cpK 2 0 36 31 1 (wget w101 59) from ⟨_, (hr88.but hb103 (by decide)), xrb (by omega) (hb86)⟩), List.forall_mem_cons.mpr ⟨xqu60 (show cpK 2 0 36 32 1 (wget w101 60) from ⟨_, hr102, xrb (by omega) (hb100)⟩), fun _ h => absurd h List.not_mem_nil⟩⟩)) ((hF52.tr ((xFr.of (S := [59, 60]) hb89 (by decide)).tr (xFr.of (S := [59, 60]) hb103 (by decide)))))
                  · refine xg_t (xg_icT (u := ro + 1) (v := f3_25) rfl xnm0 xnm0 (xj_geT (by omega) (by omega))) ?_
                    refine xg_t (xg_blq rfl) ?_
                    refine xg_t (xg_const) ?_
                    refine xg_t (xg_blq rfl) ?_
                    obtain ⟨g60_104, h60_105, hb106⟩ := (xqc60 hI51 : cpK 2 0 36 32 1 (wget w50 60))
                    have h60_105 : xRk 2 0 w50 60 36 32 g60_104 := h60_105
                    refine xg_bastZ (n := (ro * 6) + co) (u := 0) (h60_105.but hb89 (by decide)) xnm0 xnm0 rfl (by omega) (by omega) (fun w107 hr108 hb109 => ?_)
                    refine xg_t (xg_iinc (u := co) (z := co + 1) (l1 := [(4, (0, (ro * 6) + co)), (0, (2, 58)), (1, (2, 3)), (2, (0, ro))]) rfl rfl (by omega) rfl) ?_
                    refine xg_t (xg_goto) ?_
                    refine xg_t (xg_drop (l1 := [(0, (2, 58)), (1, (2, 3)), (2, (0, ro)), (3, (0, co + 1))]) (List.forall_mem_cons.mpr ⟨List.mem_cons_of_mem _ (List.mem_cons_of_mem _ (List.mem_cons_self)), List.forall_mem_cons.mpr ⟨List.mem_cons_of_mem _ (List.mem_cons_of_mem _ (List.mem_cons_of_mem _ (List.mem_cons_self))), List.forall_mem_cons.mpr ⟨List.mem_cons_of_mem _ (List.mem_cons_of_mem _ (List.mem_cons_of_mem _ (List.mem_cons_of_mem _ (List.mem_cons_self)))), List.forall_mem_cons.mpr ⟨List.mem_cons_self, fun _ h => absurd h List.not_mem_nil⟩⟩⟩⟩)) ?_
                    exact ih48 (co + 1) w107 (by omega) (by omega) (xInv.up (S := [59, 60]) hI51 ((xFr.of (S := [59, 60]) hb89 (by decide)).tr (xFr.of (S := [59, 60]) hb109 (by decide))) (List.forall_mem_cons.mpr ⟨xqu59 (show cpK 2 0 36 31 1 (wget w107 59) from ⟨_, (hr88.but hb109 (by decide)), xrb (by omega) (hb86)⟩), List.forall_mem_cons.mpr ⟨xqu60 (show cpK 2 0 36 32 1 (wget w107 60) from ⟨_, hr108, xrb (by omega) (hb106)⟩), fun _ h => absurd h List.not_mem_nil⟩⟩)) ((hF52.tr ((xFr.of (S := [59, 60]) hb89 (by decide)).tr (xFr.of (S := [59, 60]) hb109 (by decide)))))
              · refine xg_t (xg_icT (u := ro) (v := f3_25) rfl xnm0 xnm0 (xj_geT (by omega) (by omega))) ?_
                refine xg_t (xg_blq rfl) ?_
                refine xg_t (xg_const) ?_
                refine xg_t (xg_blq rfl) ?_
                obtain ⟨g59_110, h59_111, hb112⟩ := (xqc59 hI51 : cpK 2 0 36 31 1 (wget w50 59))
                have h59_111 : xRk 2 0 w50 59 36 31 g59_110 := h59_111
                refine xg_bastZ (n := (ro * 6) + co) (u := 0) h59_111 xnm0 xnm0 rfl (by omega) (by omega) (fun w113 hr114 hb115 => ?_)
                refine xg_t (xg_aload (va := (2, 58)) rfl rfl) ?_
                refine xg_t (xg_getf (va := (2, 60)) (hb115.get (by decide) (hF52.get (by decide) h58_7)) rfl) ?_
                refine xg_t (xg_iload (va := (0, (ro * 6) + co)) rfl rfl) ?_
                refine xg_t (xg_iload (va := (0, ro)) rfl rfl) ?_
                refine xg_t (xg_const) ?_
                refine xg_t (xg_iadd (u := ro) (v := 1) (z := ro + 1) xnm0 xnm0 (by omega)) ?_
                refine xg_t (xg_aload (va := (2, 3)) rfl rfl) ?_
                refine xg_t (xg_getf (va := (0, f3_25)) (hb115.get (by decide) (hF52.get (by decide) h3_31)) rfl) ?_
                by_cases hc116 : (ro + 1) < f3_25
                · refine xg_t (xg_icF (u := ro + 1) (v := f3_25) rfl xnm0 xnm0 (xj_geF hc116 (by omega))) ?_
                  refine xg_t (xg_iload (va := (0, co)) rfl rfl) ?_
                  refine xg_t (xg_aload (va := (2, 3)) rfl rfl) ?_
                  refine xg_t (xg_getf (va := (0, f3_27)) (hb115.get (by decide) (hF52.get (by decide) h3_31)) rfl) ?_
                  by_cases hc117 : co < f3_27
                  · refine xg_t (xg_icF (u := co) (v := f3_27) rfl xnm0 xnm0 (xj_geF hc117 (by omega))) ?_
                    refine xg_t (xg_const) ?_
                    refine xg_t (xg_goto) ?_
                    refine xg_t (xg_blq rfl) ?_
                    obtain ⟨g60_118, h60_119, hb120⟩ := (xqc60 hI51 : cpK 2 0 36 32 1 (wget w50 60))
                    have h60_119 : xRk 2 0 w50 60 36 32 g60_118 := h60_119
                    refine xg_bastZ (n := (ro * 6) + co) (u := 1) (h60_119.but hb115 (by decide)) xnm0 xnm0 rfl (by omega) (by omega) (fun w121 hr122 hb123 => ?_)
                    refine xg_t (xg_iinc (u := co) (z := co + 1) (l1 := [(4, (0, (ro * 6) + co)), (0, (2, 58)), (1, (2, 3)), (2, (0, ro))]) rfl rfl (by omega) rfl) ?_
                    refine xg_t (xg_goto) ?_
                    refine xg_t (xg_drop (l1 := [(0, (2, 58)), (1, (2, 3)), (2, (0, ro)), (3, (0, co + 1))]) (List.forall_mem_cons.mpr ⟨List.mem_cons_of_mem _ (List.mem_cons_of_mem _ (List.mem_cons_self)), List.forall_mem_cons.mpr ⟨List.mem_cons_of_mem _ (List.mem_cons_of_mem _ (List.mem_cons_of_mem _ (List.mem_cons_self))), List.forall_mem_cons.mpr ⟨List.mem_cons_of_mem _ (List.mem_cons_of_mem _ (List.mem_cons_of_mem _ (List.mem_cons_of_mem _ (List.mem_cons_self)))), List.forall_mem_cons.mpr ⟨List.mem_cons_self, fun _ h => absurd h List.not_mem_nil⟩⟩⟩⟩)) ?_
                    exact ih48 (co + 1) w121 (by omega) (by omega) (xInv.up (S := [59, 60]) hI51 ((xFr.of (S := [59, 60]) hb115 (by decide)).tr (xFr.of (S := [59, 60]) hb123 (by decide))) (List.forall_mem_cons.mpr ⟨xqu59 (show cpK 2 0 36 31 1 (wget w121 59) from ⟨_, (hr114.but hb123 (by decide)), xrb (by omega) (hb112)⟩), List.forall_mem_cons.mpr ⟨xqu60 (show cpK 2 0 36 32 1 (wget w121 60) from ⟨_, hr122, xrb (by omega) (hb120)⟩), fun _ h => absurd h List.not_mem_nil⟩⟩)) ((hF52.tr ((xFr.of (S := [59, 60]) hb115 (by decide)).tr (xFr.of (S := [59, 60]) hb123 (by decide)))))
                  · refine xg_t (xg_icT (u := co) (v := f3_27) rfl xnm0 xnm0 (xj_geT (by omega) (by omega))) ?_
                    refine xg_t (xg_blq rfl) ?_
                    refine xg_t (xg_const) ?_
                    refine xg_t (xg_blq rfl) ?_
                    obtain ⟨g60_124, h60_125, hb126⟩ := (xqc60 hI51 : cpK 2 0 36 32 1 (wget w50 60))
                    have h60_125 : xRk 2 0 w50 60 36 32 g60_124 := h60_125
                    refine xg_bastZ (n := (ro * 6) + co) (u := 0) (h60_125.but hb115 (by decide)) xnm0 xnm0 rfl (by omega) (by omega) (fun w127 hr128 hb129 => ?_)
                    refine xg_t (xg_iinc (u := co) (z := co + 1) (l1 := [(4, (0, (ro * 6) + co)), (0, (2, 58)), (1, (2, 3)), (2, (0, ro))]) rfl rfl (by omega) rfl) ?_
                    refine xg_t (xg_goto) ?_
                    refine xg_t (xg_drop (l1 := [(0, (2, 58)), (1, (2, 3)), (2, (0, ro)), (3, (0, co + 1))]) (List.forall_mem_cons.mpr ⟨List.mem_cons_of_mem _ (List.mem_cons_of_mem _ (List.mem_cons_self)), List.forall_mem_cons.mpr ⟨List.mem_cons_of_mem _ (List.mem_cons_of_mem _ (List.mem_cons_of_mem _ (List.mem_cons_self))), List.forall_mem_cons.mpr ⟨List.mem_cons_of_mem _ (List.mem_cons_of_mem _ (List.mem_cons_of_mem _ (List.mem_cons_of_mem _ (List.mem_cons_self)))), List.forall_mem_cons.mpr ⟨List.mem_cons_self, fun _ h => absurd h List.not_mem_nil⟩⟩⟩⟩)) ?_
                    exact ih48 (co + 1) w127 (by omega) (by omega) (xInv.up (S := [59, 60]) hI51 ((xFr.of (S := [59, 60]) hb115 (by decide)).tr (xFr.of (S := [59, 60]) hb129 (by decide))) (List.forall_mem_cons.mpr ⟨xqu59 (show cpK 2 0 36 31 1 (wget w127 59) from ⟨_, (hr114.but hb129 (by decide)), xrb (by omega) (hb112)⟩), List.forall_mem_cons.mpr ⟨xqu60 (show cpK 2 0 36 32 1 (wget w127 60) from ⟨_, hr128, xrb (by omega) (hb126)⟩), fun _ h => absurd h List.not_mem_nil⟩⟩)) ((hF52.tr ((xFr.of (S := [59, 60]) hb115 (by decide)).tr (xFr.of (S := [59, 60]) hb129 (by decide)))))
                · refine xg_t (xg_icT (u := ro + 1) (v := f3_25) rfl xnm0 xnm0 (xj_geT (by omega) (by omega))) ?_
                  refine xg_t (xg_blq rfl) ?_
                  refine xg_t (xg_const) ?_
                  refine xg_t (xg_blq rfl) ?_
                  obtain ⟨g60_130, h60_131, hb132⟩ := (xqc60 hI51 : cpK 2 0 36 32 1 (wget w50 60))
                  have h60_131 : xRk 2 0 w50 60 36 32 g60_130 := h60_131
                  refine xg_bastZ (n := (ro * 6) + co) (u := 0) (h60_131.but hb115 (by decide)) xnm0 xnm0 rfl (by omega) (by omega) (fun w133 hr134 hb135 => ?_)
                  refine xg_t (xg_iinc (u := co) (z := co + 1) (l1 := [(4, (0, (ro * 6) + co)), (0, (2, 58)), (1, (2, 3)), (2, (0, ro))]) rfl rfl (by omega) rfl) ?_
                  refine xg_t (xg_goto) ?_
                  refine xg_t (xg_drop (l1 := [(0, (2, 58)), (1, (2, 3)), (2, (0, ro)), (3, (0, co + 1))]) (List.forall_mem_cons.mpr ⟨List.mem_cons_of_mem _ (List.mem_cons_of_mem _ (List.mem_cons_self)), List.forall_mem_cons.mpr ⟨List.mem_cons_of_mem _ (List.mem_cons_of_mem _ (List.mem_cons_of_mem _ (List.mem_cons_self))), List.forall_mem_cons.mpr ⟨List.mem_cons_of_mem _ (List.mem_cons_of_mem _ (List.mem_cons_of_mem _ (List.mem_cons_of_mem _ (List.mem_cons_self)))), List.forall_mem_cons.mpr ⟨List.mem_cons_self, fun _ h => absurd h List.not_mem_nil⟩⟩⟩⟩)) ?_
                  exact ih48 (co + 1) w133 (by omega) (by omega) (xInv.up (S := [59, 60]) hI51 ((xFr.of (S := [59, 60]) hb115 (by decide)).tr (xFr.of (S := [59, 60]) hb135 (by decide))) (List.forall_mem_cons.mpr ⟨xqu59 (show cpK 2 0 36 31 1 (wget w133 59) from ⟨_, (hr114.but hb135 (by decide)), xrb (by omega) (hb112)⟩), List.forall_mem_cons.mpr ⟨xqu60 (show cpK 2 0 36 32 1 (wget w133 60) from ⟨_, hr134, xrb (by omega) (hb132)⟩), fun _ h => absurd h List.not_mem_nil⟩⟩)) ((hF52.tr ((xFr.of (S := [59, 60]) hb115 (by decide)).tr (xFr.of (S := [59, 60]) hb135 (by decide)))))
            · refine xg_t (xg_icT (u := co) (v := 6) rfl xnm0 xnm0 (xj_geT (by omega) (by omega))) ?_
              refine xg_t (xg_blq rfl) ?_
              refine xg_t (xg_iinc (u := ro) (z := ro + 1) (l1 := [(0, (2, 58)), (1, (2, 3)), (3, (0, co))]) rfl rfl (by omega) rfl) ?_
              refine xg_t (xg_goto) ?_
              refine xg_t (xg_drop (l1 := [(0, (2, 58)), (1, (2, 3)), (2, (0, ro + 1))]) (List.forall_mem_cons.mpr ⟨List.mem_cons_of_mem _ (List.mem_cons_self), List.forall_mem_cons.mpr ⟨List.mem_cons_of_mem _ (List.mem_cons_of_mem _ (List.mem_cons_self)), List.forall_mem_cons.mpr ⟨List.mem_cons_self, fun _ h => absurd h List.not_mem_nil⟩⟩⟩)) ?_
              exact ih39 (ro + 1) w50 (by omega) (by omega) (hI51) (hF52)
        exact key47 _ 0 w41 (Nat.lt_succ_self _) (by omega) (hI42) (hF43)
      · refine xg_t (xg_icT (u := ro) (v := 6) rfl xnm0 xnm0 (xj_geT (by omega) (by omega))) ?_
        refine xg_t (xg_blq rfl) ?_
        refine xg_t (xg_aload (va := (2, 58)) rfl rfl) ?_
        refine xg_t (xg_getf (va := (2, 1)) (hF43.get (by decide) h58_7) rfl) ?_
        refine xg_cVi mX9_cracksInView (vs := []) (rest := []) (cn1 := 0) (sl1 := 0) rfl (tdCracksInView (hI42)) rfl (hF43.get (by decide) h1_20) rfl rfl rfl rfl rfl rfl (fun n140 w136 hq137 => ?_)
        obtain ⟨hn141, hI138, hF139⟩ := hq137
        refine xg_t (xg_istore (l1 := [(0, (2, 58)), (1, (2, 3))]) rfl rfl rfl) ?_
        refine xg_t (xg_const) ?_
        refine xg_t (xg_istore (l1 := [(2, (0, n140)), (0, (2, 58)), (1, (2, 3))]) rfl rfl rfl) ?_
        refine xg_t (xg_drop (l1 := [(0, (2, 58)), (1, (2, 3)), (2, (0, n140)), (3, (0, 0))]) (List.forall_mem_cons.mpr ⟨List.mem_cons_of_mem _ (List.mem_cons_of_mem _ (List.mem_cons_self)), List.forall_mem_cons.mpr ⟨List.mem_cons_of_mem _ (List.mem_cons_of_mem _ (List.mem_cons_of_mem _ (List.mem_cons_self))), List.forall_mem_cons.mpr ⟨List.mem_cons_of_mem _ (List.mem_cons_self), List.forall_mem_cons.mpr ⟨List.mem_cons_self, fun _ h => absurd h List.not_mem_nil⟩⟩⟩⟩)) ?_
        have key142 : ∀ (m144 : Nat) (ki : Nat) (w145 : List (List xE)), 40 - ki < m144 → ki ≤ 40 → xInv w145 → xFr [59, 60] w w145 → xTo (d + 2) mX10_layNet (114, [], [(0, (2, 58)), (1, (2, 3)), (2, (0, n140)), (3, (0, ki))], [], (w145, bd, fc, 0, 0, rr)) (fun φ => ∃ w', xEnd 0 [] (w', bd, fc, 0, 0, rr) φ ∧ xInv w' ∧ xFr [59, 60] w w') := by
          intro m144
          induction m144 with
          | zero => intro ki w145 hz; exact absurd hz (Nat.not_lt_zero _)
          | succ m144 ih143 =>
            intro ki w145 hm149 hn148 hI146 hF147
            refine xg_t (xg_blq rfl) ?_
            refine xg_t (xg_iload (va := (0, ki)) rfl rfl) ?_
            refine xg_t (xg_iload (va := (0, n140)) rfl rfl) ?_
            by_cases hc150 : ki < n140
            · refine xg_t (xg_icF (u := ki) (v := n140) rfl xnm0 xnm0 (xj_geF hc150 (by omega))) ?_
              refine xg_t (xg_aload (va := (2, 58)) rfl rfl) ?_
              refine xg_t (xg_getf (va := (2, 1)) (hF147.get (by decide) h58_7) rfl) ?_
              refine xg_t (xg_getf (va := (2, 14)) (hF147.get (by decide) h1_20) rfl) ?_
              refine xg_t (xg_iload (va := (0, ki)) rfl rfl) ?_
              refine xg_t (xg_const) ?_
              refine xg_k (xg_cVr mX5_get (vs := [(0, ki), (0, 1)]) (rest := []) (rs := [(0, if ki < f14_32 ∧ 1 < 5 then g15_35 (ki * 5 + 1) else 4294967295)]) (cn1 := 0) (sl1 := 0) rfl (rget_ok (lim := 40) (wd := 5) (sz := f14_32) (hF147.get (by decide) h14_34) (h15_36.fr hF147 (by decide)) (by decide) (by omega) (by decide) (by decide) (by omega) (by omega)) rfl (hF147.get (by decide) h14_34) rfl rfl rfl rfl rfl rfl rfl) (xiteb (hb37)) (fun z151 hz152 => ?_)
              refine xg_t (xg_bip) ?_
              refine xg_k (xg_imul (u := z151) (v := 6) (z := (z151 * 6) % 4294967296) xnm0 xnm0 rfl) (Nat.mod_lt _ (by decide)) (fun z153 hz154 => ?_)
              refine xg_t (xg_aload (va := (2, 58)) rfl rfl) ?_
              refine xg_t (xg_getf (va := (2, 1)) (hF147.get (by decide) h58_7) rfl) ?_
              refine xg_t (xg_getf (va := (2, 14)) (hF147.get (by decide) h1_20) rfl) ?_
              refine xg_t (xg_iload (va := (0, ki)) rfl rfl) ?_
              refine xg_t (xg_const) ?_
              refine xg_k (xg_cVr mX5_get (vs := [(0, ki), (0, 2)]) (rest := [(0, z153)]) (rs := [(0, if ki < f14_32 ∧ 2 < 5 then g15_35 (ki * 5 + 2) else 4294967295), (0, z153)]) (cn1 := 0) (sl1 := 0) rfl (rget_ok (lim := 40) (wd := 5) (sz := f14_32) (hF147.get (by decide) h14_34) (h15_36.fr hF147 (by decide)) (by decide) (by omega) (by decide) (by decide) (by omega) (by omega)) rfl (hF147.get (by decide) h14_34) rfl rfl rfl rfl rfl rfl rfl) (xiteb (hb37)) (fun z155 hz156 => ?_)
              refine xg_k (xg_iadd (u := z153) (v := z155) (z := (z153 + z155) % 4294967296) xnm0 xnm0 rfl) (Nat.mod_lt _ (by decide)) (fun z157 hz158 => ?_)
              refine xg_t (xg_istore (l1 := [(0, (2, 58)), (1, (2, 3)), (2, (0, n140)), (3, (0, ki))]) rfl rfl rfl) ?_
              refine xg_t (xg_iload (va := (0, z157)) rfl rfl) ?_
              refine xg_t (xg_const) ?_
              refine xg_t (xg_bip) ?_
              refine xg_t (xg_cNr mX11_isIn (vs := [(0, z157), (0, 0), (0, 35)]) (rest := []) (rs := [(0, if 0 ≤ z157 ∧ z157 ≤ 35 then 1 else 0)]) (cn1 := 0) (sl1 := 0) rfl (isIn_ok (by omega) (by omega) (by omega)) rfl rfl rfl rfl rfl rfl rfl rfl) ?_
              by_cases hc159 : 0 ≤ z157 ∧ z157 ≤ 35
              · refine xg_t (xg_ifT (u := (if 0 ≤ z157 ∧ z157 ≤ 35 then 1 else 0)) rfl xnm0 (xj_neT (xite1 hc159))) ?_
                refine xg_t (xg_blq rfl) ?_
                refine xg_t (xg_aload (va := (2, 58)) rfl rfl) ?_
                refine xg_t (xg_getf (va := (2, 1)) (hF147.get (by decide) h58_7) rfl) ?_
                refine xg_t (xg_getf (va := (2, 14)) (hF147.get (by decide) h1_20) rfl) ?_
                refine xg_t (xg_iload (va := (0, ki)) rfl rfl) ?_
                refine xg_t (xg_const) ?_
                refine xg_k (xg_cVr mX5_get (vs := [(0, ki), (0, 0)]) (rest := []) (rs := [(0, if ki < f14_32 ∧ 0 < 5 then g15_35 (ki * 5 + 0) else 4294967295)]) (cn1 := 0) (sl1 := 0) rfl (rget_ok (lim := 40) (wd := 5) (sz := f14_32) (hF147.get (by decide) h14_34) (h15_36.fr hF147 (by decide)) (by decide) (by omega) (by decide) (by decide) (by omega) (by omega)) rfl (hF147.get (by decide) h14_34) rfl rfl rfl rfl rfl rfl rfl) (xiteb (hb37)) (fun z160 hz161 => ?_)
                refine xg_t (xg_const) ?_
                by_cases hc162 : z160 = 1
                · refine xg_t (xg_icF (u := z160) (v := 1) rfl xnm0 xnm0 (xj_neF hc162)) ?_
                  refine xg_t (xg_aload (va := (2, 58)) rfl rfl) ?_
                  refine xg_t (xg_getf (va := (2, 60)) (hF147.get (by decide) h58_7) rfl) ?_
                  refine xg_t (xg_iload (va := (0, z157)) rfl rfl) ?_
                  refine xg_t (xg_const) ?_
                  obtain ⟨g60_163, h60_164, hb165⟩ := (xqc60 hI146 : cpK 2 0 36 32 1 (wget w145 60))
                  have h60_164 : xRk 2 0 w145 60 36 32 g60_163 := h60_164
                  refine xg_bastZ (n := z157) (u := 0) h60_164 xnm0 xnm0 rfl (by omega) (by omega) (fun w166 hr167 hb168 => ?_)
                  refine xg_t (xg_goto) ?_
                  refine xg_t (xg_blq rfl) ?_
                  refine xg_t (xg_iinc (u := ki) (z := ki + 1) (l1 := [(4, (0, z157)), (0, (2, 58)), (1, (2, 3)), (2, (0, n140))]) rfl rfl (by omega) rfl) ?_
                  refine xg_t (xg_goto) ?_
                  refine xg_t (xg_drop (l1 := [(0, (2, 58)), (1, (2, 3)), (2, (0, n140)), (3, (0, ki + 1))]) (List.forall_mem_cons.mpr ⟨List.mem_cons_of_mem _ (List.mem_cons_of_mem _ (List.mem_cons_self)), List.forall_mem_cons.mpr ⟨List.mem_cons_of_mem _ (List.mem_cons_of_mem _ (List.mem_cons_of_mem _ (List.mem_cons_self))), List.forall_mem_cons.mpr ⟨List.mem_cons_of_mem _ (List.mem_cons_of_mem _ (List.mem_cons_of_mem _ (List.mem_cons_of_mem _ (List.mem_cons_self)))), List.forall_mem_cons.mpr ⟨List.mem_cons_self, fun _ h => absurd h List.not_mem_nil⟩⟩⟩⟩)) ?_
                  exact ih143 (ki + 1) w166 (by omega) (by omega) (xInv.up (S := [60]) hI146 (xFr.of (S := [60]) hb168 (by decide)) (List.forall_mem_cons.mpr ⟨xqu60 (show cpK 2 0 36 32 1 (wget w166 60) from ⟨_, hr167, xrb (by omega) (hb165)⟩), fun _ h => absurd h List.not_mem_nil⟩)) ((hF147.tr (xFr.of (S := [59, 60]) hb168 (by decide))))
                · refine xg_t (xg_icT (u := z160) (v := 1) rfl xnm0 xnm0 (xj_neT hc162)) ?_
                  refine xg_t (xg_blq rfl) ?_
                  refine xg_t (xg_aload (va := (2, 58)) rfl rfl) ?_
                  refine xg_t (xg_getf (va := (2, 59)) (hF147.get (by decide) h58_7) rfl) ?_
                  refine xg_t (xg_iload (va := (0, z157)) rfl rfl) ?_
                  refine xg_t (xg_const) ?_
                  obtain ⟨g59_169, h59_170, hb171⟩ := (xqc59 hI146 : cpK 2 0 36 31 1 (wget w145 59))
                  have h59_170 : xRk 2 0 w145 59 36 31 g59_169 := h59_170
                  refine xg_bastZ (n := z157) (u := 0) h59_170 xnm0 xnm0 rfl (by omega) (by omega) (fun w172 hr173 hb174 => ?_)
                  refine xg_t (xg_blq rfl) ?_
                  refine xg_t (xg_iinc (u := ki) (z := ki + 1) (l1 := [(4, (0, z157)), (0, (2, 58)), (1, (2, 3)), (2, (0, n140))]) rfl rfl (by omega) rfl) ?_
                  refine xg_t (xg_goto) ?_
                  refine xg_t (xg_drop (l1 := [(0, (2, 58)), (1, (2, 3)), (2, (0, n140)), (3, (0, ki + 1))]) (List.forall_mem_cons.mpr ⟨List.mem_cons_of_mem _ (List.mem_cons_of_mem _ (List.mem_cons_self)), List.forall_mem_cons.mpr ⟨List.mem_cons_of_mem _ (List.mem_cons_of_mem _ (List.mem_cons_of_mem _ (List.mem_cons_self))), List.forall_mem_cons.mpr ⟨List.mem_cons_of_mem _ (List.mem_cons_of_mem _ (List.mem_cons_of_mem _ (List.mem_cons_of_mem _ (List.mem_cons_self)))), List.forall_mem_cons.mpr ⟨List.mem_cons_self, fun _ h => absurd h List.not_mem_nil⟩⟩⟩⟩)) ?_
                  exact ih143 (ki + 1) w172 (by omega) (by omega) (xInv.up (S := [59]) hI146 (xFr.of (S := [59]) hb174 (by decide)) (List.forall_mem_cons.mpr ⟨xqu59 (show cpK 2 0 36 31 1 (wget w172 59) from ⟨_, hr173, xrb (by omega) (hb171)⟩), fun _ h => absurd h List.not_mem_nil⟩)) ((hF147.tr (xFr.of (S := [59, 60]) hb174 (by decide))))
              · refine xg_t (xg_ifF (u := (if 0 ≤ z157 ∧ z157 ≤ 35 then 1 else 0)) rfl xnm0 (xj_neF (xite0 hc159))) ?_
                refine xg_t (xg_goto) ?_
                refine xg_t (xg_blq rfl) ?_
                refine xg_t (xg_iinc (u := ki) (z := ki + 1) (l1 := [(4, (0, z157)), (0, (2, 58)), (1, (2, 3)), (2, (0, n140))]) rfl rfl (by omega) rfl) ?_
                refine xg_t (xg_goto) ?_
                refine xg_t (xg_drop (l1 := [(0, (2, 58)), (1, (2, 3)), (2, (0, n140)), (3, (0, ki + 1))]) (List.forall_mem_cons.mpr ⟨List.mem_cons_of_mem _ (List.mem_cons_of_mem _ (List.mem_cons_self)), List.forall_mem_cons.mpr ⟨List.mem_cons_of_mem _ (List.mem_cons_of_mem _ (List.mem_cons_of_mem _ (List.mem_cons_self))), List.forall_mem_cons.mpr ⟨List.mem_cons_of_mem _ (List.mem_cons_of_mem _ (List.mem_cons_of_mem _ (List.mem_cons_of_mem _ (List.mem_cons_self)))), List.forall_mem_cons.mpr ⟨List.mem_cons_self, fun _ h => absurd h List.not_mem_nil⟩⟩⟩⟩)) ?_
                exact ih143 (ki + 1) w145 (by omega) (by omega) (hI146) (hF147)
            · refine xg_t (xg_icT (u := ki) (v := n140) rfl xnm0 xnm0 (xj_geT (by omega) (by omega))) ?_
              refine xg_t (xg_blq rfl) ?_
              exact xg_e ⟨w145, ⟨rfl, rfl⟩, hI146, hF147⟩
        exact key142 _ 0 w136 (Nat.lt_succ_self _) (by omega) (hI138) ((hF43.tr (hF139.up (by decide))))
  exact key38 _ 0 w (Nat.lt_succ_self _) (by omega) (hI) (xFr.rf)
theorem wyRefresh (hI : xInv w)  : xPq (d + 4) mX10_refresh [(2, 58)] w bd fc rr [] (fun w' => xInv w' ∧ xFr [58, 59, 60, 61, 62, 63, 64, 65, 66, 67] w w') := by
  refine xPq.of ?_
  show xTo (d + 4) mX10_refresh (0, [], [(0, (2, 58))], [], (w, bd, fc, 0, 0, rr)) (fun φ => ∃ w', xEnd 0 [] (w', bd, fc, 0, 0, rr) φ ∧ xInv w' ∧ xFr [58, 59, 60, 61, 62, 63, 64, 65, 66, 67] w w')
  refine xg_t (xg_blq rfl) ?_
  refine xg_t (xg_aload (va := (2, 58)) rfl rfl) ?_
  refine xoC58 (xqc58 hI : cp58 (wget w 58)) (fun f58_1 f58_3 f58_5 h58_7 hb2 hb4 hb6 => ?_)
  refine xg_t (xg_getf (va := (0, f58_5)) h58_7 rfl) ?_
  by_cases hc8 : f58_5 = 0
  · refine xg_t (xg_ifF (u := f58_5) rfl xnm0 (xj_neF hc8)) ?_
    refine xg_t (xg_aload (va := (2, 58)) rfl rfl) ?_
    refine xg_cVv mX10_layNet (vs := []) (rest := []) (cn1 := 0) (sl1 := 0) rfl (wyLayNet (hI)) rfl h58_7 rfl rfl rfl rfl rfl rfl (fun w9 hq10 => ?_)
    obtain ⟨hI11, hF12⟩ := hq10
    refine xg_t (xg_aload (va := (2, 58)) rfl rfl) ?_
    refine xg_cVv mX10_findWays (vs := []) (rest := []) (cn1 := 0) (sl1 := 0) rfl (wyFindWays (hI11)) rfl (hF12.get (by decide) h58_7) rfl rfl rfl rfl rfl rfl (fun w13 hq14 => ?_)
    obtain ⟨hI15, hF16⟩ := hq14
    refine xg_t (xg_aload (va := (2, 58)) rfl rfl) ?_
    refine xg_t (xg_const) ?_
    refine xoC58 (xqc58 hI15 : cp58 (wget w13 58)) (fun f58_17 f58_19 f58_21 h58_23 hb18 hb20 hb22 => ?_)
    refine xg_putZ (fl1 := [(2, 1), (2, 59), (2, 60), (2, 61), (2, 62), (2, 63), (2, 64), (2, 65), (2, 66), (2, 67), (0, f58_17), (0, f58_19), (0, 1)]) h58_23 rfl rfl rfl (fun w24 hk25 hb26 => ?_)
    refine xg_t (xg_blq rfl) ?_
    exact xg_e ⟨w24, ⟨rfl, rfl⟩, xInv.up (S := [58]) hI15 (xFr.of (S := [58]) hb26 (by decide)) (List.forall_mem_cons.mpr ⟨xqu58 (show cp58 (wget w24 58) from xmC58 f58_17 f58_19 1 hk25 hb18 hb20 (by decide)), fun _ h => absurd h List.not_mem_nil⟩), (((hF12.up (by decide)).tr (hF16.up (by decide))).tr (xFr.of (S := [58, 59, 60, 61, 62, 63, 64, 65, 66, 67]) hb26 (by decide)))⟩
  · refine xg_t (xg_ifT (u := f58_5) rfl xnm0 (xj_neT hc8)) ?_
    refine xg_t (xg_blq rfl) ?_
    exact xg_e ⟨w, ⟨rfl, rfl⟩, hI, xFr.rf⟩
theorem wyCuts {so ro co : Nat} (hI : xInv w) (h1 : so ≤ 4294967295) (h2 : ro ≤ 5) (h3 : co ≤ 6) : xPi (d + 1) mX10_cuts [(2, 58), (0, so), (0, ro), (0, co)] w bd fc rr (fun n w' => (n ≤ 1) ∧ xInv w' ∧ xFr [] w w') := by
  refine xPi.of ?_
  show xTo (d + 1) mX10_cuts (0, [], [(0, (2, 58)), (1, (0, so)), (2, (0, ro)), (3, (0, co))], [], (w, bd, fc, 0, 0, rr)) (fun φ => ∃ n w', xEnd 4 [(0, n)] (w', bd, fc, 0, 0, rr) φ ∧ (n ≤ 1) ∧ xInv w' ∧ xFr [] w w')
  refine xoC58 (xqc58 hI : cp58 (wget w 58)) (fun f58_1 f58_3 f58_5 h58_7 hb2 hb4 hb6 => ?_)
  refine xoC1 (xqc1 hI : cp1 (wget w 1)) (fun f1_8 f1_10 f1_12 f1_14 f1_16 f1_18 h1_20 hb9 hb11 hb13 hb15 hb17 hb19 => ?_)
  refine xoC3 (xqc3 hI : cp3 (wget w 3)) (fun f3_21 f3_23 f3_25 f3_27 f3_29 h3_31 hb22 hb24 hb26 hb28 hb30 => ?_)
  refine xg_t (xg_blq rfl) ?_
  refine xg_t (xg_iload (va := (0, ro)) rfl rfl) ?_
  refine xg_t (xg_bip) ?_
  refine xg_t (xg_imul (u := ro) (v := 6) (z := ro * 6) xnm0 xnm0 (by omega)) ?_
  refine xg_t (xg_iload (va := (0, co)) rfl rfl) ?_
  refine xg_t (xg_iadd (u := ro * 6) (v := co) (z := (ro * 6) + co) xnm0 xnm0 (by omega)) ?_
  refine xg_t (xg_istore (l1 := [(0, (2, 58)), (1, (0, so)), (2, (0, ro)), (3, (0, co))]) rfl rfl rfl) ?_
  refine xg_t (xg_iload (va := (0, (ro * 6) + co)) rfl rfl) ?_
  refine xg_t (xg_const) ?_
  refine xg_t (xg_bip) ?_
  refine xg_t (xg_cNr mX11_isIn (vs := [(0, (ro * 6) + co), (0, 0), (0, 35)]) (rest := []) (rs := [(0, if 0 ≤ (ro * 6) + co ∧ (ro * 6) + co ≤ 35 then 1 else 0)]) (cn1 := 0) (sl1 := 0) rfl (isIn_ok (by omega) (by omega) (by omega)) rfl rfl rfl rfl rfl rfl rfl rfl) ?_
  by_cases hc32 : 0 ≤ (ro * 6) + co ∧ (ro * 6) + co ≤ 35
  · refine xg_t (xg_ifT (u := (if 0 ≤ (ro * 6) + co ∧ (ro * 6) + co ≤ 35 then 1 else 0)) rfl xnm0 (xj_neT (xite1 hc32))) ?_
    refine xg_t (xg_blq rfl) ?_
    refine xg_t (xg_iload (va := (0, so)) rfl rfl) ?_
    by_cases hc33 : so = 0
    · refine xg_t (xg_swt (ks := [(0, 48), (1, 84), (2, 118)]) (u := so) (z := 48) rfl rfl rfl xnm0 (xsw_y hc33)) ?_
      refine xg_t (xg_blq rfl) ?_
      refine xg_t (xg_aload (va := (2, 58)) rfl rfl) ?_
      refine xg_t (xg_getf (va := (2, 59)) h58_7 rfl) ?_
      refine xg_t (xg_iload (va := (0, (ro * 6) + co)) rfl rfl) ?_
      obtain ⟨g59_34, h59_35, hb36⟩ := (xqc59 hI : cpK 2 0 36 31 1 (wget w 59))
      have h59_35 : xRk 2 0 w 59 36 31 g59_34 := h59_35
      refine xg_baldB (n := (ro * 6) + co) (B := 1) h59_35 rfl (hb36) xnm0 (by omega) (fun u37 hu38 he39 => ?_)
      by_cases hc40 : u37 = 0
      · refine xg_t (xg_ifT (u := u37) rfl xnm0 (xj_eqT hc40)) ?_
        refine xg_t (xg_blq rfl) ?_
        refine xg_t (xg_const) ?_
        refine xg_t (xg_blq rfl) ?_
        exact xg_e ⟨0, w, ⟨rfl, rfl⟩, by first | decide | omega, hI, xFr.rf⟩
      · refine xg_t (xg_ifF (u := u37) rfl xnm0 (xj_eqF hc40)) ?_
        refine xg_t (xg_aload (va := (2, 58)) rfl rfl) ?_
        refine xg_t (xg_iload (va := (0, (ro * 6) + co)) rfl rfl) ?_
        refine xg_cVi mX10_isReached (vs := [(0, (ro * 6) + co)]) (rest := []) (cn1 := 0) (sl1 := 0) rfl (wyIsReached (hI) (by omega)) rfl h58_7 rfl rfl rfl rfl rfl rfl (fun n45 w41 hq42 => ?_)
        obtain ⟨hn46, hI43, hF44⟩ := hq42
        by_cases hc47 : n45 = 0
        · refine xg_t (xg_ifT (u := n45) rfl xnm0 (xj_eqT hc47)) ?_
          refine xg_t (xg_blq rfl) ?_
          refine xg_t (xg_const) ?_
          refine xg_t (xg_blq rfl) ?_
          exact xg_e ⟨0, w41, ⟨rfl, rfl⟩, by first | decide | omega, hI43, (hF44.up (by decide))⟩
        · refine xg_t (xg_ifF (u := n45) rfl xnm0 (xj_eqF hc47)) ?_
          refine xg_t (xg_aload (va := (2, 58)) rfl rfl) ?_
          refine xg_t (xg_iload (va := (0, (ro * 6) + co)) rfl rfl) ?_
          refine xg_t (xg_const) ?_
          refine xg_t (xg_iadd (u := (ro * 6) + co) (v := 1) (z := ((ro * 6) + co) + 1) xnm0 xnm0 (by omega)) ?_
          refine xg_cVi mX10_isReached (vs := [(0, ((ro * 6) + co) + 1)]) (rest := []) (cn1 := 0) (sl1 := 0) rfl (wyIsReached (hI43) (by omega)) rfl (hF44.get (by decide) h58_7) rfl rfl rfl rfl rfl rfl (fun n52 w48 hq49 => ?_)
          obtain ⟨hn53, hI50, hF51⟩ := hq49
          by_cases hc54 : n52 = 0
          · refine xg_t (xg_ifF (u := n52) rfl xnm0 (xj_neF hc54)) ?_
            refine xg_t (xg_const) ?_
            refine xg_t (xg_goto) ?_
            refine xg_t (xg_blq rfl) ?_
            exact xg_e ⟨1, w48, ⟨rfl, rfl⟩, by first | decide | omega, hI50, ((hF44.up (by decide)).tr (hF51.up (by decide)))⟩
          · refine xg_t (xg_ifT (u := n52) rfl xnm0 (xj_neT hc54)) ?_
            refine xg_t (xg_blq rfl) ?_
            refine xg_t (xg_const) ?_
            refine xg_t (xg_blq rfl) ?_
            exact xg_e ⟨0, w48, ⟨rfl, rfl⟩, by first | decide | omega, hI50, ((hF44.up (by decide)).tr (hF51.up (by decide)))⟩
    · by_cases hc55 : so = 1
      · refine xg_t (xg_swt (ks := [(0, 48), (1, 84), (2, 118)]) (u := so) (z := 84) rfl rfl rfl xnm0 (xsw_n hc33 (xsw_y hc55))) ?_
        refine xg_t (xg_blq rfl) ?_
        refine xg_t (xg_aload (va := (2, 58)) rfl rfl) ?_
        refine xg_t (xg_getf (va := (2, 60)) h58_7 rfl) ?_
        refine xg_t (xg_iload (va := (0, (ro * 6) + co)) rfl rfl) ?_
        obtain ⟨g60_56, h60_57, hb58⟩ := (xqc60 hI : cpK 2 0 36 32 1 (wget w 60))
        have h60_57 : xRk 2 0 w 60 36 32 g60_56 := h60_57
        refine xg_baldB (n := (ro * 6) + co) (B := 1) h60_57 rfl (hb58) xnm0 (by omega) (fun u59 hu60 he61 => ?_)
        by_cases hc62 : u59 = 0
        · refine xg_t (xg_ifT (u := u59) rfl xnm0 (xj_eqT hc62)) ?_
          refine xg_t (xg_blq rfl) ?_
          refine xg_t (xg_const) ?_
          refine xg_t (xg_blq rfl) ?_
          exact xg_e ⟨0, w, ⟨rfl, rfl⟩, by first | decide | omega, hI, xFr.rf⟩
        · refine xg_t (xg_ifF (u := u59) rfl xnm0 (xj_eqF hc62)) ?_
          refine xg_t (xg_aload (va := (2, 58)) rfl rfl) ?_
          refine xg_t (xg_iload (va := (0, (ro * 6) + co)) rfl rfl) ?_
          refine xg_cVi mX10_isReached (vs := [(0, (ro * 6) + co)]) (rest := []) (cn1 := 0) (sl1 := 0) rfl (wyIsReached (hI) (by omega)) rfl h58_7 rfl rfl rfl rfl rfl rfl (fun n67 w63 hq64 => ?_)
          obtain ⟨hn68, hI65, hF66⟩ := hq64
          refine xg_t (xg_aload (va := (2, 58)) rfl rfl) ?_
          refine xg_t (xg_iload (va := (0, (ro * 6) + co)) rfl rfl) ?_
          refine xg_t (xg_bip) ?_
          refine xg_t (xg_iadd (u := (ro * 6) + co) (v := 6) (z := ((ro * 6) + co) + 6) xnm0 xnm0 (by omega)) ?_
          refine xg_cVi mX10_isReached (vs := [(0, ((ro * 6) + co) + 6)]) (rest := [(0, n67)]) (cn1 := 0) (sl1 := 0) rfl (wyIsReached (hI65) (by omega)) rfl (hF66.get (by decide) h58_7) rfl rfl rfl rfl rfl rfl (fun n73 w69 hq70 => ?_)
          obtain ⟨hn74, hI71, hF72⟩ := hq70
          by_cases hc75 : n67 = n73
          · refine xg_t (xg_icT (u := n67) (v := n73) rfl xnm0 xnm0 (xj_eqT hc75)) ?_
            refine xg_t (xg_blq rfl) ?_
            refine xg_t (xg_const) ?_
            refine xg_t (xg_blq rfl) ?_
            exact xg_e ⟨0, w69, ⟨rfl, rfl⟩, by first | decide | omega, hI71, ((hF66.up (by decide)).tr (hF72.up (by decide)))⟩
          · refine xg_t (xg_icF (u := n67) (v := n73) rfl xnm0 xnm0 (xj_eqF hc75)) ?_
            refine xg_t (xg_const) ?_
            refine xg_t (xg_goto) ?_
            refine xg_t (xg_blq rfl) ?_
            exact xg_e ⟨1, w69, ⟨rfl, rfl⟩, by first | decide | omega, hI71, ((hF66.up (by decide)).tr (hF72.up (by decide)))⟩
      · by_cases hc76 : so = 2
        · refine xg_t (xg_swt (ks := [(0, 48), (1, 84), (2, 118)]) (u := so) (z := 118) rfl rfl rfl xnm0 (xsw_n hc33 (xsw_n hc55 (xsw_y hc76)))) ?_
          refine xg_t (xg_blq rfl) ?_
          refine xg_t (xg_aload (va := (2, 58)) rfl rfl) ?_
          refine xg_t (xg_iload (va := (0, ro)) rfl rfl) ?_
          refine xg_t (xg_bip) ?_
          refine xg_t (xg_imul (u := ro) (v := 6) (z := ro * 6) xnm0 xnm0 (by omega)) ?_
          refine xg_cVi mX10_isReached (vs := [(0, ro * 6)]) (rest := []) (cn1 := 0) (sl1 := 0) rfl (wyIsReached (hI) (by omega)) rfl h58_7 rfl rfl rfl rfl rfl rfl (fun n81 w77 hq78 => ?_)
          obtain ⟨hn82, hI79, hF80⟩ := hq78
          by_cases hc83 : n81 = 0
          · refine xg_t (xg_ifF (u := n81) rfl xnm0 (xj_neF hc83)) ?_
            refine xg_t (xg_const) ?_
            refine xg_t (xg_goto) ?_
            refine xg_t (xg_blq rfl) ?_
            exact xg_e ⟨1, w77, ⟨rfl, rfl⟩, by first | decide | omega, hI79, (hF80.up (by decide))⟩
          · refine xg_t (xg_ifT (u := n81) rfl xnm0 (xj_neT hc83)) ?_
            refine xg_t (xg_blq rfl) ?_
            refine xg_t (xg_const) ?_
            refine xg_t (xg_blq rfl) ?_
            exact xg_e ⟨0, w77, ⟨rfl, rfl⟩, by first | decide | omega, hI79, (hF80.up (by decide))⟩
        · refine xg_t (xg_swt (ks := [(0, 48), (1, 84), (2, 118)]) (u := so) (z := 135) rfl rfl rfl xnm0 (xsw_n hc33 (xsw_n hc55 (xsw_n hc76 (xsw_d))))) ?_
          refine xg_t (xg_blq rfl) ?_
          refine xg_t (xg_aload (va := (2, 58)) rfl rfl) ?_
          refine xg_t (xg_iload (va := (0, ro)) rfl rfl) ?_
          refine xg_t (xg_bip) ?_
          refine xg_t (xg_imul (u := ro) (v := 6) (z := ro * 6) xnm0 xnm0 (by omega)) ?_
          refine xg_t (xg_aload (va := (2, 58)) rfl rfl) ?_
          refine xg_t (xg_getf (va := (2, 1)) h58_7 rfl) ?_
          refine xg_t (xg_getf (va := (2, 3)) h1_20 rfl) ?_
          refine xg_t (xg_getf (va := (0, f3_27)) h3_31 rfl) ?_
          refine xg_t (xg_iadd (u := ro * 6) (v := f3_27) (z := (ro * 6) + f3_27) xnm0 xnm0 (by omega)) ?_
          refine xg_t (xg_const) ?_
          refine xg_k (xg_isub (u := (ro * 6) + f3_27) (v := 1) (z := (((ro * 6) + f3_27) + (4294967296 - 1)) % 4294967296) xnm0 xnm0 rfl) (Nat.mod_lt _ (by decide)) (fun z84 hz85 => ?_)
          refine xg_cVi mX10_isReached (vs := [(0, z84)]) (rest := []) (cn1 := 0) (sl1 := 0) rfl (wyIsReached (hI) (by omega)) rfl h58_7 rfl rfl rfl rfl rfl rfl (fun n90 w86 hq87 => ?_)
          obtain ⟨hn91, hI88, hF89⟩ := hq87
          exact xg_e ⟨n90, w86, ⟨xret_b (by omega), rfl⟩, by omega, hI88, (hF89.up (by decide))⟩
  · refine xg_t (xg_ifF (u := (if 0 ≤ (ro * 6) + co ∧ (ro * 6) + co ≤ 35 then 1 else 0)) rfl xnm0 (xj_neF (xite0 hc32))) ?_
    refine xg_t (xg_const) ?_
    exact xg_e ⟨0, w, ⟨rfl, rfl⟩, by first | decide | omega, hI, xFr.rf⟩
theorem wyCountCut {so : Nat} (hI : xInv w) (h1 : so ≤ 4294967295) : xPi (d + 2) mX10_countCut [(2, 58), (0, so)] w bd fc rr (fun n w' => (n ≤ 4294967295) ∧ xInv w' ∧ xFr [] w w') := by
  refine xPi.of ?_
  show xTo (d + 2) mX10_countCut (0, [], [(0, (2, 58)), (1, (0, so))], [], (w, bd, fc, 0, 0, rr)) (fun φ => ∃ n w', xEnd 1 [(0, n)] (w', bd, fc, 0, 0, rr) φ ∧ (n ≤ 4294967295) ∧ xInv w' ∧ xFr [] w w')
  refine xoC58 (xqc58 hI : cp58 (wget w 58)) (fun f58_1 f58_3 f58_5 h58_7 hb2 hb4 hb6 => ?_)
  refine xoC1 (xqc1 hI : cp1 (wget w 1)) (fun f1_8 f1_10 f1_12 f1_14 f1_16 f1_18 h1_20 hb9 hb11 hb13 hb15 hb17 hb19 => ?_)
  refine xoC3 (xqc3 hI : cp3 (wget w 3)) (fun f3_21 f3_23 f3_25 f3_27 f3_29 h3_31 hb22 hb24 hb26 hb28 hb30 => ?_)
  refine xg_t (xg_blq rfl) ?_
  refine xg_t (xg_const) ?_
  refine xg_t (xg_istore (l1 := [(0, (2, 58)), (1, (0, so))]) rfl rfl rfl) ?_
  refine xg_t (xg_iload (va := (0, so)) rfl rfl) ?_
  by_cases hc32 : so = 0
  · refine xg_t (xg_ifT (u := so) rfl xnm0 (xj_eqT hc32)) ?_
    refine xg_t (xg_blq rfl) ?_
    refine xg_t (xg_aload (va := (2, 58)) rfl rfl) ?_
    refine xg_t (xg_getf (va := (2, 1)) h58_7 rfl) ?_
    refine xg_t (xg_getf (va := (2, 3)) h1_20 rfl) ?_
    refine xg_t (xg_getf (va := (0, f3_27)) h3_31 rfl) ?_
    refine xg_t (xg_goto) ?_
    refine xg_t (xg_blq rfl) ?_
    refine xg_t (xg_istore (l1 := [(2, (0, 0)), (0, (2, 58)), (1, (0, so))]) rfl rfl rfl) ?_
    refine xg_t (xg_const) ?_
    refine xg_t (xg_istore (l1 := [(3, (0, f3_27)), (2, (0, 0)), (0, (2, 58)), (1, (0, so))]) rfl rfl rfl) ?_
    refine xg_t (xg_drop (l1 := [(0, (2, 58)), (1, (0, so)), (2, (0, 0)), (3, (0, f3_27)), (4, (0, 0))]) (List.forall_mem_cons.mpr ⟨List.mem_cons_of_mem _ (List.mem_cons_of_mem _ (List.mem_cons_of_mem _ (List.mem_cons_self))), List.forall_mem_cons.mpr ⟨List.mem_cons_of_mem _ (List.mem_cons_of_mem _ (List.mem_cons_of_mem _ (List.mem_cons_of_mem _ (List.mem_cons_self)))), List.forall_mem_cons.mpr ⟨List.mem_cons_of_mem _ (List.mem_cons_of_mem _ (List.mem_cons_self)), List.forall_mem_cons.mpr ⟨List.mem_cons_of_mem _ (List.mem_cons_self), List.forall_mem_cons.mpr ⟨List.mem_cons_self, fun _ h => absurd h List.not_mem_nil⟩⟩⟩⟩⟩)) ?_
    have key33 : ∀ (m35 : Nat) (pa ro : Nat) (w36 : List (List xE)), 6 - ro < m35 → pa ≤ 4294967295 → ro ≤ 6 → xInv w36 → xFr [] w w36 → xTo (d + 2) mX10_countCut (29, [], [(0, (2, 58)), (1, (0, so)), (2, (0, pa)), (3, (0, f3_27)), (4, (0, ro))], [], (w36, bd, fc, 0, 0, rr)) (fun φ => ∃ n w', xEnd 1 [(0, n)] (w', bd, fc, 0, 0, rr) φ ∧ (n ≤ 4294967295) ∧ xInv w' ∧ xFr [] w w') := by
      intro m35
      induction m35 with
      | zero => intro pa ro w36 hz; exact absurd hz (Nat.not_lt_zero _)
      | succ m35 ih34 =>
        intro pa ro w36 hm41 hn39 hn40 hI37 hF38
        refine xg_t (xg_blq rfl) ?_
        refine xg_t (xg_iload (va := (0, ro)) rfl rfl) ?_
        refine xg_t (xg_aload (va := (2, 58)) rfl rfl) ?_
        refine xg_t (xg_getf (va := (2, 1)) (hF38.get (by decide) h58_7) rfl) ?_
        refine xg_t (xg_getf (va := (2, 3)) (hF38.get (by decide) h1_20) rfl) ?_
        refine xg_t (xg_getf (va := (0, f3_25)) (hF38.get (by decide) h3_31) rfl) ?_
        by_cases hc42 : ro < f3_25
        · refine xg_t (xg_icF (u := ro) (v := f3_25) rfl xnm0 xnm0 (xj_geF hc42 (by omega))) ?_
          refine xg_t (xg_const) ?_
          refine xg_t (xg_istore (l1 := [(0, (2, 58)), (1, (0, so)), (2, (0, pa)), (3, (0, f3_27)), (4, (0, ro))]) rfl rfl rfl) ?_
          refine xg_t (xg_drop (l1 := [(0, (2, 58)), (1, (0, so)), (2, (0, pa)), (3, (0, f3_27)), (4, (0, ro)), (5, (0, 0))]) (List.forall_mem_cons.mpr ⟨List.mem_cons_of_mem _ (List.mem_cons_self), List.forall_mem_cons.mpr ⟨List.mem_cons_of_mem _ (List.mem_cons_of_mem _ (List.mem_cons_self)), List.forall_mem_cons.mpr ⟨List.mem_cons_of_mem _ (List.mem_cons_of_mem _ (List.mem_cons_of_mem _ (List.mem_cons_self))), List.forall_mem_cons.mpr ⟨List.mem_cons_of_mem _ (List.mem_cons_of_mem _ (List.mem_cons_of_mem _ (List.mem_cons_of_mem _ (List.mem_cons_self)))), List.forall_mem_cons.mpr ⟨List.mem_cons_of_mem _ (List.mem_cons_of_mem _ (List.mem_cons_of_mem _ (List.mem_cons_of_mem _ (List.mem_cons_of_mem _ (List.mem_cons_self))))), List.forall_mem_cons.mpr ⟨List.mem_cons_self, fun _ h => absurd h List.not_mem_nil⟩⟩⟩⟩⟩⟩)) ?_
          have key43 : ∀ (m45 : Nat) (pb co : Nat) (w46 : List (List xE)), 6 - co < m45 → pb ≤ 4294967295 → co ≤ 6 → xInv w46 → xFr [] w w46 → xTo (d + 2) mX10_countCut (47, [], [(0, (2, 58)), (1, (0, so)), (2, (0, pb)), (3, (0, f3_27)), (4, (0, ro)), (5, (0, co))], [], (w46, bd, fc, 0, 0, rr)) (fun φ => ∃ n w', xEnd 1 [(0, n)] (w', bd, fc, 0, 0, rr) φ ∧ (n ≤ 4294967295) ∧ xInv w' ∧ xFr [] w w') := by
            intro m45
            induction m45 with
            | zero => intro pb co w46 hz; exact absurd hz (Nat.not_lt_zero _)
            | succ m45 ih44 =>
              intro pb co w46 hm51 hn49 hn50 hI47 hF48
              refine xg_t (xg_blq rfl) ?_
              refine xg_t (xg_iload (va := (0, co)) rfl rfl) ?_
              refine xg_t (xg_iload (va := (0, f3_27)) rfl rfl) ?_
              by_cases hc52 : co < f3_27
              · refine xg_t (xg_icF (u := co) (v := f3_27) rfl xnm0 xnm0 (xj_geF hc52 (by omega))) ?_
                refine xg_t (xg_aload (va := (2, 58)) rfl rfl) ?_
                refine xg_t (xg_iload (va := (0, so)) rfl rfl) ?_
                refine xg_t (xg_iload (va := (0, ro)) rfl rfl) ?_
                refine xg_t (xg_iload (va := (0, co)) rfl rfl) ?_
                refine xg_cVi mX10_cuts (vs := [(0, so), (0, ro), (0, co)]) (rest := []) (cn1 := 0) (sl1 := 0) rfl (wyCuts (hI47) (by omega) (by omega) (by omega)) rfl (hF48.get (by decide) h58_7) rfl rfl rfl rfl rfl rfl (fun n57 w53 hq54 => ?_)
                obtain ⟨hn58, hI55, hF56⟩ := hq54
                by_cases hc59 : n57 = 0
                · refine xg_t (xg_ifT (u := n57) rfl xnm0 (xj_eqT hc59)) ?_
                  refine xg_t (xg_blq rfl) ?_
                  refine xg_t (xg_iinc (u := co) (z := co + 1) (l1 := [(0, (2, 58)), (1, (0, so)), (2, (0, pb)), (3, (0, f3_27)), (4, (0, ro))]) rfl rfl (by omega) rfl) ?_
                  refine xg_t (xg_goto) ?_
                  refine xg_t (xg_drop (l1 := [(0, (2, 58)), (1, (0, so)), (2, (0, pb)), (3, (0, f3_27)), (4, (0, ro)), (5, (0, co + 1))]) (List.forall_mem_cons.mpr ⟨List.mem_cons_of_mem _ (List.mem_cons_self), List.forall_mem_cons.mpr ⟨List.mem_cons_of_mem _ (List.mem_cons_of_mem _ (List.mem_cons_self)), List.forall_mem_cons.mpr ⟨List.mem_cons_of_mem _ (List.mem_cons_of_mem _ (List.mem_cons_of_mem _ (List.mem_cons_self))), List.forall_mem_cons.mpr ⟨List.mem_cons_of_mem _ (List.mem_cons_of_mem _ (List.mem_cons_of_mem _ (List.mem_cons_of_mem _ (List.mem_cons_self)))), List.forall_mem_cons.mpr ⟨List.mem_cons_of_mem _ (List.mem_cons_of_mem _ (List.mem_cons_of_mem _ (List.mem_cons_of_mem _ (List.mem_cons_of_mem _ (List.mem_cons_self))))), List.forall_mem_cons.mpr ⟨List.mem_cons_self, fun _ h => absurd h List.not_mem_nil⟩⟩⟩⟩⟩⟩)) ?_
                  exact ih44 pb (co + 1) w53 (by omega) (by omega) (by omega) (hI55) ((hF48.tr (hF56.up (by decide))))
                · refine xg_t (xg_ifF (u := n57) rfl xnm0 (xj_eqF hc59)) ?_
                  refine xg_t (xg_iinc (u := pb) (z := (pb + 1) % 4294967296) (l1 := [(0, (2, 58)), (1, (0, so)), (3, (0, f3_27)), (4, (0, ro)), (5, (0, co))]) rfl rfl (rfl) rfl) ?_
                  refine xg_t (xg_blq rfl) ?_
                  refine xg_t (xg_iinc (u := co) (z := co + 1) (l1 := [(2, (0, (pb + 1) % 4294967296)), (0, (2, 58)), (1, (0, so)), (3, (0, f3_27)), (4, (0, ro))]) rfl rfl (by omega) rfl) ?_
                  refine xg_t (xg_goto) ?_
                  refine xg_t (xg_drop (l1 := [(0, (2, 58)), (1, (0, so)), (2, (0, (pb + 1) % 4294967296)), (3, (0, f3_27)), (4, (0, ro)), (5, (0, co + 1))]) (List.forall_mem_cons.mpr ⟨List.mem_cons_of_mem _ (List.mem_cons_of_mem _ (List.mem_cons_self)), List.forall_mem_cons.mpr ⟨List.mem_cons_of_mem _ (List.mem_cons_of_mem _ (List.mem_cons_of_mem _ (List.mem_cons_self))), List.forall_mem_cons.mpr ⟨List.mem_cons_of_mem _ (List.mem_cons_self), List.forall_mem_cons.mpr ⟨List.mem_cons_of_mem _ (List.mem_cons_of_mem _ (List.mem_cons_of_mem _ (List.mem_cons_of_mem _ (List.mem_cons_self)))), List.forall_mem_cons.mpr ⟨List.mem_cons_of_mem _ (List.mem_cons_of_mem _ (List.mem_cons_of_mem _ (List.mem_cons_of_mem _ (List.mem_cons_of_mem _ (List.mem_cons_self))))), List.forall_mem_cons.mpr ⟨List.mem_cons_self, fun _ h => absurd h List.not_mem_nil⟩⟩⟩⟩⟩⟩)) ?_
                  exact ih44 ((pb + 1) % 4294967296) (co + 1) w53 (by omega) (by omega) (by omega) (hI55) ((hF48.tr (hF56.up (by decide))))
              · refine xg_t (xg_icT (u := co) (v := f3_27) rfl xnm0 xnm0 (xj_geT (by omega) (by omega))) ?_
                refine xg_t (xg_blq rfl) ?_
                refine xg_t (xg_iinc (u := ro) (z := ro + 1) (l1 := [(0, (2, 58)), (1, (0, so)), (2, (0, pb)), (3, (0, f3_27)), (5, (0, co))]) rfl rfl (by omega) rfl) ?_
                refine xg_t (xg_goto) ?_
                refine xg_t (xg_drop (l1 := [(0, (2, 58)), (1, (0, so)), (2, (0, pb)), (3, (0, f3_27)), (4, (0, ro + 1))]) (List.forall_mem_cons.mpr ⟨List.mem_cons_of_mem _ (List.mem_cons_self), List.forall_mem_cons.mpr ⟨List.mem_cons_of_mem _ (List.mem_cons_of_mem _ (List.mem_cons_self)), List.forall_mem_cons.mpr ⟨List.mem_cons_of_mem _ (List.mem_cons_of_mem _ (List.mem_cons_of_mem _ (List.mem_cons_self))), List.forall_mem_cons.mpr ⟨List.mem_cons_of_mem _ (List.mem_cons_of_mem _ (List.mem_cons_of_mem _ (List.mem_cons_of_mem _ (List.mem_cons_self)))), List.forall_mem_cons.mpr ⟨List.mem_cons_self, fun _ h => absurd h List.not_mem_nil⟩⟩⟩⟩⟩)) ?_
                exact ih34 pb (ro + 1) w46 (by omega) (by omega) (by omega) (hI47) (hF48)
          exact key43 _ pa 0 w36 (Nat.lt_succ_self _) (by omega) (by omega) (hI37) (hF38)
        · refine xg_t (xg_icT (u := ro) (v := f3_25) rfl xnm0 xnm0 (xj_geT (by omega) (by omega))) ?_
          refine xg_t (xg_blq rfl) ?_
          refine xg_t (xg_iload (va := (0, pa)) rfl rfl) ?_
          exact xg_e ⟨pa, w36, ⟨rfl, rfl⟩, by omega, hI37, hF38⟩
    exact key33 _ 0 0 w (Nat.lt_succ_self _) (by omega) (by omega) (hI) (xFr.rf)
  · refine xg_t (xg_ifF (u := so) rfl xnm0 (xj_eqF hc32)) ?_
    refine xg_t (xg_iload (va := (0, so)) rfl rfl) ?_
    refine xg_t (xg_const) ?_
    by_cases hc60 : so = 1
    · refine xg_t (xg_icF (u := so) (v := 1) rfl xnm0 xnm0 (xj_neF hc60)) ?_
      refine xg_t (xg_blq rfl) ?_
      refine xg_t (xg_aload (va := (2, 58)) rfl rfl) ?_
      refine xg_t (xg_getf (va := (2, 1)) h58_7 rfl) ?_
      refine xg_t (xg_getf (va := (2, 3)) h1_20 rfl) ?_
      refine xg_t (xg_getf (va := (0, f3_27)) h3_31 rfl) ?_
      refine xg_t (xg_goto) ?_
      refine xg_t (xg_blq rfl) ?_
      refine xg_t (xg_istore (l1 := [(2, (0, 0)), (0, (2, 58)), (1, (0, so))]) rfl rfl rfl) ?_
      refine xg_t (xg_const) ?_
      refine xg_t (xg_istore (l1 := [(3, (0, f3_27)), (2, (0, 0)), (0, (2, 58)), (1, (0, so))]) rfl rfl rfl) ?_
      refine xg_t (xg_drop (l1 := [(0, (2, 58)), (1, (0, so)), (2, (0, 0)), (3, (0, f3_27)), (4, (0, 0))]) (List.forall_mem_cons.mpr ⟨List.mem_cons_of_mem _ (List.mem_cons_of_mem _ (List.mem_cons_of_mem _ (List.mem_cons_self))), List.forall_mem_cons.mpr ⟨List.mem_cons_of_mem _ (List.mem_cons_of_mem _ (List.mem_cons_of_mem _ (List.mem_cons_of_mem _ (List.mem_cons_self)))), List.forall_mem_cons.mpr ⟨List.mem_cons_of_mem _ (List.mem_cons_of_mem _ (List.mem_cons_self)), List.forall_mem_cons.mpr ⟨List.mem_cons_of_mem _ (List.mem_cons_self), List.forall_mem_cons.mpr ⟨List.mem_cons_self, fun _ h => absurd h List.not_mem_nil⟩⟩⟩⟩⟩)) ?_
      have key61 : ∀ (m63 : Nat) (pa ro : Nat) (w64 : List (List xE)), 6 - ro < m63 → pa ≤ 4294967295 → ro ≤ 6 → xInv w64 → xFr [] w w64 → xTo (d + 2) mX10_countCut (29, [], [(0, (2, 58)), (1, (0, so)), (2, (0, pa)), (3, (0, f3_27)), (4, (0, ro))], [], (w64, bd, fc, 0, 0, rr)) (fun φ => ∃ n w', xEnd 1 [(0, n)] (w', bd, fc, 0, 0, rr) φ ∧ (n ≤ 4294967295) ∧ xInv w' ∧ xFr [] w w') := by
        intro m63
        induction m63 with
        | zero => intro pa ro w64 hz; exact absurd hz (Nat.not_lt_zero _)
        | succ m63 ih62 =>
          intro pa ro w64 hm69 hn67 hn68 hI65 hF66
          refine xg_t (xg_blq rfl) ?_
          refine xg_t (xg_iload (va := (0, ro)) rfl rfl) ?_
          refine xg_t (xg_aload (va := (2, 58)) rfl rfl) ?_
          refine xg_t (xg_getf (va := (2, 1)) (hF66.get (by decide) h58_7) rfl) ?_
          refine xg_t (xg_getf (va := (2, 3)) (hF66.get (by decide) h1_20) rfl) ?_
          refine xg_t (xg_getf (va := (0, f3_25)) (hF66.get (by decide) h3_31) rfl) ?_
          by_cases hc70 : ro < f3_25
          · refine xg_t (xg_icF (u := ro) (v := f3_25) rfl xnm0 xnm0 (xj_geF hc70 (by omega))) ?_
            refine xg_t (xg_const) ?_
            refine xg_t (xg_istore (l1 := [(0, (2, 58)), (1, (0, so)), (2, (0, pa)), (3, (0, f3_27)), (4, (0, ro))]) rfl rfl rfl) ?_
            refine xg_t (xg_drop (l1 := [(0, (2, 58)), (1, (0, so)), (2, (0, pa)), (3, (0, f3_27)), (4, (0, ro)), (5, (0, 0))]) (List.forall_mem_cons.mpr ⟨List.mem_cons_of_mem _ (List.mem_cons_self), List.forall_mem_cons.mpr ⟨List.mem_cons_of_mem _ (List.mem_cons_of_mem _ (List.mem_cons_self)), List.forall_mem_cons.mpr ⟨List.mem_cons_of_mem _ (List.mem_cons_of_mem _ (List.mem_cons_of_mem _ (List.mem_cons_self))), List.forall_mem_cons.mpr ⟨List.mem_cons_of_mem _ (List.mem_cons_of_mem _ (List.mem_cons_of_mem _ (List.mem_cons_of_mem _ (List.mem_cons_self)))), List.forall_mem_cons.mpr ⟨List.mem_cons_of_mem _ (List.mem_cons_of_mem _ (List.mem_cons_of_mem _ (List.mem_cons_of_mem _ (List.mem_cons_of_mem _ (List.mem_cons_self))))), List.forall_mem_cons.mpr ⟨List.mem_cons_self, fun _ h => absurd h List.not_mem_nil⟩⟩⟩⟩⟩⟩)) ?_
            have key71 : ∀ (m73 : Nat) (pb co : Nat) (w74 : List (List xE)), 6 - co < m73 → pb ≤ 4294967295 → co ≤ 6 → xInv w74 → xFr [] w w74 → xTo (d + 2) mX10_countCut (47, [], [(0, (2, 58)), (1, (0, so)), (2, (0, pb)), (3, (0, f3_27)), (4, (0, ro)), (5, (0, co))], [], (w74, bd, fc, 0, 0, rr)) (fun φ => ∃ n w', xEnd 1 [(0, n)] (w', bd, fc, 0, 0, rr) φ ∧ (n ≤ 4294967295) ∧ xInv w' ∧ xFr [] w w') := by
              intro m73
              induction m73 with
              | zero => intro pb co w74 hz; exact absurd hz (Nat.not_lt_zero _)
              | succ m73 ih72 =>
                intro pb co w74 hm79 hn77 hn78 hI75 hF76
                refine xg_t (xg_blq rfl) ?_
                refine xg_t (xg_iload (va := (0, co)) rfl rfl) ?_
                refine xg_t (xg_iload (va := (0, f3_27)) rfl rfl) ?_
                by_cases hc80 : co < f3_27
                · refine xg_t (xg_icF (u := co) (v := f3_27) rfl xnm0 xnm0 (xj_geF hc80 (by omega))) ?_
                  refine xg_t (xg_aload (va := (2, 58)) rfl rfl) ?_
                  refine xg_t (xg_iload (va := (0, so)) rfl rfl) ?_
                  refine xg_t (xg_iload (va := (0, ro)) rfl rfl) ?_
                  refine xg_t (xg_iload (va := (0, co)) rfl rfl) ?_
                  refine xg_cVi mX10_cuts (vs := [(0, so), (0, ro), (0, co)]) (rest := []) (cn1 := 0) (sl1 := 0) rfl (wyCuts (hI75) (by omega) (by omega) (by omega)) rfl (hF76.get (by decide) h58_7) rfl rfl rfl rfl rfl rfl (fun n85 w81 hq82 => ?_)
                  obtain ⟨hn86, hI83, hF84⟩ := hq82
                  by_cases hc87 : n85 = 0
                  · refine xg_t (xg_ifT (u := n85) rfl xnm0 (xj_eqT hc87)) ?_
                    refine xg_t (xg_blq rfl) ?_
                    refine xg_t (xg_iinc (u := co) (z := co + 1) (l1 := [(0, (2, 58)), (1, (0, so)), (2, (0, pb)), (3, (0, f3_27)), (4, (0, ro))]) rfl rfl (by omega) rfl) ?_
                    refine xg_t (xg_goto) ?_
                    refine xg_t (xg_drop (l1 := [(0, (2, 58)), (1, (0, so)), (2, (0, pb)), (3, (0, f3_27)), (4, (0, ro)), (5, (0, co + 1))]) (List.forall_mem_cons.mpr ⟨List.mem_cons_of_mem _ (List.mem_cons_self), List.forall_mem_cons.mpr ⟨List.mem_cons_of_mem _ (List.mem_cons_of_mem _ (List.mem_cons_self)), List.forall_mem_cons.mpr ⟨List.mem_cons_of_mem _ (List.mem_cons_of_mem _ (List.mem_cons_of_mem _ (List.mem_cons_self))), List.forall_mem_cons.mpr ⟨List.mem_cons_of_mem _ (List.mem_cons_of_mem _ (List.mem_cons_of_mem _ (List.mem_cons_of_mem _ (List.mem_cons_self)))), List.forall_mem_cons.mpr ⟨List.mem_cons_of_mem _ (List.mem_cons_of_mem _ (List.mem_cons_of_mem _ (List.mem_cons_of_mem _ (List.mem_cons_of_mem _ (List.mem_cons_self))))), List.forall_mem_cons.mpr ⟨List.mem_cons_self, fun _ h => absurd h List.not_mem_nil⟩⟩⟩⟩⟩⟩)) ?_
                    exact ih72 pb (co + 1) w81 (by omega) (by omega) (by omega) (hI83) ((hF76.tr (hF84.up (by decide))))
                  · refine xg_t (xg_ifF (u := n85) rfl xnm0 (xj_eqF hc87)) ?_
                    refine xg_t (xg_iinc (u := pb) (z := (pb + 1) % 4294967296) (l1 := [(0, (2, 58)), (1, (0, so)), (3, (0, f3_27)), (4, (0, ro)), (5, (0, co))]) rfl rfl (rfl) rfl) ?_
                    refine xg_t (xg_blq rfl) ?_
                    refine xg_t (xg_iinc (u := co) (z := co + 1) (l1 := [(2, (0, (pb + 1) % 4294967296)), (0, (2, 58)), (1, (0, so)), (3, (0, f3_27)), (4, (0, ro))]) rfl rfl (by omega) rfl) ?_
                    refine xg_t (xg_goto) ?_
                    refine xg_t (xg_drop (l1 := [(0, (2, 58)), (1, (0, so)), (2, (0, (pb + 1) % 4294967296)), (3, (0, f3_27)), (4, (0, ro)), (5, (0, co + 1))]) (List.forall_mem_cons.mpr ⟨List.mem_cons_of_mem _ (List.mem_cons_of_mem _ (List.mem_cons_self)), List.forall_mem_cons.mpr ⟨List.mem_cons_of_mem _ (List.mem_cons_of_mem _ (List.mem_cons_of_mem _ (List.mem_cons_self))), List.forall_mem_cons.mpr ⟨List.mem_cons_of_mem _ (List.mem_cons_self), List.forall_mem_cons.mpr ⟨List.mem_cons_of_mem _ (List.mem_cons_of_mem _ (List.mem_cons_of_mem _ (List.mem_cons_of_mem _ (List.mem_cons_self)))), List.forall_mem_cons.mpr ⟨List.mem_cons_of_mem _ (List.mem_cons_of_mem _ (List.mem_cons_of_mem _ (List.mem_cons_of_mem _ (List.mem_cons_of_mem _ (List.mem_cons_self))))), List.forall_mem_cons.mpr ⟨List.mem_cons_self, fun _ h => absurd h List.not_mem_nil⟩⟩⟩⟩⟩⟩)) ?_
                    exact ih72 ((pb + 1) % 4294967296) (co + 1) w81 (by omega) (by omega) (by omega) (hI83) ((hF76.tr (hF84.up (by decide))))
                · refine xg_t (xg_icT (u := co) (v := f3_27) rfl xnm0 xnm0 (xj_geT (by omega) (by omega))) ?_
                  refine xg_t (xg_blq rfl) ?_
                  refine xg_t (xg_iinc (u := ro) (z := ro + 1) (l1 := [(0, (2, 58)), (1, (0, so)), (2, (0, pb)), (3, (0, f3_27)), (5, (0, co))]) rfl rfl (by omega) rfl) ?_
                  refine xg_t (xg_goto) ?_
                  refine xg_t (xg_drop (l1 := [(0, (2, 58)), (1, (0, so)), (2, (0, pb)), (3, (0, f3_27)), (4, (0, ro + 1))]) (List.forall_mem_cons.mpr ⟨List.mem_cons_of_mem _ (List.mem_cons_self), List.forall_mem_cons.mpr ⟨List.mem_cons_of_mem _ (List.mem_cons_of_mem _ (List.mem_cons_self)), List.forall_mem_cons.mpr ⟨List.mem_cons_of_mem _ (List.mem_cons_of_mem _ (List.mem_cons_of_mem _ (List.mem_cons_self))), List.forall_mem_cons.mpr ⟨List.mem_cons_of_mem _ (List.mem_cons_of_mem _ (List.mem_cons_of_mem _ (List.mem_cons_of_mem _ (List.mem_cons_self)))), List.forall_mem_cons.mpr ⟨List.mem_cons_self, fun _ h => absurd h List.not_mem_nil⟩⟩⟩⟩⟩)) ?_
                  exact ih62 pb (ro + 1) w74 (by omega) (by omega) (by omega) (hI75) (hF76)
            exact key71 _ pa 0 w64 (Nat.lt_succ_self _) (by omega) (by omega) (hI65) (hF66)
          · refine xg_t (xg_icT (u := ro) (v := f3_25) rfl xnm0 xnm0 (xj_geT (by omega) (by omega))) ?_
            refine xg_t (xg_blq rfl) ?_
            refine xg_t (xg_iload (va := (0, pa)) rfl rfl) ?_
            exact xg_e ⟨pa, w64, ⟨rfl, rfl⟩, by omega, hI65, hF66⟩
      exact key61 _ 0 0 w (Nat.lt_succ_self _) (by omega) (by omega) (hI) (xFr.rf)
    · refine xg_t (xg_icT (u := so) (v := 1) rfl xnm0 xnm0 (xj_neT hc60)) ?_
      refine xg_t (xg_blq rfl) ?_
      refine xg_t (xg_const) ?_
      refine xg_t (xg_blq rfl) ?_
      refine xg_t (xg_istore (l1 := [(2, (0, 0)), (0, (2, 58)), (1, (0, so))]) rfl rfl rfl) ?_
      refine xg_t (xg_const) ?_
      refine xg_t (xg_istore (l1 := [(3, (0, 1)), (2, (0, 0)), (0, (2, 58)), (1, (0, so))]) rfl rfl rfl) ?_
      refine xg_t (xg_drop (l1 := [(0, (2, 58)), (1, (0, so)), (2, (0, 0)), (3, (0, 1)), (4, (0, 0))]) (List.forall_mem_cons.mpr ⟨List.mem_cons_of_mem _ (List.mem_cons_of_mem _ (List.mem_cons_of_mem _ (List.mem_cons_self))), List.forall_mem_cons.mpr ⟨List.mem_cons_of_mem _ (List.mem_cons_of_mem _ (List.mem_cons_of_mem _ (List.mem_cons_of_mem _ (List.mem_cons_self)))), List.forall_mem_cons.mpr ⟨List.mem_cons_of_mem _ (List.mem_cons_of_mem _ (List.mem_cons_self)), List.forall_mem_cons.mpr ⟨List.mem_cons_of_mem _ (List.mem_cons_self), List.forall_mem_cons.mpr ⟨List.mem_cons_self, fun _ h => absurd h List.not_mem_nil⟩⟩⟩⟩⟩)) ?_
      have key88 : ∀ (m90 : Nat) (pa ro : Nat) (w91 : List (List xE)), 6 - ro < m90 → pa ≤ 4294967295 → ro ≤ 6 → xInv w91 → xFr [] w w91 → xTo (d + 2) mX10_countCut (29, [], [(0, (2, 58)), (1, (0, so)), (2, (0, pa)), (3, (0, 1)), (4, (0, ro))], [], (w91, bd, fc, 0, 0, rr)) (fun φ => ∃ n w', xEnd 1 [(0, n)] (w', bd, fc, 0, 0, rr) φ ∧ (n ≤ 4294967295) ∧ xInv w' ∧ xFr [] w w') := by
        intro m90
        induction m90 with
        | zero => intro pa ro w91 hz; exact absurd hz (Nat.not_lt_zero _)
        | succ m90 ih89 =>
          intro pa ro w91 hm96 hn94 hn95 hI92 hF93
          refine xg_t (xg_blq rfl) ?_
          refine xg_t (xg_iload (va := (0, ro)) rfl rfl) ?_
          refine xg_t (xg_aload (va := (2, 58)) rfl rfl) ?_
          refine xg_t (xg_getf (va := (2, 1)) (hF93.get (by decide) h58_7) rfl) ?_
          refine xg_t (xg_getf (va := (2, 3)) (hF93.get (by decide) h1_20) rfl) ?_
          refine xg_t (xg_getf (va := (0, f3_25)) (hF93.get (by decide) h3_31) rfl) ?_
          by_cases hc97 : ro < f3_25
          · refine xg_t (xg_icF (u := ro) (v := f3_25) rfl xnm0 xnm0 (xj_geF hc97 (by omega))) ?_
            refine xg_t (xg_const) ?_
            refine xg_t (xg_istore (l1 := [(0, (2, 58)), (1, (0, so)), (2, (0, pa)), (3, (0, 1)), (4, (0, ro))]) rfl rfl rfl) ?_
            refine xg_t (xg_drop (l1 := [(0, (2, 58)), (1, (0, so)), (2, (0, pa)), (3, (0, 1)), (4, (0, ro)), (5, (0, 0))]) (List.forall_mem_cons.mpr ⟨List.mem_cons_of_mem _ (List.mem_cons_self), List.forall_mem_cons.mpr ⟨List.mem_cons_of_mem _ (List.mem_cons_of_mem _ (List.mem_cons_self)), List.forall_mem_cons.mpr ⟨List.mem_cons_of_mem _ (List.mem_cons_of_mem _ (List.mem_cons_of_mem _ (List.mem_cons_self))), List.forall_mem_cons.mpr ⟨List.mem_cons_of_mem _ (List.mem_cons_of_mem _ (List.mem_cons_of_mem _ (List.mem_cons_of_mem _ (List.mem_cons_self)))), List.forall_mem_cons.mpr ⟨List.mem_cons_of_mem _ (List.mem_cons_of_mem _ (List.mem_cons_of_mem _ (List.mem_cons_of_mem _ (List.mem_cons_of_mem _ (List.mem_cons_self))))), List.forall_mem_cons.mpr ⟨List.mem_cons_self, fun _ h => absurd h List.not_mem_nil⟩⟩⟩⟩⟩⟩)) ?_
            have key98 : ∀ (m100 : Nat) (pb co : Nat) (w101 : List (List xE)), 6 - co < m100 → pb ≤ 4294967295 → co ≤ 6 → xInv w101 → xFr [] w w101 → xTo (d + 2) mX10_countCut (47, [], [(0, (2, 58)), (1, (0, so)), (2, (0, pb)), (3, (0, 1)), (4, (0, ro)), (5, (0, co))], [], (w101, bd, fc, 0, 0, rr)) (fun φ => ∃ n w', xEnd 1 [(0, n)] (w', bd, fc, 0, 0, rr) φ ∧ (n ≤ 4294967295) ∧ xInv w' ∧ xFr [] w w') := by
              intro m100
              induction m100 with
              | zero => intro pb co w101 hz; exact absurd hz (Nat.not_lt_zero _)
              | succ m100 ih99 =>
                intro pb co w101 hm106 hn104 hn105 hI102 hF103
                refine xg_t (xg_blq rfl) ?_
                refine xg_t (xg_iload (va := (0, co)) rfl rfl) ?_
                refine xg_t (xg_iload (va := (0, 1)) rfl rfl) ?_
                by_cases hc107 : co < 1
                · refine xg_t (xg_icF (u := co) (v := 1) rfl xnm0 xnm0 (xj_geF hc107 (by omega))) ?_
                  refine xg_t (xg_aload (va := (2, 58)) rfl rfl) ?_
                  refine xg_t (xg_iload (va := (0, so)) rfl rfl) ?_
                  refine xg_t (xg_iload (va := (0, ro)) rfl rfl) ?_
                  refine xg_t (xg_iload (va := (0, co)) rfl rfl) ?_
                  refine xg_cVi mX10_cuts (vs := [(0, so), (0, ro), (0, co)]) (rest := []) (cn1 := 0) (sl1 := 0) rfl (wyCuts (hI102) (by omega) (by omega) (by omega)) rfl (hF103.get (by decide) h58_7) rfl rfl rfl rfl rfl rfl (fun n112 w108 hq109 => ?_)
                  obtain ⟨hn113, hI110, hF111⟩ := hq109
                  by_cases hc114 : n112 = 0
                  · refine xg_t (xg_ifT (u := n112) rfl xnm0 (xj_eqT hc114)) ?_
                    refine xg_t (xg_blq rfl) ?_
                    refine xg_t (xg_iinc (u := co) (z := co + 1) (l1 := [(0, (2, 58)), (1, (0, so)), (2, (0, pb)), (3, (0, 1)), (4, (0, ro))]) rfl rfl (by omega) rfl) ?_
                    refine xg_t (xg_goto) ?_
                    refine xg_t (xg_drop (l1 := [(0, (2, 58)), (1, (0, so)), (2, (0, pb)), (3, (0, 1)), (4, (0, ro)), (5, (0, co + 1))]) (List.forall_mem_cons.mpr ⟨List.mem_cons_of_mem _ (List.mem_cons_self), List.forall_mem_cons.mpr ⟨List.mem_cons_of_mem _ (List.mem_cons_of_mem _ (List.mem_cons_self)), List.forall_mem_cons.mpr ⟨List.mem_cons_of_mem _ (List.mem_cons_of_mem _ (List.mem_cons_of_mem _ (List.mem_cons_self))), List.forall_mem_cons.mpr ⟨List.mem_cons_of_mem _ (List.mem_cons_of_mem _ (List.mem_cons_of_mem _ (List.mem_cons_of_mem _ (List.mem_cons_self)))), List.forall_mem_cons.mpr ⟨List.mem_cons_of_mem _ (List.mem_cons_of_mem _ (List.mem_cons_of_mem _ (List.mem_cons_of_mem _ (List.mem_cons_of_mem _ (List.mem_cons_self))))), List.forall_mem_cons.mpr ⟨List.mem_cons_self, fun _ h => absurd h List.not_mem_nil⟩⟩⟩⟩⟩⟩)) ?_
                    exact ih99 pb (co + 1) w108 (by omega) (by omega) (by omega) (hI110) ((hF103.tr (hF111.up (by decide))))
                  · refine xg_t (xg_ifF (u := n112) rfl xnm0 (xj_eqF hc114)) ?_
                    refine xg_t (xg_iinc (u := pb) (z := (pb + 1) % 4294967296) (l1 := [(0, (2, 58)), (1, (0, so)), (3, (0, 1)), (4, (0, ro)), (5, (0, co))]) rfl rfl (rfl) rfl) ?_
                    refine xg_t (xg_blq rfl) ?_
                    refine xg_t (xg_iinc (u := co) (z := co + 1) (l1 := [(2, (0, (pb + 1) % 4294967296)), (0, (2, 58)), (1, (0, so)), (3, (0, 1)), (4, (0, ro))]) rfl rfl (by omega) rfl) ?_
                    refine xg_t (xg_goto) ?_
                    refine xg_t (xg_drop (l1 := [(0, (2, 58)), (1, (0, so)), (2, (0, (pb + 1) % 4294967296)), (3, (0, 1)), (4, (0, ro)), (5, (0, co + 1))]) (List.forall_mem_cons.mpr ⟨List.mem_cons_of_mem _ (List.mem_cons_of_mem _ (List.mem_cons_self)), List.forall_mem_cons.mpr ⟨List.mem_cons_of_mem _ (List.mem_cons_of_mem _ (List.mem_cons_of_mem _ (List.mem_cons_self))), List.forall_mem_cons.mpr ⟨List.mem_cons_of_mem _ (List.mem_cons_self), List.forall_mem_cons.mpr ⟨List.mem_cons_of_mem _ (List.mem_cons_of_mem _ (List.mem_cons_of_mem _ (List.mem_cons_of_mem _ (List.mem_cons_self)))), List.forall_mem_cons.mpr ⟨List.mem_cons_of_mem _ (List.mem_cons_of_mem _ (List.mem_cons_of_mem _ (List.mem_cons_of_mem _ (List.mem_cons_of_mem _ (List.mem_cons_self))))), List.forall_mem_cons.mpr ⟨List.mem_cons_self, fun _ h => absurd h List.not_mem_nil⟩⟩⟩⟩⟩⟩)) ?_
                    exact ih99 ((pb + 1) % 4294967296) (co + 1) w108 (by omega) (by omega) (by omega) (hI110) ((hF103.tr (hF111.up (by decide))))
                · refine xg_t (xg_icT (u := co) (v := 1) rfl xnm0 xnm0 (xj_geT (by omega) (by omega))) ?_
                  refine xg_t (xg_blq rfl) ?_
                  refine xg_t (xg_iinc (u := ro) (z := ro + 1) (l1 := [(0, (2, 58)), (1, (0, so)), (2, (0, pb)), (3, (0, 1)), (5, (0, co))]) rfl rfl (by omega) rfl) ?_
                  refine xg_t (xg_goto) ?_
                  refine xg_t (xg_drop (l1 := [(0, (2, 58)), (1, (0, so)), (2, (0, pb)), (3, (0, 1)), (4, (0, ro + 1))]) (List.forall_mem_cons.mpr ⟨List.mem_cons_of_mem _ (List.mem_cons_self), List.forall_mem_cons.mpr ⟨List.mem_cons_of_mem _ (List.mem_cons_of_mem _ (List.mem_cons_self)), List.forall_mem_cons.mpr ⟨List.mem_cons_of_mem _ (List.mem_cons_of_mem _ (List.mem_cons_of_mem _ (List.mem_cons_self))), List.forall_mem_cons.mpr ⟨List.mem_cons_of_mem _ (List.mem_cons_of_mem _ (List.mem_cons_of_mem _ (List.mem_cons_of_mem _ (List.mem_cons_self)))), List.forall_mem_cons.mpr ⟨List.mem_cons_self, fun _ h => absurd h List.not_mem_nil⟩⟩⟩⟩⟩)) ?_
                  exact ih89 pb (ro + 1) w101 (by omega) (by omega) (by omega) (hI102) (hF103)
            exact key98 _ pa 0 w91 (Nat.lt_succ_self _) (by omega) (by omega) (hI92) (hF93)
          · refine xg_t (xg_icT (u := ro) (v := f3_25) rfl xnm0 xnm0 (xj_geT (by omega) (by omega))) ?_
            refine xg_t (xg_blq rfl) ?_
            refine xg_t (xg_iload (va := (0, pa)) rfl rfl) ?_
            exact xg_e ⟨pa, w91, ⟨rfl, rfl⟩, by omega, hI92, hF93⟩
      exact key88 _ 0 0 w (Nat.lt_succ_self _) (by omega) (by omega) (hI) (xFr.rf)
end XWY
