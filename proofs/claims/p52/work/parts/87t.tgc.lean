/-! the class: laws and tests, to the last number -/
theorem rwf_eq {w w' : List (List xE)} {c c' : Nat} (h : wget w' c' = wget w c) : rwv w' c' = rwv w c := funext fun _ => rwv_eq h
theorem tsV.fr {w w' : List (List xE)} (h : tsV (rwv w 21) (fld w 20 3)) (h0 : wget w' 20 = wget w 20) (h1 : wget w' 21 = wget w 21) : tsV (rwv w' 21) (fld w' 20 3) := by
  rw [rwf_eq h1, fld_eq h0]
  exact h
/-- what was found out of the tests is so -/
def lwD (w : List (List xE)) : Prop := (∀ i, i < 240 → rwv w 77 i = tA (rwv w 21) i (fld w 20 3)) ∧ fld w 76 4 = tK (rwv w 21) (fld w 20 3) 240
def lwN (w : List (List xE)) : Prop := fld w 76 8 = (tX (rwv w 21) (fld w 20 3) 135).1 ∧ fld w 76 6 = (tX (rwv w 21) (fld w 20 3) 135).2.1 ∧ fld w 76 7 = (tX (rwv w 21) (fld w 20 3) 135).2.2
def lwI (w : List (List xE)) : Prop := (fld w 76 9 = 0 ∨ lwD w) ∧ (fld w 76 11 = 0 ∨ lwN w)
theorem lwD.kp {w w' : List (List xE)} (h : lwD w) (h20 : wget w' 20 = wget w 20) (h21 : wget w' 21 = wget w 21) (h77 : wget w' 77 = wget w 77) (h76 : fld w' 76 4 = fld w 76 4) : lwD w' := by
  obtain ⟨a, b⟩ := h
  refine ⟨fun i hi => ?_, ?_⟩
  · rw [rwf_eq h77, rwf_eq h21, fld_eq h20]
    exact a i hi
  · rw [h76, rwf_eq h21, fld_eq h20]
    exact b
theorem lwN.kp {w w' : List (List xE)} (h : lwN w) (h20 : wget w' 20 = wget w 20) (h21 : wget w' 21 = wget w 21) (h6 : fld w' 76 6 = fld w 76 6) (h7 : fld w' 76 7 = fld w 76 7) (h8 : fld w' 76 8 = fld w 76 8) : lwN w' := by
  obtain ⟨a, b, c⟩ := h
  unfold lwN
  rw [h6, h7, h8, rwf_eq h21, fld_eq h20]
  exact ⟨a, b, c⟩
theorem lwI.kp {w w' : List (List xE)} (h : lwI w) (h20 : wget w' 20 = wget w 20) (h21 : wget w' 21 = wget w 21) (h76 : wget w' 76 = wget w 76) (h77 : wget w' 77 = wget w 77) : lwI w' := by
  obtain ⟨a, b⟩ := h
  refine ⟨a.imp (fun z => (fld_eq h76).trans z) (fun z => z.kp h20 h21 h77 (fld_eq h76)), b.imp (fun z => (fld_eq h76).trans z) (fun z => z.kp h20 h21 (fld_eq h76) (fld_eq h76) (fld_eq h76))⟩
theorem lwI.fr {w w' : List (List xE)} {S : List Nat} (h : lwI w) (hf : xFr S w w') (hs : 20 ∉ S ∧ 21 ∉ S ∧ 76 ∉ S ∧ 77 ∉ S) : lwI w' := h.kp (hf.1 _ hs.1) (hf.1 _ hs.2.1) (hf.1 _ hs.2.2.1) (hf.1 _ hs.2.2.2)
theorem lwI.of0 {w : List (List xE)} (h9 : fld w 76 9 = 0) (h11 : fld w 76 11 = 0) : lwI w := ⟨Or.inl h9, Or.inl h11⟩
section XTG
variable {d : Nat} {w : List (List xE)} {bd : List (Nat × Nat)} {fc : List (Nat × Nat × Bool)} {rr : Nat × Nat}
theorem xg_kE {Z : Nat} {p0 p1 : Nat} {M : xM} {cs cs1 : List xI} {lo l1 : xLo} {st st1 : List xV} {hp : xH} {P : xS → Prop} (h : xLd d M (p0, cs, lo, st, hp) [(p1, cs1, l1, (0, Z) :: st1, hp)]) (hZ : Z < 4294967296) (K : ∀ z, z < 4294967296 → Z = z → xTo d M (p1, cs1, l1, (0, z) :: st1, hp) P) : xTo d M (p0, cs, lo, st, hp) P := xg_t h (K Z hZ rfl)
theorem rgetX {r a lim wd sz t row what : Nat} {f : Nat → Nat} (h : xRs w r a lim wd sz) (hf : xRow w a (lim * wd) t f) (hl : lim < 2147483648) (hsz : sz ≤ lim) (hw : wd < 2147483648) (hL : lim * wd < 2147483648) (h1 : row < sz) (h2 : what < wd) : xPr d mX5_get [(2, r), (0, row), (0, what)] w bd fc rr [(0, f (row * wd + what))] w := by
  have k := rget_ok (d := d) (bd := bd) (fc := fc) (rr := rr) (row := row) (what := what) h hf hl hsz hw hL (by omega) (by omega)
  rw [if_pos ⟨h1, h2⟩] at k
  exact k
theorem lwUnitAtX {la sp : Nat} (hI : xInv w) (hl1 : la ≤ 239) (h1 : 1 ≤ sp) (h9 : sp ≤ 9) : xPi d mX4_unitAt [(0, la), (0, sp)] w bd fc rr (fun n w' => (n = tU la sp ∧ n ≤ 43740) ∧ xInv w' ∧ xFr [] w w') := by
  refine xPi.of ?_
  show xTo d mX4_unitAt (0, [], [(0, (0, la)), (1, (0, sp))], [], (w, bd, fc, 0, 0, rr)) (fun φ => ∃ n w', xEnd 1 [(0, n)] (w', bd, fc, 0, 0, rr) φ ∧ (n = tU la sp ∧ n ≤ 43740) ∧ xInv w' ∧ xFr [] w w')
  refine xg_t (xg_blk (b := [(0, 1, 2, 0, 0, 0), (1, 2, 4, 60, 0, 0), (3, 1, 21, 0, 0, 0), (4, 1, 3, 1, 0, 0), (5, 1, 11, 0, 0, 0), (6, 1, 15, 2, 0, 0), (7, 1, 2, 0, 0, 0), (8, 2, 4, 60, 0, 0), (10, 1, 20, 0, 0, 0), (11, 1, 15, 3, 0, 0)]) rfl) ?_
  refine xg_t (xg_iload (va := (0, la)) rfl rfl) ?_
  refine xg_t (xg_bip) ?_
  refine xg_t (xg_irem (u := la) (v := 60) (z := la % 60) xnm0 xnm0 (by omega) (by decide) (by decide) (rfl)) ?_
  refine xg_t (xg_const) ?_
  refine xg_t (xg_iadd (u := la % 60) (v := 1) (z := (la % 60) + 1) xnm0 xnm0 (by omega)) ?_
  refine xg_t (xg_istore (l1 := [(0, (0, la)), (1, (0, sp))]) rfl rfl rfl) ?_
  refine xg_t (xg_iload (va := (0, la)) rfl rfl) ?_
  refine xg_t (xg_bip) ?_
  refine xg_t (xg_idiv (u := la) (v := 60) (z := la / 60) xnm0 xnm0 (by omega) (by decide) (by decide) (rfl)) ?_
  refine xg_t (xg_istore (l1 := [(2, (0, (la % 60) + 1)), (0, (0, la)), (1, (0, sp))]) rfl rfl rfl) ?_
  refine xg_t (xg_drop (l1 := [(0, (0, la)), (1, (0, sp)), (2, (0, (la % 60) + 1)), (3, (0, la / 60))]) (List.forall_mem_cons.mpr ⟨List.mem_cons_of_mem _ (List.mem_cons_of_mem _ (List.mem_cons_self)), List.forall_mem_cons.mpr ⟨List.mem_cons_of_mem _ (List.mem_cons_of_mem _ (List.mem_cons_of_mem _ (List.mem_cons_self))), List.forall_mem_cons.mpr ⟨List.mem_cons_of_mem _ (List.mem_cons_self), List.forall_mem_cons.mpr ⟨List.mem_cons_self, fun _ h => absurd h List.not_mem_nil⟩⟩⟩⟩)) ?_
  have key1 : ∀ (m3 : Nat) (un bb : Nat) (w4 : List (List xE)), bb < m3 → un ≤ 43740 → bb ≤ 3 → xInv w4 → xFr [] w w4 → un * (10 - sp) ^ bb = tU la sp → xTo d mX4_unitAt (12, [], [(0, (0, la)), (1, (0, sp)), (2, (0, un)), (3, (0, bb))], [], (w4, bd, fc, 0, 0, rr)) (fun φ => ∃ n w', xEnd 1 [(0, n)] (w', bd, fc, 0, 0, rr) φ ∧ (n = tU la sp ∧ n ≤ 43740) ∧ xInv w' ∧ xFr [] w w') := by
    intro m3
    induction m3 with
    | zero => intro un bb w4 hz; exact absurd hz (Nat.not_lt_zero _)
    | succ m3 ih2 =>
      intro un bb w4 hm10 hn7 hn8 hI5 hF6 he9
      refine xg_t (xg_blk (b := [(12, 1, 2, 3, 0, 0), (13, 3, 7, 29, 5, 0), (16, 1, 2, 2, 0, 0), (17, 2, 4, 10, 0, 0), (19, 1, 2, 1, 0, 0), (20, 1, 18, 0, 0, 0), (21, 1, 16, 0, 0, 0), (22, 1, 15, 2, 0, 0), (23, 3, 9, 3, 4294967295, 0), (26, 3, 8, 12, 0, 0)]) rfl) ?_
      refine xg_t (xg_iload (va := (0, bb)) rfl rfl) ?_
      by_cases hc11 : 0 < bb
      · refine xg_t (xg_ifF (u := bb) rfl xnm0 (xj_leF hc11 (by omega))) ?_
        refine xg_t (xg_iload (va := (0, un)) rfl rfl) ?_
        refine xg_t (xg_bip) ?_
        refine xg_t (xg_iload (va := (0, sp)) rfl rfl) ?_
        refine xg_t (xg_isub (u := 10) (v := sp) (z := 10 - sp) xnm0 xnm0 (by omega)) ?_
        obtain ⟨hs12, hs13⟩ := tU_step he9 (by omega) (by omega)
        obtain ⟨hs14, hs15⟩ := tU_le hl1 h1 h9
        refine xg_t (xg_imul (u := un) (v := 10 - sp) (z := un * (10 - sp)) xnm0 xnm0 (Nat.mod_eq_of_lt (by omega))) ?_
        refine xg_t (xg_istore (l1 := [(0, (0, la)), (1, (0, sp)), (3, (0, bb))]) rfl rfl rfl) ?_
        refine xg_t (xg_iinc (u := bb) (z := bb - 1) (l1 := [(2, (0, un * (10 - sp))), (0, (0, la)), (1, (0, sp))]) rfl rfl (by omega) rfl) ?_
        refine xg_t (xg_goto) ?_
        refine xg_t (xg_drop (l1 := [(0, (0, la)), (1, (0, sp)), (2, (0, un * (10 - sp))), (3, (0, bb - 1))]) (List.forall_mem_cons.mpr ⟨List.mem_cons_of_mem _ (List.mem_cons_of_mem _ (List.mem_cons_self)), List.forall_mem_cons.mpr ⟨List.mem_cons_of_mem _ (List.mem_cons_of_mem _ (List.mem_cons_of_mem _ (List.mem_cons_self))), List.forall_mem_cons.mpr ⟨List.mem_cons_of_mem _ (List.mem_cons_self), List.forall_mem_cons.mpr ⟨List.mem_cons_self, fun _ h => absurd h List.not_mem_nil⟩⟩⟩⟩)) ?_
        exact ih2 (un * (10 - sp)) (bb - 1) w4 (by omega) (by omega) (by omega) (hI5) (hF6) (hs12)
      · refine xg_t (xg_ifT (u := bb) rfl xnm0 (xj_leT (by omega) (by omega))) ?_
        refine xg_t (xg_blk (b := [(29, 1, 2, 2, 0, 0), (30, 1, 12, 0, 1, 0)]) rfl) ?_
        refine xg_t (xg_iload (va := (0, un)) rfl rfl) ?_
        exact xg_e ⟨un, w4, ⟨rfl, rfl⟩, ⟨tU_end he9 (by omega), by omega⟩, hI5, hF6⟩
  exact key1 _ ((la % 60) + 1) (la / 60) w (Nat.lt_succ_self _) (by omega) (by omega) (hI) (xFr.rf) (rfl)
theorem lwBitOfX {te : Nat} (hI : xInv w) (ht1 : te ≤ 11) : xPi d mX4_bitOf [(0, te)] w bd fc rr (fun n w' => (n = 2 ^ (11 - te) ∧ n ≤ 2048) ∧ xInv w' ∧ xFr [] w w') := by
  refine xPi.of ?_
  show xTo d mX4_bitOf (0, [], [(0, (0, te))], [], (w, bd, fc, 0, 0, rr)) (fun φ => ∃ n w', xEnd 1 [(0, n)] (w', bd, fc, 0, 0, rr) φ ∧ (n = 2 ^ (11 - te) ∧ n ≤ 2048) ∧ xInv w' ∧ xFr [] w w')
  refine xg_t (xg_blk (b := [(0, 1, 3, 1, 0, 0), (1, 2, 4, 11, 0, 0), (3, 1, 2, 0, 0, 0), (4, 1, 18, 0, 0, 0), (5, 1, 26, 0, 0, 0), (6, 1, 12, 0, 1, 0)]) rfl) ?_
  refine xg_t (xg_const) ?_
  refine xg_t (xg_bip) ?_
  refine xg_t (xg_iload (va := (0, te)) rfl rfl) ?_
  refine xg_t (xg_isub (u := 11) (v := te) (z := 11 - te) xnm0 xnm0 (by omega)) ?_
  have hz1 : 2 ^ (11 - te) ≤ 2048 := by
    have k : ∀ n, n ≤ 11 → 2 ^ n ≤ 2048 := by decide
    exact k _ (by omega)
  refine xg_t (xg_ishl (u := 1) (v := 11 - te) (z := 2 ^ (11 - te)) xnm0 xnm0 (by omega) (by rw [Nat.one_mul]; exact Nat.mod_eq_of_lt (by omega))) ?_
  exact xg_e ⟨2 ^ (11 - te), w, ⟨rfl, rfl⟩, ⟨rfl, by omega⟩, hI, xFr.rf⟩
theorem lwTestsAgainstX {la : Nat} (hI : xInv w) (hl1 : la ≤ 239) (hV : tsV (rwv w 21) (fld w 20 3)) : xPi (d + 1) mX4_testsAgainst [(2, 76), (0, la)] w bd fc rr (fun n w' => (n = tA (rwv w 21) la (fld w 20 3)) ∧ xInv w' ∧ xFr [] w w') := by
  refine xPi.of ?_
  show xTo (d + 1) mX4_testsAgainst (0, [], [(0, (2, 76)), (1, (0, la))], [], (w, bd, fc, 0, 0, rr)) (fun φ => ∃ n w', xEnd 1 [(0, n)] (w', bd, fc, 0, 0, rr) φ ∧ (n = tA (rwv w 21) la (fld w 20 3)) ∧ xInv w' ∧ xFr [] w w')
  obtain ⟨f76_1, f76_3, f76_5, f76_7, f76_9, f76_11, f76_13, f76_15, h76_17, hb2, hb4, hb6, hb8, hb10, hb12, hb14, hb16⟩ := (hI 76 (by decide) : cp76 (wget w 76))
  obtain ⟨f20_18, h20_20, hb19⟩ := (hI 20 (by decide) : cp20 (wget w 20))
  obtain ⟨g21_21, h21_22, hb23⟩ := (hI 21 (by decide) : cpI 48 9 4294967295 (wget w 21))
  have h21_22 : xRow w 21 48 9 g21_21 := h21_22
  have hsz : fld w 20 3 = f20_18 := fld_of h20_20
  have hg : ∀ j, j < 48 → rwv w 21 j = g21_21 j := fun j h => rwv_of h21_22 h
  obtain ⟨hv1, hv2⟩ := hV
  refine xg_t (xg_blk (b := [(0, 1, 3, 0, 0, 0), (1, 1, 15, 2, 0, 0), (2, 1, 3, 0, 0, 0), (3, 1, 15, 3, 0, 0)]) rfl) ?_
  refine xg_t (xg_const) ?_
  refine xg_t (xg_istore (l1 := [(0, (2, 76)), (1, (0, la))]) rfl rfl rfl) ?_
  refine xg_t (xg_const) ?_
  refine xg_t (xg_istore (l1 := [(2, (0, 0)), (0, (2, 76)), (1, (0, la))]) rfl rfl rfl) ?_
  refine xg_t (xg_drop (l1 := [(0, (2, 76)), (1, (0, la)), (2, (0, 0)), (3, (0, 0))]) (List.forall_mem_cons.mpr ⟨List.mem_cons_of_mem _ (List.mem_cons_of_mem _ (List.mem_cons_self)), List.forall_mem_cons.mpr ⟨List.mem_cons_of_mem _ (List.mem_cons_of_mem _ (List.mem_cons_of_mem _ (List.mem_cons_self))), List.forall_mem_cons.mpr ⟨List.mem_cons_of_mem _ (List.mem_cons_self), List.forall_mem_cons.mpr ⟨List.mem_cons_self, fun _ h => absurd h List.not_mem_nil⟩⟩⟩⟩)) ?_
  have key24 : ∀ (m26 : Nat) (se ki : Nat) (w27 : List (List xE)), 12 - ki < m26 → se ≤ 4095 → ki ≤ 12 → xInv w27 → xFr [] w w27 → se = tA (rwv w 21) la ki ∧ ki ≤ fld w 20 3 → xTo (d + 1) mX4_testsAgainst (4, [], [(0, (2, 76)), (1, (0, la)), (2, (0, se)), (3, (0, ki))], [], (w27, bd, fc, 0, 0, rr)) (fun φ => ∃ n w', xEnd 1 [(0, n)] (w', bd, fc, 0, 0, rr) φ ∧ (n = tA (rwv w 21) la (fld w 20 3)) ∧ xInv w' ∧ xFr [] w w') := by
    intro m26
    induction m26 with
    | zero => intro se ki w27 hz; exact absurd hz (Nat.not_lt_zero _)
    | succ m26 ih25 =>
      intro se ki w27 hm33 hn30 hn31 hI28 hF29 he32
      obtain ⟨he34, he35⟩ := he32
      refine xg_t (xg_blk (b := [(4, 1, 2, 3, 0, 0), (5, 1, 0, 0, 0, 0), (6, 3, 1, 4, 0, 21), (9, 3, 1, 5, 3, 43), (12, 3, 6, 128, 3, 0), (15, 1, 2, 1, 0, 0), (16, 1, 0, 0, 0, 0), (17, 3, 1, 4, 0, 21), (20, 1, 2, 3, 0, 0), (21, 1, 3, 0, 0, 0), (22, 3, 13, 285, 40, 50), (25, 3, 13, 282, 34, 54), (28, 2, 15, 4, 0, 0), (30, 1, 0, 0, 0, 0), (31, 3, 1, 4, 0, 21), (34, 1, 2, 3, 0, 0), (35, 1, 3, 1, 0, 0), (36, 3, 13, 285, 40, 50), (39, 2, 15, 5, 0, 0), (41, 1, 0, 0, 0, 0), (42, 3, 1, 4, 0, 21), (45, 1, 2, 3, 0, 0), (46, 1, 3, 3, 0, 0), (47, 3, 13, 285, 40, 50), (50, 2, 15, 6, 0, 0), (52, 2, 2, 6, 0, 0), (54, 3, 7, 71, 0, 0), (57, 2, 2, 5, 0, 0), (59, 2, 4, 8, 0, 0), (61, 2, 2, 4, 0, 0), (63, 1, 16, 0, 0, 0), (64, 3, 6, 71, 3, 0), (67, 1, 3, 1, 0, 0), (68, 3, 8, 72, 0, 0)]) rfl) ?_
      refine xg_t (xg_iload (va := (0, ki)) rfl rfl) ?_
      refine xg_t (xg_aload (va := (2, 76)) rfl rfl) ?_
      refine xg_t (xg_getf (va := (2, 20)) (hF29.get (by decide) h76_17) rfl) ?_
      refine xg_t (xg_getf (va := (0, f20_18)) (hF29.get (by decide) h20_20) rfl) ?_
      by_cases hc36 : ki < f20_18
      · refine xg_t (xg_icF (u := ki) (v := f20_18) rfl xnm0 xnm0 (xj_geF hc36 (by omega))) ?_
        have hv37 := hv2 ki (by omega)
        refine xg_t (xg_iload (va := (0, la)) rfl rfl) ?_
        refine xg_t (xg_aload (va := (2, 76)) rfl rfl) ?_
        refine xg_t (xg_getf (va := (2, 20)) (hF29.get (by decide) h76_17) rfl) ?_
        refine xg_t (xg_iload (va := (0, ki)) rfl rfl) ?_
        refine xg_t (xg_const) ?_
        refine xg_kE (xg_cVr mX5_get (vs := [(0, ki), (0, 0)]) (rest := [(0, la)]) (rs := [(0, g21_21 (ki * 4 + 0)), (0, la)]) (cn1 := 0) (sl1 := 0) rfl (rgetX (lim := 12) (wd := 4) (sz := f20_18) (hF29.get (by decide) h20_20) (h21_22.fr hF29 (by decide)) (by decide) (by omega) (by decide) (by decide) (by omega) (by decide)) rfl (hF29.get (by decide) h20_20) rfl rfl rfl rfl rfl rfl rfl) (Nat.lt_succ_of_le ((hb23) _)) (fun z38 hz39 he40 => ?_)
        have ht41 : rwv w 21 (4 * ki) = z38 := by
          rw [show 4 * ki = ki * 4 + 0 by omega]
          exact (hg _ (by omega)).trans he40
        have ht42 : 1 ≤ z38 ∧ z38 ≤ 9 := by omega
        refine xg_cSi mX4_unitAt (vs := [(0, la), (0, z38)]) (rest := []) (cn1 := 0) (sl1 := 0) rfl (lwUnitAtX (hI28) (by omega) (by omega) (by omega)) rfl rfl rfl rfl rfl rfl rfl (fun n47 w43 hq44 => ?_)
        obtain ⟨hn48, hI45, hF46⟩ := hq44
        obtain ⟨hu49, hu50⟩ := hn48
        refine xg_t (xg_istore (l1 := [(0, (2, 76)), (1, (0, la)), (2, (0, se)), (3, (0, ki))]) rfl rfl rfl) ?_
        refine xg_t (xg_aload (va := (2, 76)) rfl rfl) ?_
        refine xg_t (xg_getf (va := (2, 20)) (hF46.get (by decide) (hF29.get (by decide) h76_17)) rfl) ?_
        refine xg_t (xg_iload (va := (0, ki)) rfl rfl) ?_
        refine xg_t (xg_const) ?_
        refine xg_kE (xg_cVr mX5_get (vs := [(0, ki), (0, 1)]) (rest := []) (rs := [(0, g21_21 (ki * 4 + 1))]) (cn1 := 0) (sl1 := 0) rfl (rgetX (lim := 12) (wd := 4) (sz := f20_18) (hF46.get (by decide) (hF29.get (by decide) h20_20)) ((h21_22.fr hF29 (by decide)).fr hF46 (by decide)) (by decide) (by omega) (by decide) (by decide) (by omega) (by decide)) rfl (hF46.get (by decide) (hF29.get (by decide) h20_20)) rfl rfl rfl rfl rfl rfl rfl) (Nat.lt_succ_of_le ((hb23) _)) (fun z51 hz52 he53 => ?_)
        have ht54 : rwv w 21 (4 * ki + 1) = z51 := by
          rw [show 4 * ki + 1 = ki * 4 + 1 by omega]
          exact (hg _ (by omega)).trans he53
        have ht55 : z51 ≤ 999999 := by omega
        refine xg_t (xg_istore (l1 := [(4, (0, n47)), (0, (2, 76)), (1, (0, la)), (2, (0, se)), (3, (0, ki))]) rfl rfl rfl) ?_
        refine xg_t (xg_aload (va := (2, 76)) rfl rfl) ?_
        refine xg_t (xg_getf (va := (2, 20)) (hF46.get (by decide) (hF29.get (by decide) h76_17)) rfl) ?_
        refine xg_t (xg_iload (va := (0, ki)) rfl rfl) ?_
        refine xg_t (xg_const) ?_
        refine xg_kE (xg_cVr mX5_get (vs := [(0, ki), (0, 3)]) (rest := []) (rs := [(0, g21_21 (ki * 4 + 3))]) (cn1 := 0) (sl1 := 0) rfl (rgetX (lim := 12) (wd := 4) (sz := f20_18) (hF46.get (by decide) (hF29.get (by decide) h20_20)) ((h21_22.fr hF29 (by decide)).fr hF46 (by decide)) (by decide) (by omega) (by decide) (by decide) (by omega) (by decide)) rfl (hF46.get (by decide) (hF29.get (by decide) h20_20)) rfl rfl rfl rfl rfl rfl rfl) (Nat.lt_succ_of_le ((hb23) _)) (fun z56 hz57 he58 => ?_)
        have ht59 : rwv w 21 (4 * ki + 3) = z56 := by
          rw [show 4 * ki + 3 = ki * 4 + 3 by omega]
          exact (hg _ (by omega)).trans he58
        have ht60 : z56 ≤ 99 := by omega
        refine xg_t (xg_istore (l1 := [(5, (0, z51)), (4, (0, n47)), (0, (2, 76)), (1, (0, la)), (2, (0, se)), (3, (0, ki))]) rfl rfl rfl) ?_
        refine xg_t (xg_iload (va := (0, z56)) rfl rfl) ?_
        by_cases hc61 : z56 = 0
        · refine xg_t (xg_ifT (u := z56) rfl xnm0 (xj_eqT hc61)) ?_
          refine xg_t (xg_blk (b := [(71, 1, 3, 0, 0, 0)]) rfl) ?_
          refine xg_t (xg_const) ?_
          refine xg_t (xg_blk (b := [(72, 2, 15, 7, 0, 0), (74, 2, 2, 6, 0, 0), (76, 1, 0, 0, 0, 0), (77, 3, 1, 4, 0, 21), (80, 1, 2, 3, 0, 0), (81, 1, 3, 2, 0, 0), (82, 3, 13, 285, 40, 50), (85, 3, 6, 102, 0, 0), (88, 2, 2, 5, 0, 0), (90, 2, 4, 12, 0, 0), (92, 2, 2, 4, 0, 0), (94, 1, 16, 0, 0, 0), (95, 3, 6, 102, 2, 0), (98, 1, 3, 1, 0, 0), (99, 3, 8, 103, 0, 0)]) rfl) ?_
          refine xg_t (xg_istore (l1 := [(6, (0, z56)), (5, (0, z51)), (4, (0, n47)), (0, (2, 76)), (1, (0, la)), (2, (0, se)), (3, (0, ki))]) rfl rfl rfl) ?_
          refine xg_t (xg_iload (va := (0, z56)) rfl rfl) ?_
          refine xg_t (xg_aload (va := (2, 76)) rfl rfl) ?_
          refine xg_t (xg_getf (va := (2, 20)) (hF46.get (by decide) (hF29.get (by decide) h76_17)) rfl) ?_
          refine xg_t (xg_iload (va := (0, ki)) rfl rfl) ?_
          refine xg_t (xg_const) ?_
          refine xg_kE (xg_cVr mX5_get (vs := [(0, ki), (0, 2)]) (rest := [(0, z56)]) (rs := [(0, g21_21 (ki * 4 + 2)), (0, z56)]) (cn1 := 0) (sl1 := 0) rfl (rgetX (lim := 12) (wd := 4) (sz := f20_18) (hF46.get (by decide) (hF29.get (by decide) h20_20)) ((h21_22.fr hF29 (by decide)).fr hF46 (by decide)) (by decide) (by omega) (by decide) (by decide) (by omega) (by decide)) rfl (hF46.get (by decide) (hF29.get (by decide) h20_20)) rfl rfl rfl rfl rfl rfl rfl) (Nat.lt_succ_of_le ((hb23) _)) (fun z62 hz63 he64 => ?_)
          have ht65 : rwv w 21 (4 * ki + 2) = z62 := by
            rw [show 4 * ki + 2 = ki * 4 + 2 by omega]
            exact (hg _ (by omega)).trans he64
          have ht66 : z62 ≤ 99 := by omega
          by_cases hc67 : z56 = z62
          · refine xg_t (xg_icT (u := z56) (v := z62) rfl xnm0 xnm0 (xj_eqT hc67)) ?_
            refine xg_t (xg_blk (b := [(102, 1, 3, 0, 0, 0)]) rfl) ?_
            refine xg_t (xg_const) ?_
            refine xg_t (xg_blk (b := [(103, 2, 15, 8, 0, 0), (105, 2, 2, 7, 0, 0), (107, 3, 7, 115, 1, 0), (110, 2, 2, 8, 0, 0), (112, 3, 7, 122, 0, 0)]) rfl) ?_
            refine xg_t (xg_istore (l1 := [(7, (0, 0)), (6, (0, z56)), (5, (0, z51)), (4, (0, n47)), (0, (2, 76)), (1, (0, la)), (2, (0, se)), (3, (0, ki))]) rfl rfl rfl) ?_
            refine xg_t (xg_iload (va := (0, 0)) rfl rfl) ?_
            refine xg_t (xg_ifF (u := 0) rfl xnm0 (by decide)) ?_
            refine xg_t (xg_iload (va := (0, 0)) rfl rfl) ?_
            refine xg_t (xg_ifT (u := 0) rfl xnm0 (by decide)) ?_
            refine xg_t (xg_blk (b := [(122, 3, 9, 3, 1, 0), (125, 3, 8, 4, 0, 0)]) rfl) ?_
            refine xg_t (xg_iinc (u := ki) (z := ki + 1) (l1 := [(8, (0, 0)), (7, (0, 0)), (6, (0, z56)), (5, (0, z51)), (4, (0, n47)), (0, (2, 76)), (1, (0, la)), (2, (0, se))]) rfl rfl (by omega) rfl) ?_
            refine xg_t (xg_goto) ?_
            refine xg_t (xg_drop (l1 := [(0, (2, 76)), (1, (0, la)), (2, (0, se)), (3, (0, ki + 1))]) (List.forall_mem_cons.mpr ⟨List.mem_cons_of_mem _ (List.mem_cons_of_mem _ (List.mem_cons_of_mem _ (List.mem_cons_of_mem _ (List.mem_cons_of_mem _ (List.mem_cons_of_mem _ (List.mem_cons_self)))))), List.forall_mem_cons.mpr ⟨List.mem_cons_of_mem _ (List.mem_cons_of_mem _ (List.mem_cons_of_mem _ (List.mem_cons_of_mem _ (List.mem_cons_of_mem _ (List.mem_cons_of_mem _ (List.mem_cons_of_mem _ (List.mem_cons_self))))))), List.forall_mem_cons.mpr ⟨List.mem_cons_of_mem _ (List.mem_cons_of_mem _ (List.mem_cons_of_mem _ (List.mem_cons_of_mem _ (List.mem_cons_of_mem _ (List.mem_cons_of_mem _ (List.mem_cons_of_mem _ (List.mem_cons_of_mem _ (List.mem_cons_self)))))))), List.forall_mem_cons.mpr ⟨List.mem_cons_self, fun _ h => absurd h List.not_mem_nil⟩⟩⟩⟩)) ?_
            have hb68 := tB_f (la := la) ht41 ht54 ht65 ht59 (by omega)
            have hy69 := tA_n hb68
            exact ih25 se (ki + 1) w43 (by omega) (by omega) (by omega) (hI45) ((hF29.tr (hF46.up (by decide)))) (⟨by omega, by omega⟩)
          · refine xg_t (xg_icF (u := z56) (v := z62) rfl xnm0 xnm0 (xj_eqF hc67)) ?_
            refine xg_t (xg_iload (va := (0, z51)) rfl rfl) ?_
            refine xg_t (xg_bip) ?_
            refine xg_t (xg_iload (va := (0, n47)) rfl rfl) ?_
            refine xg_t (xg_imul (u := 12) (v := n47) (z := 12 * n47) xnm0 xnm0 (by omega)) ?_
            by_cases hc70 : z51 < (12 * n47)
            · refine xg_t (xg_icT (u := z51) (v := 12 * n47) rfl xnm0 xnm0 (xj_ltT hc70 (by omega))) ?_
              refine xg_t (xg_blk (b := [(102, 1, 3, 0, 0, 0)]) rfl) ?_
              refine xg_t (xg_const) ?_
              refine xg_t (xg_blk (b := [(103, 2, 15, 8, 0, 0), (105, 2, 2, 7, 0, 0), (107, 3, 7, 115, 1, 0), (110, 2, 2, 8, 0, 0), (112, 3, 7, 122, 0, 0)]) rfl) ?_
              refine xg_t (xg_istore (l1 := [(7, (0, 0)), (6, (0, z56)), (5, (0, z51)), (4, (0, n47)), (0, (2, 76)), (1, (0, la)), (2, (0, se)), (3, (0, ki))]) rfl rfl rfl) ?_
              refine xg_t (xg_iload (va := (0, 0)) rfl rfl) ?_
              refine xg_t (xg_ifF (u := 0) rfl xnm0 (by decide)) ?_
              refine xg_t (xg_iload (va := (0, 0)) rfl rfl) ?_
              refine xg_t (xg_ifT (u := 0) rfl xnm0 (by decide)) ?_
              refine xg_t (xg_blk (b := [(122, 3, 9, 3, 1, 0), (125, 3, 8, 4, 0, 0)]) rfl) ?_
              refine xg_t (xg_iinc (u := ki) (z := ki + 1) (l1 := [(8, (0, 0)), (7, (0, 0)), (6, (0, z56)), (5, (0, z51)), (4, (0, n47)), (0, (2, 76)), (1, (0, la)), (2, (0, se))]) rfl rfl (by omega) rfl) ?_
              refine xg_t (xg_goto) ?_
              refine xg_t (xg_drop (l1 := [(0, (2, 76)), (1, (0, la)), (2, (0, se)), (3, (0, ki + 1))]) (List.forall_mem_cons.mpr ⟨List.mem_cons_of_mem _ (List.mem_cons_of_mem _ (List.mem_cons_of_mem _ (List.mem_cons_of_mem _ (List.mem_cons_of_mem _ (List.mem_cons_of_mem _ (List.mem_cons_self)))))), List.forall_mem_cons.mpr ⟨List.mem_cons_of_mem _ (List.mem_cons_of_mem _ (List.mem_cons_of_mem _ (List.mem_cons_of_mem _ (List.mem_cons_of_mem _ (List.mem_cons_of_mem _ (List.mem_cons_of_mem _ (List.mem_cons_self))))))), List.forall_mem_cons.mpr ⟨List.mem_cons_of_mem _ (List.mem_cons_of_mem _ (List.mem_cons_of_mem _ (List.mem_cons_of_mem _ (List.mem_cons_of_mem _ (List.mem_cons_of_mem _ (List.mem_cons_of_mem _ (List.mem_cons_of_mem _ (List.mem_cons_self)))))))), List.forall_mem_cons.mpr ⟨List.mem_cons_self, fun _ h => absurd h List.not_mem_nil⟩⟩⟩⟩)) ?_
              have hb71 := tB_f (la := la) ht41 ht54 ht65 ht59 (by omega)
              have hy72 := tA_n hb71
              exact ih25 se (ki + 1) w43 (by omega) (by omega) (by omega) (hI45) ((hF29.tr (hF46.up (by decide)))) (⟨by omega, by omega⟩)
            · refine xg_t (xg_icF (u := z51) (v := 12 * n47) rfl xnm0 xnm0 (xj_ltF (by omega) (by omega))) ?_
              refine xg_t (xg_const) ?_
              refine xg_t (xg_goto) ?_
              refine xg_t (xg_blk (b := [(103, 2, 15, 8, 0, 0), (105, 2, 2, 7, 0, 0), (107, 3, 7, 115, 1, 0), (110, 2, 2, 8, 0, 0), (112, 3, 7, 122, 0, 0)]) rfl) ?_
              refine xg_t (xg_istore (l1 := [(7, (0, 0)), (6, (0, z56)), (5, (0, z51)), (4, (0, n47)), (0, (2, 76)), (1, (0, la)), (2, (0, se)), (3, (0, ki))]) rfl rfl rfl) ?_
              refine xg_t (xg_iload (va := (0, 0)) rfl rfl) ?_
              refine xg_t (xg_ifF (u := 0) rfl xnm0 (by decide)) ?_
              refine xg_t (xg_iload (va := (0, 1)) rfl rfl) ?_
              refine xg_t (xg_ifF (u := 1) rfl xnm0 (by decide)) ?_
              refine xg_t (xg_blk (b := [(115, 1, 2, 2, 0, 0), (116, 1, 2, 3, 0, 0), (117, 3, 13, 270, 34, 57), (120, 1, 38, 0, 0, 0), (121, 1, 15, 2, 0, 0)]) rfl) ?_
              refine xg_t (xg_iload (va := (0, se)) rfl rfl) ?_
              refine xg_t (xg_iload (va := (0, ki)) rfl rfl) ?_
              refine xg_cSi mX4_bitOf (vs := [(0, ki)]) (rest := [(0, se)]) (cn1 := 0) (sl1 := 0) rfl (lwBitOfX (hI45) (by omega)) rfl rfl rfl rfl rfl rfl rfl (fun n77 w73 hq74 => ?_)
              obtain ⟨hn78, hI75, hF76⟩ := hq74
              obtain ⟨hu79, hu80⟩ := hn78
              have hb81 := tB_t (la := la) ht41 ht54 ht65 ht59 (by omega)
              have hy82 := tA_y hb81
              have hl83 := tA_lt (t := rwv w 21) (la := la) (k := ki + 1) (by omega)
              refine xg_t (xg_ior (u := se) (v := n77) (z := se + n77) xnm0 xnm0 (by rw [he34, hu79]; exact tA_or (by omega))) ?_
              have hl84 : se + n77 ≤ 4095 := by omega
              refine xg_t (xg_istore (l1 := [(8, (0, 1)), (7, (0, 0)), (6, (0, z56)), (5, (0, z51)), (4, (0, n47)), (0, (2, 76)), (1, (0, la)), (3, (0, ki))]) rfl rfl rfl) ?_
              refine xg_t (xg_blk (b := [(122, 3, 9, 3, 1, 0), (125, 3, 8, 4, 0, 0)]) rfl) ?_
              refine xg_t (xg_iinc (u := ki) (z := ki + 1) (l1 := [(2, (0, se + n77)), (8, (0, 1)), (7, (0, 0)), (6, (0, z56)), (5, (0, z51)), (4, (0, n47)), (0, (2, 76)), (1, (0, la))]) rfl rfl (by omega) rfl) ?_
              refine xg_t (xg_goto) ?_
              refine xg_t (xg_drop (l1 := [(0, (2, 76)), (1, (0, la)), (2, (0, se + n77)), (3, (0, ki + 1))]) (List.forall_mem_cons.mpr ⟨List.mem_cons_of_mem _ (List.mem_cons_of_mem _ (List.mem_cons_of_mem _ (List.mem_cons_of_mem _ (List.mem_cons_of_mem _ (List.mem_cons_of_mem _ (List.mem_cons_of_mem _ (List.mem_cons_self))))))), List.forall_mem_cons.mpr ⟨List.mem_cons_of_mem _ (List.mem_cons_of_mem _ (List.mem_cons_of_mem _ (List.mem_cons_of_mem _ (List.mem_cons_of_mem _ (List.mem_cons_of_mem _ (List.mem_cons_of_mem _ (List.mem_cons_of_mem _ (List.mem_cons_self)))))))), List.forall_mem_cons.mpr ⟨List.mem_cons_of_mem _ (List.mem_cons_self), List.forall_mem_cons.mpr ⟨List.mem_cons_self, fun _ h => absurd h List.not_mem_nil⟩⟩⟩⟩)) ?_
              exact ih25 (se + n77) (ki + 1) w73 (by omega) (by omega) (by omega) (hI75) (((hF29.tr (hF46.up (by decide))).tr (hF76.up (by decide)))) (⟨by omega, by omega⟩)
        · refine xg_t (xg_ifF (u := z56) rfl xnm0 (xj_eqF hc61)) ?_
          refine xg_t (xg_iload (va := (0, z51)) rfl rfl) ?_
          refine xg_t (xg_bip) ?_
          refine xg_t (xg_iload (va := (0, n47)) rfl rfl) ?_
          refine xg_t (xg_imul (u := 8) (v := n47) (z := 8 * n47) xnm0 xnm0 (by omega)) ?_
          by_cases hc85 : z51 < (8 * n47)
          · refine xg_t (xg_icF (u := z51) (v := 8 * n47) rfl xnm0 xnm0 (xj_geF hc85 (by omega))) ?_
            refine xg_t (xg_const) ?_
            refine xg_t (xg_goto) ?_
            refine xg_t (xg_blk (b := [(72, 2, 15, 7, 0, 0), (74, 2, 2, 6, 0, 0), (76, 1, 0, 0, 0, 0), (77, 3, 1, 4, 0, 21), (80, 1, 2, 3, 0, 0), (81, 1, 3, 2, 0, 0), (82, 3, 13, 285, 40, 50), (85, 3, 6, 102, 0, 0), (88, 2, 2, 5, 0, 0), (90, 2, 4, 12, 0, 0), (92, 2, 2, 4, 0, 0), (94, 1, 16, 0, 0, 0), (95, 3, 6, 102, 2, 0), (98, 1, 3, 1, 0, 0), (99, 3, 8, 103, 0, 0)]) rfl) ?_
            refine xg_t (xg_istore (l1 := [(6, (0, z56)), (5, (0, z51)), (4, (0, n47)), (0, (2, 76)), (1, (0, la)), (2, (0, se)), (3, (0, ki))]) rfl rfl rfl) ?_
            refine xg_t (xg_iload (va := (0, z56)) rfl rfl) ?_
            refine xg_t (xg_aload (va := (2, 76)) rfl rfl) ?_
            refine xg_t (xg_getf (va := (2, 20)) (hF46.get (by decide) (hF29.get (by decide) h76_17)) rfl) ?_
            refine xg_t (xg_iload (va := (0, ki)) rfl rfl) ?_
            refine xg_t (xg_const) ?_
            refine xg_kE (xg_cVr mX5_get (vs := [(0, ki), (0, 2)]) (rest := [(0, z56)]) (rs := [(0, g21_21 (ki * 4 + 2)), (0, z56)]) (cn1 := 0) (sl1 := 0) rfl (rgetX (lim := 12) (wd := 4) (sz := f20_18) (hF46.get (by decide) (hF29.get (by decide) h20_20)) ((h21_22.fr hF29 (by decide)).fr hF46 (by decide)) (by decide) (by omega) (by decide) (by decide) (by omega) (by decide)) rfl (hF46.get (by decide) (hF29.get (by decide) h20_20)) rfl rfl rfl rfl rfl rfl rfl) (Nat.lt_succ_of_le ((hb23) _)) (fun z86 hz87 he88 => ?_)
            have ht89 : rwv w 21 (4 * ki + 2) = z86 := by
              rw [show 4 * ki + 2 = ki * 4 + 2 by omega]
              exact (hg _ (by omega)).trans he88
            have ht90 : z86 ≤ 99 := by omega
            by_cases hc91 : z56 = z86
            · refine xg_t (xg_icT (u := z56) (v := z86) rfl xnm0 xnm0 (xj_eqT hc91)) ?_
              refine xg_t (xg_blk (b := [(102, 1, 3, 0, 0, 0)]) rfl) ?_
              refine xg_t (xg_const) ?_
              refine xg_t (xg_blk (b := [(103, 2, 15, 8, 0, 0), (105, 2, 2, 7, 0, 0), (107, 3, 7, 115, 1, 0), (110, 2, 2, 8, 0, 0), (112, 3, 7, 122, 0, 0)]) rfl) ?_
              refine xg_t (xg_istore (l1 := [(7, (0, 1)), (6, (0, z56)), (5, (0, z51)), (4, (0, n47)), (0, (2, 76)), (1, (0, la)), (2, (0, se)), (3, (0, ki))]) rfl rfl rfl) ?_
              refine xg_t (xg_iload (va := (0, 1)) rfl rfl) ?_
              refine xg_t (xg_ifT (u := 1) rfl xnm0 (by decide)) ?_
              refine xg_t (xg_blk (b := [(115, 1, 2, 2, 0, 0), (116, 1, 2, 3, 0, 0), (117, 3, 13, 270, 34, 57), (120, 1, 38, 0, 0, 0), (121, 1, 15, 2, 0, 0)]) rfl) ?_
              refine xg_t (xg_iload (va := (0, se)) rfl rfl) ?_
              refine xg_t (xg_iload (va := (0, ki)) rfl rfl) ?_
              refine xg_cSi mX4_bitOf (vs := [(0, ki)]) (rest := [(0, se)]) (cn1 := 0) (sl1 := 0) rfl (lwBitOfX (hI45) (by omega)) rfl rfl rfl rfl rfl rfl rfl (fun n96 w92 hq93 => ?_)
              obtain ⟨hn97, hI94, hF95⟩ := hq93
              obtain ⟨hu98, hu99⟩ := hn97
              have hb100 := tB_t (la := la) ht41 ht54 ht89 ht59 (by omega)
              have hy101 := tA_y hb100
              have hl102 := tA_lt (t := rwv w 21) (la := la) (k := ki + 1) (by omega)
              refine xg_t (xg_ior (u := se) (v := n96) (z := se + n96) xnm0 xnm0 (by rw [he34, hu98]; exact tA_or (by omega))) ?_
              have hl103 : se + n96 ≤ 4095 := by omega
              refine xg_t (xg_istore (l1 := [(8, (0, 0)), (7, (0, 1)), (6, (0, z56)), (5, (0, z51)), (4, (0, n47)), (0, (2, 76)), (1, (0, la)), (3, (0, ki))]) rfl rfl rfl) ?_
              refine xg_t (xg_blk (b := [(122, 3, 9, 3, 1, 0), (125, 3, 8, 4, 0, 0)]) rfl) ?_
              refine xg_t (xg_iinc (u := ki) (z := ki + 1) (l1 := [(2, (0, se + n96)), (8, (0, 0)), (7, (0, 1)), (6, (0, z56)), (5, (0, z51)), (4, (0, n47)), (0, (2, 76)), (1, (0, la))]) rfl rfl (by omega) rfl) ?_
              refine xg_t (xg_goto) ?_
              refine xg_t (xg_drop (l1 := [(0, (2, 76)), (1, (0, la)), (2, (0, se + n96)), (3, (0, ki + 1))]) (List.forall_mem_cons.mpr ⟨List.mem_cons_of_mem _ (List.mem_cons_of_mem _ (List.mem_cons_of_mem _ (List.mem_cons_of_mem _ (List.mem_cons_of_mem _ (List.mem_cons_of_mem _ (List.mem_cons_of_mem _ (List.mem_cons_self))))))), List.forall_mem_cons.mpr ⟨List.mem_cons_of_mem _ (List.mem_cons_of_mem _ (List.mem_cons_of_mem _ (List.mem_cons_of_mem _ (List.mem_cons_of_mem _ (List.mem_cons_of_mem _ (List.mem_cons_of_mem _ (List.mem_cons_of_mem _ (List.mem_cons_self)))))))), List.forall_mem_cons.mpr ⟨List.mem_cons_of_mem _ (List.mem_cons_self), List.forall_mem_cons.mpr ⟨List.mem_cons_self, fun _ h => absurd h List.not_mem_nil⟩⟩⟩⟩)) ?_
              exact ih25 (se + n96) (ki + 1) w92 (by omega) (by omega) (by omega) (hI94) (((hF29.tr (hF46.up (by decide))).tr (hF95.up (by decide)))) (⟨by omega, by omega⟩)
            · refine xg_t (xg_icF (u := z56) (v := z86) rfl xnm0 xnm0 (xj_eqF hc91)) ?_
              refine xg_t (xg_iload (va := (0, z51)) rfl rfl) ?_
              refine xg_t (xg_bip) ?_
              refine xg_t (xg_iload (va := (0, n47)) rfl rfl) ?_
              refine xg_t (xg_imul (u := 12) (v := n47) (z := 12 * n47) xnm0 xnm0 (by omega)) ?_
              by_cases hc104 : z51 < (12 * n47)
              · refine xg_t (xg_icT (u := z51) (v := 12 * n47) rfl xnm0 xnm0 (xj_ltT hc104 (by omega))) ?_
                refine xg_t (xg_blk (b := [(102, 1, 3, 0, 0, 0)]) rfl) ?_
                refine xg_t (xg_const) ?_
                refine xg_t (xg_blk (b := [(103, 2, 15, 8, 0, 0), (105, 2, 2, 7, 0, 0), (107, 3, 7, 115, 1, 0), (110, 2, 2, 8, 0, 0), (112, 3, 7, 122, 0, 0)]) rfl) ?_
                refine xg_t (xg_istore (l1 := [(7, (0, 1)), (6, (0, z56)), (5, (0, z51)), (4, (0, n47)), (0, (2, 76)), (1, (0, la)), (2, (0, se)), (3, (0, ki))]) rfl rfl rfl) ?_
                refine xg_t (xg_iload (va := (0, 1)) rfl rfl) ?_
                refine xg_t (xg_ifT (u := 1) rfl xnm0 (by decide)) ?_
                refine xg_t (xg_blk (b := [(115, 1, 2, 2, 0, 0), (116, 1, 2, 3, 0, 0), (117, 3, 13, 270, 34, 57), (120, 1, 38, 0, 0, 0), (121, 1, 15, 2, 0, 0)]) rfl) ?_
                refine xg_t (xg_iload (va := (0, se)) rfl rfl) ?_
                refine xg_t (xg_iload (va := (0, ki)) rfl rfl) ?_
                refine xg_cSi mX4_bitOf (vs := [(0, ki)]) (rest := [(0, se)]) (cn1 := 0) (sl1 := 0) rfl (lwBitOfX (hI45) (by omega)) rfl rfl rfl rfl rfl rfl rfl (fun n109 w105 hq106 => ?_)
                obtain ⟨hn110, hI107, hF108⟩ := hq106
                obtain ⟨hu111, hu112⟩ := hn110
                have hb113 := tB_t (la := la) ht41 ht54 ht89 ht59 (by omega)
                have hy114 := tA_y hb113
                have hl115 := tA_lt (t := rwv w 21) (la := la) (k := ki + 1) (by omega)
                refine xg_t (xg_ior (u := se) (v := n109) (z := se + n109) xnm0 xnm0 (by rw [he34, hu111]; exact tA_or (by omega))) ?_
                have hl116 : se + n109 ≤ 4095 := by omega
                refine xg_t (xg_istore (l1 := [(8, (0, 0)), (7, (0, 1)), (6, (0, z56)), (5, (0, z51)), (4, (0, n47)), (0, (2, 76)), (1, (0, la)), (3, (0, ki))]) rfl rfl rfl) ?_
                refine xg_t (xg_blk (b := [(122, 3, 9, 3, 1, 0), (125, 3, 8, 4, 0, 0)]) rfl) ?_
                refine xg_t (xg_iinc (u := ki) (z := ki + 1) (l1 := [(2, (0, se + n109)), (8, (0, 0)), (7, (0, 1)), (6, (0, z56)), (5, (0, z51)), (4, (0, n47)), (0, (2, 76)), (1, (0, la))]) rfl rfl (by omega) rfl) ?_
                refine xg_t (xg_goto) ?_
                refine xg_t (xg_drop (l1 := [(0, (2, 76)), (1, (0, la)), (2, (0, se + n109)), (3, (0, ki + 1))]) (List.forall_mem_cons.mpr ⟨List.mem_cons_of_mem _ (List.mem_cons_of_mem _ (List.mem_cons_of_mem _ (List.mem_cons_of_mem _ (List.mem_cons_of_mem _ (List.mem_cons_of_mem _ (List.mem_cons_of_mem _ (List.mem_cons_self))))))), List.forall_mem_cons.mpr ⟨List.mem_cons_of_mem _ (List.mem_cons_of_mem _ (List.mem_cons_of_mem _ (List.mem_cons_of_mem _ (List.mem_cons_of_mem _ (List.mem_cons_of_mem _ (List.mem_cons_of_mem _ (List.mem_cons_of_mem _ (List.mem_cons_self)))))))), List.forall_mem_cons.mpr ⟨List.mem_cons_of_mem _ (List.mem_cons_self), List.forall_mem_cons.mpr ⟨List.mem_cons_self, fun _ h => absurd h List.not_mem_nil⟩⟩⟩⟩)) ?_
                exact ih25 (se + n109) (ki + 1) w105 (by omega) (by omega) (by omega) (hI107) (((hF29.tr (hF46.up (by decide))).tr (hF108.up (by decide)))) (⟨by omega, by omega⟩)
              · refine xg_t (xg_icF (u := z51) (v := 12 * n47) rfl xnm0 xnm0 (xj_ltF (by omega) (by omega))) ?_
                refine xg_t (xg_const) ?_
                refine xg_t (xg_goto) ?_
                refine xg_t (xg_blk (b := [(103, 2, 15, 8, 0, 0), (105, 2, 2, 7, 0, 0), (107, 3, 7, 115, 1, 0), (110, 2, 2, 8, 0, 0), (112, 3, 7, 122, 0, 0)]) rfl) ?_
                refine xg_t (xg_istore (l1 := [(7, (0, 1)), (6, (0, z56)), (5, (0, z51)), (4, (0, n47)), (0, (2, 76)), (1, (0, la)), (2, (0, se)), (3, (0, ki))]) rfl rfl rfl) ?_
                refine xg_t (xg_iload (va := (0, 1)) rfl rfl) ?_
                refine xg_t (xg_ifT (u := 1) rfl xnm0 (by decide)) ?_
                refine xg_t (xg_blk (b := [(115, 1, 2, 2, 0, 0), (116, 1, 2, 3, 0, 0), (117, 3, 13, 270, 34, 57), (120, 1, 38, 0, 0, 0), (121, 1, 15, 2, 0, 0)]) rfl) ?_
                refine xg_t (xg_iload (va := (0, se)) rfl rfl) ?_
                refine xg_t (xg_iload (va := (0, ki)) rfl rfl) ?_
                refine xg_cSi mX4_bitOf (vs := [(0, ki)]) (rest := [(0, se)]) (cn1 := 0) (sl1 := 0) rfl (lwBitOfX (hI45) (by omega)) rfl rfl rfl rfl rfl rfl rfl (fun n121 w117 hq118 => ?_)
                obtain ⟨hn122, hI119, hF120⟩ := hq118
                obtain ⟨hu123, hu124⟩ := hn122
                have hb125 := tB_t (la := la) ht41 ht54 ht89 ht59 (by omega)
                have hy126 := tA_y hb125
                have hl127 := tA_lt (t := rwv w 21) (la := la) (k := ki + 1) (by omega)
                refine xg_t (xg_ior (u := se) (v := n121) (z := se + n121) xnm0 xnm0 (by rw [he34, hu123]; exact tA_or (by omega))) ?_
                have hl128 : se + n121 ≤ 4095 := by omega
                refine xg_t (xg_istore (l1 := [(8, (0, 1)), (7, (0, 1)), (6, (0, z56)), (5, (0, z51)), (4, (0, n47)), (0, (2, 76)), (1, (0, la)), (3, (0, ki))]) rfl rfl rfl) ?_
                refine xg_t (xg_blk (b := [(122, 3, 9, 3, 1, 0), (125, 3, 8, 4, 0, 0)]) rfl) ?_
                refine xg_t (xg_iinc (u := ki) (z := ki + 1) (l1 := [(2, (0, se + n121)), (8, (0, 1)), (7, (0, 1)), (6, (0, z56)), (5, (0, z51)), (4, (0, n47)), (0, (2, 76)), (1, (0, la))]) rfl rfl (by omega) rfl) ?_
                refine xg_t (xg_goto) ?_
                refine xg_t (xg_drop (l1 := [(0, (2, 76)), (1, (0, la)), (2, (0, se + n121)), (3, (0, ki + 1))]) (List.forall_mem_cons.mpr ⟨List.mem_cons_of_mem _ (List.mem_cons_of_mem _ (List.mem_cons_of_mem _ (List.mem_cons_of_mem _ (List.mem_cons_of_mem _ (List.mem_cons_of_mem _ (List.mem_cons_of_mem _ (List.mem_cons_self))))))), List.forall_mem_cons.mpr ⟨List.mem_cons_of_mem _ (List.mem_cons_of_mem _ (List.mem_cons_of_mem _ (List.mem_cons_of_mem _ (List.mem_cons_of_mem _ (List.mem_cons_of_mem _ (List.mem_cons_of_mem _ (List.mem_cons_of_mem _ (List.mem_cons_self)))))))), List.forall_mem_cons.mpr ⟨List.mem_cons_of_mem _ (List.mem_cons_self), List.forall_mem_cons.mpr ⟨List.mem_cons_self, fun _ h => absurd h List.not_mem_nil⟩⟩⟩⟩)) ?_
                exact ih25 (se + n121) (ki + 1) w117 (by omega) (by omega) (by omega) (hI119) (((hF29.tr (hF46.up (by decide))).tr (hF120.up (by decide)))) (⟨by omega, by omega⟩)
          · refine xg_t (xg_icT (u := z51) (v := 8 * n47) rfl xnm0 xnm0 (xj_geT (by omega) (by omega))) ?_
            refine xg_t (xg_blk (b := [(71, 1, 3, 0, 0, 0)]) rfl) ?_
            refine xg_t (xg_const) ?_
            refine xg_t (xg_blk (b := [(72, 2, 15, 7, 0, 0), (74, 2, 2, 6, 0, 0), (76, 1, 0, 0, 0, 0), (77, 3, 1, 4, 0, 21), (80, 1, 2, 3, 0, 0), (81, 1, 3, 2, 0, 0), (82, 3, 13, 285, 40, 50), (85, 3, 6, 102, 0, 0), (88, 2, 2, 5, 0, 0), (90, 2, 4, 12, 0, 0), (92, 2, 2, 4, 0, 0), (94, 1, 16, 0, 0, 0), (95, 3, 6, 102, 2, 0), (98, 1, 3, 1, 0, 0), (99, 3, 8, 103, 0, 0)]) rfl) ?_
            refine xg_t (xg_istore (l1 := [(6, (0, z56)), (5, (0, z51)), (4, (0, n47)), (0, (2, 76)), (1, (0, la)), (2, (0, se)), (3, (0, ki))]) rfl rfl rfl) ?_
            refine xg_t (xg_iload (va := (0, z56)) rfl rfl) ?_
            refine xg_t (xg_aload (va := (2, 76)) rfl rfl) ?_
            refine xg_t (xg_getf (va := (2, 20)) (hF46.get (by decide) (hF29.get (by decide) h76_17)) rfl) ?_
            refine xg_t (xg_iload (va := (0, ki)) rfl rfl) ?_
            refine xg_t (xg_const) ?_
            refine xg_kE (xg_cVr mX5_get (vs := [(0, ki), (0, 2)]) (rest := [(0, z56)]) (rs := [(0, g21_21 (ki * 4 + 2)), (0, z56)]) (cn1 := 0) (sl1 := 0) rfl (rgetX (lim := 12) (wd := 4) (sz := f20_18) (hF46.get (by decide) (hF29.get (by decide) h20_20)) ((h21_22.fr hF29 (by decide)).fr hF46 (by decide)) (by decide) (by omega) (by decide) (by decide) (by omega) (by decide)) rfl (hF46.get (by decide) (hF29.get (by decide) h20_20)) rfl rfl rfl rfl rfl rfl rfl) (Nat.lt_succ_of_le ((hb23) _)) (fun z129 hz130 he131 => ?_)
            have ht132 : rwv w 21 (4 * ki + 2) = z129 := by
              rw [show 4 * ki + 2 = ki * 4 + 2 by omega]
              exact (hg _ (by omega)).trans he131
            have ht133 : z129 ≤ 99 := by omega
            by_cases hc134 : z56 = z129
            · refine xg_t (xg_icT (u := z56) (v := z129) rfl xnm0 xnm0 (xj_eqT hc134)) ?_
              refine xg_t (xg_blk (b := [(102, 1, 3, 0, 0, 0)]) rfl) ?_
              refine xg_t (xg_const) ?_
              refine xg_t (xg_blk (b := [(103, 2, 15, 8, 0, 0), (105, 2, 2, 7, 0, 0), (107, 3, 7, 115, 1, 0), (110, 2, 2, 8, 0, 0), (112, 3, 7, 122, 0, 0)]) rfl) ?_
              refine xg_t (xg_istore (l1 := [(7, (0, 0)), (6, (0, z56)), (5, (0, z51)), (4, (0, n47)), (0, (2, 76)), (1, (0, la)), (2, (0, se)), (3, (0, ki))]) rfl rfl rfl) ?_
              refine xg_t (xg_iload (va := (0, 0)) rfl rfl) ?_
              refine xg_t (xg_ifF (u := 0) rfl xnm0 (by decide)) ?_
              refine xg_t (xg_iload (va := (0, 0)) rfl rfl) ?_
              refine xg_t (xg_ifT (u := 0) rfl xnm0 (by decide)) ?_
              refine xg_t (xg_blk (b := [(122, 3, 9, 3, 1, 0), (125, 3, 8, 4, 0, 0)]) rfl) ?_
              refine xg_t (xg_iinc (u := ki) (z := ki + 1) (l1 := [(8, (0, 0)), (7, (0, 0)), (6, (0, z56)), (5, (0, z51)), (4, (0, n47)), (0, (2, 76)), (1, (0, la)), (2, (0, se))]) rfl rfl (by omega) rfl) ?_
              refine xg_t (xg_goto) ?_
              refine xg_t (xg_drop (l1 := [(0, (2, 76)), (1, (0, la)), (2, (0, se)), (3, (0, ki + 1))]) (List.forall_mem_cons.mpr ⟨List.mem_cons_of_mem _ (List.mem_cons_of_mem _ (List.mem_cons_of_mem _ (List.mem_cons_of_mem _ (List.mem_cons_of_mem _ (List.mem_cons_of_mem _ (List.mem_cons_self)))))), List.forall_mem_cons.mpr ⟨List.mem_cons_of_mem _ (List.mem_cons_of_mem _ (List.mem_cons_of_mem _ (List.mem_cons_of_mem _ (List.mem_cons_of_mem _ (List.mem_cons_of_mem _ (List.mem_cons_of_mem _ (List.mem_cons_self))))))), List.forall_mem_cons.mpr ⟨List.mem_cons_of_mem _ (List.mem_cons_of_mem _ (List.mem_cons_of_mem _ (List.mem_cons_of_mem _ (List.mem_cons_of_mem _ (List.mem_cons_of_mem _ (List.mem_cons_of_mem _ (List.mem_cons_of_mem _ (List.mem_cons_self)))))))), List.forall_mem_cons.mpr ⟨List.mem_cons_self, fun _ h => absurd h List.not_mem_nil⟩⟩⟩⟩)) ?_
              have hb135 := tB_f (la := la) ht41 ht54 ht132 ht59 (by omega)
              have hy136 := tA_n hb135
              exact ih25 se (ki + 1) w43 (by omega) (by omega) (by omega) (hI45) ((hF29.tr (hF46.up (by decide)))) (⟨by omega, by omega⟩)
            · refine xg_t (xg_icF (u := z56) (v := z129) rfl xnm0 xnm0 (xj_eqF hc134)) ?_
              refine xg_t (xg_iload (va := (0, z51)) rfl rfl) ?_
              refine xg_t (xg_bip) ?_
              refine xg_t (xg_iload (va := (0, n47)) rfl rfl) ?_
              refine xg_t (xg_imul (u := 12) (v := n47) (z := 12 * n47) xnm0 xnm0 (by omega)) ?_
              by_cases hc137 : z51 < (12 * n47)
              · refine xg_t (xg_icT (u := z51) (v := 12 * n47) rfl xnm0 xnm0 (xj_ltT hc137 (by omega))) ?_
                refine xg_t (xg_blk (b := [(102, 1, 3, 0, 0, 0)]) rfl) ?_
                refine xg_t (xg_const) ?_
                refine xg_t (xg_blk (b := [(103, 2, 15, 8, 0, 0), (105, 2, 2, 7, 0, 0), (107, 3, 7, 115, 1, 0), (110, 2, 2, 8, 0, 0), (112, 3, 7, 122, 0, 0)]) rfl) ?_
                refine xg_t (xg_istore (l1 := [(7, (0, 0)), (6, (0, z56)), (5, (0, z51)), (4, (0, n47)), (0, (2, 76)), (1, (0, la)), (2, (0, se)), (3, (0, ki))]) rfl rfl rfl) ?_
                refine xg_t (xg_iload (va := (0, 0)) rfl rfl) ?_
                refine xg_t (xg_ifF (u := 0) rfl xnm0 (by decide)) ?_
                refine xg_t (xg_iload (va := (0, 0)) rfl rfl) ?_
                refine xg_t (xg_ifT (u := 0) rfl xnm0 (by decide)) ?_
                refine xg_t (xg_blk (b := [(122, 3, 9, 3, 1, 0), (125, 3, 8, 4, 0, 0)]) rfl) ?_
                refine xg_t (xg_iinc (u := ki) (z := ki + 1) (l1 := [(8, (0, 0)), (7, (0, 0)), (6, (0, z56)), (5, (0, z51)), (4, (0, n47)), (0, (2, 76)), (1, (0, la)), (2, (0, se))]) rfl rfl (by omega) rfl) ?_
                refine xg_t (xg_goto) ?_
                refine xg_t (xg_drop (l1 := [(0, (2, 76)), (1, (0, la)), (2, (0, se)), (3, (0, ki + 1))]) (List.forall_mem_cons.mpr ⟨List.mem_cons_of_mem _ (List.mem_cons_of_mem _ (List.mem_cons_of_mem _ (List.mem_cons_of_mem _ (List.mem_cons_of_mem _ (List.mem_cons_of_mem _ (List.mem_cons_self)))))), List.forall_mem_cons.mpr ⟨List.mem_cons_of_mem _ (List.mem_cons_of_mem _ (List.mem_cons_of_mem _ (List.mem_cons_of_mem _ (List.mem_cons_of_mem _ (List.mem_cons_of_mem _ (List.mem_cons_of_mem _ (List.mem_cons_self))))))), List.forall_mem_cons.mpr ⟨List.mem_cons_of_mem _ (List.mem_cons_of_mem _ (List.mem_cons_of_mem _ (List.mem_cons_of_mem _ (List.mem_cons_of_mem _ (List.mem_cons_of_mem _ (List.mem_cons_of_mem _ (List.mem_cons_of_mem _ (List.mem_cons_self)))))))), List.forall_mem_cons.mpr ⟨List.mem_cons_self, fun _ h => absurd h List.not_mem_nil⟩⟩⟩⟩)) ?_
                have hb138 := tB_f (la := la) ht41 ht54 ht132 ht59 (by omega)
                have hy139 := tA_n hb138
                exact ih25 se (ki + 1) w43 (by omega) (by omega) (by omega) (hI45) ((hF29.tr (hF46.up (by decide)))) (⟨by omega, by omega⟩)
              · refine xg_t (xg_icF (u := z51) (v := 12 * n47) rfl xnm0 xnm0 (xj_ltF (by omega) (by omega))) ?_
                refine xg_t (xg_const) ?_
                refine xg_t (xg_goto) ?_
                refine xg_t (xg_blk (b := [(103, 2, 15, 8, 0, 0), (105, 2, 2, 7, 0, 0), (107, 3, 7, 115, 1, 0), (110, 2, 2, 8, 0, 0), (112, 3, 7, 122, 0, 0)]) rfl) ?_
                refine xg_t (xg_istore (l1 := [(7, (0, 0)), (6, (0, z56)), (5, (0, z51)), (4, (0, n47)), (0, (2, 76)), (1, (0, la)), (2, (0, se)), (3, (0, ki))]) rfl rfl rfl) ?_
                refine xg_t (xg_iload (va := (0, 0)) rfl rfl) ?_
                refine xg_t (xg_ifF (u := 0) rfl xnm0 (by decide)) ?_
                refine xg_t (xg_iload (va := (0, 1)) rfl rfl) ?_
                refine xg_t (xg_ifF (u := 1) rfl xnm0 (by decide)) ?_
                refine xg_t (xg_blk (b := [(115, 1, 2, 2, 0, 0), (116, 1, 2, 3, 0, 0), (117, 3, 13, 270, 34, 57), (120, 1, 38, 0, 0, 0), (121, 1, 15, 2, 0, 0)]) rfl) ?_
                refine xg_t (xg_iload (va := (0, se)) rfl rfl) ?_
                refine xg_t (xg_iload (va := (0, ki)) rfl rfl) ?_
                refine xg_cSi mX4_bitOf (vs := [(0, ki)]) (rest := [(0, se)]) (cn1 := 0) (sl1 := 0) rfl (lwBitOfX (hI45) (by omega)) rfl rfl rfl rfl rfl rfl rfl (fun n144 w140 hq141 => ?_)
                obtain ⟨hn145, hI142, hF143⟩ := hq141
                obtain ⟨hu146, hu147⟩ := hn145
                have hb148 := tB_t (la := la) ht41 ht54 ht132 ht59 (by omega)
                have hy149 := tA_y hb148
                have hl150 := tA_lt (t := rwv w 21) (la := la) (k := ki + 1) (by omega)
                refine xg_t (xg_ior (u := se) (v := n144) (z := se + n144) xnm0 xnm0 (by rw [he34, hu146]; exact tA_or (by omega))) ?_
                have hl151 : se + n144 ≤ 4095 := by omega
                refine xg_t (xg_istore (l1 := [(8, (0, 1)), (7, (0, 0)), (6, (0, z56)), (5, (0, z51)), (4, (0, n47)), (0, (2, 76)), (1, (0, la)), (3, (0, ki))]) rfl rfl rfl) ?_
                refine xg_t (xg_blk (b := [(122, 3, 9, 3, 1, 0), (125, 3, 8, 4, 0, 0)]) rfl) ?_
                refine xg_t (xg_iinc (u := ki) (z := ki + 1) (l1 := [(2, (0, se + n144)), (8, (0, 1)), (7, (0, 0)), (6, (0, z56)), (5, (0, z51)), (4, (0, n47)), (0, (2, 76)), (1, (0, la))]) rfl rfl (by omega) rfl) ?_
                refine xg_t (xg_goto) ?_
                refine xg_t (xg_drop (l1 := [(0, (2, 76)), (1, (0, la)), (2, (0, se + n144)), (3, (0, ki + 1))]) (List.forall_mem_cons.mpr ⟨List.mem_cons_of_mem _ (List.mem_cons_of_mem _ (List.mem_cons_of_mem _ (List.mem_cons_of_mem _ (List.mem_cons_of_mem _ (List.mem_cons_of_mem _ (List.mem_cons_of_mem _ (List.mem_cons_self))))))), List.forall_mem_cons.mpr ⟨List.mem_cons_of_mem _ (List.mem_cons_of_mem _ (List.mem_cons_of_mem _ (List.mem_cons_of_mem _ (List.mem_cons_of_mem _ (List.mem_cons_of_mem _ (List.mem_cons_of_mem _ (List.mem_cons_of_mem _ (List.mem_cons_self)))))))), List.forall_mem_cons.mpr ⟨List.mem_cons_of_mem _ (List.mem_cons_self), List.forall_mem_cons.mpr ⟨List.mem_cons_self, fun _ h => absurd h List.not_mem_nil⟩⟩⟩⟩)) ?_
                exact ih25 (se + n144) (ki + 1) w140 (by omega) (by omega) (by omega) (hI142) (((hF29.tr (hF46.up (by decide))).tr (hF143.up (by decide)))) (⟨by omega, by omega⟩)
      · refine xg_t (xg_icT (u := ki) (v := f20_18) rfl xnm0 xnm0 (xj_geT (by omega) (by omega))) ?_
        refine xg_t (xg_blk (b := [(128, 1, 2, 2, 0, 0), (129, 1, 12, 0, 1, 0)]) rfl) ?_
        refine xg_t (xg_iload (va := (0, se)) rfl rfl) ?_
        exact xg_e ⟨se, w27, ⟨rfl, rfl⟩, by rw [show fld w 20 3 = ki by omega]; exact he34, hI28, hF29⟩
  exact key24 _ 0 0 w (Nat.lt_succ_self _) (by omega) (by omega) (hI) (xFr.rf) (⟨rfl, Nat.zero_le _⟩)
theorem lwRefreshX (hI : xInv w) (hV : tsV (rwv w 21) (fld w 20 3)) (hX : lwI w) : xPq (d + 2) mX4_refresh [(2, 76)] w bd fc rr [] (fun w' => xInv w' ∧ xFr [76, 77] w w' ∧ (lwD w' ∧ lwI w')) := by
  refine xPq.of ?_
  show xTo (d + 2) mX4_refresh (0, [], [(0, (2, 76))], [], (w, bd, fc, 0, 0, rr)) (fun φ => ∃ w', xEnd 0 [] (w', bd, fc, 0, 0, rr) φ ∧ xInv w' ∧ xFr [76, 77] w w' ∧ (lwD w' ∧ lwI w'))
  obtain ⟨f76_1, f76_3, f76_5, f76_7, f76_9, f76_11, f76_13, f76_15, h76_17, hb2, hb4, hb6, hb8, hb10, hb12, hb14, hb16⟩ := (hI 76 (by decide) : cp76 (wget w 76))
  obtain ⟨f20_18, h20_20, hb19⟩ := (hI 20 (by decide) : cp20 (wget w 20))
  obtain ⟨g21_21, h21_22, hb23⟩ := (hI 21 (by decide) : cpI 48 9 4294967295 (wget w 21))
  have h21_22 : xRow w 21 48 9 g21_21 := h21_22
  have hsz : fld w 20 3 = f20_18 := fld_of h20_20
  have hg : ∀ j, j < 48 → rwv w 21 j = g21_21 j := fun j h => rwv_of h21_22 h
  have hf9 : fld w 76 9 = f76_11 := fld_of h76_17
  have hq24 : fld w 76 4 = f76_1 := fld_of h76_17
  have hq25 : fld w 76 5 = f76_3 := fld_of h76_17
  have hq26 : fld w 76 6 = f76_5 := fld_of h76_17
  have hq27 : fld w 76 7 = f76_7 := fld_of h76_17
  have hq28 : fld w 76 8 = f76_9 := fld_of h76_17
  have hq29 : fld w 76 10 = f76_13 := fld_of h76_17
  have hq30 : fld w 76 11 = f76_15 := fld_of h76_17
  refine xg_t (xg_blk (b := [(0, 1, 0, 0, 0, 0), (1, 3, 1, 4, 9, 25), (4, 3, 7, 8, 0, 0), (7, 1, 12, 0, 0, 0)]) rfl) ?_
  refine xg_t (xg_aload (va := (2, 76)) rfl rfl) ?_
  refine xg_t (xg_getf (va := (0, f76_11)) h76_17 rfl) ?_
  by_cases hc31 : f76_11 = 0
  · refine xg_t (xg_ifT (u := f76_11) rfl xnm0 (xj_eqT hc31)) ?_
    refine xg_t (xg_blk (b := [(8, 1, 0, 0, 0, 0), (9, 1, 3, 0, 0, 0), (10, 3, 14, 4, 4, 35), (13, 1, 3, 0, 0, 0), (14, 1, 15, 1, 0, 0)]) rfl) ?_
    refine xg_t (xg_aload (va := (2, 76)) rfl rfl) ?_
    refine xg_t (xg_const) ?_
    refine xg_putI (fl1 := [(2, 20), (2, 77), (2, 78), (2, 79), (0, 0), (0, f76_3), (0, f76_5), (0, f76_7), (0, f76_9), (0, f76_11), (0, f76_13), (0, f76_15)]) h76_17 rfl rfl rfl (fun w32 hk33 hb34 => ?_)
    refine xg_t (xg_const) ?_
    refine xg_t (xg_istore (l1 := [(0, (2, 76))]) rfl rfl rfl) ?_
    refine xg_t (xg_drop (l1 := [(0, (2, 76)), (1, (0, 0))]) (List.forall_mem_cons.mpr ⟨List.mem_cons_of_mem _ (List.mem_cons_self), List.forall_mem_cons.mpr ⟨List.mem_cons_self, fun _ h => absurd h List.not_mem_nil⟩⟩)) ?_
    have hq41 : fld w32 76 4 = 0 := fld_of hk33
    have hq42 : fld w32 76 5 = f76_3 := fld_of hk33
    have hq43 : fld w32 76 6 = f76_5 := fld_of hk33
    have hq44 : fld w32 76 7 = f76_7 := fld_of hk33
    have hq45 : fld w32 76 8 = f76_9 := fld_of hk33
    have hq46 : fld w32 76 10 = f76_13 := fld_of hk33
    have hq47 : fld w32 76 11 = f76_15 := fld_of hk33
    have key35 : ∀ (m37 : Nat) (la : Nat) (w38 : List (List xE)), 240 - la < m37 → la ≤ 240 → xInv w38 → xFr [76, 77] w w38 → (fld w38 76 4 = tK (rwv w 21) (fld w 20 3) la ∧ (∀ i, i < la → rwv w38 77 i = tA (rwv w 21) i (fld w 20 3)) ∧ fld w38 76 5 = fld w 76 5 ∧ fld w38 76 6 = fld w 76 6 ∧ fld w38 76 7 = fld w 76 7 ∧ fld w38 76 8 = fld w 76 8 ∧ fld w38 76 10 = fld w 76 10 ∧ fld w38 76 11 = fld w 76 11) → xTo (d + 2) mX4_refresh (15, [], [(0, (2, 76)), (1, (0, la))], [], (w38, bd, fc, 0, 0, rr)) (fun φ => ∃ w', xEnd 0 [] (w', bd, fc, 0, 0, rr) φ ∧ xInv w' ∧ xFr [76, 77] w w' ∧ (lwD w' ∧ lwI w')) := by
      intro m37
      induction m37 with
      | zero => intro la w38 hz; exact absurd hz (Nat.not_lt_zero _)
      | succ m37 ih36 =>
        intro la w38 hm50 hn48 hI39 hF40 he49
        obtain ⟨he51, he52, he53, he54, he55, he56, he57, he58⟩ := he49
        obtain ⟨f76_59, f76_61, f76_63, f76_65, f76_67, f76_69, f76_71, f76_73, h76_75, hb60, hb62, hb64, hb66, hb68, hb70, hb72, hb74⟩ := (hI39 76 (by decide) : cp76 (wget w38 76))
        obtain ⟨g77_76, h77_77, hb78⟩ := (hI39 77 (by decide) : cpI 240 45 4294967295 (wget w38 77))
        have h77_77 : xRow w38 77 240 45 g77_76 := h77_77
        have hq79 : fld w38 76 4 = f76_59 := fld_of h76_75
        have hq80 : fld w38 76 5 = f76_61 := fld_of h76_75
        have hq81 : fld w38 76 6 = f76_63 := fld_of h76_75
        have hq82 : fld w38 76 7 = f76_65 := fld_of h76_75
        have hq83 : fld w38 76 8 = f76_67 := fld_of h76_75
        have hq84 : fld w38 76 10 = f76_71 := fld_of h76_75
        have hq85 : fld w38 76 11 = f76_73 := fld_of h76_75
        refine xg_t (xg_blk (b := [(15, 1, 2, 1, 0, 0), (16, 3, 5, 240, 0, 0), (19, 3, 6, 58, 3, 0), (22, 1, 0, 0, 0, 0), (23, 3, 1, 4, 1, 11), (26, 1, 2, 1, 0, 0), (27, 1, 0, 0, 0, 0), (28, 1, 2, 1, 0, 0), (29, 3, 13, 281, 32, 39), (32, 1, 17, 0, 0, 0), (33, 1, 0, 0, 0, 0), (34, 3, 1, 4, 1, 11), (37, 1, 2, 1, 0, 0), (38, 1, 10, 0, 0, 0), (39, 3, 7, 52, 1, 0), (42, 1, 0, 0, 0, 0), (43, 1, 19, 0, 0, 0), (44, 3, 1, 4, 4, 35), (47, 1, 3, 1, 0, 0), (48, 1, 11, 0, 0, 0), (49, 3, 14, 4, 4, 35)]) rfl) ?_
        refine xg_t (xg_iload (va := (0, la)) rfl rfl) ?_
        refine xg_t (xg_sip) ?_
        by_cases hc86 : la < 240
        · refine xg_t (xg_icF (u := la) (v := 240) rfl xnm0 xnm0 (xj_geF hc86 (by omega))) ?_
          refine xg_t (xg_aload (va := (2, 76)) rfl rfl) ?_
          refine xg_t (xg_getf (va := (2, 77)) h76_75 rfl) ?_
          refine xg_t (xg_iload (va := (0, la)) rfl rfl) ?_
          refine xg_t (xg_aload (va := (2, 76)) rfl rfl) ?_
          refine xg_t (xg_iload (va := (0, la)) rfl rfl) ?_
          refine xg_cVi mX4_testsAgainst (vs := [(0, la)]) (rest := [(0, la), (2, 77)]) (cn1 := 0) (sl1 := 0) rfl (lwTestsAgainstX (hI39) (by omega) (hV.fr (hF40.1 20 (by decide)) (hF40.1 21 (by decide)))) rfl h76_75 rfl rfl rfl rfl rfl rfl (fun n91 w87 hq88 => ?_)
          obtain ⟨hn92, hI89, hF90⟩ := hq88
          rw [rwf_eq (hF40.1 21 (by decide)), fld_eq (hF40.1 20 (by decide))] at hn92
          refine xg_iastK (n := la) (u := n91) (h77_77.fr hF90 (by decide)) xnm0 xnm0 rfl (by omega) (fun w93 hr94 hb95 => ?_)
          refine xg_t (xg_aload (va := (2, 76)) rfl rfl) ?_
          refine xg_t (xg_getf (va := (2, 77)) (hb95.get (by decide) (hF90.get (by decide) h76_75)) rfl) ?_
          refine xg_t (xg_iload (va := (0, la)) rfl rfl) ?_
          refine xg_ialdB (n := la) (B := 4294967295) hr94 (xrb (by omega) (hb78)) xnm0 (by omega) (fun u96 hu97 he98 => ?_)
          have hq99 : n91 = u96 := (if_pos rfl).symm.trans he98
          by_cases hc100 : u96 = 0
          · refine xg_t (xg_ifF (u := u96) rfl xnm0 (xj_neF hc100)) ?_
            refine xg_t (xg_aload (va := (2, 76)) rfl rfl) ?_
            refine xg_t (xg_dup rfl) ?_
            refine xg_t (xg_getf (va := (0, f76_59)) (hb95.get (by decide) (hF90.get (by decide) h76_75)) rfl) ?_
            refine xg_t (xg_const) ?_
            refine xg_k (xg_iadd (u := f76_59) (v := 1) (z := (f76_59 + 1) % 4294967296) xnm0 xnm0 rfl) (Nat.mod_lt _ (by decide)) (fun z101 hz102 => ?_)
            refine xg_putI (fl1 := [(2, 20), (2, 77), (2, 78), (2, 79), (0, z101), (0, f76_61), (0, f76_63), (0, f76_65), (0, f76_67), (0, f76_69), (0, f76_71), (0, f76_73)]) (hb95.get (by decide) (hF90.get (by decide) h76_75)) rfl rfl rfl (fun w103 hk104 hb105 => ?_)
            refine xg_t (xg_blk (b := [(52, 3, 9, 1, 1, 0), (55, 3, 8, 15, 0, 0)]) rfl) ?_
            refine xg_t (xg_iinc (u := la) (z := la + 1) (l1 := [(0, (2, 76))]) rfl rfl (by omega) rfl) ?_
            refine xg_t (xg_goto) ?_
            refine xg_t (xg_drop (l1 := [(0, (2, 76)), (1, (0, la + 1))]) (List.forall_mem_cons.mpr ⟨List.mem_cons_of_mem _ (List.mem_cons_self), List.forall_mem_cons.mpr ⟨List.mem_cons_self, fun _ h => absurd h List.not_mem_nil⟩⟩)) ?_
            have hq106 : fld w103 76 4 = z101 := fld_of hk104
            have hq107 : fld w103 76 5 = f76_61 := fld_of hk104
            have hq108 : fld w103 76 6 = f76_63 := fld_of hk104
            have hq109 : fld w103 76 7 = f76_65 := fld_of hk104
            have hq110 : fld w103 76 8 = f76_67 := fld_of hk104
            have hq111 : fld w103 76 10 = f76_71 := fld_of hk104
            have hq112 : fld w103 76 11 = f76_73 := fld_of hk104
            have hq113 : ∀ i, i < la + 1 → rwv w103 77 i = tA (rwv w 21) i (fld w 20 3) := fun i hi => by
              rw [rwv_of (hr94.but hb105 (by decide)) (by omega)]
              show (if i = la then n91 else g77_76 i) = _
              by_cases e : i = la
              · rw [if_pos e, e]; exact hn92
              · rw [if_neg e, ← rwv_of h77_77 (by omega)]; exact he52 i (by omega)
            have hq114 := tK_y (m := la) ((tA_zero (fld w 20 3)).mp (hn92.symm.trans (by omega)))
            exact ih36 (la + 1) w103 (by omega) (by omega) (xInv.up (S := [77, 76]) hI89 ((xFr.of (S := [77, 76]) hb95 (by decide)).tr (xFr.of (S := [77, 76]) hb105 (by decide))) (List.forall_mem_cons.mpr ⟨(show cpI 240 45 4294967295 (wget w103 77) from ⟨_, (hr94.but hb105 (by decide)), xrb (by omega) (hb78)⟩), List.forall_mem_cons.mpr ⟨(show cp76 (wget w103 76) from ⟨z101, f76_61, f76_63, f76_65, f76_67, f76_69, f76_71, f76_73, hk104, by omega, by omega, by omega, by omega, by omega, by omega, by omega, by omega⟩), fun _ h => absurd h List.not_mem_nil⟩⟩)) (((hF40.tr (hF90.up (by decide))).tr ((xFr.of (S := [76, 77]) hb95 (by decide)).tr (xFr.of (S := [76, 77]) hb105 (by decide))))) (⟨by omega, hq113, by omega, by omega, by omega, by omega, by omega, by omega⟩)
          · refine xg_t (xg_ifT (u := u96) rfl xnm0 (xj_neT hc100)) ?_
            refine xg_t (xg_blk (b := [(52, 3, 9, 1, 1, 0), (55, 3, 8, 15, 0, 0)]) rfl) ?_
            refine xg_t (xg_iinc (u := la) (z := la + 1) (l1 := [(0, (2, 76))]) rfl rfl (by omega) rfl) ?_
            refine xg_t (xg_goto) ?_
            refine xg_t (xg_drop (l1 := [(0, (2, 76)), (1, (0, la + 1))]) (List.forall_mem_cons.mpr ⟨List.mem_cons_of_mem _ (List.mem_cons_self), List.forall_mem_cons.mpr ⟨List.mem_cons_self, fun _ h => absurd h List.not_mem_nil⟩⟩)) ?_
            have hq115 : fld w93 76 4 = f76_59 := fld_of (hb95.get (by decide) (hF90.get (by decide) h76_75))
            have hq116 : fld w93 76 5 = f76_61 := fld_of (hb95.get (by decide) (hF90.get (by decide) h76_75))
            have hq117 : fld w93 76 6 = f76_63 := fld_of (hb95.get (by decide) (hF90.get (by decide) h76_75))
            have hq118 : fld w93 76 7 = f76_65 := fld_of (hb95.get (by decide) (hF90.get (by decide) h76_75))
            have hq119 : fld w93 76 8 = f76_67 := fld_of (hb95.get (by decide) (hF90.get (by decide) h76_75))
            have hq120 : fld w93 76 10 = f76_71 := fld_of (hb95.get (by decide) (hF90.get (by decide) h76_75))
            have hq121 : fld w93 76 11 = f76_73 := fld_of (hb95.get (by decide) (hF90.get (by decide) h76_75))
            have hq122 : ∀ i, i < la + 1 → rwv w93 77 i = tA (rwv w 21) i (fld w 20 3) := fun i hi => by
              rw [rwv_of hr94 (by omega)]
              show (if i = la then n91 else g77_76 i) = _
              by_cases e : i = la
              · rw [if_pos e, e]; exact hn92
              · rw [if_neg e, ← rwv_of h77_77 (by omega)]; exact he52 i (by omega)
            have hq123 := tK_n (m := la) (fun z => absurd ((tA_zero (fld w 20 3)).mpr z) (by omega))
            exact ih36 (la + 1) w93 (by omega) (by omega) (xInv.up (S := [77]) hI89 (xFr.of (S := [77]) hb95 (by decide)) (List.forall_mem_cons.mpr ⟨(show cpI 240 45 4294967295 (wget w93 77) from ⟨_, hr94, xrb (by omega) (hb78)⟩), fun _ h => absurd h List.not_mem_nil⟩)) (((hF40.tr (hF90.up (by decide))).tr (xFr.of (S := [76, 77]) hb95 (by decide)))) (⟨by omega, hq122, by omega, by omega, by omega, by omega, by omega, by omega⟩)
        · refine xg_t (xg_icT (u := la) (v := 240) rfl xnm0 xnm0 (xj_geT (by omega) (by omega))) ?_
          refine xg_t (xg_blk (b := [(58, 1, 0, 0, 0, 0), (59, 1, 3, 1, 0, 0), (60, 3, 59, 4, 9, 25), (63, 1, 12, 0, 0, 0)]) rfl) ?_
          refine xg_t (xg_aload (va := (2, 76)) rfl rfl) ?_
          refine xg_t (xg_const) ?_
          refine xg_putZ (fl1 := [(2, 20), (2, 77), (2, 78), (2, 79), (0, f76_59), (0, f76_61), (0, f76_63), (0, f76_65), (0, f76_67), (0, 1), (0, f76_71), (0, f76_73)]) h76_75 rfl rfl rfl (fun w124 hk125 hb126 => ?_)
          have hq128 : fld w124 76 4 = f76_59 := fld_of hk125
          have hq129 : fld w124 76 5 = f76_61 := fld_of hk125
          have hq130 : fld w124 76 6 = f76_63 := fld_of hk125
          have hq131 : fld w124 76 7 = f76_65 := fld_of hk125
          have hq132 : fld w124 76 8 = f76_67 := fld_of hk125
          have hq133 : fld w124 76 10 = f76_71 := fld_of hk125
          have hq134 : fld w124 76 11 = f76_73 := fld_of hk125
          have hq135 : fld w124 76 4 = tK (rwv w 21) (fld w 20 3) 240 := by
            have e : la = 240 := by omega
            rw [e] at he51
            omega
          have hq127 : lwD w124 := by
            refine ⟨fun i hi => ?_, ?_⟩
            · rw [rwf_eq ((hF40.tr (xFr.of (S := [76, 77]) hb126 (by decide))).1 21 (by decide)), fld_eq ((hF40.tr (xFr.of (S := [76, 77]) hb126 (by decide))).1 20 (by decide)), rwv_of (h77_77.but hb126 (by decide)) (by omega), ← rwv_of h77_77 (by omega)]; exact he52 i (by omega)
            · rw [rwf_eq ((hF40.tr (xFr.of (S := [76, 77]) hb126 (by decide))).1 21 (by decide)), fld_eq ((hF40.tr (xFr.of (S := [76, 77]) hb126 (by decide))).1 20 (by decide))]; exact hq135
          have hk137 : fld w124 76 5 = fld w 76 5 := by omega
          have hk138 : fld w124 76 6 = fld w 76 6 := by omega
          have hk139 : fld w124 76 7 = fld w 76 7 := by omega
          have hk140 : fld w124 76 8 = fld w 76 8 := by omega
          have hk141 : fld w124 76 10 = fld w 76 10 := by omega
          have hk142 : fld w124 76 11 = fld w 76 11 := by omega
          have hq136 : lwI w124 := ⟨Or.inr hq127, hX.2.imp (fun z => hk142.trans z) (fun z => z.kp ((hF40.tr (xFr.of (S := [76, 77]) hb126 (by decide))).1 20 (by decide)) ((hF40.tr (xFr.of (S := [76, 77]) hb126 (by decide))).1 21 (by decide)) hk138 hk139 hk140)⟩
          exact xg_e ⟨w124, ⟨rfl, rfl⟩, xInv.up (S := [76]) hI39 (xFr.of (S := [76]) hb126 (by decide)) (List.forall_mem_cons.mpr ⟨(show cp76 (wget w124 76) from ⟨f76_59, f76_61, f76_63, f76_65, f76_67, 1, f76_71, f76_73, hk125, by omega, by omega, by omega, by omega, by omega, by omega, by omega, by omega⟩), fun _ h => absurd h List.not_mem_nil⟩), (hF40.tr (xFr.of (S := [76, 77]) hb126 (by decide))), ⟨hq127, hq136⟩⟩
    exact key35 _ 0 w32 (Nat.lt_succ_self _) (by omega) (xInv.up (S := [76]) hI (xFr.of (S := [76]) hb34 (by decide)) (List.forall_mem_cons.mpr ⟨(show cp76 (wget w32 76) from ⟨0, f76_3, f76_5, f76_7, f76_9, f76_11, f76_13, f76_15, hk33, by omega, by omega, by omega, by omega, by omega, by omega, by omega, by omega⟩), fun _ h => absurd h List.not_mem_nil⟩)) ((xFr.of (S := [76, 77]) hb34 (by decide))) (⟨by omega, fun i hi => absurd hi (Nat.not_lt_zero _), by omega, by omega, by omega, by omega, by omega, by omega⟩)
  · refine xg_t (xg_ifF (u := f76_11) rfl xnm0 (xj_eqF hc31)) ?_
    have hDD : lwD w := by
      rcases hX.1 with z | z
      · exact absurd z (by have := hf9; omega)
      · exact z
    exact xg_e ⟨w, ⟨rfl, rfl⟩, hI, xFr.rf, ⟨hDD, hX⟩⟩
theorem scKeptX (hI : xInv w) (hV : tsV (rwv w 21) (fld w 20 3)) (hX : lwI w) : xPi (d + 3) mX11_kept [(2, 0)] w bd fc rr (fun n w' => (n = tK (rwv w 21) (fld w 20 3) 240 ∧ lwI w') ∧ xInv w' ∧ xFr [76, 77] w w') := by
  refine xPi.of ?_
  show xTo (d + 3) mX11_kept (0, [], [(0, (2, 0))], [], (w, bd, fc, 0, 0, rr)) (fun φ => ∃ n w', xEnd 1 [(0, n)] (w', bd, fc, 0, 0, rr) φ ∧ (n = tK (rwv w 21) (fld w 20 3) 240 ∧ lwI w') ∧ xInv w' ∧ xFr [76, 77] w w')
  have h0_1 := (hI 0 (by decide) : cp0 (wget w 0))
  refine xg_t (xg_blk (b := [(0, 1, 0, 0, 0, 0), (1, 3, 1, 11, 8, 79), (4, 3, 13, 276, 32, 327), (7, 1, 0, 0, 0, 0), (8, 3, 1, 11, 8, 79), (11, 3, 1, 4, 4, 328), (14, 1, 12, 0, 1, 0)]) rfl) ?_
  refine xg_t (xg_aload (va := (2, 0)) rfl rfl) ?_
  refine xg_t (xg_getf (va := (2, 76)) h0_1 rfl) ?_
  obtain ⟨f76_2, f76_4, f76_6, f76_8, f76_10, f76_12, f76_14, f76_16, h76_18, hb3, hb5, hb7, hb9, hb11, hb13, hb15, hb17⟩ := (hI 76 (by decide) : cp76 (wget w 76))
  refine xg_cVv mX4_refresh (vs := []) (rest := []) (cn1 := 0) (sl1 := 0) rfl (lwRefreshX (hI) hV hX) rfl h76_18 rfl rfl rfl rfl rfl rfl (fun w19 hq20 => ?_)
  obtain ⟨hI21, hF22, hx23⟩ := hq20
  obtain ⟨hD24, hX25⟩ := hx23
  have hK26 := hD24.2
  rw [rwf_eq ((hF22.up (by decide)).1 21 (by decide)), fld_eq ((hF22.up (by decide)).1 20 (by decide))] at hK26
  obtain ⟨f76_27, f76_29, f76_31, f76_33, f76_35, f76_37, f76_39, f76_41, h76_43, hb28, hb30, hb32, hb34, hb36, hb38, hb40, hb42⟩ := (hI21 76 (by decide) : cp76 (wget w19 76))
  have hq44 : fld w19 76 4 = f76_27 := fld_of h76_43
  have hk45 := tK_le (t := rwv w 21) (n := fld w 20 3) 240
  have hk46 : f76_27 ≤ 240 := by omega
  refine xg_t (xg_aload (va := (2, 0)) rfl rfl) ?_
  refine xg_t (xg_getf (va := (2, 76)) (hF22.get (by decide) h0_1) rfl) ?_
  refine xg_t (xg_getf (va := (0, f76_27)) h76_43 rfl) ?_
  exact xg_e ⟨f76_27, w19, ⟨rfl, rfl⟩, ⟨by omega, hX25⟩, hI21, (hF22.up (by decide))⟩
theorem lwKeptAtX {kk : Nat} (hI : xInv w) (hk1 : kk ≤ 4294967295) (hD : lwD w) : xPi d mX4_keptAt [(2, 76), (0, kk)] w bd fc rr (fun n w' => (n = tL (rwv w 21) (fld w 20 3) kk 240 0 0) ∧ xInv w' ∧ xFr [] w w') := by
  refine xPi.of ?_
  show xTo d mX4_keptAt (0, [], [(0, (2, 76)), (1, (0, kk))], [], (w, bd, fc, 0, 0, rr)) (fun φ => ∃ n w', xEnd 1 [(0, n)] (w', bd, fc, 0, 0, rr) φ ∧ (n = tL (rwv w 21) (fld w 20 3) kk 240 0 0) ∧ xInv w' ∧ xFr [] w w')
  obtain ⟨f76_1, f76_3, f76_5, f76_7, f76_9, f76_11, f76_13, f76_15, h76_17, hb2, hb4, hb6, hb8, hb10, hb12, hb14, hb16⟩ := (hI 76 (by decide) : cp76 (wget w 76))
  obtain ⟨g77_18, h77_19, hb20⟩ := (hI 77 (by decide) : cpI 240 45 4294967295 (wget w 77))
  have h77_19 : xRow w 77 240 45 g77_18 := h77_19
  refine xg_t (xg_blk (b := [(0, 1, 3, 0, 0, 0), (1, 1, 15, 2, 0, 0), (2, 1, 3, 0, 0, 0), (3, 1, 15, 3, 0, 0)]) rfl) ?_
  refine xg_t (xg_const) ?_
  refine xg_t (xg_istore (l1 := [(0, (2, 76)), (1, (0, kk))]) rfl rfl rfl) ?_
  refine xg_t (xg_const) ?_
  refine xg_t (xg_istore (l1 := [(2, (0, 0)), (0, (2, 76)), (1, (0, kk))]) rfl rfl rfl) ?_
  refine xg_t (xg_drop (l1 := [(0, (2, 76)), (1, (0, kk)), (2, (0, 0)), (3, (0, 0))]) (List.forall_mem_cons.mpr ⟨List.mem_cons_of_mem _ (List.mem_cons_of_mem _ (List.mem_cons_self)), List.forall_mem_cons.mpr ⟨List.mem_cons_of_mem _ (List.mem_cons_of_mem _ (List.mem_cons_of_mem _ (List.mem_cons_self))), List.forall_mem_cons.mpr ⟨List.mem_cons_of_mem _ (List.mem_cons_self), List.forall_mem_cons.mpr ⟨List.mem_cons_self, fun _ h => absurd h List.not_mem_nil⟩⟩⟩⟩)) ?_
  have key21 : ∀ (m23 : Nat) (pa la : Nat) (w24 : List (List xE)), 240 - la < m23 → pa ≤ 240 → la ≤ 240 → xInv w24 → xFr [] w w24 → tL (rwv w 21) (fld w 20 3) kk (240 - la) la pa = tL (rwv w 21) (fld w 20 3) kk 240 0 0 ∧ pa ≤ la → xTo d mX4_keptAt (4, [], [(0, (2, 76)), (1, (0, kk)), (2, (0, pa)), (3, (0, la))], [], (w24, bd, fc, 0, 0, rr)) (fun φ => ∃ n w', xEnd 1 [(0, n)] (w', bd, fc, 0, 0, rr) φ ∧ (n = tL (rwv w 21) (fld w 20 3) kk 240 0 0) ∧ xInv w' ∧ xFr [] w w') := by
    intro m23
    induction m23 with
    | zero => intro pa la w24 hz; exact absurd hz (Nat.not_lt_zero _)
    | succ m23 ih22 =>
      intro pa la w24 hm30 hn27 hn28 hI25 hF26 he29
      obtain ⟨he31, he32⟩ := he29
      refine xg_t (xg_blk (b := [(4, 1, 2, 3, 0, 0), (5, 3, 5, 240, 0, 0), (8, 3, 6, 49, 3, 0), (11, 1, 0, 0, 0, 0), (12, 3, 1, 4, 1, 11), (15, 1, 2, 3, 0, 0), (16, 1, 10, 0, 0, 0), (17, 3, 7, 43, 1, 0), (20, 1, 2, 2, 0, 0), (21, 1, 2, 1, 0, 0), (22, 3, 6, 40, 1, 0), (25, 2, 4, 100, 0, 0), (27, 1, 2, 3, 0, 0), (28, 2, 4, 60, 0, 0), (30, 1, 20, 0, 0, 0), (31, 1, 16, 0, 0, 0), (32, 1, 2, 3, 0, 0), (33, 2, 4, 60, 0, 0), (35, 1, 21, 0, 0, 0), (36, 1, 11, 0, 0, 0), (37, 1, 3, 1, 0, 0), (38, 1, 11, 0, 0, 0), (39, 1, 12, 0, 1, 0)]) rfl) ?_
      refine xg_t (xg_iload (va := (0, la)) rfl rfl) ?_
      refine xg_t (xg_sip) ?_
      by_cases hc33 : la < 240
      · refine xg_t (xg_icF (u := la) (v := 240) rfl xnm0 xnm0 (xj_geF hc33 (by omega))) ?_
        refine xg_t (xg_aload (va := (2, 76)) rfl rfl) ?_
        refine xg_t (xg_getf (va := (2, 77)) (hF26.get (by decide) h76_17) rfl) ?_
        refine xg_t (xg_iload (va := (0, la)) rfl rfl) ?_
        refine xg_ialdB (n := la) (B := 4294967295) (h77_19.fr hF26 (by decide)) (hb20) xnm0 (by omega) (fun u34 hu35 he36 => ?_)
        have hq37 : tA (rwv w 21) la (fld w 20 3) = u34 := (hD.1 la (by omega)).symm.trans ((rwv_of h77_19 (by omega)).trans he36)
        by_cases hc38 : u34 = 0
        · refine xg_t (xg_ifF (u := u34) rfl xnm0 (xj_neF hc38)) ?_
          have hG39 : tG (rwv w 21) la (fld w 20 3) = true := (tA_zero _).mp (hq37.trans (by omega))
          refine xg_t (xg_iload (va := (0, pa)) rfl rfl) ?_
          refine xg_t (xg_iload (va := (0, kk)) rfl rfl) ?_
          by_cases hc40 : pa = kk
          · refine xg_t (xg_icF (u := pa) (v := kk) rfl xnm0 xnm0 (xj_neF hc40)) ?_
            refine xg_t (xg_bip) ?_
            refine xg_t (xg_iload (va := (0, la)) rfl rfl) ?_
            refine xg_t (xg_bip) ?_
            refine xg_t (xg_idiv (u := la) (v := 60) (z := la / 60) xnm0 xnm0 (by omega) (by decide) (by decide) (rfl)) ?_
            refine xg_t (xg_imul (u := 100) (v := la / 60) (z := 100 * (la / 60)) xnm0 xnm0 (by omega)) ?_
            refine xg_t (xg_iload (va := (0, la)) rfl rfl) ?_
            refine xg_t (xg_bip) ?_
            refine xg_t (xg_irem (u := la) (v := 60) (z := la % 60) xnm0 xnm0 (by omega) (by decide) (by decide) (rfl)) ?_
            refine xg_t (xg_iadd (u := 100 * (la / 60)) (v := la % 60) (z := (100 * (la / 60)) + (la % 60)) xnm0 xnm0 (by omega)) ?_
            refine xg_t (xg_const) ?_
            refine xg_t (xg_iadd (u := (100 * (la / 60)) + (la % 60)) (v := 1) (z := ((100 * (la / 60)) + (la % 60)) + 1) xnm0 xnm0 (by omega)) ?_
            have hy41 := tL_k (k := kk) (p := pa) hG39 (by omega) (by omega)
            exact xg_e ⟨((100 * (la / 60)) + (la % 60)) + 1, w24, ⟨rfl, rfl⟩, by omega, hI25, hF26⟩
          · refine xg_t (xg_icT (u := pa) (v := kk) rfl xnm0 xnm0 (xj_neT hc40)) ?_
            refine xg_t (xg_blk (b := [(40, 3, 9, 2, 1, 0)]) rfl) ?_
            refine xg_t (xg_iinc (u := pa) (z := pa + 1) (l1 := [(0, (2, 76)), (1, (0, kk)), (3, (0, la))]) rfl rfl (by omega) rfl) ?_
            refine xg_t (xg_blk (b := [(43, 3, 9, 3, 1, 0), (46, 3, 8, 4, 0, 0)]) rfl) ?_
            refine xg_t (xg_iinc (u := la) (z := la + 1) (l1 := [(2, (0, pa + 1)), (0, (2, 76)), (1, (0, kk))]) rfl rfl (by omega) rfl) ?_
            refine xg_t (xg_goto) ?_
            refine xg_t (xg_drop (l1 := [(0, (2, 76)), (1, (0, kk)), (2, (0, pa + 1)), (3, (0, la + 1))]) (List.forall_mem_cons.mpr ⟨List.mem_cons_of_mem _ (List.mem_cons_of_mem _ (List.mem_cons_self)), List.forall_mem_cons.mpr ⟨List.mem_cons_of_mem _ (List.mem_cons_of_mem _ (List.mem_cons_of_mem _ (List.mem_cons_self))), List.forall_mem_cons.mpr ⟨List.mem_cons_of_mem _ (List.mem_cons_self), List.forall_mem_cons.mpr ⟨List.mem_cons_self, fun _ h => absurd h List.not_mem_nil⟩⟩⟩⟩)) ?_
            have hy42 := tL_y (k := kk) hG39 (by omega) (show pa ≠ kk by omega)
            exact ih22 (pa + 1) (la + 1) w24 (by omega) (by omega) (by omega) (hI25) (hF26) (⟨by omega, by omega⟩)
        · refine xg_t (xg_ifT (u := u34) rfl xnm0 (xj_neT hc38)) ?_
          refine xg_t (xg_blk (b := [(43, 3, 9, 3, 1, 0), (46, 3, 8, 4, 0, 0)]) rfl) ?_
          refine xg_t (xg_iinc (u := la) (z := la + 1) (l1 := [(0, (2, 76)), (1, (0, kk)), (2, (0, pa))]) rfl rfl (by omega) rfl) ?_
          refine xg_t (xg_goto) ?_
          refine xg_t (xg_drop (l1 := [(0, (2, 76)), (1, (0, kk)), (2, (0, pa)), (3, (0, la + 1))]) (List.forall_mem_cons.mpr ⟨List.mem_cons_of_mem _ (List.mem_cons_self), List.forall_mem_cons.mpr ⟨List.mem_cons_of_mem _ (List.mem_cons_of_mem _ (List.mem_cons_self)), List.forall_mem_cons.mpr ⟨List.mem_cons_of_mem _ (List.mem_cons_of_mem _ (List.mem_cons_of_mem _ (List.mem_cons_self))), List.forall_mem_cons.mpr ⟨List.mem_cons_self, fun _ h => absurd h List.not_mem_nil⟩⟩⟩⟩)) ?_
          have hG43 : ¬ tG (rwv w 21) la (fld w 20 3) = true := fun z => absurd ((tA_zero _).mpr z) (by omega)
          have hy44 := tL_n (k := kk) (p := pa) hG43 (by omega)
          exact ih22 pa (la + 1) w24 (by omega) (by omega) (by omega) (hI25) (hF26) (⟨by omega, by omega⟩)
      · refine xg_t (xg_icT (u := la) (v := 240) rfl xnm0 xnm0 (xj_geT (by omega) (by omega))) ?_
        refine xg_t (xg_blk (b := [(49, 1, 3, 4294967295, 0, 0), (50, 1, 12, 0, 1, 0)]) rfl) ?_
        refine xg_t (xg_const) ?_
        have hy := tL_e (t := rwv w 21) (n := fld w 20 3) (k := kk) (p := pa) (show 240 ≤ la by omega)
        exact xg_e ⟨4294967295, w24, ⟨rfl, rfl⟩, by omega, hI25, hF26⟩
  exact key21 _ 0 0 w (Nat.lt_succ_self _) (by omega) (by omega) (hI) (xFr.rf) (⟨rfl, Nat.le_refl _⟩)
theorem scLawX {kk : Nat} (hI : xInv w) (hkk : kk ≤ 4294967295) (hV : tsV (rwv w 21) (fld w 20 3)) (hX : lwI w) : xPi (d + 3) mX11_law [(2, 0), (0, kk)] w bd fc rr (fun n w' => (n = tL (rwv w 21) (fld w 20 3) kk 240 0 0 ∧ lwI w') ∧ xInv w' ∧ xFr [76, 77] w w') := by
  refine xPi.of ?_
  show xTo (d + 3) mX11_law (0, [], [(0, (2, 0)), (1, (0, kk))], [], (w, bd, fc, 0, 0, rr)) (fun φ => ∃ n w', xEnd 1 [(0, n)] (w', bd, fc, 0, 0, rr) φ ∧ (n = tL (rwv w 21) (fld w 20 3) kk 240 0 0 ∧ lwI w') ∧ xInv w' ∧ xFr [76, 77] w w')
  have h0_1 := (hI 0 (by decide) : cp0 (wget w 0))
  refine xg_t (xg_blk (b := [(0, 1, 0, 0, 0, 0), (1, 3, 1, 11, 8, 79), (4, 3, 13, 276, 32, 327), (7, 1, 2, 1, 0, 0), (8, 3, 7, 22, 2, 0), (11, 1, 2, 1, 0, 0), (12, 1, 0, 0, 0, 0), (13, 3, 1, 11, 8, 79), (16, 3, 1, 4, 4, 328), (19, 3, 6, 24, 2, 0)]) rfl) ?_
  refine xg_t (xg_aload (va := (2, 0)) rfl rfl) ?_
  refine xg_t (xg_getf (va := (2, 76)) h0_1 rfl) ?_
  obtain ⟨f76_2, f76_4, f76_6, f76_8, f76_10, f76_12, f76_14, f76_16, h76_18, hb3, hb5, hb7, hb9, hb11, hb13, hb15, hb17⟩ := (hI 76 (by decide) : cp76 (wget w 76))
  refine xg_cVv mX4_refresh (vs := []) (rest := []) (cn1 := 0) (sl1 := 0) rfl (lwRefreshX (hI) hV hX) rfl h76_18 rfl rfl rfl rfl rfl rfl (fun w19 hq20 => ?_)
  obtain ⟨hI21, hF22, hx23⟩ := hq20
  obtain ⟨hD24, hX25⟩ := hx23
  have hK26 := hD24.2
  rw [rwf_eq ((hF22.up (by decide)).1 21 (by decide)), fld_eq ((hF22.up (by decide)).1 20 (by decide))] at hK26
  obtain ⟨f76_27, f76_29, f76_31, f76_33, f76_35, f76_37, f76_39, f76_41, h76_43, hb28, hb30, hb32, hb34, hb36, hb38, hb40, hb42⟩ := (hI21 76 (by decide) : cp76 (wget w19 76))
  have hq44 : fld w19 76 4 = f76_27 := fld_of h76_43
  have hk45 := tK_le (t := rwv w 21) (n := fld w 20 3) 240
  have hk46 : f76_27 ≤ 240 := by omega
  refine xg_t (xg_iload (va := (0, kk)) rfl rfl) ?_
  by_cases hc47 : kk < 2147483648
  · refine xg_t (xg_ifF (u := kk) rfl xnm0 (xjz_ltF hc47)) ?_
    refine xg_t (xg_iload (va := (0, kk)) rfl rfl) ?_
    refine xg_t (xg_aload (va := (2, 0)) rfl rfl) ?_
    refine xg_t (xg_getf (va := (2, 76)) (hF22.get (by decide) h0_1) rfl) ?_
    refine xg_t (xg_getf (va := (0, f76_27)) h76_43 rfl) ?_
    by_cases hc48 : kk < f76_27
    · refine xg_t (xg_icT (u := kk) (v := f76_27) rfl xnm0 xnm0 (xj_ltT hc48 (by omega))) ?_
      refine xg_t (xg_blk (b := [(24, 1, 0, 0, 0, 0), (25, 3, 1, 11, 8, 79), (28, 1, 2, 1, 0, 0), (29, 3, 13, 274, 32, 331), (32, 1, 12, 0, 1, 0)]) rfl) ?_
      refine xg_t (xg_aload (va := (2, 0)) rfl rfl) ?_
      refine xg_t (xg_getf (va := (2, 76)) (hF22.get (by decide) h0_1) rfl) ?_
      refine xg_t (xg_iload (va := (0, kk)) rfl rfl) ?_
      refine xg_cVi mX4_keptAt (vs := [(0, kk)]) (rest := []) (cn1 := 0) (sl1 := 0) rfl (lwKeptAtX (hI21) (by omega) hD24) rfl h76_43 rfl rfl rfl rfl rfl rfl (fun n53 w49 hq50 => ?_)
      obtain ⟨hn54, hI51, hF52⟩ := hq50
      rw [rwf_eq ((hF22.up (by decide)).1 21 (by decide)), fld_eq ((hF22.up (by decide)).1 20 (by decide))] at hn54
      exact xg_e ⟨n53, w49, ⟨rfl, rfl⟩, ⟨by omega, (hX25.fr hF52 (by decide))⟩, hI51, ((hF22.up (by decide)).tr (hF52.up (by decide)))⟩
    · refine xg_t (xg_icF (u := kk) (v := f76_27) rfl xnm0 xnm0 (xj_ltF (by omega) (by omega))) ?_
      refine xg_t (xg_blk (b := [(22, 1, 3, 4294967295, 0, 0), (23, 1, 12, 0, 1, 0)]) rfl) ?_
      refine xg_t (xg_const) ?_
      have hy := tL_none (t := rwv w 21) (n := fld w 20 3) (k := kk) 240 0 0 (by show 0 + tK (rwv w 21) (fld w 20 3) (0 + 240) ≤ kk + 0; rw [Nat.zero_add, Nat.zero_add]; omega)
      exact xg_e ⟨4294967295, w19, ⟨rfl, rfl⟩, ⟨by omega, hX25⟩, hI21, (hF22.up (by decide))⟩
  · refine xg_t (xg_ifT (u := kk) rfl xnm0 (xjz_ltT (by omega) (by omega))) ?_
    refine xg_t (xg_blk (b := [(22, 1, 3, 4294967295, 0, 0), (23, 1, 12, 0, 1, 0)]) rfl) ?_
    refine xg_t (xg_const) ?_
    have hy := tL_none (t := rwv w 21) (n := fld w 20 3) (k := kk) 240 0 0 (by show 0 + tK (rwv w 21) (fld w 20 3) (0 + 240) ≤ kk + 0; rw [Nat.zero_add, Nat.zero_add]; omega)
    exact xg_e ⟨4294967295, w19, ⟨rfl, rfl⟩, ⟨by omega, hX25⟩, hI21, (hF22.up (by decide))⟩
theorem lwSpanSX {sp : Nat} (hI : xInv w) (h1 : 1 ≤ sp) (h9 : sp ≤ 9) (hD : lwD w) : xPi (d + 1) mX4_spanStart [(2, 76), (0, sp)] w bd fc rr (fun n w' => (n = tMn (rwv w 21) (fld w 20 3) sp 240) ∧ xInv w' ∧ xFr [] w w') := by
  refine xPi.of ?_
  show xTo (d + 1) mX4_spanStart (0, [], [(0, (2, 76)), (1, (0, sp))], [], (w, bd, fc, 0, 0, rr)) (fun φ => ∃ n w', xEnd 1 [(0, n)] (w', bd, fc, 0, 0, rr) φ ∧ (n = tMn (rwv w 21) (fld w 20 3) sp 240) ∧ xInv w' ∧ xFr [] w w')
  obtain ⟨f76_1, f76_3, f76_5, f76_7, f76_9, f76_11, f76_13, f76_15, h76_17, hb2, hb4, hb6, hb8, hb10, hb12, hb14, hb16⟩ := (hI 76 (by decide) : cp76 (wget w 76))
  obtain ⟨g77_18, h77_19, hb20⟩ := (hI 77 (by decide) : cpI 240 45 4294967295 (wget w 77))
  have h77_19 : xRow w 77 240 45 g77_18 := h77_19
  refine xg_t (xg_blk (b := [(0, 2, 35, 2147483647, 0, 62), (2, 1, 15, 2, 0, 0), (3, 1, 3, 0, 0, 0), (4, 1, 15, 3, 0, 0)]) rfl) ?_
  refine xg_t (xg_ldc) ?_
  refine xg_t (xg_istore (l1 := [(0, (2, 76)), (1, (0, sp))]) rfl rfl rfl) ?_
  refine xg_t (xg_const) ?_
  refine xg_t (xg_istore (l1 := [(2, (0, 2147483647)), (0, (2, 76)), (1, (0, sp))]) rfl rfl rfl) ?_
  refine xg_t (xg_drop (l1 := [(0, (2, 76)), (1, (0, sp)), (2, (0, 2147483647)), (3, (0, 0))]) (List.forall_mem_cons.mpr ⟨List.mem_cons_of_mem _ (List.mem_cons_of_mem _ (List.mem_cons_self)), List.forall_mem_cons.mpr ⟨List.mem_cons_of_mem _ (List.mem_cons_of_mem _ (List.mem_cons_of_mem _ (List.mem_cons_self))), List.forall_mem_cons.mpr ⟨List.mem_cons_of_mem _ (List.mem_cons_self), List.forall_mem_cons.mpr ⟨List.mem_cons_self, fun _ h => absurd h List.not_mem_nil⟩⟩⟩⟩)) ?_
  have key21 : ∀ (m23 : Nat) (le la : Nat) (w24 : List (List xE)), 240 - la < m23 → le ≤ 2147483647 → la ≤ 240 → xInv w24 → xFr [] w w24 → le = tMn (rwv w 21) (fld w 20 3) sp la → xTo (d + 1) mX4_spanStart (5, [], [(0, (2, 76)), (1, (0, sp)), (2, (0, le)), (3, (0, la))], [], (w24, bd, fc, 0, 0, rr)) (fun φ => ∃ n w', xEnd 1 [(0, n)] (w', bd, fc, 0, 0, rr) φ ∧ (n = tMn (rwv w 21) (fld w 20 3) sp 240) ∧ xInv w' ∧ xFr [] w w') := by
    intro m23
    induction m23 with
    | zero => intro le la w24 hz; exact absurd hz (Nat.not_lt_zero _)
    | succ m23 ih22 =>
      intro le la w24 hm30 hn27 hn28 hI25 hF26 he29
      refine xg_t (xg_blk (b := [(5, 1, 2, 3, 0, 0), (6, 3, 5, 240, 0, 0), (9, 3, 6, 40, 3, 0), (12, 1, 0, 0, 0, 0), (13, 3, 1, 4, 1, 11), (16, 1, 2, 3, 0, 0), (17, 1, 10, 0, 0, 0), (18, 3, 7, 34, 1, 0), (21, 1, 2, 2, 0, 0), (22, 2, 4, 8, 0, 0), (24, 1, 2, 3, 0, 0), (25, 1, 2, 1, 0, 0), (26, 3, 13, 282, 34, 54), (29, 1, 16, 0, 0, 0), (30, 3, 63, 0, 0, 63), (33, 1, 15, 2, 0, 0)]) rfl) ?_
      refine xg_t (xg_iload (va := (0, la)) rfl rfl) ?_
      refine xg_t (xg_sip) ?_
      by_cases hc31 : la < 240
      · refine xg_t (xg_icF (u := la) (v := 240) rfl xnm0 xnm0 (xj_geF hc31 (by omega))) ?_
        refine xg_t (xg_aload (va := (2, 76)) rfl rfl) ?_
        refine xg_t (xg_getf (va := (2, 77)) (hF26.get (by decide) h76_17) rfl) ?_
        refine xg_t (xg_iload (va := (0, la)) rfl rfl) ?_
        refine xg_ialdB (n := la) (B := 4294967295) (h77_19.fr hF26 (by decide)) (hb20) xnm0 (by omega) (fun u32 hu33 he34 => ?_)
        have hq35 : tA (rwv w 21) la (fld w 20 3) = u32 := (hD.1 la (by omega)).symm.trans ((rwv_of h77_19 (by omega)).trans he34)
        by_cases hc36 : u32 = 0
        · refine xg_t (xg_ifF (u := u32) rfl xnm0 (xj_neF hc36)) ?_
          have hG37 : tG (rwv w 21) la (fld w 20 3) = true := (tA_zero _).mp (hq35.trans (by omega))
          refine xg_t (xg_iload (va := (0, le)) rfl rfl) ?_
          refine xg_t (xg_bip) ?_
          refine xg_t (xg_iload (va := (0, la)) rfl rfl) ?_
          refine xg_t (xg_iload (va := (0, sp)) rfl rfl) ?_
          refine xg_cSi mX4_unitAt (vs := [(0, la), (0, sp)]) (rest := [(0, 8), (0, le)]) (cn1 := 0) (sl1 := 0) rfl (lwUnitAtX (hI25) (by omega) (by omega) (by omega)) rfl rfl rfl rfl rfl rfl rfl (fun n42 w38 hq39 => ?_)
          obtain ⟨hn43, hI40, hF41⟩ := hq39
          obtain ⟨hu44, hu45⟩ := hn43
          refine xg_t (xg_imul (u := 8) (v := n42) (z := 8 * n42) xnm0 xnm0 (by omega)) ?_
          refine xg_minK (u := le) (v := 8 * n42) xnm0 xnm0 xmx_ok (by omega) (by omega) (fun z46 hz47 hz48 hz49 hz50 => ?_)
          unfold xbs at hz48 hz49
          refine xg_t (xg_istore (l1 := [(0, (2, 76)), (1, (0, sp)), (3, (0, la))]) rfl rfl rfl) ?_
          refine xg_t (xg_blk (b := [(34, 3, 9, 3, 1, 0), (37, 3, 8, 5, 0, 0)]) rfl) ?_
          refine xg_t (xg_iinc (u := la) (z := la + 1) (l1 := [(2, (0, z46)), (0, (2, 76)), (1, (0, sp))]) rfl rfl (by omega) rfl) ?_
          refine xg_t (xg_goto) ?_
          refine xg_t (xg_drop (l1 := [(0, (2, 76)), (1, (0, sp)), (2, (0, z46)), (3, (0, la + 1))]) (List.forall_mem_cons.mpr ⟨List.mem_cons_of_mem _ (List.mem_cons_of_mem _ (List.mem_cons_self)), List.forall_mem_cons.mpr ⟨List.mem_cons_of_mem _ (List.mem_cons_of_mem _ (List.mem_cons_of_mem _ (List.mem_cons_self))), List.forall_mem_cons.mpr ⟨List.mem_cons_of_mem _ (List.mem_cons_self), List.forall_mem_cons.mpr ⟨List.mem_cons_self, fun _ h => absurd h List.not_mem_nil⟩⟩⟩⟩)) ?_
          have hy51 := tMn_y (sp := sp) hG37
          have hy52 := tMn_le (t := rwv w 21) (n := fld w 20 3) h1 h9 (la + 1) (by omega)
          exact ih22 z46 (la + 1) w38 (by omega) (by omega) (by omega) (hI40) ((hF26.tr (hF41.up (by decide)))) (by omega)
        · refine xg_t (xg_ifT (u := u32) rfl xnm0 (xj_neT hc36)) ?_
          refine xg_t (xg_blk (b := [(34, 3, 9, 3, 1, 0), (37, 3, 8, 5, 0, 0)]) rfl) ?_
          refine xg_t (xg_iinc (u := la) (z := la + 1) (l1 := [(0, (2, 76)), (1, (0, sp)), (2, (0, le))]) rfl rfl (by omega) rfl) ?_
          refine xg_t (xg_goto) ?_
          refine xg_t (xg_drop (l1 := [(0, (2, 76)), (1, (0, sp)), (2, (0, le)), (3, (0, la + 1))]) (List.forall_mem_cons.mpr ⟨List.mem_cons_of_mem _ (List.mem_cons_self), List.forall_mem_cons.mpr ⟨List.mem_cons_of_mem _ (List.mem_cons_of_mem _ (List.mem_cons_self)), List.forall_mem_cons.mpr ⟨List.mem_cons_of_mem _ (List.mem_cons_of_mem _ (List.mem_cons_of_mem _ (List.mem_cons_self))), List.forall_mem_cons.mpr ⟨List.mem_cons_self, fun _ h => absurd h List.not_mem_nil⟩⟩⟩⟩)) ?_
          have hG53 : ¬ tG (rwv w 21) la (fld w 20 3) = true := fun z => absurd ((tA_zero _).mpr z) (by omega)
          have hy54 := tMn_n (sp := sp) hG53
          have hy55 := tMn_le (t := rwv w 21) (n := fld w 20 3) h1 h9 (la + 1) (by omega)
          exact ih22 le (la + 1) w24 (by omega) (by omega) (by omega) (hI25) (hF26) (by omega)
      · refine xg_t (xg_icT (u := la) (v := 240) rfl xnm0 xnm0 (xj_geT (by omega) (by omega))) ?_
        refine xg_t (xg_blk (b := [(40, 1, 2, 2, 0, 0), (41, 1, 12, 0, 1, 0)]) rfl) ?_
        refine xg_t (xg_iload (va := (0, le)) rfl rfl) ?_
        have e240 : la = 240 := by omega
        exact xg_e ⟨le, w24, ⟨rfl, rfl⟩, by rw [← e240]; exact he29, hI25, hF26⟩
  exact key21 _ 2147483647 0 w (Nat.lt_succ_self _) (by omega) (by omega) (hI) (xFr.rf) (rfl)
theorem lwSpanEX {sp : Nat} (hI : xInv w) (h1 : 1 ≤ sp) (h9 : sp ≤ 9) (hD : lwD w) : xPi (d + 1) mX4_spanEnd [(2, 76), (0, sp)] w bd fc rr (fun n w' => (n = tMx (rwv w 21) (fld w 20 3) sp 240) ∧ xInv w' ∧ xFr [] w w') := by
  refine xPi.of ?_
  show xTo (d + 1) mX4_spanEnd (0, [], [(0, (2, 76)), (1, (0, sp))], [], (w, bd, fc, 0, 0, rr)) (fun φ => ∃ n w', xEnd 1 [(0, n)] (w', bd, fc, 0, 0, rr) φ ∧ (n = tMx (rwv w 21) (fld w 20 3) sp 240) ∧ xInv w' ∧ xFr [] w w')
  obtain ⟨f76_1, f76_3, f76_5, f76_7, f76_9, f76_11, f76_13, f76_15, h76_17, hb2, hb4, hb6, hb8, hb10, hb12, hb14, hb16⟩ := (hI 76 (by decide) : cp76 (wget w 76))
  obtain ⟨g77_18, h77_19, hb20⟩ := (hI 77 (by decide) : cpI 240 45 4294967295 (wget w 77))
  have h77_19 : xRow w 77 240 45 g77_18 := h77_19
  refine xg_t (xg_blk (b := [(0, 1, 3, 0, 0, 0), (1, 1, 15, 2, 0, 0), (2, 1, 3, 0, 0, 0), (3, 1, 15, 3, 0, 0)]) rfl) ?_
  refine xg_t (xg_const) ?_
  refine xg_t (xg_istore (l1 := [(0, (2, 76)), (1, (0, sp))]) rfl rfl rfl) ?_
  refine xg_t (xg_const) ?_
  refine xg_t (xg_istore (l1 := [(2, (0, 0)), (0, (2, 76)), (1, (0, sp))]) rfl rfl rfl) ?_
  refine xg_t (xg_drop (l1 := [(0, (2, 76)), (1, (0, sp)), (2, (0, 0)), (3, (0, 0))]) (List.forall_mem_cons.mpr ⟨List.mem_cons_of_mem _ (List.mem_cons_of_mem _ (List.mem_cons_self)), List.forall_mem_cons.mpr ⟨List.mem_cons_of_mem _ (List.mem_cons_of_mem _ (List.mem_cons_of_mem _ (List.mem_cons_self))), List.forall_mem_cons.mpr ⟨List.mem_cons_of_mem _ (List.mem_cons_self), List.forall_mem_cons.mpr ⟨List.mem_cons_self, fun _ h => absurd h List.not_mem_nil⟩⟩⟩⟩)) ?_
  have key21 : ∀ (m23 : Nat) (gr la : Nat) (w24 : List (List xE)), 240 - la < m23 → gr ≤ 524880 → la ≤ 240 → xInv w24 → xFr [] w w24 → gr = tMx (rwv w 21) (fld w 20 3) sp la → xTo (d + 1) mX4_spanEnd (4, [], [(0, (2, 76)), (1, (0, sp)), (2, (0, gr)), (3, (0, la))], [], (w24, bd, fc, 0, 0, rr)) (fun φ => ∃ n w', xEnd 1 [(0, n)] (w', bd, fc, 0, 0, rr) φ ∧ (n = tMx (rwv w 21) (fld w 20 3) sp 240) ∧ xInv w' ∧ xFr [] w w') := by
    intro m23
    induction m23 with
    | zero => intro gr la w24 hz; exact absurd hz (Nat.not_lt_zero _)
    | succ m23 ih22 =>
      intro gr la w24 hm30 hn27 hn28 hI25 hF26 he29
      refine xg_t (xg_blk (b := [(4, 1, 2, 3, 0, 0), (5, 3, 5, 240, 0, 0), (8, 3, 6, 39, 3, 0), (11, 1, 0, 0, 0, 0), (12, 3, 1, 4, 1, 11), (15, 1, 2, 3, 0, 0), (16, 1, 10, 0, 0, 0), (17, 3, 7, 33, 1, 0), (20, 1, 2, 2, 0, 0), (21, 2, 4, 12, 0, 0), (23, 1, 2, 3, 0, 0), (24, 1, 2, 1, 0, 0), (25, 3, 13, 282, 34, 54), (28, 1, 16, 0, 0, 0), (29, 3, 62, 0, 0, 68), (32, 1, 15, 2, 0, 0)]) rfl) ?_
      refine xg_t (xg_iload (va := (0, la)) rfl rfl) ?_
      refine xg_t (xg_sip) ?_
      by_cases hc31 : la < 240
      · refine xg_t (xg_icF (u := la) (v := 240) rfl xnm0 xnm0 (xj_geF hc31 (by omega))) ?_
        refine xg_t (xg_aload (va := (2, 76)) rfl rfl) ?_
        refine xg_t (xg_getf (va := (2, 77)) (hF26.get (by decide) h76_17) rfl) ?_
        refine xg_t (xg_iload (va := (0, la)) rfl rfl) ?_
        refine xg_ialdB (n := la) (B := 4294967295) (h77_19.fr hF26 (by decide)) (hb20) xnm0 (by omega) (fun u32 hu33 he34 => ?_)
        have hq35 : tA (rwv w 21) la (fld w 20 3) = u32 := (hD.1 la (by omega)).symm.trans ((rwv_of h77_19 (by omega)).trans he34)
        by_cases hc36 : u32 = 0
        · refine xg_t (xg_ifF (u := u32) rfl xnm0 (xj_neF hc36)) ?_
          have hG37 : tG (rwv w 21) la (fld w 20 3) = true := (tA_zero _).mp (hq35.trans (by omega))
          refine xg_t (xg_iload (va := (0, gr)) rfl rfl) ?_
          refine xg_t (xg_bip) ?_
          refine xg_t (xg_iload (va := (0, la)) rfl rfl) ?_
          refine xg_t (xg_iload (va := (0, sp)) rfl rfl) ?_
          refine xg_cSi mX4_unitAt (vs := [(0, la), (0, sp)]) (rest := [(0, 12), (0, gr)]) (cn1 := 0) (sl1 := 0) rfl (lwUnitAtX (hI25) (by omega) (by omega) (by omega)) rfl rfl rfl rfl rfl rfl rfl (fun n42 w38 hq39 => ?_)
          obtain ⟨hn43, hI40, hF41⟩ := hq39
          obtain ⟨hu44, hu45⟩ := hn43
          refine xg_t (xg_imul (u := 12) (v := n42) (z := 12 * n42) xnm0 xnm0 (by omega)) ?_
          refine xg_maxK (u := gr) (v := 12 * n42) xnm0 xnm0 xmx_ok (by omega) (by omega) (fun z46 hz47 hz48 hz49 hz50 => ?_)
          unfold xbs at hz48 hz49
          refine xg_t (xg_istore (l1 := [(0, (2, 76)), (1, (0, sp)), (3, (0, la))]) rfl rfl rfl) ?_
          refine xg_t (xg_blk (b := [(33, 3, 9, 3, 1, 0), (36, 3, 8, 4, 0, 0)]) rfl) ?_
          refine xg_t (xg_iinc (u := la) (z := la + 1) (l1 := [(2, (0, z46)), (0, (2, 76)), (1, (0, sp))]) rfl rfl (by omega) rfl) ?_
          refine xg_t (xg_goto) ?_
          refine xg_t (xg_drop (l1 := [(0, (2, 76)), (1, (0, sp)), (2, (0, z46)), (3, (0, la + 1))]) (List.forall_mem_cons.mpr ⟨List.mem_cons_of_mem _ (List.mem_cons_of_mem _ (List.mem_cons_self)), List.forall_mem_cons.mpr ⟨List.mem_cons_of_mem _ (List.mem_cons_of_mem _ (List.mem_cons_of_mem _ (List.mem_cons_self))), List.forall_mem_cons.mpr ⟨List.mem_cons_of_mem _ (List.mem_cons_self), List.forall_mem_cons.mpr ⟨List.mem_cons_self, fun _ h => absurd h List.not_mem_nil⟩⟩⟩⟩)) ?_
          have hy51 := tMx_y (sp := sp) hG37
          have hy52 := tMn_le (t := rwv w 21) (n := fld w 20 3) h1 h9 (la + 1) (by omega)
          exact ih22 z46 (la + 1) w38 (by omega) (by omega) (by omega) (hI40) ((hF26.tr (hF41.up (by decide)))) (by omega)
        · refine xg_t (xg_ifT (u := u32) rfl xnm0 (xj_neT hc36)) ?_
          refine xg_t (xg_blk (b := [(33, 3, 9, 3, 1, 0), (36, 3, 8, 4, 0, 0)]) rfl) ?_
          refine xg_t (xg_iinc (u := la) (z := la + 1) (l1 := [(0, (2, 76)), (1, (0, sp)), (2, (0, gr))]) rfl rfl (by omega) rfl) ?_
          refine xg_t (xg_goto) ?_
          refine xg_t (xg_drop (l1 := [(0, (2, 76)), (1, (0, sp)), (2, (0, gr)), (3, (0, la + 1))]) (List.forall_mem_cons.mpr ⟨List.mem_cons_of_mem _ (List.mem_cons_self), List.forall_mem_cons.mpr ⟨List.mem_cons_of_mem _ (List.mem_cons_of_mem _ (List.mem_cons_self)), List.forall_mem_cons.mpr ⟨List.mem_cons_of_mem _ (List.mem_cons_of_mem _ (List.mem_cons_of_mem _ (List.mem_cons_self))), List.forall_mem_cons.mpr ⟨List.mem_cons_self, fun _ h => absurd h List.not_mem_nil⟩⟩⟩⟩)) ?_
          have hG53 : ¬ tG (rwv w 21) la (fld w 20 3) = true := fun z => absurd ((tA_zero _).mpr z) (by omega)
          have hy54 := tMx_n (sp := sp) hG53
          have hy55 := tMn_le (t := rwv w 21) (n := fld w 20 3) h1 h9 (la + 1) (by omega)
          exact ih22 gr (la + 1) w24 (by omega) (by omega) (by omega) (hI25) (hF26) (by omega)
      · refine xg_t (xg_icT (u := la) (v := 240) rfl xnm0 xnm0 (xj_geT (by omega) (by omega))) ?_
        refine xg_t (xg_blk (b := [(39, 1, 2, 2, 0, 0), (40, 1, 12, 0, 1, 0)]) rfl) ?_
        refine xg_t (xg_iload (va := (0, gr)) rfl rfl) ?_
        have e240 : la = 240 := by omega
        exact xg_e ⟨gr, w24, ⟨rfl, rfl⟩, by rw [← e240]; exact he29, hI25, hF26⟩
  exact key21 _ 0 0 w (Nat.lt_succ_self _) (by omega) (by omega) (hI) (xFr.rf) (rfl)
theorem scSpanX {sp mo : Nat} (hI : xInv w) (hsp : sp ≤ 4294967295) (hmo : mo ≤ 1) (hV : tsV (rwv w 21) (fld w 20 3)) (hX : lwI w) : xPi (d + 3) mX11_span [(2, 0), (0, sp), (0, mo)] w bd fc rr (fun n w' => ((((1 ≤ sp ∧ sp ≤ 9) ∧ tK (rwv w 21) (fld w 20 3) 240 ≠ 0 ∧ ((mo = 0 ∧ n = tMn (rwv w 21) (fld w 20 3) sp 240) ∨ (mo ≠ 0 ∧ n = tMx (rwv w 21) (fld w 20 3) sp 240))) ∨ (¬ ((1 ≤ sp ∧ sp ≤ 9) ∧ tK (rwv w 21) (fld w 20 3) 240 ≠ 0) ∧ n = 4294967295)) ∧ lwI w') ∧ xInv w' ∧ xFr [76, 77] w w') := by
  refine xPi.of ?_
  show xTo (d + 3) mX11_span (0, [], [(0, (2, 0)), (1, (0, sp)), (2, (0, mo))], [], (w, bd, fc, 0, 0, rr)) (fun φ => ∃ n w', xEnd 1 [(0, n)] (w', bd, fc, 0, 0, rr) φ ∧ ((((1 ≤ sp ∧ sp ≤ 9) ∧ tK (rwv w 21) (fld w 20 3) 240 ≠ 0 ∧ ((mo = 0 ∧ n = tMn (rwv w 21) (fld w 20 3) sp 240) ∨ (mo ≠ 0 ∧ n = tMx (rwv w 21) (fld w 20 3) sp 240))) ∨ (¬ ((1 ≤ sp ∧ sp ≤ 9) ∧ tK (rwv w 21) (fld w 20 3) 240 ≠ 0) ∧ n = 4294967295)) ∧ lwI w') ∧ xInv w' ∧ xFr [76, 77] w w')
  have h0_1 := (hI 0 (by decide) : cp0 (wget w 0))
  refine xg_t (xg_blk (b := [(0, 1, 0, 0, 0, 0), (1, 3, 1, 11, 8, 79), (4, 3, 13, 276, 32, 327), (7, 1, 2, 1, 0, 0), (8, 1, 3, 1, 0, 0), (9, 2, 4, 9, 0, 0), (11, 3, 13, 70, 90, 238), (14, 3, 7, 27, 0, 0), (17, 1, 0, 0, 0, 0), (18, 3, 1, 11, 8, 79), (21, 3, 1, 4, 4, 328), (24, 3, 7, 29, 1, 0)]) rfl) ?_
  refine xg_t (xg_aload (va := (2, 0)) rfl rfl) ?_
  refine xg_t (xg_getf (va := (2, 76)) h0_1 rfl) ?_
  obtain ⟨f76_2, f76_4, f76_6, f76_8, f76_10, f76_12, f76_14, f76_16, h76_18, hb3, hb5, hb7, hb9, hb11, hb13, hb15, hb17⟩ := (hI 76 (by decide) : cp76 (wget w 76))
  refine xg_cVv mX4_refresh (vs := []) (rest := []) (cn1 := 0) (sl1 := 0) rfl (lwRefreshX (hI) hV hX) rfl h76_18 rfl rfl rfl rfl rfl rfl (fun w19 hq20 => ?_)
  obtain ⟨hI21, hF22, hx23⟩ := hq20
  obtain ⟨hD24, hX25⟩ := hx23
  have hK26 := hD24.2
  rw [rwf_eq ((hF22.up (by decide)).1 21 (by decide)), fld_eq ((hF22.up (by decide)).1 20 (by decide))] at hK26
  obtain ⟨f76_27, f76_29, f76_31, f76_33, f76_35, f76_37, f76_39, f76_41, h76_43, hb28, hb30, hb32, hb34, hb36, hb38, hb40, hb42⟩ := (hI21 76 (by decide) : cp76 (wget w19 76))
  have hq44 : fld w19 76 4 = f76_27 := fld_of h76_43
  have hk45 := tK_le (t := rwv w 21) (n := fld w 20 3) 240
  have hk46 : f76_27 ≤ 240 := by omega
  refine xg_t (xg_iload (va := (0, sp)) rfl rfl) ?_
  refine xg_t (xg_const) ?_
  refine xg_t (xg_bip) ?_
  refine xg_t (xg_cSr mX11_isIn (vs := [(0, sp), (0, 1), (0, 9)]) (rest := []) (rs := [(0, if 1 ≤ sp ∧ sp ≤ 9 then 1 else 0)]) (cn1 := 0) (sl1 := 0) rfl (isIn_ok (by omega) (by omega) (by omega)) rfl rfl rfl rfl rfl rfl rfl rfl) ?_
  by_cases hc47 : 1 ≤ sp ∧ sp ≤ 9
  · refine xg_t (xg_ifF (u := (if 1 ≤ sp ∧ sp ≤ 9 then 1 else 0)) rfl xnm0 (xj_eqF (xite1 hc47))) ?_
    refine xg_t (xg_aload (va := (2, 0)) rfl rfl) ?_
    refine xg_t (xg_getf (va := (2, 76)) (hF22.get (by decide) h0_1) rfl) ?_
    refine xg_t (xg_getf (va := (0, f76_27)) h76_43 rfl) ?_
    by_cases hc48 : f76_27 = 0
    · refine xg_t (xg_ifF (u := f76_27) rfl xnm0 (xj_neF hc48)) ?_
      refine xg_t (xg_blk (b := [(27, 1, 3, 4294967295, 0, 0), (28, 1, 12, 0, 1, 0)]) rfl) ?_
      refine xg_t (xg_const) ?_
      exact xg_e ⟨4294967295, w19, ⟨rfl, rfl⟩, ⟨by omega, hX25⟩, hI21, (hF22.up (by decide))⟩
    · refine xg_t (xg_ifT (u := f76_27) rfl xnm0 (xj_neT hc48)) ?_
      refine xg_t (xg_blk (b := [(29, 1, 2, 2, 0, 0), (30, 3, 7, 44, 0, 0), (33, 1, 0, 0, 0, 0), (34, 3, 1, 11, 8, 79), (37, 1, 2, 1, 0, 0), (38, 3, 13, 279, 32, 334), (41, 3, 8, 52, 0, 0)]) rfl) ?_
      refine xg_t (xg_iload (va := (0, mo)) rfl rfl) ?_
      by_cases hc49 : mo = 0
      · refine xg_t (xg_ifT (u := mo) rfl xnm0 (xj_eqT hc49)) ?_
        refine xg_t (xg_blk (b := [(44, 1, 0, 0, 0, 0), (45, 3, 1, 11, 8, 79), (48, 1, 2, 1, 0, 0), (49, 3, 13, 280, 32, 337)]) rfl) ?_
        refine xg_t (xg_aload (va := (2, 0)) rfl rfl) ?_
        refine xg_t (xg_getf (va := (2, 76)) (hF22.get (by decide) h0_1) rfl) ?_
        refine xg_t (xg_iload (va := (0, sp)) rfl rfl) ?_
        refine xg_cVi mX4_spanStart (vs := [(0, sp)]) (rest := []) (cn1 := 0) (sl1 := 0) rfl (lwSpanSX (hI21) (by omega) (by omega) hD24) rfl h76_43 rfl rfl rfl rfl rfl rfl (fun n54 w50 hq51 => ?_)
        obtain ⟨hn55, hI52, hF53⟩ := hq51
        rw [rwf_eq ((hF22.up (by decide)).1 21 (by decide)), fld_eq ((hF22.up (by decide)).1 20 (by decide))] at hn55
        refine xg_t (xg_blk (b := [(52, 1, 12, 0, 1, 0)]) rfl) ?_
        exact xg_e ⟨n54, w50, ⟨rfl, rfl⟩, ⟨by omega, (hX25.fr hF53 (by decide))⟩, hI52, ((hF22.up (by decide)).tr (hF53.up (by decide)))⟩
      · refine xg_t (xg_ifF (u := mo) rfl xnm0 (xj_eqF hc49)) ?_
        refine xg_t (xg_aload (va := (2, 0)) rfl rfl) ?_
        refine xg_t (xg_getf (va := (2, 76)) (hF22.get (by decide) h0_1) rfl) ?_
        refine xg_t (xg_iload (va := (0, sp)) rfl rfl) ?_
        refine xg_cVi mX4_spanEnd (vs := [(0, sp)]) (rest := []) (cn1 := 0) (sl1 := 0) rfl (lwSpanEX (hI21) (by omega) (by omega) hD24) rfl h76_43 rfl rfl rfl rfl rfl rfl (fun n60 w56 hq57 => ?_)
        obtain ⟨hn61, hI58, hF59⟩ := hq57
        rw [rwf_eq ((hF22.up (by decide)).1 21 (by decide)), fld_eq ((hF22.up (by decide)).1 20 (by decide))] at hn61
        refine xg_t (xg_goto) ?_
        refine xg_t (xg_blk (b := [(52, 1, 12, 0, 1, 0)]) rfl) ?_
        exact xg_e ⟨n60, w56, ⟨rfl, rfl⟩, ⟨by omega, (hX25.fr hF59 (by decide))⟩, hI58, ((hF22.up (by decide)).tr (hF59.up (by decide)))⟩
  · refine xg_t (xg_ifT (u := (if 1 ≤ sp ∧ sp ≤ 9 then 1 else 0)) rfl xnm0 (xj_eqT (xite0 hc47))) ?_
    refine xg_t (xg_blk (b := [(27, 1, 3, 4294967295, 0, 0), (28, 1, 12, 0, 1, 0)]) rfl) ?_
    refine xg_t (xg_const) ?_
    exact xg_e ⟨4294967295, w19, ⟨rfl, rfl⟩, ⟨by omega, hX25⟩, hI21, (hF22.up (by decide))⟩
theorem lwCountX {sp : Nat} (hI : xInv w) (h1 : 1 ≤ sp) (h9 : sp ≤ 9) (hD : lwD w) : xPq (d + 1) mX4_countTries [(2, 76), (0, sp)] w bd fc rr [] (fun w' => xInv w' ∧ xFr [78, 79] w w' ∧ (∀ j, j < 15 → rwv w' 78 j = tY (rwv w 21) (fld w 20 3) sp (10 * 2 ^ j) 240 ∧ rwv w' 79 j = tN (rwv w 21) (fld w 20 3) sp (10 * 2 ^ j) 240)) := by
  refine xPq.of ?_
  show xTo (d + 1) mX4_countTries (0, [], [(0, (2, 76)), (1, (0, sp))], [], (w, bd, fc, 0, 0, rr)) (fun φ => ∃ w', xEnd 0 [] (w', bd, fc, 0, 0, rr) φ ∧ xInv w' ∧ xFr [78, 79] w w' ∧ (∀ j, j < 15 → rwv w' 78 j = tY (rwv w 21) (fld w 20 3) sp (10 * 2 ^ j) 240 ∧ rwv w' 79 j = tN (rwv w 21) (fld w 20 3) sp (10 * 2 ^ j) 240))
  obtain ⟨f76_1, f76_3, f76_5, f76_7, f76_9, f76_11, f76_13, f76_15, h76_17, hb2, hb4, hb6, hb8, hb10, hb12, hb14, hb16⟩ := (hI 76 (by decide) : cp76 (wget w 76))
  obtain ⟨g77_18, h77_19, hb20⟩ := (hI 77 (by decide) : cpI 240 45 4294967295 (wget w 77))
  have h77_19 : xRow w 77 240 45 g77_18 := h77_19
  refine xg_t (xg_blk (b := [(0, 1, 0, 0, 0, 0), (1, 3, 1, 4, 2, 15), (4, 1, 3, 0, 0, 0), (5, 3, 13, 1, 2, 94), (8, 1, 0, 0, 0, 0), (9, 3, 1, 4, 3, 18), (12, 1, 3, 0, 0, 0), (13, 3, 13, 1, 2, 94), (16, 1, 3, 0, 0, 0), (17, 1, 15, 2, 0, 0)]) rfl) ?_
  refine xg_t (xg_aload (va := (2, 76)) rfl rfl) ?_
  refine xg_t (xg_getf (va := (2, 78)) h76_17 rfl) ?_
  refine xg_t (xg_const) ?_
  obtain ⟨g78_21, h78_22, hb23⟩ := (hI 78 (by decide) : cpI 15 46 4294967295 (wget w 78))
  have h78_22 : xRow w 78 15 46 g78_21 := h78_22
  refine xg_cS mJ7_fill_53178 (vs := [(2, 78), (0, 0)]) (rest := []) (rs := []) (cn1 := 0) (sl1 := 0) rfl (fillI (v := 0) h78_22 (by decide)) rfl rfl rfl rfl rfl rfl rfl rfl (fun w24 hq25 => ?_)
  refine xg_t (xg_aload (va := (2, 76)) rfl rfl) ?_
  refine xg_t (xg_getf (va := (2, 79)) (hq25.2.get (by decide) h76_17) rfl) ?_
  refine xg_t (xg_const) ?_
  obtain ⟨g79_26, h79_27, hb28⟩ := (hI 79 (by decide) : cpI 15 47 4294967295 (wget w 79))
  have h79_27 : xRow w 79 15 47 g79_26 := h79_27
  refine xg_cS mJ7_fill_53178 (vs := [(2, 79), (0, 0)]) (rest := []) (rs := []) (cn1 := 0) (sl1 := 0) rfl (fillI (v := 0) (h79_27.but hq25.2 (by decide)) (by decide)) rfl rfl rfl rfl rfl rfl rfl rfl (fun w29 hq30 => ?_)
  refine xg_t (xg_const) ?_
  refine xg_t (xg_istore (l1 := [(0, (2, 76)), (1, (0, sp))]) rfl rfl rfl) ?_
  refine xg_t (xg_drop (l1 := [(0, (2, 76)), (1, (0, sp)), (2, (0, 0))]) (List.forall_mem_cons.mpr ⟨List.mem_cons_of_mem _ (List.mem_cons_self), List.forall_mem_cons.mpr ⟨List.mem_cons_of_mem _ (List.mem_cons_of_mem _ (List.mem_cons_self)), List.forall_mem_cons.mpr ⟨List.mem_cons_self, fun _ h => absurd h List.not_mem_nil⟩⟩⟩)) ?_
  have key31 : ∀ (m33 : Nat) (la : Nat) (w34 : List (List xE)), 240 - la < m33 → la ≤ 240 → xInv w34 → xFr [78, 79] w w34 → (∀ j, j < 15 → rwv w34 78 j = tY (rwv w 21) (fld w 20 3) sp (10 * 2 ^ j) la ∧ rwv w34 79 j = tN (rwv w 21) (fld w 20 3) sp (10 * 2 ^ j) la) → xTo (d + 1) mX4_countTries (18, [], [(0, (2, 76)), (1, (0, sp)), (2, (0, la))], [], (w34, bd, fc, 0, 0, rr)) (fun φ => ∃ w', xEnd 0 [] (w', bd, fc, 0, 0, rr) φ ∧ xInv w' ∧ xFr [78, 79] w w' ∧ (∀ j, j < 15 → rwv w' 78 j = tY (rwv w 21) (fld w 20 3) sp (10 * 2 ^ j) 240 ∧ rwv w' 79 j = tN (rwv w 21) (fld w 20 3) sp (10 * 2 ^ j) 240)) := by
    intro m33
    induction m33 with
    | zero => intro la w34 hz; exact absurd hz (Nat.not_lt_zero _)
    | succ m33 ih32 =>
      intro la w34 hm39 hn37 hI35 hF36 he38
      obtain ⟨g78_40, h78_41, hb42⟩ := (hI35 78 (by decide) : cpI 15 46 4294967295 (wget w34 78))
      have h78_41 : xRow w34 78 15 46 g78_40 := h78_41
      obtain ⟨g79_43, h79_44, hb45⟩ := (hI35 79 (by decide) : cpI 15 47 4294967295 (wget w34 79))
      have h79_44 : xRow w34 79 15 47 g79_43 := h79_44
      refine xg_t (xg_blk (b := [(18, 1, 2, 2, 0, 0), (19, 3, 5, 240, 0, 0), (22, 3, 6, 116, 3, 0), (25, 1, 0, 0, 0, 0), (26, 3, 1, 4, 1, 11), (29, 1, 2, 2, 0, 0), (30, 1, 10, 0, 0, 0), (31, 3, 7, 110, 1, 0), (34, 1, 2, 2, 0, 0), (35, 1, 2, 1, 0, 0), (36, 3, 13, 282, 34, 54), (39, 1, 15, 3, 0, 0), (40, 1, 3, 0, 0, 0), (41, 2, 15, 4, 0, 0)]) rfl) ?_
      refine xg_t (xg_iload (va := (0, la)) rfl rfl) ?_
      refine xg_t (xg_sip) ?_
      by_cases hc46 : la < 240
      · refine xg_t (xg_icF (u := la) (v := 240) rfl xnm0 xnm0 (xj_geF hc46 (by omega))) ?_
        refine xg_t (xg_aload (va := (2, 76)) rfl rfl) ?_
        refine xg_t (xg_getf (va := (2, 77)) (hF36.get (by decide) h76_17) rfl) ?_
        refine xg_t (xg_iload (va := (0, la)) rfl rfl) ?_
        refine xg_ialdB (n := la) (B := 4294967295) (h77_19.fr hF36 (by decide)) (hb20) xnm0 (by omega) (fun u47 hu48 he49 => ?_)
        have hq50 : tA (rwv w 21) la (fld w 20 3) = u47 := (hD.1 la (by omega)).symm.trans ((rwv_of h77_19 (by omega)).trans he49)
        by_cases hc51 : u47 = 0
        · refine xg_t (xg_ifF (u := u47) rfl xnm0 (xj_neF hc51)) ?_
          have hG52 : tG (rwv w 21) la (fld w 20 3) = true := (tA_zero _).mp (hq50.trans (by omega))
          refine xg_t (xg_iload (va := (0, la)) rfl rfl) ?_
          refine xg_t (xg_iload (va := (0, sp)) rfl rfl) ?_
          refine xg_cSi mX4_unitAt (vs := [(0, la), (0, sp)]) (rest := []) (cn1 := 0) (sl1 := 0) rfl (lwUnitAtX (hI35) (by omega) (by omega) (by omega)) rfl rfl rfl rfl rfl rfl rfl (fun n57 w53 hq54 => ?_)
          obtain ⟨hn58, hI55, hF56⟩ := hq54
          obtain ⟨hu59, hu60⟩ := hn58
          refine xg_t (xg_istore (l1 := [(0, (2, 76)), (1, (0, sp)), (2, (0, la))]) rfl rfl rfl) ?_
          refine xg_t (xg_const) ?_
          refine xg_t (xg_istore (l1 := [(3, (0, n57)), (0, (2, 76)), (1, (0, sp)), (2, (0, la))]) rfl rfl rfl) ?_
          refine xg_t (xg_drop (l1 := [(0, (2, 76)), (1, (0, sp)), (2, (0, la)), (3, (0, n57)), (4, (0, 0))]) (List.forall_mem_cons.mpr ⟨List.mem_cons_of_mem _ (List.mem_cons_of_mem _ (List.mem_cons_self)), List.forall_mem_cons.mpr ⟨List.mem_cons_of_mem _ (List.mem_cons_of_mem _ (List.mem_cons_of_mem _ (List.mem_cons_self))), List.forall_mem_cons.mpr ⟨List.mem_cons_of_mem _ (List.mem_cons_of_mem _ (List.mem_cons_of_mem _ (List.mem_cons_of_mem _ (List.mem_cons_self)))), List.forall_mem_cons.mpr ⟨List.mem_cons_of_mem _ (List.mem_cons_self), List.forall_mem_cons.mpr ⟨List.mem_cons_self, fun _ h => absurd h List.not_mem_nil⟩⟩⟩⟩⟩)) ?_
          have key61 : ∀ (m63 : Nat) (ji : Nat) (w64 : List (List xE)), 15 - ji < m63 → ji ≤ 15 → xInv w64 → xFr [78, 79] w w64 → (∀ j, j < 15 → rwv w64 78 j = (if j < ji then tY (rwv w 21) (fld w 20 3) sp (10 * 2 ^ j) (la + 1) else tY (rwv w 21) (fld w 20 3) sp (10 * 2 ^ j) la) ∧ rwv w64 79 j = (if j < ji then tN (rwv w 21) (fld w 20 3) sp (10 * 2 ^ j) (la + 1) else tN (rwv w 21) (fld w 20 3) sp (10 * 2 ^ j) la)) → xTo (d + 1) mX4_countTries (43, [], [(0, (2, 76)), (1, (0, sp)), (2, (0, la)), (3, (0, n57)), (4, (0, ji))], [], (w64, bd, fc, 0, 0, rr)) (fun φ => ∃ w', xEnd 0 [] (w', bd, fc, 0, 0, rr) φ ∧ xInv w' ∧ xFr [78, 79] w w' ∧ (∀ j, j < 15 → rwv w' 78 j = tY (rwv w 21) (fld w 20 3) sp (10 * 2 ^ j) 240 ∧ rwv w' 79 j = tN (rwv w 21) (fld w 20 3) sp (10 * 2 ^ j) 240)) := by
            intro m63
            induction m63 with
            | zero => intro ji w64 hz; exact absurd hz (Nat.not_lt_zero _)
            | succ m63 ih62 =>
              intro ji w64 hm69 hn67 hI65 hF66 he68
              obtain ⟨g78_70, h78_71, hb72⟩ := (hI65 78 (by decide) : cpI 15 46 4294967295 (wget w64 78))
              have h78_71 : xRow w64 78 15 46 g78_70 := h78_71
              obtain ⟨g79_73, h79_74, hb75⟩ := (hI65 79 (by decide) : cpI 15 47 4294967295 (wget w64 79))
              have h79_74 : xRow w64 79 15 47 g79_73 := h79_74
              refine xg_t (xg_blk (b := [(43, 2, 2, 4, 0, 0), (45, 2, 4, 15, 0, 0), (47, 3, 6, 110, 3, 0), (50, 1, 0, 0, 0, 0), (51, 3, 1, 4, 2, 15), (54, 2, 2, 4, 0, 0), (56, 1, 39, 0, 0, 0), (57, 1, 10, 0, 0, 0), (58, 2, 4, 10, 0, 0), (60, 2, 2, 4, 0, 0), (62, 1, 26, 0, 0, 0), (63, 2, 4, 8, 0, 0), (65, 1, 2, 3, 0, 0), (66, 1, 16, 0, 0, 0), (67, 3, 6, 74, 2, 0), (70, 1, 3, 1, 0, 0), (71, 3, 8, 75, 0, 0)]) rfl) ?_
              refine xg_t (xg_iload (va := (0, ji)) rfl rfl) ?_
              refine xg_t (xg_bip) ?_
              by_cases hc76 : ji < 15
              · refine xg_t (xg_icF (u := ji) (v := 15) rfl xnm0 xnm0 (xj_geF hc76 (by omega))) ?_
                refine xg_t (xg_aload (va := (2, 76)) rfl rfl) ?_
                refine xg_t (xg_getf (va := (2, 78)) (hF66.get (by decide) h76_17) rfl) ?_
                refine xg_t (xg_iload (va := (0, ji)) rfl rfl) ?_
                refine xg_t (xg_dup2 rfl) ?_
                refine xg_ialdB (n := ji) (B := 4294967295) h78_71 (hb72) xnm0 (by omega) (fun u77 hu78 he79 => ?_)
                have hq80 : u77 = tY (rwv w 21) (fld w 20 3) sp (10 * 2 ^ ji) la := (he79.symm.trans (rwv_of h78_71 (by omega)).symm).trans ((he68 ji (by omega)).1.trans (if_neg (Nat.lt_irrefl _)))
                have hq81 := (tY_le (t := rwv w 21) (n := fld w 20 3) (v := sp) (r := 10 * 2 ^ ji) la).1
                have hq82 : u77 ≤ 240 := by omega
                refine xg_t (xg_bip) ?_
                refine xg_t (xg_iload (va := (0, ji)) rfl rfl) ?_
                have hz83 : 10 ≤ 10 * 2 ^ ji ∧ 10 * 2 ^ ji ≤ 163840 := by
                  have k : ∀ n, n ≤ 14 → 10 ≤ 10 * 2 ^ n ∧ 10 * 2 ^ n ≤ 163840 := by decide
                  exact k _ (by omega)
                refine xg_t (xg_ishl (u := 10) (v := ji) (z := 10 * 2 ^ ji) xnm0 xnm0 (by omega) (Nat.mod_eq_of_lt (by omega))) ?_
                refine xg_t (xg_bip) ?_
                refine xg_t (xg_iload (va := (0, n57)) rfl rfl) ?_
                refine xg_t (xg_imul (u := 8) (v := n57) (z := 8 * n57) xnm0 xnm0 (by omega)) ?_
                by_cases hc84 : (10 * 2 ^ ji) < (8 * n57)
                · refine xg_t (xg_icT (u := 10 * 2 ^ ji) (v := 8 * n57) rfl xnm0 xnm0 (xj_ltT hc84 (by omega))) ?_
                  refine xg_t (xg_blk (b := [(74, 1, 3, 0, 0, 0)]) rfl) ?_
                  refine xg_t (xg_const) ?_
                  refine xg_t (xg_blk (b := [(75, 1, 11, 0, 0, 0), (76, 1, 17, 0, 0, 0), (77, 1, 0, 0, 0, 0), (78, 3, 1, 4, 3, 18), (81, 2, 2, 4, 0, 0), (83, 1, 39, 0, 0, 0), (84, 1, 10, 0, 0, 0), (85, 2, 4, 10, 0, 0), (87, 2, 2, 4, 0, 0), (89, 1, 26, 0, 0, 0), (90, 2, 4, 12, 0, 0), (92, 1, 2, 3, 0, 0), (93, 1, 16, 0, 0, 0), (94, 3, 6, 101, 3, 0), (97, 1, 3, 1, 0, 0), (98, 3, 8, 102, 0, 0)]) rfl) ?_
                  refine xg_t (xg_iadd (u := u77) (v := 0) (z := u77 + 0) xnm0 xnm0 (by omega)) ?_
                  refine xg_iastK (n := ji) (u := u77 + 0) h78_71 xnm0 xnm0 rfl (by omega) (fun w85 hr86 hb87 => ?_)
                  refine xg_t (xg_aload (va := (2, 76)) rfl rfl) ?_
                  refine xg_t (xg_getf (va := (2, 79)) (hb87.get (by decide) (hF66.get (by decide) h76_17)) rfl) ?_
                  refine xg_t (xg_iload (va := (0, ji)) rfl rfl) ?_
                  refine xg_t (xg_dup2 rfl) ?_
                  refine xg_ialdB (n := ji) (B := 4294967295) (h79_74.but hb87 (by decide)) (hb75) xnm0 (by omega) (fun u88 hu89 he90 => ?_)
                  have hq91 : u88 = tN (rwv w 21) (fld w 20 3) sp (10 * 2 ^ ji) la := (he90.symm.trans (rwv_of h79_74 (by omega)).symm).trans ((he68 ji (by omega)).2.trans (if_neg (Nat.lt_irrefl _)))
                  have hq92 := (tY_le (t := rwv w 21) (n := fld w 20 3) (v := sp) (r := 10 * 2 ^ ji) la).2
                  have hq93 : u88 ≤ 240 := by omega
                  refine xg_t (xg_bip) ?_
                  refine xg_t (xg_iload (va := (0, ji)) rfl rfl) ?_
                  have hz94 : 10 ≤ 10 * 2 ^ ji ∧ 10 * 2 ^ ji ≤ 163840 := by
                    have k : ∀ n, n ≤ 14 → 10 ≤ 10 * 2 ^ n ∧ 10 * 2 ^ n ≤ 163840 := by decide
                    exact k _ (by omega)
                  refine xg_t (xg_ishl (u := 10) (v := ji) (z := 10 * 2 ^ ji) xnm0 xnm0 (by omega) (Nat.mod_eq_of_lt (by omega))) ?_
                  refine xg_t (xg_bip) ?_
                  refine xg_t (xg_iload (va := (0, n57)) rfl rfl) ?_
                  refine xg_t (xg_imul (u := 12) (v := n57) (z := 12 * n57) xnm0 xnm0 (by omega)) ?_
                  by_cases hc95 : (10 * 2 ^ ji) < (12 * n57)
                  · refine xg_t (xg_icF (u := 10 * 2 ^ ji) (v := 12 * n57) rfl xnm0 xnm0 (xj_geF hc95 (by omega))) ?_
                    refine xg_t (xg_const) ?_
                    refine xg_t (xg_goto) ?_
                    refine xg_t (xg_blk (b := [(102, 1, 11, 0, 0, 0), (103, 1, 17, 0, 0, 0), (104, 3, 9, 4, 1, 0), (107, 3, 8, 43, 0, 0)]) rfl) ?_
                    refine xg_t (xg_iadd (u := u88) (v := 1) (z := u88 + 1) xnm0 xnm0 (by omega)) ?_
                    refine xg_iastK (n := ji) (u := u88 + 1) (h79_74.but hb87 (by decide)) xnm0 xnm0 rfl (by omega) (fun w96 hr97 hb98 => ?_)
                    refine xg_t (xg_iinc (u := ji) (z := ji + 1) (l1 := [(0, (2, 76)), (1, (0, sp)), (2, (0, la)), (3, (0, n57))]) rfl rfl (by omega) rfl) ?_
                    refine xg_t (xg_goto) ?_
                    refine xg_t (xg_drop (l1 := [(0, (2, 76)), (1, (0, sp)), (2, (0, la)), (3, (0, n57)), (4, (0, ji + 1))]) (List.forall_mem_cons.mpr ⟨List.mem_cons_of_mem _ (List.mem_cons_self), List.forall_mem_cons.mpr ⟨List.mem_cons_of_mem _ (List.mem_cons_of_mem _ (List.mem_cons_self)), List.forall_mem_cons.mpr ⟨List.mem_cons_of_mem _ (List.mem_cons_of_mem _ (List.mem_cons_of_mem _ (List.mem_cons_self))), List.forall_mem_cons.mpr ⟨List.mem_cons_of_mem _ (List.mem_cons_of_mem _ (List.mem_cons_of_mem _ (List.mem_cons_of_mem _ (List.mem_cons_self)))), List.forall_mem_cons.mpr ⟨List.mem_cons_self, fun _ h => absurd h List.not_mem_nil⟩⟩⟩⟩⟩)) ?_
                    have hq99 : (∀ j, j < 15 → rwv w96 78 j = (if j < ji + 1 then tY (rwv w 21) (fld w 20 3) sp (10 * 2 ^ j) (la + 1) else tY (rwv w 21) (fld w 20 3) sp (10 * 2 ^ j) la) ∧ rwv w96 79 j = (if j < ji + 1 then tN (rwv w 21) (fld w 20 3) sp (10 * 2 ^ j) (la + 1) else tN (rwv w 21) (fld w 20 3) sp (10 * 2 ^ j) la)) := fun j hj => by
                      have a := he68 j hj
                      refine ⟨?_, ?_⟩
                      · rw [rwv_of (hr86.but hb98 (by decide)) (by omega)]
                        show (if j = ji then u77 + 0 else g78_70 j) = _
                        by_cases e : j = ji
                        · rw [if_pos e, if_pos (show j < ji + 1 by omega), e, tY_g hG52]
                          split <;> omega
                        · rw [if_neg e, ← rwv_of h78_71 (by omega), a.1]
                          by_cases e2 : j < ji
                          · rw [if_pos e2, if_pos (show j < ji + 1 by omega)]
                          · rw [if_neg e2, if_neg (show ¬ j < ji + 1 by omega)]
                      · rw [rwv_of hr97 (by omega)]
                        show (if j = ji then u88 + 1 else g79_73 j) = _
                        by_cases e : j = ji
                        · rw [if_pos e, if_pos (show j < ji + 1 by omega), e, tN_g hG52]
                          split <;> omega
                        · rw [if_neg e, ← rwv_of h79_74 (by omega), a.2]
                          by_cases e2 : j < ji
                          · rw [if_pos e2, if_pos (show j < ji + 1 by omega)]
                          · rw [if_neg e2, if_neg (show ¬ j < ji + 1 by omega)]
                    exact ih62 (ji + 1) w96 (by omega) (by omega) (xInv.up (S := [78, 79]) hI65 ((xFr.of (S := [78, 79]) hb87 (by decide)).tr (xFr.of (S := [78, 79]) hb98 (by decide))) (List.forall_mem_cons.mpr ⟨(show cpI 15 46 4294967295 (wget w96 78) from ⟨_, (hr86.but hb98 (by decide)), xrb (by omega) (hb72)⟩), List.forall_mem_cons.mpr ⟨(show cpI 15 47 4294967295 (wget w96 79) from ⟨_, hr97, xrb (by omega) (hb75)⟩), fun _ h => absurd h List.not_mem_nil⟩⟩)) ((hF66.tr ((xFr.of (S := [78, 79]) hb87 (by decide)).tr (xFr.of (S := [78, 79]) hb98 (by decide))))) (hq99)
                  · refine xg_t (xg_icT (u := 10 * 2 ^ ji) (v := 12 * n57) rfl xnm0 xnm0 (xj_geT (by omega) (by omega))) ?_
                    refine xg_t (xg_blk (b := [(101, 1, 3, 0, 0, 0)]) rfl) ?_
                    refine xg_t (xg_const) ?_
                    refine xg_t (xg_blk (b := [(102, 1, 11, 0, 0, 0), (103, 1, 17, 0, 0, 0), (104, 3, 9, 4, 1, 0), (107, 3, 8, 43, 0, 0)]) rfl) ?_
                    refine xg_t (xg_iadd (u := u88) (v := 0) (z := u88 + 0) xnm0 xnm0 (by omega)) ?_
                    refine xg_iastK (n := ji) (u := u88 + 0) (h79_74.but hb87 (by decide)) xnm0 xnm0 rfl (by omega) (fun w100 hr101 hb102 => ?_)
                    refine xg_t (xg_iinc (u := ji) (z := ji + 1) (l1 := [(0, (2, 76)), (1, (0, sp)), (2, (0, la)), (3, (0, n57))]) rfl rfl (by omega) rfl) ?_
                    refine xg_t (xg_goto) ?_
                    refine xg_t (xg_drop (l1 := [(0, (2, 76)), (1, (0, sp)), (2, (0, la)), (3, (0, n57)), (4, (0, ji + 1))]) (List.forall_mem_cons.mpr ⟨List.mem_cons_of_mem _ (List.mem_cons_self), List.forall_mem_cons.mpr ⟨List.mem_cons_of_mem _ (List.mem_cons_of_mem _ (List.mem_cons_self)), List.forall_mem_cons.mpr ⟨List.mem_cons_of_mem _ (List.mem_cons_of_mem _ (List.mem_cons_of_mem _ (List.mem_cons_self))), List.forall_mem_cons.mpr ⟨List.mem_cons_of_mem _ (List.mem_cons_of_mem _ (List.mem_cons_of_mem _ (List.mem_cons_of_mem _ (List.mem_cons_self)))), List.forall_mem_cons.mpr ⟨List.mem_cons_self, fun _ h => absurd h List.not_mem_nil⟩⟩⟩⟩⟩)) ?_
                    have hq103 : (∀ j, j < 15 → rwv w100 78 j = (if j < ji + 1 then tY (rwv w 21) (fld w 20 3) sp (10 * 2 ^ j) (la + 1) else tY (rwv w 21) (fld w 20 3) sp (10 * 2 ^ j) la) ∧ rwv w100 79 j = (if j < ji + 1 then tN (rwv w 21) (fld w 20 3) sp (10 * 2 ^ j) (la + 1) else tN (rwv w 21) (fld w 20 3) sp (10 * 2 ^ j) la)) := fun j hj => by
                      have a := he68 j hj
                      refine ⟨?_, ?_⟩
                      · rw [rwv_of (hr86.but hb102 (by decide)) (by omega)]
                        show (if j = ji then u77 + 0 else g78_70 j) = _
                        by_cases e : j = ji
                        · rw [if_pos e, if_pos (show j < ji + 1 by omega), e, tY_g hG52]
                          split <;> omega
                        · rw [if_neg e, ← rwv_of h78_71 (by omega), a.1]
                          by_cases e2 : j < ji
                          · rw [if_pos e2, if_pos (show j < ji + 1 by omega)]
                          · rw [if_neg e2, if_neg (show ¬ j < ji + 1 by omega)]
                      · rw [rwv_of hr101 (by omega)]
                        show (if j = ji then u88 + 0 else g79_73 j) = _
                        by_cases e : j = ji
                        · rw [if_pos e, if_pos (show j < ji + 1 by omega), e, tN_g hG52]
                          split <;> omega
                        · rw [if_neg e, ← rwv_of h79_74 (by omega), a.2]
                          by_cases e2 : j < ji
                          · rw [if_pos e2, if_pos (show j < ji + 1 by omega)]
                          · rw [if_neg e2, if_neg (show ¬ j < ji + 1 by omega)]
                    exact ih62 (ji + 1) w100 (by omega) (by omega) (xInv.up (S := [78, 79]) hI65 ((xFr.of (S := [78, 79]) hb87 (by decide)).tr (xFr.of (S := [78, 79]) hb102 (by decide))) (List.forall_mem_cons.mpr ⟨(show cpI 15 46 4294967295 (wget w100 78) from ⟨_, (hr86.but hb102 (by decide)), xrb (by omega) (hb72)⟩), List.forall_mem_cons.mpr ⟨(show cpI 15 47 4294967295 (wget w100 79) from ⟨_, hr101, xrb (by omega) (hb75)⟩), fun _ h => absurd h List.not_mem_nil⟩⟩)) ((hF66.tr ((xFr.of (S := [78, 79]) hb87 (by decide)).tr (xFr.of (S := [78, 79]) hb102 (by decide))))) (hq103)
                · refine xg_t (xg_icF (u := 10 * 2 ^ ji) (v := 8 * n57) rfl xnm0 xnm0 (xj_ltF (by omega) (by omega))) ?_
                  refine xg_t (xg_const) ?_
                  refine xg_t (xg_goto) ?_
                  refine xg_t (xg_blk (b := [(75, 1, 11, 0, 0, 0), (76, 1, 17, 0, 0, 0), (77, 1, 0, 0, 0, 0), (78, 3, 1, 4, 3, 18), (81, 2, 2, 4, 0, 0), (83, 1, 39, 0, 0, 0), (84, 1, 10, 0, 0, 0), (85, 2, 4, 10, 0, 0), (87, 2, 2, 4, 0, 0), (89, 1, 26, 0, 0, 0), (90, 2, 4, 12, 0, 0), (92, 1, 2, 3, 0, 0), (93, 1, 16, 0, 0, 0), (94, 3, 6, 101, 3, 0), (97, 1, 3, 1, 0, 0), (98, 3, 8, 102, 0, 0)]) rfl) ?_
                  refine xg_t (xg_iadd (u := u77) (v := 1) (z := u77 + 1) xnm0 xnm0 (by omega)) ?_
                  refine xg_iastK (n := ji) (u := u77 + 1) h78_71 xnm0 xnm0 rfl (by omega) (fun w104 hr105 hb106 => ?_)
                  refine xg_t (xg_aload (va := (2, 76)) rfl rfl) ?_
                  refine xg_t (xg_getf (va := (2, 79)) (hb106.get (by decide) (hF66.get (by decide) h76_17)) rfl) ?_
                  refine xg_t (xg_iload (va := (0, ji)) rfl rfl) ?_
                  refine xg_t (xg_dup2 rfl) ?_
                  refine xg_ialdB (n := ji) (B := 4294967295) (h79_74.but hb106 (by decide)) (hb75) xnm0 (by omega) (fun u107 hu108 he109 => ?_)
                  have hq110 : u107 = tN (rwv w 21) (fld w 20 3) sp (10 * 2 ^ ji) la := (he109.symm.trans (rwv_of h79_74 (by omega)).symm).trans ((he68 ji (by omega)).2.trans (if_neg (Nat.lt_irrefl _)))
                  have hq111 := (tY_le (t := rwv w 21) (n := fld w 20 3) (v := sp) (r := 10 * 2 ^ ji) la).2
                  have hq112 : u107 ≤ 240 := by omega
                  refine xg_t (xg_bip) ?_
                  refine xg_t (xg_iload (va := (0, ji)) rfl rfl) ?_
                  have hz113 : 10 ≤ 10 * 2 ^ ji ∧ 10 * 2 ^ ji ≤ 163840 := by
                    have k : ∀ n, n ≤ 14 → 10 ≤ 10 * 2 ^ n ∧ 10 * 2 ^ n ≤ 163840 := by decide
                    exact k _ (by omega)
                  refine xg_t (xg_ishl (u := 10) (v := ji) (z := 10 * 2 ^ ji) xnm0 xnm0 (by omega) (Nat.mod_eq_of_lt (by omega))) ?_
                  refine xg_t (xg_bip) ?_
                  refine xg_t (xg_iload (va := (0, n57)) rfl rfl) ?_
                  refine xg_t (xg_imul (u := 12) (v := n57) (z := 12 * n57) xnm0 xnm0 (by omega)) ?_
                  by_cases hc114 : (10 * 2 ^ ji) < (12 * n57)
                  · refine xg_t (xg_icF (u := 10 * 2 ^ ji) (v := 12 * n57) rfl xnm0 xnm0 (xj_geF hc114 (by omega))) ?_
                    refine xg_t (xg_const) ?_
                    refine xg_t (xg_goto) ?_
                    refine xg_t (xg_blk (b := [(102, 1, 11, 0, 0, 0), (103, 1, 17, 0, 0, 0), (104, 3, 9, 4, 1, 0), (107, 3, 8, 43, 0, 0)]) rfl) ?_
                    refine xg_t (xg_iadd (u := u107) (v := 1) (z := u107 + 1) xnm0 xnm0 (by omega)) ?_
                    refine xg_iastK (n := ji) (u := u107 + 1) (h79_74.but hb106 (by decide)) xnm0 xnm0 rfl (by omega) (fun w115 hr116 hb117 => ?_)
                    refine xg_t (xg_iinc (u := ji) (z := ji + 1) (l1 := [(0, (2, 76)), (1, (0, sp)), (2, (0, la)), (3, (0, n57))]) rfl rfl (by omega) rfl) ?_
                    refine xg_t (xg_goto) ?_
                    refine xg_t (xg_drop (l1 := [(0, (2, 76)), (1, (0, sp)), (2, (0, la)), (3, (0, n57)), (4, (0, ji + 1))]) (List.forall_mem_cons.mpr ⟨List.mem_cons_of_mem _ (List.mem_cons_self), List.forall_mem_cons.mpr ⟨List.mem_cons_of_mem _ (List.mem_cons_of_mem _ (List.mem_cons_self)), List.forall_mem_cons.mpr ⟨List.mem_cons_of_mem _ (List.mem_cons_of_mem _ (List.mem_cons_of_mem _ (List.mem_cons_self))), List.forall_mem_cons.mpr ⟨List.mem_cons_of_mem _ (List.mem_cons_of_mem _ (List.mem_cons_of_mem _ (List.mem_cons_of_mem _ (List.mem_cons_self)))), List.forall_mem_cons.mpr ⟨List.mem_cons_self, fun _ h => absurd h List.not_mem_nil⟩⟩⟩⟩⟩)) ?_
                    have hq118 : (∀ j, j < 15 → rwv w115 78 j = (if j < ji + 1 then tY (rwv w 21) (fld w 20 3) sp (10 * 2 ^ j) (la + 1) else tY (rwv w 21) (fld w 20 3) sp (10 * 2 ^ j) la) ∧ rwv w115 79 j = (if j < ji + 1 then tN (rwv w 21) (fld w 20 3) sp (10 * 2 ^ j) (la + 1) else tN (rwv w 21) (fld w 20 3) sp (10 * 2 ^ j) la)) := fun j hj => by
                      have a := he68 j hj
                      refine ⟨?_, ?_⟩
                      · rw [rwv_of (hr105.but hb117 (by decide)) (by omega)]
                        show (if j = ji then u77 + 1 else g78_70 j) = _
                        by_cases e : j = ji
                        · rw [if_pos e, if_pos (show j < ji + 1 by omega), e, tY_g hG52]
                          split <;> omega
                        · rw [if_neg e, ← rwv_of h78_71 (by omega), a.1]
                          by_cases e2 : j < ji
                          · rw [if_pos e2, if_pos (show j < ji + 1 by omega)]
                          · rw [if_neg e2, if_neg (show ¬ j < ji + 1 by omega)]
                      · rw [rwv_of hr116 (by omega)]
                        show (if j = ji then u107 + 1 else g79_73 j) = _
                        by_cases e : j = ji
                        · rw [if_pos e, if_pos (show j < ji + 1 by omega), e, tN_g hG52]
                          split <;> omega
                        · rw [if_neg e, ← rwv_of h79_74 (by omega), a.2]
                          by_cases e2 : j < ji
                          · rw [if_pos e2, if_pos (show j < ji + 1 by omega)]
                          · rw [if_neg e2, if_neg (show ¬ j < ji + 1 by omega)]
                    exact ih62 (ji + 1) w115 (by omega) (by omega) (xInv.up (S := [78, 79]) hI65 ((xFr.of (S := [78, 79]) hb106 (by decide)).tr (xFr.of (S := [78, 79]) hb117 (by decide))) (List.forall_mem_cons.mpr ⟨(show cpI 15 46 4294967295 (wget w115 78) from ⟨_, (hr105.but hb117 (by decide)), xrb (by omega) (hb72)⟩), List.forall_mem_cons.mpr ⟨(show cpI 15 47 4294967295 (wget w115 79) from ⟨_, hr116, xrb (by omega) (hb75)⟩), fun _ h => absurd h List.not_mem_nil⟩⟩)) ((hF66.tr ((xFr.of (S := [78, 79]) hb106 (by decide)).tr (xFr.of (S := [78, 79]) hb117 (by decide))))) (hq118)
                  · refine xg_t (xg_icT (u := 10 * 2 ^ ji) (v := 12 * n57) rfl xnm0 xnm0 (xj_geT (by omega) (by omega))) ?_
                    refine xg_t (xg_blk (b := [(101, 1, 3, 0, 0, 0)]) rfl) ?_
                    refine xg_t (xg_const) ?_
                    refine xg_t (xg_blk (b := [(102, 1, 11, 0, 0, 0), (103, 1, 17, 0, 0, 0), (104, 3, 9, 4, 1, 0), (107, 3, 8, 43, 0, 0)]) rfl) ?_
                    refine xg_t (xg_iadd (u := u107) (v := 0) (z := u107 + 0) xnm0 xnm0 (by omega)) ?_
                    refine xg_iastK (n := ji) (u := u107 + 0) (h79_74.but hb106 (by decide)) xnm0 xnm0 rfl (by omega) (fun w119 hr120 hb121 => ?_)
                    refine xg_t (xg_iinc (u := ji) (z := ji + 1) (l1 := [(0, (2, 76)), (1, (0, sp)), (2, (0, la)), (3, (0, n57))]) rfl rfl (by omega) rfl) ?_
                    refine xg_t (xg_goto) ?_
                    refine xg_t (xg_drop (l1 := [(0, (2, 76)), (1, (0, sp)), (2, (0, la)), (3, (0, n57)), (4, (0, ji + 1))]) (List.forall_mem_cons.mpr ⟨List.mem_cons_of_mem _ (List.mem_cons_self), List.forall_mem_cons.mpr ⟨List.mem_cons_of_mem _ (List.mem_cons_of_mem _ (List.mem_cons_self)), List.forall_mem_cons.mpr ⟨List.mem_cons_of_mem _ (List.mem_cons_of_mem _ (List.mem_cons_of_mem _ (List.mem_cons_self))), List.forall_mem_cons.mpr ⟨List.mem_cons_of_mem _ (List.mem_cons_of_mem _ (List.mem_cons_of_mem _ (List.mem_cons_of_mem _ (List.mem_cons_self)))), List.forall_mem_cons.mpr ⟨List.mem_cons_self, fun _ h => absurd h List.not_mem_nil⟩⟩⟩⟩⟩)) ?_
                    have hq122 : (∀ j, j < 15 → rwv w119 78 j = (if j < ji + 1 then tY (rwv w 21) (fld w 20 3) sp (10 * 2 ^ j) (la + 1) else tY (rwv w 21) (fld w 20 3) sp (10 * 2 ^ j) la) ∧ rwv w119 79 j = (if j < ji + 1 then tN (rwv w 21) (fld w 20 3) sp (10 * 2 ^ j) (la + 1) else tN (rwv w 21) (fld w 20 3) sp (10 * 2 ^ j) la)) := fun j hj => by
                      have a := he68 j hj
                      refine ⟨?_, ?_⟩
                      · rw [rwv_of (hr105.but hb121 (by decide)) (by omega)]
                        show (if j = ji then u77 + 1 else g78_70 j) = _
                        by_cases e : j = ji
                        · rw [if_pos e, if_pos (show j < ji + 1 by omega), e, tY_g hG52]
                          split <;> omega
                        · rw [if_neg e, ← rwv_of h78_71 (by omega), a.1]
                          by_cases e2 : j < ji
                          · rw [if_pos e2, if_pos (show j < ji + 1 by omega)]
                          · rw [if_neg e2, if_neg (show ¬ j < ji + 1 by omega)]
                      · rw [rwv_of hr120 (by omega)]
                        show (if j = ji then u107 + 0 else g79_73 j) = _
                        by_cases e : j = ji
                        · rw [if_pos e, if_pos (show j < ji + 1 by omega), e, tN_g hG52]
                          split <;> omega
                        · rw [if_neg e, ← rwv_of h79_74 (by omega), a.2]
                          by_cases e2 : j < ji
                          · rw [if_pos e2, if_pos (show j < ji + 1 by omega)]
                          · rw [if_neg e2, if_neg (show ¬ j < ji + 1 by omega)]
                    exact ih62 (ji + 1) w119 (by omega) (by omega) (xInv.up (S := [78, 79]) hI65 ((xFr.of (S := [78, 79]) hb106 (by decide)).tr (xFr.of (S := [78, 79]) hb121 (by decide))) (List.forall_mem_cons.mpr ⟨(show cpI 15 46 4294967295 (wget w119 78) from ⟨_, (hr105.but hb121 (by decide)), xrb (by omega) (hb72)⟩), List.forall_mem_cons.mpr ⟨(show cpI 15 47 4294967295 (wget w119 79) from ⟨_, hr120, xrb (by omega) (hb75)⟩), fun _ h => absurd h List.not_mem_nil⟩⟩)) ((hF66.tr ((xFr.of (S := [78, 79]) hb106 (by decide)).tr (xFr.of (S := [78, 79]) hb121 (by decide))))) (hq122)
              · refine xg_t (xg_icT (u := ji) (v := 15) rfl xnm0 xnm0 (xj_geT (by omega) (by omega))) ?_
                refine xg_t (xg_blk (b := [(110, 3, 9, 2, 1, 0), (113, 3, 8, 18, 0, 0)]) rfl) ?_
                refine xg_t (xg_iinc (u := la) (z := la + 1) (l1 := [(0, (2, 76)), (1, (0, sp)), (3, (0, n57)), (4, (0, ji))]) rfl rfl (by omega) rfl) ?_
                refine xg_t (xg_goto) ?_
                refine xg_t (xg_drop (l1 := [(0, (2, 76)), (1, (0, sp)), (2, (0, la + 1))]) (List.forall_mem_cons.mpr ⟨List.mem_cons_of_mem _ (List.mem_cons_self), List.forall_mem_cons.mpr ⟨List.mem_cons_of_mem _ (List.mem_cons_of_mem _ (List.mem_cons_self)), List.forall_mem_cons.mpr ⟨List.mem_cons_self, fun _ h => absurd h List.not_mem_nil⟩⟩⟩)) ?_
                exact ih32 (la + 1) w64 (by omega) (by omega) (hI65) (hF66) (fun j hj => by have a := he68 j hj; rw [if_pos (show j < ji by omega), if_pos (show j < ji by omega)] at a; exact a)
          exact key61 _ 0 w53 (Nat.lt_succ_self _) (by omega) (hI55) ((hF36.tr (hF56.up (by decide)))) (fun j hj => by have a := he38 j hj; rw [if_neg (Nat.not_lt_zero j), if_neg (Nat.not_lt_zero j)]; exact a)
        · refine xg_t (xg_ifT (u := u47) rfl xnm0 (xj_neT hc51)) ?_
          refine xg_t (xg_blk (b := [(110, 3, 9, 2, 1, 0), (113, 3, 8, 18, 0, 0)]) rfl) ?_
          refine xg_t (xg_iinc (u := la) (z := la + 1) (l1 := [(0, (2, 76)), (1, (0, sp))]) rfl rfl (by omega) rfl) ?_
          refine xg_t (xg_goto) ?_
          refine xg_t (xg_drop (l1 := [(0, (2, 76)), (1, (0, sp)), (2, (0, la + 1))]) (List.forall_mem_cons.mpr ⟨List.mem_cons_of_mem _ (List.mem_cons_self), List.forall_mem_cons.mpr ⟨List.mem_cons_of_mem _ (List.mem_cons_of_mem _ (List.mem_cons_self)), List.forall_mem_cons.mpr ⟨List.mem_cons_self, fun _ h => absurd h List.not_mem_nil⟩⟩⟩)) ?_
          have hG123 : ¬ tG (rwv w 21) la (fld w 20 3) = true := fun z => absurd ((tA_zero _).mpr z) (by omega)
          exact ih32 (la + 1) w34 (by omega) (by omega) (hI35) (hF36) (fun j hj => by rw [tY_n hG123, tN_n hG123]; exact he38 j hj)
      · refine xg_t (xg_icT (u := la) (v := 240) rfl xnm0 xnm0 (xj_geT (by omega) (by omega))) ?_
        refine xg_t (xg_blk (b := [(116, 1, 12, 0, 0, 0)]) rfl) ?_
        exact xg_e ⟨w34, ⟨rfl, rfl⟩, hI35, hF36, fun j hj => by have a := he38 j hj; rw [show la = 240 by omega] at a; exact a⟩
  exact key31 _ 0 w29 (Nat.lt_succ_self _) (by omega) (xInv.up (S := [78, 79]) hI ((xFr.of (S := [78, 79]) hq25.2 (by decide)).tr (xFr.of (S := [78, 79]) hq30.2 (by decide))) (List.forall_mem_cons.mpr ⟨(show cpI 15 46 4294967295 (wget w29 78) from ⟨_, (hq25.1.but hq30.2 (by decide)), fun _ => (by omega : 0 ≤ 4294967295)⟩), List.forall_mem_cons.mpr ⟨(show cpI 15 47 4294967295 (wget w29 79) from ⟨_, hq30.1, fun _ => (by omega : 0 ≤ 4294967295)⟩), fun _ h => absurd h List.not_mem_nil⟩⟩)) (((xFr.of (S := [78, 79]) hq25.2 (by decide)).tr (xFr.of (S := [78, 79]) hq30.2 (by decide)))) (fun j hj => ⟨rwv_of (hq25.1.but hq30.2 (by decide)) (by omega), rwv_of hq30.1 (by omega)⟩)
theorem lwNextX (hI : xInv w) (hD : lwD w) (hX : lwI w) : xPq (d + 2) mX4_refreshNext [(2, 76)] w bd fc rr [] (fun w' => xInv w' ∧ xFr [76, 78, 79] w w' ∧ (lwN w' ∧ lwD w' ∧ lwI w')) := by
  refine xPq.of ?_
  show xTo (d + 2) mX4_refreshNext (0, [], [(0, (2, 76))], [], (w, bd, fc, 0, 0, rr)) (fun φ => ∃ w', xEnd 0 [] (w', bd, fc, 0, 0, rr) φ ∧ xInv w' ∧ xFr [76, 78, 79] w w' ∧ (lwN w' ∧ lwD w' ∧ lwI w'))
  obtain ⟨f76_1, f76_3, f76_5, f76_7, f76_9, f76_11, f76_13, f76_15, h76_17, hb2, hb4, hb6, hb8, hb10, hb12, hb14, hb16⟩ := (hI 76 (by decide) : cp76 (wget w 76))
  obtain ⟨f20_18, h20_20, hb19⟩ := (hI 20 (by decide) : cp20 (wget w 20))
  obtain ⟨g21_21, h21_22, hb23⟩ := (hI 21 (by decide) : cpI 48 9 4294967295 (wget w 21))
  have h21_22 : xRow w 21 48 9 g21_21 := h21_22
  have hsz : fld w 20 3 = f20_18 := fld_of h20_20
  have hg : ∀ j, j < 48 → rwv w 21 j = g21_21 j := fun j h => rwv_of h21_22 h
  have hf11 : fld w 76 11 = f76_15 := fld_of h76_17
  have hq24 : fld w 76 4 = f76_1 := fld_of h76_17
  have hq25 : fld w 76 5 = f76_3 := fld_of h76_17
  have hq26 : fld w 76 9 = f76_11 := fld_of h76_17
  have hq27 : fld w 76 10 = f76_13 := fld_of h76_17
  refine xg_t (xg_blk (b := [(0, 1, 0, 0, 0, 0), (1, 3, 1, 4, 11, 32), (4, 3, 7, 8, 0, 0), (7, 1, 12, 0, 0, 0)]) rfl) ?_
  refine xg_t (xg_aload (va := (2, 76)) rfl rfl) ?_
  refine xg_t (xg_getf (va := (0, f76_15)) h76_17 rfl) ?_
  by_cases hc28 : f76_15 = 0
  · refine xg_t (xg_ifT (u := f76_15) rfl xnm0 (xj_eqT hc28)) ?_
    refine xg_t (xg_blk (b := [(8, 1, 0, 0, 0, 0), (9, 3, 5, 241, 0, 0), (12, 3, 14, 4, 8, 81), (15, 1, 3, 1, 0, 0), (16, 1, 15, 1, 0, 0)]) rfl) ?_
    refine xg_t (xg_aload (va := (2, 76)) rfl rfl) ?_
    refine xg_t (xg_sip) ?_
    refine xg_putI (fl1 := [(2, 20), (2, 77), (2, 78), (2, 79), (0, f76_1), (0, f76_3), (0, f76_5), (0, f76_7), (0, 241), (0, f76_11), (0, f76_13), (0, f76_15)]) h76_17 rfl rfl rfl (fun w29 hk30 hb31 => ?_)
    refine xg_t (xg_const) ?_
    refine xg_t (xg_istore (l1 := [(0, (2, 76))]) rfl rfl rfl) ?_
    refine xg_t (xg_drop (l1 := [(0, (2, 76)), (1, (0, 1))]) (List.forall_mem_cons.mpr ⟨List.mem_cons_of_mem _ (List.mem_cons_self), List.forall_mem_cons.mpr ⟨List.mem_cons_self, fun _ h => absurd h List.not_mem_nil⟩⟩)) ?_
    have hq38 : fld w29 76 4 = f76_1 := fld_of hk30
    have hq39 : fld w29 76 5 = f76_3 := fld_of hk30
    have hq40 : fld w29 76 6 = f76_5 := fld_of hk30
    have hq41 : fld w29 76 7 = f76_7 := fld_of hk30
    have hq42 : fld w29 76 8 = 241 := fld_of hk30
    have hq43 : fld w29 76 9 = f76_11 := fld_of hk30
    have hq44 : fld w29 76 10 = f76_13 := fld_of hk30
    have key32 : ∀ (m34 : Nat) (sp : Nat) (w35 : List (List xE)), 10 - sp < m34 → sp ≤ 10 → xInv w35 → xFr [76, 78, 79] w w35 → ((fld w35 76 8 = (tX (rwv w 21) (fld w 20 3) (15 * (sp - 1))).1 ∧ (15 * (sp - 1) ≠ 0 → fld w35 76 6 = (tX (rwv w 21) (fld w 20 3) (15 * (sp - 1))).2.1 ∧ fld w35 76 7 = (tX (rwv w 21) (fld w 20 3) (15 * (sp - 1))).2.2)) ∧ fld w35 76 4 = fld w 76 4 ∧ fld w35 76 5 = fld w 76 5 ∧ fld w35 76 9 = fld w 76 9 ∧ fld w35 76 10 = fld w 76 10) → 1 ≤ sp → xTo (d + 2) mX4_refreshNext (17, [], [(0, (2, 76)), (1, (0, sp))], [], (w35, bd, fc, 0, 0, rr)) (fun φ => ∃ w', xEnd 0 [] (w', bd, fc, 0, 0, rr) φ ∧ xInv w' ∧ xFr [76, 78, 79] w w' ∧ (lwN w' ∧ lwD w' ∧ lwI w')) := by
      intro m34
      induction m34 with
      | zero => intro sp w35 hz; exact absurd hz (Nat.not_lt_zero _)
      | succ m34 ih33 =>
        intro sp w35 hm48 hn45 hI36 hF37 he46 he47
        obtain ⟨⟨he49, he50⟩, he51, he52, he53, he54⟩ := he46
        obtain ⟨f76_55, f76_57, f76_59, f76_61, f76_63, f76_65, f76_67, f76_69, h76_71, hb56, hb58, hb60, hb62, hb64, hb66, hb68, hb70⟩ := (hI36 76 (by decide) : cp76 (wget w35 76))
        have hq72 : fld w35 76 4 = f76_55 := fld_of h76_71
        have hq73 : fld w35 76 5 = f76_57 := fld_of h76_71
        have hq74 : fld w35 76 6 = f76_59 := fld_of h76_71
        have hq75 : fld w35 76 7 = f76_61 := fld_of h76_71
        have hq76 : fld w35 76 8 = f76_63 := fld_of h76_71
        have hq77 : fld w35 76 9 = f76_65 := fld_of h76_71
        have hq78 : fld w35 76 10 = f76_67 := fld_of h76_71
        have hq79 := tX_le (t := rwv w 21) (n := fld w 20 3) (15 * (sp - 1))
        have hq80 : f76_63 ≤ 241 := by omega
        refine xg_t (xg_blk (b := [(17, 1, 2, 1, 0, 0), (18, 2, 4, 9, 0, 0), (20, 3, 6, 90, 4, 0), (23, 1, 0, 0, 0, 0), (24, 1, 2, 1, 0, 0), (25, 3, 13, 271, 32, 84), (28, 1, 3, 0, 0, 0), (29, 1, 15, 2, 0, 0)]) rfl) ?_
        refine xg_t (xg_iload (va := (0, sp)) rfl rfl) ?_
        refine xg_t (xg_bip) ?_
        by_cases hc81 : 9 < sp
        · refine xg_t (xg_icT (u := sp) (v := 9) rfl xnm0 xnm0 (xj_gtT hc81 (by omega))) ?_
          refine xg_t (xg_blk (b := [(90, 1, 0, 0, 0, 0), (91, 1, 3, 1, 0, 0), (92, 3, 59, 4, 11, 32), (95, 1, 12, 0, 0, 0)]) rfl) ?_
          refine xg_t (xg_aload (va := (2, 76)) rfl rfl) ?_
          refine xg_t (xg_const) ?_
          refine xg_putZ (fl1 := [(2, 20), (2, 77), (2, 78), (2, 79), (0, f76_55), (0, f76_57), (0, f76_59), (0, f76_61), (0, f76_63), (0, f76_65), (0, f76_67), (0, 1)]) h76_71 rfl rfl rfl (fun w82 hk83 hb84 => ?_)
          have hq85 : fld w82 76 4 = f76_55 := fld_of hk83
          have hq86 : fld w82 76 5 = f76_57 := fld_of hk83
          have hq87 : fld w82 76 6 = f76_59 := fld_of hk83
          have hq88 : fld w82 76 7 = f76_61 := fld_of hk83
          have hq89 : fld w82 76 8 = f76_63 := fld_of hk83
          have hq90 : fld w82 76 9 = f76_65 := fld_of hk83
          have hq91 : fld w82 76 10 = f76_67 := fld_of hk83
          have hq94 : 15 * (sp - 1) = 135 := by omega
          have hn93 := he50 (by omega)
          rw [hq94] at he49 hn93
          obtain ⟨hn931, hn932⟩ := hn93
          have hq92 : lwN w82 := by
            unfold lwN
            rw [rwf_eq ((hF37.tr (xFr.of (S := [76, 78, 79]) hb84 (by decide))).1 21 (by decide)), fld_eq ((hF37.tr (xFr.of (S := [76, 78, 79]) hb84 (by decide))).1 20 (by decide))]
            exact ⟨by omega, by omega, by omega⟩
          have hk97 : fld w82 76 4 = fld w 76 4 := by omega
          have hk98 : fld w82 76 9 = fld w 76 9 := by omega
          have hD96 : lwD w82 := hD.kp ((hF37.tr (xFr.of (S := [76, 78, 79]) hb84 (by decide))).1 20 (by decide)) ((hF37.tr (xFr.of (S := [76, 78, 79]) hb84 (by decide))).1 21 (by decide)) ((hF37.tr (xFr.of (S := [76, 78, 79]) hb84 (by decide))).1 77 (by decide)) hk97
          exact xg_e ⟨w82, ⟨rfl, rfl⟩, xInv.up (S := [76]) hI36 (xFr.of (S := [76]) hb84 (by decide)) (List.forall_mem_cons.mpr ⟨(show cp76 (wget w82 76) from ⟨f76_55, f76_57, f76_59, f76_61, f76_63, f76_65, f76_67, 1, hk83, by omega, by omega, by omega, by omega, by omega, by omega, by omega, by omega⟩), fun _ h => absurd h List.not_mem_nil⟩), (hF37.tr (xFr.of (S := [76, 78, 79]) hb84 (by decide))), ⟨hq92, hD96, ⟨Or.inr hD96, Or.inr hq92⟩⟩⟩
        · refine xg_t (xg_icF (u := sp) (v := 9) rfl xnm0 xnm0 (xj_gtF (by omega) (by omega))) ?_
          refine xg_t (xg_aload (va := (2, 76)) rfl rfl) ?_
          refine xg_t (xg_iload (va := (0, sp)) rfl rfl) ?_
          have hD99 : lwD w35 := hD.kp (hF37.1 20 (by decide)) (hF37.1 21 (by decide)) (hF37.1 77 (by decide)) he51
          refine xg_cVv mX4_countTries (vs := [(0, sp)]) (rest := []) (cn1 := 0) (sl1 := 0) rfl (lwCountX (hI36) (by omega) (by omega) hD99) rfl h76_71 rfl rfl rfl rfl rfl rfl (fun w100 hq101 => ?_)
          obtain ⟨hI102, hF103, hx104⟩ := hq101
          rw [rwf_eq (hF37.1 21 (by decide)), fld_eq (hF37.1 20 (by decide))] at hx104
          refine xg_t (xg_const) ?_
          refine xg_t (xg_istore (l1 := [(0, (2, 76)), (1, (0, sp))]) rfl rfl rfl) ?_
          refine xg_t (xg_drop (l1 := [(0, (2, 76)), (1, (0, sp)), (2, (0, 0))]) (List.forall_mem_cons.mpr ⟨List.mem_cons_of_mem _ (List.mem_cons_self), List.forall_mem_cons.mpr ⟨List.mem_cons_of_mem _ (List.mem_cons_of_mem _ (List.mem_cons_self)), List.forall_mem_cons.mpr ⟨List.mem_cons_self, fun _ h => absurd h List.not_mem_nil⟩⟩⟩)) ?_
          have key105 : ∀ (m107 : Nat) (ji : Nat) (w108 : List (List xE)), 15 - ji < m107 → ji ≤ 15 → xInv w108 → xFr [76, 78, 79] w w108 → ((fld w108 76 8 = (tX (rwv w 21) (fld w 20 3) (15 * (sp - 1) + ji)).1 ∧ (15 * (sp - 1) + ji ≠ 0 → fld w108 76 6 = (tX (rwv w 21) (fld w 20 3) (15 * (sp - 1) + ji)).2.1 ∧ fld w108 76 7 = (tX (rwv w 21) (fld w 20 3) (15 * (sp - 1) + ji)).2.2)) ∧ fld w108 76 4 = fld w 76 4 ∧ fld w108 76 5 = fld w 76 5 ∧ fld w108 76 9 = fld w 76 9 ∧ fld w108 76 10 = fld w 76 10) → ∀ j, j < 15 → rwv w108 78 j = tY (rwv w 21) (fld w 20 3) sp (10 * 2 ^ j) 240 ∧ rwv w108 79 j = tN (rwv w 21) (fld w 20 3) sp (10 * 2 ^ j) 240 → xTo (d + 2) mX4_refreshNext (30, [], [(0, (2, 76)), (1, (0, sp)), (2, (0, ji))], [], (w108, bd, fc, 0, 0, rr)) (fun φ => ∃ w', xEnd 0 [] (w', bd, fc, 0, 0, rr) φ ∧ xInv w' ∧ xFr [76, 78, 79] w w' ∧ (lwN w' ∧ lwD w' ∧ lwI w')) := by
            intro m107
            induction m107 with
            | zero => intro ji w108 hz; exact absurd hz (Nat.not_lt_zero _)
            | succ m107 ih106 =>
              intro ji w108 hm114 hn111 hI109 hF110 he112 he113
              obtain ⟨⟨he115, he116⟩, he117, he118, he119, he120⟩ := he112
              obtain ⟨f76_121, f76_123, f76_125, f76_127, f76_129, f76_131, f76_133, f76_135, h76_137, hb122, hb124, hb126, hb128, hb130, hb132, hb134, hb136⟩ := (hI109 76 (by decide) : cp76 (wget w108 76))
              have hq138 : fld w108 76 4 = f76_121 := fld_of h76_137
              have hq139 : fld w108 76 5 = f76_123 := fld_of h76_137
              have hq140 : fld w108 76 6 = f76_125 := fld_of h76_137
              have hq141 : fld w108 76 7 = f76_127 := fld_of h76_137
              have hq142 : fld w108 76 8 = f76_129 := fld_of h76_137
              have hq143 : fld w108 76 9 = f76_131 := fld_of h76_137
              have hq144 : fld w108 76 10 = f76_133 := fld_of h76_137
              have hq145 := tX_le (t := rwv w 21) (n := fld w 20 3) (15 * (sp - 1) + ji)
              have hq146 : f76_129 ≤ 241 := by omega
              obtain ⟨g78_147, h78_148, hb149⟩ := (hI109 78 (by decide) : cpI 15 46 4294967295 (wget w108 78))
              have h78_148 : xRow w108 78 15 46 g78_147 := h78_148
              obtain ⟨g79_150, h79_151, hb152⟩ := (hI109 79 (by decide) : cpI 15 47 4294967295 (wget w108 79))
              have h79_151 : xRow w108 79 15 47 g79_150 := h79_151
              refine xg_t (xg_blk (b := [(30, 1, 2, 2, 0, 0), (31, 2, 4, 15, 0, 0), (33, 3, 6, 84, 3, 0), (36, 1, 0, 0, 0, 0), (37, 3, 1, 4, 2, 15), (40, 1, 2, 2, 0, 0), (41, 1, 10, 0, 0, 0), (42, 1, 0, 0, 0, 0), (43, 3, 1, 4, 3, 18), (46, 1, 2, 2, 0, 0), (47, 1, 10, 0, 0, 0), (48, 3, 62, 0, 0, 68), (51, 1, 15, 3, 0, 0), (52, 1, 2, 3, 0, 0), (53, 1, 0, 0, 0, 0), (54, 3, 1, 4, 8, 81), (57, 3, 6, 78, 3, 0), (60, 1, 0, 0, 0, 0), (61, 1, 2, 3, 0, 0), (62, 3, 14, 4, 8, 81), (65, 1, 0, 0, 0, 0), (66, 1, 2, 1, 0, 0), (67, 3, 14, 4, 6, 88), (70, 1, 0, 0, 0, 0), (71, 2, 4, 10, 0, 0), (73, 1, 2, 2, 0, 0), (74, 1, 26, 0, 0, 0), (75, 3, 14, 4, 7, 91)]) rfl) ?_
              refine xg_t (xg_iload (va := (0, ji)) rfl rfl) ?_
              refine xg_t (xg_bip) ?_
              by_cases hc153 : ji < 15
              · refine xg_t (xg_icF (u := ji) (v := 15) rfl xnm0 xnm0 (xj_geF hc153 (by omega))) ?_
                refine xg_t (xg_aload (va := (2, 76)) rfl rfl) ?_
                refine xg_t (xg_getf (va := (2, 78)) h76_137 rfl) ?_
                refine xg_t (xg_iload (va := (0, ji)) rfl rfl) ?_
                refine xg_ialdB (n := ji) (B := 4294967295) h78_148 (hb149) xnm0 (by omega) (fun u154 hu155 he156 => ?_)
                have hq157 : u154 = tY (rwv w 21) (fld w 20 3) sp (10 * 2 ^ ji) 240 := (he156.symm.trans (rwv_of h78_148 (by omega)).symm).trans ((he113 ji (by omega)).1)
                have hq158 := (tY_le (t := rwv w 21) (n := fld w 20 3) (v := sp) (r := 10 * 2 ^ ji) 240).1
                have hq159 : u154 ≤ 240 := by omega
                refine xg_t (xg_aload (va := (2, 76)) rfl rfl) ?_
                refine xg_t (xg_getf (va := (2, 79)) h76_137 rfl) ?_
                refine xg_t (xg_iload (va := (0, ji)) rfl rfl) ?_
                refine xg_ialdB (n := ji) (B := 4294967295) h79_151 (hb152) xnm0 (by omega) (fun u160 hu161 he162 => ?_)
                have hq163 : u160 = tN (rwv w 21) (fld w 20 3) sp (10 * 2 ^ ji) 240 := (he162.symm.trans (rwv_of h79_151 (by omega)).symm).trans ((he113 ji (by omega)).2)
                have hq164 := (tY_le (t := rwv w 21) (n := fld w 20 3) (v := sp) (r := 10 * 2 ^ ji) 240).2
                have hq165 : u160 ≤ 240 := by omega
                refine xg_maxK (u := u154) (v := u160) xnm0 xnm0 xmx_ok (by omega) (by omega) (fun z166 hz167 hz168 hz169 hz170 => ?_)
                unfold xbs at hz168 hz169
                refine xg_t (xg_istore (l1 := [(0, (2, 76)), (1, (0, sp)), (2, (0, ji))]) rfl rfl rfl) ?_
                refine xg_t (xg_iload (va := (0, z166)) rfl rfl) ?_
                refine xg_t (xg_aload (va := (2, 76)) rfl rfl) ?_
                refine xg_t (xg_getf (va := (0, f76_129)) h76_137 rfl) ?_
                by_cases hc171 : z166 < f76_129
                · refine xg_t (xg_icF (u := z166) (v := f76_129) rfl xnm0 xnm0 (xj_geF hc171 (by omega))) ?_
                  refine xg_t (xg_aload (va := (2, 76)) rfl rfl) ?_
                  refine xg_t (xg_iload (va := (0, z166)) rfl rfl) ?_
                  refine xg_putI (fl1 := [(2, 20), (2, 77), (2, 78), (2, 79), (0, f76_121), (0, f76_123), (0, f76_125), (0, f76_127), (0, z166), (0, f76_131), (0, f76_133), (0, f76_135)]) h76_137 rfl rfl rfl (fun w172 hk173 hb174 => ?_)
                  refine xg_t (xg_aload (va := (2, 76)) rfl rfl) ?_
                  refine xg_t (xg_iload (va := (0, sp)) rfl rfl) ?_
                  refine xg_putI (fl1 := [(2, 20), (2, 77), (2, 78), (2, 79), (0, f76_121), (0, f76_123), (0, sp), (0, f76_127), (0, z166), (0, f76_131), (0, f76_133), (0, f76_135)]) hk173 rfl rfl rfl (fun w175 hk176 hb177 => ?_)
                  refine xg_t (xg_aload (va := (2, 76)) rfl rfl) ?_
                  refine xg_t (xg_bip) ?_
                  refine xg_t (xg_iload (va := (0, ji)) rfl rfl) ?_
                  have hz178 : 10 ≤ 10 * 2 ^ ji ∧ 10 * 2 ^ ji ≤ 163840 := by
                    have k : ∀ n, n ≤ 14 → 10 ≤ 10 * 2 ^ n ∧ 10 * 2 ^ n ≤ 163840 := by decide
                    exact k _ (by omega)
                  refine xg_t (xg_ishl (u := 10) (v := ji) (z := 10 * 2 ^ ji) xnm0 xnm0 (by omega) (Nat.mod_eq_of_lt (by omega))) ?_
                  refine xg_putI (fl1 := [(2, 20), (2, 77), (2, 78), (2, 79), (0, f76_121), (0, f76_123), (0, sp), (0, 10 * 2 ^ ji), (0, z166), (0, f76_131), (0, f76_133), (0, f76_135)]) hk176 rfl rfl rfl (fun w179 hk180 hb181 => ?_)
                  refine xg_t (xg_blk (b := [(78, 3, 9, 2, 1, 0), (81, 3, 8, 30, 0, 0)]) rfl) ?_
                  refine xg_t (xg_iinc (u := ji) (z := ji + 1) (l1 := [(3, (0, z166)), (0, (2, 76)), (1, (0, sp))]) rfl rfl (by omega) rfl) ?_
                  refine xg_t (xg_goto) ?_
                  refine xg_t (xg_drop (l1 := [(0, (2, 76)), (1, (0, sp)), (2, (0, ji + 1))]) (List.forall_mem_cons.mpr ⟨List.mem_cons_of_mem _ (List.mem_cons_of_mem _ (List.mem_cons_self)), List.forall_mem_cons.mpr ⟨List.mem_cons_of_mem _ (List.mem_cons_of_mem _ (List.mem_cons_of_mem _ (List.mem_cons_self))), List.forall_mem_cons.mpr ⟨List.mem_cons_self, fun _ h => absurd h List.not_mem_nil⟩⟩⟩)) ?_
                  have hq182 : fld w179 76 4 = f76_121 := fld_of hk180
                  have hq183 : fld w179 76 5 = f76_123 := fld_of hk180
                  have hq184 : fld w179 76 6 = sp := fld_of hk180
                  have hq185 : fld w179 76 7 = 10 * 2 ^ ji := fld_of hk180
                  have hq186 : fld w179 76 8 = z166 := fld_of hk180
                  have hq187 : fld w179 76 9 = f76_131 := fld_of hk180
                  have hq188 : fld w179 76 10 = f76_133 := fld_of hk180
                  have hw189 : z166 = tW (rwv w 21) (fld w 20 3) (15 * (sp - 1) + ji) := tW_eq (v := sp) (j := ji) (by omega) (by omega) hq157 hq163 (by omega)
                  have hx190 : tX (rwv w 21) (fld w 20 3) (15 * (sp - 1) + ji + 1) = _ := tX_y (by omega)
                  have hq191 : (tX (rwv w 21) (fld w 20 3) (15 * (sp - 1) + (ji + 1))).1 = z166 ∧ (tX (rwv w 21) (fld w 20 3) (15 * (sp - 1) + (ji + 1))).2.1 = sp ∧ (tX (rwv w 21) (fld w 20 3) (15 * (sp - 1) + (ji + 1))).2.2 = 10 * 2 ^ ji := by
                    rw [show 15 * (sp - 1) + (ji + 1) = 15 * (sp - 1) + ji + 1 from rfl, hx190]
                    refine ⟨hw189.symm, ?_, ?_⟩
                    · show (15 * (sp - 1) + ji) / 15 + 1 = sp
                      omega
                    · show 10 * 2 ^ ((15 * (sp - 1) + ji) % 15) = _
                      rw [show (15 * (sp - 1) + ji) % 15 = ji by omega]
                  obtain ⟨hq1911, hq1912, hq1913⟩ := hq191
                  exact ih106 (ji + 1) w179 (by omega) (by omega) (xInv.up (S := [76]) hI109 (((xFr.of (S := [76]) hb174 (by decide)).tr (xFr.of (S := [76]) hb177 (by decide))).tr (xFr.of (S := [76]) hb181 (by decide))) (List.forall_mem_cons.mpr ⟨(show cp76 (wget w179 76) from ⟨f76_121, f76_123, sp, 10 * 2 ^ ji, z166, f76_131, f76_133, f76_135, hk180, by omega, by omega, by omega, by omega, by omega, by omega, by omega, by omega⟩), fun _ h => absurd h List.not_mem_nil⟩)) ((hF110.tr (((xFr.of (S := [76, 78, 79]) hb174 (by decide)).tr (xFr.of (S := [76, 78, 79]) hb177 (by decide))).tr (xFr.of (S := [76, 78, 79]) hb181 (by decide))))) (⟨⟨by omega, fun _ => ⟨by omega, by omega⟩⟩, by omega, by omega, by omega, by omega⟩) (fun j hj => ⟨((rwv_eq (hb181.1 78 (by decide))).trans ((rwv_eq (hb177.1 78 (by decide))).trans (rwv_eq (hb174.1 78 (by decide))))).trans (he113 j hj).1, ((rwv_eq (hb181.1 79 (by decide))).trans ((rwv_eq (hb177.1 79 (by decide))).trans (rwv_eq (hb174.1 79 (by decide))))).trans (he113 j hj).2⟩)
                · refine xg_t (xg_icT (u := z166) (v := f76_129) rfl xnm0 xnm0 (xj_geT (by omega) (by omega))) ?_
                  refine xg_t (xg_blk (b := [(78, 3, 9, 2, 1, 0), (81, 3, 8, 30, 0, 0)]) rfl) ?_
                  refine xg_t (xg_iinc (u := ji) (z := ji + 1) (l1 := [(3, (0, z166)), (0, (2, 76)), (1, (0, sp))]) rfl rfl (by omega) rfl) ?_
                  refine xg_t (xg_goto) ?_
                  refine xg_t (xg_drop (l1 := [(0, (2, 76)), (1, (0, sp)), (2, (0, ji + 1))]) (List.forall_mem_cons.mpr ⟨List.mem_cons_of_mem _ (List.mem_cons_of_mem _ (List.mem_cons_self)), List.forall_mem_cons.mpr ⟨List.mem_cons_of_mem _ (List.mem_cons_of_mem _ (List.mem_cons_of_mem _ (List.mem_cons_self))), List.forall_mem_cons.mpr ⟨List.mem_cons_self, fun _ h => absurd h List.not_mem_nil⟩⟩⟩)) ?_
                  have hq192 : fld w108 76 4 = f76_121 := fld_of h76_137
                  have hq193 : fld w108 76 5 = f76_123 := fld_of h76_137
                  have hq194 : fld w108 76 6 = f76_125 := fld_of h76_137
                  have hq195 : fld w108 76 7 = f76_127 := fld_of h76_137
                  have hq196 : fld w108 76 8 = f76_129 := fld_of h76_137
                  have hq197 : fld w108 76 9 = f76_131 := fld_of h76_137
                  have hq198 : fld w108 76 10 = f76_133 := fld_of h76_137
                  have hw199 : z166 = tW (rwv w 21) (fld w 20 3) (15 * (sp - 1) + ji) := tW_eq (v := sp) (j := ji) (by omega) (by omega) hq157 hq163 (by omega)
                  have hx200 : tX (rwv w 21) (fld w 20 3) (15 * (sp - 1) + ji + 1) = _ := tX_n (by omega)
                  have hq201 : tX (rwv w 21) (fld w 20 3) (15 * (sp - 1) + (ji + 1)) = tX (rwv w 21) (fld w 20 3) (15 * (sp - 1) + ji) := by
                    rw [show 15 * (sp - 1) + (ji + 1) = 15 * (sp - 1) + ji + 1 from rfl, hx200]
                  have hn202 : 15 * (sp - 1) + ji ≠ 0 := by
                    intro z0
                    rw [z0] at he115
                    have z1 : fld w108 76 8 = 241 := he115
                    have z2 := tW_le (t := rwv w 21) (n := fld w 20 3) (k := 15 * (sp - 1) + ji)
                    omega
                  obtain ⟨hn2031, hn2032⟩ := he116 hn202
                  exact ih106 (ji + 1) w108 (by omega) (by omega) (hI109) (hF110) (⟨⟨by rw [hq201]; omega, fun _ => by rw [hq201]; exact ⟨by omega, by omega⟩⟩, by omega, by omega, by omega, by omega⟩) (he113)
              · refine xg_t (xg_icT (u := ji) (v := 15) rfl xnm0 xnm0 (xj_geT (by omega) (by omega))) ?_
                refine xg_t (xg_blk (b := [(84, 3, 9, 1, 1, 0), (87, 3, 8, 17, 0, 0)]) rfl) ?_
                refine xg_t (xg_iinc (u := sp) (z := sp + 1) (l1 := [(0, (2, 76)), (2, (0, ji))]) rfl rfl (by omega) rfl) ?_
                refine xg_t (xg_goto) ?_
                refine xg_t (xg_drop (l1 := [(0, (2, 76)), (1, (0, sp + 1))]) (List.forall_mem_cons.mpr ⟨List.mem_cons_of_mem _ (List.mem_cons_self), List.forall_mem_cons.mpr ⟨List.mem_cons_self, fun _ h => absurd h List.not_mem_nil⟩⟩)) ?_
                have hq204 : fld w108 76 4 = f76_121 := fld_of h76_137
                have hq205 : fld w108 76 5 = f76_123 := fld_of h76_137
                have hq206 : fld w108 76 6 = f76_125 := fld_of h76_137
                have hq207 : fld w108 76 7 = f76_127 := fld_of h76_137
                have hq208 : fld w108 76 8 = f76_129 := fld_of h76_137
                have hq209 : fld w108 76 9 = f76_131 := fld_of h76_137
                have hq210 : fld w108 76 10 = f76_133 := fld_of h76_137
                have hq211 : 15 * (sp + 1 - 1) = 15 * (sp - 1) + ji := by omega
                exact ih33 (sp + 1) w108 (by omega) (by omega) (hI109) (hF110) (⟨by rw [hq211]; exact ⟨he115, he116⟩, by omega, by omega, by omega, by omega⟩) (by omega)
          exact key105 _ 0 w100 (Nat.lt_succ_self _) (by omega) (hI102) ((hF37.tr (hF103.up (by decide)))) (⟨⟨((fld_fr hF103 (by decide)).trans he49), fun z => ⟨((fld_fr hF103 (by decide)).trans (he50 z).1), ((fld_fr hF103 (by decide)).trans (he50 z).2)⟩⟩, ((fld_fr hF103 (by decide)).trans he51), ((fld_fr hF103 (by decide)).trans he52), ((fld_fr hF103 (by decide)).trans he53), ((fld_fr hF103 (by decide)).trans he54)⟩) (hx104)
    exact key32 _ 1 w29 (Nat.lt_succ_self _) (by omega) (xInv.up (S := [76]) hI (xFr.of (S := [76]) hb31 (by decide)) (List.forall_mem_cons.mpr ⟨(show cp76 (wget w29 76) from ⟨f76_1, f76_3, f76_5, f76_7, 241, f76_11, f76_13, f76_15, hk30, by omega, by omega, by omega, by omega, by omega, by omega, by omega, by omega⟩), fun _ h => absurd h List.not_mem_nil⟩)) ((xFr.of (S := [76, 78, 79]) hb31 (by decide))) (⟨⟨by show _ = 241; omega, fun z => absurd rfl z⟩, by omega, by omega, by omega, by omega⟩) (by omega)
  · refine xg_t (xg_ifF (u := f76_15) rfl xnm0 (xj_eqF hc28)) ?_
    have hNN : lwN w := by
      rcases hX.2 with z | z
      · exact absurd z (by have := hf11; omega)
      · exact z
    exact xg_e ⟨w, ⟨rfl, rfl⟩, hI, xFr.rf, ⟨hNN, hD, hX⟩⟩
theorem scNextX {wh : Nat} (hI : xInv w) (hwh : wh ≤ 4294967295) (hV : tsV (rwv w 21) (fld w 20 3)) (hX : lwI w) : xPi (d + 3) mX11_next [(2, 0), (0, wh)] w bd fc rr (fun n w' => (((wh = 0 ∧ n = (tX (rwv w 21) (fld w 20 3) 135).2.1) ∨ (wh = 1 ∧ n = (tX (rwv w 21) (fld w 20 3) 135).2.2) ∨ (wh = 2 ∧ n = (tX (rwv w 21) (fld w 20 3) 135).1) ∨ (¬ wh ≤ 2 ∧ n = 4294967295)) ∧ lwI w') ∧ xInv w' ∧ xFr [76, 77, 78, 79] w w') := by
  refine xPi.of ?_
  show xTo (d + 3) mX11_next (0, [], [(0, (2, 0)), (1, (0, wh))], [], (w, bd, fc, 0, 0, rr)) (fun φ => ∃ n w', xEnd 1 [(0, n)] (w', bd, fc, 0, 0, rr) φ ∧ (((wh = 0 ∧ n = (tX (rwv w 21) (fld w 20 3) 135).2.1) ∨ (wh = 1 ∧ n = (tX (rwv w 21) (fld w 20 3) 135).2.2) ∨ (wh = 2 ∧ n = (tX (rwv w 21) (fld w 20 3) 135).1) ∨ (¬ wh ≤ 2 ∧ n = 4294967295)) ∧ lwI w') ∧ xInv w' ∧ xFr [76, 77, 78, 79] w w')
  have h0_1 := (hI 0 (by decide) : cp0 (wget w 0))
  refine xg_t (xg_blk (b := [(0, 1, 0, 0, 0, 0), (1, 3, 1, 11, 8, 79), (4, 3, 13, 276, 32, 327), (7, 1, 0, 0, 0, 0), (8, 3, 1, 11, 8, 79), (11, 3, 13, 277, 32, 346), (14, 1, 2, 1, 0, 0), (15, 25, 33, 64, 0, 7)]) rfl) ?_
  refine xg_t (xg_aload (va := (2, 0)) rfl rfl) ?_
  refine xg_t (xg_getf (va := (2, 76)) h0_1 rfl) ?_
  obtain ⟨f76_2, f76_4, f76_6, f76_8, f76_10, f76_12, f76_14, f76_16, h76_18, hb3, hb5, hb7, hb9, hb11, hb13, hb15, hb17⟩ := (hI 76 (by decide) : cp76 (wget w 76))
  refine xg_cVv mX4_refresh (vs := []) (rest := []) (cn1 := 0) (sl1 := 0) rfl (lwRefreshX (hI) hV hX) rfl h76_18 rfl rfl rfl rfl rfl rfl (fun w19 hq20 => ?_)
  obtain ⟨hI21, hF22, hx23⟩ := hq20
  obtain ⟨hD24, hX25⟩ := hx23
  have hK26 := hD24.2
  rw [rwf_eq ((hF22.up (by decide)).1 21 (by decide)), fld_eq ((hF22.up (by decide)).1 20 (by decide))] at hK26
  obtain ⟨f76_27, f76_29, f76_31, f76_33, f76_35, f76_37, f76_39, f76_41, h76_43, hb28, hb30, hb32, hb34, hb36, hb38, hb40, hb42⟩ := (hI21 76 (by decide) : cp76 (wget w19 76))
  have hq44 : fld w19 76 4 = f76_27 := fld_of h76_43
  have hk45 := tK_le (t := rwv w 21) (n := fld w 20 3) 240
  have hk46 : f76_27 ≤ 240 := by omega
  refine xg_t (xg_aload (va := (2, 0)) rfl rfl) ?_
  refine xg_t (xg_getf (va := (2, 76)) (hF22.get (by decide) h0_1) rfl) ?_
  refine xg_cVv mX4_refreshNext (vs := []) (rest := []) (cn1 := 0) (sl1 := 0) rfl (lwNextX (hI21) hD24 hX25) rfl h76_43 rfl rfl rfl rfl rfl rfl (fun w47 hq48 => ?_)
  obtain ⟨hI49, hF50, hx51⟩ := hq48
  obtain ⟨hN52, hN53, hN54⟩ := hx51
  unfold lwN at hN52
  rw [rwf_eq (((hF22.up (by decide)).tr (hF50.up (by decide))).1 21 (by decide)), fld_eq (((hF22.up (by decide)).tr (hF50.up (by decide))).1 20 (by decide))] at hN52
  obtain ⟨hN55, hN56, hN57⟩ := hN52
  obtain ⟨f76_58, f76_60, f76_62, f76_64, f76_66, f76_68, f76_70, f76_72, h76_74, hb59, hb61, hb63, hb65, hb67, hb69, hb71, hb73⟩ := (hI49 76 (by decide) : cp76 (wget w47 76))
  have hq75 : fld w47 76 6 = f76_62 := fld_of h76_74
  have hq76 : fld w47 76 7 = f76_64 := fld_of h76_74
  have hq77 : fld w47 76 8 = f76_66 := fld_of h76_74
  refine xg_t (xg_iload (va := (0, wh)) rfl rfl) ?_
  by_cases hc78 : wh = 0
  · refine xg_t (xg_swt (ks := [(0, 40), (1, 48), (2, 56)]) (u := wh) (z := 40) rfl rfl rfl xnm0 (xsw_y hc78)) ?_
    refine xg_t (xg_blk (b := [(40, 1, 0, 0, 0, 0), (41, 3, 1, 11, 8, 79), (44, 3, 1, 4, 6, 349), (47, 1, 12, 0, 1, 0)]) rfl) ?_
    refine xg_t (xg_aload (va := (2, 0)) rfl rfl) ?_
    refine xg_t (xg_getf (va := (2, 76)) (hF50.get (by decide) (hF22.get (by decide) h0_1)) rfl) ?_
    refine xg_t (xg_getf (va := (0, f76_62)) h76_74 rfl) ?_
    exact xg_e ⟨f76_62, w47, ⟨rfl, rfl⟩, ⟨by omega, hN54⟩, hI49, ((hF22.up (by decide)).tr (hF50.up (by decide)))⟩
  · by_cases hc79 : wh = 1
    · refine xg_t (xg_swt (ks := [(0, 40), (1, 48), (2, 56)]) (u := wh) (z := 48) rfl rfl rfl xnm0 (xsw_n hc78 (xsw_y hc79))) ?_
      refine xg_t (xg_blk (b := [(48, 1, 0, 0, 0, 0), (49, 3, 1, 11, 8, 79), (52, 3, 1, 4, 7, 352), (55, 1, 12, 0, 1, 0)]) rfl) ?_
      refine xg_t (xg_aload (va := (2, 0)) rfl rfl) ?_
      refine xg_t (xg_getf (va := (2, 76)) (hF50.get (by decide) (hF22.get (by decide) h0_1)) rfl) ?_
      refine xg_t (xg_getf (va := (0, f76_64)) h76_74 rfl) ?_
      exact xg_e ⟨f76_64, w47, ⟨rfl, rfl⟩, ⟨by omega, hN54⟩, hI49, ((hF22.up (by decide)).tr (hF50.up (by decide)))⟩
    · by_cases hc80 : wh = 2
      · refine xg_t (xg_swt (ks := [(0, 40), (1, 48), (2, 56)]) (u := wh) (z := 56) rfl rfl rfl xnm0 (xsw_n hc78 (xsw_n hc79 (xsw_y hc80)))) ?_
        refine xg_t (xg_blk (b := [(56, 1, 0, 0, 0, 0), (57, 3, 1, 11, 8, 79), (60, 3, 1, 4, 8, 355), (63, 1, 12, 0, 1, 0)]) rfl) ?_
        refine xg_t (xg_aload (va := (2, 0)) rfl rfl) ?_
        refine xg_t (xg_getf (va := (2, 76)) (hF50.get (by decide) (hF22.get (by decide) h0_1)) rfl) ?_
        refine xg_t (xg_getf (va := (0, f76_66)) h76_74 rfl) ?_
        exact xg_e ⟨f76_66, w47, ⟨rfl, rfl⟩, ⟨by omega, hN54⟩, hI49, ((hF22.up (by decide)).tr (hF50.up (by decide)))⟩
      · refine xg_t (xg_swt (ks := [(0, 40), (1, 48), (2, 56)]) (u := wh) (z := 64) rfl rfl rfl xnm0 (xsw_n hc78 (xsw_n hc79 (xsw_n hc80 (xsw_d))))) ?_
        refine xg_t (xg_blk (b := [(64, 1, 3, 4294967295, 0, 0), (65, 1, 12, 0, 1, 0)]) rfl) ?_
        refine xg_t (xg_const) ?_
        exact xg_e ⟨4294967295, w47, ⟨rfl, rfl⟩, ⟨by omega, hN54⟩, hI49, ((hF22.up (by decide)).tr (hF50.up (by decide)))⟩
theorem lwQuarL (hI : xInv w) (hX : lwI w) : xPq (d + 1) mX4_refreshQuarrel [(2, 76)] w bd fc rr [] (fun w' => xInv w' ∧ xFr [76] w w' ∧ (lwI w')) := by
  refine xPq.of ?_
  show xTo (d + 1) mX4_refreshQuarrel (0, [], [(0, (2, 76))], [], (w, bd, fc, 0, 0, rr)) (fun φ => ∃ w', xEnd 0 [] (w', bd, fc, 0, 0, rr) φ ∧ xInv w' ∧ xFr [76] w w' ∧ (lwI w'))
  obtain ⟨f76_1, f76_3, f76_5, f76_7, f76_9, f76_11, f76_13, f76_15, h76_17, hb2, hb4, hb6, hb8, hb10, hb12, hb14, hb16⟩ := (hI 76 (by decide) : cp76 (wget w 76))
  obtain ⟨f20_18, h20_20, hb19⟩ := (hI 20 (by decide) : cp20 (wget w 20))
  obtain ⟨g21_21, h21_22, hb23⟩ := (hI 21 (by decide) : cpI 48 9 4294967295 (wget w 21))
  have h21_22 : xRow w 21 48 9 g21_21 := h21_22
  have hsz : fld w 20 3 = f20_18 := fld_of h20_20
  have hg : ∀ j, j < 48 → rwv w 21 j = g21_21 j := fun j h => rwv_of h21_22 h
  have hq24 : fld w 76 4 = f76_1 := fld_of h76_17
  have hq25 : fld w 76 6 = f76_5 := fld_of h76_17
  have hq26 : fld w 76 7 = f76_7 := fld_of h76_17
  have hq27 : fld w 76 8 = f76_9 := fld_of h76_17
  have hq28 : fld w 76 9 = f76_11 := fld_of h76_17
  have hq29 : fld w 76 11 = f76_15 := fld_of h76_17
  refine xg_t (xg_blk (b := [(0, 1, 0, 0, 0, 0), (1, 3, 1, 4, 10, 29), (4, 3, 7, 8, 0, 0), (7, 1, 12, 0, 0, 0)]) rfl) ?_
  refine xg_t (xg_aload (va := (2, 76)) rfl rfl) ?_
  refine xg_t (xg_getf (va := (0, f76_13)) h76_17 rfl) ?_
  by_cases hc30 : f76_13 = 0
  · refine xg_t (xg_ifT (u := f76_13) rfl xnm0 (xj_eqT hc30)) ?_
    refine xg_t (xg_blk (b := [(8, 2, 4, 13, 0, 0), (10, 1, 15, 1, 0, 0), (11, 1, 0, 0, 0, 0), (12, 3, 1, 4, 0, 21), (15, 3, 1, 5, 3, 43), (18, 1, 3, 1, 0, 0), (19, 1, 18, 0, 0, 0), (20, 3, 13, 270, 34, 57), (23, 1, 15, 2, 0, 0), (24, 1, 0, 0, 0, 0), (25, 1, 3, 0, 0, 0), (26, 3, 14, 4, 5, 71), (29, 3, 5, 4096, 0, 0), (32, 1, 2, 2, 0, 0), (33, 1, 18, 0, 0, 0), (34, 1, 15, 3, 0, 0)]) rfl) ?_
    refine xg_t (xg_bip) ?_
    refine xg_t (xg_istore (l1 := [(0, (2, 76))]) rfl rfl rfl) ?_
    refine xg_t (xg_aload (va := (2, 76)) rfl rfl) ?_
    refine xg_t (xg_getf (va := (2, 20)) h76_17 rfl) ?_
    refine xg_t (xg_getf (va := (0, f20_18)) h20_20 rfl) ?_
    refine xg_t (xg_const) ?_
    refine xg_k (xg_isub (u := f20_18) (v := 1) (z := (f20_18 + (4294967296 - 1)) % 4294967296) xnm0 xnm0 rfl) (Nat.mod_lt _ (by decide)) (fun z31 hz32 => ?_)
    refine xg_cSi mX4_bitOf (vs := [(0, z31)]) (rest := []) (cn1 := 0) (sl1 := 0) rfl (lwBitOfX (hI) (by omega)) rfl rfl rfl rfl rfl rfl rfl (fun n37 w33 hq34 => ?_)
    obtain ⟨hn38, hI35, hF36⟩ := hq34
    refine xg_t (xg_istore (l1 := [(1, (0, 13)), (0, (2, 76))]) rfl rfl rfl) ?_
    refine xg_t (xg_aload (va := (2, 76)) rfl rfl) ?_
    refine xg_t (xg_const) ?_
    refine xg_putI (fl1 := [(2, 20), (2, 77), (2, 78), (2, 79), (0, f76_1), (0, 0), (0, f76_5), (0, f76_7), (0, f76_9), (0, f76_11), (0, f76_13), (0, f76_15)]) (hF36.get (by decide) h76_17) rfl rfl rfl (fun w39 hk40 hb41 => ?_)
    refine xg_t (xg_sip) ?_
    refine xg_t (xg_iload (va := (0, n37)) rfl rfl) ?_
    refine xg_t (xg_isub (u := 4096) (v := n37) (z := 4096 - n37) xnm0 xnm0 (by omega)) ?_
    refine xg_t (xg_istore (l1 := [(2, (0, n37)), (1, (0, 13)), (0, (2, 76))]) rfl rfl rfl) ?_
    refine xg_t (xg_drop (l1 := [(0, (2, 76)), (1, (0, 13)), (2, (0, n37)), (3, (0, 4096 - n37))]) (List.forall_mem_cons.mpr ⟨List.mem_cons_of_mem _ (List.mem_cons_of_mem _ (List.mem_cons_of_mem _ (List.mem_cons_self))), List.forall_mem_cons.mpr ⟨List.mem_cons_of_mem _ (List.mem_cons_of_mem _ (List.mem_cons_self)), List.forall_mem_cons.mpr ⟨List.mem_cons_of_mem _ (List.mem_cons_self), List.forall_mem_cons.mpr ⟨List.mem_cons_self, fun _ h => absurd h List.not_mem_nil⟩⟩⟩⟩)) ?_
    have hq48 : fld w39 76 4 = f76_1 := fld_of hk40
    have hq49 : fld w39 76 6 = f76_5 := fld_of hk40
    have hq50 : fld w39 76 7 = f76_7 := fld_of hk40
    have hq51 : fld w39 76 8 = f76_9 := fld_of hk40
    have hq52 : fld w39 76 9 = f76_11 := fld_of hk40
    have hq53 : fld w39 76 11 = f76_15 := fld_of hk40
    have key42 : ∀ (m44 : Nat) (fe sx : Nat) (w45 : List (List xE)), (sx + 2147483648) % 4294967296 - 2147483648 < m44 → fe ≤ 4294967295 → sx ≤ 4294967295 → xInv w45 → xFr [76] w w45 → (fld w45 76 4 = fld w 76 4 ∧ fld w45 76 6 = fld w 76 6 ∧ fld w45 76 7 = fld w 76 7 ∧ fld w45 76 8 = fld w 76 8 ∧ fld w45 76 9 = fld w 76 9 ∧ fld w45 76 11 = fld w 76 11) → xTo (d + 1) mX4_refreshQuarrel (35, [], [(0, (2, 76)), (1, (0, fe)), (2, (0, n37)), (3, (0, sx))], [], (w45, bd, fc, 0, 0, rr)) (fun φ => ∃ w', xEnd 0 [] (w', bd, fc, 0, 0, rr) φ ∧ xInv w' ∧ xFr [76] w w' ∧ (lwI w')) := by
      intro m44
      induction m44 with
      | zero => intro fe sx w45 hz; exact absurd hz (Nat.not_lt_zero _)
      | succ m44 ih43 =>
        intro fe sx w45 hm57 hn54 hn55 hI46 hF47 he56
        obtain ⟨he58, he59, he60, he61, he62, he63⟩ := he56
        obtain ⟨f76_64, f76_66, f76_68, f76_70, f76_72, f76_74, f76_76, f76_78, h76_80, hb65, hb67, hb69, hb71, hb73, hb75, hb77, hb79⟩ := (hI46 76 (by decide) : cp76 (wget w45 76))
        have hq81 : fld w45 76 4 = f76_64 := fld_of h76_80
        have hq82 : fld w45 76 6 = f76_68 := fld_of h76_80
        have hq83 : fld w45 76 7 = f76_70 := fld_of h76_80
        have hq84 : fld w45 76 8 = f76_72 := fld_of h76_80
        have hq85 : fld w45 76 9 = f76_74 := fld_of h76_80
        have hq86 : fld w45 76 11 = f76_78 := fld_of h76_80
        refine xg_t (xg_blk (b := [(35, 1, 2, 2, 0, 0), (36, 3, 7, 76, 5, 0), (39, 1, 2, 3, 0, 0), (40, 3, 7, 76, 5, 0), (43, 1, 2, 3, 0, 0), (44, 3, 13, 0, 2, 74), (47, 1, 2, 1, 0, 0), (48, 3, 6, 69, 3, 0), (51, 1, 0, 0, 0, 0), (52, 1, 2, 3, 0, 0), (53, 3, 13, 269, 32, 77), (56, 3, 7, 69, 0, 0), (59, 1, 0, 0, 0, 0), (60, 1, 2, 3, 0, 0), (61, 3, 14, 4, 5, 71), (64, 1, 2, 3, 0, 0), (65, 3, 13, 0, 2, 74), (68, 1, 15, 1, 0, 0)]) rfl) ?_
        refine xg_t (xg_iload (va := (0, n37)) rfl rfl) ?_
        by_cases hc87 : 0 < n37
        · refine xg_t (xg_ifF (u := n37) rfl xnm0 (xj_leF hc87 (by omega))) ?_
          refine xg_t (xg_iload (va := (0, sx)) rfl rfl) ?_
          by_cases hc88 : xbs 0 < xbs sx
          · have hc88u := hc88
            unfold xbs at hc88u
            have hn89 : sx ≤ 2147483647 := by omega
            refine xg_t (xg_ifF (u := sx) rfl xnm0 (xjs_leF hc88)) ?_
            refine xg_t (xg_iload (va := (0, sx)) rfl rfl) ?_
            refine xg_cSi mJ6_bitCount_0f7a4 (vs := [(0, sx)]) (rest := []) (cn1 := 0) (sl1 := 0) rfl (jbBitCount (hI46) (by omega)) rfl rfl rfl rfl rfl rfl rfl (fun n94 w90 hq91 => ?_)
            obtain ⟨hn95, hI92, hF93⟩ := hq91
            refine xg_t (xg_iload (va := (0, fe)) rfl rfl) ?_
            by_cases hc96 : xbs n94 < xbs fe
            · have hc96u := hc96
              unfold xbs at hc96u
              refine xg_t (xg_icF (u := n94) (v := fe) rfl xnm0 xnm0 (xjs_geF hc96)) ?_
              refine xg_t (xg_aload (va := (2, 76)) rfl rfl) ?_
              refine xg_t (xg_iload (va := (0, sx)) rfl rfl) ?_
              refine xg_cVi mX4_barsAll (vs := [(0, sx)]) (rest := []) (cn1 := 0) (sl1 := 0) rfl (lwBarsAll (hI92) (by omega)) rfl (hF93.get (by decide) h76_80) rfl rfl rfl rfl rfl rfl (fun n101 w97 hq98 => ?_)
              obtain ⟨hn102, hI99, hF100⟩ := hq98
              by_cases hc103 : n101 = 0
              · refine xg_t (xg_ifT (u := n101) rfl xnm0 (xj_eqT hc103)) ?_
                refine xg_t (xg_blk (b := [(69, 1, 2, 3, 0, 0), (70, 1, 2, 2, 0, 0), (71, 1, 18, 0, 0, 0), (72, 1, 15, 3, 0, 0), (73, 3, 8, 35, 0, 0)]) rfl) ?_
                refine xg_t (xg_iload (va := (0, sx)) rfl rfl) ?_
                refine xg_t (xg_iload (va := (0, n37)) rfl rfl) ?_
                refine xg_t (xg_isub (u := sx) (v := n37) (z := (sx + (4294967296 - n37)) % 4294967296) xnm0 xnm0 (rfl)) ?_
                refine xg_t (xg_istore (l1 := [(0, (2, 76)), (1, (0, fe)), (2, (0, n37))]) rfl rfl rfl) ?_
                refine xg_t (xg_goto) ?_
                refine xg_t (xg_drop (l1 := [(0, (2, 76)), (1, (0, fe)), (2, (0, n37)), (3, (0, (sx + (4294967296 - n37)) % 4294967296))]) (List.forall_mem_cons.mpr ⟨List.mem_cons_of_mem _ (List.mem_cons_self), List.forall_mem_cons.mpr ⟨List.mem_cons_of_mem _ (List.mem_cons_of_mem _ (List.mem_cons_self)), List.forall_mem_cons.mpr ⟨List.mem_cons_of_mem _ (List.mem_cons_of_mem _ (List.mem_cons_of_mem _ (List.mem_cons_self))), List.forall_mem_cons.mpr ⟨List.mem_cons_self, fun _ h => absurd h List.not_mem_nil⟩⟩⟩⟩)) ?_
                have hq104 : fld w97 76 4 = f76_64 := fld_of (hF100.get (by decide) (hF93.get (by decide) h76_80))
                have hq105 : fld w97 76 6 = f76_68 := fld_of (hF100.get (by decide) (hF93.get (by decide) h76_80))
                have hq106 : fld w97 76 7 = f76_70 := fld_of (hF100.get (by decide) (hF93.get (by decide) h76_80))
                have hq107 : fld w97 76 8 = f76_72 := fld_of (hF100.get (by decide) (hF93.get (by decide) h76_80))
                have hq108 : fld w97 76 9 = f76_74 := fld_of (hF100.get (by decide) (hF93.get (by decide) h76_80))
                have hq109 : fld w97 76 11 = f76_78 := fld_of (hF100.get (by decide) (hF93.get (by decide) h76_80))
                exact ih43 fe ((sx + (4294967296 - n37)) % 4294967296) w97 (xqm (by omega) (by omega) (by omega) (by omega) (by omega)) (by omega) (by omega) (hI99) (((hF47.tr (hF93.up (by decide))).tr (hF100.up (by decide)))) (⟨by omega, by omega, by omega, by omega, by omega, by omega⟩)
              · refine xg_t (xg_ifF (u := n101) rfl xnm0 (xj_eqF hc103)) ?_
                refine xg_t (xg_aload (va := (2, 76)) rfl rfl) ?_
                refine xg_t (xg_iload (va := (0, sx)) rfl rfl) ?_
                refine xg_putI (fl1 := [(2, 20), (2, 77), (2, 78), (2, 79), (0, f76_64), (0, sx), (0, f76_68), (0, f76_70), (0, f76_72), (0, f76_74), (0, f76_76), (0, f76_78)]) (hF100.get (by decide) (hF93.get (by decide) h76_80)) rfl rfl rfl (fun w110 hk111 hb112 => ?_)
                refine xg_t (xg_iload (va := (0, sx)) rfl rfl) ?_
                refine xg_cSi mJ6_bitCount_0f7a4 (vs := [(0, sx)]) (rest := []) (cn1 := 0) (sl1 := 0) rfl (jbBitCount (xInv.up (S := [76]) hI99 (xFr.of (S := [76]) hb112 (by decide)) (List.forall_mem_cons.mpr ⟨(show cp76 (wget w110 76) from ⟨f76_64, sx, f76_68, f76_70, f76_72, f76_74, f76_76, f76_78, hk111, by omega, by omega, by omega, by omega, by omega, by omega, by omega, by omega⟩), fun _ h => absurd h List.not_mem_nil⟩)) (by omega)) rfl rfl rfl rfl rfl rfl rfl (fun n117 w113 hq114 => ?_)
                obtain ⟨hn118, hI115, hF116⟩ := hq114
                refine xg_t (xg_istore (l1 := [(0, (2, 76)), (2, (0, n37)), (3, (0, sx))]) rfl rfl rfl) ?_
                refine xg_t (xg_blk (b := [(69, 1, 2, 3, 0, 0), (70, 1, 2, 2, 0, 0), (71, 1, 18, 0, 0, 0), (72, 1, 15, 3, 0, 0), (73, 3, 8, 35, 0, 0)]) rfl) ?_
                refine xg_t (xg_iload (va := (0, sx)) rfl rfl) ?_
                refine xg_t (xg_iload (va := (0, n37)) rfl rfl) ?_
                refine xg_t (xg_isub (u := sx) (v := n37) (z := (sx + (4294967296 - n37)) % 4294967296) xnm0 xnm0 (rfl)) ?_
                refine xg_t (xg_istore (l1 := [(1, (0, n117)), (0, (2, 76)), (2, (0, n37))]) rfl rfl rfl) ?_
                refine xg_t (xg_goto) ?_
                refine xg_t (xg_drop (l1 := [(0, (2, 76)), (1, (0, n117)), (2, (0, n37)), (3, (0, (sx + (4294967296 - n37)) % 4294967296))]) (List.forall_mem_cons.mpr ⟨List.mem_cons_of_mem _ (List.mem_cons_of_mem _ (List.mem_cons_self)), List.forall_mem_cons.mpr ⟨List.mem_cons_of_mem _ (List.mem_cons_self), List.forall_mem_cons.mpr ⟨List.mem_cons_of_mem _ (List.mem_cons_of_mem _ (List.mem_cons_of_mem _ (List.mem_cons_self))), List.forall_mem_cons.mpr ⟨List.mem_cons_self, fun _ h => absurd h List.not_mem_nil⟩⟩⟩⟩)) ?_
                have hq119 : fld w113 76 4 = f76_64 := fld_of (hF116.get (by decide) hk111)
                have hq120 : fld w113 76 6 = f76_68 := fld_of (hF116.get (by decide) hk111)
                have hq121 : fld w113 76 7 = f76_70 := fld_of (hF116.get (by decide) hk111)
                have hq122 : fld w113 76 8 = f76_72 := fld_of (hF116.get (by decide) hk111)
                have hq123 : fld w113 76 9 = f76_74 := fld_of (hF116.get (by decide) hk111)
                have hq124 : fld w113 76 11 = f76_78 := fld_of (hF116.get (by decide) hk111)
                exact ih43 n117 ((sx + (4294967296 - n37)) % 4294967296) w113 (xqm (by omega) (by omega) (by omega) (by omega) (by omega)) (by omega) (by omega) (hI115) (((((hF47.tr (hF93.up (by decide))).tr (hF100.up (by decide))).tr (xFr.of (S := [76]) hb112 (by decide))).tr (hF116.up (by decide)))) (⟨by omega, by omega, by omega, by omega, by omega, by omega⟩)
            · have hc96u := hc96
              unfold xbs at hc96u
              refine xg_t (xg_icT (u := n94) (v := fe) rfl xnm0 xnm0 (xjs_geT hc96)) ?_
              refine xg_t (xg_blk (b := [(69, 1, 2, 3, 0, 0), (70, 1, 2, 2, 0, 0), (71, 1, 18, 0, 0, 0), (72, 1, 15, 3, 0, 0), (73, 3, 8, 35, 0, 0)]) rfl) ?_
              refine xg_t (xg_iload (va := (0, sx)) rfl rfl) ?_
              refine xg_t (xg_iload (va := (0, n37)) rfl rfl) ?_
              refine xg_t (xg_isub (u := sx) (v := n37) (z := (sx + (4294967296 - n37)) % 4294967296) xnm0 xnm0 (rfl)) ?_
              refine xg_t (xg_istore (l1 := [(0, (2, 76)), (1, (0, fe)), (2, (0, n37))]) rfl rfl rfl) ?_
              refine xg_t (xg_goto) ?_
              refine xg_t (xg_drop (l1 := [(0, (2, 76)), (1, (0, fe)), (2, (0, n37)), (3, (0, (sx + (4294967296 - n37)) % 4294967296))]) (List.forall_mem_cons.mpr ⟨List.mem_cons_of_mem _ (List.mem_cons_self), List.forall_mem_cons.mpr ⟨List.mem_cons_of_mem _ (List.mem_cons_of_mem _ (List.mem_cons_self)), List.forall_mem_cons.mpr ⟨List.mem_cons_of_mem _ (List.mem_cons_of_mem _ (List.mem_cons_of_mem _ (List.mem_cons_self))), List.forall_mem_cons.mpr ⟨List.mem_cons_self, fun _ h => absurd h List.not_mem_nil⟩⟩⟩⟩)) ?_
              have hq125 : fld w90 76 4 = f76_64 := fld_of (hF93.get (by decide) h76_80)
              have hq126 : fld w90 76 6 = f76_68 := fld_of (hF93.get (by decide) h76_80)
              have hq127 : fld w90 76 7 = f76_70 := fld_of (hF93.get (by decide) h76_80)
              have hq128 : fld w90 76 8 = f76_72 := fld_of (hF93.get (by decide) h76_80)
              have hq129 : fld w90 76 9 = f76_74 := fld_of (hF93.get (by decide) h76_80)
              have hq130 : fld w90 76 11 = f76_78 := fld_of (hF93.get (by decide) h76_80)
              exact ih43 fe ((sx + (4294967296 - n37)) % 4294967296) w90 (xqm (by omega) (by omega) (by omega) (by omega) (by omega)) (by omega) (by omega) (hI92) ((hF47.tr (hF93.up (by decide)))) (⟨by omega, by omega, by omega, by omega, by omega, by omega⟩)
          · have hc88u := hc88
            unfold xbs at hc88u
            refine xg_t (xg_ifT (u := sx) rfl xnm0 (xjs_leT hc88)) ?_
            refine xg_t (xg_blk (b := [(76, 1, 0, 0, 0, 0), (77, 1, 3, 1, 0, 0), (78, 3, 59, 4, 10, 29), (81, 1, 12, 0, 0, 0)]) rfl) ?_
            refine xg_t (xg_aload (va := (2, 76)) rfl rfl) ?_
            refine xg_t (xg_const) ?_
            refine xg_putZ (fl1 := [(2, 20), (2, 77), (2, 78), (2, 79), (0, f76_64), (0, f76_66), (0, f76_68), (0, f76_70), (0, f76_72), (0, f76_74), (0, 1), (0, f76_78)]) h76_80 rfl rfl rfl (fun w131 hk132 hb133 => ?_)
            have hq134 : fld w131 76 4 = f76_64 := fld_of hk132
            have hq135 : fld w131 76 6 = f76_68 := fld_of hk132
            have hq136 : fld w131 76 7 = f76_70 := fld_of hk132
            have hq137 : fld w131 76 8 = f76_72 := fld_of hk132
            have hq138 : fld w131 76 9 = f76_74 := fld_of hk132
            have hq139 : fld w131 76 11 = f76_78 := fld_of hk132
            have hk140 : fld w131 76 4 = fld w 76 4 := by omega
            have hk141 : fld w131 76 6 = fld w 76 6 := by omega
            have hk142 : fld w131 76 7 = fld w 76 7 := by omega
            have hk143 : fld w131 76 8 = fld w 76 8 := by omega
            have hk144 : fld w131 76 9 = fld w 76 9 := by omega
            have hk145 : fld w131 76 11 = fld w 76 11 := by omega
            exact xg_e ⟨w131, ⟨rfl, rfl⟩, xInv.up (S := [76]) hI46 (xFr.of (S := [76]) hb133 (by decide)) (List.forall_mem_cons.mpr ⟨(show cp76 (wget w131 76) from ⟨f76_64, f76_66, f76_68, f76_70, f76_72, f76_74, 1, f76_78, hk132, by omega, by omega, by omega, by omega, by omega, by omega, by omega, by omega⟩), fun _ h => absurd h List.not_mem_nil⟩), (hF47.tr (xFr.of (S := [76]) hb133 (by decide))), ⟨hX.1.imp (fun z => hk144.trans z) (fun z => z.kp ((hF47.tr (xFr.of (S := [76]) hb133 (by decide))).1 20 (by decide)) ((hF47.tr (xFr.of (S := [76]) hb133 (by decide))).1 21 (by decide)) ((hF47.tr (xFr.of (S := [76]) hb133 (by decide))).1 77 (by decide)) hk140), hX.2.imp (fun z => hk145.trans z) (fun z => z.kp ((hF47.tr (xFr.of (S := [76]) hb133 (by decide))).1 20 (by decide)) ((hF47.tr (xFr.of (S := [76]) hb133 (by decide))).1 21 (by decide)) hk141 hk142 hk143)⟩⟩
        · refine xg_t (xg_ifT (u := n37) rfl xnm0 (xj_leT (by omega) (by omega))) ?_
          refine xg_t (xg_blk (b := [(76, 1, 0, 0, 0, 0), (77, 1, 3, 1, 0, 0), (78, 3, 59, 4, 10, 29), (81, 1, 12, 0, 0, 0)]) rfl) ?_
          refine xg_t (xg_aload (va := (2, 76)) rfl rfl) ?_
          refine xg_t (xg_const) ?_
          refine xg_putZ (fl1 := [(2, 20), (2, 77), (2, 78), (2, 79), (0, f76_64), (0, f76_66), (0, f76_68), (0, f76_70), (0, f76_72), (0, f76_74), (0, 1), (0, f76_78)]) h76_80 rfl rfl rfl (fun w146 hk147 hb148 => ?_)
          have hq149 : fld w146 76 4 = f76_64 := fld_of hk147
          have hq150 : fld w146 76 6 = f76_68 := fld_of hk147
          have hq151 : fld w146 76 7 = f76_70 := fld_of hk147
          have hq152 : fld w146 76 8 = f76_72 := fld_of hk147
          have hq153 : fld w146 76 9 = f76_74 := fld_of hk147
          have hq154 : fld w146 76 11 = f76_78 := fld_of hk147
          have hk155 : fld w146 76 4 = fld w 76 4 := by omega
          have hk156 : fld w146 76 6 = fld w 76 6 := by omega
          have hk157 : fld w146 76 7 = fld w 76 7 := by omega
          have hk158 : fld w146 76 8 = fld w 76 8 := by omega
          have hk159 : fld w146 76 9 = fld w 76 9 := by omega
          have hk160 : fld w146 76 11 = fld w 76 11 := by omega
          exact xg_e ⟨w146, ⟨rfl, rfl⟩, xInv.up (S := [76]) hI46 (xFr.of (S := [76]) hb148 (by decide)) (List.forall_mem_cons.mpr ⟨(show cp76 (wget w146 76) from ⟨f76_64, f76_66, f76_68, f76_70, f76_72, f76_74, 1, f76_78, hk147, by omega, by omega, by omega, by omega, by omega, by omega, by omega, by omega⟩), fun _ h => absurd h List.not_mem_nil⟩), (hF47.tr (xFr.of (S := [76]) hb148 (by decide))), ⟨hX.1.imp (fun z => hk159.trans z) (fun z => z.kp ((hF47.tr (xFr.of (S := [76]) hb148 (by decide))).1 20 (by decide)) ((hF47.tr (xFr.of (S := [76]) hb148 (by decide))).1 21 (by decide)) ((hF47.tr (xFr.of (S := [76]) hb148 (by decide))).1 77 (by decide)) hk155), hX.2.imp (fun z => hk160.trans z) (fun z => z.kp ((hF47.tr (xFr.of (S := [76]) hb148 (by decide))).1 20 (by decide)) ((hF47.tr (xFr.of (S := [76]) hb148 (by decide))).1 21 (by decide)) hk156 hk157 hk158)⟩⟩
    exact key42 _ 13 (4096 - n37) w39 (Nat.lt_succ_self _) (by omega) (by omega) (xInv.up (S := [76]) hI35 (xFr.of (S := [76]) hb41 (by decide)) (List.forall_mem_cons.mpr ⟨(show cp76 (wget w39 76) from ⟨f76_1, 0, f76_5, f76_7, f76_9, f76_11, f76_13, f76_15, hk40, by omega, by omega, by omega, by omega, by omega, by omega, by omega, by omega⟩), fun _ h => absurd h List.not_mem_nil⟩)) (((hF36.up (by decide)).tr (xFr.of (S := [76]) hb41 (by decide)))) (⟨by omega, by omega, by omega, by omega, by omega, by omega⟩)
  · refine xg_t (xg_ifF (u := f76_13) rfl xnm0 (xj_eqF hc30)) ?_
    exact xg_e ⟨w, ⟨rfl, rfl⟩, hI, xFr.rf, hX⟩
theorem scQuarL {kk : Nat} (hI : xInv w) (hkk : kk ≤ 4294967295) (hV : tsV (rwv w 21) (fld w 20 3)) (hX : lwI w) : xPi (d + 3) mX11_quarrel [(2, 0), (0, kk)] w bd fc rr (fun n w' => (n ≤ 4294967295 ∧ lwI w') ∧ xInv w' ∧ xFr [76, 77] w w') := by
  refine xPi.of ?_
  show xTo (d + 3) mX11_quarrel (0, [], [(0, (2, 0)), (1, (0, kk))], [], (w, bd, fc, 0, 0, rr)) (fun φ => ∃ n w', xEnd 1 [(0, n)] (w', bd, fc, 0, 0, rr) φ ∧ (n ≤ 4294967295 ∧ lwI w') ∧ xInv w' ∧ xFr [76, 77] w w')
  have h0_1 := (hI 0 (by decide) : cp0 (wget w 0))
  refine xg_t (xg_blk (b := [(0, 1, 0, 0, 0, 0), (1, 3, 1, 11, 8, 79), (4, 3, 13, 276, 32, 327), (7, 1, 2, 1, 0, 0), (8, 3, 7, 21, 2, 0), (11, 1, 0, 0, 0, 0), (12, 3, 1, 11, 8, 79), (15, 3, 1, 4, 4, 328), (18, 3, 7, 23, 5, 0)]) rfl) ?_
  refine xg_t (xg_aload (va := (2, 0)) rfl rfl) ?_
  refine xg_t (xg_getf (va := (2, 76)) h0_1 rfl) ?_
  obtain ⟨f76_2, f76_4, f76_6, f76_8, f76_10, f76_12, f76_14, f76_16, h76_18, hb3, hb5, hb7, hb9, hb11, hb13, hb15, hb17⟩ := (hI 76 (by decide) : cp76 (wget w 76))
  refine xg_cVv mX4_refresh (vs := []) (rest := []) (cn1 := 0) (sl1 := 0) rfl (lwRefreshX (hI) hV hX) rfl h76_18 rfl rfl rfl rfl rfl rfl (fun w19 hq20 => ?_)
  obtain ⟨hI21, hF22, hx23⟩ := hq20
  obtain ⟨hD24, hX25⟩ := hx23
  have hK26 := hD24.2
  rw [rwf_eq ((hF22.up (by decide)).1 21 (by decide)), fld_eq ((hF22.up (by decide)).1 20 (by decide))] at hK26
  obtain ⟨f76_27, f76_29, f76_31, f76_33, f76_35, f76_37, f76_39, f76_41, h76_43, hb28, hb30, hb32, hb34, hb36, hb38, hb40, hb42⟩ := (hI21 76 (by decide) : cp76 (wget w19 76))
  have hq44 : fld w19 76 4 = f76_27 := fld_of h76_43
  have hk45 := tK_le (t := rwv w 21) (n := fld w 20 3) 240
  have hk46 : f76_27 ≤ 240 := by omega
  refine xg_t (xg_iload (va := (0, kk)) rfl rfl) ?_
  by_cases hc47 : kk < 2147483648
  · refine xg_t (xg_ifF (u := kk) rfl xnm0 (xjz_ltF hc47)) ?_
    refine xg_t (xg_aload (va := (2, 0)) rfl rfl) ?_
    refine xg_t (xg_getf (va := (2, 76)) (hF22.get (by decide) h0_1) rfl) ?_
    refine xg_t (xg_getf (va := (0, f76_27)) h76_43 rfl) ?_
    by_cases hc48 : 0 < f76_27
    · refine xg_t (xg_ifF (u := f76_27) rfl xnm0 (xj_leF hc48 (by omega))) ?_
      refine xg_t (xg_blk (b := [(21, 1, 3, 4294967295, 0, 0), (22, 1, 12, 0, 1, 0)]) rfl) ?_
      refine xg_t (xg_const) ?_
      exact xg_e ⟨4294967295, w19, ⟨rfl, rfl⟩, ⟨by omega, hX25⟩, hI21, (hF22.up (by decide))⟩
    · refine xg_t (xg_ifT (u := f76_27) rfl xnm0 (xj_leT (by omega) (by omega))) ?_
      refine xg_t (xg_blk (b := [(23, 1, 0, 0, 0, 0), (24, 3, 1, 11, 8, 79), (27, 3, 13, 278, 32, 340), (30, 1, 0, 0, 0, 0), (31, 3, 1, 11, 8, 79), (34, 1, 2, 1, 0, 0), (35, 3, 13, 275, 32, 343), (38, 1, 12, 0, 1, 0)]) rfl) ?_
      refine xg_t (xg_aload (va := (2, 0)) rfl rfl) ?_
      refine xg_t (xg_getf (va := (2, 76)) (hF22.get (by decide) h0_1) rfl) ?_
      refine xg_cVv mX4_refreshQuarrel (vs := []) (rest := []) (cn1 := 0) (sl1 := 0) rfl (lwQuarL (hI21) hX25) rfl h76_43 rfl rfl rfl rfl rfl rfl (fun w49 hq50 => ?_)
      obtain ⟨hI51, hF52, hx53⟩ := hq50
      refine xg_t (xg_aload (va := (2, 0)) rfl rfl) ?_
      refine xg_t (xg_getf (va := (2, 76)) (hF52.get (by decide) (hF22.get (by decide) h0_1)) rfl) ?_
      refine xg_t (xg_iload (va := (0, kk)) rfl rfl) ?_
      obtain ⟨f76_54, f76_56, f76_58, f76_60, f76_62, f76_64, f76_66, f76_68, h76_70, hb55, hb57, hb59, hb61, hb63, hb65, hb67, hb69⟩ := (hI51 76 (by decide) : cp76 (wget w49 76))
      refine xg_cVi mX4_quarrelAt (vs := [(0, kk)]) (rest := []) (cn1 := 0) (sl1 := 0) rfl (lwQuarrelAt (hI51) (by omega)) rfl h76_70 rfl rfl rfl rfl rfl rfl (fun n75 w71 hq72 => ?_)
      obtain ⟨hn76, hI73, hF74⟩ := hq72
      exact xg_e ⟨n75, w71, ⟨rfl, rfl⟩, ⟨by omega, (hx53.kp (hF74.1 20 (by decide)) (hF74.1 21 (by decide)) (hF74.1 76 (by decide)) (hF74.1 77 (by decide)))⟩, hI73, (((hF22.up (by decide)).tr (hF52.up (by decide))).tr (hF74.up (by decide)))⟩
  · refine xg_t (xg_ifT (u := kk) rfl xnm0 (xjz_ltT (by omega) (by omega))) ?_
    refine xg_t (xg_blk (b := [(21, 1, 3, 4294967295, 0, 0), (22, 1, 12, 0, 1, 0)]) rfl) ?_
    refine xg_t (xg_const) ?_
    exact xg_e ⟨4294967295, w19, ⟨rfl, rfl⟩, ⟨by omega, hX25⟩, hI21, (hF22.up (by decide))⟩
theorem scMeasL (hI : xInv w) (hV : tsV (rwv w 21) (fld w 20 3)) (hX : lwI w) : xPq (d + 5) mX11_measureAll [(2, 0)] w bd fc rr [] (fun w' => xInv w' ∧ xFr [50, 51, 52, 53, 54, 55, 58, 59, 60, 61, 62, 63, 64, 65, 66, 67, 68, 69, 70, 71, 72, 73, 76, 77, 80] w w' ∧ (lwI w')) := by
  refine xPq.of ?_
  show xTo (d + 5) mX11_measureAll (0, [], [(0, (2, 0))], [], (w, bd, fc, 0, 0, rr)) (fun φ => ∃ w', xEnd 0 [] (w', bd, fc, 0, 0, rr) φ ∧ xInv w' ∧ xFr [50, 51, 52, 53, 54, 55, 58, 59, 60, 61, 62, 63, 64, 65, 66, 67, 68, 69, 70, 71, 72, 73, 76, 77, 80] w w' ∧ (lwI w'))
  refine xg_t (xg_blk (b := [(0, 1, 0, 0, 0, 0), (1, 3, 1, 11, 5, 52), (4, 3, 13, 35, 80, 219), (7, 1, 0, 0, 0, 0), (8, 3, 1, 11, 6, 59), (11, 3, 13, 265, 24, 264), (14, 1, 0, 0, 0, 0), (15, 3, 1, 11, 6, 59), (18, 3, 13, 266, 24, 279), (21, 1, 0, 0, 0, 0), (22, 3, 1, 11, 8, 79), (25, 3, 13, 276, 32, 327), (28, 1, 0, 0, 0, 0), (29, 3, 1, 11, 7, 66), (32, 3, 13, 308, 56, 303), (35, 1, 0, 0, 0, 0), (36, 3, 1, 11, 4, 45), (39, 3, 13, 12, 0, 123), (42, 1, 0, 0, 0, 0), (43, 3, 1, 11, 0, 10), (46, 3, 1, 9, 4, 38), (49, 1, 27, 1, 0, 0), (50, 1, 0, 0, 0, 0), (51, 3, 1, 11, 9, 83), (54, 1, 3, 0, 0, 0), (55, 1, 0, 1, 0, 0), (56, 3, 13, 244, 8, 400), (59, 3, 7, 66, 0, 0), (62, 1, 3, 1, 0, 0), (63, 3, 8, 67, 0, 0)]) rfl) ?_
  refine xg_t (xg_aload (va := (2, 0)) rfl rfl) ?_
  have h0_1 := (hI 0 (by decide) : cp0 (wget w 0))
  refine xg_t (xg_getf (va := (2, 58)) h0_1 rfl) ?_
  obtain ⟨f58_2, f58_4, f58_6, h58_8, hb3, hb5, hb7⟩ := (hI 58 (by decide) : cp58 (wget w 58))
  refine xg_cVv mX10_refresh (vs := []) (rest := []) (cn1 := 0) (sl1 := 0) rfl (wyRefresh (hI)) rfl h58_8 rfl rfl rfl rfl rfl rfl (fun w9 hq10 => ?_)
  obtain ⟨hI11, hF12⟩ := hq10
  refine xg_t (xg_aload (va := (2, 0)) rfl rfl) ?_
  refine xg_t (xg_getf (va := (2, 68)) (hF12.get (by decide) h0_1) rfl) ?_
  obtain ⟨f68_13, f68_15, h68_17, hb14, hb16⟩ := (hI11 68 (by decide) : cp68 (wget w9 68))
  refine xg_cVv mX3_refreshAges (vs := []) (rest := []) (cn1 := 0) (sl1 := 0) rfl (lmRefreshAges (hI11)) rfl h68_17 rfl rfl rfl rfl rfl rfl (fun w18 hq19 => ?_)
  obtain ⟨hI20, hF21⟩ := hq19
  refine xg_t (xg_aload (va := (2, 0)) rfl rfl) ?_
  refine xg_t (xg_getf (va := (2, 68)) (hF21.get (by decide) (hF12.get (by decide) h0_1)) rfl) ?_
  obtain ⟨f68_22, f68_24, h68_26, hb23, hb25⟩ := (hI20 68 (by decide) : cp68 (wget w18 68))
  refine xg_cVv mX3_refreshDamp (vs := []) (rest := []) (cn1 := 0) (sl1 := 0) rfl (lmRefreshDamp (hI20)) rfl h68_26 rfl rfl rfl rfl rfl rfl (fun w27 hq28 => ?_)
  obtain ⟨hI29, hF30⟩ := hq28
  refine xg_t (xg_aload (va := (2, 0)) rfl rfl) ?_
  refine xg_t (xg_getf (va := (2, 76)) (hF30.get (by decide) (hF21.get (by decide) (hF12.get (by decide) h0_1))) rfl) ?_
  obtain ⟨f76_31, f76_33, f76_35, f76_37, f76_39, f76_41, f76_43, f76_45, h76_47, hb32, hb34, hb36, hb38, hb40, hb42, hb44, hb46⟩ := (hI29 76 (by decide) : cp76 (wget w27 76))
  refine xg_cVv mX4_refresh (vs := []) (rest := []) (cn1 := 0) (sl1 := 0) rfl (lwRefreshX (hI29) (hV.fr ((((hF12.up (by decide)).tr (hF21.up (by decide))).tr (hF30.up (by decide))).1 20 (by decide)) ((((hF12.up (by decide)).tr (hF21.up (by decide))).tr (hF30.up (by decide))).1 21 (by decide))) (hX.kp ((((hF12.up (by decide)).tr (hF21.up (by decide))).tr (hF30.up (by decide))).1 20 (by decide)) ((((hF12.up (by decide)).tr (hF21.up (by decide))).tr (hF30.up (by decide))).1 21 (by decide)) ((((hF12.up (by decide)).tr (hF21.up (by decide))).tr (hF30.up (by decide))).1 76 (by decide)) ((((hF12.up (by decide)).tr (hF21.up (by decide))).tr (hF30.up (by decide))).1 77 (by decide)))) rfl h76_47 rfl rfl rfl rfl rfl rfl (fun w48 hq49 => ?_)
  obtain ⟨hI50, hF51, hx52⟩ := hq49
  refine xg_t (xg_aload (va := (2, 0)) rfl rfl) ?_
  refine xg_t (xg_getf (va := (2, 72)) (hF51.get (by decide) (hF30.get (by decide) (hF21.get (by decide) (hF12.get (by decide) h0_1)))) rfl) ?_
  obtain ⟨f72_53, f72_55, h72_57, hb54, hb56⟩ := (hI50 72 (by decide) : cp72 (wget w48 72))
  refine xg_cVv mX7_refreshWorth (vs := []) (rest := []) (cn1 := 0) (sl1 := 0) rfl (shRefreshWorth (hI50)) rfl h72_57 rfl rfl rfl rfl rfl rfl (fun w58 hq59 => ?_)
  obtain ⟨hI60, hF61⟩ := hq59
  refine xg_t (xg_aload (va := (2, 0)) rfl rfl) ?_
  refine xg_t (xg_getf (va := (2, 49)) (hF61.get (by decide) (hF51.get (by decide) (hF30.get (by decide) (hF21.get (by decide) (hF12.get (by decide) h0_1))))) rfl) ?_
  obtain ⟨f49_62, f49_64, h49_66, hb63, hb65⟩ := (hI60 49 (by decide) : cp49 (wget w58 49))
  refine xg_cVv mX0_layAsTold (vs := []) (rest := []) (cn1 := 0) (sl1 := 0) rfl (bdLayAsTold (hI60)) rfl h49_66 rfl rfl rfl rfl rfl rfl (fun w67 hq68 => ?_)
  obtain ⟨hI69, hF70⟩ := hq68
  refine xg_t (xg_aload (va := (2, 0)) rfl rfl) ?_
  refine xg_t (xg_getf (va := (2, 1)) (hF70.get (by decide) (hF61.get (by decide) (hF51.get (by decide) (hF30.get (by decide) (hF21.get (by decide) (hF12.get (by decide) h0_1)))))) rfl) ?_
  obtain ⟨f1_71, f1_73, f1_75, f1_77, f1_79, f1_81, h1_83, hb72, hb74, hb76, hb78, hb80, hb82⟩ := (hI69 1 (by decide) : cp1 (wget w67 1))
  refine xg_t (xg_getf (va := (2, 3)) h1_83 rfl) ?_
  refine xg_t (xg_astore (l1 := [(0, (2, 0))]) rfl rfl rfl) ?_
  refine xg_t (xg_aload (va := (2, 0)) rfl rfl) ?_
  refine xg_t (xg_getf (va := (2, 80)) (hF70.get (by decide) (hF61.get (by decide) (hF51.get (by decide) (hF30.get (by decide) (hF21.get (by decide) (hF12.get (by decide) h0_1)))))) rfl) ?_
  refine xg_t (xg_const) ?_
  refine xg_t (xg_aload (va := (2, 3)) rfl rfl) ?_
  obtain ⟨f3_84, f3_86, f3_88, f3_90, f3_92, h3_94, hb85, hb87, hb89, hb91, hb93⟩ := (hI69 3 (by decide) : cp3 (wget w67 3))
  refine xg_cVi mX1_slidesAnywhere (vs := []) (rest := [(0, 0), (2, 80)]) (cn1 := 0) (sl1 := 0) rfl (fmToldSlides (hI69)) rfl h3_94 rfl rfl rfl rfl rfl rfl (fun n99 w95 hq96 => ?_)
  obtain ⟨hn100, hI97, hF98⟩ := hq96
  by_cases hc101 : n99 = 0
  · refine xg_t (xg_ifT (u := n99) rfl xnm0 (xj_eqT hc101)) ?_
    refine xg_t (xg_blk (b := [(66, 1, 3, 0, 0, 0)]) rfl) ?_
    refine xg_t (xg_const) ?_
    refine xg_t (xg_blk (b := [(67, 1, 17, 0, 0, 0), (68, 1, 0, 0, 0, 0), (69, 3, 1, 11, 9, 83), (72, 1, 3, 1, 0, 0), (73, 1, 0, 0, 0, 0), (74, 3, 1, 11, 0, 10), (77, 3, 13, 323, 72, 216), (80, 3, 7, 87, 1, 0), (83, 1, 3, 1, 0, 0), (84, 3, 8, 88, 0, 0)]) rfl) ?_
    obtain ⟨g80_102, h80_103, hb104⟩ := (hI97 80 (by decide) : cpI 11 48 4294967295 (wget w95 80))
    have h80_103 : xRow w95 80 11 48 g80_102 := h80_103
    refine xg_iastK (n := 0) (u := 0) h80_103 xnm0 xnm0 rfl (by omega) (fun w105 hr106 hb107 => ?_)
    refine xg_t (xg_aload (va := (2, 0)) rfl rfl) ?_
    refine xg_t (xg_getf (va := (2, 80)) (hb107.get (by decide) (hF98.get (by decide) (hF70.get (by decide) (hF61.get (by decide) (hF51.get (by decide) (hF30.get (by decide) (hF21.get (by decide) (hF12.get (by decide) h0_1)))))))) rfl) ?_
    refine xg_t (xg_const) ?_
    refine xg_t (xg_aload (va := (2, 0)) rfl rfl) ?_
    refine xg_t (xg_getf (va := (2, 1)) (hb107.get (by decide) (hF98.get (by decide) (hF70.get (by decide) (hF61.get (by decide) (hF51.get (by decide) (hF30.get (by decide) (hF21.get (by decide) (hF12.get (by decide) h0_1)))))))) rfl) ?_
    refine xg_cVi mX9_cracksInView (vs := []) (rest := [(0, 1), (2, 80)]) (cn1 := 0) (sl1 := 0) rfl (tdCracksInView (xInv.up (S := [80]) hI97 (xFr.of (S := [80]) hb107 (by decide)) (List.forall_mem_cons.mpr ⟨(show cpI 11 48 4294967295 (wget w105 80) from ⟨_, hr106, xrb (by omega) (hb104)⟩), fun _ h => absurd h List.not_mem_nil⟩))) rfl (hb107.get (by decide) (hF98.get (by decide) h1_83)) rfl rfl rfl rfl rfl rfl (fun n112 w108 hq109 => ?_)
    obtain ⟨hn113, hI110, hF111⟩ := hq109
    by_cases hc114 : n112 = 0
    · refine xg_t (xg_ifF (u := n112) rfl xnm0 (xj_neF hc114)) ?_
      refine xg_t (xg_const) ?_
      refine xg_t (xg_goto) ?_
      refine xg_t (xg_blk (b := [(88, 1, 17, 0, 0, 0), (89, 1, 0, 0, 0, 0), (90, 3, 1, 11, 9, 83), (93, 1, 3, 2, 0, 0), (94, 1, 0, 1, 0, 0), (95, 3, 1, 1, 0, 112), (98, 3, 1, 5, 3, 151), (101, 1, 17, 0, 0, 0), (102, 1, 0, 0, 0, 0), (103, 3, 1, 11, 9, 83), (106, 1, 3, 3, 0, 0), (107, 1, 0, 1, 0, 0), (108, 3, 1, 1, 0, 112), (111, 3, 1, 5, 3, 151), (114, 3, 7, 121, 1, 0), (117, 1, 3, 0, 0, 0), (118, 3, 8, 128, 0, 0)]) rfl) ?_
      refine xg_iastK (n := 1) (u := 1) (hr106.fr hF111 (by decide)) xnm0 xnm0 rfl (by omega) (fun w115 hr116 hb117 => ?_)
      refine xg_t (xg_aload (va := (2, 0)) rfl rfl) ?_
      refine xg_t (xg_getf (va := (2, 80)) (hb117.get (by decide) (hF111.get (by decide) (hb107.get (by decide) (hF98.get (by decide) (hF70.get (by decide) (hF61.get (by decide) (hF51.get (by decide) (hF30.get (by decide) (hF21.get (by decide) (hF12.get (by decide) h0_1)))))))))) rfl) ?_
      refine xg_t (xg_const) ?_
      refine xg_t (xg_aload (va := (2, 3)) rfl rfl) ?_
      refine xg_t (xg_getf (va := (2, 4)) (hb117.get (by decide) (hF111.get (by decide) (hb107.get (by decide) (hF98.get (by decide) h3_94)))) rfl) ?_
      obtain ⟨f4_118, h4_120, hb119⟩ := (hI110 4 (by decide) : cp4 (wget w108 4))
      refine xg_t (xg_getf (va := (0, f4_118)) (hb117.get (by decide) h4_120) rfl) ?_
      refine xg_iastK (n := 2) (u := f4_118) hr116 xnm0 xnm0 rfl (by omega) (fun w121 hr122 hb123 => ?_)
      refine xg_t (xg_aload (va := (2, 0)) rfl rfl) ?_
      refine xg_t (xg_getf (va := (2, 80)) (hb123.get (by decide) (hb117.get (by decide) (hF111.get (by decide) (hb107.get (by decide) (hF98.get (by decide) (hF70.get (by decide) (hF61.get (by decide) (hF51.get (by decide) (hF30.get (by decide) (hF21.get (by decide) (hF12.get (by decide) h0_1))))))))))) rfl) ?_
      refine xg_t (xg_const) ?_
      refine xg_t (xg_aload (va := (2, 3)) rfl rfl) ?_
      refine xg_t (xg_getf (va := (2, 4)) (hb123.get (by decide) (hb117.get (by decide) (hF111.get (by decide) (hb107.get (by decide) (hF98.get (by decide) h3_94))))) rfl) ?_
      refine xg_t (xg_getf (va := (0, f4_118)) (hb123.get (by decide) (hb117.get (by decide) h4_120)) rfl) ?_
      by_cases hc124 : f4_118 = 0
      · refine xg_t (xg_ifF (u := f4_118) rfl xnm0 (xj_neF hc124)) ?_
        refine xg_t (xg_const) ?_
        refine xg_t (xg_goto) ?_
        refine xg_t (xg_blk (b := [(128, 1, 17, 0, 0, 0), (129, 1, 0, 0, 0, 0), (130, 3, 1, 11, 9, 83), (133, 1, 3, 4, 0, 0), (134, 1, 0, 1, 0, 0), (135, 3, 1, 1, 7, 225), (138, 1, 17, 0, 0, 0), (139, 1, 0, 0, 0, 0), (140, 3, 1, 11, 9, 83), (143, 1, 3, 5, 0, 0), (144, 1, 0, 0, 0, 0), (145, 3, 1, 11, 5, 52), (148, 3, 1, 10, 11, 222), (151, 1, 17, 0, 0, 0), (152, 1, 0, 0, 0, 0), (153, 3, 1, 11, 9, 83), (156, 2, 4, 6, 0, 0), (158, 1, 0, 0, 0, 0), (159, 3, 13, 45, 88, 291), (162, 1, 17, 0, 0, 0), (163, 1, 0, 0, 0, 0), (164, 3, 1, 11, 9, 83), (167, 2, 4, 7, 0, 0), (169, 3, 5, 9999, 0, 0), (172, 1, 0, 0, 0, 0), (173, 3, 1, 11, 7, 66), (176, 1, 3, 0, 0, 0), (177, 1, 3, 0, 0, 0), (178, 1, 0, 1, 0, 0), (179, 3, 1, 1, 5, 297), (182, 1, 0, 1, 0, 0), (183, 3, 1, 1, 6, 300), (186, 3, 13, 310, 56, 306), (189, 3, 63, 0, 0, 403), (192, 1, 17, 0, 0, 0), (193, 1, 0, 0, 0, 0), (194, 3, 1, 11, 9, 83), (197, 2, 4, 8, 0, 0), (199, 1, 0, 0, 0, 0), (200, 3, 1, 11, 0, 10), (203, 3, 13, 323, 72, 216), (206, 1, 17, 0, 0, 0), (207, 1, 0, 0, 0, 0), (208, 3, 1, 11, 9, 83), (211, 2, 4, 9, 0, 0), (213, 1, 0, 0, 0, 0), (214, 3, 1, 11, 8, 79), (217, 3, 1, 4, 4, 328), (220, 1, 17, 0, 0, 0), (221, 1, 0, 0, 0, 0), (222, 3, 1, 11, 9, 83), (225, 2, 4, 10, 0, 0), (227, 1, 0, 0, 0, 0), (228, 3, 1, 11, 0, 10), (231, 3, 1, 9, 6, 186), (234, 1, 17, 0, 0, 0), (235, 1, 12, 0, 0, 0)]) rfl) ?_
        refine xg_iastK (n := 3) (u := 0) hr122 xnm0 xnm0 rfl (by omega) (fun w125 hr126 hb127 => ?_)
        refine xg_t (xg_aload (va := (2, 0)) rfl rfl) ?_
        refine xg_t (xg_getf (va := (2, 80)) (hb127.get (by decide) (hb123.get (by decide) (hb117.get (by decide) (hF111.get (by decide) (hb107.get (by decide) (hF98.get (by decide) (hF70.get (by decide) (hF61.get (by decide) (hF51.get (by decide) (hF30.get (by decide) (hF21.get (by decide) (hF12.get (by decide) h0_1)))))))))))) rfl) ?_
        refine xg_t (xg_const) ?_
        refine xg_t (xg_aload (va := (2, 3)) rfl rfl) ?_
        refine xg_t (xg_getf (va := (0, f3_88)) (hb127.get (by decide) (hb123.get (by decide) (hb117.get (by decide) (hF111.get (by decide) (hb107.get (by decide) (hF98.get (by decide) h3_94)))))) rfl) ?_
        refine xg_iastK (n := 4) (u := f3_88) hr126 xnm0 xnm0 rfl (by omega) (fun w128 hr129 hb130 => ?_)
        refine xg_t (xg_aload (va := (2, 0)) rfl rfl) ?_
        refine xg_t (xg_getf (va := (2, 80)) (hb130.get (by decide) (hb127.get (by decide) (hb123.get (by decide) (hb117.get (by decide) (hF111.get (by decide) (hb107.get (by decide) (hF98.get (by decide) (hF70.get (by decide) (hF61.get (by decide) (hF51.get (by decide) (hF30.get (by decide) (hF21.get (by decide) (hF12.get (by decide) h0_1))))))))))))) rfl) ?_
        refine xg_t (xg_const) ?_
        refine xg_t (xg_aload (va := (2, 0)) rfl rfl) ?_
        refine xg_t (xg_getf (va := (2, 58)) (hb130.get (by decide) (hb127.get (by decide) (hb123.get (by decide) (hb117.get (by decide) (hF111.get (by decide) (hb107.get (by decide) (hF98.get (by decide) (hF70.get (by decide) (hF61.get (by decide) (hF51.get (by decide) (hF30.get (by decide) (hF21.get (by decide) (hF12.get (by decide) h0_1))))))))))))) rfl) ?_
        obtain ⟨f58_131, f58_133, f58_135, h58_137, hb132, hb134, hb136⟩ := (hI110 58 (by decide) : cp58 (wget w108 58))
        refine xg_t (xg_getf (va := (0, f58_133)) (hb130.get (by decide) (hb127.get (by decide) (hb123.get (by decide) (hb117.get (by decide) h58_137)))) rfl) ?_
        refine xg_iastK (n := 5) (u := f58_133) hr129 xnm0 xnm0 rfl (by omega) (fun w138 hr139 hb140 => ?_)
        refine xg_t (xg_aload (va := (2, 0)) rfl rfl) ?_
        refine xg_t (xg_getf (va := (2, 80)) (hb140.get (by decide) (hb130.get (by decide) (hb127.get (by decide) (hb123.get (by decide) (hb117.get (by decide) (hF111.get (by decide) (hb107.get (by decide) (hF98.get (by decide) (hF70.get (by decide) (hF61.get (by decide) (hF51.get (by decide) (hF30.get (by decide) (hF21.get (by decide) (hF12.get (by decide) h0_1)))))))))))))) rfl) ?_
        refine xg_t (xg_bip) ?_
        refine xg_t (xg_aload (va := (2, 0)) rfl rfl) ?_
        refine xg_cVi mX11_countDark (vs := []) (rest := [(0, 6), (2, 80)]) (cn1 := 0) (sl1 := 0) rfl (scCountDark (xInv.up (S := [80]) hI110 (((((xFr.of (S := [80]) hb117 (by decide)).tr (xFr.of (S := [80]) hb123 (by decide))).tr (xFr.of (S := [80]) hb127 (by decide))).tr (xFr.of (S := [80]) hb130 (by decide))).tr (xFr.of (S := [80]) hb140 (by decide))) (List.forall_mem_cons.mpr ⟨(show cpI 11 48 4294967295 (wget w138 80) from ⟨_, hr139, xrb (by omega) (xrb (by omega) (xrb (by omega) (xrb (by omega) (xrb (by omega) (xrb (by omega) (hb104))))))⟩), fun _ h => absurd h List.not_mem_nil⟩))) rfl (hb140.get (by decide) (hb130.get (by decide) (hb127.get (by decide) (hb123.get (by decide) (hb117.get (by decide) (hF111.get (by decide) (hb107.get (by decide) (hF98.get (by decide) (hF70.get (by decide) (hF61.get (by decide) (hF51.get (by decide) (hF30.get (by decide) (hF21.get (by decide) (hF12.get (by decide) h0_1)))))))))))))) rfl rfl rfl rfl rfl rfl (fun n145 w141 hq142 => ?_)
        obtain ⟨hn146, hI143, hF144⟩ := hq142
        refine xg_iastK (n := 6) (u := n145) (hr139.fr hF144 (by decide)) xnm0 xnm0 rfl (by omega) (fun w147 hr148 hb149 => ?_)
        refine xg_t (xg_aload (va := (2, 0)) rfl rfl) ?_
        refine xg_t (xg_getf (va := (2, 80)) (hb149.get (by decide) (hF144.get (by decide) (hb140.get (by decide) (hb130.get (by decide) (hb127.get (by decide) (hb123.get (by decide) (hb117.get (by decide) (hF111.get (by decide) (hb107.get (by decide) (hF98.get (by decide) (hF70.get (by decide) (hF61.get (by decide) (hF51.get (by decide) (hF30.get (by decide) (hF21.get (by decide) (hF12.get (by decide) h0_1)))))))))))))))) rfl) ?_
        refine xg_t (xg_bip) ?_
        refine xg_t (xg_sip) ?_
        refine xg_t (xg_aload (va := (2, 0)) rfl rfl) ?_
        refine xg_t (xg_getf (va := (2, 72)) (hb149.get (by decide) (hF144.get (by decide) (hb140.get (by decide) (hb130.get (by decide) (hb127.get (by decide) (hb123.get (by decide) (hb117.get (by decide) (hF111.get (by decide) (hb107.get (by decide) (hF98.get (by decide) (hF70.get (by decide) (hF61.get (by decide) (hF51.get (by decide) (hF30.get (by decide) (hF21.get (by decide) (hF12.get (by decide) h0_1)))))))))))))))) rfl) ?_
        refine xg_t (xg_const) ?_
        refine xg_t (xg_const) ?_
        refine xg_t (xg_aload (va := (2, 3)) rfl rfl) ?_
        refine xg_t (xg_getf (va := (0, f3_84)) (hb149.get (by decide) (hF144.get (by decide) (hb140.get (by decide) (hb130.get (by decide) (hb127.get (by decide) (hb123.get (by decide) (hb117.get (by decide) (hF111.get (by decide) (hb107.get (by decide) (hF98.get (by decide) h3_94)))))))))) rfl) ?_
        refine xg_t (xg_aload (va := (2, 3)) rfl rfl) ?_
        refine xg_t (xg_getf (va := (0, f3_86)) (hb149.get (by decide) (hF144.get (by decide) (hb140.get (by decide) (hb130.get (by decide) (hb127.get (by decide) (hb123.get (by decide) (hb117.get (by decide) (hF111.get (by decide) (hb107.get (by decide) (hF98.get (by decide) h3_94)))))))))) rfl) ?_
        obtain ⟨f72_150, f72_152, h72_154, hb151, hb153⟩ := (hI143 72 (by decide) : cp72 (wget w141 72))
        refine xg_cVi mX7_worthOf (vs := [(0, 0), (0, 0), (0, f3_84), (0, f3_86)]) (rest := [(0, 9999), (0, 7), (2, 80)]) (cn1 := 0) (sl1 := 0) rfl (shWorthOf (xInv.up (S := [80]) hI143 (xFr.of (S := [80]) hb149 (by decide)) (List.forall_mem_cons.mpr ⟨(show cpI 11 48 4294967295 (wget w147 80) from ⟨_, hr148, xrb (by omega) (xrb (by omega) (xrb (by omega) (xrb (by omega) (xrb (by omega) (xrb (by omega) (xrb (by omega) (hb104)))))))⟩), fun _ h => absurd h List.not_mem_nil⟩)) (by omega) (by omega) (by omega) (by omega)) rfl (hb149.get (by decide) h72_154) rfl rfl rfl rfl rfl rfl (fun n159 w155 hq156 => ?_)
        obtain ⟨hn160, hI157, hF158⟩ := hq156
        refine xg_minK (u := 9999) (v := n159) xnm0 xnm0 xmx_ok (by omega) (by omega) (fun z161 hz162 hz163 hz164 hz165 => ?_)
        unfold xbs at hz163 hz164
        refine xg_iastK (n := 7) (u := z161) (hr148.fr hF158 (by decide)) xnm0 xnm0 rfl (by omega) (fun w166 hr167 hb168 => ?_)
        refine xg_t (xg_aload (va := (2, 0)) rfl rfl) ?_
        refine xg_t (xg_getf (va := (2, 80)) (hb168.get (by decide) (hF158.get (by decide) (hb149.get (by decide) (hF144.get (by decide) (hb140.get (by decide) (hb130.get (by decide) (hb127.get (by decide) (hb123.get (by decide) (hb117.get (by decide) (hF111.get (by decide) (hb107.get (by decide) (hF98.get (by decide) (hF70.get (by decide) (hF61.get (by decide) (hF51.get (by decide) (hF30.get (by decide) (hF21.get (by decide) (hF12.get (by decide) h0_1)))))))))))))))))) rfl) ?_
        refine xg_t (xg_bip) ?_
        refine xg_t (xg_aload (va := (2, 0)) rfl rfl) ?_
        refine xg_t (xg_getf (va := (2, 1)) (hb168.get (by decide) (hF158.get (by decide) (hb149.get (by decide) (hF144.get (by decide) (hb140.get (by decide) (hb130.get (by decide) (hb127.get (by decide) (hb123.get (by decide) (hb117.get (by decide) (hF111.get (by decide) (hb107.get (by decide) (hF98.get (by decide) (hF70.get (by decide) (hF61.get (by decide) (hF51.get (by decide) (hF30.get (by decide) (hF21.get (by decide) (hF12.get (by decide) h0_1)))))))))))))))))) rfl) ?_
        refine xg_cVi mX9_cracksInView (vs := []) (rest := [(0, 8), (2, 80)]) (cn1 := 0) (sl1 := 0) rfl (tdCracksInView (xInv.up (S := [80]) hI157 (xFr.of (S := [80]) hb168 (by decide)) (List.forall_mem_cons.mpr ⟨(show cpI 11 48 4294967295 (wget w166 80) from ⟨_, hr167, xrb (by omega) (xrb (by omega) (xrb (by omega) (xrb (by omega) (xrb (by omega) (xrb (by omega) (xrb (by omega) (xrb (by omega) (hb104))))))))⟩), fun _ h => absurd h List.not_mem_nil⟩))) rfl (hb168.get (by decide) (hF158.get (by decide) (hb149.get (by decide) (hF144.get (by decide) (hb140.get (by decide) (hb130.get (by decide) (hb127.get (by decide) (hb123.get (by decide) (hb117.get (by decide) (hF111.get (by decide) (hb107.get (by decide) (hF98.get (by decide) h1_83)))))))))))) rfl rfl rfl rfl rfl rfl (fun n173 w169 hq170 => ?_)
        obtain ⟨hn174, hI171, hF172⟩ := hq170
        refine xg_iastK (n := 8) (u := n173) (hr167.fr hF172 (by decide)) xnm0 xnm0 rfl (by omega) (fun w175 hr176 hb177 => ?_)
        refine xg_t (xg_aload (va := (2, 0)) rfl rfl) ?_
        refine xg_t (xg_getf (va := (2, 80)) (hb177.get (by decide) (hF172.get (by decide) (hb168.get (by decide) (hF158.get (by decide) (hb149.get (by decide) (hF144.get (by decide) (hb140.get (by decide) (hb130.get (by decide) (hb127.get (by decide) (hb123.get (by decide) (hb117.get (by decide) (hF111.get (by decide) (hb107.get (by decide) (hF98.get (by decide) (hF70.get (by decide) (hF61.get (by decide) (hF51.get (by decide) (hF30.get (by decide) (hF21.get (by decide) (hF12.get (by decide) h0_1)))))))))))))))))))) rfl) ?_
        refine xg_t (xg_bip) ?_
        refine xg_t (xg_aload (va := (2, 0)) rfl rfl) ?_
        refine xg_t (xg_getf (va := (2, 76)) (hb177.get (by decide) (hF172.get (by decide) (hb168.get (by decide) (hF158.get (by decide) (hb149.get (by decide) (hF144.get (by decide) (hb140.get (by decide) (hb130.get (by decide) (hb127.get (by decide) (hb123.get (by decide) (hb117.get (by decide) (hF111.get (by decide) (hb107.get (by decide) (hF98.get (by decide) (hF70.get (by decide) (hF61.get (by decide) (hF51.get (by decide) (hF30.get (by decide) (hF21.get (by decide) (hF12.get (by decide) h0_1)))))))))))))))))))) rfl) ?_
        obtain ⟨f76_178, f76_180, f76_182, f76_184, f76_186, f76_188, f76_190, f76_192, h76_194, hb179, hb181, hb183, hb185, hb187, hb189, hb191, hb193⟩ := (hI171 76 (by decide) : cp76 (wget w169 76))
        refine xg_t (xg_getf (va := (0, f76_178)) (hb177.get (by decide) h76_194) rfl) ?_
        refine xg_iastK (n := 9) (u := f76_178) hr176 xnm0 xnm0 rfl (by omega) (fun w195 hr196 hb197 => ?_)
        refine xg_t (xg_aload (va := (2, 0)) rfl rfl) ?_
        refine xg_t (xg_getf (va := (2, 80)) (hb197.get (by decide) (hb177.get (by decide) (hF172.get (by decide) (hb168.get (by decide) (hF158.get (by decide) (hb149.get (by decide) (hF144.get (by decide) (hb140.get (by decide) (hb130.get (by decide) (hb127.get (by decide) (hb123.get (by decide) (hb117.get (by decide) (hF111.get (by decide) (hb107.get (by decide) (hF98.get (by decide) (hF70.get (by decide) (hF61.get (by decide) (hF51.get (by decide) (hF30.get (by decide) (hF21.get (by decide) (hF12.get (by decide) h0_1))))))))))))))))))))) rfl) ?_
        refine xg_t (xg_bip) ?_
        refine xg_t (xg_aload (va := (2, 0)) rfl rfl) ?_
        refine xg_t (xg_getf (va := (2, 1)) (hb197.get (by decide) (hb177.get (by decide) (hF172.get (by decide) (hb168.get (by decide) (hF158.get (by decide) (hb149.get (by decide) (hF144.get (by decide) (hb140.get (by decide) (hb130.get (by decide) (hb127.get (by decide) (hb123.get (by decide) (hb117.get (by decide) (hF111.get (by decide) (hb107.get (by decide) (hF98.get (by decide) (hF70.get (by decide) (hF61.get (by decide) (hF51.get (by decide) (hF30.get (by decide) (hF21.get (by decide) (hF12.get (by decide) h0_1))))))))))))))))))))) rfl) ?_
        refine xg_t (xg_getf (va := (0, f1_77)) (hb197.get (by decide) (hb177.get (by decide) (hF172.get (by decide) (hb168.get (by decide) (hF158.get (by decide) (hb149.get (by decide) (hF144.get (by decide) (hb140.get (by decide) (hb130.get (by decide) (hb127.get (by decide) (hb123.get (by decide) (hb117.get (by decide) (hF111.get (by decide) (hb107.get (by decide) (hF98.get (by decide) h1_83))))))))))))))) rfl) ?_
        refine xg_iastK (n := 10) (u := f1_77) hr196 xnm0 xnm0 rfl (by omega) (fun w198 hr199 hb200 => ?_)
        exact xg_e ⟨w198, ⟨rfl, rfl⟩, xInv.up (S := [80]) hI171 (((xFr.of (S := [80]) hb177 (by decide)).tr (xFr.of (S := [80]) hb197 (by decide))).tr (xFr.of (S := [80]) hb200 (by decide))) (List.forall_mem_cons.mpr ⟨(show cpI 11 48 4294967295 (wget w198 80) from ⟨_, hr199, xrb (by omega) (xrb (by omega) (xrb (by omega) (xrb (by omega) (xrb (by omega) (xrb (by omega) (xrb (by omega) (xrb (by omega) (xrb (by omega) (xrb (by omega) (xrb (by omega) (hb104)))))))))))⟩), fun _ h => absurd h List.not_mem_nil⟩), ((((((((((((((((hF12.up (by decide)).tr (hF21.up (by decide))).tr (hF30.up (by decide))).tr (hF51.up (by decide))).tr (hF61.up (by decide))).tr (hF70.up (by decide))).tr (hF98.up (by decide))).tr (xFr.of (S := [50, 51, 52, 53, 54, 55, 58, 59, 60, 61, 62, 63, 64, 65, 66, 67, 68, 69, 70, 71, 72, 73, 76, 77, 80]) hb107 (by decide))).tr (hF111.up (by decide))).tr (((((xFr.of (S := [50, 51, 52, 53, 54, 55, 58, 59, 60, 61, 62, 63, 64, 65, 66, 67, 68, 69, 70, 71, 72, 73, 76, 77, 80]) hb117 (by decide)).tr (xFr.of (S := [50, 51, 52, 53, 54, 55, 58, 59, 60, 61, 62, 63, 64, 65, 66, 67, 68, 69, 70, 71, 72, 73, 76, 77, 80]) hb123 (by decide))).tr (xFr.of (S := [50, 51, 52, 53, 54, 55, 58, 59, 60, 61, 62, 63, 64, 65, 66, 67, 68, 69, 70, 71, 72, 73, 76, 77, 80]) hb127 (by decide))).tr (xFr.of (S := [50, 51, 52, 53, 54, 55, 58, 59, 60, 61, 62, 63, 64, 65, 66, 67, 68, 69, 70, 71, 72, 73, 76, 77, 80]) hb130 (by decide))).tr (xFr.of (S := [50, 51, 52, 53, 54, 55, 58, 59, 60, 61, 62, 63, 64, 65, 66, 67, 68, 69, 70, 71, 72, 73, 76, 77, 80]) hb140 (by decide)))).tr (hF144.up (by decide))).tr (xFr.of (S := [50, 51, 52, 53, 54, 55, 58, 59, 60, 61, 62, 63, 64, 65, 66, 67, 68, 69, 70, 71, 72, 73, 76, 77, 80]) hb149 (by decide))).tr (hF158.up (by decide))).tr (xFr.of (S := [50, 51, 52, 53, 54, 55, 58, 59, 60, 61, 62, 63, 64, 65, 66, 67, 68, 69, 70, 71, 72, 73, 76, 77, 80]) hb168 (by decide))).tr (hF172.up (by decide))).tr (((xFr.of (S := [50, 51, 52, 53, 54, 55, 58, 59, 60, 61, 62, 63, 64, 65, 66, 67, 68, 69, 70, 71, 72, 73, 76, 77, 80]) hb177 (by decide)).tr (xFr.of (S := [50, 51, 52, 53, 54, 55, 58, 59, 60, 61, 62, 63, 64, 65, 66, 67, 68, 69, 70, 71, 72, 73, 76, 77, 80]) hb197 (by decide))).tr (xFr.of (S := [50, 51, 52, 53, 54, 55, 58, 59, 60, 61, 62, 63, 64, 65, 66, 67, 68, 69, 70, 71, 72, 73, 76, 77, 80]) hb200 (by decide)))), ((((((((((((((((((hx52.2.kp (hF61.1 20 (by decide)) (hF61.1 21 (by decide)) (hF61.1 76 (by decide)) (hF61.1 77 (by decide))).kp (hF70.1 20 (by decide)) (hF70.1 21 (by decide)) (hF70.1 76 (by decide)) (hF70.1 77 (by decide))).kp (hF98.1 20 (by decide)) (hF98.1 21 (by decide)) (hF98.1 76 (by decide)) (hF98.1 77 (by decide))).kp (hb107.1 20 (by decide)) (hb107.1 21 (by decide)) (hb107.1 76 (by decide)) (hb107.1 77 (by decide))).kp (hF111.1 20 (by decide)) (hF111.1 21 (by decide)) (hF111.1 76 (by decide)) (hF111.1 77 (by decide))).kp (hb117.1 20 (by decide)) (hb117.1 21 (by decide)) (hb117.1 76 (by decide)) (hb117.1 77 (by decide))).kp (hb123.1 20 (by decide)) (hb123.1 21 (by decide)) (hb123.1 76 (by decide)) (hb123.1 77 (by decide))).kp (hb127.1 20 (by decide)) (hb127.1 21 (by decide)) (hb127.1 76 (by decide)) (hb127.1 77 (by decide))).kp (hb130.1 20 (by decide)) (hb130.1 21 (by decide)) (hb130.1 76 (by decide)) (hb130.1 77 (by decide))).kp (hb140.1 20 (by decide)) (hb140.1 21 (by decide)) (hb140.1 76 (by decide)) (hb140.1 77 (by decide))).kp (hF144.1 20 (by decide)) (hF144.1 21 (by decide)) (hF144.1 76 (by decide)) (hF144.1 77 (by decide))).kp (hb149.1 20 (by decide)) (hb149.1 21 (by decide)) (hb149.1 76 (by decide)) (hb149.1 77 (by decide))).kp (hF158.1 20 (by decide)) (hF158.1 21 (by decide)) (hF158.1 76 (by decide)) (hF158.1 77 (by decide))).kp (hb168.1 20 (by decide)) (hb168.1 21 (by decide)) (hb168.1 76 (by decide)) (hb168.1 77 (by decide))).kp (hF172.1 20 (by decide)) (hF172.1 21 (by decide)) (hF172.1 76 (by decide)) (hF172.1 77 (by decide))).kp (hb177.1 20 (by decide)) (hb177.1 21 (by decide)) (hb177.1 76 (by decide)) (hb177.1 77 (by decide))).kp (hb197.1 20 (by decide)) (hb197.1 21 (by decide)) (hb197.1 76 (by decide)) (hb197.1 77 (by decide))).kp (hb200.1 20 (by decide)) (hb200.1 21 (by decide)) (hb200.1 76 (by decide)) (hb200.1 77 (by decide)))⟩
      · refine xg_t (xg_ifT (u := f4_118) rfl xnm0 (xj_neT hc124)) ?_
        refine xg_t (xg_blk (b := [(121, 1, 0, 0, 0, 0), (122, 3, 1, 11, 4, 45), (125, 3, 13, 13, 0, 154)]) rfl) ?_
        refine xg_t (xg_aload (va := (2, 0)) rfl rfl) ?_
        refine xg_t (xg_getf (va := (2, 49)) (hb123.get (by decide) (hb117.get (by decide) (hF111.get (by decide) (hb107.get (by decide) (hF98.get (by decide) (hF70.get (by decide) (hF61.get (by decide) (hF51.get (by decide) (hF30.get (by decide) (hF21.get (by decide) (hF12.get (by decide) h0_1))))))))))) rfl) ?_
        refine xg_cVi mX0_leastRound (vs := []) (rest := [(0, 3), (2, 80)]) (cn1 := 0) (sl1 := 0) rfl (bdLeast (xInv.up (S := [80]) hI110 ((xFr.of (S := [80]) hb117 (by decide)).tr (xFr.of (S := [80]) hb123 (by decide))) (List.forall_mem_cons.mpr ⟨(show cpI 11 48 4294967295 (wget w121 80) from ⟨_, hr122, xrb (by omega) (xrb (by omega) (xrb (by omega) (hb104)))⟩), fun _ h => absurd h List.not_mem_nil⟩))) rfl (hb123.get (by decide) (hb117.get (by decide) (hF111.get (by decide) (hb107.get (by decide) (hF98.get (by decide) (hF70.get (by decide) h49_66)))))) rfl rfl rfl rfl rfl rfl (fun n205 w201 hq202 => ?_)
        obtain ⟨hn206, hI203, hF204⟩ := hq202
        refine xg_t (xg_blk (b := [(128, 1, 17, 0, 0, 0), (129, 1, 0, 0, 0, 0), (130, 3, 1, 11, 9, 83), (133, 1, 3, 4, 0, 0), (134, 1, 0, 1, 0, 0), (135, 3, 1, 1, 7, 225), (138, 1, 17, 0, 0, 0), (139, 1, 0, 0, 0, 0), (140, 3, 1, 11, 9, 83), (143, 1, 3, 5, 0, 0), (144, 1, 0, 0, 0, 0), (145, 3, 1, 11, 5, 52), (148, 3, 1, 10, 11, 222), (151, 1, 17, 0, 0, 0), (152, 1, 0, 0, 0, 0), (153, 3, 1, 11, 9, 83), (156, 2, 4, 6, 0, 0), (158, 1, 0, 0, 0, 0), (159, 3, 13, 45, 88, 291), (162, 1, 17, 0, 0, 0), (163, 1, 0, 0, 0, 0), (164, 3, 1, 11, 9, 83), (167, 2, 4, 7, 0, 0), (169, 3, 5, 9999, 0, 0), (172, 1, 0, 0, 0, 0), (173, 3, 1, 11, 7, 66), (176, 1, 3, 0, 0, 0), (177, 1, 3, 0, 0, 0), (178, 1, 0, 1, 0, 0), (179, 3, 1, 1, 5, 297), (182, 1, 0, 1, 0, 0), (183, 3, 1, 1, 6, 300), (186, 3, 13, 310, 56, 306), (189, 3, 63, 0, 0, 403), (192, 1, 17, 0, 0, 0), (193, 1, 0, 0, 0, 0), (194, 3, 1, 11, 9, 83), (197, 2, 4, 8, 0, 0), (199, 1, 0, 0, 0, 0), (200, 3, 1, 11, 0, 10), (203, 3, 13, 323, 72, 216), (206, 1, 17, 0, 0, 0), (207, 1, 0, 0, 0, 0), (208, 3, 1, 11, 9, 83), (211, 2, 4, 9, 0, 0), (213, 1, 0, 0, 0, 0), (214, 3, 1, 11, 8, 79), (217, 3, 1, 4, 4, 328), (220, 1, 17, 0, 0, 0), (221, 1, 0, 0, 0, 0), (222, 3, 1, 11, 9, 83), (225, 2, 4, 10, 0, 0), (227, 1, 0, 0, 0, 0), (228, 3, 1, 11, 0, 10), (231, 3, 1, 9, 6, 186), (234, 1, 17, 0, 0, 0), (235, 1, 12, 0, 0, 0)]) rfl) ?_
        refine xg_iastK (n := 3) (u := n205) (hr122.fr hF204 (by decide)) xnm0 xnm0 rfl (by omega) (fun w207 hr208 hb209 => ?_)
        refine xg_t (xg_aload (va := (2, 0)) rfl rfl) ?_
        refine xg_t (xg_getf (va := (2, 80)) (hb209.get (by decide) (hF204.get (by decide) (hb123.get (by decide) (hb117.get (by decide) (hF111.get (by decide) (hb107.get (by decide) (hF98.get (by decide) (hF70.get (by decide) (hF61.get (by decide) (hF51.get (by decide) (hF30.get (by decide) (hF21.get (by decide) (hF12.get (by decide) h0_1))))))))))))) rfl) ?_
        refine xg_t (xg_const) ?_
        refine xg_t (xg_aload (va := (2, 3)) rfl rfl) ?_
        refine xg_t (xg_getf (va := (0, f3_88)) (hb209.get (by decide) (hF204.get (by decide) (hb123.get (by decide) (hb117.get (by decide) (hF111.get (by decide) (hb107.get (by decide) (hF98.get (by decide) h3_94))))))) rfl) ?_
        refine xg_iastK (n := 4) (u := f3_88) hr208 xnm0 xnm0 rfl (by omega) (fun w210 hr211 hb212 => ?_)
        refine xg_t (xg_aload (va := (2, 0)) rfl rfl) ?_
        refine xg_t (xg_getf (va := (2, 80)) (hb212.get (by decide) (hb209.get (by decide) (hF204.get (by decide) (hb123.get (by decide) (hb117.get (by decide) (hF111.get (by decide) (hb107.get (by decide) (hF98.get (by decide) (hF70.get (by decide) (hF61.get (by decide) (hF51.get (by decide) (hF30.get (by decide) (hF21.get (by decide) (hF12.get (by decide) h0_1)))))))))))))) rfl) ?_
        refine xg_t (xg_const) ?_
        refine xg_t (xg_aload (va := (2, 0)) rfl rfl) ?_
        refine xg_t (xg_getf (va := (2, 58)) (hb212.get (by decide) (hb209.get (by decide) (hF204.get (by decide) (hb123.get (by decide) (hb117.get (by decide) (hF111.get (by decide) (hb107.get (by decide) (hF98.get (by decide) (hF70.get (by decide) (hF61.get (by decide) (hF51.get (by decide) (hF30.get (by decide) (hF21.get (by decide) (hF12.get (by decide) h0_1)))))))))))))) rfl) ?_
        obtain ⟨f58_213, f58_215, f58_217, h58_219, hb214, hb216, hb218⟩ := (hI203 58 (by decide) : cp58 (wget w201 58))
        refine xg_t (xg_getf (va := (0, f58_215)) (hb212.get (by decide) (hb209.get (by decide) h58_219)) rfl) ?_
        refine xg_iastK (n := 5) (u := f58_215) hr211 xnm0 xnm0 rfl (by omega) (fun w220 hr221 hb222 => ?_)
        refine xg_t (xg_aload (va := (2, 0)) rfl rfl) ?_
        refine xg_t (xg_getf (va := (2, 80)) (hb222.get (by decide) (hb212.get (by decide) (hb209.get (by decide) (hF204.get (by decide) (hb123.get (by decide) (hb117.get (by decide) (hF111.get (by decide) (hb107.get (by decide) (hF98.get (by decide) (hF70.get (by decide) (hF61.get (by decide) (hF51.get (by decide) (hF30.get (by decide) (hF21.get (by decide) (hF12.get (by decide) h0_1))))))))))))))) rfl) ?_
        refine xg_t (xg_bip) ?_
        refine xg_t (xg_aload (va := (2, 0)) rfl rfl) ?_
        refine xg_cVi mX11_countDark (vs := []) (rest := [(0, 6), (2, 80)]) (cn1 := 0) (sl1 := 0) rfl (scCountDark (xInv.up (S := [80]) hI203 (((xFr.of (S := [80]) hb209 (by decide)).tr (xFr.of (S := [80]) hb212 (by decide))).tr (xFr.of (S := [80]) hb222 (by decide))) (List.forall_mem_cons.mpr ⟨(show cpI 11 48 4294967295 (wget w220 80) from ⟨_, hr221, xrb (by omega) (xrb (by omega) (xrb (by omega) (xrb (by omega) (xrb (by omega) (xrb (by omega) (hb104))))))⟩), fun _ h => absurd h List.not_mem_nil⟩))) rfl (hb222.get (by decide) (hb212.get (by decide) (hb209.get (by decide) (hF204.get (by decide) (hb123.get (by decide) (hb117.get (by decide) (hF111.get (by decide) (hb107.get (by decide) (hF98.get (by decide) (hF70.get (by decide) (hF61.get (by decide) (hF51.get (by decide) (hF30.get (by decide) (hF21.get (by decide) (hF12.get (by decide) h0_1))))))))))))))) rfl rfl rfl rfl rfl rfl (fun n227 w223 hq224 => ?_)
        obtain ⟨hn228, hI225, hF226⟩ := hq224
        refine xg_iastK (n := 6) (u := n227) (hr221.fr hF226 (by decide)) xnm0 xnm0 rfl (by omega) (fun w229 hr230 hb231 => ?_)
        refine xg_t (xg_aload (va := (2, 0)) rfl rfl) ?_
        refine xg_t (xg_getf (va := (2, 80)) (hb231.get (by decide) (hF226.get (by decide) (hb222.get (by decide) (hb212.get (by decide) (hb209.get (by decide) (hF204.get (by decide) (hb123.get (by decide) (hb117.get (by decide) (hF111.get (by decide) (hb107.get (by decide) (hF98.get (by decide) (hF70.get (by decide) (hF61.get (by decide) (hF51.get (by decide) (hF30.get (by decide) (hF21.get (by decide) (hF12.get (by decide) h0_1))))))))))))))))) rfl) ?_
        refine xg_t (xg_bip) ?_
        refine xg_t (xg_sip) ?_
        refine xg_t (xg_aload (va := (2, 0)) rfl rfl) ?_
        refine xg_t (xg_getf (va := (2, 72)) (hb231.get (by decide) (hF226.get (by decide) (hb222.get (by decide) (hb212.get (by decide) (hb209.get (by decide) (hF204.get (by decide) (hb123.get (by decide) (hb117.get (by decide) (hF111.get (by decide) (hb107.get (by decide) (hF98.get (by decide) (hF70.get (by decide) (hF61.get (by decide) (hF51.get (by decide) (hF30.get (by decide) (hF21.get (by decide) (hF12.get (by decide) h0_1))))))))))))))))) rfl) ?_
        refine xg_t (xg_const) ?_
        refine xg_t (xg_const) ?_
        refine xg_t (xg_aload (va := (2, 3)) rfl rfl) ?_
        refine xg_t (xg_getf (va := (0, f3_84)) (hb231.get (by decide) (hF226.get (by decide) (hb222.get (by decide) (hb212.get (by decide) (hb209.get (by decide) (hF204.get (by decide) (hb123.get (by decide) (hb117.get (by decide) (hF111.get (by decide) (hb107.get (by decide) (hF98.get (by decide) h3_94))))))))))) rfl) ?_
        refine xg_t (xg_aload (va := (2, 3)) rfl rfl) ?_
        refine xg_t (xg_getf (va := (0, f3_86)) (hb231.get (by decide) (hF226.get (by decide) (hb222.get (by decide) (hb212.get (by decide) (hb209.get (by decide) (hF204.get (by decide) (hb123.get (by decide) (hb117.get (by decide) (hF111.get (by decide) (hb107.get (by decide) (hF98.get (by decide) h3_94))))))))))) rfl) ?_
        obtain ⟨f72_232, f72_234, h72_236, hb233, hb235⟩ := (hI225 72 (by decide) : cp72 (wget w223 72))
        refine xg_cVi mX7_worthOf (vs := [(0, 0), (0, 0), (0, f3_84), (0, f3_86)]) (rest := [(0, 9999), (0, 7), (2, 80)]) (cn1 := 0) (sl1 := 0) rfl (shWorthOf (xInv.up (S := [80]) hI225 (xFr.of (S := [80]) hb231 (by decide)) (List.forall_mem_cons.mpr ⟨(show cpI 11 48 4294967295 (wget w229 80) from ⟨_, hr230, xrb (by omega) (xrb (by omega) (xrb (by omega) (xrb (by omega) (xrb (by omega) (xrb (by omega) (xrb (by omega) (hb104)))))))⟩), fun _ h => absurd h List.not_mem_nil⟩)) (by omega) (by omega) (by omega) (by omega)) rfl (hb231.get (by decide) h72_236) rfl rfl rfl rfl rfl rfl (fun n241 w237 hq238 => ?_)
        obtain ⟨hn242, hI239, hF240⟩ := hq238
        refine xg_minK (u := 9999) (v := n241) xnm0 xnm0 xmx_ok (by omega) (by omega) (fun z243 hz244 hz245 hz246 hz247 => ?_)
        unfold xbs at hz245 hz246
        refine xg_iastK (n := 7) (u := z243) (hr230.fr hF240 (by decide)) xnm0 xnm0 rfl (by omega) (fun w248 hr249 hb250 => ?_)
        refine xg_t (xg_aload (va := (2, 0)) rfl rfl) ?_
        refine xg_t (xg_getf (va := (2, 80)) (hb250.get (by decide) (hF240.get (by decide) (hb231.get (by decide) (hF226.get (by decide) (hb222.get (by decide) (hb212.get (by decide) (hb209.get (by decide) (hF204.get (by decide) (hb123.get (by decide) (hb117.get (by decide) (hF111.get (by decide) (hb107.get (by decide) (hF98.get (by decide) (hF70.get (by decide) (hF61.get (by decide) (hF51.get (by decide) (hF30.get (by decide) (hF21.get (by decide) (hF12.get (by decide) h0_1))))))))))))))))))) rfl) ?_
        refine xg_t (xg_bip) ?_
        refine xg_t (xg_aload (va := (2, 0)) rfl rfl) ?_
        refine xg_t (xg_getf (va := (2, 1)) (hb250.get (by decide) (hF240.get (by decide) (hb231.get (by decide) (hF226.get (by decide) (hb222.get (by decide) (hb212.get (by decide) (hb209.get (by decide) (hF204.get (by decide) (hb123.get (by decide) (hb117.get (by decide) (hF111.get (by decide) (hb107.get (by decide) (hF98.get (by decide) (hF70.get (by decide) (hF61.get (by decide) (hF51.get (by decide) (hF30.get (by decide) (hF21.get (by decide) (hF12.get (by decide) h0_1))))))))))))))))))) rfl) ?_
        refine xg_cVi mX9_cracksInView (vs := []) (rest := [(0, 8), (2, 80)]) (cn1 := 0) (sl1 := 0) rfl (tdCracksInView (xInv.up (S := [80]) hI239 (xFr.of (S := [80]) hb250 (by decide)) (List.forall_mem_cons.mpr ⟨(show cpI 11 48 4294967295 (wget w248 80) from ⟨_, hr249, xrb (by omega) (xrb (by omega) (xrb (by omega) (xrb (by omega) (xrb (by omega) (xrb (by omega) (xrb (by omega) (xrb (by omega) (hb104))))))))⟩), fun _ h => absurd h List.not_mem_nil⟩))) rfl (hb250.get (by decide) (hF240.get (by decide) (hb231.get (by decide) (hF226.get (by decide) (hb222.get (by decide) (hb212.get (by decide) (hb209.get (by decide) (hF204.get (by decide) (hb123.get (by decide) (hb117.get (by decide) (hF111.get (by decide) (hb107.get (by decide) (hF98.get (by decide) h1_83))))))))))))) rfl rfl rfl rfl rfl rfl (fun n255 w251 hq252 => ?_)
        obtain ⟨hn256, hI253, hF254⟩ := hq252
        refine xg_iastK (n := 8) (u := n255) (hr249.fr hF254 (by decide)) xnm0 xnm0 rfl (by omega) (fun w257 hr258 hb259 => ?_)
        refine xg_t (xg_aload (va := (2, 0)) rfl rfl) ?_
        refine xg_t (xg_getf (va := (2, 80)) (hb259.get (by decide) (hF254.get (by decide) (hb250.get (by decide) (hF240.get (by decide) (hb231.get (by decide) (hF226.get (by decide) (hb222.get (by decide) (hb212.get (by decide) (hb209.get (by decide) (hF204.get (by decide) (hb123.get (by decide) (hb117.get (by decide) (hF111.get (by decide) (hb107.get (by decide) (hF98.get (by decide) (hF70.get (by decide) (hF61.get (by decide) (hF51.get (by decide) (hF30.get (by decide) (hF21.get (by decide) (hF12.get (by decide) h0_1))))))))))))))))))))) rfl) ?_
        refine xg_t (xg_bip) ?_
        refine xg_t (xg_aload (va := (2, 0)) rfl rfl) ?_
        refine xg_t (xg_getf (va := (2, 76)) (hb259.get (by decide) (hF254.get (by decide) (hb250.get (by decide) (hF240.get (by decide) (hb231.get (by decide) (hF226.get (by decide) (hb222.get (by decide) (hb212.get (by decide) (hb209.get (by decide) (hF204.get (by decide) (hb123.get (by decide) (hb117.get (by decide) (hF111.get (by decide) (hb107.get (by decide) (hF98.get (by decide) (hF70.get (by decide) (hF61.get (by decide) (hF51.get (by decide) (hF30.get (by decide) (hF21.get (by decide) (hF12.get (by decide) h0_1))))))))))))))))))))) rfl) ?_
        obtain ⟨f76_260, f76_262, f76_264, f76_266, f76_268, f76_270, f76_272, f76_274, h76_276, hb261, hb263, hb265, hb267, hb269, hb271, hb273, hb275⟩ := (hI253 76 (by decide) : cp76 (wget w251 76))
        refine xg_t (xg_getf (va := (0, f76_260)) (hb259.get (by decide) h76_276) rfl) ?_
        refine xg_iastK (n := 9) (u := f76_260) hr258 xnm0 xnm0 rfl (by omega) (fun w277 hr278 hb279 => ?_)
        refine xg_t (xg_aload (va := (2, 0)) rfl rfl) ?_
        refine xg_t (xg_getf (va := (2, 80)) (hb279.get (by decide) (hb259.get (by decide) (hF254.get (by decide) (hb250.get (by decide) (hF240.get (by decide) (hb231.get (by decide) (hF226.get (by decide) (hb222.get (by decide) (hb212.get (by decide) (hb209.get (by decide) (hF204.get (by decide) (hb123.get (by decide) (hb117.get (by decide) (hF111.get (by decide) (hb107.get (by decide) (hF98.get (by decide) (hF70.get (by decide) (hF61.get (by decide) (hF51.get (by decide) (hF30.get (by decide) (hF21.get (by decide) (hF12.get (by decide) h0_1)))))))))))))))))))))) rfl) ?_
        refine xg_t (xg_bip) ?_
        refine xg_t (xg_aload (va := (2, 0)) rfl rfl) ?_
        refine xg_t (xg_getf (va := (2, 1)) (hb279.get (by decide) (hb259.get (by decide) (hF254.get (by decide) (hb250.get (by decide) (hF240.get (by decide) (hb231.get (by decide) (hF226.get (by decide) (hb222.get (by decide) (hb212.get (by decide) (hb209.get (by decide) (hF204.get (by decide) (hb123.get (by decide) (hb117.get (by decide) (hF111.get (by decide) (hb107.get (by decide) (hF98.get (by decide) (hF70.get (by decide) (hF61.get (by decide) (hF51.get (by decide) (hF30.get (by decide) (hF21.get (by decide) (hF12.get (by decide) h0_1)))))))))))))))))))))) rfl) ?_
        refine xg_t (xg_getf (va := (0, f1_77)) (hb279.get (by decide) (hb259.get (by decide) (hF254.get (by decide) (hb250.get (by decide) (hF240.get (by decide) (hb231.get (by decide) (hF226.get (by decide) (hb222.get (by decide) (hb212.get (by decide) (hb209.get (by decide) (hF204.get (by decide) (hb123.get (by decide) (hb117.get (by decide) (hF111.get (by decide) (hb107.get (by decide) (hF98.get (by decide) h1_83)))))))))))))))) rfl) ?_
        refine xg_iastK (n := 10) (u := f1_77) hr278 xnm0 xnm0 rfl (by omega) (fun w280 hr281 hb282 => ?_)
        exact xg_e ⟨w280, ⟨rfl, rfl⟩, xInv.up (S := [80]) hI253 (((xFr.of (S := [80]) hb259 (by decide)).tr (xFr.of (S := [80]) hb279 (by decide))).tr (xFr.of (S := [80]) hb282 (by decide))) (List.forall_mem_cons.mpr ⟨(show cpI 11 48 4294967295 (wget w280 80) from ⟨_, hr281, xrb (by omega) (xrb (by omega) (xrb (by omega) (xrb (by omega) (xrb (by omega) (xrb (by omega) (xrb (by omega) (xrb (by omega) (xrb (by omega) (xrb (by omega) (xrb (by omega) (hb104)))))))))))⟩), fun _ h => absurd h List.not_mem_nil⟩), ((((((((((((((((((hF12.up (by decide)).tr (hF21.up (by decide))).tr (hF30.up (by decide))).tr (hF51.up (by decide))).tr (hF61.up (by decide))).tr (hF70.up (by decide))).tr (hF98.up (by decide))).tr (xFr.of (S := [50, 51, 52, 53, 54, 55, 58, 59, 60, 61, 62, 63, 64, 65, 66, 67, 68, 69, 70, 71, 72, 73, 76, 77, 80]) hb107 (by decide))).tr (hF111.up (by decide))).tr ((xFr.of (S := [50, 51, 52, 53, 54, 55, 58, 59, 60, 61, 62, 63, 64, 65, 66, 67, 68, 69, 70, 71, 72, 73, 76, 77, 80]) hb117 (by decide)).tr (xFr.of (S := [50, 51, 52, 53, 54, 55, 58, 59, 60, 61, 62, 63, 64, 65, 66, 67, 68, 69, 70, 71, 72, 73, 76, 77, 80]) hb123 (by decide)))).tr (hF204.up (by decide))).tr (((xFr.of (S := [50, 51, 52, 53, 54, 55, 58, 59, 60, 61, 62, 63, 64, 65, 66, 67, 68, 69, 70, 71, 72, 73, 76, 77, 80]) hb209 (by decide)).tr (xFr.of (S := [50, 51, 52, 53, 54, 55, 58, 59, 60, 61, 62, 63, 64, 65, 66, 67, 68, 69, 70, 71, 72, 73, 76, 77, 80]) hb212 (by decide))).tr (xFr.of (S := [50, 51, 52, 53, 54, 55, 58, 59, 60, 61, 62, 63, 64, 65, 66, 67, 68, 69, 70, 71, 72, 73, 76, 77, 80]) hb222 (by decide)))).tr (hF226.up (by decide))).tr (xFr.of (S := [50, 51, 52, 53, 54, 55, 58, 59, 60, 61, 62, 63, 64, 65, 66, 67, 68, 69, 70, 71, 72, 73, 76, 77, 80]) hb231 (by decide))).tr (hF240.up (by decide))).tr (xFr.of (S := [50, 51, 52, 53, 54, 55, 58, 59, 60, 61, 62, 63, 64, 65, 66, 67, 68, 69, 70, 71, 72, 73, 76, 77, 80]) hb250 (by decide))).tr (hF254.up (by decide))).tr (((xFr.of (S := [50, 51, 52, 53, 54, 55, 58, 59, 60, 61, 62, 63, 64, 65, 66, 67, 68, 69, 70, 71, 72, 73, 76, 77, 80]) hb259 (by decide)).tr (xFr.of (S := [50, 51, 52, 53, 54, 55, 58, 59, 60, 61, 62, 63, 64, 65, 66, 67, 68, 69, 70, 71, 72, 73, 76, 77, 80]) hb279 (by decide))).tr (xFr.of (S := [50, 51, 52, 53, 54, 55, 58, 59, 60, 61, 62, 63, 64, 65, 66, 67, 68, 69, 70, 71, 72, 73, 76, 77, 80]) hb282 (by decide)))), (((((((((((((((((((hx52.2.kp (hF61.1 20 (by decide)) (hF61.1 21 (by decide)) (hF61.1 76 (by decide)) (hF61.1 77 (by decide))).kp (hF70.1 20 (by decide)) (hF70.1 21 (by decide)) (hF70.1 76 (by decide)) (hF70.1 77 (by decide))).kp (hF98.1 20 (by decide)) (hF98.1 21 (by decide)) (hF98.1 76 (by decide)) (hF98.1 77 (by decide))).kp (hb107.1 20 (by decide)) (hb107.1 21 (by decide)) (hb107.1 76 (by decide)) (hb107.1 77 (by decide))).kp (hF111.1 20 (by decide)) (hF111.1 21 (by decide)) (hF111.1 76 (by decide)) (hF111.1 77 (by decide))).kp (hb117.1 20 (by decide)) (hb117.1 21 (by decide)) (hb117.1 76 (by decide)) (hb117.1 77 (by decide))).kp (hb123.1 20 (by decide)) (hb123.1 21 (by decide)) (hb123.1 76 (by decide)) (hb123.1 77 (by decide))).kp (hF204.1 20 (by decide)) (hF204.1 21 (by decide)) (hF204.1 76 (by decide)) (hF204.1 77 (by decide))).kp (hb209.1 20 (by decide)) (hb209.1 21 (by decide)) (hb209.1 76 (by decide)) (hb209.1 77 (by decide))).kp (hb212.1 20 (by decide)) (hb212.1 21 (by decide)) (hb212.1 76 (by decide)) (hb212.1 77 (by decide))).kp (hb222.1 20 (by decide)) (hb222.1 21 (by decide)) (hb222.1 76 (by decide)) (hb222.1 77 (by decide))).kp (hF226.1 20 (by decide)) (hF226.1 21 (by decide)) (hF226.1 76 (by decide)) (hF226.1 77 (by decide))).kp (hb231.1 20 (by decide)) (hb231.1 21 (by decide)) (hb231.1 76 (by decide)) (hb231.1 77 (by decide))).kp (hF240.1 20 (by decide)) (hF240.1 21 (by decide)) (hF240.1 76 (by decide)) (hF240.1 77 (by decide))).kp (hb250.1 20 (by decide)) (hb250.1 21 (by decide)) (hb250.1 76 (by decide)) (hb250.1 77 (by decide))).kp (hF254.1 20 (by decide)) (hF254.1 21 (by decide)) (hF254.1 76 (by decide)) (hF254.1 77 (by decide))).kp (hb259.1 20 (by decide)) (hb259.1 21 (by decide)) (hb259.1 76 (by decide)) (hb259.1 77 (by decide))).kp (hb279.1 20 (by decide)) (hb279.1 21 (by decide)) (hb279.1 76 (by decide)) (hb279.1 77 (by decide))).kp (hb282.1 20 (by decide)) (hb282.1 21 (by decide)) (hb282.1 76 (by decide)) (hb282.1 77 (by decide)))⟩
    · refine xg_t (xg_ifT (u := n112) rfl xnm0 (xj_neT hc114)) ?_
      refine xg_t (xg_blk (b := [(87, 1, 3, 0, 0, 0)]) rfl) ?_
      refine xg_t (xg_const) ?_
      refine xg_t (xg_blk (b := [(88, 1, 17, 0, 0, 0), (89, 1, 0, 0, 0, 0), (90, 3, 1, 11, 9, 83), (93, 1, 3, 2, 0, 0), (94, 1, 0, 1, 0, 0), (95, 3, 1, 1, 0, 112), (98, 3, 1, 5, 3, 151), (101, 1, 17, 0, 0, 0), (102, 1, 0, 0, 0, 0), (103, 3, 1, 11, 9, 83), (106, 1, 3, 3, 0, 0), (107, 1, 0, 1, 0, 0), (108, 3, 1, 1, 0, 112), (111, 3, 1, 5, 3, 151), (114, 3, 7, 121, 1, 0), (117, 1, 3, 0, 0, 0), (118, 3, 8, 128, 0, 0)]) rfl) ?_
      refine xg_iastK (n := 1) (u := 0) (hr106.fr hF111 (by decide)) xnm0 xnm0 rfl (by omega) (fun w283 hr284 hb285 => ?_)
      refine xg_t (xg_aload (va := (2, 0)) rfl rfl) ?_
      refine xg_t (xg_getf (va := (2, 80)) (hb285.get (by decide) (hF111.get (by decide) (hb107.get (by decide) (hF98.get (by decide) (hF70.get (by decide) (hF61.get (by decide) (hF51.get (by decide) (hF30.get (by decide) (hF21.get (by decide) (hF12.get (by decide) h0_1)))))))))) rfl) ?_
      refine xg_t (xg_const) ?_
      refine xg_t (xg_aload (va := (2, 3)) rfl rfl) ?_
      refine xg_t (xg_getf (va := (2, 4)) (hb285.get (by decide) (hF111.get (by decide) (hb107.get (by decide) (hF98.get (by decide) h3_94)))) rfl) ?_
      obtain ⟨f4_286, h4_288, hb287⟩ := (hI110 4 (by decide) : cp4 (wget w108 4))
      refine xg_t (xg_getf (va := (0, f4_286)) (hb285.get (by decide) h4_288) rfl) ?_
      refine xg_iastK (n := 2) (u := f4_286) hr284 xnm0 xnm0 rfl (by omega) (fun w289 hr290 hb291 => ?_)
      refine xg_t (xg_aload (va := (2, 0)) rfl rfl) ?_
      refine xg_t (xg_getf (va := (2, 80)) (hb291.get (by decide) (hb285.get (by decide) (hF111.get (by decide) (hb107.get (by decide) (hF98.get (by decide) (hF70.get (by decide) (hF61.get (by decide) (hF51.get (by decide) (hF30.get (by decide) (hF21.get (by decide) (hF12.get (by decide) h0_1))))))))))) rfl) ?_
      refine xg_t (xg_const) ?_
      refine xg_t (xg_aload (va := (2, 3)) rfl rfl) ?_
      refine xg_t (xg_getf (va := (2, 4)) (hb291.get (by decide) (hb285.get (by decide) (hF111.get (by decide) (hb107.get (by decide) (hF98.get (by decide) h3_94))))) rfl) ?_
      refine xg_t (xg_getf (va := (0, f4_286)) (hb291.get (by decide) (hb285.get (by decide) h4_288)) rfl) ?_
      by_cases hc292 : f4_286 = 0
      · refine xg_t (xg_ifF (u := f4_286) rfl xnm0 (xj_neF hc292)) ?_
        refine xg_t (xg_const) ?_
        refine xg_t (xg_goto) ?_
        refine xg_t (xg_blk (b := [(128, 1, 17, 0, 0, 0), (129, 1, 0, 0, 0, 0), (130, 3, 1, 11, 9, 83), (133, 1, 3, 4, 0, 0), (134, 1, 0, 1, 0, 0), (135, 3, 1, 1, 7, 225), (138, 1, 17, 0, 0, 0), (139, 1, 0, 0, 0, 0), (140, 3, 1, 11, 9, 83), (143, 1, 3, 5, 0, 0), (144, 1, 0, 0, 0, 0), (145, 3, 1, 11, 5, 52), (148, 3, 1, 10, 11, 222), (151, 1, 17, 0, 0, 0), (152, 1, 0, 0, 0, 0), (153, 3, 1, 11, 9, 83), (156, 2, 4, 6, 0, 0), (158, 1, 0, 0, 0, 0), (159, 3, 13, 45, 88, 291), (162, 1, 17, 0, 0, 0), (163, 1, 0, 0, 0, 0), (164, 3, 1, 11, 9, 83), (167, 2, 4, 7, 0, 0), (169, 3, 5, 9999, 0, 0), (172, 1, 0, 0, 0, 0), (173, 3, 1, 11, 7, 66), (176, 1, 3, 0, 0, 0), (177, 1, 3, 0, 0, 0), (178, 1, 0, 1, 0, 0), (179, 3, 1, 1, 5, 297), (182, 1, 0, 1, 0, 0), (183, 3, 1, 1, 6, 300), (186, 3, 13, 310, 56, 306), (189, 3, 63, 0, 0, 403), (192, 1, 17, 0, 0, 0), (193, 1, 0, 0, 0, 0), (194, 3, 1, 11, 9, 83), (197, 2, 4, 8, 0, 0), (199, 1, 0, 0, 0, 0), (200, 3, 1, 11, 0, 10), (203, 3, 13, 323, 72, 216), (206, 1, 17, 0, 0, 0), (207, 1, 0, 0, 0, 0), (208, 3, 1, 11, 9, 83), (211, 2, 4, 9, 0, 0), (213, 1, 0, 0, 0, 0), (214, 3, 1, 11, 8, 79), (217, 3, 1, 4, 4, 328), (220, 1, 17, 0, 0, 0), (221, 1, 0, 0, 0, 0), (222, 3, 1, 11, 9, 83), (225, 2, 4, 10, 0, 0), (227, 1, 0, 0, 0, 0), (228, 3, 1, 11, 0, 10), (231, 3, 1, 9, 6, 186), (234, 1, 17, 0, 0, 0), (235, 1, 12, 0, 0, 0)]) rfl) ?_
        refine xg_iastK (n := 3) (u := 0) hr290 xnm0 xnm0 rfl (by omega) (fun w293 hr294 hb295 => ?_)
        refine xg_t (xg_aload (va := (2, 0)) rfl rfl) ?_
        refine xg_t (xg_getf (va := (2, 80)) (hb295.get (by decide) (hb291.get (by decide) (hb285.get (by decide) (hF111.get (by decide) (hb107.get (by decide) (hF98.get (by decide) (hF70.get (by decide) (hF61.get (by decide) (hF51.get (by decide) (hF30.get (by decide) (hF21.get (by decide) (hF12.get (by decide) h0_1)))))))))))) rfl) ?_
        refine xg_t (xg_const) ?_
        refine xg_t (xg_aload (va := (2, 3)) rfl rfl) ?_
        refine xg_t (xg_getf (va := (0, f3_88)) (hb295.get (by decide) (hb291.get (by decide) (hb285.get (by decide) (hF111.get (by decide) (hb107.get (by decide) (hF98.get (by decide) h3_94)))))) rfl) ?_
        refine xg_iastK (n := 4) (u := f3_88) hr294 xnm0 xnm0 rfl (by omega) (fun w296 hr297 hb298 => ?_)
        refine xg_t (xg_aload (va := (2, 0)) rfl rfl) ?_
        refine xg_t (xg_getf (va := (2, 80)) (hb298.get (by decide) (hb295.get (by decide) (hb291.get (by decide) (hb285.get (by decide) (hF111.get (by decide) (hb107.get (by decide) (hF98.get (by decide) (hF70.get (by decide) (hF61.get (by decide) (hF51.get (by decide) (hF30.get (by decide) (hF21.get (by decide) (hF12.get (by decide) h0_1))))))))))))) rfl) ?_
        refine xg_t (xg_const) ?_
        refine xg_t (xg_aload (va := (2, 0)) rfl rfl) ?_
        refine xg_t (xg_getf (va := (2, 58)) (hb298.get (by decide) (hb295.get (by decide) (hb291.get (by decide) (hb285.get (by decide) (hF111.get (by decide) (hb107.get (by decide) (hF98.get (by decide) (hF70.get (by decide) (hF61.get (by decide) (hF51.get (by decide) (hF30.get (by decide) (hF21.get (by decide) (hF12.get (by decide) h0_1))))))))))))) rfl) ?_
        obtain ⟨f58_299, f58_301, f58_303, h58_305, hb300, hb302, hb304⟩ := (hI110 58 (by decide) : cp58 (wget w108 58))
        refine xg_t (xg_getf (va := (0, f58_301)) (hb298.get (by decide) (hb295.get (by decide) (hb291.get (by decide) (hb285.get (by decide) h58_305)))) rfl) ?_
        refine xg_iastK (n := 5) (u := f58_301) hr297 xnm0 xnm0 rfl (by omega) (fun w306 hr307 hb308 => ?_)
        refine xg_t (xg_aload (va := (2, 0)) rfl rfl) ?_
        refine xg_t (xg_getf (va := (2, 80)) (hb308.get (by decide) (hb298.get (by decide) (hb295.get (by decide) (hb291.get (by decide) (hb285.get (by decide) (hF111.get (by decide) (hb107.get (by decide) (hF98.get (by decide) (hF70.get (by decide) (hF61.get (by decide) (hF51.get (by decide) (hF30.get (by decide) (hF21.get (by decide) (hF12.get (by decide) h0_1)))))))))))))) rfl) ?_
        refine xg_t (xg_bip) ?_
        refine xg_t (xg_aload (va := (2, 0)) rfl rfl) ?_
        refine xg_cVi mX11_countDark (vs := []) (rest := [(0, 6), (2, 80)]) (cn1 := 0) (sl1 := 0) rfl (scCountDark (xInv.up (S := [80]) hI110 (((((xFr.of (S := [80]) hb285 (by decide)).tr (xFr.of (S := [80]) hb291 (by decide))).tr (xFr.of (S := [80]) hb295 (by decide))).tr (xFr.of (S := [80]) hb298 (by decide))).tr (xFr.of (S := [80]) hb308 (by decide))) (List.forall_mem_cons.mpr ⟨(show cpI 11 48 4294967295 (wget w306 80) from ⟨_, hr307, xrb (by omega) (xrb (by omega) (xrb (by omega) (xrb (by omega) (xrb (by omega) (xrb (by omega) (hb104))))))⟩), fun _ h => absurd h List.not_mem_nil⟩))) rfl (hb308.get (by decide) (hb298.get (by decide) (hb295.get (by decide) (hb291.get (by decide) (hb285.get (by decide) (hF111.get (by decide) (hb107.get (by decide) (hF98.get (by decide) (hF70.get (by decide) (hF61.get (by decide) (hF51.get (by decide) (hF30.get (by decide) (hF21.get (by decide) (hF12.get (by decide) h0_1)))))))))))))) rfl rfl rfl rfl rfl rfl (fun n313 w309 hq310 => ?_)
        obtain ⟨hn314, hI311, hF312⟩ := hq310
        refine xg_iastK (n := 6) (u := n313) (hr307.fr hF312 (by decide)) xnm0 xnm0 rfl (by omega) (fun w315 hr316 hb317 => ?_)
        refine xg_t (xg_aload (va := (2, 0)) rfl rfl) ?_
        refine xg_t (xg_getf (va := (2, 80)) (hb317.get (by decide) (hF312.get (by decide) (hb308.get (by decide) (hb298.get (by decide) (hb295.get (by decide) (hb291.get (by decide) (hb285.get (by decide) (hF111.get (by decide) (hb107.get (by decide) (hF98.get (by decide) (hF70.get (by decide) (hF61.get (by decide) (hF51.get (by decide) (hF30.get (by decide) (hF21.get (by decide) (hF12.get (by decide) h0_1)))))))))))))))) rfl) ?_
        refine xg_t (xg_bip) ?_
        refine xg_t (xg_sip) ?_
        refine xg_t (xg_aload (va := (2, 0)) rfl rfl) ?_
        refine xg_t (xg_getf (va := (2, 72)) (hb317.get (by decide) (hF312.get (by decide) (hb308.get (by decide) (hb298.get (by decide) (hb295.get (by decide) (hb291.get (by decide) (hb285.get (by decide) (hF111.get (by decide) (hb107.get (by decide) (hF98.get (by decide) (hF70.get (by decide) (hF61.get (by decide) (hF51.get (by decide) (hF30.get (by decide) (hF21.get (by decide) (hF12.get (by decide) h0_1)))))))))))))))) rfl) ?_
        refine xg_t (xg_const) ?_
        refine xg_t (xg_const) ?_
        refine xg_t (xg_aload (va := (2, 3)) rfl rfl) ?_
        refine xg_t (xg_getf (va := (0, f3_84)) (hb317.get (by decide) (hF312.get (by decide) (hb308.get (by decide) (hb298.get (by decide) (hb295.get (by decide) (hb291.get (by decide) (hb285.get (by decide) (hF111.get (by decide) (hb107.get (by decide) (hF98.get (by decide) h3_94)))))))))) rfl) ?_
        refine xg_t (xg_aload (va := (2, 3)) rfl rfl) ?_
        refine xg_t (xg_getf (va := (0, f3_86)) (hb317.get (by decide) (hF312.get (by decide) (hb308.get (by decide) (hb298.get (by decide) (hb295.get (by decide) (hb291.get (by decide) (hb285.get (by decide) (hF111.get (by decide) (hb107.get (by decide) (hF98.get (by decide) h3_94)))))))))) rfl) ?_
        obtain ⟨f72_318, f72_320, h72_322, hb319, hb321⟩ := (hI311 72 (by decide) : cp72 (wget w309 72))
        refine xg_cVi mX7_worthOf (vs := [(0, 0), (0, 0), (0, f3_84), (0, f3_86)]) (rest := [(0, 9999), (0, 7), (2, 80)]) (cn1 := 0) (sl1 := 0) rfl (shWorthOf (xInv.up (S := [80]) hI311 (xFr.of (S := [80]) hb317 (by decide)) (List.forall_mem_cons.mpr ⟨(show cpI 11 48 4294967295 (wget w315 80) from ⟨_, hr316, xrb (by omega) (xrb (by omega) (xrb (by omega) (xrb (by omega) (xrb (by omega) (xrb (by omega) (xrb (by omega) (hb104)))))))⟩), fun _ h => absurd h List.not_mem_nil⟩)) (by omega) (by omega) (by omega) (by omega)) rfl (hb317.get (by decide) h72_322) rfl rfl rfl rfl rfl rfl (fun n327 w323 hq324 => ?_)
        obtain ⟨hn328, hI325, hF326⟩ := hq324
        refine xg_minK (u := 9999) (v := n327) xnm0 xnm0 xmx_ok (by omega) (by omega) (fun z329 hz330 hz331 hz332 hz333 => ?_)
        unfold xbs at hz331 hz332
        refine xg_iastK (n := 7) (u := z329) (hr316.fr hF326 (by decide)) xnm0 xnm0 rfl (by omega) (fun w334 hr335 hb336 => ?_)
        refine xg_t (xg_aload (va := (2, 0)) rfl rfl) ?_
        refine xg_t (xg_getf (va := (2, 80)) (hb336.get (by decide) (hF326.get (by decide) (hb317.get (by decide) (hF312.get (by decide) (hb308.get (by decide) (hb298.get (by decide) (hb295.get (by decide) (hb291.get (by decide) (hb285.get (by decide) (hF111.get (by decide) (hb107.get (by decide) (hF98.get (by decide) (hF70.get (by decide) (hF61.get (by decide) (hF51.get (by decide) (hF30.get (by decide) (hF21.get (by decide) (hF12.get (by decide) h0_1)))))))))))))))))) rfl) ?_
        refine xg_t (xg_bip) ?_
        refine xg_t (xg_aload (va := (2, 0)) rfl rfl) ?_
        refine xg_t (xg_getf (va := (2, 1)) (hb336.get (by decide) (hF326.get (by decide) (hb317.get (by decide) (hF312.get (by decide) (hb308.get (by decide) (hb298.get (by decide) (hb295.get (by decide) (hb291.get (by decide) (hb285.get (by decide) (hF111.get (by decide) (hb107.get (by decide) (hF98.get (by decide) (hF70.get (by decide) (hF61.get (by decide) (hF51.get (by decide) (hF30.get (by decide) (hF21.get (by decide) (hF12.get (by decide) h0_1)))))))))))))))))) rfl) ?_
        refine xg_cVi mX9_cracksInView (vs := []) (rest := [(0, 8), (2, 80)]) (cn1 := 0) (sl1 := 0) rfl (tdCracksInView (xInv.up (S := [80]) hI325 (xFr.of (S := [80]) hb336 (by decide)) (List.forall_mem_cons.mpr ⟨(show cpI 11 48 4294967295 (wget w334 80) from ⟨_, hr335, xrb (by omega) (xrb (by omega) (xrb (by omega) (xrb (by omega) (xrb (by omega) (xrb (by omega) (xrb (by omega) (xrb (by omega) (hb104))))))))⟩), fun _ h => absurd h List.not_mem_nil⟩))) rfl (hb336.get (by decide) (hF326.get (by decide) (hb317.get (by decide) (hF312.get (by decide) (hb308.get (by decide) (hb298.get (by decide) (hb295.get (by decide) (hb291.get (by decide) (hb285.get (by decide) (hF111.get (by decide) (hb107.get (by decide) (hF98.get (by decide) h1_83)))))))))))) rfl rfl rfl rfl rfl rfl (fun n341 w337 hq338 => ?_)
        obtain ⟨hn342, hI339, hF340⟩ := hq338
        refine xg_iastK (n := 8) (u := n341) (hr335.fr hF340 (by decide)) xnm0 xnm0 rfl (by omega) (fun w343 hr344 hb345 => ?_)
        refine xg_t (xg_aload (va := (2, 0)) rfl rfl) ?_
        refine xg_t (xg_getf (va := (2, 80)) (hb345.get (by decide) (hF340.get (by decide) (hb336.get (by decide) (hF326.get (by decide) (hb317.get (by decide) (hF312.get (by decide) (hb308.get (by decide) (hb298.get (by decide) (hb295.get (by decide) (hb291.get (by decide) (hb285.get (by decide) (hF111.get (by decide) (hb107.get (by decide) (hF98.get (by decide) (hF70.get (by decide) (hF61.get (by decide) (hF51.get (by decide) (hF30.get (by decide) (hF21.get (by decide) (hF12.get (by decide) h0_1)))))))))))))))))))) rfl) ?_
        refine xg_t (xg_bip) ?_
        refine xg_t (xg_aload (va := (2, 0)) rfl rfl) ?_
        refine xg_t (xg_getf (va := (2, 76)) (hb345.get (by decide) (hF340.get (by decide) (hb336.get (by decide) (hF326.get (by decide) (hb317.get (by decide) (hF312.get (by decide) (hb308.get (by decide) (hb298.get (by decide) (hb295.get (by decide) (hb291.get (by decide) (hb285.get (by decide) (hF111.get (by decide) (hb107.get (by decide) (hF98.get (by decide) (hF70.get (by decide) (hF61.get (by decide) (hF51.get (by decide) (hF30.get (by decide) (hF21.get (by decide) (hF12.get (by decide) h0_1)))))))))))))))))))) rfl) ?_
        obtain ⟨f76_346, f76_348, f76_350, f76_352, f76_354, f76_356, f76_358, f76_360, h76_362, hb347, hb349, hb351, hb353, hb355, hb357, hb359, hb361⟩ := (hI339 76 (by decide) : cp76 (wget w337 76))
        refine xg_t (xg_getf (va := (0, f76_346)) (hb345.get (by decide) h76_362) rfl) ?_
        refine xg_iastK (n := 9) (u := f76_346) hr344 xnm0 xnm0 rfl (by omega) (fun w363 hr364 hb365 => ?_)
        refine xg_t (xg_aload (va := (2, 0)) rfl rfl) ?_
        refine xg_t (xg_getf (va := (2, 80)) (hb365.get (by decide) (hb345.get (by decide) (hF340.get (by decide) (hb336.get (by decide) (hF326.get (by decide) (hb317.get (by decide) (hF312.get (by decide) (hb308.get (by decide) (hb298.get (by decide) (hb295.get (by decide) (hb291.get (by decide) (hb285.get (by decide) (hF111.get (by decide) (hb107.get (by decide) (hF98.get (by decide) (hF70.get (by decide) (hF61.get (by decide) (hF51.get (by decide) (hF30.get (by decide) (hF21.get (by decide) (hF12.get (by decide) h0_1))))))))))))))))))))) rfl) ?_
        refine xg_t (xg_bip) ?_
        refine xg_t (xg_aload (va := (2, 0)) rfl rfl) ?_
        refine xg_t (xg_getf (va := (2, 1)) (hb365.get (by decide) (hb345.get (by decide) (hF340.get (by decide) (hb336.get (by decide) (hF326.get (by decide) (hb317.get (by decide) (hF312.get (by decide) (hb308.get (by decide) (hb298.get (by decide) (hb295.get (by decide) (hb291.get (by decide) (hb285.get (by decide) (hF111.get (by decide) (hb107.get (by decide) (hF98.get (by decide) (hF70.get (by decide) (hF61.get (by decide) (hF51.get (by decide) (hF30.get (by decide) (hF21.get (by decide) (hF12.get (by decide) h0_1))))))))))))))))))))) rfl) ?_
        refine xg_t (xg_getf (va := (0, f1_77)) (hb365.get (by decide) (hb345.get (by decide) (hF340.get (by decide) (hb336.get (by decide) (hF326.get (by decide) (hb317.get (by decide) (hF312.get (by decide) (hb308.get (by decide) (hb298.get (by decide) (hb295.get (by decide) (hb291.get (by decide) (hb285.get (by decide) (hF111.get (by decide) (hb107.get (by decide) (hF98.get (by decide) h1_83))))))))))))))) rfl) ?_
        refine xg_iastK (n := 10) (u := f1_77) hr364 xnm0 xnm0 rfl (by omega) (fun w366 hr367 hb368 => ?_)
        exact xg_e ⟨w366, ⟨rfl, rfl⟩, xInv.up (S := [80]) hI339 (((xFr.of (S := [80]) hb345 (by decide)).tr (xFr.of (S := [80]) hb365 (by decide))).tr (xFr.of (S := [80]) hb368 (by decide))) (List.forall_mem_cons.mpr ⟨(show cpI 11 48 4294967295 (wget w366 80) from ⟨_, hr367, xrb (by omega) (xrb (by omega) (xrb (by omega) (xrb (by omega) (xrb (by omega) (xrb (by omega) (xrb (by omega) (xrb (by omega) (xrb (by omega) (xrb (by omega) (xrb (by omega) (hb104)))))))))))⟩), fun _ h => absurd h List.not_mem_nil⟩), ((((((((((((((((hF12.up (by decide)).tr (hF21.up (by decide))).tr (hF30.up (by decide))).tr (hF51.up (by decide))).tr (hF61.up (by decide))).tr (hF70.up (by decide))).tr (hF98.up (by decide))).tr (xFr.of (S := [50, 51, 52, 53, 54, 55, 58, 59, 60, 61, 62, 63, 64, 65, 66, 67, 68, 69, 70, 71, 72, 73, 76, 77, 80]) hb107 (by decide))).tr (hF111.up (by decide))).tr (((((xFr.of (S := [50, 51, 52, 53, 54, 55, 58, 59, 60, 61, 62, 63, 64, 65, 66, 67, 68, 69, 70, 71, 72, 73, 76, 77, 80]) hb285 (by decide)).tr (xFr.of (S := [50, 51, 52, 53, 54, 55, 58, 59, 60, 61, 62, 63, 64, 65, 66, 67, 68, 69, 70, 71, 72, 73, 76, 77, 80]) hb291 (by decide))).tr (xFr.of (S := [50, 51, 52, 53, 54, 55, 58, 59, 60, 61, 62, 63, 64, 65, 66, 67, 68, 69, 70, 71, 72, 73, 76, 77, 80]) hb295 (by decide))).tr (xFr.of (S := [50, 51, 52, 53, 54, 55, 58, 59, 60, 61, 62, 63, 64, 65, 66, 67, 68, 69, 70, 71, 72, 73, 76, 77, 80]) hb298 (by decide))).tr (xFr.of (S := [50, 51, 52, 53, 54, 55, 58, 59, 60, 61, 62, 63, 64, 65, 66, 67, 68, 69, 70, 71, 72, 73, 76, 77, 80]) hb308 (by decide)))).tr (hF312.up (by decide))).tr (xFr.of (S := [50, 51, 52, 53, 54, 55, 58, 59, 60, 61, 62, 63, 64, 65, 66, 67, 68, 69, 70, 71, 72, 73, 76, 77, 80]) hb317 (by decide))).tr (hF326.up (by decide))).tr (xFr.of (S := [50, 51, 52, 53, 54, 55, 58, 59, 60, 61, 62, 63, 64, 65, 66, 67, 68, 69, 70, 71, 72, 73, 76, 77, 80]) hb336 (by decide))).tr (hF340.up (by decide))).tr (((xFr.of (S := [50, 51, 52, 53, 54, 55, 58, 59, 60, 61, 62, 63, 64, 65, 66, 67, 68, 69, 70, 71, 72, 73, 76, 77, 80]) hb345 (by decide)).tr (xFr.of (S := [50, 51, 52, 53, 54, 55, 58, 59, 60, 61, 62, 63, 64, 65, 66, 67, 68, 69, 70, 71, 72, 73, 76, 77, 80]) hb365 (by decide))).tr (xFr.of (S := [50, 51, 52, 53, 54, 55, 58, 59, 60, 61, 62, 63, 64, 65, 66, 67, 68, 69, 70, 71, 72, 73, 76, 77, 80]) hb368 (by decide)))), ((((((((((((((((((hx52.2.kp (hF61.1 20 (by decide)) (hF61.1 21 (by decide)) (hF61.1 76 (by decide)) (hF61.1 77 (by decide))).kp (hF70.1 20 (by decide)) (hF70.1 21 (by decide)) (hF70.1 76 (by decide)) (hF70.1 77 (by decide))).kp (hF98.1 20 (by decide)) (hF98.1 21 (by decide)) (hF98.1 76 (by decide)) (hF98.1 77 (by decide))).kp (hb107.1 20 (by decide)) (hb107.1 21 (by decide)) (hb107.1 76 (by decide)) (hb107.1 77 (by decide))).kp (hF111.1 20 (by decide)) (hF111.1 21 (by decide)) (hF111.1 76 (by decide)) (hF111.1 77 (by decide))).kp (hb285.1 20 (by decide)) (hb285.1 21 (by decide)) (hb285.1 76 (by decide)) (hb285.1 77 (by decide))).kp (hb291.1 20 (by decide)) (hb291.1 21 (by decide)) (hb291.1 76 (by decide)) (hb291.1 77 (by decide))).kp (hb295.1 20 (by decide)) (hb295.1 21 (by decide)) (hb295.1 76 (by decide)) (hb295.1 77 (by decide))).kp (hb298.1 20 (by decide)) (hb298.1 21 (by decide)) (hb298.1 76 (by decide)) (hb298.1 77 (by decide))).kp (hb308.1 20 (by decide)) (hb308.1 21 (by decide)) (hb308.1 76 (by decide)) (hb308.1 77 (by decide))).kp (hF312.1 20 (by decide)) (hF312.1 21 (by decide)) (hF312.1 76 (by decide)) (hF312.1 77 (by decide))).kp (hb317.1 20 (by decide)) (hb317.1 21 (by decide)) (hb317.1 76 (by decide)) (hb317.1 77 (by decide))).kp (hF326.1 20 (by decide)) (hF326.1 21 (by decide)) (hF326.1 76 (by decide)) (hF326.1 77 (by decide))).kp (hb336.1 20 (by decide)) (hb336.1 21 (by decide)) (hb336.1 76 (by decide)) (hb336.1 77 (by decide))).kp (hF340.1 20 (by decide)) (hF340.1 21 (by decide)) (hF340.1 76 (by decide)) (hF340.1 77 (by decide))).kp (hb345.1 20 (by decide)) (hb345.1 21 (by decide)) (hb345.1 76 (by decide)) (hb345.1 77 (by decide))).kp (hb365.1 20 (by decide)) (hb365.1 21 (by decide)) (hb365.1 76 (by decide)) (hb365.1 77 (by decide))).kp (hb368.1 20 (by decide)) (hb368.1 21 (by decide)) (hb368.1 76 (by decide)) (hb368.1 77 (by decide)))⟩
      · refine xg_t (xg_ifT (u := f4_286) rfl xnm0 (xj_neT hc292)) ?_
        refine xg_t (xg_blk (b := [(121, 1, 0, 0, 0, 0), (122, 3, 1, 11, 4, 45), (125, 3, 13, 13, 0, 154)]) rfl) ?_
        refine xg_t (xg_aload (va := (2, 0)) rfl rfl) ?_
        refine xg_t (xg_getf (va := (2, 49)) (hb291.get (by decide) (hb285.get (by decide) (hF111.get (by decide) (hb107.get (by decide) (hF98.get (by decide) (hF70.get (by decide) (hF61.get (by decide) (hF51.get (by decide) (hF30.get (by decide) (hF21.get (by decide) (hF12.get (by decide) h0_1))))))))))) rfl) ?_
        refine xg_cVi mX0_leastRound (vs := []) (rest := [(0, 3), (2, 80)]) (cn1 := 0) (sl1 := 0) rfl (bdLeast (xInv.up (S := [80]) hI110 ((xFr.of (S := [80]) hb285 (by decide)).tr (xFr.of (S := [80]) hb291 (by decide))) (List.forall_mem_cons.mpr ⟨(show cpI 11 48 4294967295 (wget w289 80) from ⟨_, hr290, xrb (by omega) (xrb (by omega) (xrb (by omega) (hb104)))⟩), fun _ h => absurd h List.not_mem_nil⟩))) rfl (hb291.get (by decide) (hb285.get (by decide) (hF111.get (by decide) (hb107.get (by decide) (hF98.get (by decide) (hF70.get (by decide) h49_66)))))) rfl rfl rfl rfl rfl rfl (fun n373 w369 hq370 => ?_)
        obtain ⟨hn374, hI371, hF372⟩ := hq370
        refine xg_t (xg_blk (b := [(128, 1, 17, 0, 0, 0), (129, 1, 0, 0, 0, 0), (130, 3, 1, 11, 9, 83), (133, 1, 3, 4, 0, 0), (134, 1, 0, 1, 0, 0), (135, 3, 1, 1, 7, 225), (138, 1, 17, 0, 0, 0), (139, 1, 0, 0, 0, 0), (140, 3, 1, 11, 9, 83), (143, 1, 3, 5, 0, 0), (144, 1, 0, 0, 0, 0), (145, 3, 1, 11, 5, 52), (148, 3, 1, 10, 11, 222), (151, 1, 17, 0, 0, 0), (152, 1, 0, 0, 0, 0), (153, 3, 1, 11, 9, 83), (156, 2, 4, 6, 0, 0), (158, 1, 0, 0, 0, 0), (159, 3, 13, 45, 88, 291), (162, 1, 17, 0, 0, 0), (163, 1, 0, 0, 0, 0), (164, 3, 1, 11, 9, 83), (167, 2, 4, 7, 0, 0), (169, 3, 5, 9999, 0, 0), (172, 1, 0, 0, 0, 0), (173, 3, 1, 11, 7, 66), (176, 1, 3, 0, 0, 0), (177, 1, 3, 0, 0, 0), (178, 1, 0, 1, 0, 0), (179, 3, 1, 1, 5, 297), (182, 1, 0, 1, 0, 0), (183, 3, 1, 1, 6, 300), (186, 3, 13, 310, 56, 306), (189, 3, 63, 0, 0, 403), (192, 1, 17, 0, 0, 0), (193, 1, 0, 0, 0, 0), (194, 3, 1, 11, 9, 83), (197, 2, 4, 8, 0, 0), (199, 1, 0, 0, 0, 0), (200, 3, 1, 11, 0, 10), (203, 3, 13, 323, 72, 216), (206, 1, 17, 0, 0, 0), (207, 1, 0, 0, 0, 0), (208, 3, 1, 11, 9, 83), (211, 2, 4, 9, 0, 0), (213, 1, 0, 0, 0, 0), (214, 3, 1, 11, 8, 79), (217, 3, 1, 4, 4, 328), (220, 1, 17, 0, 0, 0), (221, 1, 0, 0, 0, 0), (222, 3, 1, 11, 9, 83), (225, 2, 4, 10, 0, 0), (227, 1, 0, 0, 0, 0), (228, 3, 1, 11, 0, 10), (231, 3, 1, 9, 6, 186), (234, 1, 17, 0, 0, 0), (235, 1, 12, 0, 0, 0)]) rfl) ?_
        refine xg_iastK (n := 3) (u := n373) (hr290.fr hF372 (by decide)) xnm0 xnm0 rfl (by omega) (fun w375 hr376 hb377 => ?_)
        refine xg_t (xg_aload (va := (2, 0)) rfl rfl) ?_
        refine xg_t (xg_getf (va := (2, 80)) (hb377.get (by decide) (hF372.get (by decide) (hb291.get (by decide) (hb285.get (by decide) (hF111.get (by decide) (hb107.get (by decide) (hF98.get (by decide) (hF70.get (by decide) (hF61.get (by decide) (hF51.get (by decide) (hF30.get (by decide) (hF21.get (by decide) (hF12.get (by decide) h0_1))))))))))))) rfl) ?_
        refine xg_t (xg_const) ?_
        refine xg_t (xg_aload (va := (2, 3)) rfl rfl) ?_
        refine xg_t (xg_getf (va := (0, f3_88)) (hb377.get (by decide) (hF372.get (by decide) (hb291.get (by decide) (hb285.get (by decide) (hF111.get (by decide) (hb107.get (by decide) (hF98.get (by decide) h3_94))))))) rfl) ?_
        refine xg_iastK (n := 4) (u := f3_88) hr376 xnm0 xnm0 rfl (by omega) (fun w378 hr379 hb380 => ?_)
        refine xg_t (xg_aload (va := (2, 0)) rfl rfl) ?_
        refine xg_t (xg_getf (va := (2, 80)) (hb380.get (by decide) (hb377.get (by decide) (hF372.get (by decide) (hb291.get (by decide) (hb285.get (by decide) (hF111.get (by decide) (hb107.get (by decide) (hF98.get (by decide) (hF70.get (by decide) (hF61.get (by decide) (hF51.get (by decide) (hF30.get (by decide) (hF21.get (by decide) (hF12.get (by decide) h0_1)))))))))))))) rfl) ?_
        refine xg_t (xg_const) ?_
        refine xg_t (xg_aload (va := (2, 0)) rfl rfl) ?_
        refine xg_t (xg_getf (va := (2, 58)) (hb380.get (by decide) (hb377.get (by decide) (hF372.get (by decide) (hb291.get (by decide) (hb285.get (by decide) (hF111.get (by decide) (hb107.get (by decide) (hF98.get (by decide) (hF70.get (by decide) (hF61.get (by decide) (hF51.get (by decide) (hF30.get (by decide) (hF21.get (by decide) (hF12.get (by decide) h0_1)))))))))))))) rfl) ?_
        obtain ⟨f58_381, f58_383, f58_385, h58_387, hb382, hb384, hb386⟩ := (hI371 58 (by decide) : cp58 (wget w369 58))
        refine xg_t (xg_getf (va := (0, f58_383)) (hb380.get (by decide) (hb377.get (by decide) h58_387)) rfl) ?_
        refine xg_iastK (n := 5) (u := f58_383) hr379 xnm0 xnm0 rfl (by omega) (fun w388 hr389 hb390 => ?_)
        refine xg_t (xg_aload (va := (2, 0)) rfl rfl) ?_
        refine xg_t (xg_getf (va := (2, 80)) (hb390.get (by decide) (hb380.get (by decide) (hb377.get (by decide) (hF372.get (by decide) (hb291.get (by decide) (hb285.get (by decide) (hF111.get (by decide) (hb107.get (by decide) (hF98.get (by decide) (hF70.get (by decide) (hF61.get (by decide) (hF51.get (by decide) (hF30.get (by decide) (hF21.get (by decide) (hF12.get (by decide) h0_1))))))))))))))) rfl) ?_
        refine xg_t (xg_bip) ?_
        refine xg_t (xg_aload (va := (2, 0)) rfl rfl) ?_
        refine xg_cVi mX11_countDark (vs := []) (rest := [(0, 6), (2, 80)]) (cn1 := 0) (sl1 := 0) rfl (scCountDark (xInv.up (S := [80]) hI371 (((xFr.of (S := [80]) hb377 (by decide)).tr (xFr.of (S := [80]) hb380 (by decide))).tr (xFr.of (S := [80]) hb390 (by decide))) (List.forall_mem_cons.mpr ⟨(show cpI 11 48 4294967295 (wget w388 80) from ⟨_, hr389, xrb (by omega) (xrb (by omega) (xrb (by omega) (xrb (by omega) (xrb (by omega) (xrb (by omega) (hb104))))))⟩), fun _ h => absurd h List.not_mem_nil⟩))) rfl (hb390.get (by decide) (hb380.get (by decide) (hb377.get (by decide) (hF372.get (by decide) (hb291.get (by decide) (hb285.get (by decide) (hF111.get (by decide) (hb107.get (by decide) (hF98.get (by decide) (hF70.get (by decide) (hF61.get (by decide) (hF51.get (by decide) (hF30.get (by decide) (hF21.get (by decide) (hF12.get (by decide) h0_1))))))))))))))) rfl rfl rfl rfl rfl rfl (fun n395 w391 hq392 => ?_)
        obtain ⟨hn396, hI393, hF394⟩ := hq392
        refine xg_iastK (n := 6) (u := n395) (hr389.fr hF394 (by decide)) xnm0 xnm0 rfl (by omega) (fun w397 hr398 hb399 => ?_)
        refine xg_t (xg_aload (va := (2, 0)) rfl rfl) ?_
        refine xg_t (xg_getf (va := (2, 80)) (hb399.get (by decide) (hF394.get (by decide) (hb390.get (by decide) (hb380.get (by decide) (hb377.get (by decide) (hF372.get (by decide) (hb291.get (by decide) (hb285.get (by decide) (hF111.get (by decide) (hb107.get (by decide) (hF98.get (by decide) (hF70.get (by decide) (hF61.get (by decide) (hF51.get (by decide) (hF30.get (by decide) (hF21.get (by decide) (hF12.get (by decide) h0_1))))))))))))))))) rfl) ?_
        refine xg_t (xg_bip) ?_
        refine xg_t (xg_sip) ?_
        refine xg_t (xg_aload (va := (2, 0)) rfl rfl) ?_
        refine xg_t (xg_getf (va := (2, 72)) (hb399.get (by decide) (hF394.get (by decide) (hb390.get (by decide) (hb380.get (by decide) (hb377.get (by decide) (hF372.get (by decide) (hb291.get (by decide) (hb285.get (by decide) (hF111.get (by decide) (hb107.get (by decide) (hF98.get (by decide) (hF70.get (by decide) (hF61.get (by decide) (hF51.get (by decide) (hF30.get (by decide) (hF21.get (by decide) (hF12.get (by decide) h0_1))))))))))))))))) rfl) ?_
        refine xg_t (xg_const) ?_
        refine xg_t (xg_const) ?_
        refine xg_t (xg_aload (va := (2, 3)) rfl rfl) ?_
        refine xg_t (xg_getf (va := (0, f3_84)) (hb399.get (by decide) (hF394.get (by decide) (hb390.get (by decide) (hb380.get (by decide) (hb377.get (by decide) (hF372.get (by decide) (hb291.get (by decide) (hb285.get (by decide) (hF111.get (by decide) (hb107.get (by decide) (hF98.get (by decide) h3_94))))))))))) rfl) ?_
        refine xg_t (xg_aload (va := (2, 3)) rfl rfl) ?_
        refine xg_t (xg_getf (va := (0, f3_86)) (hb399.get (by decide) (hF394.get (by decide) (hb390.get (by decide) (hb380.get (by decide) (hb377.get (by decide) (hF372.get (by decide) (hb291.get (by decide) (hb285.get (by decide) (hF111.get (by decide) (hb107.get (by decide) (hF98.get (by decide) h3_94))))))))))) rfl) ?_
        obtain ⟨f72_400, f72_402, h72_404, hb401, hb403⟩ := (hI393 72 (by decide) : cp72 (wget w391 72))
        refine xg_cVi mX7_worthOf (vs := [(0, 0), (0, 0), (0, f3_84), (0, f3_86)]) (rest := [(0, 9999), (0, 7), (2, 80)]) (cn1 := 0) (sl1 := 0) rfl (shWorthOf (xInv.up (S := [80]) hI393 (xFr.of (S := [80]) hb399 (by decide)) (List.forall_mem_cons.mpr ⟨(show cpI 11 48 4294967295 (wget w397 80) from ⟨_, hr398, xrb (by omega) (xrb (by omega) (xrb (by omega) (xrb (by omega) (xrb (by omega) (xrb (by omega) (xrb (by omega) (hb104)))))))⟩), fun _ h => absurd h List.not_mem_nil⟩)) (by omega) (by omega) (by omega) (by omega)) rfl (hb399.get (by decide) h72_404) rfl rfl rfl rfl rfl rfl (fun n409 w405 hq406 => ?_)
        obtain ⟨hn410, hI407, hF408⟩ := hq406
        refine xg_minK (u := 9999) (v := n409) xnm0 xnm0 xmx_ok (by omega) (by omega) (fun z411 hz412 hz413 hz414 hz415 => ?_)
        unfold xbs at hz413 hz414
        refine xg_iastK (n := 7) (u := z411) (hr398.fr hF408 (by decide)) xnm0 xnm0 rfl (by omega) (fun w416 hr417 hb418 => ?_)
        refine xg_t (xg_aload (va := (2, 0)) rfl rfl) ?_
        refine xg_t (xg_getf (va := (2, 80)) (hb418.get (by decide) (hF408.get (by decide) (hb399.get (by decide) (hF394.get (by decide) (hb390.get (by decide) (hb380.get (by decide) (hb377.get (by decide) (hF372.get (by decide) (hb291.get (by decide) (hb285.get (by decide) (hF111.get (by decide) (hb107.get (by decide) (hF98.get (by decide) (hF70.get (by decide) (hF61.get (by decide) (hF51.get (by decide) (hF30.get (by decide) (hF21.get (by decide) (hF12.get (by decide) h0_1))))))))))))))))))) rfl) ?_
        refine xg_t (xg_bip) ?_
        refine xg_t (xg_aload (va := (2, 0)) rfl rfl) ?_
        refine xg_t (xg_getf (va := (2, 1)) (hb418.get (by decide) (hF408.get (by decide) (hb399.get (by decide) (hF394.get (by decide) (hb390.get (by decide) (hb380.get (by decide) (hb377.get (by decide) (hF372.get (by decide) (hb291.get (by decide) (hb285.get (by decide) (hF111.get (by decide) (hb107.get (by decide) (hF98.get (by decide) (hF70.get (by decide) (hF61.get (by decide) (hF51.get (by decide) (hF30.get (by decide) (hF21.get (by decide) (hF12.get (by decide) h0_1))))))))))))))))))) rfl) ?_
        refine xg_cVi mX9_cracksInView (vs := []) (rest := [(0, 8), (2, 80)]) (cn1 := 0) (sl1 := 0) rfl (tdCracksInView (xInv.up (S := [80]) hI407 (xFr.of (S := [80]) hb418 (by decide)) (List.forall_mem_cons.mpr ⟨(show cpI 11 48 4294967295 (wget w416 80) from ⟨_, hr417, xrb (by omega) (xrb (by omega) (xrb (by omega) (xrb (by omega) (xrb (by omega) (xrb (by omega) (xrb (by omega) (xrb (by omega) (hb104))))))))⟩), fun _ h => absurd h List.not_mem_nil⟩))) rfl (hb418.get (by decide) (hF408.get (by decide) (hb399.get (by decide) (hF394.get (by decide) (hb390.get (by decide) (hb380.get (by decide) (hb377.get (by decide) (hF372.get (by decide) (hb291.get (by decide) (hb285.get (by decide) (hF111.get (by decide) (hb107.get (by decide) (hF98.get (by decide) h1_83))))))))))))) rfl rfl rfl rfl rfl rfl (fun n423 w419 hq420 => ?_)
        obtain ⟨hn424, hI421, hF422⟩ := hq420
        refine xg_iastK (n := 8) (u := n423) (hr417.fr hF422 (by decide)) xnm0 xnm0 rfl (by omega) (fun w425 hr426 hb427 => ?_)
        refine xg_t (xg_aload (va := (2, 0)) rfl rfl) ?_
        refine xg_t (xg_getf (va := (2, 80)) (hb427.get (by decide) (hF422.get (by decide) (hb418.get (by decide) (hF408.get (by decide) (hb399.get (by decide) (hF394.get (by decide) (hb390.get (by decide) (hb380.get (by decide) (hb377.get (by decide) (hF372.get (by decide) (hb291.get (by decide) (hb285.get (by decide) (hF111.get (by decide) (hb107.get (by decide) (hF98.get (by decide) (hF70.get (by decide) (hF61.get (by decide) (hF51.get (by decide) (hF30.get (by decide) (hF21.get (by decide) (hF12.get (by decide) h0_1))))))))))))))))))))) rfl) ?_
        refine xg_t (xg_bip) ?_
        refine xg_t (xg_aload (va := (2, 0)) rfl rfl) ?_
        refine xg_t (xg_getf (va := (2, 76)) (hb427.get (by decide) (hF422.get (by decide) (hb418.get (by decide) (hF408.get (by decide) (hb399.get (by decide) (hF394.get (by decide) (hb390.get (by decide) (hb380.get (by decide) (hb377.get (by decide) (hF372.get (by decide) (hb291.get (by decide) (hb285.get (by decide) (hF111.get (by decide) (hb107.get (by decide) (hF98.get (by decide) (hF70.get (by decide) (hF61.get (by decide) (hF51.get (by decide) (hF30.get (by decide) (hF21.get (by decide) (hF12.get (by decide) h0_1))))))))))))))))))))) rfl) ?_
        obtain ⟨f76_428, f76_430, f76_432, f76_434, f76_436, f76_438, f76_440, f76_442, h76_444, hb429, hb431, hb433, hb435, hb437, hb439, hb441, hb443⟩ := (hI421 76 (by decide) : cp76 (wget w419 76))
        refine xg_t (xg_getf (va := (0, f76_428)) (hb427.get (by decide) h76_444) rfl) ?_
        refine xg_iastK (n := 9) (u := f76_428) hr426 xnm0 xnm0 rfl (by omega) (fun w445 hr446 hb447 => ?_)
        refine xg_t (xg_aload (va := (2, 0)) rfl rfl) ?_
        refine xg_t (xg_getf (va := (2, 80)) (hb447.get (by decide) (hb427.get (by decide) (hF422.get (by decide) (hb418.get (by decide) (hF408.get (by decide) (hb399.get (by decide) (hF394.get (by decide) (hb390.get (by decide) (hb380.get (by decide) (hb377.get (by decide) (hF372.get (by decide) (hb291.get (by decide) (hb285.get (by decide) (hF111.get (by decide) (hb107.get (by decide) (hF98.get (by decide) (hF70.get (by decide) (hF61.get (by decide) (hF51.get (by decide) (hF30.get (by decide) (hF21.get (by decide) (hF12.get (by decide) h0_1)))))))))))))))))))))) rfl) ?_
        refine xg_t (xg_bip) ?_
        refine xg_t (xg_aload (va := (2, 0)) rfl rfl) ?_
        refine xg_t (xg_getf (va := (2, 1)) (hb447.get (by decide) (hb427.get (by decide) (hF422.get (by decide) (hb418.get (by decide) (hF408.get (by decide) (hb399.get (by decide) (hF394.get (by decide) (hb390.get (by decide) (hb380.get (by decide) (hb377.get (by decide) (hF372.get (by decide) (hb291.get (by decide) (hb285.get (by decide) (hF111.get (by decide) (hb107.get (by decide) (hF98.get (by decide) (hF70.get (by decide) (hF61.get (by decide) (hF51.get (by decide) (hF30.get (by decide) (hF21.get (by decide) (hF12.get (by decide) h0_1)))))))))))))))))))))) rfl) ?_
        refine xg_t (xg_getf (va := (0, f1_77)) (hb447.get (by decide) (hb427.get (by decide) (hF422.get (by decide) (hb418.get (by decide) (hF408.get (by decide) (hb399.get (by decide) (hF394.get (by decide) (hb390.get (by decide) (hb380.get (by decide) (hb377.get (by decide) (hF372.get (by decide) (hb291.get (by decide) (hb285.get (by decide) (hF111.get (by decide) (hb107.get (by decide) (hF98.get (by decide) h1_83)))))))))))))))) rfl) ?_
        refine xg_iastK (n := 10) (u := f1_77) hr446 xnm0 xnm0 rfl (by omega) (fun w448 hr449 hb450 => ?_)
        exact xg_e ⟨w448, ⟨rfl, rfl⟩, xInv.up (S := [80]) hI421 (((xFr.of (S := [80]) hb427 (by decide)).tr (xFr.of (S := [80]) hb447 (by decide))).tr (xFr.of (S := [80]) hb450 (by decide))) (List.forall_mem_cons.mpr ⟨(show cpI 11 48 4294967295 (wget w448 80) from ⟨_, hr449, xrb (by omega) (xrb (by omega) (xrb (by omega) (xrb (by omega) (xrb (by omega) (xrb (by omega) (xrb (by omega) (xrb (by omega) (xrb (by omega) (xrb (by omega) (xrb (by omega) (hb104)))))))))))⟩), fun _ h => absurd h List.not_mem_nil⟩), ((((((((((((((((((hF12.up (by decide)).tr (hF21.up (by decide))).tr (hF30.up (by decide))).tr (hF51.up (by decide))).tr (hF61.up (by decide))).tr (hF70.up (by decide))).tr (hF98.up (by decide))).tr (xFr.of (S := [50, 51, 52, 53, 54, 55, 58, 59, 60, 61, 62, 63, 64, 65, 66, 67, 68, 69, 70, 71, 72, 73, 76, 77, 80]) hb107 (by decide))).tr (hF111.up (by decide))).tr ((xFr.of (S := [50, 51, 52, 53, 54, 55, 58, 59, 60, 61, 62, 63, 64, 65, 66, 67, 68, 69, 70, 71, 72, 73, 76, 77, 80]) hb285 (by decide)).tr (xFr.of (S := [50, 51, 52, 53, 54, 55, 58, 59, 60, 61, 62, 63, 64, 65, 66, 67, 68, 69, 70, 71, 72, 73, 76, 77, 80]) hb291 (by decide)))).tr (hF372.up (by decide))).tr (((xFr.of (S := [50, 51, 52, 53, 54, 55, 58, 59, 60, 61, 62, 63, 64, 65, 66, 67, 68, 69, 70, 71, 72, 73, 76, 77, 80]) hb377 (by decide)).tr (xFr.of (S := [50, 51, 52, 53, 54, 55, 58, 59, 60, 61, 62, 63, 64, 65, 66, 67, 68, 69, 70, 71, 72, 73, 76, 77, 80]) hb380 (by decide))).tr (xFr.of (S := [50, 51, 52, 53, 54, 55, 58, 59, 60, 61, 62, 63, 64, 65, 66, 67, 68, 69, 70, 71, 72, 73, 76, 77, 80]) hb390 (by decide)))).tr (hF394.up (by decide))).tr (xFr.of (S := [50, 51, 52, 53, 54, 55, 58, 59, 60, 61, 62, 63, 64, 65, 66, 67, 68, 69, 70, 71, 72, 73, 76, 77, 80]) hb399 (by decide))).tr (hF408.up (by decide))).tr (xFr.of (S := [50, 51, 52, 53, 54, 55, 58, 59, 60, 61, 62, 63, 64, 65, 66, 67, 68, 69, 70, 71, 72, 73, 76, 77, 80]) hb418 (by decide))).tr (hF422.up (by decide))).tr (((xFr.of (S := [50, 51, 52, 53, 54, 55, 58, 59, 60, 61, 62, 63, 64, 65, 66, 67, 68, 69, 70, 71, 72, 73, 76, 77, 80]) hb427 (by decide)).tr (xFr.of (S := [50, 51, 52, 53, 54, 55, 58, 59, 60, 61, 62, 63, 64, 65, 66, 67, 68, 69, 70, 71, 72, 73, 76, 77, 80]) hb447 (by decide))).tr (xFr.of (S := [50, 51, 52, 53, 54, 55, 58, 59, 60, 61, 62, 63, 64, 65, 66, 67, 68, 69, 70, 71, 72, 73, 76, 77, 80]) hb450 (by decide)))), (((((((((((((((((((hx52.2.kp (hF61.1 20 (by decide)) (hF61.1 21 (by decide)) (hF61.1 76 (by decide)) (hF61.1 77 (by decide))).kp (hF70.1 20 (by decide)) (hF70.1 21 (by decide)) (hF70.1 76 (by decide)) (hF70.1 77 (by decide))).kp (hF98.1 20 (by decide)) (hF98.1 21 (by decide)) (hF98.1 76 (by decide)) (hF98.1 77 (by decide))).kp (hb107.1 20 (by decide)) (hb107.1 21 (by decide)) (hb107.1 76 (by decide)) (hb107.1 77 (by decide))).kp (hF111.1 20 (by decide)) (hF111.1 21 (by decide)) (hF111.1 76 (by decide)) (hF111.1 77 (by decide))).kp (hb285.1 20 (by decide)) (hb285.1 21 (by decide)) (hb285.1 76 (by decide)) (hb285.1 77 (by decide))).kp (hb291.1 20 (by decide)) (hb291.1 21 (by decide)) (hb291.1 76 (by decide)) (hb291.1 77 (by decide))).kp (hF372.1 20 (by decide)) (hF372.1 21 (by decide)) (hF372.1 76 (by decide)) (hF372.1 77 (by decide))).kp (hb377.1 20 (by decide)) (hb377.1 21 (by decide)) (hb377.1 76 (by decide)) (hb377.1 77 (by decide))).kp (hb380.1 20 (by decide)) (hb380.1 21 (by decide)) (hb380.1 76 (by decide)) (hb380.1 77 (by decide))).kp (hb390.1 20 (by decide)) (hb390.1 21 (by decide)) (hb390.1 76 (by decide)) (hb390.1 77 (by decide))).kp (hF394.1 20 (by decide)) (hF394.1 21 (by decide)) (hF394.1 76 (by decide)) (hF394.1 77 (by decide))).kp (hb399.1 20 (by decide)) (hb399.1 21 (by decide)) (hb399.1 76 (by decide)) (hb399.1 77 (by decide))).kp (hF408.1 20 (by decide)) (hF408.1 21 (by decide)) (hF408.1 76 (by decide)) (hF408.1 77 (by decide))).kp (hb418.1 20 (by decide)) (hb418.1 21 (by decide)) (hb418.1 76 (by decide)) (hb418.1 77 (by decide))).kp (hF422.1 20 (by decide)) (hF422.1 21 (by decide)) (hF422.1 76 (by decide)) (hF422.1 77 (by decide))).kp (hb427.1 20 (by decide)) (hb427.1 21 (by decide)) (hb427.1 76 (by decide)) (hb427.1 77 (by decide))).kp (hb447.1 20 (by decide)) (hb447.1 21 (by decide)) (hb447.1 76 (by decide)) (hb447.1 77 (by decide))).kp (hb450.1 20 (by decide)) (hb450.1 21 (by decide)) (hb450.1 76 (by decide)) (hb450.1 77 (by decide)))⟩
  · refine xg_t (xg_ifF (u := n99) rfl xnm0 (xj_eqF hc101)) ?_
    refine xg_t (xg_const) ?_
    refine xg_t (xg_goto) ?_
    refine xg_t (xg_blk (b := [(67, 1, 17, 0, 0, 0), (68, 1, 0, 0, 0, 0), (69, 3, 1, 11, 9, 83), (72, 1, 3, 1, 0, 0), (73, 1, 0, 0, 0, 0), (74, 3, 1, 11, 0, 10), (77, 3, 13, 323, 72, 216), (80, 3, 7, 87, 1, 0), (83, 1, 3, 1, 0, 0), (84, 3, 8, 88, 0, 0)]) rfl) ?_
    obtain ⟨g80_451, h80_452, hb453⟩ := (hI97 80 (by decide) : cpI 11 48 4294967295 (wget w95 80))
    have h80_452 : xRow w95 80 11 48 g80_451 := h80_452
    refine xg_iastK (n := 0) (u := 1) h80_452 xnm0 xnm0 rfl (by omega) (fun w454 hr455 hb456 => ?_)
    refine xg_t (xg_aload (va := (2, 0)) rfl rfl) ?_
    refine xg_t (xg_getf (va := (2, 80)) (hb456.get (by decide) (hF98.get (by decide) (hF70.get (by decide) (hF61.get (by decide) (hF51.get (by decide) (hF30.get (by decide) (hF21.get (by decide) (hF12.get (by decide) h0_1)))))))) rfl) ?_
    refine xg_t (xg_const) ?_
    refine xg_t (xg_aload (va := (2, 0)) rfl rfl) ?_
    refine xg_t (xg_getf (va := (2, 1)) (hb456.get (by decide) (hF98.get (by decide) (hF70.get (by decide) (hF61.get (by decide) (hF51.get (by decide) (hF30.get (by decide) (hF21.get (by decide) (hF12.get (by decide) h0_1)))))))) rfl) ?_
    refine xg_cVi mX9_cracksInView (vs := []) (rest := [(0, 1), (2, 80)]) (cn1 := 0) (sl1 := 0) rfl (tdCracksInView (xInv.up (S := [80]) hI97 (xFr.of (S := [80]) hb456 (by decide)) (List.forall_mem_cons.mpr ⟨(show cpI 11 48 4294967295 (wget w454 80) from ⟨_, hr455, xrb (by omega) (hb453)⟩), fun _ h => absurd h List.not_mem_nil⟩))) rfl (hb456.get (by decide) (hF98.get (by decide) h1_83)) rfl rfl rfl rfl rfl rfl (fun n461 w457 hq458 => ?_)
    obtain ⟨hn462, hI459, hF460⟩ := hq458
    by_cases hc463 : n461 = 0
    · refine xg_t (xg_ifF (u := n461) rfl xnm0 (xj_neF hc463)) ?_
      refine xg_t (xg_const) ?_
      refine xg_t (xg_goto) ?_
      refine xg_t (xg_blk (b := [(88, 1, 17, 0, 0, 0), (89, 1, 0, 0, 0, 0), (90, 3, 1, 11, 9, 83), (93, 1, 3, 2, 0, 0), (94, 1, 0, 1, 0, 0), (95, 3, 1, 1, 0, 112), (98, 3, 1, 5, 3, 151), (101, 1, 17, 0, 0, 0), (102, 1, 0, 0, 0, 0), (103, 3, 1, 11, 9, 83), (106, 1, 3, 3, 0, 0), (107, 1, 0, 1, 0, 0), (108, 3, 1, 1, 0, 112), (111, 3, 1, 5, 3, 151), (114, 3, 7, 121, 1, 0), (117, 1, 3, 0, 0, 0), (118, 3, 8, 128, 0, 0)]) rfl) ?_
      refine xg_iastK (n := 1) (u := 1) (hr455.fr hF460 (by decide)) xnm0 xnm0 rfl (by omega) (fun w464 hr465 hb466 => ?_)
      refine xg_t (xg_aload (va := (2, 0)) rfl rfl) ?_
      refine xg_t (xg_getf (va := (2, 80)) (hb466.get (by decide) (hF460.get (by decide) (hb456.get (by decide) (hF98.get (by decide) (hF70.get (by decide) (hF61.get (by decide) (hF51.get (by decide) (hF30.get (by decide) (hF21.get (by decide) (hF12.get (by decide) h0_1)))))))))) rfl) ?_
      refine xg_t (xg_const) ?_
      refine xg_t (xg_aload (va := (2, 3)) rfl rfl) ?_
      refine xg_t (xg_getf (va := (2, 4)) (hb466.get (by decide) (hF460.get (by decide) (hb456.get (by decide) (hF98.get (by decide) h3_94)))) rfl) ?_
      obtain ⟨f4_467, h4_469, hb468⟩ := (hI459 4 (by decide) : cp4 (wget w457 4))
      refine xg_t (xg_getf (va := (0, f4_467)) (hb466.get (by decide) h4_469) rfl) ?_
      refine xg_iastK (n := 2) (u := f4_467) hr465 xnm0 xnm0 rfl (by omega) (fun w470 hr471 hb472 => ?_)
      refine xg_t (xg_aload (va := (2, 0)) rfl rfl) ?_
      refine xg_t (xg_getf (va := (2, 80)) (hb472.get (by decide) (hb466.get (by decide) (hF460.get (by decide) (hb456.get (by decide) (hF98.get (by decide) (hF70.get (by decide) (hF61.get (by decide) (hF51.get (by decide) (hF30.get (by decide) (hF21.get (by decide) (hF12.get (by decide) h0_1))))))))))) rfl) ?_
      refine xg_t (xg_const) ?_
      refine xg_t (xg_aload (va := (2, 3)) rfl rfl) ?_
      refine xg_t (xg_getf (va := (2, 4)) (hb472.get (by decide) (hb466.get (by decide) (hF460.get (by decide) (hb456.get (by decide) (hF98.get (by decide) h3_94))))) rfl) ?_
      refine xg_t (xg_getf (va := (0, f4_467)) (hb472.get (by decide) (hb466.get (by decide) h4_469)) rfl) ?_
      by_cases hc473 : f4_467 = 0
      · refine xg_t (xg_ifF (u := f4_467) rfl xnm0 (xj_neF hc473)) ?_
        refine xg_t (xg_const) ?_
        refine xg_t (xg_goto) ?_
        refine xg_t (xg_blk (b := [(128, 1, 17, 0, 0, 0), (129, 1, 0, 0, 0, 0), (130, 3, 1, 11, 9, 83), (133, 1, 3, 4, 0, 0), (134, 1, 0, 1, 0, 0), (135, 3, 1, 1, 7, 225), (138, 1, 17, 0, 0, 0), (139, 1, 0, 0, 0, 0), (140, 3, 1, 11, 9, 83), (143, 1, 3, 5, 0, 0), (144, 1, 0, 0, 0, 0), (145, 3, 1, 11, 5, 52), (148, 3, 1, 10, 11, 222), (151, 1, 17, 0, 0, 0), (152, 1, 0, 0, 0, 0), (153, 3, 1, 11, 9, 83), (156, 2, 4, 6, 0, 0), (158, 1, 0, 0, 0, 0), (159, 3, 13, 45, 88, 291), (162, 1, 17, 0, 0, 0), (163, 1, 0, 0, 0, 0), (164, 3, 1, 11, 9, 83), (167, 2, 4, 7, 0, 0), (169, 3, 5, 9999, 0, 0), (172, 1, 0, 0, 0, 0), (173, 3, 1, 11, 7, 66), (176, 1, 3, 0, 0, 0), (177, 1, 3, 0, 0, 0), (178, 1, 0, 1, 0, 0), (179, 3, 1, 1, 5, 297), (182, 1, 0, 1, 0, 0), (183, 3, 1, 1, 6, 300), (186, 3, 13, 310, 56, 306), (189, 3, 63, 0, 0, 403), (192, 1, 17, 0, 0, 0), (193, 1, 0, 0, 0, 0), (194, 3, 1, 11, 9, 83), (197, 2, 4, 8, 0, 0), (199, 1, 0, 0, 0, 0), (200, 3, 1, 11, 0, 10), (203, 3, 13, 323, 72, 216), (206, 1, 17, 0, 0, 0), (207, 1, 0, 0, 0, 0), (208, 3, 1, 11, 9, 83), (211, 2, 4, 9, 0, 0), (213, 1, 0, 0, 0, 0), (214, 3, 1, 11, 8, 79), (217, 3, 1, 4, 4, 328), (220, 1, 17, 0, 0, 0), (221, 1, 0, 0, 0, 0), (222, 3, 1, 11, 9, 83), (225, 2, 4, 10, 0, 0), (227, 1, 0, 0, 0, 0), (228, 3, 1, 11, 0, 10), (231, 3, 1, 9, 6, 186), (234, 1, 17, 0, 0, 0), (235, 1, 12, 0, 0, 0)]) rfl) ?_
        refine xg_iastK (n := 3) (u := 0) hr471 xnm0 xnm0 rfl (by omega) (fun w474 hr475 hb476 => ?_)
        refine xg_t (xg_aload (va := (2, 0)) rfl rfl) ?_
        refine xg_t (xg_getf (va := (2, 80)) (hb476.get (by decide) (hb472.get (by decide) (hb466.get (by decide) (hF460.get (by decide) (hb456.get (by decide) (hF98.get (by decide) (hF70.get (by decide) (hF61.get (by decide) (hF51.get (by decide) (hF30.get (by decide) (hF21.get (by decide) (hF12.get (by decide) h0_1)))))))))))) rfl) ?_
        refine xg_t (xg_const) ?_
        refine xg_t (xg_aload (va := (2, 3)) rfl rfl) ?_
        refine xg_t (xg_getf (va := (0, f3_88)) (hb476.get (by decide) (hb472.get (by decide) (hb466.get (by decide) (hF460.get (by decide) (hb456.get (by decide) (hF98.get (by decide) h3_94)))))) rfl) ?_
        refine xg_iastK (n := 4) (u := f3_88) hr475 xnm0 xnm0 rfl (by omega) (fun w477 hr478 hb479 => ?_)
        refine xg_t (xg_aload (va := (2, 0)) rfl rfl) ?_
        refine xg_t (xg_getf (va := (2, 80)) (hb479.get (by decide) (hb476.get (by decide) (hb472.get (by decide) (hb466.get (by decide) (hF460.get (by decide) (hb456.get (by decide) (hF98.get (by decide) (hF70.get (by decide) (hF61.get (by decide) (hF51.get (by decide) (hF30.get (by decide) (hF21.get (by decide) (hF12.get (by decide) h0_1))))))))))))) rfl) ?_
        refine xg_t (xg_const) ?_
        refine xg_t (xg_aload (va := (2, 0)) rfl rfl) ?_
        refine xg_t (xg_getf (va := (2, 58)) (hb479.get (by decide) (hb476.get (by decide) (hb472.get (by decide) (hb466.get (by decide) (hF460.get (by decide) (hb456.get (by decide) (hF98.get (by decide) (hF70.get (by decide) (hF61.get (by decide) (hF51.get (by decide) (hF30.get (by decide) (hF21.get (by decide) (hF12.get (by decide) h0_1))))))))))))) rfl) ?_
        obtain ⟨f58_480, f58_482, f58_484, h58_486, hb481, hb483, hb485⟩ := (hI459 58 (by decide) : cp58 (wget w457 58))
        refine xg_t (xg_getf (va := (0, f58_482)) (hb479.get (by decide) (hb476.get (by decide) (hb472.get (by decide) (hb466.get (by decide) h58_486)))) rfl) ?_
        refine xg_iastK (n := 5) (u := f58_482) hr478 xnm0 xnm0 rfl (by omega) (fun w487 hr488 hb489 => ?_)
        refine xg_t (xg_aload (va := (2, 0)) rfl rfl) ?_
        refine xg_t (xg_getf (va := (2, 80)) (hb489.get (by decide) (hb479.get (by decide) (hb476.get (by decide) (hb472.get (by decide) (hb466.get (by decide) (hF460.get (by decide) (hb456.get (by decide) (hF98.get (by decide) (hF70.get (by decide) (hF61.get (by decide) (hF51.get (by decide) (hF30.get (by decide) (hF21.get (by decide) (hF12.get (by decide) h0_1)))))))))))))) rfl) ?_
        refine xg_t (xg_bip) ?_
        refine xg_t (xg_aload (va := (2, 0)) rfl rfl) ?_
        refine xg_cVi mX11_countDark (vs := []) (rest := [(0, 6), (2, 80)]) (cn1 := 0) (sl1 := 0) rfl (scCountDark (xInv.up (S := [80]) hI459 (((((xFr.of (S := [80]) hb466 (by decide)).tr (xFr.of (S := [80]) hb472 (by decide))).tr (xFr.of (S := [80]) hb476 (by decide))).tr (xFr.of (S := [80]) hb479 (by decide))).tr (xFr.of (S := [80]) hb489 (by decide))) (List.forall_mem_cons.mpr ⟨(show cpI 11 48 4294967295 (wget w487 80) from ⟨_, hr488, xrb (by omega) (xrb (by omega) (xrb (by omega) (xrb (by omega) (xrb (by omega) (xrb (by omega) (hb453))))))⟩), fun _ h => absurd h List.not_mem_nil⟩))) rfl (hb489.get (by decide) (hb479.get (by decide) (hb476.get (by decide) (hb472.get (by decide) (hb466.get (by decide) (hF460.get (by decide) (hb456.get (by decide) (hF98.get (by decide) (hF70.get (by decide) (hF61.get (by decide) (hF51.get (by decide) (hF30.get (by decide) (hF21.get (by decide) (hF12.get (by decide) h0_1)))))))))))))) rfl rfl rfl rfl rfl rfl (fun n494 w490 hq491 => ?_)
        obtain ⟨hn495, hI492, hF493⟩ := hq491
        refine xg_iastK (n := 6) (u := n494) (hr488.fr hF493 (by decide)) xnm0 xnm0 rfl (by omega) (fun w496 hr497 hb498 => ?_)
        refine xg_t (xg_aload (va := (2, 0)) rfl rfl) ?_
        refine xg_t (xg_getf (va := (2, 80)) (hb498.get (by decide) (hF493.get (by decide) (hb489.get (by decide) (hb479.get (by decide) (hb476.get (by decide) (hb472.get (by decide) (hb466.get (by decide) (hF460.get (by decide) (hb456.get (by decide) (hF98.get (by decide) (hF70.get (by decide) (hF61.get (by decide) (hF51.get (by decide) (hF30.get (by decide) (hF21.get (by decide) (hF12.get (by decide) h0_1)))))))))))))))) rfl) ?_
        refine xg_t (xg_bip) ?_
        refine xg_t (xg_sip) ?_
        refine xg_t (xg_aload (va := (2, 0)) rfl rfl) ?_
        refine xg_t (xg_getf (va := (2, 72)) (hb498.get (by decide) (hF493.get (by decide) (hb489.get (by decide) (hb479.get (by decide) (hb476.get (by decide) (hb472.get (by decide) (hb466.get (by decide) (hF460.get (by decide) (hb456.get (by decide) (hF98.get (by decide) (hF70.get (by decide) (hF61.get (by decide) (hF51.get (by decide) (hF30.get (by decide) (hF21.get (by decide) (hF12.get (by decide) h0_1)))))))))))))))) rfl) ?_
        refine xg_t (xg_const) ?_
        refine xg_t (xg_const) ?_
        refine xg_t (xg_aload (va := (2, 3)) rfl rfl) ?_
        refine xg_t (xg_getf (va := (0, f3_84)) (hb498.get (by decide) (hF493.get (by decide) (hb489.get (by decide) (hb479.get (by decide) (hb476.get (by decide) (hb472.get (by decide) (hb466.get (by decide) (hF460.get (by decide) (hb456.get (by decide) (hF98.get (by decide) h3_94)))))))))) rfl) ?_
        refine xg_t (xg_aload (va := (2, 3)) rfl rfl) ?_
        refine xg_t (xg_getf (va := (0, f3_86)) (hb498.get (by decide) (hF493.get (by decide) (hb489.get (by decide) (hb479.get (by decide) (hb476.get (by decide) (hb472.get (by decide) (hb466.get (by decide) (hF460.get (by decide) (hb456.get (by decide) (hF98.get (by decide) h3_94)))))))))) rfl) ?_
        obtain ⟨f72_499, f72_501, h72_503, hb500, hb502⟩ := (hI492 72 (by decide) : cp72 (wget w490 72))
        refine xg_cVi mX7_worthOf (vs := [(0, 0), (0, 0), (0, f3_84), (0, f3_86)]) (rest := [(0, 9999), (0, 7), (2, 80)]) (cn1 := 0) (sl1 := 0) rfl (shWorthOf (xInv.up (S := [80]) hI492 (xFr.of (S := [80]) hb498 (by decide)) (List.forall_mem_cons.mpr ⟨(show cpI 11 48 4294967295 (wget w496 80) from ⟨_, hr497, xrb (by omega) (xrb (by omega) (xrb (by omega) (xrb (by omega) (xrb (by omega) (xrb (by omega) (xrb (by omega) (hb453)))))))⟩), fun _ h => absurd h List.not_mem_nil⟩)) (by omega) (by omega) (by omega) (by omega)) rfl (hb498.get (by decide) h72_503) rfl rfl rfl rfl rfl rfl (fun n508 w504 hq505 => ?_)
        obtain ⟨hn509, hI506, hF507⟩ := hq505
        refine xg_minK (u := 9999) (v := n508) xnm0 xnm0 xmx_ok (by omega) (by omega) (fun z510 hz511 hz512 hz513 hz514 => ?_)
        unfold xbs at hz512 hz513
        refine xg_iastK (n := 7) (u := z510) (hr497.fr hF507 (by decide)) xnm0 xnm0 rfl (by omega) (fun w515 hr516 hb517 => ?_)
        refine xg_t (xg_aload (va := (2, 0)) rfl rfl) ?_
        refine xg_t (xg_getf (va := (2, 80)) (hb517.get (by decide) (hF507.get (by decide) (hb498.get (by decide) (hF493.get (by decide) (hb489.get (by decide) (hb479.get (by decide) (hb476.get (by decide) (hb472.get (by decide) (hb466.get (by decide) (hF460.get (by decide) (hb456.get (by decide) (hF98.get (by decide) (hF70.get (by decide) (hF61.get (by decide) (hF51.get (by decide) (hF30.get (by decide) (hF21.get (by decide) (hF12.get (by decide) h0_1)))))))))))))))))) rfl) ?_
        refine xg_t (xg_bip) ?_
        refine xg_t (xg_aload (va := (2, 0)) rfl rfl) ?_
        refine xg_t (xg_getf (va := (2, 1)) (hb517.get (by decide) (hF507.get (by decide) (hb498.get (by decide) (hF493.get (by decide) (hb489.get (by decide) (hb479.get (by decide) (hb476.get (by decide) (hb472.get (by decide) (hb466.get (by decide) (hF460.get (by decide) (hb456.get (by decide) (hF98.get (by decide) (hF70.get (by decide) (hF61.get (by decide) (hF51.get (by decide) (hF30.get (by decide) (hF21.get (by decide) (hF12.get (by decide) h0_1)))))))))))))))))) rfl) ?_
        refine xg_cVi mX9_cracksInView (vs := []) (rest := [(0, 8), (2, 80)]) (cn1 := 0) (sl1 := 0) rfl (tdCracksInView (xInv.up (S := [80]) hI506 (xFr.of (S := [80]) hb517 (by decide)) (List.forall_mem_cons.mpr ⟨(show cpI 11 48 4294967295 (wget w515 80) from ⟨_, hr516, xrb (by omega) (xrb (by omega) (xrb (by omega) (xrb (by omega) (xrb (by omega) (xrb (by omega) (xrb (by omega) (xrb (by omega) (hb453))))))))⟩), fun _ h => absurd h List.not_mem_nil⟩))) rfl (hb517.get (by decide) (hF507.get (by decide) (hb498.get (by decide) (hF493.get (by decide) (hb489.get (by decide) (hb479.get (by decide) (hb476.get (by decide) (hb472.get (by decide) (hb466.get (by decide) (hF460.get (by decide) (hb456.get (by decide) (hF98.get (by decide) h1_83)))))))))))) rfl rfl rfl rfl rfl rfl (fun n522 w518 hq519 => ?_)
        obtain ⟨hn523, hI520, hF521⟩ := hq519
        refine xg_iastK (n := 8) (u := n522) (hr516.fr hF521 (by decide)) xnm0 xnm0 rfl (by omega) (fun w524 hr525 hb526 => ?_)
        refine xg_t (xg_aload (va := (2, 0)) rfl rfl) ?_
        refine xg_t (xg_getf (va := (2, 80)) (hb526.get (by decide) (hF521.get (by decide) (hb517.get (by decide) (hF507.get (by decide) (hb498.get (by decide) (hF493.get (by decide) (hb489.get (by decide) (hb479.get (by decide) (hb476.get (by decide) (hb472.get (by decide) (hb466.get (by decide) (hF460.get (by decide) (hb456.get (by decide) (hF98.get (by decide) (hF70.get (by decide) (hF61.get (by decide) (hF51.get (by decide) (hF30.get (by decide) (hF21.get (by decide) (hF12.get (by decide) h0_1)))))))))))))))))))) rfl) ?_
        refine xg_t (xg_bip) ?_
        refine xg_t (xg_aload (va := (2, 0)) rfl rfl) ?_
        refine xg_t (xg_getf (va := (2, 76)) (hb526.get (by decide) (hF521.get (by decide) (hb517.get (by decide) (hF507.get (by decide) (hb498.get (by decide) (hF493.get (by decide) (hb489.get (by decide) (hb479.get (by decide) (hb476.get (by decide) (hb472.get (by decide) (hb466.get (by decide) (hF460.get (by decide) (hb456.get (by decide) (hF98.get (by decide) (hF70.get (by decide) (hF61.get (by decide) (hF51.get (by decide) (hF30.get (by decide) (hF21.get (by decide) (hF12.get (by decide) h0_1)))))))))))))))))))) rfl) ?_
        obtain ⟨f76_527, f76_529, f76_531, f76_533, f76_535, f76_537, f76_539, f76_541, h76_543, hb528, hb530, hb532, hb534, hb536, hb538, hb540, hb542⟩ := (hI520 76 (by decide) : cp76 (wget w518 76))
        refine xg_t (xg_getf (va := (0, f76_527)) (hb526.get (by decide) h76_543) rfl) ?_
        refine xg_iastK (n := 9) (u := f76_527) hr525 xnm0 xnm0 rfl (by omega) (fun w544 hr545 hb546 => ?_)
        refine xg_t (xg_aload (va := (2, 0)) rfl rfl) ?_
        refine xg_t (xg_getf (va := (2, 80)) (hb546.get (by decide) (hb526.get (by decide) (hF521.get (by decide) (hb517.get (by decide) (hF507.get (by decide) (hb498.get (by decide) (hF493.get (by decide) (hb489.get (by decide) (hb479.get (by decide) (hb476.get (by decide) (hb472.get (by decide) (hb466.get (by decide) (hF460.get (by decide) (hb456.get (by decide) (hF98.get (by decide) (hF70.get (by decide) (hF61.get (by decide) (hF51.get (by decide) (hF30.get (by decide) (hF21.get (by decide) (hF12.get (by decide) h0_1))))))))))))))))))))) rfl) ?_
        refine xg_t (xg_bip) ?_
        refine xg_t (xg_aload (va := (2, 0)) rfl rfl) ?_
        refine xg_t (xg_getf (va := (2, 1)) (hb546.get (by decide) (hb526.get (by decide) (hF521.get (by decide) (hb517.get (by decide) (hF507.get (by decide) (hb498.get (by decide) (hF493.get (by decide) (hb489.get (by decide) (hb479.get (by decide) (hb476.get (by decide) (hb472.get (by decide) (hb466.get (by decide) (hF460.get (by decide) (hb456.get (by decide) (hF98.get (by decide) (hF70.get (by decide) (hF61.get (by decide) (hF51.get (by decide) (hF30.get (by decide) (hF21.get (by decide) (hF12.get (by decide) h0_1))))))))))))))))))))) rfl) ?_
        refine xg_t (xg_getf (va := (0, f1_77)) (hb546.get (by decide) (hb526.get (by decide) (hF521.get (by decide) (hb517.get (by decide) (hF507.get (by decide) (hb498.get (by decide) (hF493.get (by decide) (hb489.get (by decide) (hb479.get (by decide) (hb476.get (by decide) (hb472.get (by decide) (hb466.get (by decide) (hF460.get (by decide) (hb456.get (by decide) (hF98.get (by decide) h1_83))))))))))))))) rfl) ?_
        refine xg_iastK (n := 10) (u := f1_77) hr545 xnm0 xnm0 rfl (by omega) (fun w547 hr548 hb549 => ?_)
        exact xg_e ⟨w547, ⟨rfl, rfl⟩, xInv.up (S := [80]) hI520 (((xFr.of (S := [80]) hb526 (by decide)).tr (xFr.of (S := [80]) hb546 (by decide))).tr (xFr.of (S := [80]) hb549 (by decide))) (List.forall_mem_cons.mpr ⟨(show cpI 11 48 4294967295 (wget w547 80) from ⟨_, hr548, xrb (by omega) (xrb (by omega) (xrb (by omega) (xrb (by omega) (xrb (by omega) (xrb (by omega) (xrb (by omega) (xrb (by omega) (xrb (by omega) (xrb (by omega) (xrb (by omega) (hb453)))))))))))⟩), fun _ h => absurd h List.not_mem_nil⟩), ((((((((((((((((hF12.up (by decide)).tr (hF21.up (by decide))).tr (hF30.up (by decide))).tr (hF51.up (by decide))).tr (hF61.up (by decide))).tr (hF70.up (by decide))).tr (hF98.up (by decide))).tr (xFr.of (S := [50, 51, 52, 53, 54, 55, 58, 59, 60, 61, 62, 63, 64, 65, 66, 67, 68, 69, 70, 71, 72, 73, 76, 77, 80]) hb456 (by decide))).tr (hF460.up (by decide))).tr (((((xFr.of (S := [50, 51, 52, 53, 54, 55, 58, 59, 60, 61, 62, 63, 64, 65, 66, 67, 68, 69, 70, 71, 72, 73, 76, 77, 80]) hb466 (by decide)).tr (xFr.of (S := [50, 51, 52, 53, 54, 55, 58, 59, 60, 61, 62, 63, 64, 65, 66, 67, 68, 69, 70, 71, 72, 73, 76, 77, 80]) hb472 (by decide))).tr (xFr.of (S := [50, 51, 52, 53, 54, 55, 58, 59, 60, 61, 62, 63, 64, 65, 66, 67, 68, 69, 70, 71, 72, 73, 76, 77, 80]) hb476 (by decide))).tr (xFr.of (S := [50, 51, 52, 53, 54, 55, 58, 59, 60, 61, 62, 63, 64, 65, 66, 67, 68, 69, 70, 71, 72, 73, 76, 77, 80]) hb479 (by decide))).tr (xFr.of (S := [50, 51, 52, 53, 54, 55, 58, 59, 60, 61, 62, 63, 64, 65, 66, 67, 68, 69, 70, 71, 72, 73, 76, 77, 80]) hb489 (by decide)))).tr (hF493.up (by decide))).tr (xFr.of (S := [50, 51, 52, 53, 54, 55, 58, 59, 60, 61, 62, 63, 64, 65, 66, 67, 68, 69, 70, 71, 72, 73, 76, 77, 80]) hb498 (by decide))).tr (hF507.up (by decide))).tr (xFr.of (S := [50, 51, 52, 53, 54, 55, 58, 59, 60, 61, 62, 63, 64, 65, 66, 67, 68, 69, 70, 71, 72, 73, 76, 77, 80]) hb517 (by decide))).tr (hF521.up (by decide))).tr (((xFr.of (S := [50, 51, 52, 53, 54, 55, 58, 59, 60, 61, 62, 63, 64, 65, 66, 67, 68, 69, 70, 71, 72, 73, 76, 77, 80]) hb526 (by decide)).tr (xFr.of (S := [50, 51, 52, 53, 54, 55, 58, 59, 60, 61, 62, 63, 64, 65, 66, 67, 68, 69, 70, 71, 72, 73, 76, 77, 80]) hb546 (by decide))).tr (xFr.of (S := [50, 51, 52, 53, 54, 55, 58, 59, 60, 61, 62, 63, 64, 65, 66, 67, 68, 69, 70, 71, 72, 73, 76, 77, 80]) hb549 (by decide)))), ((((((((((((((((((hx52.2.kp (hF61.1 20 (by decide)) (hF61.1 21 (by decide)) (hF61.1 76 (by decide)) (hF61.1 77 (by decide))).kp (hF70.1 20 (by decide)) (hF70.1 21 (by decide)) (hF70.1 76 (by decide)) (hF70.1 77 (by decide))).kp (hF98.1 20 (by decide)) (hF98.1 21 (by decide)) (hF98.1 76 (by decide)) (hF98.1 77 (by decide))).kp (hb456.1 20 (by decide)) (hb456.1 21 (by decide)) (hb456.1 76 (by decide)) (hb456.1 77 (by decide))).kp (hF460.1 20 (by decide)) (hF460.1 21 (by decide)) (hF460.1 76 (by decide)) (hF460.1 77 (by decide))).kp (hb466.1 20 (by decide)) (hb466.1 21 (by decide)) (hb466.1 76 (by decide)) (hb466.1 77 (by decide))).kp (hb472.1 20 (by decide)) (hb472.1 21 (by decide)) (hb472.1 76 (by decide)) (hb472.1 77 (by decide))).kp (hb476.1 20 (by decide)) (hb476.1 21 (by decide)) (hb476.1 76 (by decide)) (hb476.1 77 (by decide))).kp (hb479.1 20 (by decide)) (hb479.1 21 (by decide)) (hb479.1 76 (by decide)) (hb479.1 77 (by decide))).kp (hb489.1 20 (by decide)) (hb489.1 21 (by decide)) (hb489.1 76 (by decide)) (hb489.1 77 (by decide))).kp (hF493.1 20 (by decide)) (hF493.1 21 (by decide)) (hF493.1 76 (by decide)) (hF493.1 77 (by decide))).kp (hb498.1 20 (by decide)) (hb498.1 21 (by decide)) (hb498.1 76 (by decide)) (hb498.1 77 (by decide))).kp (hF507.1 20 (by decide)) (hF507.1 21 (by decide)) (hF507.1 76 (by decide)) (hF507.1 77 (by decide))).kp (hb517.1 20 (by decide)) (hb517.1 21 (by decide)) (hb517.1 76 (by decide)) (hb517.1 77 (by decide))).kp (hF521.1 20 (by decide)) (hF521.1 21 (by decide)) (hF521.1 76 (by decide)) (hF521.1 77 (by decide))).kp (hb526.1 20 (by decide)) (hb526.1 21 (by decide)) (hb526.1 76 (by decide)) (hb526.1 77 (by decide))).kp (hb546.1 20 (by decide)) (hb546.1 21 (by decide)) (hb546.1 76 (by decide)) (hb546.1 77 (by decide))).kp (hb549.1 20 (by decide)) (hb549.1 21 (by decide)) (hb549.1 76 (by decide)) (hb549.1 77 (by decide)))⟩
      · refine xg_t (xg_ifT (u := f4_467) rfl xnm0 (xj_neT hc473)) ?_
        refine xg_t (xg_blk (b := [(121, 1, 0, 0, 0, 0), (122, 3, 1, 11, 4, 45), (125, 3, 13, 13, 0, 154)]) rfl) ?_
        refine xg_t (xg_aload (va := (2, 0)) rfl rfl) ?_
        refine xg_t (xg_getf (va := (2, 49)) (hb472.get (by decide) (hb466.get (by decide) (hF460.get (by decide) (hb456.get (by decide) (hF98.get (by decide) (hF70.get (by decide) (hF61.get (by decide) (hF51.get (by decide) (hF30.get (by decide) (hF21.get (by decide) (hF12.get (by decide) h0_1))))))))))) rfl) ?_
        refine xg_cVi mX0_leastRound (vs := []) (rest := [(0, 3), (2, 80)]) (cn1 := 0) (sl1 := 0) rfl (bdLeast (xInv.up (S := [80]) hI459 ((xFr.of (S := [80]) hb466 (by decide)).tr (xFr.of (S := [80]) hb472 (by decide))) (List.forall_mem_cons.mpr ⟨(show cpI 11 48 4294967295 (wget w470 80) from ⟨_, hr471, xrb (by omega) (xrb (by omega) (xrb (by omega) (hb453)))⟩), fun _ h => absurd h List.not_mem_nil⟩))) rfl (hb472.get (by decide) (hb466.get (by decide) (hF460.get (by decide) (hb456.get (by decide) (hF98.get (by decide) (hF70.get (by decide) h49_66)))))) rfl rfl rfl rfl rfl rfl (fun n554 w550 hq551 => ?_)
        obtain ⟨hn555, hI552, hF553⟩ := hq551
        refine xg_t (xg_blk (b := [(128, 1, 17, 0, 0, 0), (129, 1, 0, 0, 0, 0), (130, 3, 1, 11, 9, 83), (133, 1, 3, 4, 0, 0), (134, 1, 0, 1, 0, 0), (135, 3, 1, 1, 7, 225), (138, 1, 17, 0, 0, 0), (139, 1, 0, 0, 0, 0), (140, 3, 1, 11, 9, 83), (143, 1, 3, 5, 0, 0), (144, 1, 0, 0, 0, 0), (145, 3, 1, 11, 5, 52), (148, 3, 1, 10, 11, 222), (151, 1, 17, 0, 0, 0), (152, 1, 0, 0, 0, 0), (153, 3, 1, 11, 9, 83), (156, 2, 4, 6, 0, 0), (158, 1, 0, 0, 0, 0), (159, 3, 13, 45, 88, 291), (162, 1, 17, 0, 0, 0), (163, 1, 0, 0, 0, 0), (164, 3, 1, 11, 9, 83), (167, 2, 4, 7, 0, 0), (169, 3, 5, 9999, 0, 0), (172, 1, 0, 0, 0, 0), (173, 3, 1, 11, 7, 66), (176, 1, 3, 0, 0, 0), (177, 1, 3, 0, 0, 0), (178, 1, 0, 1, 0, 0), (179, 3, 1, 1, 5, 297), (182, 1, 0, 1, 0, 0), (183, 3, 1, 1, 6, 300), (186, 3, 13, 310, 56, 306), (189, 3, 63, 0, 0, 403), (192, 1, 17, 0, 0, 0), (193, 1, 0, 0, 0, 0), (194, 3, 1, 11, 9, 83), (197, 2, 4, 8, 0, 0), (199, 1, 0, 0, 0, 0), (200, 3, 1, 11, 0, 10), (203, 3, 13, 323, 72, 216), (206, 1, 17, 0, 0, 0), (207, 1, 0, 0, 0, 0), (208, 3, 1, 11, 9, 83), (211, 2, 4, 9, 0, 0), (213, 1, 0, 0, 0, 0), (214, 3, 1, 11, 8, 79), (217, 3, 1, 4, 4, 328), (220, 1, 17, 0, 0, 0), (221, 1, 0, 0, 0, 0), (222, 3, 1, 11, 9, 83), (225, 2, 4, 10, 0, 0), (227, 1, 0, 0, 0, 0), (228, 3, 1, 11, 0, 10), (231, 3, 1, 9, 6, 186), (234, 1, 17, 0, 0, 0), (235, 1, 12, 0, 0, 0)]) rfl) ?_
        refine xg_iastK (n := 3) (u := n554) (hr471.fr hF553 (by decide)) xnm0 xnm0 rfl (by omega) (fun w556 hr557 hb558 => ?_)
        refine xg_t (xg_aload (va := (2, 0)) rfl rfl) ?_
        refine xg_t (xg_getf (va := (2, 80)) (hb558.get (by decide) (hF553.get (by decide) (hb472.get (by decide) (hb466.get (by decide) (hF460.get (by decide) (hb456.get (by decide) (hF98.get (by decide) (hF70.get (by decide) (hF61.get (by decide) (hF51.get (by decide) (hF30.get (by decide) (hF21.get (by decide) (hF12.get (by decide) h0_1))))))))))))) rfl) ?_
        refine xg_t (xg_const) ?_
        refine xg_t (xg_aload (va := (2, 3)) rfl rfl) ?_
        refine xg_t (xg_getf (va := (0, f3_88)) (hb558.get (by decide) (hF553.get (by decide) (hb472.get (by decide) (hb466.get (by decide) (hF460.get (by decide) (hb456.get (by decide) (hF98.get (by decide) h3_94))))))) rfl) ?_
        refine xg_iastK (n := 4) (u := f3_88) hr557 xnm0 xnm0 rfl (by omega) (fun w559 hr560 hb561 => ?_)
        refine xg_t (xg_aload (va := (2, 0)) rfl rfl) ?_
        refine xg_t (xg_getf (va := (2, 80)) (hb561.get (by decide) (hb558.get (by decide) (hF553.get (by decide) (hb472.get (by decide) (hb466.get (by decide) (hF460.get (by decide) (hb456.get (by decide) (hF98.get (by decide) (hF70.get (by decide) (hF61.get (by decide) (hF51.get (by decide) (hF30.get (by decide) (hF21.get (by decide) (hF12.get (by decide) h0_1)))))))))))))) rfl) ?_
        refine xg_t (xg_const) ?_
        refine xg_t (xg_aload (va := (2, 0)) rfl rfl) ?_
        refine xg_t (xg_getf (va := (2, 58)) (hb561.get (by decide) (hb558.get (by decide) (hF553.get (by decide) (hb472.get (by decide) (hb466.get (by decide) (hF460.get (by decide) (hb456.get (by decide) (hF98.get (by decide) (hF70.get (by decide) (hF61.get (by decide) (hF51.get (by decide) (hF30.get (by decide) (hF21.get (by decide) (hF12.get (by decide) h0_1)))))))))))))) rfl) ?_
        obtain ⟨f58_562, f58_564, f58_566, h58_568, hb563, hb565, hb567⟩ := (hI552 58 (by decide) : cp58 (wget w550 58))
        refine xg_t (xg_getf (va := (0, f58_564)) (hb561.get (by decide) (hb558.get (by decide) h58_568)) rfl) ?_
        refine xg_iastK (n := 5) (u := f58_564) hr560 xnm0 xnm0 rfl (by omega) (fun w569 hr570 hb571 => ?_)
        refine xg_t (xg_aload (va := (2, 0)) rfl rfl) ?_
        refine xg_t (xg_getf (va := (2, 80)) (hb571.get (by decide) (hb561.get (by decide) (hb558.get (by decide) (hF553.get (by decide) (hb472.get (by decide) (hb466.get (by decide) (hF460.get (by decide) (hb456.get (by decide) (hF98.get (by decide) (hF70.get (by decide) (hF61.get (by decide) (hF51.get (by decide) (hF30.get (by decide) (hF21.get (by decide) (hF12.get (by decide) h0_1))))))))))))))) rfl) ?_
        refine xg_t (xg_bip) ?_
        refine xg_t (xg_aload (va := (2, 0)) rfl rfl) ?_
        refine xg_cVi mX11_countDark (vs := []) (rest := [(0, 6), (2, 80)]) (cn1 := 0) (sl1 := 0) rfl (scCountDark (xInv.up (S := [80]) hI552 (((xFr.of (S := [80]) hb558 (by decide)).tr (xFr.of (S := [80]) hb561 (by decide))).tr (xFr.of (S := [80]) hb571 (by decide))) (List.forall_mem_cons.mpr ⟨(show cpI 11 48 4294967295 (wget w569 80) from ⟨_, hr570, xrb (by omega) (xrb (by omega) (xrb (by omega) (xrb (by omega) (xrb (by omega) (xrb (by omega) (hb453))))))⟩), fun _ h => absurd h List.not_mem_nil⟩))) rfl (hb571.get (by decide) (hb561.get (by decide) (hb558.get (by decide) (hF553.get (by decide) (hb472.get (by decide) (hb466.get (by decide) (hF460.get (by decide) (hb456.get (by decide) (hF98.get (by decide) (hF70.get (by decide) (hF61.get (by decide) (hF51.get (by decide) (hF30.get (by decide) (hF21.get (by decide) (hF12.get (by decide) h0_1))))))))))))))) rfl rfl rfl rfl rfl rfl (fun n576 w572 hq573 => ?_)
        obtain ⟨hn577, hI574, hF575⟩ := hq573
        refine xg_iastK (n := 6) (u := n576) (hr570.fr hF575 (by decide)) xnm0 xnm0 rfl (by omega) (fun w578 hr579 hb580 => ?_)
        refine xg_t (xg_aload (va := (2, 0)) rfl rfl) ?_
        refine xg_t (xg_getf (va := (2, 80)) (hb580.get (by decide) (hF575.get (by decide) (hb571.get (by decide) (hb561.get (by decide) (hb558.get (by decide) (hF553.get (by decide) (hb472.get (by decide) (hb466.get (by decide) (hF460.get (by decide) (hb456.get (by decide) (hF98.get (by decide) (hF70.get (by decide) (hF61.get (by decide) (hF51.get (by decide) (hF30.get (by decide) (hF21.get (by decide) (hF12.get (by decide) h0_1))))))))))))))))) rfl) ?_
        refine xg_t (xg_bip) ?_
        refine xg_t (xg_sip) ?_
        refine xg_t (xg_aload (va := (2, 0)) rfl rfl) ?_
        refine xg_t (xg_getf (va := (2, 72)) (hb580.get (by decide) (hF575.get (by decide) (hb571.get (by decide) (hb561.get (by decide) (hb558.get (by decide) (hF553.get (by decide) (hb472.get (by decide) (hb466.get (by decide) (hF460.get (by decide) (hb456.get (by decide) (hF98.get (by decide) (hF70.get (by decide) (hF61.get (by decide) (hF51.get (by decide) (hF30.get (by decide) (hF21.get (by decide) (hF12.get (by decide) h0_1))))))))))))))))) rfl) ?_
        refine xg_t (xg_const) ?_
        refine xg_t (xg_const) ?_
        refine xg_t (xg_aload (va := (2, 3)) rfl rfl) ?_
        refine xg_t (xg_getf (va := (0, f3_84)) (hb580.get (by decide) (hF575.get (by decide) (hb571.get (by decide) (hb561.get (by decide) (hb558.get (by decide) (hF553.get (by decide) (hb472.get (by decide) (hb466.get (by decide) (hF460.get (by decide) (hb456.get (by decide) (hF98.get (by decide) h3_94))))))))))) rfl) ?_
        refine xg_t (xg_aload (va := (2, 3)) rfl rfl) ?_
        refine xg_t (xg_getf (va := (0, f3_86)) (hb580.get (by decide) (hF575.get (by decide) (hb571.get (by decide) (hb561.get (by decide) (hb558.get (by decide) (hF553.get (by decide) (hb472.get (by decide) (hb466.get (by decide) (hF460.get (by decide) (hb456.get (by decide) (hF98.get (by decide) h3_94))))))))))) rfl) ?_
        obtain ⟨f72_581, f72_583, h72_585, hb582, hb584⟩ := (hI574 72 (by decide) : cp72 (wget w572 72))
        refine xg_cVi mX7_worthOf (vs := [(0, 0), (0, 0), (0, f3_84), (0, f3_86)]) (rest := [(0, 9999), (0, 7), (2, 80)]) (cn1 := 0) (sl1 := 0) rfl (shWorthOf (xInv.up (S := [80]) hI574 (xFr.of (S := [80]) hb580 (by decide)) (List.forall_mem_cons.mpr ⟨(show cpI 11 48 4294967295 (wget w578 80) from ⟨_, hr579, xrb (by omega) (xrb (by omega) (xrb (by omega) (xrb (by omega) (xrb (by omega) (xrb (by omega) (xrb (by omega) (hb453)))))))⟩), fun _ h => absurd h List.not_mem_nil⟩)) (by omega) (by omega) (by omega) (by omega)) rfl (hb580.get (by decide) h72_585) rfl rfl rfl rfl rfl rfl (fun n590 w586 hq587 => ?_)
        obtain ⟨hn591, hI588, hF589⟩ := hq587
        refine xg_minK (u := 9999) (v := n590) xnm0 xnm0 xmx_ok (by omega) (by omega) (fun z592 hz593 hz594 hz595 hz596 => ?_)
        unfold xbs at hz594 hz595
        refine xg_iastK (n := 7) (u := z592) (hr579.fr hF589 (by decide)) xnm0 xnm0 rfl (by omega) (fun w597 hr598 hb599 => ?_)
        refine xg_t (xg_aload (va := (2, 0)) rfl rfl) ?_
        refine xg_t (xg_getf (va := (2, 80)) (hb599.get (by decide) (hF589.get (by decide) (hb580.get (by decide) (hF575.get (by decide) (hb571.get (by decide) (hb561.get (by decide) (hb558.get (by decide) (hF553.get (by decide) (hb472.get (by decide) (hb466.get (by decide) (hF460.get (by decide) (hb456.get (by decide) (hF98.get (by decide) (hF70.get (by decide) (hF61.get (by decide) (hF51.get (by decide) (hF30.get (by decide) (hF21.get (by decide) (hF12.get (by decide) h0_1))))))))))))))))))) rfl) ?_
        refine xg_t (xg_bip) ?_
        refine xg_t (xg_aload (va := (2, 0)) rfl rfl) ?_
        refine xg_t (xg_getf (va := (2, 1)) (hb599.get (by decide) (hF589.get (by decide) (hb580.get (by decide) (hF575.get (by decide) (hb571.get (by decide) (hb561.get (by decide) (hb558.get (by decide) (hF553.get (by decide) (hb472.get (by decide) (hb466.get (by decide) (hF460.get (by decide) (hb456.get (by decide) (hF98.get (by decide) (hF70.get (by decide) (hF61.get (by decide) (hF51.get (by decide) (hF30.get (by decide) (hF21.get (by decide) (hF12.get (by decide) h0_1))))))))))))))))))) rfl) ?_
        refine xg_cVi mX9_cracksInView (vs := []) (rest := [(0, 8), (2, 80)]) (cn1 := 0) (sl1 := 0) rfl (tdCracksInView (xInv.up (S := [80]) hI588 (xFr.of (S := [80]) hb599 (by decide)) (List.forall_mem_cons.mpr ⟨(show cpI 11 48 4294967295 (wget w597 80) from ⟨_, hr598, xrb (by omega) (xrb (by omega) (xrb (by omega) (xrb (by omega) (xrb (by omega) (xrb (by omega) (xrb (by omega) (xrb (by omega) (hb453))))))))⟩), fun _ h => absurd h List.not_mem_nil⟩))) rfl (hb599.get (by decide) (hF589.get (by decide) (hb580.get (by decide) (hF575.get (by decide) (hb571.get (by decide) (hb561.get (by decide) (hb558.get (by decide) (hF553.get (by decide) (hb472.get (by decide) (hb466.get (by decide) (hF460.get (by decide) (hb456.get (by decide) (hF98.get (by decide) h1_83))))))))))))) rfl rfl rfl rfl rfl rfl (fun n604 w600 hq601 => ?_)
        obtain ⟨hn605, hI602, hF603⟩ := hq601
        refine xg_iastK (n := 8) (u := n604) (hr598.fr hF603 (by decide)) xnm0 xnm0 rfl (by omega) (fun w606 hr607 hb608 => ?_)
        refine xg_t (xg_aload (va := (2, 0)) rfl rfl) ?_
        refine xg_t (xg_getf (va := (2, 80)) (hb608.get (by decide) (hF603.get (by decide) (hb599.get (by decide) (hF589.get (by decide) (hb580.get (by decide) (hF575.get (by decide) (hb571.get (by decide) (hb561.get (by decide) (hb558.get (by decide) (hF553.get (by decide) (hb472.get (by decide) (hb466.get (by decide) (hF460.get (by decide) (hb456.get (by decide) (hF98.get (by decide) (hF70.get (by decide) (hF61.get (by decide) (hF51.get (by decide) (hF30.get (by decide) (hF21.get (by decide) (hF12.get (by decide) h0_1))))))))))))))))))))) rfl) ?_
        refine xg_t (xg_bip) ?_
        refine xg_t (xg_aload (va := (2, 0)) rfl rfl) ?_
        refine xg_t (xg_getf (va := (2, 76)) (hb608.get (by decide) (hF603.get (by decide) (hb599.get (by decide) (hF589.get (by decide) (hb580.get (by decide) (hF575.get (by decide) (hb571.get (by decide) (hb561.get (by decide) (hb558.get (by decide) (hF553.get (by decide) (hb472.get (by decide) (hb466.get (by decide) (hF460.get (by decide) (hb456.get (by decide) (hF98.get (by decide) (hF70.get (by decide) (hF61.get (by decide) (hF51.get (by decide) (hF30.get (by decide) (hF21.get (by decide) (hF12.get (by decide) h0_1))))))))))))))))))))) rfl) ?_
        obtain ⟨f76_609, f76_611, f76_613, f76_615, f76_617, f76_619, f76_621, f76_623, h76_625, hb610, hb612, hb614, hb616, hb618, hb620, hb622, hb624⟩ := (hI602 76 (by decide) : cp76 (wget w600 76))
        refine xg_t (xg_getf (va := (0, f76_609)) (hb608.get (by decide) h76_625) rfl) ?_
        refine xg_iastK (n := 9) (u := f76_609) hr607 xnm0 xnm0 rfl (by omega) (fun w626 hr627 hb628 => ?_)
        refine xg_t (xg_aload (va := (2, 0)) rfl rfl) ?_
        refine xg_t (xg_getf (va := (2, 80)) (hb628.get (by decide) (hb608.get (by decide) (hF603.get (by decide) (hb599.get (by decide) (hF589.get (by decide) (hb580.get (by decide) (hF575.get (by decide) (hb571.get (by decide) (hb561.get (by decide) (hb558.get (by decide) (hF553.get (by decide) (hb472.get (by decide) (hb466.get (by decide) (hF460.get (by decide) (hb456.get (by decide) (hF98.get (by decide) (hF70.get (by decide) (hF61.get (by decide) (hF51.get (by decide) (hF30.get (by decide) (hF21.get (by decide) (hF12.get (by decide) h0_1)))))))))))))))))))))) rfl) ?_
        refine xg_t (xg_bip) ?_
        refine xg_t (xg_aload (va := (2, 0)) rfl rfl) ?_
        refine xg_t (xg_getf (va := (2, 1)) (hb628.get (by decide) (hb608.get (by decide) (hF603.get (by decide) (hb599.get (by decide) (hF589.get (by decide) (hb580.get (by decide) (hF575.get (by decide) (hb571.get (by decide) (hb561.get (by decide) (hb558.get (by decide) (hF553.get (by decide) (hb472.get (by decide) (hb466.get (by decide) (hF460.get (by decide) (hb456.get (by decide) (hF98.get (by decide) (hF70.get (by decide) (hF61.get (by decide) (hF51.get (by decide) (hF30.get (by decide) (hF21.get (by decide) (hF12.get (by decide) h0_1)))))))))))))))))))))) rfl) ?_
        refine xg_t (xg_getf (va := (0, f1_77)) (hb628.get (by decide) (hb608.get (by decide) (hF603.get (by decide) (hb599.get (by decide) (hF589.get (by decide) (hb580.get (by decide) (hF575.get (by decide) (hb571.get (by decide) (hb561.get (by decide) (hb558.get (by decide) (hF553.get (by decide) (hb472.get (by decide) (hb466.get (by decide) (hF460.get (by decide) (hb456.get (by decide) (hF98.get (by decide) h1_83)))))))))))))))) rfl) ?_
        refine xg_iastK (n := 10) (u := f1_77) hr627 xnm0 xnm0 rfl (by omega) (fun w629 hr630 hb631 => ?_)
        exact xg_e ⟨w629, ⟨rfl, rfl⟩, xInv.up (S := [80]) hI602 (((xFr.of (S := [80]) hb608 (by decide)).tr (xFr.of (S := [80]) hb628 (by decide))).tr (xFr.of (S := [80]) hb631 (by decide))) (List.forall_mem_cons.mpr ⟨(show cpI 11 48 4294967295 (wget w629 80) from ⟨_, hr630, xrb (by omega) (xrb (by omega) (xrb (by omega) (xrb (by omega) (xrb (by omega) (xrb (by omega) (xrb (by omega) (xrb (by omega) (xrb (by omega) (xrb (by omega) (xrb (by omega) (hb453)))))))))))⟩), fun _ h => absurd h List.not_mem_nil⟩), ((((((((((((((((((hF12.up (by decide)).tr (hF21.up (by decide))).tr (hF30.up (by decide))).tr (hF51.up (by decide))).tr (hF61.up (by decide))).tr (hF70.up (by decide))).tr (hF98.up (by decide))).tr (xFr.of (S := [50, 51, 52, 53, 54, 55, 58, 59, 60, 61, 62, 63, 64, 65, 66, 67, 68, 69, 70, 71, 72, 73, 76, 77, 80]) hb456 (by decide))).tr (hF460.up (by decide))).tr ((xFr.of (S := [50, 51, 52, 53, 54, 55, 58, 59, 60, 61, 62, 63, 64, 65, 66, 67, 68, 69, 70, 71, 72, 73, 76, 77, 80]) hb466 (by decide)).tr (xFr.of (S := [50, 51, 52, 53, 54, 55, 58, 59, 60, 61, 62, 63, 64, 65, 66, 67, 68, 69, 70, 71, 72, 73, 76, 77, 80]) hb472 (by decide)))).tr (hF553.up (by decide))).tr (((xFr.of (S := [50, 51, 52, 53, 54, 55, 58, 59, 60, 61, 62, 63, 64, 65, 66, 67, 68, 69, 70, 71, 72, 73, 76, 77, 80]) hb558 (by decide)).tr (xFr.of (S := [50, 51, 52, 53, 54, 55, 58, 59, 60, 61, 62, 63, 64, 65, 66, 67, 68, 69, 70, 71, 72, 73, 76, 77, 80]) hb561 (by decide))).tr (xFr.of (S := [50, 51, 52, 53, 54, 55, 58, 59, 60, 61, 62, 63, 64, 65, 66, 67, 68, 69, 70, 71, 72, 73, 76, 77, 80]) hb571 (by decide)))).tr (hF575.up (by decide))).tr (xFr.of (S := [50, 51, 52, 53, 54, 55, 58, 59, 60, 61, 62, 63, 64, 65, 66, 67, 68, 69, 70, 71, 72, 73, 76, 77, 80]) hb580 (by decide))).tr (hF589.up (by decide))).tr (xFr.of (S := [50, 51, 52, 53, 54, 55, 58, 59, 60, 61, 62, 63, 64, 65, 66, 67, 68, 69, 70, 71, 72, 73, 76, 77, 80]) hb599 (by decide))).tr (hF603.up (by decide))).tr (((xFr.of (S := [50, 51, 52, 53, 54, 55, 58, 59, 60, 61, 62, 63, 64, 65, 66, 67, 68, 69, 70, 71, 72, 73, 76, 77, 80]) hb608 (by decide)).tr (xFr.of (S := [50, 51, 52, 53, 54, 55, 58, 59, 60, 61, 62, 63, 64, 65, 66, 67, 68, 69, 70, 71, 72, 73, 76, 77, 80]) hb628 (by decide))).tr (xFr.of (S := [50, 51, 52, 53, 54, 55, 58, 59, 60, 61, 62, 63, 64, 65, 66, 67, 68, 69, 70, 71, 72, 73, 76, 77, 80]) hb631 (by decide)))), (((((((((((((((((((hx52.2.kp (hF61.1 20 (by decide)) (hF61.1 21 (by decide)) (hF61.1 76 (by decide)) (hF61.1 77 (by decide))).kp (hF70.1 20 (by decide)) (hF70.1 21 (by decide)) (hF70.1 76 (by decide)) (hF70.1 77 (by decide))).kp (hF98.1 20 (by decide)) (hF98.1 21 (by decide)) (hF98.1 76 (by decide)) (hF98.1 77 (by decide))).kp (hb456.1 20 (by decide)) (hb456.1 21 (by decide)) (hb456.1 76 (by decide)) (hb456.1 77 (by decide))).kp (hF460.1 20 (by decide)) (hF460.1 21 (by decide)) (hF460.1 76 (by decide)) (hF460.1 77 (by decide))).kp (hb466.1 20 (by decide)) (hb466.1 21 (by decide)) (hb466.1 76 (by decide)) (hb466.1 77 (by decide))).kp (hb472.1 20 (by decide)) (hb472.1 21 (by decide)) (hb472.1 76 (by decide)) (hb472.1 77 (by decide))).kp (hF553.1 20 (by decide)) (hF553.1 21 (by decide)) (hF553.1 76 (by decide)) (hF553.1 77 (by decide))).kp (hb558.1 20 (by decide)) (hb558.1 21 (by decide)) (hb558.1 76 (by decide)) (hb558.1 77 (by decide))).kp (hb561.1 20 (by decide)) (hb561.1 21 (by decide)) (hb561.1 76 (by decide)) (hb561.1 77 (by decide))).kp (hb571.1 20 (by decide)) (hb571.1 21 (by decide)) (hb571.1 76 (by decide)) (hb571.1 77 (by decide))).kp (hF575.1 20 (by decide)) (hF575.1 21 (by decide)) (hF575.1 76 (by decide)) (hF575.1 77 (by decide))).kp (hb580.1 20 (by decide)) (hb580.1 21 (by decide)) (hb580.1 76 (by decide)) (hb580.1 77 (by decide))).kp (hF589.1 20 (by decide)) (hF589.1 21 (by decide)) (hF589.1 76 (by decide)) (hF589.1 77 (by decide))).kp (hb599.1 20 (by decide)) (hb599.1 21 (by decide)) (hb599.1 76 (by decide)) (hb599.1 77 (by decide))).kp (hF603.1 20 (by decide)) (hF603.1 21 (by decide)) (hF603.1 76 (by decide)) (hF603.1 77 (by decide))).kp (hb608.1 20 (by decide)) (hb608.1 21 (by decide)) (hb608.1 76 (by decide)) (hb608.1 77 (by decide))).kp (hb628.1 20 (by decide)) (hb628.1 21 (by decide)) (hb628.1 76 (by decide)) (hb628.1 77 (by decide))).kp (hb631.1 20 (by decide)) (hb631.1 21 (by decide)) (hb631.1 76 (by decide)) (hb631.1 77 (by decide)))⟩
    · refine xg_t (xg_ifT (u := n461) rfl xnm0 (xj_neT hc463)) ?_
      refine xg_t (xg_blk (b := [(87, 1, 3, 0, 0, 0)]) rfl) ?_
      refine xg_t (xg_const) ?_
      refine xg_t (xg_blk (b := [(88, 1, 17, 0, 0, 0), (89, 1, 0, 0, 0, 0), (90, 3, 1, 11, 9, 83), (93, 1, 3, 2, 0, 0), (94, 1, 0, 1, 0, 0), (95, 3, 1, 1, 0, 112), (98, 3, 1, 5, 3, 151), (101, 1, 17, 0, 0, 0), (102, 1, 0, 0, 0, 0), (103, 3, 1, 11, 9, 83), (106, 1, 3, 3, 0, 0), (107, 1, 0, 1, 0, 0), (108, 3, 1, 1, 0, 112), (111, 3, 1, 5, 3, 151), (114, 3, 7, 121, 1, 0), (117, 1, 3, 0, 0, 0), (118, 3, 8, 128, 0, 0)]) rfl) ?_
      refine xg_iastK (n := 1) (u := 0) (hr455.fr hF460 (by decide)) xnm0 xnm0 rfl (by omega) (fun w632 hr633 hb634 => ?_)
      refine xg_t (xg_aload (va := (2, 0)) rfl rfl) ?_
      refine xg_t (xg_getf (va := (2, 80)) (hb634.get (by decide) (hF460.get (by decide) (hb456.get (by decide) (hF98.get (by decide) (hF70.get (by decide) (hF61.get (by decide) (hF51.get (by decide) (hF30.get (by decide) (hF21.get (by decide) (hF12.get (by decide) h0_1)))))))))) rfl) ?_
      refine xg_t (xg_const) ?_
      refine xg_t (xg_aload (va := (2, 3)) rfl rfl) ?_
      refine xg_t (xg_getf (va := (2, 4)) (hb634.get (by decide) (hF460.get (by decide) (hb456.get (by decide) (hF98.get (by decide) h3_94)))) rfl) ?_
      obtain ⟨f4_635, h4_637, hb636⟩ := (hI459 4 (by decide) : cp4 (wget w457 4))
      refine xg_t (xg_getf (va := (0, f4_635)) (hb634.get (by decide) h4_637) rfl) ?_
      refine xg_iastK (n := 2) (u := f4_635) hr633 xnm0 xnm0 rfl (by omega) (fun w638 hr639 hb640 => ?_)
      refine xg_t (xg_aload (va := (2, 0)) rfl rfl) ?_
      refine xg_t (xg_getf (va := (2, 80)) (hb640.get (by decide) (hb634.get (by decide) (hF460.get (by decide) (hb456.get (by decide) (hF98.get (by decide) (hF70.get (by decide) (hF61.get (by decide) (hF51.get (by decide) (hF30.get (by decide) (hF21.get (by decide) (hF12.get (by decide) h0_1))))))))))) rfl) ?_
      refine xg_t (xg_const) ?_
      refine xg_t (xg_aload (va := (2, 3)) rfl rfl) ?_
      refine xg_t (xg_getf (va := (2, 4)) (hb640.get (by decide) (hb634.get (by decide) (hF460.get (by decide) (hb456.get (by decide) (hF98.get (by decide) h3_94))))) rfl) ?_
      refine xg_t (xg_getf (va := (0, f4_635)) (hb640.get (by decide) (hb634.get (by decide) h4_637)) rfl) ?_
      by_cases hc641 : f4_635 = 0
      · refine xg_t (xg_ifF (u := f4_635) rfl xnm0 (xj_neF hc641)) ?_
        refine xg_t (xg_const) ?_
        refine xg_t (xg_goto) ?_
        refine xg_t (xg_blk (b := [(128, 1, 17, 0, 0, 0), (129, 1, 0, 0, 0, 0), (130, 3, 1, 11, 9, 83), (133, 1, 3, 4, 0, 0), (134, 1, 0, 1, 0, 0), (135, 3, 1, 1, 7, 225), (138, 1, 17, 0, 0, 0), (139, 1, 0, 0, 0, 0), (140, 3, 1, 11, 9, 83), (143, 1, 3, 5, 0, 0), (144, 1, 0, 0, 0, 0), (145, 3, 1, 11, 5, 52), (148, 3, 1, 10, 11, 222), (151, 1, 17, 0, 0, 0), (152, 1, 0, 0, 0, 0), (153, 3, 1, 11, 9, 83), (156, 2, 4, 6, 0, 0), (158, 1, 0, 0, 0, 0), (159, 3, 13, 45, 88, 291), (162, 1, 17, 0, 0, 0), (163, 1, 0, 0, 0, 0), (164, 3, 1, 11, 9, 83), (167, 2, 4, 7, 0, 0), (169, 3, 5, 9999, 0, 0), (172, 1, 0, 0, 0, 0), (173, 3, 1, 11, 7, 66), (176, 1, 3, 0, 0, 0), (177, 1, 3, 0, 0, 0), (178, 1, 0, 1, 0, 0), (179, 3, 1, 1, 5, 297), (182, 1, 0, 1, 0, 0), (183, 3, 1, 1, 6, 300), (186, 3, 13, 310, 56, 306), (189, 3, 63, 0, 0, 403), (192, 1, 17, 0, 0, 0), (193, 1, 0, 0, 0, 0), (194, 3, 1, 11, 9, 83), (197, 2, 4, 8, 0, 0), (199, 1, 0, 0, 0, 0), (200, 3, 1, 11, 0, 10), (203, 3, 13, 323, 72, 216), (206, 1, 17, 0, 0, 0), (207, 1, 0, 0, 0, 0), (208, 3, 1, 11, 9, 83), (211, 2, 4, 9, 0, 0), (213, 1, 0, 0, 0, 0), (214, 3, 1, 11, 8, 79), (217, 3, 1, 4, 4, 328), (220, 1, 17, 0, 0, 0), (221, 1, 0, 0, 0, 0), (222, 3, 1, 11, 9, 83), (225, 2, 4, 10, 0, 0), (227, 1, 0, 0, 0, 0), (228, 3, 1, 11, 0, 10), (231, 3, 1, 9, 6, 186), (234, 1, 17, 0, 0, 0), (235, 1, 12, 0, 0, 0)]) rfl) ?_
        refine xg_iastK (n := 3) (u := 0) hr639 xnm0 xnm0 rfl (by omega) (fun w642 hr643 hb644 => ?_)
        refine xg_t (xg_aload (va := (2, 0)) rfl rfl) ?_
        refine xg_t (xg_getf (va := (2, 80)) (hb644.get (by decide) (hb640.get (by decide) (hb634.get (by decide) (hF460.get (by decide) (hb456.get (by decide) (hF98.get (by decide) (hF70.get (by decide) (hF61.get (by decide) (hF51.get (by decide) (hF30.get (by decide) (hF21.get (by decide) (hF12.get (by decide) h0_1)))))))))))) rfl) ?_
        refine xg_t (xg_const) ?_
        refine xg_t (xg_aload (va := (2, 3)) rfl rfl) ?_
        refine xg_t (xg_getf (va := (0, f3_88)) (hb644.get (by decide) (hb640.get (by decide) (hb634.get (by decide) (hF460.get (by decide) (hb456.get (by decide) (hF98.get (by decide) h3_94)))))) rfl) ?_
        refine xg_iastK (n := 4) (u := f3_88) hr643 xnm0 xnm0 rfl (by omega) (fun w645 hr646 hb647 => ?_)
        refine xg_t (xg_aload (va := (2, 0)) rfl rfl) ?_
        refine xg_t (xg_getf (va := (2, 80)) (hb647.get (by decide) (hb644.get (by decide) (hb640.get (by decide) (hb634.get (by decide) (hF460.get (by decide) (hb456.get (by decide) (hF98.get (by decide) (hF70.get (by decide) (hF61.get (by decide) (hF51.get (by decide) (hF30.get (by decide) (hF21.get (by decide) (hF12.get (by decide) h0_1))))))))))))) rfl) ?_
        refine xg_t (xg_const) ?_
        refine xg_t (xg_aload (va := (2, 0)) rfl rfl) ?_
        refine xg_t (xg_getf (va := (2, 58)) (hb647.get (by decide) (hb644.get (by decide) (hb640.get (by decide) (hb634.get (by decide) (hF460.get (by decide) (hb456.get (by decide) (hF98.get (by decide) (hF70.get (by decide) (hF61.get (by decide) (hF51.get (by decide) (hF30.get (by decide) (hF21.get (by decide) (hF12.get (by decide) h0_1))))))))))))) rfl) ?_
        obtain ⟨f58_648, f58_650, f58_652, h58_654, hb649, hb651, hb653⟩ := (hI459 58 (by decide) : cp58 (wget w457 58))
        refine xg_t (xg_getf (va := (0, f58_650)) (hb647.get (by decide) (hb644.get (by decide) (hb640.get (by decide) (hb634.get (by decide) h58_654)))) rfl) ?_
        refine xg_iastK (n := 5) (u := f58_650) hr646 xnm0 xnm0 rfl (by omega) (fun w655 hr656 hb657 => ?_)
        refine xg_t (xg_aload (va := (2, 0)) rfl rfl) ?_
        refine xg_t (xg_getf (va := (2, 80)) (hb657.get (by decide) (hb647.get (by decide) (hb644.get (by decide) (hb640.get (by decide) (hb634.get (by decide) (hF460.get (by decide) (hb456.get (by decide) (hF98.get (by decide) (hF70.get (by decide) (hF61.get (by decide) (hF51.get (by decide) (hF30.get (by decide) (hF21.get (by decide) (hF12.get (by decide) h0_1)))))))))))))) rfl) ?_
        refine xg_t (xg_bip) ?_
        refine xg_t (xg_aload (va := (2, 0)) rfl rfl) ?_
        refine xg_cVi mX11_countDark (vs := []) (rest := [(0, 6), (2, 80)]) (cn1 := 0) (sl1 := 0) rfl (scCountDark (xInv.up (S := [80]) hI459 (((((xFr.of (S := [80]) hb634 (by decide)).tr (xFr.of (S := [80]) hb640 (by decide))).tr (xFr.of (S := [80]) hb644 (by decide))).tr (xFr.of (S := [80]) hb647 (by decide))).tr (xFr.of (S := [80]) hb657 (by decide))) (List.forall_mem_cons.mpr ⟨(show cpI 11 48 4294967295 (wget w655 80) from ⟨_, hr656, xrb (by omega) (xrb (by omega) (xrb (by omega) (xrb (by omega) (xrb (by omega) (xrb (by omega) (hb453))))))⟩), fun _ h => absurd h List.not_mem_nil⟩))) rfl (hb657.get (by decide) (hb647.get (by decide) (hb644.get (by decide) (hb640.get (by decide) (hb634.get (by decide) (hF460.get (by decide) (hb456.get (by decide) (hF98.get (by decide) (hF70.get (by decide) (hF61.get (by decide) (hF51.get (by decide) (hF30.get (by decide) (hF21.get (by decide) (hF12.get (by decide) h0_1)))))))))))))) rfl rfl rfl rfl rfl rfl (fun n662 w658 hq659 => ?_)
        obtain ⟨hn663, hI660, hF661⟩ := hq659
        refine xg_iastK (n := 6) (u := n662) (hr656.fr hF661 (by decide)) xnm0 xnm0 rfl (by omega) (fun w664 hr665 hb666 => ?_)
        refine xg_t (xg_aload (va := (2, 0)) rfl rfl) ?_
        refine xg_t (xg_getf (va := (2, 80)) (hb666.get (by decide) (hF661.get (by decide) (hb657.get (by decide) (hb647.get (by decide) (hb644.get (by decide) (hb640.get (by decide) (hb634.get (by decide) (hF460.get (by decide) (hb456.get (by decide) (hF98.get (by decide) (hF70.get (by decide) (hF61.get (by decide) (hF51.get (by decide) (hF30.get (by decide) (hF21.get (by decide) (hF12.get (by decide) h0_1)))))))))))))))) rfl) ?_
        refine xg_t (xg_bip) ?_
        refine xg_t (xg_sip) ?_
        refine xg_t (xg_aload (va := (2, 0)) rfl rfl) ?_
        refine xg_t (xg_getf (va := (2, 72)) (hb666.get (by decide) (hF661.get (by decide) (hb657.get (by decide) (hb647.get (by decide) (hb644.get (by decide) (hb640.get (by decide) (hb634.get (by decide) (hF460.get (by decide) (hb456.get (by decide) (hF98.get (by decide) (hF70.get (by decide) (hF61.get (by decide) (hF51.get (by decide) (hF30.get (by decide) (hF21.get (by decide) (hF12.get (by decide) h0_1)))))))))))))))) rfl) ?_
        refine xg_t (xg_const) ?_
        refine xg_t (xg_const) ?_
        refine xg_t (xg_aload (va := (2, 3)) rfl rfl) ?_
        refine xg_t (xg_getf (va := (0, f3_84)) (hb666.get (by decide) (hF661.get (by decide) (hb657.get (by decide) (hb647.get (by decide) (hb644.get (by decide) (hb640.get (by decide) (hb634.get (by decide) (hF460.get (by decide) (hb456.get (by decide) (hF98.get (by decide) h3_94)))))))))) rfl) ?_
        refine xg_t (xg_aload (va := (2, 3)) rfl rfl) ?_
        refine xg_t (xg_getf (va := (0, f3_86)) (hb666.get (by decide) (hF661.get (by decide) (hb657.get (by decide) (hb647.get (by decide) (hb644.get (by decide) (hb640.get (by decide) (hb634.get (by decide) (hF460.get (by decide) (hb456.get (by decide) (hF98.get (by decide) h3_94)))))))))) rfl) ?_
        obtain ⟨f72_667, f72_669, h72_671, hb668, hb670⟩ := (hI660 72 (by decide) : cp72 (wget w658 72))
        refine xg_cVi mX7_worthOf (vs := [(0, 0), (0, 0), (0, f3_84), (0, f3_86)]) (rest := [(0, 9999), (0, 7), (2, 80)]) (cn1 := 0) (sl1 := 0) rfl (shWorthOf (xInv.up (S := [80]) hI660 (xFr.of (S := [80]) hb666 (by decide)) (List.forall_mem_cons.mpr ⟨(show cpI 11 48 4294967295 (wget w664 80) from ⟨_, hr665, xrb (by omega) (xrb (by omega) (xrb (by omega) (xrb (by omega) (xrb (by omega) (xrb (by omega) (xrb (by omega) (hb453)))))))⟩), fun _ h => absurd h List.not_mem_nil⟩)) (by omega) (by omega) (by omega) (by omega)) rfl (hb666.get (by decide) h72_671) rfl rfl rfl rfl rfl rfl (fun n676 w672 hq673 => ?_)
        obtain ⟨hn677, hI674, hF675⟩ := hq673
        refine xg_minK (u := 9999) (v := n676) xnm0 xnm0 xmx_ok (by omega) (by omega) (fun z678 hz679 hz680 hz681 hz682 => ?_)
        unfold xbs at hz680 hz681
        refine xg_iastK (n := 7) (u := z678) (hr665.fr hF675 (by decide)) xnm0 xnm0 rfl (by omega) (fun w683 hr684 hb685 => ?_)
        refine xg_t (xg_aload (va := (2, 0)) rfl rfl) ?_
        refine xg_t (xg_getf (va := (2, 80)) (hb685.get (by decide) (hF675.get (by decide) (hb666.get (by decide) (hF661.get (by decide) (hb657.get (by decide) (hb647.get (by decide) (hb644.get (by decide) (hb640.get (by decide) (hb634.get (by decide) (hF460.get (by decide) (hb456.get (by decide) (hF98.get (by decide) (hF70.get (by decide) (hF61.get (by decide) (hF51.get (by decide) (hF30.get (by decide) (hF21.get (by decide) (hF12.get (by decide) h0_1)))))))))))))))))) rfl) ?_
        refine xg_t (xg_bip) ?_
        refine xg_t (xg_aload (va := (2, 0)) rfl rfl) ?_
        refine xg_t (xg_getf (va := (2, 1)) (hb685.get (by decide) (hF675.get (by decide) (hb666.get (by decide) (hF661.get (by decide) (hb657.get (by decide) (hb647.get (by decide) (hb644.get (by decide) (hb640.get (by decide) (hb634.get (by decide) (hF460.get (by decide) (hb456.get (by decide) (hF98.get (by decide) (hF70.get (by decide) (hF61.get (by decide) (hF51.get (by decide) (hF30.get (by decide) (hF21.get (by decide) (hF12.get (by decide) h0_1)))))))))))))))))) rfl) ?_
        refine xg_cVi mX9_cracksInView (vs := []) (rest := [(0, 8), (2, 80)]) (cn1 := 0) (sl1 := 0) rfl (tdCracksInView (xInv.up (S := [80]) hI674 (xFr.of (S := [80]) hb685 (by decide)) (List.forall_mem_cons.mpr ⟨(show cpI 11 48 4294967295 (wget w683 80) from ⟨_, hr684, xrb (by omega) (xrb (by omega) (xrb (by omega) (xrb (by omega) (xrb (by omega) (xrb (by omega) (xrb (by omega) (xrb (by omega) (hb453))))))))⟩), fun _ h => absurd h List.not_mem_nil⟩))) rfl (hb685.get (by decide) (hF675.get (by decide) (hb666.get (by decide) (hF661.get (by decide) (hb657.get (by decide) (hb647.get (by decide) (hb644.get (by decide) (hb640.get (by decide) (hb634.get (by decide) (hF460.get (by decide) (hb456.get (by decide) (hF98.get (by decide) h1_83)))))))))))) rfl rfl rfl rfl rfl rfl (fun n690 w686 hq687 => ?_)
        obtain ⟨hn691, hI688, hF689⟩ := hq687
        refine xg_iastK (n := 8) (u := n690) (hr684.fr hF689 (by decide)) xnm0 xnm0 rfl (by omega) (fun w692 hr693 hb694 => ?_)
        refine xg_t (xg_aload (va := (2, 0)) rfl rfl) ?_
        refine xg_t (xg_getf (va := (2, 80)) (hb694.get (by decide) (hF689.get (by decide) (hb685.get (by decide) (hF675.get (by decide) (hb666.get (by decide) (hF661.get (by decide) (hb657.get (by decide) (hb647.get (by decide) (hb644.get (by decide) (hb640.get (by decide) (hb634.get (by decide) (hF460.get (by decide) (hb456.get (by decide) (hF98.get (by decide) (hF70.get (by decide) (hF61.get (by decide) (hF51.get (by decide) (hF30.get (by decide) (hF21.get (by decide) (hF12.get (by decide) h0_1)))))))))))))))))))) rfl) ?_
        refine xg_t (xg_bip) ?_
        refine xg_t (xg_aload (va := (2, 0)) rfl rfl) ?_
        refine xg_t (xg_getf (va := (2, 76)) (hb694.get (by decide) (hF689.get (by decide) (hb685.get (by decide) (hF675.get (by decide) (hb666.get (by decide) (hF661.get (by decide) (hb657.get (by decide) (hb647.get (by decide) (hb644.get (by decide) (hb640.get (by decide) (hb634.get (by decide) (hF460.get (by decide) (hb456.get (by decide) (hF98.get (by decide) (hF70.get (by decide) (hF61.get (by decide) (hF51.get (by decide) (hF30.get (by decide) (hF21.get (by decide) (hF12.get (by decide) h0_1)))))))))))))))))))) rfl) ?_
        obtain ⟨f76_695, f76_697, f76_699, f76_701, f76_703, f76_705, f76_707, f76_709, h76_711, hb696, hb698, hb700, hb702, hb704, hb706, hb708, hb710⟩ := (hI688 76 (by decide) : cp76 (wget w686 76))
        refine xg_t (xg_getf (va := (0, f76_695)) (hb694.get (by decide) h76_711) rfl) ?_
        refine xg_iastK (n := 9) (u := f76_695) hr693 xnm0 xnm0 rfl (by omega) (fun w712 hr713 hb714 => ?_)
        refine xg_t (xg_aload (va := (2, 0)) rfl rfl) ?_
        refine xg_t (xg_getf (va := (2, 80)) (hb714.get (by decide) (hb694.get (by decide) (hF689.get (by decide) (hb685.get (by decide) (hF675.get (by decide) (hb666.get (by decide) (hF661.get (by decide) (hb657.get (by decide) (hb647.get (by decide) (hb644.get (by decide) (hb640.get (by decide) (hb634.get (by decide) (hF460.get (by decide) (hb456.get (by decide) (hF98.get (by decide) (hF70.get (by decide) (hF61.get (by decide) (hF51.get (by decide) (hF30.get (by decide) (hF21.get (by decide) (hF12.get (by decide) h0_1))))))))))))))))))))) rfl) ?_
        refine xg_t (xg_bip) ?_
        refine xg_t (xg_aload (va := (2, 0)) rfl rfl) ?_
        refine xg_t (xg_getf (va := (2, 1)) (hb714.get (by decide) (hb694.get (by decide) (hF689.get (by decide) (hb685.get (by decide) (hF675.get (by decide) (hb666.get (by decide) (hF661.get (by decide) (hb657.get (by decide) (hb647.get (by decide) (hb644.get (by decide) (hb640.get (by decide) (hb634.get (by decide) (hF460.get (by decide) (hb456.get (by decide) (hF98.get (by decide) (hF70.get (by decide) (hF61.get (by decide) (hF51.get (by decide) (hF30.get (by decide) (hF21.get (by decide) (hF12.get (by decide) h0_1))))))))))))))))))))) rfl) ?_
        refine xg_t (xg_getf (va := (0, f1_77)) (hb714.get (by decide) (hb694.get (by decide) (hF689.get (by decide) (hb685.get (by decide) (hF675.get (by decide) (hb666.get (by decide) (hF661.get (by decide) (hb657.get (by decide) (hb647.get (by decide) (hb644.get (by decide) (hb640.get (by decide) (hb634.get (by decide) (hF460.get (by decide) (hb456.get (by decide) (hF98.get (by decide) h1_83))))))))))))))) rfl) ?_
        refine xg_iastK (n := 10) (u := f1_77) hr713 xnm0 xnm0 rfl (by omega) (fun w715 hr716 hb717 => ?_)
        exact xg_e ⟨w715, ⟨rfl, rfl⟩, xInv.up (S := [80]) hI688 (((xFr.of (S := [80]) hb694 (by decide)).tr (xFr.of (S := [80]) hb714 (by decide))).tr (xFr.of (S := [80]) hb717 (by decide))) (List.forall_mem_cons.mpr ⟨(show cpI 11 48 4294967295 (wget w715 80) from ⟨_, hr716, xrb (by omega) (xrb (by omega) (xrb (by omega) (xrb (by omega) (xrb (by omega) (xrb (by omega) (xrb (by omega) (xrb (by omega) (xrb (by omega) (xrb (by omega) (xrb (by omega) (hb453)))))))))))⟩), fun _ h => absurd h List.not_mem_nil⟩), ((((((((((((((((hF12.up (by decide)).tr (hF21.up (by decide))).tr (hF30.up (by decide))).tr (hF51.up (by decide))).tr (hF61.up (by decide))).tr (hF70.up (by decide))).tr (hF98.up (by decide))).tr (xFr.of (S := [50, 51, 52, 53, 54, 55, 58, 59, 60, 61, 62, 63, 64, 65, 66, 67, 68, 69, 70, 71, 72, 73, 76, 77, 80]) hb456 (by decide))).tr (hF460.up (by decide))).tr (((((xFr.of (S := [50, 51, 52, 53, 54, 55, 58, 59, 60, 61, 62, 63, 64, 65, 66, 67, 68, 69, 70, 71, 72, 73, 76, 77, 80]) hb634 (by decide)).tr (xFr.of (S := [50, 51, 52, 53, 54, 55, 58, 59, 60, 61, 62, 63, 64, 65, 66, 67, 68, 69, 70, 71, 72, 73, 76, 77, 80]) hb640 (by decide))).tr (xFr.of (S := [50, 51, 52, 53, 54, 55, 58, 59, 60, 61, 62, 63, 64, 65, 66, 67, 68, 69, 70, 71, 72, 73, 76, 77, 80]) hb644 (by decide))).tr (xFr.of (S := [50, 51, 52, 53, 54, 55, 58, 59, 60, 61, 62, 63, 64, 65, 66, 67, 68, 69, 70, 71, 72, 73, 76, 77, 80]) hb647 (by decide))).tr (xFr.of (S := [50, 51, 52, 53, 54, 55, 58, 59, 60, 61, 62, 63, 64, 65, 66, 67, 68, 69, 70, 71, 72, 73, 76, 77, 80]) hb657 (by decide)))).tr (hF661.up (by decide))).tr (xFr.of (S := [50, 51, 52, 53, 54, 55, 58, 59, 60, 61, 62, 63, 64, 65, 66, 67, 68, 69, 70, 71, 72, 73, 76, 77, 80]) hb666 (by decide))).tr (hF675.up (by decide))).tr (xFr.of (S := [50, 51, 52, 53, 54, 55, 58, 59, 60, 61, 62, 63, 64, 65, 66, 67, 68, 69, 70, 71, 72, 73, 76, 77, 80]) hb685 (by decide))).tr (hF689.up (by decide))).tr (((xFr.of (S := [50, 51, 52, 53, 54, 55, 58, 59, 60, 61, 62, 63, 64, 65, 66, 67, 68, 69, 70, 71, 72, 73, 76, 77, 80]) hb694 (by decide)).tr (xFr.of (S := [50, 51, 52, 53, 54, 55, 58, 59, 60, 61, 62, 63, 64, 65, 66, 67, 68, 69, 70, 71, 72, 73, 76, 77, 80]) hb714 (by decide))).tr (xFr.of (S := [50, 51, 52, 53, 54, 55, 58, 59, 60, 61, 62, 63, 64, 65, 66, 67, 68, 69, 70, 71, 72, 73, 76, 77, 80]) hb717 (by decide)))), ((((((((((((((((((hx52.2.kp (hF61.1 20 (by decide)) (hF61.1 21 (by decide)) (hF61.1 76 (by decide)) (hF61.1 77 (by decide))).kp (hF70.1 20 (by decide)) (hF70.1 21 (by decide)) (hF70.1 76 (by decide)) (hF70.1 77 (by decide))).kp (hF98.1 20 (by decide)) (hF98.1 21 (by decide)) (hF98.1 76 (by decide)) (hF98.1 77 (by decide))).kp (hb456.1 20 (by decide)) (hb456.1 21 (by decide)) (hb456.1 76 (by decide)) (hb456.1 77 (by decide))).kp (hF460.1 20 (by decide)) (hF460.1 21 (by decide)) (hF460.1 76 (by decide)) (hF460.1 77 (by decide))).kp (hb634.1 20 (by decide)) (hb634.1 21 (by decide)) (hb634.1 76 (by decide)) (hb634.1 77 (by decide))).kp (hb640.1 20 (by decide)) (hb640.1 21 (by decide)) (hb640.1 76 (by decide)) (hb640.1 77 (by decide))).kp (hb644.1 20 (by decide)) (hb644.1 21 (by decide)) (hb644.1 76 (by decide)) (hb644.1 77 (by decide))).kp (hb647.1 20 (by decide)) (hb647.1 21 (by decide)) (hb647.1 76 (by decide)) (hb647.1 77 (by decide))).kp (hb657.1 20 (by decide)) (hb657.1 21 (by decide)) (hb657.1 76 (by decide)) (hb657.1 77 (by decide))).kp (hF661.1 20 (by decide)) (hF661.1 21 (by decide)) (hF661.1 76 (by decide)) (hF661.1 77 (by decide))).kp (hb666.1 20 (by decide)) (hb666.1 21 (by decide)) (hb666.1 76 (by decide)) (hb666.1 77 (by decide))).kp (hF675.1 20 (by decide)) (hF675.1 21 (by decide)) (hF675.1 76 (by decide)) (hF675.1 77 (by decide))).kp (hb685.1 20 (by decide)) (hb685.1 21 (by decide)) (hb685.1 76 (by decide)) (hb685.1 77 (by decide))).kp (hF689.1 20 (by decide)) (hF689.1 21 (by decide)) (hF689.1 76 (by decide)) (hF689.1 77 (by decide))).kp (hb694.1 20 (by decide)) (hb694.1 21 (by decide)) (hb694.1 76 (by decide)) (hb694.1 77 (by decide))).kp (hb714.1 20 (by decide)) (hb714.1 21 (by decide)) (hb714.1 76 (by decide)) (hb714.1 77 (by decide))).kp (hb717.1 20 (by decide)) (hb717.1 21 (by decide)) (hb717.1 76 (by decide)) (hb717.1 77 (by decide)))⟩
      · refine xg_t (xg_ifT (u := f4_635) rfl xnm0 (xj_neT hc641)) ?_
        refine xg_t (xg_blk (b := [(121, 1, 0, 0, 0, 0), (122, 3, 1, 11, 4, 45), (125, 3, 13, 13, 0, 154)]) rfl) ?_
        refine xg_t (xg_aload (va := (2, 0)) rfl rfl) ?_
        refine xg_t (xg_getf (va := (2, 49)) (hb640.get (by decide) (hb634.get (by decide) (hF460.get (by decide) (hb456.get (by decide) (hF98.get (by decide) (hF70.get (by decide) (hF61.get (by decide) (hF51.get (by decide) (hF30.get (by decide) (hF21.get (by decide) (hF12.get (by decide) h0_1))))))))))) rfl) ?_
        refine xg_cVi mX0_leastRound (vs := []) (rest := [(0, 3), (2, 80)]) (cn1 := 0) (sl1 := 0) rfl (bdLeast (xInv.up (S := [80]) hI459 ((xFr.of (S := [80]) hb634 (by decide)).tr (xFr.of (S := [80]) hb640 (by decide))) (List.forall_mem_cons.mpr ⟨(show cpI 11 48 4294967295 (wget w638 80) from ⟨_, hr639, xrb (by omega) (xrb (by omega) (xrb (by omega) (hb453)))⟩), fun _ h => absurd h List.not_mem_nil⟩))) rfl (hb640.get (by decide) (hb634.get (by decide) (hF460.get (by decide) (hb456.get (by decide) (hF98.get (by decide) (hF70.get (by decide) h49_66)))))) rfl rfl rfl rfl rfl rfl (fun n722 w718 hq719 => ?_)
        obtain ⟨hn723, hI720, hF721⟩ := hq719
        refine xg_t (xg_blk (b := [(128, 1, 17, 0, 0, 0), (129, 1, 0, 0, 0, 0), (130, 3, 1, 11, 9, 83), (133, 1, 3, 4, 0, 0), (134, 1, 0, 1, 0, 0), (135, 3, 1, 1, 7, 225), (138, 1, 17, 0, 0, 0), (139, 1, 0, 0, 0, 0), (140, 3, 1, 11, 9, 83), (143, 1, 3, 5, 0, 0), (144, 1, 0, 0, 0, 0), (145, 3, 1, 11, 5, 52), (148, 3, 1, 10, 11, 222), (151, 1, 17, 0, 0, 0), (152, 1, 0, 0, 0, 0), (153, 3, 1, 11, 9, 83), (156, 2, 4, 6, 0, 0), (158, 1, 0, 0, 0, 0), (159, 3, 13, 45, 88, 291), (162, 1, 17, 0, 0, 0), (163, 1, 0, 0, 0, 0), (164, 3, 1, 11, 9, 83), (167, 2, 4, 7, 0, 0), (169, 3, 5, 9999, 0, 0), (172, 1, 0, 0, 0, 0), (173, 3, 1, 11, 7, 66), (176, 1, 3, 0, 0, 0), (177, 1, 3, 0, 0, 0), (178, 1, 0, 1, 0, 0), (179, 3, 1, 1, 5, 297), (182, 1, 0, 1, 0, 0), (183, 3, 1, 1, 6, 300), (186, 3, 13, 310, 56, 306), (189, 3, 63, 0, 0, 403), (192, 1, 17, 0, 0, 0), (193, 1, 0, 0, 0, 0), (194, 3, 1, 11, 9, 83), (197, 2, 4, 8, 0, 0), (199, 1, 0, 0, 0, 0), (200, 3, 1, 11, 0, 10), (203, 3, 13, 323, 72, 216), (206, 1, 17, 0, 0, 0), (207, 1, 0, 0, 0, 0), (208, 3, 1, 11, 9, 83), (211, 2, 4, 9, 0, 0), (213, 1, 0, 0, 0, 0), (214, 3, 1, 11, 8, 79), (217, 3, 1, 4, 4, 328), (220, 1, 17, 0, 0, 0), (221, 1, 0, 0, 0, 0), (222, 3, 1, 11, 9, 83), (225, 2, 4, 10, 0, 0), (227, 1, 0, 0, 0, 0), (228, 3, 1, 11, 0, 10), (231, 3, 1, 9, 6, 186), (234, 1, 17, 0, 0, 0), (235, 1, 12, 0, 0, 0)]) rfl) ?_
        refine xg_iastK (n := 3) (u := n722) (hr639.fr hF721 (by decide)) xnm0 xnm0 rfl (by omega) (fun w724 hr725 hb726 => ?_)
        refine xg_t (xg_aload (va := (2, 0)) rfl rfl) ?_
        refine xg_t (xg_getf (va := (2, 80)) (hb726.get (by decide) (hF721.get (by decide) (hb640.get (by decide) (hb634.get (by decide) (hF460.get (by decide) (hb456.get (by decide) (hF98.get (by decide) (hF70.get (by decide) (hF61.get (by decide) (hF51.get (by decide) (hF30.get (by decide) (hF21.get (by decide) (hF12.get (by decide) h0_1))))))))))))) rfl) ?_
        refine xg_t (xg_const) ?_
        refine xg_t (xg_aload (va := (2, 3)) rfl rfl) ?_
        refine xg_t (xg_getf (va := (0, f3_88)) (hb726.get (by decide) (hF721.get (by decide) (hb640.get (by decide) (hb634.get (by decide) (hF460.get (by decide) (hb456.get (by decide) (hF98.get (by decide) h3_94))))))) rfl) ?_
        refine xg_iastK (n := 4) (u := f3_88) hr725 xnm0 xnm0 rfl (by omega) (fun w727 hr728 hb729 => ?_)
        refine xg_t (xg_aload (va := (2, 0)) rfl rfl) ?_
        refine xg_t (xg_getf (va := (2, 80)) (hb729.get (by decide) (hb726.get (by decide) (hF721.get (by decide) (hb640.get (by decide) (hb634.get (by decide) (hF460.get (by decide) (hb456.get (by decide) (hF98.get (by decide) (hF70.get (by decide) (hF61.get (by decide) (hF51.get (by decide) (hF30.get (by decide) (hF21.get (by decide) (hF12.get (by decide) h0_1)))))))))))))) rfl) ?_
        refine xg_t (xg_const) ?_
        refine xg_t (xg_aload (va := (2, 0)) rfl rfl) ?_
        refine xg_t (xg_getf (va := (2, 58)) (hb729.get (by decide) (hb726.get (by decide) (hF721.get (by decide) (hb640.get (by decide) (hb634.get (by decide) (hF460.get (by decide) (hb456.get (by decide) (hF98.get (by decide) (hF70.get (by decide) (hF61.get (by decide) (hF51.get (by decide) (hF30.get (by decide) (hF21.get (by decide) (hF12.get (by decide) h0_1)))))))))))))) rfl) ?_
        obtain ⟨f58_730, f58_732, f58_734, h58_736, hb731, hb733, hb735⟩ := (hI720 58 (by decide) : cp58 (wget w718 58))
        refine xg_t (xg_getf (va := (0, f58_732)) (hb729.get (by decide) (hb726.get (by decide) h58_736)) rfl) ?_
        refine xg_iastK (n := 5) (u := f58_732) hr728 xnm0 xnm0 rfl (by omega) (fun w737 hr738 hb739 => ?_)
        refine xg_t (xg_aload (va := (2, 0)) rfl rfl) ?_
        refine xg_t (xg_getf (va := (2, 80)) (hb739.get (by decide) (hb729.get (by decide) (hb726.get (by decide) (hF721.get (by decide) (hb640.get (by decide) (hb634.get (by decide) (hF460.get (by decide) (hb456.get (by decide) (hF98.get (by decide) (hF70.get (by decide) (hF61.get (by decide) (hF51.get (by decide) (hF30.get (by decide) (hF21.get (by decide) (hF12.get (by decide) h0_1))))))))))))))) rfl) ?_
        refine xg_t (xg_bip) ?_
        refine xg_t (xg_aload (va := (2, 0)) rfl rfl) ?_
        refine xg_cVi mX11_countDark (vs := []) (rest := [(0, 6), (2, 80)]) (cn1 := 0) (sl1 := 0) rfl (scCountDark (xInv.up (S := [80]) hI720 (((xFr.of (S := [80]) hb726 (by decide)).tr (xFr.of (S := [80]) hb729 (by decide))).tr (xFr.of (S := [80]) hb739 (by decide))) (List.forall_mem_cons.mpr ⟨(show cpI 11 48 4294967295 (wget w737 80) from ⟨_, hr738, xrb (by omega) (xrb (by omega) (xrb (by omega) (xrb (by omega) (xrb (by omega) (xrb (by omega) (hb453))))))⟩), fun _ h => absurd h List.not_mem_nil⟩))) rfl (hb739.get (by decide) (hb729.get (by decide) (hb726.get (by decide) (hF721.get (by decide) (hb640.get (by decide) (hb634.get (by decide) (hF460.get (by decide) (hb456.get (by decide) (hF98.get (by decide) (hF70.get (by decide) (hF61.get (by decide) (hF51.get (by decide) (hF30.get (by decide) (hF21.get (by decide) (hF12.get (by decide) h0_1))))))))))))))) rfl rfl rfl rfl rfl rfl (fun n744 w740 hq741 => ?_)
        obtain ⟨hn745, hI742, hF743⟩ := hq741
        refine xg_iastK (n := 6) (u := n744) (hr738.fr hF743 (by decide)) xnm0 xnm0 rfl (by omega) (fun w746 hr747 hb748 => ?_)
        refine xg_t (xg_aload (va := (2, 0)) rfl rfl) ?_
        refine xg_t (xg_getf (va := (2, 80)) (hb748.get (by decide) (hF743.get (by decide) (hb739.get (by decide) (hb729.get (by decide) (hb726.get (by decide) (hF721.get (by decide) (hb640.get (by decide) (hb634.get (by decide) (hF460.get (by decide) (hb456.get (by decide) (hF98.get (by decide) (hF70.get (by decide) (hF61.get (by decide) (hF51.get (by decide) (hF30.get (by decide) (hF21.get (by decide) (hF12.get (by decide) h0_1))))))))))))))))) rfl) ?_
        refine xg_t (xg_bip) ?_
        refine xg_t (xg_sip) ?_
        refine xg_t (xg_aload (va := (2, 0)) rfl rfl) ?_
        refine xg_t (xg_getf (va := (2, 72)) (hb748.get (by decide) (hF743.get (by decide) (hb739.get (by decide) (hb729.get (by decide) (hb726.get (by decide) (hF721.get (by decide) (hb640.get (by decide) (hb634.get (by decide) (hF460.get (by decide) (hb456.get (by decide) (hF98.get (by decide) (hF70.get (by decide) (hF61.get (by decide) (hF51.get (by decide) (hF30.get (by decide) (hF21.get (by decide) (hF12.get (by decide) h0_1))))))))))))))))) rfl) ?_
        refine xg_t (xg_const) ?_
        refine xg_t (xg_const) ?_
        refine xg_t (xg_aload (va := (2, 3)) rfl rfl) ?_
        refine xg_t (xg_getf (va := (0, f3_84)) (hb748.get (by decide) (hF743.get (by decide) (hb739.get (by decide) (hb729.get (by decide) (hb726.get (by decide) (hF721.get (by decide) (hb640.get (by decide) (hb634.get (by decide) (hF460.get (by decide) (hb456.get (by decide) (hF98.get (by decide) h3_94))))))))))) rfl) ?_
        refine xg_t (xg_aload (va := (2, 3)) rfl rfl) ?_
        refine xg_t (xg_getf (va := (0, f3_86)) (hb748.get (by decide) (hF743.get (by decide) (hb739.get (by decide) (hb729.get (by decide) (hb726.get (by decide) (hF721.get (by decide) (hb640.get (by decide) (hb634.get (by decide) (hF460.get (by decide) (hb456.get (by decide) (hF98.get (by decide) h3_94))))))))))) rfl) ?_
        obtain ⟨f72_749, f72_751, h72_753, hb750, hb752⟩ := (hI742 72 (by decide) : cp72 (wget w740 72))
        refine xg_cVi mX7_worthOf (vs := [(0, 0), (0, 0), (0, f3_84), (0, f3_86)]) (rest := [(0, 9999), (0, 7), (2, 80)]) (cn1 := 0) (sl1 := 0) rfl (shWorthOf (xInv.up (S := [80]) hI742 (xFr.of (S := [80]) hb748 (by decide)) (List.forall_mem_cons.mpr ⟨(show cpI 11 48 4294967295 (wget w746 80) from ⟨_, hr747, xrb (by omega) (xrb (by omega) (xrb (by omega) (xrb (by omega) (xrb (by omega) (xrb (by omega) (xrb (by omega) (hb453)))))))⟩), fun _ h => absurd h List.not_mem_nil⟩)) (by omega) (by omega) (by omega) (by omega)) rfl (hb748.get (by decide) h72_753) rfl rfl rfl rfl rfl rfl (fun n758 w754 hq755 => ?_)
        obtain ⟨hn759, hI756, hF757⟩ := hq755
        refine xg_minK (u := 9999) (v := n758) xnm0 xnm0 xmx_ok (by omega) (by omega) (fun z760 hz761 hz762 hz763 hz764 => ?_)
        unfold xbs at hz762 hz763
        refine xg_iastK (n := 7) (u := z760) (hr747.fr hF757 (by decide)) xnm0 xnm0 rfl (by omega) (fun w765 hr766 hb767 => ?_)
        refine xg_t (xg_aload (va := (2, 0)) rfl rfl) ?_
        refine xg_t (xg_getf (va := (2, 80)) (hb767.get (by decide) (hF757.get (by decide) (hb748.get (by decide) (hF743.get (by decide) (hb739.get (by decide) (hb729.get (by decide) (hb726.get (by decide) (hF721.get (by decide) (hb640.get (by decide) (hb634.get (by decide) (hF460.get (by decide) (hb456.get (by decide) (hF98.get (by decide) (hF70.get (by decide) (hF61.get (by decide) (hF51.get (by decide) (hF30.get (by decide) (hF21.get (by decide) (hF12.get (by decide) h0_1))))))))))))))))))) rfl) ?_
        refine xg_t (xg_bip) ?_
        refine xg_t (xg_aload (va := (2, 0)) rfl rfl) ?_
        refine xg_t (xg_getf (va := (2, 1)) (hb767.get (by decide) (hF757.get (by decide) (hb748.get (by decide) (hF743.get (by decide) (hb739.get (by decide) (hb729.get (by decide) (hb726.get (by decide) (hF721.get (by decide) (hb640.get (by decide) (hb634.get (by decide) (hF460.get (by decide) (hb456.get (by decide) (hF98.get (by decide) (hF70.get (by decide) (hF61.get (by decide) (hF51.get (by decide) (hF30.get (by decide) (hF21.get (by decide) (hF12.get (by decide) h0_1))))))))))))))))))) rfl) ?_
        refine xg_cVi mX9_cracksInView (vs := []) (rest := [(0, 8), (2, 80)]) (cn1 := 0) (sl1 := 0) rfl (tdCracksInView (xInv.up (S := [80]) hI756 (xFr.of (S := [80]) hb767 (by decide)) (List.forall_mem_cons.mpr ⟨(show cpI 11 48 4294967295 (wget w765 80) from ⟨_, hr766, xrb (by omega) (xrb (by omega) (xrb (by omega) (xrb (by omega) (xrb (by omega) (xrb (by omega) (xrb (by omega) (xrb (by omega) (hb453))))))))⟩), fun _ h => absurd h List.not_mem_nil⟩))) rfl (hb767.get (by decide) (hF757.get (by decide) (hb748.get (by decide) (hF743.get (by decide) (hb739.get (by decide) (hb729.get (by decide) (hb726.get (by decide) (hF721.get (by decide) (hb640.get (by decide) (hb634.get (by decide) (hF460.get (by decide) (hb456.get (by decide) (hF98.get (by decide) h1_83))))))))))))) rfl rfl rfl rfl rfl rfl (fun n772 w768 hq769 => ?_)
        obtain ⟨hn773, hI770, hF771⟩ := hq769
        refine xg_iastK (n := 8) (u := n772) (hr766.fr hF771 (by decide)) xnm0 xnm0 rfl (by omega) (fun w774 hr775 hb776 => ?_)
        refine xg_t (xg_aload (va := (2, 0)) rfl rfl) ?_
        refine xg_t (xg_getf (va := (2, 80)) (hb776.get (by decide) (hF771.get (by decide) (hb767.get (by decide) (hF757.get (by decide) (hb748.get (by decide) (hF743.get (by decide) (hb739.get (by decide) (hb729.get (by decide) (hb726.get (by decide) (hF721.get (by decide) (hb640.get (by decide) (hb634.get (by decide) (hF460.get (by decide) (hb456.get (by decide) (hF98.get (by decide) (hF70.get (by decide) (hF61.get (by decide) (hF51.get (by decide) (hF30.get (by decide) (hF21.get (by decide) (hF12.get (by decide) h0_1))))))))))))))))))))) rfl) ?_
        refine xg_t (xg_bip) ?_
        refine xg_t (xg_aload (va := (2, 0)) rfl rfl) ?_
        refine xg_t (xg_getf (va := (2, 76)) (hb776.get (by decide) (hF771.get (by decide) (hb767.get (by decide) (hF757.get (by decide) (hb748.get (by decide) (hF743.get (by decide) (hb739.get (by decide) (hb729.get (by decide) (hb726.get (by decide) (hF721.get (by decide) (hb640.get (by decide) (hb634.get (by decide) (hF460.get (by decide) (hb456.get (by decide) (hF98.get (by decide) (hF70.get (by decide) (hF61.get (by decide) (hF51.get (by decide) (hF30.get (by decide) (hF21.get (by decide) (hF12.get (by decide) h0_1))))))))))))))))))))) rfl) ?_
        obtain ⟨f76_777, f76_779, f76_781, f76_783, f76_785, f76_787, f76_789, f76_791, h76_793, hb778, hb780, hb782, hb784, hb786, hb788, hb790, hb792⟩ := (hI770 76 (by decide) : cp76 (wget w768 76))
        refine xg_t (xg_getf (va := (0, f76_777)) (hb776.get (by decide) h76_793) rfl) ?_
        refine xg_iastK (n := 9) (u := f76_777) hr775 xnm0 xnm0 rfl (by omega) (fun w794 hr795 hb796 => ?_)
        refine xg_t (xg_aload (va := (2, 0)) rfl rfl) ?_
        refine xg_t (xg_getf (va := (2, 80)) (hb796.get (by decide) (hb776.get (by decide) (hF771.get (by decide) (hb767.get (by decide) (hF757.get (by decide) (hb748.get (by decide) (hF743.get (by decide) (hb739.get (by decide) (hb729.get (by decide) (hb726.get (by decide) (hF721.get (by decide) (hb640.get (by decide) (hb634.get (by decide) (hF460.get (by decide) (hb456.get (by decide) (hF98.get (by decide) (hF70.get (by decide) (hF61.get (by decide) (hF51.get (by decide) (hF30.get (by decide) (hF21.get (by decide) (hF12.get (by decide) h0_1)))))))))))))))))))))) rfl) ?_
        refine xg_t (xg_bip) ?_
        refine xg_t (xg_aload (va := (2, 0)) rfl rfl) ?_
        refine xg_t (xg_getf (va := (2, 1)) (hb796.get (by decide) (hb776.get (by decide) (hF771.get (by decide) (hb767.get (by decide) (hF757.get (by decide) (hb748.get (by decide) (hF743.get (by decide) (hb739.get (by decide) (hb729.get (by decide) (hb726.get (by decide) (hF721.get (by decide) (hb640.get (by decide) (hb634.get (by decide) (hF460.get (by decide) (hb456.get (by decide) (hF98.get (by decide) (hF70.get (by decide) (hF61.get (by decide) (hF51.get (by decide) (hF30.get (by decide) (hF21.get (by decide) (hF12.get (by decide) h0_1)))))))))))))))))))))) rfl) ?_
        refine xg_t (xg_getf (va := (0, f1_77)) (hb796.get (by decide) (hb776.get (by decide) (hF771.get (by decide) (hb767.get (by decide) (hF757.get (by decide) (hb748.get (by decide) (hF743.get (by decide) (hb739.get (by decide) (hb729.get (by decide) (hb726.get (by decide) (hF721.get (by decide) (hb640.get (by decide) (hb634.get (by decide) (hF460.get (by decide) (hb456.get (by decide) (hF98.get (by decide) h1_83)))))))))))))))) rfl) ?_
        refine xg_iastK (n := 10) (u := f1_77) hr795 xnm0 xnm0 rfl (by omega) (fun w797 hr798 hb799 => ?_)
        exact xg_e ⟨w797, ⟨rfl, rfl⟩, xInv.up (S := [80]) hI770 (((xFr.of (S := [80]) hb776 (by decide)).tr (xFr.of (S := [80]) hb796 (by decide))).tr (xFr.of (S := [80]) hb799 (by decide))) (List.forall_mem_cons.mpr ⟨(show cpI 11 48 4294967295 (wget w797 80) from ⟨_, hr798, xrb (by omega) (xrb (by omega) (xrb (by omega) (xrb (by omega) (xrb (by omega) (xrb (by omega) (xrb (by omega) (xrb (by omega) (xrb (by omega) (xrb (by omega) (xrb (by omega) (hb453)))))))))))⟩), fun _ h => absurd h List.not_mem_nil⟩), ((((((((((((((((((hF12.up (by decide)).tr (hF21.up (by decide))).tr (hF30.up (by decide))).tr (hF51.up (by decide))).tr (hF61.up (by decide))).tr (hF70.up (by decide))).tr (hF98.up (by decide))).tr (xFr.of (S := [50, 51, 52, 53, 54, 55, 58, 59, 60, 61, 62, 63, 64, 65, 66, 67, 68, 69, 70, 71, 72, 73, 76, 77, 80]) hb456 (by decide))).tr (hF460.up (by decide))).tr ((xFr.of (S := [50, 51, 52, 53, 54, 55, 58, 59, 60, 61, 62, 63, 64, 65, 66, 67, 68, 69, 70, 71, 72, 73, 76, 77, 80]) hb634 (by decide)).tr (xFr.of (S := [50, 51, 52, 53, 54, 55, 58, 59, 60, 61, 62, 63, 64, 65, 66, 67, 68, 69, 70, 71, 72, 73, 76, 77, 80]) hb640 (by decide)))).tr (hF721.up (by decide))).tr (((xFr.of (S := [50, 51, 52, 53, 54, 55, 58, 59, 60, 61, 62, 63, 64, 65, 66, 67, 68, 69, 70, 71, 72, 73, 76, 77, 80]) hb726 (by decide)).tr (xFr.of (S := [50, 51, 52, 53, 54, 55, 58, 59, 60, 61, 62, 63, 64, 65, 66, 67, 68, 69, 70, 71, 72, 73, 76, 77, 80]) hb729 (by decide))).tr (xFr.of (S := [50, 51, 52, 53, 54, 55, 58, 59, 60, 61, 62, 63, 64, 65, 66, 67, 68, 69, 70, 71, 72, 73, 76, 77, 80]) hb739 (by decide)))).tr (hF743.up (by decide))).tr (xFr.of (S := [50, 51, 52, 53, 54, 55, 58, 59, 60, 61, 62, 63, 64, 65, 66, 67, 68, 69, 70, 71, 72, 73, 76, 77, 80]) hb748 (by decide))).tr (hF757.up (by decide))).tr (xFr.of (S := [50, 51, 52, 53, 54, 55, 58, 59, 60, 61, 62, 63, 64, 65, 66, 67, 68, 69, 70, 71, 72, 73, 76, 77, 80]) hb767 (by decide))).tr (hF771.up (by decide))).tr (((xFr.of (S := [50, 51, 52, 53, 54, 55, 58, 59, 60, 61, 62, 63, 64, 65, 66, 67, 68, 69, 70, 71, 72, 73, 76, 77, 80]) hb776 (by decide)).tr (xFr.of (S := [50, 51, 52, 53, 54, 55, 58, 59, 60, 61, 62, 63, 64, 65, 66, 67, 68, 69, 70, 71, 72, 73, 76, 77, 80]) hb796 (by decide))).tr (xFr.of (S := [50, 51, 52, 53, 54, 55, 58, 59, 60, 61, 62, 63, 64, 65, 66, 67, 68, 69, 70, 71, 72, 73, 76, 77, 80]) hb799 (by decide)))), (((((((((((((((((((hx52.2.kp (hF61.1 20 (by decide)) (hF61.1 21 (by decide)) (hF61.1 76 (by decide)) (hF61.1 77 (by decide))).kp (hF70.1 20 (by decide)) (hF70.1 21 (by decide)) (hF70.1 76 (by decide)) (hF70.1 77 (by decide))).kp (hF98.1 20 (by decide)) (hF98.1 21 (by decide)) (hF98.1 76 (by decide)) (hF98.1 77 (by decide))).kp (hb456.1 20 (by decide)) (hb456.1 21 (by decide)) (hb456.1 76 (by decide)) (hb456.1 77 (by decide))).kp (hF460.1 20 (by decide)) (hF460.1 21 (by decide)) (hF460.1 76 (by decide)) (hF460.1 77 (by decide))).kp (hb634.1 20 (by decide)) (hb634.1 21 (by decide)) (hb634.1 76 (by decide)) (hb634.1 77 (by decide))).kp (hb640.1 20 (by decide)) (hb640.1 21 (by decide)) (hb640.1 76 (by decide)) (hb640.1 77 (by decide))).kp (hF721.1 20 (by decide)) (hF721.1 21 (by decide)) (hF721.1 76 (by decide)) (hF721.1 77 (by decide))).kp (hb726.1 20 (by decide)) (hb726.1 21 (by decide)) (hb726.1 76 (by decide)) (hb726.1 77 (by decide))).kp (hb729.1 20 (by decide)) (hb729.1 21 (by decide)) (hb729.1 76 (by decide)) (hb729.1 77 (by decide))).kp (hb739.1 20 (by decide)) (hb739.1 21 (by decide)) (hb739.1 76 (by decide)) (hb739.1 77 (by decide))).kp (hF743.1 20 (by decide)) (hF743.1 21 (by decide)) (hF743.1 76 (by decide)) (hF743.1 77 (by decide))).kp (hb748.1 20 (by decide)) (hb748.1 21 (by decide)) (hb748.1 76 (by decide)) (hb748.1 77 (by decide))).kp (hF757.1 20 (by decide)) (hF757.1 21 (by decide)) (hF757.1 76 (by decide)) (hF757.1 77 (by decide))).kp (hb767.1 20 (by decide)) (hb767.1 21 (by decide)) (hb767.1 76 (by decide)) (hb767.1 77 (by decide))).kp (hF771.1 20 (by decide)) (hF771.1 21 (by decide)) (hF771.1 76 (by decide)) (hF771.1 77 (by decide))).kp (hb776.1 20 (by decide)) (hb776.1 21 (by decide)) (hb776.1 76 (by decide)) (hb776.1 77 (by decide))).kp (hb796.1 20 (by decide)) (hb796.1 21 (by decide)) (hb796.1 76 (by decide)) (hb796.1 77 (by decide))).kp (hb799.1 20 (by decide)) (hb799.1 21 (by decide)) (hb799.1 76 (by decide)) (hb799.1 77 (by decide)))⟩
theorem scBarL (hI : xInv w) (hV : tsV (rwv w 21) (fld w 20 3)) (hX : lwI w) : xPi (d + 6) mX11_barred [(2, 0)] w bd fc rr (fun n w' => (n ≤ 4294967295 ∧ lwI w') ∧ xInv w' ∧ xFr [50, 51, 52, 53, 54, 55, 58, 59, 60, 61, 62, 63, 64, 65, 66, 67, 68, 69, 70, 71, 72, 73, 76, 77, 80, 81] w w') := by
  refine xPi.of ?_
  show xTo (d + 6) mX11_barred (0, [], [(0, (2, 0))], [], (w, bd, fc, 0, 0, rr)) (fun φ => ∃ n w', xEnd 1 [(0, n)] (w', bd, fc, 0, 0, rr) φ ∧ (n ≤ 4294967295 ∧ lwI w') ∧ xInv w' ∧ xFr [50, 51, 52, 53, 54, 55, 58, 59, 60, 61, 62, 63, 64, 65, 66, 67, 68, 69, 70, 71, 72, 73, 76, 77, 80, 81] w w')
  obtain ⟨f43_1, f43_3, h43_5, hb2, hb4⟩ := (hI 43 (by decide) : cp43 (wget w 43))
  obtain ⟨f44_6, h44_8, hb7⟩ := (hI 44 (by decide) : cp44 (wget w 44))
  obtain ⟨g45_9, h45_10, hb11⟩ := (hI 45 (by decide) : cpI 32 21 4294967295 (wget w 45))
  have h45_10 : xRow w 45 32 21 g45_9 := h45_10
  refine xg_t (xg_blk (b := [(0, 1, 0, 0, 0, 0), (1, 3, 13, 80, 88, 361), (4, 1, 0, 0, 0, 0), (5, 3, 13, 72, 88, 364), (8, 1, 3, 0, 0, 0), (9, 1, 15, 1, 0, 0)]) rfl) ?_
  refine xg_t (xg_aload (va := (2, 0)) rfl rfl) ?_
  have h0_12 := (hI 0 (by decide) : cp0 (wget w 0))
  refine xg_cVv mX11_measureAll (vs := []) (rest := []) (cn1 := 0) (sl1 := 0) rfl (scMeasL (hI) hV hX) rfl h0_12 rfl rfl rfl rfl rfl rfl (fun w13 hq14 => ?_)
  obtain ⟨hI15, hF16, hx17⟩ := hq14
  refine xg_t (xg_aload (va := (2, 0)) rfl rfl) ?_
  refine xg_cVv mX11_judgeLines (vs := []) (rest := []) (cn1 := 0) (sl1 := 0) rfl (scJudge (hI15)) rfl (hF16.get (by decide) h0_12) rfl rfl rfl rfl rfl rfl (fun w18 hq19 => ?_)
  obtain ⟨hI20, hF21⟩ := hq19
  refine xg_t (xg_const) ?_
  refine xg_t (xg_istore (l1 := [(0, (2, 0))]) rfl rfl rfl) ?_
  refine xg_t (xg_drop (l1 := [(0, (2, 0)), (1, (0, 0))]) (List.forall_mem_cons.mpr ⟨List.mem_cons_of_mem _ (List.mem_cons_self), List.forall_mem_cons.mpr ⟨List.mem_cons_self, fun _ h => absurd h List.not_mem_nil⟩⟩)) ?_
  have key22 : ∀ (m24 : Nat) (li : Nat) (w25 : List (List xE)), 16 - li < m24 → li ≤ 16 → xInv w25 → xFr [50, 51, 52, 53, 54, 55, 58, 59, 60, 61, 62, 63, 64, 65, 66, 67, 68, 69, 70, 71, 72, 73, 76, 77, 80, 81] w w25 → lwI w25 → xTo (d + 6) mX11_barred (10, [], [(0, (2, 0)), (1, (0, li))], [], (w25, bd, fc, 0, 0, rr)) (fun φ => ∃ n w', xEnd 1 [(0, n)] (w', bd, fc, 0, 0, rr) φ ∧ (n ≤ 4294967295 ∧ lwI w') ∧ xInv w' ∧ xFr [50, 51, 52, 53, 54, 55, 58, 59, 60, 61, 62, 63, 64, 65, 66, 67, 68, 69, 70, 71, 72, 73, 76, 77, 80, 81] w w') := by
    intro m24
    induction m24 with
    | zero => intro li w25 hz; exact absurd hz (Nat.not_lt_zero _)
    | succ m24 ih23 =>
      intro li w25 hm30 hn28 hI26 hF27 he29
      refine xg_t (xg_blk (b := [(10, 1, 2, 1, 0, 0), (11, 1, 0, 0, 0, 0), (12, 3, 1, 11, 0, 10), (15, 3, 1, 9, 12, 367), (18, 3, 1, 5, 3, 151), (21, 3, 6, 56, 3, 0), (24, 1, 0, 0, 0, 0), (25, 3, 1, 11, 10, 87), (28, 1, 2, 1, 0, 0), (29, 1, 32, 0, 0, 0), (30, 3, 7, 50, 0, 0), (33, 1, 0, 0, 0, 0), (34, 3, 1, 11, 0, 10), (37, 3, 1, 9, 12, 367), (40, 1, 2, 1, 0, 0), (41, 1, 3, 0, 0, 0), (42, 3, 13, 285, 40, 132), (45, 3, 7, 50, 1, 0), (48, 1, 2, 1, 0, 0), (49, 1, 12, 0, 1, 0)]) rfl) ?_
      refine xg_t (xg_iload (va := (0, li)) rfl rfl) ?_
      refine xg_t (xg_aload (va := (2, 0)) rfl rfl) ?_
      refine xg_t (xg_getf (va := (2, 1)) (hF27.get (by decide) h0_12) rfl) ?_
      obtain ⟨f1_31, f1_33, f1_35, f1_37, f1_39, f1_41, h1_43, hb32, hb34, hb36, hb38, hb40, hb42⟩ := (hI26 1 (by decide) : cp1 (wget w25 1))
      refine xg_t (xg_getf (va := (2, 22)) h1_43 rfl) ?_
      obtain ⟨f22_44, h22_46, hb45⟩ := (hI26 22 (by decide) : cp22 (wget w25 22))
      refine xg_t (xg_getf (va := (0, f22_44)) h22_46 rfl) ?_
      by_cases hc47 : li < f22_44
      · refine xg_t (xg_icF (u := li) (v := f22_44) rfl xnm0 xnm0 (xj_geF hc47 (by omega))) ?_
        refine xg_t (xg_aload (va := (2, 0)) rfl rfl) ?_
        refine xg_t (xg_getf (va := (2, 81)) (hF27.get (by decide) h0_12) rfl) ?_
        refine xg_t (xg_iload (va := (0, li)) rfl rfl) ?_
        obtain ⟨g81_48, h81_49, hb50⟩ := (hI26 81 (by decide) : cpK 2 0 16 49 1 (wget w25 81))
        have h81_49 : xRk 2 0 w25 81 16 49 g81_48 := h81_49
        refine xg_baldB (n := li) (B := 1) h81_49 rfl (hb50) xnm0 (by omega) (fun u51 hu52 he53 => ?_)
        by_cases hc54 : u51 = 0
        · refine xg_t (xg_ifT (u := u51) rfl xnm0 (xj_eqT hc54)) ?_
          refine xg_t (xg_blk (b := [(50, 3, 9, 1, 1, 0), (53, 3, 8, 10, 0, 0)]) rfl) ?_
          refine xg_t (xg_iinc (u := li) (z := li + 1) (l1 := [(0, (2, 0))]) rfl rfl (by omega) rfl) ?_
          refine xg_t (xg_goto) ?_
          refine xg_t (xg_drop (l1 := [(0, (2, 0)), (1, (0, li + 1))]) (List.forall_mem_cons.mpr ⟨List.mem_cons_of_mem _ (List.mem_cons_self), List.forall_mem_cons.mpr ⟨List.mem_cons_self, fun _ h => absurd h List.not_mem_nil⟩⟩)) ?_
          exact ih23 (li + 1) w25 (by omega) (by omega) (hI26) (hF27) (he29)
        · refine xg_t (xg_ifF (u := u51) rfl xnm0 (xj_eqF hc54)) ?_
          refine xg_t (xg_aload (va := (2, 0)) rfl rfl) ?_
          refine xg_t (xg_getf (va := (2, 1)) (hF27.get (by decide) h0_12) rfl) ?_
          refine xg_t (xg_getf (va := (2, 22)) h1_43 rfl) ?_
          refine xg_t (xg_iload (va := (0, li)) rfl rfl) ?_
          refine xg_t (xg_const) ?_
          obtain ⟨g23_55, h23_56, hb57⟩ := (hI26 23 (by decide) : cpI 32 10 4294967295 (wget w25 23))
          have h23_56 : xRow w25 23 32 10 g23_55 := h23_56
          refine xg_k (xg_cVr mX5_get (vs := [(0, li), (0, 0)]) (rest := []) (rs := [(0, if li < f22_44 ∧ 0 < 2 then g23_55 (li * 2 + 0) else 4294967295)]) (cn1 := 0) (sl1 := 0) rfl (rget_ok (lim := 16) (wd := 2) (sz := f22_44) h22_46 h23_56 (by decide) (by omega) (by decide) (by decide) (by omega) (by omega)) rfl h22_46 rfl rfl rfl rfl rfl rfl rfl) (xiteb (hb57)) (fun z58 hz59 => ?_)
          by_cases hc60 : z58 = 0
          · refine xg_t (xg_ifF (u := z58) rfl xnm0 (xj_neF hc60)) ?_
            refine xg_t (xg_iload (va := (0, li)) rfl rfl) ?_
            exact xg_e ⟨li, w25, ⟨rfl, rfl⟩, ⟨by omega, he29⟩, hI26, hF27⟩
          · refine xg_t (xg_ifT (u := z58) rfl xnm0 (xj_neT hc60)) ?_
            refine xg_t (xg_blk (b := [(50, 3, 9, 1, 1, 0), (53, 3, 8, 10, 0, 0)]) rfl) ?_
            refine xg_t (xg_iinc (u := li) (z := li + 1) (l1 := [(0, (2, 0))]) rfl rfl (by omega) rfl) ?_
            refine xg_t (xg_goto) ?_
            refine xg_t (xg_drop (l1 := [(0, (2, 0)), (1, (0, li + 1))]) (List.forall_mem_cons.mpr ⟨List.mem_cons_of_mem _ (List.mem_cons_self), List.forall_mem_cons.mpr ⟨List.mem_cons_self, fun _ h => absurd h List.not_mem_nil⟩⟩)) ?_
            exact ih23 (li + 1) w25 (by omega) (by omega) (hI26) (hF27) (he29)
      · refine xg_t (xg_icT (u := li) (v := f22_44) rfl xnm0 xnm0 (xj_geT (by omega) (by omega))) ?_
        refine xg_t (xg_blk (b := [(56, 1, 3, 4294967295, 0, 0), (57, 1, 12, 0, 1, 0)]) rfl) ?_
        refine xg_t (xg_const) ?_
        exact xg_e ⟨4294967295, w25, ⟨rfl, rfl⟩, ⟨by omega, he29⟩, hI26, hF27⟩
  exact key22 _ 0 w18 (Nat.lt_succ_self _) (by omega) (hI20) (((hF16.up (by decide)).tr (hF21.up (by decide)))) ((hx17.kp (hF21.1 20 (by decide)) (hF21.1 21 (by decide)) (hF21.1 76 (by decide)) (hF21.1 77 (by decide))))
theorem scPriL (hI : xInv w) (hV : tsV (rwv w 21) (fld w 20 3)) (hX : lwI w) : xPi (d + 6) mX11_price [(2, 0)] w bd fc rr (fun n w' => (n ≤ 4294967295 ∧ lwI w') ∧ xInv w' ∧ xFr [50, 51, 52, 53, 54, 55, 58, 59, 60, 61, 62, 63, 64, 65, 66, 67, 68, 69, 70, 71, 72, 73, 76, 77, 80, 81] w w') := by
  refine xPi.of ?_
  show xTo (d + 6) mX11_price (0, [], [(0, (2, 0))], [], (w, bd, fc, 0, 0, rr)) (fun φ => ∃ n w', xEnd 1 [(0, n)] (w', bd, fc, 0, 0, rr) φ ∧ (n ≤ 4294967295 ∧ lwI w') ∧ xInv w' ∧ xFr [50, 51, 52, 53, 54, 55, 58, 59, 60, 61, 62, 63, 64, 65, 66, 67, 68, 69, 70, 71, 72, 73, 76, 77, 80, 81] w w')
  obtain ⟨f43_1, f43_3, h43_5, hb2, hb4⟩ := (hI 43 (by decide) : cp43 (wget w 43))
  obtain ⟨f44_6, h44_8, hb7⟩ := (hI 44 (by decide) : cp44 (wget w 44))
  obtain ⟨g45_9, h45_10, hb11⟩ := (hI 45 (by decide) : cpI 32 21 4294967295 (wget w 45))
  have h45_10 : xRow w 45 32 21 g45_9 := h45_10
  refine xg_t (xg_blk (b := [(0, 1, 0, 0, 0, 0), (1, 3, 13, 80, 88, 361), (4, 1, 0, 0, 0, 0), (5, 3, 13, 72, 88, 364), (8, 1, 3, 0, 0, 0), (9, 1, 15, 1, 0, 0), (10, 1, 3, 0, 0, 0), (11, 1, 15, 2, 0, 0)]) rfl) ?_
  refine xg_t (xg_aload (va := (2, 0)) rfl rfl) ?_
  have h0_12 := (hI 0 (by decide) : cp0 (wget w 0))
  refine xg_cVv mX11_measureAll (vs := []) (rest := []) (cn1 := 0) (sl1 := 0) rfl (scMeasL (hI) hV hX) rfl h0_12 rfl rfl rfl rfl rfl rfl (fun w13 hq14 => ?_)
  obtain ⟨hI15, hF16, hx17⟩ := hq14
  refine xg_t (xg_aload (va := (2, 0)) rfl rfl) ?_
  refine xg_cVv mX11_judgeLines (vs := []) (rest := []) (cn1 := 0) (sl1 := 0) rfl (scJudge (hI15)) rfl (hF16.get (by decide) h0_12) rfl rfl rfl rfl rfl rfl (fun w18 hq19 => ?_)
  obtain ⟨hI20, hF21⟩ := hq19
  refine xg_t (xg_const) ?_
  refine xg_t (xg_istore (l1 := [(0, (2, 0))]) rfl rfl rfl) ?_
  refine xg_t (xg_const) ?_
  refine xg_t (xg_istore (l1 := [(1, (0, 0)), (0, (2, 0))]) rfl rfl rfl) ?_
  refine xg_t (xg_drop (l1 := [(0, (2, 0)), (1, (0, 0)), (2, (0, 0))]) (List.forall_mem_cons.mpr ⟨List.mem_cons_of_mem _ (List.mem_cons_of_mem _ (List.mem_cons_self)), List.forall_mem_cons.mpr ⟨List.mem_cons_of_mem _ (List.mem_cons_self), List.forall_mem_cons.mpr ⟨List.mem_cons_self, fun _ h => absurd h List.not_mem_nil⟩⟩⟩)) ?_
  have key22 : ∀ (m24 : Nat) (su li : Nat) (w25 : List (List xE)), 16 - li < m24 → su ≤ 4294967295 → li ≤ 16 → xInv w25 → xFr [50, 51, 52, 53, 54, 55, 58, 59, 60, 61, 62, 63, 64, 65, 66, 67, 68, 69, 70, 71, 72, 73, 76, 77, 80, 81] w w25 → lwI w25 → xTo (d + 6) mX11_price (12, [], [(0, (2, 0)), (1, (0, su)), (2, (0, li))], [], (w25, bd, fc, 0, 0, rr)) (fun φ => ∃ n w', xEnd 1 [(0, n)] (w', bd, fc, 0, 0, rr) φ ∧ (n ≤ 4294967295 ∧ lwI w') ∧ xInv w' ∧ xFr [50, 51, 52, 53, 54, 55, 58, 59, 60, 61, 62, 63, 64, 65, 66, 67, 68, 69, 70, 71, 72, 73, 76, 77, 80, 81] w w') := by
    intro m24
    induction m24 with
    | zero => intro su li w25 hz; exact absurd hz (Nat.not_lt_zero _)
    | succ m24 ih23 =>
      intro su li w25 hm31 hn28 hn29 hI26 hF27 he30
      refine xg_t (xg_blk (b := [(12, 1, 2, 2, 0, 0), (13, 1, 0, 0, 0, 0), (14, 3, 1, 11, 0, 10), (17, 3, 1, 9, 12, 367), (20, 3, 1, 5, 3, 151), (23, 3, 6, 79, 3, 0), (26, 1, 0, 0, 0, 0), (27, 3, 1, 11, 10, 87), (30, 1, 2, 2, 0, 0), (31, 1, 32, 0, 0, 0), (32, 3, 7, 73, 0, 0), (35, 1, 0, 0, 0, 0), (36, 3, 1, 11, 0, 10), (39, 3, 1, 9, 12, 367), (42, 1, 2, 2, 0, 0), (43, 1, 3, 1, 0, 0), (44, 3, 13, 285, 40, 132), (47, 1, 15, 3, 0, 0), (48, 1, 2, 1, 0, 0), (49, 1, 0, 0, 0, 0), (50, 3, 1, 11, 0, 10), (53, 3, 1, 9, 12, 367), (56, 1, 2, 2, 0, 0), (57, 1, 3, 0, 0, 0), (58, 3, 13, 285, 40, 132), (61, 1, 3, 2, 0, 0), (62, 3, 6, 70, 1, 0), (65, 1, 2, 3, 0, 0), (66, 1, 69, 0, 0, 0), (67, 3, 8, 71, 0, 0)]) rfl) ?_
      refine xg_t (xg_iload (va := (0, li)) rfl rfl) ?_
      refine xg_t (xg_aload (va := (2, 0)) rfl rfl) ?_
      refine xg_t (xg_getf (va := (2, 1)) (hF27.get (by decide) h0_12) rfl) ?_
      obtain ⟨f1_32, f1_34, f1_36, f1_38, f1_40, f1_42, h1_44, hb33, hb35, hb37, hb39, hb41, hb43⟩ := (hI26 1 (by decide) : cp1 (wget w25 1))
      refine xg_t (xg_getf (va := (2, 22)) h1_44 rfl) ?_
      obtain ⟨f22_45, h22_47, hb46⟩ := (hI26 22 (by decide) : cp22 (wget w25 22))
      refine xg_t (xg_getf (va := (0, f22_45)) h22_47 rfl) ?_
      by_cases hc48 : li < f22_45
      · refine xg_t (xg_icF (u := li) (v := f22_45) rfl xnm0 xnm0 (xj_geF hc48 (by omega))) ?_
        refine xg_t (xg_aload (va := (2, 0)) rfl rfl) ?_
        refine xg_t (xg_getf (va := (2, 81)) (hF27.get (by decide) h0_12) rfl) ?_
        refine xg_t (xg_iload (va := (0, li)) rfl rfl) ?_
        obtain ⟨g81_49, h81_50, hb51⟩ := (hI26 81 (by decide) : cpK 2 0 16 49 1 (wget w25 81))
        have h81_50 : xRk 2 0 w25 81 16 49 g81_49 := h81_50
        refine xg_baldB (n := li) (B := 1) h81_50 rfl (hb51) xnm0 (by omega) (fun u52 hu53 he54 => ?_)
        by_cases hc55 : u52 = 0
        · refine xg_t (xg_ifT (u := u52) rfl xnm0 (xj_eqT hc55)) ?_
          refine xg_t (xg_blk (b := [(73, 3, 9, 2, 1, 0), (76, 3, 8, 12, 0, 0)]) rfl) ?_
          refine xg_t (xg_iinc (u := li) (z := li + 1) (l1 := [(0, (2, 0)), (1, (0, su))]) rfl rfl (by omega) rfl) ?_
          refine xg_t (xg_goto) ?_
          refine xg_t (xg_drop (l1 := [(0, (2, 0)), (1, (0, su)), (2, (0, li + 1))]) (List.forall_mem_cons.mpr ⟨List.mem_cons_of_mem _ (List.mem_cons_self), List.forall_mem_cons.mpr ⟨List.mem_cons_of_mem _ (List.mem_cons_of_mem _ (List.mem_cons_self)), List.forall_mem_cons.mpr ⟨List.mem_cons_self, fun _ h => absurd h List.not_mem_nil⟩⟩⟩)) ?_
          exact ih23 su (li + 1) w25 (by omega) (by omega) (by omega) (hI26) (hF27) (he30)
        · refine xg_t (xg_ifF (u := u52) rfl xnm0 (xj_eqF hc55)) ?_
          refine xg_t (xg_aload (va := (2, 0)) rfl rfl) ?_
          refine xg_t (xg_getf (va := (2, 1)) (hF27.get (by decide) h0_12) rfl) ?_
          refine xg_t (xg_getf (va := (2, 22)) h1_44 rfl) ?_
          refine xg_t (xg_iload (va := (0, li)) rfl rfl) ?_
          refine xg_t (xg_const) ?_
          obtain ⟨g23_56, h23_57, hb58⟩ := (hI26 23 (by decide) : cpI 32 10 4294967295 (wget w25 23))
          have h23_57 : xRow w25 23 32 10 g23_56 := h23_57
          refine xg_k (xg_cVr mX5_get (vs := [(0, li), (0, 1)]) (rest := []) (rs := [(0, if li < f22_45 ∧ 1 < 2 then g23_56 (li * 2 + 1) else 4294967295)]) (cn1 := 0) (sl1 := 0) rfl (rget_ok (lim := 16) (wd := 2) (sz := f22_45) h22_47 h23_57 (by decide) (by omega) (by decide) (by decide) (by omega) (by omega)) rfl h22_47 rfl rfl rfl rfl rfl rfl rfl) (xiteb (hb58)) (fun z59 hz60 => ?_)
          refine xg_t (xg_istore (l1 := [(0, (2, 0)), (1, (0, su)), (2, (0, li))]) rfl rfl rfl) ?_
          refine xg_t (xg_iload (va := (0, su)) rfl rfl) ?_
          refine xg_t (xg_aload (va := (2, 0)) rfl rfl) ?_
          refine xg_t (xg_getf (va := (2, 1)) (hF27.get (by decide) h0_12) rfl) ?_
          refine xg_t (xg_getf (va := (2, 22)) h1_44 rfl) ?_
          refine xg_t (xg_iload (va := (0, li)) rfl rfl) ?_
          refine xg_t (xg_const) ?_
          refine xg_k (xg_cVr mX5_get (vs := [(0, li), (0, 0)]) (rest := [(0, su)]) (rs := [(0, if li < f22_45 ∧ 0 < 2 then g23_56 (li * 2 + 0) else 4294967295), (0, su)]) (cn1 := 0) (sl1 := 0) rfl (rget_ok (lim := 16) (wd := 2) (sz := f22_45) h22_47 h23_57 (by decide) (by omega) (by decide) (by decide) (by omega) (by omega)) rfl h22_47 rfl rfl rfl rfl rfl rfl rfl) (xiteb (hb58)) (fun z61 hz62 => ?_)
          refine xg_t (xg_const) ?_
          by_cases hc63 : z61 = 2
          · refine xg_t (xg_icF (u := z61) (v := 2) rfl xnm0 xnm0 (xj_neF hc63)) ?_
            refine xg_t (xg_iload (va := (0, z59)) rfl rfl) ?_
            refine xg_k (xg_ineg (u := z59) xnm0) (xpt_lt _) (fun z64 hz65 => ?_)
            refine xg_t (xg_goto) ?_
            refine xg_t (xg_blk (b := [(71, 1, 11, 0, 0, 0), (72, 1, 15, 1, 0, 0)]) rfl) ?_
            refine xg_k (xg_iadd (u := su) (v := z64) (z := (su + z64) % 4294967296) xnm0 xnm0 rfl) (Nat.mod_lt _ (by decide)) (fun z66 hz67 => ?_)
            refine xg_t (xg_istore (l1 := [(3, (0, z59)), (0, (2, 0)), (2, (0, li))]) rfl rfl rfl) ?_
            refine xg_t (xg_blk (b := [(73, 3, 9, 2, 1, 0), (76, 3, 8, 12, 0, 0)]) rfl) ?_
            refine xg_t (xg_iinc (u := li) (z := li + 1) (l1 := [(1, (0, z66)), (3, (0, z59)), (0, (2, 0))]) rfl rfl (by omega) rfl) ?_
            refine xg_t (xg_goto) ?_
            refine xg_t (xg_drop (l1 := [(0, (2, 0)), (1, (0, z66)), (2, (0, li + 1))]) (List.forall_mem_cons.mpr ⟨List.mem_cons_of_mem _ (List.mem_cons_of_mem _ (List.mem_cons_of_mem _ (List.mem_cons_self))), List.forall_mem_cons.mpr ⟨List.mem_cons_of_mem _ (List.mem_cons_self), List.forall_mem_cons.mpr ⟨List.mem_cons_self, fun _ h => absurd h List.not_mem_nil⟩⟩⟩)) ?_
            exact ih23 z66 (li + 1) w25 (by omega) (by omega) (by omega) (hI26) (hF27) (he30)
          · refine xg_t (xg_icT (u := z61) (v := 2) rfl xnm0 xnm0 (xj_neT hc63)) ?_
            refine xg_t (xg_blk (b := [(70, 1, 2, 3, 0, 0)]) rfl) ?_
            refine xg_t (xg_iload (va := (0, z59)) rfl rfl) ?_
            refine xg_t (xg_blk (b := [(71, 1, 11, 0, 0, 0), (72, 1, 15, 1, 0, 0)]) rfl) ?_
            refine xg_k (xg_iadd (u := su) (v := z59) (z := (su + z59) % 4294967296) xnm0 xnm0 rfl) (Nat.mod_lt _ (by decide)) (fun z68 hz69 => ?_)
            refine xg_t (xg_istore (l1 := [(3, (0, z59)), (0, (2, 0)), (2, (0, li))]) rfl rfl rfl) ?_
            refine xg_t (xg_blk (b := [(73, 3, 9, 2, 1, 0), (76, 3, 8, 12, 0, 0)]) rfl) ?_
            refine xg_t (xg_iinc (u := li) (z := li + 1) (l1 := [(1, (0, z68)), (3, (0, z59)), (0, (2, 0))]) rfl rfl (by omega) rfl) ?_
            refine xg_t (xg_goto) ?_
            refine xg_t (xg_drop (l1 := [(0, (2, 0)), (1, (0, z68)), (2, (0, li + 1))]) (List.forall_mem_cons.mpr ⟨List.mem_cons_of_mem _ (List.mem_cons_of_mem _ (List.mem_cons_of_mem _ (List.mem_cons_self))), List.forall_mem_cons.mpr ⟨List.mem_cons_of_mem _ (List.mem_cons_self), List.forall_mem_cons.mpr ⟨List.mem_cons_self, fun _ h => absurd h List.not_mem_nil⟩⟩⟩)) ?_
            exact ih23 z68 (li + 1) w25 (by omega) (by omega) (by omega) (hI26) (hF27) (he30)
      · refine xg_t (xg_icT (u := li) (v := f22_45) rfl xnm0 xnm0 (xj_geT (by omega) (by omega))) ?_
        refine xg_t (xg_blk (b := [(79, 1, 2, 1, 0, 0), (80, 1, 3, 0, 0, 0), (81, 3, 62, 0, 0, 370), (84, 1, 12, 0, 1, 0)]) rfl) ?_
        refine xg_t (xg_iload (va := (0, su)) rfl rfl) ?_
        refine xg_t (xg_const) ?_
        refine xg_maxK (u := su) (v := 0) xnm0 xnm0 xmx_ok (by omega) (by omega) (fun z70 hz71 hz72 hz73 hz74 => ?_)
        unfold xbs at hz72 hz73
        exact xg_e ⟨z70, w25, ⟨rfl, rfl⟩, ⟨by omega, he30⟩, hI26, hF27⟩
  exact key22 _ 0 0 w18 (Nat.lt_succ_self _) (by omega) (by omega) (hI20) (((hF16.up (by decide)).tr (hF21.up (by decide)))) ((hx17.kp (hF21.1 20 (by decide)) (hF21.1 21 (by decide)) (hF21.1 76 (by decide)) (hF21.1 77 (by decide))))
end XTG
