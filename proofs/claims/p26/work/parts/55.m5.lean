/-! the model: the sheet -/
def mx1 (a : Nat) : Nat := if a = 0 then 1 else a
def ar (v : Nat) : Nat := mx1 (v % 11) * mx1 (v / 11 % 11)
theorem mx1_pos (a : Nat) : 1 ≤ mx1 a := by unfold mx1; split <;> omega
theorem mx1_le {a : Nat} (h : a ≤ 10) : mx1 a ≤ 10 := by unfold mx1; split <;> omega
theorem mx1_id {a : Nat} (h : 1 ≤ a) : mx1 a = a := by unfold mx1; split <;> omega
theorem ar_pos (v : Nat) : 1 ≤ ar v := Nat.mul_le_mul (mx1_pos _) (mx1_pos _)
theorem ar_le (v : Nat) : ar v ≤ 100 := Nat.mul_le_mul (mx1_le (by omega)) (mx1_le (by omega))
theorem ar_enc {x y a b : Nat} (ha : a ≤ 10) (hb : b ≤ 10) : ar (((x * 11 + y) * 11 + a) * 11 + b) = mx1 b * mx1 a := by
  unfold ar
  have e1 : (((x * 11 + y) * 11 + a) * 11 + b) % 11 = b := by omega
  have e2 : (((x * 11 + y) * 11 + a) * 11 + b) / 11 % 11 = a := by omega
  rw [e1, e2]
theorem ar_cutW {x y x' y' a b c : Nat} (ha : a ≤ 10) (hb : b ≤ 10) (h1 : 1 ≤ c) (h2 : c < a) : ar (((x * 11 + y) * 11 + (a - c)) * 11 + b) + ar (((x' * 11 + y') * 11 + c) * 11 + b) = mx1 b * mx1 a := by
  rw [ar_enc (by omega) hb, ar_enc (by omega) hb, mx1_id (a := a - c) (by omega), mx1_id (a := c) h1, mx1_id (a := a) (by omega), ← Nat.mul_add]
  congr 1
  omega
theorem ar_cutH {x y x' y' a b c : Nat} (ha : a ≤ 10) (hb : b ≤ 10) (h1 : 1 ≤ c) (h2 : c < b) : ar (((x * 11 + y) * 11 + a) * 11 + (b - c)) + ar (((x' * 11 + y') * 11 + a) * 11 + c) = mx1 b * mx1 a := by
  rw [ar_enc ha (by omega), ar_enc ha (by omega), mx1_id (a := b - c) (by omega), mx1_id (a := c) h1, mx1_id (a := b) (by omega), ← Nat.add_mul]
  congr 1
  omega
def sm (f : Nat → Nat) : Nat → Nat
  | 0 => 0
  | n + 1 => sm f n + ar (f n)
theorem sm_congr {f g : Nat → Nat} : ∀ n, (∀ j, j < n → f j = g j) → sm f n = sm g n
  | 0, _ => rfl
  | n + 1, h => by
    show sm f n + ar (f n) = sm g n + ar (g n)
    rw [sm_congr n (fun j hj => h j (by omega)), h n (by omega)]
theorem sm_ge (f : Nat → Nat) : ∀ n, n ≤ sm f n
  | 0 => Nat.le_refl _
  | n + 1 => by
    have := sm_ge f n
    have := ar_pos (f n)
    show n + 1 ≤ sm f n + ar (f n)
    omega
noncomputable def smW (w : List (List xE)) : Nat := sm (rwv w 108) (fld w 82 42)
theorem smW_of {w : List (List xE)} {f : Nat → Nat} {p : Nat} (h : xRow w 108 200 75 f) (hp : fld w 82 42 = p) (h2 : p ≤ 200) : smW w = sm f p := by
  unfold smW
  rw [hp]
  exact sm_congr p (fun j hj => rwv_of h (by omega))
theorem smW_push {w w' : List (List xE)} {f : Nat → Nat} {p v : Nat} (h : xRow w 108 200 75 f) (hp : fld w 82 42 = p) (h2 : p < 200) (h' : xRow w' 108 200 75 (fun j => if j = p then v else f j)) (hp' : fld w' 82 42 = p + 1) : smW w' = smW w + ar v := by
  rw [smW_of h hp (by omega), smW_of h' hp' (by omega)]
  show sm (fun j => if j = p then v else f j) p + ar (if p = p then v else f p) = _
  rw [if_pos rfl, sm_congr p (fun j hj => if_neg (show ¬ j = p by omega))]
theorem smW_ge (w : List (List xE)) : fld w 82 42 ≤ smW w := sm_ge _ _
theorem okP_enc {n x y a b : Nat} (h : n = ((x * 11 + y) * 11 + a) * 11 + b) (h1 : x + a ≤ 10) (h2 : y + b ≤ 10) : okP n := by
  have e1 : n / 1331 = x := by omega
  have e2 : n / 11 % 11 = a := by omega
  have e3 : n / 121 % 11 = y := by omega
  have e4 : n % 11 = b := by omega
  refine ⟨by omega, ?_, ?_⟩
  · rw [e1, e2]; exact h1
  · rw [e3, e4]; exact h2
theorem okP.ar {v : Nat} (h : okP v) : ar v = mx1 (v % 11) * mx1 (v / 11 % 11) := rfl
section XM5
variable {d : Nat} {w : List (List xE)} {bd : List (Nat × Nat)} {fc : List (Nat × Nat × Bool)} {rr : Nat × Nat}
theorem mAt {xx yy wi hi : Nat} (hI : xMnv w) (hxx : xx ≤ 10) (hyy : yy ≤ 10) (hwi : wi ≤ 10) (hhi : hi ≤ 10) : xPi d mX12_at [(0, xx), (0, yy), (0, wi), (0, hi)] w bd fc rr (fun n w' => (n = ((xx * 11 + yy) * 11 + wi) * 11 + hi) ∧ xMnv w' ∧ xFr [] w w') := by
  refine xPi.of ?_
  show xTo d mX12_at (0, [], [(0, (0, xx)), (1, (0, yy)), (2, (0, wi)), (3, (0, hi))], [], (w, bd, fc, 0, 0, rr)) (fun φ => ∃ n w', xEnd 1 [(0, n)] (w', bd, fc, 0, 0, rr) φ ∧ (n = ((xx * 11 + yy) * 11 + wi) * 11 + hi) ∧ xMnv w' ∧ xFr [] w w')
  refine xg_t (xg_blk (b := [(0, 1, 2, 0, 0, 0), (1, 2, 4, 11, 0, 0), (3, 1, 16, 0, 0, 0), (4, 1, 2, 1, 0, 0), (5, 1, 11, 0, 0, 0), (6, 2, 4, 11, 0, 0), (8, 1, 16, 0, 0, 0), (9, 1, 2, 2, 0, 0), (10, 1, 11, 0, 0, 0), (11, 2, 4, 11, 0, 0), (13, 1, 16, 0, 0, 0), (14, 1, 2, 3, 0, 0), (15, 1, 11, 0, 0, 0), (16, 1, 12, 0, 1, 0)]) rfl) ?_
  refine xg_t (xg_iload (va := (0, xx)) rfl rfl) ?_
  refine xg_t (xg_bip) ?_
  refine xg_t (xg_imul (u := xx) (v := 11) (z := xx * 11) xnm0 xnm0 (by omega)) ?_
  refine xg_t (xg_iload (va := (0, yy)) rfl rfl) ?_
  refine xg_t (xg_iadd (u := xx * 11) (v := yy) (z := (xx * 11) + yy) xnm0 xnm0 (by omega)) ?_
  refine xg_t (xg_bip) ?_
  refine xg_t (xg_imul (u := (xx * 11) + yy) (v := 11) (z := ((xx * 11) + yy) * 11) xnm0 xnm0 (by omega)) ?_
  refine xg_t (xg_iload (va := (0, wi)) rfl rfl) ?_
  refine xg_t (xg_iadd (u := ((xx * 11) + yy) * 11) (v := wi) (z := (((xx * 11) + yy) * 11) + wi) xnm0 xnm0 (by omega)) ?_
  refine xg_t (xg_bip) ?_
  refine xg_t (xg_imul (u := (((xx * 11) + yy) * 11) + wi) (v := 11) (z := ((((xx * 11) + yy) * 11) + wi) * 11) xnm0 xnm0 (by omega)) ?_
  refine xg_t (xg_iload (va := (0, hi)) rfl rfl) ?_
  refine xg_t (xg_iadd (u := ((((xx * 11) + yy) * 11) + wi) * 11) (v := hi) (z := (((((xx * 11) + yy) * 11) + wi) * 11) + hi) xnm0 xnm0 (by omega)) ?_
  exact xg_e ⟨(((((xx * 11) + yy) * 11) + wi) * 11) + hi, w, ⟨rfl, rfl⟩, by omega, hI, xFr.rf⟩
theorem mHasFlaw {xx yy wi hi : Nat} (hI : xMnv w) (hxx : xx ≤ 10) (hyy : yy ≤ 10) (hwi : wi ≤ 10) (hhi : hi ≤ 10) (hxw : xx + wi ≤ 10) (hyh : yy + hi ≤ 10) (h1w : 1 ≤ wi) (h1h : 1 ≤ hi) : xPi (d + 1) mX12_hasFlaw [(2, 82), (0, xx), (0, yy), (0, wi), (0, hi)] w bd fc rr (fun n w' => (n ≤ 1) ∧ xMnv w' ∧ xFr [] w w') := by
  refine xPi.of ?_
  show xTo (d + 1) mX12_hasFlaw (0, [], [(0, (2, 82)), (1, (0, xx)), (2, (0, yy)), (3, (0, wi)), (4, (0, hi))], [], (w, bd, fc, 0, 0, rr)) (fun φ => ∃ n w', xEnd 4 [(0, n)] (w', bd, fc, 0, 0, rr) φ ∧ (n ≤ 1) ∧ xMnv w' ∧ xFr [] w w')
  obtain ⟨f82_1, f82_3, f82_5, f82_7, f82_9, f82_11, f82_13, f82_15, f82_17, f82_19, f82_21, f82_22, f82_23, f82_25, f82_27, f82_29, h82_31, hb2, hb4, hb6, hb8, hb10, hb12, hb14, hb16, hb18, hb20, hb24, hb26, hb28, hb30, hb32⟩ := (hI 82 (by decide) (by decide) : cp82 (wget w 82))
  obtain ⟨g83_33, h83_34, hb35, hx36⟩ := (hI 83 (by decide) (by decide) : cpx83 (wget w 83))
  have h83_34 : xRow w 83 5360 50 g83_33 := h83_34
  refine xg_t (xg_blk (b := [(0, 1, 3, 0, 0, 0), (1, 2, 15, 5, 0, 0), (3, 1, 3, 0, 0, 0), (4, 2, 15, 6, 0, 0)]) rfl) ?_
  refine xg_t (xg_const) ?_
  refine xg_t (xg_istore (l1 := [(0, (2, 82)), (1, (0, xx)), (2, (0, yy)), (3, (0, wi)), (4, (0, hi))]) rfl rfl rfl) ?_
  refine xg_t (xg_const) ?_
  refine xg_t (xg_istore (l1 := [(5, (0, 0)), (0, (2, 82)), (1, (0, xx)), (2, (0, yy)), (3, (0, wi)), (4, (0, hi))]) rfl rfl rfl) ?_
  refine xg_t (xg_drop (l1 := [(0, (2, 82)), (1, (0, xx)), (2, (0, yy)), (3, (0, wi)), (4, (0, hi)), (5, (0, 0)), (6, (0, 0))]) (List.forall_mem_cons.mpr ⟨List.mem_cons_of_mem _ (List.mem_cons_of_mem _ (List.mem_cons_self)), List.forall_mem_cons.mpr ⟨List.mem_cons_of_mem _ (List.mem_cons_of_mem _ (List.mem_cons_of_mem _ (List.mem_cons_self))), List.forall_mem_cons.mpr ⟨List.mem_cons_of_mem _ (List.mem_cons_of_mem _ (List.mem_cons_of_mem _ (List.mem_cons_of_mem _ (List.mem_cons_self)))), List.forall_mem_cons.mpr ⟨List.mem_cons_of_mem _ (List.mem_cons_of_mem _ (List.mem_cons_of_mem _ (List.mem_cons_of_mem _ (List.mem_cons_of_mem _ (List.mem_cons_self))))), List.forall_mem_cons.mpr ⟨List.mem_cons_of_mem _ (List.mem_cons_of_mem _ (List.mem_cons_of_mem _ (List.mem_cons_of_mem _ (List.mem_cons_of_mem _ (List.mem_cons_of_mem _ (List.mem_cons_self)))))), List.forall_mem_cons.mpr ⟨List.mem_cons_of_mem _ (List.mem_cons_self), List.forall_mem_cons.mpr ⟨List.mem_cons_self, fun _ h => absurd h List.not_mem_nil⟩⟩⟩⟩⟩⟩⟩)) ?_
  have key37 : ∀ (m39 : Nat) (is_ ki : Nat) (w40 : List (List xE)), 20 - ki < m39 → is_ ≤ 1 → ki ≤ 20 → xMnv w40 → xFr [] w w40 → xTo (d + 1) mX12_hasFlaw (6, [], [(0, (2, 82)), (1, (0, xx)), (2, (0, yy)), (3, (0, wi)), (4, (0, hi)), (5, (0, is_)), (6, (0, ki))], [], (w40, bd, fc, 0, 0, rr)) (fun φ => ∃ n w', xEnd 4 [(0, n)] (w', bd, fc, 0, 0, rr) φ ∧ (n ≤ 1) ∧ xMnv w' ∧ xFr [] w w') := by
    intro m39
    induction m39 with
    | zero => intro is_ ki w40 hz; exact absurd hz (Nat.not_lt_zero _)
    | succ m39 ih38 =>
      intro is_ ki w40 hm45 hn43 hn44 hI41 hF42
      refine xg_t (xg_blk (b := [(6, 2, 2, 6, 0, 0), (8, 1, 0, 0, 0, 0), (9, 3, 1, 12, 0, 7), (12, 1, 3, 4, 0, 0), (13, 1, 10, 0, 0, 0), (14, 3, 6, 86, 3, 0), (17, 2, 2, 5, 0, 0), (19, 3, 7, 86, 1, 0), (22, 1, 0, 0, 0, 0), (23, 3, 1, 12, 0, 7), (26, 2, 4, 100, 0, 0), (28, 1, 3, 2, 0, 0), (29, 2, 2, 6, 0, 0), (31, 1, 16, 0, 0, 0), (32, 1, 11, 0, 0, 0), (33, 1, 10, 0, 0, 0), (34, 1, 2, 1, 0, 0), (35, 1, 2, 1, 0, 0), (36, 1, 2, 3, 0, 0), (37, 1, 11, 0, 0, 0), (38, 1, 3, 1, 0, 0), (39, 1, 18, 0, 0, 0), (40, 3, 13, 161, 98, 105), (43, 3, 7, 77, 0, 0), (46, 1, 0, 0, 0, 0), (47, 3, 1, 12, 0, 7), (50, 2, 4, 100, 0, 0), (52, 1, 3, 2, 0, 0), (53, 2, 2, 6, 0, 0), (55, 1, 16, 0, 0, 0), (56, 1, 11, 0, 0, 0), (57, 1, 3, 1, 0, 0), (58, 1, 11, 0, 0, 0), (59, 1, 10, 0, 0, 0), (60, 1, 2, 2, 0, 0), (61, 1, 2, 2, 0, 0), (62, 2, 2, 4, 0, 0), (64, 1, 11, 0, 0, 0), (65, 1, 3, 1, 0, 0), (66, 1, 18, 0, 0, 0), (67, 3, 13, 161, 98, 105), (70, 3, 7, 77, 0, 0), (73, 1, 3, 1, 0, 0), (74, 3, 8, 78, 0, 0)]) rfl) ?_
      refine xg_t (xg_iload (va := (0, ki)) rfl rfl) ?_
      refine xg_t (xg_aload (va := (2, 82)) rfl rfl) ?_
      refine xg_t (xg_getf (va := (2, 83)) (hF42.get (by decide) h82_31) rfl) ?_
      refine xg_t (xg_const) ?_
      refine xg_ialdB (n := 4) (B := 4294967295) (h83_34.fr hF42 (by decide)) (hb35) xnm0 (by omega) (fun u46 hu47 he48 => ?_)
      have hl49 : u46 ≤ 20 := by rw [← he48]; exact hx36.l4
      by_cases hc50 : ki < u46
      · refine xg_t (xg_icF (u := ki) (v := u46) rfl xnm0 xnm0 (xj_geF hc50 (by omega))) ?_
        refine xg_t (xg_iload (va := (0, is_)) rfl rfl) ?_
        by_cases hc51 : is_ = 0
        · refine xg_t (xg_ifF (u := is_) rfl xnm0 (xj_neF hc51)) ?_
          refine xg_t (xg_aload (va := (2, 82)) rfl rfl) ?_
          refine xg_t (xg_getf (va := (2, 83)) (hF42.get (by decide) h82_31) rfl) ?_
          refine xg_t (xg_bip) ?_
          refine xg_t (xg_const) ?_
          refine xg_t (xg_iload (va := (0, ki)) rfl rfl) ?_
          refine xg_t (xg_imul (u := 2) (v := ki) (z := 2 * ki) xnm0 xnm0 (by omega)) ?_
          refine xg_t (xg_iadd (u := 100) (v := 2 * ki) (z := 100 + (2 * ki)) xnm0 xnm0 (by omega)) ?_
          refine xg_ialdB (n := 100 + (2 * ki)) (B := 4294967295) (h83_34.fr hF42 (by decide)) (hb35) xnm0 (by omega) (fun u52 hu53 he54 => ?_)
          refine xg_t (xg_iload (va := (0, xx)) rfl rfl) ?_
          refine xg_t (xg_iload (va := (0, xx)) rfl rfl) ?_
          refine xg_t (xg_iload (va := (0, wi)) rfl rfl) ?_
          refine xg_t (xg_iadd (u := xx) (v := wi) (z := xx + wi) xnm0 xnm0 (by omega)) ?_
          refine xg_t (xg_const) ?_
          refine xg_t (xg_isub (u := xx + wi) (v := 1) (z := (xx + wi) - 1) xnm0 xnm0 (by omega)) ?_
          refine xg_t (xg_cSr mX12_isIn (vs := [(0, u52), (0, xx), (0, (xx + wi) - 1)]) (rest := []) (rs := [(0, if xx ≤ u52 ∧ u52 ≤ (xx + wi) - 1 then 1 else 0)]) (cn1 := 0) (sl1 := 0) rfl (mIsIn (by omega) (by omega) (by omega)) rfl rfl rfl rfl rfl rfl rfl rfl) ?_
          by_cases hc55 : xx ≤ u52 ∧ u52 ≤ (xx + wi) - 1
          · refine xg_t (xg_ifF (u := (if xx ≤ u52 ∧ u52 ≤ (xx + wi) - 1 then 1 else 0)) rfl xnm0 (xj_eqF (xite1 hc55))) ?_
            refine xg_t (xg_aload (va := (2, 82)) rfl rfl) ?_
            refine xg_t (xg_getf (va := (2, 83)) (hF42.get (by decide) h82_31) rfl) ?_
            refine xg_t (xg_bip) ?_
            refine xg_t (xg_const) ?_
            refine xg_t (xg_iload (va := (0, ki)) rfl rfl) ?_
            refine xg_t (xg_imul (u := 2) (v := ki) (z := 2 * ki) xnm0 xnm0 (by omega)) ?_
            refine xg_t (xg_iadd (u := 100) (v := 2 * ki) (z := 100 + (2 * ki)) xnm0 xnm0 (by omega)) ?_
            refine xg_t (xg_const) ?_
            refine xg_t (xg_iadd (u := 100 + (2 * ki)) (v := 1) (z := (100 + (2 * ki)) + 1) xnm0 xnm0 (by omega)) ?_
            refine xg_ialdB (n := (100 + (2 * ki)) + 1) (B := 4294967295) (h83_34.fr hF42 (by decide)) (hb35) xnm0 (by omega) (fun u56 hu57 he58 => ?_)
            refine xg_t (xg_iload (va := (0, yy)) rfl rfl) ?_
            refine xg_t (xg_iload (va := (0, yy)) rfl rfl) ?_
            refine xg_t (xg_iload (va := (0, hi)) rfl rfl) ?_
            refine xg_t (xg_iadd (u := yy) (v := hi) (z := yy + hi) xnm0 xnm0 (by omega)) ?_
            refine xg_t (xg_const) ?_
            refine xg_t (xg_isub (u := yy + hi) (v := 1) (z := (yy + hi) - 1) xnm0 xnm0 (by omega)) ?_
            refine xg_t (xg_cSr mX12_isIn (vs := [(0, u56), (0, yy), (0, (yy + hi) - 1)]) (rest := []) (rs := [(0, if yy ≤ u56 ∧ u56 ≤ (yy + hi) - 1 then 1 else 0)]) (cn1 := 0) (sl1 := 0) rfl (mIsIn (by omega) (by omega) (by omega)) rfl rfl rfl rfl rfl rfl rfl rfl) ?_
            by_cases hc59 : yy ≤ u56 ∧ u56 ≤ (yy + hi) - 1
            · refine xg_t (xg_ifF (u := (if yy ≤ u56 ∧ u56 ≤ (yy + hi) - 1 then 1 else 0)) rfl xnm0 (xj_eqF (xite1 hc59))) ?_
              refine xg_t (xg_const) ?_
              refine xg_t (xg_goto) ?_
              refine xg_t (xg_blk (b := [(78, 2, 15, 5, 0, 0), (80, 3, 9, 6, 1, 0), (83, 3, 8, 6, 0, 0)]) rfl) ?_
              refine xg_t (xg_istore (l1 := [(0, (2, 82)), (1, (0, xx)), (2, (0, yy)), (3, (0, wi)), (4, (0, hi)), (6, (0, ki))]) rfl rfl rfl) ?_
              refine xg_t (xg_iinc (u := ki) (z := ki + 1) (l1 := [(5, (0, 1)), (0, (2, 82)), (1, (0, xx)), (2, (0, yy)), (3, (0, wi)), (4, (0, hi))]) rfl rfl (by omega) rfl) ?_
              refine xg_t (xg_goto) ?_
              refine xg_t (xg_drop (l1 := [(0, (2, 82)), (1, (0, xx)), (2, (0, yy)), (3, (0, wi)), (4, (0, hi)), (5, (0, 1)), (6, (0, ki + 1))]) (List.forall_mem_cons.mpr ⟨List.mem_cons_of_mem _ (List.mem_cons_of_mem _ (List.mem_cons_self)), List.forall_mem_cons.mpr ⟨List.mem_cons_of_mem _ (List.mem_cons_of_mem _ (List.mem_cons_of_mem _ (List.mem_cons_self))), List.forall_mem_cons.mpr ⟨List.mem_cons_of_mem _ (List.mem_cons_of_mem _ (List.mem_cons_of_mem _ (List.mem_cons_of_mem _ (List.mem_cons_self)))), List.forall_mem_cons.mpr ⟨List.mem_cons_of_mem _ (List.mem_cons_of_mem _ (List.mem_cons_of_mem _ (List.mem_cons_of_mem _ (List.mem_cons_of_mem _ (List.mem_cons_self))))), List.forall_mem_cons.mpr ⟨List.mem_cons_of_mem _ (List.mem_cons_of_mem _ (List.mem_cons_of_mem _ (List.mem_cons_of_mem _ (List.mem_cons_of_mem _ (List.mem_cons_of_mem _ (List.mem_cons_self)))))), List.forall_mem_cons.mpr ⟨List.mem_cons_of_mem _ (List.mem_cons_self), List.forall_mem_cons.mpr ⟨List.mem_cons_self, fun _ h => absurd h List.not_mem_nil⟩⟩⟩⟩⟩⟩⟩)) ?_
              exact ih38 1 (ki + 1) w40 (by omega) (by omega) (by omega) (hI41) (hF42)
            · refine xg_t (xg_ifT (u := (if yy ≤ u56 ∧ u56 ≤ (yy + hi) - 1 then 1 else 0)) rfl xnm0 (xj_eqT (xite0 hc59))) ?_
              refine xg_t (xg_blk (b := [(77, 1, 3, 0, 0, 0)]) rfl) ?_
              refine xg_t (xg_const) ?_
              refine xg_t (xg_blk (b := [(78, 2, 15, 5, 0, 0), (80, 3, 9, 6, 1, 0), (83, 3, 8, 6, 0, 0)]) rfl) ?_
              refine xg_t (xg_istore (l1 := [(0, (2, 82)), (1, (0, xx)), (2, (0, yy)), (3, (0, wi)), (4, (0, hi)), (6, (0, ki))]) rfl rfl rfl) ?_
              refine xg_t (xg_iinc (u := ki) (z := ki + 1) (l1 := [(5, (0, 0)), (0, (2, 82)), (1, (0, xx)), (2, (0, yy)), (3, (0, wi)), (4, (0, hi))]) rfl rfl (by omega) rfl) ?_
              refine xg_t (xg_goto) ?_
              refine xg_t (xg_drop (l1 := [(0, (2, 82)), (1, (0, xx)), (2, (0, yy)), (3, (0, wi)), (4, (0, hi)), (5, (0, 0)), (6, (0, ki + 1))]) (List.forall_mem_cons.mpr ⟨List.mem_cons_of_mem _ (List.mem_cons_of_mem _ (List.mem_cons_self)), List.forall_mem_cons.mpr ⟨List.mem_cons_of_mem _ (List.mem_cons_of_mem _ (List.mem_cons_of_mem _ (List.mem_cons_self))), List.forall_mem_cons.mpr ⟨List.mem_cons_of_mem _ (List.mem_cons_of_mem _ (List.mem_cons_of_mem _ (List.mem_cons_of_mem _ (List.mem_cons_self)))), List.forall_mem_cons.mpr ⟨List.mem_cons_of_mem _ (List.mem_cons_of_mem _ (List.mem_cons_of_mem _ (List.mem_cons_of_mem _ (List.mem_cons_of_mem _ (List.mem_cons_self))))), List.forall_mem_cons.mpr ⟨List.mem_cons_of_mem _ (List.mem_cons_of_mem _ (List.mem_cons_of_mem _ (List.mem_cons_of_mem _ (List.mem_cons_of_mem _ (List.mem_cons_of_mem _ (List.mem_cons_self)))))), List.forall_mem_cons.mpr ⟨List.mem_cons_of_mem _ (List.mem_cons_self), List.forall_mem_cons.mpr ⟨List.mem_cons_self, fun _ h => absurd h List.not_mem_nil⟩⟩⟩⟩⟩⟩⟩)) ?_
              exact ih38 0 (ki + 1) w40 (by omega) (by omega) (by omega) (hI41) (hF42)
          · refine xg_t (xg_ifT (u := (if xx ≤ u52 ∧ u52 ≤ (xx + wi) - 1 then 1 else 0)) rfl xnm0 (xj_eqT (xite0 hc55))) ?_
            refine xg_t (xg_blk (b := [(77, 1, 3, 0, 0, 0)]) rfl) ?_
            refine xg_t (xg_const) ?_
            refine xg_t (xg_blk (b := [(78, 2, 15, 5, 0, 0), (80, 3, 9, 6, 1, 0), (83, 3, 8, 6, 0, 0)]) rfl) ?_
            refine xg_t (xg_istore (l1 := [(0, (2, 82)), (1, (0, xx)), (2, (0, yy)), (3, (0, wi)), (4, (0, hi)), (6, (0, ki))]) rfl rfl rfl) ?_
            refine xg_t (xg_iinc (u := ki) (z := ki + 1) (l1 := [(5, (0, 0)), (0, (2, 82)), (1, (0, xx)), (2, (0, yy)), (3, (0, wi)), (4, (0, hi))]) rfl rfl (by omega) rfl) ?_
            refine xg_t (xg_goto) ?_
            refine xg_t (xg_drop (l1 := [(0, (2, 82)), (1, (0, xx)), (2, (0, yy)), (3, (0, wi)), (4, (0, hi)), (5, (0, 0)), (6, (0, ki + 1))]) (List.forall_mem_cons.mpr ⟨List.mem_cons_of_mem _ (List.mem_cons_of_mem _ (List.mem_cons_self)), List.forall_mem_cons.mpr ⟨List.mem_cons_of_mem _ (List.mem_cons_of_mem _ (List.mem_cons_of_mem _ (List.mem_cons_self))), List.forall_mem_cons.mpr ⟨List.mem_cons_of_mem _ (List.mem_cons_of_mem _ (List.mem_cons_of_mem _ (List.mem_cons_of_mem _ (List.mem_cons_self)))), List.forall_mem_cons.mpr ⟨List.mem_cons_of_mem _ (List.mem_cons_of_mem _ (List.mem_cons_of_mem _ (List.mem_cons_of_mem _ (List.mem_cons_of_mem _ (List.mem_cons_self))))), List.forall_mem_cons.mpr ⟨List.mem_cons_of_mem _ (List.mem_cons_of_mem _ (List.mem_cons_of_mem _ (List.mem_cons_of_mem _ (List.mem_cons_of_mem _ (List.mem_cons_of_mem _ (List.mem_cons_self)))))), List.forall_mem_cons.mpr ⟨List.mem_cons_of_mem _ (List.mem_cons_self), List.forall_mem_cons.mpr ⟨List.mem_cons_self, fun _ h => absurd h List.not_mem_nil⟩⟩⟩⟩⟩⟩⟩)) ?_
            exact ih38 0 (ki + 1) w40 (by omega) (by omega) (by omega) (hI41) (hF42)
        · refine xg_t (xg_ifT (u := is_) rfl xnm0 (xj_neT hc51)) ?_
          refine xg_t (xg_blk (b := [(86, 2, 2, 5, 0, 0), (88, 1, 12, 0, 1, 0)]) rfl) ?_
          refine xg_t (xg_iload (va := (0, is_)) rfl rfl) ?_
          exact xg_e ⟨is_, w40, ⟨xret_b (by omega), rfl⟩, by omega, hI41, hF42⟩
      · refine xg_t (xg_icT (u := ki) (v := u46) rfl xnm0 xnm0 (xj_geT (by omega) (by omega))) ?_
        refine xg_t (xg_blk (b := [(86, 2, 2, 5, 0, 0), (88, 1, 12, 0, 1, 0)]) rfl) ?_
        refine xg_t (xg_iload (va := (0, is_)) rfl rfl) ?_
        exact xg_e ⟨is_, w40, ⟨xret_b (by omega), rfl⟩, by omega, hI41, hF42⟩
  exact key37 _ 0 0 w (Nat.lt_succ_self _) (by omega) (by omega) (hI) (xFr.rf)
theorem mPanelOf {xx yy wi hi : Nat} (hI : xMnv w) (hxx : xx ≤ 10) (hyy : yy ≤ 10) (hwi : wi ≤ 10) (hhi : hi ≤ 10) : xPi (d + 1) mX12_panelOf [(2, 82), (0, xx), (0, yy), (0, wi), (0, hi)] w bd fc rr (fun n w' => (n = 4294967295 ∨ n ≤ 3) ∧ xMnv w' ∧ xFr [] w w') := by
  refine xPi.of ?_
  show xTo (d + 1) mX12_panelOf (0, [], [(0, (2, 82)), (1, (0, xx)), (2, (0, yy)), (3, (0, wi)), (4, (0, hi))], [], (w, bd, fc, 0, 0, rr)) (fun φ => ∃ n w', xEnd 1 [(0, n)] (w', bd, fc, 0, 0, rr) φ ∧ (n = 4294967295 ∨ n ≤ 3) ∧ xMnv w' ∧ xFr [] w w')
  obtain ⟨f82_1, f82_3, f82_5, f82_7, f82_9, f82_11, f82_13, f82_15, f82_17, f82_19, f82_21, f82_22, f82_23, f82_25, f82_27, f82_29, h82_31, hb2, hb4, hb6, hb8, hb10, hb12, hb14, hb16, hb18, hb20, hb24, hb26, hb28, hb30, hb32⟩ := (hI 82 (by decide) (by decide) : cp82 (wget w 82))
  obtain ⟨g83_33, h83_34, hb35, hx36⟩ := (hI 83 (by decide) (by decide) : cpx83 (wget w 83))
  have h83_34 : xRow w 83 5360 50 g83_33 := h83_34
  obtain ⟨g107_37, h107_38, hb39⟩ := (hI 107 (by decide) (by decide) : cpK 2 0 14641 74 1 (wget w 107))
  have h107_38 : xRk 2 0 w 107 14641 74 g107_37 := h107_38
  refine xg_t (xg_blk (b := [(0, 1, 3, 4294967295, 0, 0), (1, 2, 15, 5, 0, 0), (3, 1, 3, 0, 0, 0), (4, 2, 15, 6, 0, 0)]) rfl) ?_
  refine xg_t (xg_const) ?_
  refine xg_t (xg_istore (l1 := [(0, (2, 82)), (1, (0, xx)), (2, (0, yy)), (3, (0, wi)), (4, (0, hi))]) rfl rfl rfl) ?_
  refine xg_t (xg_const) ?_
  refine xg_t (xg_istore (l1 := [(5, (0, 4294967295)), (0, (2, 82)), (1, (0, xx)), (2, (0, yy)), (3, (0, wi)), (4, (0, hi))]) rfl rfl rfl) ?_
  refine xg_t (xg_drop (l1 := [(0, (2, 82)), (1, (0, xx)), (2, (0, yy)), (3, (0, wi)), (4, (0, hi)), (5, (0, 4294967295)), (6, (0, 0))]) (List.forall_mem_cons.mpr ⟨List.mem_cons_of_mem _ (List.mem_cons_of_mem _ (List.mem_cons_self)), List.forall_mem_cons.mpr ⟨List.mem_cons_of_mem _ (List.mem_cons_of_mem _ (List.mem_cons_of_mem _ (List.mem_cons_self))), List.forall_mem_cons.mpr ⟨List.mem_cons_of_mem _ (List.mem_cons_of_mem _ (List.mem_cons_of_mem _ (List.mem_cons_of_mem _ (List.mem_cons_self)))), List.forall_mem_cons.mpr ⟨List.mem_cons_of_mem _ (List.mem_cons_of_mem _ (List.mem_cons_of_mem _ (List.mem_cons_of_mem _ (List.mem_cons_of_mem _ (List.mem_cons_self))))), List.forall_mem_cons.mpr ⟨List.mem_cons_of_mem _ (List.mem_cons_of_mem _ (List.mem_cons_of_mem _ (List.mem_cons_of_mem _ (List.mem_cons_of_mem _ (List.mem_cons_of_mem _ (List.mem_cons_self)))))), List.forall_mem_cons.mpr ⟨List.mem_cons_of_mem _ (List.mem_cons_self), List.forall_mem_cons.mpr ⟨List.mem_cons_self, fun _ h => absurd h List.not_mem_nil⟩⟩⟩⟩⟩⟩⟩)) ?_
  have key40 : ∀ (m42 : Nat) (bp ki : Nat) (w43 : List (List xE)), 4 - ki < m42 → bp ≤ 4294967295 → ki ≤ 4 → xMnv w43 → xFr [] w w43 → (bp = 4294967295 ∨ bp ≤ 3) → xTo (d + 1) mX12_panelOf (6, [], [(0, (2, 82)), (1, (0, xx)), (2, (0, yy)), (3, (0, wi)), (4, (0, hi)), (5, (0, bp)), (6, (0, ki))], [], (w43, bd, fc, 0, 0, rr)) (fun φ => ∃ n w', xEnd 1 [(0, n)] (w', bd, fc, 0, 0, rr) φ ∧ (n = 4294967295 ∨ n ≤ 3) ∧ xMnv w' ∧ xFr [] w w') := by
    intro m42
    induction m42 with
    | zero => intro bp ki w43 hz; exact absurd hz (Nat.not_lt_zero _)
    | succ m42 ih41 =>
      intro bp ki w43 hm49 hn46 hn47 hI44 hF45 he48
      refine xg_t (xg_blk (b := [(6, 2, 2, 6, 0, 0), (8, 1, 0, 0, 0, 0), (9, 3, 1, 12, 0, 7), (12, 1, 3, 3, 0, 0), (13, 1, 10, 0, 0, 0), (14, 3, 6, 95, 3, 0), (17, 2, 4, 80, 0, 0), (19, 1, 3, 3, 0, 0), (20, 2, 2, 6, 0, 0), (22, 1, 16, 0, 0, 0), (23, 1, 11, 0, 0, 0), (24, 2, 15, 7, 0, 0), (26, 1, 0, 0, 0, 0), (27, 3, 1, 12, 0, 7), (30, 2, 2, 7, 0, 0), (32, 1, 10, 0, 0, 0), (33, 1, 2, 3, 0, 0), (34, 3, 6, 89, 1, 0), (37, 1, 0, 0, 0, 0), (38, 3, 1, 12, 0, 7), (41, 2, 2, 7, 0, 0), (43, 1, 3, 1, 0, 0), (44, 1, 11, 0, 0, 0), (45, 1, 10, 0, 0, 0), (46, 2, 2, 4, 0, 0), (48, 3, 6, 54, 0, 0), (51, 3, 8, 89, 0, 0)]) rfl) ?_
      refine xg_t (xg_iload (va := (0, ki)) rfl rfl) ?_
      refine xg_t (xg_aload (va := (2, 82)) rfl rfl) ?_
      refine xg_t (xg_getf (va := (2, 83)) (hF45.get (by decide) h82_31) rfl) ?_
      refine xg_t (xg_const) ?_
      refine xg_ialdB (n := 3) (B := 4294967295) (h83_34.fr hF45 (by decide)) (hb35) xnm0 (by omega) (fun u50 hu51 he52 => ?_)
      have hl53 : u50 ≤ 4 := by rw [← he52]; exact hx36.l3
      by_cases hc54 : ki < u50
      · refine xg_t (xg_icF (u := ki) (v := u50) rfl xnm0 xnm0 (xj_geF hc54 (by omega))) ?_
        refine xg_t (xg_bip) ?_
        refine xg_t (xg_const) ?_
        refine xg_t (xg_iload (va := (0, ki)) rfl rfl) ?_
        refine xg_t (xg_imul (u := 3) (v := ki) (z := 3 * ki) xnm0 xnm0 (by omega)) ?_
        refine xg_t (xg_iadd (u := 80) (v := 3 * ki) (z := 80 + (3 * ki)) xnm0 xnm0 (by omega)) ?_
        refine xg_t (xg_istore (l1 := [(0, (2, 82)), (1, (0, xx)), (2, (0, yy)), (3, (0, wi)), (4, (0, hi)), (5, (0, bp)), (6, (0, ki))]) rfl rfl rfl) ?_
        refine xg_t (xg_aload (va := (2, 82)) rfl rfl) ?_
        refine xg_t (xg_getf (va := (2, 83)) (hF45.get (by decide) h82_31) rfl) ?_
        refine xg_t (xg_iload (va := (0, 80 + (3 * ki))) rfl rfl) ?_
        refine xg_ialdB (n := 80 + (3 * ki)) (B := 4294967295) (h83_34.fr hF45 (by decide)) (hb35) xnm0 (by omega) (fun u55 hu56 he57 => ?_)
        refine xg_t (xg_iload (va := (0, wi)) rfl rfl) ?_
        by_cases hc58 : u55 = wi
        · refine xg_t (xg_icF (u := u55) (v := wi) rfl xnm0 xnm0 (xj_neF hc58)) ?_
          refine xg_t (xg_aload (va := (2, 82)) rfl rfl) ?_
          refine xg_t (xg_getf (va := (2, 83)) (hF45.get (by decide) h82_31) rfl) ?_
          refine xg_t (xg_iload (va := (0, 80 + (3 * ki))) rfl rfl) ?_
          refine xg_t (xg_const) ?_
          refine xg_t (xg_iadd (u := 80 + (3 * ki)) (v := 1) (z := (80 + (3 * ki)) + 1) xnm0 xnm0 (by omega)) ?_
          refine xg_ialdB (n := (80 + (3 * ki)) + 1) (B := 4294967295) (h83_34.fr hF45 (by decide)) (hb35) xnm0 (by omega) (fun u59 hu60 he61 => ?_)
          refine xg_t (xg_iload (va := (0, hi)) rfl rfl) ?_
          by_cases hc62 : u59 = hi
          · refine xg_t (xg_icT (u := u59) (v := hi) rfl xnm0 xnm0 (xj_eqT hc62)) ?_
            refine xg_t (xg_blk (b := [(54, 2, 2, 5, 0, 0), (56, 3, 7, 85, 2, 0), (59, 1, 0, 0, 0, 0), (60, 3, 1, 12, 0, 7), (63, 2, 2, 7, 0, 0), (65, 1, 3, 2, 0, 0), (66, 1, 11, 0, 0, 0), (67, 1, 10, 0, 0, 0), (68, 1, 0, 0, 0, 0), (69, 3, 1, 12, 0, 7), (72, 2, 4, 80, 0, 0), (74, 1, 3, 3, 0, 0), (75, 2, 2, 5, 0, 0), (77, 1, 16, 0, 0, 0), (78, 1, 11, 0, 0, 0), (79, 1, 3, 2, 0, 0), (80, 1, 11, 0, 0, 0), (81, 1, 10, 0, 0, 0), (82, 3, 6, 89, 5, 0)]) rfl) ?_
            refine xg_t (xg_iload (va := (0, bp)) rfl rfl) ?_
            by_cases hc63 : bp < 2147483648
            · have hn64 : bp ≤ 3 := by omega
              refine xg_t (xg_ifF (u := bp) rfl xnm0 (xjz_ltF hc63)) ?_
              refine xg_t (xg_aload (va := (2, 82)) rfl rfl) ?_
              refine xg_t (xg_getf (va := (2, 83)) (hF45.get (by decide) h82_31) rfl) ?_
              refine xg_t (xg_iload (va := (0, 80 + (3 * ki))) rfl rfl) ?_
              refine xg_t (xg_const) ?_
              refine xg_t (xg_iadd (u := 80 + (3 * ki)) (v := 2) (z := (80 + (3 * ki)) + 2) xnm0 xnm0 (by omega)) ?_
              refine xg_ialdB (n := (80 + (3 * ki)) + 2) (B := 4294967295) (h83_34.fr hF45 (by decide)) (hb35) xnm0 (by omega) (fun u65 hu66 he67 => ?_)
              refine xg_t (xg_aload (va := (2, 82)) rfl rfl) ?_
              refine xg_t (xg_getf (va := (2, 83)) (hF45.get (by decide) h82_31) rfl) ?_
              refine xg_t (xg_bip) ?_
              refine xg_t (xg_const) ?_
              refine xg_t (xg_iload (va := (0, bp)) rfl rfl) ?_
              refine xg_t (xg_imul (u := 3) (v := bp) (z := 3 * bp) xnm0 xnm0 (by omega)) ?_
              refine xg_t (xg_iadd (u := 80) (v := 3 * bp) (z := 80 + (3 * bp)) xnm0 xnm0 (by omega)) ?_
              refine xg_t (xg_const) ?_
              refine xg_t (xg_iadd (u := 80 + (3 * bp)) (v := 2) (z := (80 + (3 * bp)) + 2) xnm0 xnm0 (by omega)) ?_
              refine xg_ialdB (n := (80 + (3 * bp)) + 2) (B := 4294967295) (h83_34.fr hF45 (by decide)) (hb35) xnm0 (by omega) (fun u68 hu69 he70 => ?_)
              by_cases hc71 : xbs u68 < xbs u65
              · have hc71u := hc71
                unfold xbs at hc71u
                refine xg_t (xg_icF (u := u65) (v := u68) rfl xnm0 xnm0 (xjs_leF hc71)) ?_
                refine xg_t (xg_blk (b := [(85, 2, 2, 6, 0, 0), (87, 2, 15, 5, 0, 0)]) rfl) ?_
                refine xg_t (xg_iload (va := (0, ki)) rfl rfl) ?_
                refine xg_t (xg_istore (l1 := [(7, (0, 80 + (3 * ki))), (0, (2, 82)), (1, (0, xx)), (2, (0, yy)), (3, (0, wi)), (4, (0, hi)), (6, (0, ki))]) rfl rfl rfl) ?_
                refine xg_t (xg_blk (b := [(89, 3, 9, 6, 1, 0), (92, 3, 8, 6, 0, 0)]) rfl) ?_
                refine xg_t (xg_iinc (u := ki) (z := ki + 1) (l1 := [(5, (0, ki)), (7, (0, 80 + (3 * ki))), (0, (2, 82)), (1, (0, xx)), (2, (0, yy)), (3, (0, wi)), (4, (0, hi))]) rfl rfl (by omega) rfl) ?_
                refine xg_t (xg_goto) ?_
                refine xg_t (xg_drop (l1 := [(0, (2, 82)), (1, (0, xx)), (2, (0, yy)), (3, (0, wi)), (4, (0, hi)), (5, (0, ki)), (6, (0, ki + 1))]) (List.forall_mem_cons.mpr ⟨List.mem_cons_of_mem _ (List.mem_cons_of_mem _ (List.mem_cons_of_mem _ (List.mem_cons_self))), List.forall_mem_cons.mpr ⟨List.mem_cons_of_mem _ (List.mem_cons_of_mem _ (List.mem_cons_of_mem _ (List.mem_cons_of_mem _ (List.mem_cons_self)))), List.forall_mem_cons.mpr ⟨List.mem_cons_of_mem _ (List.mem_cons_of_mem _ (List.mem_cons_of_mem _ (List.mem_cons_of_mem _ (List.mem_cons_of_mem _ (List.mem_cons_self))))), List.forall_mem_cons.mpr ⟨List.mem_cons_of_mem _ (List.mem_cons_of_mem _ (List.mem_cons_of_mem _ (List.mem_cons_of_mem _ (List.mem_cons_of_mem _ (List.mem_cons_of_mem _ (List.mem_cons_self)))))), List.forall_mem_cons.mpr ⟨List.mem_cons_of_mem _ (List.mem_cons_of_mem _ (List.mem_cons_of_mem _ (List.mem_cons_of_mem _ (List.mem_cons_of_mem _ (List.mem_cons_of_mem _ (List.mem_cons_of_mem _ (List.mem_cons_self))))))), List.forall_mem_cons.mpr ⟨List.mem_cons_of_mem _ (List.mem_cons_self), List.forall_mem_cons.mpr ⟨List.mem_cons_self, fun _ h => absurd h List.not_mem_nil⟩⟩⟩⟩⟩⟩⟩)) ?_
                exact ih41 ki (ki + 1) w43 (by omega) (by omega) (by omega) (hI44) (hF45) (by omega)
              · have hc71u := hc71
                unfold xbs at hc71u
                refine xg_t (xg_icT (u := u65) (v := u68) rfl xnm0 xnm0 (xjs_leT hc71)) ?_
                refine xg_t (xg_blk (b := [(89, 3, 9, 6, 1, 0), (92, 3, 8, 6, 0, 0)]) rfl) ?_
                refine xg_t (xg_iinc (u := ki) (z := ki + 1) (l1 := [(7, (0, 80 + (3 * ki))), (0, (2, 82)), (1, (0, xx)), (2, (0, yy)), (3, (0, wi)), (4, (0, hi)), (5, (0, bp))]) rfl rfl (by omega) rfl) ?_
                refine xg_t (xg_goto) ?_
                refine xg_t (xg_drop (l1 := [(0, (2, 82)), (1, (0, xx)), (2, (0, yy)), (3, (0, wi)), (4, (0, hi)), (5, (0, bp)), (6, (0, ki + 1))]) (List.forall_mem_cons.mpr ⟨List.mem_cons_of_mem _ (List.mem_cons_of_mem _ (List.mem_cons_self)), List.forall_mem_cons.mpr ⟨List.mem_cons_of_mem _ (List.mem_cons_of_mem _ (List.mem_cons_of_mem _ (List.mem_cons_self))), List.forall_mem_cons.mpr ⟨List.mem_cons_of_mem _ (List.mem_cons_of_mem _ (List.mem_cons_of_mem _ (List.mem_cons_of_mem _ (List.mem_cons_self)))), List.forall_mem_cons.mpr ⟨List.mem_cons_of_mem _ (List.mem_cons_of_mem _ (List.mem_cons_of_mem _ (List.mem_cons_of_mem _ (List.mem_cons_of_mem _ (List.mem_cons_self))))), List.forall_mem_cons.mpr ⟨List.mem_cons_of_mem _ (List.mem_cons_of_mem _ (List.mem_cons_of_mem _ (List.mem_cons_of_mem _ (List.mem_cons_of_mem _ (List.mem_cons_of_mem _ (List.mem_cons_self)))))), List.forall_mem_cons.mpr ⟨List.mem_cons_of_mem _ (List.mem_cons_of_mem _ (List.mem_cons_of_mem _ (List.mem_cons_of_mem _ (List.mem_cons_of_mem _ (List.mem_cons_of_mem _ (List.mem_cons_of_mem _ (List.mem_cons_self))))))), List.forall_mem_cons.mpr ⟨List.mem_cons_self, fun _ h => absurd h List.not_mem_nil⟩⟩⟩⟩⟩⟩⟩)) ?_
                exact ih41 bp (ki + 1) w43 (by omega) (by omega) (by omega) (hI44) (hF45) (by omega)
            · refine xg_t (xg_ifT (u := bp) rfl xnm0 (xjz_ltT (by omega) (by omega))) ?_
              refine xg_t (xg_blk (b := [(85, 2, 2, 6, 0, 0), (87, 2, 15, 5, 0, 0)]) rfl) ?_
              refine xg_t (xg_iload (va := (0, ki)) rfl rfl) ?_
              refine xg_t (xg_istore (l1 := [(7, (0, 80 + (3 * ki))), (0, (2, 82)), (1, (0, xx)), (2, (0, yy)), (3, (0, wi)), (4, (0, hi)), (6, (0, ki))]) rfl rfl rfl) ?_
              refine xg_t (xg_blk (b := [(89, 3, 9, 6, 1, 0), (92, 3, 8, 6, 0, 0)]) rfl) ?_
              refine xg_t (xg_iinc (u := ki) (z := ki + 1) (l1 := [(5, (0, ki)), (7, (0, 80 + (3 * ki))), (0, (2, 82)), (1, (0, xx)), (2, (0, yy)), (3, (0, wi)), (4, (0, hi))]) rfl rfl (by omega) rfl) ?_
              refine xg_t (xg_goto) ?_
              refine xg_t (xg_drop (l1 := [(0, (2, 82)), (1, (0, xx)), (2, (0, yy)), (3, (0, wi)), (4, (0, hi)), (5, (0, ki)), (6, (0, ki + 1))]) (List.forall_mem_cons.mpr ⟨List.mem_cons_of_mem _ (List.mem_cons_of_mem _ (List.mem_cons_of_mem _ (List.mem_cons_self))), List.forall_mem_cons.mpr ⟨List.mem_cons_of_mem _ (List.mem_cons_of_mem _ (List.mem_cons_of_mem _ (List.mem_cons_of_mem _ (List.mem_cons_self)))), List.forall_mem_cons.mpr ⟨List.mem_cons_of_mem _ (List.mem_cons_of_mem _ (List.mem_cons_of_mem _ (List.mem_cons_of_mem _ (List.mem_cons_of_mem _ (List.mem_cons_self))))), List.forall_mem_cons.mpr ⟨List.mem_cons_of_mem _ (List.mem_cons_of_mem _ (List.mem_cons_of_mem _ (List.mem_cons_of_mem _ (List.mem_cons_of_mem _ (List.mem_cons_of_mem _ (List.mem_cons_self)))))), List.forall_mem_cons.mpr ⟨List.mem_cons_of_mem _ (List.mem_cons_of_mem _ (List.mem_cons_of_mem _ (List.mem_cons_of_mem _ (List.mem_cons_of_mem _ (List.mem_cons_of_mem _ (List.mem_cons_of_mem _ (List.mem_cons_self))))))), List.forall_mem_cons.mpr ⟨List.mem_cons_of_mem _ (List.mem_cons_self), List.forall_mem_cons.mpr ⟨List.mem_cons_self, fun _ h => absurd h List.not_mem_nil⟩⟩⟩⟩⟩⟩⟩)) ?_
              exact ih41 ki (ki + 1) w43 (by omega) (by omega) (by omega) (hI44) (hF45) (by omega)
          · refine xg_t (xg_icF (u := u59) (v := hi) rfl xnm0 xnm0 (xj_eqF hc62)) ?_
            refine xg_t (xg_goto) ?_
            refine xg_t (xg_blk (b := [(89, 3, 9, 6, 1, 0), (92, 3, 8, 6, 0, 0)]) rfl) ?_
            refine xg_t (xg_iinc (u := ki) (z := ki + 1) (l1 := [(7, (0, 80 + (3 * ki))), (0, (2, 82)), (1, (0, xx)), (2, (0, yy)), (3, (0, wi)), (4, (0, hi)), (5, (0, bp))]) rfl rfl (by omega) rfl) ?_
            refine xg_t (xg_goto) ?_
            refine xg_t (xg_drop (l1 := [(0, (2, 82)), (1, (0, xx)), (2, (0, yy)), (3, (0, wi)), (4, (0, hi)), (5, (0, bp)), (6, (0, ki + 1))]) (List.forall_mem_cons.mpr ⟨List.mem_cons_of_mem _ (List.mem_cons_of_mem _ (List.mem_cons_self)), List.forall_mem_cons.mpr ⟨List.mem_cons_of_mem _ (List.mem_cons_of_mem _ (List.mem_cons_of_mem _ (List.mem_cons_self))), List.forall_mem_cons.mpr ⟨List.mem_cons_of_mem _ (List.mem_cons_of_mem _ (List.mem_cons_of_mem _ (List.mem_cons_of_mem _ (List.mem_cons_self)))), List.forall_mem_cons.mpr ⟨List.mem_cons_of_mem _ (List.mem_cons_of_mem _ (List.mem_cons_of_mem _ (List.mem_cons_of_mem _ (List.mem_cons_of_mem _ (List.mem_cons_self))))), List.forall_mem_cons.mpr ⟨List.mem_cons_of_mem _ (List.mem_cons_of_mem _ (List.mem_cons_of_mem _ (List.mem_cons_of_mem _ (List.mem_cons_of_mem _ (List.mem_cons_of_mem _ (List.mem_cons_self)))))), List.forall_mem_cons.mpr ⟨List.mem_cons_of_mem _ (List.mem_cons_of_mem _ (List.mem_cons_of_mem _ (List.mem_cons_of_mem _ (List.mem_cons_of_mem _ (List.mem_cons_of_mem _ (List.mem_cons_of_mem _ (List.mem_cons_self))))))), List.forall_mem_cons.mpr ⟨List.mem_cons_self, fun _ h => absurd h List.not_mem_nil⟩⟩⟩⟩⟩⟩⟩)) ?_
            exact ih41 bp (ki + 1) w43 (by omega) (by omega) (by omega) (hI44) (hF45) (by omega)
        · refine xg_t (xg_icT (u := u55) (v := wi) rfl xnm0 xnm0 (xj_neT hc58)) ?_
          refine xg_t (xg_blk (b := [(89, 3, 9, 6, 1, 0), (92, 3, 8, 6, 0, 0)]) rfl) ?_
          refine xg_t (xg_iinc (u := ki) (z := ki + 1) (l1 := [(7, (0, 80 + (3 * ki))), (0, (2, 82)), (1, (0, xx)), (2, (0, yy)), (3, (0, wi)), (4, (0, hi)), (5, (0, bp))]) rfl rfl (by omega) rfl) ?_
          refine xg_t (xg_goto) ?_
          refine xg_t (xg_drop (l1 := [(0, (2, 82)), (1, (0, xx)), (2, (0, yy)), (3, (0, wi)), (4, (0, hi)), (5, (0, bp)), (6, (0, ki + 1))]) (List.forall_mem_cons.mpr ⟨List.mem_cons_of_mem _ (List.mem_cons_of_mem _ (List.mem_cons_self)), List.forall_mem_cons.mpr ⟨List.mem_cons_of_mem _ (List.mem_cons_of_mem _ (List.mem_cons_of_mem _ (List.mem_cons_self))), List.forall_mem_cons.mpr ⟨List.mem_cons_of_mem _ (List.mem_cons_of_mem _ (List.mem_cons_of_mem _ (List.mem_cons_of_mem _ (List.mem_cons_self)))), List.forall_mem_cons.mpr ⟨List.mem_cons_of_mem _ (List.mem_cons_of_mem _ (List.mem_cons_of_mem _ (List.mem_cons_of_mem _ (List.mem_cons_of_mem _ (List.mem_cons_self))))), List.forall_mem_cons.mpr ⟨List.mem_cons_of_mem _ (List.mem_cons_of_mem _ (List.mem_cons_of_mem _ (List.mem_cons_of_mem _ (List.mem_cons_of_mem _ (List.mem_cons_of_mem _ (List.mem_cons_self)))))), List.forall_mem_cons.mpr ⟨List.mem_cons_of_mem _ (List.mem_cons_of_mem _ (List.mem_cons_of_mem _ (List.mem_cons_of_mem _ (List.mem_cons_of_mem _ (List.mem_cons_of_mem _ (List.mem_cons_of_mem _ (List.mem_cons_self))))))), List.forall_mem_cons.mpr ⟨List.mem_cons_self, fun _ h => absurd h List.not_mem_nil⟩⟩⟩⟩⟩⟩⟩)) ?_
          exact ih41 bp (ki + 1) w43 (by omega) (by omega) (by omega) (hI44) (hF45) (by omega)
      · refine xg_t (xg_icT (u := ki) (v := u50) rfl xnm0 xnm0 (xj_geT (by omega) (by omega))) ?_
        refine xg_t (xg_blk (b := [(95, 2, 2, 5, 0, 0), (97, 3, 7, 120, 2, 0), (100, 1, 0, 0, 0, 0), (101, 3, 1, 12, 38, 84), (104, 1, 2, 1, 0, 0), (105, 1, 2, 2, 0, 0), (106, 1, 2, 3, 0, 0), (107, 2, 2, 4, 0, 0), (109, 3, 13, 118, 98, 344), (112, 1, 32, 0, 0, 0), (113, 3, 7, 120, 0, 0), (116, 1, 3, 4294967295, 0, 0), (117, 3, 8, 122, 0, 0)]) rfl) ?_
        refine xg_t (xg_iload (va := (0, bp)) rfl rfl) ?_
        by_cases hc72 : bp < 2147483648
        · have hn73 : bp ≤ 3 := by omega
          refine xg_t (xg_ifF (u := bp) rfl xnm0 (xjz_ltF hc72)) ?_
          refine xg_t (xg_aload (va := (2, 82)) rfl rfl) ?_
          refine xg_t (xg_getf (va := (2, 107)) (hF45.get (by decide) h82_31) rfl) ?_
          refine xg_t (xg_iload (va := (0, xx)) rfl rfl) ?_
          refine xg_t (xg_iload (va := (0, yy)) rfl rfl) ?_
          refine xg_t (xg_iload (va := (0, wi)) rfl rfl) ?_
          refine xg_t (xg_iload (va := (0, hi)) rfl rfl) ?_
          refine xg_cSi mX12_at (vs := [(0, xx), (0, yy), (0, wi), (0, hi)]) (rest := [(2, 107)]) (cn1 := 0) (sl1 := 0) rfl (mAt (hI44) (by omega) (by omega) (by omega) (by omega)) rfl rfl rfl rfl rfl rfl rfl (fun n78 w74 hq75 => ?_)
          obtain ⟨hn79, hI76, hF77⟩ := hq75
          have hl80 : n78 ≤ 14640 := by omega
          refine xg_baldB (n := n78) (B := 1) ((h107_38.fr hF45 (by decide)).fr hF77 (by decide)) rfl (hb39) xnm0 (by omega) (fun u81 hu82 he83 => ?_)
          by_cases hc84 : u81 = 0
          · refine xg_t (xg_ifT (u := u81) rfl xnm0 (xj_eqT hc84)) ?_
            refine xg_t (xg_blk (b := [(120, 2, 2, 5, 0, 0)]) rfl) ?_
            refine xg_t (xg_iload (va := (0, bp)) rfl rfl) ?_
            refine xg_t (xg_blk (b := [(122, 1, 12, 0, 1, 0)]) rfl) ?_
            exact xg_e ⟨bp, w74, ⟨rfl, rfl⟩, by omega, hI76, (hF45.tr (hF77.up (by decide)))⟩
          · refine xg_t (xg_ifF (u := u81) rfl xnm0 (xj_eqF hc84)) ?_
            refine xg_t (xg_const) ?_
            refine xg_t (xg_goto) ?_
            refine xg_t (xg_blk (b := [(122, 1, 12, 0, 1, 0)]) rfl) ?_
            exact xg_e ⟨4294967295, w74, ⟨rfl, rfl⟩, by omega, hI76, (hF45.tr (hF77.up (by decide)))⟩
        · refine xg_t (xg_ifT (u := bp) rfl xnm0 (xjz_ltT (by omega) (by omega))) ?_
          refine xg_t (xg_blk (b := [(120, 2, 2, 5, 0, 0)]) rfl) ?_
          refine xg_t (xg_iload (va := (0, bp)) rfl rfl) ?_
          refine xg_t (xg_blk (b := [(122, 1, 12, 0, 1, 0)]) rfl) ?_
          exact xg_e ⟨bp, w43, ⟨rfl, rfl⟩, by omega, hI44, hF45⟩
  exact key40 _ 4294967295 0 w (Nat.lt_succ_self _) (by omega) (by omega) (hI) (xFr.rf) (by omega)
theorem mPieceOf {xx yy wi hi : Nat} (hI : xMnv w) (hxx : xx ≤ 10) (hyy : yy ≤ 10) (hwi : wi ≤ 10) (hhi : hi ≤ 10) (hxw : xx + wi ≤ 10) (hyh : yy + hi ≤ 10) (h1w : 1 ≤ wi) (h1h : 1 ≤ hi) : xPi (d + 2) mX12_pieceOf [(2, 82), (0, xx), (0, yy), (0, wi), (0, hi)] w bd fc rr (fun n w' => (n ≤ 4294967295) ∧ xMnv w' ∧ xFr [] w w') := by
  refine xPi.of ?_
  show xTo (d + 2) mX12_pieceOf (0, [], [(0, (2, 82)), (1, (0, xx)), (2, (0, yy)), (3, (0, wi)), (4, (0, hi))], [], (w, bd, fc, 0, 0, rr)) (fun φ => ∃ n w', xEnd 1 [(0, n)] (w', bd, fc, 0, 0, rr) φ ∧ (n ≤ 4294967295) ∧ xMnv w' ∧ xFr [] w w')
  obtain ⟨f82_1, f82_3, f82_5, f82_7, f82_9, f82_11, f82_13, f82_15, f82_17, f82_19, f82_21, f82_22, f82_23, f82_25, f82_27, f82_29, h82_31, hb2, hb4, hb6, hb8, hb10, hb12, hb14, hb16, hb18, hb20, hb24, hb26, hb28, hb30, hb32⟩ := (hI 82 (by decide) (by decide) : cp82 (wget w 82))
  obtain ⟨g83_33, h83_34, hb35, hx36⟩ := (hI 83 (by decide) (by decide) : cpx83 (wget w 83))
  have h83_34 : xRow w 83 5360 50 g83_33 := h83_34
  obtain ⟨g106_37, h106_38, hb39⟩ := (hI 106 (by decide) (by decide) : cpI 14641 73 4294967295 (wget w 106))
  have h106_38 : xRow w 106 14641 73 g106_37 := h106_38
  refine xg_t (xg_blk (b := [(0, 1, 0, 0, 0, 0), (1, 1, 2, 1, 0, 0), (2, 1, 2, 2, 0, 0), (3, 1, 2, 3, 0, 0), (4, 2, 2, 4, 0, 0), (6, 3, 13, 203, 96, 348), (9, 2, 15, 5, 0, 0), (11, 2, 2, 5, 0, 0), (13, 3, 7, 20, 3, 0), (16, 1, 3, 0, 0, 0), (17, 3, 8, 34, 0, 0)]) rfl) ?_
  refine xg_t (xg_aload (va := (2, 82)) rfl rfl) ?_
  refine xg_t (xg_iload (va := (0, xx)) rfl rfl) ?_
  refine xg_t (xg_iload (va := (0, yy)) rfl rfl) ?_
  refine xg_t (xg_iload (va := (0, wi)) rfl rfl) ?_
  refine xg_t (xg_iload (va := (0, hi)) rfl rfl) ?_
  refine xg_cVi mX12_panelOf (vs := [(0, xx), (0, yy), (0, wi), (0, hi)]) (rest := []) (cn1 := 0) (sl1 := 0) rfl (mPanelOf (hI) (by omega) (by omega) (by omega) (by omega)) rfl h82_31 rfl rfl rfl rfl rfl rfl (fun n44 w40 hq41 => ?_)
  obtain ⟨hn45, hI42, hF43⟩ := hq41
  refine xg_t (xg_istore (l1 := [(0, (2, 82)), (1, (0, xx)), (2, (0, yy)), (3, (0, wi)), (4, (0, hi))]) rfl rfl rfl) ?_
  refine xg_t (xg_iload (va := (0, n44)) rfl rfl) ?_
  by_cases hc46 : n44 < 2147483648
  · have hn47 : n44 ≤ 3 := by omega
    refine xg_t (xg_ifT (u := n44) rfl xnm0 (xjz_geT hc46)) ?_
    refine xg_t (xg_blk (b := [(20, 1, 0, 0, 0, 0), (21, 3, 1, 12, 0, 7), (24, 2, 4, 80, 0, 0), (26, 1, 3, 3, 0, 0), (27, 2, 2, 5, 0, 0), (29, 1, 16, 0, 0, 0), (30, 1, 11, 0, 0, 0), (31, 1, 3, 2, 0, 0), (32, 1, 11, 0, 0, 0), (33, 1, 10, 0, 0, 0)]) rfl) ?_
    refine xg_t (xg_aload (va := (2, 82)) rfl rfl) ?_
    refine xg_t (xg_getf (va := (2, 83)) (hF43.get (by decide) h82_31) rfl) ?_
    refine xg_t (xg_bip) ?_
    refine xg_t (xg_const) ?_
    refine xg_t (xg_iload (va := (0, n44)) rfl rfl) ?_
    refine xg_t (xg_imul (u := 3) (v := n44) (z := 3 * n44) xnm0 xnm0 (by omega)) ?_
    refine xg_t (xg_iadd (u := 80) (v := 3 * n44) (z := 80 + (3 * n44)) xnm0 xnm0 (by omega)) ?_
    refine xg_t (xg_const) ?_
    refine xg_t (xg_iadd (u := 80 + (3 * n44)) (v := 2) (z := (80 + (3 * n44)) + 2) xnm0 xnm0 (by omega)) ?_
    refine xg_ialdB (n := (80 + (3 * n44)) + 2) (B := 4294967295) (h83_34.fr hF43 (by decide)) (hb35) xnm0 (by omega) (fun u48 hu49 he50 => ?_)
    refine xg_t (xg_blk (b := [(34, 2, 15, 6, 0, 0), (36, 1, 3, 1, 0, 0), (37, 2, 15, 7, 0, 0)]) rfl) ?_
    refine xg_t (xg_istore (l1 := [(5, (0, n44)), (0, (2, 82)), (1, (0, xx)), (2, (0, yy)), (3, (0, wi)), (4, (0, hi))]) rfl rfl rfl) ?_
    refine xg_t (xg_const) ?_
    refine xg_t (xg_istore (l1 := [(6, (0, u48)), (5, (0, n44)), (0, (2, 82)), (1, (0, xx)), (2, (0, yy)), (3, (0, wi)), (4, (0, hi))]) rfl rfl rfl) ?_
    refine xg_t (xg_drop (l1 := [(0, (2, 82)), (1, (0, xx)), (2, (0, yy)), (3, (0, wi)), (4, (0, hi)), (5, (0, n44)), (6, (0, u48)), (7, (0, 1))]) (List.forall_mem_cons.mpr ⟨List.mem_cons_of_mem _ (List.mem_cons_of_mem _ (List.mem_cons_of_mem _ (List.mem_cons_self))), List.forall_mem_cons.mpr ⟨List.mem_cons_of_mem _ (List.mem_cons_of_mem _ (List.mem_cons_of_mem _ (List.mem_cons_of_mem _ (List.mem_cons_self)))), List.forall_mem_cons.mpr ⟨List.mem_cons_of_mem _ (List.mem_cons_of_mem _ (List.mem_cons_of_mem _ (List.mem_cons_of_mem _ (List.mem_cons_of_mem _ (List.mem_cons_self))))), List.forall_mem_cons.mpr ⟨List.mem_cons_of_mem _ (List.mem_cons_of_mem _ (List.mem_cons_of_mem _ (List.mem_cons_of_mem _ (List.mem_cons_of_mem _ (List.mem_cons_of_mem _ (List.mem_cons_self)))))), List.forall_mem_cons.mpr ⟨List.mem_cons_of_mem _ (List.mem_cons_of_mem _ (List.mem_cons_of_mem _ (List.mem_cons_of_mem _ (List.mem_cons_of_mem _ (List.mem_cons_of_mem _ (List.mem_cons_of_mem _ (List.mem_cons_self))))))), List.forall_mem_cons.mpr ⟨List.mem_cons_of_mem _ (List.mem_cons_of_mem _ (List.mem_cons_self)), List.forall_mem_cons.mpr ⟨List.mem_cons_of_mem _ (List.mem_cons_self), List.forall_mem_cons.mpr ⟨List.mem_cons_self, fun _ h => absurd h List.not_mem_nil⟩⟩⟩⟩⟩⟩⟩⟩)) ?_
    have key51 : ∀ (m53 : Nat) (mo ci : Nat) (w54 : List (List xE)), 10 - ci < m53 → mo ≤ 4294967295 → ci ≤ 10 → xMnv w54 → xFr [] w w54 → 1 ≤ ci → xTo (d + 2) mX12_pieceOf (39, [], [(0, (2, 82)), (1, (0, xx)), (2, (0, yy)), (3, (0, wi)), (4, (0, hi)), (5, (0, n44)), (6, (0, mo)), (7, (0, ci))], [], (w54, bd, fc, 0, 0, rr)) (fun φ => ∃ n w', xEnd 1 [(0, n)] (w', bd, fc, 0, 0, rr) φ ∧ (n ≤ 4294967295) ∧ xMnv w' ∧ xFr [] w w') := by
      intro m53
      induction m53 with
      | zero => intro mo ci w54 hz; exact absurd hz (Nat.not_lt_zero _)
      | succ m53 ih52 =>
        intro mo ci w54 hm60 hn57 hn58 hI55 hF56 he59
        refine xg_t (xg_blk (b := [(39, 2, 2, 7, 0, 0), (41, 1, 2, 3, 0, 0), (42, 3, 6, 103, 3, 0), (45, 1, 0, 0, 0, 0), (46, 3, 1, 12, 37, 81), (49, 1, 2, 1, 0, 0), (50, 1, 2, 2, 0, 0), (51, 2, 2, 7, 0, 0), (53, 2, 2, 4, 0, 0), (55, 3, 13, 118, 98, 344), (58, 1, 10, 0, 0, 0), (59, 1, 0, 0, 0, 0), (60, 3, 1, 12, 37, 81), (63, 1, 2, 1, 0, 0), (64, 2, 2, 7, 0, 0), (66, 1, 11, 0, 0, 0), (67, 1, 2, 2, 0, 0), (68, 1, 2, 3, 0, 0), (69, 2, 2, 7, 0, 0), (71, 1, 18, 0, 0, 0), (72, 2, 2, 4, 0, 0), (74, 3, 13, 118, 98, 344), (77, 1, 10, 0, 0, 0), (78, 1, 11, 0, 0, 0), (79, 2, 15, 8, 0, 0), (81, 2, 2, 8, 0, 0), (83, 2, 2, 6, 0, 0), (85, 3, 6, 93, 5, 0), (88, 2, 2, 8, 0, 0), (90, 3, 8, 95, 0, 0)]) rfl) ?_
        refine xg_t (xg_iload (va := (0, ci)) rfl rfl) ?_
        refine xg_t (xg_iload (va := (0, wi)) rfl rfl) ?_
        by_cases hc61 : ci < wi
        · refine xg_t (xg_icF (u := ci) (v := wi) rfl xnm0 xnm0 (xj_geF hc61 (by omega))) ?_
          refine xg_t (xg_aload (va := (2, 82)) rfl rfl) ?_
          refine xg_t (xg_getf (va := (2, 106)) (hF56.get (by decide) h82_31) rfl) ?_
          refine xg_t (xg_iload (va := (0, xx)) rfl rfl) ?_
          refine xg_t (xg_iload (va := (0, yy)) rfl rfl) ?_
          refine xg_t (xg_iload (va := (0, ci)) rfl rfl) ?_
          refine xg_t (xg_iload (va := (0, hi)) rfl rfl) ?_
          refine xg_cSi mX12_at (vs := [(0, xx), (0, yy), (0, ci), (0, hi)]) (rest := [(2, 106)]) (cn1 := 0) (sl1 := 0) rfl (mAt (hI55) (by omega) (by omega) (by omega) (by omega)) rfl rfl rfl rfl rfl rfl rfl (fun n66 w62 hq63 => ?_)
          obtain ⟨hn67, hI64, hF65⟩ := hq63
          have hl68 : n66 ≤ 14640 := by omega
          refine xg_ialdB (n := n66) (B := 4294967295) ((h106_38.fr hF56 (by decide)).fr hF65 (by decide)) (hb39) xnm0 (by omega) (fun u69 hu70 he71 => ?_)
          refine xg_t (xg_aload (va := (2, 82)) rfl rfl) ?_
          refine xg_t (xg_getf (va := (2, 106)) (hF65.get (by decide) (hF56.get (by decide) h82_31)) rfl) ?_
          refine xg_t (xg_iload (va := (0, xx)) rfl rfl) ?_
          refine xg_t (xg_iload (va := (0, ci)) rfl rfl) ?_
          refine xg_t (xg_iadd (u := xx) (v := ci) (z := xx + ci) xnm0 xnm0 (by omega)) ?_
          refine xg_t (xg_iload (va := (0, yy)) rfl rfl) ?_
          refine xg_t (xg_iload (va := (0, wi)) rfl rfl) ?_
          refine xg_t (xg_iload (va := (0, ci)) rfl rfl) ?_
          refine xg_t (xg_isub (u := wi) (v := ci) (z := wi - ci) xnm0 xnm0 (by omega)) ?_
          refine xg_t (xg_iload (va := (0, hi)) rfl rfl) ?_
          refine xg_cSi mX12_at (vs := [(0, xx + ci), (0, yy), (0, wi - ci), (0, hi)]) (rest := [(2, 106), (0, u69)]) (cn1 := 0) (sl1 := 0) rfl (mAt (hI64) (by omega) (by omega) (by omega) (by omega)) rfl rfl rfl rfl rfl rfl rfl (fun n76 w72 hq73 => ?_)
          obtain ⟨hn77, hI74, hF75⟩ := hq73
          have hl78 : n76 ≤ 14640 := by omega
          refine xg_ialdB (n := n76) (B := 4294967295) (((h106_38.fr hF56 (by decide)).fr hF65 (by decide)).fr hF75 (by decide)) (hb39) xnm0 (by omega) (fun u79 hu80 he81 => ?_)
          refine xg_k (xg_iadd (u := u69) (v := u79) (z := (u69 + u79) % 4294967296) xnm0 xnm0 rfl) (Nat.mod_lt _ (by decide)) (fun z82 hz83 => ?_)
          refine xg_t (xg_istore (l1 := [(0, (2, 82)), (1, (0, xx)), (2, (0, yy)), (3, (0, wi)), (4, (0, hi)), (5, (0, n44)), (6, (0, mo)), (7, (0, ci))]) rfl rfl rfl) ?_
          refine xg_t (xg_iload (va := (0, z82)) rfl rfl) ?_
          refine xg_t (xg_iload (va := (0, mo)) rfl rfl) ?_
          by_cases hc84 : xbs mo < xbs z82
          · have hc84u := hc84
            unfold xbs at hc84u
            refine xg_t (xg_icF (u := z82) (v := mo) rfl xnm0 xnm0 (xjs_leF hc84)) ?_
            refine xg_t (xg_iload (va := (0, z82)) rfl rfl) ?_
            refine xg_t (xg_goto) ?_
            refine xg_t (xg_blk (b := [(95, 2, 15, 6, 0, 0), (97, 3, 9, 7, 1, 0), (100, 3, 8, 39, 0, 0)]) rfl) ?_
            refine xg_t (xg_istore (l1 := [(8, (0, z82)), (0, (2, 82)), (1, (0, xx)), (2, (0, yy)), (3, (0, wi)), (4, (0, hi)), (5, (0, n44)), (7, (0, ci))]) rfl rfl rfl) ?_
            refine xg_t (xg_iinc (u := ci) (z := ci + 1) (l1 := [(6, (0, z82)), (8, (0, z82)), (0, (2, 82)), (1, (0, xx)), (2, (0, yy)), (3, (0, wi)), (4, (0, hi)), (5, (0, n44))]) rfl rfl (by omega) rfl) ?_
            refine xg_t (xg_goto) ?_
            refine xg_t (xg_drop (l1 := [(0, (2, 82)), (1, (0, xx)), (2, (0, yy)), (3, (0, wi)), (4, (0, hi)), (5, (0, n44)), (6, (0, z82)), (7, (0, ci + 1))]) (List.forall_mem_cons.mpr ⟨List.mem_cons_of_mem _ (List.mem_cons_of_mem _ (List.mem_cons_of_mem _ (List.mem_cons_self))), List.forall_mem_cons.mpr ⟨List.mem_cons_of_mem _ (List.mem_cons_of_mem _ (List.mem_cons_of_mem _ (List.mem_cons_of_mem _ (List.mem_cons_self)))), List.forall_mem_cons.mpr ⟨List.mem_cons_of_mem _ (List.mem_cons_of_mem _ (List.mem_cons_of_mem _ (List.mem_cons_of_mem _ (List.mem_cons_of_mem _ (List.mem_cons_self))))), List.forall_mem_cons.mpr ⟨List.mem_cons_of_mem _ (List.mem_cons_of_mem _ (List.mem_cons_of_mem _ (List.mem_cons_of_mem _ (List.mem_cons_of_mem _ (List.mem_cons_of_mem _ (List.mem_cons_self)))))), List.forall_mem_cons.mpr ⟨List.mem_cons_of_mem _ (List.mem_cons_of_mem _ (List.mem_cons_of_mem _ (List.mem_cons_of_mem _ (List.mem_cons_of_mem _ (List.mem_cons_of_mem _ (List.mem_cons_of_mem _ (List.mem_cons_self))))))), List.forall_mem_cons.mpr ⟨List.mem_cons_of_mem _ (List.mem_cons_of_mem _ (List.mem_cons_of_mem _ (List.mem_cons_of_mem _ (List.mem_cons_of_mem _ (List.mem_cons_of_mem _ (List.mem_cons_of_mem _ (List.mem_cons_of_mem _ (List.mem_cons_self)))))))), List.forall_mem_cons.mpr ⟨List.mem_cons_of_mem _ (List.mem_cons_self), List.forall_mem_cons.mpr ⟨List.mem_cons_self, fun _ h => absurd h List.not_mem_nil⟩⟩⟩⟩⟩⟩⟩⟩)) ?_
            exact ih52 z82 (ci + 1) w72 (by omega) (by omega) (by omega) (hI74) (((hF56.tr (hF65.up (by decide))).tr (hF75.up (by decide)))) (by omega)
          · have hc84u := hc84
            unfold xbs at hc84u
            refine xg_t (xg_icT (u := z82) (v := mo) rfl xnm0 xnm0 (xjs_leT hc84)) ?_
            refine xg_t (xg_blk (b := [(93, 2, 2, 6, 0, 0)]) rfl) ?_
            refine xg_t (xg_iload (va := (0, mo)) rfl rfl) ?_
            refine xg_t (xg_blk (b := [(95, 2, 15, 6, 0, 0), (97, 3, 9, 7, 1, 0), (100, 3, 8, 39, 0, 0)]) rfl) ?_
            refine xg_t (xg_istore (l1 := [(8, (0, z82)), (0, (2, 82)), (1, (0, xx)), (2, (0, yy)), (3, (0, wi)), (4, (0, hi)), (5, (0, n44)), (7, (0, ci))]) rfl rfl rfl) ?_
            refine xg_t (xg_iinc (u := ci) (z := ci + 1) (l1 := [(6, (0, mo)), (8, (0, z82)), (0, (2, 82)), (1, (0, xx)), (2, (0, yy)), (3, (0, wi)), (4, (0, hi)), (5, (0, n44))]) rfl rfl (by omega) rfl) ?_
            refine xg_t (xg_goto) ?_
            refine xg_t (xg_drop (l1 := [(0, (2, 82)), (1, (0, xx)), (2, (0, yy)), (3, (0, wi)), (4, (0, hi)), (5, (0, n44)), (6, (0, mo)), (7, (0, ci + 1))]) (List.forall_mem_cons.mpr ⟨List.mem_cons_of_mem _ (List.mem_cons_of_mem _ (List.mem_cons_of_mem _ (List.mem_cons_self))), List.forall_mem_cons.mpr ⟨List.mem_cons_of_mem _ (List.mem_cons_of_mem _ (List.mem_cons_of_mem _ (List.mem_cons_of_mem _ (List.mem_cons_self)))), List.forall_mem_cons.mpr ⟨List.mem_cons_of_mem _ (List.mem_cons_of_mem _ (List.mem_cons_of_mem _ (List.mem_cons_of_mem _ (List.mem_cons_of_mem _ (List.mem_cons_self))))), List.forall_mem_cons.mpr ⟨List.mem_cons_of_mem _ (List.mem_cons_of_mem _ (List.mem_cons_of_mem _ (List.mem_cons_of_mem _ (List.mem_cons_of_mem _ (List.mem_cons_of_mem _ (List.mem_cons_self)))))), List.forall_mem_cons.mpr ⟨List.mem_cons_of_mem _ (List.mem_cons_of_mem _ (List.mem_cons_of_mem _ (List.mem_cons_of_mem _ (List.mem_cons_of_mem _ (List.mem_cons_of_mem _ (List.mem_cons_of_mem _ (List.mem_cons_self))))))), List.forall_mem_cons.mpr ⟨List.mem_cons_of_mem _ (List.mem_cons_of_mem _ (List.mem_cons_of_mem _ (List.mem_cons_of_mem _ (List.mem_cons_of_mem _ (List.mem_cons_of_mem _ (List.mem_cons_of_mem _ (List.mem_cons_of_mem _ (List.mem_cons_self)))))))), List.forall_mem_cons.mpr ⟨List.mem_cons_of_mem _ (List.mem_cons_self), List.forall_mem_cons.mpr ⟨List.mem_cons_self, fun _ h => absurd h List.not_mem_nil⟩⟩⟩⟩⟩⟩⟩⟩)) ?_
            exact ih52 mo (ci + 1) w72 (by omega) (by omega) (by omega) (hI74) (((hF56.tr (hF65.up (by decide))).tr (hF75.up (by decide)))) (by omega)
        · refine xg_t (xg_icT (u := ci) (v := wi) rfl xnm0 xnm0 (xj_geT (by omega) (by omega))) ?_
          refine xg_t (xg_blk (b := [(103, 1, 3, 1, 0, 0), (104, 2, 15, 7, 0, 0)]) rfl) ?_
          refine xg_t (xg_const) ?_
          refine xg_t (xg_istore (l1 := [(0, (2, 82)), (1, (0, xx)), (2, (0, yy)), (3, (0, wi)), (4, (0, hi)), (5, (0, n44)), (6, (0, mo))]) rfl rfl rfl) ?_
          refine xg_t (xg_drop (l1 := [(0, (2, 82)), (1, (0, xx)), (2, (0, yy)), (3, (0, wi)), (4, (0, hi)), (5, (0, n44)), (6, (0, mo)), (7, (0, 1))]) (List.forall_mem_cons.mpr ⟨List.mem_cons_of_mem _ (List.mem_cons_self), List.forall_mem_cons.mpr ⟨List.mem_cons_of_mem _ (List.mem_cons_of_mem _ (List.mem_cons_self)), List.forall_mem_cons.mpr ⟨List.mem_cons_of_mem _ (List.mem_cons_of_mem _ (List.mem_cons_of_mem _ (List.mem_cons_self))), List.forall_mem_cons.mpr ⟨List.mem_cons_of_mem _ (List.mem_cons_of_mem _ (List.mem_cons_of_mem _ (List.mem_cons_of_mem _ (List.mem_cons_self)))), List.forall_mem_cons.mpr ⟨List.mem_cons_of_mem _ (List.mem_cons_of_mem _ (List.mem_cons_of_mem _ (List.mem_cons_of_mem _ (List.mem_cons_of_mem _ (List.mem_cons_self))))), List.forall_mem_cons.mpr ⟨List.mem_cons_of_mem _ (List.mem_cons_of_mem _ (List.mem_cons_of_mem _ (List.mem_cons_of_mem _ (List.mem_cons_of_mem _ (List.mem_cons_of_mem _ (List.mem_cons_self)))))), List.forall_mem_cons.mpr ⟨List.mem_cons_of_mem _ (List.mem_cons_of_mem _ (List.mem_cons_of_mem _ (List.mem_cons_of_mem _ (List.mem_cons_of_mem _ (List.mem_cons_of_mem _ (List.mem_cons_of_mem _ (List.mem_cons_self))))))), List.forall_mem_cons.mpr ⟨List.mem_cons_self, fun _ h => absurd h List.not_mem_nil⟩⟩⟩⟩⟩⟩⟩⟩)) ?_
          have key85 : ∀ (m87 : Nat) (mp cj : Nat) (w88 : List (List xE)), 10 - cj < m87 → mp ≤ 4294967295 → cj ≤ 10 → xMnv w88 → xFr [] w w88 → 1 ≤ cj → xTo (d + 2) mX12_pieceOf (106, [], [(0, (2, 82)), (1, (0, xx)), (2, (0, yy)), (3, (0, wi)), (4, (0, hi)), (5, (0, n44)), (6, (0, mp)), (7, (0, cj))], [], (w88, bd, fc, 0, 0, rr)) (fun φ => ∃ n w', xEnd 1 [(0, n)] (w', bd, fc, 0, 0, rr) φ ∧ (n ≤ 4294967295) ∧ xMnv w' ∧ xFr [] w w') := by
            intro m87
            induction m87 with
            | zero => intro mp cj w88 hz; exact absurd hz (Nat.not_lt_zero _)
            | succ m87 ih86 =>
              intro mp cj w88 hm94 hn91 hn92 hI89 hF90 he93
              refine xg_t (xg_blk (b := [(106, 2, 2, 7, 0, 0), (108, 2, 2, 4, 0, 0), (110, 3, 6, 170, 3, 0), (113, 1, 0, 0, 0, 0), (114, 3, 1, 12, 37, 81), (117, 1, 2, 1, 0, 0), (118, 1, 2, 2, 0, 0), (119, 1, 2, 3, 0, 0), (120, 2, 2, 7, 0, 0), (122, 3, 13, 118, 98, 344), (125, 1, 10, 0, 0, 0), (126, 1, 0, 0, 0, 0), (127, 3, 1, 12, 37, 81), (130, 1, 2, 1, 0, 0), (131, 1, 2, 2, 0, 0), (132, 2, 2, 7, 0, 0), (134, 1, 11, 0, 0, 0), (135, 1, 2, 3, 0, 0), (136, 2, 2, 4, 0, 0), (138, 2, 2, 7, 0, 0), (140, 1, 18, 0, 0, 0), (141, 3, 13, 118, 98, 344), (144, 1, 10, 0, 0, 0), (145, 1, 11, 0, 0, 0), (146, 2, 15, 8, 0, 0), (148, 2, 2, 8, 0, 0), (150, 2, 2, 6, 0, 0), (152, 3, 6, 160, 5, 0), (155, 2, 2, 8, 0, 0), (157, 3, 8, 162, 0, 0)]) rfl) ?_
              refine xg_t (xg_iload (va := (0, cj)) rfl rfl) ?_
              refine xg_t (xg_iload (va := (0, hi)) rfl rfl) ?_
              by_cases hc95 : cj < hi
              · refine xg_t (xg_icF (u := cj) (v := hi) rfl xnm0 xnm0 (xj_geF hc95 (by omega))) ?_
                refine xg_t (xg_aload (va := (2, 82)) rfl rfl) ?_
                refine xg_t (xg_getf (va := (2, 106)) (hF90.get (by decide) h82_31) rfl) ?_
                refine xg_t (xg_iload (va := (0, xx)) rfl rfl) ?_
                refine xg_t (xg_iload (va := (0, yy)) rfl rfl) ?_
                refine xg_t (xg_iload (va := (0, wi)) rfl rfl) ?_
                refine xg_t (xg_iload (va := (0, cj)) rfl rfl) ?_
                refine xg_cSi mX12_at (vs := [(0, xx), (0, yy), (0, wi), (0, cj)]) (rest := [(2, 106)]) (cn1 := 0) (sl1 := 0) rfl (mAt (hI89) (by omega) (by omega) (by omega) (by omega)) rfl rfl rfl rfl rfl rfl rfl (fun n100 w96 hq97 => ?_)
                obtain ⟨hn101, hI98, hF99⟩ := hq97
                have hl102 : n100 ≤ 14640 := by omega
                refine xg_ialdB (n := n100) (B := 4294967295) ((h106_38.fr hF90 (by decide)).fr hF99 (by decide)) (hb39) xnm0 (by omega) (fun u103 hu104 he105 => ?_)
                refine xg_t (xg_aload (va := (2, 82)) rfl rfl) ?_
                refine xg_t (xg_getf (va := (2, 106)) (hF99.get (by decide) (hF90.get (by decide) h82_31)) rfl) ?_
                refine xg_t (xg_iload (va := (0, xx)) rfl rfl) ?_
                refine xg_t (xg_iload (va := (0, yy)) rfl rfl) ?_
                refine xg_t (xg_iload (va := (0, cj)) rfl rfl) ?_
                refine xg_t (xg_iadd (u := yy) (v := cj) (z := yy + cj) xnm0 xnm0 (by omega)) ?_
                refine xg_t (xg_iload (va := (0, wi)) rfl rfl) ?_
                refine xg_t (xg_iload (va := (0, hi)) rfl rfl) ?_
                refine xg_t (xg_iload (va := (0, cj)) rfl rfl) ?_
                refine xg_t (xg_isub (u := hi) (v := cj) (z := hi - cj) xnm0 xnm0 (by omega)) ?_
                refine xg_cSi mX12_at (vs := [(0, xx), (0, yy + cj), (0, wi), (0, hi - cj)]) (rest := [(2, 106), (0, u103)]) (cn1 := 0) (sl1 := 0) rfl (mAt (hI98) (by omega) (by omega) (by omega) (by omega)) rfl rfl rfl rfl rfl rfl rfl (fun n110 w106 hq107 => ?_)
                obtain ⟨hn111, hI108, hF109⟩ := hq107
                have hl112 : n110 ≤ 14640 := by omega
                refine xg_ialdB (n := n110) (B := 4294967295) (((h106_38.fr hF90 (by decide)).fr hF99 (by decide)).fr hF109 (by decide)) (hb39) xnm0 (by omega) (fun u113 hu114 he115 => ?_)
                refine xg_k (xg_iadd (u := u103) (v := u113) (z := (u103 + u113) % 4294967296) xnm0 xnm0 rfl) (Nat.mod_lt _ (by decide)) (fun z116 hz117 => ?_)
                refine xg_t (xg_istore (l1 := [(0, (2, 82)), (1, (0, xx)), (2, (0, yy)), (3, (0, wi)), (4, (0, hi)), (5, (0, n44)), (6, (0, mp)), (7, (0, cj))]) rfl rfl rfl) ?_
                refine xg_t (xg_iload (va := (0, z116)) rfl rfl) ?_
                refine xg_t (xg_iload (va := (0, mp)) rfl rfl) ?_
                by_cases hc118 : xbs mp < xbs z116
                · have hc118u := hc118
                  unfold xbs at hc118u
                  refine xg_t (xg_icF (u := z116) (v := mp) rfl xnm0 xnm0 (xjs_leF hc118)) ?_
                  refine xg_t (xg_iload (va := (0, z116)) rfl rfl) ?_
                  refine xg_t (xg_goto) ?_
                  refine xg_t (xg_blk (b := [(162, 2, 15, 6, 0, 0), (164, 3, 9, 7, 1, 0), (167, 3, 8, 106, 0, 0)]) rfl) ?_
                  refine xg_t (xg_istore (l1 := [(8, (0, z116)), (0, (2, 82)), (1, (0, xx)), (2, (0, yy)), (3, (0, wi)), (4, (0, hi)), (5, (0, n44)), (7, (0, cj))]) rfl rfl rfl) ?_
                  refine xg_t (xg_iinc (u := cj) (z := cj + 1) (l1 := [(6, (0, z116)), (8, (0, z116)), (0, (2, 82)), (1, (0, xx)), (2, (0, yy)), (3, (0, wi)), (4, (0, hi)), (5, (0, n44))]) rfl rfl (by omega) rfl) ?_
                  refine xg_t (xg_goto) ?_
                  refine xg_t (xg_drop (l1 := [(0, (2, 82)), (1, (0, xx)), (2, (0, yy)), (3, (0, wi)), (4, (0, hi)), (5, (0, n44)), (6, (0, z116)), (7, (0, cj + 1))]) (List.forall_mem_cons.mpr ⟨List.mem_cons_of_mem _ (List.mem_cons_of_mem _ (List.mem_cons_of_mem _ (List.mem_cons_self))), List.forall_mem_cons.mpr ⟨List.mem_cons_of_mem _ (List.mem_cons_of_mem _ (List.mem_cons_of_mem _ (List.mem_cons_of_mem _ (List.mem_cons_self)))), List.forall_mem_cons.mpr ⟨List.mem_cons_of_mem _ (List.mem_cons_of_mem _ (List.mem_cons_of_mem _ (List.mem_cons_of_mem _ (List.mem_cons_of_mem _ (List.mem_cons_self))))), List.forall_mem_cons.mpr ⟨List.mem_cons_of_mem _ (List.mem_cons_of_mem _ (List.mem_cons_of_mem _ (List.mem_cons_of_mem _ (List.mem_cons_of_mem _ (List.mem_cons_of_mem _ (List.mem_cons_self)))))), List.forall_mem_cons.mpr ⟨List.mem_cons_of_mem _ (List.mem_cons_of_mem _ (List.mem_cons_of_mem _ (List.mem_cons_of_mem _ (List.mem_cons_of_mem _ (List.mem_cons_of_mem _ (List.mem_cons_of_mem _ (List.mem_cons_self))))))), List.forall_mem_cons.mpr ⟨List.mem_cons_of_mem _ (List.mem_cons_of_mem _ (List.mem_cons_of_mem _ (List.mem_cons_of_mem _ (List.mem_cons_of_mem _ (List.mem_cons_of_mem _ (List.mem_cons_of_mem _ (List.mem_cons_of_mem _ (List.mem_cons_self)))))))), List.forall_mem_cons.mpr ⟨List.mem_cons_of_mem _ (List.mem_cons_self), List.forall_mem_cons.mpr ⟨List.mem_cons_self, fun _ h => absurd h List.not_mem_nil⟩⟩⟩⟩⟩⟩⟩⟩)) ?_
                  exact ih86 z116 (cj + 1) w106 (by omega) (by omega) (by omega) (hI108) (((hF90.tr (hF99.up (by decide))).tr (hF109.up (by decide)))) (by omega)
                · have hc118u := hc118
                  unfold xbs at hc118u
                  refine xg_t (xg_icT (u := z116) (v := mp) rfl xnm0 xnm0 (xjs_leT hc118)) ?_
                  refine xg_t (xg_blk (b := [(160, 2, 2, 6, 0, 0)]) rfl) ?_
                  refine xg_t (xg_iload (va := (0, mp)) rfl rfl) ?_
                  refine xg_t (xg_blk (b := [(162, 2, 15, 6, 0, 0), (164, 3, 9, 7, 1, 0), (167, 3, 8, 106, 0, 0)]) rfl) ?_
                  refine xg_t (xg_istore (l1 := [(8, (0, z116)), (0, (2, 82)), (1, (0, xx)), (2, (0, yy)), (3, (0, wi)), (4, (0, hi)), (5, (0, n44)), (7, (0, cj))]) rfl rfl rfl) ?_
                  refine xg_t (xg_iinc (u := cj) (z := cj + 1) (l1 := [(6, (0, mp)), (8, (0, z116)), (0, (2, 82)), (1, (0, xx)), (2, (0, yy)), (3, (0, wi)), (4, (0, hi)), (5, (0, n44))]) rfl rfl (by omega) rfl) ?_
                  refine xg_t (xg_goto) ?_
                  refine xg_t (xg_drop (l1 := [(0, (2, 82)), (1, (0, xx)), (2, (0, yy)), (3, (0, wi)), (4, (0, hi)), (5, (0, n44)), (6, (0, mp)), (7, (0, cj + 1))]) (List.forall_mem_cons.mpr ⟨List.mem_cons_of_mem _ (List.mem_cons_of_mem _ (List.mem_cons_of_mem _ (List.mem_cons_self))), List.forall_mem_cons.mpr ⟨List.mem_cons_of_mem _ (List.mem_cons_of_mem _ (List.mem_cons_of_mem _ (List.mem_cons_of_mem _ (List.mem_cons_self)))), List.forall_mem_cons.mpr ⟨List.mem_cons_of_mem _ (List.mem_cons_of_mem _ (List.mem_cons_of_mem _ (List.mem_cons_of_mem _ (List.mem_cons_of_mem _ (List.mem_cons_self))))), List.forall_mem_cons.mpr ⟨List.mem_cons_of_mem _ (List.mem_cons_of_mem _ (List.mem_cons_of_mem _ (List.mem_cons_of_mem _ (List.mem_cons_of_mem _ (List.mem_cons_of_mem _ (List.mem_cons_self)))))), List.forall_mem_cons.mpr ⟨List.mem_cons_of_mem _ (List.mem_cons_of_mem _ (List.mem_cons_of_mem _ (List.mem_cons_of_mem _ (List.mem_cons_of_mem _ (List.mem_cons_of_mem _ (List.mem_cons_of_mem _ (List.mem_cons_self))))))), List.forall_mem_cons.mpr ⟨List.mem_cons_of_mem _ (List.mem_cons_of_mem _ (List.mem_cons_of_mem _ (List.mem_cons_of_mem _ (List.mem_cons_of_mem _ (List.mem_cons_of_mem _ (List.mem_cons_of_mem _ (List.mem_cons_of_mem _ (List.mem_cons_self)))))))), List.forall_mem_cons.mpr ⟨List.mem_cons_of_mem _ (List.mem_cons_self), List.forall_mem_cons.mpr ⟨List.mem_cons_self, fun _ h => absurd h List.not_mem_nil⟩⟩⟩⟩⟩⟩⟩⟩)) ?_
                  exact ih86 mp (cj + 1) w106 (by omega) (by omega) (by omega) (hI108) (((hF90.tr (hF99.up (by decide))).tr (hF109.up (by decide)))) (by omega)
              · refine xg_t (xg_icT (u := cj) (v := hi) rfl xnm0 xnm0 (xj_geT (by omega) (by omega))) ?_
                refine xg_t (xg_blk (b := [(170, 2, 2, 6, 0, 0), (172, 1, 12, 0, 1, 0)]) rfl) ?_
                refine xg_t (xg_iload (va := (0, mp)) rfl rfl) ?_
                exact xg_e ⟨mp, w88, ⟨rfl, rfl⟩, by omega, hI89, hF90⟩
          exact key85 _ mo 1 w54 (Nat.lt_succ_self _) (by omega) (by omega) (hI55) (hF56) (by omega)
    exact key51 _ u48 1 w40 (Nat.lt_succ_self _) (by omega) (by omega) (hI42) ((hF43.up (by decide))) (by omega)
  · refine xg_t (xg_ifF (u := n44) rfl xnm0 (xjz_geF (by omega) (by omega))) ?_
    refine xg_t (xg_const) ?_
    refine xg_t (xg_goto) ?_
    refine xg_t (xg_blk (b := [(34, 2, 15, 6, 0, 0), (36, 1, 3, 1, 0, 0), (37, 2, 15, 7, 0, 0)]) rfl) ?_
    refine xg_t (xg_istore (l1 := [(5, (0, n44)), (0, (2, 82)), (1, (0, xx)), (2, (0, yy)), (3, (0, wi)), (4, (0, hi))]) rfl rfl rfl) ?_
    refine xg_t (xg_const) ?_
    refine xg_t (xg_istore (l1 := [(6, (0, 0)), (5, (0, n44)), (0, (2, 82)), (1, (0, xx)), (2, (0, yy)), (3, (0, wi)), (4, (0, hi))]) rfl rfl rfl) ?_
    refine xg_t (xg_drop (l1 := [(0, (2, 82)), (1, (0, xx)), (2, (0, yy)), (3, (0, wi)), (4, (0, hi)), (5, (0, n44)), (6, (0, 0)), (7, (0, 1))]) (List.forall_mem_cons.mpr ⟨List.mem_cons_of_mem _ (List.mem_cons_of_mem _ (List.mem_cons_of_mem _ (List.mem_cons_self))), List.forall_mem_cons.mpr ⟨List.mem_cons_of_mem _ (List.mem_cons_of_mem _ (List.mem_cons_of_mem _ (List.mem_cons_of_mem _ (List.mem_cons_self)))), List.forall_mem_cons.mpr ⟨List.mem_cons_of_mem _ (List.mem_cons_of_mem _ (List.mem_cons_of_mem _ (List.mem_cons_of_mem _ (List.mem_cons_of_mem _ (List.mem_cons_self))))), List.forall_mem_cons.mpr ⟨List.mem_cons_of_mem _ (List.mem_cons_of_mem _ (List.mem_cons_of_mem _ (List.mem_cons_of_mem _ (List.mem_cons_of_mem _ (List.mem_cons_of_mem _ (List.mem_cons_self)))))), List.forall_mem_cons.mpr ⟨List.mem_cons_of_mem _ (List.mem_cons_of_mem _ (List.mem_cons_of_mem _ (List.mem_cons_of_mem _ (List.mem_cons_of_mem _ (List.mem_cons_of_mem _ (List.mem_cons_of_mem _ (List.mem_cons_self))))))), List.forall_mem_cons.mpr ⟨List.mem_cons_of_mem _ (List.mem_cons_of_mem _ (List.mem_cons_self)), List.forall_mem_cons.mpr ⟨List.mem_cons_of_mem _ (List.mem_cons_self), List.forall_mem_cons.mpr ⟨List.mem_cons_self, fun _ h => absurd h List.not_mem_nil⟩⟩⟩⟩⟩⟩⟩⟩)) ?_
    have key119 : ∀ (m121 : Nat) (mo ci : Nat) (w122 : List (List xE)), 10 - ci < m121 → mo ≤ 4294967295 → ci ≤ 10 → xMnv w122 → xFr [] w w122 → 1 ≤ ci → xTo (d + 2) mX12_pieceOf (39, [], [(0, (2, 82)), (1, (0, xx)), (2, (0, yy)), (3, (0, wi)), (4, (0, hi)), (5, (0, n44)), (6, (0, mo)), (7, (0, ci))], [], (w122, bd, fc, 0, 0, rr)) (fun φ => ∃ n w', xEnd 1 [(0, n)] (w', bd, fc, 0, 0, rr) φ ∧ (n ≤ 4294967295) ∧ xMnv w' ∧ xFr [] w w') := by
      intro m121
      induction m121 with
      | zero => intro mo ci w122 hz; exact absurd hz (Nat.not_lt_zero _)
      | succ m121 ih120 =>
        intro mo ci w122 hm128 hn125 hn126 hI123 hF124 he127
        refine xg_t (xg_blk (b := [(39, 2, 2, 7, 0, 0), (41, 1, 2, 3, 0, 0), (42, 3, 6, 103, 3, 0), (45, 1, 0, 0, 0, 0), (46, 3, 1, 12, 37, 81), (49, 1, 2, 1, 0, 0), (50, 1, 2, 2, 0, 0), (51, 2, 2, 7, 0, 0), (53, 2, 2, 4, 0, 0), (55, 3, 13, 118, 98, 344), (58, 1, 10, 0, 0, 0), (59, 1, 0, 0, 0, 0), (60, 3, 1, 12, 37, 81), (63, 1, 2, 1, 0, 0), (64, 2, 2, 7, 0, 0), (66, 1, 11, 0, 0, 0), (67, 1, 2, 2, 0, 0), (68, 1, 2, 3, 0, 0), (69, 2, 2, 7, 0, 0), (71, 1, 18, 0, 0, 0), (72, 2, 2, 4, 0, 0), (74, 3, 13, 118, 98, 344), (77, 1, 10, 0, 0, 0), (78, 1, 11, 0, 0, 0), (79, 2, 15, 8, 0, 0), (81, 2, 2, 8, 0, 0), (83, 2, 2, 6, 0, 0), (85, 3, 6, 93, 5, 0), (88, 2, 2, 8, 0, 0), (90, 3, 8, 95, 0, 0)]) rfl) ?_
        refine xg_t (xg_iload (va := (0, ci)) rfl rfl) ?_
        refine xg_t (xg_iload (va := (0, wi)) rfl rfl) ?_
        by_cases hc129 : ci < wi
        · refine xg_t (xg_icF (u := ci) (v := wi) rfl xnm0 xnm0 (xj_geF hc129 (by omega))) ?_
          refine xg_t (xg_aload (va := (2, 82)) rfl rfl) ?_
          refine xg_t (xg_getf (va := (2, 106)) (hF124.get (by decide) h82_31) rfl) ?_
          refine xg_t (xg_iload (va := (0, xx)) rfl rfl) ?_
          refine xg_t (xg_iload (va := (0, yy)) rfl rfl) ?_
          refine xg_t (xg_iload (va := (0, ci)) rfl rfl) ?_
          refine xg_t (xg_iload (va := (0, hi)) rfl rfl) ?_
          refine xg_cSi mX12_at (vs := [(0, xx), (0, yy), (0, ci), (0, hi)]) (rest := [(2, 106)]) (cn1 := 0) (sl1 := 0) rfl (mAt (hI123) (by omega) (by omega) (by omega) (by omega)) rfl rfl rfl rfl rfl rfl rfl (fun n134 w130 hq131 => ?_)
          obtain ⟨hn135, hI132, hF133⟩ := hq131
          have hl136 : n134 ≤ 14640 := by omega
          refine xg_ialdB (n := n134) (B := 4294967295) ((h106_38.fr hF124 (by decide)).fr hF133 (by decide)) (hb39) xnm0 (by omega) (fun u137 hu138 he139 => ?_)
          refine xg_t (xg_aload (va := (2, 82)) rfl rfl) ?_
          refine xg_t (xg_getf (va := (2, 106)) (hF133.get (by decide) (hF124.get (by decide) h82_31)) rfl) ?_
          refine xg_t (xg_iload (va := (0, xx)) rfl rfl) ?_
          refine xg_t (xg_iload (va := (0, ci)) rfl rfl) ?_
          refine xg_t (xg_iadd (u := xx) (v := ci) (z := xx + ci) xnm0 xnm0 (by omega)) ?_
          refine xg_t (xg_iload (va := (0, yy)) rfl rfl) ?_
          refine xg_t (xg_iload (va := (0, wi)) rfl rfl) ?_
          refine xg_t (xg_iload (va := (0, ci)) rfl rfl) ?_
          refine xg_t (xg_isub (u := wi) (v := ci) (z := wi - ci) xnm0 xnm0 (by omega)) ?_
          refine xg_t (xg_iload (va := (0, hi)) rfl rfl) ?_
          refine xg_cSi mX12_at (vs := [(0, xx + ci), (0, yy), (0, wi - ci), (0, hi)]) (rest := [(2, 106), (0, u137)]) (cn1 := 0) (sl1 := 0) rfl (mAt (hI132) (by omega) (by omega) (by omega) (by omega)) rfl rfl rfl rfl rfl rfl rfl (fun n144 w140 hq141 => ?_)
          obtain ⟨hn145, hI142, hF143⟩ := hq141
          have hl146 : n144 ≤ 14640 := by omega
          refine xg_ialdB (n := n144) (B := 4294967295) (((h106_38.fr hF124 (by decide)).fr hF133 (by decide)).fr hF143 (by decide)) (hb39) xnm0 (by omega) (fun u147 hu148 he149 => ?_)
          refine xg_k (xg_iadd (u := u137) (v := u147) (z := (u137 + u147) % 4294967296) xnm0 xnm0 rfl) (Nat.mod_lt _ (by decide)) (fun z150 hz151 => ?_)
          refine xg_t (xg_istore (l1 := [(0, (2, 82)), (1, (0, xx)), (2, (0, yy)), (3, (0, wi)), (4, (0, hi)), (5, (0, n44)), (6, (0, mo)), (7, (0, ci))]) rfl rfl rfl) ?_
          refine xg_t (xg_iload (va := (0, z150)) rfl rfl) ?_
          refine xg_t (xg_iload (va := (0, mo)) rfl rfl) ?_
          by_cases hc152 : xbs mo < xbs z150
          · have hc152u := hc152
            unfold xbs at hc152u
            refine xg_t (xg_icF (u := z150) (v := mo) rfl xnm0 xnm0 (xjs_leF hc152)) ?_
            refine xg_t (xg_iload (va := (0, z150)) rfl rfl) ?_
            refine xg_t (xg_goto) ?_
            refine xg_t (xg_blk (b := [(95, 2, 15, 6, 0, 0), (97, 3, 9, 7, 1, 0), (100, 3, 8, 39, 0, 0)]) rfl) ?_
            refine xg_t (xg_istore (l1 := [(8, (0, z150)), (0, (2, 82)), (1, (0, xx)), (2, (0, yy)), (3, (0, wi)), (4, (0, hi)), (5, (0, n44)), (7, (0, ci))]) rfl rfl rfl) ?_
            refine xg_t (xg_iinc (u := ci) (z := ci + 1) (l1 := [(6, (0, z150)), (8, (0, z150)), (0, (2, 82)), (1, (0, xx)), (2, (0, yy)), (3, (0, wi)), (4, (0, hi)), (5, (0, n44))]) rfl rfl (by omega) rfl) ?_
            refine xg_t (xg_goto) ?_
            refine xg_t (xg_drop (l1 := [(0, (2, 82)), (1, (0, xx)), (2, (0, yy)), (3, (0, wi)), (4, (0, hi)), (5, (0, n44)), (6, (0, z150)), (7, (0, ci + 1))]) (List.forall_mem_cons.mpr ⟨List.mem_cons_of_mem _ (List.mem_cons_of_mem _ (List.mem_cons_of_mem _ (List.mem_cons_self))), List.forall_mem_cons.mpr ⟨List.mem_cons_of_mem _ (List.mem_cons_of_mem _ (List.mem_cons_of_mem _ (List.mem_cons_of_mem _ (List.mem_cons_self)))), List.forall_mem_cons.mpr ⟨List.mem_cons_of_mem _ (List.mem_cons_of_mem _ (List.mem_cons_of_mem _ (List.mem_cons_of_mem _ (List.mem_cons_of_mem _ (List.mem_cons_self))))), List.forall_mem_cons.mpr ⟨List.mem_cons_of_mem _ (List.mem_cons_of_mem _ (List.mem_cons_of_mem _ (List.mem_cons_of_mem _ (List.mem_cons_of_mem _ (List.mem_cons_of_mem _ (List.mem_cons_self)))))), List.forall_mem_cons.mpr ⟨List.mem_cons_of_mem _ (List.mem_cons_of_mem _ (List.mem_cons_of_mem _ (List.mem_cons_of_mem _ (List.mem_cons_of_mem _ (List.mem_cons_of_mem _ (List.mem_cons_of_mem _ (List.mem_cons_self))))))), List.forall_mem_cons.mpr ⟨List.mem_cons_of_mem _ (List.mem_cons_of_mem _ (List.mem_cons_of_mem _ (List.mem_cons_of_mem _ (List.mem_cons_of_mem _ (List.mem_cons_of_mem _ (List.mem_cons_of_mem _ (List.mem_cons_of_mem _ (List.mem_cons_self)))))))), List.forall_mem_cons.mpr ⟨List.mem_cons_of_mem _ (List.mem_cons_self), List.forall_mem_cons.mpr ⟨List.mem_cons_self, fun _ h => absurd h List.not_mem_nil⟩⟩⟩⟩⟩⟩⟩⟩)) ?_
            exact ih120 z150 (ci + 1) w140 (by omega) (by omega) (by omega) (hI142) (((hF124.tr (hF133.up (by decide))).tr (hF143.up (by decide)))) (by omega)
          · have hc152u := hc152
            unfold xbs at hc152u
            refine xg_t (xg_icT (u := z150) (v := mo) rfl xnm0 xnm0 (xjs_leT hc152)) ?_
            refine xg_t (xg_blk (b := [(93, 2, 2, 6, 0, 0)]) rfl) ?_
            refine xg_t (xg_iload (va := (0, mo)) rfl rfl) ?_
            refine xg_t (xg_blk (b := [(95, 2, 15, 6, 0, 0), (97, 3, 9, 7, 1, 0), (100, 3, 8, 39, 0, 0)]) rfl) ?_
            refine xg_t (xg_istore (l1 := [(8, (0, z150)), (0, (2, 82)), (1, (0, xx)), (2, (0, yy)), (3, (0, wi)), (4, (0, hi)), (5, (0, n44)), (7, (0, ci))]) rfl rfl rfl) ?_
            refine xg_t (xg_iinc (u := ci) (z := ci + 1) (l1 := [(6, (0, mo)), (8, (0, z150)), (0, (2, 82)), (1, (0, xx)), (2, (0, yy)), (3, (0, wi)), (4, (0, hi)), (5, (0, n44))]) rfl rfl (by omega) rfl) ?_
            refine xg_t (xg_goto) ?_
            refine xg_t (xg_drop (l1 := [(0, (2, 82)), (1, (0, xx)), (2, (0, yy)), (3, (0, wi)), (4, (0, hi)), (5, (0, n44)), (6, (0, mo)), (7, (0, ci + 1))]) (List.forall_mem_cons.mpr ⟨List.mem_cons_of_mem _ (List.mem_cons_of_mem _ (List.mem_cons_of_mem _ (List.mem_cons_self))), List.forall_mem_cons.mpr ⟨List.mem_cons_of_mem _ (List.mem_cons_of_mem _ (List.mem_cons_of_mem _ (List.mem_cons_of_mem _ (List.mem_cons_self)))), List.forall_mem_cons.mpr ⟨List.mem_cons_of_mem _ (List.mem_cons_of_mem _ (List.mem_cons_of_mem _ (List.mem_cons_of_mem _ (List.mem_cons_of_mem _ (List.mem_cons_self))))), List.forall_mem_cons.mpr ⟨List.mem_cons_of_mem _ (List.mem_cons_of_mem _ (List.mem_cons_of_mem _ (List.mem_cons_of_mem _ (List.mem_cons_of_mem _ (List.mem_cons_of_mem _ (List.mem_cons_self)))))), List.forall_mem_cons.mpr ⟨List.mem_cons_of_mem _ (List.mem_cons_of_mem _ (List.mem_cons_of_mem _ (List.mem_cons_of_mem _ (List.mem_cons_of_mem _ (List.mem_cons_of_mem _ (List.mem_cons_of_mem _ (List.mem_cons_self))))))), List.forall_mem_cons.mpr ⟨List.mem_cons_of_mem _ (List.mem_cons_of_mem _ (List.mem_cons_of_mem _ (List.mem_cons_of_mem _ (List.mem_cons_of_mem _ (List.mem_cons_of_mem _ (List.mem_cons_of_mem _ (List.mem_cons_of_mem _ (List.mem_cons_self)))))))), List.forall_mem_cons.mpr ⟨List.mem_cons_of_mem _ (List.mem_cons_self), List.forall_mem_cons.mpr ⟨List.mem_cons_self, fun _ h => absurd h List.not_mem_nil⟩⟩⟩⟩⟩⟩⟩⟩)) ?_
            exact ih120 mo (ci + 1) w140 (by omega) (by omega) (by omega) (hI142) (((hF124.tr (hF133.up (by decide))).tr (hF143.up (by decide)))) (by omega)
        · refine xg_t (xg_icT (u := ci) (v := wi) rfl xnm0 xnm0 (xj_geT (by omega) (by omega))) ?_
          refine xg_t (xg_blk (b := [(103, 1, 3, 1, 0, 0), (104, 2, 15, 7, 0, 0)]) rfl) ?_
          refine xg_t (xg_const) ?_
          refine xg_t (xg_istore (l1 := [(0, (2, 82)), (1, (0, xx)), (2, (0, yy)), (3, (0, wi)), (4, (0, hi)), (5, (0, n44)), (6, (0, mo))]) rfl rfl rfl) ?_
          refine xg_t (xg_drop (l1 := [(0, (2, 82)), (1, (0, xx)), (2, (0, yy)), (3, (0, wi)), (4, (0, hi)), (5, (0, n44)), (6, (0, mo)), (7, (0, 1))]) (List.forall_mem_cons.mpr ⟨List.mem_cons_of_mem _ (List.mem_cons_self), List.forall_mem_cons.mpr ⟨List.mem_cons_of_mem _ (List.mem_cons_of_mem _ (List.mem_cons_self)), List.forall_mem_cons.mpr ⟨List.mem_cons_of_mem _ (List.mem_cons_of_mem _ (List.mem_cons_of_mem _ (List.mem_cons_self))), List.forall_mem_cons.mpr ⟨List.mem_cons_of_mem _ (List.mem_cons_of_mem _ (List.mem_cons_of_mem _ (List.mem_cons_of_mem _ (List.mem_cons_self)))), List.forall_mem_cons.mpr ⟨List.mem_cons_of_mem _ (List.mem_cons_of_mem _ (List.mem_cons_of_mem _ (List.mem_cons_of_mem _ (List.mem_cons_of_mem _ (List.mem_cons_self))))), List.forall_mem_cons.mpr ⟨List.mem_cons_of_mem _ (List.mem_cons_of_mem _ (List.mem_cons_of_mem _ (List.mem_cons_of_mem _ (List.mem_cons_of_mem _ (List.mem_cons_of_mem _ (List.mem_cons_self)))))), List.forall_mem_cons.mpr ⟨List.mem_cons_of_mem _ (List.mem_cons_of_mem _ (List.mem_cons_of_mem _ (List.mem_cons_of_mem _ (List.mem_cons_of_mem _ (List.mem_cons_of_mem _ (List.mem_cons_of_mem _ (List.mem_cons_self))))))), List.forall_mem_cons.mpr ⟨List.mem_cons_self, fun _ h => absurd h List.not_mem_nil⟩⟩⟩⟩⟩⟩⟩⟩)) ?_
          have key153 : ∀ (m155 : Nat) (mp cj : Nat) (w156 : List (List xE)), 10 - cj < m155 → mp ≤ 4294967295 → cj ≤ 10 → xMnv w156 → xFr [] w w156 → 1 ≤ cj → xTo (d + 2) mX12_pieceOf (106, [], [(0, (2, 82)), (1, (0, xx)), (2, (0, yy)), (3, (0, wi)), (4, (0, hi)), (5, (0, n44)), (6, (0, mp)), (7, (0, cj))], [], (w156, bd, fc, 0, 0, rr)) (fun φ => ∃ n w', xEnd 1 [(0, n)] (w', bd, fc, 0, 0, rr) φ ∧ (n ≤ 4294967295) ∧ xMnv w' ∧ xFr [] w w') := by
            intro m155
            induction m155 with
            | zero => intro mp cj w156 hz; exact absurd hz (Nat.not_lt_zero _)
            | succ m155 ih154 =>
              intro mp cj w156 hm162 hn159 hn160 hI157 hF158 he161
              refine xg_t (xg_blk (b := [(106, 2, 2, 7, 0, 0), (108, 2, 2, 4, 0, 0), (110, 3, 6, 170, 3, 0), (113, 1, 0, 0, 0, 0), (114, 3, 1, 12, 37, 81), (117, 1, 2, 1, 0, 0), (118, 1, 2, 2, 0, 0), (119, 1, 2, 3, 0, 0), (120, 2, 2, 7, 0, 0), (122, 3, 13, 118, 98, 344), (125, 1, 10, 0, 0, 0), (126, 1, 0, 0, 0, 0), (127, 3, 1, 12, 37, 81), (130, 1, 2, 1, 0, 0), (131, 1, 2, 2, 0, 0), (132, 2, 2, 7, 0, 0), (134, 1, 11, 0, 0, 0), (135, 1, 2, 3, 0, 0), (136, 2, 2, 4, 0, 0), (138, 2, 2, 7, 0, 0), (140, 1, 18, 0, 0, 0), (141, 3, 13, 118, 98, 344), (144, 1, 10, 0, 0, 0), (145, 1, 11, 0, 0, 0), (146, 2, 15, 8, 0, 0), (148, 2, 2, 8, 0, 0), (150, 2, 2, 6, 0, 0), (152, 3, 6, 160, 5, 0), (155, 2, 2, 8, 0, 0), (157, 3, 8, 162, 0, 0)]) rfl) ?_
              refine xg_t (xg_iload (va := (0, cj)) rfl rfl) ?_
              refine xg_t (xg_iload (va := (0, hi)) rfl rfl) ?_
              by_cases hc163 : cj < hi
              · refine xg_t (xg_icF (u := cj) (v := hi) rfl xnm0 xnm0 (xj_geF hc163 (by omega))) ?_
                refine xg_t (xg_aload (va := (2, 82)) rfl rfl) ?_
                refine xg_t (xg_getf (va := (2, 106)) (hF158.get (by decide) h82_31) rfl) ?_
                refine xg_t (xg_iload (va := (0, xx)) rfl rfl) ?_
                refine xg_t (xg_iload (va := (0, yy)) rfl rfl) ?_
                refine xg_t (xg_iload (va := (0, wi)) rfl rfl) ?_
                refine xg_t (xg_iload (va := (0, cj)) rfl rfl) ?_
                refine xg_cSi mX12_at (vs := [(0, xx), (0, yy), (0, wi), (0, cj)]) (rest := [(2, 106)]) (cn1 := 0) (sl1 := 0) rfl (mAt (hI157) (by omega) (by omega) (by omega) (by omega)) rfl rfl rfl rfl rfl rfl rfl (fun n168 w164 hq165 => ?_)
                obtain ⟨hn169, hI166, hF167⟩ := hq165
                have hl170 : n168 ≤ 14640 := by omega
                refine xg_ialdB (n := n168) (B := 4294967295) ((h106_38.fr hF158 (by decide)).fr hF167 (by decide)) (hb39) xnm0 (by omega) (fun u171 hu172 he173 => ?_)
                refine xg_t (xg_aload (va := (2, 82)) rfl rfl) ?_
                refine xg_t (xg_getf (va := (2, 106)) (hF167.get (by decide) (hF158.get (by decide) h82_31)) rfl) ?_
                refine xg_t (xg_iload (va := (0, xx)) rfl rfl) ?_
                refine xg_t (xg_iload (va := (0, yy)) rfl rfl) ?_
                refine xg_t (xg_iload (va := (0, cj)) rfl rfl) ?_
                refine xg_t (xg_iadd (u := yy) (v := cj) (z := yy + cj) xnm0 xnm0 (by omega)) ?_
                refine xg_t (xg_iload (va := (0, wi)) rfl rfl) ?_
                refine xg_t (xg_iload (va := (0, hi)) rfl rfl) ?_
                refine xg_t (xg_iload (va := (0, cj)) rfl rfl) ?_
                refine xg_t (xg_isub (u := hi) (v := cj) (z := hi - cj) xnm0 xnm0 (by omega)) ?_
                refine xg_cSi mX12_at (vs := [(0, xx), (0, yy + cj), (0, wi), (0, hi - cj)]) (rest := [(2, 106), (0, u171)]) (cn1 := 0) (sl1 := 0) rfl (mAt (hI166) (by omega) (by omega) (by omega) (by omega)) rfl rfl rfl rfl rfl rfl rfl (fun n178 w174 hq175 => ?_)
                obtain ⟨hn179, hI176, hF177⟩ := hq175
                have hl180 : n178 ≤ 14640 := by omega
                refine xg_ialdB (n := n178) (B := 4294967295) (((h106_38.fr hF158 (by decide)).fr hF167 (by decide)).fr hF177 (by decide)) (hb39) xnm0 (by omega) (fun u181 hu182 he183 => ?_)
                refine xg_k (xg_iadd (u := u171) (v := u181) (z := (u171 + u181) % 4294967296) xnm0 xnm0 rfl) (Nat.mod_lt _ (by decide)) (fun z184 hz185 => ?_)
                refine xg_t (xg_istore (l1 := [(0, (2, 82)), (1, (0, xx)), (2, (0, yy)), (3, (0, wi)), (4, (0, hi)), (5, (0, n44)), (6, (0, mp)), (7, (0, cj))]) rfl rfl rfl) ?_
                refine xg_t (xg_iload (va := (0, z184)) rfl rfl) ?_
                refine xg_t (xg_iload (va := (0, mp)) rfl rfl) ?_
                by_cases hc186 : xbs mp < xbs z184
                · have hc186u := hc186
                  unfold xbs at hc186u
                  refine xg_t (xg_icF (u := z184) (v := mp) rfl xnm0 xnm0 (xjs_leF hc186)) ?_
                  refine xg_t (xg_iload (va := (0, z184)) rfl rfl) ?_
                  refine xg_t (xg_goto) ?_
                  refine xg_t (xg_blk (b := [(162, 2, 15, 6, 0, 0), (164, 3, 9, 7, 1, 0), (167, 3, 8, 106, 0, 0)]) rfl) ?_
                  refine xg_t (xg_istore (l1 := [(8, (0, z184)), (0, (2, 82)), (1, (0, xx)), (2, (0, yy)), (3, (0, wi)), (4, (0, hi)), (5, (0, n44)), (7, (0, cj))]) rfl rfl rfl) ?_
                  refine xg_t (xg_iinc (u := cj) (z := cj + 1) (l1 := [(6, (0, z184)), (8, (0, z184)), (0, (2, 82)), (1, (0, xx)), (2, (0, yy)), (3, (0, wi)), (4, (0, hi)), (5, (0, n44))]) rfl rfl (by omega) rfl) ?_
                  refine xg_t (xg_goto) ?_
                  refine xg_t (xg_drop (l1 := [(0, (2, 82)), (1, (0, xx)), (2, (0, yy)), (3, (0, wi)), (4, (0, hi)), (5, (0, n44)), (6, (0, z184)), (7, (0, cj + 1))]) (List.forall_mem_cons.mpr ⟨List.mem_cons_of_mem _ (List.mem_cons_of_mem _ (List.mem_cons_of_mem _ (List.mem_cons_self))), List.forall_mem_cons.mpr ⟨List.mem_cons_of_mem _ (List.mem_cons_of_mem _ (List.mem_cons_of_mem _ (List.mem_cons_of_mem _ (List.mem_cons_self)))), List.forall_mem_cons.mpr ⟨List.mem_cons_of_mem _ (List.mem_cons_of_mem _ (List.mem_cons_of_mem _ (List.mem_cons_of_mem _ (List.mem_cons_of_mem _ (List.mem_cons_self))))), List.forall_mem_cons.mpr ⟨List.mem_cons_of_mem _ (List.mem_cons_of_mem _ (List.mem_cons_of_mem _ (List.mem_cons_of_mem _ (List.mem_cons_of_mem _ (List.mem_cons_of_mem _ (List.mem_cons_self)))))), List.forall_mem_cons.mpr ⟨List.mem_cons_of_mem _ (List.mem_cons_of_mem _ (List.mem_cons_of_mem _ (List.mem_cons_of_mem _ (List.mem_cons_of_mem _ (List.mem_cons_of_mem _ (List.mem_cons_of_mem _ (List.mem_cons_self))))))), List.forall_mem_cons.mpr ⟨List.mem_cons_of_mem _ (List.mem_cons_of_mem _ (List.mem_cons_of_mem _ (List.mem_cons_of_mem _ (List.mem_cons_of_mem _ (List.mem_cons_of_mem _ (List.mem_cons_of_mem _ (List.mem_cons_of_mem _ (List.mem_cons_self)))))))), List.forall_mem_cons.mpr ⟨List.mem_cons_of_mem _ (List.mem_cons_self), List.forall_mem_cons.mpr ⟨List.mem_cons_self, fun _ h => absurd h List.not_mem_nil⟩⟩⟩⟩⟩⟩⟩⟩)) ?_
                  exact ih154 z184 (cj + 1) w174 (by omega) (by omega) (by omega) (hI176) (((hF158.tr (hF167.up (by decide))).tr (hF177.up (by decide)))) (by omega)
                · have hc186u := hc186
                  unfold xbs at hc186u
                  refine xg_t (xg_icT (u := z184) (v := mp) rfl xnm0 xnm0 (xjs_leT hc186)) ?_
                  refine xg_t (xg_blk (b := [(160, 2, 2, 6, 0, 0)]) rfl) ?_
                  refine xg_t (xg_iload (va := (0, mp)) rfl rfl) ?_
                  refine xg_t (xg_blk (b := [(162, 2, 15, 6, 0, 0), (164, 3, 9, 7, 1, 0), (167, 3, 8, 106, 0, 0)]) rfl) ?_
                  refine xg_t (xg_istore (l1 := [(8, (0, z184)), (0, (2, 82)), (1, (0, xx)), (2, (0, yy)), (3, (0, wi)), (4, (0, hi)), (5, (0, n44)), (7, (0, cj))]) rfl rfl rfl) ?_
                  refine xg_t (xg_iinc (u := cj) (z := cj + 1) (l1 := [(6, (0, mp)), (8, (0, z184)), (0, (2, 82)), (1, (0, xx)), (2, (0, yy)), (3, (0, wi)), (4, (0, hi)), (5, (0, n44))]) rfl rfl (by omega) rfl) ?_
                  refine xg_t (xg_goto) ?_
                  refine xg_t (xg_drop (l1 := [(0, (2, 82)), (1, (0, xx)), (2, (0, yy)), (3, (0, wi)), (4, (0, hi)), (5, (0, n44)), (6, (0, mp)), (7, (0, cj + 1))]) (List.forall_mem_cons.mpr ⟨List.mem_cons_of_mem _ (List.mem_cons_of_mem _ (List.mem_cons_of_mem _ (List.mem_cons_self))), List.forall_mem_cons.mpr ⟨List.mem_cons_of_mem _ (List.mem_cons_of_mem _ (List.mem_cons_of_mem _ (List.mem_cons_of_mem _ (List.mem_cons_self)))), List.forall_mem_cons.mpr ⟨List.mem_cons_of_mem _ (List.mem_cons_of_mem _ (List.mem_cons_of_mem _ (List.mem_cons_of_mem _ (List.mem_cons_of_mem _ (List.mem_cons_self))))), List.forall_mem_cons.mpr ⟨List.mem_cons_of_mem _ (List.mem_cons_of_mem _ (List.mem_cons_of_mem _ (List.mem_cons_of_mem _ (List.mem_cons_of_mem _ (List.mem_cons_of_mem _ (List.mem_cons_self)))))), List.forall_mem_cons.mpr ⟨List.mem_cons_of_mem _ (List.mem_cons_of_mem _ (List.mem_cons_of_mem _ (List.mem_cons_of_mem _ (List.mem_cons_of_mem _ (List.mem_cons_of_mem _ (List.mem_cons_of_mem _ (List.mem_cons_self))))))), List.forall_mem_cons.mpr ⟨List.mem_cons_of_mem _ (List.mem_cons_of_mem _ (List.mem_cons_of_mem _ (List.mem_cons_of_mem _ (List.mem_cons_of_mem _ (List.mem_cons_of_mem _ (List.mem_cons_of_mem _ (List.mem_cons_of_mem _ (List.mem_cons_self)))))))), List.forall_mem_cons.mpr ⟨List.mem_cons_of_mem _ (List.mem_cons_self), List.forall_mem_cons.mpr ⟨List.mem_cons_self, fun _ h => absurd h List.not_mem_nil⟩⟩⟩⟩⟩⟩⟩⟩)) ?_
                  exact ih154 mp (cj + 1) w174 (by omega) (by omega) (by omega) (hI176) (((hF158.tr (hF167.up (by decide))).tr (hF177.up (by decide)))) (by omega)
              · refine xg_t (xg_icT (u := cj) (v := hi) rfl xnm0 xnm0 (xj_geT (by omega) (by omega))) ?_
                refine xg_t (xg_blk (b := [(170, 2, 2, 6, 0, 0), (172, 1, 12, 0, 1, 0)]) rfl) ?_
                refine xg_t (xg_iload (va := (0, mp)) rfl rfl) ?_
                exact xg_e ⟨mp, w156, ⟨rfl, rfl⟩, by omega, hI157, hF158⟩
          exact key153 _ mo 1 w122 (Nat.lt_succ_self _) (by omega) (by omega) (hI123) (hF124) (by omega)
    exact key119 _ 0 1 w40 (Nat.lt_succ_self _) (by omega) (by omega) (hI42) ((hF43.up (by decide))) (by omega)
theorem mValues (hI : xMnv w)  : xPq (d + 3) mX12_values [(2, 82)] w bd fc rr [] (fun w' => xMnv w' ∧ xFr [106, 107] w w') := by
  refine xPq.of ?_
  show xTo (d + 3) mX12_values (0, [], [(0, (2, 82))], [], (w, bd, fc, 0, 0, rr)) (fun φ => ∃ w', xEnd 0 [] (w', bd, fc, 0, 0, rr) φ ∧ xMnv w' ∧ xFr [106, 107] w w')
  obtain ⟨f82_1, f82_3, f82_5, f82_7, f82_9, f82_11, f82_13, f82_15, f82_17, f82_19, f82_21, f82_22, f82_23, f82_25, f82_27, f82_29, h82_31, hb2, hb4, hb6, hb8, hb10, hb12, hb14, hb16, hb18, hb20, hb24, hb26, hb28, hb30, hb32⟩ := (hI 82 (by decide) (by decide) : cp82 (wget w 82))
  obtain ⟨g83_33, h83_34, hb35, hx36⟩ := (hI 83 (by decide) (by decide) : cpx83 (wget w 83))
  have h83_34 : xRow w 83 5360 50 g83_33 := h83_34
  refine xg_t (xg_blk (b := [(0, 1, 3, 1, 0, 0), (1, 1, 15, 1, 0, 0)]) rfl) ?_
  refine xg_t (xg_const) ?_
  refine xg_t (xg_istore (l1 := [(0, (2, 82))]) rfl rfl rfl) ?_
  refine xg_t (xg_drop (l1 := [(0, (2, 82)), (1, (0, 1))]) (List.forall_mem_cons.mpr ⟨List.mem_cons_of_mem _ (List.mem_cons_self), List.forall_mem_cons.mpr ⟨List.mem_cons_self, fun _ h => absurd h List.not_mem_nil⟩⟩)) ?_
  have key37 : ∀ (m39 : Nat) (wi : Nat) (w40 : List (List xE)), 11 - wi < m39 → wi ≤ 11 → xMnv w40 → xFr [106, 107] w w40 → 1 ≤ wi → xTo (d + 3) mX12_values (2, [], [(0, (2, 82)), (1, (0, wi))], [], (w40, bd, fc, 0, 0, rr)) (fun φ => ∃ w', xEnd 0 [] (w', bd, fc, 0, 0, rr) φ ∧ xMnv w' ∧ xFr [106, 107] w w') := by
    intro m39
    induction m39 with
    | zero => intro wi w40 hz; exact absurd hz (Nat.not_lt_zero _)
    | succ m39 ih38 =>
      intro wi w40 hm45 hn43 hI41 hF42 he44
      refine xg_t (xg_blk (b := [(2, 1, 2, 1, 0, 0), (3, 1, 0, 0, 0, 0), (4, 3, 1, 12, 0, 7), (7, 2, 4, 7, 0, 0), (9, 1, 10, 0, 0, 0), (10, 3, 6, 126, 4, 0), (13, 1, 3, 1, 0, 0), (14, 1, 15, 2, 0, 0)]) rfl) ?_
      refine xg_t (xg_iload (va := (0, wi)) rfl rfl) ?_
      refine xg_t (xg_aload (va := (2, 82)) rfl rfl) ?_
      refine xg_t (xg_getf (va := (2, 83)) (hF42.get (by decide) h82_31) rfl) ?_
      refine xg_t (xg_bip) ?_
      refine xg_ialdB (n := 7) (B := 4294967295) (h83_34.fr hF42 (by decide)) (hb35) xnm0 (by omega) (fun u46 hu47 he48 => ?_)
      have hl49 : u46 ≤ 10 := by rw [← he48]; exact hx36.l7
      by_cases hc50 : u46 < wi
      · refine xg_t (xg_icT (u := wi) (v := u46) rfl xnm0 xnm0 (xj_gtT hc50 (by omega))) ?_
        refine xg_t (xg_blk (b := [(126, 1, 12, 0, 0, 0)]) rfl) ?_
        exact xg_e ⟨w40, ⟨rfl, rfl⟩, hI41, hF42⟩
      · refine xg_t (xg_icF (u := wi) (v := u46) rfl xnm0 xnm0 (xj_gtF (by omega) (by omega))) ?_
        refine xg_t (xg_const) ?_
        refine xg_t (xg_istore (l1 := [(0, (2, 82)), (1, (0, wi))]) rfl rfl rfl) ?_
        refine xg_t (xg_drop (l1 := [(0, (2, 82)), (1, (0, wi)), (2, (0, 1))]) (List.forall_mem_cons.mpr ⟨List.mem_cons_of_mem _ (List.mem_cons_self), List.forall_mem_cons.mpr ⟨List.mem_cons_of_mem _ (List.mem_cons_of_mem _ (List.mem_cons_self)), List.forall_mem_cons.mpr ⟨List.mem_cons_self, fun _ h => absurd h List.not_mem_nil⟩⟩⟩)) ?_
        have key51 : ∀ (m53 : Nat) (hi : Nat) (w54 : List (List xE)), 11 - hi < m53 → hi ≤ 11 → xMnv w54 → xFr [106, 107] w w54 → 1 ≤ hi → xTo (d + 3) mX12_values (15, [], [(0, (2, 82)), (1, (0, wi)), (2, (0, hi))], [], (w54, bd, fc, 0, 0, rr)) (fun φ => ∃ w', xEnd 0 [] (w', bd, fc, 0, 0, rr) φ ∧ xMnv w' ∧ xFr [106, 107] w w') := by
          intro m53
          induction m53 with
          | zero => intro hi w54 hz; exact absurd hz (Nat.not_lt_zero _)
          | succ m53 ih52 =>
            intro hi w54 hm59 hn57 hI55 hF56 he58
            refine xg_t (xg_blk (b := [(15, 1, 2, 2, 0, 0), (16, 1, 0, 0, 0, 0), (17, 3, 1, 12, 0, 7), (20, 2, 4, 8, 0, 0), (22, 1, 10, 0, 0, 0), (23, 3, 6, 120, 4, 0), (26, 1, 3, 0, 0, 0), (27, 1, 15, 3, 0, 0)]) rfl) ?_
            refine xg_t (xg_iload (va := (0, hi)) rfl rfl) ?_
            refine xg_t (xg_aload (va := (2, 82)) rfl rfl) ?_
            refine xg_t (xg_getf (va := (2, 83)) (hF56.get (by decide) h82_31) rfl) ?_
            refine xg_t (xg_bip) ?_
            refine xg_ialdB (n := 8) (B := 4294967295) (h83_34.fr hF56 (by decide)) (hb35) xnm0 (by omega) (fun u60 hu61 he62 => ?_)
            have hl63 : u60 ≤ 10 := by rw [← he62]; exact hx36.l8
            by_cases hc64 : u60 < hi
            · refine xg_t (xg_icT (u := hi) (v := u60) rfl xnm0 xnm0 (xj_gtT hc64 (by omega))) ?_
              refine xg_t (xg_blk (b := [(120, 3, 9, 1, 1, 0), (123, 3, 8, 2, 0, 0)]) rfl) ?_
              refine xg_t (xg_iinc (u := wi) (z := wi + 1) (l1 := [(0, (2, 82)), (2, (0, hi))]) rfl rfl (by omega) rfl) ?_
              refine xg_t (xg_goto) ?_
              refine xg_t (xg_drop (l1 := [(0, (2, 82)), (1, (0, wi + 1))]) (List.forall_mem_cons.mpr ⟨List.mem_cons_of_mem _ (List.mem_cons_self), List.forall_mem_cons.mpr ⟨List.mem_cons_self, fun _ h => absurd h List.not_mem_nil⟩⟩)) ?_
              exact ih38 (wi + 1) w54 (by omega) (by omega) (hI55) (hF56) (by omega)
            · refine xg_t (xg_icF (u := hi) (v := u60) rfl xnm0 xnm0 (xj_gtF (by omega) (by omega))) ?_
              refine xg_t (xg_const) ?_
              refine xg_t (xg_istore (l1 := [(0, (2, 82)), (1, (0, wi)), (2, (0, hi))]) rfl rfl rfl) ?_
              refine xg_t (xg_drop (l1 := [(0, (2, 82)), (1, (0, wi)), (2, (0, hi)), (3, (0, 0))]) (List.forall_mem_cons.mpr ⟨List.mem_cons_of_mem _ (List.mem_cons_self), List.forall_mem_cons.mpr ⟨List.mem_cons_of_mem _ (List.mem_cons_of_mem _ (List.mem_cons_self)), List.forall_mem_cons.mpr ⟨List.mem_cons_of_mem _ (List.mem_cons_of_mem _ (List.mem_cons_of_mem _ (List.mem_cons_self))), List.forall_mem_cons.mpr ⟨List.mem_cons_self, fun _ h => absurd h List.not_mem_nil⟩⟩⟩⟩)) ?_
              have key65 : ∀ (m67 : Nat) (xi : Nat) (w68 : List (List xE)), 11 - xi < m67 → xi ≤ 11 → xMnv w68 → xFr [106, 107] w w68 → xTo (d + 3) mX12_values (28, [], [(0, (2, 82)), (1, (0, wi)), (2, (0, hi)), (3, (0, xi))], [], (w68, bd, fc, 0, 0, rr)) (fun φ => ∃ w', xEnd 0 [] (w', bd, fc, 0, 0, rr) φ ∧ xMnv w' ∧ xFr [106, 107] w w') := by
                intro m67
                induction m67 with
                | zero => intro xi w68 hz; exact absurd hz (Nat.not_lt_zero _)
                | succ m67 ih66 =>
                  intro xi w68 hm72 hn71 hI69 hF70
                  refine xg_t (xg_blk (b := [(28, 1, 2, 3, 0, 0), (29, 1, 2, 1, 0, 0), (30, 1, 11, 0, 0, 0), (31, 1, 0, 0, 0, 0), (32, 3, 1, 12, 0, 7), (35, 2, 4, 7, 0, 0), (37, 1, 10, 0, 0, 0), (38, 3, 6, 114, 4, 0), (41, 1, 3, 0, 0, 0), (42, 2, 15, 4, 0, 0)]) rfl) ?_
                  refine xg_t (xg_iload (va := (0, xi)) rfl rfl) ?_
                  refine xg_t (xg_iload (va := (0, wi)) rfl rfl) ?_
                  refine xg_t (xg_iadd (u := xi) (v := wi) (z := xi + wi) xnm0 xnm0 (by omega)) ?_
                  refine xg_t (xg_aload (va := (2, 82)) rfl rfl) ?_
                  refine xg_t (xg_getf (va := (2, 83)) (hF70.get (by decide) h82_31) rfl) ?_
                  refine xg_t (xg_bip) ?_
                  refine xg_ialdB (n := 7) (B := 4294967295) (h83_34.fr hF70 (by decide)) (hb35) xnm0 (by omega) (fun u73 hu74 he75 => ?_)
                  have hl76 : u73 ≤ 10 := by rw [← he75]; exact hx36.l7
                  by_cases hc77 : u73 < (xi + wi)
                  · refine xg_t (xg_icT (u := xi + wi) (v := u73) rfl xnm0 xnm0 (xj_gtT hc77 (by omega))) ?_
                    refine xg_t (xg_blk (b := [(114, 3, 9, 2, 1, 0), (117, 3, 8, 15, 0, 0)]) rfl) ?_
                    refine xg_t (xg_iinc (u := hi) (z := hi + 1) (l1 := [(0, (2, 82)), (1, (0, wi)), (3, (0, xi))]) rfl rfl (by omega) rfl) ?_
                    refine xg_t (xg_goto) ?_
                    refine xg_t (xg_drop (l1 := [(0, (2, 82)), (1, (0, wi)), (2, (0, hi + 1))]) (List.forall_mem_cons.mpr ⟨List.mem_cons_of_mem _ (List.mem_cons_self), List.forall_mem_cons.mpr ⟨List.mem_cons_of_mem _ (List.mem_cons_of_mem _ (List.mem_cons_self)), List.forall_mem_cons.mpr ⟨List.mem_cons_self, fun _ h => absurd h List.not_mem_nil⟩⟩⟩)) ?_
                    exact ih52 (hi + 1) w68 (by omega) (by omega) (hI69) (hF70) (by omega)
                  · refine xg_t (xg_icF (u := xi + wi) (v := u73) rfl xnm0 xnm0 (xj_gtF (by omega) (by omega))) ?_
                    refine xg_t (xg_const) ?_
                    refine xg_t (xg_istore (l1 := [(0, (2, 82)), (1, (0, wi)), (2, (0, hi)), (3, (0, xi))]) rfl rfl rfl) ?_
                    refine xg_t (xg_drop (l1 := [(0, (2, 82)), (1, (0, wi)), (2, (0, hi)), (3, (0, xi)), (4, (0, 0))]) (List.forall_mem_cons.mpr ⟨List.mem_cons_of_mem _ (List.mem_cons_self), List.forall_mem_cons.mpr ⟨List.mem_cons_of_mem _ (List.mem_cons_of_mem _ (List.mem_cons_self)), List.forall_mem_cons.mpr ⟨List.mem_cons_of_mem _ (List.mem_cons_of_mem _ (List.mem_cons_of_mem _ (List.mem_cons_self))), List.forall_mem_cons.mpr ⟨List.mem_cons_of_mem _ (List.mem_cons_of_mem _ (List.mem_cons_of_mem _ (List.mem_cons_of_mem _ (List.mem_cons_self)))), List.forall_mem_cons.mpr ⟨List.mem_cons_self, fun _ h => absurd h List.not_mem_nil⟩⟩⟩⟩⟩)) ?_
                    have key78 : ∀ (m80 : Nat) (yi : Nat) (w81 : List (List xE)), 11 - yi < m80 → yi ≤ 11 → xMnv w81 → xFr [106, 107] w w81 → xTo (d + 3) mX12_values (44, [], [(0, (2, 82)), (1, (0, wi)), (2, (0, hi)), (3, (0, xi)), (4, (0, yi))], [], (w81, bd, fc, 0, 0, rr)) (fun φ => ∃ w', xEnd 0 [] (w', bd, fc, 0, 0, rr) φ ∧ xMnv w' ∧ xFr [106, 107] w w') := by
                      intro m80
                      induction m80 with
                      | zero => intro yi w81 hz; exact absurd hz (Nat.not_lt_zero _)
                      | succ m80 ih79 =>
                        intro yi w81 hm85 hn84 hI82 hF83
                        refine xg_t (xg_blk (b := [(44, 2, 2, 4, 0, 0), (46, 1, 2, 2, 0, 0), (47, 1, 11, 0, 0, 0), (48, 1, 0, 0, 0, 0), (49, 3, 1, 12, 0, 7), (52, 2, 4, 8, 0, 0), (54, 1, 10, 0, 0, 0), (55, 3, 6, 108, 4, 0), (58, 1, 0, 0, 0, 0), (59, 3, 1, 12, 38, 84), (62, 1, 2, 3, 0, 0), (63, 2, 2, 4, 0, 0), (65, 1, 2, 1, 0, 0), (66, 1, 2, 2, 0, 0), (67, 3, 13, 118, 98, 344), (70, 1, 0, 0, 0, 0), (71, 1, 2, 3, 0, 0), (72, 2, 2, 4, 0, 0), (74, 1, 2, 1, 0, 0), (75, 1, 2, 2, 0, 0), (76, 3, 13, 151, 96, 351), (79, 1, 28, 0, 0, 0), (80, 1, 0, 0, 0, 0), (81, 3, 1, 12, 37, 81), (84, 1, 2, 3, 0, 0), (85, 2, 2, 4, 0, 0), (87, 1, 2, 1, 0, 0), (88, 1, 2, 2, 0, 0), (89, 3, 13, 118, 98, 344), (92, 1, 0, 0, 0, 0), (93, 1, 2, 3, 0, 0), (94, 2, 2, 4, 0, 0), (96, 1, 2, 1, 0, 0), (97, 1, 2, 2, 0, 0), (98, 3, 13, 206, 96, 355), (101, 1, 17, 0, 0, 0), (102, 3, 9, 4, 1, 0), (105, 3, 8, 44, 0, 0)]) rfl) ?_
                        refine xg_t (xg_iload (va := (0, yi)) rfl rfl) ?_
                        refine xg_t (xg_iload (va := (0, hi)) rfl rfl) ?_
                        refine xg_t (xg_iadd (u := yi) (v := hi) (z := yi + hi) xnm0 xnm0 (by omega)) ?_
                        refine xg_t (xg_aload (va := (2, 82)) rfl rfl) ?_
                        refine xg_t (xg_getf (va := (2, 83)) (hF83.get (by decide) h82_31) rfl) ?_
                        refine xg_t (xg_bip) ?_
                        refine xg_ialdB (n := 8) (B := 4294967295) (h83_34.fr hF83 (by decide)) (hb35) xnm0 (by omega) (fun u86 hu87 he88 => ?_)
                        have hl89 : u86 ≤ 10 := by rw [← he88]; exact hx36.l8
                        by_cases hc90 : u86 < (yi + hi)
                        · refine xg_t (xg_icT (u := yi + hi) (v := u86) rfl xnm0 xnm0 (xj_gtT hc90 (by omega))) ?_
                          refine xg_t (xg_blk (b := [(108, 3, 9, 3, 1, 0), (111, 3, 8, 28, 0, 0)]) rfl) ?_
                          refine xg_t (xg_iinc (u := xi) (z := xi + 1) (l1 := [(0, (2, 82)), (1, (0, wi)), (2, (0, hi)), (4, (0, yi))]) rfl rfl (by omega) rfl) ?_
                          refine xg_t (xg_goto) ?_
                          refine xg_t (xg_drop (l1 := [(0, (2, 82)), (1, (0, wi)), (2, (0, hi)), (3, (0, xi + 1))]) (List.forall_mem_cons.mpr ⟨List.mem_cons_of_mem _ (List.mem_cons_self), List.forall_mem_cons.mpr ⟨List.mem_cons_of_mem _ (List.mem_cons_of_mem _ (List.mem_cons_self)), List.forall_mem_cons.mpr ⟨List.mem_cons_of_mem _ (List.mem_cons_of_mem _ (List.mem_cons_of_mem _ (List.mem_cons_self))), List.forall_mem_cons.mpr ⟨List.mem_cons_self, fun _ h => absurd h List.not_mem_nil⟩⟩⟩⟩)) ?_
                          exact ih66 (xi + 1) w81 (by omega) (by omega) (hI82) (hF83)
                        · refine xg_t (xg_icF (u := yi + hi) (v := u86) rfl xnm0 xnm0 (xj_gtF (by omega) (by omega))) ?_
                          refine xg_t (xg_aload (va := (2, 82)) rfl rfl) ?_
                          refine xg_t (xg_getf (va := (2, 107)) (hF83.get (by decide) h82_31) rfl) ?_
                          refine xg_t (xg_iload (va := (0, xi)) rfl rfl) ?_
                          refine xg_t (xg_iload (va := (0, yi)) rfl rfl) ?_
                          refine xg_t (xg_iload (va := (0, wi)) rfl rfl) ?_
                          refine xg_t (xg_iload (va := (0, hi)) rfl rfl) ?_
                          refine xg_cSi mX12_at (vs := [(0, xi), (0, yi), (0, wi), (0, hi)]) (rest := [(2, 107)]) (cn1 := 0) (sl1 := 0) rfl (mAt (hI82) (by omega) (by omega) (by omega) (by omega)) rfl rfl rfl rfl rfl rfl rfl (fun n95 w91 hq92 => ?_)
                          obtain ⟨hn96, hI93, hF94⟩ := hq92
                          have hl97 : n95 ≤ 14640 := by omega
                          refine xg_t (xg_aload (va := (2, 82)) rfl rfl) ?_
                          refine xg_t (xg_iload (va := (0, xi)) rfl rfl) ?_
                          refine xg_t (xg_iload (va := (0, yi)) rfl rfl) ?_
                          refine xg_t (xg_iload (va := (0, wi)) rfl rfl) ?_
                          refine xg_t (xg_iload (va := (0, hi)) rfl rfl) ?_
                          refine xg_cVi mX12_hasFlaw (vs := [(0, xi), (0, yi), (0, wi), (0, hi)]) (rest := [(0, n95), (2, 107)]) (cn1 := 0) (sl1 := 0) rfl (mHasFlaw (hI93) (by omega) (by omega) (by omega) (by omega) (by omega) (by omega) (by omega) (by omega)) rfl (hF94.get (by decide) (hF83.get (by decide) h82_31)) rfl rfl rfl rfl rfl rfl (fun n102 w98 hq99 => ?_)
                          obtain ⟨hn103, hI100, hF101⟩ := hq99
                          obtain ⟨g107_104, h107_105, hb106⟩ := (hI100 107 (by decide) (by decide) : cpK 2 0 14641 74 1 (wget w98 107))
                          have h107_105 : xRk 2 0 w98 107 14641 74 g107_104 := h107_105
                          refine xg_bastZ (n := n95) (u := n102) h107_105 xnm0 xnm0 rfl (by omega) (by omega) (fun w107 hr108 hb109 => ?_)
                          refine xg_t (xg_aload (va := (2, 82)) rfl rfl) ?_
                          refine xg_t (xg_getf (va := (2, 106)) (hb109.get (by decide) (hF101.get (by decide) (hF94.get (by decide) (hF83.get (by decide) h82_31)))) rfl) ?_
                          refine xg_t (xg_iload (va := (0, xi)) rfl rfl) ?_
                          refine xg_t (xg_iload (va := (0, yi)) rfl rfl) ?_
                          refine xg_t (xg_iload (va := (0, wi)) rfl rfl) ?_
                          refine xg_t (xg_iload (va := (0, hi)) rfl rfl) ?_
                          refine xg_cSi mX12_at (vs := [(0, xi), (0, yi), (0, wi), (0, hi)]) (rest := [(2, 106)]) (cn1 := 0) (sl1 := 0) rfl (mAt (xMnv.up (S := [107]) hI100 (xFr.of (S := [107]) hb109 (by decide)) (List.forall_mem_cons.mpr ⟨(show cpK 2 0 14641 74 1 (wget w107 107) from ⟨_, hr108, xrb (by omega) (hb106)⟩), fun _ h => absurd h List.not_mem_nil⟩)) (by omega) (by omega) (by omega) (by omega)) rfl rfl rfl rfl rfl rfl rfl (fun n114 w110 hq111 => ?_)
                          obtain ⟨hn115, hI112, hF113⟩ := hq111
                          have hl116 : n114 ≤ 14640 := by omega
                          refine xg_t (xg_aload (va := (2, 82)) rfl rfl) ?_
                          refine xg_t (xg_iload (va := (0, xi)) rfl rfl) ?_
                          refine xg_t (xg_iload (va := (0, yi)) rfl rfl) ?_
                          refine xg_t (xg_iload (va := (0, wi)) rfl rfl) ?_
                          refine xg_t (xg_iload (va := (0, hi)) rfl rfl) ?_
                          refine xg_cVi mX12_pieceOf (vs := [(0, xi), (0, yi), (0, wi), (0, hi)]) (rest := [(0, n114), (2, 106)]) (cn1 := 0) (sl1 := 0) rfl (mPieceOf (hI112) (by omega) (by omega) (by omega) (by omega) (by omega) (by omega) (by omega) (by omega)) rfl (hF113.get (by decide) (hb109.get (by decide) (hF101.get (by decide) (hF94.get (by decide) (hF83.get (by decide) h82_31))))) rfl rfl rfl rfl rfl rfl (fun n121 w117 hq118 => ?_)
                          obtain ⟨hn122, hI119, hF120⟩ := hq118
                          obtain ⟨g106_123, h106_124, hb125⟩ := (hI119 106 (by decide) (by decide) : cpI 14641 73 4294967295 (wget w117 106))
                          have h106_124 : xRow w117 106 14641 73 g106_123 := h106_124
                          refine xg_iastK (n := n114) (u := n121) h106_124 xnm0 xnm0 rfl (by omega) (fun w126 hr127 hb128 => ?_)
                          refine xg_t (xg_iinc (u := yi) (z := yi + 1) (l1 := [(0, (2, 82)), (1, (0, wi)), (2, (0, hi)), (3, (0, xi))]) rfl rfl (by omega) rfl) ?_
                          refine xg_t (xg_goto) ?_
                          refine xg_t (xg_drop (l1 := [(0, (2, 82)), (1, (0, wi)), (2, (0, hi)), (3, (0, xi)), (4, (0, yi + 1))]) (List.forall_mem_cons.mpr ⟨List.mem_cons_of_mem _ (List.mem_cons_self), List.forall_mem_cons.mpr ⟨List.mem_cons_of_mem _ (List.mem_cons_of_mem _ (List.mem_cons_self)), List.forall_mem_cons.mpr ⟨List.mem_cons_of_mem _ (List.mem_cons_of_mem _ (List.mem_cons_of_mem _ (List.mem_cons_self))), List.forall_mem_cons.mpr ⟨List.mem_cons_of_mem _ (List.mem_cons_of_mem _ (List.mem_cons_of_mem _ (List.mem_cons_of_mem _ (List.mem_cons_self)))), List.forall_mem_cons.mpr ⟨List.mem_cons_self, fun _ h => absurd h List.not_mem_nil⟩⟩⟩⟩⟩)) ?_
                          exact ih79 (yi + 1) w126 (by omega) (by omega) (xMnv.up (S := [106]) hI119 (xFr.of (S := [106]) hb128 (by decide)) (List.forall_mem_cons.mpr ⟨(show cpI 14641 73 4294967295 (wget w126 106) from ⟨_, hr127, xrb (by omega) (hb125)⟩), fun _ h => absurd h List.not_mem_nil⟩)) (((((((hF83.tr (hF94.up (by decide))).tr (hF101.up (by decide))).tr (xFr.of (S := [106, 107]) hb109 (by decide))).tr (hF113.up (by decide))).tr (hF120.up (by decide))).tr (xFr.of (S := [106, 107]) hb128 (by decide))))
                    exact key78 _ 0 w68 (Nat.lt_succ_self _) (by omega) (hI69) (hF70)
              exact key65 _ 0 w54 (Nat.lt_succ_self _) (by omega) (hI55) (hF56)
        exact key51 _ 1 w40 (Nat.lt_succ_self _) (by omega) (hI41) (hF42) (by omega)
  exact key37 _ 1 w (Nat.lt_succ_self _) (by omega) (hI) (xFr.rf) (by omega)
theorem mValue {xx yy wi hi : Nat} (hI : xMnv w) (hxx : xx ≤ 4294967295) (hyy : yy ≤ 4294967295) (hwi : wi ≤ 4294967295) (hhi : hi ≤ 4294967295) : xPi (d + 4) mX12_value [(2, 82), (0, xx), (0, yy), (0, wi), (0, hi)] w bd fc rr (fun n w' => (n ≤ 4294967295) ∧ xMnv w' ∧ xFr [106, 107] w w') := by
  refine xPi.of ?_
  show xTo (d + 4) mX12_value (0, [], [(0, (2, 82)), (1, (0, xx)), (2, (0, yy)), (3, (0, wi)), (4, (0, hi))], [], (w, bd, fc, 0, 0, rr)) (fun φ => ∃ n w', xEnd 1 [(0, n)] (w', bd, fc, 0, 0, rr) φ ∧ (n ≤ 4294967295) ∧ xMnv w' ∧ xFr [106, 107] w w')
  obtain ⟨f82_1, f82_3, f82_5, f82_7, f82_9, f82_11, f82_13, f82_15, f82_17, f82_19, f82_21, f82_22, f82_23, f82_25, f82_27, f82_29, h82_31, hb2, hb4, hb6, hb8, hb10, hb12, hb14, hb16, hb18, hb20, hb24, hb26, hb28, hb30, hb32⟩ := (hI 82 (by decide) (by decide) : cp82 (wget w 82))
  obtain ⟨g83_33, h83_34, hb35, hx36⟩ := (hI 83 (by decide) (by decide) : cpx83 (wget w 83))
  have h83_34 : xRow w 83 5360 50 g83_33 := h83_34
  refine xg_t (xg_blk (b := [(0, 1, 2, 1, 0, 0), (1, 1, 3, 0, 0, 0), (2, 1, 0, 0, 0, 0), (3, 3, 1, 12, 0, 7), (6, 2, 4, 7, 0, 0), (8, 1, 10, 0, 0, 0), (9, 1, 3, 1, 0, 0), (10, 1, 18, 0, 0, 0), (11, 3, 13, 161, 98, 105), (14, 3, 7, 69, 0, 0), (17, 1, 2, 2, 0, 0), (18, 1, 3, 0, 0, 0), (19, 1, 0, 0, 0, 0), (20, 3, 1, 12, 0, 7), (23, 2, 4, 8, 0, 0), (25, 1, 10, 0, 0, 0), (26, 1, 3, 1, 0, 0), (27, 1, 18, 0, 0, 0), (28, 3, 13, 161, 98, 105), (31, 3, 7, 69, 0, 0), (34, 1, 2, 3, 0, 0), (35, 1, 3, 1, 0, 0), (36, 1, 0, 0, 0, 0), (37, 3, 1, 12, 0, 7), (40, 2, 4, 7, 0, 0), (42, 1, 10, 0, 0, 0), (43, 1, 2, 1, 0, 0), (44, 1, 18, 0, 0, 0), (45, 3, 13, 161, 98, 105), (48, 3, 7, 69, 0, 0), (51, 2, 2, 4, 0, 0), (53, 1, 3, 1, 0, 0), (54, 1, 0, 0, 0, 0), (55, 3, 1, 12, 0, 7), (58, 2, 4, 8, 0, 0), (60, 1, 10, 0, 0, 0), (61, 1, 2, 2, 0, 0), (62, 1, 18, 0, 0, 0), (63, 3, 13, 161, 98, 105), (66, 3, 7, 71, 1, 0)]) rfl) ?_
  refine xg_t (xg_iload (va := (0, xx)) rfl rfl) ?_
  refine xg_t (xg_const) ?_
  refine xg_t (xg_aload (va := (2, 82)) rfl rfl) ?_
  refine xg_t (xg_getf (va := (2, 83)) h82_31 rfl) ?_
  refine xg_t (xg_bip) ?_
  refine xg_ialdB (n := 7) (B := 4294967295) h83_34 (hb35) xnm0 (by omega) (fun u37 hu38 he39 => ?_)
  have hl40 : u37 ≤ 10 := by rw [← he39]; exact hx36.l7
  refine xg_t (xg_const) ?_
  by_cases hc41 : 1 ≤ u37
  · refine xg_t (xg_isub (u := u37) (v := 1) (z := u37 - 1) xnm0 xnm0 (by omega)) ?_
    refine xg_t (xg_cSr mX12_isIn (vs := [(0, xx), (0, 0), (0, u37 - 1)]) (rest := []) (rs := [(0, if 0 ≤ xx ∧ xx ≤ u37 - 1 then 1 else 0)]) (cn1 := 0) (sl1 := 0) rfl (mIsIn (by omega) (by omega) (by omega)) rfl rfl rfl rfl rfl rfl rfl rfl) ?_
    by_cases hc42 : 0 ≤ xx ∧ xx ≤ u37 - 1
    · refine xg_t (xg_ifF (u := (if 0 ≤ xx ∧ xx ≤ u37 - 1 then 1 else 0)) rfl xnm0 (xj_eqF (xite1 hc42))) ?_
      refine xg_t (xg_iload (va := (0, yy)) rfl rfl) ?_
      refine xg_t (xg_const) ?_
      refine xg_t (xg_aload (va := (2, 82)) rfl rfl) ?_
      refine xg_t (xg_getf (va := (2, 83)) h82_31 rfl) ?_
      refine xg_t (xg_bip) ?_
      refine xg_ialdB (n := 8) (B := 4294967295) h83_34 (hb35) xnm0 (by omega) (fun u43 hu44 he45 => ?_)
      have hl46 : u43 ≤ 10 := by rw [← he45]; exact hx36.l8
      refine xg_t (xg_const) ?_
      by_cases hc47 : 1 ≤ u43
      · refine xg_t (xg_isub (u := u43) (v := 1) (z := u43 - 1) xnm0 xnm0 (by omega)) ?_
        refine xg_t (xg_cSr mX12_isIn (vs := [(0, yy), (0, 0), (0, u43 - 1)]) (rest := []) (rs := [(0, if 0 ≤ yy ∧ yy ≤ u43 - 1 then 1 else 0)]) (cn1 := 0) (sl1 := 0) rfl (mIsIn (by omega) (by omega) (by omega)) rfl rfl rfl rfl rfl rfl rfl rfl) ?_
        by_cases hc48 : 0 ≤ yy ∧ yy ≤ u43 - 1
        · refine xg_t (xg_ifF (u := (if 0 ≤ yy ∧ yy ≤ u43 - 1 then 1 else 0)) rfl xnm0 (xj_eqF (xite1 hc48))) ?_
          refine xg_t (xg_iload (va := (0, wi)) rfl rfl) ?_
          refine xg_t (xg_const) ?_
          refine xg_t (xg_aload (va := (2, 82)) rfl rfl) ?_
          refine xg_t (xg_getf (va := (2, 83)) h82_31 rfl) ?_
          refine xg_t (xg_bip) ?_
          refine xg_ialdB (n := 7) (B := 4294967295) h83_34 (hb35) xnm0 (by omega) (fun u49 hu50 he51 => ?_)
          have hl52 : u49 ≤ 10 := by rw [← he51]; exact hx36.l7
          refine xg_t (xg_iload (va := (0, xx)) rfl rfl) ?_
          by_cases hc53 : xx ≤ u49
          · refine xg_t (xg_isub (u := u49) (v := xx) (z := u49 - xx) xnm0 xnm0 (by omega)) ?_
            refine xg_t (xg_cSr mX12_isIn (vs := [(0, wi), (0, 1), (0, u49 - xx)]) (rest := []) (rs := [(0, if 1 ≤ wi ∧ wi ≤ u49 - xx then 1 else 0)]) (cn1 := 0) (sl1 := 0) rfl (mIsIn (by omega) (by omega) (by omega)) rfl rfl rfl rfl rfl rfl rfl rfl) ?_
            by_cases hc54 : 1 ≤ wi ∧ wi ≤ u49 - xx
            · refine xg_t (xg_ifF (u := (if 1 ≤ wi ∧ wi ≤ u49 - xx then 1 else 0)) rfl xnm0 (xj_eqF (xite1 hc54))) ?_
              refine xg_t (xg_iload (va := (0, hi)) rfl rfl) ?_
              refine xg_t (xg_const) ?_
              refine xg_t (xg_aload (va := (2, 82)) rfl rfl) ?_
              refine xg_t (xg_getf (va := (2, 83)) h82_31 rfl) ?_
              refine xg_t (xg_bip) ?_
              refine xg_ialdB (n := 8) (B := 4294967295) h83_34 (hb35) xnm0 (by omega) (fun u55 hu56 he57 => ?_)
              have hl58 : u55 ≤ 10 := by rw [← he57]; exact hx36.l8
              refine xg_t (xg_iload (va := (0, yy)) rfl rfl) ?_
              by_cases hc59 : yy ≤ u55
              · refine xg_t (xg_isub (u := u55) (v := yy) (z := u55 - yy) xnm0 xnm0 (by omega)) ?_
                refine xg_t (xg_cSr mX12_isIn (vs := [(0, hi), (0, 1), (0, u55 - yy)]) (rest := []) (rs := [(0, if 1 ≤ hi ∧ hi ≤ u55 - yy then 1 else 0)]) (cn1 := 0) (sl1 := 0) rfl (mIsIn (by omega) (by omega) (by omega)) rfl rfl rfl rfl rfl rfl rfl rfl) ?_
                by_cases hc60 : 1 ≤ hi ∧ hi ≤ u55 - yy
                · refine xg_t (xg_ifT (u := (if 1 ≤ hi ∧ hi ≤ u55 - yy then 1 else 0)) rfl xnm0 (xj_neT (xite1 hc60))) ?_
                  refine xg_t (xg_blk (b := [(71, 1, 0, 0, 0, 0), (72, 3, 13, 234, 96, 358), (75, 1, 0, 0, 0, 0), (76, 3, 1, 12, 37, 81), (79, 1, 2, 1, 0, 0), (80, 1, 2, 2, 0, 0), (81, 1, 2, 3, 0, 0), (82, 2, 2, 4, 0, 0), (84, 3, 13, 118, 98, 344), (87, 1, 10, 0, 0, 0), (88, 1, 12, 0, 1, 0)]) rfl) ?_
                  refine xg_t (xg_aload (va := (2, 82)) rfl rfl) ?_
                  refine xg_cVv mX12_values (vs := []) (rest := []) (cn1 := 0) (sl1 := 0) rfl (mValues (hI)) rfl h82_31 rfl rfl rfl rfl rfl rfl (fun w61 hq62 => ?_)
                  obtain ⟨hI63, hF64⟩ := hq62
                  refine xg_t (xg_aload (va := (2, 82)) rfl rfl) ?_
                  refine xg_t (xg_getf (va := (2, 106)) (hF64.get (by decide) h82_31) rfl) ?_
                  refine xg_t (xg_iload (va := (0, xx)) rfl rfl) ?_
                  refine xg_t (xg_iload (va := (0, yy)) rfl rfl) ?_
                  refine xg_t (xg_iload (va := (0, wi)) rfl rfl) ?_
                  refine xg_t (xg_iload (va := (0, hi)) rfl rfl) ?_
                  refine xg_cSi mX12_at (vs := [(0, xx), (0, yy), (0, wi), (0, hi)]) (rest := [(2, 106)]) (cn1 := 0) (sl1 := 0) rfl (mAt (hI63) (by omega) (by omega) (by omega) (by omega)) rfl rfl rfl rfl rfl rfl rfl (fun n69 w65 hq66 => ?_)
                  obtain ⟨hn70, hI67, hF68⟩ := hq66
                  have hl71 : n69 ≤ 14640 := by omega
                  obtain ⟨g106_72, h106_73, hb74⟩ := (hI67 106 (by decide) (by decide) : cpI 14641 73 4294967295 (wget w65 106))
                  have h106_73 : xRow w65 106 14641 73 g106_72 := h106_73
                  refine xg_ialdB (n := n69) (B := 4294967295) h106_73 (hb74) xnm0 (by omega) (fun u75 hu76 he77 => ?_)
                  exact xg_e ⟨u75, w65, ⟨rfl, rfl⟩, by omega, hI67, ((hF64.up (by decide)).tr (hF68.up (by decide)))⟩
                · refine xg_t (xg_ifF (u := (if 1 ≤ hi ∧ hi ≤ u55 - yy then 1 else 0)) rfl xnm0 (xj_neF (xite0 hc60))) ?_
                  refine xg_t (xg_blk (b := [(69, 1, 3, 4294967295, 0, 0), (70, 1, 12, 0, 1, 0)]) rfl) ?_
                  refine xg_t (xg_const) ?_
                  exact xg_e ⟨4294967295, w, ⟨rfl, rfl⟩, by omega, hI, xFr.rf⟩
              · have hz80 : 4294967287 ≤ (u55 + (4294967296 - yy)) % 4294967296 := by omega
                refine xg_t (xg_isub (u := u55) (v := yy) (z := (u55 + (4294967296 - yy)) % 4294967296) xnm0 xnm0 rfl) ?_
                have hz79 : (u55 + (4294967296 - yy)) % 4294967296 < 4294967296 := Nat.mod_lt _ (by decide)
                generalize (u55 + (4294967296 - yy)) % 4294967296 = z78 at hz80 hz79 ⊢
                refine xg_t (xg_cSr mX12_isIn (vs := [(0, hi), (0, 1), (0, z78)]) (rest := []) (rs := [(0, 0)]) (cn1 := 0) (sl1 := 0) rfl (mIsInN (by omega) (by omega) (by omega) (by omega)) rfl rfl rfl rfl rfl rfl rfl rfl) ?_
                refine xg_t (xg_ifF (u := 0) rfl xnm0 (by decide)) ?_
                refine xg_t (xg_blk (b := [(69, 1, 3, 4294967295, 0, 0), (70, 1, 12, 0, 1, 0)]) rfl) ?_
                refine xg_t (xg_const) ?_
                exact xg_e ⟨4294967295, w, ⟨rfl, rfl⟩, by omega, hI, xFr.rf⟩
            · refine xg_t (xg_ifT (u := (if 1 ≤ wi ∧ wi ≤ u49 - xx then 1 else 0)) rfl xnm0 (xj_eqT (xite0 hc54))) ?_
              refine xg_t (xg_blk (b := [(69, 1, 3, 4294967295, 0, 0), (70, 1, 12, 0, 1, 0)]) rfl) ?_
              refine xg_t (xg_const) ?_
              exact xg_e ⟨4294967295, w, ⟨rfl, rfl⟩, by omega, hI, xFr.rf⟩
          · have hz83 : 4294967287 ≤ (u49 + (4294967296 - xx)) % 4294967296 := by omega
            refine xg_t (xg_isub (u := u49) (v := xx) (z := (u49 + (4294967296 - xx)) % 4294967296) xnm0 xnm0 rfl) ?_
            have hz82 : (u49 + (4294967296 - xx)) % 4294967296 < 4294967296 := Nat.mod_lt _ (by decide)
            generalize (u49 + (4294967296 - xx)) % 4294967296 = z81 at hz83 hz82 ⊢
            refine xg_t (xg_cSr mX12_isIn (vs := [(0, wi), (0, 1), (0, z81)]) (rest := []) (rs := [(0, 0)]) (cn1 := 0) (sl1 := 0) rfl (mIsInN (by omega) (by omega) (by omega) (by omega)) rfl rfl rfl rfl rfl rfl rfl rfl) ?_
            refine xg_t (xg_ifT (u := 0) rfl xnm0 (by decide)) ?_
            refine xg_t (xg_blk (b := [(69, 1, 3, 4294967295, 0, 0), (70, 1, 12, 0, 1, 0)]) rfl) ?_
            refine xg_t (xg_const) ?_
            exact xg_e ⟨4294967295, w, ⟨rfl, rfl⟩, by omega, hI, xFr.rf⟩
        · refine xg_t (xg_ifT (u := (if 0 ≤ yy ∧ yy ≤ u43 - 1 then 1 else 0)) rfl xnm0 (xj_eqT (xite0 hc48))) ?_
          refine xg_t (xg_blk (b := [(69, 1, 3, 4294967295, 0, 0), (70, 1, 12, 0, 1, 0)]) rfl) ?_
          refine xg_t (xg_const) ?_
          exact xg_e ⟨4294967295, w, ⟨rfl, rfl⟩, by omega, hI, xFr.rf⟩
      · have hz86 : 4294967295 ≤ (u43 + (4294967296 - 1)) % 4294967296 := by omega
        refine xg_t (xg_isub (u := u43) (v := 1) (z := (u43 + (4294967296 - 1)) % 4294967296) xnm0 xnm0 rfl) ?_
        have hz85 : (u43 + (4294967296 - 1)) % 4294967296 < 4294967296 := Nat.mod_lt _ (by decide)
        generalize (u43 + (4294967296 - 1)) % 4294967296 = z84 at hz86 hz85 ⊢
        refine xg_t (xg_cSr mX12_isIn (vs := [(0, yy), (0, 0), (0, z84)]) (rest := []) (rs := [(0, 0)]) (cn1 := 0) (sl1 := 0) rfl (mIsInN (by omega) (by omega) (by omega) (by omega)) rfl rfl rfl rfl rfl rfl rfl rfl) ?_
        refine xg_t (xg_ifT (u := 0) rfl xnm0 (by decide)) ?_
        refine xg_t (xg_blk (b := [(69, 1, 3, 4294967295, 0, 0), (70, 1, 12, 0, 1, 0)]) rfl) ?_
        refine xg_t (xg_const) ?_
        exact xg_e ⟨4294967295, w, ⟨rfl, rfl⟩, by omega, hI, xFr.rf⟩
    · refine xg_t (xg_ifT (u := (if 0 ≤ xx ∧ xx ≤ u37 - 1 then 1 else 0)) rfl xnm0 (xj_eqT (xite0 hc42))) ?_
      refine xg_t (xg_blk (b := [(69, 1, 3, 4294967295, 0, 0), (70, 1, 12, 0, 1, 0)]) rfl) ?_
      refine xg_t (xg_const) ?_
      exact xg_e ⟨4294967295, w, ⟨rfl, rfl⟩, by omega, hI, xFr.rf⟩
  · have hz89 : 4294967295 ≤ (u37 + (4294967296 - 1)) % 4294967296 := by omega
    refine xg_t (xg_isub (u := u37) (v := 1) (z := (u37 + (4294967296 - 1)) % 4294967296) xnm0 xnm0 rfl) ?_
    have hz88 : (u37 + (4294967296 - 1)) % 4294967296 < 4294967296 := Nat.mod_lt _ (by decide)
    generalize (u37 + (4294967296 - 1)) % 4294967296 = z87 at hz89 hz88 ⊢
    refine xg_t (xg_cSr mX12_isIn (vs := [(0, xx), (0, 0), (0, z87)]) (rest := []) (rs := [(0, 0)]) (cn1 := 0) (sl1 := 0) rfl (mIsInN (by omega) (by omega) (by omega) (by omega)) rfl rfl rfl rfl rfl rfl rfl rfl) ?_
    refine xg_t (xg_ifT (u := 0) rfl xnm0 (by decide)) ?_
    refine xg_t (xg_blk (b := [(69, 1, 3, 4294967295, 0, 0), (70, 1, 12, 0, 1, 0)]) rfl) ?_
    refine xg_t (xg_const) ?_
    exact xg_e ⟨4294967295, w, ⟨rfl, rfl⟩, by omega, hI, xFr.rf⟩
theorem mLays {xx yy wi hi : Nat} (hI : xMnv w) (hxx : xx ≤ 10) (hyy : yy ≤ 10) (hwi : wi ≤ 10) (hhi : hi ≤ 10) (hxw : xx + wi ≤ 10) (hyh : yy + hi ≤ 10) (hp0 : fld w 82 42 ≤ 150) : xPq (d + 1) mX12_lays [(2, 82), (0, xx), (0, yy), (0, wi), (0, hi)] w bd fc rr [] (fun w' => xMnv w' ∧ xFr [82, 108] w w' ∧ (smW w' = smW w + ar (((xx * 11 + yy) * 11 + wi) * 11 + hi) ∧ fld w' 82 42 = fld w 82 42 + 1 ∧ fld w' 82 41 = fld w 82 41)) := by
  refine xPq.of ?_
  show xTo (d + 1) mX12_lays (0, [], [(0, (2, 82)), (1, (0, xx)), (2, (0, yy)), (3, (0, wi)), (4, (0, hi))], [], (w, bd, fc, 0, 0, rr)) (fun φ => ∃ w', xEnd 0 [] (w', bd, fc, 0, 0, rr) φ ∧ xMnv w' ∧ xFr [82, 108] w w' ∧ (smW w' = smW w + ar (((xx * 11 + yy) * 11 + wi) * 11 + hi) ∧ fld w' 82 42 = fld w 82 42 + 1 ∧ fld w' 82 41 = fld w 82 41))
  obtain ⟨f82_1, f82_3, f82_5, f82_7, f82_9, f82_11, f82_13, f82_15, f82_17, f82_19, f82_21, f82_22, f82_23, f82_25, f82_27, f82_29, h82_31, hb2, hb4, hb6, hb8, hb10, hb12, hb14, hb16, hb18, hb20, hb24, hb26, hb28, hb30, hb32⟩ := (hI 82 (by decide) (by decide) : cp82 (wget w 82))
  obtain ⟨g108_33, h108_34, hb35, hx36⟩ := (hI 108 (by decide) (by decide) : cpx108 (wget w 108))
  have h108_34 : xRow w 108 200 75 g108_33 := h108_34
  have hp42 : fld w 82 42 = f82_29 := fld_of h82_31
  have hp41 : fld w 82 41 = f82_27 := fld_of h82_31
  refine xg_t (xg_blk (b := [(0, 1, 0, 0, 0, 0), (1, 3, 1, 12, 39, 87), (4, 1, 0, 0, 0, 0), (5, 3, 1, 12, 42, 361), (8, 1, 2, 1, 0, 0), (9, 1, 2, 2, 0, 0), (10, 1, 2, 3, 0, 0), (11, 2, 2, 4, 0, 0), (13, 3, 13, 118, 98, 344), (16, 1, 17, 0, 0, 0), (17, 1, 0, 0, 0, 0), (18, 1, 19, 0, 0, 0), (19, 3, 1, 12, 42, 361), (22, 1, 3, 1, 0, 0), (23, 1, 11, 0, 0, 0), (24, 3, 14, 12, 42, 361), (27, 1, 12, 0, 0, 0)]) rfl) ?_
  refine xg_t (xg_aload (va := (2, 82)) rfl rfl) ?_
  refine xg_t (xg_getf (va := (2, 108)) h82_31 rfl) ?_
  refine xg_t (xg_aload (va := (2, 82)) rfl rfl) ?_
  refine xg_t (xg_getf (va := (0, f82_29)) h82_31 rfl) ?_
  refine xg_t (xg_iload (va := (0, xx)) rfl rfl) ?_
  refine xg_t (xg_iload (va := (0, yy)) rfl rfl) ?_
  refine xg_t (xg_iload (va := (0, wi)) rfl rfl) ?_
  refine xg_t (xg_iload (va := (0, hi)) rfl rfl) ?_
  refine xg_cSi mX12_at (vs := [(0, xx), (0, yy), (0, wi), (0, hi)]) (rest := [(0, f82_29), (2, 108)]) (cn1 := 0) (sl1 := 0) rfl (mAt (hI) (by omega) (by omega) (by omega) (by omega)) rfl rfl rfl rfl rfl rfl rfl (fun n41 w37 hq38 => ?_)
  obtain ⟨hn42, hI39, hF40⟩ := hq38
  have hl43 : n41 ≤ 14640 := by omega
  refine xg_iastK (n := f82_29) (u := n41) (h108_34.fr hF40 (by decide)) xnm0 xnm0 rfl (by omega) (fun w44 hr45 hb46 => ?_)
  refine xg_t (xg_aload (va := (2, 82)) rfl rfl) ?_
  refine xg_t (xg_dup rfl) ?_
  refine xg_t (xg_getf (va := (0, f82_29)) (hb46.get (by decide) (hF40.get (by decide) h82_31)) rfl) ?_
  refine xg_t (xg_const) ?_
  refine xg_t (xg_iadd (u := f82_29) (v := 1) (z := f82_29 + 1) xnm0 xnm0 (by omega)) ?_
  refine xg_putI (fl1 := [(2, 83), (2, 84), (0, f82_1), (0, f82_3), (0, f82_5), (0, f82_7), (0, f82_9), (0, f82_11), (0, f82_13), (0, f82_15), (0, f82_17), (2, 85), (2, 86), (2, 87), (0, f82_19), (2, 88), (2, 89), (2, 90), (2, 91), (2, 92), (2, 93), (2, 94), (4, f82_21), (4, f82_22), (0, f82_23), (2, 95), (2, 96), (2, 97), (2, 98), (2, 99), (2, 100), (2, 101), (2, 102), (0, f82_25), (2, 103), (2, 104), (2, 105), (2, 106), (2, 107), (2, 108), (2, 109), (0, f82_27), (0, f82_29 + 1), (2, 110), (2, 111), (2, 112), (2, 113)]) (hb46.get (by decide) (hF40.get (by decide) h82_31)) rfl rfl rfl (fun w47 hk48 hb49 => ?_)
  exact xg_e ⟨w47, ⟨rfl, rfl⟩, xMnv.up (S := [108, 82]) hI39 ((xFr.of (S := [108, 82]) hb46 (by decide)).tr (xFr.of (S := [108, 82]) hb49 (by decide))) (List.forall_mem_cons.mpr ⟨(show cpx108 (wget w47 108) from ⟨_, (hr45.but hb49 (by decide)), xrb (by omega) (hb35), (hx36.upd (okP_enc hn42 (by omega) (by omega)))⟩), List.forall_mem_cons.mpr ⟨(show cp82 (wget w47 82) from ⟨f82_1, f82_3, f82_5, f82_7, f82_9, f82_11, f82_13, f82_15, f82_17, f82_19, f82_21, f82_22, f82_23, f82_25, f82_27, f82_29 + 1, hk48, by omega, by omega, by omega, by omega, by omega, by omega, by omega, by omega, by omega, by omega, by omega, by omega, by omega, by omega, by omega⟩), fun _ h => absurd h List.not_mem_nil⟩⟩), ((hF40.up (by decide)).tr ((xFr.of (S := [82, 108]) hb46 (by decide)).tr (xFr.of (S := [82, 108]) hb49 (by decide)))), ⟨by rw [← hn42]; exact smW_push h108_34 hp42 (by omega) (hr45.but hb49 (by decide)) (fld_of hk48), by rw [hp42]; exact fld_of hk48, by rw [hp41]; exact fld_of hk48⟩⟩
theorem mPlansOne {pi_ : Nat} (hI : xMnv w) (hok : okP pi_) (hs : smW w + fld w 82 41 + ar pi_ ≤ 100) : xPq (d + 2) mX12_plansOne [(2, 82), (0, pi_)] w bd fc rr [] (fun w' => xMnv w' ∧ xFr [82, 108, 109] w w' ∧ ((fld w' 82 42 = fld w 82 42 ∧ smW w' = smW w ∧ fld w' 82 41 ≤ fld w 82 41 + 1) ∨ (fld w' 82 42 = fld w 82 42 + 2 ∧ smW w' = smW w + ar pi_ ∧ fld w' 82 41 = fld w 82 41))) := by
  refine xPq.of ?_
  show xTo (d + 2) mX12_plansOne (0, [], [(0, (2, 82)), (1, (0, pi_))], [], (w, bd, fc, 0, 0, rr)) (fun φ => ∃ w', xEnd 0 [] (w', bd, fc, 0, 0, rr) φ ∧ xMnv w' ∧ xFr [82, 108, 109] w w' ∧ ((fld w' 82 42 = fld w 82 42 ∧ smW w' = smW w ∧ fld w' 82 41 ≤ fld w 82 41 + 1) ∨ (fld w' 82 42 = fld w 82 42 + 2 ∧ smW w' = smW w + ar pi_ ∧ fld w' 82 41 = fld w 82 41)))
  obtain ⟨f82_1, f82_3, f82_5, f82_7, f82_9, f82_11, f82_13, f82_15, f82_17, f82_19, f82_21, f82_22, f82_23, f82_25, f82_27, f82_29, h82_31, hb2, hb4, hb6, hb8, hb10, hb12, hb14, hb16, hb18, hb20, hb24, hb26, hb28, hb30, hb32⟩ := (hI 82 (by decide) (by decide) : cp82 (wget w 82))
  have hp42 : fld w 82 42 = f82_29 := fld_of h82_31
  have hp41 : fld w 82 41 = f82_27 := fld_of h82_31
  obtain ⟨ho1, ho2, ho3⟩ := id hok
  have hap := ar_pos pi_
  have hge := smW_ge w
  obtain ⟨g83_33, h83_34, hb35, hx36⟩ := (hI 83 (by decide) (by decide) : cpx83 (wget w 83))
  have h83_34 : xRow w 83 5360 50 g83_33 := h83_34
  obtain ⟨g106_37, h106_38, hb39⟩ := (hI 106 (by decide) (by decide) : cpI 14641 73 4294967295 (wget w 106))
  have h106_38 : xRow w 106 14641 73 g106_37 := h106_38
  refine xg_t (xg_blk (b := [(0, 1, 2, 1, 0, 0), (1, 2, 4, 11, 0, 0), (3, 1, 21, 0, 0, 0), (4, 1, 15, 2, 0, 0), (5, 1, 2, 1, 0, 0), (6, 2, 4, 11, 0, 0), (8, 1, 20, 0, 0, 0), (9, 2, 4, 11, 0, 0), (11, 1, 21, 0, 0, 0), (12, 1, 15, 3, 0, 0), (13, 1, 2, 1, 0, 0), (14, 2, 4, 121, 0, 0), (16, 1, 20, 0, 0, 0), (17, 2, 4, 11, 0, 0), (19, 1, 21, 0, 0, 0), (20, 2, 15, 4, 0, 0), (22, 1, 2, 1, 0, 0), (23, 3, 5, 1331, 0, 0), (26, 1, 20, 0, 0, 0), (27, 2, 15, 5, 0, 0), (29, 1, 0, 0, 0, 0), (30, 3, 1, 12, 37, 81), (33, 1, 2, 1, 0, 0), (34, 1, 10, 0, 0, 0), (35, 2, 15, 6, 0, 0), (37, 2, 2, 6, 0, 0), (39, 3, 7, 43, 1, 0), (42, 1, 12, 0, 0, 0)]) rfl) ?_
  refine xg_t (xg_iload (va := (0, pi_)) rfl rfl) ?_
  refine xg_t (xg_bip) ?_
  refine xg_t (xg_irem (u := pi_) (v := 11) (z := pi_ % 11) xnm0 xnm0 (by omega) (by decide) (by decide) (rfl)) ?_
  refine xg_t (xg_istore (l1 := [(0, (2, 82)), (1, (0, pi_))]) rfl rfl rfl) ?_
  refine xg_t (xg_iload (va := (0, pi_)) rfl rfl) ?_
  refine xg_t (xg_bip) ?_
  refine xg_t (xg_idiv (u := pi_) (v := 11) (z := pi_ / 11) xnm0 xnm0 (by omega) (by decide) (by decide) (rfl)) ?_
  refine xg_t (xg_bip) ?_
  refine xg_t (xg_irem (u := pi_ / 11) (v := 11) (z := (pi_ / 11) % 11) xnm0 xnm0 (by omega) (by decide) (by decide) (rfl)) ?_
  refine xg_t (xg_istore (l1 := [(2, (0, pi_ % 11)), (0, (2, 82)), (1, (0, pi_))]) rfl rfl rfl) ?_
  refine xg_t (xg_iload (va := (0, pi_)) rfl rfl) ?_
  refine xg_t (xg_bip) ?_
  refine xg_t (xg_idiv (u := pi_) (v := 121) (z := pi_ / 121) xnm0 xnm0 (by omega) (by decide) (by decide) (rfl)) ?_
  refine xg_t (xg_bip) ?_
  refine xg_t (xg_irem (u := pi_ / 121) (v := 11) (z := (pi_ / 121) % 11) xnm0 xnm0 (by omega) (by decide) (by decide) (rfl)) ?_
  refine xg_t (xg_istore (l1 := [(3, (0, (pi_ / 11) % 11)), (2, (0, pi_ % 11)), (0, (2, 82)), (1, (0, pi_))]) rfl rfl rfl) ?_
  refine xg_t (xg_iload (va := (0, pi_)) rfl rfl) ?_
  refine xg_t (xg_sip) ?_
  refine xg_t (xg_idiv (u := pi_) (v := 1331) (z := pi_ / 1331) xnm0 xnm0 (by omega) (by decide) (by decide) (rfl)) ?_
  refine xg_t (xg_istore (l1 := [(4, (0, (pi_ / 121) % 11)), (3, (0, (pi_ / 11) % 11)), (2, (0, pi_ % 11)), (0, (2, 82)), (1, (0, pi_))]) rfl rfl rfl) ?_
  have hb1 : pi_ / 1331 ≤ 10 := by omega
  have hb2 : pi_ / 121 % 11 ≤ 10 := by omega
  have hb3 : pi_ / 11 % 11 ≤ 10 := by omega
  have hb4 : pi_ % 11 ≤ 10 := by omega
  have har : ar pi_ = mx1 (pi_ % 11) * mx1 (pi_ / 11 % 11) := rfl
  generalize pi_ / 1331 = xx at ho2 hb1 ⊢
  generalize pi_ / 121 % 11 = yy at ho3 hb2 ⊢
  generalize pi_ / 11 % 11 = wi at ho2 hb3 har ⊢
  generalize pi_ % 11 = hi at ho3 hb4 har ⊢
  refine xg_t (xg_aload (va := (2, 82)) rfl rfl) ?_
  refine xg_t (xg_getf (va := (2, 106)) h82_31 rfl) ?_
  refine xg_t (xg_iload (va := (0, pi_)) rfl rfl) ?_
  refine xg_ialdB (n := pi_) (B := 4294967295) h106_38 (hb39) xnm0 (by omega) (fun u40 hu41 he42 => ?_)
  refine xg_t (xg_istore (l1 := [(5, (0, xx)), (4, (0, yy)), (3, (0, wi)), (2, (0, hi)), (0, (2, 82)), (1, (0, pi_))]) rfl rfl rfl) ?_
  refine xg_t (xg_iload (va := (0, u40)) rfl rfl) ?_
  by_cases hc43 : u40 = 0
  · refine xg_t (xg_ifF (u := u40) rfl xnm0 (xj_neF hc43)) ?_
    exact xg_e ⟨w, ⟨rfl, rfl⟩, hI, xFr.rf, Or.inl ⟨rfl, rfl, by omega⟩⟩
  · refine xg_t (xg_ifT (u := u40) rfl xnm0 (xj_neT hc43)) ?_
    refine xg_t (xg_blk (b := [(43, 1, 0, 0, 0, 0), (44, 2, 2, 5, 0, 0), (46, 2, 2, 4, 0, 0), (48, 1, 2, 3, 0, 0), (49, 1, 2, 2, 0, 0), (50, 3, 13, 203, 96, 348), (53, 2, 15, 7, 0, 0), (55, 2, 2, 7, 0, 0), (57, 3, 7, 133, 2, 0), (60, 1, 0, 0, 0, 0), (61, 3, 1, 12, 0, 7), (64, 2, 4, 80, 0, 0), (66, 1, 3, 3, 0, 0), (67, 2, 2, 7, 0, 0), (69, 1, 16, 0, 0, 0), (70, 1, 11, 0, 0, 0), (71, 1, 3, 2, 0, 0), (72, 1, 11, 0, 0, 0), (73, 1, 10, 0, 0, 0), (74, 2, 2, 6, 0, 0), (76, 3, 6, 133, 1, 0), (79, 1, 0, 0, 0, 0), (80, 3, 1, 12, 40, 90), (83, 1, 3, 3, 0, 0), (84, 1, 0, 0, 0, 0), (85, 3, 1, 12, 41, 364), (88, 1, 16, 0, 0, 0), (89, 2, 2, 7, 0, 0), (91, 1, 17, 0, 0, 0), (92, 1, 0, 0, 0, 0), (93, 3, 1, 12, 40, 90), (96, 1, 3, 3, 0, 0), (97, 1, 0, 0, 0, 0), (98, 3, 1, 12, 41, 364), (101, 1, 16, 0, 0, 0), (102, 1, 3, 1, 0, 0), (103, 1, 11, 0, 0, 0), (104, 2, 2, 5, 0, 0), (106, 1, 17, 0, 0, 0), (107, 1, 0, 0, 0, 0), (108, 3, 1, 12, 40, 90), (111, 1, 3, 3, 0, 0), (112, 1, 0, 0, 0, 0), (113, 3, 1, 12, 41, 364), (116, 1, 16, 0, 0, 0), (117, 1, 3, 2, 0, 0), (118, 1, 11, 0, 0, 0), (119, 2, 2, 4, 0, 0), (121, 1, 17, 0, 0, 0), (122, 1, 0, 0, 0, 0), (123, 1, 19, 0, 0, 0), (124, 3, 1, 12, 41, 364), (127, 1, 3, 1, 0, 0), (128, 1, 11, 0, 0, 0), (129, 3, 14, 12, 41, 364), (132, 1, 12, 0, 0, 0)]) rfl) ?_
    refine xg_t (xg_aload (va := (2, 82)) rfl rfl) ?_
    refine xg_t (xg_iload (va := (0, xx)) rfl rfl) ?_
    refine xg_t (xg_iload (va := (0, yy)) rfl rfl) ?_
    refine xg_t (xg_iload (va := (0, wi)) rfl rfl) ?_
    refine xg_t (xg_iload (va := (0, hi)) rfl rfl) ?_
    refine xg_cVi mX12_panelOf (vs := [(0, xx), (0, yy), (0, wi), (0, hi)]) (rest := []) (cn1 := 0) (sl1 := 0) rfl (mPanelOf (hI) (by omega) (by omega) (by omega) (by omega)) rfl h82_31 rfl rfl rfl rfl rfl rfl (fun n48 w44 hq45 => ?_)
    obtain ⟨hn49, hI46, hF47⟩ := hq45
    refine xg_t (xg_istore (l1 := [(6, (0, u40)), (5, (0, xx)), (4, (0, yy)), (3, (0, wi)), (2, (0, hi)), (0, (2, 82)), (1, (0, pi_))]) rfl rfl rfl) ?_
    refine xg_t (xg_iload (va := (0, n48)) rfl rfl) ?_
    by_cases hc50 : n48 < 2147483648
    · have hn51 : n48 ≤ 3 := by omega
      refine xg_t (xg_ifF (u := n48) rfl xnm0 (xjz_ltF hc50)) ?_
      refine xg_t (xg_aload (va := (2, 82)) rfl rfl) ?_
      refine xg_t (xg_getf (va := (2, 83)) (hF47.get (by decide) h82_31) rfl) ?_
      refine xg_t (xg_bip) ?_
      refine xg_t (xg_const) ?_
      refine xg_t (xg_iload (va := (0, n48)) rfl rfl) ?_
      refine xg_t (xg_imul (u := 3) (v := n48) (z := 3 * n48) xnm0 xnm0 (by omega)) ?_
      refine xg_t (xg_iadd (u := 80) (v := 3 * n48) (z := 80 + (3 * n48)) xnm0 xnm0 (by omega)) ?_
      refine xg_t (xg_const) ?_
      refine xg_t (xg_iadd (u := 80 + (3 * n48)) (v := 2) (z := (80 + (3 * n48)) + 2) xnm0 xnm0 (by omega)) ?_
      refine xg_ialdB (n := (80 + (3 * n48)) + 2) (B := 4294967295) (h83_34.fr hF47 (by decide)) (hb35) xnm0 (by omega) (fun u52 hu53 he54 => ?_)
      refine xg_t (xg_iload (va := (0, u40)) rfl rfl) ?_
      by_cases hc55 : u52 = u40
      · refine xg_t (xg_icF (u := u52) (v := u40) rfl xnm0 xnm0 (xj_neF hc55)) ?_
        refine xg_t (xg_aload (va := (2, 82)) rfl rfl) ?_
        refine xg_t (xg_getf (va := (2, 109)) (hF47.get (by decide) h82_31) rfl) ?_
        refine xg_t (xg_const) ?_
        refine xg_t (xg_aload (va := (2, 82)) rfl rfl) ?_
        refine xg_t (xg_getf (va := (0, f82_27)) (hF47.get (by decide) h82_31) rfl) ?_
        refine xg_t (xg_imul (u := 3) (v := f82_27) (z := 3 * f82_27) xnm0 xnm0 (by omega)) ?_
        refine xg_t (xg_iload (va := (0, n48)) rfl rfl) ?_
        obtain ⟨g109_56, h109_57, hb58⟩ := (hI46 109 (by decide) (by decide) : cpI 300 76 4294967295 (wget w44 109))
        have h109_57 : xRow w44 109 300 76 g109_56 := h109_57
        refine xg_iastK (n := 3 * f82_27) (u := n48) h109_57 xnm0 xnm0 rfl (by omega) (fun w59 hr60 hb61 => ?_)
        refine xg_t (xg_aload (va := (2, 82)) rfl rfl) ?_
        refine xg_t (xg_getf (va := (2, 109)) (hb61.get (by decide) (hF47.get (by decide) h82_31)) rfl) ?_
        refine xg_t (xg_const) ?_
        refine xg_t (xg_aload (va := (2, 82)) rfl rfl) ?_
        refine xg_t (xg_getf (va := (0, f82_27)) (hb61.get (by decide) (hF47.get (by decide) h82_31)) rfl) ?_
        refine xg_t (xg_imul (u := 3) (v := f82_27) (z := 3 * f82_27) xnm0 xnm0 (by omega)) ?_
        refine xg_t (xg_const) ?_
        refine xg_t (xg_iadd (u := 3 * f82_27) (v := 1) (z := (3 * f82_27) + 1) xnm0 xnm0 (by omega)) ?_
        refine xg_t (xg_iload (va := (0, xx)) rfl rfl) ?_
        refine xg_iastK (n := (3 * f82_27) + 1) (u := xx) hr60 xnm0 xnm0 rfl (by omega) (fun w62 hr63 hb64 => ?_)
        refine xg_t (xg_aload (va := (2, 82)) rfl rfl) ?_
        refine xg_t (xg_getf (va := (2, 109)) (hb64.get (by decide) (hb61.get (by decide) (hF47.get (by decide) h82_31))) rfl) ?_
        refine xg_t (xg_const) ?_
        refine xg_t (xg_aload (va := (2, 82)) rfl rfl) ?_
        refine xg_t (xg_getf (va := (0, f82_27)) (hb64.get (by decide) (hb61.get (by decide) (hF47.get (by decide) h82_31))) rfl) ?_
        refine xg_t (xg_imul (u := 3) (v := f82_27) (z := 3 * f82_27) xnm0 xnm0 (by omega)) ?_
        refine xg_t (xg_const) ?_
        refine xg_t (xg_iadd (u := 3 * f82_27) (v := 2) (z := (3 * f82_27) + 2) xnm0 xnm0 (by omega)) ?_
        refine xg_t (xg_iload (va := (0, yy)) rfl rfl) ?_
        refine xg_iastK (n := (3 * f82_27) + 2) (u := yy) hr63 xnm0 xnm0 rfl (by omega) (fun w65 hr66 hb67 => ?_)
        refine xg_t (xg_aload (va := (2, 82)) rfl rfl) ?_
        refine xg_t (xg_dup rfl) ?_
        refine xg_t (xg_getf (va := (0, f82_27)) (hb67.get (by decide) (hb64.get (by decide) (hb61.get (by decide) (hF47.get (by decide) h82_31)))) rfl) ?_
        refine xg_t (xg_const) ?_
        refine xg_t (xg_iadd (u := f82_27) (v := 1) (z := f82_27 + 1) xnm0 xnm0 (by omega)) ?_
        refine xg_putI (fl1 := [(2, 83), (2, 84), (0, f82_1), (0, f82_3), (0, f82_5), (0, f82_7), (0, f82_9), (0, f82_11), (0, f82_13), (0, f82_15), (0, f82_17), (2, 85), (2, 86), (2, 87), (0, f82_19), (2, 88), (2, 89), (2, 90), (2, 91), (2, 92), (2, 93), (2, 94), (4, f82_21), (4, f82_22), (0, f82_23), (2, 95), (2, 96), (2, 97), (2, 98), (2, 99), (2, 100), (2, 101), (2, 102), (0, f82_25), (2, 103), (2, 104), (2, 105), (2, 106), (2, 107), (2, 108), (2, 109), (0, f82_27 + 1), (0, f82_29), (2, 110), (2, 111), (2, 112), (2, 113)]) (hb67.get (by decide) (hb64.get (by decide) (hb61.get (by decide) (hF47.get (by decide) h82_31)))) rfl rfl rfl (fun w68 hk69 hb70 => ?_)
        have hz71 : fld w68 82 42 = fld w 82 42 := (fld_of hk69).trans hp42.symm
        have hz72 : fld w68 82 41 = fld w 82 41 + 1 := by rw [hp41]; exact fld_of hk69
        have hz73 : smW w68 = smW w := by
          unfold smW rwv
          rw [hz71, ((hb70.1 108 (by decide)).trans ((hb67.1 108 (by decide)).trans ((hb64.1 108 (by decide)).trans ((hb61.1 108 (by decide)).trans (hF47.1 108 (by decide))))))]
        exact xg_e ⟨w68, ⟨rfl, rfl⟩, xMnv.up (S := [109, 82]) hI46 ((((xFr.of (S := [109, 82]) hb61 (by decide)).tr (xFr.of (S := [109, 82]) hb64 (by decide))).tr (xFr.of (S := [109, 82]) hb67 (by decide))).tr (xFr.of (S := [109, 82]) hb70 (by decide))) (List.forall_mem_cons.mpr ⟨(show cpI 300 76 4294967295 (wget w68 109) from ⟨_, (hr66.but hb70 (by decide)), xrb (by omega) (xrb (by omega) (xrb (by omega) (hb58)))⟩), List.forall_mem_cons.mpr ⟨(show cp82 (wget w68 82) from ⟨f82_1, f82_3, f82_5, f82_7, f82_9, f82_11, f82_13, f82_15, f82_17, f82_19, f82_21, f82_22, f82_23, f82_25, f82_27 + 1, f82_29, hk69, by omega, by omega, by omega, by omega, by omega, by omega, by omega, by omega, by omega, by omega, by omega, by omega, by omega, by omega, by omega⟩), fun _ h => absurd h List.not_mem_nil⟩⟩), ((hF47.up (by decide)).tr ((((xFr.of (S := [82, 108, 109]) hb61 (by decide)).tr (xFr.of (S := [82, 108, 109]) hb64 (by decide))).tr (xFr.of (S := [82, 108, 109]) hb67 (by decide))).tr (xFr.of (S := [82, 108, 109]) hb70 (by decide)))), Or.inl ⟨hz71, hz73, by omega⟩⟩
      · refine xg_t (xg_icT (u := u52) (v := u40) rfl xnm0 xnm0 (xj_neT hc55)) ?_
        refine xg_t (xg_blk (b := [(133, 1, 3, 1, 0, 0), (134, 2, 15, 8, 0, 0)]) rfl) ?_
        refine xg_t (xg_const) ?_
        refine xg_t (xg_istore (l1 := [(7, (0, n48)), (6, (0, u40)), (5, (0, xx)), (4, (0, yy)), (3, (0, wi)), (2, (0, hi)), (0, (2, 82)), (1, (0, pi_))]) rfl rfl rfl) ?_
        refine xg_t (xg_drop (l1 := [(0, (2, 82)), (1, (0, pi_)), (2, (0, hi)), (3, (0, wi)), (4, (0, yy)), (5, (0, xx)), (6, (0, u40)), (7, (0, n48)), (8, (0, 1))]) (List.forall_mem_cons.mpr ⟨List.mem_cons_of_mem _ (List.mem_cons_of_mem _ (List.mem_cons_of_mem _ (List.mem_cons_of_mem _ (List.mem_cons_of_mem _ (List.mem_cons_of_mem _ (List.mem_cons_of_mem _ (List.mem_cons_self))))))), List.forall_mem_cons.mpr ⟨List.mem_cons_of_mem _ (List.mem_cons_of_mem _ (List.mem_cons_of_mem _ (List.mem_cons_of_mem _ (List.mem_cons_of_mem _ (List.mem_cons_of_mem _ (List.mem_cons_of_mem _ (List.mem_cons_of_mem _ (List.mem_cons_self)))))))), List.forall_mem_cons.mpr ⟨List.mem_cons_of_mem _ (List.mem_cons_of_mem _ (List.mem_cons_of_mem _ (List.mem_cons_of_mem _ (List.mem_cons_of_mem _ (List.mem_cons_of_mem _ (List.mem_cons_self)))))), List.forall_mem_cons.mpr ⟨List.mem_cons_of_mem _ (List.mem_cons_of_mem _ (List.mem_cons_of_mem _ (List.mem_cons_of_mem _ (List.mem_cons_of_mem _ (List.mem_cons_self))))), List.forall_mem_cons.mpr ⟨List.mem_cons_of_mem _ (List.mem_cons_of_mem _ (List.mem_cons_of_mem _ (List.mem_cons_of_mem _ (List.mem_cons_self)))), List.forall_mem_cons.mpr ⟨List.mem_cons_of_mem _ (List.mem_cons_of_mem _ (List.mem_cons_of_mem _ (List.mem_cons_self))), List.forall_mem_cons.mpr ⟨List.mem_cons_of_mem _ (List.mem_cons_of_mem _ (List.mem_cons_self)), List.forall_mem_cons.mpr ⟨List.mem_cons_of_mem _ (List.mem_cons_self), List.forall_mem_cons.mpr ⟨List.mem_cons_self, fun _ h => absurd h List.not_mem_nil⟩⟩⟩⟩⟩⟩⟩⟩⟩)) ?_
        have key74 : ∀ (m76 : Nat) (ci : Nat) (w77 : List (List xE)), 10 - ci < m76 → ci ≤ 10 → xMnv w77 → xFr [82, 108, 109] w w77 → 1 ≤ ci → xTo (d + 2) mX12_plansOne (136, [], [(0, (2, 82)), (1, (0, pi_)), (2, (0, hi)), (3, (0, wi)), (4, (0, yy)), (5, (0, xx)), (6, (0, u40)), (7, (0, n48)), (8, (0, ci))], [], (w77, bd, fc, 0, 0, rr)) (fun φ => ∃ w', xEnd 0 [] (w', bd, fc, 0, 0, rr) φ ∧ xMnv w' ∧ xFr [82, 108, 109] w w' ∧ ((fld w' 82 42 = fld w 82 42 ∧ smW w' = smW w ∧ fld w' 82 41 ≤ fld w 82 41 + 1) ∨ (fld w' 82 42 = fld w 82 42 + 2 ∧ smW w' = smW w + ar pi_ ∧ fld w' 82 41 = fld w 82 41))) := by
          intro m76
          induction m76 with
          | zero => intro ci w77 hz; exact absurd hz (Nat.not_lt_zero _)
          | succ m76 ih75 =>
            intro ci w77 hm82 hn80 hI78 hF79 he81
            refine xg_t (xg_blk (b := [(136, 2, 2, 8, 0, 0), (138, 1, 2, 3, 0, 0), (139, 3, 6, 220, 3, 0), (142, 1, 0, 0, 0, 0), (143, 3, 1, 12, 37, 81), (146, 2, 2, 5, 0, 0), (148, 2, 2, 4, 0, 0), (150, 2, 2, 8, 0, 0), (152, 1, 2, 2, 0, 0), (153, 3, 13, 118, 98, 344), (156, 1, 10, 0, 0, 0), (157, 1, 0, 0, 0, 0), (158, 3, 1, 12, 37, 81), (161, 2, 2, 5, 0, 0), (163, 2, 2, 8, 0, 0), (165, 1, 11, 0, 0, 0), (166, 2, 2, 4, 0, 0), (168, 1, 2, 3, 0, 0), (169, 2, 2, 8, 0, 0), (171, 1, 18, 0, 0, 0), (172, 1, 2, 2, 0, 0), (173, 3, 13, 118, 98, 344), (176, 1, 10, 0, 0, 0), (177, 1, 11, 0, 0, 0), (178, 2, 2, 6, 0, 0), (180, 3, 6, 186, 0, 0), (183, 3, 8, 214, 0, 0)]) rfl) ?_
            refine xg_t (xg_iload (va := (0, ci)) rfl rfl) ?_
            refine xg_t (xg_iload (va := (0, wi)) rfl rfl) ?_
            by_cases hc83 : ci < wi
            · refine xg_t (xg_icF (u := ci) (v := wi) rfl xnm0 xnm0 (xj_geF hc83 (by omega))) ?_
              refine xg_t (xg_aload (va := (2, 82)) rfl rfl) ?_
              obtain ⟨f82_84, f82_86, f82_88, f82_90, f82_92, f82_94, f82_96, f82_98, f82_100, f82_102, f82_104, f82_105, f82_106, f82_108, f82_110, f82_112, h82_114, hb85, hb87, hb89, hb91, hb93, hb95, hb97, hb99, hb101, hb103, hb107, hb109, hb111, hb113, hb115⟩ := (hI78 82 (by decide) (by decide) : cp82 (wget w77 82))
              refine xg_t (xg_getf (va := (2, 106)) h82_114 rfl) ?_
              refine xg_t (xg_iload (va := (0, xx)) rfl rfl) ?_
              refine xg_t (xg_iload (va := (0, yy)) rfl rfl) ?_
              refine xg_t (xg_iload (va := (0, ci)) rfl rfl) ?_
              refine xg_t (xg_iload (va := (0, hi)) rfl rfl) ?_
              refine xg_cSi mX12_at (vs := [(0, xx), (0, yy), (0, ci), (0, hi)]) (rest := [(2, 106)]) (cn1 := 0) (sl1 := 0) rfl (mAt (hI78) (by omega) (by omega) (by omega) (by omega)) rfl rfl rfl rfl rfl rfl rfl (fun n120 w116 hq117 => ?_)
              obtain ⟨hn121, hI118, hF119⟩ := hq117
              have hl122 : n120 ≤ 14640 := by omega
              refine xg_ialdB (n := n120) (B := 4294967295) ((h106_38.fr hF79 (by decide)).fr hF119 (by decide)) (hb39) xnm0 (by omega) (fun u123 hu124 he125 => ?_)
              refine xg_t (xg_aload (va := (2, 82)) rfl rfl) ?_
              refine xg_t (xg_getf (va := (2, 106)) (hF119.get (by decide) h82_114) rfl) ?_
              refine xg_t (xg_iload (va := (0, xx)) rfl rfl) ?_
              refine xg_t (xg_iload (va := (0, ci)) rfl rfl) ?_
              refine xg_t (xg_iadd (u := xx) (v := ci) (z := xx + ci) xnm0 xnm0 (by omega)) ?_
              refine xg_t (xg_iload (va := (0, yy)) rfl rfl) ?_
              refine xg_t (xg_iload (va := (0, wi)) rfl rfl) ?_
              refine xg_t (xg_iload (va := (0, ci)) rfl rfl) ?_
              refine xg_t (xg_isub (u := wi) (v := ci) (z := wi - ci) xnm0 xnm0 (by omega)) ?_
              refine xg_t (xg_iload (va := (0, hi)) rfl rfl) ?_
              refine xg_cSi mX12_at (vs := [(0, xx + ci), (0, yy), (0, wi - ci), (0, hi)]) (rest := [(2, 106), (0, u123)]) (cn1 := 0) (sl1 := 0) rfl (mAt (hI118) (by omega) (by omega) (by omega) (by omega)) rfl rfl rfl rfl rfl rfl rfl (fun n130 w126 hq127 => ?_)
              obtain ⟨hn131, hI128, hF129⟩ := hq127
              have hl132 : n130 ≤ 14640 := by omega
              refine xg_ialdB (n := n130) (B := 4294967295) (((h106_38.fr hF79 (by decide)).fr hF119 (by decide)).fr hF129 (by decide)) (hb39) xnm0 (by omega) (fun u133 hu134 he135 => ?_)
              refine xg_k (xg_iadd (u := u123) (v := u133) (z := (u123 + u133) % 4294967296) xnm0 xnm0 rfl) (Nat.mod_lt _ (by decide)) (fun z136 hz137 => ?_)
              refine xg_t (xg_iload (va := (0, u40)) rfl rfl) ?_
              by_cases hc138 : z136 = u40
              · refine xg_t (xg_icT (u := z136) (v := u40) rfl xnm0 xnm0 (xj_eqT hc138)) ?_
                refine xg_t (xg_blk (b := [(186, 1, 0, 0, 0, 0), (187, 2, 2, 5, 0, 0), (189, 2, 2, 8, 0, 0), (191, 1, 11, 0, 0, 0), (192, 2, 2, 4, 0, 0), (194, 1, 2, 3, 0, 0), (195, 2, 2, 8, 0, 0), (197, 1, 18, 0, 0, 0), (198, 1, 2, 2, 0, 0), (199, 3, 13, 182, 96, 367), (202, 1, 0, 0, 0, 0), (203, 2, 2, 5, 0, 0), (205, 2, 2, 4, 0, 0), (207, 2, 2, 8, 0, 0), (209, 1, 2, 2, 0, 0), (210, 3, 13, 182, 96, 367), (213, 1, 12, 0, 0, 0)]) rfl) ?_
                refine xg_t (xg_aload (va := (2, 82)) rfl rfl) ?_
                refine xg_t (xg_iload (va := (0, xx)) rfl rfl) ?_
                refine xg_t (xg_iload (va := (0, ci)) rfl rfl) ?_
                refine xg_t (xg_iadd (u := xx) (v := ci) (z := xx + ci) xnm0 xnm0 (by omega)) ?_
                refine xg_t (xg_iload (va := (0, yy)) rfl rfl) ?_
                refine xg_t (xg_iload (va := (0, wi)) rfl rfl) ?_
                refine xg_t (xg_iload (va := (0, ci)) rfl rfl) ?_
                refine xg_t (xg_isub (u := wi) (v := ci) (z := wi - ci) xnm0 xnm0 (by omega)) ?_
                refine xg_t (xg_iload (va := (0, hi)) rfl rfl) ?_
                refine xg_cVv mX12_lays (vs := [(0, xx + ci), (0, yy), (0, wi - ci), (0, hi)]) (rest := []) (cn1 := 0) (sl1 := 0) rfl (mLays (hI128) (by omega) (by omega) (by omega) (by omega) (by omega) (by omega) (by omega)) rfl (hF129.get (by decide) (hF119.get (by decide) h82_114)) rfl rfl rfl rfl rfl rfl (fun w139 hq140 => ?_)
                obtain ⟨hI141, hF142, hx143⟩ := hq140
                obtain ⟨hy144, hy145, hy146⟩ := hx143
                refine xg_t (xg_aload (va := (2, 82)) rfl rfl) ?_
                refine xg_t (xg_iload (va := (0, xx)) rfl rfl) ?_
                refine xg_t (xg_iload (va := (0, yy)) rfl rfl) ?_
                refine xg_t (xg_iload (va := (0, ci)) rfl rfl) ?_
                refine xg_t (xg_iload (va := (0, hi)) rfl rfl) ?_
                obtain ⟨f82_147, f82_149, f82_151, f82_153, f82_155, f82_157, f82_159, f82_161, f82_163, f82_165, f82_167, f82_168, f82_169, f82_171, f82_173, f82_175, h82_177, hb148, hb150, hb152, hb154, hb156, hb158, hb160, hb162, hb164, hb166, hb170, hb172, hb174, hb176, hb178⟩ := (hI141 82 (by decide) (by decide) : cp82 (wget w139 82))
                refine xg_cVv mX12_lays (vs := [(0, xx), (0, yy), (0, ci), (0, hi)]) (rest := []) (cn1 := 0) (sl1 := 0) rfl (mLays (hI141) (by omega) (by omega) (by omega) (by omega) (by omega) (by omega) (by omega)) rfl h82_177 rfl rfl rfl rfl rfl rfl (fun w179 hq180 => ?_)
                obtain ⟨hI181, hF182, hx183⟩ := hq180
                obtain ⟨hy184, hy185, hy186⟩ := hx183
                have hz187 : ar ((((xx + ci) * 11 + yy) * 11 + (wi - ci)) * 11 + hi) + ar (((xx * 11 + yy) * 11 + ci) * 11 + hi) = ar pi_ := (ar_cutW (by omega) (by omega) (by omega) (by omega)).trans har.symm
                exact xg_e ⟨w179, ⟨rfl, rfl⟩, hI181, ((((hF79.tr (hF119.up (by decide))).tr (hF129.up (by decide))).tr (hF142.up (by decide))).tr (hF182.up (by decide))), Or.inr ⟨by omega, by omega, by omega⟩⟩
              · refine xg_t (xg_icF (u := z136) (v := u40) rfl xnm0 xnm0 (xj_eqF hc138)) ?_
                refine xg_t (xg_goto) ?_
                refine xg_t (xg_blk (b := [(214, 3, 9, 8, 1, 0), (217, 3, 8, 136, 0, 0)]) rfl) ?_
                refine xg_t (xg_iinc (u := ci) (z := ci + 1) (l1 := [(0, (2, 82)), (1, (0, pi_)), (2, (0, hi)), (3, (0, wi)), (4, (0, yy)), (5, (0, xx)), (6, (0, u40)), (7, (0, n48))]) rfl rfl (by omega) rfl) ?_
                refine xg_t (xg_goto) ?_
                refine xg_t (xg_drop (l1 := [(0, (2, 82)), (1, (0, pi_)), (2, (0, hi)), (3, (0, wi)), (4, (0, yy)), (5, (0, xx)), (6, (0, u40)), (7, (0, n48)), (8, (0, ci + 1))]) (List.forall_mem_cons.mpr ⟨List.mem_cons_of_mem _ (List.mem_cons_self), List.forall_mem_cons.mpr ⟨List.mem_cons_of_mem _ (List.mem_cons_of_mem _ (List.mem_cons_self)), List.forall_mem_cons.mpr ⟨List.mem_cons_of_mem _ (List.mem_cons_of_mem _ (List.mem_cons_of_mem _ (List.mem_cons_self))), List.forall_mem_cons.mpr ⟨List.mem_cons_of_mem _ (List.mem_cons_of_mem _ (List.mem_cons_of_mem _ (List.mem_cons_of_mem _ (List.mem_cons_self)))), List.forall_mem_cons.mpr ⟨List.mem_cons_of_mem _ (List.mem_cons_of_mem _ (List.mem_cons_of_mem _ (List.mem_cons_of_mem _ (List.mem_cons_of_mem _ (List.mem_cons_self))))), List.forall_mem_cons.mpr ⟨List.mem_cons_of_mem _ (List.mem_cons_of_mem _ (List.mem_cons_of_mem _ (List.mem_cons_of_mem _ (List.mem_cons_of_mem _ (List.mem_cons_of_mem _ (List.mem_cons_self)))))), List.forall_mem_cons.mpr ⟨List.mem_cons_of_mem _ (List.mem_cons_of_mem _ (List.mem_cons_of_mem _ (List.mem_cons_of_mem _ (List.mem_cons_of_mem _ (List.mem_cons_of_mem _ (List.mem_cons_of_mem _ (List.mem_cons_self))))))), List.forall_mem_cons.mpr ⟨List.mem_cons_of_mem _ (List.mem_cons_of_mem _ (List.mem_cons_of_mem _ (List.mem_cons_of_mem _ (List.mem_cons_of_mem _ (List.mem_cons_of_mem _ (List.mem_cons_of_mem _ (List.mem_cons_of_mem _ (List.mem_cons_self)))))))), List.forall_mem_cons.mpr ⟨List.mem_cons_self, fun _ h => absurd h List.not_mem_nil⟩⟩⟩⟩⟩⟩⟩⟩⟩)) ?_
                exact ih75 (ci + 1) w126 (by omega) (by omega) (hI128) (((hF79.tr (hF119.up (by decide))).tr (hF129.up (by decide)))) (by omega)
            · refine xg_t (xg_icT (u := ci) (v := wi) rfl xnm0 xnm0 (xj_geT (by omega) (by omega))) ?_
              refine xg_t (xg_blk (b := [(220, 1, 3, 1, 0, 0), (221, 2, 15, 8, 0, 0)]) rfl) ?_
              refine xg_t (xg_const) ?_
              refine xg_t (xg_istore (l1 := [(0, (2, 82)), (1, (0, pi_)), (2, (0, hi)), (3, (0, wi)), (4, (0, yy)), (5, (0, xx)), (6, (0, u40)), (7, (0, n48))]) rfl rfl rfl) ?_
              refine xg_t (xg_drop (l1 := [(0, (2, 82)), (1, (0, pi_)), (2, (0, hi)), (3, (0, wi)), (4, (0, yy)), (5, (0, xx)), (6, (0, u40)), (7, (0, n48)), (8, (0, 1))]) (List.forall_mem_cons.mpr ⟨List.mem_cons_of_mem _ (List.mem_cons_self), List.forall_mem_cons.mpr ⟨List.mem_cons_of_mem _ (List.mem_cons_of_mem _ (List.mem_cons_self)), List.forall_mem_cons.mpr ⟨List.mem_cons_of_mem _ (List.mem_cons_of_mem _ (List.mem_cons_of_mem _ (List.mem_cons_self))), List.forall_mem_cons.mpr ⟨List.mem_cons_of_mem _ (List.mem_cons_of_mem _ (List.mem_cons_of_mem _ (List.mem_cons_of_mem _ (List.mem_cons_self)))), List.forall_mem_cons.mpr ⟨List.mem_cons_of_mem _ (List.mem_cons_of_mem _ (List.mem_cons_of_mem _ (List.mem_cons_of_mem _ (List.mem_cons_of_mem _ (List.mem_cons_self))))), List.forall_mem_cons.mpr ⟨List.mem_cons_of_mem _ (List.mem_cons_of_mem _ (List.mem_cons_of_mem _ (List.mem_cons_of_mem _ (List.mem_cons_of_mem _ (List.mem_cons_of_mem _ (List.mem_cons_self)))))), List.forall_mem_cons.mpr ⟨List.mem_cons_of_mem _ (List.mem_cons_of_mem _ (List.mem_cons_of_mem _ (List.mem_cons_of_mem _ (List.mem_cons_of_mem _ (List.mem_cons_of_mem _ (List.mem_cons_of_mem _ (List.mem_cons_self))))))), List.forall_mem_cons.mpr ⟨List.mem_cons_of_mem _ (List.mem_cons_of_mem _ (List.mem_cons_of_mem _ (List.mem_cons_of_mem _ (List.mem_cons_of_mem _ (List.mem_cons_of_mem _ (List.mem_cons_of_mem _ (List.mem_cons_of_mem _ (List.mem_cons_self)))))))), List.forall_mem_cons.mpr ⟨List.mem_cons_self, fun _ h => absurd h List.not_mem_nil⟩⟩⟩⟩⟩⟩⟩⟩⟩)) ?_
              have key188 : ∀ (m190 : Nat) (cj : Nat) (w191 : List (List xE)), 10 - cj < m190 → cj ≤ 10 → xMnv w191 → xFr [82, 108, 109] w w191 → 1 ≤ cj → xTo (d + 2) mX12_plansOne (223, [], [(0, (2, 82)), (1, (0, pi_)), (2, (0, hi)), (3, (0, wi)), (4, (0, yy)), (5, (0, xx)), (6, (0, u40)), (7, (0, n48)), (8, (0, cj))], [], (w191, bd, fc, 0, 0, rr)) (fun φ => ∃ w', xEnd 0 [] (w', bd, fc, 0, 0, rr) φ ∧ xMnv w' ∧ xFr [82, 108, 109] w w' ∧ ((fld w' 82 42 = fld w 82 42 ∧ smW w' = smW w ∧ fld w' 82 41 ≤ fld w 82 41 + 1) ∨ (fld w' 82 42 = fld w 82 42 + 2 ∧ smW w' = smW w + ar pi_ ∧ fld w' 82 41 = fld w 82 41))) := by
                intro m190
                induction m190 with
                | zero => intro cj w191 hz; exact absurd hz (Nat.not_lt_zero _)
                | succ m190 ih189 =>
                  intro cj w191 hm196 hn194 hI192 hF193 he195
                  refine xg_t (xg_blk (b := [(223, 2, 2, 8, 0, 0), (225, 1, 2, 2, 0, 0), (226, 3, 6, 307, 3, 0), (229, 1, 0, 0, 0, 0), (230, 3, 1, 12, 37, 81), (233, 2, 2, 5, 0, 0), (235, 2, 2, 4, 0, 0), (237, 1, 2, 3, 0, 0), (238, 2, 2, 8, 0, 0), (240, 3, 13, 118, 98, 344), (243, 1, 10, 0, 0, 0), (244, 1, 0, 0, 0, 0), (245, 3, 1, 12, 37, 81), (248, 2, 2, 5, 0, 0), (250, 2, 2, 4, 0, 0), (252, 2, 2, 8, 0, 0), (254, 1, 11, 0, 0, 0), (255, 1, 2, 3, 0, 0), (256, 1, 2, 2, 0, 0), (257, 2, 2, 8, 0, 0), (259, 1, 18, 0, 0, 0), (260, 3, 13, 118, 98, 344), (263, 1, 10, 0, 0, 0), (264, 1, 11, 0, 0, 0), (265, 2, 2, 6, 0, 0), (267, 3, 6, 273, 0, 0), (270, 3, 8, 301, 0, 0)]) rfl) ?_
                  refine xg_t (xg_iload (va := (0, cj)) rfl rfl) ?_
                  refine xg_t (xg_iload (va := (0, hi)) rfl rfl) ?_
                  by_cases hc197 : cj < hi
                  · refine xg_t (xg_icF (u := cj) (v := hi) rfl xnm0 xnm0 (xj_geF hc197 (by omega))) ?_
                    refine xg_t (xg_aload (va := (2, 82)) rfl rfl) ?_
                    obtain ⟨f82_198, f82_200, f82_202, f82_204, f82_206, f82_208, f82_210, f82_212, f82_214, f82_216, f82_218, f82_219, f82_220, f82_222, f82_224, f82_226, h82_228, hb199, hb201, hb203, hb205, hb207, hb209, hb211, hb213, hb215, hb217, hb221, hb223, hb225, hb227, hb229⟩ := (hI192 82 (by decide) (by decide) : cp82 (wget w191 82))
                    refine xg_t (xg_getf (va := (2, 106)) h82_228 rfl) ?_
                    refine xg_t (xg_iload (va := (0, xx)) rfl rfl) ?_
                    refine xg_t (xg_iload (va := (0, yy)) rfl rfl) ?_
                    refine xg_t (xg_iload (va := (0, wi)) rfl rfl) ?_
                    refine xg_t (xg_iload (va := (0, cj)) rfl rfl) ?_
                    refine xg_cSi mX12_at (vs := [(0, xx), (0, yy), (0, wi), (0, cj)]) (rest := [(2, 106)]) (cn1 := 0) (sl1 := 0) rfl (mAt (hI192) (by omega) (by omega) (by omega) (by omega)) rfl rfl rfl rfl rfl rfl rfl (fun n234 w230 hq231 => ?_)
                    obtain ⟨hn235, hI232, hF233⟩ := hq231
                    have hl236 : n234 ≤ 14640 := by omega
                    refine xg_ialdB (n := n234) (B := 4294967295) ((h106_38.fr hF193 (by decide)).fr hF233 (by decide)) (hb39) xnm0 (by omega) (fun u237 hu238 he239 => ?_)
                    refine xg_t (xg_aload (va := (2, 82)) rfl rfl) ?_
                    refine xg_t (xg_getf (va := (2, 106)) (hF233.get (by decide) h82_228) rfl) ?_
                    refine xg_t (xg_iload (va := (0, xx)) rfl rfl) ?_
                    refine xg_t (xg_iload (va := (0, yy)) rfl rfl) ?_
                    refine xg_t (xg_iload (va := (0, cj)) rfl rfl) ?_
                    refine xg_t (xg_iadd (u := yy) (v := cj) (z := yy + cj) xnm0 xnm0 (by omega)) ?_
                    refine xg_t (xg_iload (va := (0, wi)) rfl rfl) ?_
                    refine xg_t (xg_iload (va := (0, hi)) rfl rfl) ?_
                    refine xg_t (xg_iload (va := (0, cj)) rfl rfl) ?_
                    refine xg_t (xg_isub (u := hi) (v := cj) (z := hi - cj) xnm0 xnm0 (by omega)) ?_
                    refine xg_cSi mX12_at (vs := [(0, xx), (0, yy + cj), (0, wi), (0, hi - cj)]) (rest := [(2, 106), (0, u237)]) (cn1 := 0) (sl1 := 0) rfl (mAt (hI232) (by omega) (by omega) (by omega) (by omega)) rfl rfl rfl rfl rfl rfl rfl (fun n244 w240 hq241 => ?_)
                    obtain ⟨hn245, hI242, hF243⟩ := hq241
                    have hl246 : n244 ≤ 14640 := by omega
                    refine xg_ialdB (n := n244) (B := 4294967295) (((h106_38.fr hF193 (by decide)).fr hF233 (by decide)).fr hF243 (by decide)) (hb39) xnm0 (by omega) (fun u247 hu248 he249 => ?_)
                    refine xg_k (xg_iadd (u := u237) (v := u247) (z := (u237 + u247) % 4294967296) xnm0 xnm0 rfl) (Nat.mod_lt _ (by decide)) (fun z250 hz251 => ?_)
                    refine xg_t (xg_iload (va := (0, u40)) rfl rfl) ?_
                    by_cases hc252 : z250 = u40
                    · refine xg_t (xg_icT (u := z250) (v := u40) rfl xnm0 xnm0 (xj_eqT hc252)) ?_
                      refine xg_t (xg_blk (b := [(273, 1, 0, 0, 0, 0), (274, 2, 2, 5, 0, 0), (276, 2, 2, 4, 0, 0), (278, 2, 2, 8, 0, 0), (280, 1, 11, 0, 0, 0), (281, 1, 2, 3, 0, 0), (282, 1, 2, 2, 0, 0), (283, 2, 2, 8, 0, 0), (285, 1, 18, 0, 0, 0), (286, 3, 13, 182, 96, 367), (289, 1, 0, 0, 0, 0), (290, 2, 2, 5, 0, 0), (292, 2, 2, 4, 0, 0), (294, 1, 2, 3, 0, 0), (295, 2, 2, 8, 0, 0), (297, 3, 13, 182, 96, 367), (300, 1, 12, 0, 0, 0)]) rfl) ?_
                      refine xg_t (xg_aload (va := (2, 82)) rfl rfl) ?_
                      refine xg_t (xg_iload (va := (0, xx)) rfl rfl) ?_
                      refine xg_t (xg_iload (va := (0, yy)) rfl rfl) ?_
                      refine xg_t (xg_iload (va := (0, cj)) rfl rfl) ?_
                      refine xg_t (xg_iadd (u := yy) (v := cj) (z := yy + cj) xnm0 xnm0 (by omega)) ?_
                      refine xg_t (xg_iload (va := (0, wi)) rfl rfl) ?_
                      refine xg_t (xg_iload (va := (0, hi)) rfl rfl) ?_
                      refine xg_t (xg_iload (va := (0, cj)) rfl rfl) ?_
                      refine xg_t (xg_isub (u := hi) (v := cj) (z := hi - cj) xnm0 xnm0 (by omega)) ?_
                      refine xg_cVv mX12_lays (vs := [(0, xx), (0, yy + cj), (0, wi), (0, hi - cj)]) (rest := []) (cn1 := 0) (sl1 := 0) rfl (mLays (hI242) (by omega) (by omega) (by omega) (by omega) (by omega) (by omega) (by omega)) rfl (hF243.get (by decide) (hF233.get (by decide) h82_228)) rfl rfl rfl rfl rfl rfl (fun w253 hq254 => ?_)
                      obtain ⟨hI255, hF256, hx257⟩ := hq254
                      obtain ⟨hy258, hy259, hy260⟩ := hx257
                      refine xg_t (xg_aload (va := (2, 82)) rfl rfl) ?_
                      refine xg_t (xg_iload (va := (0, xx)) rfl rfl) ?_
                      refine xg_t (xg_iload (va := (0, yy)) rfl rfl) ?_
                      refine xg_t (xg_iload (va := (0, wi)) rfl rfl) ?_
                      refine xg_t (xg_iload (va := (0, cj)) rfl rfl) ?_
                      obtain ⟨f82_261, f82_263, f82_265, f82_267, f82_269, f82_271, f82_273, f82_275, f82_277, f82_279, f82_281, f82_282, f82_283, f82_285, f82_287, f82_289, h82_291, hb262, hb264, hb266, hb268, hb270, hb272, hb274, hb276, hb278, hb280, hb284, hb286, hb288, hb290, hb292⟩ := (hI255 82 (by decide) (by decide) : cp82 (wget w253 82))
                      refine xg_cVv mX12_lays (vs := [(0, xx), (0, yy), (0, wi), (0, cj)]) (rest := []) (cn1 := 0) (sl1 := 0) rfl (mLays (hI255) (by omega) (by omega) (by omega) (by omega) (by omega) (by omega) (by omega)) rfl h82_291 rfl rfl rfl rfl rfl rfl (fun w293 hq294 => ?_)
                      obtain ⟨hI295, hF296, hx297⟩ := hq294
                      obtain ⟨hy298, hy299, hy300⟩ := hx297
                      have hz301 : ar (((xx * 11 + (yy + cj)) * 11 + wi) * 11 + (hi - cj)) + ar (((xx * 11 + yy) * 11 + wi) * 11 + cj) = ar pi_ := (ar_cutH (by omega) (by omega) (by omega) (by omega)).trans har.symm
                      exact xg_e ⟨w293, ⟨rfl, rfl⟩, hI295, ((((hF193.tr (hF233.up (by decide))).tr (hF243.up (by decide))).tr (hF256.up (by decide))).tr (hF296.up (by decide))), Or.inr ⟨by omega, by omega, by omega⟩⟩
                    · refine xg_t (xg_icF (u := z250) (v := u40) rfl xnm0 xnm0 (xj_eqF hc252)) ?_
                      refine xg_t (xg_goto) ?_
                      refine xg_t (xg_blk (b := [(301, 3, 9, 8, 1, 0), (304, 3, 8, 223, 0, 0)]) rfl) ?_
                      refine xg_t (xg_iinc (u := cj) (z := cj + 1) (l1 := [(0, (2, 82)), (1, (0, pi_)), (2, (0, hi)), (3, (0, wi)), (4, (0, yy)), (5, (0, xx)), (6, (0, u40)), (7, (0, n48))]) rfl rfl (by omega) rfl) ?_
                      refine xg_t (xg_goto) ?_
                      refine xg_t (xg_drop (l1 := [(0, (2, 82)), (1, (0, pi_)), (2, (0, hi)), (3, (0, wi)), (4, (0, yy)), (5, (0, xx)), (6, (0, u40)), (7, (0, n48)), (8, (0, cj + 1))]) (List.forall_mem_cons.mpr ⟨List.mem_cons_of_mem _ (List.mem_cons_self), List.forall_mem_cons.mpr ⟨List.mem_cons_of_mem _ (List.mem_cons_of_mem _ (List.mem_cons_self)), List.forall_mem_cons.mpr ⟨List.mem_cons_of_mem _ (List.mem_cons_of_mem _ (List.mem_cons_of_mem _ (List.mem_cons_self))), List.forall_mem_cons.mpr ⟨List.mem_cons_of_mem _ (List.mem_cons_of_mem _ (List.mem_cons_of_mem _ (List.mem_cons_of_mem _ (List.mem_cons_self)))), List.forall_mem_cons.mpr ⟨List.mem_cons_of_mem _ (List.mem_cons_of_mem _ (List.mem_cons_of_mem _ (List.mem_cons_of_mem _ (List.mem_cons_of_mem _ (List.mem_cons_self))))), List.forall_mem_cons.mpr ⟨List.mem_cons_of_mem _ (List.mem_cons_of_mem _ (List.mem_cons_of_mem _ (List.mem_cons_of_mem _ (List.mem_cons_of_mem _ (List.mem_cons_of_mem _ (List.mem_cons_self)))))), List.forall_mem_cons.mpr ⟨List.mem_cons_of_mem _ (List.mem_cons_of_mem _ (List.mem_cons_of_mem _ (List.mem_cons_of_mem _ (List.mem_cons_of_mem _ (List.mem_cons_of_mem _ (List.mem_cons_of_mem _ (List.mem_cons_self))))))), List.forall_mem_cons.mpr ⟨List.mem_cons_of_mem _ (List.mem_cons_of_mem _ (List.mem_cons_of_mem _ (List.mem_cons_of_mem _ (List.mem_cons_of_mem _ (List.mem_cons_of_mem _ (List.mem_cons_of_mem _ (List.mem_cons_of_mem _ (List.mem_cons_self)))))))), List.forall_mem_cons.mpr ⟨List.mem_cons_self, fun _ h => absurd h List.not_mem_nil⟩⟩⟩⟩⟩⟩⟩⟩⟩)) ?_
                      exact ih189 (cj + 1) w240 (by omega) (by omega) (hI242) (((hF193.tr (hF233.up (by decide))).tr (hF243.up (by decide)))) (by omega)
                  · refine xg_t (xg_icT (u := cj) (v := hi) rfl xnm0 xnm0 (xj_geT (by omega) (by omega))) ?_
                    refine xg_t (xg_blk (b := [(307, 1, 12, 0, 0, 0)]) rfl) ?_
                    obtain ⟨f82_302, f82_304, f82_306, f82_308, f82_310, f82_312, f82_314, f82_316, f82_318, f82_320, f82_322, f82_323, f82_324, f82_326, f82_328, f82_330, h82_332, hb303, hb305, hb307, hb309, hb311, hb313, hb315, hb317, hb319, hb321, hb325, hb327, hb329, hb331, hb333⟩ := (hI192 82 (by decide) (by decide) : cp82 (wget w191 82))
                    have hz334 : fld w191 82 42 = fld w 82 42 := (fld_of h82_332).trans hp42.symm
                    have hz335 : fld w191 82 41 = fld w 82 41 + 1 := by rw [hp41]; exact fld_of h82_332
                    have hz336 : smW w191 = smW w := by
                      unfold smW rwv
                      rw [hz334, (hF193.1 108 (by decide))]
                    exact xg_e ⟨w191, ⟨rfl, rfl⟩, hI192, hF193, Or.inl ⟨hz334, hz336, by omega⟩⟩
              exact key188 _ 1 w77 (Nat.lt_succ_self _) (by omega) (hI78) (hF79) (by omega)
        exact key74 _ 1 w44 (Nat.lt_succ_self _) (by omega) (hI46) ((hF47.up (by decide))) (by omega)
    · refine xg_t (xg_ifT (u := n48) rfl xnm0 (xjz_ltT (by omega) (by omega))) ?_
      refine xg_t (xg_blk (b := [(133, 1, 3, 1, 0, 0), (134, 2, 15, 8, 0, 0)]) rfl) ?_
      refine xg_t (xg_const) ?_
      refine xg_t (xg_istore (l1 := [(7, (0, n48)), (6, (0, u40)), (5, (0, xx)), (4, (0, yy)), (3, (0, wi)), (2, (0, hi)), (0, (2, 82)), (1, (0, pi_))]) rfl rfl rfl) ?_
      refine xg_t (xg_drop (l1 := [(0, (2, 82)), (1, (0, pi_)), (2, (0, hi)), (3, (0, wi)), (4, (0, yy)), (5, (0, xx)), (6, (0, u40)), (7, (0, n48)), (8, (0, 1))]) (List.forall_mem_cons.mpr ⟨List.mem_cons_of_mem _ (List.mem_cons_of_mem _ (List.mem_cons_of_mem _ (List.mem_cons_of_mem _ (List.mem_cons_of_mem _ (List.mem_cons_of_mem _ (List.mem_cons_of_mem _ (List.mem_cons_self))))))), List.forall_mem_cons.mpr ⟨List.mem_cons_of_mem _ (List.mem_cons_of_mem _ (List.mem_cons_of_mem _ (List.mem_cons_of_mem _ (List.mem_cons_of_mem _ (List.mem_cons_of_mem _ (List.mem_cons_of_mem _ (List.mem_cons_of_mem _ (List.mem_cons_self)))))))), List.forall_mem_cons.mpr ⟨List.mem_cons_of_mem _ (List.mem_cons_of_mem _ (List.mem_cons_of_mem _ (List.mem_cons_of_mem _ (List.mem_cons_of_mem _ (List.mem_cons_of_mem _ (List.mem_cons_self)))))), List.forall_mem_cons.mpr ⟨List.mem_cons_of_mem _ (List.mem_cons_of_mem _ (List.mem_cons_of_mem _ (List.mem_cons_of_mem _ (List.mem_cons_of_mem _ (List.mem_cons_self))))), List.forall_mem_cons.mpr ⟨List.mem_cons_of_mem _ (List.mem_cons_of_mem _ (List.mem_cons_of_mem _ (List.mem_cons_of_mem _ (List.mem_cons_self)))), List.forall_mem_cons.mpr ⟨List.mem_cons_of_mem _ (List.mem_cons_of_mem _ (List.mem_cons_of_mem _ (List.mem_cons_self))), List.forall_mem_cons.mpr ⟨List.mem_cons_of_mem _ (List.mem_cons_of_mem _ (List.mem_cons_self)), List.forall_mem_cons.mpr ⟨List.mem_cons_of_mem _ (List.mem_cons_self), List.forall_mem_cons.mpr ⟨List.mem_cons_self, fun _ h => absurd h List.not_mem_nil⟩⟩⟩⟩⟩⟩⟩⟩⟩)) ?_
      have key337 : ∀ (m339 : Nat) (ci : Nat) (w340 : List (List xE)), 10 - ci < m339 → ci ≤ 10 → xMnv w340 → xFr [82, 108, 109] w w340 → 1 ≤ ci → xTo (d + 2) mX12_plansOne (136, [], [(0, (2, 82)), (1, (0, pi_)), (2, (0, hi)), (3, (0, wi)), (4, (0, yy)), (5, (0, xx)), (6, (0, u40)), (7, (0, n48)), (8, (0, ci))], [], (w340, bd, fc, 0, 0, rr)) (fun φ => ∃ w', xEnd 0 [] (w', bd, fc, 0, 0, rr) φ ∧ xMnv w' ∧ xFr [82, 108, 109] w w' ∧ ((fld w' 82 42 = fld w 82 42 ∧ smW w' = smW w ∧ fld w' 82 41 ≤ fld w 82 41 + 1) ∨ (fld w' 82 42 = fld w 82 42 + 2 ∧ smW w' = smW w + ar pi_ ∧ fld w' 82 41 = fld w 82 41))) := by
        intro m339
        induction m339 with
        | zero => intro ci w340 hz; exact absurd hz (Nat.not_lt_zero _)
        | succ m339 ih338 =>
          intro ci w340 hm345 hn343 hI341 hF342 he344
          refine xg_t (xg_blk (b := [(136, 2, 2, 8, 0, 0), (138, 1, 2, 3, 0, 0), (139, 3, 6, 220, 3, 0), (142, 1, 0, 0, 0, 0), (143, 3, 1, 12, 37, 81), (146, 2, 2, 5, 0, 0), (148, 2, 2, 4, 0, 0), (150, 2, 2, 8, 0, 0), (152, 1, 2, 2, 0, 0), (153, 3, 13, 118, 98, 344), (156, 1, 10, 0, 0, 0), (157, 1, 0, 0, 0, 0), (158, 3, 1, 12, 37, 81), (161, 2, 2, 5, 0, 0), (163, 2, 2, 8, 0, 0), (165, 1, 11, 0, 0, 0), (166, 2, 2, 4, 0, 0), (168, 1, 2, 3, 0, 0), (169, 2, 2, 8, 0, 0), (171, 1, 18, 0, 0, 0), (172, 1, 2, 2, 0, 0), (173, 3, 13, 118, 98, 344), (176, 1, 10, 0, 0, 0), (177, 1, 11, 0, 0, 0), (178, 2, 2, 6, 0, 0), (180, 3, 6, 186, 0, 0), (183, 3, 8, 214, 0, 0)]) rfl) ?_
          refine xg_t (xg_iload (va := (0, ci)) rfl rfl) ?_
          refine xg_t (xg_iload (va := (0, wi)) rfl rfl) ?_
          by_cases hc346 : ci < wi
          · refine xg_t (xg_icF (u := ci) (v := wi) rfl xnm0 xnm0 (xj_geF hc346 (by omega))) ?_
            refine xg_t (xg_aload (va := (2, 82)) rfl rfl) ?_
            obtain ⟨f82_347, f82_349, f82_351, f82_353, f82_355, f82_357, f82_359, f82_361, f82_363, f82_365, f82_367, f82_368, f82_369, f82_371, f82_373, f82_375, h82_377, hb348, hb350, hb352, hb354, hb356, hb358, hb360, hb362, hb364, hb366, hb370, hb372, hb374, hb376, hb378⟩ := (hI341 82 (by decide) (by decide) : cp82 (wget w340 82))
            refine xg_t (xg_getf (va := (2, 106)) h82_377 rfl) ?_
            refine xg_t (xg_iload (va := (0, xx)) rfl rfl) ?_
            refine xg_t (xg_iload (va := (0, yy)) rfl rfl) ?_
            refine xg_t (xg_iload (va := (0, ci)) rfl rfl) ?_
            refine xg_t (xg_iload (va := (0, hi)) rfl rfl) ?_
            refine xg_cSi mX12_at (vs := [(0, xx), (0, yy), (0, ci), (0, hi)]) (rest := [(2, 106)]) (cn1 := 0) (sl1 := 0) rfl (mAt (hI341) (by omega) (by omega) (by omega) (by omega)) rfl rfl rfl rfl rfl rfl rfl (fun n383 w379 hq380 => ?_)
            obtain ⟨hn384, hI381, hF382⟩ := hq380
            have hl385 : n383 ≤ 14640 := by omega
            refine xg_ialdB (n := n383) (B := 4294967295) ((h106_38.fr hF342 (by decide)).fr hF382 (by decide)) (hb39) xnm0 (by omega) (fun u386 hu387 he388 => ?_)
            refine xg_t (xg_aload (va := (2, 82)) rfl rfl) ?_
            refine xg_t (xg_getf (va := (2, 106)) (hF382.get (by decide) h82_377) rfl) ?_
            refine xg_t (xg_iload (va := (0, xx)) rfl rfl) ?_
            refine xg_t (xg_iload (va := (0, ci)) rfl rfl) ?_
            refine xg_t (xg_iadd (u := xx) (v := ci) (z := xx + ci) xnm0 xnm0 (by omega)) ?_
            refine xg_t (xg_iload (va := (0, yy)) rfl rfl) ?_
            refine xg_t (xg_iload (va := (0, wi)) rfl rfl) ?_
            refine xg_t (xg_iload (va := (0, ci)) rfl rfl) ?_
            refine xg_t (xg_isub (u := wi) (v := ci) (z := wi - ci) xnm0 xnm0 (by omega)) ?_
            refine xg_t (xg_iload (va := (0, hi)) rfl rfl) ?_
            refine xg_cSi mX12_at (vs := [(0, xx + ci), (0, yy), (0, wi - ci), (0, hi)]) (rest := [(2, 106), (0, u386)]) (cn1 := 0) (sl1 := 0) rfl (mAt (hI381) (by omega) (by omega) (by omega) (by omega)) rfl rfl rfl rfl rfl rfl rfl (fun n393 w389 hq390 => ?_)
            obtain ⟨hn394, hI391, hF392⟩ := hq390
            have hl395 : n393 ≤ 14640 := by omega
            refine xg_ialdB (n := n393) (B := 4294967295) (((h106_38.fr hF342 (by decide)).fr hF382 (by decide)).fr hF392 (by decide)) (hb39) xnm0 (by omega) (fun u396 hu397 he398 => ?_)
            refine xg_k (xg_iadd (u := u386) (v := u396) (z := (u386 + u396) % 4294967296) xnm0 xnm0 rfl) (Nat.mod_lt _ (by decide)) (fun z399 hz400 => ?_)
            refine xg_t (xg_iload (va := (0, u40)) rfl rfl) ?_
            by_cases hc401 : z399 = u40
            · refine xg_t (xg_icT (u := z399) (v := u40) rfl xnm0 xnm0 (xj_eqT hc401)) ?_
              refine xg_t (xg_blk (b := [(186, 1, 0, 0, 0, 0), (187, 2, 2, 5, 0, 0), (189, 2, 2, 8, 0, 0), (191, 1, 11, 0, 0, 0), (192, 2, 2, 4, 0, 0), (194, 1, 2, 3, 0, 0), (195, 2, 2, 8, 0, 0), (197, 1, 18, 0, 0, 0), (198, 1, 2, 2, 0, 0), (199, 3, 13, 182, 96, 367), (202, 1, 0, 0, 0, 0), (203, 2, 2, 5, 0, 0), (205, 2, 2, 4, 0, 0), (207, 2, 2, 8, 0, 0), (209, 1, 2, 2, 0, 0), (210, 3, 13, 182, 96, 367), (213, 1, 12, 0, 0, 0)]) rfl) ?_
              refine xg_t (xg_aload (va := (2, 82)) rfl rfl) ?_
              refine xg_t (xg_iload (va := (0, xx)) rfl rfl) ?_
              refine xg_t (xg_iload (va := (0, ci)) rfl rfl) ?_
              refine xg_t (xg_iadd (u := xx) (v := ci) (z := xx + ci) xnm0 xnm0 (by omega)) ?_
              refine xg_t (xg_iload (va := (0, yy)) rfl rfl) ?_
              refine xg_t (xg_iload (va := (0, wi)) rfl rfl) ?_
              refine xg_t (xg_iload (va := (0, ci)) rfl rfl) ?_
              refine xg_t (xg_isub (u := wi) (v := ci) (z := wi - ci) xnm0 xnm0 (by omega)) ?_
              refine xg_t (xg_iload (va := (0, hi)) rfl rfl) ?_
              refine xg_cVv mX12_lays (vs := [(0, xx + ci), (0, yy), (0, wi - ci), (0, hi)]) (rest := []) (cn1 := 0) (sl1 := 0) rfl (mLays (hI391) (by omega) (by omega) (by omega) (by omega) (by omega) (by omega) (by omega)) rfl (hF392.get (by decide) (hF382.get (by decide) h82_377)) rfl rfl rfl rfl rfl rfl (fun w402 hq403 => ?_)
              obtain ⟨hI404, hF405, hx406⟩ := hq403
              obtain ⟨hy407, hy408, hy409⟩ := hx406
              refine xg_t (xg_aload (va := (2, 82)) rfl rfl) ?_
              refine xg_t (xg_iload (va := (0, xx)) rfl rfl) ?_
              refine xg_t (xg_iload (va := (0, yy)) rfl rfl) ?_
              refine xg_t (xg_iload (va := (0, ci)) rfl rfl) ?_
              refine xg_t (xg_iload (va := (0, hi)) rfl rfl) ?_
              obtain ⟨f82_410, f82_412, f82_414, f82_416, f82_418, f82_420, f82_422, f82_424, f82_426, f82_428, f82_430, f82_431, f82_432, f82_434, f82_436, f82_438, h82_440, hb411, hb413, hb415, hb417, hb419, hb421, hb423, hb425, hb427, hb429, hb433, hb435, hb437, hb439, hb441⟩ := (hI404 82 (by decide) (by decide) : cp82 (wget w402 82))
              refine xg_cVv mX12_lays (vs := [(0, xx), (0, yy), (0, ci), (0, hi)]) (rest := []) (cn1 := 0) (sl1 := 0) rfl (mLays (hI404) (by omega) (by omega) (by omega) (by omega) (by omega) (by omega) (by omega)) rfl h82_440 rfl rfl rfl rfl rfl rfl (fun w442 hq443 => ?_)
              obtain ⟨hI444, hF445, hx446⟩ := hq443
              obtain ⟨hy447, hy448, hy449⟩ := hx446
              have hz450 : ar ((((xx + ci) * 11 + yy) * 11 + (wi - ci)) * 11 + hi) + ar (((xx * 11 + yy) * 11 + ci) * 11 + hi) = ar pi_ := (ar_cutW (by omega) (by omega) (by omega) (by omega)).trans har.symm
              exact xg_e ⟨w442, ⟨rfl, rfl⟩, hI444, ((((hF342.tr (hF382.up (by decide))).tr (hF392.up (by decide))).tr (hF405.up (by decide))).tr (hF445.up (by decide))), Or.inr ⟨by omega, by omega, by omega⟩⟩
            · refine xg_t (xg_icF (u := z399) (v := u40) rfl xnm0 xnm0 (xj_eqF hc401)) ?_
              refine xg_t (xg_goto) ?_
              refine xg_t (xg_blk (b := [(214, 3, 9, 8, 1, 0), (217, 3, 8, 136, 0, 0)]) rfl) ?_
              refine xg_t (xg_iinc (u := ci) (z := ci + 1) (l1 := [(0, (2, 82)), (1, (0, pi_)), (2, (0, hi)), (3, (0, wi)), (4, (0, yy)), (5, (0, xx)), (6, (0, u40)), (7, (0, n48))]) rfl rfl (by omega) rfl) ?_
              refine xg_t (xg_goto) ?_
              refine xg_t (xg_drop (l1 := [(0, (2, 82)), (1, (0, pi_)), (2, (0, hi)), (3, (0, wi)), (4, (0, yy)), (5, (0, xx)), (6, (0, u40)), (7, (0, n48)), (8, (0, ci + 1))]) (List.forall_mem_cons.mpr ⟨List.mem_cons_of_mem _ (List.mem_cons_self), List.forall_mem_cons.mpr ⟨List.mem_cons_of_mem _ (List.mem_cons_of_mem _ (List.mem_cons_self)), List.forall_mem_cons.mpr ⟨List.mem_cons_of_mem _ (List.mem_cons_of_mem _ (List.mem_cons_of_mem _ (List.mem_cons_self))), List.forall_mem_cons.mpr ⟨List.mem_cons_of_mem _ (List.mem_cons_of_mem _ (List.mem_cons_of_mem _ (List.mem_cons_of_mem _ (List.mem_cons_self)))), List.forall_mem_cons.mpr ⟨List.mem_cons_of_mem _ (List.mem_cons_of_mem _ (List.mem_cons_of_mem _ (List.mem_cons_of_mem _ (List.mem_cons_of_mem _ (List.mem_cons_self))))), List.forall_mem_cons.mpr ⟨List.mem_cons_of_mem _ (List.mem_cons_of_mem _ (List.mem_cons_of_mem _ (List.mem_cons_of_mem _ (List.mem_cons_of_mem _ (List.mem_cons_of_mem _ (List.mem_cons_self)))))), List.forall_mem_cons.mpr ⟨List.mem_cons_of_mem _ (List.mem_cons_of_mem _ (List.mem_cons_of_mem _ (List.mem_cons_of_mem _ (List.mem_cons_of_mem _ (List.mem_cons_of_mem _ (List.mem_cons_of_mem _ (List.mem_cons_self))))))), List.forall_mem_cons.mpr ⟨List.mem_cons_of_mem _ (List.mem_cons_of_mem _ (List.mem_cons_of_mem _ (List.mem_cons_of_mem _ (List.mem_cons_of_mem _ (List.mem_cons_of_mem _ (List.mem_cons_of_mem _ (List.mem_cons_of_mem _ (List.mem_cons_self)))))))), List.forall_mem_cons.mpr ⟨List.mem_cons_self, fun _ h => absurd h List.not_mem_nil⟩⟩⟩⟩⟩⟩⟩⟩⟩)) ?_
              exact ih338 (ci + 1) w389 (by omega) (by omega) (hI391) (((hF342.tr (hF382.up (by decide))).tr (hF392.up (by decide)))) (by omega)
          · refine xg_t (xg_icT (u := ci) (v := wi) rfl xnm0 xnm0 (xj_geT (by omega) (by omega))) ?_
            refine xg_t (xg_blk (b := [(220, 1, 3, 1, 0, 0), (221, 2, 15, 8, 0, 0)]) rfl) ?_
            refine xg_t (xg_const) ?_
            refine xg_t (xg_istore (l1 := [(0, (2, 82)), (1, (0, pi_)), (2, (0, hi)), (3, (0, wi)), (4, (0, yy)), (5, (0, xx)), (6, (0, u40)), (7, (0, n48))]) rfl rfl rfl) ?_
            refine xg_t (xg_drop (l1 := [(0, (2, 82)), (1, (0, pi_)), (2, (0, hi)), (3, (0, wi)), (4, (0, yy)), (5, (0, xx)), (6, (0, u40)), (7, (0, n48)), (8, (0, 1))]) (List.forall_mem_cons.mpr ⟨List.mem_cons_of_mem _ (List.mem_cons_self), List.forall_mem_cons.mpr ⟨List.mem_cons_of_mem _ (List.mem_cons_of_mem _ (List.mem_cons_self)), List.forall_mem_cons.mpr ⟨List.mem_cons_of_mem _ (List.mem_cons_of_mem _ (List.mem_cons_of_mem _ (List.mem_cons_self))), List.forall_mem_cons.mpr ⟨List.mem_cons_of_mem _ (List.mem_cons_of_mem _ (List.mem_cons_of_mem _ (List.mem_cons_of_mem _ (List.mem_cons_self)))), List.forall_mem_cons.mpr ⟨List.mem_cons_of_mem _ (List.mem_cons_of_mem _ (List.mem_cons_of_mem _ (List.mem_cons_of_mem _ (List.mem_cons_of_mem _ (List.mem_cons_self))))), List.forall_mem_cons.mpr ⟨List.mem_cons_of_mem _ (List.mem_cons_of_mem _ (List.mem_cons_of_mem _ (List.mem_cons_of_mem _ (List.mem_cons_of_mem _ (List.mem_cons_of_mem _ (List.mem_cons_self)))))), List.forall_mem_cons.mpr ⟨List.mem_cons_of_mem _ (List.mem_cons_of_mem _ (List.mem_cons_of_mem _ (List.mem_cons_of_mem _ (List.mem_cons_of_mem _ (List.mem_cons_of_mem _ (List.mem_cons_of_mem _ (List.mem_cons_self))))))), List.forall_mem_cons.mpr ⟨List.mem_cons_of_mem _ (List.mem_cons_of_mem _ (List.mem_cons_of_mem _ (List.mem_cons_of_mem _ (List.mem_cons_of_mem _ (List.mem_cons_of_mem _ (List.mem_cons_of_mem _ (List.mem_cons_of_mem _ (List.mem_cons_self)))))))), List.forall_mem_cons.mpr ⟨List.mem_cons_self, fun _ h => absurd h List.not_mem_nil⟩⟩⟩⟩⟩⟩⟩⟩⟩)) ?_
            have key451 : ∀ (m453 : Nat) (cj : Nat) (w454 : List (List xE)), 10 - cj < m453 → cj ≤ 10 → xMnv w454 → xFr [82, 108, 109] w w454 → 1 ≤ cj → xTo (d + 2) mX12_plansOne (223, [], [(0, (2, 82)), (1, (0, pi_)), (2, (0, hi)), (3, (0, wi)), (4, (0, yy)), (5, (0, xx)), (6, (0, u40)), (7, (0, n48)), (8, (0, cj))], [], (w454, bd, fc, 0, 0, rr)) (fun φ => ∃ w', xEnd 0 [] (w', bd, fc, 0, 0, rr) φ ∧ xMnv w' ∧ xFr [82, 108, 109] w w' ∧ ((fld w' 82 42 = fld w 82 42 ∧ smW w' = smW w ∧ fld w' 82 41 ≤ fld w 82 41 + 1) ∨ (fld w' 82 42 = fld w 82 42 + 2 ∧ smW w' = smW w + ar pi_ ∧ fld w' 82 41 = fld w 82 41))) := by
              intro m453
              induction m453 with
              | zero => intro cj w454 hz; exact absurd hz (Nat.not_lt_zero _)
              | succ m453 ih452 =>
                intro cj w454 hm459 hn457 hI455 hF456 he458
                refine xg_t (xg_blk (b := [(223, 2, 2, 8, 0, 0), (225, 1, 2, 2, 0, 0), (226, 3, 6, 307, 3, 0), (229, 1, 0, 0, 0, 0), (230, 3, 1, 12, 37, 81), (233, 2, 2, 5, 0, 0), (235, 2, 2, 4, 0, 0), (237, 1, 2, 3, 0, 0), (238, 2, 2, 8, 0, 0), (240, 3, 13, 118, 98, 344), (243, 1, 10, 0, 0, 0), (244, 1, 0, 0, 0, 0), (245, 3, 1, 12, 37, 81), (248, 2, 2, 5, 0, 0), (250, 2, 2, 4, 0, 0), (252, 2, 2, 8, 0, 0), (254, 1, 11, 0, 0, 0), (255, 1, 2, 3, 0, 0), (256, 1, 2, 2, 0, 0), (257, 2, 2, 8, 0, 0), (259, 1, 18, 0, 0, 0), (260, 3, 13, 118, 98, 344), (263, 1, 10, 0, 0, 0), (264, 1, 11, 0, 0, 0), (265, 2, 2, 6, 0, 0), (267, 3, 6, 273, 0, 0), (270, 3, 8, 301, 0, 0)]) rfl) ?_
                refine xg_t (xg_iload (va := (0, cj)) rfl rfl) ?_
                refine xg_t (xg_iload (va := (0, hi)) rfl rfl) ?_
                by_cases hc460 : cj < hi
                · refine xg_t (xg_icF (u := cj) (v := hi) rfl xnm0 xnm0 (xj_geF hc460 (by omega))) ?_
                  refine xg_t (xg_aload (va := (2, 82)) rfl rfl) ?_
                  obtain ⟨f82_461, f82_463, f82_465, f82_467, f82_469, f82_471, f82_473, f82_475, f82_477, f82_479, f82_481, f82_482, f82_483, f82_485, f82_487, f82_489, h82_491, hb462, hb464, hb466, hb468, hb470, hb472, hb474, hb476, hb478, hb480, hb484, hb486, hb488, hb490, hb492⟩ := (hI455 82 (by decide) (by decide) : cp82 (wget w454 82))
                  refine xg_t (xg_getf (va := (2, 106)) h82_491 rfl) ?_
                  refine xg_t (xg_iload (va := (0, xx)) rfl rfl) ?_
                  refine xg_t (xg_iload (va := (0, yy)) rfl rfl) ?_
                  refine xg_t (xg_iload (va := (0, wi)) rfl rfl) ?_
                  refine xg_t (xg_iload (va := (0, cj)) rfl rfl) ?_
                  refine xg_cSi mX12_at (vs := [(0, xx), (0, yy), (0, wi), (0, cj)]) (rest := [(2, 106)]) (cn1 := 0) (sl1 := 0) rfl (mAt (hI455) (by omega) (by omega) (by omega) (by omega)) rfl rfl rfl rfl rfl rfl rfl (fun n497 w493 hq494 => ?_)
                  obtain ⟨hn498, hI495, hF496⟩ := hq494
                  have hl499 : n497 ≤ 14640 := by omega
                  refine xg_ialdB (n := n497) (B := 4294967295) ((h106_38.fr hF456 (by decide)).fr hF496 (by decide)) (hb39) xnm0 (by omega) (fun u500 hu501 he502 => ?_)
                  refine xg_t (xg_aload (va := (2, 82)) rfl rfl) ?_
                  refine xg_t (xg_getf (va := (2, 106)) (hF496.get (by decide) h82_491) rfl) ?_
                  refine xg_t (xg_iload (va := (0, xx)) rfl rfl) ?_
                  refine xg_t (xg_iload (va := (0, yy)) rfl rfl) ?_
                  refine xg_t (xg_iload (va := (0, cj)) rfl rfl) ?_
                  refine xg_t (xg_iadd (u := yy) (v := cj) (z := yy + cj) xnm0 xnm0 (by omega)) ?_
                  refine xg_t (xg_iload (va := (0, wi)) rfl rfl) ?_
                  refine xg_t (xg_iload (va := (0, hi)) rfl rfl) ?_
                  refine xg_t (xg_iload (va := (0, cj)) rfl rfl) ?_
                  refine xg_t (xg_isub (u := hi) (v := cj) (z := hi - cj) xnm0 xnm0 (by omega)) ?_
                  refine xg_cSi mX12_at (vs := [(0, xx), (0, yy + cj), (0, wi), (0, hi - cj)]) (rest := [(2, 106), (0, u500)]) (cn1 := 0) (sl1 := 0) rfl (mAt (hI495) (by omega) (by omega) (by omega) (by omega)) rfl rfl rfl rfl rfl rfl rfl (fun n507 w503 hq504 => ?_)
                  obtain ⟨hn508, hI505, hF506⟩ := hq504
                  have hl509 : n507 ≤ 14640 := by omega
                  refine xg_ialdB (n := n507) (B := 4294967295) (((h106_38.fr hF456 (by decide)).fr hF496 (by decide)).fr hF506 (by decide)) (hb39) xnm0 (by omega) (fun u510 hu511 he512 => ?_)
                  refine xg_k (xg_iadd (u := u500) (v := u510) (z := (u500 + u510) % 4294967296) xnm0 xnm0 rfl) (Nat.mod_lt _ (by decide)) (fun z513 hz514 => ?_)
                  refine xg_t (xg_iload (va := (0, u40)) rfl rfl) ?_
                  by_cases hc515 : z513 = u40
                  · refine xg_t (xg_icT (u := z513) (v := u40) rfl xnm0 xnm0 (xj_eqT hc515)) ?_
                    refine xg_t (xg_blk (b := [(273, 1, 0, 0, 0, 0), (274, 2, 2, 5, 0, 0), (276, 2, 2, 4, 0, 0), (278, 2, 2, 8, 0, 0), (280, 1, 11, 0, 0, 0), (281, 1, 2, 3, 0, 0), (282, 1, 2, 2, 0, 0), (283, 2, 2, 8, 0, 0), (285, 1, 18, 0, 0, 0), (286, 3, 13, 182, 96, 367), (289, 1, 0, 0, 0, 0), (290, 2, 2, 5, 0, 0), (292, 2, 2, 4, 0, 0), (294, 1, 2, 3, 0, 0), (295, 2, 2, 8, 0, 0), (297, 3, 13, 182, 96, 367), (300, 1, 12, 0, 0, 0)]) rfl) ?_
                    refine xg_t (xg_aload (va := (2, 82)) rfl rfl) ?_
                    refine xg_t (xg_iload (va := (0, xx)) rfl rfl) ?_
                    refine xg_t (xg_iload (va := (0, yy)) rfl rfl) ?_
                    refine xg_t (xg_iload (va := (0, cj)) rfl rfl) ?_
                    refine xg_t (xg_iadd (u := yy) (v := cj) (z := yy + cj) xnm0 xnm0 (by omega)) ?_
                    refine xg_t (xg_iload (va := (0, wi)) rfl rfl) ?_
                    refine xg_t (xg_iload (va := (0, hi)) rfl rfl) ?_
                    refine xg_t (xg_iload (va := (0, cj)) rfl rfl) ?_
                    refine xg_t (xg_isub (u := hi) (v := cj) (z := hi - cj) xnm0 xnm0 (by omega)) ?_
                    refine xg_cVv mX12_lays (vs := [(0, xx), (0, yy + cj), (0, wi), (0, hi - cj)]) (rest := []) (cn1 := 0) (sl1 := 0) rfl (mLays (hI505) (by omega) (by omega) (by omega) (by omega) (by omega) (by omega) (by omega)) rfl (hF506.get (by decide) (hF496.get (by decide) h82_491)) rfl rfl rfl rfl rfl rfl (fun w516 hq517 => ?_)
                    obtain ⟨hI518, hF519, hx520⟩ := hq517
                    obtain ⟨hy521, hy522, hy523⟩ := hx520
                    refine xg_t (xg_aload (va := (2, 82)) rfl rfl) ?_
                    refine xg_t (xg_iload (va := (0, xx)) rfl rfl) ?_
                    refine xg_t (xg_iload (va := (0, yy)) rfl rfl) ?_
                    refine xg_t (xg_iload (va := (0, wi)) rfl rfl) ?_
                    refine xg_t (xg_iload (va := (0, cj)) rfl rfl) ?_
                    obtain ⟨f82_524, f82_526, f82_528, f82_530, f82_532, f82_534, f82_536, f82_538, f82_540, f82_542, f82_544, f82_545, f82_546, f82_548, f82_550, f82_552, h82_554, hb525, hb527, hb529, hb531, hb533, hb535, hb537, hb539, hb541, hb543, hb547, hb549, hb551, hb553, hb555⟩ := (hI518 82 (by decide) (by decide) : cp82 (wget w516 82))
                    refine xg_cVv mX12_lays (vs := [(0, xx), (0, yy), (0, wi), (0, cj)]) (rest := []) (cn1 := 0) (sl1 := 0) rfl (mLays (hI518) (by omega) (by omega) (by omega) (by omega) (by omega) (by omega) (by omega)) rfl h82_554 rfl rfl rfl rfl rfl rfl (fun w556 hq557 => ?_)
                    obtain ⟨hI558, hF559, hx560⟩ := hq557
                    obtain ⟨hy561, hy562, hy563⟩ := hx560
                    have hz564 : ar (((xx * 11 + (yy + cj)) * 11 + wi) * 11 + (hi - cj)) + ar (((xx * 11 + yy) * 11 + wi) * 11 + cj) = ar pi_ := (ar_cutH (by omega) (by omega) (by omega) (by omega)).trans har.symm
                    exact xg_e ⟨w556, ⟨rfl, rfl⟩, hI558, ((((hF456.tr (hF496.up (by decide))).tr (hF506.up (by decide))).tr (hF519.up (by decide))).tr (hF559.up (by decide))), Or.inr ⟨by omega, by omega, by omega⟩⟩
                  · refine xg_t (xg_icF (u := z513) (v := u40) rfl xnm0 xnm0 (xj_eqF hc515)) ?_
                    refine xg_t (xg_goto) ?_
                    refine xg_t (xg_blk (b := [(301, 3, 9, 8, 1, 0), (304, 3, 8, 223, 0, 0)]) rfl) ?_
                    refine xg_t (xg_iinc (u := cj) (z := cj + 1) (l1 := [(0, (2, 82)), (1, (0, pi_)), (2, (0, hi)), (3, (0, wi)), (4, (0, yy)), (5, (0, xx)), (6, (0, u40)), (7, (0, n48))]) rfl rfl (by omega) rfl) ?_
                    refine xg_t (xg_goto) ?_
                    refine xg_t (xg_drop (l1 := [(0, (2, 82)), (1, (0, pi_)), (2, (0, hi)), (3, (0, wi)), (4, (0, yy)), (5, (0, xx)), (6, (0, u40)), (7, (0, n48)), (8, (0, cj + 1))]) (List.forall_mem_cons.mpr ⟨List.mem_cons_of_mem _ (List.mem_cons_self), List.forall_mem_cons.mpr ⟨List.mem_cons_of_mem _ (List.mem_cons_of_mem _ (List.mem_cons_self)), List.forall_mem_cons.mpr ⟨List.mem_cons_of_mem _ (List.mem_cons_of_mem _ (List.mem_cons_of_mem _ (List.mem_cons_self))), List.forall_mem_cons.mpr ⟨List.mem_cons_of_mem _ (List.mem_cons_of_mem _ (List.mem_cons_of_mem _ (List.mem_cons_of_mem _ (List.mem_cons_self)))), List.forall_mem_cons.mpr ⟨List.mem_cons_of_mem _ (List.mem_cons_of_mem _ (List.mem_cons_of_mem _ (List.mem_cons_of_mem _ (List.mem_cons_of_mem _ (List.mem_cons_self))))), List.forall_mem_cons.mpr ⟨List.mem_cons_of_mem _ (List.mem_cons_of_mem _ (List.mem_cons_of_mem _ (List.mem_cons_of_mem _ (List.mem_cons_of_mem _ (List.mem_cons_of_mem _ (List.mem_cons_self)))))), List.forall_mem_cons.mpr ⟨List.mem_cons_of_mem _ (List.mem_cons_of_mem _ (List.mem_cons_of_mem _ (List.mem_cons_of_mem _ (List.mem_cons_of_mem _ (List.mem_cons_of_mem _ (List.mem_cons_of_mem _ (List.mem_cons_self))))))), List.forall_mem_cons.mpr ⟨List.mem_cons_of_mem _ (List.mem_cons_of_mem _ (List.mem_cons_of_mem _ (List.mem_cons_of_mem _ (List.mem_cons_of_mem _ (List.mem_cons_of_mem _ (List.mem_cons_of_mem _ (List.mem_cons_of_mem _ (List.mem_cons_self)))))))), List.forall_mem_cons.mpr ⟨List.mem_cons_self, fun _ h => absurd h List.not_mem_nil⟩⟩⟩⟩⟩⟩⟩⟩⟩)) ?_
                    exact ih452 (cj + 1) w503 (by omega) (by omega) (hI505) (((hF456.tr (hF496.up (by decide))).tr (hF506.up (by decide)))) (by omega)
                · refine xg_t (xg_icT (u := cj) (v := hi) rfl xnm0 xnm0 (xj_geT (by omega) (by omega))) ?_
                  refine xg_t (xg_blk (b := [(307, 1, 12, 0, 0, 0)]) rfl) ?_
                  obtain ⟨f82_565, f82_567, f82_569, f82_571, f82_573, f82_575, f82_577, f82_579, f82_581, f82_583, f82_585, f82_586, f82_587, f82_589, f82_591, f82_593, h82_595, hb566, hb568, hb570, hb572, hb574, hb576, hb578, hb580, hb582, hb584, hb588, hb590, hb592, hb594, hb596⟩ := (hI455 82 (by decide) (by decide) : cp82 (wget w454 82))
                  have hz597 : fld w454 82 42 = fld w 82 42 := (fld_of h82_595).trans hp42.symm
                  have hz598 : fld w454 82 41 = fld w 82 41 + 1 := by rw [hp41]; exact fld_of h82_595
                  have hz599 : smW w454 = smW w := by
                    unfold smW rwv
                    rw [hz597, (hF456.1 108 (by decide))]
                  exact xg_e ⟨w454, ⟨rfl, rfl⟩, hI455, hF456, Or.inl ⟨hz597, hz599, by omega⟩⟩
            exact key451 _ 1 w340 (Nat.lt_succ_self _) (by omega) (hI341) (hF342) (by omega)
      exact key337 _ 1 w44 (Nat.lt_succ_self _) (by omega) (hI46) ((hF47.up (by decide))) (by omega)
end XM5
