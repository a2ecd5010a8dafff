section
/-! the model: the sheet -/
def mx1 (a : Nat) : Nat := if a = 0 then 1 else a
def ar (v : Nat) : Nat := mx1 (v % 11) * mx1 (v / 11 % 11)
theorem mx1_pos (a : Nat) : 1 ≤ mx1 a := by unfold mx1; split <;> omega
theorem mx1_le {a : Nat} (h : a ≤ 10) : mx1 a ≤ 10 := by unfold mx1; split <;> omega
theorem mx1_id {a : Nat} (h : 1 ≤ a) : mx1 a = a := by unfold mx1; split <;> omega
theorem ar_pos (v : Nat) : 1 ≤ ar v := Nat.mul_le_mul (mx1_pos _) (mx1_pos _)
theorem ar_le (v : Nat) : ar v ≤ 100 := Nat.mul_le_mul (mx1_le (by omega)) (mx1_le (by omega))
theorem ar_enc {x y a b : Nat} (ha : a ≤ 10) (hb : b ≤ 10) : ar (((x * 11 + y) * 11 + a) * 11 + b) = mx1 b * mx1 a := by
  unfold ar
  have e1 : (((x * 11 + y) * 11 + a) * 11 + b) % 11 = b := by omega
  have e2 : (((x * 11 + y) * 11 + a) * 11 + b) / 11 % 11 = a := by omega
  rw [e1, e2]
theorem ar_cutW {x y x' y' a b c : Nat} (ha : a ≤ 10) (hb : b ≤ 10) (h1 : 1 ≤ c) (h2 : c < a) : ar (((x * 11 + y) * 11 + (a - c)) * 11 + b) + ar (((x' * 11 + y') * 11 + c) * 11 + b) = mx1 b * mx1 a := by
  rw [ar_enc (by omega) hb, ar_enc (by omega) hb, mx1_id (a := a - c) (by omega), mx1_id (a := c) h1, mx1_id (a := a) (by omega), ← Nat.mul_add]
  congr 1
  omega
theorem ar_cutH {x y x' y' a b c : Nat} (ha : a ≤ 10) (hb : b ≤ 10) (h1 : 1 ≤ c) (h2 : c < b) : ar (((x * 11 + y) * 11 + a) * 11 + (b - c)) + ar (((x' * 11 + y') * 11 + a) * 11 + c) = mx1 b * mx1 a := by
  rw [ar_enc ha (by omega), ar_enc ha (by omega), mx1_id (a := b - c) (by omega), mx1_id (a := c) h1, mx1_id (a := b) (by omega), ← Nat.add_mul]
  congr 1
  omega
def sm (f : Nat → Nat) : Nat → Nat
  | 0 => 0
  | n + 1 => sm f n + ar (f n)
theorem sm_congr {f g : Nat → Nat} : ∀ n, (∀ j, j < n → f j = g j) → sm f n = sm g n
  | 0, _ => rfl
  | n + 1, h => by
    show sm f n + ar (f n) = sm g n + ar (g n)
    rw [sm_congr n (fun j hj => h j (by omega)), h n (by omega)]
theorem sm_ge (f : Nat → Nat) : ∀ n, n ≤ sm f n
  | 0 => Nat.le_refl _
  | n + 1 => by
    have := sm_ge f n
    have := ar_pos (f n)
    show n + 1 ≤ sm f n + ar (f n)
    omega
noncomputable def smW (w : List (List xE)) : Nat := sm (rwv w 108) (fld w 82 42)
theorem smW_of {w : List (List xE)} {f : Nat → Nat} {p : Nat} (h : xRow w 108 200 75 f) (hp : fld w 82 42 = p) (h2 : p ≤ 200) : smW w = sm f p := by
  unfold smW
  rw [hp]
  exact sm_congr p (fun j hj => rwv_of h (by omega))
theorem smW_push {w w' : List (List xE)} {f : Nat → Nat} {p v : Nat} (h : xRow w 108 200 75 f) (hp : fld w 82 42 = p) (h2 : p < 200) (h' : xRow w' 108 200 75 (fun j => if j = p then v else f j)) (hp' : fld w' 82 42 = p + 1) : smW w' = smW w + ar v := by
  rw [smW_of h hp (by omega), smW_of h' hp' (by omega)]
  show sm (fun j => if j = p then v else f j) p + ar (if p = p then v else f p) = _
  rw [if_pos rfl, sm_congr p (fun j hj => if_neg (show ¬ j = p by omega))]
theorem smW_ge (w : List (List xE)) : fld w 82 42 ≤ smW w := sm_ge _ _
theorem okP_enc {n x y a b : Nat} (h : n = ((x * 11 + y) * 11 + a) * 11 + b) (h1 : x + a ≤ 10) (h2 : y + b ≤ 10) : okP n := by
  have e1 : n / 1331 = x := by omega
  have e2 : n / 11 % 11 = a := by omega
  have q : n / 121 = x * 11 + y := by omega
  have e3 : n / 121 % 11 = y := by rw [q]; omega
  have e4 : n % 11 = b := by omega
  refine ⟨by omega, ?_, ?_⟩
  · rw [e1, e2]; exact h1
  · rw [e3, e4]; exact h2
theorem okP.ar {v : Nat} (h : okP v) : ar v = mx1 (v % 11) * mx1 (v / 11 % 11) := rfl
section XM5
variable {d : Nat} {w : List (List xE)} {bd : List (Nat × Nat)} {fc : List (Nat × Nat × Bool)} {rr : Nat × Nat}
theorem mAtR {xx yy wi hi : Nat} (h1 : xx ≤ 10) (h2 : yy ≤ 10) (h3 : wi ≤ 10) (h4 : hi ≤ 10) : xPr d mX12_at [(0, xx), (0, yy), (0, wi), (0, hi)] w bd fc rr [(0, ((xx * 11 + yy) * 11 + wi) * 11 + hi)] w := by
  refine xPr.of ?_
  show xTo d mX12_at (0, [], [(0, (0, xx)), (1, (0, yy)), (2, (0, wi)), (3, (0, hi))], [], (w, bd, fc, 0, 0, rr)) (xEnd 1 [(0, ((xx * 11 + yy) * 11 + wi) * 11 + hi)] (w, bd, fc, 0, 0, rr))
  refine xg_t (xg_blq rfl) ?_
  refine xg_t (xg_iload (va := (0, xx)) rfl rfl) ?_
  refine xg_t (xg_bip) ?_
  refine xg_t (xg_imul (u := xx) (v := 11) (z := xx * 11) xnm0 xnm0 (by omega)) ?_
  refine xg_t (xg_iload (va := (0, yy)) rfl rfl) ?_
  refine xg_t (xg_iadd (u := xx * 11) (v := yy) (z := (xx * 11) + yy) xnm0 xnm0 (by omega)) ?_
  refine xg_t (xg_bip) ?_
  refine xg_t (xg_imul (u := (xx * 11) + yy) (v := 11) (z := ((xx * 11) + yy) * 11) xnm0 xnm0 (by omega)) ?_
  refine xg_t (xg_iload (va := (0, wi)) rfl rfl) ?_
  refine xg_t (xg_iadd (u := ((xx * 11) + yy) * 11) (v := wi) (z := (((xx * 11) + yy) * 11) + wi) xnm0 xnm0 (by omega)) ?_
  refine xg_t (xg_bip) ?_
  refine xg_t (xg_imul (u := (((xx * 11) + yy) * 11) + wi) (v := 11) (z := ((((xx * 11) + yy) * 11) + wi) * 11) xnm0 xnm0 (by omega)) ?_
  refine xg_t (xg_iload (va := (0, hi)) rfl rfl) ?_
  refine xg_t (xg_iadd (u := ((((xx * 11) + yy) * 11) + wi) * 11) (v := hi) (z := (((((xx * 11) + yy) * 11) + wi) * 11) + hi) xnm0 xnm0 (by omega)) ?_
  exact xg_e ⟨rfl, rfl⟩
theorem smW_fr {S : List Nat} {w w' : List (List xE)} (h : xFr S w w') (h1 : 82 ∉ S) (h2 : 108 ∉ S) : smW w' = smW w := by
  unfold smW rwv
  rw [fld_fr h h1, h.1 108 h2]
theorem mHasFlaw {xx yy wi hi : Nat} (hI : xMnv w) (hxx : xx ≤ 10) (hyy : yy ≤ 10) (hwi : wi ≤ 10) (hhi : hi ≤ 10) (hxw : xx + wi ≤ 10) (hyh : yy + hi ≤ 10) (h1w : 1 ≤ wi) (h1h : 1 ≤ hi) : xPi (d + 1) mX12_hasFlaw [(2, 82), (0, xx), (0, yy), (0, wi), (0, hi)] w bd fc rr (fun n w' => (n ≤ 1) ∧ xMnv w' ∧ xFr [] w w') := by
  refine xPi.of ?_
  show xTo (d + 1) mX12_hasFlaw (0, [], [(0, (2, 82)), (1, (0, xx)), (2, (0, yy)), (3, (0, wi)), (4, (0, hi))], [], (w, bd, fc, 0, 0, rr)) (fun φ => ∃ n w', xEnd 4 [(0, n)] (w', bd, fc, 0, 0, rr) φ ∧ (n ≤ 1) ∧ xMnv w' ∧ xFr [] w w')
  refine xoCh82 (xqc82 hI : cp82 (wget w 82)) (fun f82_1 f82_3 f82_5 f82_7 f82_9 f82_11 f82_13 f82_15 f82_17 f82_19 f82_21 f82_22 f82_23 f82_25 f82_27 f82_29 h82_31 hb2 hb4 hb6 hb8 hb10 hb12 hb14 hb16 hb18 hb20 hb24 hb26 hb28 hb30 hb32 => ?_)
  refine xoX83 (xqc83 hI : cpx83 (wget w 83)) (fun g83_33 h83_34 hb35 hx36 => ?_)
  refine xg_t (xg_blq rfl) ?_
  refine xg_t (xg_const) ?_
  refine xg_t (xg_istore (l1 := [(0, (2, 82)), (1, (0, xx)), (2, (0, yy)), (3, (0, wi)), (4, (0, hi))]) rfl rfl rfl) ?_
  refine xg_t (xg_const) ?_
  refine xg_t (xg_istore (l1 := [(5, (0, 0)), (0, (2, 82)), (1, (0, xx)), (2, (0, yy)), (3, (0, wi)), (4, (0, hi))]) rfl rfl rfl) ?_
  refine xg_t (xg_drop (l1 := [(0, (2, 82)), (1, (0, xx)), (2, (0, yy)), (3, (0, wi)), (4, (0, hi)), (5, (0, 0)), (6, (0, 0))]) (List.forall_mem_cons.mpr ⟨List.mem_cons_of_mem _ (List.mem_cons_of_mem _ (List.mem_cons_self)), List.forall_mem_cons.mpr ⟨List.mem_cons_of_mem _ (List.mem_cons_of_mem _ (List.mem_cons_of_mem _ (List.mem_cons_self))), List.forall_mem_cons.mpr ⟨List.mem_cons_of_mem _ (List.mem_cons_of_mem _ (List.mem_cons_of_mem _ (List.mem_cons_of_mem _ (List.mem_cons_self)))), List.forall_mem_cons.mpr ⟨List.mem_cons_of_mem _ (List.mem_cons_of_mem _ (List.mem_cons_of_mem _ (List.mem_cons_of_mem _ (List.mem_cons_of_mem _ (List.mem_cons_self))))), List.forall_mem_cons.mpr ⟨List.mem_cons_of_mem _ (List.mem_cons_of_mem _ (List.mem_cons_of_mem _ (List.mem_cons_of_mem _ (List.mem_cons_of_mem _ (List.mem_cons_of_mem _ (List.mem_cons_self)))))), List.forall_mem_cons.mpr ⟨List.mem_cons_of_mem _ (List.mem_cons_self), List.forall_mem_cons.mpr ⟨List.mem_cons_self, fun _ h => absurd h List.not_mem_nil⟩⟩⟩⟩⟩⟩⟩)) ?_
  have key37 : ∀ (m39 : Nat) (is_ ki : Nat) (w40 : List (List xE)), 20 - ki < m39 → is_ ≤ 1 → ki ≤ 20 → xMnv w40 → xFr [] w w40 → xTo (d + 1) mX12_hasFlaw (6, [], [(0, (2, 82)), (1, (0, xx)), (2, (0, yy)), (3, (0, wi)), (4, (0, hi)), (5, (0, is_)), (6, (0, ki))], [], (w40, bd, fc, 0, 0, rr)) (fun φ => ∃ n w', xEnd 4 [(0, n)] (w', bd, fc, 0, 0, rr) φ ∧ (n ≤ 1) ∧ xMnv w' ∧ xFr [] w w') := by
    intro m39
    induction m39 with
    | zero => intro is_ ki w40 hz; exact absurd hz (Nat.not_lt_zero _)
    | succ m39 ih38 =>
      intro is_ ki w40 hm45 hn43 hn44 hI41 hF42
      refine xg_t (xg_blq rfl) ?_
      refine xg_t (xg_iload (va := (0, ki)) rfl rfl) ?_
      refine xg_t (xg_aload (va := (2, 82)) rfl rfl) ?_
      refine xg_t (xg_getf (va := (2, 83)) (hF42.get (by decide) h82_31) rfl) ?_
      refine xg_t (xg_const) ?_
      refine xg_ialdB (n := 4) (B := 4294967295) (h83_34.fr hF42 (by decide)) (hb35) xnm0 (by first | decide | omega) (fun u46 hu47 he48 => ?_)
      have hl49 : u46 ≤ 20 := by rw [← he48]; exact hx36.l4
      by_cases hc50 : ki < u46
      · refine xg_t (xg_icF (u := ki) (v := u46) rfl xnm0 xnm0 (xj_geF hc50 (by omega))) ?_
        refine xg_t (xg_iload (va := (0, is_)) rfl rfl) ?_
        by_cases hc51 : is_ = 0
        · refine xg_t (xg_ifF (u := is_) rfl xnm0 (xj_neF hc51)) ?_
          refine xg_t (xg_aload (va := (2, 82)) rfl rfl) ?_
          refine xg_t (xg_getf (va := (2, 83)) (hF42.get (by decide) h82_31) rfl) ?_
          refine xg_t (xg_bip) ?_
          refine xg_t (xg_const) ?_
          refine xg_t (xg_iload (va := (0, ki)) rfl rfl) ?_
          refine xg_t (xg_imul (u := 2) (v := ki) (z := 2 * ki) xnm0 xnm0 (by omega)) ?_
          refine xg_t (xg_iadd (u := 100) (v := 2 * ki) (z := 100 + (2 * ki)) xnm0 xnm0 (by omega)) ?_
          refine xg_ialdB (n := 100 + (2 * ki)) (B := 4294967295) (h83_34.fr hF42 (by decide)) (hb35) xnm0 (by omega) (fun u52 hu53 he54 => ?_)
          refine xg_t (xg_iload (va := (0, xx)) rfl rfl) ?_
          refine xg_t (xg_iload (va := (0, xx)) rfl rfl) ?_
          refine xg_t (xg_iload (va := (0, wi)) rfl rfl) ?_
          refine xg_t (xg_iadd (u := xx) (v := wi) (z := xx + wi) xnm0 xnm0 (by omega)) ?_
          refine xg_t (xg_const) ?_
          refine xg_t (xg_isub (u := xx + wi) (v := 1) (z := (xx + wi) - 1) xnm0 xnm0 (by omega)) ?_
          refine xg_t (xg_cSr mX12_isIn (vs := [(0, u52), (0, xx), (0, (xx + wi) - 1)]) (rest := []) (rs := [(0, if xx ≤ u52 ∧ u52 ≤ (xx + wi) - 1 then 1 else 0)]) (cn1 := 0) (sl1 := 0) rfl (mIsIn (by omega) (by omega) (by omega)) rfl rfl rfl rfl rfl rfl rfl rfl) ?_
          by_cases hc55 : xx ≤ u52 ∧ u52 ≤ (xx + wi) - 1
          · refine xg_t (xg_ifF (u := (if xx ≤ u52 ∧ u52 ≤ (xx + wi) - 1 then 1 else 0)) rfl xnm0 (xj_eqF (xite1 hc55))) ?_
            refine xg_t (xg_aload (va := (2, 82)) rfl rfl) ?_
            refine xg_t (xg_getf (va := (2, 83)) (hF42.get (by decide) h82_31) rfl) ?_
            refine xg_t (xg_bip) ?_
            refine xg_t (xg_const) ?_
            refine xg_t (xg_iload (va := (0, ki)) rfl rfl) ?_
            refine xg_t (xg_imul (u := 2) (v := ki) (z := 2 * ki) xnm0 xnm0 (by omega)) ?_
            refine xg_t (xg_iadd (u := 100) (v := 2 * ki) (z := 100 + (2 * ki)) xnm0 xnm0 (by omega)) ?_
            refine xg_t (xg_const) ?_
            refine xg_t (xg_iadd (u := 100 + (2 * ki)) (v := 1) (z := (100 + (2 * ki)) + 1) xnm0 xnm0 (by omega)) ?_
            refine xg_ialdB (n := (100 + (2 * ki)) + 1) (B := 4294967295) (h83_34.fr hF42 (by decide)) (hb35) xnm0 (by omega) (fun u56 hu57 he58 => ?_)
            refine xg_t (xg_iload (va := (0, yy)) rfl rfl) ?_
            refine xg_t (xg_iload (va := (0, yy)) rfl rfl) ?_
            refine xg_t (xg_iload (va := (0, hi)) rfl rfl) ?_
            refine xg_t (xg_iadd (u := yy) (v := hi) (z := yy + hi) xnm0 xnm0 (by omega)) ?_
            refine xg_t (xg_const) ?_
            refine xg_t (xg_isub (u := yy + hi) (v := 1) (z := (yy + hi) - 1) xnm0 xnm0 (by omega)) ?_
            refine xg_t (xg_cSr mX12_isIn (vs := [(0, u56), (0, yy), (0, (yy + hi) - 1)]) (rest := []) (rs := [(0, if yy ≤ u56 ∧ u56 ≤ (yy + hi) - 1 then 1 else 0)]) (cn1 := 0) (sl1 := 0) rfl (mIsIn (by omega) (by omega) (by omega)) rfl rfl rfl rfl rfl rfl rfl rfl) ?_
            by_cases hc59 : yy ≤ u56 ∧ u56 ≤ (yy + hi) - 1
            · refine xg_t (xg_ifF (u := (if yy ≤ u56 ∧ u56 ≤ (yy + hi) - 1 then 1 else 0)) rfl xnm0 (xj_eqF (xite1 hc59))) ?_
              refine xg_t (xg_const) ?_
              refine xg_t (xg_goto) ?_
              refine xg_t (xg_blq rfl) ?_
              refine xg_t (xg_istore (l1 := [(0, (2, 82)), (1, (0, xx)), (2, (0, yy)), (3, (0, wi)), (4, (0, hi)), (6, (0, ki))]) rfl rfl rfl) ?_
              refine xg_t (xg_iinc (u := ki) (z := ki + 1) (l1 := [(5, (0, 1)), (0, (2, 82)), (1, (0, xx)), (2, (0, yy)), (3, (0, wi)), (4, (0, hi))]) rfl rfl (by omega) rfl) ?_
              refine xg_t (xg_goto) ?_
              refine xg_t (xg_drop (l1 := [(0, (2, 82)), (1, (0, xx)), (2, (0, yy)), (3, (0, wi)), (4, (0, hi)), (5, (0, 1)), (6, (0, ki + 1))]) (List.forall_mem_cons.mpr ⟨List.mem_cons_of_mem _ (List.mem_cons_of_mem _ (List.mem_cons_self)), List.forall_mem_cons.mpr ⟨List.mem_cons_of_mem _ (List.mem_cons_of_mem _ (List.mem_cons_of_mem _ (List.mem_cons_self))), List.forall_mem_cons.mpr ⟨List.mem_cons_of_mem _ (List.mem_cons_of_mem _ (List.mem_cons_of_mem _ (List.mem_cons_of_mem _ (List.mem_cons_self)))), List.forall_mem_cons.mpr ⟨List.mem_cons_of_mem _ (List.mem_cons_of_mem _ (List.mem_cons_of_mem _ (List.mem_cons_of_mem _ (List.mem_cons_of_mem _ (List.mem_cons_self))))), List.forall_mem_cons.mpr ⟨List.mem_cons_of_mem _ (List.mem_cons_of_mem _ (List.mem_cons_of_mem _ (List.mem_cons_of_mem _ (List.mem_cons_of_mem _ (List.mem_cons_of_mem _ (List.mem_cons_self)))))), List.forall_mem_cons.mpr ⟨List.mem_cons_of_mem _ (List.mem_cons_self), List.forall_mem_cons.mpr ⟨List.mem_cons_self, fun _ h => absurd h List.not_mem_nil⟩⟩⟩⟩⟩⟩⟩)) ?_
              exact ih38 1 (ki + 1) w40 (by omega) (by omega) (by omega) (hI41) (hF42)
            · refine xg_t (xg_ifT (u := (if yy ≤ u56 ∧ u56 ≤ (yy + hi) - 1 then 1 else 0)) rfl xnm0 (xj_eqT (xite0 hc59))) ?_
              refine xg_t (xg_blq rfl) ?_
              refine xg_t (xg_const) ?_
              refine xg_t (xg_blq rfl) ?_
              refine xg_t (xg_istore (l1 := [(0, (2, 82)), (1, (0, xx)), (2, (0, yy)), (3, (0, wi)), (4, (0, hi)), (6, (0, ki))]) rfl rfl rfl) ?_
              refine xg_t (xg_iinc (u := ki) (z := ki + 1) (l1 := [(5, (0, 0)), (0, (2, 82)), (1, (0, xx)), (2, (0, yy)), (3, (0, wi)), (4, (0, hi))]) rfl rfl (by omega) rfl) ?_
              refine xg_t (xg_goto) ?_
              refine xg_t (xg_drop (l1 := [(0, (2, 82)), (1, (0, xx)), (2, (0, yy)), (3, (0, wi)), (4, (0, hi)), (5, (0, 0)), (6, (0, ki + 1))]) (List.forall_mem_cons.mpr ⟨List.mem_cons_of_mem _ (List.mem_cons_of_mem _ (List.mem_cons_self)), List.forall_mem_cons.mpr ⟨List.mem_cons_of_mem _ (List.mem_cons_of_mem _ (List.mem_cons_of_mem _ (List.mem_cons_self))), List.forall_mem_cons.mpr ⟨List.mem_cons_of_mem _ (List.mem_cons_of_mem _ (List.mem_cons_of_mem _ (List.mem_cons_of_mem _ (List.mem_cons_self)))), List.forall_mem_cons.mpr ⟨List.mem_cons_of_mem _ (List.mem_cons_of_mem _ (List.mem_cons_of_mem _ (List.mem_cons_of_mem _ (List.mem_cons_of_mem _ (List.mem_cons_self))))), List.forall_mem_cons.mpr ⟨List.mem_cons_of_mem _ (List.mem_cons_of_mem _ (List.mem_cons_of_mem _ (List.mem_cons_of_mem _ (List.mem_cons_of_mem _ (List.mem_cons_of_mem _ (List.mem_cons_self)))))), List.forall_mem_cons.mpr ⟨List.mem_cons_of_mem _ (List.mem_cons_self), List.forall_mem_cons.mpr ⟨List.mem_cons_self, fun _ h => absurd h List.not_mem_nil⟩⟩⟩⟩⟩⟩⟩)) ?_
              exact ih38 0 (ki + 1) w40 (by omega) (by omega) (by omega) (hI41) (hF42)
          · refine xg_t (xg_ifT (u := (if xx ≤ u52 ∧ u52 ≤ (xx + wi) - 1 then 1 else 0)) rfl xnm0 (xj_eqT (xite0 hc55))) ?_
            refine xg_t (xg_blq rfl) ?_
            refine xg_t (xg_const) ?_
            refine xg_t (xg_blq rfl) ?_
            refine xg_t (xg_istore (l1 := [(0, (2, 82)), (1, (0, xx)), (2, (0, yy)), (3, (0, wi)), (4, (0, hi)), (6, (0, ki))]) rfl rfl rfl) ?_
            refine xg_t (xg_iinc (u := ki) (z := ki + 1) (l1 := [(5, (0, 0)), (0, (2, 82)), (1, (0, xx)), (2, (0, yy)), (3, (0, wi)), (4, (0, hi))]) rfl rfl (by omega) rfl) ?_
            refine xg_t (xg_goto) ?_
            refine xg_t (xg_drop (l1 := [(0, (2, 82)), (1, (0, xx)), (2, (0, yy)), (3, (0, wi)), (4, (0, hi)), (5, (0, 0)), (6, (0, ki + 1))]) (List.forall_mem_cons.mpr ⟨List.mem_cons_of_mem _ (List.mem_cons_of_mem _ (List.mem_cons_self)), List.forall_mem_cons.mpr ⟨List.mem_cons_of_mem _ (List.mem_cons_of_mem _ (List.mem_cons_of_mem _ (List.mem_cons_self))), List.forall_mem_cons.mpr ⟨List.mem_cons_of_mem _ (List.mem_cons_of_mem _ (List.mem_cons_of_mem _ (List.mem_cons_of_mem _ (List.mem_cons_self)))), List.forall_mem_cons.mpr ⟨List.mem_cons_of_mem _ (List.mem_cons_of_mem _ (List.mem_cons_of_mem _ (List.mem_cons_of_mem _ (List.mem_cons_of_mem _ (List.mem_cons_self))))), List.forall_mem_cons.mpr ⟨List.mem_cons_of_mem _ (List.mem_cons_of_mem _ (List.mem_cons_of_mem _ (List.mem_cons_of_mem _ (List.mem_cons_of_mem _ (List.mem_cons_of_mem _ (List.mem_cons_self)))))), List.forall_mem_cons.mpr ⟨List.mem_cons_of_mem _ (List.mem_cons_self), List.forall_mem_cons.mpr ⟨List.mem_cons_self, fun _ h => absurd h List.not_mem_nil⟩⟩⟩⟩⟩⟩⟩)) ?_
            exact ih38 0 (ki + 1) w40 (by omega) (by omega) (by omega) (hI41) (hF42)
        · refine xg_t (xg_ifT (u := is_) rfl xnm0 (xj_neT hc51)) ?_
          refine xg_t (xg_blq rfl) ?_
          refine xg_t (xg_iload (va := (0, is_)) rfl rfl) ?_
          exact xg_e ⟨is_, w40, ⟨xret_b (by omega), rfl⟩, by omega, hI41, hF42⟩
      · refine xg_t (xg_icT (u := ki) (v := u46) rfl xnm0 xnm0 (xj_geT (by omega) (by omega))) ?_
        refine xg_t (xg_blq rfl) ?_
        refine xg_t (xg_iload (va := (0, is_)) rfl rfl) ?_
        exact xg_e ⟨is_, w40, ⟨xret_b (by omega), rfl⟩, by omega, hI41, hF42⟩
  exact key37 _ 0 0 w (Nat.lt_succ_self _) (by omega) (by omega) (hI) (xFr.rf)
theorem mPanelOf {xx yy wi hi : Nat} (hI : xMnv w) (hxx : xx ≤ 10) (hyy : yy ≤ 10) (hwi : wi ≤ 10) (hhi : hi ≤ 10) : xPi (d + 1) mX12_panelOf [(2, 82), (0, xx), (0, yy), (0, wi), (0, hi)] w bd fc rr (fun n w' => (n = 4294967295 ∨ n ≤ 3) ∧ xMnv w' ∧ xFr [] w w') := by
  refine xPi.of ?_
  show xTo (d + 1) mX12_panelOf (0, [], [(0, (2, 82)), (1, (0, xx)), (2, (0, yy)), (3, (0, wi)), (4, (0, hi))], [], (w, bd, fc, 0, 0, rr)) (fun φ => ∃ n w', xEnd 1 [(0, n)] (w', bd, fc, 0, 0, rr) φ ∧ (n = 4294967295 ∨ n ≤ 3) ∧ xMnv w' ∧ xFr [] w w')
  refine xoCh82 (xqc82 hI : cp82 (wget w 82)) (fun f82_1 f82_3 f82_5 f82_7 f82_9 f82_11 f82_13 f82_15 f82_17 f82_19 f82_21 f82_22 f82_23 f82_25 f82_27 f82_29 h82_31 hb2 hb4 hb6 hb8 hb10 hb12 hb14 hb16 hb18 hb20 hb24 hb26 hb28 hb30 hb32 => ?_)
  refine xoX83 (xqc83 hI : cpx83 (wget w 83)) (fun g83_33 h83_34 hb35 hx36 => ?_)
  obtain ⟨g107_37, h107_38, hb39⟩ := (xqc107 hI : cpK 2 0 14641 74 1 (wget w 107))
  have h107_38 : xRk 2 0 w 107 14641 74 g107_37 := h107_38
  refine xg_t (xg_blq rfl) ?_
  refine xg_t (xg_const) ?_
  refine xg_t (xg_istore (l1 := [(0, (2, 82)), (1, (0, xx)), (2, (0, yy)), (3, (0, wi)), (4, (0, hi))]) rfl rfl rfl) ?_
  refine xg_t (xg_const) ?_
  refine xg_t (xg_istore (l1 := [(5, (0, 4294967295)), (0, (2, 82)), (1, (0, xx)), (2, (0, yy)), (3, (0, wi)), (4, (0, hi))]) rfl rfl rfl) ?_
  refine xg_t (xg_drop (l1 := [(0, (2, 82)), (1, (0, xx)), (2, (0, yy)), (3, (0, wi)), (4, (0, hi)), (5, (0, 4294967295)), (6, (0, 0))]) (List.forall_mem_cons.mpr ⟨List.mem_cons_of_mem _ (List.mem_cons_of_mem _ (List.mem_cons_self)), List.forall_mem_cons.mpr ⟨List.mem_cons_of_mem _ (List.mem_cons_of_mem _ (List.mem_cons_of_mem _ (List.mem_cons_self))), List.forall_mem_cons.mpr ⟨List.mem_cons_of_mem _ (List.mem_cons_of_mem _ (List.mem_cons_of_mem _ (List.mem_cons_of_mem _ (List.mem_cons_self)))), List.forall_mem_cons.mpr ⟨List.mem_cons_of_mem _ (List.mem_cons_of_mem _ (List.mem_cons_of_mem _ (List.mem_cons_of_mem _ (List.mem_cons_of_mem _ (List.mem_cons_self))))), List.forall_mem_cons.mpr ⟨List.mem_cons_of_mem _ (List.mem_cons_of_mem _ (List.mem_cons_of_mem _ (List.mem_cons_of_mem _ (List.mem_cons_of_mem _ (List.mem_cons_of_mem _ (List.mem_cons_self)))))), List.forall_mem_cons.mpr ⟨List.mem_cons_of_mem _ (List.mem_cons_self), List.forall_mem_cons.mpr ⟨List.mem_cons_self, fun _ h => absurd h List.not_mem_nil⟩⟩⟩⟩⟩⟩⟩)) ?_
  have key40 : ∀ (m42 : Nat) (bp ki : Nat) (w43 : List (List xE)), 4 - ki < m42 → bp ≤ 4294967295 → ki ≤ 4 → xMnv w43 → xFr [] w w43 → (bp = 4294967295 ∨ bp ≤ 3) → xTo (d + 1) mX12_panelOf (6, [], [(0, (2, 82)), (1, (0, xx)), (2, (0, yy)), (3, (0, wi)), (4, (0, hi)), (5, (0, bp)), (6, (0, ki))], [], (w43, bd, fc, 0, 0, rr)) (fun φ => ∃ n w', xEnd 1 [(0, n)] (w', bd, fc, 0, 0, rr) φ ∧ (n = 4294967295 ∨ n ≤ 3) ∧ xMnv w' ∧ xFr [] w w') := by
    intro m42
    induction m42 with
    | zero => intro bp ki w43 hz; exact absurd hz (Nat.not_lt_zero _)
    | succ m42 ih41 =>
      intro bp ki w43 hm49 hn46 hn47 hI44 hF45 he48
      refine xg_t (xg_blq rfl) ?_
      refine xg_t (xg_iload (va := (0, ki)) rfl rfl) ?_
      refine xg_t (xg_aload (va := (2, 82)) rfl rfl) ?_
      refine xg_t (xg_getf (va := (2, 83)) (hF45.get (by decide) h82_31) rfl) ?_
      refine xg_t (xg_const) ?_
      refine xg_ialdB (n := 3) (B := 4294967295) (h83_34.fr hF45 (by decide)) (hb35) xnm0 (by first | decide | omega) (fun u50 hu51 he52 => ?_)
      have hl53 : u50 ≤ 4 := by rw [← he52]; exact hx36.l3
      by_cases hc54 : ki < u50
      · refine xg_t (xg_icF (u := ki) (v := u50) rfl xnm0 xnm0 (xj_geF hc54 (by omega))) ?_
        refine xg_t (xg_bip) ?_
        refine xg_t (xg_const) ?_
        refine xg_t (xg_iload (va := (0, ki)) rfl rfl) ?_
        refine xg_t (xg_imul (u := 3) (v := ki) (z := 3 * ki) xnm0 xnm0 (by omega)) ?_
        refine xg_t (xg_iadd (u := 80) (v := 3 * ki) (z := 80 + (3 * ki)) xnm0 xnm0 (by omega)) ?_
        refine xg_t (xg_istore (l1 := [(0, (2, 82)), (1, (0, xx)), (2, (0, yy)), (3, (0, wi)), (4, (0, hi)), (5, (0, bp)), (6, (0, ki))]) rfl rfl rfl) ?_
        refine xg_t (xg_aload (va := (2, 82)) rfl rfl) ?_
        refine xg_t (xg_getf (va := (2, 83)) (hF45.get (by decide) h82_31) rfl) ?_
        refine xg_t (xg_iload (va := (0, 80 + (3 * ki))) rfl rfl) ?_
        refine xg_ialdB (n := 80 + (3 * ki)) (B := 4294967295) (h83_34.fr hF45 (by decide)) (hb35) xnm0 (by omega) (fun u55 hu56 he57 => ?_)
        refine xg_t (xg_iload (va := (0, wi)) rfl rfl) ?_
        by_cases hc58 : u55 = wi
        · refine xg_t (xg_icF (u := u55) (v := wi) rfl xnm0 xnm0 (xj_neF hc58)) ?_
          refine xg_t (xg_aload (va := (2, 82)) rfl rfl) ?_
          refine xg_t (xg_getf (va := (2, 83)) (hF45.get (by decide) h82_31) rfl) ?_
          refine xg_t (xg_iload (va := (0, 80 + (3 * ki))) rfl rfl) ?_
          refine xg_t (xg_const) ?_
          refine xg_t (xg_iadd (u := 80 + (3 * ki)) (v := 1) (z := (80 + (3 * ki)) + 1) xnm0 xnm0 (by omega)) ?_
          refine xg_ialdB (n := (80 + (3 * ki)) + 1) (B := 4294967295) (h83_34.fr hF45 (by decide)) (hb35) xnm0 (by omega) (fun u59 hu60 he61 => ?_)
          refine xg_t (xg_iload (va := (0, hi)) rfl rfl) ?_
          by_cases hc62 : u59 = hi
          · refine xg_t (xg_icT (u := u59) (v := hi) rfl xnm0 xnm0 (xj_eqT hc62)) ?_
            refine xg_t (xg_blq rfl) ?_
            refine xg_t (xg_iload (va := (0, bp)) rfl rfl) ?_
            by_cases hc63 : bp < 2147483648
            · have hn64 : bp ≤ 3 := by omega
              refine xg_t (xg_ifF (u := bp) rfl xnm0 (xjz_ltF hc63)) ?_
              refine xg_t (xg_aload (va := (2, 82)) rfl rfl) ?_
              refine xg_t (xg_getf (va := (2, 83)) (hF45.get (by decide) h82_31) rfl) ?_
              refine xg_t (xg_iload (va := (0, 80 + (3 * ki))) rfl rfl) ?_
              refine xg_t (xg_const) ?_
              refine xg_t (xg_iadd (u := 80 + (3 * ki)) (v := 2) (z := (80 + (3 * ki)) + 2) xnm0 xnm0 (by omega)) ?_
              refine xg_ialdB (n := (80 + (3 * ki)) + 2) (B := 4294967295) (h83_34.fr hF45 (by decide)) (hb35) xnm0 (by omega) (fun u65 hu66 he67 => ?_)
              refine xg_t (xg_aload (va := (2, 82)) rfl rfl) ?_
              refine xg_t (xg_getf (va := (2, 83)) (hF45.get (by decide) h82_31) rfl) ?_
              refine xg_t (xg_bip) ?_
              refine xg_t (xg_const) ?_
              refine xg_t (xg_iload (va := (0, bp)) rfl rfl) ?_
              refine xg_t (xg_imul (u := 3) (v := bp) (z := 3 * bp) xnm0 xnm0 (by omega)) ?_
              refine xg_t (xg_iadd (u := 80) (v := 3 * bp) (z := 80 + (3 * bp)) xnm0 xnm0 (by omega)) ?_
              refine xg_t (xg_const) ?_
              refine xg_t (xg_iadd (u := 80 + (3 * bp)) (v := 2) (z := (80 + (3 * bp)) + 2) xnm0 xnm0 (by omega)) ?_
              refine xg_ialdB (n := (80 + (3 * bp)) + 2) (B := 4294967295) (h83_34.fr hF45 (by decide)) (hb35) xnm0 (by omega) (fun u68 hu69 he70 => ?_)
              by_cases hc71 : xbs u68 < xbs u65
              · have hc71u := hc71
                unfold xbs at hc71u
                refine xg_t (xg_icF (u := u65) (v := u68) rfl xnm0 xnm0 (xjs_leF hc71)) ?_
                refine xg_t (xg_blq rfl) ?_
                refine xg_t (xg_iload (va := (0, ki)) rfl rfl) ?_
                refine xg_t (xg_istore (l1 := [(7, (0, 80 + (3 * ki))), (0, (2, 82)), (1, (0, xx)), (2, (0, yy)), (3, (0, wi)), (4, (0, hi)), (6, (0, ki))]) rfl rfl rfl) ?_
                refine xg_t (xg_blq rfl) ?_
                refine xg_t (xg_iinc (u := ki) (z := ki + 1) (l1 := [(5, (0, ki)), (7, (0, 80 + (3 * ki))), (0, (2, 82)), (1, (0, xx)), (2, (0, yy)), (3, (0, wi)), (4, (0, hi))]) rfl rfl (by omega) rfl) ?_
                refine xg_t (xg_goto) ?_
                refine xg_t (xg_drop (l1 := [(0, (2, 82)), (1, (0, xx)), (2, (0, yy)), (3, (0, wi)), (4, (0, hi)), (5, (0, ki)), (6, (0, ki + 1))]) (List.forall_mem_cons.mpr ⟨List.mem_cons_of_mem _ (List.mem_cons_of_mem _ (List.mem_cons_of_mem _ (List.mem_cons_self))), List.forall_mem_cons.mpr ⟨List.mem_cons_of_mem _ (List.mem_cons_of_mem _ (List.mem_cons_of_mem _ (List.mem_cons_of_mem _ (List.mem_cons_self)))), List.forall_mem_cons.mpr ⟨List.mem_cons_of_mem _ (List.mem_cons_of_mem _ (List.mem_cons_of_mem _ (List.mem_cons_of_mem _ (List.mem_cons_of_mem _ (List.mem_cons_self))))), List.forall_mem_cons.mpr ⟨List.mem_cons_of_mem _ (List.mem_cons_of_mem _ (List.mem_cons_of_mem _ (List.mem_cons_of_mem _ (List.mem_cons_of_mem _ (List.mem_cons_of_mem _ (List.mem_cons_self)))))), List.forall_mem_cons.mpr ⟨List.mem_cons_of_mem _ (List.mem_cons_of_mem _ (List.mem_cons_of_mem _ (List.mem_cons_of_mem _ (List.mem_cons_of_mem _ (List.mem_cons_of_mem _ (List.mem_cons_of_mem _ (List.mem_cons_self))))))), List.forall_mem_cons.mpr ⟨List.mem_cons_of_mem _ (List.mem_cons_self), List.forall_mem_cons.mpr ⟨List.mem_cons_self, fun _ h => absurd h List.not_mem_nil⟩⟩⟩⟩⟩⟩⟩)) ?_
                exact ih41 ki (ki + 1) w43 (by omega) (by omega) (by omega) (hI44) (hF45) (by omega)
              · have hc71u := hc71
                unfold xbs at hc71u
                refine xg_t (xg_icT (u := u65) (v := u68) rfl xnm0 xnm0 (xjs_leT hc71)) ?_
                refine xg_t (xg_blq rfl) ?_
                refine xg_t (xg_iinc (u := ki) (z := ki + 1) (l1 := [(7, (0, 80 + (3 * ki))), (0, (2, 82)), (1, (0, xx)), (2, (0, yy)), (3, (0, wi)), (4, (0, hi)), (5, (0, bp))]) rfl rfl (by omega) rfl) ?_
                refine xg_t (xg_goto) ?_
                refine xg_t (xg_drop (l1 := [(0, (2, 82)), (1, (0, xx)), (2, (0, yy)), (3, (0, wi)), (4, (0, hi)), (5, (0, bp)), (6, (0, ki + 1))]) (List.forall_mem_cons.mpr ⟨List.mem_cons_of_mem _ (List.mem_cons_of_mem _ (List.mem_cons_self)), List.forall_mem_cons.mpr ⟨List.mem_cons_of_mem _ (List.mem_cons_of_mem _ (List.mem_cons_of_mem _ (List.mem_cons_self))), List.forall_mem_cons.mpr ⟨List.mem_cons_of_mem _ (List.mem_cons_of_mem _ (List.mem_cons_of_mem _ (List.mem_cons_of_mem _ (List.mem_cons_self)))), List.forall_mem_cons.mpr ⟨List.mem_cons_of_mem _ (List.mem_cons_of_mem _ (List.mem_cons_of_mem _ (List.mem_cons_of_mem _ (List.mem_cons_of_mem _ (List.mem_cons_self))))), List.forall_mem_cons.mpr ⟨List.mem_cons_of_mem _ (List.mem_cons_of_mem _ (List.mem_cons_of_mem _ (List.mem_cons_of_mem _ (List.mem_cons_of_mem _ (List.mem_cons_of_mem _ (List.mem_cons_self)))))), List.forall_mem_cons.mpr ⟨List.mem_cons_of_mem _ (List.mem_cons_of_mem _ (List.mem_cons_of_mem _ (List.mem_cons_of_mem _ (List.mem_cons_of_mem _ (List.mem_cons_of_mem _ (List.mem_cons_of_mem _ (List.mem_cons_self))))))), List.forall_mem_cons.mpr ⟨List.mem_cons_self, fun _ h => absurd h List.not_mem_nil⟩⟩⟩⟩⟩⟩⟩)) ?_
                exact ih41 bp (ki + 1) w43 (by omega) (by omega) (by omega) (hI44) (hF45) (by omega)
            · refine xg_t (xg_ifT (u := bp) rfl xnm0 (xjz_ltT (by omega) (by omega))) ?_
              refine xg_t (xg_blq rfl) ?_
              refine xg_t (xg_iload (va := (0, ki)) rfl rfl) ?_
              refine xg_t (xg_istore (l1 := [(7, (0, 80 + (3 * ki))), (0, (2, 82)), (1, (0, xx)), (2, (0, yy)), (3, (0, wi)), (4, (0, hi)), (6, (0, ki))]) rfl rfl rfl) ?_
              refine xg_t (xg_blq rfl) ?_
              refine xg_t (xg_iinc (u := ki) (z := ki + 1) (l1 := [(5, (0, ki)), (7, (0, 80 + (3 * ki))), (0, (2, 82)), (1, (0, xx)), (2, (0, yy)), (3, (0, wi)), (4, (0, hi))]) rfl rfl (by omega) rfl) ?_
              refine xg_t (xg_goto) ?_
              refine xg_t (xg_drop (l1 := [(0, (2, 82)), (1, (0, xx)), (2, (0, yy)), (3, (0, wi)), (4, (0, hi)), (5, (0, ki)), (6, (0, ki + 1))]) (List.forall_mem_cons.mpr ⟨List.mem_cons_of_mem _ (List.mem_cons_of_mem _ (List.mem_cons_of_mem _ (List.mem_cons_self))), List.forall_mem_cons.mpr ⟨List.mem_cons_of_mem _ (List.mem_cons_of_mem _ (List.mem_cons_of_mem _ (List.mem_cons_of_mem _ (List.mem_cons_self)))), List.forall_mem_cons.mpr ⟨List.mem_cons_of_mem _ (List.mem_cons_of_mem _ (List.mem_cons_of_mem _ (List.mem_cons_of_mem _ (List.mem_cons_of_mem _ (List.mem_cons_self))))), List.forall_mem_cons.mpr ⟨List.mem_cons_of_mem _ (List.mem_cons_of_mem _ (List.mem_cons_of_mem _ (List.mem_cons_of_mem _ (List.mem_cons_of_mem _ (List.mem_cons_of_mem _ (List.mem_cons_self)))))), List.forall_mem_cons.mpr ⟨List.mem_cons_of_mem _ (List.mem_cons_of_mem _ (List.mem_cons_of_mem _ (List.mem_cons_of_mem _ (List.mem_cons_of_mem _ (List.mem_cons_of_mem _ (List.mem_cons_of_mem _ (List.mem_cons_self))))))), List.forall_mem_cons.mpr ⟨List.mem_cons_of_mem _ (List.mem_cons_self), List.forall_mem_cons.mpr ⟨List.mem_cons_self, fun _ h => absurd h List.not_mem_nil⟩⟩⟩⟩⟩⟩⟩)) ?_
              exact ih41 ki (ki + 1) w43 (by omega) (by omega) (by omega) (hI44) (hF45) (by omega)
          · refine xg_t (xg_icF (u := u59) (v := hi) rfl xnm0 xnm0 (xj_eqF hc62)) ?_
            refine xg_t (xg_goto) ?_
            refine xg_t (xg_blq rfl) ?_
            refine xg_t (xg_iinc (u := ki) (z := ki + 1) (l1 := [(7, (0, 80 + (3 * ki))), (0, (2, 82)), (1, (0, xx)), (2, (0, yy)), (3, (0, wi)), (4, (0, hi)), (5, (0, bp))]) rfl rfl (by omega) rfl) ?_
            refine xg_t (xg_goto) ?_
            refine xg_t (xg_drop (l1 := [(0, (2, 82)), (1, (0, xx)), (2, (0, yy)), (3, (0, wi)), (4, (0, hi)), (5, (0, bp)), (6, (0, ki + 1))]) (List.forall_mem_cons.mpr ⟨List.mem_cons_of_mem _ (List.mem_cons_of_mem _ (List.mem_cons_self)), List.forall_mem_cons.mpr ⟨List.mem_cons_of_mem _ (List.mem_cons_of_mem _ (List.mem_cons_of_mem _ (List.mem_cons_self))), List.forall_mem_cons.mpr ⟨List.mem_cons_of_mem _ (List.mem_cons_of_mem _ (List.mem_cons_of_mem _ (List.mem_cons_of_mem _ (List.mem_cons_self)))), List.forall_mem_cons.mpr ⟨List.mem_cons_of_mem _ (List.mem_cons_of_mem _ (List.mem_cons_of_mem _ (List.mem_cons_of_mem _ (List.mem_cons_of_mem _ (List.mem_cons_self))))), List.forall_mem_cons.mpr ⟨List.mem_cons_of_mem _ (List.mem_cons_of_mem _ (List.mem_cons_of_mem _ (List.mem_cons_of_mem _ (List.mem_cons_of_mem _ (List.mem_cons_of_mem _ (List.mem_cons_self)))))), List.forall_mem_cons.mpr ⟨List.mem_cons_of_mem _ (List.mem_cons_of_mem _ (List.mem_cons_of_mem _ (List.mem_cons_of_mem _ (List.mem_cons_of_mem _ (List.mem_cons_of_mem _ (List.mem_cons_of_mem _ (List.mem_cons_self))))))), List.forall_mem_cons.mpr ⟨List.mem_cons_self, fun _ h => absurd h List.not_mem_nil⟩⟩⟩⟩⟩⟩⟩)) ?_
            exact ih41 bp (ki + 1) w43 (by omega) (by omega) (by omega) (hI44) (hF45) (by omega)
        · refine xg_t (xg_icT (u := u55) (v := wi) rfl xnm0 xnm0 (xj_neT hc58)) ?_
          refine xg_t (xg_blq rfl) ?_
          refine xg_t (xg_iinc (u := ki) (z := ki + 1) (l1 := [(7, (0, 80 + (3 * ki))), (0, (2, 82)), (1, (0, xx)), (2, (0, yy)), (3, (0, wi)), (4, (0, hi)), (5, (0, bp))]) rfl rfl (by omega) rfl) ?_
          refine xg_t (xg_goto) ?_
          refine xg_t (xg_drop (l1 := [(0, (2, 82)), (1, (0, xx)), (2, (0, yy)), (3, (0, wi)), (4, (0, hi)), (5, (0, bp)), (6, (0, ki + 1))]) (List.forall_mem_cons.mpr ⟨List.mem_cons_of_mem _ (List.mem_cons_of_mem _ (List.mem_cons_self)), List.forall_mem_cons.mpr ⟨List.mem_cons_of_mem _ (List.mem_cons_of_mem _ (List.mem_cons_of_mem _ (List.mem_cons_self))), List.forall_mem_cons.mpr ⟨List.mem_cons_of_mem _ (List.mem_cons_of_mem _ (List.mem_cons_of_mem _ (List.mem_cons_of_mem _ (List.mem_cons_self)))), List.forall_mem_cons.mpr ⟨List.mem_cons_of_mem _ (List.mem_cons_of_mem _ (List.mem_cons_of_mem _ (List.mem_cons_of_mem _ (List.mem_cons_of_mem _ (List.mem_cons_self))))), List.forall_mem_cons.mpr ⟨List.mem_cons_of_mem _ (List.mem_cons_of_mem _ (List.mem_cons_of_mem _ (List.mem_cons_of_mem _ (List.mem_cons_of_mem _ (List.mem_cons_of_mem _ (List.mem_cons_self)))))), List.forall_mem_cons.mpr ⟨List.mem_cons_of_mem _ (List.mem_cons_of_mem _ (List.mem_cons_of_mem _ (List.mem_cons_of_mem _ (List.mem_cons_of_mem _ (List.mem_cons_of_mem _ (List.mem_cons_of_mem _ (List.mem_cons_self))))))), List.forall_mem_cons.mpr ⟨List.mem_cons_self, fun _ h => absurd h List.not_mem_nil⟩⟩⟩⟩⟩⟩⟩)) ?_
          exact ih41 bp (ki + 1) w43 (by omega) (by omega) (by omega) (hI44) (hF45) (by omega)
      · refine xg_t (xg_icT (u := ki) (v := u50) rfl xnm0 xnm0 (xj_geT (by omega) (by omega))) ?_
        refine xg_t (xg_blq rfl) ?_
        refine xg_t (xg_iload (va := (0, bp)) rfl rfl) ?_
        by_cases hc72 : bp < 2147483648
        · have hn73 : bp ≤ 3 := by omega
          refine xg_t (xg_ifF (u := bp) rfl xnm0 (xjz_ltF hc72)) ?_
          refine xg_t (xg_aload (va := (2, 82)) rfl rfl) ?_
          refine xg_t (xg_getf (va := (2, 107)) (hF45.get (by decide) h82_31) rfl) ?_
          refine xg_t (xg_iload (va := (0, xx)) rfl rfl) ?_
          refine xg_t (xg_iload (va := (0, yy)) rfl rfl) ?_
          refine xg_t (xg_iload (va := (0, wi)) rfl rfl) ?_
          refine xg_t (xg_iload (va := (0, hi)) rfl rfl) ?_
          refine xg_t (xg_cSr mX12_at (vs := [(0, xx), (0, yy), (0, wi), (0, hi)]) (rest := [(2, 107)]) (rs := [(0, ((xx * 11 + yy) * 11 + wi) * 11 + hi), (2, 107)]) (cn1 := 0) (sl1 := 0) rfl (mAtR (by omega) (by omega) (by omega) (by omega)) rfl rfl rfl rfl rfl rfl rfl rfl) ?_
          have hl74 : ((xx * 11 + yy) * 11 + wi) * 11 + hi ≤ 14640 := by omega
          refine xg_baldB (n := ((xx * 11 + yy) * 11 + wi) * 11 + hi) (B := 1) (h107_38.fr hF45 (by decide)) rfl (hb39) xnm0 (by omega) (fun u75 hu76 he77 => ?_)
          by_cases hc78 : u75 = 0
          · refine xg_t (xg_ifT (u := u75) rfl xnm0 (xj_eqT hc78)) ?_
            refine xg_t (xg_blq rfl) ?_
            refine xg_t (xg_iload (va := (0, bp)) rfl rfl) ?_
            refine xg_t (xg_blq rfl) ?_
            exact xg_e ⟨bp, w43, ⟨rfl, rfl⟩, by omega, hI44, hF45⟩
          · refine xg_t (xg_ifF (u := u75) rfl xnm0 (xj_eqF hc78)) ?_
            refine xg_t (xg_const) ?_
            refine xg_t (xg_goto) ?_
            refine xg_t (xg_blq rfl) ?_
            exact xg_e ⟨4294967295, w43, ⟨rfl, rfl⟩, by first | decide | omega, hI44, hF45⟩
        · refine xg_t (xg_ifT (u := bp) rfl xnm0 (xjz_ltT (by omega) (by omega))) ?_
          refine xg_t (xg_blq rfl) ?_
          refine xg_t (xg_iload (va := (0, bp)) rfl rfl) ?_
          refine xg_t (xg_blq rfl) ?_
          exact xg_e ⟨bp, w43, ⟨rfl, rfl⟩, by omega, hI44, hF45⟩
  exact key40 _ 4294967295 0 w (Nat.lt_succ_self _) (by omega) (by omega) (hI) (xFr.rf) (by omega)
theorem mPieceOf {xx yy wi hi : Nat} (hI : xMnv w) (hxx : xx ≤ 10) (hyy : yy ≤ 10) (hwi : wi ≤ 10) (hhi : hi ≤ 10) (hxw : xx + wi ≤ 10) (hyh : yy + hi ≤ 10) (h1w : 1 ≤ wi) (h1h : 1 ≤ hi) : xPi (d + 2) mX12_pieceOf [(2, 82), (0, xx), (0, yy), (0, wi), (0, hi)] w bd fc rr (fun n w' => (n ≤ 4294967295) ∧ xMnv w' ∧ xFr [] w w') := by
  refine xPi.of ?_
  show xTo (d + 2) mX12_pieceOf (0, [], [(0, (2, 82)), (1, (0, xx)), (2, (0, yy)), (3, (0, wi)), (4, (0, hi))], [], (w, bd, fc, 0, 0, rr)) (fun φ => ∃ n w', xEnd 1 [(0, n)] (w', bd, fc, 0, 0, rr) φ ∧ (n ≤ 4294967295) ∧ xMnv w' ∧ xFr [] w w')
  refine xoCh82 (xqc82 hI : cp82 (wget w 82)) (fun f82_1 f82_3 f82_5 f82_7 f82_9 f82_11 f82_13 f82_15 f82_17 f82_19 f82_21 f82_22 f82_23 f82_25 f82_27 f82_29 h82_31 hb2 hb4 hb6 hb8 hb10 hb12 hb14 hb16 hb18 hb20 hb24 hb26 hb28 hb30 hb32 => ?_)
  refine xoX83 (xqc83 hI : cpx83 (wget w 83)) (fun g83_33 h83_34 hb35 hx36 => ?_)
  refine xoI (xqc106 hI : cpI 14641 73 4294967295 (wget w 106)) (fun g106_37 h106_38 hb39 => ?_)
  refine xg_t (xg_blq rfl) ?_
  refine xg_t (xg_aload (va := (2, 82)) rfl rfl) ?_
  refine xg_t (xg_iload (va := (0, xx)) rfl rfl) ?_
  refine xg_t (xg_iload (va := (0, yy)) rfl rfl) ?_
  refine xg_t (xg_iload (va := (0, wi)) rfl rfl) ?_
  refine xg_t (xg_iload (va := (0, hi)) rfl rfl) ?_
  refine xg_cVi mX12_panelOf (vs := [(0, xx), (0, yy), (0, wi), (0, hi)]) (rest := []) (cn1 := 0) (sl1 := 0) rfl (mPanelOf (hI) (by omega) (by omega) (by omega) (by omega)) rfl h82_31 rfl rfl rfl rfl rfl rfl (fun n44 w40 hq41 => ?_)
  obtain ⟨hn45, hI42, hF43⟩ := hq41
  refine xg_t (xg_istore (l1 := [(0, (2, 82)), (1, (0, xx)), (2, (0, yy)), (3, (0, wi)), (4, (0, hi))]) rfl rfl rfl) ?_
  refine xg_t (xg_iload (va := (0, n44)) rfl rfl) ?_
  by_cases hc46 : n44 < 2147483648
  · have hn47 : n44 ≤ 3 := by omega
    refine xg_t (xg_ifT (u := n44) rfl xnm0 (xjz_geT hc46)) ?_
    refine xg_t (xg_blq rfl) ?_
    refine xg_t (xg_aload (va := (2, 82)) rfl rfl) ?_
    refine xg_t (xg_getf (va := (2, 83)) (hF43.get (by decide) h82_31) rfl) ?_
    refine xg_t (xg_bip) ?_
    refine xg_t (xg_const) ?_
    refine xg_t (xg_iload (va := (0, n44)) rfl rfl) ?_
    refine xg_t (xg_imul (u := 3) (v := n44) (z := 3 * n44) xnm0 xnm0 (by omega)) ?_
    refine xg_t (xg_iadd (u := 80) (v := 3 * n44) (z := 80 + (3 * n44)) xnm0 xnm0 (by omega)) ?_
    refine xg_t (xg_const) ?_
    refine xg_t (xg_iadd (u := 80 + (3 * n44)) (v := 2) (z := (80 + (3 * n44)) + 2) xnm0 xnm0 (by omega)) ?_
    refine xg_ialdB (n := (80 + (3 * n44)) + 2) (B := 4294967295) (h83_34.fr hF43 (by decide)) (hb35) xnm0 (by omega) (fun u48 hu49 he50 => ?_)
    refine xg_t (xg_blq rfl) ?_
    refine xg_t (xg_istore (l1 := [(5, (0, n44)), (0, (2, 82)), (1, (0, xx)), (2, (0, yy)), (3, (0, wi)), (4, (0, hi))]) rfl rfl rfl) ?_
    refine xg_t (xg_const) ?_
    refine xg_t (xg_istore (l1 := [(6, (0, u48)), (5, (0, n44)), (0, (2, 82)), (1, (0, xx)), (2, (0, yy)), (3, (0, wi)), (4, (0, hi))]) rfl rfl rfl) ?_
    refine xg_t (xg_drop (l1 := [(0, (2, 82)), (1, (0, xx)), (2, (0, yy)), (3, (0, wi)), (4, (0, hi)), (5, (0, n44)), (6, (0, u48)), (7, (0, 1))]) (List.forall_mem_cons.mpr ⟨List.mem_cons_of_mem _ (List.mem_cons_of_mem _ (List.mem_cons_of_mem _ (List.mem_cons_self))), List.forall_mem_cons.mpr ⟨List.mem_cons_of_mem _ (List.mem_cons_of_mem _ (List.mem_cons_of_mem _ (List.mem_cons_of_mem _ (List.mem_cons_self)))), List.forall_mem_cons.mpr ⟨List.mem_cons_of_mem _ (List.mem_cons_of_mem _ (List.mem_cons_of_mem _ (List.mem_cons_of_mem _ (List.mem_cons_of_mem _ (List.mem_cons_self))))), List.forall_mem_cons.mpr ⟨List.mem_cons_of_mem _ (List.mem_cons_of_mem _ (List.mem_cons_of_mem _ (List.mem_cons_of_mem _ (List.mem_cons_of_mem _ (List.mem_cons_of_mem _ (List.mem_cons_self)))))), List.forall_mem_cons.mpr ⟨List.mem_cons_of_mem _ (List.mem_cons_of_mem _ (List.mem_cons_of_mem _ (List.mem_cons_of_mem _ (List.mem_cons_of_mem _ (List.mem_cons_of_mem _ (List.mem_cons_of_mem _ (List.mem_cons_self))))))), List.forall_mem_cons.mpr ⟨List.mem_cons_of_mem _ (List.mem_cons_of_mem _ (List.mem_cons_self)), List.forall_mem_cons.mpr ⟨List.mem_cons_of_mem _ (List.mem_cons_self), List.forall_mem_cons.mpr ⟨List.mem_cons_self, fun _ h => absurd h List.not_mem_nil⟩⟩⟩⟩⟩⟩⟩⟩)) ?_
    have key51 : ∀ (m53 : Nat) (mo ci : Nat) (w54 : List (List xE)), 10 - ci < m53 → mo ≤ 4294967295 → ci ≤ 10 → xMnv w54 → xFr [] w w54 → 1 ≤ ci → xTo (d + 2) mX12_pieceOf (39, [], [(0, (2, 82)), (1, (0, xx)), (2, (0, yy)), (3, (0, wi)), (4, (0, hi)), (5, (0, n44)), (6, (0, mo)), (7, (0, ci))], [], (w54, bd, fc, 0, 0, rr)) (fun φ => ∃ n w', xEnd 1 [(0, n)] (w', bd, fc, 0, 0, rr) φ ∧ (n ≤ 4294967295) ∧ xMnv w' ∧ xFr [] w w') := by
      intro m53
      induction m53 with
      | zero => intro mo ci w54 hz; exact absurd hz (Nat.not_lt_zero _)
      | succ m53 ih52 =>
        intro mo ci w54 hm60 hn57 hn58 hI55 hF56 he59
        refine xg_t (xg_blq rfl) ?_
        refine xg_t (xg_iload (va := (0, ci)) rfl rfl) ?_
        refine xg_t (xg_iload (va := (0, wi)) rfl rfl) ?_
        by_cases hc61 : ci < wi
        · refine xg_t (xg_icF (u := ci) (v := wi) rfl xnm0 xnm0 (xj_geF hc61 (by omega))) ?_
          refine xg_t (xg_aload (va := (2, 82)) rfl rfl) ?_
          refine xg_t (xg_getf (va := (2, 106)) (hF56.get (by decide) h82_31) rfl) ?_
          refine xg_t (xg_iload (va := (0, xx)) rfl rfl) ?_
          refine xg_t (xg_iload (va := (0, yy)) rfl rfl) ?_
          refine xg_t (xg_iload (va := (0, ci)) rfl rfl) ?_
          refine xg_t (xg_iload (va := (0, hi)) rfl rfl) ?_
          refine xg_t (xg_cSr mX12_at (vs := [(0, xx), (0, yy), (0, ci), (0, hi)]) (rest := [(2, 106)]) (rs := [(0, ((xx * 11 + yy) * 11 + ci) * 11 + hi), (2, 106)]) (cn1 := 0) (sl1 := 0) rfl (mAtR (by omega) (by omega) (by omega) (by omega)) rfl rfl rfl rfl rfl rfl rfl rfl) ?_
          have hl62 : ((xx * 11 + yy) * 11 + ci) * 11 + hi ≤ 14640 := by omega
          refine xg_ialdB (n := ((xx * 11 + yy) * 11 + ci) * 11 + hi) (B := 4294967295) (h106_38.fr hF56 (by decide)) (hb39) xnm0 (by omega) (fun u63 hu64 he65 => ?_)
          refine xg_t (xg_aload (va := (2, 82)) rfl rfl) ?_
          refine xg_t (xg_getf (va := (2, 106)) (hF56.get (by decide) h82_31) rfl) ?_
          refine xg_t (xg_iload (va := (0, xx)) rfl rfl) ?_
          refine xg_t (xg_iload (va := (0, ci)) rfl rfl) ?_
          refine xg_t (xg_iadd (u := xx) (v := ci) (z := xx + ci) xnm0 xnm0 (by omega)) ?_
          refine xg_t (xg_iload (va := (0, yy)) rfl rfl) ?_
          refine xg_t (xg_iload (va := (0, wi)) rfl rfl) ?_
          refine xg_t (xg_iload (va := (0, ci)) rfl rfl) ?_
          refine xg_t (xg_isub (u := wi) (v := ci) (z := wi - ci) xnm0 xnm0 (by omega)) ?_
          refine xg_t (xg_iload (va := (0, hi)) rfl rfl) ?_
          refine xg_t (xg_cSr mX12_at (vs := [(0, xx + ci), (0, yy), (0, wi - ci), (0, hi)]) (rest := [(2, 106), (0, u63)]) (rs := [(0, (((xx + ci) * 11 + yy) * 11 + (wi - ci)) * 11 + hi), (2, 106), (0, u63)]) (cn1 := 0) (sl1 := 0) rfl (mAtR (by omega) (by omega) (by omega) (by omega)) rfl rfl rfl rfl rfl rfl rfl rfl) ?_
          have hl66 : (((xx + ci) * 11 + yy) * 11 + (wi - ci)) * 11 + hi ≤ 14640 := by omega
          refine xg_ialdB (n := (((xx + ci) * 11 + yy) * 11 + (wi - ci)) * 11 + hi) (B := 4294967295) (h106_38.fr hF56 (by decide)) (hb39) xnm0 (by omega) (fun u67 hu68 he69 => ?_)
          refine xg_k (xg_iadd (u := u63) (v := u67) (z := (u63 + u67) % 4294967296) xnm0 xnm0 rfl) (Nat.mod_lt _ (by decide)) (fun z70 hz71 => ?_)
          refine xg_t (xg_istore (l1 := [(0, (2, 82)), (1, (0, xx)), (2, (0, yy)), (3, (0, wi)), (4, (0, hi)), (5, (0, n44)), (6, (0, mo)), (7, (0, ci))]) rfl rfl rfl) ?_
          refine xg_t (xg_iload (va := (0, z70)) rfl rfl) ?_
          refine xg_t (xg_iload (va := (0, mo)) rfl rfl) ?_
          by_cases hc72 : xbs mo < xbs z70
          · have hc72u := hc72
            unfold xbs at hc72u
            refine xg_t (xg_icF (u := z70) (v := mo) rfl xnm0 xnm0 (xjs_leF hc72)) ?_
            refine xg_t (xg_iload (va := (0, z70)) rfl rfl) ?_
            refine xg_t (xg_goto) ?_
            refine xg_t (xg_blq rfl) ?_
            refine xg_t (xg_istore (l1 := [(8, (0, z70)), (0, (2, 82)), (1, (0, xx)), (2, (0, yy)), (3, (0, wi)), (4, (0, hi)), (5, (0, n44)), (7, (0, ci))]) rfl rfl rfl) ?_
            refine xg_t (xg_iinc (u := ci) (z := ci + 1) (l1 := [(6, (0, z70)), (8, (0, z70)), (0, (2, 82)), (1, (0, xx)), (2, (0, yy)), (3, (0, wi)), (4, (0, hi)), (5, (0, n44))]) rfl rfl (by omega) rfl) ?_
            refine xg_t (xg_goto) ?_
            refine xg_t (xg_drop (l1 := [(0, (2, 82)), (1, (0, xx)), (2, (0, yy)), (3, (0, wi)), (4, (0, hi)), (5, (0, n44)), (6, (0, z70)), (7, (0, ci + 1))]) (List.forall_mem_cons.mpr ⟨List.mem_cons_of_mem _ (List.mem_cons_of_mem _ (List.mem_cons_of_mem _ (List.mem_cons_self))), List.forall_mem_cons.mpr ⟨List.mem_cons_of_mem _ (List.mem_cons_of_mem _ (List.mem_cons_of_mem _ (List.mem_cons_of_mem _ (List.mem_cons_self)))), List.forall_mem_cons.mpr ⟨List.mem_cons_of_mem _ (List.mem_cons_of_mem _ (List.mem_cons_of_mem _ (List.mem_cons_of_mem _ (List.mem_cons_of_mem _ (List.mem_cons_self))))), List.forall_mem_cons.mpr ⟨List.mem_cons_of_mem _ (List.mem_cons_of_mem _ (List.mem_cons_of_mem _ (List.mem_cons_of_mem _ (List.mem_cons_of_mem _ (List.mem_cons_of_mem _ (List.mem_cons_self)))))), List.forall_mem_cons.mpr ⟨List.mem_cons_of_mem _ (List.mem_cons_of_mem _ (List.mem_cons_of_mem _ (List.mem_cons_of_mem _ (List.mem_cons_of_mem _ (List.mem_cons_of_mem _ (List.mem_cons_of_mem _ (List.mem_cons_self))))))), List.forall_mem_cons.mpr ⟨List.mem_cons_of_mem _ (List.mem_cons_of_mem _ (List.mem_cons_of_mem _ (List.mem_cons_of_mem _ (List.mem_cons_of_mem _ (List.mem_cons_of_mem _ (List.mem_cons_of_mem _ (List.mem_cons_of_mem _ (List.mem_cons_self)))))))), List.forall_mem_cons.mpr ⟨List.mem_cons_of_mem _ (List.mem_cons_self), List.forall_mem_cons.mpr ⟨List.mem_cons_self, fun _ h => absurd h List.not_mem_nil⟩⟩⟩⟩⟩⟩⟩⟩)) ?_
            exact ih52 z70 (ci + 1) w54 (by omega) (by omega) (by omega) (hI55) (hF56) (by omega)
          · have hc72u := hc72
            unfold xbs at hc72u
            refine xg_t (xg_icT (u := z70) (v := mo) rfl xnm0 xnm0 (xjs_leT hc72)) ?_
            refine xg_t (xg_blq rfl) ?_
            refine xg_t (xg_iload (va := (0, mo)) rfl rfl) ?_
            refine xg_t (xg_blq rfl) ?_
            refine xg_t (xg_istore (l1 := [(8, (0, z70)), (0, (2, 82)), (1, (0, xx)), (2, (0, yy)), (3, (0, wi)), (4, (0, hi)), (5, (0, n44)), (7, (0, ci))]) rfl rfl rfl) ?_
            refine xg_t (xg_iinc (u := ci) (z := ci + 1) (l1 := [(6, (0, mo)), (8, (0, z70)), (0, (2, 82)), (1, (0, xx)), (2, (0, yy)), (3, (0, wi)), (4, (0, hi)), (5, (0, n44))]) rfl rfl (by omega) rfl) ?_
            refine xg_t (xg_goto) ?_
            refine xg_t (xg_drop (l1 := [(0, (2, 82)), (1, (0, xx)), (2, (0, yy)), (3, (0, wi)), (4, (0, hi)), (5, (0, n44)), (6, (0, mo)), (7, (0, ci + 1))]) (List.forall_mem_cons.mpr ⟨List.mem_cons_of_mem _ (List.mem_cons_of_mem _ (List.mem_cons_of_mem _ (List.mem_cons_self))), List.forall_mem_cons.mpr ⟨List.mem_cons_of_mem _ (List.mem_cons_of_mem _ (List.mem_cons_of_mem _ (List.mem_cons_of_mem _ (List.mem_cons_self)))), List.forall_mem_cons.mpr ⟨List.mem_cons_of_mem _ (List.mem_cons_of_mem _ (List.mem_cons_of_mem _ (List.mem_cons_of_mem _ (List.mem_cons_of_mem _ (List.mem_cons_self))))), List.forall_mem_cons.mpr ⟨List.mem_cons_of_mem _ (List.mem_cons_of_mem _ (List.mem_cons_of_mem _ (List.mem_cons_of_mem _ (List.mem_cons_of_mem _ (List.mem_cons_of_mem _ (List.mem_cons_self)))))), List.forall_mem_cons.mpr ⟨List.mem_cons_of_mem _ (List.mem_cons_of_mem _ (List.mem_cons_of_mem _ (List.mem_cons_of_mem _ (List.mem_cons_of_mem _ (List.mem_cons_of_mem _ (List.mem_cons_of_mem _ (List.mem_cons_self))))))), List.forall_mem_cons.mpr ⟨List.mem_cons_of_mem _ (List.mem_cons_of_mem _ (List.mem_cons_of_mem _ (List.mem_cons_of_mem _ (List.mem_cons_of_mem _ (List.mem_cons_of_mem _ (List.mem_cons_of_mem _ (List.mem_cons_of_mem _ (List.mem_cons_self)))))))), List.forall_mem_cons.mpr ⟨List.mem_cons_of_mem _ (List.mem_cons_self), List.forall_mem_cons.mpr ⟨List.mem_cons_self, fun _ h => absurd h List.not_mem_nil⟩⟩⟩⟩⟩⟩⟩⟩)) ?_
            exact ih52 mo (ci + 1) w54 (by omega) (by omega) (by omega) (hI55) (hF56) (by omega)
        · refine xg_t (xg_icT (u := ci) (v := wi) rfl xnm0 xnm0 (xj_geT (by omega) (by omega))) ?_
          refine xg_t (xg_blq rfl) ?_
          refine xg_t (xg_const) ?_
          refine xg_t (xg_istore (l1 := [(0, (2, 82)), (1, (0, xx)), (2, (0, yy)), (3, (0, wi)), (4, (0, hi)), (5, (0, n44)), (6, (0, mo))]) rfl rfl rfl) ?_
          refine xg_t (xg_drop (l1 := [(0, (2, 82)), (1, (0, xx)), (2, (0, yy)), (3, (0, wi)), (4, (0, hi)), (5, (0, n44)), (6, (0, mo)), (7, (0, 1))]) (List.forall_mem_cons.mpr ⟨List.mem_cons_of_mem _ (List.mem_cons_self), List.forall_mem_cons.mpr ⟨List.mem_cons_of_mem _ (List.mem_cons_of_mem _ (List.mem_cons_self)), List.forall_mem_cons.mpr ⟨List.mem_cons_of_mem _ (List.mem_cons_of_mem _ (List.mem_cons_of_mem _ (List.mem_cons_self))), List.forall_mem_cons.mpr ⟨List.mem_cons_of_mem _ (List.mem_cons_of_mem _ (List.mem_cons_of_mem _ (List.mem_cons_of_mem _ (List.mem_cons_self)))), List.forall_mem_cons.mpr ⟨List.mem_cons_of_mem _ (List.mem_cons_of_mem _ (List.mem_cons_of_mem _ (List.mem_cons_of_mem _ (List.mem_cons_of_mem _ (List.mem_cons_self))))), List.forall_mem_cons.mpr ⟨List.mem_cons_of_mem _ (List.mem_cons_of_mem _ (List.mem_cons_of_mem _ (List.mem_cons_of_mem _ (List.mem_cons_of_mem _ (List.mem_cons_of_mem _ (List.mem_cons_self)))))), List.forall_mem_cons.mpr ⟨List.mem_cons_of_mem _ (List.mem_cons_of_mem _ (List.mem_cons_of_mem _ (List.mem_cons_of_mem _ (List.mem_cons_of_mem _ (List.mem_cons_of_mem _ (List.mem_cons_of_mem _ (List.mem_cons_self))))))), List.forall_mem_cons.mpr ⟨List.mem_cons_self, fun _ h => absurd h List.not_mem_nil⟩⟩⟩⟩⟩⟩⟩⟩)) ?_
          have key73 : ∀ (m75 : Nat) (mp cj : Nat) (w76 : List (List xE)), 10 - cj < m75 → mp ≤ 4294967295 → cj ≤ 10 → xMnv w76 → xFr [] w w76 → 1 ≤ cj → xTo (d + 2) mX12_pieceOf (106, [], [(0, (2, 82)), (1, (0, xx)), (2, (0, yy)), (3, (0, wi)), (4, (0, hi)), (5, (0, n44)), (6, (0, mp)), (7, (0, cj))], [], (w76, bd, fc, 0, 0, rr)) (fun φ => ∃ n w', xEnd 1 [(0, n)] (w', bd, fc, 0, 0, rr) φ ∧ (n ≤ 4294967295) ∧ xMnv w' ∧ xFr [] w w') := by
            intro m75
            induction m75 with
            | zero => intro mp cj w76 hz; exact absurd hz (Nat.not_lt_zero _)
            | succ m75 ih74 =>
              intro mp cj w76 hm82 hn79 hn80 hI77 hF78 he81
              refine xg_t (xg_blq rfl) ?_
              refine xg_t (xg_iload (va := (0, cj)) rfl rfl) ?_
              refine xg_t (xg_iload (va := (0, hi)) rfl rfl) ?_
              by_cases hc83 : cj < hi
              · refine xg_t (xg_icF (u := cj) (v := hi) rfl xnm0 xnm0 (xj_geF hc83 (by omega))) ?_
                refine xg_t (xg_aload (va := (2, 82)) rfl rfl) ?_
                refine xg_t (xg_getf (va := (2, 106)) (hF78.get (by decide) h82_31) rfl) ?_
                refine xg_t (xg_iload (va := (0, xx)) rfl rfl) ?_
                refine xg_t (xg_iload (va := (0, yy)) rfl rfl) ?_
                refine xg_t (xg_iload (va := (0, wi)) rfl rfl) ?_
                refine xg_t (xg_iload (va := (0, cj)) rfl rfl) ?_
                refine xg_t (xg_cSr mX12_at (vs := [(0, xx), (0, yy), (0, wi), (0, cj)]) (rest := [(2, 106)]) (rs := [(0, ((xx * 11 + yy) * 11 + wi) * 11 + cj), (2, 106)]) (cn1 := 0) (sl1 := 0) rfl (mAtR (by omega) (by omega) (by omega) (by omega)) rfl rfl rfl rfl rfl rfl rfl rfl) ?_
                have hl84 : ((xx * 11 + yy) * 11 + wi) * 11 + cj ≤ 14640 := by omega
                refine xg_ialdB (n := ((xx * 11 + yy) * 11 + wi) * 11 + cj) (B := 4294967295) (h106_38.fr hF78 (by decide)) (hb39) xnm0 (by omega) (fun u85 hu86 he87 => ?_)
                refine xg_t (xg_aload (va := (2, 82)) rfl rfl) ?_
                refine xg_t (xg_getf (va := (2, 106)) (hF78.get (by decide) h82_31) rfl) ?_
                refine xg_t (xg_iload (va := (0, xx)) rfl rfl) ?_
                refine xg_t (xg_iload (va := (0, yy)) rfl rfl) ?_
                refine xg_t (xg_iload (va := (0, cj)) rfl rfl) ?_
                refine xg_t (xg_iadd (u := yy) (v := cj) (z := yy + cj) xnm0 xnm0 (by omega)) ?_
                refine xg_t (xg_iload (va := (0, wi)) rfl rfl) ?_
                refine xg_t (xg_iload (va := (0, hi)) rfl rfl) ?_
                refine xg_t (xg_iload (va := (0, cj)) rfl rfl) ?_
                refine xg_t (xg_isub (u := hi) (v := cj) (z := hi - cj) xnm0 xnm0 (by omega)) ?_
                refine xg_t (xg_cSr mX12_at (vs := [(0, xx), (0, yy + cj), (0, wi), (0, hi - cj)]) (rest := [(2, 106), (0, u85)]) (rs := [(0, ((xx * 11 + (yy + cj)) * 11 + wi) * 11 + (hi - cj)), (2, 106), (0, u85)]) (cn1 := 0) (sl1 := 0) rfl (mAtR (by omega) (by omega) (by omega) (by omega)) rfl rfl rfl rfl rfl rfl rfl rfl) ?_
                have hl88 : ((xx * 11 + (yy + cj)) * 11 + wi) * 11 + (hi - cj) ≤ 14640 := by omega
                refine xg_ialdB (n := ((xx * 11 + (yy + cj)) * 11 + wi) * 11 + (hi - cj)) (B := 4294967295) (h106_38.fr hF78 (by decide)) (hb39) xnm0 (by omega) (fun u89 hu90 he91 => ?_)
                refine xg_k (xg_iadd (u := u85) (v := u89) (z := (u85 + u89) % 4294967296) xnm0 xnm0 rfl) (Nat.mod_lt _ (by decide)) (fun z92 hz93 => ?_)
                refine xg_t (xg_istore (l1 := [(0, (2, 82)), (1, (0, xx)), (2, (0, yy)), (3, (0, wi)), (4, (0, hi)), (5, (0, n44)), (6, (0, mp)), (7, (0, cj))]) rfl rfl rfl) ?_
                refine xg_t (xg_iload (va := (0, z92)) rfl rfl) ?_
                refine xg_t (xg_iload (va := (0, mp)) rfl rfl) ?_
                by_cases hc94 : xbs mp < xbs z92
                · have hc94u := hc94
                  unfold xbs at hc94u
                  refine xg_t (xg_icF (u := z92) (v := mp) rfl xnm0 xnm0 (xjs_leF hc94)) ?_
                  refine xg_t (xg_iload (va := (0, z92)) rfl rfl) ?_
                  refine xg_t (xg_goto) ?_
                  refine xg_t (xg_blq rfl) ?_
                  refine xg_t (xg_istore (l1 := [(8, (0, z92)), (0, (2, 82)), (1, (0, xx)), (2, (0, yy)), (3, (0, wi)), (4, (0, hi)), (5, (0, n44)), (7, (0, cj))]) rfl rfl rfl) ?_
                  refine xg_t (xg_iinc (u := cj) (z := cj + 1) (l1 := [(6, (0, z92)), (8, (0, z92)), (0, (2, 82)), (1, (0, xx)), (2, (0, yy)), (3, (0, wi)), (4, (0, hi)), (5, (0, n44))]) rfl rfl (by omega) rfl) ?_
                  refine xg_t (xg_goto) ?_
                  refine xg_t (xg_drop (l1 := [(0, (2, 82)), (1, (0, xx)), (2, (0, yy)), (3, (0, wi)), (4, (0, hi)), (5, (0, n44)), (6, (0, z92)), (7, (0, cj + 1))]) (List.forall_mem_cons.mpr ⟨List.mem_cons_of_mem _ (List.mem_cons_of_mem _ (List.mem_cons_of_mem _ (List.mem_cons_self))), List.forall_mem_cons.mpr ⟨List.mem_cons_of_mem _ (List.mem_cons_of_mem _ (List.mem_cons_of_mem _ (List.mem_cons_of_mem _ (List.mem_cons_self)))), List.forall_mem_cons.mpr ⟨List.mem_cons_of_mem _ (List.mem_cons_of_mem _ (List.mem_cons_of_mem _ (List.mem_cons_of_mem _ (List.mem_cons_of_mem _ (List.mem_cons_self))))), List.forall_mem_cons.mpr ⟨List.mem_cons_of_mem _ (List.mem_cons_of_mem _ (List.mem_cons_of_mem _ (List.mem_cons_of_mem _ (List.mem_cons_of_mem _ (List.mem_cons_of_mem _ (List.mem_cons_self)))))), List.forall_mem_cons.mpr ⟨List.mem_cons_of_mem _ (List.mem_cons_of_mem _ (List.mem_cons_of_mem _ (List.mem_cons_of_mem _ (List.mem_cons_of_mem _ (List.mem_cons_of_mem _ (List.mem_cons_of_mem _ (List.mem_cons_self))))))), List.forall_mem_cons.mpr ⟨List.mem_cons_of_mem _ (List.mem_cons_of_mem _ (List.mem_cons_of_mem _ (List.mem_cons_of_mem _ (List.mem_cons_of_mem _ (List.mem_cons_of_mem _ (List.mem_cons_of_mem _ (List.mem_cons_of_mem _ (List.mem_cons_self)))))))), List.forall_mem_cons.mpr ⟨List.mem_cons_of_mem _ (List.mem_cons_self), List.forall_mem_cons.mpr ⟨List.mem_cons_self, fun _ h => absurd h List.not_mem_nil⟩⟩⟩⟩⟩⟩⟩⟩)) ?_
                  exact ih74 z92 (cj + 1) w76 (by omega) (by omega) (by omega) (hI77) (hF78) (by omega)
                · have hc94u := hc94
                  unfold xbs at hc94u
                  refine xg_t (xg_icT (u := z92) (v := mp) rfl xnm0 xnm0 (xjs_leT hc94)) ?_
                  refine xg_t (xg_blq rfl) ?_
                  refine xg_t (xg_iload (va := (0, mp)) rfl rfl) ?_
                  refine xg_t (xg_blq rfl) ?_
                  refine xg_t (xg_istore (l1 := [(8, (0, z92)), (0, (2, 82)), (1, (0, xx)), (2, (0, yy)), (3, (0, wi)), (4, (0, hi)), (5, (0, n44)), (7, (0, cj))]) rfl rfl rfl) ?_
                  refine xg_t (xg_iinc (u := cj) (z := cj + 1) (l1 := [(6, (0, mp)), (8, (0, z92)), (0, (2, 82)), (1, (0, xx)), (2, (0, yy)), (3, (0, wi)), (4, (0, hi)), (5, (0, n44))]) rfl rfl (by omega) rfl) ?_
                  refine xg_t (xg_goto) ?_
                  refine xg_t (xg_drop (l1 := [(0, (2, 82)), (1, (0, xx)), (2, (0, yy)), (3, (0, wi)), (4, (0, hi)), (5, (0, n44)), (6, (0, mp)), (7, (0, cj + 1))]) (List.forall_mem_cons.mpr ⟨List.mem_cons_of_mem _ (List.mem_cons_of_mem _ (List.mem_cons_of_mem _ (List.mem_cons_self))), List.forall_mem_cons.mpr ⟨List.mem_cons_of_mem _ (List.mem_cons_of_mem _ (List.mem_cons_of_mem _ (List.mem_cons_of_mem _ (List.mem_cons_self)))), List.forall_mem_cons.mpr ⟨List.mem_cons_of_mem _ (List.mem_cons_of_mem _ (List.mem_cons_of_mem _ (List.mem_cons_of_mem _ (List.mem_cons_of_mem _ (List.mem_cons_self))))), List.forall_mem_cons.mpr ⟨List.mem_cons_of_mem _ (List.mem_cons_of_mem _ (List.mem_cons_of_mem _ (List.mem_cons_of_mem _ (List.mem_cons_of_mem _ (List.mem_cons_of_mem _ (List.mem_cons_self)))))), List.forall_mem_cons.mpr ⟨List.mem_cons_of_mem _ (List.mem_cons_of_mem _ (List.mem_cons_of_mem _ (List.mem_cons_of_mem _ (List.mem_cons_of_mem _ (List.mem_cons_of_mem _ (List.mem_cons_of_mem _ (List.mem_cons_self))))))), List.forall_mem_cons.mpr ⟨List.mem_cons_of_mem _ (List.mem_cons_of_mem _ (List.mem_cons_of_mem _ (List.mem_cons_of_mem _ (List.mem_cons_of_mem _ (List.mem_cons_of_mem _ (List.mem_cons_of_mem _ (List.mem_cons_of_mem _ (List.mem_cons_self)))))))), List.forall_mem_cons.mpr ⟨List.mem_cons_of_mem _ (List.mem_cons_self), List.forall_mem_cons.mpr ⟨List.mem_cons_self, fun _ h => absurd h List.not_mem_nil⟩⟩⟩⟩⟩⟩⟩⟩)) ?_
                  exact ih74 mp (cj + 1) w76 (by omega) (by omega) (by omega) (hI77) (hF78) (by omega)
              · refine xg_t (xg_icT (u := cj) (v := hi) rfl xnm0 xnm0 (xj_geT (by omega) (by omega))) ?_
                refine xg_t (xg_blq rfl) ?_
                refine xg_t (xg_iload (va := (0, mp)) rfl rfl) ?_
                exact xg_e ⟨mp, w76, ⟨rfl, rfl⟩, by omega, hI77, hF78⟩
          exact key73 _ mo 1 w54 (Nat.lt_succ_self _) (by omega) (by omega) (hI55) (hF56) (by omega)
    exact key51 _ u48 1 w40 (Nat.lt_succ_self _) (by omega) (by omega) (hI42) ((hF43.up (by decide))) (by omega)
  · refine xg_t (xg_ifF (u := n44) rfl xnm0 (xjz_geF (by omega) (by omega))) ?_
    refine xg_t (xg_const) ?_
    refine xg_t (xg_goto) ?_
    refine xg_t (xg_blq rfl) ?_
    refine xg_t (xg_istore (l1 := [(5, (0, n44)), (0, (2, 82)), (1, (0, xx)), (2, (0, yy)), (3, (0, wi)), (4, (0, hi))]) rfl rfl rfl) ?_
    refine xg_t (xg_const) ?_
    refine xg_t (xg_istore (l1 := [(6, (0, 0)), (5, (0, n44)), (0, (2, 82)), (1, (0, xx)), (2, (0, yy)), (3, (0, wi)), (4, (0, hi))]) rfl rfl rfl) ?_
    refine xg_t (xg_drop (l1 := [(0, (2, 82)), (1, (0, xx)), (2, (0, yy)), (3, (0, wi)), (4, (0, hi)), (5, (0, n44)), (6, (0, 0)), (7, (0, 1))]) (List.forall_mem_cons.mpr ⟨List.mem_cons_of_mem _ (List.mem_cons_of_mem _ (List.mem_cons_of_mem _ (List.mem_cons_self))), List.forall_mem_cons.mpr ⟨List.mem_cons_of_mem _ (List.mem_cons_of_mem _ (List.mem_cons_of_mem _ (List.mem_cons_of_mem _ (List.mem_cons_self)))), List.forall_mem_cons.mpr ⟨List.mem_cons_of_mem _ (List.mem_cons_of_mem _ (List.mem_cons_of_mem _ (List.mem_cons_of_mem _ (List.mem_cons_of_mem _ (List.mem_cons_self))))), List.forall_mem_cons.mpr ⟨List.mem_cons_of_mem _ (List.mem_cons_of_mem _ (List.mem_cons_of_mem _ (List.mem_cons_of_mem _ (List.mem_cons_of_mem _ (List.mem_cons_of_mem _ (List.mem_cons_self)))))), List.forall_mem_cons.mpr ⟨List.mem_cons_of_mem _ (List.mem_cons_of_mem _ (List.mem_cons_of_mem _ (List.mem_cons_of_mem _ (List.mem_cons_of_mem _ (List.mem_cons_of_mem _ (List.mem_cons_of_mem _ (List.mem_cons_self))))))), List.forall_mem_cons.mpr ⟨List.mem_cons_of_mem _ (List.mem_cons_of_mem _ (List.mem_cons_self)), List.forall_mem_cons.mpr ⟨List.mem_cons_of_mem _ (List.mem_cons_self), List.forall_mem_cons.mpr ⟨List.mem_cons_self, fun _ h => absurd h List.not_mem_nil⟩⟩⟩⟩⟩⟩⟩⟩)) ?_
    have key95 : ∀ (m97 : Nat) (mo ci : Nat) (w98 : List (List xE)), 10 - ci < m97 → mo ≤ 4294967295 → ci ≤ 10 → xMnv w98 → xFr [] w w98 → 1 ≤ ci → xTo (d + 2) mX12_pieceOf (39, [], [(0, (2, 82)), (1, (0, xx)), (2, (0, yy)), (3, (0, wi)), (4, (0, hi)), (5, (0, n44)), (6, (0, mo)), (7, (0, ci))], [], (w98, bd, fc, 0, 0, rr)) (fun φ => ∃ n w', xEnd 1 [(0, n)] (w', bd, fc, 0, 0, rr) φ ∧ (n ≤ 4294967295) ∧ xMnv w' ∧ xFr [] w w') := by
      intro m97
      induction m97 with
      | zero => intro mo ci w98 hz; exact absurd hz (Nat.not_lt_zero _)
      | succ m97 ih96 =>
        intro mo ci w98 hm104 hn101 hn102 hI99 hF100 he103
        refine xg_t (xg_blq rfl) ?_
        refine xg_t (xg_iload (va := (0, ci)) rfl rfl) ?_
        refine xg_t (xg_iload (va := (0, wi)) rfl rfl) ?_
        by_cases hc105 : ci < wi
        · refine xg_t (xg_icF (u := ci) (v := wi) rfl xnm0 xnm0 (xj_geF hc105 (by omega))) ?_
          refine xg_t (xg_aload (va := (2, 82)) rfl rfl) ?_
          refine xg_t (xg_getf (va := (2, 106)) (hF100.get (by decide) h82_31) rfl) ?_
          refine xg_t (xg_iload (va := (0, xx)) rfl rfl) ?_
          refine xg_t (xg_iload (va := (0, yy)) rfl rfl) ?_
          refine xg_t (xg_iload (va := (0, ci)) rfl rfl) ?_
          refine xg_t (xg_iload (va := (0, hi)) rfl rfl) ?_
          refine xg_t (xg_cSr mX12_at (vs := [(0, xx), (0, yy), (0, ci), (0, hi)]) (rest := [(2, 106)]) (rs := [(0, ((xx * 11 + yy) * 11 + ci) * 11 + hi), (2, 106)]) (cn1 := 0) (sl1 := 0) rfl (mAtR (by omega) (by omega) (by omega) (by omega)) rfl rfl rfl rfl rfl rfl rfl rfl) ?_
          have hl106 : ((xx * 11 + yy) * 11 + ci) * 11 + hi ≤ 14640 := by omega
          refine xg_ialdB (n := ((xx * 11 + yy) * 11 + ci) * 11 + hi) (B := 4294967295) (h106_38.fr hF100 (by decide)) (hb39) xnm0 (by omega) (fun u107 hu108 he109 => ?_)
          refine xg_t (xg_aload (va := (2, 82)) rfl rfl) ?_
          refine xg_t (xg_getf (va := (2, 106)) (hF100.get (by decide) h82_31) rfl) ?_
          refine xg_t (xg_iload (va := (0, xx)) rfl rfl) ?_
          refine xg_t (xg_iload (va := (0, ci)) rfl rfl) ?_
          refine xg_t (xg_iadd (u := xx) (v := ci) (z := xx + ci) xnm0 xnm0 (by omega)) ?_
          refine xg_t (xg_iload (va := (0, yy)) rfl rfl) ?_
          refine xg_t (xg_iload (va := (0, wi)) rfl rfl) ?_
          refine xg_t (xg_iload (va := (0, ci)) rfl rfl) ?_
          refine xg_t (xg_isub (u := wi) (v := ci) (z := wi - ci) xnm0 xnm0 (by omega)) ?_
          refine xg_t (xg_iload (va := (0, hi)) rfl rfl) ?_
          refine xg_t (xg_cSr mX12_at (vs := [(0, xx + ci), (0, yy), (0, wi - ci), (0, hi)]) (rest := [(2, 106), (0, u107)]) (rs := [(0, (((xx + ci) * 11 + yy) * 11 + (wi - ci)) * 11 + hi), (2, 106), (0, u107)]) (cn1 := 0) (sl1 := 0) rfl (mAtR (by omega) (by omega) (by omega) (by omega)) rfl rfl rfl rfl rfl rfl rfl rfl) ?_
          have hl110 : (((xx + ci) * 11 + yy) * 11 + (wi - ci)) * 11 + hi ≤ 14640 := by omega
          refine xg_ialdB (n := (((xx + ci) * 11 + yy) * 11 + (wi - ci)) * 11 + hi) (B := 4294967295) (h106_38.fr hF100 (by decide)) (hb39) xnm0 (by omega) (fun u111 hu112 he113 => ?_)
          refine xg_k (xg_iadd (u := u107) (v := u111) (z := (u107 + u111) % 4294967296) xnm0 xnm0 rfl) (Nat.mod_lt _ (by decide)) (fun z114 hz115 => ?_)
          refine xg_t (xg_istore (l1 := [(0, (2, 82)), (1, (0, xx)), (2, (0, yy)), (3, (0, wi)), (4, (0, hi)), (5, (0, n44)), (6, (0, mo)), (7, (0, ci))]) rfl rfl rfl) ?_
          refine xg_t (xg_iload (va := (0, z114)) rfl rfl) ?_
          refine xg_t (xg_iload (va := (0, mo)) rfl rfl) ?_
          by_cases hc116 : xbs mo < xbs z114
          · have hc116u := hc116
            unfold xbs at hc116u
            refine xg_t (xg_icF (u := z114) (v := mo) rfl xnm0 xnm0 (xjs_leF hc116)) ?_
            refine xg_t (xg_iload (va := (0, z114)) rfl rfl) ?_
            refine xg_t (xg_goto) ?_
            refine xg_t (xg_blq rfl) ?_
            refine xg_t (xg_istore (l1 := [(8, (0, z114)), (0, (2, 82)), (1, (0, xx)), (2, (0, yy)), (3, (0, wi)), (4, (0, hi)), (5, (0, n44)), (7, (0, ci))]) rfl rfl rfl) ?_
            refine xg_t (xg_iinc (u := ci) (z := ci + 1) (l1 := [(6, (0, z114)), (8, (0, z114)), (0, (2, 82)), (1, (0, xx)), (2, (0, yy)), (3, (0, wi)), (4, (0, hi)), (5, (0, n44))]) rfl rfl (by omega) rfl) ?_
            refine xg_t (xg_goto) ?_
            refine xg_t (xg_drop (l1 := [(0, (2, 82)), (1, (0, xx)), (2, (0, yy)), (3, (0, wi)), (4, (0, hi)), (5, (0, n44)), (6, (0, z114)), (7, (0, ci + 1))]) (List.forall_mem_cons.mpr ⟨List.mem_cons_of_mem _ (List.mem_cons_of_mem _ (List.mem_cons_of_mem _ (List.mem_cons_self))), List.forall_mem_cons.mpr ⟨List.mem_cons_of_mem _ (List.mem_cons_of_mem _ (List.mem_cons_of_mem _ (List.mem_cons_of_mem _ (List.mem_cons_self)))), List.forall_mem_cons.mpr ⟨List.mem_cons_of_mem _ (List.mem_cons_of_mem _ (List.mem_cons_of_mem _ (List.mem_cons_of_mem _ (List.mem_cons_of_mem _ (List.mem_cons_self))))), List.forall_mem_cons.mpr ⟨List.mem_cons_of_mem _ (List.mem_cons_of_mem _ (List.mem_cons_of_mem _ (List.mem_cons_of_mem _ (List.mem_cons_of_mem _ (List.mem_cons_of_mem _ (List.mem_cons_self)))))), List.forall_mem_cons.mpr ⟨List.mem_cons_of_mem _ (List.mem_cons_of_mem _ (List.mem_cons_of_mem _ (List.mem_cons_of_mem _ (List.mem_cons_of_mem _ (List.mem_cons_of_mem _ (List.mem_cons_of_mem _ (List.mem_cons_self))))))), List.forall_mem_cons.mpr ⟨List.mem_cons_of_mem _ (List.mem_cons_of_mem _ (List.mem_cons_of_mem _ (List.mem_cons_of_mem _ (List.mem_cons_of_mem _ (List.mem_cons_of_mem _ (List.mem_cons_of_mem _ (List.mem_cons_of_mem _ (List.mem_cons_self)))))))), List.forall_mem_cons.mpr ⟨List.mem_cons_of_mem _ (List.mem_cons_self), List.forall_mem_cons.mpr ⟨List.mem_cons_self, fun _ h => absurd h List.not_mem_nil⟩⟩⟩⟩⟩⟩⟩⟩)) ?_
            exact ih96 z114 (ci + 1) w98 (by omega) (by omega) (by omega) (hI99) (hF100) (by omega)
          · have hc116u := hc116
            unfold xbs at hc116u
            refine xg_t (xg_icT (u := z114) (v := mo) rfl xnm0 xnm0 (xjs_leT hc116)) ?_
            refine xg_t (xg_blq rfl) ?_
            refine xg_t (xg_iload (va := (0, mo)) rfl rfl) ?_
            refine xg_t (xg_blq rfl) ?_
            refine xg_t (xg_istore (l1 := [(8, (0, z114)), (0, (2, 82)), (1, (0, xx)), (2, (0, yy)), (3, (0, wi)), (4, (0, hi)), (5, (0, n44)), (7, (0, ci))]) rfl rfl rfl) ?_
            refine xg_t (xg_iinc (u := ci) (z := ci + 1) (l1 := [(6, (0, mo)), (8, (0, z114)), (0, (2, 82)), (1, (0, xx)), (2, (0, yy)), (3, (0, wi)), (4, (0, hi)), (5, (0, n44))]) rfl rfl (by omega) rfl) ?_
            refine xg_t (xg_goto) ?_
            refine xg_t (xg_drop (l1 := [(0, (2, 82)), (1, (0, xx)), (2, (0, yy)), (3, (0, wi)), (4, (0, hi)), (5, (0, n44)), (6, (0, mo)), (7, (0, ci + 1))]) (List.forall_mem_cons.mpr ⟨List.mem_cons_of_mem _ (List.mem_cons_of_mem _ (List.mem_cons_of_mem _ (List.mem_cons_self))), List.forall_mem_cons.mpr ⟨List.mem_cons_of_mem _ (List.mem_cons_of_mem _ (List.mem_cons_of_mem _ (List.mem_cons_of_mem _ (List.mem_cons_self)))), List.forall_mem_cons.mpr ⟨List.mem_cons_of_mem _ (List.mem_cons_of_mem _ (List.mem_cons_of_mem _ (List.mem_cons_of_mem _ (List.mem_cons_of_mem _ (List.mem_cons_self))))), List.forall_mem_cons.mpr ⟨List.mem_cons_of_mem _ (List.mem_cons_of_mem _ (List.mem_cons_of_mem _ (List.mem_cons_of_mem _ (List.mem_cons_of_mem _ (List.mem_cons_of_mem _ (List.mem_cons_self)))))), List.forall_mem_cons.mpr ⟨List.mem_cons_of_mem _ (List.mem_cons_of_mem _ (List.mem_cons_of_mem _ (List.mem_cons_of_mem _ (List.mem_cons_of_mem _ (List.mem_cons_of_mem _ (List.mem_cons_of_mem _ (List.mem_cons_self))))))), List.forall_mem_cons.mpr ⟨List.mem_cons_of_mem _ (List.mem_cons_of_mem _ (List.mem_cons_of_mem _ (List.mem_cons_of_mem _ (List.mem_cons_of_mem _ (List.mem_cons_of_mem _ (List.mem_cons_of_mem _ (List.mem_cons_of_mem _ (List.mem_cons_self)))))))), List.forall_mem_cons.mpr ⟨List.mem_cons_of_mem _ (List.mem_cons_self), List.forall_mem_cons.mpr ⟨List.mem_cons_self, fun _ h => absurd h List.not_mem_nil⟩⟩⟩⟩⟩⟩⟩⟩)) ?_
            exact ih96 mo (ci + 1) w98 (by omega) (by omega) (by omega) (hI99) (hF100) (by omega)
        · refine xg_t (xg_icT (u := ci) (v := wi) rfl xnm0 xnm0 (xj_geT (by omega) (by omega))) ?_
          refine xg_t (xg_blq rfl) ?_
          refine xg_t (xg_const) ?_
          refine xg_t (xg_istore (l1 := [(0, (2, 82)), (1, (0, xx)), (2, (0, yy)), (3, (0, wi)), (4, (0, hi)), (5, (0, n44)), (6, (0, mo))]) rfl rfl rfl) ?_
          refine xg_t (xg_drop (l1 := [(0, (2, 82)), (1, (0, xx)), (2, (0, yy)), (3, (0, wi)), (4, (0, hi)), (5, (0, n44)), (6, (0, mo)), (7, (0, 1))]) (List.forall_mem_cons.mpr ⟨List.mem_cons_of_mem _ (List.mem_cons_self), List.forall_mem_cons.mpr ⟨List.mem_cons_of_mem _ (List.mem_cons_of_mem _ (List.mem_cons_self)), List.forall_mem_cons.mpr ⟨List.mem_cons_of_mem _ (List.mem_cons_of_mem _ (List.mem_cons_of_mem _ (List.mem_cons_self))), List.forall_mem_cons.mpr ⟨List.mem_cons_of_mem _ (List.mem_cons_of_mem _ (List.mem_cons_of_mem _ (List.mem_cons_of_mem _ (List.mem_cons_self)))), List.forall_mem_cons.mpr ⟨List.mem_cons_of_mem _ (List.mem_cons_of_mem _ (List.mem_cons_of_mem _ (List.mem_cons_of_mem _ (List.mem_cons_of_mem _ (List.mem_cons_self))))), List.forall_mem_cons.mpr ⟨List.mem_cons_of_mem _ (List.mem_cons_of_mem _ (List.mem_cons_of_mem _ (List.mem_cons_of_mem _ (List.mem_cons_of_mem _ (List.mem_cons_of_mem _ (List.mem_cons_self)))))), List.forall_mem_cons.mpr ⟨List.mem_cons_of_mem _ (List.mem_cons_of_mem _ (List.mem_cons_of_mem _ (List.mem_cons_of_mem _ (List.mem_cons_of_mem _ (List.mem_cons_of_mem _ (List.mem_cons_of_mem _ (List.mem_cons_self))))))), List.forall_mem_cons.mpr ⟨List.mem_cons_self, fun _ h => absurd h List.not_mem_nil⟩⟩⟩⟩⟩⟩⟩⟩)) ?_
          have key117 : ∀ (m119 : Nat) (mp cj : Nat) (w120 : List (List xE)), 10 - cj < m119 → mp ≤ 4294967295 → cj ≤ 10 → xMnv w120 → xFr [] w w120 → 1 ≤ cj → xTo (d + 2) mX12_pieceOf (106, [], [(0, (2, 82)), (1, (0, xx)), (2, (0, yy)), (3, (0, wi)), (4, (0, hi)), (5, (0, n44)), (6, (0, mp)), (7, (0, cj))], [], (w120, bd, fc, 0, 0, rr)) (fun φ => ∃ n w', xEnd 1 [(0, n)] (w', bd, fc, 0, 0, rr) φ ∧ (n ≤ 4294967295) ∧ xMnv w' ∧ xFr [] w w') := by
            intro m119
            induction m119 with
            | zero => intro mp cj w120 hz; exact absurd hz (Nat.not_lt_zero _)
            | succ m119 ih118 =>
              intro mp cj w120 hm126 hn123 hn124 hI121 hF122 he125
              refine xg_t (xg_blq rfl) ?_
              refine xg_t (xg_iload (va := (0, cj)) rfl rfl) ?_
              refine xg_t (xg_iload (va := (0, hi)) rfl rfl) ?_
              by_cases hc127 : cj < hi
              · refine xg_t (xg_icF (u := cj) (v := hi) rfl xnm0 xnm0 (xj_geF hc127 (by omega))) ?_
                refine xg_t (xg_aload (va := (2, 82)) rfl rfl) ?_
                refine xg_t (xg_getf (va := (2, 106)) (hF122.get (by decide) h82_31) rfl) ?_
                refine xg_t (xg_iload (va := (0, xx)) rfl rfl) ?_
                refine xg_t (xg_iload (va := (0, yy)) rfl rfl) ?_
                refine xg_t (xg_iload (va := (0, wi)) rfl rfl) ?_
                refine xg_t (xg_iload (va := (0, cj)) rfl rfl) ?_
                refine xg_t (xg_cSr mX12_at (vs := [(0, xx), (0, yy), (0, wi), (0, cj)]) (rest := [(2, 106)]) (rs := [(0, ((xx * 11 + yy) * 11 + wi) * 11 + cj), (2, 106)]) (cn1 := 0) (sl1 := 0) rfl (mAtR (by omega) (by omega) (by omega) (by omega)) rfl rfl rfl rfl rfl rfl rfl rfl) ?_
                have hl128 : ((xx * 11 + yy) * 11 + wi) * 11 + cj ≤ 14640 := by omega
                refine xg_ialdB (n := ((xx * 11 + yy) * 11 + wi) * 11 + cj) (B := 4294967295) (h106_38.fr hF122 (by decide)) (hb39) xnm0 (by omega) (fun u129 hu130 he131 => ?_)
                refine xg_t (xg_aload (va := (2, 82)) rfl rfl) ?_
                refine xg_t (xg_getf (va := (2, 106)) (hF122.get (by decide) h82_31) rfl) ?_
                refine xg_t (xg_iload (va := (0, xx)) rfl rfl) ?_
                refine xg_t (xg_iload (va := (0, yy)) rfl rfl) ?_
                refine xg_t (xg_iload (va := (0, cj)) rfl rfl) ?_
                refine xg_t (xg_iadd (u := yy) (v := cj) (z := yy + cj) xnm0 xnm0 (by omega)) ?_
                refine xg_t (xg_iload (va := (0, wi)) rfl rfl) ?_
                refine xg_t (xg_iload (va := (0, hi)) rfl rfl) ?_
                refine xg_t (xg_iload (va := (0, cj)) rfl rfl) ?_
                refine xg_t (xg_isub (u := hi) (v := cj) (z := hi - cj) xnm0 xnm0 (by omega)) ?_
                refine xg_t (xg_cSr mX12_at (vs := [(0, xx), (0, yy + cj), (0, wi), (0, hi - cj)]) (rest := [(2, 106), (0, u129)]) (rs := [(0, ((xx * 11 + (yy + cj)) * 11 + wi) * 11 + (hi - cj)), (2, 106), (0, u129)]) (cn1 := 0) (sl1 := 0) rfl (mAtR (by omega) (by omega) (by omega) (by omega)) rfl rfl rfl rfl rfl rfl rfl rfl) ?_
                have hl132 : ((xx * 11 + (yy + cj)) * 11 + wi) * 11 + (hi - cj) ≤ 14640 := by omega
                refine xg_ialdB (n := ((xx * 11 + (yy + cj)) * 11 + wi) * 11 + (hi - cj)) (B := 4294967295) (h106_38.fr hF122 (by decide)) (hb39) xnm0 (by omega) (fun u133 hu134 he135 => ?_)
                refine xg_k (xg_iadd (u := u129) (v := u133) (z := (u129 + u133) % 4294967296) xnm0 xnm0 rfl) (Nat.mod_lt _ (by decide)) (fun z136 hz137 => ?_)
                refine xg_t (xg_istore (l1 := [(0, (2, 82)), (1, (0, xx)), (2, (0, yy)), (3, (0, wi)), (4, (0, hi)), (5, (0, n44)), (6, (0, mp)), (7, (0, cj))]) rfl rfl rfl) ?_
                refine xg_t (xg_iload (va := (0, z136)) rfl rfl) ?_
                refine xg_t (xg_iload (va := (0, mp)) rfl rfl) ?_
                by_cases hc138 : xbs mp < xbs z136
                · have hc138u := hc138
                  unfold xbs at hc138u
                  refine xg_t (xg_icF (u := z136) (v := mp) rfl xnm0 xnm0 (xjs_leF hc138)) ?_
                  refine xg_t (xg_iload (va := (0, z136)) rfl rfl) ?_
                  refine xg_t (xg_goto) ?_
                  refine xg_t (xg_blq rfl) ?_
                  refine xg_t (xg_istore (l1 := [(8, (0, z136)), (0, (2, 82)), (1, (0, xx)), (2, (0, yy)), (3, (0, wi)), (4, (0, hi)), (5, (0, n44)), (7, (0, cj))]) rfl rfl rfl) ?_
                  refine xg_t (xg_iinc (u := cj) (z := cj + 1) (l1 := [(6, (0, z136)), (8, (0, z136)), (0, (2, 82)), (1, (0, xx)), (2, (0, yy)), (3, (0, wi)), (4, (0, hi)), (5, (0, n44))]) rfl rfl (by omega) rfl) ?_
                  refine xg_t (xg_goto) ?_
                  refine xg_t (xg_drop (l1 := [(0, (2, 82)), (1, (0, xx)), (2, (0, yy)), (3, (0, wi)), (4, (0, hi)), (5, (0, n44)), (6, (0, z136)), (7, (0, cj + 1))]) (List.forall_mem_cons.mpr ⟨List.mem_cons_of_mem _ (List.mem_cons_of_mem _ (List.mem_cons_of_mem _ (List.mem_cons_self))), List.forall_mem_cons.mpr ⟨List.mem_cons_of_mem _ (List.mem_cons_of_mem _ (List.mem_cons_of_mem _ (List.mem_cons_of_mem _ (List.mem_cons_self)))), List.forall_mem_cons.mpr ⟨List.mem_cons_of_mem _ (List.mem_cons_of_mem _ (List.mem_cons_of_mem _ (List.mem_cons_of_mem _ (List.mem_cons_of_mem _ (List.mem_cons_self))))), List.forall_mem_cons.mpr ⟨List.mem_cons_of_mem _ (List.mem_cons_of_mem _ (List.mem_cons_of_mem _ (List.mem_cons_of_mem _ (List.mem_cons_of_mem _ (List.mem_cons_of_mem _ (List.mem_cons_self)))))), List.forall_mem_cons.mpr ⟨List.mem_cons_of_mem _ (List.mem_cons_of_mem _ (List.mem_cons_of_mem _ (List.mem_cons_of_mem _ (List.mem_cons_of_mem _ (List.mem_cons_of_mem _ (List.mem_cons_of_mem _ (List.mem_cons_self))))))), List.forall_mem_cons.mpr ⟨List.mem_cons_of_mem _ (List.mem_cons_of_mem _ (List.mem_cons_of_mem _ (List.mem_cons_of_mem _ (List.mem_cons_of_mem _ (List.mem_cons_of_mem _ (List.mem_cons_of_mem _ (List.mem_cons_of_mem _ (List.mem_cons_self)))))))), List.forall_mem_cons.mpr ⟨List.mem_cons_of_mem _ (List.mem_cons_self), List.forall_mem_cons.mpr ⟨List.mem_cons_self, fun _ h => absurd h List.not_mem_nil⟩⟩⟩⟩⟩⟩⟩⟩)) ?_
                  exact ih118 z136 (cj + 1) w120 (by omega) (by omega) (by omega) (hI121) (hF122) (by omega)
                · have hc138u := hc138
                  unfold xbs at hc138u
                  refine xg_t (xg_icT (u := z136) (v := mp) rfl xnm0 xnm0 (xjs_leT hc138)) ?_
                  refine xg_t (xg_blq rfl) ?_
                  refine xg_t (xg_iload (va := (0, mp)) rfl rfl) ?_
                  refine xg_t (xg_blq rfl) ?_
                  refine xg_t (xg_istore (l1 := [(8, (0, z136)), (0, (2, 82)), (1, (0, xx)), (2, (0, yy)), (3, (0, wi)), (4, (0, hi)), (5, (0, n44)), (7, (0, cj))]) rfl rfl rfl) ?_
                  refine xg_t (xg_iinc (u := cj) (z := cj + 1) (l1 := [(6, (0, mp)), (8, (0, z136)), (0, (2, 82)), (1, (0, xx)), (2, (0, yy)), (3, (0, wi)), (4, (0, hi)), (5, (0, n44))]) rfl rfl (by omega) rfl) ?_
                  refine xg_t (xg_goto) ?_
                  refine xg_t (xg_drop (l1 := [(0, (2, 82)), (1, (0, xx)), (2, (0, yy)), (3, (0, wi)), (4, (0, hi)), (5, (0, n44)), (6, (0, mp)), (7, (0, cj + 1))]) (List.forall_mem_cons.mpr ⟨List.mem_cons_of_mem _ (List.mem_cons_of_mem _ (List.mem_cons_of_mem _ (List.mem_cons_self))), List.forall_mem_cons.mpr ⟨List.mem_cons_of_mem _ (List.mem_cons_of_mem _ (List.mem_cons_of_mem _ (List.mem_cons_of_mem _ (List.mem_cons_self)))), List.forall_mem_cons.mpr ⟨List.mem_cons_of_mem _ (List.mem_cons_of_mem _ (List.mem_cons_of_mem _ (List.mem_cons_of_mem _ (List.mem_cons_of_mem _ (List.mem_cons_self))))), List.forall_mem_cons.mpr ⟨List.mem_cons_of_mem _ (List.mem_cons_of_mem _ (List.mem_cons_of_mem _ (List.mem_cons_of_mem _ (List.mem_cons_of_mem _ (List.mem_cons_of_mem _ (List.mem_cons_self)))))), List.forall_mem_cons.mpr ⟨List.mem_cons_of_mem _ (List.mem_cons_of_mem _ (List.mem_cons_of_mem _ (List.mem_cons_of_mem _ (List.mem_cons_of_mem _ (List.mem_cons_of_mem _ (List.mem_cons_of_mem _ (List.mem_cons_self))))))), List.forall_mem_cons.mpr ⟨List.mem_cons_of_mem _ (List.mem_cons_of_mem _ (List.mem_cons_of_mem _ (List.mem_cons_of_mem _ (List.mem_cons_of_mem _ (List.mem_cons_of_mem _ (List.mem_cons_of_mem _ (List.mem_cons_of_mem _ (List.mem_cons_self)))))))), List.forall_mem_cons.mpr ⟨List.mem_cons_of_mem _ (List.mem_cons_self), List.forall_mem_cons.mpr ⟨List.mem_cons_self, fun _ h => absurd h List.not_mem_nil⟩⟩⟩⟩⟩⟩⟩⟩)) ?_
                  exact ih118 mp (cj + 1) w120 (by omega) (by omega) (by omega) (hI121) (hF122) (by omega)
              · refine xg_t (xg_icT (u := cj) (v := hi) rfl xnm0 xnm0 (xj_geT (by omega) (by omega))) ?_
                refine xg_t (xg_blq rfl) ?_
                refine xg_t (xg_iload (va := (0, mp)) rfl rfl) ?_
                exact xg_e ⟨mp, w120, ⟨rfl, rfl⟩, by omega, hI121, hF122⟩
          exact key117 _ mo 1 w98 (Nat.lt_succ_self _) (by omega) (by omega) (hI99) (hF100) (by omega)
    exact key95 _ 0 1 w40 (Nat.lt_succ_self _) (by omega) (by omega) (hI42) ((hF43.up (by decide))) (by omega)
theorem mValues (hI : xMnv w)  : xPq (d + 3) mX12_values [(2, 82)] w bd fc rr [] (fun w' => xMnv w' ∧ xFr [106, 107] w w') := by
  refine xPq.of ?_
  show xTo (d + 3) mX12_values (0, [], [(0, (2, 82))], [], (w, bd, fc, 0, 0, rr)) (fun φ => ∃ w', xEnd 0 [] (w', bd, fc, 0, 0, rr) φ ∧ xMnv w' ∧ xFr [106, 107] w w')
  refine xoCh82 (xqc82 hI : cp82 (wget w 82)) (fun f82_1 f82_3 f82_5 f82_7 f82_9 f82_11 f82_13 f82_15 f82_17 f82_19 f82_21 f82_22 f82_23 f82_25 f82_27 f82_29 h82_31 hb2 hb4 hb6 hb8 hb10 hb12 hb14 hb16 hb18 hb20 hb24 hb26 hb28 hb30 hb32 => ?_)
  refine xoX83 (xqc83 hI : cpx83 (wget w 83)) (fun g83_33 h83_34 hb35 hx36 => ?_)
  refine xg_t (xg_blq rfl) ?_
  refine xg_t (xg_const) ?_
  refine xg_t (xg_istore (l1 := [(0, (2, 82))]) rfl rfl rfl) ?_
  refine xg_t (xg_drop (l1 := [(0, (2, 82)), (1, (0, 1))]) (List.forall_mem_cons.mpr ⟨List.mem_cons_of_mem _ (List.mem_cons_self), List.forall_mem_cons.mpr ⟨List.mem_cons_self, fun _ h => absurd h List.not_mem_nil⟩⟩)) ?_
  have key37 : ∀ (m39 : Nat) (wi : Nat) (w40 : List (List xE)), 11 - wi < m39 → wi ≤ 11 → xMnv w40 → xFr [106, 107] w w40 → 1 ≤ wi → xTo (d + 3) mX12_values (2, [], [(0, (2, 82)), (1, (0, wi))], [], (w40, bd, fc, 0, 0, rr)) (fun φ => ∃ w', xEnd 0 [] (w', bd, fc, 0, 0, rr) φ ∧ xMnv w' ∧ xFr [106, 107] w w') := by
    intro m39
    induction m39 with
    | zero => intro wi w40 hz; exact absurd hz (Nat.not_lt_zero _)
    | succ m39 ih38 =>
      intro wi w40 hm45 hn43 hI41 hF42 he44
      refine xg_t (xg_blq rfl) ?_
      refine xg_t (xg_iload (va := (0, wi)) rfl rfl) ?_
      refine xg_t (xg_aload (va := (2, 82)) rfl rfl) ?_
      refine xg_t (xg_getf (va := (2, 83)) (hF42.get (by decide) h82_31) rfl) ?_
      refine xg_t (xg_bip) ?_
      refine xg_ialdB (n := 7) (B := 4294967295) (h83_34.fr hF42 (by decide)) (hb35) xnm0 (by first | decide | omega) (fun u46 hu47 he48 => ?_)
      have hl49 : u46 ≤ 10 := by rw [← he48]; exact hx36.l7
      by_cases hc50 : u46 < wi
      · refine xg_t (xg_icT (u := wi) (v := u46) rfl xnm0 xnm0 (xj_gtT hc50 (by omega))) ?_
        refine xg_t (xg_blq rfl) ?_
        exact xg_e ⟨w40, ⟨rfl, rfl⟩, hI41, hF42⟩
      · refine xg_t (xg_icF (u := wi) (v := u46) rfl xnm0 xnm0 (xj_gtF (by omega) (by omega))) ?_
        refine xg_t (xg_const) ?_
        refine xg_t (xg_istore (l1 := [(0, (2, 82)), (1, (0, wi))]) rfl rfl rfl) ?_
        refine xg_t (xg_drop (l1 := [(0, (2, 82)), (1, (0, wi)), (2, (0, 1))]) (List.forall_mem_cons.mpr ⟨List.mem_cons_of_mem _ (List.mem_cons_self), List.forall_mem_cons.mpr ⟨List.mem_cons_of_mem _ (List.mem_cons_of_mem _ (List.mem_cons_self)), List.forall_mem_cons.mpr ⟨List.mem_cons_self, fun _ h => absurd h List.not_mem_nil⟩⟩⟩)) ?_
        have key51 : ∀ (m53 : Nat) (hi : Nat) (w54 : List (List xE)), 11 - hi < m53 → hi ≤ 11 → xMnv w54 → xFr [106, 107] w w54 → 1 ≤ hi → xTo (d + 3) mX12_values (15, [], [(0, (2, 82)), (1, (0, wi)), (2, (0, hi))], [], (w54, bd, fc, 0, 0, rr)) (fun φ => ∃ w', xEnd 0 [] (w', bd, fc, 0, 0, rr) φ ∧ xMnv w' ∧ xFr [106, 107] w w') := by
          intro m53
          induction m53 with
          | zero => intro hi w54 hz; exact absurd hz (Nat.not_lt_zero _)
          | succ m53 ih52 =>
            intro hi w54 hm59 hn57 hI55 hF56 he58
            refine xg_t (xg_blq rfl) ?_
            refine xg_t (xg_iload (va := (0, hi)) rfl rfl) ?_
            refine xg_t (xg_aload (va := (2, 82)) rfl rfl) ?_
            refine xg_t (xg_getf (va := (2, 83)) (hF56.get (by decide) h82_31) rfl) ?_
            refine xg_t (xg_bip) ?_
            refine xg_ialdB (n := 8) (B := 4294967295) (h83_34.fr hF56 (by decide)) (hb35) xnm0 (by first | decide | omega) (fun u60 hu61 he62 => ?_)
            have hl63 : u60 ≤ 10 := by rw [← he62]; exact hx36.l8
            by_cases hc64 : u60 < hi
            · refine xg_t (xg_icT (u := hi) (v := u60) rfl xnm0 xnm0 (xj_gtT hc64 (by omega))) ?_
              refine xg_t (xg_blq rfl) ?_
              refine xg_t (xg_iinc (u := wi) (z := wi + 1) (l1 := [(0, (2, 82)), (2, (0, hi))]) rfl rfl (by omega) rfl) ?_
              refine xg_t (xg_goto) ?_
              refine xg_t (xg_drop (l1 := [(0, (2, 82)), (1, (0, wi + 1))]) (List.forall_mem_cons.mpr ⟨List.mem_cons_of_mem _ (List.mem_cons_self), List.forall_mem_cons.mpr ⟨List.mem_cons_self, fun _ h => absurd h List.not_mem_nil⟩⟩)) ?_
              exact ih38 (wi + 1) w54 (by omega) (by omega) (hI55) (hF56) (by omega)
            · refine xg_t (xg_icF (u := hi) (v := u60) rfl xnm0 xnm0 (xj_gtF (by omega) (by omega))) ?_
              refine xg_t (xg_const) ?_
              refine xg_t (xg_istore (l1 := [(0, (2, 82)), (1, (0, wi)), (2, (0, hi))]) rfl rfl rfl) ?_
              refine xg_t (xg_drop (l1 := [(0, (2, 82)), (1, (0, wi)), (2, (0, hi)), (3, (0, 0))]) (List.forall_mem_cons.mpr ⟨List.mem_cons_of_mem _ (List.mem_cons_self), List.forall_mem_cons.mpr ⟨List.mem_cons_of_mem _ (List.mem_cons_of_mem _ (List.mem_cons_self)), List.forall_mem_cons.mpr ⟨List.mem_cons_of_mem _ (List.mem_cons_of_mem _ (List.mem_cons_of_mem _ (List.mem_cons_self))), List.forall_mem_cons.mpr ⟨List.mem_cons_self, fun _ h => absurd h List.not_mem_nil⟩⟩⟩⟩)) ?_
              have key65 : ∀ (m67 : Nat) (xi : Nat) (w68 : List (List xE)), 11 - xi < m67 → xi ≤ 11 → xMnv w68 → xFr [106, 107] w w68 → xTo (d + 3) mX12_values (28, [], [(0, (2, 82)), (1, (0, wi)), (2, (0, hi)), (3, (0, xi))], [], (w68, bd, fc, 0, 0, rr)) (fun φ => ∃ w', xEnd 0 [] (w', bd, fc, 0, 0, rr) φ ∧ xMnv w' ∧ xFr [106, 107] w w') := by
                intro m67
                induction m67 with
                | zero => intro xi w68 hz; exact absurd hz (Nat.not_lt_zero _)
                | succ m67 ih66 =>
                  intro xi w68 hm72 hn71 hI69 hF70
                  refine xg_t (xg_blq rfl) ?_
                  refine xg_t (xg_iload (va := (0, xi)) rfl rfl) ?_
                  refine xg_t (xg_iload (va := (0, wi)) rfl rfl) ?_
                  refine xg_t (xg_iadd (u := xi) (v := wi) (z := xi + wi) xnm0 xnm0 (by omega)) ?_
                  refine xg_t (xg_aload (va := (2, 82)) rfl rfl) ?_
                  refine xg_t (xg_getf (va := (2, 83)) (hF70.get (by decide) h82_31) rfl) ?_
                  refine xg_t (xg_bip) ?_
                  refine xg_ialdB (n := 7) (B := 4294967295) (h83_34.fr hF70 (by decide)) (hb35) xnm0 (by first | decide | omega) (fun u73 hu74 he75 => ?_)
                  have hl76 : u73 ≤ 10 := by rw [← he75]; exact hx36.l7
                  by_cases hc77 : u73 < (xi + wi)
                  · refine xg_t (xg_icT (u := xi + wi) (v := u73) rfl xnm0 xnm0 (xj_gtT hc77 (by omega))) ?_
                    refine xg_t (xg_blq rfl) ?_
                    refine xg_t (xg_iinc (u := hi) (z := hi + 1) (l1 := [(0, (2, 82)), (1, (0, wi)), (3, (0, xi))]) rfl rfl (by omega) rfl) ?_
                    refine xg_t (xg_goto) ?_
                    refine xg_t (xg_drop (l1 := [(0, (2, 82)), (1, (0, wi)), (2, (0, hi + 1))]) (List.forall_mem_cons.mpr ⟨List.mem_cons_of_mem _ (List.mem_cons_self), List.forall_mem_cons.mpr ⟨List.mem_cons_of_mem _ (List.mem_cons_of_mem _ (List.mem_cons_self)), List.forall_mem_cons.mpr ⟨List.mem_cons_self, fun _ h => absurd h List.not_mem_nil⟩⟩⟩)) ?_
                    exact ih52 (hi + 1) w68 (by omega) (by omega) (hI69) (hF70) (by omega)
                  · refine xg_t (xg_icF (u := xi + wi) (v := u73) rfl xnm0 xnm0 (xj_gtF (by omega) (by omega))) ?_
                    refine xg_t (xg_const) ?_
                    refine xg_t (xg_istore (l1 := [(0, (2, 82)), (1, (0, wi)), (2, (0, hi)), (3, (0, xi))]) rfl rfl rfl) ?_
                    refine xg_t (xg_drop (l1 := [(0, (2, 82)), (1, (0, wi)), (2, (0, hi)), (3, (0, xi)), (4, (0, 0))]) (List.forall_mem_cons.mpr ⟨List.mem_cons_of_mem _ (List.mem_cons_self), List.forall_mem_cons.mpr ⟨List.mem_cons_of_mem _ (List.mem_cons_of_mem _ (List.mem_cons_self)), List.forall_mem_cons.mpr ⟨List.mem_cons_of_mem _ (List.mem_cons_of_mem _ (List.mem_cons_of_mem _ (List.mem_cons_self))), List.forall_mem_cons.mpr ⟨List.mem_cons_of_mem _ (List.mem_cons_of_mem _ (List.mem_cons_of_mem _ (List.mem_cons_of_mem _ (List.mem_cons_self)))), List.forall_mem_cons.mpr ⟨List.mem_cons_self, fun _ h => absurd h List.not_mem_nil⟩⟩⟩⟩⟩)) ?_
                    have key78 : ∀ (m80 : Nat) (yi : Nat) (w81 : List (List xE)), 11 - yi < m80 → yi ≤ 11 → xMnv w81 → xFr [106, 107] w w81 → xTo (d + 3) mX12_values (44, [], [(0, (2, 82)), (1, (0, wi)), (2, (0, hi)), (3, (0, xi)), (4, (0, yi))], [], (w81, bd, fc, 0, 0, rr)) (fun φ => ∃ w', xEnd 0 [] (w', bd, fc, 0, 0, rr) φ ∧ xMnv w' ∧ xFr [106, 107] w w') := by
                      intro m80
                      induction m80 with
                      | zero => intro yi w81 hz; exact absurd hz (Nat.not_lt_zero _)
                      | succ m80 ih79 =>
                        intro yi w81 hm85 hn84 hI82 hF83
                        refine xg_t (xg_blq rfl) ?_
                        refine xg_t (xg_iload (va := (0, yi)) rfl rfl) ?_
                        refine xg_t (xg_iload (va := (0, hi)) rfl rfl) ?_
                        refine xg_t (xg_iadd (u := yi) (v := hi) (z := yi + hi) xnm0 xnm0 (by omega)) ?_
                        refine xg_t (xg_aload (va := (2, 82)) rfl rfl) ?_
                        refine xg_t (xg_getf (va := (2, 83)) (hF83.get (by decide) h82_31) rfl) ?_
                        refine xg_t (xg_bip) ?_
                        refine xg_ialdB (n := 8) (B := 4294967295) (h83_34.fr hF83 (by decide)) (hb35) xnm0 (by first | decide | omega) (fun u86 hu87 he88 => ?_)
                        have hl89 : u86 ≤ 10 := by rw [← he88]; exact hx36.l8
                        by_cases hc90 : u86 < (yi + hi)
                        · refine xg_t (xg_icT (u := yi + hi) (v := u86) rfl xnm0 xnm0 (xj_gtT hc90 (by omega))) ?_
                          refine xg_t (xg_blq rfl) ?_
                          refine xg_t (xg_iinc (u := xi) (z := xi + 1) (l1 := [(0, (2, 82)), (1, (0, wi)), (2, (0, hi)), (4, (0, yi))]) rfl rfl (by omega) rfl) ?_
                          refine xg_t (xg_goto) ?_
                          refine xg_t (xg_drop (l1 := [(0, (2, 82)), (1, (0, wi)), (2, (0, hi)), (3, (0, xi + 1))]) (List.forall_mem_cons.mpr ⟨List.mem_cons_of_mem _ (List.mem_cons_self), List.forall_mem_cons.mpr ⟨List.mem_cons_of_mem _ (List.mem_cons_of_mem _ (List.mem_cons_self)), List.forall_mem_cons.mpr ⟨List.mem_cons_of_mem _ (List.mem_cons_of_mem _ (List.mem_cons_of_mem _ (List.mem_cons_self))), List.forall_mem_cons.mpr ⟨List.mem_cons_self, fun _ h => absurd h List.not_mem_nil⟩⟩⟩⟩)) ?_
                          exact ih66 (xi + 1) w81 (by omega) (by omega) (hI82) (hF83)
                        · refine xg_t (xg_icF (u := yi + hi) (v := u86) rfl xnm0 xnm0 (xj_gtF (by omega) (by omega))) ?_
                          refine xg_t (xg_aload (va := (2, 82)) rfl rfl) ?_
                          refine xg_t (xg_getf (va := (2, 107)) (hF83.get (by decide) h82_31) rfl) ?_
                          refine xg_t (xg_iload (va := (0, xi)) rfl rfl) ?_
                          refine xg_t (xg_iload (va := (0, yi)) rfl rfl) ?_
                          refine xg_t (xg_iload (va := (0, wi)) rfl rfl) ?_
                          refine xg_t (xg_iload (va := (0, hi)) rfl rfl) ?_
                          refine xg_t (xg_cSr mX12_at (vs := [(0, xi), (0, yi), (0, wi), (0, hi)]) (rest := [(2, 107)]) (rs := [(0, ((xi * 11 + yi) * 11 + wi) * 11 + hi), (2, 107)]) (cn1 := 0) (sl1 := 0) rfl (mAtR (by omega) (by omega) (by omega) (by omega)) rfl rfl rfl rfl rfl rfl rfl rfl) ?_
                          have hl91 : ((xi * 11 + yi) * 11 + wi) * 11 + hi ≤ 14640 := by omega
                          refine xg_t (xg_aload (va := (2, 82)) rfl rfl) ?_
                          refine xg_t (xg_iload (va := (0, xi)) rfl rfl) ?_
                          refine xg_t (xg_iload (va := (0, yi)) rfl rfl) ?_
                          refine xg_t (xg_iload (va := (0, wi)) rfl rfl) ?_
                          refine xg_t (xg_iload (va := (0, hi)) rfl rfl) ?_
                          refine xg_cVi mX12_hasFlaw (vs := [(0, xi), (0, yi), (0, wi), (0, hi)]) (rest := [(0, ((xi * 11 + yi) * 11 + wi) * 11 + hi), (2, 107)]) (cn1 := 0) (sl1 := 0) rfl (mHasFlaw (hI82) (by omega) (by omega) (by omega) (by omega) (by omega) (by omega) (by omega) (by omega)) rfl (hF83.get (by decide) h82_31) rfl rfl rfl rfl rfl rfl (fun n96 w92 hq93 => ?_)
                          obtain ⟨hn97, hI94, hF95⟩ := hq93
                          obtain ⟨g107_98, h107_99, hb100⟩ := (xqc107 hI94 : cpK 2 0 14641 74 1 (wget w92 107))
                          have h107_99 : xRk 2 0 w92 107 14641 74 g107_98 := h107_99
                          refine xg_bastZ (n := ((xi * 11 + yi) * 11 + wi) * 11 + hi) (u := n96) h107_99 xnm0 xnm0 rfl (by omega) (by omega) (fun w101 hr102 hb103 => ?_)
                          refine xg_t (xg_aload (va := (2, 82)) rfl rfl) ?_
                          refine xg_t (xg_getf (va := (2, 106)) (hb103.get (by decide) (hF95.get (by decide) (hF83.get (by decide) h82_31))) rfl) ?_
                          refine xg_t (xg_iload (va := (0, xi)) rfl rfl) ?_
                          refine xg_t (xg_iload (va := (0, yi)) rfl rfl) ?_
                          refine xg_t (xg_iload (va := (0, wi)) rfl rfl) ?_
                          refine xg_t (xg_iload (va := (0, hi)) rfl rfl) ?_
                          refine xg_t (xg_cSr mX12_at (vs := [(0, xi), (0, yi), (0, wi), (0, hi)]) (rest := [(2, 106)]) (rs := [(0, ((xi * 11 + yi) * 11 + wi) * 11 + hi), (2, 106)]) (cn1 := 0) (sl1 := 0) rfl (mAtR (by omega) (by omega) (by omega) (by omega)) rfl rfl rfl rfl rfl rfl rfl rfl) ?_
                          have hl104 : ((xi * 11 + yi) * 11 + wi) * 11 + hi ≤ 14640 := by omega
                          refine xg_t (xg_aload (va := (2, 82)) rfl rfl) ?_
                          refine xg_t (xg_iload (va := (0, xi)) rfl rfl) ?_
                          refine xg_t (xg_iload (va := (0, yi)) rfl rfl) ?_
                          refine xg_t (xg_iload (va := (0, wi)) rfl rfl) ?_
                          refine xg_t (xg_iload (va := (0, hi)) rfl rfl) ?_
                          refine xg_cVi mX12_pieceOf (vs := [(0, xi), (0, yi), (0, wi), (0, hi)]) (rest := [(0, ((xi * 11 + yi) * 11 + wi) * 11 + hi), (2, 106)]) (cn1 := 0) (sl1 := 0) rfl (mPieceOf (xMnv.up (S := [107]) hI94 (xFr.of (S := [107]) hb103 (by decide)) (List.forall_mem_cons.mpr ⟨xqu107 (show cpK 2 0 14641 74 1 (wget w101 107) from ⟨_, hr102, xrb (by omega) (hb100)⟩), fun _ h => absurd h List.not_mem_nil⟩)) (by omega) (by omega) (by omega) (by omega) (by omega) (by omega) (by omega) (by omega)) rfl (hb103.get (by decide) (hF95.get (by decide) (hF83.get (by decide) h82_31))) rfl rfl rfl rfl rfl rfl (fun n109 w105 hq106 => ?_)
                          obtain ⟨hn110, hI107, hF108⟩ := hq106
                          refine xoI (xqc106 hI107 : cpI 14641 73 4294967295 (wget w105 106)) (fun g106_111 h106_112 hb113 => ?_)
                          refine xg_iastK (n := ((xi * 11 + yi) * 11 + wi) * 11 + hi) (u := n109) h106_112 xnm0 xnm0 rfl (by omega) (fun w114 hr115 hb116 => ?_)
                          refine xg_t (xg_iinc (u := yi) (z := yi + 1) (l1 := [(0, (2, 82)), (1, (0, wi)), (2, (0, hi)), (3, (0, xi))]) rfl rfl (by omega) rfl) ?_
                          refine xg_t (xg_goto) ?_
                          refine xg_t (xg_drop (l1 := [(0, (2, 82)), (1, (0, wi)), (2, (0, hi)), (3, (0, xi)), (4, (0, yi + 1))]) (List.forall_mem_cons.mpr ⟨List.mem_cons_of_mem _ (List.mem_cons_self), List.forall_mem_cons.mpr ⟨List.mem_cons_of_mem _ (List.mem_cons_of_mem _ (List.mem_cons_self)), List.forall_mem_cons.mpr ⟨List.mem_cons_of_mem _ (List.mem_cons_of_mem _ (List.mem_cons_of_mem _ (List.mem_cons_self))), List.forall_mem_cons.mpr ⟨List.mem_cons_of_mem _ (List.mem_cons_of_mem _ (List.mem_cons_of_mem _ (List.mem_cons_of_mem _ (List.mem_cons_self)))), List.forall_mem_cons.mpr ⟨List.mem_cons_self, fun _ h => absurd h List.not_mem_nil⟩⟩⟩⟩⟩)) ?_
                          exact ih79 (yi + 1) w114 (by omega) (by omega) (xMnv.up (S := [106]) hI107 (xFr.of (S := [106]) hb116 (by decide)) (List.forall_mem_cons.mpr ⟨xqu106 (show cpI 14641 73 4294967295 (wget w114 106) from ⟨_, hr115, xrb (by omega) (hb113)⟩), fun _ h => absurd h List.not_mem_nil⟩)) (((((hF83.tr (hF95.up (by decide))).tr (xFr.of (S := [106, 107]) hb103 (by decide))).tr (hF108.up (by decide))).tr (xFr.of (S := [106, 107]) hb116 (by decide))))
                    exact key78 _ 0 w68 (Nat.lt_succ_self _) (by omega) (hI69) (hF70)
              exact key65 _ 0 w54 (Nat.lt_succ_self _) (by omega) (hI55) (hF56)
        exact key51 _ 1 w40 (Nat.lt_succ_self _) (by omega) (hI41) (hF42) (by omega)
  exact key37 _ 1 w (Nat.lt_succ_self _) (by omega) (hI) (xFr.rf) (by omega)
theorem mValue {xx yy wi hi : Nat} (hI : xMnv w) (hxx : xx ≤ 4294967295) (hyy : yy ≤ 4294967295) (hwi : wi ≤ 4294967295) (hhi : hi ≤ 4294967295) : xPi (d + 4) mX12_value [(2, 82), (0, xx), (0, yy), (0, wi), (0, hi)] w bd fc rr (fun n w' => (n ≤ 4294967295) ∧ xMnv w' ∧ xFr [106, 107] w w') := by
  refine xPi.of ?_
  show xTo (d + 4) mX12_value (0, [], [(0, (2, 82)), (1, (0, xx)), (2, (0, yy)), (3, (0, wi)), (4, (0, hi))], [], (w, bd, fc, 0, 0, rr)) (fun φ => ∃ n w', xEnd 1 [(0, n)] (w', bd, fc, 0, 0, rr) φ ∧ (n ≤ 4294967295) ∧ xMnv w' ∧ xFr [106, 107] w w')
  refine xoCh82 (xqc82 hI : cp82 (wget w 82)) (fun f82_1 f82_3 f82_5 f82_7 f82_9 f82_11 f82_13 f82_15 f82_17 f82_19 f82_21 f82_22 f82_23 f82_25 f82_27 f82_29 h82_31 hb2 hb4 hb6 hb8 hb10 hb12 hb14 hb16 hb18 hb20 hb24 hb26 hb28 hb30 hb32 => ?_)
  refine xoX83 (xqc83 hI : cpx83 (wget w 83)) (fun g83_33 h83_34 hb35 hx36 => ?_)
  refine xg_t (xg_blq rfl) ?_
  refine xg_t (xg_iload (va := (0, xx)) rfl rfl) ?_
  refine xg_t (xg_const) ?_
  refine xg_t (xg_aload (va := (2, 82)) rfl rfl) ?_
  refine xg_t (xg_getf (va := (2, 83)) h82_31 rfl) ?_
  refine xg_t (xg_bip) ?_
  refine xg_ialdB (n := 7) (B := 4294967295) h83_34 (hb35) xnm0 (by first | decide | omega) (fun u37 hu38 he39 => ?_)
  have hl40 : u37 ≤ 10 := by rw [← he39]; exact hx36.l7
  refine xg_t (xg_const) ?_
  by_cases hc41 : 1 ≤ u37
  · refine xg_t (xg_isub (u := u37) (v := 1) (z := u37 - 1) xnm0 xnm0 (by omega)) ?_
    refine xg_t (xg_cSr mX12_isIn (vs := [(0, xx), (0, 0), (0, u37 - 1)]) (rest := []) (rs := [(0, if 0 ≤ xx ∧ xx ≤ u37 - 1 then 1 else 0)]) (cn1 := 0) (sl1 := 0) rfl (mIsIn (by omega) (by omega) (by omega)) rfl rfl rfl rfl rfl rfl rfl rfl) ?_
    by_cases hc42 : 0 ≤ xx ∧ xx ≤ u37 - 1
    · refine xg_t (xg_ifF (u := (if 0 ≤ xx ∧ xx ≤ u37 - 1 then 1 else 0)) rfl xnm0 (xj_eqF (xite1 hc42))) ?_
      refine xg_t (xg_iload (va := (0, yy)) rfl rfl) ?_
      refine xg_t (xg_const) ?_
      refine xg_t (xg_aload (va := (2, 82)) rfl rfl) ?_
      refine xg_t (xg_getf (va := (2, 83)) h82_31 rfl) ?_
      refine xg_t (xg_bip) ?_
      refine xg_ialdB (n := 8) (B := 4294967295) h83_34 (hb35) xnm0 (by first | decide | omega) (fun u43 hu44 he45 => ?_)
      have hl46 : u43 ≤ 10 := by rw [← he45]; exact hx36.l8
      refine xg_t (xg_const) ?_
      by_cases hc47 : 1 ≤ u43
      · refine xg_t (xg_isub (u := u43) (v := 1) (z := u43 - 1) xnm0 xnm0 (by omega)) ?_
        refine xg_t (xg_cSr mX12_isIn (vs := [(0, yy), (0, 0), (0, u43 - 1)]) (rest := []) (rs := [(0, if 0 ≤ yy ∧ yy ≤ u43 - 1 then 1 else 0)]) (cn1 := 0) (sl1 := 0) rfl (mIsIn (by omega) (by omega) (by omega)) rfl rfl rfl rfl rfl rfl rfl rfl) ?_
        by_cases hc48 : 0 ≤ yy ∧ yy ≤ u43 - 1
        · refine xg_t (xg_ifF (u := (if 0 ≤ yy ∧ yy ≤ u43 - 1 then 1 else 0)) rfl xnm0 (xj_eqF (xite1 hc48))) ?_
          refine xg_t (xg_iload (va := (0, wi)) rfl rfl) ?_
          refine xg_t (xg_const) ?_
          refine xg_t (xg_aload (va := (2, 82)) rfl rfl) ?_
          refine xg_t (xg_getf (va := (2, 83)) h82_31 rfl) ?_
          refine xg_t (xg_bip) ?_
          refine xg_ialdB (n := 7) (B := 4294967295) h83_34 (hb35) xnm0 (by first | decide | omega) (fun u49 hu50 he51 => ?_)
          have hl52 : u49 ≤ 10 := by rw [← he51]; exact hx36.l7
          refine xg_t (xg_iload (va := (0, xx)) rfl rfl) ?_
          by_cases hc53 : xx ≤ u49
          · refine xg_t (xg_isub (u := u49) (v := xx) (z := u49 - xx) xnm0 xnm0 (by omega)) ?_
            refine xg_t (xg_cSr mX12_isIn (vs := [(0, wi), (0, 1), (0, u49 - xx)]) (rest := []) (rs := [(0, if 1 ≤ wi ∧ wi ≤ u49 - xx then 1 else 0)]) (cn1 := 0) (sl1 := 0) rfl (mIsIn (by omega) (by omega) (by omega)) rfl rfl rfl rfl rfl rfl rfl rfl) ?_
            by_cases hc54 : 1 ≤ wi ∧ wi ≤ u49 - xx
            · refine xg_t (xg_ifF (u := (if 1 ≤ wi ∧ wi ≤ u49 - xx then 1 else 0)) rfl xnm0 (xj_eqF (xite1 hc54))) ?_
              refine xg_t (xg_iload (va := (0, hi)) rfl rfl) ?_
              refine xg_t (xg_const) ?_
              refine xg_t (xg_aload (va := (2, 82)) rfl rfl) ?_
              refine xg_t (xg_getf (va := (2, 83)) h82_31 rfl) ?_
              refine xg_t (xg_bip) ?_
              refine xg_ialdB (n := 8) (B := 4294967295) h83_34 (hb35) xnm0 (by first | decide | omega) (fun u55 hu56 he57 => ?_)
              have hl58 : u55 ≤ 10 := by rw [← he57]; exact hx36.l8
              refine xg_t (xg_iload (va := (0, yy)) rfl rfl) ?_
              by_cases hc59 : yy ≤ u55
              · refine xg_t (xg_isub (u := u55) (v := yy) (z := u55 - yy) xnm0 xnm0 (by omega)) ?_
                refine xg_t (xg_cSr mX12_isIn (vs := [(0, hi), (0, 1), (0, u55 - yy)]) (rest := []) (rs := [(0, if 1 ≤ hi ∧ hi ≤ u55 - yy then 1 else 0)]) (cn1 := 0) (sl1 := 0) rfl (mIsIn (by omega) (by omega) (by omega)) rfl rfl rfl rfl rfl rfl rfl rfl) ?_
                by_cases hc60 : 1 ≤ hi ∧ hi ≤ u55 - yy
                · refine xg_t (xg_ifT (u := (if 1 ≤ hi ∧ hi ≤ u55 - yy then 1 else 0)) rfl xnm0 (xj_neT (xite1 hc60))) ?_
                  refine xg_t (xg_blq rfl) ?_
                  refine xg_t (xg_aload (va := (2, 82)) rfl rfl) ?_
                  refine xg_cVv mX12_values (vs := []) (rest := []) (cn1 := 0) (sl1 := 0) rfl (mValues (hI)) rfl h82_31 rfl rfl rfl rfl rfl rfl (fun w61 hq62 => ?_)
                  obtain ⟨hI63, hF64⟩ := hq62
                  refine xg_t (xg_aload (va := (2, 82)) rfl rfl) ?_
                  refine xg_t (xg_getf (va := (2, 106)) (hF64.get (by decide) h82_31) rfl) ?_
                  refine xg_t (xg_iload (va := (0, xx)) rfl rfl) ?_
                  refine xg_t (xg_iload (va := (0, yy)) rfl rfl) ?_
                  refine xg_t (xg_iload (va := (0, wi)) rfl rfl) ?_
                  refine xg_t (xg_iload (va := (0, hi)) rfl rfl) ?_
                  refine xg_t (xg_cSr mX12_at (vs := [(0, xx), (0, yy), (0, wi), (0, hi)]) (rest := [(2, 106)]) (rs := [(0, ((xx * 11 + yy) * 11 + wi) * 11 + hi), (2, 106)]) (cn1 := 0) (sl1 := 0) rfl (mAtR (by omega) (by omega) (by omega) (by omega)) rfl rfl rfl rfl rfl rfl rfl rfl) ?_
                  have hl65 : ((xx * 11 + yy) * 11 + wi) * 11 + hi ≤ 14640 := by omega
                  refine xoI (xqc106 hI63 : cpI 14641 73 4294967295 (wget w61 106)) (fun g106_66 h106_67 hb68 => ?_)
                  refine xg_ialdB (n := ((xx * 11 + yy) * 11 + wi) * 11 + hi) (B := 4294967295) h106_67 (hb68) xnm0 (by omega) (fun u69 hu70 he71 => ?_)
                  exact xg_e ⟨u69, w61, ⟨rfl, rfl⟩, by omega, hI63, (hF64.up (by decide))⟩
                · refine xg_t (xg_ifF (u := (if 1 ≤ hi ∧ hi ≤ u55 - yy then 1 else 0)) rfl xnm0 (xj_neF (xite0 hc60))) ?_
                  refine xg_t (xg_blq rfl) ?_
                  refine xg_t (xg_const) ?_
                  exact xg_e ⟨4294967295, w, ⟨rfl, rfl⟩, by first | decide | omega, hI, xFr.rf⟩
              · have hz74 : 4294967287 ≤ (u55 + (4294967296 - yy)) % 4294967296 := by omega
                refine xg_t (xg_isub (u := u55) (v := yy) (z := (u55 + (4294967296 - yy)) % 4294967296) xnm0 xnm0 rfl) ?_
                have hz73 : (u55 + (4294967296 - yy)) % 4294967296 < 4294967296 := Nat.mod_lt _ (by decide)
                generalize (u55 + (4294967296 - yy)) % 4294967296 = z72 at hz74 hz73 ⊢
                refine xg_t (xg_cSr mX12_isIn (vs := [(0, hi), (0, 1), (0, z72)]) (rest := []) (rs := [(0, 0)]) (cn1 := 0) (sl1 := 0) rfl (mIsInN (by omega) (by omega) (by omega) (by omega)) rfl rfl rfl rfl rfl rfl rfl rfl) ?_
                refine xg_t (xg_ifF (u := 0) rfl xnm0 (by decide)) ?_
                refine xg_t (xg_blq rfl) ?_
                refine xg_t (xg_const) ?_
                exact xg_e ⟨4294967295, w, ⟨rfl, rfl⟩, by first | decide | omega, hI, xFr.rf⟩
            · refine xg_t (xg_ifT (u := (if 1 ≤ wi ∧ wi ≤ u49 - xx then 1 else 0)) rfl xnm0 (xj_eqT (xite0 hc54))) ?_
              refine xg_t (xg_blq rfl) ?_
              refine xg_t (xg_const) ?_
              exact xg_e ⟨4294967295, w, ⟨rfl, rfl⟩, by first | decide | omega, hI, xFr.rf⟩
          · have hz77 : 4294967287 ≤ (u49 + (4294967296 - xx)) % 4294967296 := by omega
            refine xg_t (xg_isub (u := u49) (v := xx) (z := (u49 + (4294967296 - xx)) % 4294967296) xnm0 xnm0 rfl) ?_
            have hz76 : (u49 + (4294967296 - xx)) % 4294967296 < 4294967296 := Nat.mod_lt _ (by decide)
            generalize (u49 + (4294967296 - xx)) % 4294967296 = z75 at hz77 hz76 ⊢
            refine xg_t (xg_cSr mX12_isIn (vs := [(0, wi), (0, 1), (0, z75)]) (rest := []) (rs := [(0, 0)]) (cn1 := 0) (sl1 := 0) rfl (mIsInN (by omega) (by omega) (by omega) (by omega)) rfl rfl rfl rfl rfl rfl rfl rfl) ?_
            refine xg_t (xg_ifT (u := 0) rfl xnm0 (by decide)) ?_
            refine xg_t (xg_blq rfl) ?_
            refine xg_t (xg_const) ?_
            exact xg_e ⟨4294967295, w, ⟨rfl, rfl⟩, by first | decide | omega, hI, xFr.rf⟩
        · refine xg_t (xg_ifT (u := (if 0 ≤ yy ∧ yy ≤ u43 - 1 then 1 else 0)) rfl xnm0 (xj_eqT (xite0 hc48))) ?_
          refine xg_t (xg_blq rfl) ?_
          refine xg_t (xg_const) ?_
          exact xg_e ⟨4294967295, w, ⟨rfl, rfl⟩, by first | decide | omega, hI, xFr.rf⟩
      · have hz80 : 4294967295 ≤ (u43 + (4294967296 - 1)) % 4294967296 := by omega
        refine xg_t (xg_isub (u := u43) (v := 1) (z := (u43 + (4294967296 - 1)) % 4294967296) xnm0 xnm0 rfl) ?_
        have hz79 : (u43 + (4294967296 - 1)) % 4294967296 < 4294967296 := Nat.mod_lt _ (by decide)
        generalize (u43 + (4294967296 - 1)) % 4294967296 = z78 at hz80 hz79 ⊢
        refine xg_t (xg_cSr mX12_isIn (vs := [(0, yy), (0, 0), (0, z78)]) (rest := []) (rs := [(0, 0)]) (cn1 := 0) (sl1 := 0) rfl (mIsInN (by omega) (by omega) (by omega) (by omega)) rfl rfl rfl rfl rfl rfl rfl rfl) ?_
        refine xg_t (xg_ifT (u := 0) rfl xnm0 (by decide)) ?_
        refine xg_t (xg_blq rfl) ?_
        refine xg_t (xg_const) ?_
        exact xg_e ⟨4294967295, w, ⟨rfl, rfl⟩, by first | decide | omega, hI, xFr.rf⟩
    · refine xg_t (xg_ifT (u := (if 0 ≤ xx ∧ xx ≤ u37 - 1 then 1 else 0)) rfl xnm0 (xj_eqT (xite0 hc42))) ?_
      refine xg_t (xg_blq rfl) ?_
      refine xg_t (xg_const) ?_
      exact xg_e ⟨4294967295, w, ⟨rfl, rfl⟩, by first | decide | omega, hI, xFr.rf⟩
  · have hz83 : 4294967295 ≤ (u37 + (4294967296 - 1)) % 4294967296 := by omega
    refine xg_t (xg_isub (u := u37) (v := 1) (z := (u37 + (4294967296 - 1)) % 4294967296) xnm0 xnm0 rfl) ?_
    have hz82 : (u37 + (4294967296 - 1)) % 4294967296 < 4294967296 := Nat.mod_lt _ (by decide)
    generalize (u37 + (4294967296 - 1)) % 4294967296 = z81 at hz83 hz82 ⊢
    refine xg_t (xg_cSr mX12_isIn (vs := [(0, xx), (0, 0), (0, z81)]) (rest := []) (rs := [(0, 0)]) (cn1 := 0) (sl1 := 0) rfl (mIsInN (by omega) (by omega) (by omega) (by omega)) rfl rfl rfl rfl rfl rfl rfl rfl) ?_
    refine xg_t (xg_ifT (u := 0) rfl xnm0 (by decide)) ?_
    refine xg_t (xg_blq rfl) ?_
    refine xg_t (xg_const) ?_
    exact xg_e ⟨4294967295, w, ⟨rfl, rfl⟩, by first | decide | omega, hI, xFr.rf⟩
theorem mLays {xx yy wi hi : Nat} (hI : xMnv w) (hxx : xx ≤ 10) (hyy : yy ≤ 10) (hwi : wi ≤ 10) (hhi : hi ≤ 10) (hxw : xx + wi ≤ 10) (hyh : yy + hi ≤ 10) (hp0 : fld w 82 42 ≤ 150) : xPq (d + 1) mX12_lays [(2, 82), (0, xx), (0, yy), (0, wi), (0, hi)] w bd fc rr [] (fun w' => xMnv w' ∧ xFr [82, 108] w w' ∧ (smW w' = smW w + ar (((xx * 11 + yy) * 11 + wi) * 11 + hi) ∧ fld w' 82 42 = fld w 82 42 + 1 ∧ fld w' 82 41 = fld w 82 41)) := by
  refine xPq.of ?_
  show xTo (d + 1) mX12_lays (0, [], [(0, (2, 82)), (1, (0, xx)), (2, (0, yy)), (3, (0, wi)), (4, (0, hi))], [], (w, bd, fc, 0, 0, rr)) (fun φ => ∃ w', xEnd 0 [] (w', bd, fc, 0, 0, rr) φ ∧ xMnv w' ∧ xFr [82, 108] w w' ∧ (smW w' = smW w + ar (((xx * 11 + yy) * 11 + wi) * 11 + hi) ∧ fld w' 82 42 = fld w 82 42 + 1 ∧ fld w' 82 41 = fld w 82 41))
  refine xoCh82 (xqc82 hI : cp82 (wget w 82)) (fun f82_1 f82_3 f82_5 f82_7 f82_9 f82_11 f82_13 f82_15 f82_17 f82_19 f82_21 f82_22 f82_23 f82_25 f82_27 f82_29 h82_31 hb2 hb4 hb6 hb8 hb10 hb12 hb14 hb16 hb18 hb20 hb24 hb26 hb28 hb30 hb32 => ?_)
  obtain ⟨g108_33, h108_34, hb35, hx36⟩ := (xqc108 hI : cpx108 (wget w 108))
  have h108_34 : xRow w 108 200 75 g108_33 := h108_34
  have hp42 : fld w 82 42 = f82_29 := fld_of h82_31
  have hp41 : fld w 82 41 = f82_27 := fld_of h82_31
  refine xg_t (xg_blq rfl) ?_
  refine xg_t (xg_aload (va := (2, 82)) rfl rfl) ?_
  refine xg_t (xg_getf (va := (2, 108)) h82_31 rfl) ?_
  refine xg_t (xg_aload (va := (2, 82)) rfl rfl) ?_
  refine xg_t (xg_getf (va := (0, f82_29)) h82_31 rfl) ?_
  have hn37 : f82_29 ≤ 200 := hb30
  refine xg_t (xg_iload (va := (0, xx)) rfl rfl) ?_
  refine xg_t (xg_iload (va := (0, yy)) rfl rfl) ?_
  refine xg_t (xg_iload (va := (0, wi)) rfl rfl) ?_
  refine xg_t (xg_iload (va := (0, hi)) rfl rfl) ?_
  refine xg_t (xg_cSr mX12_at (vs := [(0, xx), (0, yy), (0, wi), (0, hi)]) (rest := [(0, f82_29), (2, 108)]) (rs := [(0, ((xx * 11 + yy) * 11 + wi) * 11 + hi), (0, f82_29), (2, 108)]) (cn1 := 0) (sl1 := 0) rfl (mAtR (by omega) (by omega) (by omega) (by omega)) rfl rfl rfl rfl rfl rfl rfl rfl) ?_
  have hl38 : ((xx * 11 + yy) * 11 + wi) * 11 + hi ≤ 14640 := by omega
  refine xg_iastK (n := f82_29) (u := ((xx * 11 + yy) * 11 + wi) * 11 + hi) h108_34 xnm0 xnm0 rfl (by omega) (fun w39 hr40 hb41 => ?_)
  refine xg_t (xg_aload (va := (2, 82)) rfl rfl) ?_
  refine xg_t (xg_dup rfl) ?_
  refine xg_t (xg_getf (va := (0, f82_29)) (hb41.get (by decide) h82_31) rfl) ?_
  refine xg_t (xg_const) ?_
  refine xg_t (xg_iadd (u := f82_29) (v := 1) (z := f82_29 + 1) xnm0 xnm0 (by omega)) ?_
  refine xg_putI (fl1 := [(2, 83), (2, 84), (0, f82_1), (0, f82_3), (0, f82_5), (0, f82_7), (0, f82_9), (0, f82_11), (0, f82_13), (0, f82_15), (0, f82_17), (2, 85), (2, 86), (2, 87), (0, f82_19), (2, 88), (2, 89), (2, 90), (2, 91), (2, 92), (2, 93), (2, 94), (4, f82_21), (4, f82_22), (0, f82_23), (2, 95), (2, 96), (2, 97), (2, 98), (2, 99), (2, 100), (2, 101), (2, 102), (0, f82_25), (2, 103), (2, 104), (2, 105), (2, 106), (2, 107), (2, 108), (2, 109), (0, f82_27), (0, f82_29 + 1), (2, 110), (2, 111), (2, 112), (2, 113)]) (hb41.get (by decide) h82_31) rfl rfl rfl (fun w42 hk43 hb44 => ?_)
  exact xg_e ⟨w42, ⟨rfl, rfl⟩, xMnv.up (S := [108, 82]) hI ((xFr.of (S := [108, 82]) hb41 (by decide)).tr (xFr.of (S := [108, 82]) hb44 (by decide))) (List.forall_mem_cons.mpr ⟨xqu108 (show cpx108 (wget w42 108) from ⟨_, (hr40.but hb44 (by decide)), xrb (by omega) (hb35), (hx36.upd (okP_enc rfl (by omega) (by omega)))⟩), List.forall_mem_cons.mpr ⟨xqu82 (show cp82 (wget w42 82) from xmC82 f82_1 f82_3 f82_5 f82_7 f82_9 f82_11 f82_13 f82_15 f82_17 f82_19 f82_21 f82_22 f82_23 f82_25 f82_27 (f82_29 + 1) hk43 hb2 hb4 hb6 hb8 hb10 hb12 hb14 hb16 hb18 hb20 hb24 hb26 hb28 (by omega) (by omega)), fun _ h => absurd h List.not_mem_nil⟩⟩), ((xFr.of (S := [82, 108]) hb41 (by decide)).tr (xFr.of (S := [82, 108]) hb44 (by decide))), ⟨smW_push h108_34 hp42 (by omega) (hr40.but hb44 (by decide)) (fld_of hk43), by rw [hp42]; exact fld_of hk43, by rw [hp41]; exact fld_of hk43⟩⟩
theorem mPlansOne {pi_ : Nat} (hI : xMnv w) (hok : okP pi_) (hs : smW w + fld w 82 41 + ar pi_ ≤ 100) : xPq (d + 2) mX12_plansOne [(2, 82), (0, pi_)] w bd fc rr [] (fun w' => xMnv w' ∧ xFr [82, 108, 109] w w' ∧ ((fld w' 82 42 = fld w 82 42 ∧ smW w' = smW w ∧ fld w' 82 41 ≤ fld w 82 41 + 1) ∨ (fld w' 82 42 = fld w 82 42 + 2 ∧ smW w' = smW w + ar pi_ ∧ fld w' 82 41 = fld w 82 41))) := by
  refine xPq.of ?_
  show xTo (d + 2) mX12_plansOne (0, [], [(0, (2, 82)), (1, (0, pi_))], [], (w, bd, fc, 0, 0, rr)) (fun φ => ∃ w', xEnd 0 [] (w', bd, fc, 0, 0, rr) φ ∧ xMnv w' ∧ xFr [82, 108, 109] w w' ∧ ((fld w' 82 42 = fld w 82 42 ∧ smW w' = smW w ∧ fld w' 82 41 ≤ fld w 82 41 + 1) ∨ (fld w' 82 42 = fld w 82 42 + 2 ∧ smW w' = smW w + ar pi_ ∧ fld w' 82 41 = fld w 82 41)))
  refine xoCh82 (xqc82 hI : cp82 (wget w 82)) (fun f82_1 f82_3 f82_5 f82_7 f82_9 f82_11 f82_13 f82_15 f82_17 f82_19 f82_21 f82_22 f82_23 f82_25 f82_27 f82_29 h82_31 hb2 hb4 hb6 hb8 hb10 hb12 hb14 hb16 hb18 hb20 hb24 hb26 hb28 hb30 hb32 => ?_)
  have hp42 : fld w 82 42 = f82_29 := fld_of h82_31
  have hp41 : fld w 82 41 = f82_27 := fld_of h82_31
  obtain ⟨ho1, ho2, ho3⟩ := id hok
  have hap := ar_pos pi_
  have hge := smW_ge w
  refine xoX83 (xqc83 hI : cpx83 (wget w 83)) (fun g83_33 h83_34 hb35 hx36 => ?_)
  refine xoI (xqc106 hI : cpI 14641 73 4294967295 (wget w 106)) (fun g106_37 h106_38 hb39 => ?_)
  refine xg_t (xg_blq rfl) ?_
  refine xg_t (xg_iload (va := (0, pi_)) rfl rfl) ?_
  refine xg_t (xg_bip) ?_
  refine xg_t (xg_irem (u := pi_) (v := 11) (z := pi_ % 11) xnm0 xnm0 (by omega) (by decide) (by decide) (rfl)) ?_
  refine xg_t (xg_istore (l1 := [(0, (2, 82)), (1, (0, pi_))]) rfl rfl rfl) ?_
  refine xg_t (xg_iload (va := (0, pi_)) rfl rfl) ?_
  refine xg_t (xg_bip) ?_
  refine xg_t (xg_idiv (u := pi_) (v := 11) (z := pi_ / 11) xnm0 xnm0 (by omega) (by decide) (by decide) (rfl)) ?_
  refine xg_t (xg_bip) ?_
  refine xg_t (xg_irem (u := pi_ / 11) (v := 11) (z := (pi_ / 11) % 11) xnm0 xnm0 (by omega) (by decide) (by decide) (rfl)) ?_
  refine xg_t (xg_istore (l1 := [(2, (0, pi_ % 11)), (0, (2, 82)), (1, (0, pi_))]) rfl rfl rfl) ?_
  refine xg_t (xg_iload (va := (0, pi_)) rfl rfl) ?_
  refine xg_t (xg_bip) ?_
  refine xg_t (xg_idiv (u := pi_) (v := 121) (z := pi_ / 121) xnm0 xnm0 (by omega) (by decide) (by decide) (rfl)) ?_
  refine xg_t (xg_bip) ?_
  refine xg_t (xg_irem (u := pi_ / 121) (v := 11) (z := (pi_ / 121) % 11) xnm0 xnm0 (by omega) (by decide) (by decide) (rfl)) ?_
  refine xg_t (xg_istore (l1 := [(3, (0, (pi_ / 11) % 11)), (2, (0, pi_ % 11)), (0, (2, 82)), (1, (0, pi_))]) rfl rfl rfl) ?_
  refine xg_t (xg_iload (va := (0, pi_)) rfl rfl) ?_
  refine xg_t (xg_sip) ?_
  refine xg_t (xg_idiv (u := pi_) (v := 1331) (z := pi_ / 1331) xnm0 xnm0 (by omega) (by decide) (by decide) (rfl)) ?_
  refine xg_t (xg_istore (l1 := [(4, (0, (pi_ / 121) % 11)), (3, (0, (pi_ / 11) % 11)), (2, (0, pi_ % 11)), (0, (2, 82)), (1, (0, pi_))]) rfl rfl rfl) ?_
  have hbq1 : pi_ / 1331 ≤ 10 := by omega
  have hbq2 : pi_ / 121 % 11 ≤ 10 := by omega
  have hbq3 : pi_ / 11 % 11 ≤ 10 := by omega
  have hbq4 : pi_ % 11 ≤ 10 := by omega
  have har : ar pi_ = mx1 (pi_ % 11) * mx1 (pi_ / 11 % 11) := rfl
  generalize pi_ / 1331 = xx at ho2 hbq1 ⊢
  generalize pi_ / 121 % 11 = yy at ho3 hbq2 ⊢
  generalize pi_ / 11 % 11 = wi at ho2 hbq3 har ⊢
  generalize pi_ % 11 = hi at ho3 hbq4 har ⊢
  refine xg_t (xg_aload (va := (2, 82)) rfl rfl) ?_
  refine xg_t (xg_getf (va := (2, 106)) h82_31 rfl) ?_
  refine xg_t (xg_iload (va := (0, pi_)) rfl rfl) ?_
  refine xg_ialdB (n := pi_) (B := 4294967295) h106_38 (hb39) xnm0 (by omega) (fun u40 hu41 he42 => ?_)
  refine xg_t (xg_istore (l1 := [(5, (0, xx)), (4, (0, yy)), (3, (0, wi)), (2, (0, hi)), (0, (2, 82)), (1, (0, pi_))]) rfl rfl rfl) ?_
  refine xg_t (xg_iload (va := (0, u40)) rfl rfl) ?_
  by_cases hc43 : u40 = 0
  · refine xg_t (xg_ifF (u := u40) rfl xnm0 (xj_neF hc43)) ?_
    exact xg_e ⟨w, ⟨rfl, rfl⟩, hI, xFr.rf, Or.inl ⟨rfl, rfl, by omega⟩⟩
  · refine xg_t (xg_ifT (u := u40) rfl xnm0 (xj_neT hc43)) ?_
    refine xg_t (xg_blq rfl) ?_
    refine xg_t (xg_aload (va := (2, 82)) rfl rfl) ?_
    refine xg_t (xg_iload (va := (0, xx)) rfl rfl) ?_
    refine xg_t (xg_iload (va := (0, yy)) rfl rfl) ?_
    refine xg_t (xg_iload (va := (0, wi)) rfl rfl) ?_
    refine xg_t (xg_iload (va := (0, hi)) rfl rfl) ?_
    refine xg_cVi mX12_panelOf (vs := [(0, xx), (0, yy), (0, wi), (0, hi)]) (rest := []) (cn1 := 0) (sl1 := 0) rfl (mPanelOf (hI) (by omega) (by omega) (by omega) (by omega)) rfl h82_31 rfl rfl rfl rfl rfl rfl (fun n48 w44 hq45 => ?_)
    obtain ⟨hn49, hI46, hF47⟩ := hq45
    have hy50 := fld_fr (c := 82) (j := 42) hF47 (by decide)
    have hy51 := fld_fr (c := 82) (j := 41) hF47 (by decide)
    have hy52 := smW_fr hF47 (by decide) (by decide)
    refine xg_t (xg_istore (l1 := [(6, (0, u40)), (5, (0, xx)), (4, (0, yy)), (3, (0, wi)), (2, (0, hi)), (0, (2, 82)), (1, (0, pi_))]) rfl rfl rfl) ?_
    refine xg_t (xg_iload (va := (0, n48)) rfl rfl) ?_
    by_cases hc53 : n48 < 2147483648
    · have hn54 : n48 ≤ 3 := by omega
      refine xg_t (xg_ifF (u := n48) rfl xnm0 (xjz_ltF hc53)) ?_
      refine xg_t (xg_aload (va := (2, 82)) rfl rfl) ?_
      refine xg_t (xg_getf (va := (2, 83)) (hF47.get (by decide) h82_31) rfl) ?_
      refine xg_t (xg_bip) ?_
      refine xg_t (xg_const) ?_
      refine xg_t (xg_iload (va := (0, n48)) rfl rfl) ?_
      refine xg_t (xg_imul (u := 3) (v := n48) (z := 3 * n48) xnm0 xnm0 (by omega)) ?_
      refine xg_t (xg_iadd (u := 80) (v := 3 * n48) (z := 80 + (3 * n48)) xnm0 xnm0 (by omega)) ?_
      refine xg_t (xg_const) ?_
      refine xg_t (xg_iadd (u := 80 + (3 * n48)) (v := 2) (z := (80 + (3 * n48)) + 2) xnm0 xnm0 (by omega)) ?_
      refine xg_ialdB (n := (80 + (3 * n48)) + 2) (B := 4294967295) (h83_34.fr hF47 (by decide)) (hb35) xnm0 (by omega) (fun u55 hu56 he57 => ?_)
      refine xg_t (xg_iload (va := (0, u40)) rfl rfl) ?_
      by_cases hc58 : u55 = u40
      · refine xg_t (xg_icF (u := u55) (v := u40) rfl xnm0 xnm0 (xj_neF hc58)) ?_
        refine xg_t (xg_aload (va := (2, 82)) rfl rfl) ?_
        refine xg_t (xg_getf (va := (2, 109)) (hF47.get (by decide) h82_31) rfl) ?_
        refine xg_t (xg_const) ?_
        refine xg_t (xg_aload (va := (2, 82)) rfl rfl) ?_
        refine xg_t (xg_getf (va := (0, f82_27)) (hF47.get (by decide) h82_31) rfl) ?_
        have hn59 : f82_27 ≤ 100 := hb28
        refine xg_t (xg_imul (u := 3) (v := f82_27) (z := 3 * f82_27) xnm0 xnm0 (by omega)) ?_
        refine xg_t (xg_iload (va := (0, n48)) rfl rfl) ?_
        refine xoI (xqc109 hI46 : cpI 300 76 4294967295 (wget w44 109)) (fun g109_60 h109_61 hb62 => ?_)
        refine xg_iastK (n := 3 * f82_27) (u := n48) h109_61 xnm0 xnm0 rfl (by omega) (fun w63 hr64 hb65 => ?_)
        refine xg_t (xg_aload (va := (2, 82)) rfl rfl) ?_
        refine xg_t (xg_getf (va := (2, 109)) (hb65.get (by decide) (hF47.get (by decide) h82_31)) rfl) ?_
        refine xg_t (xg_const) ?_
        refine xg_t (xg_aload (va := (2, 82)) rfl rfl) ?_
        refine xg_t (xg_getf (va := (0, f82_27)) (hb65.get (by decide) (hF47.get (by decide) h82_31)) rfl) ?_
        refine xg_t (xg_imul (u := 3) (v := f82_27) (z := 3 * f82_27) xnm0 xnm0 (by omega)) ?_
        refine xg_t (xg_const) ?_
        refine xg_t (xg_iadd (u := 3 * f82_27) (v := 1) (z := (3 * f82_27) + 1) xnm0 xnm0 (by omega)) ?_
        refine xg_t (xg_iload (va := (0, xx)) rfl rfl) ?_
        refine xg_iastK (n := (3 * f82_27) + 1) (u := xx) hr64 xnm0 xnm0 rfl (by omega) (fun w66 hr67 hb68 => ?_)
        refine xg_t (xg_aload (va := (2, 82)) rfl rfl) ?_
        refine xg_t (xg_getf (va := (2, 109)) (hb68.get (by decide) (hb65.get (by decide) (hF47.get (by decide) h82_31))) rfl) ?_
        refine xg_t (xg_const) ?_
        refine xg_t (xg_aload (va := (2, 82)) rfl rfl) ?_
        refine xg_t (xg_getf (va := (0, f82_27)) (hb68.get (by decide) (hb65.get (by decide) (hF47.get (by decide) h82_31))) rfl) ?_
        refine xg_t (xg_imul (u := 3) (v := f82_27) (z := 3 * f82_27) xnm0 xnm0 (by omega)) ?_
        refine xg_t (xg_const) ?_
        refine xg_t (xg_iadd (u := 3 * f82_27) (v := 2) (z := (3 * f82_27) + 2) xnm0 xnm0 (by omega)) ?_
        refine xg_t (xg_iload (va := (0, yy)) rfl rfl) ?_
        refine xg_iastK (n := (3 * f82_27) + 2) (u := yy) hr67 xnm0 xnm0 rfl (by omega) (fun w69 hr70 hb71 => ?_)
        refine xg_t (xg_aload (va := (2, 82)) rfl rfl) ?_
        refine xg_t (xg_dup rfl) ?_
        refine xg_t (xg_getf (va := (0, f82_27)) (hb71.get (by decide) (hb68.get (by decide) (hb65.get (by decide) (hF47.get (by decide) h82_31)))) rfl) ?_
        refine xg_t (xg_const) ?_
        refine xg_t (xg_iadd (u := f82_27) (v := 1) (z := f82_27 + 1) xnm0 xnm0 (by omega)) ?_
        refine xg_putI (fl1 := [(2, 83), (2, 84), (0, f82_1), (0, f82_3), (0, f82_5), (0, f82_7), (0, f82_9), (0, f82_11), (0, f82_13), (0, f82_15), (0, f82_17), (2, 85), (2, 86), (2, 87), (0, f82_19), (2, 88), (2, 89), (2, 90), (2, 91), (2, 92), (2, 93), (2, 94), (4, f82_21), (4, f82_22), (0, f82_23), (2, 95), (2, 96), (2, 97), (2, 98), (2, 99), (2, 100), (2, 101), (2, 102), (0, f82_25), (2, 103), (2, 104), (2, 105), (2, 106), (2, 107), (2, 108), (2, 109), (0, f82_27 + 1), (0, f82_29), (2, 110), (2, 111), (2, 112), (2, 113)]) (hb71.get (by decide) (hb68.get (by decide) (hb65.get (by decide) (hF47.get (by decide) h82_31)))) rfl rfl rfl (fun w72 hk73 hb74 => ?_)
        have hz75 : fld w72 82 42 = fld w 82 42 := (fld_of hk73).trans hp42.symm
        have hz76 : fld w72 82 41 = fld w 82 41 + 1 := by rw [hp41]; exact fld_of hk73
        have hz77 : smW w72 = smW w := by
          unfold smW rwv
          rw [hz75, ((hb74.1 108 (by decide)).trans ((hb71.1 108 (by decide)).trans ((hb68.1 108 (by decide)).trans ((hb65.1 108 (by decide)).trans (hF47.1 108 (by decide))))))]
        exact xg_e ⟨w72, ⟨rfl, rfl⟩, xMnv.up (S := [109, 82]) hI46 ((((xFr.of (S := [109, 82]) hb65 (by decide)).tr (xFr.of (S := [109, 82]) hb68 (by decide))).tr (xFr.of (S := [109, 82]) hb71 (by decide))).tr (xFr.of (S := [109, 82]) hb74 (by decide))) (List.forall_mem_cons.mpr ⟨xqu109 (show cpI 300 76 4294967295 (wget w72 109) from ⟨_, (hr70.but hb74 (by decide)), xrb (by omega) (xrb (by omega) (xrb (by omega) (hb62)))⟩), List.forall_mem_cons.mpr ⟨xqu82 (show cp82 (wget w72 82) from xmC82 f82_1 f82_3 f82_5 f82_7 f82_9 f82_11 f82_13 f82_15 f82_17 f82_19 f82_21 f82_22 f82_23 f82_25 (f82_27 + 1) f82_29 hk73 hb2 hb4 hb6 hb8 hb10 hb12 hb14 hb16 hb18 hb20 hb24 hb26 (by omega) hb30 (by omega)), fun _ h => absurd h List.not_mem_nil⟩⟩), ((hF47.up (by decide)).tr ((((xFr.of (S := [82, 108, 109]) hb65 (by decide)).tr (xFr.of (S := [82, 108, 109]) hb68 (by decide))).tr (xFr.of (S := [82, 108, 109]) hb71 (by decide))).tr (xFr.of (S := [82, 108, 109]) hb74 (by decide)))), Or.inl ⟨hz75, hz77, by omega⟩⟩
      · refine xg_t (xg_icT (u := u55) (v := u40) rfl xnm0 xnm0 (xj_neT hc58)) ?_
        refine xg_t (xg_blq rfl) ?_
        refine xg_t (xg_const) ?_
        refine xg_t (xg_istore (l1 := [(7, (0, n48)), (6, (0, u40)), (5, (0, xx)), (4, (0, yy)), (3, (0, wi)), (2, (0, hi)), (0, (2, 82)), (1, (0, pi_))]) rfl rfl rfl) ?_
        refine xg_t (xg_drop (l1 := [(0, (2, 82)), (1, (0, pi_)), (2, (0, hi)), (3, (0, wi)), (4, (0, yy)), (5, (0, xx)), (6, (0, u40)), (7, (0, n48)), (8, (0, 1))]) (List.forall_mem_cons.mpr ⟨List.mem_cons_of_mem _ (List.mem_cons_of_mem _ (List.mem_cons_of_mem _ (List.mem_cons_of_mem _ (List.mem_cons_of_mem _ (List.mem_cons_of_mem _ (List.mem_cons_of_mem _ (List.mem_cons_self))))))), List.forall_mem_cons.mpr ⟨List.mem_cons_of_mem _ (List.mem_cons_of_mem _ (List.mem_cons_of_mem _ (List.mem_cons_of_mem _ (List.mem_cons_of_mem _ (List.mem_cons_of_mem _ (List.mem_cons_of_mem _ (List.mem_cons_of_mem _ (List.mem_cons_self)))))))), List.forall_mem_cons.mpr ⟨List.mem_cons_of_mem _ (List.mem_cons_of_mem _ (List.mem_cons_of_mem _ (List.mem_cons_of_mem _ (List.mem_cons_of_mem _ (List.mem_cons_of_mem _ (List.mem_cons_self)))))), List.forall_mem_cons.mpr ⟨List.mem_cons_of_mem _ (List.mem_cons_of_mem _ (List.mem_cons_of_mem _ (List.mem_cons_of_mem _ (List.mem_cons_of_mem _ (List.mem_cons_self))))), List.forall_mem_cons.mpr ⟨List.mem_cons_of_mem _ (List.mem_cons_of_mem _ (List.mem_cons_of_mem _ (List.mem_cons_of_mem _ (List.mem_cons_self)))), List.forall_mem_cons.mpr ⟨List.mem_cons_of_mem _ (List.mem_cons_of_mem _ (List.mem_cons_of_mem _ (List.mem_cons_self))), List.forall_mem_cons.mpr ⟨List.mem_cons_of_mem _ (List.mem_cons_of_mem _ (List.mem_cons_self)), List.forall_mem_cons.mpr ⟨List.mem_cons_of_mem _ (List.mem_cons_self), List.forall_mem_cons.mpr ⟨List.mem_cons_self, fun _ h => absurd h List.not_mem_nil⟩⟩⟩⟩⟩⟩⟩⟩⟩)) ?_
        have key78 : ∀ (m80 : Nat) (ci : Nat), 10 - ci < m80 → ci ≤ 10 → 1 ≤ ci → xTo (d + 2) mX12_plansOne (136, [], [(0, (2, 82)), (1, (0, pi_)), (2, (0, hi)), (3, (0, wi)), (4, (0, yy)), (5, (0, xx)), (6, (0, u40)), (7, (0, n48)), (8, (0, ci))], [], (w44, bd, fc, 0, 0, rr)) (fun φ => ∃ w', xEnd 0 [] (w', bd, fc, 0, 0, rr) φ ∧ xMnv w' ∧ xFr [82, 108, 109] w w' ∧ ((fld w' 82 42 = fld w 82 42 ∧ smW w' = smW w ∧ fld w' 82 41 ≤ fld w 82 41 + 1) ∨ (fld w' 82 42 = fld w 82 42 + 2 ∧ smW w' = smW w + ar pi_ ∧ fld w' 82 41 = fld w 82 41))) := by
          intro m80
          induction m80 with
          | zero => intro ci hz; exact absurd hz (Nat.not_lt_zero _)
          | succ m80 ih79 =>
            intro ci hm86 hn84 he85
            refine xg_t (xg_blq rfl) ?_
            refine xg_t (xg_iload (va := (0, ci)) rfl rfl) ?_
            refine xg_t (xg_iload (va := (0, wi)) rfl rfl) ?_
            by_cases hc87 : ci < wi
            · refine xg_t (xg_icF (u := ci) (v := wi) rfl xnm0 xnm0 (xj_geF hc87 (by omega))) ?_
              refine xg_t (xg_aload (va := (2, 82)) rfl rfl) ?_
              refine xg_t (xg_getf (va := (2, 106)) (hF47.get (by decide) h82_31) rfl) ?_
              refine xg_t (xg_iload (va := (0, xx)) rfl rfl) ?_
              refine xg_t (xg_iload (va := (0, yy)) rfl rfl) ?_
              refine xg_t (xg_iload (va := (0, ci)) rfl rfl) ?_
              refine xg_t (xg_iload (va := (0, hi)) rfl rfl) ?_
              refine xg_t (xg_cSr mX12_at (vs := [(0, xx), (0, yy), (0, ci), (0, hi)]) (rest := [(2, 106)]) (rs := [(0, ((xx * 11 + yy) * 11 + ci) * 11 + hi), (2, 106)]) (cn1 := 0) (sl1 := 0) rfl (mAtR (by omega) (by omega) (by omega) (by omega)) rfl rfl rfl rfl rfl rfl rfl rfl) ?_
              have hl88 : ((xx * 11 + yy) * 11 + ci) * 11 + hi ≤ 14640 := by omega
              refine xg_ialdB (n := ((xx * 11 + yy) * 11 + ci) * 11 + hi) (B := 4294967295) (h106_38.fr hF47 (by decide)) (hb39) xnm0 (by omega) (fun u89 hu90 he91 => ?_)
              refine xg_t (xg_aload (va := (2, 82)) rfl rfl) ?_
              refine xg_t (xg_getf (va := (2, 106)) (hF47.get (by decide) h82_31) rfl) ?_
              refine xg_t (xg_iload (va := (0, xx)) rfl rfl) ?_
              refine xg_t (xg_iload (va := (0, ci)) rfl rfl) ?_
              refine xg_t (xg_iadd (u := xx) (v := ci) (z := xx + ci) xnm0 xnm0 (by omega)) ?_
              refine xg_t (xg_iload (va := (0, yy)) rfl rfl) ?_
              refine xg_t (xg_iload (va := (0, wi)) rfl rfl) ?_
              refine xg_t (xg_iload (va := (0, ci)) rfl rfl) ?_
              refine xg_t (xg_isub (u := wi) (v := ci) (z := wi - ci) xnm0 xnm0 (by omega)) ?_
              refine xg_t (xg_iload (va := (0, hi)) rfl rfl) ?_
              refine xg_t (xg_cSr mX12_at (vs := [(0, xx + ci), (0, yy), (0, wi - ci), (0, hi)]) (rest := [(2, 106), (0, u89)]) (rs := [(0, (((xx + ci) * 11 + yy) * 11 + (wi - ci)) * 11 + hi), (2, 106), (0, u89)]) (cn1 := 0) (sl1 := 0) rfl (mAtR (by omega) (by omega) (by omega) (by omega)) rfl rfl rfl rfl rfl rfl rfl rfl) ?_
              have hl92 : (((xx + ci) * 11 + yy) * 11 + (wi - ci)) * 11 + hi ≤ 14640 := by omega
              refine xg_ialdB (n := (((xx + ci) * 11 + yy) * 11 + (wi - ci)) * 11 + hi) (B := 4294967295) (h106_38.fr hF47 (by decide)) (hb39) xnm0 (by omega) (fun u93 hu94 he95 => ?_)
              refine xg_k (xg_iadd (u := u89) (v := u93) (z := (u89 + u93) % 4294967296) xnm0 xnm0 rfl) (Nat.mod_lt _ (by decide)) (fun z96 hz97 => ?_)
              refine xg_t (xg_iload (va := (0, u40)) rfl rfl) ?_
              by_cases hc98 : z96 = u40
              · refine xg_t (xg_icT (u := z96) (v := u40) rfl xnm0 xnm0 (xj_eqT hc98)) ?_
                refine xg_t (xg_blq rfl) ?_
                refine xg_t (xg_aload (va := (2, 82)) rfl rfl) ?_
                refine xg_t (xg_iload (va := (0, xx)) rfl rfl) ?_
                refine xg_t (xg_iload (va := (0, ci)) rfl rfl) ?_
                refine xg_t (xg_iadd (u := xx) (v := ci) (z := xx + ci) xnm0 xnm0 (by omega)) ?_
                refine xg_t (xg_iload (va := (0, yy)) rfl rfl) ?_
                refine xg_t (xg_iload (va := (0, wi)) rfl rfl) ?_
                refine xg_t (xg_iload (va := (0, ci)) rfl rfl) ?_
                refine xg_t (xg_isub (u := wi) (v := ci) (z := wi - ci) xnm0 xnm0 (by omega)) ?_
                refine xg_t (xg_iload (va := (0, hi)) rfl rfl) ?_
                refine xg_cVv mX12_lays (vs := [(0, xx + ci), (0, yy), (0, wi - ci), (0, hi)]) (rest := []) (cn1 := 0) (sl1 := 0) rfl (mLays (hI46) (by omega) (by omega) (by omega) (by omega) (by omega) (by omega) (by omega)) rfl (hF47.get (by decide) h82_31) rfl rfl rfl rfl rfl rfl (fun w99 hq100 => ?_)
                obtain ⟨hI101, hF102, hx103⟩ := hq100
                obtain ⟨hy104, hy105, hy106⟩ := hx103
                refine xg_t (xg_aload (va := (2, 82)) rfl rfl) ?_
                refine xg_t (xg_iload (va := (0, xx)) rfl rfl) ?_
                refine xg_t (xg_iload (va := (0, yy)) rfl rfl) ?_
                refine xg_t (xg_iload (va := (0, ci)) rfl rfl) ?_
                refine xg_t (xg_iload (va := (0, hi)) rfl rfl) ?_
                refine xoCh82 (xqc82 hI101 : cp82 (wget w99 82)) (fun f82_107 f82_109 f82_111 f82_113 f82_115 f82_117 f82_119 f82_121 f82_123 f82_125 f82_127 f82_128 f82_129 f82_131 f82_133 f82_135 h82_137 hb108 hb110 hb112 hb114 hb116 hb118 hb120 hb122 hb124 hb126 hb130 hb132 hb134 hb136 hb138 => ?_)
                refine xg_cVv mX12_lays (vs := [(0, xx), (0, yy), (0, ci), (0, hi)]) (rest := []) (cn1 := 0) (sl1 := 0) rfl (mLays (hI101) (by omega) (by omega) (by omega) (by omega) (by omega) (by omega) (by omega)) rfl h82_137 rfl rfl rfl rfl rfl rfl (fun w139 hq140 => ?_)
                obtain ⟨hI141, hF142, hx143⟩ := hq140
                obtain ⟨hy144, hy145, hy146⟩ := hx143
                have hz147 : ar ((((xx + ci) * 11 + yy) * 11 + (wi - ci)) * 11 + hi) + ar (((xx * 11 + yy) * 11 + ci) * 11 + hi) = ar pi_ := (ar_cutW (by omega) (by omega) (by omega) (by omega)).trans har.symm
                exact xg_e ⟨w139, ⟨rfl, rfl⟩, hI141, (((hF47.up (by decide)).tr (hF102.up (by decide))).tr (hF142.up (by decide))), Or.inr ⟨by omega, by omega, by omega⟩⟩
              · refine xg_t (xg_icF (u := z96) (v := u40) rfl xnm0 xnm0 (xj_eqF hc98)) ?_
                refine xg_t (xg_goto) ?_
                refine xg_t (xg_blq rfl) ?_
                refine xg_t (xg_iinc (u := ci) (z := ci + 1) (l1 := [(0, (2, 82)), (1, (0, pi_)), (2, (0, hi)), (3, (0, wi)), (4, (0, yy)), (5, (0, xx)), (6, (0, u40)), (7, (0, n48))]) rfl rfl (by omega) rfl) ?_
                refine xg_t (xg_goto) ?_
                refine xg_t (xg_drop (l1 := [(0, (2, 82)), (1, (0, pi_)), (2, (0, hi)), (3, (0, wi)), (4, (0, yy)), (5, (0, xx)), (6, (0, u40)), (7, (0, n48)), (8, (0, ci + 1))]) (List.forall_mem_cons.mpr ⟨List.mem_cons_of_mem _ (List.mem_cons_self), List.forall_mem_cons.mpr ⟨List.mem_cons_of_mem _ (List.mem_cons_of_mem _ (List.mem_cons_self)), List.forall_mem_cons.mpr ⟨List.mem_cons_of_mem _ (List.mem_cons_of_mem _ (List.mem_cons_of_mem _ (List.mem_cons_self))), List.forall_mem_cons.mpr ⟨List.mem_cons_of_mem _ (List.mem_cons_of_mem _ (List.mem_cons_of_mem _ (List.mem_cons_of_mem _ (List.mem_cons_self)))), List.forall_mem_cons.mpr ⟨List.mem_cons_of_mem _ (List.mem_cons_of_mem _ (List.mem_cons_of_mem _ (List.mem_cons_of_mem _ (List.mem_cons_of_mem _ (List.mem_cons_self))))), List.forall_mem_cons.mpr ⟨List.mem_cons_of_mem _ (List.mem_cons_of_mem _ (List.mem_cons_of_mem _ (List.mem_cons_of_mem _ (List.mem_cons_of_mem _ (List.mem_cons_of_mem _ (List.mem_cons_self)))))), List.forall_mem_cons.mpr ⟨List.mem_cons_of_mem _ (List.mem_cons_of_mem _ (List.mem_cons_of_mem _ (List.mem_cons_of_mem _ (List.mem_cons_of_mem _ (List.mem_cons_of_mem _ (List.mem_cons_of_mem _ (List.mem_cons_self))))))), List.forall_mem_cons.mpr ⟨List.mem_cons_of_mem _ (List.mem_cons_of_mem _ (List.mem_cons_of_mem _ (List.mem_cons_of_mem _ (List.mem_cons_of_mem _ (List.mem_cons_of_mem _ (List.mem_cons_of_mem _ (List.mem_cons_of_mem _ (List.mem_cons_self)))))))), List.forall_mem_cons.mpr ⟨List.mem_cons_self, fun _ h => absurd h List.not_mem_nil⟩⟩⟩⟩⟩⟩⟩⟩⟩)) ?_
                exact ih79 (ci + 1)  (by omega) (by omega) (by omega)
            · refine xg_t (xg_icT (u := ci) (v := wi) rfl xnm0 xnm0 (xj_geT (by omega) (by omega))) ?_
              refine xg_t (xg_blq rfl) ?_
              refine xg_t (xg_const) ?_
              refine xg_t (xg_istore (l1 := [(0, (2, 82)), (1, (0, pi_)), (2, (0, hi)), (3, (0, wi)), (4, (0, yy)), (5, (0, xx)), (6, (0, u40)), (7, (0, n48))]) rfl rfl rfl) ?_
              refine xg_t (xg_drop (l1 := [(0, (2, 82)), (1, (0, pi_)), (2, (0, hi)), (3, (0, wi)), (4, (0, yy)), (5, (0, xx)), (6, (0, u40)), (7, (0, n48)), (8, (0, 1))]) (List.forall_mem_cons.mpr ⟨List.mem_cons_of_mem _ (List.mem_cons_self), List.forall_mem_cons.mpr ⟨List.mem_cons_of_mem _ (List.mem_cons_of_mem _ (List.mem_cons_self)), List.forall_mem_cons.mpr ⟨List.mem_cons_of_mem _ (List.mem_cons_of_mem _ (List.mem_cons_of_mem _ (List.mem_cons_self))), List.forall_mem_cons.mpr ⟨List.mem_cons_of_mem _ (List.mem_cons_of_mem _ (List.mem_cons_of_mem _ (List.mem_cons_of_mem _ (List.mem_cons_self)))), List.forall_mem_cons.mpr ⟨List.mem_cons_of_mem _ (List.mem_cons_of_mem _ (List.mem_cons_of_mem _ (List.mem_cons_of_mem _ (List.mem_cons_of_mem _ (List.mem_cons_self))))), List.forall_mem_cons.mpr ⟨List.mem_cons_of_mem _ (List.mem_cons_of_mem _ (List.mem_cons_of_mem _ (List.mem_cons_of_mem _ (List.mem_cons_of_mem _ (List.mem_cons_of_mem _ (List.mem_cons_self)))))), List.forall_mem_cons.mpr ⟨List.mem_cons_of_mem _ (List.mem_cons_of_mem _ (List.mem_cons_of_mem _ (List.mem_cons_of_mem _ (List.mem_cons_of_mem _ (List.mem_cons_of_mem _ (List.mem_cons_of_mem _ (List.mem_cons_self))))))), List.forall_mem_cons.mpr ⟨List.mem_cons_of_mem _ (List.mem_cons_of_mem _ (List.mem_cons_of_mem _ (List.mem_cons_of_mem _ (List.mem_cons_of_mem _ (List.mem_cons_of_mem _ (List.mem_cons_of_mem _ (List.mem_cons_of_mem _ (List.mem_cons_self)))))))), List.forall_mem_cons.mpr ⟨List.mem_cons_self, fun _ h => absurd h List.not_mem_nil⟩⟩⟩⟩⟩⟩⟩⟩⟩)) ?_
              have key148 : ∀ (m150 : Nat) (cj : Nat), 10 - cj < m150 → cj ≤ 10 → 1 ≤ cj → xTo (d + 2) mX12_plansOne (223, [], [(0, (2, 82)), (1, (0, pi_)), (2, (0, hi)), (3, (0, wi)), (4, (0, yy)), (5, (0, xx)), (6, (0, u40)), (7, (0, n48)), (8, (0, cj))], [], (w44, bd, fc, 0, 0, rr)) (fun φ => ∃ w', xEnd 0 [] (w', bd, fc, 0, 0, rr) φ ∧ xMnv w' ∧ xFr [82, 108, 109] w w' ∧ ((fld w' 82 42 = fld w 82 42 ∧ smW w' = smW w ∧ fld w' 82 41 ≤ fld w 82 41 + 1) ∨ (fld w' 82 42 = fld w 82 42 + 2 ∧ smW w' = smW w + ar pi_ ∧ fld w' 82 41 = fld w 82 41))) := by
                intro m150
                induction m150 with
                | zero => intro cj hz; exact absurd hz (Nat.not_lt_zero _)
                | succ m150 ih149 =>
                  intro cj hm156 hn154 he155
                  refine xg_t (xg_blq rfl) ?_
                  refine xg_t (xg_iload (va := (0, cj)) rfl rfl) ?_
                  refine xg_t (xg_iload (va := (0, hi)) rfl rfl) ?_
                  by_cases hc157 : cj < hi
                  · refine xg_t (xg_icF (u := cj) (v := hi) rfl xnm0 xnm0 (xj_geF hc157 (by omega))) ?_
                    refine xg_t (xg_aload (va := (2, 82)) rfl rfl) ?_
                    refine xg_t (xg_getf (va := (2, 106)) (hF47.get (by decide) h82_31) rfl) ?_
                    refine xg_t (xg_iload (va := (0, xx)) rfl rfl) ?_
                    refine xg_t (xg_iload (va := (0, yy)) rfl rfl) ?_
                    refine xg_t (xg_iload (va := (0, wi)) rfl rfl) ?_
                    refine xg_t (xg_iload (va := (0, cj)) rfl rfl) ?_
                    refine xg_t (xg_cSr mX12_at (vs := [(0, xx), (0, yy), (0, wi), (0, cj)]) (rest := [(2, 106)]) (rs := [(0, ((xx * 11 + yy) * 11 + wi) * 11 + cj), (2, 106)]) (cn1 := 0) (sl1 := 0) rfl (mAtR (by omega) (by omega) (by omega) (by omega)) rfl rfl rfl rfl rfl rfl rfl rfl) ?_
                    have hl158 : ((xx * 11 + yy) * 11 + wi) * 11 + cj ≤ 14640 := by omega
                    refine xg_ialdB (n := ((xx * 11 + yy) * 11 + wi) * 11 + cj) (B := 4294967295) (h106_38.fr hF47 (by decide)) (hb39) xnm0 (by omega) (fun u159 hu160 he161 => ?_)
                    refine xg_t (xg_aload (va := (2, 82)) rfl rfl) ?_
                    refine xg_t (xg_getf (va := (2, 106)) (hF47.get (by decide) h82_31) rfl) ?_
                    refine xg_t (xg_iload (va := (0, xx)) rfl rfl) ?_
                    refine xg_t (xg_iload (va := (0, yy)) rfl rfl) ?_
                    refine xg_t (xg_iload (va := (0, cj)) rfl rfl) ?_
                    refine xg_t (xg_iadd (u := yy) (v := cj) (z := yy + cj) xnm0 xnm0 (by omega)) ?_
                    refine xg_t (xg_iload (va := (0, wi)) rfl rfl) ?_
                    refine xg_t (xg_iload (va := (0, hi)) rfl rfl) ?_
                    refine xg_t (xg_iload (va := (0, cj)) rfl rfl) ?_
                    refine xg_t (xg_isub (u := hi) (v := cj) (z := hi - cj) xnm0 xnm0 (by omega)) ?_
                    refine xg_t (xg_cSr mX12_at (vs := [(0, xx), (0, yy + cj), (0, wi), (0, hi - cj)]) (rest := [(2, 106), (0, u159)]) (rs := [(0, ((xx * 11 + (yy + cj)) * 11 + wi) * 11 + (hi - cj)), (2, 106), (0, u159)]) (cn1 := 0) (sl1 := 0) rfl (mAtR (by omega) (by omega) (by omega) (by omega)) rfl rfl rfl rfl rfl rfl rfl rfl) ?_
                    have hl162 : ((xx * 11 + (yy + cj)) * 11 + wi) * 11 + (hi - cj) ≤ 14640 := by omega
                    refine xg_ialdB (n := ((xx * 11 + (yy + cj)) * 11 + wi) * 11 + (hi - cj)) (B := 4294967295) (h106_38.fr hF47 (by decide)) (hb39) xnm0 (by omega) (fun u163 hu164 he165 => ?_)
                    refine xg_k (xg_iadd (u := u159) (v := u163) (z := (u159 + u163) % 4294967296) xnm0 xnm0 rfl) (Nat.mod_lt _ (by decide)) (fun z166 hz167 => ?_)
                    refine xg_t (xg_iload (va := (0, u40)) rfl rfl) ?_
                    by_cases hc168 : z166 = u40
                    · refine xg_t (xg_icT (u := z166) (v := u40) rfl xnm0 xnm0 (xj_eqT hc168)) ?_
                      refine xg_t (xg_blq rfl) ?_
                      refine xg_t (xg_aload (va := (2, 82)) rfl rfl) ?_
                      refine xg_t (xg_iload (va := (0, xx)) rfl rfl) ?_
                      refine xg_t (xg_iload (va := (0, yy)) rfl rfl) ?_
                      refine xg_t (xg_iload (va := (0, cj)) rfl rfl) ?_
                      refine xg_t (xg_iadd (u := yy) (v := cj) (z := yy + cj) xnm0 xnm0 (by omega)) ?_
                      refine xg_t (xg_iload (va := (0, wi)) rfl rfl) ?_
                      refine xg_t (xg_iload (va := (0, hi)) rfl rfl) ?_
                      refine xg_t (xg_iload (va := (0, cj)) rfl rfl) ?_
                      refine xg_t (xg_isub (u := hi) (v := cj) (z := hi - cj) xnm0 xnm0 (by omega)) ?_
                      refine xg_cVv mX12_lays (vs := [(0, xx), (0, yy + cj), (0, wi), (0, hi - cj)]) (rest := []) (cn1 := 0) (sl1 := 0) rfl (mLays (hI46) (by omega) (by omega) (by omega) (by omega) (by omega) (by omega) (by omega)) rfl (hF47.get (by decide) h82_31) rfl rfl rfl rfl rfl rfl (fun w169 hq170 => ?_)
                      obtain ⟨hI171, hF172, hx173⟩ := hq170
                      obtain ⟨hy174, hy175, hy176⟩ := hx173
                      refine xg_t (xg_aload (va := (2, 82)) rfl rfl) ?_
                      refine xg_t (xg_iload (va := (0, xx)) rfl rfl) ?_
                      refine xg_t (xg_iload (va := (0, yy)) rfl rfl) ?_
                      refine xg_t (xg_iload (va := (0, wi)) rfl rfl) ?_
                      refine xg_t (xg_iload (va := (0, cj)) rfl rfl) ?_
                      refine xoCh82 (xqc82 hI171 : cp82 (wget w169 82)) (fun f82_177 f82_179 f82_181 f82_183 f82_185 f82_187 f82_189 f82_191 f82_193 f82_195 f82_197 f82_198 f82_199 f82_201 f82_203 f82_205 h82_207 hb178 hb180 hb182 hb184 hb186 hb188 hb190 hb192 hb194 hb196 hb200 hb202 hb204 hb206 hb208 => ?_)
                      refine xg_cVv mX12_lays (vs := [(0, xx), (0, yy), (0, wi), (0, cj)]) (rest := []) (cn1 := 0) (sl1 := 0) rfl (mLays (hI171) (by omega) (by omega) (by omega) (by omega) (by omega) (by omega) (by omega)) rfl h82_207 rfl rfl rfl rfl rfl rfl (fun w209 hq210 => ?_)
                      obtain ⟨hI211, hF212, hx213⟩ := hq210
                      obtain ⟨hy214, hy215, hy216⟩ := hx213
                      have hz217 : ar (((xx * 11 + (yy + cj)) * 11 + wi) * 11 + (hi - cj)) + ar (((xx * 11 + yy) * 11 + wi) * 11 + cj) = ar pi_ := (ar_cutH (by omega) (by omega) (by omega) (by omega)).trans har.symm
                      exact xg_e ⟨w209, ⟨rfl, rfl⟩, hI211, (((hF47.up (by decide)).tr (hF172.up (by decide))).tr (hF212.up (by decide))), Or.inr ⟨by omega, by omega, by omega⟩⟩
                    · refine xg_t (xg_icF (u := z166) (v := u40) rfl xnm0 xnm0 (xj_eqF hc168)) ?_
                      refine xg_t (xg_goto) ?_
                      refine xg_t (xg_blq rfl) ?_
                      refine xg_t (xg_iinc (u := cj) (z := cj + 1) (l1 := [(0, (2, 82)), (1, (0, pi_)), (2, (0, hi)), (3, (0, wi)), (4, (0, yy)), (5, (0, xx)), (6, (0, u40)), (7, (0, n48))]) rfl rfl (by omega) rfl) ?_
                      refine xg_t (xg_goto) ?_
                      refine xg_t (xg_drop (l1 := [(0, (2, 82)), (1, (0, pi_)), (2, (0, hi)), (3, (0, wi)), (4, (0, yy)), (5, (0, xx)), (6, (0, u40)), (7, (0, n48)), (8, (0, cj + 1))]) (List.forall_mem_cons.mpr ⟨List.mem_cons_of_mem _ (List.mem_cons_self), List.forall_mem_cons.mpr ⟨List.mem_cons_of_mem _ (List.mem_cons_of_mem _ (List.mem_cons_self)), List.forall_mem_cons.mpr ⟨List.mem_cons_of_mem _ (List.mem_cons_of_mem _ (List.mem_cons_of_mem _ (List.mem_cons_self))), List.forall_mem_cons.mpr ⟨List.mem_cons_of_mem _ (List.mem_cons_of_mem _ (List.mem_cons_of_mem _ (List.mem_cons_of_mem _ (List.mem_cons_self)))), List.forall_mem_cons.mpr ⟨List.mem_cons_of_mem _ (List.mem_cons_of_mem _ (List.mem_cons_of_mem _ (List.mem_cons_of_mem _ (List.mem_cons_of_mem _ (List.mem_cons_self))))), List.forall_mem_cons.mpr ⟨List.mem_cons_of_mem _ (List.mem_cons_of_mem _ (List.mem_cons_of_mem _ (List.mem_cons_of_mem _ (List.mem_cons_of_mem _ (List.mem_cons_of_mem _ (List.mem_cons_self)))))), List.forall_mem_cons.mpr ⟨List.mem_cons_of_mem _ (List.mem_cons_of_mem _ (List.mem_cons_of_mem _ (List.mem_cons_of_mem _ (List.mem_cons_of_mem _ (List.mem_cons_of_mem _ (List.mem_cons_of_mem _ (List.mem_cons_self))))))), List.forall_mem_cons.mpr ⟨List.mem_cons_of_mem _ (List.mem_cons_of_mem _ (List.mem_cons_of_mem _ (List.mem_cons_of_mem _ (List.mem_cons_of_mem _ (List.mem_cons_of_mem _ (List.mem_cons_of_mem _ (List.mem_cons_of_mem _ (List.mem_cons_self)))))))), List.forall_mem_cons.mpr ⟨List.mem_cons_self, fun _ h => absurd h List.not_mem_nil⟩⟩⟩⟩⟩⟩⟩⟩⟩)) ?_
                      exact ih149 (cj + 1)  (by omega) (by omega) (by omega)
                  · refine xg_t (xg_icT (u := cj) (v := hi) rfl xnm0 xnm0 (xj_geT (by omega) (by omega))) ?_
                    refine xg_t (xg_blq rfl) ?_
                    exact xg_e ⟨w44, ⟨rfl, rfl⟩, hI46, (hF47.up (by decide)), Or.inl ⟨by omega, by omega, by omega⟩⟩
              exact key148 _ 1  (Nat.lt_succ_self _) (by omega) (by omega)
        exact key78 _ 1  (Nat.lt_succ_self _) (by omega) (by omega)
    · refine xg_t (xg_ifT (u := n48) rfl xnm0 (xjz_ltT (by omega) (by omega))) ?_
      refine xg_t (xg_blq rfl) ?_
      refine xg_t (xg_const) ?_
      refine xg_t (xg_istore (l1 := [(7, (0, n48)), (6, (0, u40)), (5, (0, xx)), (4, (0, yy)), (3, (0, wi)), (2, (0, hi)), (0, (2, 82)), (1, (0, pi_))]) rfl rfl rfl) ?_
      refine xg_t (xg_drop (l1 := [(0, (2, 82)), (1, (0, pi_)), (2, (0, hi)), (3, (0, wi)), (4, (0, yy)), (5, (0, xx)), (6, (0, u40)), (7, (0, n48)), (8, (0, 1))]) (List.forall_mem_cons.mpr ⟨List.mem_cons_of_mem _ (List.mem_cons_of_mem _ (List.mem_cons_of_mem _ (List.mem_cons_of_mem _ (List.mem_cons_of_mem _ (List.mem_cons_of_mem _ (List.mem_cons_of_mem _ (List.mem_cons_self))))))), List.forall_mem_cons.mpr ⟨List.mem_cons_of_mem _ (List.mem_cons_of_mem _ (List.mem_cons_of_mem _ (List.mem_cons_of_mem _ (List.mem_cons_of_mem _ (List.mem_cons_of_mem _ (List.mem_cons_of_mem _ (List.mem_cons_of_mem _ (List.mem_cons_self)))))))), List.forall_mem_cons.mpr ⟨List.mem_cons_of_mem _ (List.mem_cons_of_mem _ (List.mem_cons_of_mem _ (List.mem_cons_of_mem _ (List.mem_cons_of_mem _ (List.mem_cons_of_mem _ (List.mem_cons_self)))))), List.forall_mem_cons.mpr ⟨List.mem_cons_of_mem _ (List.mem_cons_of_mem _ (List.mem_cons_of_mem _ (List.mem_cons_of_mem _ (List.mem_cons_of_mem _ (List.mem_cons_self))))), List.forall_mem_cons.mpr ⟨List.mem_cons_of_mem _ (List.mem_cons_of_mem _ (List.mem_cons_of_mem _ (List.mem_cons_of_mem _ (List.mem_cons_self)))), List.forall_mem_cons.mpr ⟨List.mem_cons_of_mem _ (List.mem_cons_of_mem _ (List.mem_cons_of_mem _ (List.mem_cons_self))), List.forall_mem_cons.mpr ⟨List.mem_cons_of_mem _ (List.mem_cons_of_mem _ (List.mem_cons_self)), List.forall_mem_cons.mpr ⟨List.mem_cons_of_mem _ (List.mem_cons_self), List.forall_mem_cons.mpr ⟨List.mem_cons_self, fun _ h => absurd h List.not_mem_nil⟩⟩⟩⟩⟩⟩⟩⟩⟩)) ?_
      have key218 : ∀ (m220 : Nat) (ci : Nat), 10 - ci < m220 → ci ≤ 10 → 1 ≤ ci → xTo (d + 2) mX12_plansOne (136, [], [(0, (2, 82)), (1, (0, pi_)), (2, (0, hi)), (3, (0, wi)), (4, (0, yy)), (5, (0, xx)), (6, (0, u40)), (7, (0, n48)), (8, (0, ci))], [], (w44, bd, fc, 0, 0, rr)) (fun φ => ∃ w', xEnd 0 [] (w', bd, fc, 0, 0, rr) φ ∧ xMnv w' ∧ xFr [82, 108, 109] w w' ∧ ((fld w' 82 42 = fld w 82 42 ∧ smW w' = smW w ∧ fld w' 82 41 ≤ fld w 82 41 + 1) ∨ (fld w' 82 42 = fld w 82 42 + 2 ∧ smW w' = smW w + ar pi_ ∧ fld w' 82 41 = fld w 82 41))) := by
        intro m220
        induction m220 with
        | zero => intro ci hz; exact absurd hz (Nat.not_lt_zero _)
        | succ m220 ih219 =>
          intro ci hm226 hn224 he225
          refine xg_t (xg_blq rfl) ?_
          refine xg_t (xg_iload (va := (0, ci)) rfl rfl) ?_
          refine xg_t (xg_iload (va := (0, wi)) rfl rfl) ?_
          by_cases hc227 : ci < wi
          · refine xg_t (xg_icF (u := ci) (v := wi) rfl xnm0 xnm0 (xj_geF hc227 (by omega))) ?_
            refine xg_t (xg_aload (va := (2, 82)) rfl rfl) ?_
            refine xg_t (xg_getf (va := (2, 106)) (hF47.get (by decide) h82_31) rfl) ?_
            refine xg_t (xg_iload (va := (0, xx)) rfl rfl) ?_
            refine xg_t (xg_iload (va := (0, yy)) rfl rfl) ?_
            refine xg_t (xg_iload (va := (0, ci)) rfl rfl) ?_
            refine xg_t (xg_iload (va := (0, hi)) rfl rfl) ?_
            refine xg_t (xg_cSr mX12_at (vs := [(0, xx), (0, yy), (0, ci), (0, hi)]) (rest := [(2, 106)]) (rs := [(0, ((xx * 11 + yy) * 11 + ci) * 11 + hi), (2, 106)]) (cn1 := 0) (sl1 := 0) rfl (mAtR (by omega) (by omega) (by omega) (by omega)) rfl rfl rfl rfl rfl rfl rfl rfl) ?_
            have hl228 : ((xx * 11 + yy) * 11 + ci) * 11 + hi ≤ 14640 := by omega
            refine xg_ialdB (n := ((xx * 11 + yy) * 11 + ci) * 11 + hi) (B := 4294967295) (h106_38.fr hF47 (by decide)) (hb39) xnm0 (by omega) (fun u229 hu230 he231 => ?_)
            refine xg_t (xg_aload (va := (2, 82)) rfl rfl) ?_
            refine xg_t (xg_getf (va := (2, 106)) (hF47.get (by decide) h82_31) rfl) ?_
            refine xg_t (xg_iload (va := (0, xx)) rfl rfl) ?_
            refine xg_t (xg_iload (va := (0, ci)) rfl rfl) ?_
            refine xg_t (xg_iadd (u := xx) (v := ci) (z := xx + ci) xnm0 xnm0 (by omega)) ?_
            refine xg_t (xg_iload (va := (0, yy)) rfl rfl) ?_
            refine xg_t (xg_iload (va := (0, wi)) rfl rfl) ?_
            refine xg_t (xg_iload (va := (0, ci)) rfl rfl) ?_
            refine xg_t (xg_isub (u := wi) (v := ci) (z := wi - ci) xnm0 xnm0 (by omega)) ?_
            refine xg_t (xg_iload (va := (0, hi)) rfl rfl) ?_
            refine xg_t (xg_cSr mX12_at (vs := [(0, xx + ci), (0, yy), (0, wi - ci), (0, hi)]) (rest := [(2, 106), (0, u229)]) (rs := [(0, (((xx + ci) * 11 + yy) * 11 + (wi - ci)) * 11 + hi), (2, 106), (0, u229)]) (cn1 := 0) (sl1 := 0) rfl (mAtR (by omega) (by omega) (by omega) (by omega)) rfl rfl rfl rfl rfl rfl rfl rfl) ?_
            have hl232 : (((xx + ci) * 11 + yy) * 11 + (wi - ci)) * 11 + hi ≤ 14640 := by omega
            refine xg_ialdB (n := (((xx + ci) * 11 + yy) * 11 + (wi - ci)) * 11 + hi) (B := 4294967295) (h106_38.fr hF47 (by decide)) (hb39) xnm0 (by omega) (fun u233 hu234 he235 => ?_)
            refine xg_k (xg_iadd (u := u229) (v := u233) (z := (u229 + u233) % 4294967296) xnm0 xnm0 rfl) (Nat.mod_lt _ (by decide)) (fun z236 hz237 => ?_)
            refine xg_t (xg_iload (va := (0, u40)) rfl rfl) ?_
            by_cases hc238 : z236 = u40
            · refine xg_t (xg_icT (u := z236) (v := u40) rfl xnm0 xnm0 (xj_eqT hc238)) ?_
              refine xg_t (xg_blq rfl) ?_
              refine xg_t (xg_aload (va := (2, 82)) rfl rfl) ?_
              refine xg_t (xg_iload (va := (0, xx)) rfl rfl) ?_
              refine xg_t (xg_iload (va := (0, ci)) rfl rfl) ?_
              refine xg_t (xg_iadd (u := xx) (v := ci) (z := xx + ci) xnm0 xnm0 (by omega)) ?_
              refine xg_t (xg_iload (va := (0, yy)) rfl rfl) ?_
              refine xg_t (xg_iload (va := (0, wi)) rfl rfl) ?_
              refine xg_t (xg_iload (va := (0, ci)) rfl rfl) ?_
              refine xg_t (xg_isub (u := wi) (v := ci) (z := wi - ci) xnm0 xnm0 (by omega)) ?_
              refine xg_t (xg_iload (va := (0, hi)) rfl rfl) ?_
              refine xg_cVv mX12_lays (vs := [(0, xx + ci), (0, yy), (0, wi - ci), (0, hi)]) (rest := []) (cn1 := 0) (sl1 := 0) rfl (mLays (hI46) (by omega) (by omega) (by omega) (by omega) (by omega) (by omega) (by omega)) rfl (hF47.get (by decide) h82_31) rfl rfl rfl rfl rfl rfl (fun w239 hq240 => ?_)
              obtain ⟨hI241, hF242, hx243⟩ := hq240
              obtain ⟨hy244, hy245, hy246⟩ := hx243
              refine xg_t (xg_aload (va := (2, 82)) rfl rfl) ?_
              refine xg_t (xg_iload (va := (0, xx)) rfl rfl) ?_
              refine xg_t (xg_iload (va := (0, yy)) rfl rfl) ?_
              refine xg_t (xg_iload (va := (0, ci)) rfl rfl) ?_
              refine xg_t (xg_iload (va := (0, hi)) rfl rfl) ?_
              refine xoCh82 (xqc82 hI241 : cp82 (wget w239 82)) (fun f82_247 f82_249 f82_251 f82_253 f82_255 f82_257 f82_259 f82_261 f82_263 f82_265 f82_267 f82_268 f82_269 f82_271 f82_273 f82_275 h82_277 hb248 hb250 hb252 hb254 hb256 hb258 hb260 hb262 hb264 hb266 hb270 hb272 hb274 hb276 hb278 => ?_)
              refine xg_cVv mX12_lays (vs := [(0, xx), (0, yy), (0, ci), (0, hi)]) (rest := []) (cn1 := 0) (sl1 := 0) rfl (mLays (hI241) (by omega) (by omega) (by omega) (by omega) (by omega) (by omega) (by omega)) rfl h82_277 rfl rfl rfl rfl rfl rfl (fun w279 hq280 => ?_)
              obtain ⟨hI281, hF282, hx283⟩ := hq280
              obtain ⟨hy284, hy285, hy286⟩ := hx283
              have hz287 : ar ((((xx + ci) * 11 + yy) * 11 + (wi - ci)) * 11 + hi) + ar (((xx * 11 + yy) * 11 + ci) * 11 + hi) = ar pi_ := (ar_cutW (by omega) (by omega) (by omega) (by omega)).trans har.symm
              exact xg_e ⟨w279, ⟨rfl, rfl⟩, hI281, (((hF47.up (by decide)).tr (hF242.up (by decide))).tr (hF282.up (by decide))), Or.inr ⟨by omega, by omega, by omega⟩⟩
            · refine xg_t (xg_icF (u := z236) (v := u40) rfl xnm0 xnm0 (xj_eqF hc238)) ?_
              refine xg_t (xg_goto) ?_
              refine xg_t (xg_blq rfl) ?_
              refine xg_t (xg_iinc (u := ci) (z := ci + 1) (l1 := [(0, (2, 82)), (1, (0, pi_)), (2, (0, hi)), (3, (0, wi)), (4, (0, yy)), (5, (0, xx)), (6, (0, u40)), (7, (0, n48))]) rfl rfl (by omega) rfl) ?_
              refine xg_t (xg_goto) ?_
              refine xg_t (xg_drop (l1 := [(0, (2, 82)), (1, (0, pi_)), (2, (0, hi)), (3, (0, wi)), (4, (0, yy)), (5, (0, xx)), (6, (0, u40)), (7, (0, n48)), (8, (0, ci + 1))]) (List.forall_mem_cons.mpr ⟨List.mem_cons_of_mem _ (List.mem_cons_self), List.forall_mem_cons.mpr ⟨List.mem_cons_of_mem _ (List.mem_cons_of_mem _ (List.mem_cons_self)), List.forall_mem_cons.mpr ⟨List.mem_cons_of_mem _ (List.mem_cons_of_mem _ (List.mem_cons_of_mem _ (List.mem_cons_self))), List.forall_mem_cons.mpr ⟨List.mem_cons_of_mem _ (List.mem_cons_of_mem _ (List.mem_cons_of_mem _ (List.mem_cons_of_mem _ (List.mem_cons_self)))), List.forall_mem_cons.mpr ⟨List.mem_cons_of_mem _ (List.mem_cons_of_mem _ (List.mem_cons_of_mem _ (List.mem_cons_of_mem _ (List.mem_cons_of_mem _ (List.mem_cons_self))))), List.forall_mem_cons.mpr ⟨List.mem_cons_of_mem _ (List.mem_cons_of_mem _ (List.mem_cons_of_mem _ (List.mem_cons_of_mem _ (List.mem_cons_of_mem _ (List.mem_cons_of_mem _ (List.mem_cons_self)))))), List.forall_mem_cons.mpr ⟨List.mem_cons_of_mem _ (List.mem_cons_of_mem _ (List.mem_cons_of_mem _ (List.mem_cons_of_mem _ (List.mem_cons_of_mem _ (List.mem_cons_of_mem _ (List.mem_cons_of_mem _ (List.mem_cons_self))))))), List.forall_mem_cons.mpr ⟨List.mem_cons_of_mem _ (List.mem_cons_of_mem _ (List.mem_cons_of_mem _ (List.mem_cons_of_mem _ (List.mem_cons_of_mem _ (List.mem_cons_of_mem _ (List.mem_cons_of_mem _ (List.mem_cons_of_mem _ (List.mem_cons_self)))))))), List.forall_mem_cons.mpr ⟨List.mem_cons_self, fun _ h => absurd h List.not_mem_nil⟩⟩⟩⟩⟩⟩⟩⟩⟩)) ?_
              exact ih219 (ci + 1)  (by omega) (by omega) (by omega)
          · refine xg_t (xg_icT (u := ci) (v := wi) rfl xnm0 xnm0 (xj_geT (by omega) (by omega))) ?_
            refine xg_t (xg_blq rfl) ?_
            refine xg_t (xg_const) ?_
            refine xg_t (xg_istore (l1 := [(0, (2, 82)), (1, (0, pi_)), (2, (0, hi)), (3, (0, wi)), (4, (0, yy)), (5, (0, xx)), (6, (0, u40)), (7, (0, n48))]) rfl rfl rfl) ?_
            refine xg_t (xg_drop (l1 := [(0, (2, 82)), (1, (0, pi_)), (2, (0, hi)), (3, (0, wi)), (4, (0, yy)), (5, (0, xx)), (6, (0, u40)), (7, (0, n48)), (8, (0, 1))]) (List.forall_mem_cons.mpr ⟨List.mem_cons_of_mem _ (List.mem_cons_self), List.forall_mem_cons.mpr ⟨List.mem_cons_of_mem _ (List.mem_cons_of_mem _ (List.mem_cons_self)), List.forall_mem_cons.mpr ⟨List.mem_cons_of_mem _ (List.mem_cons_of_mem _ (List.mem_cons_of_mem _ (List.mem_cons_self))), List.forall_mem_cons.mpr ⟨List.mem_cons_of_mem _ (List.mem_cons_of_mem _ (List.mem_cons_of_mem _ (List.mem_cons_of_mem _ (List.mem_cons_self)))), List.forall_mem_cons.mpr ⟨List.mem_cons_of_mem _ (List.mem_cons_of_mem _ (List.mem_cons_of_mem _ (List.mem_cons_of_mem _ (List.mem_cons_of_mem _ (List.mem_cons_self))))), List.forall_mem_cons.mpr ⟨List.mem_cons_of_mem _ (List.mem_cons_of_mem _ (List.mem_cons_of_mem _ (List.mem_cons_of_mem _ (List.mem_cons_of_mem _ (List.mem_cons_of_mem _ (List.mem_cons_self)))))), List.forall_mem_cons.mpr ⟨List.mem_cons_of_mem _ (List.mem_cons_of_mem _ (List.mem_cons_of_mem _ (List.mem_cons_of_mem _ (List.mem_cons_of_mem _ (List.mem_cons_of_mem _ (List.mem_cons_of_mem _ (List.mem_cons_self))))))), List.forall_mem_cons.mpr ⟨List.mem_cons_of_mem _ (List.mem_cons_of_mem _ (List.mem_cons_of_mem _ (List.mem_cons_of_mem _ (List.mem_cons_of_mem _ (List.mem_cons_of_mem _ (List.mem_cons_of_mem _ (List.mem_cons_of_mem _ (List.mem_cons_self)))))))), List.forall_mem_cons.mpr ⟨List.mem_cons_self, fun _ h => absurd h List.not_mem_nil⟩⟩⟩⟩⟩⟩⟩⟩⟩)) ?_
            have key288 : ∀ (m290 : Nat) (cj : Nat), 10 - cj < m290 → cj ≤ 10 → 1 ≤ cj → xTo (d + 2) mX12_plansOne (223, [], [(0, (2, 82)), (1, (0, pi_)), (2, (0, hi)), (3, (0, wi)), (4, (0, yy)), (5, (0, xx)), (6, (0, u40)), (7, (0, n48)), (8, (0, cj))], [], (w44, bd, fc, 0, 0, rr)) (fun φ => ∃ w', xEnd 0 [] (w', bd, fc, 0, 0, rr) φ ∧ xMnv w' ∧ xFr [82, 108, 109] w w' ∧ ((fld w' 82 42 = fld w 82 42 ∧ smW w' = smW w ∧ fld w' 82 41 ≤ fld w 82 41 + 1) ∨ (fld w' 82 42 = fld w 82 42 + 2 ∧ smW w' = smW w + ar pi_ ∧ fld w' 82 41 = fld w 82 41))) := by
              intro m290
              induction m290 with
              | zero => intro cj hz; exact absurd hz (Nat.not_lt_zero _)
              | succ m290 ih289 =>
                intro cj hm296 hn294 he295
                refine xg_t (xg_blq rfl) ?_
                refine xg_t (xg_iload (va := (0, cj)) rfl rfl) ?_
                refine xg_t (xg_iload (va := (0, hi)) rfl rfl) ?_
                by_cases hc297 : cj < hi
                · refine xg_t (xg_icF (u := cj) (v := hi) rfl xnm0 xnm0 (xj_geF hc297 (by omega))) ?_
                  refine xg_t (xg_aload (va := (2, 82)) rfl rfl) ?_
                  refine xg_t (xg_getf (va := (2, 106)) (hF47.get (by decide) h82_31) rfl) ?_
                  refine xg_t (xg_iload (va := (0, xx)) rfl rfl) ?_
                  refine xg_t (xg_iload (va := (0, yy)) rfl rfl) ?_
                  refine xg_t (xg_iload (va := (0, wi)) rfl rfl) ?_
                  refine xg_t (xg_iload (va := (0, cj)) rfl rfl) ?_
                  refine xg_t (xg_cSr mX12_at (vs := [(0, xx), (0, yy), (0, wi), (0, cj)]) (rest := [(2, 106)]) (rs := [(0, ((xx * 11 + yy) * 11 + wi) * 11 + cj), (2, 106)]) (cn1 := 0) (sl1 := 0) rfl (mAtR (by omega) (by omega) (by omega) (by omega)) rfl rfl rfl rfl rfl rfl rfl rfl) ?_
                  have hl298 : ((xx * 11 + yy) * 11 + wi) * 11 + cj ≤ 14640 := by omega
                  refine xg_ialdB (n := ((xx * 11 + yy) * 11 + wi) * 11 + cj) (B := 4294967295) (h106_38.fr hF47 (by decide)) (hb39) xnm0 (by omega) (fun u299 hu300 he301 => ?_)
                  refine xg_t (xg_aload (va := (2, 82)) rfl rfl) ?_
                  refine xg_t (xg_getf (va := (2, 106)) (hF47.get (by decide) h82_31) rfl) ?_
                  refine xg_t (xg_iload (va := (0, xx)) rfl rfl) ?_
                  refine xg_t (xg_iload (va := (0, yy)) rfl rfl) ?_
                  refine xg_t (xg_iload (va := (0, cj)) rfl rfl) ?_
                  refine xg_t (xg_iadd (u := yy) (v := cj) (z := yy + cj) xnm0 xnm0 (by omega)) ?_
                  refine xg_t (xg_iload (va := (0, wi)) rfl rfl) ?_
                  refine xg_t (xg_iload (va := (0, hi)) rfl rfl) ?_
                  refine xg_t (xg_iload (va := (0, cj)) rfl rfl) ?_
                  refine xg_t (xg_isub (u := hi) (v := cj) (z := hi - cj) xnm0 xnm0 (by omega)) ?_
                  refine xg_t (xg_cSr mX12_at (vs := [(0, xx), (0, yy + cj), (0, wi), (0, hi - cj)]) (rest := [(2, 106), (0, u299)]) (rs := [(0, ((xx * 11 + (yy + cj)) * 11 + wi) * 11 + (hi - cj)), (2, 106), (0, u299)]) (cn1 := 0) (sl1 := 0) rfl (mAtR (by omega) (by omega) (by omega) (by omega)) rfl rfl rfl rfl rfl rfl rfl rfl) ?_
                  have hl302 : ((xx * 11 + (yy + cj)) * 11 + wi) * 11 + (hi - cj) ≤ 14640 := by omega
                  refine xg_ialdB (n := ((xx * 11 + (yy + cj)) * 11 + wi) * 11 + (hi - cj)) (B := 4294967295) (h106_38.fr hF47 (by decide)) (hb39) xnm0 (by omega) (fun u303 hu304 he305 => ?_)
                  refine xg_k (xg_iadd (u := u299) (v := u303) (z := (u299 + u303) % 4294967296) xnm0 xnm0 rfl) (Nat.mod_lt _ (by decide)) (fun z306 hz307 => ?_)
                  refine xg_t (xg_iload (va := (0, u40)) rfl rfl) ?_
                  by_cases hc308 : z306 = u40
                  · refine xg_t (xg_icT (u := z306) (v := u40) rfl xnm0 xnm0 (xj_eqT hc308)) ?_
                    refine xg_t (xg_blq rfl) ?_
                    refine xg_t (xg_aload (va := (2, 82)) rfl rfl) ?_
                    refine xg_t (xg_iload (va := (0, xx)) rfl rfl) ?_
                    refine xg_t (xg_iload (va := (0, yy)) rfl rfl) ?_
                    refine xg_t (xg_iload (va := (0, cj)) rfl rfl) ?_
                    refine xg_t (xg_iadd (u := yy) (v := cj) (z := yy + cj) xnm0 xnm0 (by omega)) ?_
                    refine xg_t (xg_iload (va := (0, wi)) rfl rfl) ?_
                    refine xg_t (xg_iload (va := (0, hi)) rfl rfl) ?_
                    refine xg_t (xg_iload (va := (0, cj)) rfl rfl) ?_
                    refine xg_t (xg_isub (u := hi) (v := cj) (z := hi - cj) xnm0 xnm0 (by omega)) ?_
                    refine xg_cVv mX12_lays (vs := [(0, xx), (0, yy + cj), (0, wi), (0, hi - cj)]) (rest := []) (cn1 := 0) (sl1 := 0) rfl (mLays (hI46) (by omega) (by omega) (by omega) (by omega) (by omega) (by omega) (by omega)) rfl (hF47.get (by decide) h82_31) rfl rfl rfl rfl rfl rfl (fun w309 hq310 => ?_)
                    obtain ⟨hI311, hF312, hx313⟩ := hq310
                    obtain ⟨hy314, hy315, hy316⟩ := hx313
                    refine xg_t (xg_aload (va := (2, 82)) rfl rfl) ?_
                    refine xg_t (xg_iload (va := (0, xx)) rfl rfl) ?_
                    refine xg_t (xg_iload (va := (0, yy)) rfl rfl) ?_
                    refine xg_t (xg_iload (va := (0, wi)) rfl rfl) ?_
                    refine xg_t (xg_iload (va := (0, cj)) rfl rfl) ?_
                    refine xoCh82 (xqc82 hI311 : cp82 (wget w309 82)) (fun f82_317 f82_319 f82_321 f82_323 f82_325 f82_327 f82_329 f82_331 f82_333 f82_335 f82_337 f82_338 f82_339 f82_341 f82_343 f82_345 h82_347 hb318 hb320 hb322 hb324 hb326 hb328 hb330 hb332 hb334 hb336 hb340 hb342 hb344 hb346 hb348 => ?_)
                    refine xg_cVv mX12_lays (vs := [(0, xx), (0, yy), (0, wi), (0, cj)]) (rest := []) (cn1 := 0) (sl1 := 0) rfl (mLays (hI311) (by omega) (by omega) (by omega) (by omega) (by omega) (by omega) (by omega)) rfl h82_347 rfl rfl rfl rfl rfl rfl (fun w349 hq350 => ?_)
                    obtain ⟨hI351, hF352, hx353⟩ := hq350
                    obtain ⟨hy354, hy355, hy356⟩ := hx353
                    have hz357 : ar (((xx * 11 + (yy + cj)) * 11 + wi) * 11 + (hi - cj)) + ar (((xx * 11 + yy) * 11 + wi) * 11 + cj) = ar pi_ := (ar_cutH (by omega) (by omega) (by omega) (by omega)).trans har.symm
                    exact xg_e ⟨w349, ⟨rfl, rfl⟩, hI351, (((hF47.up (by decide)).tr (hF312.up (by decide))).tr (hF352.up (by decide))), Or.inr ⟨by omega, by omega, by omega⟩⟩
                  · refine xg_t (xg_icF (u := z306) (v := u40) rfl xnm0 xnm0 (xj_eqF hc308)) ?_
                    refine xg_t (xg_goto) ?_
                    refine xg_t (xg_blq rfl) ?_
                    refine xg_t (xg_iinc (u := cj) (z := cj + 1) (l1 := [(0, (2, 82)), (1, (0, pi_)), (2, (0, hi)), (3, (0, wi)), (4, (0, yy)), (5, (0, xx)), (6, (0, u40)), (7, (0, n48))]) rfl rfl (by omega) rfl) ?_
                    refine xg_t (xg_goto) ?_
                    refine xg_t (xg_drop (l1 := [(0, (2, 82)), (1, (0, pi_)), (2, (0, hi)), (3, (0, wi)), (4, (0, yy)), (5, (0, xx)), (6, (0, u40)), (7, (0, n48)), (8, (0, cj + 1))]) (List.forall_mem_cons.mpr ⟨List.mem_cons_of_mem _ (List.mem_cons_self), List.forall_mem_cons.mpr ⟨List.mem_cons_of_mem _ (List.mem_cons_of_mem _ (List.mem_cons_self)), List.forall_mem_cons.mpr ⟨List.mem_cons_of_mem _ (List.mem_cons_of_mem _ (List.mem_cons_of_mem _ (List.mem_cons_self))), List.forall_mem_cons.mpr ⟨List.mem_cons_of_mem _ (List.mem_cons_of_mem _ (List.mem_cons_of_mem _ (List.mem_cons_of_mem _ (List.mem_cons_self)))), List.forall_mem_cons.mpr ⟨List.mem_cons_of_mem _ (List.mem_cons_of_mem _ (List.mem_cons_of_mem _ (List.mem_cons_of_mem _ (List.mem_cons_of_mem _ (List.mem_cons_self))))), List.forall_mem_cons.mpr ⟨List.mem_cons_of_mem _ (List.mem_cons_of_mem _ (List.mem_cons_of_mem _ (List.mem_cons_of_mem _ (List.mem_cons_of_mem _ (List.mem_cons_of_mem _ (List.mem_cons_self)))))), List.forall_mem_cons.mpr ⟨List.mem_cons_of_mem _ (List.mem_cons_of_mem _ (List.mem_cons_of_mem _ (List.mem_cons_of_mem _ (List.mem_cons_of_mem _ (List.mem_cons_of_mem _ (List.mem_cons_of_mem _ (List.mem_cons_self))))))), List.forall_mem_cons.mpr ⟨List.mem_cons_of_mem _ (List.mem_cons_of_mem _ (List.mem_cons_of_mem _ (List.mem_cons_of_mem _ (List.mem_cons_of_mem _ (List.mem_cons_of_mem _ (List.mem_cons_of_mem _ (List.mem_cons_of_mem _ (List.mem_cons_self)))))))), List.forall_mem_cons.mpr ⟨List.mem_cons_self, fun _ h => absurd h List.not_mem_nil⟩⟩⟩⟩⟩⟩⟩⟩⟩)) ?_
                    exact ih289 (cj + 1)  (by omega) (by omega) (by omega)
                · refine xg_t (xg_icT (u := cj) (v := hi) rfl xnm0 xnm0 (xj_geT (by omega) (by omega))) ?_
                  refine xg_t (xg_blq rfl) ?_
                  exact xg_e ⟨w44, ⟨rfl, rfl⟩, hI46, (hF47.up (by decide)), Or.inl ⟨by omega, by omega, by omega⟩⟩
            exact key288 _ 1  (Nat.lt_succ_self _) (by omega) (by omega)
      exact key218 _ 1  (Nat.lt_succ_self _) (by omega) (by omega)
end XM5
end
section
/-! the model: plans; the bend -/
theorem sm_pred {f : Nat → Nat} {p : Nat} (h : 1 ≤ p) : sm f p = sm f (p - 1) + ar (f (p - 1)) := by
  cases p with
  | zero => omega
  | succ n => rfl
theorem lN_ne0 {v : Nat} (h1 : 1 ≤ v) (h2 : v < 18446744073709551616) : ¬ lN v = 0 := by
  intro h
  have e : (lN v).toBitVec.toNat = (0 : Int64).toBitVec.toNat := congrArg (fun x : Int64 => x.toBitVec.toNat) h
  have e2 : (lN v).toBitVec.toNat = v % 18446744073709551616 := by
    show (BitVec.ofNat 64 v).toNat = _
    rw [BitVec.toNat_ofNat]
  rw [e2] at e
  have e3 : (0 : Int64).toBitVec.toNat = 0 := rfl
  omega
theorem xg_lre {d p0 a b : Nat} {M : xM} {cs : List xI} {lo : xLo} {st : List xV} {hp : xH} (h : lN a = lN b) : xLd d M (p0, cs, lo, (4, a) :: st, hp) [(p0, cs, lo, (4, b) :: st, hp)] := by
  intro hM hpos p l e R s m args below meth c D A g cw0 tys0 io0 Q C hQ cw tys io H locs ls lv sv hE hK hP hD hS hlv hlo hsv hh
  obtain ⟨wa, sv2, rfl, r2, hs2⟩ := xrel_cons hsv
  have e1 : wa = .long (lN a) := r2
  refine hQ _ List.mem_cons_self ?_ cw tys io H locs ls lv (wa :: sv2) hE hK hP hD hS hlv hlo ⟨(show wa = .long (lN b) by rw [e1, h]), hs2⟩ hh
  cases cs <;> exact hpos
/-- blocks: where each begins, what each bears -/
theorem bl_next {H U H' U1 : Nat → Nat} {p u z t : Nat} (hB : ∀ q, q < p → H q < p ∧ 1 ≤ U (H q) ∧ U (H q) ≤ 19602 * p) (hH : ∀ j, j ≠ p → H' j = H j) (hu : H' p = u) (hc : (u = p ∧ z = 0 ∧ ∀ j, j ≠ p → U1 j = U j) ∨ (u < p ∧ z = U u ∧ 1 ≤ z ∧ z ≤ 19602 * p ∧ ∀ j, U1 j = U j)) (t1 : 1 ≤ t) (t2 : t ≤ 19602) : ∀ q, q < p + 1 → H' q < p + 1 ∧ 1 ≤ (if H' q = u then z + t else U1 (H' q)) ∧ (if H' q = u then z + t else U1 (H' q)) ≤ 19602 * (p + 1) := by
  intro q hq
  by_cases e : q = p
  · subst e
    rw [hu, if_pos rfl]
    rcases hc with ⟨h1, h2, -⟩ | ⟨h1, h2, h3, h4, -⟩ <;> omega
  · obtain ⟨a1, a2, a3⟩ := hB q (by omega)
    have eH := hH q e
    rw [eH]
    by_cases y : H q = u
    · rw [if_pos y]
      rcases hc with ⟨h1, h2, -⟩ | ⟨h1, h2, h3, h4, -⟩ <;> omega
    · rw [if_neg y]
      rcases hc with ⟨h1, h2, h3⟩ | ⟨h1, h2, h3, h4, h5⟩
      · rw [h3 _ (by omega)]; omega
      · rw [h5]; omega
section XM6
variable {d : Nat} {w : List (List xE)} {bd : List (Nat × Nat)} {fc : List (Nat × Nat × Bool)} {rr : Nat × Nat}
theorem mPlans (hI : xMnv w)  : xPq (d + 4) mX12_plans [(2, 82)] w bd fc rr [] (fun w' => xMnv w' ∧ xFr [82, 106, 107, 108, 109] w w') := by
  refine xPq.of ?_
  show xTo (d + 4) mX12_plans (0, [], [(0, (2, 82))], [], (w, bd, fc, 0, 0, rr)) (fun φ => ∃ w', xEnd 0 [] (w', bd, fc, 0, 0, rr) φ ∧ xMnv w' ∧ xFr [82, 106, 107, 108, 109] w w')
  refine xoCh82 (xqc82 hI : cp82 (wget w 82)) (fun f82_1 f82_3 f82_5 f82_7 f82_9 f82_11 f82_13 f82_15 f82_17 f82_19 f82_21 f82_22 f82_23 f82_25 f82_27 f82_29 h82_31 hb2 hb4 hb6 hb8 hb10 hb12 hb14 hb16 hb18 hb20 hb24 hb26 hb28 hb30 hb32 => ?_)
  refine xoX83 (xqc83 hI : cpx83 (wget w 83)) (fun g83_33 h83_34 hb35 hx36 => ?_)
  refine xg_t (xg_blq rfl) ?_
  refine xg_t (xg_aload (va := (2, 82)) rfl rfl) ?_
  refine xg_cVv mX12_values (vs := []) (rest := []) (cn1 := 0) (sl1 := 0) rfl (mValues (hI)) rfl h82_31 rfl rfl rfl rfl rfl rfl (fun w37 hq38 => ?_)
  obtain ⟨hI39, hF40⟩ := hq38
  refine xg_t (xg_aload (va := (2, 82)) rfl rfl) ?_
  refine xg_t (xg_const) ?_
  refine xg_putI (fl1 := [(2, 83), (2, 84), (0, f82_1), (0, f82_3), (0, f82_5), (0, f82_7), (0, f82_9), (0, f82_11), (0, f82_13), (0, f82_15), (0, f82_17), (2, 85), (2, 86), (2, 87), (0, f82_19), (2, 88), (2, 89), (2, 90), (2, 91), (2, 92), (2, 93), (2, 94), (4, f82_21), (4, f82_22), (0, f82_23), (2, 95), (2, 96), (2, 97), (2, 98), (2, 99), (2, 100), (2, 101), (2, 102), (0, f82_25), (2, 103), (2, 104), (2, 105), (2, 106), (2, 107), (2, 108), (2, 109), (0, 0), (0, f82_29), (2, 110), (2, 111), (2, 112), (2, 113)]) (hF40.get (by decide) h82_31) rfl rfl rfl (fun w41 hk42 hb43 => ?_)
  refine xg_t (xg_aload (va := (2, 82)) rfl rfl) ?_
  refine xg_t (xg_const) ?_
  refine xg_putI (fl1 := [(2, 83), (2, 84), (0, f82_1), (0, f82_3), (0, f82_5), (0, f82_7), (0, f82_9), (0, f82_11), (0, f82_13), (0, f82_15), (0, f82_17), (2, 85), (2, 86), (2, 87), (0, f82_19), (2, 88), (2, 89), (2, 90), (2, 91), (2, 92), (2, 93), (2, 94), (4, f82_21), (4, f82_22), (0, f82_23), (2, 95), (2, 96), (2, 97), (2, 98), (2, 99), (2, 100), (2, 101), (2, 102), (0, f82_25), (2, 103), (2, 104), (2, 105), (2, 106), (2, 107), (2, 108), (2, 109), (0, 0), (0, 0), (2, 110), (2, 111), (2, 112), (2, 113)]) hk42 rfl rfl rfl (fun w44 hk45 hb46 => ?_)
  refine xg_t (xg_aload (va := (2, 82)) rfl rfl) ?_
  refine xg_t (xg_const) ?_
  refine xg_t (xg_const) ?_
  refine xg_t (xg_aload (va := (2, 82)) rfl rfl) ?_
  refine xg_t (xg_getf (va := (2, 83)) hk45 rfl) ?_
  refine xg_t (xg_bip) ?_
  refine xg_ialdB (n := 7) (B := 4294967295) (((h83_34.fr hF40 (by decide)).but hb43 (by decide)).but hb46 (by decide)) (hb35) xnm0 (by first | decide | omega) (fun u47 hu48 he49 => ?_)
  have hl50 : u47 ≤ 10 := by rw [← he49]; exact hx36.l7
  refine xg_t (xg_aload (va := (2, 82)) rfl rfl) ?_
  refine xg_t (xg_getf (va := (2, 83)) hk45 rfl) ?_
  refine xg_t (xg_bip) ?_
  refine xg_ialdB (n := 8) (B := 4294967295) (((h83_34.fr hF40 (by decide)).but hb43 (by decide)).but hb46 (by decide)) (hb35) xnm0 (by first | decide | omega) (fun u51 hu52 he53 => ?_)
  have hl54 : u51 ≤ 10 := by rw [← he53]; exact hx36.l8
  have hz42 : fld w44 82 42 = 0 := fld_of hk45
  have hz41 : fld w44 82 41 = 0 := fld_of hk45
  obtain ⟨g108_55, h108_56, hb57, hx58⟩ := (xqc108 hI39 : cpx108 (wget w37 108))
  have h108_56 : xRow w37 108 200 75 g108_55 := h108_56
  have hzs := smW_of ((h108_56.but hb43 (by decide)).but hb46 (by decide)) hz42 (by omega)
  have hz0 : sm g108_55 0 = 0 := rfl
  refine xg_cVv mX12_lays (vs := [(0, 0), (0, 0), (0, u47), (0, u51)]) (rest := []) (cn1 := 0) (sl1 := 0) rfl (mLays (xMnv.up (S := [82]) hI39 ((xFr.of (S := [82]) hb43 (by decide)).tr (xFr.of (S := [82]) hb46 (by decide))) (List.forall_mem_cons.mpr ⟨xqu82 (show cp82 (wget w44 82) from xmC82 f82_1 f82_3 f82_5 f82_7 f82_9 f82_11 f82_13 f82_15 f82_17 f82_19 f82_21 f82_22 f82_23 f82_25 0 0 hk45 hb2 hb4 hb6 hb8 hb10 hb12 hb14 hb16 hb18 hb20 hb24 hb26 (by decide) (by decide) (by omega)), fun _ h => absurd h List.not_mem_nil⟩)) (by omega) (by omega) (by omega) (by omega) (by omega) (by omega) (by omega)) rfl hk45 rfl rfl rfl rfl rfl rfl (fun w59 hq60 => ?_)
  obtain ⟨hI61, hF62, hx63⟩ := hq60
  obtain ⟨hy64, hy65, hy66⟩ := hx63
  have hza := ar_le (((0 * 11 + 0) * 11 + u47) * 11 + u51)
  have key67 : ∀ (m69 : Nat) (w70 : List (List xE)), 2 * smW w70 - fld w70 82 42 < m69 → xMnv w70 → xFr [82, 106, 107, 108, 109] w w70 → smW w70 + fld w70 82 41 ≤ 100 → xTo (d + 4) mX12_plans (34, [], [(0, (2, 82))], [], (w70, bd, fc, 0, 0, rr)) (fun φ => ∃ w', xEnd 0 [] (w', bd, fc, 0, 0, rr) φ ∧ xMnv w' ∧ xFr [82, 106, 107, 108, 109] w w') := by
    intro m69
    induction m69 with
    | zero => intro w70 hz; exact absurd hz (Nat.not_lt_zero _)
    | succ m69 ih68 =>
      intro w70 hm74 hI71 hF72 he73
      refine xoCh82 (xqc82 hI71 : cp82 (wget w70 82)) (fun f82_75 f82_77 f82_79 f82_81 f82_83 f82_85 f82_87 f82_89 f82_91 f82_93 f82_95 f82_96 f82_97 f82_99 f82_101 f82_103 h82_105 hb76 hb78 hb80 hb82 hb84 hb86 hb88 hb90 hb92 hb94 hb98 hb100 hb102 hb104 hb106 => ?_)
      obtain ⟨g108_107, h108_108, hb109, hx110⟩ := (xqc108 hI71 : cpx108 (wget w70 108))
      have h108_108 : xRow w70 108 200 75 g108_107 := h108_108
      have hq42 : fld w70 82 42 = f82_103 := fld_of h82_105
      have hq41 : fld w70 82 41 = f82_101 := fld_of h82_105
      have hqs := smW_of h108_108 hq42 (hb104)
      have hqg := smW_ge w70
      refine xg_t (xg_blq rfl) ?_
      refine xg_t (xg_aload (va := (2, 82)) rfl rfl) ?_
      refine xg_t (xg_getf (va := (0, f82_103)) h82_105 rfl) ?_
      have hn111 : f82_103 ≤ 200 := hb104
      by_cases hc112 : 0 < f82_103
      · refine xg_t (xg_ifF (u := f82_103) rfl xnm0 (xj_leF hc112 (by omega))) ?_
        refine xg_t (xg_aload (va := (2, 82)) rfl rfl) ?_
        refine xg_t (xg_dup rfl) ?_
        refine xg_t (xg_getf (va := (0, f82_103)) h82_105 rfl) ?_
        refine xg_t (xg_const) ?_
        refine xg_t (xg_isub (u := f82_103) (v := 1) (z := f82_103 - 1) xnm0 xnm0 (by omega)) ?_
        refine xg_putI (fl1 := [(2, 83), (2, 84), (0, f82_75), (0, f82_77), (0, f82_79), (0, f82_81), (0, f82_83), (0, f82_85), (0, f82_87), (0, f82_89), (0, f82_91), (2, 85), (2, 86), (2, 87), (0, f82_93), (2, 88), (2, 89), (2, 90), (2, 91), (2, 92), (2, 93), (2, 94), (4, f82_95), (4, f82_96), (0, f82_97), (2, 95), (2, 96), (2, 97), (2, 98), (2, 99), (2, 100), (2, 101), (2, 102), (0, f82_99), (2, 103), (2, 104), (2, 105), (2, 106), (2, 107), (2, 108), (2, 109), (0, f82_101), (0, f82_103 - 1), (2, 110), (2, 111), (2, 112), (2, 113)]) h82_105 rfl rfl rfl (fun w113 hk114 hb115 => ?_)
        refine xg_t (xg_aload (va := (2, 82)) rfl rfl) ?_
        refine xg_t (xg_aload (va := (2, 82)) rfl rfl) ?_
        refine xg_t (xg_getf (va := (2, 108)) hk114 rfl) ?_
        refine xg_t (xg_aload (va := (2, 82)) rfl rfl) ?_
        refine xg_t (xg_getf (va := (0, f82_103 - 1)) hk114 rfl) ?_
        refine xg_ialdB (n := f82_103 - 1) (B := 4294967295) (h108_108.but hb115 (by decide)) (hb109) xnm0 (by omega) (fun u116 hu117 he118 => ?_)
        have hok_ := hx110 (f82_103 - 1)
        rw [he118] at hok_
        have hsp := sm_pred (f := g108_107) (p := f82_103) (by omega)
        rw [he118] at hsp
        have ho42 : fld w113 82 42 = f82_103 - 1 := fld_of hk114
        have ho41 : fld w113 82 41 = f82_101 := fld_of hk114
        have hos := smW_of (h108_108.but hb115 (by decide)) ho42 (by omega)
        have hoa := ar_pos u116
        have hl119 : u116 ≤ 14640 := by have := hok_.1; omega
        refine xg_cVv mX12_plansOne (vs := [(0, u116)]) (rest := []) (cn1 := 0) (sl1 := 0) rfl (mPlansOne (xMnv.up (S := [82]) hI71 (xFr.of (S := [82]) hb115 (by decide)) (List.forall_mem_cons.mpr ⟨xqu82 (show cp82 (wget w113 82) from xmC82 f82_75 f82_77 f82_79 f82_81 f82_83 f82_85 f82_87 f82_89 f82_91 f82_93 f82_95 f82_96 f82_97 f82_99 f82_101 (f82_103 - 1) hk114 hb76 hb78 hb80 hb82 hb84 hb86 hb88 hb90 hb92 hb94 hb98 hb100 hb102 (by omega) (by omega)), fun _ h => absurd h List.not_mem_nil⟩)) hok_ (by omega)) rfl hk114 rfl rfl rfl rfl rfl rfl (fun w120 hq121 => ?_)
        obtain ⟨hI122, hF123, hx124⟩ := hq121
        have hov := hx124
        have hog := smW_ge w120
        refine xg_t (xg_goto) ?_
        exact ih68 w120 (by omega) (hI122) (((hF72.tr (xFr.of (S := [82, 106, 107, 108, 109]) hb115 (by decide))).tr (hF123.up (by decide)))) (by omega)
      · refine xg_t (xg_ifT (u := f82_103) rfl xnm0 (xj_leT (by omega) (by omega))) ?_
        refine xg_t (xg_blq rfl) ?_
        exact xg_e ⟨w70, ⟨rfl, rfl⟩, hI71, hF72⟩
  exact key67 _ w59 (Nat.lt_succ_self _) (hI61) ((((hF40.up (by decide)).tr ((xFr.of (S := [82, 106, 107, 108, 109]) hb43 (by decide)).tr (xFr.of (S := [82, 106, 107, 108, 109]) hb46 (by decide)))).tr (hF62.up (by decide)))) (by omega)
theorem mPanels (hI : xMnv w)  : xPi (d + 5) mX12_panels [(2, 82)] w bd fc rr (fun n w' => (n ≤ 4294967295) ∧ xMnv w' ∧ xFr [82, 106, 107, 108, 109] w w') := by
  refine xPi.of ?_
  show xTo (d + 5) mX12_panels (0, [], [(0, (2, 82))], [], (w, bd, fc, 0, 0, rr)) (fun φ => ∃ n w', xEnd 1 [(0, n)] (w', bd, fc, 0, 0, rr) φ ∧ (n ≤ 4294967295) ∧ xMnv w' ∧ xFr [82, 106, 107, 108, 109] w w')
  refine xoCh82 (xqc82 hI : cp82 (wget w 82)) (fun f82_1 f82_3 f82_5 f82_7 f82_9 f82_11 f82_13 f82_15 f82_17 f82_19 f82_21 f82_22 f82_23 f82_25 f82_27 f82_29 h82_31 hb2 hb4 hb6 hb8 hb10 hb12 hb14 hb16 hb18 hb20 hb24 hb26 hb28 hb30 hb32 => ?_)
  refine xg_t (xg_blq rfl) ?_
  refine xg_t (xg_aload (va := (2, 82)) rfl rfl) ?_
  refine xg_cVv mX12_plans (vs := []) (rest := []) (cn1 := 0) (sl1 := 0) rfl (mPlans (hI)) rfl h82_31 rfl rfl rfl rfl rfl rfl (fun w33 hq34 => ?_)
  obtain ⟨hI35, hF36⟩ := hq34
  refine xg_t (xg_aload (va := (2, 82)) rfl rfl) ?_
  refine xoCh82 (xqc82 hI35 : cp82 (wget w33 82)) (fun f82_37 f82_39 f82_41 f82_43 f82_45 f82_47 f82_49 f82_51 f82_53 f82_55 f82_57 f82_58 f82_59 f82_61 f82_63 f82_65 h82_67 hb38 hb40 hb42 hb44 hb46 hb48 hb50 hb52 hb54 hb56 hb60 hb62 hb64 hb66 hb68 => ?_)
  refine xg_t (xg_getf (va := (0, f82_63)) h82_67 rfl) ?_
  have hn69 : f82_63 ≤ 100 := hb64
  exact xg_e ⟨f82_63, w33, ⟨rfl, rfl⟩, by omega, hI35, (hF36.up (by decide))⟩
theorem mPanel {kk wh : Nat} (hI : xMnv w) (hkk : kk ≤ 4294967295) (hwh : wh ≤ 4294967295) : xPi (d + 5) mX12_panel [(2, 82), (0, kk), (0, wh)] w bd fc rr (fun n w' => (n ≤ 4294967295) ∧ xMnv w' ∧ xFr [82, 106, 107, 108, 109] w w') := by
  refine xPi.of ?_
  show xTo (d + 5) mX12_panel (0, [], [(0, (2, 82)), (1, (0, kk)), (2, (0, wh))], [], (w, bd, fc, 0, 0, rr)) (fun φ => ∃ n w', xEnd 1 [(0, n)] (w', bd, fc, 0, 0, rr) φ ∧ (n ≤ 4294967295) ∧ xMnv w' ∧ xFr [82, 106, 107, 108, 109] w w')
  refine xoCh82 (xqc82 hI : cp82 (wget w 82)) (fun f82_1 f82_3 f82_5 f82_7 f82_9 f82_11 f82_13 f82_15 f82_17 f82_19 f82_21 f82_22 f82_23 f82_25 f82_27 f82_29 h82_31 hb2 hb4 hb6 hb8 hb10 hb12 hb14 hb16 hb18 hb20 hb24 hb26 hb28 hb30 hb32 => ?_)
  refine xg_t (xg_blq rfl) ?_
  refine xg_t (xg_iload (va := (0, wh)) rfl rfl) ?_
  refine xg_t (xg_const) ?_
  refine xg_t (xg_const) ?_
  refine xg_t (xg_cSr mX12_isIn (vs := [(0, wh), (0, 0), (0, 2)]) (rest := []) (rs := [(0, if 0 ≤ wh ∧ wh ≤ 2 then 1 else 0)]) (cn1 := 0) (sl1 := 0) rfl (mIsIn (by omega) (by omega) (by omega)) rfl rfl rfl rfl rfl rfl rfl rfl) ?_
  by_cases hc33 : 0 ≤ wh ∧ wh ≤ 2
  · refine xg_t (xg_ifT (u := (if 0 ≤ wh ∧ wh ≤ 2 then 1 else 0)) rfl xnm0 (xj_neT (xite1 hc33))) ?_
    refine xg_t (xg_blq rfl) ?_
    refine xg_t (xg_aload (va := (2, 82)) rfl rfl) ?_
    refine xg_cVv mX12_plans (vs := []) (rest := []) (cn1 := 0) (sl1 := 0) rfl (mPlans (hI)) rfl h82_31 rfl rfl rfl rfl rfl rfl (fun w34 hq35 => ?_)
    obtain ⟨hI36, hF37⟩ := hq35
    refine xg_t (xg_iload (va := (0, kk)) rfl rfl) ?_
    refine xg_t (xg_const) ?_
    refine xg_t (xg_aload (va := (2, 82)) rfl rfl) ?_
    refine xoCh82 (xqc82 hI36 : cp82 (wget w34 82)) (fun f82_38 f82_40 f82_42 f82_44 f82_46 f82_48 f82_50 f82_52 f82_54 f82_56 f82_58 f82_59 f82_60 f82_62 f82_64 f82_66 h82_68 hb39 hb41 hb43 hb45 hb47 hb49 hb51 hb53 hb55 hb57 hb61 hb63 hb65 hb67 hb69 => ?_)
    refine xg_t (xg_getf (va := (0, f82_64)) h82_68 rfl) ?_
    have hn70 : f82_64 ≤ 100 := hb65
    refine xg_t (xg_const) ?_
    by_cases hc71 : 1 ≤ f82_64
    · refine xg_t (xg_isub (u := f82_64) (v := 1) (z := f82_64 - 1) xnm0 xnm0 (by omega)) ?_
      refine xg_t (xg_cSr mX12_isIn (vs := [(0, kk), (0, 0), (0, f82_64 - 1)]) (rest := []) (rs := [(0, if 0 ≤ kk ∧ kk ≤ f82_64 - 1 then 1 else 0)]) (cn1 := 0) (sl1 := 0) rfl (mIsIn (by omega) (by omega) (by omega)) rfl rfl rfl rfl rfl rfl rfl rfl) ?_
      by_cases hc72 : 0 ≤ kk ∧ kk ≤ f82_64 - 1
      · refine xg_t (xg_ifF (u := (if 0 ≤ kk ∧ kk ≤ f82_64 - 1 then 1 else 0)) rfl xnm0 (xj_eqF (xite1 hc72))) ?_
        refine xg_t (xg_aload (va := (2, 82)) rfl rfl) ?_
        refine xg_t (xg_getf (va := (2, 109)) h82_68 rfl) ?_
        refine xg_t (xg_const) ?_
        refine xg_t (xg_iload (va := (0, kk)) rfl rfl) ?_
        refine xg_t (xg_imul (u := 3) (v := kk) (z := 3 * kk) xnm0 xnm0 (by omega)) ?_
        refine xg_t (xg_iload (va := (0, wh)) rfl rfl) ?_
        refine xg_t (xg_iadd (u := 3 * kk) (v := wh) (z := (3 * kk) + wh) xnm0 xnm0 (by omega)) ?_
        refine xoI (xqc109 hI36 : cpI 300 76 4294967295 (wget w34 109)) (fun g109_73 h109_74 hb75 => ?_)
        refine xg_ialdB (n := (3 * kk) + wh) (B := 4294967295) h109_74 (hb75) xnm0 (by omega) (fun u76 hu77 he78 => ?_)
        refine xg_t (xg_goto) ?_
        refine xg_t (xg_blq rfl) ?_
        exact xg_e ⟨u76, w34, ⟨rfl, rfl⟩, by omega, hI36, (hF37.up (by decide))⟩
      · refine xg_t (xg_ifT (u := (if 0 ≤ kk ∧ kk ≤ f82_64 - 1 then 1 else 0)) rfl xnm0 (xj_eqT (xite0 hc72))) ?_
        refine xg_t (xg_blq rfl) ?_
        refine xg_t (xg_const) ?_
        refine xg_t (xg_blq rfl) ?_
        exact xg_e ⟨4294967295, w34, ⟨rfl, rfl⟩, by first | decide | omega, hI36, (hF37.up (by decide))⟩
    · have hz81 : 4294967295 ≤ (f82_64 + (4294967296 - 1)) % 4294967296 := by omega
      refine xg_t (xg_isub (u := f82_64) (v := 1) (z := (f82_64 + (4294967296 - 1)) % 4294967296) xnm0 xnm0 rfl) ?_
      have hz80 : (f82_64 + (4294967296 - 1)) % 4294967296 < 4294967296 := Nat.mod_lt _ (by decide)
      generalize (f82_64 + (4294967296 - 1)) % 4294967296 = z79 at hz81 hz80 ⊢
      refine xg_t (xg_cSr mX12_isIn (vs := [(0, kk), (0, 0), (0, z79)]) (rest := []) (rs := [(0, 0)]) (cn1 := 0) (sl1 := 0) rfl (mIsInN (by omega) (by omega) (by omega) (by omega)) rfl rfl rfl rfl rfl rfl rfl rfl) ?_
      refine xg_t (xg_ifT (u := 0) rfl xnm0 (by decide)) ?_
      refine xg_t (xg_blq rfl) ?_
      refine xg_t (xg_const) ?_
      refine xg_t (xg_blq rfl) ?_
      exact xg_e ⟨4294967295, w34, ⟨rfl, rfl⟩, by first | decide | omega, hI36, (hF37.up (by decide))⟩
  · refine xg_t (xg_ifF (u := (if 0 ≤ wh ∧ wh ≤ 2 then 1 else 0)) rfl xnm0 (xj_neF (xite0 hc33))) ?_
    refine xg_t (xg_const) ?_
    exact xg_e ⟨4294967295, w, ⟨rfl, rfl⟩, by first | decide | omega, hI, xFr.rf⟩
theorem mInOrder (hI : xMnv w)  : xPq d mX12_inOrder [(2, 82)] w bd fc rr [] (fun w' => xMnv w' ∧ xFr [88] w w' ∧ (∃ f : Nat → Nat, xRow w' 88 6 55 f ∧ (∀ j, f j ≤ 5) ∧ ∀ j, j < 6 → f j = j)) := by
  refine xPq.of ?_
  show xTo d mX12_inOrder (0, [], [(0, (2, 82))], [], (w, bd, fc, 0, 0, rr)) (fun φ => ∃ w', xEnd 0 [] (w', bd, fc, 0, 0, rr) φ ∧ xMnv w' ∧ xFr [88] w w' ∧ (∃ f : Nat → Nat, xRow w' 88 6 55 f ∧ (∀ j, f j ≤ 5) ∧ ∀ j, j < 6 → f j = j))
  refine xoCh82 (xqc82 hI : cp82 (wget w 82)) (fun f82_1 f82_3 f82_5 f82_7 f82_9 f82_11 f82_13 f82_15 f82_17 f82_19 f82_21 f82_22 f82_23 f82_25 f82_27 f82_29 h82_31 hb2 hb4 hb6 hb8 hb10 hb12 hb14 hb16 hb18 hb20 hb24 hb26 hb28 hb30 hb32 => ?_)
  refine xg_t (xg_blq rfl) ?_
  refine xg_t (xg_const) ?_
  refine xg_t (xg_istore (l1 := [(0, (2, 82))]) rfl rfl rfl) ?_
  refine xg_t (xg_drop (l1 := [(0, (2, 82)), (1, (0, 0))]) (List.forall_mem_cons.mpr ⟨List.mem_cons_of_mem _ (List.mem_cons_self), List.forall_mem_cons.mpr ⟨List.mem_cons_self, fun _ h => absurd h List.not_mem_nil⟩⟩)) ?_
  refine xoI (xqc88 hI : cpI 6 55 5 (wget w 88)) (fun g88_39 h88_40 hb41 => ?_)
  have key33 : ∀ (m35 : Nat) (ki : Nat) (w36 : List (List xE)), 6 - ki < m35 → ki ≤ 6 → xMnv w36 → xFr [88] w w36 → (∃ f : Nat → Nat, xRow w36 88 6 55 f ∧ ∀ j, j < ki → f j = j) → xTo d mX12_inOrder (2, [], [(0, (2, 82)), (1, (0, ki))], [], (w36, bd, fc, 0, 0, rr)) (fun φ => ∃ w', xEnd 0 [] (w', bd, fc, 0, 0, rr) φ ∧ xMnv w' ∧ xFr [88] w w' ∧ (∃ f : Nat → Nat, xRow w' 88 6 55 f ∧ (∀ j, f j ≤ 5) ∧ ∀ j, j < 6 → f j = j)) := by
    intro m35
    induction m35 with
    | zero => intro ki w36 hz; exact absurd hz (Nat.not_lt_zero _)
    | succ m35 ih34 =>
      intro ki w36 hm44 hn42 hI37 hF38 he43
      obtain ⟨f45, hr46, hf47⟩ := he43
      refine xoI (xqc88 hI37 : cpI 6 55 5 (wget w36 88)) (fun g88_49 h88_50 hb51 => ?_)
      have hd48 : ∀ j, j < ki → g88_49 j = j := fun j hj => by rw [← xRow.det hr46 h88_50 j (by omega)]; exact hf47 j hj
      refine xg_t (xg_blq rfl) ?_
      refine xg_t (xg_iload (va := (0, ki)) rfl rfl) ?_
      refine xg_t (xg_bip) ?_
      by_cases hc52 : ki < 6
      · refine xg_t (xg_icF (u := ki) (v := 6) rfl xnm0 xnm0 (xj_geF hc52 (by omega))) ?_
        refine xg_t (xg_aload (va := (2, 82)) rfl rfl) ?_
        refine xg_t (xg_getf (va := (2, 88)) (hF38.get (by decide) h82_31) rfl) ?_
        refine xg_t (xg_iload (va := (0, ki)) rfl rfl) ?_
        refine xg_t (xg_iload (va := (0, ki)) rfl rfl) ?_
        refine xg_iastK (n := ki) (u := ki) h88_50 xnm0 xnm0 rfl (by omega) (fun w53 hr54 hb55 => ?_)
        refine xg_t (xg_iinc (u := ki) (z := ki + 1) (l1 := [(0, (2, 82))]) rfl rfl (by omega) rfl) ?_
        refine xg_t (xg_goto) ?_
        refine xg_t (xg_drop (l1 := [(0, (2, 82)), (1, (0, ki + 1))]) (List.forall_mem_cons.mpr ⟨List.mem_cons_of_mem _ (List.mem_cons_self), List.forall_mem_cons.mpr ⟨List.mem_cons_self, fun _ h => absurd h List.not_mem_nil⟩⟩)) ?_
        exact ih34 (ki + 1) w53 (by omega) (by omega) (xMnv.up (S := [88]) hI37 (xFr.of (S := [88]) hb55 (by decide)) (List.forall_mem_cons.mpr ⟨xqu88 (show cpI 6 55 5 (wget w53 88) from ⟨_, hr54, xrb (by omega) (hb51)⟩), fun _ h => absurd h List.not_mem_nil⟩)) ((hF38.tr (xFr.of (S := [88]) hb55 (by decide)))) (⟨_, hr54, fun j hj => by show (if j = ki then ki else g88_49 j) = j; split; omega; exact hd48 j (by omega)⟩)
      · refine xg_t (xg_icT (u := ki) (v := 6) rfl xnm0 xnm0 (xj_geT (by omega) (by omega))) ?_
        refine xg_t (xg_blq rfl) ?_
        exact xg_e ⟨w36, ⟨rfl, rfl⟩, hI37, hF38, ⟨_, h88_50, hb51, fun j hj => hd48 j (by omega)⟩⟩
  exact key33 _ 0 w (Nat.lt_succ_self _) (by omega) (hI) (xFr.rf) (⟨_, h88_40, fun j hj => absurd hj (Nat.not_lt_zero _)⟩)
theorem mLayerOf {o0 g0 : Nat → Nat} {pp wh : Nat} (hI : xMnv w) (hpp : pp ≤ 5) (hwh : wh ≤ 3) (hR88 : xRow w 88 6 55 o0) (hob : ∀ j, o0 j ≤ 5) (hR83 : xRow w 83 5360 50 g0) (hgb : ∀ j, g0 j ≤ 4294967295) (hok : okA g0) : xPi d mX12_layerOf [(2, 82), (0, pp), (0, wh)] w bd fc rr (fun n w' => (n ≤ 4294967295 ∧ (wh < 3 → o0 pp < g0 0 → 1 ≤ n ∧ n ≤ 99)) ∧ xMnv w' ∧ xFr [] w w') := by
  refine xPi.of ?_
  show xTo d mX12_layerOf (0, [], [(0, (2, 82)), (1, (0, pp)), (2, (0, wh))], [], (w, bd, fc, 0, 0, rr)) (fun φ => ∃ n w', xEnd 1 [(0, n)] (w', bd, fc, 0, 0, rr) φ ∧ (n ≤ 4294967295 ∧ (wh < 3 → o0 pp < g0 0 → 1 ≤ n ∧ n ≤ 99)) ∧ xMnv w' ∧ xFr [] w w')
  refine xoCh82 (xqc82 hI : cp82 (wget w 82)) (fun f82_1 f82_3 f82_5 f82_7 f82_9 f82_11 f82_13 f82_15 f82_17 f82_19 f82_21 f82_22 f82_23 f82_25 f82_27 f82_29 h82_31 hb2 hb4 hb6 hb8 hb10 hb12 hb14 hb16 hb18 hb20 hb24 hb26 hb28 hb30 hb32 => ?_)
  refine xg_t (xg_blq rfl) ?_
  refine xg_t (xg_aload (va := (2, 82)) rfl rfl) ?_
  refine xg_t (xg_getf (va := (2, 83)) h82_31 rfl) ?_
  refine xg_t (xg_bip) ?_
  refine xg_t (xg_const) ?_
  refine xg_t (xg_aload (va := (2, 82)) rfl rfl) ?_
  refine xg_t (xg_getf (va := (2, 88)) h82_31 rfl) ?_
  refine xg_t (xg_iload (va := (0, pp)) rfl rfl) ?_
  refine xg_ialdB (n := pp) (B := 5) hR88 (hob) xnm0 (by omega) (fun u33 hu34 he35 => ?_)
  refine xg_t (xg_imul (u := 4) (v := u33) (z := 4 * u33) xnm0 xnm0 (by omega)) ?_
  refine xg_t (xg_iadd (u := 20) (v := 4 * u33) (z := 20 + (4 * u33)) xnm0 xnm0 (by omega)) ?_
  refine xg_t (xg_iload (va := (0, wh)) rfl rfl) ?_
  refine xg_t (xg_iadd (u := 20 + (4 * u33)) (v := wh) (z := (20 + (4 * u33)) + wh) xnm0 xnm0 (by omega)) ?_
  refine xg_ialdB (n := (20 + (4 * u33)) + wh) (B := 4294967295) hR83 (hgb) xnm0 (by omega) (fun u36 hu37 he38 => ?_)
  exact xg_e ⟨u36, w, ⟨rfl, rfl⟩, ⟨by omega, fun h1 h2 => by rw [he35] at h2; rw [← he38]; exact hok.lay h2 h1⟩, hI, xFr.rf⟩
theorem mSize0 {vv : Nat} (hI : xMnv w)  : xPj d mX12_size0 [(4, vv)] w bd fc rr (fun n w' => (n = n) ∧ xMnv w' ∧ xFr [] w w') := by
  refine xPj.of ?_
  show xTo d mX12_size0 (0, [], [(0, (4, vv))], [], (w, bd, fc, 0, 0, rr)) (fun φ => ∃ n w', xEnd 2 [(4, n)] (w', bd, fc, 0, 0, rr) φ ∧ (n = n) ∧ xMnv w' ∧ xFr [] w w')
  refine xg_t (xg_blq rfl) ?_
  refine xg_t (xg_lload (u := vv) rfl) ?_
  refine xg_t (xg_lconst) ?_
  refine xg_k (xg_lcmp (u := vv) (v := 0)) (xpt_lt _) (fun z1 hz2 => ?_)
  by_cases hc3 : z1 < 2147483648
  · refine xg_t (xg_ifT (u := z1) rfl xnm0 (xjz_geT hc3)) ?_
    refine xg_t (xg_blq rfl) ?_
    refine xg_t (xg_lload (u := vv) rfl) ?_
    refine xg_t (xg_blq rfl) ?_
    exact xg_e ⟨vv, w, ⟨rfl, rfl⟩, by omega, hI, xFr.rf⟩
  · refine xg_t (xg_ifF (u := z1) rfl xnm0 (xjz_geF (by omega) (by omega))) ?_
    refine xg_t (xg_lload (u := vv) rfl) ?_
    refine xg_kl (xg_lneg (u := vv)) (fun l4 => ?_)
    refine xg_t (xg_goto) ?_
    refine xg_t (xg_blq rfl) ?_
    exact xg_e ⟨l4, w, ⟨rfl, rfl⟩, by omega, hI, xFr.rf⟩
end XM6
end
