/-! the model: what tires; orders -/
theorem pw_le {k : Nat} (h : k ≤ 4) : 1000 ^ k ≤ 1000000000000 := by
  have q : ∀ k, k ≤ 4 → 1000 ^ k ≤ 1000000000000 := by decide
  exact q k h
theorem pw_step {a b k : Nat} (h : a ≤ 1000 ^ k) (hb : b ≤ 999) (h1 : 1 ≤ a) (h2 : 1 ≤ b) : 1 ≤ a * b ∧ a * b ≤ 1000 ^ (k + 1) := by
  refine ⟨Nat.mul_le_mul h1 h2, ?_⟩
  rw [Nat.pow_succ]
  exact Nat.mul_le_mul h (by omega)
/-- orders: the first n are each other's places -/
def PERM (o : Nat → Nat) (n : Nat) : Prop := (∀ q, q < n → o q < n) ∧ ∀ p q, p < n → q < n → o p = o q → p = q
theorem PERM.swap {o o' : Nat → Nat} {n a b : Nat} (h : PERM o n) (ha : a < n) (hb : b < n) (e1 : o' a = o b) (e2 : o' b = o a) (e3 : ∀ j, j ≠ a → j ≠ b → o' j = o j) : PERM o' n := by
  obtain ⟨h1, h2⟩ := h
  have key : ∀ q, q < n → ∃ r, r < n ∧ o' q = o r ∧ ((q = a ∧ r = b) ∨ (q = b ∧ r = a) ∨ (q ≠ a ∧ q ≠ b ∧ r = q)) := by
    intro q hq
    by_cases z : q = a
    · exact ⟨b, hb, by rw [z]; exact e1, Or.inl ⟨z, rfl⟩⟩
    · by_cases y : q = b
      · exact ⟨a, ha, by rw [y]; exact e2, Or.inr (Or.inl ⟨y, rfl⟩)⟩
      · exact ⟨q, hq, e3 q z y, Or.inr (Or.inr ⟨z, y, rfl⟩)⟩
  refine ⟨fun q hq => ?_, fun p q hp hq e => ?_⟩
  · obtain ⟨r, hr, e, -⟩ := key q hq
    rw [e]; exact h1 r hr
  · obtain ⟨r, hr, er, cr⟩ := key p hp
    obtain ⟨t, ht, et, ct⟩ := key q hq
    have := h2 r t hr ht (by rw [← er, ← et]; exact e)
    omega
theorem PERM.id {o : Nat → Nat} {n : Nat} (h : ∀ j, j < 6 → o j = j) (hn : n ≤ 6) : PERM o n := ⟨fun q hq => by rw [h q (by omega)]; exact hq, fun p q hp hq e => by rw [h p (by omega), h q (by omega)] at e; exact e⟩
noncomputable def LX (w : List (List xE)) : Nat := ((((rwv w 88 0 * 6 + rwv w 88 1) * 6 + rwv w 88 2) * 6 + rwv w 88 3) * 6 + rwv w 88 4) * 6 + rwv w 88 5
theorem LX_of {w : List (List xE)} {o : Nat → Nat} (h : xRow w 88 6 55 o) : LX w = ((((o 0 * 6 + o 1) * 6 + o 2) * 6 + o 3) * 6 + o 4) * 6 + o 5 := by
  unfold LX
  rw [rwv_of h (by decide), rwv_of h (by decide), rwv_of h (by decide), rwv_of h (by decide), rwv_of h (by decide), rwv_of h (by decide)]
theorem LX_fr {S : List Nat} {w w' : List (List xE)} (h : xFr S w w') (hc : 88 ∉ S) : LX w' = LX w := by
  unfold LX rwv
  rw [h.1 88 hc]
theorem LX_le {w : List (List xE)} {o : Nat → Nat} (h : xRow w 88 6 55 o) (hb : ∀ j, o j ≤ 5) : LX w ≤ 46655 := by
  rw [LX_of h]
  have := hb 0
  have := hb 1
  have := hb 2
  have := hb 3
  have := hb 4
  have := hb 5
  omega
theorem LX_lt {w w' : List (List xE)} {o o' : Nat → Nat} {i : Nat} (h : xRow w 88 6 55 o) (h' : xRow w' 88 6 55 o') (hb : ∀ j, o j ≤ 5) (hi : i < 6) (hp : ∀ q, q < i → o' q = o q) (hl : o i < o' i) : LX w < LX w' := by
  rw [LX_of h, LX_of h']
  have b0 := hb 0
  have b1 := hb 1
  have b2 := hb 2
  have b3 := hb 3
  have b4 := hb 4
  have b5 := hb 5
  rcases (show i = 0 ∨ i = 1 ∨ i = 2 ∨ i = 3 ∨ i = 4 ∨ i = 5 by omega) with rfl | rfl | rfl | rfl | rfl | rfl
  · omega
  · have := hp 0 (by decide)
    omega
  · have := hp 0 (by decide)
    have := hp 1 (by decide)
    omega
  · have := hp 0 (by decide)
    have := hp 1 (by decide)
    have := hp 2 (by decide)
    omega
  · have := hp 0 (by decide)
    have := hp 1 (by decide)
    have := hp 2 (by decide)
    have := hp 3 (by decide)
    omega
  · have := hp 0 (by decide)
    have := hp 1 (by decide)
    have := hp 2 (by decide)
    have := hp 3 (by decide)
    have := hp 4 (by decide)
    omega
section XM8
variable {d : Nat} {w : List (List xE)} {bd : List (Nat × Nat)} {fc : List (Nat × Nat × Bool)} {rr : Nat × Nat}
theorem mLifeOf {g0 : Nat → Nat} {la ro : Nat} (hI : xMnv w) (hla : la ≤ 5) (hro : ro ≤ 4294967295) (hR83 : xRow w 83 5360 50 g0) (hgb : ∀ j, g0 j ≤ 4294967295) (hok : okA g0) : xPi (d + 1) mX12_lifeOf [(2, 82), (0, la), (0, ro)] w bd fc rr (fun n w' => (n = 4294967295 ∨ n < g0 1) ∧ xMnv w' ∧ xFr [] w w') := by
  refine xPi.of ?_
  show xTo (d + 1) mX12_lifeOf (0, [], [(0, (2, 82)), (1, (0, la)), (2, (0, ro))], [], (w, bd, fc, 0, 0, rr)) (fun φ => ∃ n w', xEnd 1 [(0, n)] (w', bd, fc, 0, 0, rr) φ ∧ (n = 4294967295 ∨ n < g0 1) ∧ xMnv w' ∧ xFr [] w w')
  obtain ⟨f82_1, f82_3, f82_5, f82_7, f82_9, f82_11, f82_13, f82_15, f82_17, f82_19, f82_21, f82_22, f82_23, f82_25, f82_27, f82_29, h82_31, hb2, hb4, hb6, hb8, hb10, hb12, hb14, hb16, hb18, hb20, hb24, hb26, hb28, hb30, hb32⟩ := (hI 82 (by decide) (by decide) : cp82 (wget w 82))
  replace hb4 := xHid.of hb4
  replace hb10 := xHid.of hb10
  replace hb14 := xHid.of hb14
  replace hb16 := xHid.of hb16
  replace hb20 := xHid.of hb20
  replace hb24 := xHid.of hb24
  replace hb26 := xHid.of hb26
  replace hb28 := xHid.of hb28
  replace hb30 := xHid.of hb30
  have hl1 := hok.l1
  refine xg_t (xg_blk (b := [(0, 1, 3, 4294967295, 0, 0), (1, 1, 15, 3, 0, 0), (2, 1, 3, 0, 0, 0), (3, 2, 15, 4, 0, 0)]) rfl) ?_
  refine xg_t (xg_const) ?_
  refine xg_t (xg_istore (l1 := [(0, (2, 82)), (1, (0, la)), (2, (0, ro))]) rfl rfl rfl) ?_
  refine xg_t (xg_const) ?_
  refine xg_t (xg_istore (l1 := [(3, (0, 4294967295)), (0, (2, 82)), (1, (0, la)), (2, (0, ro))]) rfl rfl rfl) ?_
  refine xg_t (xg_drop (l1 := [(0, (2, 82)), (1, (0, la)), (2, (0, ro)), (3, (0, 4294967295)), (4, (0, 0))]) (List.forall_mem_cons.mpr ⟨List.mem_cons_of_mem _ (List.mem_cons_of_mem _ (List.mem_cons_self)), List.forall_mem_cons.mpr ⟨List.mem_cons_of_mem _ (List.mem_cons_of_mem _ (List.mem_cons_of_mem _ (List.mem_cons_self))), List.forall_mem_cons.mpr ⟨List.mem_cons_of_mem _ (List.mem_cons_of_mem _ (List.mem_cons_of_mem _ (List.mem_cons_of_mem _ (List.mem_cons_self)))), List.forall_mem_cons.mpr ⟨List.mem_cons_of_mem _ (List.mem_cons_self), List.forall_mem_cons.mpr ⟨List.mem_cons_self, fun _ h => absurd h List.not_mem_nil⟩⟩⟩⟩⟩)) ?_
  have key33 : ∀ (m35 : Nat) (bp ki : Nat) (w36 : List (List xE)), 4 - ki < m35 → bp ≤ 4294967295 → ki ≤ 4 → xMnv w36 → xFr [] w w36 → (bp = 4294967295 ∨ bp < g0 1) → xTo (d + 1) mX12_lifeOf (5, [], [(0, (2, 82)), (1, (0, la)), (2, (0, ro)), (3, (0, bp)), (4, (0, ki))], [], (w36, bd, fc, 0, 0, rr)) (fun φ => ∃ n w', xEnd 1 [(0, n)] (w', bd, fc, 0, 0, rr) φ ∧ (n = 4294967295 ∨ n < g0 1) ∧ xMnv w' ∧ xFr [] w w') := by
    intro m35
    induction m35 with
    | zero => intro bp ki w36 hz; exact absurd hz (Nat.not_lt_zero _)
    | succ m35 ih34 =>
      intro bp ki w36 hm42 hn39 hn40 hI37 hF38 he41
      refine xg_t (xg_blk (b := [(5, 2, 2, 4, 0, 0), (7, 1, 0, 0, 0, 0), (8, 3, 1, 12, 0, 7), (11, 1, 3, 1, 0, 0), (12, 1, 10, 0, 0, 0), (13, 3, 6, 92, 3, 0), (16, 1, 0, 0, 0, 0), (17, 3, 1, 12, 0, 7), (20, 2, 4, 50, 0, 0), (22, 1, 3, 2, 0, 0), (23, 2, 2, 4, 0, 0), (25, 1, 16, 0, 0, 0), (26, 1, 11, 0, 0, 0), (27, 1, 10, 0, 0, 0), (28, 2, 15, 5, 0, 0), (30, 3, 52, 1000, 0, 231), (33, 1, 0, 0, 0, 0), (34, 3, 1, 12, 21, 45), (37, 1, 2, 1, 0, 0), (38, 1, 64, 0, 0, 0), (39, 3, 13, 221, 98, 227), (42, 1, 55, 0, 0, 0), (43, 2, 2, 5, 0, 0), (45, 1, 49, 0, 0, 0), (46, 1, 2, 2, 0, 0), (47, 1, 49, 0, 0, 0), (48, 1, 55, 0, 0, 0), (49, 1, 0, 0, 0, 0), (50, 3, 1, 12, 20, 42), (53, 1, 2, 1, 0, 0), (54, 1, 64, 0, 0, 0), (55, 1, 55, 0, 0, 0), (56, 1, 57, 0, 0, 0), (57, 3, 7, 63, 3, 0), (60, 3, 8, 86, 0, 0)]) rfl) ?_
      refine xg_t (xg_iload (va := (0, ki)) rfl rfl) ?_
      refine xg_t (xg_aload (va := (2, 82)) rfl rfl) ?_
      refine xg_t (xg_getf (va := (2, 83)) (hF38.get (by decide) h82_31) rfl) ?_
      refine xg_t (xg_const) ?_
      refine xg_ialdB (n := 1) (B := 4294967295) (hR83.fr hF38 (by decide)) (hgb) xnm0 (by omega) (fun u43 hu44 he45 => ?_)
      have hl46 : u43 ≤ 4 := by rw [← he45]; exact hok.l1
      by_cases hc47 : ki < u43
      · refine xg_t (xg_icF (u := ki) (v := u43) rfl xnm0 xnm0 (xj_geF hc47 (by omega))) ?_
        refine xg_t (xg_aload (va := (2, 82)) rfl rfl) ?_
        refine xg_t (xg_getf (va := (2, 83)) (hF38.get (by decide) h82_31) rfl) ?_
        refine xg_t (xg_bip) ?_
        refine xg_t (xg_const) ?_
        refine xg_t (xg_iload (va := (0, ki)) rfl rfl) ?_
        refine xg_t (xg_imul (u := 2) (v := ki) (z := 2 * ki) xnm0 xnm0 (by omega)) ?_
        refine xg_t (xg_iadd (u := 50) (v := 2 * ki) (z := 50 + (2 * ki)) xnm0 xnm0 (by omega)) ?_
        refine xg_ialdB (n := 50 + (2 * ki)) (B := 4294967295) (hR83.fr hF38 (by decide)) (hgb) xnm0 (by omega) (fun u48 hu49 he50 => ?_)
        refine xg_t (xg_istore (l1 := [(0, (2, 82)), (1, (0, la)), (2, (0, ro)), (3, (0, bp)), (4, (0, ki))]) rfl rfl rfl) ?_
        refine xg_t (xg_ldc2) ?_
        refine xg_t (xg_aload (va := (2, 82)) rfl rfl) ?_
        refine xg_t (xg_getf (va := (2, 94)) (hF38.get (by decide) h82_31) rfl) ?_
        refine xg_t (xg_iload (va := (0, la)) rfl rfl) ?_
        obtain ⟨g94_51, h94_52⟩ := (hI37 94 (by decide) (by decide) : cpJ 6 61 (wget w36 94))
        have h94_52 : xRk 3 4 w36 94 6 61 g94_51 := h94_52
        refine xg_kl (xg_lald (n := la) h94_52 xnm0 (by omega) rfl) (fun l54 => ?_)
        refine xg_cSj mX12_size0 (vs := [(4, l54)]) (rest := [(4, 1000)]) (cn1 := 0) (sl1 := 0) rfl (mSize0 (hI37)) rfl rfl rfl rfl rfl rfl rfl (fun l59 w55 hq56 => ?_)
        obtain ⟨hn60, hI57, hF58⟩ := hq56
        refine xg_kl (xg_lmul (u := 1000) (v := l59)) (fun l61 => ?_)
        refine xg_t (xg_iload (va := (0, u48)) rfl rfl) ?_
        refine xg_kl (xg_i2l (u := u48) xnm0) (fun l62 => ?_)
        refine xg_t (xg_iload (va := (0, ro)) rfl rfl) ?_
        refine xg_kl (xg_i2l (u := ro) xnm0) (fun l63 => ?_)
        refine xg_kl (xg_lmul (u := l62) (v := l63)) (fun l64 => ?_)
        refine xg_t (xg_aload (va := (2, 82)) rfl rfl) ?_
        refine xg_t (xg_getf (va := (2, 93)) (hF58.get (by decide) (hF38.get (by decide) h82_31)) rfl) ?_
        refine xg_t (xg_iload (va := (0, la)) rfl rfl) ?_
        obtain ⟨g93_65, h93_66⟩ := (hI57 93 (by decide) (by decide) : cpJ 6 60 (wget w55 93))
        have h93_66 : xRk 3 4 w55 93 6 60 g93_65 := h93_66
        refine xg_kl (xg_lald (n := la) h93_66 xnm0 (by omega) rfl) (fun l68 => ?_)
        refine xg_kl (xg_lmul (u := l64) (v := l68)) (fun l69 => ?_)
        refine xg_k (xg_lcmp (u := l61) (v := l69)) (xpt_lt _) (fun z70 hz71 => ?_)
        by_cases hc72 : z70 < 2147483648
        · refine xg_t (xg_ifT (u := z70) rfl xnm0 (xjz_geT hc72)) ?_
          refine xg_t (xg_blk (b := [(63, 1, 2, 3, 0, 0), (64, 3, 7, 83, 2, 0), (67, 2, 2, 5, 0, 0), (69, 1, 0, 0, 0, 0), (70, 3, 1, 12, 0, 7), (73, 2, 4, 50, 0, 0), (75, 1, 3, 2, 0, 0), (76, 1, 2, 3, 0, 0), (77, 1, 16, 0, 0, 0), (78, 1, 11, 0, 0, 0), (79, 1, 10, 0, 0, 0), (80, 3, 6, 86, 5, 0)]) rfl) ?_
          refine xg_t (xg_iload (va := (0, bp)) rfl rfl) ?_
          by_cases hc73 : bp < 2147483648
          · have hn74 : bp ≤ 3 := by omega
            refine xg_t (xg_ifF (u := bp) rfl xnm0 (xjz_ltF hc73)) ?_
            refine xg_t (xg_iload (va := (0, u48)) rfl rfl) ?_
            refine xg_t (xg_aload (va := (2, 82)) rfl rfl) ?_
            refine xg_t (xg_getf (va := (2, 83)) (hF58.get (by decide) (hF38.get (by decide) h82_31)) rfl) ?_
            refine xg_t (xg_bip) ?_
            refine xg_t (xg_const) ?_
            refine xg_t (xg_iload (va := (0, bp)) rfl rfl) ?_
            refine xg_t (xg_imul (u := 2) (v := bp) (z := 2 * bp) xnm0 xnm0 (by omega)) ?_
            refine xg_t (xg_iadd (u := 50) (v := 2 * bp) (z := 50 + (2 * bp)) xnm0 xnm0 (by omega)) ?_
            refine xg_ialdB (n := 50 + (2 * bp)) (B := 4294967295) ((hR83.fr hF38 (by decide)).fr hF58 (by decide)) (hgb) xnm0 (by omega) (fun u75 hu76 he77 => ?_)
            by_cases hc78 : xbs u75 < xbs u48
            · have hc78u := hc78
              unfold xbs at hc78u
              refine xg_t (xg_icF (u := u48) (v := u75) rfl xnm0 xnm0 (xjs_leF hc78)) ?_
              refine xg_t (xg_blk (b := [(83, 2, 2, 4, 0, 0), (85, 1, 15, 3, 0, 0)]) rfl) ?_
              refine xg_t (xg_iload (va := (0, ki)) rfl rfl) ?_
              refine xg_t (xg_istore (l1 := [(5, (0, u48)), (0, (2, 82)), (1, (0, la)), (2, (0, ro)), (4, (0, ki))]) rfl rfl rfl) ?_
              refine xg_t (xg_blk (b := [(86, 3, 9, 4, 1, 0), (89, 3, 8, 5, 0, 0)]) rfl) ?_
              refine xg_t (xg_iinc (u := ki) (z := ki + 1) (l1 := [(3, (0, ki)), (5, (0, u48)), (0, (2, 82)), (1, (0, la)), (2, (0, ro))]) rfl rfl (by omega) rfl) ?_
              refine xg_t (xg_goto) ?_
              refine xg_t (xg_drop (l1 := [(0, (2, 82)), (1, (0, la)), (2, (0, ro)), (3, (0, ki)), (4, (0, ki + 1))]) (List.forall_mem_cons.mpr ⟨List.mem_cons_of_mem _ (List.mem_cons_of_mem _ (List.mem_cons_of_mem _ (List.mem_cons_self))), List.forall_mem_cons.mpr ⟨List.mem_cons_of_mem _ (List.mem_cons_of_mem _ (List.mem_cons_of_mem _ (List.mem_cons_of_mem _ (List.mem_cons_self)))), List.forall_mem_cons.mpr ⟨List.mem_cons_of_mem _ (List.mem_cons_of_mem _ (List.mem_cons_of_mem _ (List.mem_cons_of_mem _ (List.mem_cons_of_mem _ (List.mem_cons_self))))), List.forall_mem_cons.mpr ⟨List.mem_cons_of_mem _ (List.mem_cons_self), List.forall_mem_cons.mpr ⟨List.mem_cons_self, fun _ h => absurd h List.not_mem_nil⟩⟩⟩⟩⟩)) ?_
              exact ih34 ki (ki + 1) w55 (by omega) (by omega) (by omega) (hI57) ((hF38.tr (hF58.up (by decide)))) (by omega)
            · have hc78u := hc78
              unfold xbs at hc78u
              refine xg_t (xg_icT (u := u48) (v := u75) rfl xnm0 xnm0 (xjs_leT hc78)) ?_
              refine xg_t (xg_blk (b := [(86, 3, 9, 4, 1, 0), (89, 3, 8, 5, 0, 0)]) rfl) ?_
              refine xg_t (xg_iinc (u := ki) (z := ki + 1) (l1 := [(5, (0, u48)), (0, (2, 82)), (1, (0, la)), (2, (0, ro)), (3, (0, bp))]) rfl rfl (by omega) rfl) ?_
              refine xg_t (xg_goto) ?_
              refine xg_t (xg_drop (l1 := [(0, (2, 82)), (1, (0, la)), (2, (0, ro)), (3, (0, bp)), (4, (0, ki + 1))]) (List.forall_mem_cons.mpr ⟨List.mem_cons_of_mem _ (List.mem_cons_of_mem _ (List.mem_cons_self)), List.forall_mem_cons.mpr ⟨List.mem_cons_of_mem _ (List.mem_cons_of_mem _ (List.mem_cons_of_mem _ (List.mem_cons_self))), List.forall_mem_cons.mpr ⟨List.mem_cons_of_mem _ (List.mem_cons_of_mem _ (List.mem_cons_of_mem _ (List.mem_cons_of_mem _ (List.mem_cons_self)))), List.forall_mem_cons.mpr ⟨List.mem_cons_of_mem _ (List.mem_cons_of_mem _ (List.mem_cons_of_mem _ (List.mem_cons_of_mem _ (List.mem_cons_of_mem _ (List.mem_cons_self))))), List.forall_mem_cons.mpr ⟨List.mem_cons_self, fun _ h => absurd h List.not_mem_nil⟩⟩⟩⟩⟩)) ?_
              exact ih34 bp (ki + 1) w55 (by omega) (by omega) (by omega) (hI57) ((hF38.tr (hF58.up (by decide)))) (by omega)
          · refine xg_t (xg_ifT (u := bp) rfl xnm0 (xjz_ltT (by omega) (by omega))) ?_
            refine xg_t (xg_blk (b := [(83, 2, 2, 4, 0, 0), (85, 1, 15, 3, 0, 0)]) rfl) ?_
            refine xg_t (xg_iload (va := (0, ki)) rfl rfl) ?_
            refine xg_t (xg_istore (l1 := [(5, (0, u48)), (0, (2, 82)), (1, (0, la)), (2, (0, ro)), (4, (0, ki))]) rfl rfl rfl) ?_
            refine xg_t (xg_blk (b := [(86, 3, 9, 4, 1, 0), (89, 3, 8, 5, 0, 0)]) rfl) ?_
            refine xg_t (xg_iinc (u := ki) (z := ki + 1) (l1 := [(3, (0, ki)), (5, (0, u48)), (0, (2, 82)), (1, (0, la)), (2, (0, ro))]) rfl rfl (by omega) rfl) ?_
            refine xg_t (xg_goto) ?_
            refine xg_t (xg_drop (l1 := [(0, (2, 82)), (1, (0, la)), (2, (0, ro)), (3, (0, ki)), (4, (0, ki + 1))]) (List.forall_mem_cons.mpr ⟨List.mem_cons_of_mem _ (List.mem_cons_of_mem _ (List.mem_cons_of_mem _ (List.mem_cons_self))), List.forall_mem_cons.mpr ⟨List.mem_cons_of_mem _ (List.mem_cons_of_mem _ (List.mem_cons_of_mem _ (List.mem_cons_of_mem _ (List.mem_cons_self)))), List.forall_mem_cons.mpr ⟨List.mem_cons_of_mem _ (List.mem_cons_of_mem _ (List.mem_cons_of_mem _ (List.mem_cons_of_mem _ (List.mem_cons_of_mem _ (List.mem_cons_self))))), List.forall_mem_cons.mpr ⟨List.mem_cons_of_mem _ (List.mem_cons_self), List.forall_mem_cons.mpr ⟨List.mem_cons_self, fun _ h => absurd h List.not_mem_nil⟩⟩⟩⟩⟩)) ?_
            exact ih34 ki (ki + 1) w55 (by omega) (by omega) (by omega) (hI57) ((hF38.tr (hF58.up (by decide)))) (by omega)
        · refine xg_t (xg_ifF (u := z70) rfl xnm0 (xjz_geF (by omega) (by omega))) ?_
          refine xg_t (xg_goto) ?_
          refine xg_t (xg_blk (b := [(86, 3, 9, 4, 1, 0), (89, 3, 8, 5, 0, 0)]) rfl) ?_
          refine xg_t (xg_iinc (u := ki) (z := ki + 1) (l1 := [(5, (0, u48)), (0, (2, 82)), (1, (0, la)), (2, (0, ro)), (3, (0, bp))]) rfl rfl (by omega) rfl) ?_
          refine xg_t (xg_goto) ?_
          refine xg_t (xg_drop (l1 := [(0, (2, 82)), (1, (0, la)), (2, (0, ro)), (3, (0, bp)), (4, (0, ki + 1))]) (List.forall_mem_cons.mpr ⟨List.mem_cons_of_mem _ (List.mem_cons_of_mem _ (List.mem_cons_self)), List.forall_mem_cons.mpr ⟨List.mem_cons_of_mem _ (List.mem_cons_of_mem _ (List.mem_cons_of_mem _ (List.mem_cons_self))), List.forall_mem_cons.mpr ⟨List.mem_cons_of_mem _ (List.mem_cons_of_mem _ (List.mem_cons_of_mem _ (List.mem_cons_of_mem _ (List.mem_cons_self)))), List.forall_mem_cons.mpr ⟨List.mem_cons_of_mem _ (List.mem_cons_of_mem _ (List.mem_cons_of_mem _ (List.mem_cons_of_mem _ (List.mem_cons_of_mem _ (List.mem_cons_self))))), List.forall_mem_cons.mpr ⟨List.mem_cons_self, fun _ h => absurd h List.not_mem_nil⟩⟩⟩⟩⟩)) ?_
          exact ih34 bp (ki + 1) w55 (by omega) (by omega) (by omega) (hI57) ((hF38.tr (hF58.up (by decide)))) (by omega)
      · refine xg_t (xg_icT (u := ki) (v := u43) rfl xnm0 xnm0 (xj_geT (by omega) (by omega))) ?_
        refine xg_t (xg_blk (b := [(92, 1, 2, 3, 0, 0), (93, 1, 12, 0, 1, 0)]) rfl) ?_
        refine xg_t (xg_iload (va := (0, bp)) rfl rfl) ?_
        exact xg_e ⟨bp, w36, ⟨rfl, rfl⟩, by omega, hI37, hF38⟩
  exact key33 _ 4294967295 0 w (Nat.lt_succ_self _) (by omega) (by omega) (hI) (xFr.rf) (by omega)
theorem mTires {g0 : Nat → Nat} {la nn : Nat} (hI : xMnv w) (hla : la ≤ 5) (hnn : nn ≤ 6) (hR83 : xRow w 83 5360 50 g0) (hgb : ∀ j, g0 j ≤ 4294967295) (hok : okA g0) : xPq (d + 2) mX12_tires [(2, 82), (0, la), (0, nn)] w bd fc rr [] (fun w' => xMnv w' ∧ xFr [82] w w' ∧ (1 ≤ fld w' 82 23 ∧ fld w' 82 23 ≤ 1000000000000)) := by
  refine xPq.of ?_
  show xTo (d + 2) mX12_tires (0, [], [(0, (2, 82)), (1, (0, la)), (2, (0, nn))], [], (w, bd, fc, 0, 0, rr)) (fun φ => ∃ w', xEnd 0 [] (w', bd, fc, 0, 0, rr) φ ∧ xMnv w' ∧ xFr [82] w w' ∧ (1 ≤ fld w' 82 23 ∧ fld w' 82 23 ≤ 1000000000000))
  obtain ⟨f82_1, f82_3, f82_5, f82_7, f82_9, f82_11, f82_13, f82_15, f82_17, f82_19, f82_21, f82_22, f82_23, f82_25, f82_27, f82_29, h82_31, hb2, hb4, hb6, hb8, hb10, hb12, hb14, hb16, hb18, hb20, hb24, hb26, hb28, hb30, hb32⟩ := (hI 82 (by decide) (by decide) : cp82 (wget w 82))
  replace hb4 := xHid.of hb4
  replace hb10 := xHid.of hb10
  replace hb14 := xHid.of hb14
  replace hb16 := xHid.of hb16
  replace hb20 := xHid.of hb20
  replace hb24 := xHid.of hb24
  replace hb26 := xHid.of hb26
  replace hb28 := xHid.of hb28
  replace hb30 := xHid.of hb30
  have hl1 := hok.l1
  refine xg_t (xg_blk (b := [(0, 1, 0, 0, 0, 0), (1, 1, 51, 1, 0, 0), (2, 3, 71, 12, 23, 263), (5, 1, 0, 0, 0, 0), (6, 1, 51, 0, 0, 0), (7, 3, 71, 12, 22, 267), (10, 1, 3, 0, 0, 0), (11, 1, 15, 3, 0, 0)]) rfl) ?_
  refine xg_t (xg_aload (va := (2, 82)) rfl rfl) ?_
  refine xg_t (xg_lconst) ?_
  refine xg_putJ (fl1 := [(2, 83), (2, 84), (0, f82_1), (0, f82_3), (0, f82_5), (0, f82_7), (0, f82_9), (0, f82_11), (0, f82_13), (0, f82_15), (0, f82_17), (2, 85), (2, 86), (2, 87), (0, f82_19), (2, 88), (2, 89), (2, 90), (2, 91), (2, 92), (2, 93), (2, 94), (4, f82_21), (4, 1), (0, f82_23), (2, 95), (2, 96), (2, 97), (2, 98), (2, 99), (2, 100), (2, 101), (2, 102), (0, f82_25), (2, 103), (2, 104), (2, 105), (2, 106), (2, 107), (2, 108), (2, 109), (0, f82_27), (0, f82_29), (2, 110), (2, 111), (2, 112), (2, 113)]) h82_31 rfl rfl (fun w33 hk34 hb35 => ?_)
  refine xg_t (xg_aload (va := (2, 82)) rfl rfl) ?_
  refine xg_t (xg_lconst) ?_
  refine xg_putJ (fl1 := [(2, 83), (2, 84), (0, f82_1), (0, f82_3), (0, f82_5), (0, f82_7), (0, f82_9), (0, f82_11), (0, f82_13), (0, f82_15), (0, f82_17), (2, 85), (2, 86), (2, 87), (0, f82_19), (2, 88), (2, 89), (2, 90), (2, 91), (2, 92), (2, 93), (2, 94), (4, 0), (4, 1), (0, f82_23), (2, 95), (2, 96), (2, 97), (2, 98), (2, 99), (2, 100), (2, 101), (2, 102), (0, f82_25), (2, 103), (2, 104), (2, 105), (2, 106), (2, 107), (2, 108), (2, 109), (0, f82_27), (0, f82_29), (2, 110), (2, 111), (2, 112), (2, 113)]) hk34 rfl rfl (fun w36 hk37 hb38 => ?_)
  refine xg_t (xg_const) ?_
  refine xg_t (xg_istore (l1 := [(0, (2, 82)), (1, (0, la)), (2, (0, nn))]) rfl rfl rfl) ?_
  refine xg_t (xg_drop (l1 := [(0, (2, 82)), (1, (0, la)), (2, (0, nn)), (3, (0, 0))]) (List.forall_mem_cons.mpr ⟨List.mem_cons_of_mem _ (List.mem_cons_self), List.forall_mem_cons.mpr ⟨List.mem_cons_of_mem _ (List.mem_cons_of_mem _ (List.mem_cons_self)), List.forall_mem_cons.mpr ⟨List.mem_cons_of_mem _ (List.mem_cons_of_mem _ (List.mem_cons_of_mem _ (List.mem_cons_self))), List.forall_mem_cons.mpr ⟨List.mem_cons_self, fun _ h => absurd h List.not_mem_nil⟩⟩⟩⟩)) ?_
  have key39 : ∀ (m41 : Nat) (ki : Nat) (w42 : List (List xE)), 4 - ki < m41 → ki ≤ 4 → xMnv w42 → xFr [82] w w42 → (1 ≤ fld w42 82 23 ∧ fld w42 82 23 ≤ 1000 ^ ki) → xTo (d + 2) mX12_tires (12, [], [(0, (2, 82)), (1, (0, la)), (2, (0, nn)), (3, (0, ki))], [], (w42, bd, fc, 0, 0, rr)) (fun φ => ∃ w', xEnd 0 [] (w', bd, fc, 0, 0, rr) φ ∧ xMnv w' ∧ xFr [82] w w' ∧ (1 ≤ fld w' 82 23 ∧ fld w' 82 23 ≤ 1000000000000)) := by
    intro m41
    induction m41 with
    | zero => intro ki w42 hz; exact absurd hz (Nat.not_lt_zero _)
    | succ m41 ih40 =>
      intro ki w42 hm47 hn45 hI43 hF44 he46
      have he46_ := he46
      obtain ⟨f82_48, f82_50, f82_52, f82_54, f82_56, f82_58, f82_60, f82_62, f82_64, f82_66, f82_68, f82_69, f82_70, f82_72, f82_74, f82_76, h82_78, hb49, hb51, hb53, hb55, hb57, hb59, hb61, hb63, hb65, hb67, hb71, hb73, hb75, hb77, hb79⟩ := (hI43 82 (by decide) (by decide) : cp82 (wget w42 82))
      replace hb51 := xHid.of hb51
      replace hb57 := xHid.of hb57
      replace hb61 := xHid.of hb61
      replace hb63 := xHid.of hb63
      replace hb67 := xHid.of hb67
      replace hb71 := xHid.of hb71
      replace hb73 := xHid.of hb73
      replace hb75 := xHid.of hb75
      replace hb77 := xHid.of hb77
      have hw23 : fld w42 82 23 = f82_69 := fld_of h82_78
      obtain ⟨hw1, hw2⟩ := he46_
      rw [hw23] at hw1 hw2
      refine xg_t (xg_blk (b := [(12, 1, 2, 3, 0, 0), (13, 1, 0, 0, 0, 0), (14, 3, 1, 12, 0, 7), (17, 1, 3, 1, 0, 0), (18, 1, 10, 0, 0, 0), (19, 3, 6, 51, 3, 0), (22, 1, 0, 0, 0, 0), (23, 1, 19, 0, 0, 0), (24, 3, 1, 12, 23, 263), (27, 1, 0, 0, 0, 0), (28, 3, 1, 12, 0, 7), (31, 2, 4, 50, 0, 0), (33, 1, 3, 2, 0, 0), (34, 1, 2, 3, 0, 0), (35, 1, 16, 0, 0, 0), (36, 1, 11, 0, 0, 0), (37, 1, 3, 1, 0, 0), (38, 1, 11, 0, 0, 0), (39, 1, 10, 0, 0, 0), (40, 1, 49, 0, 0, 0), (41, 1, 55, 0, 0, 0), (42, 3, 71, 12, 23, 263), (45, 3, 9, 3, 1, 0), (48, 3, 8, 12, 0, 0)]) rfl) ?_
      refine xg_t (xg_iload (va := (0, ki)) rfl rfl) ?_
      refine xg_t (xg_aload (va := (2, 82)) rfl rfl) ?_
      refine xg_t (xg_getf (va := (2, 83)) h82_78 rfl) ?_
      refine xg_t (xg_const) ?_
      refine xg_ialdB (n := 1) (B := 4294967295) (hR83.fr hF44 (by decide)) (hgb) xnm0 (by omega) (fun u80 hu81 he82 => ?_)
      have hl83 : u80 ≤ 4 := by rw [← he82]; exact hok.l1
      by_cases hc84 : ki < u80
      · refine xg_t (xg_icF (u := ki) (v := u80) rfl xnm0 xnm0 (xj_geF hc84 (by omega))) ?_
        refine xg_t (xg_aload (va := (2, 82)) rfl rfl) ?_
        refine xg_t (xg_dup rfl) ?_
        refine xg_t (xg_getf (va := (4, f82_69)) h82_78 rfl) ?_
        refine xg_t (xg_aload (va := (2, 82)) rfl rfl) ?_
        refine xg_t (xg_getf (va := (2, 83)) h82_78 rfl) ?_
        refine xg_t (xg_bip) ?_
        refine xg_t (xg_const) ?_
        refine xg_t (xg_iload (va := (0, ki)) rfl rfl) ?_
        refine xg_t (xg_imul (u := 2) (v := ki) (z := 2 * ki) xnm0 xnm0 (by omega)) ?_
        refine xg_t (xg_iadd (u := 50) (v := 2 * ki) (z := 50 + (2 * ki)) xnm0 xnm0 (by omega)) ?_
        refine xg_t (xg_const) ?_
        refine xg_t (xg_iadd (u := 50 + (2 * ki)) (v := 1) (z := (50 + (2 * ki)) + 1) xnm0 xnm0 (by omega)) ?_
        refine xg_ialdB (n := (50 + (2 * ki)) + 1) (B := 4294967295) (hR83.fr hF44 (by decide)) (hgb) xnm0 (by omega) (fun u85 hu86 he87 => ?_)
        have hv88 := hok.lif (k := ki) (by omega)
        rw [show 51 + 2 * ki = (50 + (2 * ki)) + 1 by omega, he87] at hv88
        refine xg_t (xg_i2l (u := u85) xnm0) ?_
        refine xg_t (xg_lre (b := u85) (by rw [xlp_eq]; exact nI_l (by omega))) ?_
        refine xg_t (xg_lmul (u := f82_69) (v := u85)) ?_
        refine xg_t (xg_lre (b := f82_69 * u85) (by rw [xlp_eq]; exact lN_mul _ _)) ?_
        have hst := pw_step (b := u85) hw2 (by omega) hw1 (by omega)
        refine xg_putJ (fl1 := [(2, 83), (2, 84), (0, f82_48), (0, f82_50), (0, f82_52), (0, f82_54), (0, f82_56), (0, f82_58), (0, f82_60), (0, f82_62), (0, f82_64), (2, 85), (2, 86), (2, 87), (0, f82_66), (2, 88), (2, 89), (2, 90), (2, 91), (2, 92), (2, 93), (2, 94), (4, f82_68), (4, f82_69 * u85), (0, f82_70), (2, 95), (2, 96), (2, 97), (2, 98), (2, 99), (2, 100), (2, 101), (2, 102), (0, f82_72), (2, 103), (2, 104), (2, 105), (2, 106), (2, 107), (2, 108), (2, 109), (0, f82_74), (0, f82_76), (2, 110), (2, 111), (2, 112), (2, 113)]) h82_78 rfl rfl (fun w89 hk90 hb91 => ?_)
        refine xg_t (xg_iinc (u := ki) (z := ki + 1) (l1 := [(0, (2, 82)), (1, (0, la)), (2, (0, nn))]) rfl rfl (by omega) rfl) ?_
        refine xg_t (xg_goto) ?_
        refine xg_t (xg_drop (l1 := [(0, (2, 82)), (1, (0, la)), (2, (0, nn)), (3, (0, ki + 1))]) (List.forall_mem_cons.mpr ⟨List.mem_cons_of_mem _ (List.mem_cons_self), List.forall_mem_cons.mpr ⟨List.mem_cons_of_mem _ (List.mem_cons_of_mem _ (List.mem_cons_self)), List.forall_mem_cons.mpr ⟨List.mem_cons_of_mem _ (List.mem_cons_of_mem _ (List.mem_cons_of_mem _ (List.mem_cons_self))), List.forall_mem_cons.mpr ⟨List.mem_cons_self, fun _ h => absurd h List.not_mem_nil⟩⟩⟩⟩)) ?_
        exact ih40 (ki + 1) w89 (by omega) (by omega) (xMnv.up (S := [82]) hI43 (xFr.of (S := [82]) hb91 (by decide)) (List.forall_mem_cons.mpr ⟨(show cp82 (wget w89 82) from ⟨f82_48, f82_50, f82_52, f82_54, f82_56, f82_58, f82_60, f82_62, f82_64, f82_66, f82_68, f82_69 * u85, f82_70, f82_72, f82_74, f82_76, hk90, by omega, hb51, by omega, by omega, hb57, by omega, hb61, hb63, by omega, hb67, hb71, hb73, hb75, hb77, by omega⟩), fun _ h => absurd h List.not_mem_nil⟩)) ((hF44.tr (xFr.of (S := [82]) hb91 (by decide)))) (⟨by rw [fld_of hk90]; exact hst.1, by rw [fld_of hk90]; exact hst.2⟩)
      · refine xg_t (xg_icT (u := ki) (v := u80) rfl xnm0 xnm0 (xj_geT (by omega) (by omega))) ?_
        refine xg_t (xg_blk (b := [(51, 1, 3, 0, 0, 0), (52, 1, 15, 3, 0, 0)]) rfl) ?_
        refine xg_t (xg_const) ?_
        refine xg_t (xg_istore (l1 := [(0, (2, 82)), (1, (0, la)), (2, (0, nn))]) rfl rfl rfl) ?_
        refine xg_t (xg_drop (l1 := [(0, (2, 82)), (1, (0, la)), (2, (0, nn)), (3, (0, 0))]) (List.forall_mem_cons.mpr ⟨List.mem_cons_of_mem _ (List.mem_cons_self), List.forall_mem_cons.mpr ⟨List.mem_cons_of_mem _ (List.mem_cons_of_mem _ (List.mem_cons_self)), List.forall_mem_cons.mpr ⟨List.mem_cons_of_mem _ (List.mem_cons_of_mem _ (List.mem_cons_of_mem _ (List.mem_cons_self))), List.forall_mem_cons.mpr ⟨List.mem_cons_self, fun _ h => absurd h List.not_mem_nil⟩⟩⟩⟩)) ?_
        have key92 : ∀ (m94 : Nat) (ii : Nat) (w95 : List (List xE)), 6 - ii < m94 → ii ≤ 6 → xMnv w95 → xFr [82] w w95 → (1 ≤ fld w95 82 23 ∧ fld w95 82 23 ≤ 1000000000000) → xTo (d + 2) mX12_tires (53, [], [(0, (2, 82)), (1, (0, la)), (2, (0, nn)), (3, (0, ii))], [], (w95, bd, fc, 0, 0, rr)) (fun φ => ∃ w', xEnd 0 [] (w', bd, fc, 0, 0, rr) φ ∧ xMnv w' ∧ xFr [82] w w' ∧ (1 ≤ fld w' 82 23 ∧ fld w' 82 23 ≤ 1000000000000)) := by
          intro m94
          induction m94 with
          | zero => intro ii w95 hz; exact absurd hz (Nat.not_lt_zero _)
          | succ m94 ih93 =>
            intro ii w95 hm100 hn98 hI96 hF97 he99
            obtain ⟨f82_101, f82_103, f82_105, f82_107, f82_109, f82_111, f82_113, f82_115, f82_117, f82_119, f82_121, f82_122, f82_123, f82_125, f82_127, f82_129, h82_131, hb102, hb104, hb106, hb108, hb110, hb112, hb114, hb116, hb118, hb120, hb124, hb126, hb128, hb130, hb132⟩ := (hI96 82 (by decide) (by decide) : cp82 (wget w95 82))
            replace hb104 := xHid.of hb104
            replace hb110 := xHid.of hb110
            replace hb114 := xHid.of hb114
            replace hb116 := xHid.of hb116
            replace hb120 := xHid.of hb120
            replace hb124 := xHid.of hb124
            replace hb126 := xHid.of hb126
            replace hb128 := xHid.of hb128
            replace hb130 := xHid.of hb130
            have hx23 : fld w95 82 23 = f82_122 := fld_of h82_131
            obtain ⟨hx1, hx2⟩ := he99
            rw [hx23] at hx1 hx2
            refine xg_t (xg_blk (b := [(53, 1, 2, 3, 0, 0), (54, 1, 2, 2, 0, 0), (55, 3, 6, 131, 3, 0), (58, 1, 0, 0, 0, 0), (59, 1, 2, 1, 0, 0), (60, 1, 0, 0, 0, 0), (61, 3, 1, 12, 0, 7), (64, 2, 4, 60, 0, 0), (66, 1, 3, 2, 0, 0), (67, 1, 2, 3, 0, 0), (68, 1, 16, 0, 0, 0), (69, 1, 11, 0, 0, 0), (70, 1, 3, 1, 0, 0), (71, 1, 11, 0, 0, 0), (72, 1, 10, 0, 0, 0), (73, 3, 13, 188, 96, 270), (76, 2, 15, 4, 0, 0), (78, 2, 2, 4, 0, 0), (80, 3, 7, 125, 2, 0), (83, 1, 0, 0, 0, 0), (84, 1, 19, 0, 0, 0), (85, 3, 1, 12, 22, 267), (88, 1, 0, 0, 0, 0), (89, 3, 1, 12, 23, 263), (92, 1, 0, 0, 0, 0), (93, 3, 1, 12, 0, 7), (96, 2, 4, 50, 0, 0), (98, 1, 3, 2, 0, 0), (99, 2, 2, 4, 0, 0), (101, 1, 16, 0, 0, 0), (102, 1, 11, 0, 0, 0), (103, 1, 3, 1, 0, 0), (104, 1, 11, 0, 0, 0), (105, 1, 10, 0, 0, 0), (106, 1, 49, 0, 0, 0), (107, 1, 67, 0, 0, 0), (108, 1, 0, 0, 0, 0), (109, 3, 1, 12, 0, 7), (112, 2, 4, 60, 0, 0), (114, 1, 3, 2, 0, 0), (115, 1, 2, 3, 0, 0), (116, 1, 16, 0, 0, 0), (117, 1, 11, 0, 0, 0), (118, 1, 10, 0, 0, 0), (119, 1, 49, 0, 0, 0), (120, 1, 55, 0, 0, 0), (121, 1, 56, 0, 0, 0), (122, 3, 71, 12, 22, 267)]) rfl) ?_
            refine xg_t (xg_iload (va := (0, ii)) rfl rfl) ?_
            refine xg_t (xg_iload (va := (0, nn)) rfl rfl) ?_
            by_cases hc133 : ii < nn
            · refine xg_t (xg_icF (u := ii) (v := nn) rfl xnm0 xnm0 (xj_geF hc133 (by omega))) ?_
              refine xg_t (xg_aload (va := (2, 82)) rfl rfl) ?_
              refine xg_t (xg_iload (va := (0, la)) rfl rfl) ?_
              refine xg_t (xg_aload (va := (2, 82)) rfl rfl) ?_
              refine xg_t (xg_getf (va := (2, 83)) h82_131 rfl) ?_
              refine xg_t (xg_bip) ?_
              refine xg_t (xg_const) ?_
              refine xg_t (xg_iload (va := (0, ii)) rfl rfl) ?_
              refine xg_t (xg_imul (u := 2) (v := ii) (z := 2 * ii) xnm0 xnm0 (by omega)) ?_
              refine xg_t (xg_iadd (u := 60) (v := 2 * ii) (z := 60 + (2 * ii)) xnm0 xnm0 (by omega)) ?_
              refine xg_t (xg_const) ?_
              refine xg_t (xg_iadd (u := 60 + (2 * ii)) (v := 1) (z := (60 + (2 * ii)) + 1) xnm0 xnm0 (by omega)) ?_
              refine xg_ialdB (n := (60 + (2 * ii)) + 1) (B := 4294967295) (hR83.fr hF97 (by decide)) (hgb) xnm0 (by omega) (fun u134 hu135 he136 => ?_)
              refine xg_cVi mX12_lifeOf (vs := [(0, la), (0, u134)]) (rest := []) (cn1 := 0) (sl1 := 0) rfl (mLifeOf (hI96) (by omega) (by omega) (hR83.fr hF97 (by decide)) hgb hok) rfl h82_131 rfl rfl rfl rfl rfl rfl (fun n141 w137 hq138 => ?_)
              obtain ⟨hn142, hI139, hF140⟩ := hq138
              have hl143 := hok.l1
              refine xg_t (xg_istore (l1 := [(0, (2, 82)), (1, (0, la)), (2, (0, nn)), (3, (0, ii))]) rfl rfl rfl) ?_
              refine xg_t (xg_iload (va := (0, n141)) rfl rfl) ?_
              by_cases hc144 : n141 < 2147483648
              · have hn145 : n141 ≤ 3 := by omega
                refine xg_t (xg_ifF (u := n141) rfl xnm0 (xjz_ltF hc144)) ?_
                refine xg_t (xg_aload (va := (2, 82)) rfl rfl) ?_
                refine xg_t (xg_dup rfl) ?_
                refine xg_t (xg_getf (va := (4, f82_121)) (hF140.get (by decide) h82_131) rfl) ?_
                refine xg_t (xg_aload (va := (2, 82)) rfl rfl) ?_
                refine xg_t (xg_getf (va := (4, f82_122)) (hF140.get (by decide) h82_131) rfl) ?_
                refine xg_t (xg_aload (va := (2, 82)) rfl rfl) ?_
                refine xg_t (xg_getf (va := (2, 83)) (hF140.get (by decide) h82_131) rfl) ?_
                refine xg_t (xg_bip) ?_
                refine xg_t (xg_const) ?_
                refine xg_t (xg_iload (va := (0, n141)) rfl rfl) ?_
                refine xg_t (xg_imul (u := 2) (v := n141) (z := 2 * n141) xnm0 xnm0 (by omega)) ?_
                refine xg_t (xg_iadd (u := 50) (v := 2 * n141) (z := 50 + (2 * n141)) xnm0 xnm0 (by omega)) ?_
                refine xg_t (xg_const) ?_
                refine xg_t (xg_iadd (u := 50 + (2 * n141)) (v := 1) (z := (50 + (2 * n141)) + 1) xnm0 xnm0 (by omega)) ?_
                refine xg_ialdB (n := (50 + (2 * n141)) + 1) (B := 4294967295) ((hR83.fr hF97 (by decide)).fr hF140 (by decide)) (hgb) xnm0 (by omega) (fun u146 hu147 he148 => ?_)
                have hv149 := hok.lif (k := n141) (by omega)
                rw [show 51 + 2 * n141 = (50 + (2 * n141)) + 1 by omega, he148] at hv149
                refine xg_t (xg_i2l (u := u146) xnm0) ?_
                refine xg_t (xg_lre (b := u146) (by rw [xlp_eq]; exact nI_l (by omega))) ?_
                refine xg_kl (xg_ldiv (u := f82_122) (v := u146) (lN_ne0 (by omega) (by omega))) (fun l150 => ?_)
                refine xg_t (xg_aload (va := (2, 82)) rfl rfl) ?_
                refine xg_t (xg_getf (va := (2, 83)) (hF140.get (by decide) h82_131) rfl) ?_
                refine xg_t (xg_bip) ?_
                refine xg_t (xg_const) ?_
                refine xg_t (xg_iload (va := (0, ii)) rfl rfl) ?_
                refine xg_t (xg_imul (u := 2) (v := ii) (z := 2 * ii) xnm0 xnm0 (by omega)) ?_
                refine xg_t (xg_iadd (u := 60) (v := 2 * ii) (z := 60 + (2 * ii)) xnm0 xnm0 (by omega)) ?_
                refine xg_ialdB (n := 60 + (2 * ii)) (B := 4294967295) ((hR83.fr hF97 (by decide)).fr hF140 (by decide)) (hgb) xnm0 (by omega) (fun u151 hu152 he153 => ?_)
                refine xg_kl (xg_i2l (u := u151) xnm0) (fun l154 => ?_)
                refine xg_kl (xg_lmul (u := l150) (v := l154)) (fun l155 => ?_)
                refine xg_kl (xg_ladd (u := f82_121) (v := l155)) (fun l156 => ?_)
                refine xg_putJ (fl1 := [(2, 83), (2, 84), (0, f82_101), (0, f82_103), (0, f82_105), (0, f82_107), (0, f82_109), (0, f82_111), (0, f82_113), (0, f82_115), (0, f82_117), (2, 85), (2, 86), (2, 87), (0, f82_119), (2, 88), (2, 89), (2, 90), (2, 91), (2, 92), (2, 93), (2, 94), (4, l156), (4, f82_122), (0, f82_123), (2, 95), (2, 96), (2, 97), (2, 98), (2, 99), (2, 100), (2, 101), (2, 102), (0, f82_125), (2, 103), (2, 104), (2, 105), (2, 106), (2, 107), (2, 108), (2, 109), (0, f82_127), (0, f82_129), (2, 110), (2, 111), (2, 112), (2, 113)]) (hF140.get (by decide) h82_131) rfl rfl (fun w157 hk158 hb159 => ?_)
                refine xg_t (xg_blk (b := [(125, 3, 9, 3, 1, 0), (128, 3, 8, 53, 0, 0)]) rfl) ?_
                refine xg_t (xg_iinc (u := ii) (z := ii + 1) (l1 := [(4, (0, n141)), (0, (2, 82)), (1, (0, la)), (2, (0, nn))]) rfl rfl (by omega) rfl) ?_
                refine xg_t (xg_goto) ?_
                refine xg_t (xg_drop (l1 := [(0, (2, 82)), (1, (0, la)), (2, (0, nn)), (3, (0, ii + 1))]) (List.forall_mem_cons.mpr ⟨List.mem_cons_of_mem _ (List.mem_cons_of_mem _ (List.mem_cons_self)), List.forall_mem_cons.mpr ⟨List.mem_cons_of_mem _ (List.mem_cons_of_mem _ (List.mem_cons_of_mem _ (List.mem_cons_self))), List.forall_mem_cons.mpr ⟨List.mem_cons_of_mem _ (List.mem_cons_of_mem _ (List.mem_cons_of_mem _ (List.mem_cons_of_mem _ (List.mem_cons_self)))), List.forall_mem_cons.mpr ⟨List.mem_cons_self, fun _ h => absurd h List.not_mem_nil⟩⟩⟩⟩)) ?_
                exact ih93 (ii + 1) w157 (by omega) (by omega) (xMnv.up (S := [82]) hI139 (xFr.of (S := [82]) hb159 (by decide)) (List.forall_mem_cons.mpr ⟨(show cp82 (wget w157 82) from ⟨f82_101, f82_103, f82_105, f82_107, f82_109, f82_111, f82_113, f82_115, f82_117, f82_119, l156, f82_122, f82_123, f82_125, f82_127, f82_129, hk158, by omega, hb104, by omega, by omega, hb110, by omega, hb114, hb116, by omega, hb120, hb124, hb126, hb128, hb130, by omega⟩), fun _ h => absurd h List.not_mem_nil⟩)) (((hF97.tr (hF140.up (by decide))).tr (xFr.of (S := [82]) hb159 (by decide)))) (⟨by rw [fld_of hk158]; exact hx1, by rw [fld_of hk158]; exact hx2⟩)
              · refine xg_t (xg_ifT (u := n141) rfl xnm0 (xjz_ltT (by omega) (by omega))) ?_
                refine xg_t (xg_blk (b := [(125, 3, 9, 3, 1, 0), (128, 3, 8, 53, 0, 0)]) rfl) ?_
                refine xg_t (xg_iinc (u := ii) (z := ii + 1) (l1 := [(4, (0, n141)), (0, (2, 82)), (1, (0, la)), (2, (0, nn))]) rfl rfl (by omega) rfl) ?_
                refine xg_t (xg_goto) ?_
                refine xg_t (xg_drop (l1 := [(0, (2, 82)), (1, (0, la)), (2, (0, nn)), (3, (0, ii + 1))]) (List.forall_mem_cons.mpr ⟨List.mem_cons_of_mem _ (List.mem_cons_of_mem _ (List.mem_cons_self)), List.forall_mem_cons.mpr ⟨List.mem_cons_of_mem _ (List.mem_cons_of_mem _ (List.mem_cons_of_mem _ (List.mem_cons_self))), List.forall_mem_cons.mpr ⟨List.mem_cons_of_mem _ (List.mem_cons_of_mem _ (List.mem_cons_of_mem _ (List.mem_cons_of_mem _ (List.mem_cons_self)))), List.forall_mem_cons.mpr ⟨List.mem_cons_self, fun _ h => absurd h List.not_mem_nil⟩⟩⟩⟩)) ?_
                exact ih93 (ii + 1) w137 (by omega) (by omega) (hI139) ((hF97.tr (hF140.up (by decide)))) (⟨by rw [fld_of (hF140.get (by decide) h82_131)]; exact hx1, by rw [fld_of (hF140.get (by decide) h82_131)]; exact hx2⟩)
            · refine xg_t (xg_icT (u := ii) (v := nn) rfl xnm0 xnm0 (xj_geT (by omega) (by omega))) ?_
              refine xg_t (xg_blk (b := [(131, 1, 12, 0, 0, 0)]) rfl) ?_
              exact xg_e ⟨w95, ⟨rfl, rfl⟩, hI96, hF97, ⟨by rw [fld_of h82_131]; exact hx1, by rw [fld_of h82_131]; exact hx2⟩⟩
        exact key92 _ 0 w42 (Nat.lt_succ_self _) (by omega) (hI43) (hF44) (⟨he46.1, Nat.le_trans he46.2 (pw_le (by omega))⟩)
  exact key39 _ 0 w36 (Nat.lt_succ_self _) (by omega) (xMnv.up (S := [82]) hI ((xFr.of (S := [82]) hb35 (by decide)).tr (xFr.of (S := [82]) hb38 (by decide))) (List.forall_mem_cons.mpr ⟨(show cp82 (wget w36 82) from ⟨f82_1, f82_3, f82_5, f82_7, f82_9, f82_11, f82_13, f82_15, f82_17, f82_19, 0, 1, f82_23, f82_25, f82_27, f82_29, hk37, by omega, hb4, by omega, by omega, hb10, by omega, hb14, hb16, by omega, hb20, hb24, hb26, hb28, hb30, by omega⟩), fun _ h => absurd h List.not_mem_nil⟩)) (((xFr.of (S := [82]) hb35 (by decide)).tr (xFr.of (S := [82]) hb38 (by decide)))) (⟨by rw [fld_of hk37]; exact Nat.le_refl 1, by rw [fld_of hk37]; exact Nat.le_refl 1⟩)
theorem mTired {la nn : Nat} (hI : xMnv w) (hla : la ≤ 4294967295) (hnn : nn ≤ 4294967295) : xPi (d + 3) mX12_tired [(2, 82), (0, la), (0, nn)] w bd fc rr (fun n w' => (n ≤ 4294967295) ∧ xMnv w' ∧ xFr [82, 88, 90, 91, 92, 93, 94] w w') := by
  refine xPi.of ?_
  show xTo (d + 3) mX12_tired (0, [], [(0, (2, 82)), (1, (0, la)), (2, (0, nn))], [], (w, bd, fc, 0, 0, rr)) (fun φ => ∃ n w', xEnd 1 [(0, n)] (w', bd, fc, 0, 0, rr) φ ∧ (n ≤ 4294967295) ∧ xMnv w' ∧ xFr [82, 88, 90, 91, 92, 93, 94] w w')
  obtain ⟨f82_1, f82_3, f82_5, f82_7, f82_9, f82_11, f82_13, f82_15, f82_17, f82_19, f82_21, f82_22, f82_23, f82_25, f82_27, f82_29, h82_31, hb2, hb4, hb6, hb8, hb10, hb12, hb14, hb16, hb18, hb20, hb24, hb26, hb28, hb30, hb32⟩ := (hI 82 (by decide) (by decide) : cp82 (wget w 82))
  replace hb4 := xHid.of hb4
  replace hb10 := xHid.of hb10
  replace hb14 := xHid.of hb14
  replace hb16 := xHid.of hb16
  replace hb20 := xHid.of hb20
  replace hb24 := xHid.of hb24
  replace hb26 := xHid.of hb26
  replace hb28 := xHid.of hb28
  replace hb30 := xHid.of hb30
  obtain ⟨g83_33, h83_34, hb35, hx36⟩ := (hI 83 (by decide) (by decide) : cpx83 (wget w 83))
  have h83_34 : xRow w 83 5360 50 g83_33 := h83_34
  refine xg_t (xg_blk (b := [(0, 1, 0, 0, 0, 0), (1, 1, 2, 1, 0, 0), (2, 1, 3, 0, 0, 0), (3, 3, 13, 168, 96, 241), (6, 3, 7, 23, 0, 0), (9, 1, 2, 2, 0, 0), (10, 1, 3, 0, 0, 0), (11, 1, 0, 0, 0, 0), (12, 3, 1, 12, 0, 7), (15, 1, 3, 2, 0, 0), (16, 1, 10, 0, 0, 0), (17, 3, 13, 161, 98, 105), (20, 3, 7, 25, 1, 0)]) rfl) ?_
  refine xg_t (xg_aload (va := (2, 82)) rfl rfl) ?_
  refine xg_t (xg_iload (va := (0, la)) rfl rfl) ?_
  refine xg_t (xg_const) ?_
  have hl37 := hx36.l0
  refine xg_cVi mX12_isOf (vs := [(0, la), (0, 0)]) (rest := []) (cn1 := 0) (sl1 := 0) rfl (mOf0 (hI) (by omega) h83_34 hb35 hx36) rfl h82_31 rfl rfl rfl rfl rfl rfl (fun n42 w38 hq39 => ?_)
  obtain ⟨hn43, hI40, hF41⟩ := hq39
  by_cases hc44 : n42 = 0
  · refine xg_t (xg_ifT (u := n42) rfl xnm0 (xj_eqT hc44)) ?_
    refine xg_t (xg_blk (b := [(23, 1, 3, 4294967295, 0, 0), (24, 1, 12, 0, 1, 0)]) rfl) ?_
    refine xg_t (xg_const) ?_
    exact xg_e ⟨4294967295, w38, ⟨rfl, rfl⟩, by omega, hI40, (hF41.up (by decide))⟩
  · refine xg_t (xg_ifF (u := n42) rfl xnm0 (xj_eqF hc44)) ?_
    refine xg_t (xg_iload (va := (0, nn)) rfl rfl) ?_
    refine xg_t (xg_const) ?_
    refine xg_t (xg_aload (va := (2, 82)) rfl rfl) ?_
    refine xg_t (xg_getf (va := (2, 83)) (hF41.get (by decide) h82_31) rfl) ?_
    refine xg_t (xg_const) ?_
    refine xg_ialdB (n := 2) (B := 4294967295) (h83_34.fr hF41 (by decide)) (hb35) xnm0 (by omega) (fun u45 hu46 he47 => ?_)
    have hl48 : u45 ≤ 6 := by rw [← he47]; exact hx36.l2
    refine xg_t (xg_cSr mX12_isIn (vs := [(0, nn), (0, 0), (0, u45)]) (rest := []) (rs := [(0, if 0 ≤ nn ∧ nn ≤ u45 then 1 else 0)]) (cn1 := 0) (sl1 := 0) rfl (mIsIn (by omega) (by omega) (by omega)) rfl rfl rfl rfl rfl rfl rfl rfl) ?_
    by_cases hc49 : 0 ≤ nn ∧ nn ≤ u45
    · refine xg_t (xg_ifT (u := (if 0 ≤ nn ∧ nn ≤ u45 then 1 else 0)) rfl xnm0 (xj_neT (xite1 hc49))) ?_
      refine xg_t (xg_blk (b := [(25, 1, 0, 0, 0, 0), (26, 3, 13, 116, 96, 244), (29, 1, 0, 0, 0, 0), (30, 1, 2, 1, 0, 0), (31, 1, 2, 2, 0, 0), (32, 3, 13, 231, 96, 273), (35, 3, 52, 1000, 0, 231), (38, 1, 0, 0, 0, 0), (39, 3, 1, 12, 22, 267), (42, 1, 55, 0, 0, 0), (43, 1, 0, 0, 0, 0), (44, 3, 1, 12, 23, 263), (47, 1, 67, 0, 0, 0), (48, 1, 50, 0, 0, 0), (49, 1, 12, 0, 1, 0)]) rfl) ?_
      refine xg_t (xg_aload (va := (2, 82)) rfl rfl) ?_
      refine xg_cVv mX12_asTold (vs := []) (rest := []) (cn1 := 0) (sl1 := 0) rfl (mAsTold (hI40) (h83_34.fr hF41 (by decide)) hb35 hx36) rfl (hF41.get (by decide) h82_31) rfl rfl rfl rfl rfl rfl (fun w50 hq51 => ?_)
      obtain ⟨hI52, hF53, hx54⟩ := hq51
      obtain ⟨o55, U56, hr57, hr58, hr59, hr60, hr61⟩ := hx54
      refine xg_t (xg_aload (va := (2, 82)) rfl rfl) ?_
      refine xg_t (xg_iload (va := (0, la)) rfl rfl) ?_
      refine xg_t (xg_iload (va := (0, nn)) rfl rfl) ?_
      refine xg_cVv mX12_tires (vs := [(0, la), (0, nn)]) (rest := []) (cn1 := 0) (sl1 := 0) rfl (mTires (hI52) (by omega) (by omega) ((h83_34.fr hF41 (by decide)).fr hF53 (by decide)) hb35 hx36) rfl (hF53.get (by decide) (hF41.get (by decide) h82_31)) rfl rfl rfl rfl rfl rfl (fun w62 hq63 => ?_)
      obtain ⟨hI64, hF65, hx66⟩ := hq63
      obtain ⟨f82_67, f82_69, f82_71, f82_73, f82_75, f82_77, f82_79, f82_81, f82_83, f82_85, f82_87, f82_88, f82_89, f82_91, f82_93, f82_95, h82_97, hb68, hb70, hb72, hb74, hb76, hb78, hb80, hb82, hb84, hb86, hb90, hb92, hb94, hb96, hb98⟩ := (hI64 82 (by decide) (by decide) : cp82 (wget w62 82))
      replace hb70 := xHid.of hb70
      replace hb76 := xHid.of hb76
      replace hb80 := xHid.of hb80
      replace hb82 := xHid.of hb82
      replace hb86 := xHid.of hb86
      replace hb90 := xHid.of hb90
      replace hb92 := xHid.of hb92
      replace hb94 := xHid.of hb94
      replace hb96 := xHid.of hb96
      have hw101 : fld w62 82 23 = f82_88 := fld_of h82_97
      obtain ⟨hw99, hw100⟩ := hx66
      rw [hw101] at hw99 hw100
      refine xg_t (xg_ldc2) ?_
      refine xg_t (xg_aload (va := (2, 82)) rfl rfl) ?_
      refine xg_t (xg_getf (va := (4, f82_87)) h82_97 rfl) ?_
      refine xg_kl (xg_lmul (u := 1000) (v := f82_87)) (fun l102 => ?_)
      refine xg_t (xg_aload (va := (2, 82)) rfl rfl) ?_
      refine xg_t (xg_getf (va := (4, f82_88)) h82_97 rfl) ?_
      refine xg_kl (xg_ldiv (u := l102) (v := f82_88) (lN_ne0 (by omega) (by omega))) (fun l103 => ?_)
      refine xg_k (xg_l2i (u := l103)) (xpt_lt _) (fun z104 hz105 => ?_)
      exact xg_e ⟨z104, w62, ⟨rfl, rfl⟩, by omega, hI64, (((hF41.up (by decide)).tr (hF53.up (by decide))).tr (hF65.up (by decide)))⟩
    · refine xg_t (xg_ifF (u := (if 0 ≤ nn ∧ nn ≤ u45 then 1 else 0)) rfl xnm0 (xj_neF (xite0 hc49))) ?_
      refine xg_t (xg_blk (b := [(23, 1, 3, 4294967295, 0, 0), (24, 1, 12, 0, 1, 0)]) rfl) ?_
      refine xg_t (xg_const) ?_
      exact xg_e ⟨4294967295, w38, ⟨rfl, rfl⟩, by omega, hI40, (hF41.up (by decide))⟩
theorem mCracks {la : Nat} (hI : xMnv w) (hla : la ≤ 4294967295) : xPi (d + 3) mX12_cracks [(2, 82), (0, la)] w bd fc rr (fun n w' => (n ≤ 4294967295) ∧ xMnv w' ∧ xFr [82, 88, 90, 91, 92, 93, 94] w w') := by
  refine xPi.of ?_
  show xTo (d + 3) mX12_cracks (0, [], [(0, (2, 82)), (1, (0, la))], [], (w, bd, fc, 0, 0, rr)) (fun φ => ∃ n w', xEnd 1 [(0, n)] (w', bd, fc, 0, 0, rr) φ ∧ (n ≤ 4294967295) ∧ xMnv w' ∧ xFr [82, 88, 90, 91, 92, 93, 94] w w')
  obtain ⟨f82_1, f82_3, f82_5, f82_7, f82_9, f82_11, f82_13, f82_15, f82_17, f82_19, f82_21, f82_22, f82_23, f82_25, f82_27, f82_29, h82_31, hb2, hb4, hb6, hb8, hb10, hb12, hb14, hb16, hb18, hb20, hb24, hb26, hb28, hb30, hb32⟩ := (hI 82 (by decide) (by decide) : cp82 (wget w 82))
  replace hb4 := xHid.of hb4
  replace hb10 := xHid.of hb10
  replace hb14 := xHid.of hb14
  replace hb16 := xHid.of hb16
  replace hb20 := xHid.of hb20
  replace hb24 := xHid.of hb24
  replace hb26 := xHid.of hb26
  replace hb28 := xHid.of hb28
  replace hb30 := xHid.of hb30
  obtain ⟨g83_33, h83_34, hb35, hx36⟩ := (hI 83 (by decide) (by decide) : cpx83 (wget w 83))
  have h83_34 : xRow w 83 5360 50 g83_33 := h83_34
  refine xg_t (xg_blk (b := [(0, 1, 0, 0, 0, 0), (1, 1, 2, 1, 0, 0), (2, 1, 3, 0, 0, 0), (3, 3, 13, 168, 96, 241), (6, 3, 7, 11, 1, 0), (9, 1, 3, 4294967295, 0, 0), (10, 1, 12, 0, 1, 0)]) rfl) ?_
  refine xg_t (xg_aload (va := (2, 82)) rfl rfl) ?_
  refine xg_t (xg_iload (va := (0, la)) rfl rfl) ?_
  refine xg_t (xg_const) ?_
  have hl37 := hx36.l0
  refine xg_cVi mX12_isOf (vs := [(0, la), (0, 0)]) (rest := []) (cn1 := 0) (sl1 := 0) rfl (mOf0 (hI) (by omega) h83_34 hb35 hx36) rfl h82_31 rfl rfl rfl rfl rfl rfl (fun n42 w38 hq39 => ?_)
  obtain ⟨hn43, hI40, hF41⟩ := hq39
  by_cases hc44 : n42 = 0
  · refine xg_t (xg_ifF (u := n42) rfl xnm0 (xj_neF hc44)) ?_
    refine xg_t (xg_const) ?_
    exact xg_e ⟨4294967295, w38, ⟨rfl, rfl⟩, by omega, hI40, (hF41.up (by decide))⟩
  · refine xg_t (xg_ifT (u := n42) rfl xnm0 (xj_neT hc44)) ?_
    refine xg_t (xg_blk (b := [(11, 1, 0, 0, 0, 0), (12, 3, 13, 116, 96, 244), (15, 1, 3, 1, 0, 0), (16, 1, 15, 2, 0, 0)]) rfl) ?_
    refine xg_t (xg_aload (va := (2, 82)) rfl rfl) ?_
    refine xg_cVv mX12_asTold (vs := []) (rest := []) (cn1 := 0) (sl1 := 0) rfl (mAsTold (hI40) (h83_34.fr hF41 (by decide)) hb35 hx36) rfl (hF41.get (by decide) h82_31) rfl rfl rfl rfl rfl rfl (fun w45 hq46 => ?_)
    obtain ⟨hI47, hF48, hx49⟩ := hq46
    obtain ⟨o50, U51, hr52, hr53, hr54, hr55, hr56⟩ := hx49
    refine xg_t (xg_const) ?_
    refine xg_t (xg_istore (l1 := [(0, (2, 82)), (1, (0, la))]) rfl rfl rfl) ?_
    refine xg_t (xg_drop (l1 := [(0, (2, 82)), (1, (0, la)), (2, (0, 1))]) (List.forall_mem_cons.mpr ⟨List.mem_cons_of_mem _ (List.mem_cons_self), List.forall_mem_cons.mpr ⟨List.mem_cons_of_mem _ (List.mem_cons_of_mem _ (List.mem_cons_self)), List.forall_mem_cons.mpr ⟨List.mem_cons_self, fun _ h => absurd h List.not_mem_nil⟩⟩⟩)) ?_
    have key57 : ∀ (m59 : Nat) (ni : Nat) (w60 : List (List xE)), 7 - ni < m59 → ni ≤ 7 → xMnv w60 → xFr [82, 88, 90, 91, 92, 93, 94] w w60 → 1 ≤ ni → xTo (d + 3) mX12_cracks (17, [], [(0, (2, 82)), (1, (0, la)), (2, (0, ni))], [], (w60, bd, fc, 0, 0, rr)) (fun φ => ∃ n w', xEnd 1 [(0, n)] (w', bd, fc, 0, 0, rr) φ ∧ (n ≤ 4294967295) ∧ xMnv w' ∧ xFr [82, 88, 90, 91, 92, 93, 94] w w') := by
      intro m59
      induction m59 with
      | zero => intro ni w60 hz; exact absurd hz (Nat.not_lt_zero _)
      | succ m59 ih58 =>
        intro ni w60 hm65 hn63 hI61 hF62 he64
        refine xg_t (xg_blk (b := [(17, 1, 2, 2, 0, 0), (18, 1, 0, 0, 0, 0), (19, 3, 1, 12, 0, 7), (22, 1, 3, 2, 0, 0), (23, 1, 10, 0, 0, 0), (24, 3, 6, 55, 4, 0), (27, 1, 0, 0, 0, 0), (28, 1, 2, 1, 0, 0), (29, 1, 2, 2, 0, 0), (30, 3, 13, 231, 96, 273), (33, 1, 0, 0, 0, 0), (34, 3, 1, 12, 22, 267), (37, 1, 0, 0, 0, 0), (38, 3, 1, 12, 23, 263), (41, 1, 57, 0, 0, 0), (42, 3, 7, 49, 2, 0), (45, 1, 2, 2, 0, 0), (46, 1, 3, 1, 0, 0), (47, 1, 18, 0, 0, 0), (48, 1, 12, 0, 1, 0)]) rfl) ?_
        refine xg_t (xg_iload (va := (0, ni)) rfl rfl) ?_
        refine xg_t (xg_aload (va := (2, 82)) rfl rfl) ?_
        obtain ⟨f82_66, f82_68, f82_70, f82_72, f82_74, f82_76, f82_78, f82_80, f82_82, f82_84, f82_86, f82_87, f82_88, f82_90, f82_92, f82_94, h82_96, hb67, hb69, hb71, hb73, hb75, hb77, hb79, hb81, hb83, hb85, hb89, hb91, hb93, hb95, hb97⟩ := (hI61 82 (by decide) (by decide) : cp82 (wget w60 82))
        replace hb69 := xHid.of hb69
        replace hb75 := xHid.of hb75
        replace hb79 := xHid.of hb79
        replace hb81 := xHid.of hb81
        replace hb85 := xHid.of hb85
        replace hb89 := xHid.of hb89
        replace hb91 := xHid.of hb91
        replace hb93 := xHid.of hb93
        replace hb95 := xHid.of hb95
        refine xg_t (xg_getf (va := (2, 83)) h82_96 rfl) ?_
        refine xg_t (xg_const) ?_
        refine xg_ialdB (n := 2) (B := 4294967295) (h83_34.fr hF62 (by decide)) (hb35) xnm0 (by omega) (fun u98 hu99 he100 => ?_)
        have hl101 : u98 ≤ 6 := by rw [← he100]; exact hx36.l2
        by_cases hc102 : u98 < ni
        · refine xg_t (xg_icT (u := ni) (v := u98) rfl xnm0 xnm0 (xj_gtT hc102 (by omega))) ?_
          refine xg_t (xg_blk (b := [(55, 1, 3, 4294967295, 0, 0), (56, 1, 12, 0, 1, 0)]) rfl) ?_
          refine xg_t (xg_const) ?_
          exact xg_e ⟨4294967295, w60, ⟨rfl, rfl⟩, by omega, hI61, hF62⟩
        · refine xg_t (xg_icF (u := ni) (v := u98) rfl xnm0 xnm0 (xj_gtF (by omega) (by omega))) ?_
          refine xg_t (xg_aload (va := (2, 82)) rfl rfl) ?_
          refine xg_t (xg_iload (va := (0, la)) rfl rfl) ?_
          refine xg_t (xg_iload (va := (0, ni)) rfl rfl) ?_
          refine xg_cVv mX12_tires (vs := [(0, la), (0, ni)]) (rest := []) (cn1 := 0) (sl1 := 0) rfl (mTires (hI61) (by omega) (by omega) (h83_34.fr hF62 (by decide)) hb35 hx36) rfl h82_96 rfl rfl rfl rfl rfl rfl (fun w103 hq104 => ?_)
          obtain ⟨hI105, hF106, hx107⟩ := hq104
          obtain ⟨f82_108, f82_110, f82_112, f82_114, f82_116, f82_118, f82_120, f82_122, f82_124, f82_126, f82_128, f82_129, f82_130, f82_132, f82_134, f82_136, h82_138, hb109, hb111, hb113, hb115, hb117, hb119, hb121, hb123, hb125, hb127, hb131, hb133, hb135, hb137, hb139⟩ := (hI105 82 (by decide) (by decide) : cp82 (wget w103 82))
          replace hb111 := xHid.of hb111
          replace hb117 := xHid.of hb117
          replace hb121 := xHid.of hb121
          replace hb123 := xHid.of hb123
          replace hb127 := xHid.of hb127
          replace hb131 := xHid.of hb131
          replace hb133 := xHid.of hb133
          replace hb135 := xHid.of hb135
          replace hb137 := xHid.of hb137
          have hw142 : fld w103 82 23 = f82_129 := fld_of h82_138
          obtain ⟨hw140, hw141⟩ := hx107
          rw [hw142] at hw140 hw141
          refine xg_t (xg_aload (va := (2, 82)) rfl rfl) ?_
          refine xg_t (xg_getf (va := (4, f82_128)) h82_138 rfl) ?_
          refine xg_t (xg_aload (va := (2, 82)) rfl rfl) ?_
          refine xg_t (xg_getf (va := (4, f82_129)) h82_138 rfl) ?_
          refine xg_k (xg_lcmp (u := f82_128) (v := f82_129)) (xpt_lt _) (fun z143 hz144 => ?_)
          by_cases hc145 : z143 < 2147483648
          · refine xg_t (xg_ifF (u := z143) rfl xnm0 (xjz_ltF hc145)) ?_
            refine xg_t (xg_iload (va := (0, ni)) rfl rfl) ?_
            refine xg_t (xg_const) ?_
            refine xg_t (xg_isub (u := ni) (v := 1) (z := ni - 1) xnm0 xnm0 (by omega)) ?_
            exact xg_e ⟨ni - 1, w103, ⟨rfl, rfl⟩, by omega, hI105, (hF62.tr (hF106.up (by decide)))⟩
          · refine xg_t (xg_ifT (u := z143) rfl xnm0 (xjz_ltT (by omega) (by omega))) ?_
            refine xg_t (xg_blk (b := [(49, 3, 9, 2, 1, 0), (52, 3, 8, 17, 0, 0)]) rfl) ?_
            refine xg_t (xg_iinc (u := ni) (z := ni + 1) (l1 := [(0, (2, 82)), (1, (0, la))]) rfl rfl (by omega) rfl) ?_
            refine xg_t (xg_goto) ?_
            refine xg_t (xg_drop (l1 := [(0, (2, 82)), (1, (0, la)), (2, (0, ni + 1))]) (List.forall_mem_cons.mpr ⟨List.mem_cons_of_mem _ (List.mem_cons_self), List.forall_mem_cons.mpr ⟨List.mem_cons_of_mem _ (List.mem_cons_of_mem _ (List.mem_cons_self)), List.forall_mem_cons.mpr ⟨List.mem_cons_self, fun _ h => absurd h List.not_mem_nil⟩⟩⟩)) ?_
            exact ih58 (ni + 1) w103 (by omega) (by omega) (hI105) ((hF62.tr (hF106.up (by decide)))) (by omega)
    exact key57 _ 1 w45 (Nat.lt_succ_self _) (by omega) (hI47) (((hF41.up (by decide)).tr (hF48.up (by decide)))) (by omega)
theorem mBreaks {ha ye : Nat} (hI : xMnv w) (hha : ha ≤ 3) (hye : ye ≤ 4294967295) : xPi (d + 3) mX12_breaks [(2, 82), (0, ha), (0, ye)] w bd fc rr (fun n w' => (n ≤ 1) ∧ xMnv w' ∧ xFr [82] w w') := by
  refine xPi.of ?_
  show xTo (d + 3) mX12_breaks (0, [], [(0, (2, 82)), (1, (0, ha)), (2, (0, ye))], [], (w, bd, fc, 0, 0, rr)) (fun φ => ∃ n w', xEnd 4 [(0, n)] (w', bd, fc, 0, 0, rr) φ ∧ (n ≤ 1) ∧ xMnv w' ∧ xFr [82] w w')
  obtain ⟨f82_1, f82_3, f82_5, f82_7, f82_9, f82_11, f82_13, f82_15, f82_17, f82_19, f82_21, f82_22, f82_23, f82_25, f82_27, f82_29, h82_31, hb2, hb4, hb6, hb8, hb10, hb12, hb14, hb16, hb18, hb20, hb24, hb26, hb28, hb30, hb32⟩ := (hI 82 (by decide) (by decide) : cp82 (wget w 82))
  replace hb4 := xHid.of hb4
  replace hb10 := xHid.of hb10
  replace hb14 := xHid.of hb14
  replace hb16 := xHid.of hb16
  replace hb20 := xHid.of hb20
  replace hb24 := xHid.of hb24
  replace hb26 := xHid.of hb26
  replace hb28 := xHid.of hb28
  replace hb30 := xHid.of hb30
  obtain ⟨g83_33, h83_34, hb35, hx36⟩ := (hI 83 (by decide) (by decide) : cpx83 (wget w 83))
  have h83_34 : xRow w 83 5360 50 g83_33 := h83_34
  refine xg_t (xg_blk (b := [(0, 3, 5, 950, 0, 0), (3, 1, 3, 3, 0, 0), (4, 1, 2, 1, 0, 0), (5, 1, 16, 0, 0, 0), (6, 1, 11, 0, 0, 0), (7, 1, 15, 3, 0, 0), (8, 1, 3, 0, 0, 0), (9, 2, 15, 4, 0, 0), (11, 1, 3, 0, 0, 0), (12, 2, 15, 5, 0, 0)]) rfl) ?_
  refine xg_t (xg_sip) ?_
  refine xg_t (xg_const) ?_
  refine xg_t (xg_iload (va := (0, ha)) rfl rfl) ?_
  refine xg_t (xg_imul (u := 3) (v := ha) (z := 3 * ha) xnm0 xnm0 (by omega)) ?_
  refine xg_t (xg_iadd (u := 950) (v := 3 * ha) (z := 950 + (3 * ha)) xnm0 xnm0 (by omega)) ?_
  refine xg_t (xg_istore (l1 := [(0, (2, 82)), (1, (0, ha)), (2, (0, ye))]) rfl rfl rfl) ?_
  refine xg_t (xg_const) ?_
  refine xg_t (xg_istore (l1 := [(3, (0, 950 + (3 * ha))), (0, (2, 82)), (1, (0, ha)), (2, (0, ye))]) rfl rfl rfl) ?_
  refine xg_t (xg_const) ?_
  refine xg_t (xg_istore (l1 := [(4, (0, 0)), (3, (0, 950 + (3 * ha))), (0, (2, 82)), (1, (0, ha)), (2, (0, ye))]) rfl rfl rfl) ?_
  refine xg_t (xg_drop (l1 := [(0, (2, 82)), (1, (0, ha)), (2, (0, ye)), (3, (0, 950 + (3 * ha))), (4, (0, 0)), (5, (0, 0))]) (List.forall_mem_cons.mpr ⟨List.mem_cons_of_mem _ (List.mem_cons_of_mem _ (List.mem_cons_of_mem _ (List.mem_cons_self))), List.forall_mem_cons.mpr ⟨List.mem_cons_of_mem _ (List.mem_cons_of_mem _ (List.mem_cons_of_mem _ (List.mem_cons_of_mem _ (List.mem_cons_self)))), List.forall_mem_cons.mpr ⟨List.mem_cons_of_mem _ (List.mem_cons_of_mem _ (List.mem_cons_of_mem _ (List.mem_cons_of_mem _ (List.mem_cons_of_mem _ (List.mem_cons_self))))), List.forall_mem_cons.mpr ⟨List.mem_cons_of_mem _ (List.mem_cons_of_mem _ (List.mem_cons_self)), List.forall_mem_cons.mpr ⟨List.mem_cons_of_mem _ (List.mem_cons_self), List.forall_mem_cons.mpr ⟨List.mem_cons_self, fun _ h => absurd h List.not_mem_nil⟩⟩⟩⟩⟩⟩)) ?_
  have key37 : ∀ (m39 : Nat) (is_ pi_ : Nat) (w40 : List (List xE)), 6 - pi_ < m39 → is_ ≤ 1 → pi_ ≤ 6 → xMnv w40 → xFr [82] w w40 → xTo (d + 3) mX12_breaks (14, [], [(0, (2, 82)), (1, (0, ha)), (2, (0, ye)), (3, (0, 950 + (3 * ha))), (4, (0, is_)), (5, (0, pi_))], [], (w40, bd, fc, 0, 0, rr)) (fun φ => ∃ n w', xEnd 4 [(0, n)] (w', bd, fc, 0, 0, rr) φ ∧ (n ≤ 1) ∧ xMnv w' ∧ xFr [82] w w') := by
    intro m39
    induction m39 with
    | zero => intro is_ pi_ w40 hz; exact absurd hz (Nat.not_lt_zero _)
    | succ m39 ih38 =>
      intro is_ pi_ w40 hm45 hn43 hn44 hI41 hF42
      refine xg_t (xg_blk (b := [(14, 2, 2, 5, 0, 0), (16, 1, 0, 0, 0, 0), (17, 3, 1, 12, 0, 7), (20, 1, 3, 0, 0, 0), (21, 1, 10, 0, 0, 0), (22, 3, 6, 134, 3, 0), (25, 2, 2, 4, 0, 0), (27, 3, 7, 134, 1, 0), (30, 1, 0, 0, 0, 0), (31, 2, 2, 5, 0, 0), (33, 1, 0, 0, 0, 0), (34, 3, 1, 12, 0, 7), (37, 1, 3, 2, 0, 0), (38, 1, 10, 0, 0, 0), (39, 3, 13, 231, 96, 273), (42, 1, 0, 0, 0, 0), (43, 2, 2, 5, 0, 0), (45, 1, 0, 0, 0, 0), (46, 3, 1, 12, 0, 7), (49, 1, 2, 3, 0, 0), (50, 1, 3, 2, 0, 0), (51, 1, 11, 0, 0, 0), (52, 1, 10, 0, 0, 0), (53, 3, 13, 188, 96, 270), (56, 2, 15, 6, 0, 0), (58, 2, 2, 6, 0, 0), (60, 3, 7, 109, 2, 0), (63, 1, 0, 0, 0, 0), (64, 1, 19, 0, 0, 0), (65, 3, 1, 12, 22, 267), (68, 1, 0, 0, 0, 0), (69, 3, 1, 12, 23, 263), (72, 1, 0, 0, 0, 0), (73, 3, 1, 12, 0, 7), (76, 2, 4, 50, 0, 0), (78, 1, 3, 2, 0, 0), (79, 2, 2, 6, 0, 0), (81, 1, 16, 0, 0, 0), (82, 1, 11, 0, 0, 0), (83, 1, 3, 1, 0, 0), (84, 1, 11, 0, 0, 0), (85, 1, 10, 0, 0, 0), (86, 1, 49, 0, 0, 0), (87, 1, 67, 0, 0, 0), (88, 3, 52, 365, 0, 385), (91, 1, 2, 2, 0, 0), (92, 1, 49, 0, 0, 0), (93, 1, 55, 0, 0, 0), (94, 1, 0, 0, 0, 0), (95, 3, 1, 12, 0, 7), (98, 1, 2, 3, 0, 0), (99, 1, 3, 1, 0, 0), (100, 1, 11, 0, 0, 0), (101, 1, 10, 0, 0, 0), (102, 1, 49, 0, 0, 0), (103, 1, 55, 0, 0, 0), (104, 1, 55, 0, 0, 0), (105, 1, 56, 0, 0, 0), (106, 3, 71, 12, 22, 267)]) rfl) ?_
      refine xg_t (xg_iload (va := (0, pi_)) rfl rfl) ?_
      refine xg_t (xg_aload (va := (2, 82)) rfl rfl) ?_
      obtain ⟨f82_46, f82_48, f82_50, f82_52, f82_54, f82_56, f82_58, f82_60, f82_62, f82_64, f82_66, f82_67, f82_68, f82_70, f82_72, f82_74, h82_76, hb47, hb49, hb51, hb53, hb55, hb57, hb59, hb61, hb63, hb65, hb69, hb71, hb73, hb75, hb77⟩ := (hI41 82 (by decide) (by decide) : cp82 (wget w40 82))
      replace hb49 := xHid.of hb49
      replace hb55 := xHid.of hb55
      replace hb59 := xHid.of hb59
      replace hb61 := xHid.of hb61
      replace hb65 := xHid.of hb65
      replace hb69 := xHid.of hb69
      replace hb71 := xHid.of hb71
      replace hb73 := xHid.of hb73
      replace hb75 := xHid.of hb75
      refine xg_t (xg_getf (va := (2, 83)) h82_76 rfl) ?_
      refine xg_t (xg_const) ?_
      refine xg_ialdB (n := 0) (B := 4294967295) (h83_34.fr hF42 (by decide)) (hb35) xnm0 (by omega) (fun u78 hu79 he80 => ?_)
      have hl81 : u78 ≤ 6 := by rw [← he80]; exact hx36.l0
      by_cases hc82 : pi_ < u78
      · refine xg_t (xg_icF (u := pi_) (v := u78) rfl xnm0 xnm0 (xj_geF hc82 (by omega))) ?_
        refine xg_t (xg_iload (va := (0, is_)) rfl rfl) ?_
        by_cases hc83 : is_ = 0
        · refine xg_t (xg_ifF (u := is_) rfl xnm0 (xj_neF hc83)) ?_
          refine xg_t (xg_aload (va := (2, 82)) rfl rfl) ?_
          refine xg_t (xg_iload (va := (0, pi_)) rfl rfl) ?_
          refine xg_t (xg_aload (va := (2, 82)) rfl rfl) ?_
          refine xg_t (xg_getf (va := (2, 83)) h82_76 rfl) ?_
          refine xg_t (xg_const) ?_
          refine xg_ialdB (n := 2) (B := 4294967295) (h83_34.fr hF42 (by decide)) (hb35) xnm0 (by omega) (fun u84 hu85 he86 => ?_)
          have hl87 : u84 ≤ 6 := by rw [← he86]; exact hx36.l2
          refine xg_cVv mX12_tires (vs := [(0, pi_), (0, u84)]) (rest := []) (cn1 := 0) (sl1 := 0) rfl (mTires (hI41) (by omega) (by omega) (h83_34.fr hF42 (by decide)) hb35 hx36) rfl h82_76 rfl rfl rfl rfl rfl rfl (fun w88 hq89 => ?_)
          obtain ⟨hI90, hF91, hx92⟩ := hq89
          obtain ⟨f82_93, f82_95, f82_97, f82_99, f82_101, f82_103, f82_105, f82_107, f82_109, f82_111, f82_113, f82_114, f82_115, f82_117, f82_119, f82_121, h82_123, hb94, hb96, hb98, hb100, hb102, hb104, hb106, hb108, hb110, hb112, hb116, hb118, hb120, hb122, hb124⟩ := (hI90 82 (by decide) (by decide) : cp82 (wget w88 82))
          replace hb96 := xHid.of hb96
          replace hb102 := xHid.of hb102
          replace hb106 := xHid.of hb106
          replace hb108 := xHid.of hb108
          replace hb112 := xHid.of hb112
          replace hb116 := xHid.of hb116
          replace hb118 := xHid.of hb118
          replace hb120 := xHid.of hb120
          replace hb122 := xHid.of hb122
          have hw127 : fld w88 82 23 = f82_114 := fld_of h82_123
          obtain ⟨hw125, hw126⟩ := hx92
          rw [hw127] at hw125 hw126
          refine xg_t (xg_aload (va := (2, 82)) rfl rfl) ?_
          refine xg_t (xg_iload (va := (0, pi_)) rfl rfl) ?_
          refine xg_t (xg_aload (va := (2, 82)) rfl rfl) ?_
          refine xg_t (xg_getf (va := (2, 83)) h82_123 rfl) ?_
          refine xg_t (xg_iload (va := (0, 950 + (3 * ha))) rfl rfl) ?_
          refine xg_t (xg_const) ?_
          refine xg_t (xg_iadd (u := 950 + (3 * ha)) (v := 2) (z := (950 + (3 * ha)) + 2) xnm0 xnm0 (by omega)) ?_
          refine xg_ialdB (n := (950 + (3 * ha)) + 2) (B := 4294967295) ((h83_34.fr hF42 (by decide)).fr hF91 (by decide)) (hb35) xnm0 (by omega) (fun u128 hu129 he130 => ?_)
          refine xg_cVi mX12_lifeOf (vs := [(0, pi_), (0, u128)]) (rest := []) (cn1 := 0) (sl1 := 0) rfl (mLifeOf (hI90) (by omega) (by omega) ((h83_34.fr hF42 (by decide)).fr hF91 (by decide)) hb35 hx36) rfl h82_123 rfl rfl rfl rfl rfl rfl (fun n135 w131 hq132 => ?_)
          obtain ⟨hn136, hI133, hF134⟩ := hq132
          have hl137 := hx36.l1
          refine xg_t (xg_istore (l1 := [(0, (2, 82)), (1, (0, ha)), (2, (0, ye)), (3, (0, 950 + (3 * ha))), (4, (0, is_)), (5, (0, pi_))]) rfl rfl rfl) ?_
          refine xg_t (xg_iload (va := (0, n135)) rfl rfl) ?_
          by_cases hc138 : n135 < 2147483648
          · have hn139 : n135 ≤ 3 := by omega
            refine xg_t (xg_ifF (u := n135) rfl xnm0 (xjz_ltF hc138)) ?_
            refine xg_t (xg_aload (va := (2, 82)) rfl rfl) ?_
            refine xg_t (xg_dup rfl) ?_
            refine xg_t (xg_getf (va := (4, f82_113)) (hF134.get (by decide) h82_123) rfl) ?_
            refine xg_t (xg_aload (va := (2, 82)) rfl rfl) ?_
            refine xg_t (xg_getf (va := (4, f82_114)) (hF134.get (by decide) h82_123) rfl) ?_
            refine xg_t (xg_aload (va := (2, 82)) rfl rfl) ?_
            refine xg_t (xg_getf (va := (2, 83)) (hF134.get (by decide) h82_123) rfl) ?_
            refine xg_t (xg_bip) ?_
            refine xg_t (xg_const) ?_
            refine xg_t (xg_iload (va := (0, n135)) rfl rfl) ?_
            refine xg_t (xg_imul (u := 2) (v := n135) (z := 2 * n135) xnm0 xnm0 (by omega)) ?_
            refine xg_t (xg_iadd (u := 50) (v := 2 * n135) (z := 50 + (2 * n135)) xnm0 xnm0 (by omega)) ?_
            refine xg_t (xg_const) ?_
            refine xg_t (xg_iadd (u := 50 + (2 * n135)) (v := 1) (z := (50 + (2 * n135)) + 1) xnm0 xnm0 (by omega)) ?_
            refine xg_ialdB (n := (50 + (2 * n135)) + 1) (B := 4294967295) (((h83_34.fr hF42 (by decide)).fr hF91 (by decide)).fr hF134 (by decide)) (hb35) xnm0 (by omega) (fun u140 hu141 he142 => ?_)
            have hv143 := hx36.lif (k := n135) (by omega)
            rw [show 51 + 2 * n135 = (50 + (2 * n135)) + 1 by omega, he142] at hv143
            refine xg_t (xg_i2l (u := u140) xnm0) ?_
            refine xg_t (xg_lre (b := u140) (by rw [xlp_eq]; exact nI_l (by omega))) ?_
            refine xg_kl (xg_ldiv (u := f82_114) (v := u140) (lN_ne0 (by omega) (by omega))) (fun l144 => ?_)
            refine xg_t (xg_ldc2) ?_
            refine xg_t (xg_iload (va := (0, ye)) rfl rfl) ?_
            refine xg_kl (xg_i2l (u := ye) xnm0) (fun l145 => ?_)
            refine xg_kl (xg_lmul (u := 365) (v := l145)) (fun l146 => ?_)
            refine xg_t (xg_aload (va := (2, 82)) rfl rfl) ?_
            refine xg_t (xg_getf (va := (2, 83)) (hF134.get (by decide) h82_123) rfl) ?_
            refine xg_t (xg_iload (va := (0, 950 + (3 * ha))) rfl rfl) ?_
            refine xg_t (xg_const) ?_
            refine xg_t (xg_iadd (u := 950 + (3 * ha)) (v := 1) (z := (950 + (3 * ha)) + 1) xnm0 xnm0 (by omega)) ?_
            refine xg_ialdB (n := (950 + (3 * ha)) + 1) (B := 4294967295) (((h83_34.fr hF42 (by decide)).fr hF91 (by decide)).fr hF134 (by decide)) (hb35) xnm0 (by omega) (fun u147 hu148 he149 => ?_)
            refine xg_kl (xg_i2l (u := u147) xnm0) (fun l150 => ?_)
            refine xg_kl (xg_lmul (u := l146) (v := l150)) (fun l151 => ?_)
            refine xg_kl (xg_lmul (u := l144) (v := l151)) (fun l152 => ?_)
            refine xg_kl (xg_ladd (u := f82_113) (v := l152)) (fun l153 => ?_)
            refine xg_putJ (fl1 := [(2, 83), (2, 84), (0, f82_93), (0, f82_95), (0, f82_97), (0, f82_99), (0, f82_101), (0, f82_103), (0, f82_105), (0, f82_107), (0, f82_109), (2, 85), (2, 86), (2, 87), (0, f82_111), (2, 88), (2, 89), (2, 90), (2, 91), (2, 92), (2, 93), (2, 94), (4, l153), (4, f82_114), (0, f82_115), (2, 95), (2, 96), (2, 97), (2, 98), (2, 99), (2, 100), (2, 101), (2, 102), (0, f82_117), (2, 103), (2, 104), (2, 105), (2, 106), (2, 107), (2, 108), (2, 109), (0, f82_119), (0, f82_121), (2, 110), (2, 111), (2, 112), (2, 113)]) (hF134.get (by decide) h82_123) rfl rfl (fun w154 hk155 hb156 => ?_)
            refine xg_t (xg_blk (b := [(109, 1, 0, 0, 0, 0), (110, 3, 1, 12, 22, 267), (113, 1, 0, 0, 0, 0), (114, 3, 1, 12, 23, 263), (117, 1, 57, 0, 0, 0), (118, 3, 7, 125, 2, 0), (121, 1, 3, 1, 0, 0), (122, 3, 8, 126, 0, 0)]) rfl) ?_
            refine xg_t (xg_aload (va := (2, 82)) rfl rfl) ?_
            refine xg_t (xg_getf (va := (4, l153)) hk155 rfl) ?_
            refine xg_t (xg_aload (va := (2, 82)) rfl rfl) ?_
            refine xg_t (xg_getf (va := (4, f82_114)) hk155 rfl) ?_
            refine xg_k (xg_lcmp (u := l153) (v := f82_114)) (xpt_lt _) (fun z157 hz158 => ?_)
            by_cases hc159 : z157 < 2147483648
            · refine xg_t (xg_ifF (u := z157) rfl xnm0 (xjz_ltF hc159)) ?_
              refine xg_t (xg_const) ?_
              refine xg_t (xg_goto) ?_
              refine xg_t (xg_blk (b := [(126, 2, 15, 4, 0, 0), (128, 3, 9, 5, 1, 0), (131, 3, 8, 14, 0, 0)]) rfl) ?_
              refine xg_t (xg_istore (l1 := [(6, (0, n135)), (0, (2, 82)), (1, (0, ha)), (2, (0, ye)), (3, (0, 950 + (3 * ha))), (5, (0, pi_))]) rfl rfl rfl) ?_
              refine xg_t (xg_iinc (u := pi_) (z := pi_ + 1) (l1 := [(4, (0, 1)), (6, (0, n135)), (0, (2, 82)), (1, (0, ha)), (2, (0, ye)), (3, (0, 950 + (3 * ha)))]) rfl rfl (by omega) rfl) ?_
              refine xg_t (xg_goto) ?_
              refine xg_t (xg_drop (l1 := [(0, (2, 82)), (1, (0, ha)), (2, (0, ye)), (3, (0, 950 + (3 * ha))), (4, (0, 1)), (5, (0, pi_ + 1))]) (List.forall_mem_cons.mpr ⟨List.mem_cons_of_mem _ (List.mem_cons_of_mem _ (List.mem_cons_of_mem _ (List.mem_cons_self))), List.forall_mem_cons.mpr ⟨List.mem_cons_of_mem _ (List.mem_cons_of_mem _ (List.mem_cons_of_mem _ (List.mem_cons_of_mem _ (List.mem_cons_self)))), List.forall_mem_cons.mpr ⟨List.mem_cons_of_mem _ (List.mem_cons_of_mem _ (List.mem_cons_of_mem _ (List.mem_cons_of_mem _ (List.mem_cons_of_mem _ (List.mem_cons_self))))), List.forall_mem_cons.mpr ⟨List.mem_cons_of_mem _ (List.mem_cons_of_mem _ (List.mem_cons_of_mem _ (List.mem_cons_of_mem _ (List.mem_cons_of_mem _ (List.mem_cons_of_mem _ (List.mem_cons_self)))))), List.forall_mem_cons.mpr ⟨List.mem_cons_of_mem _ (List.mem_cons_self), List.forall_mem_cons.mpr ⟨List.mem_cons_self, fun _ h => absurd h List.not_mem_nil⟩⟩⟩⟩⟩⟩)) ?_
              exact ih38 1 (pi_ + 1) w154 (by omega) (by omega) (by omega) (xMnv.up (S := [82]) hI133 (xFr.of (S := [82]) hb156 (by decide)) (List.forall_mem_cons.mpr ⟨(show cp82 (wget w154 82) from ⟨f82_93, f82_95, f82_97, f82_99, f82_101, f82_103, f82_105, f82_107, f82_109, f82_111, l153, f82_114, f82_115, f82_117, f82_119, f82_121, hk155, by omega, hb96, by omega, by omega, hb102, by omega, hb106, hb108, by omega, hb112, hb116, hb118, hb120, hb122, by omega⟩), fun _ h => absurd h List.not_mem_nil⟩)) ((((hF42.tr (hF91.up (by decide))).tr (hF134.up (by decide))).tr (xFr.of (S := [82]) hb156 (by decide))))
            · refine xg_t (xg_ifT (u := z157) rfl xnm0 (xjz_ltT (by omega) (by omega))) ?_
              refine xg_t (xg_blk (b := [(125, 1, 3, 0, 0, 0)]) rfl) ?_
              refine xg_t (xg_const) ?_
              refine xg_t (xg_blk (b := [(126, 2, 15, 4, 0, 0), (128, 3, 9, 5, 1, 0), (131, 3, 8, 14, 0, 0)]) rfl) ?_
              refine xg_t (xg_istore (l1 := [(6, (0, n135)), (0, (2, 82)), (1, (0, ha)), (2, (0, ye)), (3, (0, 950 + (3 * ha))), (5, (0, pi_))]) rfl rfl rfl) ?_
              refine xg_t (xg_iinc (u := pi_) (z := pi_ + 1) (l1 := [(4, (0, 0)), (6, (0, n135)), (0, (2, 82)), (1, (0, ha)), (2, (0, ye)), (3, (0, 950 + (3 * ha)))]) rfl rfl (by omega) rfl) ?_
              refine xg_t (xg_goto) ?_
              refine xg_t (xg_drop (l1 := [(0, (2, 82)), (1, (0, ha)), (2, (0, ye)), (3, (0, 950 + (3 * ha))), (4, (0, 0)), (5, (0, pi_ + 1))]) (List.forall_mem_cons.mpr ⟨List.mem_cons_of_mem _ (List.mem_cons_of_mem _ (List.mem_cons_of_mem _ (List.mem_cons_self))), List.forall_mem_cons.mpr ⟨List.mem_cons_of_mem _ (List.mem_cons_of_mem _ (List.mem_cons_of_mem _ (List.mem_cons_of_mem _ (List.mem_cons_self)))), List.forall_mem_cons.mpr ⟨List.mem_cons_of_mem _ (List.mem_cons_of_mem _ (List.mem_cons_of_mem _ (List.mem_cons_of_mem _ (List.mem_cons_of_mem _ (List.mem_cons_self))))), List.forall_mem_cons.mpr ⟨List.mem_cons_of_mem _ (List.mem_cons_of_mem _ (List.mem_cons_of_mem _ (List.mem_cons_of_mem _ (List.mem_cons_of_mem _ (List.mem_cons_of_mem _ (List.mem_cons_self)))))), List.forall_mem_cons.mpr ⟨List.mem_cons_of_mem _ (List.mem_cons_self), List.forall_mem_cons.mpr ⟨List.mem_cons_self, fun _ h => absurd h List.not_mem_nil⟩⟩⟩⟩⟩⟩)) ?_
              exact ih38 0 (pi_ + 1) w154 (by omega) (by omega) (by omega) (xMnv.up (S := [82]) hI133 (xFr.of (S := [82]) hb156 (by decide)) (List.forall_mem_cons.mpr ⟨(show cp82 (wget w154 82) from ⟨f82_93, f82_95, f82_97, f82_99, f82_101, f82_103, f82_105, f82_107, f82_109, f82_111, l153, f82_114, f82_115, f82_117, f82_119, f82_121, hk155, by omega, hb96, by omega, by omega, hb102, by omega, hb106, hb108, by omega, hb112, hb116, hb118, hb120, hb122, by omega⟩), fun _ h => absurd h List.not_mem_nil⟩)) ((((hF42.tr (hF91.up (by decide))).tr (hF134.up (by decide))).tr (xFr.of (S := [82]) hb156 (by decide))))
          · refine xg_t (xg_ifT (u := n135) rfl xnm0 (xjz_ltT (by omega) (by omega))) ?_
            refine xg_t (xg_blk (b := [(109, 1, 0, 0, 0, 0), (110, 3, 1, 12, 22, 267), (113, 1, 0, 0, 0, 0), (114, 3, 1, 12, 23, 263), (117, 1, 57, 0, 0, 0), (118, 3, 7, 125, 2, 0), (121, 1, 3, 1, 0, 0), (122, 3, 8, 126, 0, 0)]) rfl) ?_
            refine xg_t (xg_aload (va := (2, 82)) rfl rfl) ?_
            refine xg_t (xg_getf (va := (4, f82_113)) (hF134.get (by decide) h82_123) rfl) ?_
            refine xg_t (xg_aload (va := (2, 82)) rfl rfl) ?_
            refine xg_t (xg_getf (va := (4, f82_114)) (hF134.get (by decide) h82_123) rfl) ?_
            refine xg_k (xg_lcmp (u := f82_113) (v := f82_114)) (xpt_lt _) (fun z160 hz161 => ?_)
            by_cases hc162 : z160 < 2147483648
            · refine xg_t (xg_ifF (u := z160) rfl xnm0 (xjz_ltF hc162)) ?_
              refine xg_t (xg_const) ?_
              refine xg_t (xg_goto) ?_
              refine xg_t (xg_blk (b := [(126, 2, 15, 4, 0, 0), (128, 3, 9, 5, 1, 0), (131, 3, 8, 14, 0, 0)]) rfl) ?_
              refine xg_t (xg_istore (l1 := [(6, (0, n135)), (0, (2, 82)), (1, (0, ha)), (2, (0, ye)), (3, (0, 950 + (3 * ha))), (5, (0, pi_))]) rfl rfl rfl) ?_
              refine xg_t (xg_iinc (u := pi_) (z := pi_ + 1) (l1 := [(4, (0, 1)), (6, (0, n135)), (0, (2, 82)), (1, (0, ha)), (2, (0, ye)), (3, (0, 950 + (3 * ha)))]) rfl rfl (by omega) rfl) ?_
              refine xg_t (xg_goto) ?_
              refine xg_t (xg_drop (l1 := [(0, (2, 82)), (1, (0, ha)), (2, (0, ye)), (3, (0, 950 + (3 * ha))), (4, (0, 1)), (5, (0, pi_ + 1))]) (List.forall_mem_cons.mpr ⟨List.mem_cons_of_mem _ (List.mem_cons_of_mem _ (List.mem_cons_of_mem _ (List.mem_cons_self))), List.forall_mem_cons.mpr ⟨List.mem_cons_of_mem _ (List.mem_cons_of_mem _ (List.mem_cons_of_mem _ (List.mem_cons_of_mem _ (List.mem_cons_self)))), List.forall_mem_cons.mpr ⟨List.mem_cons_of_mem _ (List.mem_cons_of_mem _ (List.mem_cons_of_mem _ (List.mem_cons_of_mem _ (List.mem_cons_of_mem _ (List.mem_cons_self))))), List.forall_mem_cons.mpr ⟨List.mem_cons_of_mem _ (List.mem_cons_of_mem _ (List.mem_cons_of_mem _ (List.mem_cons_of_mem _ (List.mem_cons_of_mem _ (List.mem_cons_of_mem _ (List.mem_cons_self)))))), List.forall_mem_cons.mpr ⟨List.mem_cons_of_mem _ (List.mem_cons_self), List.forall_mem_cons.mpr ⟨List.mem_cons_self, fun _ h => absurd h List.not_mem_nil⟩⟩⟩⟩⟩⟩)) ?_
              exact ih38 1 (pi_ + 1) w131 (by omega) (by omega) (by omega) (hI133) (((hF42.tr (hF91.up (by decide))).tr (hF134.up (by decide))))
            · refine xg_t (xg_ifT (u := z160) rfl xnm0 (xjz_ltT (by omega) (by omega))) ?_
              refine xg_t (xg_blk (b := [(125, 1, 3, 0, 0, 0)]) rfl) ?_
              refine xg_t (xg_const) ?_
              refine xg_t (xg_blk (b := [(126, 2, 15, 4, 0, 0), (128, 3, 9, 5, 1, 0), (131, 3, 8, 14, 0, 0)]) rfl) ?_
              refine xg_t (xg_istore (l1 := [(6, (0, n135)), (0, (2, 82)), (1, (0, ha)), (2, (0, ye)), (3, (0, 950 + (3 * ha))), (5, (0, pi_))]) rfl rfl rfl) ?_
              refine xg_t (xg_iinc (u := pi_) (z := pi_ + 1) (l1 := [(4, (0, 0)), (6, (0, n135)), (0, (2, 82)), (1, (0, ha)), (2, (0, ye)), (3, (0, 950 + (3 * ha)))]) rfl rfl (by omega) rfl) ?_
              refine xg_t (xg_goto) ?_
              refine xg_t (xg_drop (l1 := [(0, (2, 82)), (1, (0, ha)), (2, (0, ye)), (3, (0, 950 + (3 * ha))), (4, (0, 0)), (5, (0, pi_ + 1))]) (List.forall_mem_cons.mpr ⟨List.mem_cons_of_mem _ (List.mem_cons_of_mem _ (List.mem_cons_of_mem _ (List.mem_cons_self))), List.forall_mem_cons.mpr ⟨List.mem_cons_of_mem _ (List.mem_cons_of_mem _ (List.mem_cons_of_mem _ (List.mem_cons_of_mem _ (List.mem_cons_self)))), List.forall_mem_cons.mpr ⟨List.mem_cons_of_mem _ (List.mem_cons_of_mem _ (List.mem_cons_of_mem _ (List.mem_cons_of_mem _ (List.mem_cons_of_mem _ (List.mem_cons_self))))), List.forall_mem_cons.mpr ⟨List.mem_cons_of_mem _ (List.mem_cons_of_mem _ (List.mem_cons_of_mem _ (List.mem_cons_of_mem _ (List.mem_cons_of_mem _ (List.mem_cons_of_mem _ (List.mem_cons_self)))))), List.forall_mem_cons.mpr ⟨List.mem_cons_of_mem _ (List.mem_cons_self), List.forall_mem_cons.mpr ⟨List.mem_cons_self, fun _ h => absurd h List.not_mem_nil⟩⟩⟩⟩⟩⟩)) ?_
              exact ih38 0 (pi_ + 1) w131 (by omega) (by omega) (by omega) (hI133) (((hF42.tr (hF91.up (by decide))).tr (hF134.up (by decide))))
        · refine xg_t (xg_ifT (u := is_) rfl xnm0 (xj_neT hc83)) ?_
          refine xg_t (xg_blk (b := [(134, 2, 2, 4, 0, 0), (136, 1, 12, 0, 1, 0)]) rfl) ?_
          refine xg_t (xg_iload (va := (0, is_)) rfl rfl) ?_
          exact xg_e ⟨is_, w40, ⟨xret_b (by omega), rfl⟩, by omega, hI41, hF42⟩
      · refine xg_t (xg_icT (u := pi_) (v := u78) rfl xnm0 xnm0 (xj_geT (by omega) (by omega))) ?_
        refine xg_t (xg_blk (b := [(134, 2, 2, 4, 0, 0), (136, 1, 12, 0, 1, 0)]) rfl) ?_
        refine xg_t (xg_iload (va := (0, is_)) rfl rfl) ?_
        exact xg_e ⟨is_, w40, ⟨xret_b (by omega), rfl⟩, by omega, hI41, hF42⟩
  exact key37 _ 0 0 w (Nat.lt_succ_self _) (by omega) (by omega) (hI) (xFr.rf)
theorem mBroken {ha ye : Nat} (hI : xMnv w) (hha : ha ≤ 4294967295) (hye : ye ≤ 4294967295) : xPi (d + 4) mX12_broken [(2, 82), (0, ha), (0, ye)] w bd fc rr (fun n w' => (n ≤ 1) ∧ xMnv w' ∧ xFr [82, 88, 90, 91, 92, 93, 94] w w') := by
  refine xPi.of ?_
  show xTo (d + 4) mX12_broken (0, [], [(0, (2, 82)), (1, (0, ha)), (2, (0, ye))], [], (w, bd, fc, 0, 0, rr)) (fun φ => ∃ n w', xEnd 4 [(0, n)] (w', bd, fc, 0, 0, rr) φ ∧ (n ≤ 1) ∧ xMnv w' ∧ xFr [82, 88, 90, 91, 92, 93, 94] w w')
  obtain ⟨f82_1, f82_3, f82_5, f82_7, f82_9, f82_11, f82_13, f82_15, f82_17, f82_19, f82_21, f82_22, f82_23, f82_25, f82_27, f82_29, h82_31, hb2, hb4, hb6, hb8, hb10, hb12, hb14, hb16, hb18, hb20, hb24, hb26, hb28, hb30, hb32⟩ := (hI 82 (by decide) (by decide) : cp82 (wget w 82))
  replace hb4 := xHid.of hb4
  replace hb10 := xHid.of hb10
  replace hb14 := xHid.of hb14
  replace hb16 := xHid.of hb16
  replace hb20 := xHid.of hb20
  replace hb24 := xHid.of hb24
  replace hb26 := xHid.of hb26
  replace hb28 := xHid.of hb28
  replace hb30 := xHid.of hb30
  obtain ⟨g83_33, h83_34, hb35, hx36⟩ := (hI 83 (by decide) (by decide) : cpx83 (wget w 83))
  have h83_34 : xRow w 83 5360 50 g83_33 := h83_34
  refine xg_t (xg_blk (b := [(0, 1, 0, 0, 0, 0), (1, 1, 2, 1, 0, 0), (2, 3, 5, 900, 0, 0), (5, 3, 13, 168, 96, 241), (8, 3, 7, 21, 0, 0), (11, 1, 2, 2, 0, 0), (12, 1, 3, 0, 0, 0), (13, 2, 4, 30, 0, 0), (15, 3, 13, 161, 98, 105), (18, 3, 7, 23, 1, 0)]) rfl) ?_
  refine xg_t (xg_aload (va := (2, 82)) rfl rfl) ?_
  refine xg_t (xg_iload (va := (0, ha)) rfl rfl) ?_
  refine xg_t (xg_sip) ?_
  have hl37 := hx36.l900
  refine xg_cVi mX12_isOf (vs := [(0, ha), (0, 900)]) (rest := []) (cn1 := 0) (sl1 := 0) rfl (mOf900 (hI) (by omega) h83_34 hb35 hx36) rfl h82_31 rfl rfl rfl rfl rfl rfl (fun n42 w38 hq39 => ?_)
  obtain ⟨hn43, hI40, hF41⟩ := hq39
  by_cases hc44 : n42 = 0
  · refine xg_t (xg_ifT (u := n42) rfl xnm0 (xj_eqT hc44)) ?_
    refine xg_t (xg_blk (b := [(21, 1, 3, 0, 0, 0), (22, 1, 12, 0, 1, 0)]) rfl) ?_
    refine xg_t (xg_const) ?_
    exact xg_e ⟨0, w38, ⟨rfl, rfl⟩, by omega, hI40, (hF41.up (by decide))⟩
  · refine xg_t (xg_ifF (u := n42) rfl xnm0 (xj_eqF hc44)) ?_
    refine xg_t (xg_iload (va := (0, ye)) rfl rfl) ?_
    refine xg_t (xg_const) ?_
    refine xg_t (xg_bip) ?_
    refine xg_t (xg_cSr mX12_isIn (vs := [(0, ye), (0, 0), (0, 30)]) (rest := []) (rs := [(0, if 0 ≤ ye ∧ ye ≤ 30 then 1 else 0)]) (cn1 := 0) (sl1 := 0) rfl (mIsIn (by omega) (by omega) (by omega)) rfl rfl rfl rfl rfl rfl rfl rfl) ?_
    by_cases hc45 : 0 ≤ ye ∧ ye ≤ 30
    · refine xg_t (xg_ifT (u := (if 0 ≤ ye ∧ ye ≤ 30 then 1 else 0)) rfl xnm0 (xj_neT (xite1 hc45))) ?_
      refine xg_t (xg_blk (b := [(23, 1, 0, 0, 0, 0), (24, 3, 13, 116, 96, 244), (27, 1, 0, 0, 0, 0), (28, 1, 2, 1, 0, 0), (29, 1, 2, 2, 0, 0), (30, 3, 13, 123, 96, 387), (33, 1, 12, 0, 1, 0)]) rfl) ?_
      refine xg_t (xg_aload (va := (2, 82)) rfl rfl) ?_
      refine xg_cVv mX12_asTold (vs := []) (rest := []) (cn1 := 0) (sl1 := 0) rfl (mAsTold (hI40) (h83_34.fr hF41 (by decide)) hb35 hx36) rfl (hF41.get (by decide) h82_31) rfl rfl rfl rfl rfl rfl (fun w46 hq47 => ?_)
      obtain ⟨hI48, hF49, hx50⟩ := hq47
      obtain ⟨o51, U52, hr53, hr54, hr55, hr56, hr57⟩ := hx50
      refine xg_t (xg_aload (va := (2, 82)) rfl rfl) ?_
      refine xg_t (xg_iload (va := (0, ha)) rfl rfl) ?_
      refine xg_t (xg_iload (va := (0, ye)) rfl rfl) ?_
      refine xg_cVi mX12_breaks (vs := [(0, ha), (0, ye)]) (rest := []) (cn1 := 0) (sl1 := 0) rfl (mBreaks (hI48) (by omega) (by omega)) rfl (hF49.get (by decide) (hF41.get (by decide) h82_31)) rfl rfl rfl rfl rfl rfl (fun n62 w58 hq59 => ?_)
      obtain ⟨hn63, hI60, hF61⟩ := hq59
      exact xg_e ⟨n62, w58, ⟨xret_b (by omega), rfl⟩, by omega, hI60, (((hF41.up (by decide)).tr (hF49.up (by decide))).tr (hF61.up (by decide)))⟩
    · refine xg_t (xg_ifF (u := (if 0 ≤ ye ∧ ye ≤ 30 then 1 else 0)) rfl xnm0 (xj_neF (xite0 hc45))) ?_
      refine xg_t (xg_blk (b := [(21, 1, 3, 0, 0, 0), (22, 1, 12, 0, 1, 0)]) rfl) ?_
      refine xg_t (xg_const) ?_
      exact xg_e ⟨0, w38, ⟨rfl, rfl⟩, by omega, hI40, (hF41.up (by decide))⟩
theorem mShareOf {ye : Nat} (hI : xMnv w) (hye : ye ≤ 4294967295) : xPi (d + 4) mX12_shareOf [(2, 82), (0, ye)] w bd fc rr (fun n w' => (n ≤ 4294967295) ∧ xMnv w' ∧ xFr [82, 88, 90, 91, 92, 93, 94] w w') := by
  refine xPi.of ?_
  show xTo (d + 4) mX12_shareOf (0, [], [(0, (2, 82)), (1, (0, ye))], [], (w, bd, fc, 0, 0, rr)) (fun φ => ∃ n w', xEnd 1 [(0, n)] (w', bd, fc, 0, 0, rr) φ ∧ (n ≤ 4294967295) ∧ xMnv w' ∧ xFr [82, 88, 90, 91, 92, 93, 94] w w')
  obtain ⟨f82_1, f82_3, f82_5, f82_7, f82_9, f82_11, f82_13, f82_15, f82_17, f82_19, f82_21, f82_22, f82_23, f82_25, f82_27, f82_29, h82_31, hb2, hb4, hb6, hb8, hb10, hb12, hb14, hb16, hb18, hb20, hb24, hb26, hb28, hb30, hb32⟩ := (hI 82 (by decide) (by decide) : cp82 (wget w 82))
  replace hb4 := xHid.of hb4
  replace hb10 := xHid.of hb10
  replace hb14 := xHid.of hb14
  replace hb16 := xHid.of hb16
  replace hb20 := xHid.of hb20
  replace hb24 := xHid.of hb24
  replace hb26 := xHid.of hb26
  replace hb28 := xHid.of hb28
  replace hb30 := xHid.of hb30
  obtain ⟨g83_33, h83_34, hb35, hx36⟩ := (hI 83 (by decide) (by decide) : cpx83 (wget w 83))
  have h83_34 : xRow w 83 5360 50 g83_33 := h83_34
  refine xg_t (xg_blk (b := [(0, 1, 0, 0, 0, 0), (1, 3, 13, 116, 96, 244), (4, 1, 3, 0, 0, 0), (5, 1, 15, 2, 0, 0), (6, 1, 3, 0, 0, 0), (7, 1, 15, 3, 0, 0), (8, 1, 3, 0, 0, 0), (9, 2, 15, 4, 0, 0)]) rfl) ?_
  refine xg_t (xg_aload (va := (2, 82)) rfl rfl) ?_
  refine xg_cVv mX12_asTold (vs := []) (rest := []) (cn1 := 0) (sl1 := 0) rfl (mAsTold (hI) h83_34 hb35 hx36) rfl h82_31 rfl rfl rfl rfl rfl rfl (fun w37 hq38 => ?_)
  obtain ⟨hI39, hF40, hx41⟩ := hq38
  obtain ⟨o42, U43, hr44, hr45, hr46, hr47, hr48⟩ := hx41
  refine xg_t (xg_const) ?_
  refine xg_t (xg_istore (l1 := [(0, (2, 82)), (1, (0, ye))]) rfl rfl rfl) ?_
  refine xg_t (xg_const) ?_
  refine xg_t (xg_istore (l1 := [(2, (0, 0)), (0, (2, 82)), (1, (0, ye))]) rfl rfl rfl) ?_
  refine xg_t (xg_const) ?_
  refine xg_t (xg_istore (l1 := [(3, (0, 0)), (2, (0, 0)), (0, (2, 82)), (1, (0, ye))]) rfl rfl rfl) ?_
  refine xg_t (xg_drop (l1 := [(0, (2, 82)), (1, (0, ye)), (2, (0, 0)), (3, (0, 0)), (4, (0, 0))]) (List.forall_mem_cons.mpr ⟨List.mem_cons_of_mem _ (List.mem_cons_of_mem _ (List.mem_cons_of_mem _ (List.mem_cons_self))), List.forall_mem_cons.mpr ⟨List.mem_cons_of_mem _ (List.mem_cons_of_mem _ (List.mem_cons_of_mem _ (List.mem_cons_of_mem _ (List.mem_cons_self)))), List.forall_mem_cons.mpr ⟨List.mem_cons_of_mem _ (List.mem_cons_of_mem _ (List.mem_cons_self)), List.forall_mem_cons.mpr ⟨List.mem_cons_of_mem _ (List.mem_cons_self), List.forall_mem_cons.mpr ⟨List.mem_cons_self, fun _ h => absurd h List.not_mem_nil⟩⟩⟩⟩⟩)) ?_
  have key49 : ∀ (m51 : Nat) (fi go_ hi_ : Nat) (w52 : List (List xE)), 4 - hi_ < m51 → fi ≤ 4294967295 → go_ ≤ 4294967295 → hi_ ≤ 4 → xMnv w52 → xFr [82, 88, 90, 91, 92, 93, 94] w w52 → xTo (d + 4) mX12_shareOf (11, [], [(0, (2, 82)), (1, (0, ye)), (2, (0, fi)), (3, (0, go_)), (4, (0, hi_))], [], (w52, bd, fc, 0, 0, rr)) (fun φ => ∃ n w', xEnd 1 [(0, n)] (w', bd, fc, 0, 0, rr) φ ∧ (n ≤ 4294967295) ∧ xMnv w' ∧ xFr [82, 88, 90, 91, 92, 93, 94] w w') := by
    intro m51
    induction m51 with
    | zero => intro fi go_ hi_ w52 hz; exact absurd hz (Nat.not_lt_zero _)
    | succ m51 ih50 =>
      intro fi go_ hi_ w52 hm58 hn55 hn56 hn57 hI53 hF54
      refine xg_t (xg_blk (b := [(11, 2, 2, 4, 0, 0), (13, 1, 0, 0, 0, 0), (14, 3, 1, 12, 0, 7), (17, 3, 5, 900, 0, 0), (20, 1, 10, 0, 0, 0), (21, 3, 6, 76, 3, 0), (24, 1, 2, 2, 0, 0), (25, 1, 0, 0, 0, 0), (26, 3, 1, 12, 0, 7), (29, 3, 5, 950, 0, 0), (32, 1, 3, 3, 0, 0), (33, 2, 2, 4, 0, 0), (35, 1, 16, 0, 0, 0), (36, 1, 11, 0, 0, 0), (37, 1, 10, 0, 0, 0), (38, 1, 11, 0, 0, 0), (39, 1, 15, 2, 0, 0), (40, 1, 2, 3, 0, 0), (41, 1, 0, 0, 0, 0), (42, 2, 2, 4, 0, 0), (44, 1, 2, 1, 0, 0), (45, 3, 13, 123, 96, 387), (48, 3, 7, 67, 0, 0), (51, 1, 0, 0, 0, 0), (52, 3, 1, 12, 0, 7), (55, 3, 5, 950, 0, 0), (58, 1, 3, 3, 0, 0), (59, 2, 2, 4, 0, 0), (61, 1, 16, 0, 0, 0), (62, 1, 11, 0, 0, 0), (63, 1, 10, 0, 0, 0), (64, 3, 8, 68, 0, 0)]) rfl) ?_
      refine xg_t (xg_iload (va := (0, hi_)) rfl rfl) ?_
      refine xg_t (xg_aload (va := (2, 82)) rfl rfl) ?_
      obtain ⟨f82_59, f82_61, f82_63, f82_65, f82_67, f82_69, f82_71, f82_73, f82_75, f82_77, f82_79, f82_80, f82_81, f82_83, f82_85, f82_87, h82_89, hb60, hb62, hb64, hb66, hb68, hb70, hb72, hb74, hb76, hb78, hb82, hb84, hb86, hb88, hb90⟩ := (hI53 82 (by decide) (by decide) : cp82 (wget w52 82))
      replace hb62 := xHid.of hb62
      replace hb68 := xHid.of hb68
      replace hb72 := xHid.of hb72
      replace hb74 := xHid.of hb74
      replace hb78 := xHid.of hb78
      replace hb82 := xHid.of hb82
      replace hb84 := xHid.of hb84
      replace hb86 := xHid.of hb86
      replace hb88 := xHid.of hb88
      refine xg_t (xg_getf (va := (2, 83)) h82_89 rfl) ?_
      refine xg_t (xg_sip) ?_
      refine xg_ialdB (n := 900) (B := 4294967295) (h83_34.fr hF54 (by decide)) (hb35) xnm0 (by omega) (fun u91 hu92 he93 => ?_)
      have hl94 : u91 ≤ 4 := by rw [← he93]; exact hx36.l900
      by_cases hc95 : hi_ < u91
      · refine xg_t (xg_icF (u := hi_) (v := u91) rfl xnm0 xnm0 (xj_geF hc95 (by omega))) ?_
        refine xg_t (xg_iload (va := (0, fi)) rfl rfl) ?_
        refine xg_t (xg_aload (va := (2, 82)) rfl rfl) ?_
        refine xg_t (xg_getf (va := (2, 83)) h82_89 rfl) ?_
        refine xg_t (xg_sip) ?_
        refine xg_t (xg_const) ?_
        refine xg_t (xg_iload (va := (0, hi_)) rfl rfl) ?_
        refine xg_t (xg_imul (u := 3) (v := hi_) (z := 3 * hi_) xnm0 xnm0 (by omega)) ?_
        refine xg_t (xg_iadd (u := 950) (v := 3 * hi_) (z := 950 + (3 * hi_)) xnm0 xnm0 (by omega)) ?_
        refine xg_ialdB (n := 950 + (3 * hi_)) (B := 4294967295) (h83_34.fr hF54 (by decide)) (hb35) xnm0 (by omega) (fun u96 hu97 he98 => ?_)
        refine xg_k (xg_iadd (u := fi) (v := u96) (z := (fi + u96) % 4294967296) xnm0 xnm0 rfl) (Nat.mod_lt _ (by decide)) (fun z99 hz100 => ?_)
        refine xg_t (xg_istore (l1 := [(0, (2, 82)), (1, (0, ye)), (3, (0, go_)), (4, (0, hi_))]) rfl rfl rfl) ?_
        refine xg_t (xg_iload (va := (0, go_)) rfl rfl) ?_
        refine xg_t (xg_aload (va := (2, 82)) rfl rfl) ?_
        refine xg_t (xg_iload (va := (0, hi_)) rfl rfl) ?_
        refine xg_t (xg_iload (va := (0, ye)) rfl rfl) ?_
        refine xg_cVi mX12_breaks (vs := [(0, hi_), (0, ye)]) (rest := [(0, go_)]) (cn1 := 0) (sl1 := 0) rfl (mBreaks (hI53) (by omega) (by omega)) rfl h82_89 rfl rfl rfl rfl rfl rfl (fun n105 w101 hq102 => ?_)
        obtain ⟨hn106, hI103, hF104⟩ := hq102
        by_cases hc107 : n105 = 0
        · refine xg_t (xg_ifT (u := n105) rfl xnm0 (xj_eqT hc107)) ?_
          refine xg_t (xg_blk (b := [(67, 1, 3, 0, 0, 0)]) rfl) ?_
          refine xg_t (xg_const) ?_
          refine xg_t (xg_blk (b := [(68, 1, 11, 0, 0, 0), (69, 1, 15, 3, 0, 0), (70, 3, 9, 4, 1, 0), (73, 3, 8, 11, 0, 0)]) rfl) ?_
          refine xg_k (xg_iadd (u := go_) (v := 0) (z := (go_ + 0) % 4294967296) xnm0 xnm0 rfl) (Nat.mod_lt _ (by decide)) (fun z108 hz109 => ?_)
          refine xg_t (xg_istore (l1 := [(2, (0, z99)), (0, (2, 82)), (1, (0, ye)), (4, (0, hi_))]) rfl rfl rfl) ?_
          refine xg_t (xg_iinc (u := hi_) (z := hi_ + 1) (l1 := [(3, (0, z108)), (2, (0, z99)), (0, (2, 82)), (1, (0, ye))]) rfl rfl (by omega) rfl) ?_
          refine xg_t (xg_goto) ?_
          refine xg_t (xg_drop (l1 := [(0, (2, 82)), (1, (0, ye)), (2, (0, z99)), (3, (0, z108)), (4, (0, hi_ + 1))]) (List.forall_mem_cons.mpr ⟨List.mem_cons_of_mem _ (List.mem_cons_of_mem _ (List.mem_cons_of_mem _ (List.mem_cons_self))), List.forall_mem_cons.mpr ⟨List.mem_cons_of_mem _ (List.mem_cons_of_mem _ (List.mem_cons_of_mem _ (List.mem_cons_of_mem _ (List.mem_cons_self)))), List.forall_mem_cons.mpr ⟨List.mem_cons_of_mem _ (List.mem_cons_of_mem _ (List.mem_cons_self)), List.forall_mem_cons.mpr ⟨List.mem_cons_of_mem _ (List.mem_cons_self), List.forall_mem_cons.mpr ⟨List.mem_cons_self, fun _ h => absurd h List.not_mem_nil⟩⟩⟩⟩⟩)) ?_
          exact ih50 z99 z108 (hi_ + 1) w101 (by omega) (by omega) (by omega) (by omega) (hI103) ((hF54.tr (hF104.up (by decide))))
        · refine xg_t (xg_ifF (u := n105) rfl xnm0 (xj_eqF hc107)) ?_
          refine xg_t (xg_aload (va := (2, 82)) rfl rfl) ?_
          obtain ⟨f82_110, f82_112, f82_114, f82_116, f82_118, f82_120, f82_122, f82_124, f82_126, f82_128, f82_130, f82_131, f82_132, f82_134, f82_136, f82_138, h82_140, hb111, hb113, hb115, hb117, hb119, hb121, hb123, hb125, hb127, hb129, hb133, hb135, hb137, hb139, hb141⟩ := (hI103 82 (by decide) (by decide) : cp82 (wget w101 82))
          replace hb113 := xHid.of hb113
          replace hb119 := xHid.of hb119
          replace hb123 := xHid.of hb123
          replace hb125 := xHid.of hb125
          replace hb129 := xHid.of hb129
          replace hb133 := xHid.of hb133
          replace hb135 := xHid.of hb135
          replace hb137 := xHid.of hb137
          replace hb139 := xHid.of hb139
          refine xg_t (xg_getf (va := (2, 83)) h82_140 rfl) ?_
          refine xg_t (xg_sip) ?_
          refine xg_t (xg_const) ?_
          refine xg_t (xg_iload (va := (0, hi_)) rfl rfl) ?_
          refine xg_t (xg_imul (u := 3) (v := hi_) (z := 3 * hi_) xnm0 xnm0 (by omega)) ?_
          refine xg_t (xg_iadd (u := 950) (v := 3 * hi_) (z := 950 + (3 * hi_)) xnm0 xnm0 (by omega)) ?_
          refine xg_ialdB (n := 950 + (3 * hi_)) (B := 4294967295) ((h83_34.fr hF54 (by decide)).fr hF104 (by decide)) (hb35) xnm0 (by omega) (fun u142 hu143 he144 => ?_)
          refine xg_t (xg_goto) ?_
          refine xg_t (xg_blk (b := [(68, 1, 11, 0, 0, 0), (69, 1, 15, 3, 0, 0), (70, 3, 9, 4, 1, 0), (73, 3, 8, 11, 0, 0)]) rfl) ?_
          refine xg_k (xg_iadd (u := go_) (v := u142) (z := (go_ + u142) % 4294967296) xnm0 xnm0 rfl) (Nat.mod_lt _ (by decide)) (fun z145 hz146 => ?_)
          refine xg_t (xg_istore (l1 := [(2, (0, z99)), (0, (2, 82)), (1, (0, ye)), (4, (0, hi_))]) rfl rfl rfl) ?_
          refine xg_t (xg_iinc (u := hi_) (z := hi_ + 1) (l1 := [(3, (0, z145)), (2, (0, z99)), (0, (2, 82)), (1, (0, ye))]) rfl rfl (by omega) rfl) ?_
          refine xg_t (xg_goto) ?_
          refine xg_t (xg_drop (l1 := [(0, (2, 82)), (1, (0, ye)), (2, (0, z99)), (3, (0, z145)), (4, (0, hi_ + 1))]) (List.forall_mem_cons.mpr ⟨List.mem_cons_of_mem _ (List.mem_cons_of_mem _ (List.mem_cons_of_mem _ (List.mem_cons_self))), List.forall_mem_cons.mpr ⟨List.mem_cons_of_mem _ (List.mem_cons_of_mem _ (List.mem_cons_of_mem _ (List.mem_cons_of_mem _ (List.mem_cons_self)))), List.forall_mem_cons.mpr ⟨List.mem_cons_of_mem _ (List.mem_cons_of_mem _ (List.mem_cons_self)), List.forall_mem_cons.mpr ⟨List.mem_cons_of_mem _ (List.mem_cons_self), List.forall_mem_cons.mpr ⟨List.mem_cons_self, fun _ h => absurd h List.not_mem_nil⟩⟩⟩⟩⟩)) ?_
          exact ih50 z99 z145 (hi_ + 1) w101 (by omega) (by omega) (by omega) (by omega) (hI103) ((hF54.tr (hF104.up (by decide))))
      · refine xg_t (xg_icT (u := hi_) (v := u91) rfl xnm0 xnm0 (xj_geT (by omega) (by omega))) ?_
        refine xg_t (xg_blk (b := [(76, 1, 2, 2, 0, 0), (77, 3, 7, 84, 1, 0), (80, 1, 3, 0, 0, 0), (81, 3, 8, 91, 0, 0)]) rfl) ?_
        refine xg_t (xg_iload (va := (0, fi)) rfl rfl) ?_
        by_cases hc147 : fi = 0
        · refine xg_t (xg_ifF (u := fi) rfl xnm0 (xj_neF hc147)) ?_
          refine xg_t (xg_const) ?_
          refine xg_t (xg_goto) ?_
          refine xg_t (xg_blk (b := [(91, 1, 12, 0, 1, 0)]) rfl) ?_
          exact xg_e ⟨0, w52, ⟨rfl, rfl⟩, by omega, hI53, hF54⟩
        · refine xg_t (xg_ifT (u := fi) rfl xnm0 (xj_neT hc147)) ?_
          refine xg_t (xg_blk (b := [(84, 3, 5, 1000, 0, 0), (87, 1, 2, 3, 0, 0), (88, 1, 16, 0, 0, 0), (89, 1, 2, 2, 0, 0), (90, 1, 20, 0, 0, 0)]) rfl) ?_
          refine xg_t (xg_sip) ?_
          refine xg_t (xg_iload (va := (0, go_)) rfl rfl) ?_
          refine xg_k (xg_imul (u := 1000) (v := go_) (z := (1000 * go_) % 4294967296) xnm0 xnm0 rfl) (Nat.mod_lt _ (by decide)) (fun z148 hz149 => ?_)
          refine xg_t (xg_iload (va := (0, fi)) rfl rfl) ?_
          refine xg_k (xg_idivG (u := z148) (v := fi) (by omega) xnm0 xnm0) (xpt_lt _) (fun z150 hz151 => ?_)
          refine xg_t (xg_blk (b := [(91, 1, 12, 0, 1, 0)]) rfl) ?_
          exact xg_e ⟨z150, w52, ⟨rfl, rfl⟩, by omega, hI53, hF54⟩
  exact key49 _ 0 0 0 w37 (Nat.lt_succ_self _) (by omega) (by omega) (by omega) (hI39) ((hF40.up (by decide)))
theorem mShare {ye : Nat} (hI : xMnv w) (hye : ye ≤ 4294967295) : xPi (d + 5) mX12_share [(2, 82), (0, ye)] w bd fc rr (fun n w' => (n ≤ 4294967295) ∧ xMnv w' ∧ xFr [82, 88, 90, 91, 92, 93, 94] w w') := by
  refine xPi.of ?_
  show xTo (d + 5) mX12_share (0, [], [(0, (2, 82)), (1, (0, ye))], [], (w, bd, fc, 0, 0, rr)) (fun φ => ∃ n w', xEnd 1 [(0, n)] (w', bd, fc, 0, 0, rr) φ ∧ (n ≤ 4294967295) ∧ xMnv w' ∧ xFr [82, 88, 90, 91, 92, 93, 94] w w')
  obtain ⟨f82_1, f82_3, f82_5, f82_7, f82_9, f82_11, f82_13, f82_15, f82_17, f82_19, f82_21, f82_22, f82_23, f82_25, f82_27, f82_29, h82_31, hb2, hb4, hb6, hb8, hb10, hb12, hb14, hb16, hb18, hb20, hb24, hb26, hb28, hb30, hb32⟩ := (hI 82 (by decide) (by decide) : cp82 (wget w 82))
  replace hb4 := xHid.of hb4
  replace hb10 := xHid.of hb10
  replace hb14 := xHid.of hb14
  replace hb16 := xHid.of hb16
  replace hb20 := xHid.of hb20
  replace hb24 := xHid.of hb24
  replace hb26 := xHid.of hb26
  replace hb28 := xHid.of hb28
  replace hb30 := xHid.of hb30
  obtain ⟨g83_33, h83_34, hb35, hx36⟩ := (hI 83 (by decide) (by decide) : cpx83 (wget w 83))
  have h83_34 : xRow w 83 5360 50 g83_33 := h83_34
  refine xg_t (xg_blk (b := [(0, 1, 2, 1, 0, 0), (1, 1, 3, 0, 0, 0), (2, 2, 4, 30, 0, 0), (4, 3, 13, 161, 98, 105), (7, 3, 7, 18, 0, 0), (10, 1, 0, 0, 0, 0), (11, 1, 2, 1, 0, 0), (12, 3, 13, 218, 96, 390), (15, 3, 8, 19, 0, 0)]) rfl) ?_
  refine xg_t (xg_iload (va := (0, ye)) rfl rfl) ?_
  refine xg_t (xg_const) ?_
  refine xg_t (xg_bip) ?_
  refine xg_t (xg_cSr mX12_isIn (vs := [(0, ye), (0, 0), (0, 30)]) (rest := []) (rs := [(0, if 0 ≤ ye ∧ ye ≤ 30 then 1 else 0)]) (cn1 := 0) (sl1 := 0) rfl (mIsIn (by omega) (by omega) (by omega)) rfl rfl rfl rfl rfl rfl rfl rfl) ?_
  by_cases hc37 : 0 ≤ ye ∧ ye ≤ 30
  · refine xg_t (xg_ifF (u := (if 0 ≤ ye ∧ ye ≤ 30 then 1 else 0)) rfl xnm0 (xj_eqF (xite1 hc37))) ?_
    refine xg_t (xg_aload (va := (2, 82)) rfl rfl) ?_
    refine xg_t (xg_iload (va := (0, ye)) rfl rfl) ?_
    refine xg_cVi mX12_shareOf (vs := [(0, ye)]) (rest := []) (cn1 := 0) (sl1 := 0) rfl (mShareOf (hI) (by omega)) rfl h82_31 rfl rfl rfl rfl rfl rfl (fun n42 w38 hq39 => ?_)
    obtain ⟨hn43, hI40, hF41⟩ := hq39
    refine xg_t (xg_goto) ?_
    refine xg_t (xg_blk (b := [(19, 1, 12, 0, 1, 0)]) rfl) ?_
    exact xg_e ⟨n42, w38, ⟨rfl, rfl⟩, by omega, hI40, (hF41.up (by decide))⟩
  · refine xg_t (xg_ifT (u := (if 0 ≤ ye ∧ ye ≤ 30 then 1 else 0)) rfl xnm0 (xj_eqT (xite0 hc37))) ?_
    refine xg_t (xg_blk (b := [(18, 1, 3, 4294967295, 0, 0)]) rfl) ?_
    refine xg_t (xg_const) ?_
    refine xg_t (xg_blk (b := [(19, 1, 12, 0, 1, 0)]) rfl) ?_
    exact xg_e ⟨4294967295, w, ⟨rfl, rfl⟩, by omega, hI, xFr.rf⟩
theorem mPromise {pp : Nat} (hI : xMnv w) (hpp : pp ≤ 4294967295) : xPi (d + 5) mX12_promise [(2, 82), (0, pp)] w bd fc rr (fun n w' => (n ≤ 4294967295) ∧ xMnv w' ∧ xFr [82, 88, 90, 91, 92, 93, 94] w w') := by
  refine xPi.of ?_
  show xTo (d + 5) mX12_promise (0, [], [(0, (2, 82)), (1, (0, pp))], [], (w, bd, fc, 0, 0, rr)) (fun φ => ∃ n w', xEnd 1 [(0, n)] (w', bd, fc, 0, 0, rr) φ ∧ (n ≤ 4294967295) ∧ xMnv w' ∧ xFr [82, 88, 90, 91, 92, 93, 94] w w')
  obtain ⟨f82_1, f82_3, f82_5, f82_7, f82_9, f82_11, f82_13, f82_15, f82_17, f82_19, f82_21, f82_22, f82_23, f82_25, f82_27, f82_29, h82_31, hb2, hb4, hb6, hb8, hb10, hb12, hb14, hb16, hb18, hb20, hb24, hb26, hb28, hb30, hb32⟩ := (hI 82 (by decide) (by decide) : cp82 (wget w 82))
  replace hb4 := xHid.of hb4
  replace hb10 := xHid.of hb10
  replace hb14 := xHid.of hb14
  replace hb16 := xHid.of hb16
  replace hb20 := xHid.of hb20
  replace hb24 := xHid.of hb24
  replace hb26 := xHid.of hb26
  replace hb28 := xHid.of hb28
  replace hb30 := xHid.of hb30
  obtain ⟨g83_33, h83_34, hb35, hx36⟩ := (hI 83 (by decide) (by decide) : cpx83 (wget w 83))
  have h83_34 : xRow w 83 5360 50 g83_33 := h83_34
  refine xg_t (xg_blk (b := [(0, 1, 2, 1, 0, 0), (1, 1, 3, 0, 0, 0), (2, 3, 5, 1000, 0, 0), (5, 3, 13, 161, 98, 105), (8, 3, 7, 13, 1, 0), (11, 1, 3, 4294967295, 0, 0), (12, 1, 12, 0, 1, 0)]) rfl) ?_
  refine xg_t (xg_iload (va := (0, pp)) rfl rfl) ?_
  refine xg_t (xg_const) ?_
  refine xg_t (xg_sip) ?_
  refine xg_t (xg_cSr mX12_isIn (vs := [(0, pp), (0, 0), (0, 1000)]) (rest := []) (rs := [(0, if 0 ≤ pp ∧ pp ≤ 1000 then 1 else 0)]) (cn1 := 0) (sl1 := 0) rfl (mIsIn (by omega) (by omega) (by omega)) rfl rfl rfl rfl rfl rfl rfl rfl) ?_
  by_cases hc37 : 0 ≤ pp ∧ pp ≤ 1000
  · refine xg_t (xg_ifT (u := (if 0 ≤ pp ∧ pp ≤ 1000 then 1 else 0)) rfl xnm0 (xj_neT (xite1 hc37))) ?_
    refine xg_t (xg_blk (b := [(13, 1, 3, 0, 0, 0), (14, 1, 15, 2, 0, 0)]) rfl) ?_
    refine xg_t (xg_const) ?_
    refine xg_t (xg_istore (l1 := [(0, (2, 82)), (1, (0, pp))]) rfl rfl rfl) ?_
    refine xg_t (xg_drop (l1 := [(0, (2, 82)), (1, (0, pp)), (2, (0, 0))]) (List.forall_mem_cons.mpr ⟨List.mem_cons_of_mem _ (List.mem_cons_self), List.forall_mem_cons.mpr ⟨List.mem_cons_of_mem _ (List.mem_cons_of_mem _ (List.mem_cons_self)), List.forall_mem_cons.mpr ⟨List.mem_cons_self, fun _ h => absurd h List.not_mem_nil⟩⟩⟩)) ?_
    have key38 : ∀ (m40 : Nat) (yy : Nat) (w41 : List (List xE)), 31 - yy < m40 → yy ≤ 31 → xMnv w41 → xFr [82, 88, 90, 91, 92, 93, 94] w w41 → xTo (d + 5) mX12_promise (15, [], [(0, (2, 82)), (1, (0, pp)), (2, (0, yy))], [], (w41, bd, fc, 0, 0, rr)) (fun φ => ∃ n w', xEnd 1 [(0, n)] (w', bd, fc, 0, 0, rr) φ ∧ (n ≤ 4294967295) ∧ xMnv w' ∧ xFr [82, 88, 90, 91, 92, 93, 94] w w') := by
      intro m40
      induction m40 with
      | zero => intro yy w41 hz; exact absurd hz (Nat.not_lt_zero _)
      | succ m40 ih39 =>
        intro yy w41 hm45 hn44 hI42 hF43
        refine xg_t (xg_blk (b := [(15, 1, 2, 2, 0, 0), (16, 2, 4, 31, 0, 0), (18, 3, 6, 36, 3, 0), (21, 1, 0, 0, 0, 0), (22, 1, 2, 2, 0, 0), (23, 3, 13, 218, 96, 390), (26, 1, 2, 1, 0, 0), (27, 3, 6, 36, 4, 0), (30, 3, 9, 2, 1, 0), (33, 3, 8, 15, 0, 0)]) rfl) ?_
        refine xg_t (xg_iload (va := (0, yy)) rfl rfl) ?_
        refine xg_t (xg_bip) ?_
        by_cases hc46 : yy < 31
        · refine xg_t (xg_icF (u := yy) (v := 31) rfl xnm0 xnm0 (xj_geF hc46 (by omega))) ?_
          refine xg_t (xg_aload (va := (2, 82)) rfl rfl) ?_
          refine xg_t (xg_iload (va := (0, yy)) rfl rfl) ?_
          obtain ⟨f82_47, f82_49, f82_51, f82_53, f82_55, f82_57, f82_59, f82_61, f82_63, f82_65, f82_67, f82_68, f82_69, f82_71, f82_73, f82_75, h82_77, hb48, hb50, hb52, hb54, hb56, hb58, hb60, hb62, hb64, hb66, hb70, hb72, hb74, hb76, hb78⟩ := (hI42 82 (by decide) (by decide) : cp82 (wget w41 82))
          replace hb50 := xHid.of hb50
          replace hb56 := xHid.of hb56
          replace hb60 := xHid.of hb60
          replace hb62 := xHid.of hb62
          replace hb66 := xHid.of hb66
          replace hb70 := xHid.of hb70
          replace hb72 := xHid.of hb72
          replace hb74 := xHid.of hb74
          replace hb76 := xHid.of hb76
          refine xg_cVi mX12_shareOf (vs := [(0, yy)]) (rest := []) (cn1 := 0) (sl1 := 0) rfl (mShareOf (hI42) (by omega)) rfl h82_77 rfl rfl rfl rfl rfl rfl (fun n83 w79 hq80 => ?_)
          obtain ⟨hn84, hI81, hF82⟩ := hq80
          refine xg_t (xg_iload (va := (0, pp)) rfl rfl) ?_
          by_cases hc85 : xbs pp < xbs n83
          · have hc85u := hc85
            unfold xbs at hc85u
            have hn86 : pp ≤ 1000 := by omega
            have hn87 : n83 ≤ 2147483647 := by omega
            refine xg_t (xg_icT (u := n83) (v := pp) rfl xnm0 xnm0 (xjs_gtT hc85)) ?_
            refine xg_t (xg_blk (b := [(36, 1, 2, 2, 0, 0), (37, 1, 3, 1, 0, 0), (38, 1, 18, 0, 0, 0), (39, 1, 12, 0, 1, 0)]) rfl) ?_
            refine xg_t (xg_iload (va := (0, yy)) rfl rfl) ?_
            refine xg_t (xg_const) ?_
            refine xg_k (xg_isub (u := yy) (v := 1) (z := (yy + (4294967296 - 1)) % 4294967296) xnm0 xnm0 rfl) (Nat.mod_lt _ (by decide)) (fun z88 hz89 => ?_)
            exact xg_e ⟨z88, w79, ⟨rfl, rfl⟩, by omega, hI81, (hF43.tr (hF82.up (by decide)))⟩
          · have hc85u := hc85
            unfold xbs at hc85u
            have hn90 : pp ≤ 1000 := by omega
            refine xg_t (xg_icF (u := n83) (v := pp) rfl xnm0 xnm0 (xjs_gtF hc85)) ?_
            refine xg_t (xg_iinc (u := yy) (z := yy + 1) (l1 := [(0, (2, 82)), (1, (0, pp))]) rfl rfl (by omega) rfl) ?_
            refine xg_t (xg_goto) ?_
            refine xg_t (xg_drop (l1 := [(0, (2, 82)), (1, (0, pp)), (2, (0, yy + 1))]) (List.forall_mem_cons.mpr ⟨List.mem_cons_of_mem _ (List.mem_cons_self), List.forall_mem_cons.mpr ⟨List.mem_cons_of_mem _ (List.mem_cons_of_mem _ (List.mem_cons_self)), List.forall_mem_cons.mpr ⟨List.mem_cons_self, fun _ h => absurd h List.not_mem_nil⟩⟩⟩)) ?_
            exact ih39 (yy + 1) w79 (by omega) (by omega) (hI81) ((hF43.tr (hF82.up (by decide))))
        · refine xg_t (xg_icT (u := yy) (v := 31) rfl xnm0 xnm0 (xj_geT (by omega) (by omega))) ?_
          refine xg_t (xg_blk (b := [(36, 1, 2, 2, 0, 0), (37, 1, 3, 1, 0, 0), (38, 1, 18, 0, 0, 0), (39, 1, 12, 0, 1, 0)]) rfl) ?_
          refine xg_t (xg_iload (va := (0, yy)) rfl rfl) ?_
          refine xg_t (xg_const) ?_
          refine xg_t (xg_isub (u := yy) (v := 1) (z := yy - 1) xnm0 xnm0 (by omega)) ?_
          exact xg_e ⟨yy - 1, w41, ⟨rfl, rfl⟩, by omega, hI42, hF43⟩
    exact key38 _ 0 w (Nat.lt_succ_self _) (by omega) (hI) (xFr.rf)
  · refine xg_t (xg_ifF (u := (if 0 ≤ pp ∧ pp ≤ 1000 then 1 else 0)) rfl xnm0 (xj_neF (xite0 hc37))) ?_
    refine xg_t (xg_const) ?_
    exact xg_e ⟨4294967295, w, ⟨rfl, rfl⟩, by omega, hI, xFr.rf⟩
end XM8
