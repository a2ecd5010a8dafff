/-! the class: the bytes that feed writes -/
theorem tb_mod8 {z i : Nat} : (z % 256).testBit i = (decide (i < 8) && z.testBit i) := by
  rw [show (256 : Nat) = 2 ^ 8 by decide]
  exact Nat.testBit_mod_two_pow z 8 i
theorem xland255 {z : Nat} : Nat.land z 255 = z % 256 := Nat.and_two_pow_sub_one_eq_mod z 8
theorem nI_bit {u i : Nat} (hi : i < 32) : (nI u).toBitVec.getLsbD i = u.testBit i := by
  show (BitVec.ofNat 32 u).getLsbD i = _
  rw [BitVec.getLsbD_ofNat, decide_eq_true hi, Bool.true_and]
theorem nI_shr {u s : Nat} (hs : s = 0 ∨ s = 8 ∨ s = 16 ∨ s = 24) : (nI u >>> (nI s &&& 31)).toBitVec = (nI u).toBitVec.sshiftRight s := by
  rcases hs with rfl | rfl | rfl | rfl <;> rfl
theorem xpt_shr {u s : Nat} (hs : s = 0 ∨ s = 8 ∨ s = 16 ∨ s = 24) : xpt (nI u >>> (nI s &&& 31)) % 256 = u / 2 ^ s % 256 := by
  apply Nat.eq_of_testBit_eq
  intro i
  rw [tb_mod8, tb_mod8]
  by_cases hi : i < 8
  · rw [← nI_bit (u := xpt (nI u >>> (nI s &&& 31))) (show i < 32 by omega), xpt_eq, nI_shr hs, BitVec.getLsbD_sshiftRight, Nat.testBit_div_two_pow, decide_eq_false (show ¬ 32 ≤ i by omega), if_pos (show s + i < 32 by omega), nI_bit (by omega), Nat.add_comm i s]
    rfl
  · rw [decide_eq_false hi, Bool.false_and, Bool.false_and]
theorem xpt_i2b {u : Nat} : xpt (nI u).toInt8.toInt32 % 256 = u % 256 := by
  apply Nat.eq_of_testBit_eq
  intro i
  rw [tb_mod8, tb_mod8]
  by_cases hi : i < 8
  · rw [← nI_bit (u := xpt (nI u).toInt8.toInt32) (show i < 32 by omega), xpt_eq]
    have e : (nI u).toInt8.toInt32.toBitVec = ((nI u).toBitVec.signExtend 8).signExtend 32 := by rw [Int8.toBitVec_toInt32, Int32.toBitVec_toInt8]
    rw [e, BitVec.getLsbD_signExtend, decide_eq_true (show i < 32 by omega), if_pos hi, BitVec.getLsbD_signExtend, decide_eq_true hi, if_pos (show i < 32 by omega), nI_bit (by omega)]
    rfl
  · rw [decide_eq_false hi, Bool.false_and, Bool.false_and]
theorem xbyt_mod {u : Nat} : xbyt u % 256 = u % 256 := by
  unfold xbyt
  cases (u % 256).blt 128 with
  | true => exact Nat.mod_mod u 256
  | false =>
    show (u % 256 + 4294967040) % 256 = u % 256
    omega
section XFD
variable {d : Nat} {w : List (List xE)} {bd : List (Nat × Nat)} {fc : List (Nat × Nat × Bool)} {rr : Nat × Nat}
theorem tdAppendB {nu : Nat} (hI : xInv w) (h1 : nu ≤ 4294967295) (hl : fld w 1 1 ≤ 496) : xPq d mX9_append [(2, 1), (0, nu)] w bd fc rr [] (fun w' => xInv w' ∧ xFr [1, 2] w w' ∧ (fld w' 1 1 = fld w 1 1 + 4 ∧ (∀ t, t < 4 → rwk w' 2 (fld w 1 1 + t) % 256 = nu / 2 ^ (24 - 8 * t) % 256) ∧ (∀ j, j < fld w 1 1 → rwk w' 2 j = rwk w 2 j) ∧ fld w' 1 2 = fld w 1 2 ∧ fld w' 1 3 = fld w 1 3 ∧ fld w' 1 6 = fld w 1 6 ∧ fld w' 1 7 = fld w 1 7 ∧ fld w' 1 9 = fld w 1 9)) := by
  refine xPq.of ?_
  show xTo d mX9_append (0, [], [(0, (2, 1)), (1, (0, nu))], [], (w, bd, fc, 0, 0, rr)) (fun φ => ∃ w', xEnd 0 [] (w', bd, fc, 0, 0, rr) φ ∧ xInv w' ∧ xFr [1, 2] w w' ∧ (fld w' 1 1 = fld w 1 1 + 4 ∧ (∀ t, t < 4 → rwk w' 2 (fld w 1 1 + t) % 256 = nu / 2 ^ (24 - 8 * t) % 256) ∧ (∀ j, j < fld w 1 1 → rwk w' 2 j = rwk w 2 j) ∧ fld w' 1 2 = fld w 1 2 ∧ fld w' 1 3 = fld w 1 3 ∧ fld w' 1 6 = fld w 1 6 ∧ fld w' 1 7 = fld w 1 7 ∧ fld w' 1 9 = fld w 1 9))
  obtain ⟨f1_1, f1_3, f1_5, f1_7, f1_9, f1_11, h1_13, hb2, hb4, hb6, hb8, hb10, hb12⟩ := (hI 1 (by decide) : cp1 (wget w 1))
  have hq14 : fld w 1 1 = f1_1 := fld_of h1_13
  have hq15 : fld w 1 2 = f1_3 := fld_of h1_13
  have hq16 : fld w 1 3 = f1_5 := fld_of h1_13
  have hq17 : fld w 1 6 = f1_7 := fld_of h1_13
  have hq18 : fld w 1 7 = f1_9 := fld_of h1_13
  have hq19 : fld w 1 9 = f1_11 := fld_of h1_13
  refine xg_t (xg_blk (b := [(0, 2, 4, 24, 0, 0), (2, 1, 15, 2, 0, 0)]) rfl) ?_
  refine xg_t (xg_bip) ?_
  refine xg_t (xg_istore (l1 := [(0, (2, 1)), (1, (0, nu))]) rfl rfl rfl) ?_
  refine xg_t (xg_drop (l1 := [(0, (2, 1)), (1, (0, nu)), (2, (0, 24))]) (List.forall_mem_cons.mpr ⟨List.mem_cons_of_mem _ (List.mem_cons_self), List.forall_mem_cons.mpr ⟨List.mem_cons_of_mem _ (List.mem_cons_of_mem _ (List.mem_cons_self)), List.forall_mem_cons.mpr ⟨List.mem_cons_self, fun _ h => absurd h List.not_mem_nil⟩⟩⟩)) ?_
  have key20 : ∀ (m22 : Nat) (sh : Nat) (w23 : List (List xE)), (sh + 8) % 4294967296 < m22 → sh ≤ 4294967295 → xInv w23 → xFr [1, 2] w w23 → ((sh = 24 ∧ fld w23 1 1 = fld w 1 1 + 0 ∨ sh = 16 ∧ fld w23 1 1 = fld w 1 1 + 1 ∨ sh = 8 ∧ fld w23 1 1 = fld w 1 1 + 2 ∨ sh = 0 ∧ fld w23 1 1 = fld w 1 1 + 3 ∨ sh = 4294967288 ∧ fld w23 1 1 = fld w 1 1 + 4) ∧ (∀ t, t < fld w23 1 1 - fld w 1 1 → rwk w23 2 (fld w 1 1 + t) % 256 = nu / 2 ^ (24 - 8 * t) % 256) ∧ (∀ j, j < fld w 1 1 → rwk w23 2 j = rwk w 2 j) ∧ fld w23 1 2 = fld w 1 2 ∧ fld w23 1 3 = fld w 1 3 ∧ fld w23 1 6 = fld w 1 6 ∧ fld w23 1 7 = fld w 1 7 ∧ fld w23 1 9 = fld w 1 9) → xTo d mX9_append (3, [], [(0, (2, 1)), (1, (0, nu)), (2, (0, sh))], [], (w23, bd, fc, 0, 0, rr)) (fun φ => ∃ w', xEnd 0 [] (w', bd, fc, 0, 0, rr) φ ∧ xInv w' ∧ xFr [1, 2] w w' ∧ (fld w' 1 1 = fld w 1 1 + 4 ∧ (∀ t, t < 4 → rwk w' 2 (fld w 1 1 + t) % 256 = nu / 2 ^ (24 - 8 * t) % 256) ∧ (∀ j, j < fld w 1 1 → rwk w' 2 j = rwk w 2 j) ∧ fld w' 1 2 = fld w 1 2 ∧ fld w' 1 3 = fld w 1 3 ∧ fld w' 1 6 = fld w 1 6 ∧ fld w' 1 7 = fld w 1 7 ∧ fld w' 1 9 = fld w 1 9)) := by
    intro m22
    induction m22 with
    | zero => intro sh w23 hz; exact absurd hz (Nat.not_lt_zero _)
    | succ m22 ih21 =>
      intro sh w23 hm28 hn26 hI24 hF25 he27
      obtain ⟨he29, he30, he31, he32, he33, he34, he35, he36⟩ := he27
      obtain ⟨f1_37, f1_39, f1_41, f1_43, f1_45, f1_47, h1_49, hb38, hb40, hb42, hb44, hb46, hb48⟩ := (hI24 1 (by decide) : cp1 (wget w23 1))
      have hq50 : fld w23 1 1 = f1_37 := fld_of h1_49
      have hq51 : fld w23 1 2 = f1_39 := fld_of h1_49
      have hq52 : fld w23 1 3 = f1_41 := fld_of h1_49
      have hq53 : fld w23 1 6 = f1_43 := fld_of h1_49
      have hq54 : fld w23 1 7 = f1_45 := fld_of h1_49
      have hq55 : fld w23 1 9 = f1_47 := fld_of h1_49
      obtain ⟨g2_56, h2_57, hb58⟩ := (hI24 2 (by decide) : cpY 500 0 (wget w23 2))
      have h2_57 : xRk 1 0 w23 2 500 0 g2_56 := h2_57
      refine xg_t (xg_blk (b := [(3, 1, 2, 2, 0, 0), (4, 3, 7, 46, 2, 0), (7, 1, 0, 0, 0, 0), (8, 3, 1, 9, 1, 57), (11, 3, 5, 500, 0, 0), (14, 3, 6, 46, 3, 0), (17, 1, 0, 0, 0, 0), (18, 3, 1, 9, 0, 11), (21, 1, 0, 0, 0, 0), (22, 3, 1, 9, 1, 57), (25, 1, 2, 1, 0, 0), (26, 1, 2, 2, 0, 0), (27, 1, 29, 0, 0, 0), (28, 1, 41, 0, 0, 0), (29, 1, 28, 0, 0, 0), (30, 1, 0, 0, 0, 0), (31, 1, 19, 0, 0, 0), (32, 3, 1, 9, 1, 57), (35, 1, 3, 1, 0, 0), (36, 1, 11, 0, 0, 0), (37, 3, 14, 9, 1, 57), (40, 3, 9, 2, 4294967288, 0), (43, 3, 8, 3, 0, 0)]) rfl) ?_
      refine xg_t (xg_iload (va := (0, sh)) rfl rfl) ?_
      by_cases hc59 : sh < 2147483648
      · refine xg_t (xg_ifF (u := sh) rfl xnm0 (xjz_ltF hc59)) ?_
        refine xg_t (xg_aload (va := (2, 1)) rfl rfl) ?_
        refine xg_t (xg_getf (va := (0, f1_37)) h1_49 rfl) ?_
        refine xg_t (xg_sip) ?_
        by_cases hc60 : f1_37 < 500
        · refine xg_t (xg_icF (u := f1_37) (v := 500) rfl xnm0 xnm0 (xj_geF hc60 (by omega))) ?_
          refine xg_t (xg_aload (va := (2, 1)) rfl rfl) ?_
          refine xg_t (xg_getf (va := (2, 2)) h1_49 rfl) ?_
          refine xg_t (xg_aload (va := (2, 1)) rfl rfl) ?_
          refine xg_t (xg_getf (va := (0, f1_37)) h1_49 rfl) ?_
          refine xg_t (xg_iload (va := (0, nu)) rfl rfl) ?_
          refine xg_t (xg_iload (va := (0, sh)) rfl rfl) ?_
          refine xg_kE (xg_ishrG (u := nu) (v := sh) xnm0 xnm0) (xpt_lt _) (fun z61 hz62 hE63 => ?_)
          refine xg_kE (xg_i2b (u := z61) xnm0) (xpt_lt _) (fun z64 hz65 hE66 => ?_)
          refine xg_bastY (n := f1_37) (u := z64) h2_57 xnm0 xnm0 rfl (by omega) (fun w67 hr68 hb69 => ?_)
          refine xg_t (xg_aload (va := (2, 1)) rfl rfl) ?_
          refine xg_t (xg_dup rfl) ?_
          refine xg_t (xg_getf (va := (0, f1_37)) (hb69.get (by decide) h1_49) rfl) ?_
          refine xg_t (xg_const) ?_
          refine xg_t (xg_iadd (u := f1_37) (v := 1) (z := f1_37 + 1) xnm0 xnm0 (by omega)) ?_
          refine xg_putI (fl1 := [(2, 2), (0, f1_37 + 1), (0, f1_39), (0, f1_41), (2, 3), (2, 14), (0, f1_43), (0, f1_45), (2, 16), (0, f1_47), (2, 18), (2, 20), (2, 22), (2, 24)]) (hb69.get (by decide) h1_49) rfl rfl rfl (fun w70 hk71 hb72 => ?_)
          refine xg_t (xg_iinc (u := sh) (z := (sh + 4294967288) % 4294967296) (l1 := [(0, (2, 1)), (1, (0, nu))]) rfl rfl (rfl) rfl) ?_
          refine xg_t (xg_goto) ?_
          refine xg_t (xg_drop (l1 := [(0, (2, 1)), (1, (0, nu)), (2, (0, (sh + 4294967288) % 4294967296))]) (List.forall_mem_cons.mpr ⟨List.mem_cons_of_mem _ (List.mem_cons_self), List.forall_mem_cons.mpr ⟨List.mem_cons_of_mem _ (List.mem_cons_of_mem _ (List.mem_cons_self)), List.forall_mem_cons.mpr ⟨List.mem_cons_self, fun _ h => absurd h List.not_mem_nil⟩⟩⟩)) ?_
          have hq73 : fld w70 1 1 = f1_37 + 1 := fld_of hk71
          have hq74 : fld w70 1 2 = f1_39 := fld_of hk71
          have hq75 : fld w70 1 3 = f1_41 := fld_of hk71
          have hq76 : fld w70 1 6 = f1_43 := fld_of hk71
          have hq77 : fld w70 1 7 = f1_45 := fld_of hk71
          have hq78 : fld w70 1 9 = f1_47 := fld_of hk71
          have hn79 : ∀ t, t < fld w70 1 1 - fld w 1 1 → rwk w70 2 (fld w 1 1 + t) % 256 = nu / 2 ^ (24 - 8 * t) % 256 := fun t ht => by
            rw [rwk_of (hr68.but hb72 (by decide)) (by omega)]
            show (if fld w 1 1 + t = f1_37 then xbyt z64 else g2_56 (fld w 1 1 + t)) % 256 = _
            by_cases e : fld w 1 1 + t = f1_37
            · rw [if_pos e, xbyt_mod, ← hE66, xpt_i2b, ← hE63, xpt_shr (by omega)]
              rw [show sh = 24 - 8 * t by omega]
            · rw [if_neg e, ← rwk_of h2_57 (by omega)]
              exact he30 t (by omega)
          have ho80 : ∀ j, j < fld w 1 1 → rwk w70 2 j = rwk w 2 j := fun j hj => by
            rw [rwk_of (hr68.but hb72 (by decide)) (by omega)]
            show (if j = f1_37 then xbyt z64 else g2_56 j) = _
            rw [if_neg (by omega), ← rwk_of h2_57 (by omega)]
            exact he31 j hj
          exact ih21 ((sh + 4294967288) % 4294967296) w70 (by omega) (by omega) (xInv.up (S := [2, 1]) hI24 ((xFr.of (S := [2, 1]) hb69 (by decide)).tr (xFr.of (S := [2, 1]) hb72 (by decide))) (List.forall_mem_cons.mpr ⟨(show cpY 500 0 (wget w70 2) from ⟨_, (hr68.but hb72 (by decide)), xrbY (xby_byt _) (hb58)⟩), List.forall_mem_cons.mpr ⟨(show cp1 (wget w70 1) from ⟨f1_37 + 1, f1_39, f1_41, f1_43, f1_45, f1_47, hk71, by omega, by omega, by omega, by omega, by omega, by omega⟩), fun _ h => absurd h List.not_mem_nil⟩⟩)) ((hF25.tr ((xFr.of (S := [1, 2]) hb69 (by decide)).tr (xFr.of (S := [1, 2]) hb72 (by decide))))) (⟨by omega, hn79, ho80, by omega, by omega, by omega, by omega, by omega⟩)
        · refine xg_t (xg_icT (u := f1_37) (v := 500) rfl xnm0 xnm0 (xj_geT (by omega) (by omega))) ?_
          refine xg_t (xg_blk (b := [(46, 1, 12, 0, 0, 0)]) rfl) ?_
          exact xg_e ⟨w23, ⟨rfl, rfl⟩, hI24, hF25, ⟨by omega, fun t ht => he30 t (by omega), he31, by omega, by omega, by omega, by omega, by omega⟩⟩
      · refine xg_t (xg_ifT (u := sh) rfl xnm0 (xjz_ltT (by omega) (by omega))) ?_
        refine xg_t (xg_blk (b := [(46, 1, 12, 0, 0, 0)]) rfl) ?_
        exact xg_e ⟨w23, ⟨rfl, rfl⟩, hI24, hF25, ⟨by omega, fun t ht => he30 t (by omega), he31, by omega, by omega, by omega, by omega, by omega⟩⟩
  exact key20 _ 24 w (Nat.lt_succ_self _) (by omega) (hI) (xFr.rf) (⟨by omega, fun t ht => absurd ht (by omega), fun j _ => rfl, rfl, rfl, rfl, rfl, rfl⟩)
def fdB (a b c d e i : Nat) : Nat := (if i < 4 then a else if i < 8 then b else if i < 12 then c else if i < 16 then d else e) / 2 ^ (24 - 8 * (i % 4)) % 256
theorem fdB_all {a b c d e L : Nat} {r0 r1 r2 r3 r4 r5 : Nat → Nat} (a1 : ∀ t, t < 4 → r1 (L + t) % 256 = a / 2 ^ (24 - 8 * t) % 256) (b1 : ∀ j, j < L → r1 j = r0 j) (a2 : ∀ t, t < 4 → r2 (L + 4 + t) % 256 = b / 2 ^ (24 - 8 * t) % 256) (b2 : ∀ j, j < L + 4 → r2 j = r1 j) (a3 : ∀ t, t < 4 → r3 (L + 8 + t) % 256 = c / 2 ^ (24 - 8 * t) % 256) (b3 : ∀ j, j < L + 8 → r3 j = r2 j) (a4 : ∀ t, t < 4 → r4 (L + 12 + t) % 256 = d / 2 ^ (24 - 8 * t) % 256) (b4 : ∀ j, j < L + 12 → r4 j = r3 j) (a5 : ∀ t, t < 4 → r5 (L + 16 + t) % 256 = e / 2 ^ (24 - 8 * t) % 256) (b5 : ∀ j, j < L + 16 → r5 j = r4 j) : (∀ i, i < 20 → r5 (L + i) % 256 = fdB a b c d e i) ∧ ∀ j, j < L → r5 j = r0 j := by
  refine ⟨fun i hi => ?_, fun j hj => by rw [b5 j (by omega), b4 j (by omega), b3 j (by omega), b2 j (by omega), b1 j hj]⟩
  unfold fdB
  by_cases h1 : i < 4
  · rw [if_pos h1, b5 _ (by omega), b4 _ (by omega), b3 _ (by omega), b2 _ (by omega), a1 i h1, Nat.mod_eq_of_lt h1]
  · rw [if_neg h1]
    by_cases h2 : i < 8
    · rw [if_pos h2, b5 _ (by omega), b4 _ (by omega), b3 _ (by omega), show L + i = L + 4 + i % 4 by omega, a2 (i % 4) (by omega)]
    · rw [if_neg h2]
      by_cases h3 : i < 12
      · rw [if_pos h3, b5 _ (by omega), b4 _ (by omega), show L + i = L + 8 + i % 4 by omega, a3 (i % 4) (by omega)]
      · rw [if_neg h3]
        by_cases h4 : i < 16
        · rw [if_pos h4, b5 _ (by omega), show L + i = L + 12 + i % 4 by omega, a4 (i % 4) (by omega)]
        · rw [if_neg h4, show L + i = L + 16 + i % 4 by omega, a5 (i % 4) (by omega)]
theorem scFeedB {fa fb fc_ fd fe : Nat} (hI : xInv w) (hfa : fa ≤ 4294967295) (hfb : fb ≤ 4294967295) (hfc_ : fc_ ≤ 4294967295) (hfd : fd ≤ 4294967295) (hfe : fe ≤ 4294967295) : xPi (d + 1) mX11_feed [(2, 0), (0, fa), (0, fb), (0, fc_), (0, fd), (0, fe)] w bd fc rr (fun n w' => (((n = fld w 1 1 + 20 ∧ fld w 1 1 ≤ 480 ∧ fld w' 1 1 = fld w 1 1 + 20 ∧ (∀ i, i < 20 → rwk w' 2 (fld w 1 1 + i) % 256 = fdB fa fb fc_ fd fe i) ∧ (∀ j, j < fld w 1 1 → rwk w' 2 j = rwk w 2 j)) ∨ (n = 4294967295 ∧ ¬ fld w 1 1 ≤ 480 ∧ w' = w)) ∧ fld w' 1 2 = fld w 1 2 ∧ fld w' 1 3 = fld w 1 3 ∧ fld w' 1 6 = fld w 1 6 ∧ fld w' 1 7 = fld w 1 7 ∧ fld w' 1 9 = fld w 1 9) ∧ xInv w' ∧ xFr [1, 2] w w') := by
  refine xPi.of ?_
  show xTo (d + 1) mX11_feed (0, [], [(0, (2, 0)), (1, (0, fa)), (2, (0, fb)), (3, (0, fc_)), (4, (0, fd)), (5, (0, fe))], [], (w, bd, fc, 0, 0, rr)) (fun φ => ∃ n w', xEnd 1 [(0, n)] (w', bd, fc, 0, 0, rr) φ ∧ (((n = fld w 1 1 + 20 ∧ fld w 1 1 ≤ 480 ∧ fld w' 1 1 = fld w 1 1 + 20 ∧ (∀ i, i < 20 → rwk w' 2 (fld w 1 1 + i) % 256 = fdB fa fb fc_ fd fe i) ∧ (∀ j, j < fld w 1 1 → rwk w' 2 j = rwk w 2 j)) ∨ (n = 4294967295 ∧ ¬ fld w 1 1 ≤ 480 ∧ w' = w)) ∧ fld w' 1 2 = fld w 1 2 ∧ fld w' 1 3 = fld w 1 3 ∧ fld w' 1 6 = fld w 1 6 ∧ fld w' 1 7 = fld w 1 7 ∧ fld w' 1 9 = fld w 1 9) ∧ xInv w' ∧ xFr [1, 2] w w')
  have h0_1 := (hI 0 (by decide) : cp0 (wget w 0))
  obtain ⟨f1_2, f1_4, f1_6, f1_8, f1_10, f1_12, h1_14, hb3, hb5, hb7, hb9, hb11, hb13⟩ := (hI 1 (by decide) : cp1 (wget w 1))
  have hq15 : fld w 1 1 = f1_2 := fld_of h1_14
  have hq16 : fld w 1 2 = f1_4 := fld_of h1_14
  have hq17 : fld w 1 3 = f1_6 := fld_of h1_14
  have hq18 : fld w 1 6 = f1_8 := fld_of h1_14
  have hq19 : fld w 1 7 = f1_10 := fld_of h1_14
  have hq20 : fld w 1 9 = f1_12 := fld_of h1_14
  refine xg_t (xg_blk (b := [(0, 1, 0, 0, 0, 0), (1, 3, 1, 11, 0, 10), (4, 3, 1, 9, 1, 91), (7, 3, 5, 480, 0, 0), (10, 3, 6, 15, 5, 0), (13, 1, 3, 4294967295, 0, 0), (14, 1, 12, 0, 1, 0)]) rfl) ?_
  refine xg_t (xg_aload (va := (2, 0)) rfl rfl) ?_
  refine xg_t (xg_getf (va := (2, 1)) h0_1 rfl) ?_
  refine xg_t (xg_getf (va := (0, f1_2)) h1_14 rfl) ?_
  refine xg_t (xg_sip) ?_
  by_cases hc21 : 480 < f1_2
  · refine xg_t (xg_icF (u := f1_2) (v := 480) rfl xnm0 xnm0 (xj_leF hc21 (by omega))) ?_
    refine xg_t (xg_const) ?_
    have hq22 : fld w 1 1 = f1_2 := fld_of h1_14
    have hq23 : fld w 1 2 = f1_4 := fld_of h1_14
    have hq24 : fld w 1 3 = f1_6 := fld_of h1_14
    have hq25 : fld w 1 6 = f1_8 := fld_of h1_14
    have hq26 : fld w 1 7 = f1_10 := fld_of h1_14
    have hq27 : fld w 1 9 = f1_12 := fld_of h1_14
    exact xg_e ⟨4294967295, w, ⟨rfl, rfl⟩, ⟨Or.inr ⟨rfl, by omega, rfl⟩, by omega, by omega, by omega, by omega, by omega⟩, hI, xFr.rf⟩
  · refine xg_t (xg_icT (u := f1_2) (v := 480) rfl xnm0 xnm0 (xj_leT (by omega) (by omega))) ?_
    refine xg_t (xg_blk (b := [(15, 1, 0, 0, 0, 0), (16, 3, 1, 11, 0, 10), (19, 1, 2, 1, 0, 0), (20, 3, 13, 321, 72, 95), (23, 1, 0, 0, 0, 0), (24, 3, 1, 11, 0, 10), (27, 1, 2, 2, 0, 0), (28, 3, 13, 321, 72, 95), (31, 1, 0, 0, 0, 0), (32, 3, 1, 11, 0, 10), (35, 1, 2, 3, 0, 0), (36, 3, 13, 321, 72, 95), (39, 1, 0, 0, 0, 0), (40, 3, 1, 11, 0, 10), (43, 2, 2, 4, 0, 0), (45, 3, 13, 321, 72, 95), (48, 1, 0, 0, 0, 0), (49, 3, 1, 11, 0, 10), (52, 2, 2, 5, 0, 0), (54, 3, 13, 321, 72, 95), (57, 1, 0, 0, 0, 0), (58, 3, 1, 11, 0, 10), (61, 3, 1, 9, 1, 91), (64, 1, 12, 0, 1, 0)]) rfl) ?_
    refine xg_t (xg_aload (va := (2, 0)) rfl rfl) ?_
    refine xg_t (xg_getf (va := (2, 1)) h0_1 rfl) ?_
    refine xg_t (xg_iload (va := (0, fa)) rfl rfl) ?_
    refine xg_cVv mX9_append (vs := [(0, fa)]) (rest := []) (cn1 := 0) (sl1 := 0) rfl (tdAppendB (hI) (by omega) (by omega)) rfl h1_14 rfl rfl rfl rfl rfl rfl (fun w28 hq29 => ?_)
    obtain ⟨hI30, hF31, hx32⟩ := hq29
    obtain ⟨ht33, ht34, ht35, ht36, ht37, ht38, ht39, ht40⟩ := hx32
    refine xg_t (xg_aload (va := (2, 0)) rfl rfl) ?_
    refine xg_t (xg_getf (va := (2, 1)) (hF31.get (by decide) h0_1) rfl) ?_
    refine xg_t (xg_iload (va := (0, fb)) rfl rfl) ?_
    obtain ⟨f1_41, f1_43, f1_45, f1_47, f1_49, f1_51, h1_53, hb42, hb44, hb46, hb48, hb50, hb52⟩ := (hI30 1 (by decide) : cp1 (wget w28 1))
    refine xg_cVv mX9_append (vs := [(0, fb)]) (rest := []) (cn1 := 0) (sl1 := 0) rfl (tdAppendB (hI30) (by omega) (by omega)) rfl h1_53 rfl rfl rfl rfl rfl rfl (fun w54 hq55 => ?_)
    obtain ⟨hI56, hF57, hx58⟩ := hq55
    obtain ⟨ht59, ht60, ht61, ht62, ht63, ht64, ht65, ht66⟩ := hx58
    refine xg_t (xg_aload (va := (2, 0)) rfl rfl) ?_
    refine xg_t (xg_getf (va := (2, 1)) (hF57.get (by decide) (hF31.get (by decide) h0_1)) rfl) ?_
    refine xg_t (xg_iload (va := (0, fc_)) rfl rfl) ?_
    obtain ⟨f1_67, f1_69, f1_71, f1_73, f1_75, f1_77, h1_79, hb68, hb70, hb72, hb74, hb76, hb78⟩ := (hI56 1 (by decide) : cp1 (wget w54 1))
    refine xg_cVv mX9_append (vs := [(0, fc_)]) (rest := []) (cn1 := 0) (sl1 := 0) rfl (tdAppendB (hI56) (by omega) (by omega)) rfl h1_79 rfl rfl rfl rfl rfl rfl (fun w80 hq81 => ?_)
    obtain ⟨hI82, hF83, hx84⟩ := hq81
    obtain ⟨ht85, ht86, ht87, ht88, ht89, ht90, ht91, ht92⟩ := hx84
    refine xg_t (xg_aload (va := (2, 0)) rfl rfl) ?_
    refine xg_t (xg_getf (va := (2, 1)) (hF83.get (by decide) (hF57.get (by decide) (hF31.get (by decide) h0_1))) rfl) ?_
    refine xg_t (xg_iload (va := (0, fd)) rfl rfl) ?_
    obtain ⟨f1_93, f1_95, f1_97, f1_99, f1_101, f1_103, h1_105, hb94, hb96, hb98, hb100, hb102, hb104⟩ := (hI82 1 (by decide) : cp1 (wget w80 1))
    refine xg_cVv mX9_append (vs := [(0, fd)]) (rest := []) (cn1 := 0) (sl1 := 0) rfl (tdAppendB (hI82) (by omega) (by omega)) rfl h1_105 rfl rfl rfl rfl rfl rfl (fun w106 hq107 => ?_)
    obtain ⟨hI108, hF109, hx110⟩ := hq107
    obtain ⟨ht111, ht112, ht113, ht114, ht115, ht116, ht117, ht118⟩ := hx110
    refine xg_t (xg_aload (va := (2, 0)) rfl rfl) ?_
    refine xg_t (xg_getf (va := (2, 1)) (hF109.get (by decide) (hF83.get (by decide) (hF57.get (by decide) (hF31.get (by decide) h0_1)))) rfl) ?_
    refine xg_t (xg_iload (va := (0, fe)) rfl rfl) ?_
    obtain ⟨f1_119, f1_121, f1_123, f1_125, f1_127, f1_129, h1_131, hb120, hb122, hb124, hb126, hb128, hb130⟩ := (hI108 1 (by decide) : cp1 (wget w106 1))
    refine xg_cVv mX9_append (vs := [(0, fe)]) (rest := []) (cn1 := 0) (sl1 := 0) rfl (tdAppendB (hI108) (by omega) (by omega)) rfl h1_131 rfl rfl rfl rfl rfl rfl (fun w132 hq133 => ?_)
    obtain ⟨hI134, hF135, hx136⟩ := hq133
    obtain ⟨ht137, ht138, ht139, ht140, ht141, ht142, ht143, ht144⟩ := hx136
    refine xg_t (xg_aload (va := (2, 0)) rfl rfl) ?_
    refine xg_t (xg_getf (va := (2, 1)) (hF135.get (by decide) (hF109.get (by decide) (hF83.get (by decide) (hF57.get (by decide) (hF31.get (by decide) h0_1))))) rfl) ?_
    obtain ⟨f1_145, f1_147, f1_149, f1_151, f1_153, f1_155, h1_157, hb146, hb148, hb150, hb152, hb154, hb156⟩ := (hI134 1 (by decide) : cp1 (wget w132 1))
    refine xg_t (xg_getf (va := (0, f1_145)) h1_157 rfl) ?_
    have hq158 : fld w 1 1 = f1_2 := fld_of h1_14
    have hq159 : fld w132 1 1 = f1_145 := fld_of h1_157
    have hq160 : fld w 1 2 = f1_4 := fld_of h1_14
    have hq161 : fld w132 1 2 = f1_147 := fld_of h1_157
    have hq162 : fld w 1 3 = f1_6 := fld_of h1_14
    have hq163 : fld w132 1 3 = f1_149 := fld_of h1_157
    have hq164 : fld w 1 6 = f1_8 := fld_of h1_14
    have hq165 : fld w132 1 6 = f1_151 := fld_of h1_157
    have hq166 : fld w 1 7 = f1_10 := fld_of h1_14
    have hq167 : fld w132 1 7 = f1_153 := fld_of h1_157
    have hq168 : fld w 1 9 = f1_12 := fld_of h1_14
    have hq169 : fld w132 1 9 = f1_155 := fld_of h1_157
    have ha171 := fun t ht => (show _ from ht60 t ht)
    rw [show fld w28 1 1 = fld w 1 1 + 4 by omega] at ha171
    have hb172 := ht61
    rw [show fld w28 1 1 = fld w 1 1 + 4 by omega] at hb172
    have ha173 := fun t ht => (show _ from ht86 t ht)
    rw [show fld w54 1 1 = fld w 1 1 + 8 by omega] at ha173
    have hb174 := ht87
    rw [show fld w54 1 1 = fld w 1 1 + 8 by omega] at hb174
    have ha175 := fun t ht => (show _ from ht112 t ht)
    rw [show fld w80 1 1 = fld w 1 1 + 12 by omega] at ha175
    have hb176 := ht113
    rw [show fld w80 1 1 = fld w 1 1 + 12 by omega] at hb176
    have ha177 := fun t ht => (show _ from ht138 t ht)
    rw [show fld w106 1 1 = fld w 1 1 + 16 by omega] at ha177
    have hb178 := ht139
    rw [show fld w106 1 1 = fld w 1 1 + 16 by omega] at hb178
    have hz170 := fdB_all (a := fa) (b := fb) (c := fc_) (d := fd) (e := fe) (r0 := rwk w 2) ht34 ht35 ha171 hb172 ha173 hb174 ha175 hb176 ha177 hb178
    exact xg_e ⟨f1_145, w132, ⟨rfl, rfl⟩, ⟨Or.inl ⟨by omega, by omega, by omega, hz170.1, hz170.2⟩, by omega, by omega, by omega, by omega, by omega⟩, hI134, (((((hF31.up (by decide)).tr (hF57.up (by decide))).tr (hF83.up (by decide))).tr (hF109.up (by decide))).tr (hF135.up (by decide)))⟩
end XFD
