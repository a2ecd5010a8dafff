/-! the law's switch and its loop -/
def xtg : List Nat := [252, 315, 338, 351, 374, 407, 430, 463, 496, 509, 532, 555, 588, 611, 634, 657, 716, 775, 788, 811, 834, 877, 952, 985, 998, 1021, 1054, 1087, 1100, 1153, 1166, 1199, 1232, 1255, 1298, 1331, 1354, 1377, 1400, 1413, 1466, 1479, 1502, 1551, 1574, 1597, 1610, 1623, 1636, 1659, 1682]
def xofs : Array Int := #[219, 282, 305, 318, 341, 374, 397, 430, 463, 476, 499, 522, 555, 578, 601, 624, 683, 742, 755, 778, 801, 844, 919, 952, 965, 988, 1021, 1054, 1067, 1120, 1133, 1166, 1199, 1222, 1265, 1298, 1321, 1344, 1367, 1380, 1433, 1446, 1469, 1518, 1541, 1564, 1577, 1590, 1603, 1626, 1649]
theorem xtsw : decode cL_law 33 = .ok (.tableswitch 1672 0 50 #[219, 282, 305, 318, 341, 374, 397, 430, 463, 476, 499, 522, 555, 578, 601, 624, 683, 742, 755, 778, 801, 844, 919, 952, 965, 988, 1021, 1054, 1067, 1120, 1133, 1166, 1199, 1222, 1265, 1298, 1321, 1344, 1367, 1380, 1433, 1446, 1469, 1518, 1541, 1564, 1577, 1590, 1603, 1626, 1649], 219) := by decide +kernel
theorem xts_in : ∀ u, u ≤ 50 → ∃ (off : Int) (t : Nat), xofs[u]? = some off ∧ xtg[u]? = some t ∧ (33 : Int) + off = (t : Int) := by
  intro u hu
  have key : ∀ u, u ≤ 50 → (match xofs[u]?, (xtg[u]? : Option Nat) with
    | some o, some t => decide ((33 : Int) + o = Int.ofNat t)
    | _, _ => false) = true := by decide +kernel
  have k := key u hu
  cases h1 : xofs[u]? with
  | none => rw [h1] at k; cases k
  | some o =>
    cases h2 : xtg[u]? with
    | none => rw [h1, h2] at k; cases k
    | some t =>
      rw [h1, h2] at k
      exact ⟨o, t, rfl, rfl, of_decide_eq_true k⟩
section XLP
variable {L d i m u cn sl : Nat} {us : Nat → Nat} {P : xS → Prop} {lo : xLo} {hp : xH} {w : List (List xE)}
theorem xg_swX (hu : u ≤ 50) : ∃ t, t ∈ xtg ∧ xLdX L us d mLa (33, [], lo, [(0, u)], hp) [(t, [], lo, [], hp)] := by
  obtain ⟨off, t, k1, k2, k3⟩ := xts_in u hu
  refine ⟨t, List.mem_of_getElem? k2, ?_⟩
  intro hM hpos p l e R s m args below meth c D A g cw0 tys0 io0 Q C X hQ cw tys io H locs ls lv sv hE hK hP hD hS hlv hlo hsv hh
  obtain ⟨wv, sv1, rfl, q1, q2⟩ := xrel_cons hsv
  have e9 : sv1 = [] := xrel_nil q2
  subst e9
  obtain ⟨q3, q4⟩ := q1
  subst q4
  have hti : (nI u).toInt = (u : Int) := nI_toInt (by omega)
  have k := hQ _ List.mem_cons_self ⟨trivial, trivial⟩ cw tys io H locs ls lv [] hE hK hP hD hS hlv hlo trivial hh
  refine lv_tableIn C.1 C.2.1 xtsw (off := off) (by rw [hti]; omega) (by rw [hti]; omega) ?_ k3 k
  rw [hti, show ((u : Int) - 0).toNat = u by omega]
  exact k1
theorem xg_swO (hu : 50 < u) (hu2 : u ≤ 63) : xLdX L us d mLa (33, [], lo, [(0, u)], hp) [(1705, [], lo, [], hp)] := by
  intro hM hpos p l e R s m args below meth c D A g cw0 tys0 io0 Q C X hQ cw tys io H locs ls lv sv hE hK hP hD hS hlv hlo hsv hh
  obtain ⟨wv, sv1, rfl, q1, q2⟩ := xrel_cons hsv
  have e9 : sv1 = [] := xrel_nil q2
  subst e9
  obtain ⟨q3, q4⟩ := q1
  subst q4
  have hti : (nI u).toInt = (u : Int) := nI_toInt (by omega)
  have k := hQ _ List.mem_cons_self ⟨trivial, trivial⟩ cw tys io H locs ls lv [] hE hK hP hD hS hlv hlo trivial hh
  exact lv_tableOut C.1 C.2.1 xtsw (by rw [hti]; omega) (show (33 : Int) + 1672 = ((1705 : Nat) : Int) by decide) k
theorem xtg_ok (hi : i + 7 ≤ L) (hLL : L ≤ 3584) (hus : ∀ j, us j ≤ 4294967295) (hL : xLI m w) (hC : xCo w) (h1 : cn + 25 ≤ 600000) (h2 : sl + 4088 ≤ 7302250) : ∀ t ∈ xtg, xToX L us 1000 mLa (t, [], [(3, (0, i)), (2, (2, 82)), (1, (2, 0)), (0, (8, 99))], [], (w, [], [], cn, sl, 81 + 12 * m, 114 + 25 * m)) (lwP i cn sl) := by
  unfold xtg
  simp only [List.forall_mem_cons]
  exact ⟨lwc_0 hi hLL hus hL hC h1 h2, lwc_1 hi hLL hus hL hC h1 h2, lwc_2 hi hLL hus hL hC h1 h2, lwc_3 hi hLL hus hL hC h1 h2, lwc_4 hi hLL hus hL hC h1 h2, lwc_5 hi hLL hus hL hC h1 h2, lwc_6 hi hLL hus hL hC h1 h2, lwc_7 hi hLL hus hL hC h1 h2, lwc_8 hi hLL hus hL hC h1 h2, lwc_9 hi hLL hus hL hC h1 h2, lwc_10 hi hLL hus hL hC h1 h2, lwc_11 hi hLL hus hL hC h1 h2, lwc_12 hi hLL hus hL hC h1 h2, lwc_13 hi hLL hus hL hC h1 h2, lwc_14 hi hLL hus hL hC h1 h2, lwc_15 hi hLL hus hL hC h1 h2, lwc_16 hi hLL hus hL hC h1 h2, lwc_17 hi hLL hus hL hC h1 h2, lwc_18 hi hLL hus hL hC h1 h2, lwc_19 hi hLL hus hL hC h1 h2, lwc_20 hi hLL hus hL hC h1 h2, lwc_21 hi hLL hus hL hC h1 h2, lwc_22 hi hLL hus hL hC h1 h2, lwc_23 hi hLL hus hL hC h1 h2, lwc_24 hi hLL hus hL hC h1 h2, lwc_25 hi hLL hus hL hC h1 h2, lwc_26 hi hLL hus hL hC h1 h2, lwc_27 hi hLL hus hL hC h1 h2, lwc_28 hi hLL hus hL hC h1 h2, lwc_29 hi hLL hus hL hC h1 h2, lwc_30 hi hLL hus hL hC h1 h2, lwc_31 hi hLL hus hL hC h1 h2, lwc_32 hi hLL hus hL hC h1 h2, lwc_33 hi hLL hus hL hC h1 h2, lwc_34 hi hLL hus hL hC h1 h2, lwc_35 hi hLL hus hL hC h1 h2, lwc_36 hi hLL hus hL hC h1 h2, lwc_37 hi hLL hus hL hC h1 h2, lwc_38 hi hLL hus hL hC h1 h2, lwc_39 hi hLL hus hL hC h1 h2, lwc_40 hi hLL hus hL hC h1 h2, lwc_41 hi hLL hus hL hC h1 h2, lwc_42 hi hLL hus hL hC h1 h2, lwc_43 hi hLL hus hL hC h1 h2, lwc_44 hi hLL hus hL hC h1 h2, lwc_45 hi hLL hus hL hC h1 h2, lwc_46 hi hLL hus hL hC h1 h2, lwc_47 hi hLL hus hL hC h1 h2, lwc_48 hi hLL hus hL hC h1 h2, lwc_49 hi hLL hus hL hC h1 h2, lwc_50 hi hLL hus hL hC h1 h2, fun _ h => absurd h List.not_mem_nil⟩
theorem lwDisp (hi : i + 7 ≤ L) (hLL : L ≤ 3584) (hus : ∀ j, us j ≤ 4294967295) (hL : xLI m w) (hC : xCo w) (h1 : cn + 25 ≤ 600000) (h2 : sl + 4088 ≤ 7302250) (hu : u ≤ 63) : xToX L us 1000 mLa (33, [], [(3, (0, i)), (2, (2, 82)), (1, (2, 0)), (0, (8, 99))], [(0, u)], (w, [], [], cn, sl, 81 + 12 * m, 114 + 25 * m)) (lwP i cn sl) := by
  by_cases h : u ≤ 50
  · obtain ⟨t, ht, k⟩ := xg_swX (L := L) (us := us) (d := 1000) (lo := [(3, (0, i)), (2, (2, 82)), (1, (2, 0)), (0, (8, 99))]) (hp := (w, [], [], cn, sl, 81 + 12 * m, 114 + 25 * m)) h
    exact xg_tX k (xtg_ok hi hLL hus hL hC h1 h2 t ht)
  · exact xg_tX (xg_swO (by omega) hu) (xg_eX ⟨m, w, cn, sl, hL, hC, by omega, by omega, rfl⟩)
/-- the end: 1, in the room that is there -/
def lwE (φ : xS) : Prop := xret 4 φ = some [(0, 1)] ∧ φ.2.2.2.2.2.2.2.1 ≤ 600000 ∧ φ.2.2.2.2.2.2.2.2.1 ≤ 7302250
theorem lwOut {rr : Nat × Nat} (h1 : cn ≤ 600000) (h2 : sl ≤ 7302250) : xToX L us d mLa (1711, [], lo, [], (w, [], [], cn, sl, rr)) lwE := by
  refine xg_tX (xg_blk (b := [(1711, 1, 3, 1, 0, 0), (1712, 1, 12, 0, 1, 0)]) rfl).toX ?_
  refine xg_tX xg_const.toX ?_
  exact xg_eX ⟨rfl, h1, h2⟩
theorem lwStop {rr : Nat × Nat} (hi : ¬ i + 7 ≤ L) (hLL : L ≤ 3584) (h4 : i ≤ 4000) (h1 : cn ≤ 600000) (h2 : sl ≤ 7302250) : xToX L us d mLa (18, [], [(3, (0, i)), (2, (2, 82)), (1, (2, 0)), (0, (8, 99))], [], (w, [], [], cn, sl, rr)) lwE := by
  refine xg_tX (xg_blk (b := [(18, 1, 2, 3, 0, 0), (19, 1, 0, 0, 0, 0), (20, 1, 31, 0, 0, 0), (21, 2, 4, 7, 0, 0), (23, 1, 18, 0, 0, 0), (24, 3, 6, 1711, 4, 0), (27, 1, 0, 0, 0, 0), (28, 1, 2, 3, 0, 0), (29, 1, 10, 0, 0, 0), (30, 2, 4, 63, 0, 0), (32, 1, 30, 0, 0, 0)]) rfl).toX ?_
  refine xg_tX (xg_iload (va := (0, i)) rfl rfl).toX ?_
  refine xg_tX (xg_aload (va := (8, 99)) rfl rfl).toX ?_
  refine xg_tX (xg_slnX (by omega)) ?_
  refine xg_tX xg_bip.toX ?_
  by_cases h7 : 7 ≤ L
  · refine xg_tX (xg_isub (u := L) (v := 7) (z := L - 7) xnm0 xnm0 (by omega)).toX ?_
    refine xg_tX (xg_icT (u := i) (v := L - 7) rfl xnm0 xnm0 (xj_gtT (by omega) (by omega))).toX ?_
    exact lwOut h1 h2
  · refine xg_tX (xg_isub (u := L) (v := 7) (z := L + 4294967289) xnm0 xnm0 (by omega)).toX ?_
    refine xg_tX (xg_icT (u := i) (v := L + 4294967289) rfl xnm0 xnm0 (xjs_gtT (by rw [xbs_neg (by omega) (by omega), xbs_small (by omega)]; omega))).toX ?_
    exact lwOut h1 h2
theorem lwGo (hi : i + 7 ≤ L) (hLL : L ≤ 3584) : xLdX L us d mLa (18, [], [(3, (0, i)), (2, (2, 82)), (1, (2, 0)), (0, (8, 99))], [], hp) [(33, [], [(3, (0, i)), (2, (2, 82)), (1, (2, 0)), (0, (8, 99))], [(0, Nat.land (us i) 63)], hp)] := by
  refine xthenX (xg_blk (b := [(18, 1, 2, 3, 0, 0), (19, 1, 0, 0, 0, 0), (20, 1, 31, 0, 0, 0), (21, 2, 4, 7, 0, 0), (23, 1, 18, 0, 0, 0), (24, 3, 6, 1711, 4, 0), (27, 1, 0, 0, 0, 0), (28, 1, 2, 3, 0, 0), (29, 1, 10, 0, 0, 0), (30, 2, 4, 63, 0, 0), (32, 1, 30, 0, 0, 0)]) rfl).toX ?_
  refine xthenX (xg_iload (va := (0, i)) rfl rfl).toX ?_
  refine xthenX (xg_aload (va := (8, 99)) rfl rfl).toX ?_
  refine xthenX (xg_slnX (by omega)) ?_
  refine xthenX xg_bip.toX ?_
  refine xthenX (xg_isub (u := L) (v := 7) (z := L - 7) xnm0 xnm0 (by omega)).toX ?_
  refine xthenX (xg_icF (u := i) (v := L - 7) rfl xnm0 xnm0 (xj_gtF (by omega) (by omega))).toX ?_
  refine xthenX (xg_aload (va := (8, 99)) rfl rfl).toX ?_
  refine xthenX (xg_iload (va := (0, i)) rfl rfl).toX ?_
  refine xthenX (xg_sldX (n := i) xnm0 (by omega) (by omega)) ?_
  refine xthenX xg_bip.toX ?_
  exact (xg_iand (u := us i) (v := 63) (z := Nat.land (us i) 63) xnm0 xnm0 rfl).toX
set_option maxRecDepth 100000 in
theorem lwLoop (hLL : L ≤ 3584) (hus : ∀ j, us j ≤ 4294967295) : ∀ (f i m cn sl : Nat) (w : List (List xE)), L ≤ i + 7 * f → cn + 25 * f ≤ 600000 → sl + 4088 * f ≤ 7302250 → i ≤ 4000 → xLI m w → xCo w → xToX L us 1000 mLa (18, [], [(3, (0, i)), (2, (2, 82)), (1, (2, 0)), (0, (8, 99))], [], (w, [], [], cn, sl, 81 + 12 * m, 114 + 25 * m)) lwE := by
  intro f
  induction f with
  | zero =>
    intro i m cn sl w h1 h2 h3 h4 hL hC
    exact lwStop (by omega) hLL h4 (by omega) (by omega)
  | succ f ih =>
    intro i m cn sl w h1 h2 h3 h4 hL hC
    rw [Nat.mul_succ] at h2 h3
    by_cases hi : i + 7 ≤ L
    · refine xg_tX (lwGo hi hLL) ?_
      refine (lwDisp hi hLL hus hL hC (by omega) (by omega) (show Nat.land (us i) 63 ≤ 63 from Nat.and_le_right)).bind (fun τ hτ => ?_)
      obtain ⟨m', w', cn', sl', hL', hC', hc, hs, rfl⟩ := hτ
      refine xg_tX (xg_blk (b := [(1705, 3, 9, 3, 7, 0), (1708, 3, 8, 18, 0, 0)]) rfl).toX ?_
      refine xg_tX (xg_iinc (u := i) (z := i + 7) (l1 := [(2, (2, 82)), (1, (2, 0)), (0, (8, 99))]) rfl rfl (Nat.mod_eq_of_lt (by omega)) rfl).toX ?_
      refine xg_tX xg_goto.toX ?_
      exact ih (i + 7) m' cn' sl' w' (by omega) (by omega) (by omega) (by omega) hL' hC'
    · exact lwStop hi hLL h4 (by omega) (by omega)
theorem xLI0 : xLI 0 xW0 := ⟨xInv0, xMnv0, xW0_shp, fun k h1 h2 => absurd h2 (by omega), [], rfl, fun j _ => Or.inl rfl, rfl⟩
theorem xCo0 : xCo xW0 := ⟨⟨⟨by decide +kernel, ⟨by decide +kernel, fun j hj => absurd (show j < 0 from hj) (Nat.not_lt_zero _)⟩⟩, ⟨by decide +kernel, by decide +kernel, by decide +kernel, by decide +kernel⟩, ⟨⟨by decide +kernel, by decide +kernel, by decide +kernel, by decide +kernel, by decide +kernel⟩, ⟨by decide +kernel, by decide +kernel, fun j hj => absurd (show j < 0 from hj) (Nat.not_lt_zero _)⟩, ⟨by decide +kernel, by decide +kernel, fun j hj => absurd (show j < 0 from hj) (Nat.not_lt_zero _)⟩, ⟨by decide +kernel, by decide +kernel, fun j hj => absurd (show j < 0 from hj) (Nat.not_lt_zero _)⟩, ⟨by decide +kernel, by decide +kernel, fun j hj => absurd (show j < 0 from hj) (Nat.not_lt_zero _)⟩, ⟨by decide +kernel, by decide +kernel, fun j hj => absurd (show j < 0 from hj) (Nat.not_lt_zero _)⟩⟩, ⟨by decide +kernel, by decide +kernel, fun i hi => absurd (show i < 0 from hi) (Nat.not_lt_zero _)⟩, ⟨by decide +kernel, by decide +kernel, fun j hj => absurd (show j < 0 from hj) (Nat.not_lt_zero _)⟩, ⟨by decide +kernel, by decide +kernel, fun j hj => absurd (show j < 0 from hj) (Nat.not_lt_zero _)⟩⟩, ⟨[], rfl, fun k hk => Or.inl ⟨rfl, by
  rcases (show k = 0 ∨ k = 1 ∨ k = 2 by omega) with rfl | rfl | rfl
  · decide +kernel
  · decide +kernel
  · decide +kernel⟩, fun k k' _ _ _ h => absurd rfl h⟩, trivial⟩
end XLP
