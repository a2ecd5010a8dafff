/-! the model: ways -/
def cnt (f : Nat → Nat) : Nat → Nat
  | 0 => 0
  | n + 1 => cnt f n + (if f n = 4294967295 then 1 else 0)
theorem cnt_le (f : Nat → Nat) : ∀ n, cnt f n ≤ n
  | 0 => Nat.le_refl _
  | n + 1 => by
    have ih := cnt_le f n
    show cnt f n + (if f n = 4294967295 then 1 else 0) ≤ n + 1
    split <;> omega
theorem cnt_ge {f : Nat → Nat} {i v : Nat} : ∀ n, n ≤ i → cnt (fun j => if j = i then v else f j) n = cnt f n
  | 0, _ => rfl
  | n + 1, h => by
    have ih := cnt_ge (f := f) (i := i) (v := v) n (by omega)
    show cnt (fun j => if j = i then v else f j) n + (if (if n = i then v else f n) = 4294967295 then 1 else 0) = cnt f n + _
    rw [ih, if_neg (show ¬ n = i by omega)]
theorem cnt_upd {f : Nat → Nat} {i v : Nat} (hf : f i = 4294967295) (hv : v ≠ 4294967295) : ∀ n, i < n → cnt (fun j => if j = i then v else f j) n + 1 = cnt f n
  | 0, h => absurd h (Nat.not_lt_zero _)
  | n + 1, h => by
    show cnt (fun j => if j = i then v else f j) n + (if (if n = i then v else f n) = 4294967295 then 1 else 0) + 1 = cnt f n + (if f n = 4294967295 then 1 else 0)
    by_cases z : n = i
    · subst z
      rw [if_pos rfl, if_neg hv, if_pos hf, cnt_ge n (Nat.le_refl _)]
    · have ih := cnt_upd hf hv n (by omega)
      rw [if_neg z]
      omega
/-- a number of an object, of a row -/
noncomputable def fld (w : List (List xE)) (c j : Nat) : Nat := match wget w c with
  | some (.inl o) => (o.2.getD j (0, 0)).2
  | _ => 0
theorem fld_of {w : List (List xE)} {c j : Nat} {o : Nat × List xV} (h : wget w c = some (.inl o)) : fld w c j = (o.2.getD j (0, 0)).2 := by
  unfold fld
  rw [h]
theorem fld_fr {S : List Nat} {w w' : List (List xE)} {c j : Nat} (h : xFr S w w') (hc : c ∉ S) : fld w' c j = fld w c j := by
  unfold fld
  rw [h.1 c hc]
noncomputable def rwv (w : List (List xE)) (k j : Nat) : Nat := match wget w k with
  | some (.inr a) => (xat a.1 a.2.2.2 j).2
  | _ => 0
theorem rwv_of {w : List (List xE)} {k L t j : Nat} {f : Nat → Nat} (h : xRow w k L t f) (hj : j < L) : rwv w k j = f j := by
  obtain ⟨us, h1, h2⟩ := h
  unfold rwv
  rw [h1]
  exact congrArg Prod.snd (h2 j hj)
noncomputable def clW (w : List (List xE)) : Nat := (if rwv w 98 0 = 1 then 0 else 1) + (if rwv w 98 1 = 1 then 0 else 1) + (if rwv w 98 2 = 1 then 0 else 1) + (if rwv w 98 3 = 1 then 0 else 1) + (if rwv w 98 4 = 1 then 0 else 1) + (if rwv w 98 5 = 1 then 0 else 1)
theorem clW_fr {S : List Nat} {w w' : List (List xE)} (h : xFr S w w') (hc : 98 ∉ S) : clW w' = clW w := by
  unfold clW rwv
  rw [h.1 98 hc]
theorem clW_set {w w' : List (List xE)} {f : Nat → Nat} {r : Nat} (h : xRow w 98 6 65 f) (h' : xRow w' 98 6 65 (fun j => if j = r then 1 else f j)) (hr : r < 6) (hf : f r ≠ 1) : clW w' < clW w := by
  unfold clW
  rw [rwv_of h (by decide), rwv_of h (by decide), rwv_of h (by decide), rwv_of h (by decide), rwv_of h (by decide), rwv_of h (by decide), rwv_of h' (by decide), rwv_of h' (by decide), rwv_of h' (by decide), rwv_of h' (by decide), rwv_of h' (by decide), rwv_of h' (by decide)]
  rcases (show r = 0 ∨ r = 1 ∨ r = 2 ∨ r = 3 ∨ r = 4 ∨ r = 5 by omega) with rfl | rfl | rfl | rfl | rfl | rfl <;> simp [hf] <;> omega
theorem okN.le {f : Nat → Nat} (h : okN f) : ∀ j, f j ≤ 4294967295 := fun j => by rcases h j with z | z <;> omega
theorem okF.at {f : Nat → Nat} (h : okF f) {p : Nat} (hp : p < 36) : f p = 4294967295 ∨ f p < 36 := by
  obtain ⟨rk, hr⟩ := h
  rcases hr p hp with z | z
  · exact Or.inl z
  · exact Or.inr z.1
/-- the search: places met, whence -/
def FR (w : List (List xE)) (f m : Nat → Nat) : Prop := xRow w 102 36 69 f ∧ okF f ∧ okN f ∧ xRow w 101 36 68 m ∧ (∀ j, m j ≤ 35) ∧ fld w 82 33 + cnt f 36 ≤ 36 ∧ ∀ i, i < fld w 82 33 → f (m i) ≠ 4294967295
theorem FR.fr {S : List Nat} {w w' : List (List xE)} {f m : Nat → Nat} (h : FR w f m) (hf : xFr S w w') (h1 : 102 ∉ S) (h2 : 101 ∉ S) (h3 : 82 ∉ S) : FR w' f m := by
  obtain ⟨a1, a2, a3, a4, a5, a6, a7⟩ := h
  have e := fld_fr (j := 33) hf h3
  exact ⟨a1.fr hf h1, a2, a3, a4.fr hf h2, a5, by rw [e]; exact a6, fun i hi => a7 i (by rw [← e]; exact hi)⟩
theorem FR.room {w : List (List xE)} {f m : Nat → Nat} {p : Nat} (h : FR w f m) (hp : p < 36) (hn : f p = 4294967295) : fld w 82 33 < 36 := by
  have e := cnt_upd (f := f) (i := p) (v := 0) hn (by decide) 36 hp
  have := h.2.2.2.2.2.1
  omega
theorem FR.step {w w' : List (List xE)} {f m : Nat → Nat} {p b : Nat} (h : FR w f m) (hp : p < 36) (hn : f p = 4294967295) (hb : b < 36) (hc : b = p ∨ f b ≠ 4294967295) (r1 : xRow w' 102 36 69 (fun j => if j = p then b else f j)) (r2 : xRow w' 101 36 68 (fun j => if j = fld w 82 33 then p else m j)) (hm : fld w' 82 33 = fld w 82 33 + 1) : FR w' (fun j => if j = p then b else f j) (fun j => if j = fld w 82 33 then p else m j) := by
  obtain ⟨a1, a2, a3, a4, a5, a6, a7⟩ := h
  have e := cnt_upd (f := f) (i := p) (v := b) hn (by omega) 36 hp
  refine ⟨r1, a2.upd hp hn hb hc, a3.upd (Or.inr hb), r2, fun j => ?_, by omega, fun i hi => ?_⟩
  · show (if j = fld w 82 33 then p else m j) ≤ 35
    split
    · omega
    · exact a5 j
  · show (if (if i = fld w 82 33 then p else m i) = p then b else f (if i = fld w 82 33 then p else m i)) ≠ 4294967295
    by_cases z : i = fld w 82 33
    · rw [if_pos z, if_pos rfl]
      omega
    · rw [if_neg z]
      by_cases y : m i = p
      · rw [if_pos y]; omega
      · rw [if_neg y]
        exact a7 i (by omega)
theorem FR.mono {f : Nat → Nat} {p b : Nat} (hn : f p = 4294967295) : ∀ j, f j ≠ 4294967295 → (fun j => if j = p then b else f j) j ≠ 4294967295 := by
  intro j hj
  show (if j = p then b else f j) ≠ 4294967295
  by_cases z : j = p
  · rw [z] at hj
    exact absurd hn hj
  · rw [if_neg z]; exact hj
theorem FR.start {w : List (List xE)} {f m : Nat → Nat} (r1 : xRow w 102 36 69 f) (hn : okN f) (ha : ∀ j, j < 36 → f j = 4294967295) (r2 : xRow w 101 36 68 m) (hm : ∀ j, m j ≤ 35) (h0 : fld w 82 33 = 0) : FR w f m := by
  have := cnt_le f 36
  exact ⟨r1, ⟨fun _ => 0, fun p hp => Or.inl (ha p hp)⟩, hn, r2, hm, by omega, fun i hi => by omega⟩
section XM3
variable {d : Nat} {w : List (List xE)} {bd : List (Nat × Nat)} {fc : List (Nat × Nat × Bool)} {rr : Nat × Nat}
theorem mMeets {f0 m0 : Nat → Nat} {pp bb : Nat} (hI : xMnv w) (hfr : FR w f0 m0) (hpp : pp < 36) (hbb : bb < 36) (hc : bb = pp ∨ f0 bb ≠ 4294967295) : xPq d mX12_meets [(2, 82), (0, pp), (0, bb)] w bd fc rr [] (fun w' => xMnv w' ∧ xFr [82, 101, 102] w w' ∧ (∃ f m, FR w' f m ∧ (∀ j, f0 j ≠ 4294967295 → f j ≠ 4294967295) ∧ fld w 82 33 ≤ fld w' 82 33)) := by
  refine xPq.of ?_
  show xTo d mX12_meets (0, [], [(0, (2, 82)), (1, (0, pp)), (2, (0, bb))], [], (w, bd, fc, 0, 0, rr)) (fun φ => ∃ w', xEnd 0 [] (w', bd, fc, 0, 0, rr) φ ∧ xMnv w' ∧ xFr [82, 101, 102] w w' ∧ (∃ f m, FR w' f m ∧ (∀ j, f0 j ≠ 4294967295 → f j ≠ 4294967295) ∧ fld w 82 33 ≤ fld w' 82 33))
  obtain ⟨hfra, hfrb, hfrc, hfrd, hfre, hfrf, hfrg⟩ := id hfr
  refine xoCh82 (hI 82 (by decide) (by decide) : cp82 (wget w 82)) (fun f82_1 f82_3 f82_5 f82_7 f82_9 f82_11 f82_13 f82_15 f82_17 f82_19 f82_21 f82_22 f82_23 f82_25 f82_27 f82_29 h82_31 hb2 hb4 hb6 hb8 hb10 hb12 hb14 hb16 hb18 hb20 hb24 hb26 hb28 hb30 hb32 => ?_)
  have hm33 : fld w 82 33 = f82_25 := fld_of h82_31
  refine xg_t (xg_blk (b := [(0, 1, 0, 0, 0, 0), (1, 3, 1, 12, 32, 69), (4, 1, 2, 1, 0, 0), (5, 1, 10, 0, 0, 0), (6, 3, 7, 10, 2, 0), (9, 1, 12, 0, 0, 0)]) rfl) ?_
  refine xg_t (xg_aload (va := (2, 82)) rfl rfl) ?_
  refine xg_t (xg_getf (va := (2, 102)) h82_31 rfl) ?_
  refine xg_t (xg_iload (va := (0, pp)) rfl rfl) ?_
  refine xg_ialdB (n := pp) (B := 4294967295) hfra ((okN.le hfrc)) xnm0 (by omega) (fun u34 hu35 he36 => ?_)
  have hz37 := hfrc pp
  have hz38 := hfrb.at (p := pp) (by omega)
  by_cases hc39 : u34 < 2147483648
  · refine xg_t (xg_ifF (u := u34) rfl xnm0 (xjz_ltF hc39)) ?_
    exact xg_e ⟨w, ⟨rfl, rfl⟩, hI, xFr.rf, ⟨f0, m0, hfr, fun _ h => h, Nat.le_refl _⟩⟩
  · refine xg_t (xg_ifT (u := u34) rfl xnm0 (xjz_ltT (by omega) (by omega))) ?_
    refine xg_t (xg_blk (b := [(10, 1, 0, 0, 0, 0), (11, 3, 1, 12, 32, 69), (14, 1, 2, 1, 0, 0), (15, 1, 2, 2, 0, 0), (16, 1, 17, 0, 0, 0), (17, 1, 0, 0, 0, 0), (18, 3, 1, 12, 31, 66), (21, 1, 0, 0, 0, 0), (22, 3, 1, 12, 33, 290), (25, 1, 2, 1, 0, 0), (26, 1, 17, 0, 0, 0), (27, 1, 0, 0, 0, 0), (28, 1, 19, 0, 0, 0), (29, 3, 1, 12, 33, 290), (32, 1, 3, 1, 0, 0), (33, 1, 11, 0, 0, 0), (34, 3, 14, 12, 33, 290), (37, 1, 12, 0, 0, 0)]) rfl) ?_
    refine xg_t (xg_aload (va := (2, 82)) rfl rfl) ?_
    refine xg_t (xg_getf (va := (2, 102)) h82_31 rfl) ?_
    refine xg_t (xg_iload (va := (0, pp)) rfl rfl) ?_
    refine xg_t (xg_iload (va := (0, bb)) rfl rfl) ?_
    refine xg_iastK (n := pp) (u := bb) hfra xnm0 xnm0 rfl (by omega) (fun w40 hr41 hb42 => ?_)
    refine xg_t (xg_aload (va := (2, 82)) rfl rfl) ?_
    refine xg_t (xg_getf (va := (2, 101)) (hb42.get (by decide) h82_31) rfl) ?_
    refine xg_t (xg_aload (va := (2, 82)) rfl rfl) ?_
    refine xg_t (xg_getf (va := (0, f82_25)) (hb42.get (by decide) h82_31) rfl) ?_
    have hn43 : f82_25 ≤ 36 := hb26
    refine xg_t (xg_iload (va := (0, pp)) rfl rfl) ?_
    have hz44 := hfr.room (p := pp) (by omega) (by omega)
    refine xg_iastK (n := f82_25) (u := pp) (hfrd.but hb42 (by decide)) xnm0 xnm0 rfl (by omega) (fun w45 hr46 hb47 => ?_)
    refine xg_t (xg_aload (va := (2, 82)) rfl rfl) ?_
    refine xg_t (xg_dup rfl) ?_
    refine xg_t (xg_getf (va := (0, f82_25)) (hb47.get (by decide) (hb42.get (by decide) h82_31)) rfl) ?_
    refine xg_t (xg_const) ?_
    refine xg_t (xg_iadd (u := f82_25) (v := 1) (z := f82_25 + 1) xnm0 xnm0 (by omega)) ?_
    refine xg_putI (fl1 := [(2, 83), (2, 84), (0, f82_1), (0, f82_3), (0, f82_5), (0, f82_7), (0, f82_9), (0, f82_11), (0, f82_13), (0, f82_15), (0, f82_17), (2, 85), (2, 86), (2, 87), (0, f82_19), (2, 88), (2, 89), (2, 90), (2, 91), (2, 92), (2, 93), (2, 94), (4, f82_21), (4, f82_22), (0, f82_23), (2, 95), (2, 96), (2, 97), (2, 98), (2, 99), (2, 100), (2, 101), (2, 102), (0, f82_25 + 1), (2, 103), (2, 104), (2, 105), (2, 106), (2, 107), (2, 108), (2, 109), (0, f82_27), (0, f82_29), (2, 110), (2, 111), (2, 112), (2, 113)]) (hb47.get (by decide) (hb42.get (by decide) h82_31)) rfl rfl rfl (fun w48 hk49 hb50 => ?_)
    exact xg_e ⟨w48, ⟨rfl, rfl⟩, xMnv.up (S := [102, 101, 82]) hI (((xFr.of (S := [102, 101, 82]) hb42 (by decide)).tr (xFr.of (S := [102, 101, 82]) hb47 (by decide))).tr (xFr.of (S := [102, 101, 82]) hb50 (by decide))) (List.forall_mem_cons.mpr ⟨(show cpx102 (wget w48 102) from ⟨_, ((hr41.but hb47 (by decide)).but hb50 (by decide)), xrb (by omega) ((okN.le hfrc)), (hfrc.upd (by omega))⟩), List.forall_mem_cons.mpr ⟨(show cpI 36 68 35 (wget w48 101) from ⟨_, (hr46.but hb50 (by decide)), xrb (by omega) (hfre)⟩), List.forall_mem_cons.mpr ⟨(show cp82 (wget w48 82) from xmC82 f82_1 f82_3 f82_5 f82_7 f82_9 f82_11 f82_13 f82_15 f82_17 f82_19 f82_21 f82_22 f82_23 (f82_25 + 1) f82_27 f82_29 hk49 hb2 hb4 hb6 hb8 hb10 hb12 hb14 hb16 hb18 hb20 hb24 (by omega) hb28 hb30 (by omega)), fun _ h => absurd h List.not_mem_nil⟩⟩⟩), (((xFr.of (S := [82, 101, 102]) hb42 (by decide)).tr (xFr.of (S := [82, 101, 102]) hb47 (by decide))).tr (xFr.of (S := [82, 101, 102]) hb50 (by decide))), ⟨_, _, FR.step hfr (by omega) (by omega) (by omega) hc (((hr41.but hb47 (by decide)).but hb50 (by decide))) (by rw [hm33]; exact (hr46.but hb50 (by decide))) (by rw [hm33]; exact fld_of hk49), FR.mono (by omega), by rw [hm33, fld_of hk49]; exact Nat.le_succ _⟩⟩
theorem mSpreads (hI : xMnv w)  : xPq (d + 1) mX12_spreads [(2, 82)] w bd fc rr [] (fun w' => xMnv w' ∧ xFr [82, 101, 102] w w' ∧ (∃ f m, FR w' f m)) := by
  refine xPq.of ?_
  show xTo (d + 1) mX12_spreads (0, [], [(0, (2, 82))], [], (w, bd, fc, 0, 0, rr)) (fun φ => ∃ w', xEnd 0 [] (w', bd, fc, 0, 0, rr) φ ∧ xMnv w' ∧ xFr [82, 101, 102] w w' ∧ (∃ f m, FR w' f m))
  refine xoCh82 (hI 82 (by decide) (by decide) : cp82 (wget w 82)) (fun f82_1 f82_3 f82_5 f82_7 f82_9 f82_11 f82_13 f82_15 f82_17 f82_19 f82_21 f82_22 f82_23 f82_25 f82_27 f82_29 h82_31 hb2 hb4 hb6 hb8 hb10 hb12 hb14 hb16 hb18 hb20 hb24 hb26 hb28 hb30 hb32 => ?_)
  refine xoX83 (hI 83 (by decide) (by decide) : cpx83 (wget w 83)) (fun g83_33 h83_34 hb35 hx36 => ?_)
  refine xoI (hI 95 (by decide) (by decide) : cpI 36 62 4294967295 (wget w 95)) (fun g95_37 h95_38 hb39 => ?_)
  refine xoI (hI 96 (by decide) (by decide) : cpI 36 63 4294967295 (wget w 96)) (fun g96_40 h96_41 hb42 => ?_)
  refine xoI (hI 97 (by decide) (by decide) : cpI 6 64 4294967295 (wget w 97)) (fun g97_43 h97_44 hb45 => ?_)
  obtain ⟨g99_46, h99_47, hb48, hx49⟩ := (hI 99 (by decide) (by decide) : cpx99 (wget w 99))
  have h99_47 : xRk 2 0 w 99 36 66 g99_46 := h99_47
  obtain ⟨g100_50, h100_51, hb52, hx53⟩ := (hI 100 (by decide) (by decide) : cpx100 (wget w 100))
  have h100_51 : xRk 2 0 w 100 36 67 g100_50 := h100_51
  refine xg_t (xg_blk (b := [(0, 1, 0, 0, 0, 0), (1, 1, 3, 0, 0, 0), (2, 3, 14, 12, 33, 290), (5, 1, 3, 0, 0, 0), (6, 1, 15, 1, 0, 0)]) rfl) ?_
  refine xg_t (xg_aload (va := (2, 82)) rfl rfl) ?_
  refine xg_t (xg_const) ?_
  refine xg_putI (fl1 := [(2, 83), (2, 84), (0, f82_1), (0, f82_3), (0, f82_5), (0, f82_7), (0, f82_9), (0, f82_11), (0, f82_13), (0, f82_15), (0, f82_17), (2, 85), (2, 86), (2, 87), (0, f82_19), (2, 88), (2, 89), (2, 90), (2, 91), (2, 92), (2, 93), (2, 94), (4, f82_21), (4, f82_22), (0, f82_23), (2, 95), (2, 96), (2, 97), (2, 98), (2, 99), (2, 100), (2, 101), (2, 102), (0, 0), (2, 103), (2, 104), (2, 105), (2, 106), (2, 107), (2, 108), (2, 109), (0, f82_27), (0, f82_29), (2, 110), (2, 111), (2, 112), (2, 113)]) h82_31 rfl rfl rfl (fun w54 hk55 hb56 => ?_)
  refine xg_t (xg_const) ?_
  refine xg_t (xg_istore (l1 := [(0, (2, 82))]) rfl rfl rfl) ?_
  refine xg_t (xg_drop (l1 := [(0, (2, 82)), (1, (0, 0))]) (List.forall_mem_cons.mpr ⟨List.mem_cons_of_mem _ (List.mem_cons_self), List.forall_mem_cons.mpr ⟨List.mem_cons_self, fun _ h => absurd h List.not_mem_nil⟩⟩)) ?_
  obtain ⟨g102_63, h102_64, hb65, hx66⟩ := (hI 102 (by decide) (by decide) : cpx102 (wget w 102))
  have h102_64 : xRow w 102 36 69 g102_63 := h102_64
  have key57 : ∀ (m59 : Nat) (ki : Nat) (w60 : List (List xE)), 36 - ki < m59 → ki ≤ 36 → xMnv w60 → xFr [82, 101, 102] w w60 → (fld w60 82 33 = 0 ∧ ∃ f : Nat → Nat, xRow w60 102 36 69 f ∧ ∀ j, j < ki → f j = 4294967295) → xTo (d + 1) mX12_spreads (7, [], [(0, (2, 82)), (1, (0, ki))], [], (w60, bd, fc, 0, 0, rr)) (fun φ => ∃ w', xEnd 0 [] (w', bd, fc, 0, 0, rr) φ ∧ xMnv w' ∧ xFr [82, 101, 102] w w' ∧ (∃ f m, FR w' f m)) := by
    intro m59
    induction m59 with
    | zero => intro ki w60 hz; exact absurd hz (Nat.not_lt_zero _)
    | succ m59 ih58 =>
      intro ki w60 hm69 hn67 hI61 hF62 he68
      refine xoCh82 (hI61 82 (by decide) (by decide) : cp82 (wget w60 82)) (fun f82_70 f82_72 f82_74 f82_76 f82_78 f82_80 f82_82 f82_84 f82_86 f82_88 f82_90 f82_91 f82_92 f82_94 f82_96 f82_98 h82_100 hb71 hb73 hb75 hb77 hb79 hb81 hb83 hb85 hb87 hb89 hb93 hb95 hb97 hb99 hb101 => ?_)
      have hm102 : fld w60 82 33 = f82_94 := fld_of h82_100
      obtain ⟨h0103, f104, hr105, hf106⟩ := he68
      obtain ⟨g102_108, h102_109, hb110, hx111⟩ := (hI61 102 (by decide) (by decide) : cpx102 (wget w60 102))
      have h102_109 : xRow w60 102 36 69 g102_108 := h102_109
      have hd107 : ∀ j, j < ki → g102_108 j = 4294967295 := fun j hj => by rw [← xRow.det hr105 h102_109 j (by omega)]; exact hf106 j hj
      refine xg_t (xg_blk (b := [(7, 1, 2, 1, 0, 0), (8, 2, 4, 36, 0, 0), (10, 3, 6, 26, 3, 0), (13, 1, 0, 0, 0, 0), (14, 3, 1, 12, 32, 69), (17, 1, 2, 1, 0, 0), (18, 1, 3, 4294967295, 0, 0), (19, 1, 17, 0, 0, 0), (20, 3, 9, 1, 1, 0), (23, 3, 8, 7, 0, 0)]) rfl) ?_
      refine xg_t (xg_iload (va := (0, ki)) rfl rfl) ?_
      refine xg_t (xg_bip) ?_
      by_cases hc112 : ki < 36
      · refine xg_t (xg_icF (u := ki) (v := 36) rfl xnm0 xnm0 (xj_geF hc112 (by omega))) ?_
        refine xg_t (xg_aload (va := (2, 82)) rfl rfl) ?_
        refine xg_t (xg_getf (va := (2, 102)) h82_100 rfl) ?_
        refine xg_t (xg_iload (va := (0, ki)) rfl rfl) ?_
        refine xg_t (xg_const) ?_
        refine xg_iastK (n := ki) (u := 4294967295) h102_109 xnm0 xnm0 rfl (by omega) (fun w113 hr114 hb115 => ?_)
        refine xg_t (xg_iinc (u := ki) (z := ki + 1) (l1 := [(0, (2, 82))]) rfl rfl (by omega) rfl) ?_
        refine xg_t (xg_goto) ?_
        refine xg_t (xg_drop (l1 := [(0, (2, 82)), (1, (0, ki + 1))]) (List.forall_mem_cons.mpr ⟨List.mem_cons_of_mem _ (List.mem_cons_self), List.forall_mem_cons.mpr ⟨List.mem_cons_self, fun _ h => absurd h List.not_mem_nil⟩⟩)) ?_
        exact ih58 (ki + 1) w113 (by omega) (by omega) (xMnv.up (S := [102]) hI61 (xFr.of (S := [102]) hb115 (by decide)) (List.forall_mem_cons.mpr ⟨(show cpx102 (wget w113 102) from ⟨_, hr114, xrb (by omega) (hb110), (hx111.upd (by omega))⟩), fun _ h => absurd h List.not_mem_nil⟩)) ((hF62.tr (xFr.of (S := [82, 101, 102]) hb115 (by decide)))) (⟨(fld_of (hb115.get (by decide) h82_100)).trans (show f82_94 = 0 by omega), _, hr114, fun j hj => by show (if j = ki then 4294967295 else g102_108 j) = 4294967295; split; rfl; exact hd107 j (by omega)⟩)
      · refine xg_t (xg_icT (u := ki) (v := 36) rfl xnm0 xnm0 (xj_geT (by omega) (by omega))) ?_
        refine xg_t (xg_blk (b := [(26, 1, 3, 0, 0, 0), (27, 1, 15, 1, 0, 0)]) rfl) ?_
        refine xg_t (xg_const) ?_
        refine xg_t (xg_istore (l1 := [(0, (2, 82))]) rfl rfl rfl) ?_
        refine xg_t (xg_drop (l1 := [(0, (2, 82)), (1, (0, 0))]) (List.forall_mem_cons.mpr ⟨List.mem_cons_of_mem _ (List.mem_cons_self), List.forall_mem_cons.mpr ⟨List.mem_cons_self, fun _ h => absurd h List.not_mem_nil⟩⟩)) ?_
        refine xoI (hI61 101 (by decide) (by decide) : cpI 36 68 35 (wget w60 101)) (fun g101_122 h101_123 hb124 => ?_)
        have key116 : ∀ (m118 : Nat) (ri : Nat) (w119 : List (List xE)), 6 - ri < m118 → ri ≤ 6 → xMnv w119 → xFr [82, 101, 102] w w119 → (∃ f m, FR w119 f m) → xTo (d + 1) mX12_spreads (28, [], [(0, (2, 82)), (1, (0, ri))], [], (w119, bd, fc, 0, 0, rr)) (fun φ => ∃ w', xEnd 0 [] (w', bd, fc, 0, 0, rr) φ ∧ xMnv w' ∧ xFr [82, 101, 102] w w' ∧ (∃ f m, FR w' f m)) := by
          intro m118
          induction m118 with
          | zero => intro ri w119 hz; exact absurd hz (Nat.not_lt_zero _)
          | succ m118 ih117 =>
            intro ri w119 hm127 hn125 hI120 hF121 he126
            obtain ⟨f128, m129, hfr130⟩ := he126
            obtain ⟨hfr130a, hfr130b, hfr130c, hfr130d, hfr130e, hfr130f, hfr130g⟩ := id hfr130
            refine xoCh82 (hI120 82 (by decide) (by decide) : cp82 (wget w119 82)) (fun f82_131 f82_133 f82_135 f82_137 f82_139 f82_141 f82_143 f82_145 f82_147 f82_149 f82_151 f82_152 f82_153 f82_155 f82_157 f82_159 h82_161 hb132 hb134 hb136 hb138 hb140 hb142 hb144 hb146 hb148 hb150 hb154 hb156 hb158 hb160 hb162 => ?_)
            have hm163 : fld w119 82 33 = f82_155 := fld_of h82_161
            refine xg_t (xg_blk (b := [(28, 1, 2, 1, 0, 0), (29, 1, 0, 0, 0, 0), (30, 3, 1, 12, 0, 7), (33, 1, 3, 5, 0, 0), (34, 1, 10, 0, 0, 0), (35, 3, 6, 65, 3, 0), (38, 1, 0, 0, 0, 0), (39, 3, 1, 12, 27, 54), (42, 1, 2, 1, 0, 0), (43, 1, 10, 0, 0, 0), (44, 3, 7, 59, 1, 0), (47, 1, 0, 0, 0, 0), (48, 2, 4, 6, 0, 0), (50, 1, 2, 1, 0, 0), (51, 1, 16, 0, 0, 0), (52, 2, 4, 6, 0, 0), (54, 1, 2, 1, 0, 0), (55, 1, 16, 0, 0, 0), (56, 3, 13, 191, 96, 293)]) rfl) ?_
            refine xg_t (xg_iload (va := (0, ri)) rfl rfl) ?_
            refine xg_t (xg_aload (va := (2, 82)) rfl rfl) ?_
            refine xg_t (xg_getf (va := (2, 83)) h82_161 rfl) ?_
            refine xg_t (xg_const) ?_
            refine xg_ialdB (n := 5) (B := 4294967295) (h83_34.fr hF121 (by decide)) (hb35) xnm0 (by first | decide | omega) (fun u164 hu165 he166 => ?_)
            have hl167 : u164 ≤ 6 := by rw [← he166]; exact hx36.l5
            by_cases hc168 : ri < u164
            · refine xg_t (xg_icF (u := ri) (v := u164) rfl xnm0 xnm0 (xj_geF hc168 (by omega))) ?_
              refine xg_t (xg_aload (va := (2, 82)) rfl rfl) ?_
              refine xg_t (xg_getf (va := (2, 97)) h82_161 rfl) ?_
              refine xg_t (xg_iload (va := (0, ri)) rfl rfl) ?_
              refine xg_ialdB (n := ri) (B := 4294967295) (h97_44.fr hF121 (by decide)) (hb45) xnm0 (by omega) (fun u169 hu170 he171 => ?_)
              by_cases hc172 : u169 = 0
              · refine xg_t (xg_ifF (u := u169) rfl xnm0 (xj_neF hc172)) ?_
                refine xg_t (xg_aload (va := (2, 82)) rfl rfl) ?_
                refine xg_t (xg_bip) ?_
                refine xg_t (xg_iload (va := (0, ri)) rfl rfl) ?_
                refine xg_t (xg_imul (u := 6) (v := ri) (z := 6 * ri) xnm0 xnm0 (by omega)) ?_
                refine xg_t (xg_bip) ?_
                refine xg_t (xg_iload (va := (0, ri)) rfl rfl) ?_
                refine xg_t (xg_imul (u := 6) (v := ri) (z := 6 * ri) xnm0 xnm0 (by omega)) ?_
                refine xg_cVv mX12_meets (vs := [(0, 6 * ri), (0, 6 * ri)]) (rest := []) (cn1 := 0) (sl1 := 0) rfl (mMeets (hI120) hfr130 (by omega) (by omega) (Or.inl rfl)) rfl h82_161 rfl rfl rfl rfl rfl rfl (fun w173 hq174 => ?_)
                obtain ⟨hI175, hF176, hx177⟩ := hq174
                obtain ⟨f178, m179, hfr180, hmo181, hle182⟩ := hx177
                obtain ⟨hfr180a, hfr180b, hfr180c, hfr180d, hfr180e, hfr180f, hfr180g⟩ := id hfr180
                refine xg_t (xg_blk (b := [(59, 3, 9, 1, 1, 0), (62, 3, 8, 28, 0, 0)]) rfl) ?_
                refine xg_t (xg_iinc (u := ri) (z := ri + 1) (l1 := [(0, (2, 82))]) rfl rfl (by omega) rfl) ?_
                refine xg_t (xg_goto) ?_
                refine xg_t (xg_drop (l1 := [(0, (2, 82)), (1, (0, ri + 1))]) (List.forall_mem_cons.mpr ⟨List.mem_cons_of_mem _ (List.mem_cons_self), List.forall_mem_cons.mpr ⟨List.mem_cons_self, fun _ h => absurd h List.not_mem_nil⟩⟩)) ?_
                exact ih117 (ri + 1) w173 (by omega) (by omega) (hI175) ((hF121.tr (hF176.up (by decide)))) (⟨_, _, hfr180⟩)
              · refine xg_t (xg_ifT (u := u169) rfl xnm0 (xj_neT hc172)) ?_
                refine xg_t (xg_blk (b := [(59, 3, 9, 1, 1, 0), (62, 3, 8, 28, 0, 0)]) rfl) ?_
                refine xg_t (xg_iinc (u := ri) (z := ri + 1) (l1 := [(0, (2, 82))]) rfl rfl (by omega) rfl) ?_
                refine xg_t (xg_goto) ?_
                refine xg_t (xg_drop (l1 := [(0, (2, 82)), (1, (0, ri + 1))]) (List.forall_mem_cons.mpr ⟨List.mem_cons_of_mem _ (List.mem_cons_self), List.forall_mem_cons.mpr ⟨List.mem_cons_self, fun _ h => absurd h List.not_mem_nil⟩⟩)) ?_
                exact ih117 (ri + 1) w119 (by omega) (by omega) (hI120) (hF121) (⟨_, _, hfr130⟩)
            · refine xg_t (xg_icT (u := ri) (v := u164) rfl xnm0 xnm0 (xj_geT (by omega) (by omega))) ?_
              refine xg_t (xg_blk (b := [(65, 1, 3, 0, 0, 0), (66, 1, 15, 1, 0, 0)]) rfl) ?_
              refine xg_t (xg_const) ?_
              refine xg_t (xg_istore (l1 := [(0, (2, 82))]) rfl rfl rfl) ?_
              refine xg_t (xg_drop (l1 := [(0, (2, 82)), (1, (0, 0))]) (List.forall_mem_cons.mpr ⟨List.mem_cons_of_mem _ (List.mem_cons_self), List.forall_mem_cons.mpr ⟨List.mem_cons_self, fun _ h => absurd h List.not_mem_nil⟩⟩)) ?_
              have key183 : ∀ (m185 : Nat) (ii : Nat) (w186 : List (List xE)), 36 - ii < m185 → ii ≤ 36 → xMnv w186 → xFr [82, 101, 102] w w186 → (∃ f m, FR w186 f m) → xTo (d + 1) mX12_spreads (67, [], [(0, (2, 82)), (1, (0, ii))], [], (w186, bd, fc, 0, 0, rr)) (fun φ => ∃ w', xEnd 0 [] (w', bd, fc, 0, 0, rr) φ ∧ xMnv w' ∧ xFr [82, 101, 102] w w' ∧ (∃ f m, FR w' f m)) := by
                intro m185
                induction m185 with
                | zero => intro ii w186 hz; exact absurd hz (Nat.not_lt_zero _)
                | succ m185 ih184 =>
                  intro ii w186 hm191 hn189 hI187 hF188 he190
                  obtain ⟨f192, m193, hfr194⟩ := he190
                  obtain ⟨hfr194a, hfr194b, hfr194c, hfr194d, hfr194e, hfr194f, hfr194g⟩ := id hfr194
                  refine xoCh82 (hI187 82 (by decide) (by decide) : cp82 (wget w186 82)) (fun f82_195 f82_197 f82_199 f82_201 f82_203 f82_205 f82_207 f82_209 f82_211 f82_213 f82_215 f82_216 f82_217 f82_219 f82_221 f82_223 h82_225 hb196 hb198 hb200 hb202 hb204 hb206 hb208 hb210 hb212 hb214 hb218 hb220 hb222 hb224 hb226 => ?_)
                  have hm227 : fld w186 82 33 = f82_219 := fld_of h82_225
                  refine xg_t (xg_blk (b := [(67, 1, 2, 1, 0, 0), (68, 1, 0, 0, 0, 0), (69, 3, 1, 12, 33, 290), (72, 3, 6, 221, 3, 0), (75, 1, 0, 0, 0, 0), (76, 3, 1, 12, 31, 66), (79, 1, 2, 1, 0, 0), (80, 1, 10, 0, 0, 0), (81, 1, 15, 2, 0, 0), (82, 1, 0, 0, 0, 0), (83, 3, 1, 12, 29, 60), (86, 1, 2, 2, 0, 0), (87, 1, 32, 0, 0, 0), (88, 3, 7, 109, 0, 0), (91, 1, 0, 0, 0, 0), (92, 3, 1, 12, 25, 48), (95, 1, 2, 2, 0, 0), (96, 1, 10, 0, 0, 0), (97, 1, 3, 1, 0, 0), (98, 3, 6, 109, 3, 0), (101, 1, 0, 0, 0, 0), (102, 1, 2, 2, 0, 0), (103, 1, 3, 1, 0, 0), (104, 1, 11, 0, 0, 0), (105, 1, 2, 2, 0, 0), (106, 3, 13, 191, 96, 293)]) rfl) ?_
                  refine xg_t (xg_iload (va := (0, ii)) rfl rfl) ?_
                  refine xg_t (xg_aload (va := (2, 82)) rfl rfl) ?_
                  refine xg_t (xg_getf (va := (0, f82_219)) h82_225 rfl) ?_
                  have hn228 : f82_219 ≤ 36 := hb220
                  by_cases hc229 : ii < f82_219
                  · refine xg_t (xg_icF (u := ii) (v := f82_219) rfl xnm0 xnm0 (xj_geF hc229 (by omega))) ?_
                    refine xg_t (xg_aload (va := (2, 82)) rfl rfl) ?_
                    refine xg_t (xg_getf (va := (2, 101)) h82_225 rfl) ?_
                    refine xg_t (xg_iload (va := (0, ii)) rfl rfl) ?_
                    refine xg_ialdB (n := ii) (B := 35) hfr194d (hfr194e) xnm0 (by omega) (fun u230 hu231 he232 => ?_)
                    have hpm233 := hfr194g ii (by omega)
                    rw [he232] at hpm233
                    refine xg_t (xg_istore (l1 := [(0, (2, 82)), (1, (0, ii))]) rfl rfl rfl) ?_
                    have jn234 : ∀ (w235 : List (List xE)), xMnv w235 → xFr [82, 101, 102] w w235 → (∃ f m, FR w235 f m ∧ f u230 ≠ 4294967295) → xTo (d + 1) mX12_spreads (215, [], [(0, (2, 82)), (1, (0, ii)), (2, (0, u230))], [], (w235, bd, fc, 0, 0, rr)) (fun φ => ∃ w', xEnd 0 [] (w', bd, fc, 0, 0, rr) φ ∧ xMnv w' ∧ xFr [82, 101, 102] w w' ∧ (∃ f m, FR w' f m)) := by
                      intro w235 hI236 hF237 he238
                      obtain ⟨f239, m240, hfr241, hpm242⟩ := he238
                      obtain ⟨hfr241a, hfr241b, hfr241c, hfr241d, hfr241e, hfr241f, hfr241g⟩ := id hfr241
                      refine xg_t (xg_blk (b := [(215, 3, 9, 1, 1, 0), (218, 3, 8, 67, 0, 0)]) rfl) ?_
                      refine xg_t (xg_iinc (u := ii) (z := ii + 1) (l1 := [(0, (2, 82)), (2, (0, u230))]) rfl rfl (by omega) rfl) ?_
                      refine xg_t (xg_goto) ?_
                      refine xg_t (xg_drop (l1 := [(0, (2, 82)), (1, (0, ii + 1))]) (List.forall_mem_cons.mpr ⟨List.mem_cons_of_mem _ (List.mem_cons_self), List.forall_mem_cons.mpr ⟨List.mem_cons_self, fun _ h => absurd h List.not_mem_nil⟩⟩)) ?_
                      exact ih184 (ii + 1) w235 (by omega) (by omega) (hI236) (hF237) (⟨_, _, hfr241⟩)
                    have jn243 : ∀ (w244 : List (List xE)), xMnv w244 → xFr [82, 101, 102] w w244 → (∃ f m, FR w244 f m ∧ f u230 ≠ 4294967295) → xTo (d + 1) mX12_spreads (175, [], [(0, (2, 82)), (1, (0, ii)), (2, (0, u230))], [], (w244, bd, fc, 0, 0, rr)) (fun φ => ∃ w', xEnd 0 [] (w', bd, fc, 0, 0, rr) φ ∧ xMnv w' ∧ xFr [82, 101, 102] w w' ∧ (∃ f m, FR w' f m)) := by
                      intro w244 hI245 hF246 he247
                      obtain ⟨f248, m249, hfr250, hpm251⟩ := he247
                      obtain ⟨hfr250a, hfr250b, hfr250c, hfr250d, hfr250e, hfr250f, hfr250g⟩ := id hfr250
                      refine xg_t (xg_blk (b := [(175, 1, 2, 2, 0, 0), (176, 2, 4, 6, 0, 0), (178, 3, 6, 215, 2, 0), (181, 1, 0, 0, 0, 0), (182, 3, 1, 12, 30, 63), (185, 1, 2, 2, 0, 0), (186, 2, 4, 6, 0, 0), (188, 1, 18, 0, 0, 0), (189, 1, 32, 0, 0, 0), (190, 3, 7, 215, 0, 0), (193, 1, 0, 0, 0, 0), (194, 3, 1, 12, 26, 51), (197, 1, 2, 2, 0, 0), (198, 2, 4, 6, 0, 0), (200, 1, 18, 0, 0, 0), (201, 1, 10, 0, 0, 0), (202, 1, 3, 4294967295, 0, 0), (203, 3, 6, 215, 5, 0), (206, 1, 0, 0, 0, 0), (207, 1, 2, 2, 0, 0), (208, 2, 4, 6, 0, 0), (210, 1, 18, 0, 0, 0), (211, 1, 2, 2, 0, 0), (212, 3, 13, 191, 96, 293)]) rfl) ?_
                      refine xg_t (xg_iload (va := (0, u230)) rfl rfl) ?_
                      refine xg_t (xg_bip) ?_
                      by_cases hc252 : u230 < 6
                      · refine xg_t (xg_icT (u := u230) (v := 6) rfl xnm0 xnm0 (xj_ltT hc252 (by omega))) ?_
                        exact jn234 w244 (hI245) (hF246) (⟨_, _, hfr250, hpm251⟩)
                      · refine xg_t (xg_icF (u := u230) (v := 6) rfl xnm0 xnm0 (xj_ltF (by omega) (by omega))) ?_
                        refine xg_t (xg_aload (va := (2, 82)) rfl rfl) ?_
                        refine xoCh82 (hI245 82 (by decide) (by decide) : cp82 (wget w244 82)) (fun f82_253 f82_255 f82_257 f82_259 f82_261 f82_263 f82_265 f82_267 f82_269 f82_271 f82_273 f82_274 f82_275 f82_277 f82_279 f82_281 h82_283 hb254 hb256 hb258 hb260 hb262 hb264 hb266 hb268 hb270 hb272 hb276 hb278 hb280 hb282 hb284 => ?_)
                        refine xg_t (xg_getf (va := (2, 100)) h82_283 rfl) ?_
                        refine xg_t (xg_iload (va := (0, u230)) rfl rfl) ?_
                        refine xg_t (xg_bip) ?_
                        refine xg_t (xg_isub (u := u230) (v := 6) (z := u230 - 6) xnm0 xnm0 (by omega)) ?_
                        refine xg_baldB (n := u230 - 6) (B := 1) (h100_51.fr hF246 (by decide)) rfl (hb52) xnm0 (by omega) (fun u285 hu286 he287 => ?_)
                        have hz288 := hx53 (u230 - 6)
                        by_cases hc289 : u285 = 0
                        · refine xg_t (xg_ifT (u := u285) rfl xnm0 (xj_eqT hc289)) ?_
                          exact jn234 w244 (hI245) (hF246) (⟨_, _, hfr250, hpm251⟩)
                        · refine xg_t (xg_ifF (u := u285) rfl xnm0 (xj_eqF hc289)) ?_
                          refine xg_t (xg_aload (va := (2, 82)) rfl rfl) ?_
                          refine xg_t (xg_getf (va := (2, 96)) h82_283 rfl) ?_
                          refine xg_t (xg_iload (va := (0, u230)) rfl rfl) ?_
                          refine xg_t (xg_bip) ?_
                          refine xg_t (xg_isub (u := u230) (v := 6) (z := u230 - 6) xnm0 xnm0 (by omega)) ?_
                          refine xg_ialdB (n := u230 - 6) (B := 4294967295) (h96_41.fr hF246 (by decide)) (hb42) xnm0 (by omega) (fun u290 hu291 he292 => ?_)
                          refine xg_t (xg_const) ?_
                          by_cases hc293 : xbs 4294967295 < xbs u290
                          · have hc293u := hc293
                            unfold xbs at hc293u
                            have hn294 : u290 ≤ 2147483647 := by omega
                            refine xg_t (xg_icF (u := u290) (v := 4294967295) rfl xnm0 xnm0 (xjs_leF hc293)) ?_
                            refine xg_t (xg_aload (va := (2, 82)) rfl rfl) ?_
                            refine xg_t (xg_iload (va := (0, u230)) rfl rfl) ?_
                            refine xg_t (xg_bip) ?_
                            refine xg_t (xg_isub (u := u230) (v := 6) (z := u230 - 6) xnm0 xnm0 (by omega)) ?_
                            refine xg_t (xg_iload (va := (0, u230)) rfl rfl) ?_
                            refine xg_cVv mX12_meets (vs := [(0, u230 - 6), (0, u230)]) (rest := []) (cn1 := 0) (sl1 := 0) rfl (mMeets (hI245) hfr250 (by omega) (by omega) (Or.inr hpm251)) rfl h82_283 rfl rfl rfl rfl rfl rfl (fun w295 hq296 => ?_)
                            obtain ⟨hI297, hF298, hx299⟩ := hq296
                            obtain ⟨f300, m301, hfr302, hmo303, hle304⟩ := hx299
                            obtain ⟨hfr302a, hfr302b, hfr302c, hfr302d, hfr302e, hfr302f, hfr302g⟩ := id hfr302
                            exact jn234 w295 (hI297) ((hF246.tr (hF298.up (by decide)))) (⟨_, _, hfr302, (hmo303 _ hpm251)⟩)
                          · have hc293u := hc293
                            unfold xbs at hc293u
                            refine xg_t (xg_icT (u := u290) (v := 4294967295) rfl xnm0 xnm0 (xjs_leT hc293)) ?_
                            exact jn234 w244 (hI245) (hF246) (⟨_, _, hfr250, hpm251⟩)
                    have jn305 : ∀ (w306 : List (List xE)), xMnv w306 → xFr [82, 101, 102] w w306 → (∃ f m, FR w306 f m ∧ f u230 ≠ 4294967295) → xTo (d + 1) mX12_spreads (147, [], [(0, (2, 82)), (1, (0, ii)), (2, (0, u230))], [], (w306, bd, fc, 0, 0, rr)) (fun φ => ∃ w', xEnd 0 [] (w', bd, fc, 0, 0, rr) φ ∧ xMnv w' ∧ xFr [82, 101, 102] w w' ∧ (∃ f m, FR w' f m)) := by
                      intro w306 hI307 hF308 he309
                      obtain ⟨f310, m311, hfr312, hpm313⟩ := he309
                      obtain ⟨hfr312a, hfr312b, hfr312c, hfr312d, hfr312e, hfr312f, hfr312g⟩ := id hfr312
                      refine xg_t (xg_blk (b := [(147, 1, 0, 0, 0, 0), (148, 3, 1, 12, 30, 63), (151, 1, 2, 2, 0, 0), (152, 1, 32, 0, 0, 0), (153, 3, 7, 175, 0, 0), (156, 1, 0, 0, 0, 0), (157, 3, 1, 12, 26, 51), (160, 1, 2, 2, 0, 0), (161, 1, 10, 0, 0, 0), (162, 1, 3, 1, 0, 0), (163, 3, 6, 175, 3, 0), (166, 1, 0, 0, 0, 0), (167, 1, 2, 2, 0, 0), (168, 2, 4, 6, 0, 0), (170, 1, 11, 0, 0, 0), (171, 1, 2, 2, 0, 0), (172, 3, 13, 191, 96, 293)]) rfl) ?_
                      refine xg_t (xg_aload (va := (2, 82)) rfl rfl) ?_
                      refine xoCh82 (hI307 82 (by decide) (by decide) : cp82 (wget w306 82)) (fun f82_314 f82_316 f82_318 f82_320 f82_322 f82_324 f82_326 f82_328 f82_330 f82_332 f82_334 f82_335 f82_336 f82_338 f82_340 f82_342 h82_344 hb315 hb317 hb319 hb321 hb323 hb325 hb327 hb329 hb331 hb333 hb337 hb339 hb341 hb343 hb345 => ?_)
                      refine xg_t (xg_getf (va := (2, 100)) h82_344 rfl) ?_
                      refine xg_t (xg_iload (va := (0, u230)) rfl rfl) ?_
                      refine xg_baldB (n := u230) (B := 1) (h100_51.fr hF308 (by decide)) rfl (hb52) xnm0 (by omega) (fun u346 hu347 he348 => ?_)
                      have hz349 := hx53 u230
                      by_cases hc350 : u346 = 0
                      · refine xg_t (xg_ifT (u := u346) rfl xnm0 (xj_eqT hc350)) ?_
                        exact jn243 w306 (hI307) (hF308) (⟨_, _, hfr312, hpm313⟩)
                      · refine xg_t (xg_ifF (u := u346) rfl xnm0 (xj_eqF hc350)) ?_
                        refine xg_t (xg_aload (va := (2, 82)) rfl rfl) ?_
                        refine xg_t (xg_getf (va := (2, 96)) h82_344 rfl) ?_
                        refine xg_t (xg_iload (va := (0, u230)) rfl rfl) ?_
                        refine xg_ialdB (n := u230) (B := 4294967295) (h96_41.fr hF308 (by decide)) (hb42) xnm0 (by omega) (fun u351 hu352 he353 => ?_)
                        refine xg_t (xg_const) ?_
                        by_cases hc354 : xbs u351 < xbs 1
                        · have hc354u := hc354
                          unfold xbs at hc354u
                          refine xg_t (xg_icF (u := u351) (v := 1) rfl xnm0 xnm0 (xjs_geF hc354)) ?_
                          refine xg_t (xg_aload (va := (2, 82)) rfl rfl) ?_
                          refine xg_t (xg_iload (va := (0, u230)) rfl rfl) ?_
                          refine xg_t (xg_bip) ?_
                          refine xg_t (xg_iadd (u := u230) (v := 6) (z := u230 + 6) xnm0 xnm0 (by omega)) ?_
                          refine xg_t (xg_iload (va := (0, u230)) rfl rfl) ?_
                          refine xg_cVv mX12_meets (vs := [(0, u230 + 6), (0, u230)]) (rest := []) (cn1 := 0) (sl1 := 0) rfl (mMeets (hI307) hfr312 (by omega) (by omega) (Or.inr hpm313)) rfl h82_344 rfl rfl rfl rfl rfl rfl (fun w355 hq356 => ?_)
                          obtain ⟨hI357, hF358, hx359⟩ := hq356
                          obtain ⟨f360, m361, hfr362, hmo363, hle364⟩ := hx359
                          obtain ⟨hfr362a, hfr362b, hfr362c, hfr362d, hfr362e, hfr362f, hfr362g⟩ := id hfr362
                          exact jn243 w355 (hI357) ((hF308.tr (hF358.up (by decide)))) (⟨_, _, hfr362, (hmo363 _ hpm313)⟩)
                        · have hc354u := hc354
                          unfold xbs at hc354u
                          have hn365 : u351 ≤ 2147483647 := by omega
                          refine xg_t (xg_icT (u := u351) (v := 1) rfl xnm0 xnm0 (xjs_geT hc354)) ?_
                          exact jn243 w306 (hI307) (hF308) (⟨_, _, hfr312, hpm313⟩)
                    have jn366 : ∀ (w367 : List (List xE)), xMnv w367 → xFr [82, 101, 102] w w367 → (∃ f m, FR w367 f m ∧ f u230 ≠ 4294967295) → xTo (d + 1) mX12_spreads (109, [], [(0, (2, 82)), (1, (0, ii)), (2, (0, u230))], [], (w367, bd, fc, 0, 0, rr)) (fun φ => ∃ w', xEnd 0 [] (w', bd, fc, 0, 0, rr) φ ∧ xMnv w' ∧ xFr [82, 101, 102] w w' ∧ (∃ f m, FR w' f m)) := by
                      intro w367 hI368 hF369 he370
                      obtain ⟨f371, m372, hfr373, hpm374⟩ := he370
                      obtain ⟨hfr373a, hfr373b, hfr373c, hfr373d, hfr373e, hfr373f, hfr373g⟩ := id hfr373
                      refine xg_t (xg_blk (b := [(109, 1, 2, 2, 0, 0), (110, 2, 4, 6, 0, 0), (112, 1, 21, 0, 0, 0), (113, 3, 7, 147, 5, 0), (116, 1, 0, 0, 0, 0), (117, 3, 1, 12, 29, 60), (120, 1, 2, 2, 0, 0), (121, 1, 3, 1, 0, 0), (122, 1, 18, 0, 0, 0), (123, 1, 32, 0, 0, 0), (124, 3, 7, 147, 0, 0), (127, 1, 0, 0, 0, 0), (128, 3, 1, 12, 25, 48), (131, 1, 2, 2, 0, 0), (132, 1, 3, 1, 0, 0), (133, 1, 18, 0, 0, 0), (134, 1, 10, 0, 0, 0), (135, 1, 3, 4294967295, 0, 0), (136, 3, 6, 147, 5, 0), (139, 1, 0, 0, 0, 0), (140, 1, 2, 2, 0, 0), (141, 1, 3, 1, 0, 0), (142, 1, 18, 0, 0, 0), (143, 1, 2, 2, 0, 0), (144, 3, 13, 191, 96, 293)]) rfl) ?_
                      refine xg_t (xg_iload (va := (0, u230)) rfl rfl) ?_
                      refine xg_t (xg_bip) ?_
                      refine xg_t (xg_irem (u := u230) (v := 6) (z := u230 % 6) xnm0 xnm0 (by omega) (by decide) (by decide) (rfl)) ?_
                      by_cases hc375 : 0 < (u230 % 6)
                      · refine xg_t (xg_ifF (u := u230 % 6) rfl xnm0 (xj_leF hc375 (by omega))) ?_
                        refine xg_t (xg_aload (va := (2, 82)) rfl rfl) ?_
                        refine xoCh82 (hI368 82 (by decide) (by decide) : cp82 (wget w367 82)) (fun f82_376 f82_378 f82_380 f82_382 f82_384 f82_386 f82_388 f82_390 f82_392 f82_394 f82_396 f82_397 f82_398 f82_400 f82_402 f82_404 h82_406 hb377 hb379 hb381 hb383 hb385 hb387 hb389 hb391 hb393 hb395 hb399 hb401 hb403 hb405 hb407 => ?_)
                        refine xg_t (xg_getf (va := (2, 99)) h82_406 rfl) ?_
                        refine xg_t (xg_iload (va := (0, u230)) rfl rfl) ?_
                        refine xg_t (xg_const) ?_
                        refine xg_t (xg_isub (u := u230) (v := 1) (z := u230 - 1) xnm0 xnm0 (by omega)) ?_
                        refine xg_baldB (n := u230 - 1) (B := 1) (h99_47.fr hF369 (by decide)) rfl (hb48) xnm0 (by omega) (fun u408 hu409 he410 => ?_)
                        have hz411 := hx49 (u230 - 1)
                        by_cases hc412 : u408 = 0
                        · refine xg_t (xg_ifT (u := u408) rfl xnm0 (xj_eqT hc412)) ?_
                          exact jn305 w367 (hI368) (hF369) (⟨_, _, hfr373, hpm374⟩)
                        · refine xg_t (xg_ifF (u := u408) rfl xnm0 (xj_eqF hc412)) ?_
                          refine xg_t (xg_aload (va := (2, 82)) rfl rfl) ?_
                          refine xg_t (xg_getf (va := (2, 95)) h82_406 rfl) ?_
                          refine xg_t (xg_iload (va := (0, u230)) rfl rfl) ?_
                          refine xg_t (xg_const) ?_
                          refine xg_t (xg_isub (u := u230) (v := 1) (z := u230 - 1) xnm0 xnm0 (by omega)) ?_
                          refine xg_ialdB (n := u230 - 1) (B := 4294967295) (h95_38.fr hF369 (by decide)) (hb39) xnm0 (by omega) (fun u413 hu414 he415 => ?_)
                          refine xg_t (xg_const) ?_
                          by_cases hc416 : xbs 4294967295 < xbs u413
                          · have hc416u := hc416
                            unfold xbs at hc416u
                            have hn417 : u413 ≤ 2147483647 := by omega
                            refine xg_t (xg_icF (u := u413) (v := 4294967295) rfl xnm0 xnm0 (xjs_leF hc416)) ?_
                            refine xg_t (xg_aload (va := (2, 82)) rfl rfl) ?_
                            refine xg_t (xg_iload (va := (0, u230)) rfl rfl) ?_
                            refine xg_t (xg_const) ?_
                            refine xg_t (xg_isub (u := u230) (v := 1) (z := u230 - 1) xnm0 xnm0 (by omega)) ?_
                            refine xg_t (xg_iload (va := (0, u230)) rfl rfl) ?_
                            refine xg_cVv mX12_meets (vs := [(0, u230 - 1), (0, u230)]) (rest := []) (cn1 := 0) (sl1 := 0) rfl (mMeets (hI368) hfr373 (by omega) (by omega) (Or.inr hpm374)) rfl h82_406 rfl rfl rfl rfl rfl rfl (fun w418 hq419 => ?_)
                            obtain ⟨hI420, hF421, hx422⟩ := hq419
                            obtain ⟨f423, m424, hfr425, hmo426, hle427⟩ := hx422
                            obtain ⟨hfr425a, hfr425b, hfr425c, hfr425d, hfr425e, hfr425f, hfr425g⟩ := id hfr425
                            exact jn305 w418 (hI420) ((hF369.tr (hF421.up (by decide)))) (⟨_, _, hfr425, (hmo426 _ hpm374)⟩)
                          · have hc416u := hc416
                            unfold xbs at hc416u
                            refine xg_t (xg_icT (u := u413) (v := 4294967295) rfl xnm0 xnm0 (xjs_leT hc416)) ?_
                            exact jn305 w367 (hI368) (hF369) (⟨_, _, hfr373, hpm374⟩)
                      · refine xg_t (xg_ifT (u := u230 % 6) rfl xnm0 (xj_leT (by omega) (by omega))) ?_
                        exact jn305 w367 (hI368) (hF369) (⟨_, _, hfr373, hpm374⟩)
                    refine xg_t (xg_aload (va := (2, 82)) rfl rfl) ?_
                    refine xg_t (xg_getf (va := (2, 99)) h82_225 rfl) ?_
                    refine xg_t (xg_iload (va := (0, u230)) rfl rfl) ?_
                    refine xg_baldB (n := u230) (B := 1) (h99_47.fr hF188 (by decide)) rfl (hb48) xnm0 (by omega) (fun u428 hu429 he430 => ?_)
                    have hz431 := hx49 u230
                    by_cases hc432 : u428 = 0
                    · refine xg_t (xg_ifT (u := u428) rfl xnm0 (xj_eqT hc432)) ?_
                      refine xg_t (xg_drop (l1 := [(0, (2, 82)), (1, (0, ii)), (2, (0, u230))]) (List.forall_mem_cons.mpr ⟨List.mem_cons_of_mem _ (List.mem_cons_self), List.forall_mem_cons.mpr ⟨List.mem_cons_of_mem _ (List.mem_cons_of_mem _ (List.mem_cons_self)), List.forall_mem_cons.mpr ⟨List.mem_cons_self, fun _ h => absurd h List.not_mem_nil⟩⟩⟩)) ?_
                      exact jn366 w186 (hI187) (hF188) (⟨_, _, hfr194, hpm233⟩)
                    · refine xg_t (xg_ifF (u := u428) rfl xnm0 (xj_eqF hc432)) ?_
                      refine xg_t (xg_aload (va := (2, 82)) rfl rfl) ?_
                      refine xg_t (xg_getf (va := (2, 95)) h82_225 rfl) ?_
                      refine xg_t (xg_iload (va := (0, u230)) rfl rfl) ?_
                      refine xg_ialdB (n := u230) (B := 4294967295) (h95_38.fr hF188 (by decide)) (hb39) xnm0 (by omega) (fun u433 hu434 he435 => ?_)
                      refine xg_t (xg_const) ?_
                      by_cases hc436 : xbs u433 < xbs 1
                      · have hc436u := hc436
                        unfold xbs at hc436u
                        refine xg_t (xg_icF (u := u433) (v := 1) rfl xnm0 xnm0 (xjs_geF hc436)) ?_
                        refine xg_t (xg_aload (va := (2, 82)) rfl rfl) ?_
                        refine xg_t (xg_iload (va := (0, u230)) rfl rfl) ?_
                        refine xg_t (xg_const) ?_
                        refine xg_t (xg_iadd (u := u230) (v := 1) (z := u230 + 1) xnm0 xnm0 (by omega)) ?_
                        refine xg_t (xg_iload (va := (0, u230)) rfl rfl) ?_
                        refine xg_cVv mX12_meets (vs := [(0, u230 + 1), (0, u230)]) (rest := []) (cn1 := 0) (sl1 := 0) rfl (mMeets (hI187) hfr194 (by omega) (by omega) (Or.inr hpm233)) rfl h82_225 rfl rfl rfl rfl rfl rfl (fun w437 hq438 => ?_)
                        obtain ⟨hI439, hF440, hx441⟩ := hq438
                        obtain ⟨f442, m443, hfr444, hmo445, hle446⟩ := hx441
                        obtain ⟨hfr444a, hfr444b, hfr444c, hfr444d, hfr444e, hfr444f, hfr444g⟩ := id hfr444
                        refine xg_t (xg_drop (l1 := [(0, (2, 82)), (1, (0, ii)), (2, (0, u230))]) (List.forall_mem_cons.mpr ⟨List.mem_cons_of_mem _ (List.mem_cons_self), List.forall_mem_cons.mpr ⟨List.mem_cons_of_mem _ (List.mem_cons_of_mem _ (List.mem_cons_self)), List.forall_mem_cons.mpr ⟨List.mem_cons_self, fun _ h => absurd h List.not_mem_nil⟩⟩⟩)) ?_
                        exact jn366 w437 (hI439) ((hF188.tr (hF440.up (by decide)))) (⟨_, _, hfr444, (hmo445 _ hpm233)⟩)
                      · have hc436u := hc436
                        unfold xbs at hc436u
                        have hn447 : u433 ≤ 2147483647 := by omega
                        refine xg_t (xg_icT (u := u433) (v := 1) rfl xnm0 xnm0 (xjs_geT hc436)) ?_
                        refine xg_t (xg_drop (l1 := [(0, (2, 82)), (1, (0, ii)), (2, (0, u230))]) (List.forall_mem_cons.mpr ⟨List.mem_cons_of_mem _ (List.mem_cons_self), List.forall_mem_cons.mpr ⟨List.mem_cons_of_mem _ (List.mem_cons_of_mem _ (List.mem_cons_self)), List.forall_mem_cons.mpr ⟨List.mem_cons_self, fun _ h => absurd h List.not_mem_nil⟩⟩⟩)) ?_
                        exact jn366 w186 (hI187) (hF188) (⟨_, _, hfr194, hpm233⟩)
                  · refine xg_t (xg_icT (u := ii) (v := f82_219) rfl xnm0 xnm0 (xj_geT (by omega) (by omega))) ?_
                    refine xg_t (xg_blk (b := [(221, 1, 12, 0, 0, 0)]) rfl) ?_
                    exact xg_e ⟨w186, ⟨rfl, rfl⟩, hI187, hF188, ⟨_, _, hfr194⟩⟩
              exact key183 _ 0 w119 (Nat.lt_succ_self _) (by omega) (hI120) (hF121) (⟨_, _, hfr130⟩)
        exact key116 _ 0 w60 (Nat.lt_succ_self _) (by omega) (hI61) (hF62) (⟨_, _, FR.start h102_109 hx111 (fun j hj => hd107 j (by omega)) h101_123 hb124 h0103⟩)
  exact key57 _ 0 w54 (Nat.lt_succ_self _) (by omega) (xMnv.up (S := [82]) hI (xFr.of (S := [82]) hb56 (by decide)) (List.forall_mem_cons.mpr ⟨(show cp82 (wget w54 82) from xmC82 f82_1 f82_3 f82_5 f82_7 f82_9 f82_11 f82_13 f82_15 f82_17 f82_19 f82_21 f82_22 f82_23 0 f82_27 f82_29 hk55 hb2 hb4 hb6 hb8 hb10 hb12 hb14 hb16 hb18 hb20 hb24 (by decide) hb28 hb30 (by omega)), fun _ h => absurd h List.not_mem_nil⟩)) ((xFr.of (S := [82, 101, 102]) hb56 (by decide))) (⟨fld_of hk55, _, (h102_64.but hb56 (by decide)), fun j hj => absurd hj (Nat.not_lt_zero _)⟩)
theorem mGoesBack {f0 m0 : Nat → Nat} {en : Nat} (hI : xMnv w) (hfr : FR w f0 m0) (hen : en < 36) (hne : f0 en ≠ 4294967295) : xPq d mX12_goesBack [(2, 82), (0, en)] w bd fc rr [] (fun w' => xMnv w' ∧ xFr [95, 96, 97] w w') := by
  refine xPq.of ?_
  show xTo d mX12_goesBack (0, [], [(0, (2, 82)), (1, (0, en))], [], (w, bd, fc, 0, 0, rr)) (fun φ => ∃ w', xEnd 0 [] (w', bd, fc, 0, 0, rr) φ ∧ xMnv w' ∧ xFr [95, 96, 97] w w')
  obtain ⟨hfra, hfrb, hfrc, hfrd, hfre, hfrf, hfrg⟩ := id hfr
  obtain ⟨rk, hrk⟩ := id hfrb
  refine xoCh82 (hI 82 (by decide) (by decide) : cp82 (wget w 82)) (fun f82_1 f82_3 f82_5 f82_7 f82_9 f82_11 f82_13 f82_15 f82_17 f82_19 f82_21 f82_22 f82_23 f82_25 f82_27 f82_29 h82_31 hb2 hb4 hb6 hb8 hb10 hb12 hb14 hb16 hb18 hb20 hb24 hb26 hb28 hb30 hb32 => ?_)
  refine xoI (hI 95 (by decide) (by decide) : cpI 36 62 4294967295 (wget w 95)) (fun g95_33 h95_34 hb35 => ?_)
  refine xoI (hI 96 (by decide) (by decide) : cpI 36 63 4294967295 (wget w 96)) (fun g96_36 h96_37 hb38 => ?_)
  refine xg_t (xg_blk (b := [(0, 1, 2, 1, 0, 0), (1, 1, 15, 2, 0, 0)]) rfl) ?_
  refine xg_t (xg_iload (va := (0, en)) rfl rfl) ?_
  refine xg_t (xg_istore (l1 := [(0, (2, 82)), (1, (0, en))]) rfl rfl rfl) ?_
  refine xg_t (xg_drop (l1 := [(0, (2, 82)), (1, (0, en)), (2, (0, en))]) (List.forall_mem_cons.mpr ⟨List.mem_cons_of_mem _ (List.mem_cons_self), List.forall_mem_cons.mpr ⟨List.mem_cons_of_mem _ (List.mem_cons_of_mem _ (List.mem_cons_self)), List.forall_mem_cons.mpr ⟨List.mem_cons_self, fun _ h => absurd h List.not_mem_nil⟩⟩⟩)) ?_
  have key39 : ∀ (m41 : Nat) (pp : Nat) (w42 : List (List xE)), rk pp < m41 → pp ≤ 35 → xMnv w42 → xFr [95, 96, 97] w w42 → f0 pp ≠ 4294967295 → xTo d mX12_goesBack (2, [], [(0, (2, 82)), (1, (0, en)), (2, (0, pp))], [], (w42, bd, fc, 0, 0, rr)) (fun φ => ∃ w', xEnd 0 [] (w', bd, fc, 0, 0, rr) φ ∧ xMnv w' ∧ xFr [95, 96, 97] w w') := by
    intro m41
    induction m41 with
    | zero => intro pp w42 hz; exact absurd hz (Nat.not_lt_zero _)
    | succ m41 ih40 =>
      intro pp w42 hm47 hn45 hI43 hF44 he46
      refine xg_t (xg_blk (b := [(2, 1, 0, 0, 0, 0), (3, 3, 1, 12, 32, 69), (6, 1, 2, 2, 0, 0), (7, 1, 10, 0, 0, 0), (8, 1, 2, 2, 0, 0), (9, 3, 6, 94, 0, 0), (12, 1, 0, 0, 0, 0), (13, 3, 1, 12, 32, 69), (16, 1, 2, 2, 0, 0), (17, 1, 10, 0, 0, 0), (18, 1, 15, 3, 0, 0), (19, 1, 2, 2, 0, 0), (20, 1, 2, 3, 0, 0), (21, 1, 3, 1, 0, 0), (22, 1, 11, 0, 0, 0), (23, 3, 6, 36, 1, 0), (26, 1, 0, 0, 0, 0), (27, 3, 1, 12, 25, 48), (30, 1, 2, 3, 0, 0), (31, 1, 39, 0, 0, 0), (32, 1, 10, 0, 0, 0), (33, 1, 3, 1, 0, 0), (34, 1, 11, 0, 0, 0), (35, 1, 17, 0, 0, 0)]) rfl) ?_
      refine xg_t (xg_aload (va := (2, 82)) rfl rfl) ?_
      refine xg_t (xg_getf (va := (2, 102)) (hF44.get (by decide) h82_31) rfl) ?_
      refine xg_t (xg_iload (va := (0, pp)) rfl rfl) ?_
      refine xg_ialdB (n := pp) (B := 4294967295) (hfra.fr hF44 (by decide)) ((okN.le hfrc)) xnm0 (by omega) (fun u48 hu49 he50 => ?_)
      have hz51 := hfrc pp
      have hq52 := hrk pp (by omega)
      rw [he50] at hq52
      have hl53 : u48 ≤ 35 := by omega
      refine xg_t (xg_iload (va := (0, pp)) rfl rfl) ?_
      by_cases hc54 : u48 = pp
      · refine xg_t (xg_icT (u := u48) (v := pp) rfl xnm0 xnm0 (xj_eqT hc54)) ?_
        refine xg_t (xg_blk (b := [(94, 1, 0, 0, 0, 0), (95, 3, 1, 12, 27, 54), (98, 1, 2, 2, 0, 0), (99, 2, 4, 6, 0, 0), (101, 1, 20, 0, 0, 0), (102, 1, 3, 1, 0, 0), (103, 1, 17, 0, 0, 0), (104, 1, 12, 0, 0, 0)]) rfl) ?_
        refine xg_t (xg_aload (va := (2, 82)) rfl rfl) ?_
        refine xg_t (xg_getf (va := (2, 97)) (hF44.get (by decide) h82_31) rfl) ?_
        refine xg_t (xg_iload (va := (0, pp)) rfl rfl) ?_
        refine xg_t (xg_bip) ?_
        refine xg_t (xg_idiv (u := pp) (v := 6) (z := pp / 6) xnm0 xnm0 (by omega) (by decide) (by decide) (rfl)) ?_
        refine xg_t (xg_const) ?_
        refine xoI (hI43 97 (by decide) (by decide) : cpI 6 64 4294967295 (wget w42 97)) (fun g97_55 h97_56 hb57 => ?_)
        refine xg_iastK (n := pp / 6) (u := 1) h97_56 xnm0 xnm0 rfl (by omega) (fun w58 hr59 hb60 => ?_)
        exact xg_e ⟨w58, ⟨rfl, rfl⟩, xMnv.up (S := [97]) hI43 (xFr.of (S := [97]) hb60 (by decide)) (List.forall_mem_cons.mpr ⟨(show cpI 6 64 4294967295 (wget w58 97) from ⟨_, hr59, xrb (by omega) (hb57)⟩), fun _ h => absurd h List.not_mem_nil⟩), (hF44.tr (xFr.of (S := [95, 96, 97]) hb60 (by decide)))⟩
      · refine xg_t (xg_icF (u := u48) (v := pp) rfl xnm0 xnm0 (xj_eqF hc54)) ?_
        refine xg_t (xg_aload (va := (2, 82)) rfl rfl) ?_
        refine xg_t (xg_getf (va := (2, 102)) (hF44.get (by decide) h82_31) rfl) ?_
        refine xg_t (xg_iload (va := (0, pp)) rfl rfl) ?_
        refine xg_ialdB (n := pp) (B := 4294967295) (hfra.fr hF44 (by decide)) ((okN.le hfrc)) xnm0 (by omega) (fun u61 hu62 he63 => ?_)
        have hz64 := hfrc pp
        have hq65 := hrk pp (by omega)
        rw [he63] at hq65
        have hl66 : u61 ≤ 35 := by omega
        refine xg_t (xg_istore (l1 := [(0, (2, 82)), (1, (0, en)), (2, (0, pp))]) rfl rfl rfl) ?_
        refine xg_t (xg_iload (va := (0, pp)) rfl rfl) ?_
        refine xg_t (xg_iload (va := (0, u61)) rfl rfl) ?_
        refine xg_t (xg_const) ?_
        refine xg_t (xg_iadd (u := u61) (v := 1) (z := u61 + 1) xnm0 xnm0 (by omega)) ?_
        by_cases hc67 : pp = (u61 + 1)
        · refine xg_t (xg_icF (u := pp) (v := u61 + 1) rfl xnm0 xnm0 (xj_neF hc67)) ?_
          refine xg_t (xg_aload (va := (2, 82)) rfl rfl) ?_
          refine xg_t (xg_getf (va := (2, 95)) (hF44.get (by decide) h82_31) rfl) ?_
          refine xg_t (xg_iload (va := (0, u61)) rfl rfl) ?_
          refine xg_t (xg_dup2 rfl) ?_
          refine xoI (hI43 95 (by decide) (by decide) : cpI 36 62 4294967295 (wget w42 95)) (fun g95_68 h95_69 hb70 => ?_)
          refine xg_ialdB (n := u61) (B := 4294967295) h95_69 (hb70) xnm0 (by omega) (fun u71 hu72 he73 => ?_)
          refine xg_t (xg_const) ?_
          refine xg_k (xg_iadd (u := u71) (v := 1) (z := (u71 + 1) % 4294967296) xnm0 xnm0 rfl) (Nat.mod_lt _ (by decide)) (fun z74 hz75 => ?_)
          refine xg_iastK (n := u61) (u := z74) h95_69 xnm0 xnm0 rfl (by omega) (fun w76 hr77 hb78 => ?_)
          refine xg_t (xg_blk (b := [(36, 1, 2, 2, 0, 0), (37, 1, 2, 3, 0, 0), (38, 1, 3, 1, 0, 0), (39, 1, 18, 0, 0, 0), (40, 3, 6, 53, 1, 0), (43, 1, 0, 0, 0, 0), (44, 3, 1, 12, 25, 48), (47, 1, 2, 2, 0, 0), (48, 1, 39, 0, 0, 0), (49, 1, 10, 0, 0, 0), (50, 1, 3, 1, 0, 0), (51, 1, 18, 0, 0, 0), (52, 1, 17, 0, 0, 0)]) rfl) ?_
          refine xg_t (xg_iload (va := (0, pp)) rfl rfl) ?_
          refine xg_t (xg_iload (va := (0, u61)) rfl rfl) ?_
          refine xg_t (xg_const) ?_
          refine xg_k (xg_isub (u := u61) (v := 1) (z := (u61 + (4294967296 - 1)) % 4294967296) xnm0 xnm0 rfl) (Nat.mod_lt _ (by decide)) (fun z79 hz80 => ?_)
          by_cases hc81 : pp = z79
          · refine xg_t (xg_icF (u := pp) (v := z79) rfl xnm0 xnm0 (xj_neF hc81)) ?_
            refine xg_t (xg_aload (va := (2, 82)) rfl rfl) ?_
            refine xg_t (xg_getf (va := (2, 95)) (hb78.get (by decide) (hF44.get (by decide) h82_31)) rfl) ?_
            refine xg_t (xg_iload (va := (0, pp)) rfl rfl) ?_
            refine xg_t (xg_dup2 rfl) ?_
            refine xg_ialdB (n := pp) (B := 4294967295) hr77 (xrb (by omega) (hb70)) xnm0 (by omega) (fun u82 hu83 he84 => ?_)
            refine xg_t (xg_const) ?_
            refine xg_k (xg_isub (u := u82) (v := 1) (z := (u82 + (4294967296 - 1)) % 4294967296) xnm0 xnm0 rfl) (Nat.mod_lt _ (by decide)) (fun z85 hz86 => ?_)
            refine xg_iastK (n := pp) (u := z85) hr77 xnm0 xnm0 rfl (by omega) (fun w87 hr88 hb89 => ?_)
            refine xg_t (xg_blk (b := [(53, 1, 2, 2, 0, 0), (54, 1, 2, 3, 0, 0), (55, 2, 4, 6, 0, 0), (57, 1, 11, 0, 0, 0), (58, 3, 6, 71, 1, 0), (61, 1, 0, 0, 0, 0), (62, 3, 1, 12, 26, 51), (65, 1, 2, 3, 0, 0), (66, 1, 39, 0, 0, 0), (67, 1, 10, 0, 0, 0), (68, 1, 3, 1, 0, 0), (69, 1, 11, 0, 0, 0), (70, 1, 17, 0, 0, 0)]) rfl) ?_
            refine xg_t (xg_iload (va := (0, pp)) rfl rfl) ?_
            refine xg_t (xg_iload (va := (0, u61)) rfl rfl) ?_
            refine xg_t (xg_bip) ?_
            refine xg_t (xg_iadd (u := u61) (v := 6) (z := u61 + 6) xnm0 xnm0 (by omega)) ?_
            by_cases hc90 : pp = (u61 + 6)
            · refine xg_t (xg_icF (u := pp) (v := u61 + 6) rfl xnm0 xnm0 (xj_neF hc90)) ?_
              refine xg_t (xg_aload (va := (2, 82)) rfl rfl) ?_
              refine xg_t (xg_getf (va := (2, 96)) (hb89.get (by decide) (hb78.get (by decide) (hF44.get (by decide) h82_31))) rfl) ?_
              refine xg_t (xg_iload (va := (0, u61)) rfl rfl) ?_
              refine xg_t (xg_dup2 rfl) ?_
              refine xoI (hI43 96 (by decide) (by decide) : cpI 36 63 4294967295 (wget w42 96)) (fun g96_91 h96_92 hb93 => ?_)
              refine xg_ialdB (n := u61) (B := 4294967295) ((h96_92.but hb78 (by decide)).but hb89 (by decide)) (hb93) xnm0 (by omega) (fun u94 hu95 he96 => ?_)
              refine xg_t (xg_const) ?_
              refine xg_k (xg_iadd (u := u94) (v := 1) (z := (u94 + 1) % 4294967296) xnm0 xnm0 rfl) (Nat.mod_lt _ (by decide)) (fun z97 hz98 => ?_)
              refine xg_iastK (n := u61) (u := z97) ((h96_92.but hb78 (by decide)).but hb89 (by decide)) xnm0 xnm0 rfl (by omega) (fun w99 hr100 hb101 => ?_)
              refine xg_t (xg_blk (b := [(71, 1, 2, 2, 0, 0), (72, 1, 2, 3, 0, 0), (73, 2, 4, 6, 0, 0), (75, 1, 18, 0, 0, 0), (76, 3, 6, 89, 1, 0), (79, 1, 0, 0, 0, 0), (80, 3, 1, 12, 26, 51), (83, 1, 2, 2, 0, 0), (84, 1, 39, 0, 0, 0), (85, 1, 10, 0, 0, 0), (86, 1, 3, 1, 0, 0), (87, 1, 18, 0, 0, 0), (88, 1, 17, 0, 0, 0)]) rfl) ?_
              refine xg_t (xg_iload (va := (0, pp)) rfl rfl) ?_
              refine xg_t (xg_iload (va := (0, u61)) rfl rfl) ?_
              refine xg_t (xg_bip) ?_
              refine xg_k (xg_isub (u := u61) (v := 6) (z := (u61 + (4294967296 - 6)) % 4294967296) xnm0 xnm0 rfl) (Nat.mod_lt _ (by decide)) (fun z102 hz103 => ?_)
              by_cases hc104 : pp = z102
              · refine xg_t (xg_icF (u := pp) (v := z102) rfl xnm0 xnm0 (xj_neF hc104)) ?_
                refine xg_t (xg_aload (va := (2, 82)) rfl rfl) ?_
                refine xg_t (xg_getf (va := (2, 96)) (hb101.get (by decide) (hb89.get (by decide) (hb78.get (by decide) (hF44.get (by decide) h82_31)))) rfl) ?_
                refine xg_t (xg_iload (va := (0, pp)) rfl rfl) ?_
                refine xg_t (xg_dup2 rfl) ?_
                refine xg_ialdB (n := pp) (B := 4294967295) hr100 (xrb (by omega) (hb93)) xnm0 (by omega) (fun u105 hu106 he107 => ?_)
                refine xg_t (xg_const) ?_
                refine xg_k (xg_isub (u := u105) (v := 1) (z := (u105 + (4294967296 - 1)) % 4294967296) xnm0 xnm0 rfl) (Nat.mod_lt _ (by decide)) (fun z108 hz109 => ?_)
                refine xg_iastK (n := pp) (u := z108) hr100 xnm0 xnm0 rfl (by omega) (fun w110 hr111 hb112 => ?_)
                refine xg_t (xg_blk (b := [(89, 1, 2, 3, 0, 0), (90, 1, 15, 2, 0, 0), (91, 3, 8, 2, 0, 0)]) rfl) ?_
                refine xg_t (xg_iload (va := (0, u61)) rfl rfl) ?_
                refine xg_t (xg_istore (l1 := [(3, (0, u61)), (0, (2, 82)), (1, (0, en))]) rfl rfl rfl) ?_
                refine xg_t (xg_goto) ?_
                refine xg_t (xg_drop (l1 := [(0, (2, 82)), (1, (0, en)), (2, (0, u61))]) (List.forall_mem_cons.mpr ⟨List.mem_cons_of_mem _ (List.mem_cons_of_mem _ (List.mem_cons_self)), List.forall_mem_cons.mpr ⟨List.mem_cons_of_mem _ (List.mem_cons_of_mem _ (List.mem_cons_of_mem _ (List.mem_cons_self))), List.forall_mem_cons.mpr ⟨List.mem_cons_self, fun _ h => absurd h List.not_mem_nil⟩⟩⟩)) ?_
                exact ih40 u61 w110 (by omega) (by omega) (xMnv.up (S := [95, 96]) hI43 ((((xFr.of (S := [95, 96]) hb78 (by decide)).tr (xFr.of (S := [95, 96]) hb89 (by decide))).tr (xFr.of (S := [95, 96]) hb101 (by decide))).tr (xFr.of (S := [95, 96]) hb112 (by decide))) (List.forall_mem_cons.mpr ⟨(show cpI 36 62 4294967295 (wget w110 95) from ⟨_, ((hr88.but hb101 (by decide)).but hb112 (by decide)), xrb (by omega) (xrb (by omega) (hb70))⟩), List.forall_mem_cons.mpr ⟨(show cpI 36 63 4294967295 (wget w110 96) from ⟨_, hr111, xrb (by omega) (xrb (by omega) (hb93))⟩), fun _ h => absurd h List.not_mem_nil⟩⟩)) ((hF44.tr ((((xFr.of (S := [95, 96, 97]) hb78 (by decide)).tr (xFr.of (S := [95, 96, 97]) hb89 (by decide))).tr (xFr.of (S := [95, 96, 97]) hb101 (by decide))).tr (xFr.of (S := [95, 96, 97]) hb112 (by decide))))) (by omega)
              · refine xg_t (xg_icT (u := pp) (v := z102) rfl xnm0 xnm0 (xj_neT hc104)) ?_
                refine xg_t (xg_blk (b := [(89, 1, 2, 3, 0, 0), (90, 1, 15, 2, 0, 0), (91, 3, 8, 2, 0, 0)]) rfl) ?_
                refine xg_t (xg_iload (va := (0, u61)) rfl rfl) ?_
                refine xg_t (xg_istore (l1 := [(3, (0, u61)), (0, (2, 82)), (1, (0, en))]) rfl rfl rfl) ?_
                refine xg_t (xg_goto) ?_
                refine xg_t (xg_drop (l1 := [(0, (2, 82)), (1, (0, en)), (2, (0, u61))]) (List.forall_mem_cons.mpr ⟨List.mem_cons_of_mem _ (List.mem_cons_of_mem _ (List.mem_cons_self)), List.forall_mem_cons.mpr ⟨List.mem_cons_of_mem _ (List.mem_cons_of_mem _ (List.mem_cons_of_mem _ (List.mem_cons_self))), List.forall_mem_cons.mpr ⟨List.mem_cons_self, fun _ h => absurd h List.not_mem_nil⟩⟩⟩)) ?_
                exact ih40 u61 w99 (by omega) (by omega) (xMnv.up (S := [95, 96]) hI43 (((xFr.of (S := [95, 96]) hb78 (by decide)).tr (xFr.of (S := [95, 96]) hb89 (by decide))).tr (xFr.of (S := [95, 96]) hb101 (by decide))) (List.forall_mem_cons.mpr ⟨(show cpI 36 62 4294967295 (wget w99 95) from ⟨_, (hr88.but hb101 (by decide)), xrb (by omega) (xrb (by omega) (hb70))⟩), List.forall_mem_cons.mpr ⟨(show cpI 36 63 4294967295 (wget w99 96) from ⟨_, hr100, xrb (by omega) (hb93)⟩), fun _ h => absurd h List.not_mem_nil⟩⟩)) ((hF44.tr (((xFr.of (S := [95, 96, 97]) hb78 (by decide)).tr (xFr.of (S := [95, 96, 97]) hb89 (by decide))).tr (xFr.of (S := [95, 96, 97]) hb101 (by decide))))) (by omega)
            · refine xg_t (xg_icT (u := pp) (v := u61 + 6) rfl xnm0 xnm0 (xj_neT hc90)) ?_
              refine xg_t (xg_blk (b := [(71, 1, 2, 2, 0, 0), (72, 1, 2, 3, 0, 0), (73, 2, 4, 6, 0, 0), (75, 1, 18, 0, 0, 0), (76, 3, 6, 89, 1, 0), (79, 1, 0, 0, 0, 0), (80, 3, 1, 12, 26, 51), (83, 1, 2, 2, 0, 0), (84, 1, 39, 0, 0, 0), (85, 1, 10, 0, 0, 0), (86, 1, 3, 1, 0, 0), (87, 1, 18, 0, 0, 0), (88, 1, 17, 0, 0, 0)]) rfl) ?_
              refine xg_t (xg_iload (va := (0, pp)) rfl rfl) ?_
              refine xg_t (xg_iload (va := (0, u61)) rfl rfl) ?_
              refine xg_t (xg_bip) ?_
              refine xg_k (xg_isub (u := u61) (v := 6) (z := (u61 + (4294967296 - 6)) % 4294967296) xnm0 xnm0 rfl) (Nat.mod_lt _ (by decide)) (fun z113 hz114 => ?_)
              by_cases hc115 : pp = z113
              · refine xg_t (xg_icF (u := pp) (v := z113) rfl xnm0 xnm0 (xj_neF hc115)) ?_
                refine xg_t (xg_aload (va := (2, 82)) rfl rfl) ?_
                refine xg_t (xg_getf (va := (2, 96)) (hb89.get (by decide) (hb78.get (by decide) (hF44.get (by decide) h82_31))) rfl) ?_
                refine xg_t (xg_iload (va := (0, pp)) rfl rfl) ?_
                refine xg_t (xg_dup2 rfl) ?_
                refine xoI (hI43 96 (by decide) (by decide) : cpI 36 63 4294967295 (wget w42 96)) (fun g96_116 h96_117 hb118 => ?_)
                refine xg_ialdB (n := pp) (B := 4294967295) ((h96_117.but hb78 (by decide)).but hb89 (by decide)) (hb118) xnm0 (by omega) (fun u119 hu120 he121 => ?_)
                refine xg_t (xg_const) ?_
                refine xg_k (xg_isub (u := u119) (v := 1) (z := (u119 + (4294967296 - 1)) % 4294967296) xnm0 xnm0 rfl) (Nat.mod_lt _ (by decide)) (fun z122 hz123 => ?_)
                refine xg_iastK (n := pp) (u := z122) ((h96_117.but hb78 (by decide)).but hb89 (by decide)) xnm0 xnm0 rfl (by omega) (fun w124 hr125 hb126 => ?_)
                refine xg_t (xg_blk (b := [(89, 1, 2, 3, 0, 0), (90, 1, 15, 2, 0, 0), (91, 3, 8, 2, 0, 0)]) rfl) ?_
                refine xg_t (xg_iload (va := (0, u61)) rfl rfl) ?_
                refine xg_t (xg_istore (l1 := [(3, (0, u61)), (0, (2, 82)), (1, (0, en))]) rfl rfl rfl) ?_
                refine xg_t (xg_goto) ?_
                refine xg_t (xg_drop (l1 := [(0, (2, 82)), (1, (0, en)), (2, (0, u61))]) (List.forall_mem_cons.mpr ⟨List.mem_cons_of_mem _ (List.mem_cons_of_mem _ (List.mem_cons_self)), List.forall_mem_cons.mpr ⟨List.mem_cons_of_mem _ (List.mem_cons_of_mem _ (List.mem_cons_of_mem _ (List.mem_cons_self))), List.forall_mem_cons.mpr ⟨List.mem_cons_self, fun _ h => absurd h List.not_mem_nil⟩⟩⟩)) ?_
                exact ih40 u61 w124 (by omega) (by omega) (xMnv.up (S := [95, 96]) hI43 (((xFr.of (S := [95, 96]) hb78 (by decide)).tr (xFr.of (S := [95, 96]) hb89 (by decide))).tr (xFr.of (S := [95, 96]) hb126 (by decide))) (List.forall_mem_cons.mpr ⟨(show cpI 36 62 4294967295 (wget w124 95) from ⟨_, (hr88.but hb126 (by decide)), xrb (by omega) (xrb (by omega) (hb70))⟩), List.forall_mem_cons.mpr ⟨(show cpI 36 63 4294967295 (wget w124 96) from ⟨_, hr125, xrb (by omega) (hb118)⟩), fun _ h => absurd h List.not_mem_nil⟩⟩)) ((hF44.tr (((xFr.of (S := [95, 96, 97]) hb78 (by decide)).tr (xFr.of (S := [95, 96, 97]) hb89 (by decide))).tr (xFr.of (S := [95, 96, 97]) hb126 (by decide))))) (by omega)
              · refine xg_t (xg_icT (u := pp) (v := z113) rfl xnm0 xnm0 (xj_neT hc115)) ?_
                refine xg_t (xg_blk (b := [(89, 1, 2, 3, 0, 0), (90, 1, 15, 2, 0, 0), (91, 3, 8, 2, 0, 0)]) rfl) ?_
                refine xg_t (xg_iload (va := (0, u61)) rfl rfl) ?_
                refine xg_t (xg_istore (l1 := [(3, (0, u61)), (0, (2, 82)), (1, (0, en))]) rfl rfl rfl) ?_
                refine xg_t (xg_goto) ?_
                refine xg_t (xg_drop (l1 := [(0, (2, 82)), (1, (0, en)), (2, (0, u61))]) (List.forall_mem_cons.mpr ⟨List.mem_cons_of_mem _ (List.mem_cons_of_mem _ (List.mem_cons_self)), List.forall_mem_cons.mpr ⟨List.mem_cons_of_mem _ (List.mem_cons_of_mem _ (List.mem_cons_of_mem _ (List.mem_cons_self))), List.forall_mem_cons.mpr ⟨List.mem_cons_self, fun _ h => absurd h List.not_mem_nil⟩⟩⟩)) ?_
                exact ih40 u61 w87 (by omega) (by omega) (xMnv.up (S := [95]) hI43 ((xFr.of (S := [95]) hb78 (by decide)).tr (xFr.of (S := [95]) hb89 (by decide))) (List.forall_mem_cons.mpr ⟨(show cpI 36 62 4294967295 (wget w87 95) from ⟨_, hr88, xrb (by omega) (xrb (by omega) (hb70))⟩), fun _ h => absurd h List.not_mem_nil⟩)) ((hF44.tr ((xFr.of (S := [95, 96, 97]) hb78 (by decide)).tr (xFr.of (S := [95, 96, 97]) hb89 (by decide))))) (by omega)
          · refine xg_t (xg_icT (u := pp) (v := z79) rfl xnm0 xnm0 (xj_neT hc81)) ?_
            refine xg_t (xg_blk (b := [(53, 1, 2, 2, 0, 0), (54, 1, 2, 3, 0, 0), (55, 2, 4, 6, 0, 0), (57, 1, 11, 0, 0, 0), (58, 3, 6, 71, 1, 0), (61, 1, 0, 0, 0, 0), (62, 3, 1, 12, 26, 51), (65, 1, 2, 3, 0, 0), (66, 1, 39, 0, 0, 0), (67, 1, 10, 0, 0, 0), (68, 1, 3, 1, 0, 0), (69, 1, 11, 0, 0, 0), (70, 1, 17, 0, 0, 0)]) rfl) ?_
            refine xg_t (xg_iload (va := (0, pp)) rfl rfl) ?_
            refine xg_t (xg_iload (va := (0, u61)) rfl rfl) ?_
            refine xg_t (xg_bip) ?_
            refine xg_t (xg_iadd (u := u61) (v := 6) (z := u61 + 6) xnm0 xnm0 (by omega)) ?_
            by_cases hc127 : pp = (u61 + 6)
            · refine xg_t (xg_icF (u := pp) (v := u61 + 6) rfl xnm0 xnm0 (xj_neF hc127)) ?_
              refine xg_t (xg_aload (va := (2, 82)) rfl rfl) ?_
              refine xg_t (xg_getf (va := (2, 96)) (hb78.get (by decide) (hF44.get (by decide) h82_31)) rfl) ?_
              refine xg_t (xg_iload (va := (0, u61)) rfl rfl) ?_
              refine xg_t (xg_dup2 rfl) ?_
              refine xoI (hI43 96 (by decide) (by decide) : cpI 36 63 4294967295 (wget w42 96)) (fun g96_128 h96_129 hb130 => ?_)
              refine xg_ialdB (n := u61) (B := 4294967295) (h96_129.but hb78 (by decide)) (hb130) xnm0 (by omega) (fun u131 hu132 he133 => ?_)
              refine xg_t (xg_const) ?_
              refine xg_k (xg_iadd (u := u131) (v := 1) (z := (u131 + 1) % 4294967296) xnm0 xnm0 rfl) (Nat.mod_lt _ (by decide)) (fun z134 hz135 => ?_)
              refine xg_iastK (n := u61) (u := z134) (h96_129.but hb78 (by decide)) xnm0 xnm0 rfl (by omega) (fun w136 hr137 hb138 => ?_)
              refine xg_t (xg_blk (b := [(71, 1, 2, 2, 0, 0), (72, 1, 2, 3, 0, 0), (73, 2, 4, 6, 0, 0), (75, 1, 18, 0, 0, 0), (76, 3, 6, 89, 1, 0), (79, 1, 0, 0, 0, 0), (80, 3, 1, 12, 26, 51), (83, 1, 2, 2, 0, 0), (84, 1, 39, 0, 0, 0), (85, 1, 10, 0, 0, 0), (86, 1, 3, 1, 0, 0), (87, 1, 18, 0, 0, 0), (88, 1, 17, 0, 0, 0)]) rfl) ?_
              refine xg_t (xg_iload (va := (0, pp)) rfl rfl) ?_
              refine xg_t (xg_iload (va := (0, u61)) rfl rfl) ?_
              refine xg_t (xg_bip) ?_
              refine xg_k (xg_isub (u := u61) (v := 6) (z := (u61 + (4294967296 - 6)) % 4294967296) xnm0 xnm0 rfl) (Nat.mod_lt _ (by decide)) (fun z139 hz140 => ?_)
              by_cases hc141 : pp = z139
              · refine xg_t (xg_icF (u := pp) (v := z139) rfl xnm0 xnm0 (xj_neF hc141)) ?_
                refine xg_t (xg_aload (va := (2, 82)) rfl rfl) ?_
                refine xg_t (xg_getf (va := (2, 96)) (hb138.get (by decide) (hb78.get (by decide) (hF44.get (by decide) h82_31))) rfl) ?_
                refine xg_t (xg_iload (va := (0, pp)) rfl rfl) ?_
                refine xg_t (xg_dup2 rfl) ?_
                refine xg_ialdB (n := pp) (B := 4294967295) hr137 (xrb (by omega) (hb130)) xnm0 (by omega) (fun u142 hu143 he144 => ?_)
                refine xg_t (xg_const) ?_
                refine xg_k (xg_isub (u := u142) (v := 1) (z := (u142 + (4294967296 - 1)) % 4294967296) xnm0 xnm0 rfl) (Nat.mod_lt _ (by decide)) (fun z145 hz146 => ?_)
                refine xg_iastK (n := pp) (u := z145) hr137 xnm0 xnm0 rfl (by omega) (fun w147 hr148 hb149 => ?_)
                refine xg_t (xg_blk (b := [(89, 1, 2, 3, 0, 0), (90, 1, 15, 2, 0, 0), (91, 3, 8, 2, 0, 0)]) rfl) ?_
                refine xg_t (xg_iload (va := (0, u61)) rfl rfl) ?_
                refine xg_t (xg_istore (l1 := [(3, (0, u61)), (0, (2, 82)), (1, (0, en))]) rfl rfl rfl) ?_
                refine xg_t (xg_goto) ?_
                refine xg_t (xg_drop (l1 := [(0, (2, 82)), (1, (0, en)), (2, (0, u61))]) (List.forall_mem_cons.mpr ⟨List.mem_cons_of_mem _ (List.mem_cons_of_mem _ (List.mem_cons_self)), List.forall_mem_cons.mpr ⟨List.mem_cons_of_mem _ (List.mem_cons_of_mem _ (List.mem_cons_of_mem _ (List.mem_cons_self))), List.forall_mem_cons.mpr ⟨List.mem_cons_self, fun _ h => absurd h List.not_mem_nil⟩⟩⟩)) ?_
                exact ih40 u61 w147 (by omega) (by omega) (xMnv.up (S := [95, 96]) hI43 (((xFr.of (S := [95, 96]) hb78 (by decide)).tr (xFr.of (S := [95, 96]) hb138 (by decide))).tr (xFr.of (S := [95, 96]) hb149 (by decide))) (List.forall_mem_cons.mpr ⟨(show cpI 36 62 4294967295 (wget w147 95) from ⟨_, ((hr77.but hb138 (by decide)).but hb149 (by decide)), xrb (by omega) (hb70)⟩), List.forall_mem_cons.mpr ⟨(show cpI 36 63 4294967295 (wget w147 96) from ⟨_, hr148, xrb (by omega) (xrb (by omega) (hb130))⟩), fun _ h => absurd h List.not_mem_nil⟩⟩)) ((hF44.tr (((xFr.of (S := [95, 96, 97]) hb78 (by decide)).tr (xFr.of (S := [95, 96, 97]) hb138 (by decide))).tr (xFr.of (S := [95, 96, 97]) hb149 (by decide))))) (by omega)
              · refine xg_t (xg_icT (u := pp) (v := z139) rfl xnm0 xnm0 (xj_neT hc141)) ?_
                refine xg_t (xg_blk (b := [(89, 1, 2, 3, 0, 0), (90, 1, 15, 2, 0, 0), (91, 3, 8, 2, 0, 0)]) rfl) ?_
                refine xg_t (xg_iload (va := (0, u61)) rfl rfl) ?_
                refine xg_t (xg_istore (l1 := [(3, (0, u61)), (0, (2, 82)), (1, (0, en))]) rfl rfl rfl) ?_
                refine xg_t (xg_goto) ?_
                refine xg_t (xg_drop (l1 := [(0, (2, 82)), (1, (0, en)), (2, (0, u61))]) (List.forall_mem_cons.mpr ⟨List.mem_cons_of_mem _ (List.mem_cons_of_mem _ (List.mem_cons_self)), List.forall_mem_cons.mpr ⟨List.mem_cons_of_mem _ (List.mem_cons_of_mem _ (List.mem_cons_of_mem _ (List.mem_cons_self))), List.forall_mem_cons.mpr ⟨List.mem_cons_self, fun _ h => absurd h List.not_mem_nil⟩⟩⟩)) ?_
                exact ih40 u61 w136 (by omega) (by omega) (xMnv.up (S := [95, 96]) hI43 ((xFr.of (S := [95, 96]) hb78 (by decide)).tr (xFr.of (S := [95, 96]) hb138 (by decide))) (List.forall_mem_cons.mpr ⟨(show cpI 36 62 4294967295 (wget w136 95) from ⟨_, (hr77.but hb138 (by decide)), xrb (by omega) (hb70)⟩), List.forall_mem_cons.mpr ⟨(show cpI 36 63 4294967295 (wget w136 96) from ⟨_, hr137, xrb (by omega) (hb130)⟩), fun _ h => absurd h List.not_mem_nil⟩⟩)) ((hF44.tr ((xFr.of (S := [95, 96, 97]) hb78 (by decide)).tr (xFr.of (S := [95, 96, 97]) hb138 (by decide))))) (by omega)
            · refine xg_t (xg_icT (u := pp) (v := u61 + 6) rfl xnm0 xnm0 (xj_neT hc127)) ?_
              refine xg_t (xg_blk (b := [(71, 1, 2, 2, 0, 0), (72, 1, 2, 3, 0, 0), (73, 2, 4, 6, 0, 0), (75, 1, 18, 0, 0, 0), (76, 3, 6, 89, 1, 0), (79, 1, 0, 0, 0, 0), (80, 3, 1, 12, 26, 51), (83, 1, 2, 2, 0, 0), (84, 1, 39, 0, 0, 0), (85, 1, 10, 0, 0, 0), (86, 1, 3, 1, 0, 0), (87, 1, 18, 0, 0, 0), (88, 1, 17, 0, 0, 0)]) rfl) ?_
              refine xg_t (xg_iload (va := (0, pp)) rfl rfl) ?_
              refine xg_t (xg_iload (va := (0, u61)) rfl rfl) ?_
              refine xg_t (xg_bip) ?_
              refine xg_k (xg_isub (u := u61) (v := 6) (z := (u61 + (4294967296 - 6)) % 4294967296) xnm0 xnm0 rfl) (Nat.mod_lt _ (by decide)) (fun z150 hz151 => ?_)
              by_cases hc152 : pp = z150
              · refine xg_t (xg_icF (u := pp) (v := z150) rfl xnm0 xnm0 (xj_neF hc152)) ?_
                refine xg_t (xg_aload (va := (2, 82)) rfl rfl) ?_
                refine xg_t (xg_getf (va := (2, 96)) (hb78.get (by decide) (hF44.get (by decide) h82_31)) rfl) ?_
                refine xg_t (xg_iload (va := (0, pp)) rfl rfl) ?_
                refine xg_t (xg_dup2 rfl) ?_
                refine xoI (hI43 96 (by decide) (by decide) : cpI 36 63 4294967295 (wget w42 96)) (fun g96_153 h96_154 hb155 => ?_)
                refine xg_ialdB (n := pp) (B := 4294967295) (h96_154.but hb78 (by decide)) (hb155) xnm0 (by omega) (fun u156 hu157 he158 => ?_)
                refine xg_t (xg_const) ?_
                refine xg_k (xg_isub (u := u156) (v := 1) (z := (u156 + (4294967296 - 1)) % 4294967296) xnm0 xnm0 rfl) (Nat.mod_lt _ (by decide)) (fun z159 hz160 => ?_)
                refine xg_iastK (n := pp) (u := z159) (h96_154.but hb78 (by decide)) xnm0 xnm0 rfl (by omega) (fun w161 hr162 hb163 => ?_)
                refine xg_t (xg_blk (b := [(89, 1, 2, 3, 0, 0), (90, 1, 15, 2, 0, 0), (91, 3, 8, 2, 0, 0)]) rfl) ?_
                refine xg_t (xg_iload (va := (0, u61)) rfl rfl) ?_
                refine xg_t (xg_istore (l1 := [(3, (0, u61)), (0, (2, 82)), (1, (0, en))]) rfl rfl rfl) ?_
                refine xg_t (xg_goto) ?_
                refine xg_t (xg_drop (l1 := [(0, (2, 82)), (1, (0, en)), (2, (0, u61))]) (List.forall_mem_cons.mpr ⟨List.mem_cons_of_mem _ (List.mem_cons_of_mem _ (List.mem_cons_self)), List.forall_mem_cons.mpr ⟨List.mem_cons_of_mem _ (List.mem_cons_of_mem _ (List.mem_cons_of_mem _ (List.mem_cons_self))), List.forall_mem_cons.mpr ⟨List.mem_cons_self, fun _ h => absurd h List.not_mem_nil⟩⟩⟩)) ?_
                exact ih40 u61 w161 (by omega) (by omega) (xMnv.up (S := [95, 96]) hI43 ((xFr.of (S := [95, 96]) hb78 (by decide)).tr (xFr.of (S := [95, 96]) hb163 (by decide))) (List.forall_mem_cons.mpr ⟨(show cpI 36 62 4294967295 (wget w161 95) from ⟨_, (hr77.but hb163 (by decide)), xrb (by omega) (hb70)⟩), List.forall_mem_cons.mpr ⟨(show cpI 36 63 4294967295 (wget w161 96) from ⟨_, hr162, xrb (by omega) (hb155)⟩), fun _ h => absurd h List.not_mem_nil⟩⟩)) ((hF44.tr ((xFr.of (S := [95, 96, 97]) hb78 (by decide)).tr (xFr.of (S := [95, 96, 97]) hb163 (by decide))))) (by omega)
              · refine xg_t (xg_icT (u := pp) (v := z150) rfl xnm0 xnm0 (xj_neT hc152)) ?_
                refine xg_t (xg_blk (b := [(89, 1, 2, 3, 0, 0), (90, 1, 15, 2, 0, 0), (91, 3, 8, 2, 0, 0)]) rfl) ?_
                refine xg_t (xg_iload (va := (0, u61)) rfl rfl) ?_
                refine xg_t (xg_istore (l1 := [(3, (0, u61)), (0, (2, 82)), (1, (0, en))]) rfl rfl rfl) ?_
                refine xg_t (xg_goto) ?_
                refine xg_t (xg_drop (l1 := [(0, (2, 82)), (1, (0, en)), (2, (0, u61))]) (List.forall_mem_cons.mpr ⟨List.mem_cons_of_mem _ (List.mem_cons_of_mem _ (List.mem_cons_self)), List.forall_mem_cons.mpr ⟨List.mem_cons_of_mem _ (List.mem_cons_of_mem _ (List.mem_cons_of_mem _ (List.mem_cons_self))), List.forall_mem_cons.mpr ⟨List.mem_cons_self, fun _ h => absurd h List.not_mem_nil⟩⟩⟩)) ?_
                exact ih40 u61 w76 (by omega) (by omega) (xMnv.up (S := [95]) hI43 (xFr.of (S := [95]) hb78 (by decide)) (List.forall_mem_cons.mpr ⟨(show cpI 36 62 4294967295 (wget w76 95) from ⟨_, hr77, xrb (by omega) (hb70)⟩), fun _ h => absurd h List.not_mem_nil⟩)) ((hF44.tr (xFr.of (S := [95, 96, 97]) hb78 (by decide)))) (by omega)
        · refine xg_t (xg_icT (u := pp) (v := u61 + 1) rfl xnm0 xnm0 (xj_neT hc67)) ?_
          refine xg_t (xg_blk (b := [(36, 1, 2, 2, 0, 0), (37, 1, 2, 3, 0, 0), (38, 1, 3, 1, 0, 0), (39, 1, 18, 0, 0, 0), (40, 3, 6, 53, 1, 0), (43, 1, 0, 0, 0, 0), (44, 3, 1, 12, 25, 48), (47, 1, 2, 2, 0, 0), (48, 1, 39, 0, 0, 0), (49, 1, 10, 0, 0, 0), (50, 1, 3, 1, 0, 0), (51, 1, 18, 0, 0, 0), (52, 1, 17, 0, 0, 0)]) rfl) ?_
          refine xg_t (xg_iload (va := (0, pp)) rfl rfl) ?_
          refine xg_t (xg_iload (va := (0, u61)) rfl rfl) ?_
          refine xg_t (xg_const) ?_
          refine xg_k (xg_isub (u := u61) (v := 1) (z := (u61 + (4294967296 - 1)) % 4294967296) xnm0 xnm0 rfl) (Nat.mod_lt _ (by decide)) (fun z164 hz165 => ?_)
          by_cases hc166 : pp = z164
          · refine xg_t (xg_icF (u := pp) (v := z164) rfl xnm0 xnm0 (xj_neF hc166)) ?_
            refine xg_t (xg_aload (va := (2, 82)) rfl rfl) ?_
            refine xg_t (xg_getf (va := (2, 95)) (hF44.get (by decide) h82_31) rfl) ?_
            refine xg_t (xg_iload (va := (0, pp)) rfl rfl) ?_
            refine xg_t (xg_dup2 rfl) ?_
            refine xoI (hI43 95 (by decide) (by decide) : cpI 36 62 4294967295 (wget w42 95)) (fun g95_167 h95_168 hb169 => ?_)
            refine xg_ialdB (n := pp) (B := 4294967295) h95_168 (hb169) xnm0 (by omega) (fun u170 hu171 he172 => ?_)
            refine xg_t (xg_const) ?_
            refine xg_k (xg_isub (u := u170) (v := 1) (z := (u170 + (4294967296 - 1)) % 4294967296) xnm0 xnm0 rfl) (Nat.mod_lt _ (by decide)) (fun z173 hz174 => ?_)
            refine xg_iastK (n := pp) (u := z173) h95_168 xnm0 xnm0 rfl (by omega) (fun w175 hr176 hb177 => ?_)
            refine xg_t (xg_blk (b := [(53, 1, 2, 2, 0, 0), (54, 1, 2, 3, 0, 0), (55, 2, 4, 6, 0, 0), (57, 1, 11, 0, 0, 0), (58, 3, 6, 71, 1, 0), (61, 1, 0, 0, 0, 0), (62, 3, 1, 12, 26, 51), (65, 1, 2, 3, 0, 0), (66, 1, 39, 0, 0, 0), (67, 1, 10, 0, 0, 0), (68, 1, 3, 1, 0, 0), (69, 1, 11, 0, 0, 0), (70, 1, 17, 0, 0, 0)]) rfl) ?_
            refine xg_t (xg_iload (va := (0, pp)) rfl rfl) ?_
            refine xg_t (xg_iload (va := (0, u61)) rfl rfl) ?_
            refine xg_t (xg_bip) ?_
            refine xg_t (xg_iadd (u := u61) (v := 6) (z := u61 + 6) xnm0 xnm0 (by omega)) ?_
            by_cases hc178 : pp = (u61 + 6)
            · refine xg_t (xg_icF (u := pp) (v := u61 + 6) rfl xnm0 xnm0 (xj_neF hc178)) ?_
              refine xg_t (xg_aload (va := (2, 82)) rfl rfl) ?_
              refine xg_t (xg_getf (va := (2, 96)) (hb177.get (by decide) (hF44.get (by decide) h82_31)) rfl) ?_
              refine xg_t (xg_iload (va := (0, u61)) rfl rfl) ?_
              refine xg_t (xg_dup2 rfl) ?_
              refine xoI (hI43 96 (by decide) (by decide) : cpI 36 63 4294967295 (wget w42 96)) (fun g96_179 h96_180 hb181 => ?_)
              refine xg_ialdB (n := u61) (B := 4294967295) (h96_180.but hb177 (by decide)) (hb181) xnm0 (by omega) (fun u182 hu183 he184 => ?_)
              refine xg_t (xg_const) ?_
              refine xg_k (xg_iadd (u := u182) (v := 1) (z := (u182 + 1) % 4294967296) xnm0 xnm0 rfl) (Nat.mod_lt _ (by decide)) (fun z185 hz186 => ?_)
              refine xg_iastK (n := u61) (u := z185) (h96_180.but hb177 (by decide)) xnm0 xnm0 rfl (by omega) (fun w187 hr188 hb189 => ?_)
              refine xg_t (xg_blk (b := [(71, 1, 2, 2, 0, 0), (72, 1, 2, 3, 0, 0), (73, 2, 4, 6, 0, 0), (75, 1, 18, 0, 0, 0), (76, 3, 6, 89, 1, 0), (79, 1, 0, 0, 0, 0), (80, 3, 1, 12, 26, 51), (83, 1, 2, 2, 0, 0), (84, 1, 39, 0, 0, 0), (85, 1, 10, 0, 0, 0), (86, 1, 3, 1, 0, 0), (87, 1, 18, 0, 0, 0), (88, 1, 17, 0, 0, 0)]) rfl) ?_
              refine xg_t (xg_iload (va := (0, pp)) rfl rfl) ?_
              refine xg_t (xg_iload (va := (0, u61)) rfl rfl) ?_
              refine xg_t (xg_bip) ?_
              refine xg_k (xg_isub (u := u61) (v := 6) (z := (u61 + (4294967296 - 6)) % 4294967296) xnm0 xnm0 rfl) (Nat.mod_lt _ (by decide)) (fun z190 hz191 => ?_)
              by_cases hc192 : pp = z190
              · refine xg_t (xg_icF (u := pp) (v := z190) rfl xnm0 xnm0 (xj_neF hc192)) ?_
                refine xg_t (xg_aload (va := (2, 82)) rfl rfl) ?_
                refine xg_t (xg_getf (va := (2, 96)) (hb189.get (by decide) (hb177.get (by decide) (hF44.get (by decide) h82_31))) rfl) ?_
                refine xg_t (xg_iload (va := (0, pp)) rfl rfl) ?_
                refine xg_t (xg_dup2 rfl) ?_
                refine xg_ialdB (n := pp) (B := 4294967295) hr188 (xrb (by omega) (hb181)) xnm0 (by omega) (fun u193 hu194 he195 => ?_)
                refine xg_t (xg_const) ?_
                refine xg_k (xg_isub (u := u193) (v := 1) (z := (u193 + (4294967296 - 1)) % 4294967296) xnm0 xnm0 rfl) (Nat.mod_lt _ (by decide)) (fun z196 hz197 => ?_)
                refine xg_iastK (n := pp) (u := z196) hr188 xnm0 xnm0 rfl (by omega) (fun w198 hr199 hb200 => ?_)
                refine xg_t (xg_blk (b := [(89, 1, 2, 3, 0, 0), (90, 1, 15, 2, 0, 0), (91, 3, 8, 2, 0, 0)]) rfl) ?_
                refine xg_t (xg_iload (va := (0, u61)) rfl rfl) ?_
                refine xg_t (xg_istore (l1 := [(3, (0, u61)), (0, (2, 82)), (1, (0, en))]) rfl rfl rfl) ?_
                refine xg_t (xg_goto) ?_
                refine xg_t (xg_drop (l1 := [(0, (2, 82)), (1, (0, en)), (2, (0, u61))]) (List.forall_mem_cons.mpr ⟨List.mem_cons_of_mem _ (List.mem_cons_of_mem _ (List.mem_cons_self)), List.forall_mem_cons.mpr ⟨List.mem_cons_of_mem _ (List.mem_cons_of_mem _ (List.mem_cons_of_mem _ (List.mem_cons_self))), List.forall_mem_cons.mpr ⟨List.mem_cons_self, fun _ h => absurd h List.not_mem_nil⟩⟩⟩)) ?_
                exact ih40 u61 w198 (by omega) (by omega) (xMnv.up (S := [95, 96]) hI43 (((xFr.of (S := [95, 96]) hb177 (by decide)).tr (xFr.of (S := [95, 96]) hb189 (by decide))).tr (xFr.of (S := [95, 96]) hb200 (by decide))) (List.forall_mem_cons.mpr ⟨(show cpI 36 62 4294967295 (wget w198 95) from ⟨_, ((hr176.but hb189 (by decide)).but hb200 (by decide)), xrb (by omega) (hb169)⟩), List.forall_mem_cons.mpr ⟨(show cpI 36 63 4294967295 (wget w198 96) from ⟨_, hr199, xrb (by omega) (xrb (by omega) (hb181))⟩), fun _ h => absurd h List.not_mem_nil⟩⟩)) ((hF44.tr (((xFr.of (S := [95, 96, 97]) hb177 (by decide)).tr (xFr.of (S := [95, 96, 97]) hb189 (by decide))).tr (xFr.of (S := [95, 96, 97]) hb200 (by decide))))) (by omega)
              · refine xg_t (xg_icT (u := pp) (v := z190) rfl xnm0 xnm0 (xj_neT hc192)) ?_
                refine xg_t (xg_blk (b := [(89, 1, 2, 3, 0, 0), (90, 1, 15, 2, 0, 0), (91, 3, 8, 2, 0, 0)]) rfl) ?_
                refine xg_t (xg_iload (va := (0, u61)) rfl rfl) ?_
                refine xg_t (xg_istore (l1 := [(3, (0, u61)), (0, (2, 82)), (1, (0, en))]) rfl rfl rfl) ?_
                refine xg_t (xg_goto) ?_
                refine xg_t (xg_drop (l1 := [(0, (2, 82)), (1, (0, en)), (2, (0, u61))]) (List.forall_mem_cons.mpr ⟨List.mem_cons_of_mem _ (List.mem_cons_of_mem _ (List.mem_cons_self)), List.forall_mem_cons.mpr ⟨List.mem_cons_of_mem _ (List.mem_cons_of_mem _ (List.mem_cons_of_mem _ (List.mem_cons_self))), List.forall_mem_cons.mpr ⟨List.mem_cons_self, fun _ h => absurd h List.not_mem_nil⟩⟩⟩)) ?_
                exact ih40 u61 w187 (by omega) (by omega) (xMnv.up (S := [95, 96]) hI43 ((xFr.of (S := [95, 96]) hb177 (by decide)).tr (xFr.of (S := [95, 96]) hb189 (by decide))) (List.forall_mem_cons.mpr ⟨(show cpI 36 62 4294967295 (wget w187 95) from ⟨_, (hr176.but hb189 (by decide)), xrb (by omega) (hb169)⟩), List.forall_mem_cons.mpr ⟨(show cpI 36 63 4294967295 (wget w187 96) from ⟨_, hr188, xrb (by omega) (hb181)⟩), fun _ h => absurd h List.not_mem_nil⟩⟩)) ((hF44.tr ((xFr.of (S := [95, 96, 97]) hb177 (by decide)).tr (xFr.of (S := [95, 96, 97]) hb189 (by decide))))) (by omega)
            · refine xg_t (xg_icT (u := pp) (v := u61 + 6) rfl xnm0 xnm0 (xj_neT hc178)) ?_
              refine xg_t (xg_blk (b := [(71, 1, 2, 2, 0, 0), (72, 1, 2, 3, 0, 0), (73, 2, 4, 6, 0, 0), (75, 1, 18, 0, 0, 0), (76, 3, 6, 89, 1, 0), (79, 1, 0, 0, 0, 0), (80, 3, 1, 12, 26, 51), (83, 1, 2, 2, 0, 0), (84, 1, 39, 0, 0, 0), (85, 1, 10, 0, 0, 0), (86, 1, 3, 1, 0, 0), (87, 1, 18, 0, 0, 0), (88, 1, 17, 0, 0, 0)]) rfl) ?_
              refine xg_t (xg_iload (va := (0, pp)) rfl rfl) ?_
              refine xg_t (xg_iload (va := (0, u61)) rfl rfl) ?_
              refine xg_t (xg_bip) ?_
              refine xg_k (xg_isub (u := u61) (v := 6) (z := (u61 + (4294967296 - 6)) % 4294967296) xnm0 xnm0 rfl) (Nat.mod_lt _ (by decide)) (fun z201 hz202 => ?_)
              by_cases hc203 : pp = z201
              · refine xg_t (xg_icF (u := pp) (v := z201) rfl xnm0 xnm0 (xj_neF hc203)) ?_
                refine xg_t (xg_aload (va := (2, 82)) rfl rfl) ?_
                refine xg_t (xg_getf (va := (2, 96)) (hb177.get (by decide) (hF44.get (by decide) h82_31)) rfl) ?_
                refine xg_t (xg_iload (va := (0, pp)) rfl rfl) ?_
                refine xg_t (xg_dup2 rfl) ?_
                refine xoI (hI43 96 (by decide) (by decide) : cpI 36 63 4294967295 (wget w42 96)) (fun g96_204 h96_205 hb206 => ?_)
                refine xg_ialdB (n := pp) (B := 4294967295) (h96_205.but hb177 (by decide)) (hb206) xnm0 (by omega) (fun u207 hu208 he209 => ?_)
                refine xg_t (xg_const) ?_
                refine xg_k (xg_isub (u := u207) (v := 1) (z := (u207 + (4294967296 - 1)) % 4294967296) xnm0 xnm0 rfl) (Nat.mod_lt _ (by decide)) (fun z210 hz211 => ?_)
                refine xg_iastK (n := pp) (u := z210) (h96_205.but hb177 (by decide)) xnm0 xnm0 rfl (by omega) (fun w212 hr213 hb214 => ?_)
                refine xg_t (xg_blk (b := [(89, 1, 2, 3, 0, 0), (90, 1, 15, 2, 0, 0), (91, 3, 8, 2, 0, 0)]) rfl) ?_
                refine xg_t (xg_iload (va := (0, u61)) rfl rfl) ?_
                refine xg_t (xg_istore (l1 := [(3, (0, u61)), (0, (2, 82)), (1, (0, en))]) rfl rfl rfl) ?_
                refine xg_t (xg_goto) ?_
                refine xg_t (xg_drop (l1 := [(0, (2, 82)), (1, (0, en)), (2, (0, u61))]) (List.forall_mem_cons.mpr ⟨List.mem_cons_of_mem _ (List.mem_cons_of_mem _ (List.mem_cons_self)), List.forall_mem_cons.mpr ⟨List.mem_cons_of_mem _ (List.mem_cons_of_mem _ (List.mem_cons_of_mem _ (List.mem_cons_self))), List.forall_mem_cons.mpr ⟨List.mem_cons_self, fun _ h => absurd h List.not_mem_nil⟩⟩⟩)) ?_
                exact ih40 u61 w212 (by omega) (by omega) (xMnv.up (S := [95, 96]) hI43 ((xFr.of (S := [95, 96]) hb177 (by decide)).tr (xFr.of (S := [95, 96]) hb214 (by decide))) (List.forall_mem_cons.mpr ⟨(show cpI 36 62 4294967295 (wget w212 95) from ⟨_, (hr176.but hb214 (by decide)), xrb (by omega) (hb169)⟩), List.forall_mem_cons.mpr ⟨(show cpI 36 63 4294967295 (wget w212 96) from ⟨_, hr213, xrb (by omega) (hb206)⟩), fun _ h => absurd h List.not_mem_nil⟩⟩)) ((hF44.tr ((xFr.of (S := [95, 96, 97]) hb177 (by decide)).tr (xFr.of (S := [95, 96, 97]) hb214 (by decide))))) (by omega)
              · refine xg_t (xg_icT (u := pp) (v := z201) rfl xnm0 xnm0 (xj_neT hc203)) ?_
                refine xg_t (xg_blk (b := [(89, 1, 2, 3, 0, 0), (90, 1, 15, 2, 0, 0), (91, 3, 8, 2, 0, 0)]) rfl) ?_
                refine xg_t (xg_iload (va := (0, u61)) rfl rfl) ?_
                refine xg_t (xg_istore (l1 := [(3, (0, u61)), (0, (2, 82)), (1, (0, en))]) rfl rfl rfl) ?_
                refine xg_t (xg_goto) ?_
                refine xg_t (xg_drop (l1 := [(0, (2, 82)), (1, (0, en)), (2, (0, u61))]) (List.forall_mem_cons.mpr ⟨List.mem_cons_of_mem _ (List.mem_cons_of_mem _ (List.mem_cons_self)), List.forall_mem_cons.mpr ⟨List.mem_cons_of_mem _ (List.mem_cons_of_mem _ (List.mem_cons_of_mem _ (List.mem_cons_self))), List.forall_mem_cons.mpr ⟨List.mem_cons_self, fun _ h => absurd h List.not_mem_nil⟩⟩⟩)) ?_
                exact ih40 u61 w175 (by omega) (by omega) (xMnv.up (S := [95]) hI43 (xFr.of (S := [95]) hb177 (by decide)) (List.forall_mem_cons.mpr ⟨(show cpI 36 62 4294967295 (wget w175 95) from ⟨_, hr176, xrb (by omega) (hb169)⟩), fun _ h => absurd h List.not_mem_nil⟩)) ((hF44.tr (xFr.of (S := [95, 96, 97]) hb177 (by decide)))) (by omega)
          · refine xg_t (xg_icT (u := pp) (v := z164) rfl xnm0 xnm0 (xj_neT hc166)) ?_
            refine xg_t (xg_blk (b := [(53, 1, 2, 2, 0, 0), (54, 1, 2, 3, 0, 0), (55, 2, 4, 6, 0, 0), (57, 1, 11, 0, 0, 0), (58, 3, 6, 71, 1, 0), (61, 1, 0, 0, 0, 0), (62, 3, 1, 12, 26, 51), (65, 1, 2, 3, 0, 0), (66, 1, 39, 0, 0, 0), (67, 1, 10, 0, 0, 0), (68, 1, 3, 1, 0, 0), (69, 1, 11, 0, 0, 0), (70, 1, 17, 0, 0, 0)]) rfl) ?_
            refine xg_t (xg_iload (va := (0, pp)) rfl rfl) ?_
            refine xg_t (xg_iload (va := (0, u61)) rfl rfl) ?_
            refine xg_t (xg_bip) ?_
            refine xg_t (xg_iadd (u := u61) (v := 6) (z := u61 + 6) xnm0 xnm0 (by omega)) ?_
            by_cases hc215 : pp = (u61 + 6)
            · refine xg_t (xg_icF (u := pp) (v := u61 + 6) rfl xnm0 xnm0 (xj_neF hc215)) ?_
              refine xg_t (xg_aload (va := (2, 82)) rfl rfl) ?_
              refine xg_t (xg_getf (va := (2, 96)) (hF44.get (by decide) h82_31) rfl) ?_
              refine xg_t (xg_iload (va := (0, u61)) rfl rfl) ?_
              refine xg_t (xg_dup2 rfl) ?_
              refine xoI (hI43 96 (by decide) (by decide) : cpI 36 63 4294967295 (wget w42 96)) (fun g96_216 h96_217 hb218 => ?_)
              refine xg_ialdB (n := u61) (B := 4294967295) h96_217 (hb218) xnm0 (by omega) (fun u219 hu220 he221 => ?_)
              refine xg_t (xg_const) ?_
              refine xg_k (xg_iadd (u := u219) (v := 1) (z := (u219 + 1) % 4294967296) xnm0 xnm0 rfl) (Nat.mod_lt _ (by decide)) (fun z222 hz223 => ?_)
              refine xg_iastK (n := u61) (u := z222) h96_217 xnm0 xnm0 rfl (by omega) (fun w224 hr225 hb226 => ?_)
              refine xg_t (xg_blk (b := [(71, 1, 2, 2, 0, 0), (72, 1, 2, 3, 0, 0), (73, 2, 4, 6, 0, 0), (75, 1, 18, 0, 0, 0), (76, 3, 6, 89, 1, 0), (79, 1, 0, 0, 0, 0), (80, 3, 1, 12, 26, 51), (83, 1, 2, 2, 0, 0), (84, 1, 39, 0, 0, 0), (85, 1, 10, 0, 0, 0), (86, 1, 3, 1, 0, 0), (87, 1, 18, 0, 0, 0), (88, 1, 17, 0, 0, 0)]) rfl) ?_
              refine xg_t (xg_iload (va := (0, pp)) rfl rfl) ?_
              refine xg_t (xg_iload (va := (0, u61)) rfl rfl) ?_
              refine xg_t (xg_bip) ?_
              refine xg_k (xg_isub (u := u61) (v := 6) (z := (u61 + (4294967296 - 6)) % 4294967296) xnm0 xnm0 rfl) (Nat.mod_lt _ (by decide)) (fun z227 hz228 => ?_)
              by_cases hc229 : pp = z227
              · refine xg_t (xg_icF (u := pp) (v := z227) rfl xnm0 xnm0 (xj_neF hc229)) ?_
                refine xg_t (xg_aload (va := (2, 82)) rfl rfl) ?_
                refine xg_t (xg_getf (va := (2, 96)) (hb226.get (by decide) (hF44.get (by decide) h82_31)) rfl) ?_
                refine xg_t (xg_iload (va := (0, pp)) rfl rfl) ?_
                refine xg_t (xg_dup2 rfl) ?_
                refine xg_ialdB (n := pp) (B := 4294967295) hr225 (xrb (by omega) (hb218)) xnm0 (by omega) (fun u230 hu231 he232 => ?_)
                refine xg_t (xg_const) ?_
                refine xg_k (xg_isub (u := u230) (v := 1) (z := (u230 + (4294967296 - 1)) % 4294967296) xnm0 xnm0 rfl) (Nat.mod_lt _ (by decide)) (fun z233 hz234 => ?_)
                refine xg_iastK (n := pp) (u := z233) hr225 xnm0 xnm0 rfl (by omega) (fun w235 hr236 hb237 => ?_)
                refine xg_t (xg_blk (b := [(89, 1, 2, 3, 0, 0), (90, 1, 15, 2, 0, 0), (91, 3, 8, 2, 0, 0)]) rfl) ?_
                refine xg_t (xg_iload (va := (0, u61)) rfl rfl) ?_
                refine xg_t (xg_istore (l1 := [(3, (0, u61)), (0, (2, 82)), (1, (0, en))]) rfl rfl rfl) ?_
                refine xg_t (xg_goto) ?_
                refine xg_t (xg_drop (l1 := [(0, (2, 82)), (1, (0, en)), (2, (0, u61))]) (List.forall_mem_cons.mpr ⟨List.mem_cons_of_mem _ (List.mem_cons_of_mem _ (List.mem_cons_self)), List.forall_mem_cons.mpr ⟨List.mem_cons_of_mem _ (List.mem_cons_of_mem _ (List.mem_cons_of_mem _ (List.mem_cons_self))), List.forall_mem_cons.mpr ⟨List.mem_cons_self, fun _ h => absurd h List.not_mem_nil⟩⟩⟩)) ?_
                exact ih40 u61 w235 (by omega) (by omega) (xMnv.up (S := [96]) hI43 ((xFr.of (S := [96]) hb226 (by decide)).tr (xFr.of (S := [96]) hb237 (by decide))) (List.forall_mem_cons.mpr ⟨(show cpI 36 63 4294967295 (wget w235 96) from ⟨_, hr236, xrb (by omega) (xrb (by omega) (hb218))⟩), fun _ h => absurd h List.not_mem_nil⟩)) ((hF44.tr ((xFr.of (S := [95, 96, 97]) hb226 (by decide)).tr (xFr.of (S := [95, 96, 97]) hb237 (by decide))))) (by omega)
              · refine xg_t (xg_icT (u := pp) (v := z227) rfl xnm0 xnm0 (xj_neT hc229)) ?_
                refine xg_t (xg_blk (b := [(89, 1, 2, 3, 0, 0), (90, 1, 15, 2, 0, 0), (91, 3, 8, 2, 0, 0)]) rfl) ?_
                refine xg_t (xg_iload (va := (0, u61)) rfl rfl) ?_
                refine xg_t (xg_istore (l1 := [(3, (0, u61)), (0, (2, 82)), (1, (0, en))]) rfl rfl rfl) ?_
                refine xg_t (xg_goto) ?_
                refine xg_t (xg_drop (l1 := [(0, (2, 82)), (1, (0, en)), (2, (0, u61))]) (List.forall_mem_cons.mpr ⟨List.mem_cons_of_mem _ (List.mem_cons_of_mem _ (List.mem_cons_self)), List.forall_mem_cons.mpr ⟨List.mem_cons_of_mem _ (List.mem_cons_of_mem _ (List.mem_cons_of_mem _ (List.mem_cons_self))), List.forall_mem_cons.mpr ⟨List.mem_cons_self, fun _ h => absurd h List.not_mem_nil⟩⟩⟩)) ?_
                exact ih40 u61 w224 (by omega) (by omega) (xMnv.up (S := [96]) hI43 (xFr.of (S := [96]) hb226 (by decide)) (List.forall_mem_cons.mpr ⟨(show cpI 36 63 4294967295 (wget w224 96) from ⟨_, hr225, xrb (by omega) (hb218)⟩), fun _ h => absurd h List.not_mem_nil⟩)) ((hF44.tr (xFr.of (S := [95, 96, 97]) hb226 (by decide)))) (by omega)
            · refine xg_t (xg_icT (u := pp) (v := u61 + 6) rfl xnm0 xnm0 (xj_neT hc215)) ?_
              refine xg_t (xg_blk (b := [(71, 1, 2, 2, 0, 0), (72, 1, 2, 3, 0, 0), (73, 2, 4, 6, 0, 0), (75, 1, 18, 0, 0, 0), (76, 3, 6, 89, 1, 0), (79, 1, 0, 0, 0, 0), (80, 3, 1, 12, 26, 51), (83, 1, 2, 2, 0, 0), (84, 1, 39, 0, 0, 0), (85, 1, 10, 0, 0, 0), (86, 1, 3, 1, 0, 0), (87, 1, 18, 0, 0, 0), (88, 1, 17, 0, 0, 0)]) rfl) ?_
              refine xg_t (xg_iload (va := (0, pp)) rfl rfl) ?_
              refine xg_t (xg_iload (va := (0, u61)) rfl rfl) ?_
              refine xg_t (xg_bip) ?_
              refine xg_k (xg_isub (u := u61) (v := 6) (z := (u61 + (4294967296 - 6)) % 4294967296) xnm0 xnm0 rfl) (Nat.mod_lt _ (by decide)) (fun z238 hz239 => ?_)
              by_cases hc240 : pp = z238
              · refine xg_t (xg_icF (u := pp) (v := z238) rfl xnm0 xnm0 (xj_neF hc240)) ?_
                refine xg_t (xg_aload (va := (2, 82)) rfl rfl) ?_
                refine xg_t (xg_getf (va := (2, 96)) (hF44.get (by decide) h82_31) rfl) ?_
                refine xg_t (xg_iload (va := (0, pp)) rfl rfl) ?_
                refine xg_t (xg_dup2 rfl) ?_
                refine xoI (hI43 96 (by decide) (by decide) : cpI 36 63 4294967295 (wget w42 96)) (fun g96_241 h96_242 hb243 => ?_)
                refine xg_ialdB (n := pp) (B := 4294967295) h96_242 (hb243) xnm0 (by omega) (fun u244 hu245 he246 => ?_)
                refine xg_t (xg_const) ?_
                refine xg_k (xg_isub (u := u244) (v := 1) (z := (u244 + (4294967296 - 1)) % 4294967296) xnm0 xnm0 rfl) (Nat.mod_lt _ (by decide)) (fun z247 hz248 => ?_)
                refine xg_iastK (n := pp) (u := z247) h96_242 xnm0 xnm0 rfl (by omega) (fun w249 hr250 hb251 => ?_)
                refine xg_t (xg_blk (b := [(89, 1, 2, 3, 0, 0), (90, 1, 15, 2, 0, 0), (91, 3, 8, 2, 0, 0)]) rfl) ?_
                refine xg_t (xg_iload (va := (0, u61)) rfl rfl) ?_
                refine xg_t (xg_istore (l1 := [(3, (0, u61)), (0, (2, 82)), (1, (0, en))]) rfl rfl rfl) ?_
                refine xg_t (xg_goto) ?_
                refine xg_t (xg_drop (l1 := [(0, (2, 82)), (1, (0, en)), (2, (0, u61))]) (List.forall_mem_cons.mpr ⟨List.mem_cons_of_mem _ (List.mem_cons_of_mem _ (List.mem_cons_self)), List.forall_mem_cons.mpr ⟨List.mem_cons_of_mem _ (List.mem_cons_of_mem _ (List.mem_cons_of_mem _ (List.mem_cons_self))), List.forall_mem_cons.mpr ⟨List.mem_cons_self, fun _ h => absurd h List.not_mem_nil⟩⟩⟩)) ?_
                exact ih40 u61 w249 (by omega) (by omega) (xMnv.up (S := [96]) hI43 (xFr.of (S := [96]) hb251 (by decide)) (List.forall_mem_cons.mpr ⟨(show cpI 36 63 4294967295 (wget w249 96) from ⟨_, hr250, xrb (by omega) (hb243)⟩), fun _ h => absurd h List.not_mem_nil⟩)) ((hF44.tr (xFr.of (S := [95, 96, 97]) hb251 (by decide)))) (by omega)
              · refine xg_t (xg_icT (u := pp) (v := z238) rfl xnm0 xnm0 (xj_neT hc240)) ?_
                refine xg_t (xg_blk (b := [(89, 1, 2, 3, 0, 0), (90, 1, 15, 2, 0, 0), (91, 3, 8, 2, 0, 0)]) rfl) ?_
                refine xg_t (xg_iload (va := (0, u61)) rfl rfl) ?_
                refine xg_t (xg_istore (l1 := [(3, (0, u61)), (0, (2, 82)), (1, (0, en))]) rfl rfl rfl) ?_
                refine xg_t (xg_goto) ?_
                refine xg_t (xg_drop (l1 := [(0, (2, 82)), (1, (0, en)), (2, (0, u61))]) (List.forall_mem_cons.mpr ⟨List.mem_cons_of_mem _ (List.mem_cons_of_mem _ (List.mem_cons_self)), List.forall_mem_cons.mpr ⟨List.mem_cons_of_mem _ (List.mem_cons_of_mem _ (List.mem_cons_of_mem _ (List.mem_cons_self))), List.forall_mem_cons.mpr ⟨List.mem_cons_self, fun _ h => absurd h List.not_mem_nil⟩⟩⟩)) ?_
                exact ih40 u61 w42 (by omega) (by omega) (hI43) (hF44) (by omega)
  exact key39 _ en w (Nat.lt_succ_self _) (by omega) (hI) (xFr.rf) (by omega)
end XM3
